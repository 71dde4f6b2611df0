section
-- ===== PART A: goes FIRST, ahead of the names: the tables' words, and 'selects' of the private methods out of them =====
/-- a private method of a class that the tables say can be made, by its rows of tables_1 -/
def lw_okq (q : MethodName × Nat) : Prop := (q.1.cls ≠ "java/lang/invoke/MethodHandle" ∧ q.1.cls ≠ "java/lang/invoke/VarHandle") ∧ Cond.instantiable q.1.cls q.2 ∈ tables_1 ∧ Cond.privateMethod q.1 ∈ tables_1 ∧ Cond.instanceMethod q.1 ∈ tables_1
theorem lw_p0 : lw_okq (⟨"SnowRecorder", "putBytes", "(I)V"⟩, 14) := ⟨⟨by decide +kernel, by decide +kernel⟩, List.mem_of_getElem? (i := 30) (by decide +kernel), List.mem_of_getElem? (i := 397) (by decide +kernel), List.mem_of_getElem? (i := 398) (by decide +kernel)⟩
theorem lw_p1 : lw_okq (⟨"SnowRecorder", "refuse", "(I)I"⟩, 14) := ⟨⟨by decide +kernel, by decide +kernel⟩, List.mem_of_getElem? (i := 30) (by decide +kernel), List.mem_of_getElem? (i := 409) (by decide +kernel), List.mem_of_getElem? (i := 410) (by decide +kernel)⟩
theorem lw_p2 : lw_okq (⟨"SnowRecorder$State", "forgetOldest", "()V"⟩, 6) := ⟨⟨by decide +kernel, by decide +kernel⟩, List.mem_of_getElem? (i := 136) (by decide +kernel), List.mem_of_getElem? (i := 417) (by decide +kernel), List.mem_of_getElem? (i := 418) (by decide +kernel)⟩
theorem lw_p3 : lw_okq (⟨"SnowRecorder$Pack", "freeze", "(I)V"⟩, 3) := ⟨⟨by decide +kernel, by decide +kernel⟩, List.mem_of_getElem? (i := 149) (by decide +kernel), List.mem_of_getElem? (i := 498) (by decide +kernel), List.mem_of_getElem? (i := 499) (by decide +kernel)⟩
theorem lw_p4 : lw_okq (⟨"SnowRecorder$Pack", "nextKind", "(II)I"⟩, 3) := ⟨⟨by decide +kernel, by decide +kernel⟩, List.mem_of_getElem? (i := 149) (by decide +kernel), List.mem_of_getElem? (i := 530) (by decide +kernel), List.mem_of_getElem? (i := 531) (by decide +kernel)⟩
theorem lw_p5 : lw_okq (⟨"SnowRecorder", "isSlope", "(I)Z"⟩, 14) := ⟨⟨by decide +kernel, by decide +kernel⟩, List.mem_of_getElem? (i := 30) (by decide +kernel), List.mem_of_getElem? (i := 538) (by decide +kernel), List.mem_of_getElem? (i := 539) (by decide +kernel)⟩
theorem lw_p6 : lw_okq (⟨"SnowRecorder", "comesByHand", "(II)Z"⟩, 14) := ⟨⟨by decide +kernel, by decide +kernel⟩, List.mem_of_getElem? (i := 30) (by decide +kernel), List.mem_of_getElem? (i := 542) (by decide +kernel), List.mem_of_getElem? (i := 543) (by decide +kernel)⟩
theorem lw_p7 : lw_okq (⟨"SnowRecorder", "isUnstable", "(LSnowRecorder$World;I)Z"⟩, 14) := ⟨⟨by decide +kernel, by decide +kernel⟩, List.mem_of_getElem? (i := 30) (by decide +kernel), List.mem_of_getElem? (i := 561) (by decide +kernel), List.mem_of_getElem? (i := 562) (by decide +kernel)⟩
theorem lw_p8 : lw_okq (⟨"java/lang/Throwable", "fillInStackTrace", "(I)Ljava/lang/Throwable;"⟩, 6) := ⟨⟨by decide +kernel, by decide +kernel⟩, List.mem_of_getElem? (i := 696) (by decide +kernel), List.mem_of_getElem? (i := 694) (by decide +kernel), List.mem_of_getElem? (i := 695) (by decide +kernel)⟩
theorem lw_p9 : lw_okq (⟨"SnowRecorder$TextReader", "peek", "()V"⟩, 9) := ⟨⟨by decide +kernel, by decide +kernel⟩, List.mem_of_getElem? (i := 38) (by decide +kernel), List.mem_of_getElem? (i := 743) (by decide +kernel), List.mem_of_getElem? (i := 744) (by decide +kernel)⟩
theorem lw_p10 : lw_okq (⟨"SnowRecorder$TextReader", "readClause", "(LSnowRecorder$Plan;LSnowRecorder$World;)V"⟩, 9) := ⟨⟨by decide +kernel, by decide +kernel⟩, List.mem_of_getElem? (i := 38) (by decide +kernel), List.mem_of_getElem? (i := 750) (by decide +kernel), List.mem_of_getElem? (i := 751) (by decide +kernel)⟩
theorem lw_p11 : lw_okq (⟨"SnowRecorder$TextReader", "is", "(Ljava/lang/String;)Z"⟩, 9) := ⟨⟨by decide +kernel, by decide +kernel⟩, List.mem_of_getElem? (i := 38) (by decide +kernel), List.mem_of_getElem? (i := 755) (by decide +kernel), List.mem_of_getElem? (i := 756) (by decide +kernel)⟩
theorem lw_p12 : lw_okq (⟨"SnowRecorder$TextReader", "readSlope", "(LSnowRecorder$Plan;)V"⟩, 9) := ⟨⟨by decide +kernel, by decide +kernel⟩, List.mem_of_getElem? (i := 38) (by decide +kernel), List.mem_of_getElem? (i := 806) (by decide +kernel), List.mem_of_getElem? (i := 807) (by decide +kernel)⟩
theorem lw_p13 : lw_okq (⟨"SnowRecorder$TextReader", "fail", "(II)V"⟩, 9) := ⟨⟨by decide +kernel, by decide +kernel⟩, List.mem_of_getElem? (i := 38) (by decide +kernel), List.mem_of_getElem? (i := 810) (by decide +kernel), List.mem_of_getElem? (i := 811) (by decide +kernel)⟩
theorem lw_p14 : lw_okq (⟨"SnowRecorder$TextReader", "take", "()V"⟩, 9) := ⟨⟨by decide +kernel, by decide +kernel⟩, List.mem_of_getElem? (i := 38) (by decide +kernel), List.mem_of_getElem? (i := 814) (by decide +kernel), List.mem_of_getElem? (i := 815) (by decide +kernel)⟩
theorem lw_p15 : lw_okq (⟨"SnowRecorder$TextReader", "number", "(II)I"⟩, 9) := ⟨⟨by decide +kernel, by decide +kernel⟩, List.mem_of_getElem? (i := 38) (by decide +kernel), List.mem_of_getElem? (i := 818) (by decide +kernel), List.mem_of_getElem? (i := 819) (by decide +kernel)⟩
def lw_privs_1 : List (MethodName × Nat) := [(⟨"SnowRecorder", "putBytes", "(I)V"⟩, 14), (⟨"SnowRecorder", "refuse", "(I)I"⟩, 14), (⟨"SnowRecorder$State", "forgetOldest", "()V"⟩, 6), (⟨"SnowRecorder$Pack", "freeze", "(I)V"⟩, 3), (⟨"SnowRecorder$Pack", "nextKind", "(II)I"⟩, 3), (⟨"SnowRecorder", "isSlope", "(I)Z"⟩, 14), (⟨"SnowRecorder", "comesByHand", "(II)Z"⟩, 14), (⟨"SnowRecorder", "isUnstable", "(LSnowRecorder$World;I)Z"⟩, 14), (⟨"java/lang/Throwable", "fillInStackTrace", "(I)Ljava/lang/Throwable;"⟩, 6), (⟨"SnowRecorder$TextReader", "peek", "()V"⟩, 9), (⟨"SnowRecorder$TextReader", "readClause", "(LSnowRecorder$Plan;LSnowRecorder$World;)V"⟩, 9), (⟨"SnowRecorder$TextReader", "is", "(Ljava/lang/String;)Z"⟩, 9), (⟨"SnowRecorder$TextReader", "readSlope", "(LSnowRecorder$Plan;)V"⟩, 9), (⟨"SnowRecorder$TextReader", "fail", "(II)V"⟩, 9), (⟨"SnowRecorder$TextReader", "take", "()V"⟩, 9), (⟨"SnowRecorder$TextReader", "number", "(II)I"⟩, 9)]
theorem lw_r1 : ∀ q ∈ lw_privs_1, lw_okq q := List.forall_mem_cons.mpr ⟨lw_p0, List.forall_mem_cons.mpr ⟨lw_p1, List.forall_mem_cons.mpr ⟨lw_p2, List.forall_mem_cons.mpr ⟨lw_p3, List.forall_mem_cons.mpr ⟨lw_p4, List.forall_mem_cons.mpr ⟨lw_p5, List.forall_mem_cons.mpr ⟨lw_p6, List.forall_mem_cons.mpr ⟨lw_p7, List.forall_mem_cons.mpr ⟨lw_p8, List.forall_mem_cons.mpr ⟨lw_p9, List.forall_mem_cons.mpr ⟨lw_p10, List.forall_mem_cons.mpr ⟨lw_p11, List.forall_mem_cons.mpr ⟨lw_p12, List.forall_mem_cons.mpr ⟨lw_p13, List.forall_mem_cons.mpr ⟨lw_p14, List.forall_mem_cons.mpr ⟨lw_p15, fun _ h => absurd h List.not_mem_nil⟩⟩⟩⟩⟩⟩⟩⟩⟩⟩⟩⟩⟩⟩⟩⟩
theorem lw_p16 : lw_okq (⟨"SnowRecorder$TextReader", "close", "()V"⟩, 9) := ⟨⟨by decide +kernel, by decide +kernel⟩, List.mem_of_getElem? (i := 38) (by decide +kernel), List.mem_of_getElem? (i := 822) (by decide +kernel), List.mem_of_getElem? (i := 823) (by decide +kernel)⟩
theorem lw_p17 : lw_okq (⟨"SnowRecorder$TextReader", "readLayer", "(LSnowRecorder$Plan;LSnowRecorder$World;)V"⟩, 9) := ⟨⟨by decide +kernel, by decide +kernel⟩, List.mem_of_getElem? (i := 38) (by decide +kernel), List.mem_of_getElem? (i := 827) (by decide +kernel), List.mem_of_getElem? (i := 828) (by decide +kernel)⟩
theorem lw_p18 : lw_okq (⟨"SnowRecorder$TextReader", "kind", "()I"⟩, 9) := ⟨⟨by decide +kernel, by decide +kernel⟩, List.mem_of_getElem? (i := 38) (by decide +kernel), List.mem_of_getElem? (i := 831) (by decide +kernel), List.mem_of_getElem? (i := 832) (by decide +kernel)⟩
theorem lw_p19 : lw_okq (⟨"SnowRecorder$TextReader", "readHour", "(LSnowRecorder$Plan;)V"⟩, 9) := ⟨⟨by decide +kernel, by decide +kernel⟩, List.mem_of_getElem? (i := 38) (by decide +kernel), List.mem_of_getElem? (i := 845) (by decide +kernel), List.mem_of_getElem? (i := 846) (by decide +kernel)⟩
theorem lw_p20 : lw_okq (⟨"SnowRecorder$TextReader", "readFall", "()I"⟩, 9) := ⟨⟨by decide +kernel, by decide +kernel⟩, List.mem_of_getElem? (i := 38) (by decide +kernel), List.mem_of_getElem? (i := 849) (by decide +kernel), List.mem_of_getElem? (i := 850) (by decide +kernel)⟩
theorem lw_p21 : lw_okq (⟨"SnowRecorder$TextReader", "readTable", "(LSnowRecorder$Plan;III)V"⟩, 9) := ⟨⟨by decide +kernel, by decide +kernel⟩, List.mem_of_getElem? (i := 38) (by decide +kernel), List.mem_of_getElem? (i := 857) (by decide +kernel), List.mem_of_getElem? (i := 858) (by decide +kernel)⟩
theorem lw_p22 : lw_okq (⟨"SnowRecorder", "worst", "()I"⟩, 14) := ⟨⟨by decide +kernel, by decide +kernel⟩, List.mem_of_getElem? (i := 30) (by decide +kernel), List.mem_of_getElem? (i := 895) (by decide +kernel), List.mem_of_getElem? (i := 896) (by decide +kernel)⟩
theorem lw_p23 : lw_okq (⟨"SnowRecorder", "packOf", "(I)LSnowRecorder$Pack;"⟩, 14) := ⟨⟨by decide +kernel, by decide +kernel⟩, List.mem_of_getElem? (i := 30) (by decide +kernel), List.mem_of_getElem? (i := 937) (by decide +kernel), List.mem_of_getElem? (i := 938) (by decide +kernel)⟩
theorem lw_p24 : lw_okq (⟨"SnowRecorder", "needSlope", "(I)V"⟩, 14) := ⟨⟨by decide +kernel, by decide +kernel⟩, List.mem_of_getElem? (i := 30) (by decide +kernel), List.mem_of_getElem? (i := 941) (by decide +kernel), List.mem_of_getElem? (i := 942) (by decide +kernel)⟩
theorem lw_p25 : lw_okq (⟨"SnowRecorder", "needLayer", "(LSnowRecorder$Pack;I)V"⟩, 14) := ⟨⟨by decide +kernel, by decide +kernel⟩, List.mem_of_getElem? (i := 30) (by decide +kernel), List.mem_of_getElem? (i := 956) (by decide +kernel), List.mem_of_getElem? (i := 957) (by decide +kernel)⟩
theorem lw_p26 : lw_okq (⟨"SnowRecorder", "writeLine", "(LSnowRecorder$Pack;I)V"⟩, 14) := ⟨⟨by decide +kernel, by decide +kernel⟩, List.mem_of_getElem? (i := 30) (by decide +kernel), List.mem_of_getElem? (i := 975) (by decide +kernel), List.mem_of_getElem? (i := 976) (by decide +kernel)⟩
theorem lw_p27 : lw_okq (⟨"SnowRecorder", "isOnceUnstable", "(II)Z"⟩, 14) := ⟨⟨by decide +kernel, by decide +kernel⟩, List.mem_of_getElem? (i := 30) (by decide +kernel), List.mem_of_getElem? (i := 1294) (by decide +kernel), List.mem_of_getElem? (i := 1295) (by decide +kernel)⟩
theorem lw_p28 : lw_okq (⟨"SnowRecorder", "otherRatio", "(II)I"⟩, 14) := ⟨⟨by decide +kernel, by decide +kernel⟩, List.mem_of_getElem? (i := 30) (by decide +kernel), List.mem_of_getElem? (i := 1305) (by decide +kernel), List.mem_of_getElem? (i := 1306) (by decide +kernel)⟩
theorem lw_p29 : lw_okq (⟨"SnowRecorder", "needPit", "(I)V"⟩, 14) := ⟨⟨by decide +kernel, by decide +kernel⟩, List.mem_of_getElem? (i := 30) (by decide +kernel), List.mem_of_getElem? (i := 1317) (by decide +kernel), List.mem_of_getElem? (i := 1318) (by decide +kernel)⟩
theorem lw_p30 : lw_okq (⟨"SnowRecorder", "isSameWeakest", "(LSnowRecorder$Pit;LSnowRecorder$Pit;)Z"⟩, 14) := ⟨⟨by decide +kernel, by decide +kernel⟩, List.mem_of_getElem? (i := 30) (by decide +kernel), List.mem_of_getElem? (i := 1345) (by decide +kernel), List.mem_of_getElem? (i := 1346) (by decide +kernel)⟩
theorem lw_p31 : lw_okq (⟨"SnowRecorder", "isNotedSo", "(LSnowRecorder$World;LSnowRecorder$Plan;III)Z"⟩, 14) := ⟨⟨by decide +kernel, by decide +kernel⟩, List.mem_of_getElem? (i := 30) (by decide +kernel), List.mem_of_getElem? (i := 1369) (by decide +kernel), List.mem_of_getElem? (i := 1370) (by decide +kernel)⟩
def lw_privs_2 : List (MethodName × Nat) := [(⟨"SnowRecorder$TextReader", "close", "()V"⟩, 9), (⟨"SnowRecorder$TextReader", "readLayer", "(LSnowRecorder$Plan;LSnowRecorder$World;)V"⟩, 9), (⟨"SnowRecorder$TextReader", "kind", "()I"⟩, 9), (⟨"SnowRecorder$TextReader", "readHour", "(LSnowRecorder$Plan;)V"⟩, 9), (⟨"SnowRecorder$TextReader", "readFall", "()I"⟩, 9), (⟨"SnowRecorder$TextReader", "readTable", "(LSnowRecorder$Plan;III)V"⟩, 9), (⟨"SnowRecorder", "worst", "()I"⟩, 14), (⟨"SnowRecorder", "packOf", "(I)LSnowRecorder$Pack;"⟩, 14), (⟨"SnowRecorder", "needSlope", "(I)V"⟩, 14), (⟨"SnowRecorder", "needLayer", "(LSnowRecorder$Pack;I)V"⟩, 14), (⟨"SnowRecorder", "writeLine", "(LSnowRecorder$Pack;I)V"⟩, 14), (⟨"SnowRecorder", "isOnceUnstable", "(II)Z"⟩, 14), (⟨"SnowRecorder", "otherRatio", "(II)I"⟩, 14), (⟨"SnowRecorder", "needPit", "(I)V"⟩, 14), (⟨"SnowRecorder", "isSameWeakest", "(LSnowRecorder$Pit;LSnowRecorder$Pit;)Z"⟩, 14), (⟨"SnowRecorder", "isNotedSo", "(LSnowRecorder$World;LSnowRecorder$Plan;III)Z"⟩, 14)]
theorem lw_r2 : ∀ q ∈ lw_privs_2, lw_okq q := List.forall_mem_cons.mpr ⟨lw_p16, List.forall_mem_cons.mpr ⟨lw_p17, List.forall_mem_cons.mpr ⟨lw_p18, List.forall_mem_cons.mpr ⟨lw_p19, List.forall_mem_cons.mpr ⟨lw_p20, List.forall_mem_cons.mpr ⟨lw_p21, List.forall_mem_cons.mpr ⟨lw_p22, List.forall_mem_cons.mpr ⟨lw_p23, List.forall_mem_cons.mpr ⟨lw_p24, List.forall_mem_cons.mpr ⟨lw_p25, List.forall_mem_cons.mpr ⟨lw_p26, List.forall_mem_cons.mpr ⟨lw_p27, List.forall_mem_cons.mpr ⟨lw_p28, List.forall_mem_cons.mpr ⟨lw_p29, List.forall_mem_cons.mpr ⟨lw_p30, List.forall_mem_cons.mpr ⟨lw_p31, fun _ h => absurd h List.not_mem_nil⟩⟩⟩⟩⟩⟩⟩⟩⟩⟩⟩⟩⟩⟩⟩⟩
theorem lw_p32 : lw_okq (⟨"SnowRecorder", "guessFalls", "(Z)V"⟩, 14) := ⟨⟨by decide +kernel, by decide +kernel⟩, List.mem_of_getElem? (i := 30) (by decide +kernel), List.mem_of_getElem? (i := 1373) (by decide +kernel), List.mem_of_getElem? (i := 1374) (by decide +kernel)⟩
theorem lw_p33 : lw_okq (⟨"SnowRecorder", "guessMuch", "(IIZ)V"⟩, 14) := ⟨⟨by decide +kernel, by decide +kernel⟩, List.mem_of_getElem? (i := 30) (by decide +kernel), List.mem_of_getElem? (i := 1382) (by decide +kernel), List.mem_of_getElem? (i := 1383) (by decide +kernel)⟩
theorem lw_p34 : lw_okq (⟨"SnowRecorder", "lookFrom", "(I)V"⟩, 14) := ⟨⟨by decide +kernel, by decide +kernel⟩, List.mem_of_getElem? (i := 30) (by decide +kernel), List.mem_of_getElem? (i := 1394) (by decide +kernel), List.mem_of_getElem? (i := 1395) (by decide +kernel)⟩
theorem lw_p35 : lw_okq (⟨"SnowRecorder", "weightOf", "(III)I"⟩, 14) := ⟨⟨by decide +kernel, by decide +kernel⟩, List.mem_of_getElem? (i := 30) (by decide +kernel), List.mem_of_getElem? (i := 1417) (by decide +kernel), List.mem_of_getElem? (i := 1418) (by decide +kernel)⟩
theorem lw_p36 : lw_okq (⟨"SnowRecorder", "isUnstableWithout", "(III)Z"⟩, 14) := ⟨⟨by decide +kernel, by decide +kernel⟩, List.mem_of_getElem? (i := 30) (by decide +kernel), List.mem_of_getElem? (i := 1422) (by decide +kernel), List.mem_of_getElem? (i := 1423) (by decide +kernel)⟩
theorem lw_p37 : lw_okq (⟨"SnowRecorder", "yearGoesBy", "(I)I"⟩, 14) := ⟨⟨by decide +kernel, by decide +kernel⟩, List.mem_of_getElem? (i := 30) (by decide +kernel), List.mem_of_getElem? (i := 1434) (by decide +kernel), List.mem_of_getElem? (i := 1435) (by decide +kernel)⟩
theorem lw_p38 : lw_okq (⟨"SnowRecorder", "slideAll", "()V"⟩, 14) := ⟨⟨by decide +kernel, by decide +kernel⟩, List.mem_of_getElem? (i := 30) (by decide +kernel), List.mem_of_getElem? (i := 1446) (by decide +kernel), List.mem_of_getElem? (i := 1447) (by decide +kernel)⟩
theorem lw_p39 : lw_okq (⟨"SnowRecorderModel", "laysTable", "()V"⟩, 60) := ⟨⟨by decide +kernel, by decide +kernel⟩, List.mem_of_getElem? (i := 1450) (by decide +kernel), List.mem_of_getElem? (i := 1456) (by decide +kernel), List.mem_of_getElem? (i := 1457) (by decide +kernel)⟩
theorem lw_p40 : lw_okq (⟨"SnowRecorderModel", "right", "(ZI)Z"⟩, 60) := ⟨⟨by decide +kernel, by decide +kernel⟩, List.mem_of_getElem? (i := 1450) (by decide +kernel), List.mem_of_getElem? (i := 1653) (by decide +kernel), List.mem_of_getElem? (i := 1654) (by decide +kernel)⟩
theorem lw_p41 : lw_okq (⟨"SnowRecorderModel", "go", "()V"⟩, 60) := ⟨⟨by decide +kernel, by decide +kernel⟩, List.mem_of_getElem? (i := 1450) (by decide +kernel), List.mem_of_getElem? (i := 1657) (by decide +kernel), List.mem_of_getElem? (i := 1658) (by decide +kernel)⟩
theorem lw_p42 : lw_okq (⟨"SnowRecorderModel", "byteAt", "(I)I"⟩, 60) := ⟨⟨by decide +kernel, by decide +kernel⟩, List.mem_of_getElem? (i := 1450) (by decide +kernel), List.mem_of_getElem? (i := 1661) (by decide +kernel), List.mem_of_getElem? (i := 1662) (by decide +kernel)⟩
theorem lw_p43 : lw_okq (⟨"SnowRecorderModel", "wordFrom", "(II)I"⟩, 60) := ⟨⟨by decide +kernel, by decide +kernel⟩, List.mem_of_getElem? (i := 1450) (by decide +kernel), List.mem_of_getElem? (i := 1668) (by decide +kernel), List.mem_of_getElem? (i := 1669) (by decide +kernel)⟩
theorem lw_p44 : lw_okq (⟨"SnowRecorderModel", "clause1", "()V"⟩, 60) := ⟨⟨by decide +kernel, by decide +kernel⟩, List.mem_of_getElem? (i := 1450) (by decide +kernel), List.mem_of_getElem? (i := 1675) (by decide +kernel), List.mem_of_getElem? (i := 1676) (by decide +kernel)⟩
theorem lw_p45 : lw_okq (⟨"SnowRecorderModel", "slope1", "()V"⟩, 60) := ⟨⟨by decide +kernel, by decide +kernel⟩, List.mem_of_getElem? (i := 1450) (by decide +kernel), List.mem_of_getElem? (i := 1679) (by decide +kernel), List.mem_of_getElem? (i := 1680) (by decide +kernel)⟩
theorem lw_p46 : lw_okq (⟨"SnowRecorderModel", "wants", "(ZI)Z"⟩, 60) := ⟨⟨by decide +kernel, by decide +kernel⟩, List.mem_of_getElem? (i := 1450) (by decide +kernel), List.mem_of_getElem? (i := 1683) (by decide +kernel), List.mem_of_getElem? (i := 1684) (by decide +kernel)⟩
theorem lw_p47 : lw_okq (⟨"SnowRecorderModel", "number", "(II)I"⟩, 60) := ⟨⟨by decide +kernel, by decide +kernel⟩, List.mem_of_getElem? (i := 1450) (by decide +kernel), List.mem_of_getElem? (i := 1687) (by decide +kernel), List.mem_of_getElem? (i := 1688) (by decide +kernel)⟩
def lw_privs_3 : List (MethodName × Nat) := [(⟨"SnowRecorder", "guessFalls", "(Z)V"⟩, 14), (⟨"SnowRecorder", "guessMuch", "(IIZ)V"⟩, 14), (⟨"SnowRecorder", "lookFrom", "(I)V"⟩, 14), (⟨"SnowRecorder", "weightOf", "(III)I"⟩, 14), (⟨"SnowRecorder", "isUnstableWithout", "(III)Z"⟩, 14), (⟨"SnowRecorder", "yearGoesBy", "(I)I"⟩, 14), (⟨"SnowRecorder", "slideAll", "()V"⟩, 14), (⟨"SnowRecorderModel", "laysTable", "()V"⟩, 60), (⟨"SnowRecorderModel", "right", "(ZI)Z"⟩, 60), (⟨"SnowRecorderModel", "go", "()V"⟩, 60), (⟨"SnowRecorderModel", "byteAt", "(I)I"⟩, 60), (⟨"SnowRecorderModel", "wordFrom", "(II)I"⟩, 60), (⟨"SnowRecorderModel", "clause1", "()V"⟩, 60), (⟨"SnowRecorderModel", "slope1", "()V"⟩, 60), (⟨"SnowRecorderModel", "wants", "(ZI)Z"⟩, 60), (⟨"SnowRecorderModel", "number", "(II)I"⟩, 60)]
theorem lw_r3 : ∀ q ∈ lw_privs_3, lw_okq q := List.forall_mem_cons.mpr ⟨lw_p32, List.forall_mem_cons.mpr ⟨lw_p33, List.forall_mem_cons.mpr ⟨lw_p34, List.forall_mem_cons.mpr ⟨lw_p35, List.forall_mem_cons.mpr ⟨lw_p36, List.forall_mem_cons.mpr ⟨lw_p37, List.forall_mem_cons.mpr ⟨lw_p38, List.forall_mem_cons.mpr ⟨lw_p39, List.forall_mem_cons.mpr ⟨lw_p40, List.forall_mem_cons.mpr ⟨lw_p41, List.forall_mem_cons.mpr ⟨lw_p42, List.forall_mem_cons.mpr ⟨lw_p43, List.forall_mem_cons.mpr ⟨lw_p44, List.forall_mem_cons.mpr ⟨lw_p45, List.forall_mem_cons.mpr ⟨lw_p46, List.forall_mem_cons.mpr ⟨lw_p47, fun _ h => absurd h List.not_mem_nil⟩⟩⟩⟩⟩⟩⟩⟩⟩⟩⟩⟩⟩⟩⟩⟩
theorem lw_p48 : lw_okq (⟨"SnowRecorderModel", "layer1", "()V"⟩, 60) := ⟨⟨by decide +kernel, by decide +kernel⟩, List.mem_of_getElem? (i := 1450) (by decide +kernel), List.mem_of_getElem? (i := 1694) (by decide +kernel), List.mem_of_getElem? (i := 1695) (by decide +kernel)⟩
theorem lw_p49 : lw_okq (⟨"SnowRecorderModel", "isKind", "()Z"⟩, 60) := ⟨⟨by decide +kernel, by decide +kernel⟩, List.mem_of_getElem? (i := 1450) (by decide +kernel), List.mem_of_getElem? (i := 1698) (by decide +kernel), List.mem_of_getElem? (i := 1699) (by decide +kernel)⟩
theorem lw_p50 : lw_okq (⟨"SnowRecorderModel", "kindHere", "()I"⟩, 60) := ⟨⟨by decide +kernel, by decide +kernel⟩, List.mem_of_getElem? (i := 1450) (by decide +kernel), List.mem_of_getElem? (i := 1702) (by decide +kernel), List.mem_of_getElem? (i := 1703) (by decide +kernel)⟩
theorem lw_p51 : lw_okq (⟨"SnowRecorderModel", "hour1", "()V"⟩, 60) := ⟨⟨by decide +kernel, by decide +kernel⟩, List.mem_of_getElem? (i := 1450) (by decide +kernel), List.mem_of_getElem? (i := 1706) (by decide +kernel), List.mem_of_getElem? (i := 1707) (by decide +kernel)⟩
theorem lw_p52 : lw_okq (⟨"SnowRecorderModel", "is", "(I)Z"⟩, 60) := ⟨⟨by decide +kernel, by decide +kernel⟩, List.mem_of_getElem? (i := 1450) (by decide +kernel), List.mem_of_getElem? (i := 1710) (by decide +kernel), List.mem_of_getElem? (i := 1711) (by decide +kernel)⟩
theorem lw_p53 : lw_okq (⟨"SnowRecorderModel", "table1", "()V"⟩, 60) := ⟨⟨by decide +kernel, by decide +kernel⟩, List.mem_of_getElem? (i := 1450) (by decide +kernel), List.mem_of_getElem? (i := 1714) (by decide +kernel), List.mem_of_getElem? (i := 1715) (by decide +kernel)⟩
theorem lw_p54 : lw_okq (⟨"SnowRecorderModel", "becomes", "()V"⟩, 60) := ⟨⟨by decide +kernel, by decide +kernel⟩, List.mem_of_getElem? (i := 1450) (by decide +kernel), List.mem_of_getElem? (i := 1718) (by decide +kernel), List.mem_of_getElem? (i := 1719) (by decide +kernel)⟩
theorem lw_p55 : lw_okq (⟨"SnowRecorderModel", "setsMany", "(III)V"⟩, 60) := ⟨⟨by decide +kernel, by decide +kernel⟩, List.mem_of_getElem? (i := 1450) (by decide +kernel), List.mem_of_getElem? (i := 1722) (by decide +kernel), List.mem_of_getElem? (i := 1723) (by decide +kernel)⟩
theorem lw_p56 : lw_okq (⟨"SnowRecorderModel", "allLayers", "()I"⟩, 60) := ⟨⟨by decide +kernel, by decide +kernel⟩, List.mem_of_getElem? (i := 1450) (by decide +kernel), List.mem_of_getElem? (i := 1734) (by decide +kernel), List.mem_of_getElem? (i := 1735) (by decide +kernel)⟩
theorem lw_p57 : lw_okq (⟨"SnowRecorderModel", "many", "(II)I"⟩, 60) := ⟨⟨by decide +kernel, by decide +kernel⟩, List.mem_of_getElem? (i := 1450) (by decide +kernel), List.mem_of_getElem? (i := 1738) (by decide +kernel), List.mem_of_getElem? (i := 1739) (by decide +kernel)⟩
theorem lw_p58 : lw_okq (⟨"SnowRecorderModel", "allRunoff", "()I"⟩, 60) := ⟨⟨by decide +kernel, by decide +kernel⟩, List.mem_of_getElem? (i := 1450) (by decide +kernel), List.mem_of_getElem? (i := 1742) (by decide +kernel), List.mem_of_getElem? (i := 1743) (by decide +kernel)⟩
theorem lw_p59 : lw_okq (⟨"SnowRecorderModel", "allWeight", "()I"⟩, 60) := ⟨⟨by decide +kernel, by decide +kernel⟩, List.mem_of_getElem? (i := 1450) (by decide +kernel), List.mem_of_getElem? (i := 1746) (by decide +kernel), List.mem_of_getElem? (i := 1747) (by decide +kernel)⟩
theorem lw_p60 : lw_okq (⟨"SnowRecorderModel", "sum", "(III)I"⟩, 60) := ⟨⟨by decide +kernel, by decide +kernel⟩, List.mem_of_getElem? (i := 1450) (by decide +kernel), List.mem_of_getElem? (i := 1750) (by decide +kernel), List.mem_of_getElem? (i := 1751) (by decide +kernel)⟩
theorem lw_p61 : lw_okq (⟨"SnowRecorderModel", "of", "(IIII)I"⟩, 60) := ⟨⟨by decide +kernel, by decide +kernel⟩, List.mem_of_getElem? (i := 1450) (by decide +kernel), List.mem_of_getElem? (i := 1754) (by decide +kernel), List.mem_of_getElem? (i := 1755) (by decide +kernel)⟩
theorem lw_p62 : lw_okq (⟨"SnowRecorderModel", "worst", "()I"⟩, 60) := ⟨⟨by decide +kernel, by decide +kernel⟩, List.mem_of_getElem? (i := 1450) (by decide +kernel), List.mem_of_getElem? (i := 1761) (by decide +kernel), List.mem_of_getElem? (i := 1762) (by decide +kernel)⟩
theorem lw_p63 : lw_okq (⟨"SnowRecorderModel", "leastRatio", "(II)I"⟩, 60) := ⟨⟨by decide +kernel, by decide +kernel⟩, List.mem_of_getElem? (i := 1450) (by decide +kernel), List.mem_of_getElem? (i := 1765) (by decide +kernel), List.mem_of_getElem? (i := 1766) (by decide +kernel)⟩
def lw_privs_4 : List (MethodName × Nat) := [(⟨"SnowRecorderModel", "layer1", "()V"⟩, 60), (⟨"SnowRecorderModel", "isKind", "()Z"⟩, 60), (⟨"SnowRecorderModel", "kindHere", "()I"⟩, 60), (⟨"SnowRecorderModel", "hour1", "()V"⟩, 60), (⟨"SnowRecorderModel", "is", "(I)Z"⟩, 60), (⟨"SnowRecorderModel", "table1", "()V"⟩, 60), (⟨"SnowRecorderModel", "becomes", "()V"⟩, 60), (⟨"SnowRecorderModel", "setsMany", "(III)V"⟩, 60), (⟨"SnowRecorderModel", "allLayers", "()I"⟩, 60), (⟨"SnowRecorderModel", "many", "(II)I"⟩, 60), (⟨"SnowRecorderModel", "allRunoff", "()I"⟩, 60), (⟨"SnowRecorderModel", "allWeight", "()I"⟩, 60), (⟨"SnowRecorderModel", "sum", "(III)I"⟩, 60), (⟨"SnowRecorderModel", "of", "(IIII)I"⟩, 60), (⟨"SnowRecorderModel", "worst", "()I"⟩, 60), (⟨"SnowRecorderModel", "leastRatio", "(II)I"⟩, 60)]
theorem lw_r4 : ∀ q ∈ lw_privs_4, lw_okq q := List.forall_mem_cons.mpr ⟨lw_p48, List.forall_mem_cons.mpr ⟨lw_p49, List.forall_mem_cons.mpr ⟨lw_p50, List.forall_mem_cons.mpr ⟨lw_p51, List.forall_mem_cons.mpr ⟨lw_p52, List.forall_mem_cons.mpr ⟨lw_p53, List.forall_mem_cons.mpr ⟨lw_p54, List.forall_mem_cons.mpr ⟨lw_p55, List.forall_mem_cons.mpr ⟨lw_p56, List.forall_mem_cons.mpr ⟨lw_p57, List.forall_mem_cons.mpr ⟨lw_p58, List.forall_mem_cons.mpr ⟨lw_p59, List.forall_mem_cons.mpr ⟨lw_p60, List.forall_mem_cons.mpr ⟨lw_p61, List.forall_mem_cons.mpr ⟨lw_p62, List.forall_mem_cons.mpr ⟨lw_p63, fun _ h => absurd h List.not_mem_nil⟩⟩⟩⟩⟩⟩⟩⟩⟩⟩⟩⟩⟩⟩⟩⟩
theorem lw_p64 : lw_okq (⟨"SnowRecorderModel", "leastRatioBy", "(IIII)I"⟩, 60) := ⟨⟨by decide +kernel, by decide +kernel⟩, List.mem_of_getElem? (i := 1450) (by decide +kernel), List.mem_of_getElem? (i := 1769) (by decide +kernel), List.mem_of_getElem? (i := 1770) (by decide +kernel)⟩
theorem lw_p65 : lw_okq (⟨"SnowRecorderModel", "weakestBy", "(IIII)I"⟩, 60) := ⟨⟨by decide +kernel, by decide +kernel⟩, List.mem_of_getElem? (i := 1450) (by decide +kernel), List.mem_of_getElem? (i := 1773) (by decide +kernel), List.mem_of_getElem? (i := 1774) (by decide +kernel)⟩
theorem lw_p66 : lw_okq (⟨"SnowRecorderModel", "ratio", "(IIIII)I"⟩, 60) := ⟨⟨by decide +kernel, by decide +kernel⟩, List.mem_of_getElem? (i := 1450) (by decide +kernel), List.mem_of_getElem? (i := 1777) (by decide +kernel), List.mem_of_getElem? (i := 1778) (by decide +kernel)⟩
theorem lw_p67 : lw_okq (⟨"SnowRecorderModel", "burden", "(IIIII)I"⟩, 60) := ⟨⟨by decide +kernel, by decide +kernel⟩, List.mem_of_getElem? (i := 1450) (by decide +kernel), List.mem_of_getElem? (i := 1781) (by decide +kernel), List.mem_of_getElem? (i := 1782) (by decide +kernel)⟩
theorem lw_p68 : lw_okq (⟨"SnowRecorderModel", "above", "(III)I"⟩, 60) := ⟨⟨by decide +kernel, by decide +kernel⟩, List.mem_of_getElem? (i := 1450) (by decide +kernel), List.mem_of_getElem? (i := 1785) (by decide +kernel), List.mem_of_getElem? (i := 1786) (by decide +kernel)⟩
theorem lw_p69 : lw_okq (⟨"SnowRecorderModel", "weight", "(III)I"⟩, 60) := ⟨⟨by decide +kernel, by decide +kernel⟩, List.mem_of_getElem? (i := 1450) (by decide +kernel), List.mem_of_getElem? (i := 1789) (by decide +kernel), List.mem_of_getElem? (i := 1790) (by decide +kernel)⟩
theorem lw_p70 : lw_okq (⟨"SnowRecorderModel", "strength", "(III)I"⟩, 60) := ⟨⟨by decide +kernel, by decide +kernel⟩, List.mem_of_getElem? (i := 1450) (by decide +kernel), List.mem_of_getElem? (i := 1793) (by decide +kernel), List.mem_of_getElem? (i := 1794) (by decide +kernel)⟩
theorem lw_p71 : lw_okq (⟨"SnowRecorderModel", "isSlope", "(I)Z"⟩, 60) := ⟨⟨by decide +kernel, by decide +kernel⟩, List.mem_of_getElem? (i := 1450) (by decide +kernel), List.mem_of_getElem? (i := 1808) (by decide +kernel), List.mem_of_getElem? (i := 1809) (by decide +kernel)⟩
theorem lw_p72 : lw_okq (⟨"SnowRecorderModel", "weakest", "(II)I"⟩, 60) := ⟨⟨by decide +kernel, by decide +kernel⟩, List.mem_of_getElem? (i := 1450) (by decide +kernel), List.mem_of_getElem? (i := 1812) (by decide +kernel), List.mem_of_getElem? (i := 1813) (by decide +kernel)⟩
theorem lw_p73 : lw_okq (⟨"SnowRecorderModel", "isUnstable", "(II)Z"⟩, 60) := ⟨⟨by decide +kernel, by decide +kernel⟩, List.mem_of_getElem? (i := 1450) (by decide +kernel), List.mem_of_getElem? (i := 1816) (by decide +kernel), List.mem_of_getElem? (i := 1817) (by decide +kernel)⟩
theorem lw_p74 : lw_okq (⟨"SnowRecorderModel", "isLayer", "(II)Z"⟩, 60) := ⟨⟨by decide +kernel, by decide +kernel⟩, List.mem_of_getElem? (i := 1450) (by decide +kernel), List.mem_of_getElem? (i := 1824) (by decide +kernel), List.mem_of_getElem? (i := 1825) (by decide +kernel)⟩
theorem lw_p75 : lw_okq (⟨"SnowRecorderModel", "load", "(III)I"⟩, 60) := ⟨⟨by decide +kernel, by decide +kernel⟩, List.mem_of_getElem? (i := 1450) (by decide +kernel), List.mem_of_getElem? (i := 1828) (by decide +kernel), List.mem_of_getElem? (i := 1829) (by decide +kernel)⟩
theorem lw_p76 : lw_okq (⟨"SnowRecorderModel", "airOf", "(I)I"⟩, 60) := ⟨⟨by decide +kernel, by decide +kernel⟩, List.mem_of_getElem? (i := 1450) (by decide +kernel), List.mem_of_getElem? (i := 1832) (by decide +kernel), List.mem_of_getElem? (i := 1833) (by decide +kernel)⟩
theorem lw_p77 : lw_okq (⟨"SnowRecorderModel", "hourOf", "(I)I"⟩, 60) := ⟨⟨by decide +kernel, by decide +kernel⟩, List.mem_of_getElem? (i := 1450) (by decide +kernel), List.mem_of_getElem? (i := 1836) (by decide +kernel), List.mem_of_getElem? (i := 1837) (by decide +kernel)⟩
theorem lw_p78 : lw_okq (⟨"SnowRecorderModel", "grade", "(IIII)I"⟩, 60) := ⟨⟨by decide +kernel, by decide +kernel⟩, List.mem_of_getElem? (i := 1450) (by decide +kernel), List.mem_of_getElem? (i := 1840) (by decide +kernel), List.mem_of_getElem? (i := 1841) (by decide +kernel)⟩
theorem lw_p79 : lw_okq (⟨"SnowRecorderModel", "saysNumber", "(I)V"⟩, 60) := ⟨⟨by decide +kernel, by decide +kernel⟩, List.mem_of_getElem? (i := 1450) (by decide +kernel), List.mem_of_getElem? (i := 1851) (by decide +kernel), List.mem_of_getElem? (i := 1852) (by decide +kernel)⟩
def lw_privs_5 : List (MethodName × Nat) := [(⟨"SnowRecorderModel", "leastRatioBy", "(IIII)I"⟩, 60), (⟨"SnowRecorderModel", "weakestBy", "(IIII)I"⟩, 60), (⟨"SnowRecorderModel", "ratio", "(IIIII)I"⟩, 60), (⟨"SnowRecorderModel", "burden", "(IIIII)I"⟩, 60), (⟨"SnowRecorderModel", "above", "(III)I"⟩, 60), (⟨"SnowRecorderModel", "weight", "(III)I"⟩, 60), (⟨"SnowRecorderModel", "strength", "(III)I"⟩, 60), (⟨"SnowRecorderModel", "isSlope", "(I)Z"⟩, 60), (⟨"SnowRecorderModel", "weakest", "(II)I"⟩, 60), (⟨"SnowRecorderModel", "isUnstable", "(II)Z"⟩, 60), (⟨"SnowRecorderModel", "isLayer", "(II)Z"⟩, 60), (⟨"SnowRecorderModel", "load", "(III)I"⟩, 60), (⟨"SnowRecorderModel", "airOf", "(I)I"⟩, 60), (⟨"SnowRecorderModel", "hourOf", "(I)I"⟩, 60), (⟨"SnowRecorderModel", "grade", "(IIII)I"⟩, 60), (⟨"SnowRecorderModel", "saysNumber", "(I)V"⟩, 60)]
theorem lw_r5 : ∀ q ∈ lw_privs_5, lw_okq q := List.forall_mem_cons.mpr ⟨lw_p64, List.forall_mem_cons.mpr ⟨lw_p65, List.forall_mem_cons.mpr ⟨lw_p66, List.forall_mem_cons.mpr ⟨lw_p67, List.forall_mem_cons.mpr ⟨lw_p68, List.forall_mem_cons.mpr ⟨lw_p69, List.forall_mem_cons.mpr ⟨lw_p70, List.forall_mem_cons.mpr ⟨lw_p71, List.forall_mem_cons.mpr ⟨lw_p72, List.forall_mem_cons.mpr ⟨lw_p73, List.forall_mem_cons.mpr ⟨lw_p74, List.forall_mem_cons.mpr ⟨lw_p75, List.forall_mem_cons.mpr ⟨lw_p76, List.forall_mem_cons.mpr ⟨lw_p77, List.forall_mem_cons.mpr ⟨lw_p78, List.forall_mem_cons.mpr ⟨lw_p79, fun _ h => absurd h List.not_mem_nil⟩⟩⟩⟩⟩⟩⟩⟩⟩⟩⟩⟩⟩⟩⟩⟩
theorem lw_p80 : lw_okq (⟨"SnowRecorderModel", "says", "(I)V"⟩, 60) := ⟨⟨by decide +kernel, by decide +kernel⟩, List.mem_of_getElem? (i := 1450) (by decide +kernel), List.mem_of_getElem? (i := 1855) (by decide +kernel), List.mem_of_getElem? (i := 1856) (by decide +kernel)⟩
theorem lw_p81 : lw_okq (⟨"SnowRecorderModel", "saysKind", "(I)V"⟩, 60) := ⟨⟨by decide +kernel, by decide +kernel⟩, List.mem_of_getElem? (i := 1450) (by decide +kernel), List.mem_of_getElem? (i := 1859) (by decide +kernel), List.mem_of_getElem? (i := 1860) (by decide +kernel)⟩
theorem lw_p82 : lw_okq (⟨"SnowRecorderModel", "saysWord", "(II)V"⟩, 60) := ⟨⟨by decide +kernel, by decide +kernel⟩, List.mem_of_getElem? (i := 1450) (by decide +kernel), List.mem_of_getElem? (i := 1863) (by decide +kernel), List.mem_of_getElem? (i := 1864) (by decide +kernel)⟩
theorem lw_p83 : lw_okq (⟨"SnowRecorderModel", "refuses", "(I)I"⟩, 60) := ⟨⟨by decide +kernel, by decide +kernel⟩, List.mem_of_getElem? (i := 1450) (by decide +kernel), List.mem_of_getElem? (i := 1871) (by decide +kernel), List.mem_of_getElem? (i := 1872) (by decide +kernel)⟩
theorem lw_p84 : lw_okq (⟨"SnowRecorderModel", "keeps", "()V"⟩, 60) := ⟨⟨by decide +kernel, by decide +kernel⟩, List.mem_of_getElem? (i := 1450) (by decide +kernel), List.mem_of_getElem? (i := 1875) (by decide +kernel), List.mem_of_getElem? (i := 1876) (by decide +kernel)⟩
theorem lw_p85 : lw_okq (⟨"SnowRecorderModel", "copies", "(III)V"⟩, 60) := ⟨⟨by decide +kernel, by decide +kernel⟩, List.mem_of_getElem? (i := 1450) (by decide +kernel), List.mem_of_getElem? (i := 1882) (by decide +kernel), List.mem_of_getElem? (i := 1883) (by decide +kernel)⟩
theorem lw_p86 : lw_okq (⟨"SnowRecorderModel", "goes", "(II)V"⟩, 60) := ⟨⟨by decide +kernel, by decide +kernel⟩, List.mem_of_getElem? (i := 1450) (by decide +kernel), List.mem_of_getElem? (i := 1886) (by decide +kernel), List.mem_of_getElem? (i := 1887) (by decide +kernel)⟩
theorem lw_p87 : lw_okq (⟨"SnowRecorderModel", "hour", "(I)V"⟩, 60) := ⟨⟨by decide +kernel, by decide +kernel⟩, List.mem_of_getElem? (i := 1450) (by decide +kernel), List.mem_of_getElem? (i := 1890) (by decide +kernel), List.mem_of_getElem? (i := 1891) (by decide +kernel)⟩
theorem lw_p88 : lw_okq (⟨"SnowRecorderModel", "fallsNow", "(III)V"⟩, 60) := ⟨⟨by decide +kernel, by decide +kernel⟩, List.mem_of_getElem? (i := 1450) (by decide +kernel), List.mem_of_getElem? (i := 1894) (by decide +kernel), List.mem_of_getElem? (i := 1895) (by decide +kernel)⟩
theorem lw_p89 : lw_okq (⟨"SnowRecorderModel", "drops", "(IIIII)V"⟩, 60) := ⟨⟨by decide +kernel, by decide +kernel⟩, List.mem_of_getElem? (i := 1450) (by decide +kernel), List.mem_of_getElem? (i := 1898) (by decide +kernel), List.mem_of_getElem? (i := 1899) (by decide +kernel)⟩
theorem lw_p90 : lw_okq (⟨"SnowRecorderModel", "comes", "(IIIIII)V"⟩, 60) := ⟨⟨by decide +kernel, by decide +kernel⟩, List.mem_of_getElem? (i := 1450) (by decide +kernel), List.mem_of_getElem? (i := 1902) (by decide +kernel), List.mem_of_getElem? (i := 1903) (by decide +kernel)⟩
theorem lw_p91 : lw_okq (⟨"SnowRecorderModel", "joins", "(II)V"⟩, 60) := ⟨⟨by decide +kernel, by decide +kernel⟩, List.mem_of_getElem? (i := 1450) (by decide +kernel), List.mem_of_getElem? (i := 1906) (by decide +kernel), List.mem_of_getElem? (i := 1907) (by decide +kernel)⟩
theorem lw_p92 : lw_okq (⟨"SnowRecorderModel", "sets", "(IIIII)V"⟩, 60) := ⟨⟨by decide +kernel, by decide +kernel⟩, List.mem_of_getElem? (i := 1450) (by decide +kernel), List.mem_of_getElem? (i := 1913) (by decide +kernel), List.mem_of_getElem? (i := 1914) (by decide +kernel)⟩
theorem lw_p93 : lw_okq (⟨"SnowRecorderModel", "runsOff", "(III)V"⟩, 60) := ⟨⟨by decide +kernel, by decide +kernel⟩, List.mem_of_getElem? (i := 1450) (by decide +kernel), List.mem_of_getElem? (i := 1917) (by decide +kernel), List.mem_of_getElem? (i := 1918) (by decide +kernel)⟩
theorem lw_p94 : lw_okq (⟨"SnowRecorderModel", "topped", "(III)V"⟩, 60) := ⟨⟨by decide +kernel, by decide +kernel⟩, List.mem_of_getElem? (i := 1450) (by decide +kernel), List.mem_of_getElem? (i := 1921) (by decide +kernel), List.mem_of_getElem? (i := 1922) (by decide +kernel)⟩
theorem lw_p95 : lw_okq (⟨"SnowRecorderModel", "warms", "(III)V"⟩, 60) := ⟨⟨by decide +kernel, by decide +kernel⟩, List.mem_of_getElem? (i := 1450) (by decide +kernel), List.mem_of_getElem? (i := 1925) (by decide +kernel), List.mem_of_getElem? (i := 1926) (by decide +kernel)⟩
def lw_privs_6 : List (MethodName × Nat) := [(⟨"SnowRecorderModel", "says", "(I)V"⟩, 60), (⟨"SnowRecorderModel", "saysKind", "(I)V"⟩, 60), (⟨"SnowRecorderModel", "saysWord", "(II)V"⟩, 60), (⟨"SnowRecorderModel", "refuses", "(I)I"⟩, 60), (⟨"SnowRecorderModel", "keeps", "()V"⟩, 60), (⟨"SnowRecorderModel", "copies", "(III)V"⟩, 60), (⟨"SnowRecorderModel", "goes", "(II)V"⟩, 60), (⟨"SnowRecorderModel", "hour", "(I)V"⟩, 60), (⟨"SnowRecorderModel", "fallsNow", "(III)V"⟩, 60), (⟨"SnowRecorderModel", "drops", "(IIIII)V"⟩, 60), (⟨"SnowRecorderModel", "comes", "(IIIIII)V"⟩, 60), (⟨"SnowRecorderModel", "joins", "(II)V"⟩, 60), (⟨"SnowRecorderModel", "sets", "(IIIII)V"⟩, 60), (⟨"SnowRecorderModel", "runsOff", "(III)V"⟩, 60), (⟨"SnowRecorderModel", "topped", "(III)V"⟩, 60), (⟨"SnowRecorderModel", "warms", "(III)V"⟩, 60)]
theorem lw_r6 : ∀ q ∈ lw_privs_6, lw_okq q := List.forall_mem_cons.mpr ⟨lw_p80, List.forall_mem_cons.mpr ⟨lw_p81, List.forall_mem_cons.mpr ⟨lw_p82, List.forall_mem_cons.mpr ⟨lw_p83, List.forall_mem_cons.mpr ⟨lw_p84, List.forall_mem_cons.mpr ⟨lw_p85, List.forall_mem_cons.mpr ⟨lw_p86, List.forall_mem_cons.mpr ⟨lw_p87, List.forall_mem_cons.mpr ⟨lw_p88, List.forall_mem_cons.mpr ⟨lw_p89, List.forall_mem_cons.mpr ⟨lw_p90, List.forall_mem_cons.mpr ⟨lw_p91, List.forall_mem_cons.mpr ⟨lw_p92, List.forall_mem_cons.mpr ⟨lw_p93, List.forall_mem_cons.mpr ⟨lw_p94, List.forall_mem_cons.mpr ⟨lw_p95, fun _ h => absurd h List.not_mem_nil⟩⟩⟩⟩⟩⟩⟩⟩⟩⟩⟩⟩⟩⟩⟩⟩
theorem lw_p96 : lw_okq (⟨"SnowRecorderModel", "evens", "(II)V"⟩, 60) := ⟨⟨by decide +kernel, by decide +kernel⟩, List.mem_of_getElem? (i := 1450) (by decide +kernel), List.mem_of_getElem? (i := 1929) (by decide +kernel), List.mem_of_getElem? (i := 1930) (by decide +kernel)⟩
theorem lw_p97 : lw_okq (⟨"SnowRecorderModel", "sinks", "(II)V"⟩, 60) := ⟨⟨by decide +kernel, by decide +kernel⟩, List.mem_of_getElem? (i := 1450) (by decide +kernel), List.mem_of_getElem? (i := 1933) (by decide +kernel), List.mem_of_getElem? (i := 1934) (by decide +kernel)⟩
theorem lw_p98 : lw_okq (⟨"SnowRecorderModel", "freezes", "(I)V"⟩, 60) := ⟨⟨by decide +kernel, by decide +kernel⟩, List.mem_of_getElem? (i := 1450) (by decide +kernel), List.mem_of_getElem? (i := 1937) (by decide +kernel), List.mem_of_getElem? (i := 1938) (by decide +kernel)⟩
theorem lw_p99 : lw_okq (⟨"SnowRecorderModel", "presses", "(II)V"⟩, 60) := ⟨⟨by decide +kernel, by decide +kernel⟩, List.mem_of_getElem? (i := 1450) (by decide +kernel), List.mem_of_getElem? (i := 1941) (by decide +kernel), List.mem_of_getElem? (i := 1942) (by decide +kernel)⟩
theorem lw_p100 : lw_okq (⟨"SnowRecorderModel", "ages", "(III)V"⟩, 60) := ⟨⟨by decide +kernel, by decide +kernel⟩, List.mem_of_getElem? (i := 1450) (by decide +kernel), List.mem_of_getElem? (i := 1945) (by decide +kernel), List.mem_of_getElem? (i := 1946) (by decide +kernel)⟩
theorem lw_p101 : lw_okq (⟨"SnowRecorderModel", "kindThen", "(IIII)I"⟩, 60) := ⟨⟨by decide +kernel, by decide +kernel⟩, List.mem_of_getElem? (i := 1450) (by decide +kernel), List.mem_of_getElem? (i := 1949) (by decide +kernel), List.mem_of_getElem? (i := 1950) (by decide +kernel)⟩
theorem lw_p102 : lw_okq (⟨"SnowRecorderModel", "digs", "(II)V"⟩, 60) := ⟨⟨by decide +kernel, by decide +kernel⟩, List.mem_of_getElem? (i := 1450) (by decide +kernel), List.mem_of_getElem? (i := 1961) (by decide +kernel), List.mem_of_getElem? (i := 1962) (by decide +kernel)⟩
theorem lw_p103 : lw_okq (⟨"SnowRecorderModel", "slides", "(II)I"⟩, 60) := ⟨⟨by decide +kernel, by decide +kernel⟩, List.mem_of_getElem? (i := 1450) (by decide +kernel), List.mem_of_getElem? (i := 1969) (by decide +kernel), List.mem_of_getElem? (i := 1970) (by decide +kernel)⟩
theorem lw_p104 : lw_okq (⟨"SnowRecorderModel", "tries", "()V"⟩, 60) := ⟨⟨by decide +kernel, by decide +kernel⟩, List.mem_of_getElem? (i := 1450) (by decide +kernel), List.mem_of_getElem? (i := 1985) (by decide +kernel), List.mem_of_getElem? (i := 1986) (by decide +kernel)⟩
theorem lw_p105 : lw_okq (⟨"SnowRecorderModel", "isNamed", "(II)Z"⟩, 60) := ⟨⟨by decide +kernel, by decide +kernel⟩, List.mem_of_getElem? (i := 1450) (by decide +kernel), List.mem_of_getElem? (i := 1997) (by decide +kernel), List.mem_of_getElem? (i := 1998) (by decide +kernel)⟩
theorem lw_p106 : lw_okq (⟨"SnowRecorderModel", "ratioBehind", "(II)I"⟩, 60) := ⟨⟨by decide +kernel, by decide +kernel⟩, List.mem_of_getElem? (i := 1450) (by decide +kernel), List.mem_of_getElem? (i := 2024) (by decide +kernel), List.mem_of_getElem? (i := 2025) (by decide +kernel)⟩
theorem lw_p107 : lw_okq (⟨"SnowRecorderModel", "isPit", "(I)Z"⟩, 60) := ⟨⟨by decide +kernel, by decide +kernel⟩, List.mem_of_getElem? (i := 1450) (by decide +kernel), List.mem_of_getElem? (i := 2032) (by decide +kernel), List.mem_of_getElem? (i := 2033) (by decide +kernel)⟩
theorem lw_p108 : lw_okq (⟨"SnowRecorderModel", "pitMany", "(I)I"⟩, 60) := ⟨⟨by decide +kernel, by decide +kernel⟩, List.mem_of_getElem? (i := 1450) (by decide +kernel), List.mem_of_getElem? (i := 2036) (by decide +kernel), List.mem_of_getElem? (i := 2037) (by decide +kernel)⟩
theorem lw_p109 : lw_okq (⟨"SnowRecorderModel", "namesInBoth", "(II)I"⟩, 60) := ⟨⟨by decide +kernel, by decide +kernel⟩, List.mem_of_getElem? (i := 1450) (by decide +kernel), List.mem_of_getElem? (i := 2044) (by decide +kernel), List.mem_of_getElem? (i := 2045) (by decide +kernel)⟩
theorem lw_p110 : lw_okq (⟨"SnowRecorderModel", "inPit", "(III)I"⟩, 60) := ⟨⟨by decide +kernel, by decide +kernel⟩, List.mem_of_getElem? (i := 1450) (by decide +kernel), List.mem_of_getElem? (i := 2048) (by decide +kernel), List.mem_of_getElem? (i := 2049) (by decide +kernel)⟩
theorem lw_p111 : lw_okq (⟨"SnowRecorderModel", "weakestName", "(I)I"⟩, 60) := ⟨⟨by decide +kernel, by decide +kernel⟩, List.mem_of_getElem? (i := 1450) (by decide +kernel), List.mem_of_getElem? (i := 2052) (by decide +kernel), List.mem_of_getElem? (i := 2053) (by decide +kernel)⟩
def lw_privs_7 : List (MethodName × Nat) := [(⟨"SnowRecorderModel", "evens", "(II)V"⟩, 60), (⟨"SnowRecorderModel", "sinks", "(II)V"⟩, 60), (⟨"SnowRecorderModel", "freezes", "(I)V"⟩, 60), (⟨"SnowRecorderModel", "presses", "(II)V"⟩, 60), (⟨"SnowRecorderModel", "ages", "(III)V"⟩, 60), (⟨"SnowRecorderModel", "kindThen", "(IIII)I"⟩, 60), (⟨"SnowRecorderModel", "digs", "(II)V"⟩, 60), (⟨"SnowRecorderModel", "slides", "(II)I"⟩, 60), (⟨"SnowRecorderModel", "tries", "()V"⟩, 60), (⟨"SnowRecorderModel", "isNamed", "(II)Z"⟩, 60), (⟨"SnowRecorderModel", "ratioBehind", "(II)I"⟩, 60), (⟨"SnowRecorderModel", "isPit", "(I)Z"⟩, 60), (⟨"SnowRecorderModel", "pitMany", "(I)I"⟩, 60), (⟨"SnowRecorderModel", "namesInBoth", "(II)I"⟩, 60), (⟨"SnowRecorderModel", "inPit", "(III)I"⟩, 60), (⟨"SnowRecorderModel", "weakestName", "(I)I"⟩, 60)]
theorem lw_r7 : ∀ q ∈ lw_privs_7, lw_okq q := List.forall_mem_cons.mpr ⟨lw_p96, List.forall_mem_cons.mpr ⟨lw_p97, List.forall_mem_cons.mpr ⟨lw_p98, List.forall_mem_cons.mpr ⟨lw_p99, List.forall_mem_cons.mpr ⟨lw_p100, List.forall_mem_cons.mpr ⟨lw_p101, List.forall_mem_cons.mpr ⟨lw_p102, List.forall_mem_cons.mpr ⟨lw_p103, List.forall_mem_cons.mpr ⟨lw_p104, List.forall_mem_cons.mpr ⟨lw_p105, List.forall_mem_cons.mpr ⟨lw_p106, List.forall_mem_cons.mpr ⟨lw_p107, List.forall_mem_cons.mpr ⟨lw_p108, List.forall_mem_cons.mpr ⟨lw_p109, List.forall_mem_cons.mpr ⟨lw_p110, List.forall_mem_cons.mpr ⟨lw_p111, fun _ h => absurd h List.not_mem_nil⟩⟩⟩⟩⟩⟩⟩⟩⟩⟩⟩⟩⟩⟩⟩⟩
theorem lw_p112 : lw_okq (⟨"SnowRecorderModel", "laysPit", "(I[I)V"⟩, 60) := ⟨⟨by decide +kernel, by decide +kernel⟩, List.mem_of_getElem? (i := 1450) (by decide +kernel), List.mem_of_getElem? (i := 2056) (by decide +kernel), List.mem_of_getElem? (i := 2057) (by decide +kernel)⟩
theorem lw_p113 : lw_okq (⟨"SnowRecorderModel", "folds", "(Z)I"⟩, 60) := ⟨⟨by decide +kernel, by decide +kernel⟩, List.mem_of_getElem? (i := 1450) (by decide +kernel), List.mem_of_getElem? (i := 2060) (by decide +kernel), List.mem_of_getElem? (i := 2061) (by decide +kernel)⟩
theorem lw_p114 : lw_okq (⟨"SnowRecorderModel", "isNoted", "()Z"⟩, 60) := ⟨⟨by decide +kernel, by decide +kernel⟩, List.mem_of_getElem? (i := 1450) (by decide +kernel), List.mem_of_getElem? (i := 2076) (by decide +kernel), List.mem_of_getElem? (i := 2077) (by decide +kernel)⟩
theorem lw_p115 : lw_okq (⟨"SnowRecorderModel", "isGuess", "(II)Z"⟩, 60) := ⟨⟨by decide +kernel, by decide +kernel⟩, List.mem_of_getElem? (i := 1450) (by decide +kernel), List.mem_of_getElem? (i := 2080) (by decide +kernel), List.mem_of_getElem? (i := 2081) (by decide +kernel)⟩
theorem lw_p116 : lw_okq (⟨"SnowRecorderModel", "unlike", "(II)I"⟩, 60) := ⟨⟨by decide +kernel, by decide +kernel⟩, List.mem_of_getElem? (i := 1450) (by decide +kernel), List.mem_of_getElem? (i := 2088) (by decide +kernel), List.mem_of_getElem? (i := 2089) (by decide +kernel)⟩
theorem lw_p117 : lw_okq (⟨"SnowRecorderModel", "year", "()V"⟩, 60) := ⟨⟨by decide +kernel, by decide +kernel⟩, List.mem_of_getElem? (i := 1450) (by decide +kernel), List.mem_of_getElem? (i := 2104) (by decide +kernel), List.mem_of_getElem? (i := 2105) (by decide +kernel)⟩
theorem lw_p118 : lw_okq (⟨"SnowRecorderModel", "draw", "(I)I"⟩, 60) := ⟨⟨by decide +kernel, by decide +kernel⟩, List.mem_of_getElem? (i := 1450) (by decide +kernel), List.mem_of_getElem? (i := 2108) (by decide +kernel), List.mem_of_getElem? (i := 2109) (by decide +kernel)⟩
def lw_privs_8 : List (MethodName × Nat) := [(⟨"SnowRecorderModel", "laysPit", "(I[I)V"⟩, 60), (⟨"SnowRecorderModel", "folds", "(Z)I"⟩, 60), (⟨"SnowRecorderModel", "isNoted", "()Z"⟩, 60), (⟨"SnowRecorderModel", "isGuess", "(II)Z"⟩, 60), (⟨"SnowRecorderModel", "unlike", "(II)I"⟩, 60), (⟨"SnowRecorderModel", "year", "()V"⟩, 60), (⟨"SnowRecorderModel", "draw", "(I)I"⟩, 60)]
theorem lw_r8 : ∀ q ∈ lw_privs_8, lw_okq q := List.forall_mem_cons.mpr ⟨lw_p112, List.forall_mem_cons.mpr ⟨lw_p113, List.forall_mem_cons.mpr ⟨lw_p114, List.forall_mem_cons.mpr ⟨lw_p115, List.forall_mem_cons.mpr ⟨lw_p116, List.forall_mem_cons.mpr ⟨lw_p117, List.forall_mem_cons.mpr ⟨lw_p118, fun _ h => absurd h List.not_mem_nil⟩⟩⟩⟩⟩⟩⟩
def lw_privs : List (MethodName × Nat) := lw_privs_1 ++ (lw_privs_2 ++ (lw_privs_3 ++ (lw_privs_4 ++ (lw_privs_5 ++ (lw_privs_6 ++ (lw_privs_7 ++ (lw_privs_8)))))))
def lw_tbl : List Cond := k2_sels lw_privs ++ tables_1
theorem lw_privs_ok : ∀ q ∈ lw_privs, lw_okq q := by
  show ∀ q ∈ lw_privs_1 ++ (lw_privs_2 ++ (lw_privs_3 ++ (lw_privs_4 ++ (lw_privs_5 ++ (lw_privs_6 ++ (lw_privs_7 ++ (lw_privs_8))))))), lw_okq q
  exact List.forall_mem_append.mpr ⟨lw_r1, List.forall_mem_append.mpr ⟨lw_r2, List.forall_mem_append.mpr ⟨lw_r3, List.forall_mem_append.mpr ⟨lw_r4, List.forall_mem_append.mpr ⟨lw_r5, List.forall_mem_append.mpr ⟨lw_r6, List.forall_mem_append.mpr ⟨lw_r7, lw_r8⟩⟩⟩⟩⟩⟩⟩
/-! ===== BEGIN words of one list among another's, by their places ===== -/
theorem goodIn_r {big : List Cond} (ws : List Cond) (ps : List Nat) (hp : ws = ps.filterMap (fun i => big[i]?)) (h : ws.all goodWord = true) : GoodIn big ws := by
  intro w hw
  have h1 := List.all_eq_true.mp h w hw
  rw [hp] at hw
  obtain ⟨i, -, hi⟩ := List.mem_filterMap.mp hw
  have hm : w ∈ big := by first | exact List.mem_of_getElem? hi | exact List.getElem?_mem hi
  exact ⟨hm, good_of_word h1⟩
theorem goodIn_app {big a b : List Cond} (ha : GoodIn big a) (hb : GoodIn big b) : GoodIn big (a ++ b) := fun w h => (List.mem_append.mp h).elim (ha w) (hb w)
theorem goodIn_ca {big a b : List Cond} {c : Cond} (ha : GoodIn big (c :: a)) (hb : GoodIn big b) : GoodIn big (c :: (a ++ b)) := fun w h => (List.mem_cons.mp h).elim (fun e => ha w (List.mem_cons.mpr (Or.inl e))) (fun h => (List.mem_append.mp h).elim (fun h => ha w (List.mem_cons.mpr (Or.inr h))) (hb w))
theorem goodIn_sub {big ws : List Cond} (hm : ∀ w ∈ ws, w ∈ big) (h : ws.all goodWord = true) : GoodIn big ws := fun w hw => ⟨hm w hw, good_of_word (List.all_eq_true.mp h w hw)⟩
/-! ===== END ===== -/

/-! ===== BEGIN new T[n][m]: the outer array a place, the inner ones among the pooled ===== -/
/-- f, but v at every address of l -/
def vr_up {α : Type} (f : Nat → α) (l : List Nat) (v : α) : Nat → α := fun a => if a ∈ l then v else f a
theorem vr_up_in {α : Type} {f : Nat → α} {l : List Nat} {v : α} {a : Nat} (h : a ∈ l) : vr_up f l v a = v := if_pos h
theorem vr_up_ne {α : Type} {f : Nat → α} {l : List Nat} {v : α} {a : Nat} (h : a ∉ l) : vr_up f l v a = f a := if_neg h
theorem vr_rows {L l : List Nat} {f : Nat → va_E} {e : va_E} (h : ∀ a, a ∈ l → a ∉ L) : va_pl L f ++ l.map (fun a => (a, e)) = va_pl (L ++ l) (vr_up f l e) := by
  unfold va_pl
  rw [List.map_append]
  congr 1
  · apply List.map_congr_left
    intro a ha
    rw [vr_up_ne (fun q => h a q ha)]
  · apply List.map_congr_left
    intro a ha
    rw [vr_up_in ha]
theorem vr_lay {X rows : va_W} {x : Nat × va_E} {pl : va_W} {D : va_G} {cl : List vw_C} {H : Heap} (hP : va_P D cl (((X ++ pl) ++ [x]) ++ rows) H) : va_P D cl ((X ++ [x]) ++ (pl ++ rows)) H := by
  rw [List.append_assoc (X ++ pl)] at hP
  have h := va_P.swap hP
  rw [← List.append_assoc X] at h
  have h2 := va_P.swap h
  rw [List.append_assoc (X ++ [x])] at h2
  exact h2
theorem vr_layD {X rows : va_W} {x : Nat × va_E} {pl : va_W} {A : Nat → Prop} (hD : va_D A (((X ++ pl) ++ [x]) ++ rows)) : va_D A ((X ++ [x]) ++ (pl ++ rows)) := by
  rw [List.append_assoc (X ++ pl)] at hD
  have h := va_D.swap hD
  rw [← List.append_assoc X] at h
  have h2 := va_D.swap h
  rw [List.append_assoc (X ++ [x])] at h2
  exact h2
theorem vr_outer (c : ClassId) (N h0 : Nat) : ∀ i : Nat, Jvm.Free.Multi.outerC c N h0 i = arrV c N (fun j => va_rf (if j < i then some (h0 + 1 + j) else none))
  | 0 => by
    show ({ cls := c, slots := Array.replicate N .null, vm := .none } : Cell) = _
    rw [arrV_new]
    refine congrArg (arrV c N) (funext fun j => ?_)
    simp [va_rf]
  | i + 1 => by
    show (Jvm.Free.Multi.outerC c N h0 i).setSlot i (.ref (h0 + 1 + i)) = _
    rw [vr_outer c N h0 i, arrV_store]
    refine congrArg (arrV c N) (funext fun j => ?_)
    by_cases e : j = i
    · subst e
      simp [updV, va_rf]
    · by_cases h : j < i
      · simp [updV, e, h, Nat.lt_succ_of_lt h]
      · simp [updV, e, h, show ¬ j < i + 1 by omega]
def va_AOA (t : FieldType) (U : State) : Prop := (Cond.arrayOver (.array t)).before #[] U = true
theorem va_AOA.use {t : FieldType} {A : Array Value} {U : State} (h : va_AOA t U) : (Cond.arrayOver (.array t)).before A U = true := h
section VGM
variable {p : Program} {l : Launch} {e : Env} {R : Room} {s : State} {m : MethodId} {args : Array Value} {below : List Frame} {meth : Method} {c : Code} {H : Heap} {locs : List Loc} {cells slots : Nat} {Q : State → Prop}
variable {cc : ByteArray} {pc : Nat} {ls : Array Slot} {rest : List Value} {D : va_G} {cl : List vw_C} {A : Nat → Prop} {a : Nat} {tys : List (ClassId × FieldType)} {ws : va_W} {H0 : Heap}
theorem va_mna {X : va_W} {L : List Nat} {f : Nat → va_E} {cc : ByteArray} (hexec : p.tables.exec = Jvm.exec) (hb : c.code = cc) {own : String} {index : Nat} {ty : FieldType} {cy : ClassId} (hown : s.vm.findClass own = some m.cls) (hclink : (Cond.classLink own index ("[" ++ (FieldType.array ty).toString)).before args s = true) (hover : va_AOA ty s) (harr : (Cond.arrayClass ty).before args s = true) (hcy : s.vm.findClass (FieldType.array ty).toString = some cy)
    (hK : va_K D cl tys s) (hP : va_P D cl (X ++ va_pl L f) H) (hD : va_D A (X ++ va_pl L f)) (hS : va_S A H0 H locs) (hA : ∀ q, H0.size ≤ q → A q) {n k : Int32} {N' K' : Nat} {z : vp_A} (hn : ¬ n < 0) (hk : ¬ k < 0) (hN : n.toNatClampNeg = N') (hM : k.toNatClampNeg = K')
    (hb1 : N' * 4 ≤ 536870912) (hb2 : K' * componentBytes ty ≤ 536870912) (hb3 : K' ≤ 536870912) (hdf : fits ty (defaultValue ty) = true) (hdd : (defaultValue ty).isDefault = true) (hcells : cells + (1 + N') ≤ R.cells) (hslots : slots + (N' + N' * K') ≤ R.slots) (hz : ∀ c : ClassId, Jvm.Free.Multi.innerC c K' (defaultValue ty) = vp_cell c z) (hdg : decode cc pc = .ok (.multianewarray index 2, 4))
    (kk : ∀ (q : Nat) (r : Nat → Nat) (cA : ClassId) (H1 : Heap), (∀ i j : Nat, i < N' → j < N' → r i = r j → i = j) → (∀ i : Nat, i < N' → r i ∉ L) → va_K D cl (tys ++ [(cA, .array ty)]) s →
      va_P D cl ((X ++ [(q, .inl (cA, N', .inr (.inr (.inr (.inr (fun i => if i < N' then some (r i) else none))))))]) ++ va_pl (L ++ (List.range N').map r) (vr_up f ((List.range N').map r) (.inl (cy, z)))) H1 → va_D A ((X ++ [(q, .inl (cA, N', .inr (.inr (.inr (.inr (fun i => if i < N' then some (r i) else none))))))]) ++ va_pl (L ++ (List.range N').map r) (vr_up f ((List.range N').map r) (.inl (cy, z)))) → va_S A H0 H1 locs →
      W p l e R s m args below meth c H1 locs (cells + 1 + N') (slots + N' + N' * K') Q (F0 m (pc + 4) ls (.ref q :: rest))) : W p l e R s m args below meth c H locs cells slots Q (F0 m pc ls (.int k :: .int n :: rest)) := by
  subst hN
  subst hM
  intro T hT Xs
  obtain ⟨vm₁, cA, comp, -, fA, fC, hO, -, X', step⟩ := Xs.multianewarray2F hexec hown hclink (va_AOA.use hover) harr (g := F0 m pc ls (.int k :: .int n :: rest)) rfl (by rw [hb]; exact hdg) rfl hn hk hb1 hb2 hb3 hdf hdd hcells hslots
  have ec : some cy = some comp := hcy.symm.trans fC
  cases ec
  generalize hF : Jvm.Free.Multi.fill (T.setVm vm₁) cA cy n.toNatClampNeg k.toNatClampNeg (defaultValue ty) n.toNatClampNeg = F at X' step
  have hTh : (T.setVm vm₁).heap = H := hT
  obtain ⟨f1, f2, -, -⟩ := Jvm.Free.Multi.fill_facts (T.setVm vm₁) cA cy n.toNatClampNeg k.toNatClampNeg (defaultValue ty) n.toNatClampNeg
  rw [hF, hTh] at f1 f2
  have hold : ∀ x : Nat, x < H.size → F.heap[x]? = H[x]? := fun x hx => by
    have := Jvm.Free.Multi.fill_old (T.setVm vm₁) cA cy n.toNatClampNeg k.toNatClampNeg (defaultValue ty) (a := x) (by rw [hTh]; exact hx) n.toNatClampNeg
    rw [hF, hTh] at this
    exact this
  have hrow : ∀ j : Nat, j < n.toNatClampNeg → F.heap[H.size + 1 + j]? = some (vp_cell cy z) := fun j hj => by
    have := Jvm.Free.Multi.fill_inner (T.setVm vm₁) cA cy n.toNatClampNeg k.toNatClampNeg (defaultValue ty) n.toNatClampNeg j hj
    rw [hF, hTh, hz] at this
    exact this
  have hout : Jvm.Free.Multi.outerC cA n.toNatClampNeg H.size n.toNatClampNeg = vp_cell cA (n.toNatClampNeg, .inr (.inr (.inr (.inr (fun i => if i < n.toNatClampNeg then some (H.size + 1 + i) else none))))) := by
    rw [vp_cell_q]
    exact vr_outer cA n.toNatClampNeg H.size n.toNatClampNeg
  rw [hout] at f2
  have hlt : ∀ a, a ∈ L → a < H.size := fun a ha => by
    obtain ⟨k9, hk9⟩ := va_pl_get (X := X) (f := f) ha
    exact (hP k9 _ hk9).lt
  have hnl : ∀ i : Nat, i < n.toNatClampNeg → H.size + 1 + i ∉ L := fun i _ h => by
    have := hlt _ h
    omega
  have hnm : ∀ a, a ∈ (List.range n.toNatClampNeg).map (fun i => H.size + 1 + i) → a ∉ L := fun a ha h => by
    obtain ⟨i, -, rfl⟩ := List.mem_map.mp ha
    have := hlt _ h
    omega
  have hP0 : va_P D cl (X ++ va_pl L f) F.heap := hP.kept (fun k9 x hx => hold x.1 ((hP k9 x hx).lt))
  have hP1 : va_P D cl ((X ++ va_pl L f) ++ [(H.size, .inl (cA, n.toNatClampNeg, .inr (.inr (.inr (.inr (fun i => if i < n.toNatClampNeg then some (H.size + 1 + i) else none))))))]) F.heap := hP0.app (fun k9 x hx => by
    have h0 : k9 < 1 := (List.getElem?_eq_some_iff.mp hx).1
    rw [show k9 = 0 by omega] at hx
    cases hx
    exact f2)
  have hP2 : va_P D cl (((X ++ va_pl L f) ++ [(H.size, .inl (cA, n.toNatClampNeg, .inr (.inr (.inr (.inr (fun i => if i < n.toNatClampNeg then some (H.size + 1 + i) else none))))))]) ++ ((List.range n.toNatClampNeg).map (fun i => H.size + 1 + i)).map (fun a => (a, .inl (cy, z)))) F.heap := hP1.app (fun k9 x hx => by
    obtain ⟨a, ha, rfl⟩ := List.mem_map.mp (List.mem_of_getElem? hx)
    obtain ⟨i, hi, rfl⟩ := List.mem_map.mp ha
    exact hrow i (List.mem_range.mp hi))
  have hD2 : va_D A (((X ++ va_pl L f) ++ [(H.size, .inl (cA, n.toNatClampNeg, .inr (.inr (.inr (.inr (fun i => if i < n.toNatClampNeg then some (H.size + 1 + i) else none))))))]) ++ ((List.range n.toNatClampNeg).map (fun i => H.size + 1 + i)).map (fun a => (a, .inl (cy, z)))) := by
    have hD1 := hD.push (e := .inl (cA, n.toNatClampNeg, .inr (.inr (.inr (.inr (fun i => if i < n.toNatClampNeg then some (H.size + 1 + i) else none)))))) hP rfl (hA _ hS.1)
    generalize hW1 : (X ++ va_pl L f) ++ [(H.size, .inl (cA, n.toNatClampNeg, .inr (.inr (.inr (.inr (fun i => if i < n.toNatClampNeg then some (H.size + 1 + i) else none))))))] = W1 at hD1 hP1 ⊢
    have hle : ∀ (k9 : Nat) (x : Nat × va_E), W1[k9]? = some x → x.1 ≤ H.size := fun k9 x hx => by
      rw [← hW1] at hx
      by_cases hl : k9 < (X ++ va_pl L f).length
      · rw [List.getElem?_append_left hl] at hx
        exact Nat.le_of_lt ((hP k9 x hx).lt)
      · rw [List.getElem?_append_right (by omega)] at hx
        have h0 : k9 - (X ++ va_pl L f).length < 1 := (List.getElem?_eq_some_iff.mp hx).1
        rw [show k9 - (X ++ va_pl L f).length = 0 by omega] at hx
        cases hx
        exact Nat.le_refl _
    have hr : ∀ (k9 : Nat) (x : Nat × va_E), (((List.range n.toNatClampNeg).map (fun i => H.size + 1 + i)).map (fun a => ((a, .inl (cy, z)) : Nat × va_E)))[k9]? = some x → x.1 = H.size + 1 + k9 := fun k9 x hx => by
      rw [List.getElem?_map, List.getElem?_map] at hx
      by_cases h9 : k9 < n.toNatClampNeg
      · rw [List.getElem?_range h9] at hx
        cases hx
        rfl
      · have hn0 : (List.range n.toNatClampNeg)[k9]? = none := List.getElem?_eq_none (by rw [List.length_range]; omega)
        rw [hn0] at hx
        cases hx
    refine ⟨fun i j x y hi hj hxy => ?_, fun k9 x hx => ?_⟩
    · by_cases h1 : i < W1.length <;> by_cases h2 : j < W1.length
      · rw [List.getElem?_append_left h1] at hi
        rw [List.getElem?_append_left h2] at hj
        exact hD1.1 i j x y hi hj hxy
      · rw [List.getElem?_append_left h1] at hi
        rw [List.getElem?_append_right (by omega)] at hj
        have := hle _ _ hi
        have := hr _ _ hj
        omega
      · rw [List.getElem?_append_right (by omega)] at hi
        rw [List.getElem?_append_left h2] at hj
        have := hle _ _ hj
        have := hr _ _ hi
        omega
      · rw [List.getElem?_append_right (by omega)] at hi hj
        have := hr _ _ hi
        have := hr _ _ hj
        omega
    · by_cases h1 : k9 < W1.length
      · rw [List.getElem?_append_left h1] at hx
        exact hD1.2 k9 x hx
      · rw [List.getElem?_append_right (by omega)] at hx
        have := hr _ _ hx
        exact hA _ (by have := hS.1; omega)
  have hAr : ArrOfT s cA (.array ty) := fun N9 z9 => by
    obtain ⟨-, k9, hk9, cm9, hkk9⟩ := (hO 0 0 0).1
    exact ⟨(fun q hq => by cases hq), k9, hk9, cm9, hkk9⟩
  have hK2 : va_K D cl (tys ++ [(cA, .array ty)]) s := ⟨hK.1, fun k9 x hx => by
    by_cases hl : k9 < tys.length
    · rw [List.getElem?_append_left hl] at hx
      exact hK.2 k9 x hx
    · rw [List.getElem?_append_right (by omega)] at hx
      have h0 : k9 - tys.length < 1 := (List.getElem?_eq_some_iff.mp hx).1
      rw [show k9 - tys.length = 0 by omega] at hx
      cases hx
      exact ⟨hAr, fA⟩⟩
  obtain ⟨t, a1, b1⟩ := kk H.size (fun i => H.size + 1 + i) cA F.heap (fun i j _ _ h => by have h9 : H.size + 1 + i = H.size + 1 + j := h; omega) hnl hK2 (by rw [← vr_rows hnm]; exact vr_lay hP2) (by rw [← vr_rows hnm]; exact vr_layD hD2) ⟨by rw [f1]; have := hS.1; omega, fun x h1 h2 => (hold x (Nat.lt_of_lt_of_le h1 hS.1)).trans (hS.2.1 x h1 h2), hS.2.2⟩ F rfl X'
  refine ⟨t, step t ?_, b1⟩
  have e : T.heap.size = H.size := by rw [hT]
  rw [e]
  exact a1
end VGM
/-! ===== END ===== -/

/-! ===== BEGIN exceptions that leave a method, and their catching by the caller (launches without stack traces) ===== -/
section VXA
/-! The laws vx_back, vx_callV, vx_callS, vx_callSW, vx_throw0, vx_throwS follow proofs of the library, with one case more: JvmDerived/Free/Laws.lean (Back.of_free), Shelf42/LK1.lean (callV, callS), Shelf/KitTraced.lean (throwNew0V, throwNewS). -/
/-- where a method has thrown q: the class by its name, the cell, what was written, the world -/
def vx_T (XC : String → State → State → Prop) (st : State) (q : Addr) (t : State) (mc ms : Nat) (free : Addr → Prop) : Prop :=
  ∃ (E : String) (ce : Cell) (L : List Loc), XC E st t ∧ t.heap[q]? = some ce ∧ ce.vm = .none ∧ st.vm.findClass E = some ce.cls ∧ st.WarmedH t.vm ∧ st.sameButNew ({ t with vm := st.vm } : State) L mc ms ∧ ∀ z ∈ L, free z.base
def vx_Q (Qc : Array Value → State → Outcome → State → Prop) (XC : String → State → State → Prop) (mc ms : Nat) (free : Addr → Prop) : Array Value → State → Outcome → State → Prop := fun a st o t =>
  (Qc a st o t ∧ ∃ L, FrameEnd st o t L mc ms ∧ ∀ q ∈ L, free q.base) ∨ ∃ q, o = .threw q ∧ vx_T XC st q t mc ms free
/-- a callee that returns or throws -/
def vx_Met (l : Launch) (y : MethodName) (ws : List Cond) (rm : Room) (Pc : Array Value → State → Prop) (Qc : Array Value → State → Outcome → State → Prop) (XC : String → State → State → Prop) (mc ms : Nat) (free : Addr → Prop) : Prop :=
  MetFree l y (headSpec ws rm) Pc (fun _ _ _ _ _ => True) (vx_Q Qc XC mc ms free)
def vx_Post (XC : String → State → State → Prop) (mc ms : Nat) (free : Addr → Prop) : Pt → Array Value → Addr → Pt → Prop := fun A a q B =>
  ∃ (g : JFrame) (mk : MethodId) (t : State) (L : List Loc) (E : String) (ce : Cell), B.U.heap = t.heap ∧ B.U.vm = t.vm ∧ XC E (A.U.calling g mk a) t ∧ t.heap[q]? = some ce ∧ ce.vm = .none ∧ A.U.vm.findClass E = some ce.cls ∧ B.locs = A.locs ++ L ∧ (∀ z ∈ L, free z.base) ∧ B.cells = A.cells + mc ∧ B.slots = A.slots + ms
def vx_Back (l : Launch) (R : Room) (p : Program) (e : Env) (below : List Frame) (s : State) (sargs : Array Value) (y : MethodName) (len W9 : Nat)
    (Pre : Pt → Array Value → Prop) (Post : Pt → Array Value → Option Value → Pt → Prop) (PostX : Pt → Array Value → Addr → Pt → Prop) : Prop :=
  ∀ (m : MethodId) (meth : Method) (c : Code) (A : Pt) (g : JFrame) (ig : Instr) (mk : MethodId) (a : Array Value),
    Stand p l e R s m sargs below meth c A.U A.locs A.cells A.slots → g.method = m → g.locals.size = c.maxLocals → decode c.code g.pc = .ok (ig, len) →
    2 * g.monitorRoom + (g.stack.map fun v => v.category).sum ≤ W9 → A.U.methodNamed? y = some mk → Pre A a →
    (∃ (v : Option Value) (B : Pt), Stand p l e R s m sargs below meth c B.U B.locs B.cells B.slots ∧ Post A a v B ∧
      Steps p.tables e below (doInvoke e (A.U.setTop g) [] mk a).1 (B.U.setTop { g with pc := g.pc + len, stack := v.toList ++ g.stack })) ∨
    (∃ (q : Addr) (B : Pt), Stand p l e R s m sargs below meth c B.U B.locs B.cells B.slots ∧ PostX A a q B ∧
      Steps p.tables e below (doInvoke e (A.U.setTop g) [] mk a).1 ((B.U.setTop g).pushFrame (.throwing q)))
section Payer
variable {l : Launch} {R : Room} {p : Program} {e : Env} {below : List Frame} {s : State} {sargs : Array Value} {y : MethodName} {len W9 : Nat}
theorem vx_back {ws : List Cond} {rm : Room} {Pc : Array Value → State → Prop} {Qc : Array Value → State → Outcome → State → Prop} {XC : String → State → State → Prop} {mc ms : Nat} {free : Addr → Prop} {bytes : ByteArray} {maxL : Nat} {ret : Option FieldType}
    (hM : vx_Met l y ws rm Pc Qc XC mc ms free) (hblind : FrameBlind Pc) (hrc : rm.cells = mc) (hrs : rm.slots = ms)
    (hframes : rm.frames + 1 ≤ R.frames) (hlocals : W9 + (maxL + 11) + rm.locals ≤ R.locals)
    (hws : ∀ w ∈ ws, ∀ a' U, s.WarmedH U.vm → w.before a' U = true) (hcode : Cond.code y bytes maxL ret ∈ ws) (hinit : ∀ a' U, s.WarmedH U.vm → (Cond.initialized y.cls).before a' U = true) :
    vx_Back l R p e below s sargs y len W9 (PreOf R mc ms Pc) (PostOf Qc mc ms free) (vx_Post XC mc ms free) := by
  intro m meth c A g ig mk a X hg hsize hdg hW hn hp
  have h1 : (headSpec ws rm).pre.before a A.U = true := atoms_intro fun w hw => hws w hw _ _ X.warmed
  have h2 : (Cond.code y bytes maxL ret).before a A.U = true := hws _ hcode _ _ X.warmed
  have h3 : (Cond.initialized y.cls).before a A.U = true := hinit _ _ X.warmed
  have h4 : A.cells + (headSpec ws rm).room.cells ≤ R.cells := by rw [show (headSpec ws rm).room.cells = mc from hrc]; exact hp.1
  have h5 : A.slots + (headSpec ws rm).room.slots ≤ R.slots := by rw [show (headSpec ws rm).room.slots = ms from hrs]; exact hp.2.1
  have hPc : Pc a (A.U.calling g mk a) := hblind _ _ _ _ hp.2.2
  obtain ⟨U, Ls, c0, s0⟩ := A
  dsimp only [Pt.U, Pt.locs, Pt.cells, Pt.slots] at h1 h2 h3 h4 h5 X hn hPc ⊢
  obtain ⟨methY, cY, hmY, hcY, -, hlY, -, -, -, -⟩ := Cond.code_spec hn h2
  obtain ⟨kY, hkY, -⟩ := className_of_methodNamed hn
  have hinitY : kY.init = .initialized := Cond.initialized_spec (findClass_of_methodNamed hn) hkY h3
  have h : At U g.method c below := by rw [hg]; exact X.here
  have hlocals9 : W9 + (maxL + 11) + (headSpec ws rm).room.locals ≤ R.locals := hlocals
  have happ : (headSpec ws rm).appliesLoose y e.platform (U.calling g mk a) = true :=
    Spec.appliesLoose_calling (g := g) h hdg hn hkY hinitY
      (X.room_calling (g := g) (R' := (headSpec ws rm).room) hsize hmY hcY hframes (by rw [hlY]; omega) h4 h5) h1
  obtain ⟨mid, hmid⟩ := h.above
  have hfr : (U.setTop g).frames = (.java g :: mid) ++ below := by rw [State.frames_setTop' g h.top, hmid]; rfl
  obtain ⟨o, s₂, hsteps, -, hend, hq⟩ := Steps.callFree hM p X.admits X.cas X.clock (acts := []) hfr happ hPc trivial
  have hq' : vx_Q Qc XC mc ms free a (U.calling g mk a) o s₂ := hq
  rw [State.frames_setTop' g h.top] at hend
  obtain ⟨g₀, hg0⟩ := Option.isSome_iff_exists.mp h.top
  obtain ⟨r, hr⟩ := State.topJava?_eq_some.mp hg0
  have hr' : (({ U with heap := s₂.heap, slotsUsed := s₂.slotsUsed } : State).setVm s₂.vm).frames = .java g₀ :: r := hr
  rcases hq' with ⟨hqc, L, hfe, hL⟩ | ⟨q, rfl, E, ce, L, hx, hce, hcv, hcl, hW₂, hsm, hL⟩
  · obtain ⟨⟨v, rfl⟩, hW₂, e2, q2, q3, q4, q5, q6⟩ := id hfe
    have e3 : s₂ = ({ (U.calling g mk a).setFrames s₂.frames with heap := s₂.heap, slotsUsed := s₂.slotsUsed } : State).setVm s₂.vm := by
      have : s₂ = ({ s₂ with vm := (U.calling g mk a).vm } : State).setVm s₂.vm := rfl
      rw [e2] at this
      exact this
    obtain ⟨c₂, i₂, len₂, hc₂, hd₂, hf₂⟩ := hend
    have hW' : U.WarmedH s₂.vm := hW₂
    have hcc : c₂ = c := by
      have h1 : s₂.code? g.method = U.code? g.method := by
        rw [State.code?_eq, State.code?_eq, hW'.alike.method?]
      exact Option.some.inj (hc₂.symm.trans (h1.trans h.code))
    subst hcc
    have hlen : len₂ = len := by rw [hdg] at hd₂; cases hd₂; rfl
    subst hlen
    have hs₂ : s₂ = (({ U with heap := s₂.heap, slotsUsed := s₂.slotsUsed } : State).setVm s₂.vm).setTop { g with pc := g.pc + len₂, stack := v.toList ++ g.stack } := by
      refine e3.trans ?_
      rw [hf₂, State.calling_eq h.top, State.setFrames_setFrames, State.setTop_of_frames _ hr', hr]
      rfl
    have hsame : U.sameButNew ({ U with heap := s₂.heap, slotsUsed := s₂.slotsUsed } : State) L mc ms := by
      refine ⟨?_, q2, q3, q4, q5, q6⟩
      obtain ⟨t, ht, -⟩ := State.frames_cons hr
      show ({ U with heap := s₂.heap, slotsUsed := s₂.slotsUsed } : State) = { U.setFrames U.frames with heap := s₂.heap, slotsUsed := s₂.slotsUsed }
      rw [State.setFrames_self ht]
    subst hg
    refine Or.inl ⟨v, ⟨(({ U with heap := s₂.heap, slotsUsed := s₂.slotsUsed } : State).setVm s₂.vm), Ls ++ L, c0 + mc, s0 + ms⟩,
      ⟨X.admits, X.cas, X.clock, X.frames, X.room, X.hears, X.method, X.code, (X.here.setHeapUsed s₂.heap s₂.slotsUsed).setVm hW'.alike, X.tail, State.WarmedH.trans X.warmed hW', X.limits, X.bytes, X.same.trans (hsame.setVm s.vm)⟩,
      ⟨g, mk, s₂, L, rfl, rfl, hqc, rfl, hL, rfl, rfl⟩, ?_⟩
    show Steps p.tables e below _ ((({ U with heap := s₂.heap, slotsUsed := s₂.slotsUsed } : State).setVm s₂.vm).setTop { g with pc := g.pc + len₂, stack := v.toList ++ g.stack })
    rw [← hs₂]
    exact hsteps
  · obtain ⟨e2, q2, q3, q4, q5, q6⟩ := id hsm
    have e3 : s₂ = ({ (U.calling g mk a).setFrames s₂.frames with heap := s₂.heap, slotsUsed := s₂.slotsUsed } : State).setVm s₂.vm := by
      have : s₂ = ({ s₂ with vm := (U.calling g mk a).vm } : State).setVm s₂.vm := rfl
      rw [e2] at this
      exact this
    have hf₂ : s₂.frames = .throwing q :: .java g :: U.frames.tail := hend
    have hW' : U.WarmedH s₂.vm := hW₂
    have hs₂ : s₂ = ((({ U with heap := s₂.heap, slotsUsed := s₂.slotsUsed } : State).setVm s₂.vm).setTop g).pushFrame (.throwing q) := by
      refine e3.trans ?_
      rw [hf₂, State.calling_eq h.top, State.setFrames_setFrames, State.pushFrame, State.frames_setTop _ hr', State.setTop_of_frames _ hr', State.setFrames_setFrames, hr]
      rfl
    have hsame : U.sameButNew ({ U with heap := s₂.heap, slotsUsed := s₂.slotsUsed } : State) L mc ms := by
      refine ⟨?_, q2, q3, q4, q5, q6⟩
      obtain ⟨t, ht, -⟩ := State.frames_cons hr
      show ({ U with heap := s₂.heap, slotsUsed := s₂.slotsUsed } : State) = { U.setFrames U.frames with heap := s₂.heap, slotsUsed := s₂.slotsUsed }
      rw [State.setFrames_self ht]
    subst hg
    refine Or.inr ⟨q, ⟨(({ U with heap := s₂.heap, slotsUsed := s₂.slotsUsed } : State).setVm s₂.vm), Ls ++ L, c0 + mc, s0 + ms⟩,
      ⟨X.admits, X.cas, X.clock, X.frames, X.room, X.hears, X.method, X.code, (X.here.setHeapUsed s₂.heap s₂.slotsUsed).setVm hW'.alike, X.tail, State.WarmedH.trans X.warmed hW', X.limits, X.bytes, X.same.trans (hsame.setVm s.vm)⟩,
      ⟨g, mk, s₂, L, E, ce, rfl, rfl, hx, hce, hcv, hcl, rfl, hL, rfl, rfl⟩, ?_⟩
    show Steps p.tables e below _ (((({ U with heap := s₂.heap, slotsUsed := s₂.slotsUsed } : State).setVm s₂.vm).setTop g).pushFrame (.throwing q))
    rw [← hs₂]
    exact hsteps
end Payer
section Calls
variable {p : Program} {l : Launch} {e : Env} {R : Room} {s : State} {m : MethodId} {args : Array Value} {below : List Frame} {meth : Method} {c : Code} {T : State} {locs : List Loc} {cells slots : Nat}
theorem vx_callV (X : Stand p l e R s m args below meth c T locs cells slots) (hexec : p.tables.exec = Jvm.exec) {own C : String} {index : Nat} {y : MethodName} {bytes : ByteArray} {maxL : Nat} {ret : Option FieldType}
    (hown : s.vm.findClass own = some m.cls) (hlink : (Cond.methodLink own index y).before args s = true) (hinst : (Cond.instanceMethod y).before args s = true) (hsel : (Cond.selects C y y).before args s = true)
    (hcode : (Cond.code y bytes maxL ret).before args s = true) (hy : y.cls ≠ "java/lang/invoke/MethodHandle" ∧ y.cls ≠ "java/lang/invoke/VarHandle")
    {W9 : Nat} {Pre : Pt → Array Value → Prop} {Post : Pt → Array Value → Option Value → Pt → Prop} {PostX : Pt → Array Value → Addr → Pt → Prop} (hK : vx_Back l R p e below s args y 3 W9 Pre Post PostX)
    {b : Addr} {cellB : Cell} (hcell : T.heap[b]? = some cellB) (hobj : cellB.vm.isStatics = false) (hcls : s.vm.findClass C = some cellB.cls)
    {g : JFrame} (hg : g.method = m) (hsize : g.locals.size = c.maxLocals) {argsL rest : List Value} (hlen : ∀ sig, parseMethodDescriptor y.desc = some sig → argsL.length = sig.parameters.length)
    (hstack : g.stack = argsL.reverse ++ .ref b :: rest) (hW : 2 * g.monitorRoom + (rest.map fun v => v.category).sum ≤ W9) (hdg : decode c.code g.pc = .ok (.invokevirtual index, 3))
    (hpre : ∀ vm₁, s.WarmedH vm₁ → Pre ⟨T.setVm vm₁, locs, cells, slots⟩ (Value.ref b :: argsL).toArray) :
    (∃ (v : Option Value) (vm₁ : Vm) (B : Pt), s.WarmedH vm₁ ∧ Stand p l e R s m args below meth c B.U B.locs B.cells B.slots ∧ Post ⟨T.setVm vm₁, locs, cells, slots⟩ (Value.ref b :: argsL).toArray v B ∧
      ∀ target, Steps p.tables e below (B.U.setTop { g with pc := g.pc + 3, stack := v.toList ++ rest }) target → Steps p.tables e below (T.setTop g) target) ∨
    (∃ (q : Addr) (vm₁ : Vm) (B : Pt), s.WarmedH vm₁ ∧ Stand p l e R s m args below meth c B.U B.locs B.cells B.slots ∧ PostX ⟨T.setVm vm₁, locs, cells, slots⟩ (Value.ref b :: argsL).toArray q B ∧
      Steps p.tables e below (T.setTop g) ((B.U.setTop { g with stack := rest }).pushFrame (.throwing q))) := by
  obtain ⟨mk, methM, hnamed, hmethM, hstM, habM⟩ := Cond.instanceMethod_spec hinst
  obtain ⟨methM', cM, hmethM', -, -, -, -, -, -, hsigM⟩ := Cond.code_spec hnamed hcode
  cases hmethM.symm.trans hmethM'
  obtain ⟨c2, r2, m2, q1, q2, q3, q4, kP, hkP, hkPi⟩ := Cond.selects_spec hsel
  cases hcls.symm.trans q1
  cases (State.methodFound?_of_named hnamed hy).symm.trans q2
  cases hnamed.symm.trans q3
  have hselP : selectMethod e.platform s.vm cellB.cls mk = .method mk := by rw [Launch.admits_selectMethod X.admits]; exact q4
  obtain ⟨vm₁, X₁, hstep₁⟩ := X.invokevirtual hexec hown hlink hnamed hmethM hstM hkP hkPi hy (a := b) (cell := cellB) hcell
    (fun z h => by rw [h] at hobj; cases hobj) hselP hmethM habM hkP hkPi (g := g) hg (argsL := argsL) (rest := rest) (hlen _ hsigM) hstack hdg
  rcases hK m meth c ⟨T.setVm vm₁, locs, cells, slots⟩ { g with stack := rest } (.invokevirtual index) mk (Value.ref b :: argsL).toArray X₁ hg hsize hdg hW (X₁.named hnamed) (hpre vm₁ X₁.warmed) with ⟨v, B, X', hpost, hsteps⟩ | ⟨q, B, X', hpost, hsteps⟩
  · exact Or.inl ⟨v, vm₁, B, X₁.warmed, X', hpost, fun target h => hstep₁ _ fun acts => by rw [doInvoke_state]; exact hsteps.trans h⟩
  · exact Or.inr ⟨q, vm₁, B, X₁.warmed, X', hpost, hstep₁ _ fun acts => by rw [doInvoke_state]; exact hsteps⟩
theorem vx_callS (X : Stand p l e R s m args below meth c T locs cells slots) (hexec : p.tables.exec = Jvm.exec) {own : String} {index : Nat} {y : MethodName} {bytes : ByteArray} {maxL : Nat} {ret : Option FieldType}
    (hown : s.vm.findClass own = some m.cls) (hlink : (Cond.methodLink own index y).before args s = true) (hstat : (Cond.static y).before args s = true) (hinit : (Cond.initialized y.cls).before args s = true)
    (hcode : (Cond.code y bytes maxL ret).before args s = true) (hy : y.cls ≠ "java/lang/invoke/MethodHandle" ∧ y.cls ≠ "java/lang/invoke/VarHandle")
    {W9 : Nat} {Pre : Pt → Array Value → Prop} {Post : Pt → Array Value → Option Value → Pt → Prop} {PostX : Pt → Array Value → Addr → Pt → Prop} (hK : vx_Back l R p e below s args y 3 W9 Pre Post PostX)
    {g : JFrame} (hg : g.method = m) (hsize : g.locals.size = c.maxLocals) {argsL rest : List Value} (hlen : ∀ sig, parseMethodDescriptor y.desc = some sig → argsL.length = sig.parameters.length)
    (hstack : g.stack = argsL.reverse ++ rest) (hW : 2 * g.monitorRoom + (rest.map fun v => v.category).sum ≤ W9) (hdg : decode c.code g.pc = .ok (.invokestatic index, 3))
    (hpre : ∀ vm₁, s.WarmedH vm₁ → Pre ⟨T.setVm vm₁, locs, cells, slots⟩ argsL.toArray) :
    (∃ (v : Option Value) (vm₁ : Vm) (B : Pt), s.WarmedH vm₁ ∧ Stand p l e R s m args below meth c B.U B.locs B.cells B.slots ∧ Post ⟨T.setVm vm₁, locs, cells, slots⟩ argsL.toArray v B ∧
      ∀ target, Steps p.tables e below (B.U.setTop { g with pc := g.pc + 3, stack := v.toList ++ rest }) target → Steps p.tables e below (T.setTop g) target) ∨
    (∃ (q : Addr) (vm₁ : Vm) (B : Pt), s.WarmedH vm₁ ∧ Stand p l e R s m args below meth c B.U B.locs B.cells B.slots ∧ PostX ⟨T.setVm vm₁, locs, cells, slots⟩ argsL.toArray q B ∧
      Steps p.tables e below (T.setTop g) ((B.U.setTop { g with stack := rest }).pushFrame (.throwing q))) := by
  obtain ⟨mk, hnamed⟩ := Cond.code_named hcode
  obtain ⟨methM, cM, hmethM, -, -, -, -, -, -, hsigM⟩ := Cond.code_spec hnamed hcode
  have hstatic : methM.isStatic = true := Cond.static_spec hnamed hmethM hstat
  obtain ⟨kP, hkP, -⟩ := className_of_methodNamed hnamed
  have hinitP : kP.init = .initialized := Cond.initialized_spec (findClass_of_methodNamed hnamed) hkP hinit
  obtain ⟨vm₁, X₁, hstep₁⟩ := X.invokestatic hexec hown hlink hnamed hmethM hstatic hkP hinitP hy (g := g) hg (argsL := argsL) (rest := rest) (hlen _ hsigM) hstack hdg
  rcases hK m meth c ⟨T.setVm vm₁, locs, cells, slots⟩ { g with stack := rest } (.invokestatic index) mk argsL.toArray X₁ hg hsize hdg hW (X₁.named hnamed) (hpre vm₁ X₁.warmed) with ⟨v, B, X', hpost, hsteps⟩ | ⟨q, B, X', hpost, hsteps⟩
  · exact Or.inl ⟨v, vm₁, B, X₁.warmed, X', hpost, fun target h => hstep₁ _ fun acts => by rw [doInvoke_state]; exact hsteps.trans h⟩
  · exact Or.inr ⟨q, vm₁, B, X₁.warmed, X', hpost, hstep₁ _ fun acts => by rw [doInvoke_state]; exact hsteps⟩
end Calls
theorem vx_cls {s : State} {T : State} {vm₁ : Vm} {E : String} {k : ClassId} (hW : s.WarmedH vm₁) (h : (T.setVm vm₁).vm.findClass E = some k) : s.vm.findClass E = some k := by
  have h1 : vm₁.findClass E = some k := h
  rw [hW.alike.findClass] at h1
  exact h1
/-- the method's frame g, with q thrown over it -/
def vx_W (p : Program) (l : Launch) (e : Env) (R : Room) (s : State) (m : MethodId) (args : Array Value) (below : List Frame) (meth : Method) (c : Code) (H : Heap) (locs : List Loc) (cells slots : Nat) (Q : State → Prop) (g : JFrame) (q : Addr) : Prop :=
  ∀ T : State, T.heap = H → Stand p l e R s m args below meth c T locs cells slots → ∃ t, Steps p.tables e below ((T.setTop g).pushFrame (.throwing q)) t ∧ Q t
def vx_Run (p : Program) (l : Launch) (e : Env) (R : Room) (s : State) (m : MethodId) (args : Array Value) (below : List Frame) (meth : Method) (c : Code) (H : Heap) (locs : List Loc) (cells slots mc ms : Nat) (g : JFrame) (rest : List Value) (Qa : State → Outcome → State → Prop) (XC : String → State → State → Prop) (free : Addr → Prop) : Prop :=
  ∀ T : State, T.heap = H → Stand p l e R s m args below meth c T locs cells slots →
    (∃ (v : Option Value) (st₀ t T' : State) (L : List Loc), st₀.heap = H ∧ Stand p l e R s m args below meth c T' (locs ++ L) (cells + mc) (slots + ms) ∧ (∀ q ∈ L, free q.base) ∧ T'.heap = t.heap ∧ T'.vm = t.vm ∧ Qa st₀ (.returned v) t ∧
      Goes p e below T g T' { g with pc := g.pc + 3, stack := v.toList ++ rest }) ∨
    (∃ (q : Addr) (st₀ t T' : State) (L : List Loc) (E : String) (ce : Cell), st₀.heap = H ∧ Stand p l e R s m args below meth c T' (locs ++ L) (cells + mc) (slots + ms) ∧ (∀ z ∈ L, free z.base) ∧ T'.heap = t.heap ∧ T'.vm = t.vm ∧ XC E st₀ t ∧ t.heap[q]? = some ce ∧ ce.vm = .none ∧ s.vm.findClass E = some ce.cls ∧
      Steps p.tables e below (T.setTop g) ((T'.setTop { g with stack := rest }).pushFrame (.throwing q)))
def vx_X {S : Type} (px : S → Prop) (B : String → S → State → Prop) (A : Nat → Prop) : String → State → State → Prop := fun E st t => ∃ u : S, px u ∧ B E u t ∧ va_F A st t
section Runs
variable {p : Program} {l : Launch} {e : Env} {R : Room} {s : State} {m : MethodId} {args : Array Value} {below : List Frame} {meth : Method} {c : Code} {H : Heap} {locs : List Loc} {cells slots : Nat}
variable {y : MethodName} {bytes cc : ByteArray} {maxL nL mc ms n index : Nat} {ret : Option FieldType} {ws : List Cond} {rm : Room} {Pc : Array Value → State → Prop} {Qc : Array Value → State → Outcome → State → Prop} {XC : String → State → State → Prop} {free : Addr → Prop} {Ts : List Cond} {own C : String} {b : Addr} {As rest : List Value} {g : JFrame}
theorem vx_callBack (cb : CallB R s args own index y bytes maxL ret ws rm mc ms n) (hM : vx_Met l y ws rm Pc Qc XC mc ms free) (hbl : FrameBlind Pc) : vx_Back l R p e below s args y 3 8 (PreOf R mc ms Pc) (PostOf Qc mc ms free) (vx_Post XC mc ms free) := by
  obtain ⟨hrc, hrs, hfr, hlo, hws, hcw, -, hini, -⟩ := cb
  exact vx_back (bytes := bytes) (maxL := maxL) (ret := ret) hM hbl hrc hrs hfr hlo hws hcw (fun a' U hW => word_at hW (Or.inl (by first | rfl | simp [Cond.onTables, Cond.keeps, Cond.steady])) hini)
theorem vx_runV (S : CallFix p m c cc nL s args Ts own) (hM : vx_Met l y ws rm Pc Qc XC mc ms free) (cw : CallW R s args own C index y bytes maxL ret ws rm mc ms n) (hp : PreV s H C b Pc As)
    (hg : g.method = m) (hn : As.length = n) (hsize : g.locals.size = nL) (hstack : g.stack = As.reverse ++ .ref b :: rest) (hW : 2 * g.monitorRoom + (rest.map fun v => v.category).sum ≤ 8) (hdg : decode cc g.pc = .ok (.invokevirtual index, 3)) (hf : cells + mc ≤ R.cells ∧ slots + ms ≤ R.slots) :
    vx_Run p l e R s m args below meth c H locs cells slots mc ms g rest (Qc (Value.ref b :: As).toArray) XC free := by
  have hK : vx_Back l R p e below s args y 3 8 (PreOf R mc ms Pc) (PostOf Qc mc ms free) (vx_Post XC mc ms free) := vx_callBack cw.1 hM hp.1
  obtain ⟨⟨-, -, -, -, -, -, hcode, -, hy, hlen, hl⟩, hin, hse⟩ := cw
  obtain ⟨hx, hb, hml, ho, -⟩ := S
  obtain ⟨-, ⟨cellB, hcB, hoB, hclB⟩, hPc⟩ := hp
  intro T hT X
  rcases vx_callV X hx (C := C) (bytes := bytes) (maxL := maxL) (ret := ret) ho hl hin hse hcode hy hK (by rw [hT]; exact hcB) hoB hclB hg (hsize.trans hml.symm) (argsL := As) (rest := rest) (fun sig h => hn.trans (hlen sig h)) hstack hW (by rw [hb]; exact hdg)
    (fun vm₁ hW₁ => ⟨hf.1, hf.2, hPc (T.setVm vm₁) hT hW₁⟩) with ⟨v, vm₁, ⟨U', l2, c2, s2⟩, hW₁, X', ⟨g', mk, t, L, e1, e2, hq, h1, hL, h2, h3⟩, st⟩ | ⟨q, vm₁, ⟨U', l2, c2, s2⟩, hW₁, X', ⟨g', mk, t, L, E, ce, e1, e2, hq, hce, hcv, hcl, h1, hL, h2, h3⟩, st⟩
  · dsimp only [Pt.U, Pt.locs, Pt.cells, Pt.slots] at X' e1 e2 h1 h2 h3 st
    subst h1; subst h2; subst h3
    exact Or.inl ⟨v, (T.setVm vm₁).calling g' mk (Value.ref b :: As).toArray, t, U', L, hT, X', hL, e1, e2, hq, st⟩
  · dsimp only [Pt.U, Pt.locs, Pt.cells, Pt.slots] at X' e1 e2 h1 h2 h3 st hcl
    subst h1; subst h2; subst h3
    exact Or.inr ⟨q, (T.setVm vm₁).calling g' mk (Value.ref b :: As).toArray, t, U', L, E, ce, hT, X', hL, e1, e2, hq, hce, hcv, vx_cls hW₁ hcl, st⟩
theorem vx_runS (S : CallFix p m c cc nL s args Ts own) (hM : vx_Met l y ws rm Pc Qc XC mc ms free) (cw : CallB R s args own index y bytes maxL ret ws rm mc ms n ∧ (Cond.static y).before args s = true) (hp : PreS s H Pc As)
    (hg : g.method = m) (hn : As.length = n) (hsize : g.locals.size = nL) (hstack : g.stack = As.reverse ++ rest) (hW : 2 * g.monitorRoom + (rest.map fun v => v.category).sum ≤ 8) (hdg : decode cc g.pc = .ok (.invokestatic index, 3)) (hf : cells + mc ≤ R.cells ∧ slots + ms ≤ R.slots) :
    vx_Run p l e R s m args below meth c H locs cells slots mc ms g rest (Qc As.toArray) XC free := by
  have hK : vx_Back l R p e below s args y 3 8 (PreOf R mc ms Pc) (PostOf Qc mc ms free) (vx_Post XC mc ms free) := vx_callBack cw.1 hM hp.1
  obtain ⟨⟨-, -, -, -, -, -, hcode, hini, hy, hlen, hl⟩, hstt⟩ := cw
  obtain ⟨hx, hb, hml, ho, -⟩ := S
  intro T hT X
  rcases vx_callS X hx (bytes := bytes) (maxL := maxL) (ret := ret) ho hl hstt hini hcode hy hK hg (hsize.trans hml.symm) (argsL := As) (rest := rest) (fun sig h => hn.trans (hlen sig h)) hstack hW (by rw [hb]; exact hdg)
    (fun vm₁ hW₁ => ⟨hf.1, hf.2, hp.2 (T.setVm vm₁) hT hW₁⟩) with ⟨v, vm₁, ⟨U', l2, c2, s2⟩, hW₁, X', ⟨g', mk, t, L, e1, e2, hq, h1, hL, h2, h3⟩, st⟩ | ⟨q, vm₁, ⟨U', l2, c2, s2⟩, hW₁, X', ⟨g', mk, t, L, E, ce, e1, e2, hq, hce, hcv, hcl, h1, hL, h2, h3⟩, st⟩
  · dsimp only [Pt.U, Pt.locs, Pt.cells, Pt.slots] at X' e1 e2 h1 h2 h3 st
    subst h1; subst h2; subst h3
    exact Or.inl ⟨v, (T.setVm vm₁).calling g' mk As.toArray, t, U', L, hT, X', hL, e1, e2, hq, st⟩
  · dsimp only [Pt.U, Pt.locs, Pt.cells, Pt.slots] at X' e1 e2 h1 h2 h3 st hcl
    subst h1; subst h2; subst h3
    exact Or.inr ⟨q, (T.setVm vm₁).calling g' mk As.toArray, t, U', L, E, ce, hT, X', hL, e1, e2, hq, hce, hcv, vx_cls hW₁ hcl, st⟩
end Runs
section Rows
variable {p : Program} {l : Launch} {e : Env} {R : Room} {s : State} {m : MethodId} {args : Array Value} {below : List Frame} {meth : Method} {c : Code} {H : Heap} {locs : List Loc} {cells slots : Nat} {Q : State → Prop}
variable {mc ms : Nat} {free : Addr → Prop} {A0 A1 : Nat → Prop} {H0 : Heap} {a : Array Value} {pc : Nat} {ls : Array Slot} {st0 rest : List Value}
theorem vx_keep {st₀ t T' : State} {L : List Loc} (h0 : st₀.heap = H) (e1 : T'.heap = t.heap) (hS : va_S A0 H0 H locs) (hA : ∀ q, q < H.size → A1 q → A0 q) (hf : ∀ q, free q → A0 q) (hL : ∀ q ∈ L, free q.base) (hF : va_F A1 st₀ t) :
    H.size ≤ T'.heap.size ∧ (∀ q : Nat, q < H.size → ¬ A1 q → T'.heap[q]? = H[q]?) ∧ va_S A0 H0 T'.heap (locs ++ L) := by
  obtain ⟨hz, hk⟩ := hF
  rw [h0] at hz hk
  exact ⟨by rw [e1]; exact hz, fun q h1 h2 => by rw [e1]; exact hk q h1 h2,
    ⟨Nat.le_trans hS.1 (by rw [e1]; exact hz), fun q h1 h2 => by rw [e1, hk q (Nat.lt_of_lt_of_le h1 hS.1) (fun z => h2 (hA q (Nat.lt_of_lt_of_le h1 hS.1) z))]; exact hS.2.1 q h1 h2, fun q hq => by
      rcases List.mem_append.mp hq with h | h
      · exact hS.2.2 q h
      · exact hf _ (hL q h)⟩⟩
theorem vx_calli {S SX : Type} {post : Int32 → S → Prop} {px : SX → Prop} {B : S → State → Prop} {BX : String → SX → State → Prop} {AX : Nat → Prop} (hr : vx_Run p l e R s m args below meth c H locs cells slots mc ms (F0 m pc ls st0) rest (va_Qi post B A1 a) (vx_X px BX AX) free) (hS : va_S A0 H0 H locs) (hA : ∀ q, q < H.size → A1 q → A0 q) (hf : ∀ q, free q → A0 q) (hAX : ∀ q, q < H.size → AX q → A0 q)
    (kx : ∀ (E : String) (ce : Cell) (q9 : Addr) (u : SX) (t : State) (H1 : Heap) (locs1 : List Loc), t.heap = H1 → s.vm.Alike t.vm → px u → BX E u t → H.size ≤ H1.size → (∀ q : Nat, q < H.size → ¬ AX q → H1[q]? = H[q]?) → va_S A0 H0 H1 locs1 → H1[q9]? = some ce → ce.vm = .none → s.vm.findClass E = some ce.cls → vx_W p l e R s m args below meth c H1 locs1 (cells + mc) (slots + ms) Q (F0 m pc ls rest) q9)
    (kk : ∀ (r : Int32) (u : S) (t : State) (H1 : Heap) (locs1 : List Loc), t.heap = H1 → s.vm.Alike t.vm → post r u → B u t → H.size ≤ H1.size → (∀ q : Nat, q < H.size → ¬ A1 q → H1[q]? = H[q]?) → va_S A0 H0 H1 locs1 → W p l e R s m args below meth c H1 locs1 (cells + mc) (slots + ms) Q (F0 m (pc + 3) ls (.int r :: rest))) : W p l e R s m args below meth c H locs cells slots Q (F0 m pc ls st0) := by
  intro T hT X
  rcases hr T hT X with ⟨v, st₀, t, T', L, h0, X', hL, e1, e2, ⟨⟨r, u, hv, hp, hb⟩, hF⟩, st⟩ | ⟨q, st₀, t, T', L, E, ce, h0, X', hL, e1, e2, ⟨u, hp, hb, hF⟩, hce, hcv, hcl, st⟩
  · cases hv
    obtain ⟨k1, k2, k3⟩ := vx_keep h0 e1 hS hA hf hL hF
    obtain ⟨t2, a1, b1⟩ := kk r u t T'.heap (locs ++ L) e1.symm (by rw [← e2]; exact X'.warmed.alike) hp hb k1 k2 k3 T' rfl X'
    exact ⟨t2, st t2 a1, b1⟩
  · obtain ⟨k1, k2, k3⟩ := vx_keep h0 e1 hS hAX hf hL hF
    obtain ⟨t2, a1, b1⟩ := kx E ce q u t T'.heap (locs ++ L) e1.symm (by rw [← e2]; exact X'.warmed.alike) hp hb k1 k2 k3 (by rw [e1]; exact hce) hcv hcl T' rfl X'
    exact ⟨t2, st.trans a1, b1⟩
theorem vx_calll {S SX : Type} {post : Int64 → S → Prop} {px : SX → Prop} {B : S → State → Prop} {BX : String → SX → State → Prop} {AX : Nat → Prop} (hr : vx_Run p l e R s m args below meth c H locs cells slots mc ms (F0 m pc ls st0) rest (va_Ql post B A1 a) (vx_X px BX AX) free) (hS : va_S A0 H0 H locs) (hA : ∀ q, q < H.size → A1 q → A0 q) (hf : ∀ q, free q → A0 q) (hAX : ∀ q, q < H.size → AX q → A0 q)
    (kx : ∀ (E : String) (ce : Cell) (q9 : Addr) (u : SX) (t : State) (H1 : Heap) (locs1 : List Loc), t.heap = H1 → s.vm.Alike t.vm → px u → BX E u t → H.size ≤ H1.size → (∀ q : Nat, q < H.size → ¬ AX q → H1[q]? = H[q]?) → va_S A0 H0 H1 locs1 → H1[q9]? = some ce → ce.vm = .none → s.vm.findClass E = some ce.cls → vx_W p l e R s m args below meth c H1 locs1 (cells + mc) (slots + ms) Q (F0 m pc ls rest) q9)
    (kk : ∀ (r : Int64) (u : S) (t : State) (H1 : Heap) (locs1 : List Loc), t.heap = H1 → s.vm.Alike t.vm → post r u → B u t → H.size ≤ H1.size → (∀ q : Nat, q < H.size → ¬ A1 q → H1[q]? = H[q]?) → va_S A0 H0 H1 locs1 → W p l e R s m args below meth c H1 locs1 (cells + mc) (slots + ms) Q (F0 m (pc + 3) ls (.long r :: rest))) : W p l e R s m args below meth c H locs cells slots Q (F0 m pc ls st0) := by
  intro T hT X
  rcases hr T hT X with ⟨v, st₀, t, T', L, h0, X', hL, e1, e2, ⟨⟨r, u, hv, hp, hb⟩, hF⟩, st⟩ | ⟨q, st₀, t, T', L, E, ce, h0, X', hL, e1, e2, ⟨u, hp, hb, hF⟩, hce, hcv, hcl, st⟩
  · cases hv
    obtain ⟨k1, k2, k3⟩ := vx_keep h0 e1 hS hA hf hL hF
    obtain ⟨t2, a1, b1⟩ := kk r u t T'.heap (locs ++ L) e1.symm (by rw [← e2]; exact X'.warmed.alike) hp hb k1 k2 k3 T' rfl X'
    exact ⟨t2, st t2 a1, b1⟩
  · obtain ⟨k1, k2, k3⟩ := vx_keep h0 e1 hS hAX hf hL hF
    obtain ⟨t2, a1, b1⟩ := kx E ce q u t T'.heap (locs ++ L) e1.symm (by rw [← e2]; exact X'.warmed.alike) hp hb k1 k2 k3 (by rw [e1]; exact hce) hcv hcl T' rfl X'
    exact ⟨t2, st.trans a1, b1⟩
theorem vx_callf {S SX : Type} {post : UInt32 → S → Prop} {px : SX → Prop} {B : S → State → Prop} {BX : String → SX → State → Prop} {AX : Nat → Prop} (hr : vx_Run p l e R s m args below meth c H locs cells slots mc ms (F0 m pc ls st0) rest (va_Qf post B A1 a) (vx_X px BX AX) free) (hS : va_S A0 H0 H locs) (hA : ∀ q, q < H.size → A1 q → A0 q) (hf : ∀ q, free q → A0 q) (hAX : ∀ q, q < H.size → AX q → A0 q)
    (kx : ∀ (E : String) (ce : Cell) (q9 : Addr) (u : SX) (t : State) (H1 : Heap) (locs1 : List Loc), t.heap = H1 → s.vm.Alike t.vm → px u → BX E u t → H.size ≤ H1.size → (∀ q : Nat, q < H.size → ¬ AX q → H1[q]? = H[q]?) → va_S A0 H0 H1 locs1 → H1[q9]? = some ce → ce.vm = .none → s.vm.findClass E = some ce.cls → vx_W p l e R s m args below meth c H1 locs1 (cells + mc) (slots + ms) Q (F0 m pc ls rest) q9)
    (kk : ∀ (r : UInt32) (u : S) (t : State) (H1 : Heap) (locs1 : List Loc), t.heap = H1 → s.vm.Alike t.vm → post r u → B u t → H.size ≤ H1.size → (∀ q : Nat, q < H.size → ¬ A1 q → H1[q]? = H[q]?) → va_S A0 H0 H1 locs1 → W p l e R s m args below meth c H1 locs1 (cells + mc) (slots + ms) Q (F0 m (pc + 3) ls (.float r :: rest))) : W p l e R s m args below meth c H locs cells slots Q (F0 m pc ls st0) := by
  intro T hT X
  rcases hr T hT X with ⟨v, st₀, t, T', L, h0, X', hL, e1, e2, ⟨⟨r, u, hv, hp, hb⟩, hF⟩, st⟩ | ⟨q, st₀, t, T', L, E, ce, h0, X', hL, e1, e2, ⟨u, hp, hb, hF⟩, hce, hcv, hcl, st⟩
  · cases hv
    obtain ⟨k1, k2, k3⟩ := vx_keep h0 e1 hS hA hf hL hF
    obtain ⟨t2, a1, b1⟩ := kk r u t T'.heap (locs ++ L) e1.symm (by rw [← e2]; exact X'.warmed.alike) hp hb k1 k2 k3 T' rfl X'
    exact ⟨t2, st t2 a1, b1⟩
  · obtain ⟨k1, k2, k3⟩ := vx_keep h0 e1 hS hAX hf hL hF
    obtain ⟨t2, a1, b1⟩ := kx E ce q u t T'.heap (locs ++ L) e1.symm (by rw [← e2]; exact X'.warmed.alike) hp hb k1 k2 k3 (by rw [e1]; exact hce) hcv hcl T' rfl X'
    exact ⟨t2, st.trans a1, b1⟩
theorem vx_calld {S SX : Type} {post : UInt64 → S → Prop} {px : SX → Prop} {B : S → State → Prop} {BX : String → SX → State → Prop} {AX : Nat → Prop} (hr : vx_Run p l e R s m args below meth c H locs cells slots mc ms (F0 m pc ls st0) rest (va_Qd post B A1 a) (vx_X px BX AX) free) (hS : va_S A0 H0 H locs) (hA : ∀ q, q < H.size → A1 q → A0 q) (hf : ∀ q, free q → A0 q) (hAX : ∀ q, q < H.size → AX q → A0 q)
    (kx : ∀ (E : String) (ce : Cell) (q9 : Addr) (u : SX) (t : State) (H1 : Heap) (locs1 : List Loc), t.heap = H1 → s.vm.Alike t.vm → px u → BX E u t → H.size ≤ H1.size → (∀ q : Nat, q < H.size → ¬ AX q → H1[q]? = H[q]?) → va_S A0 H0 H1 locs1 → H1[q9]? = some ce → ce.vm = .none → s.vm.findClass E = some ce.cls → vx_W p l e R s m args below meth c H1 locs1 (cells + mc) (slots + ms) Q (F0 m pc ls rest) q9)
    (kk : ∀ (r : UInt64) (u : S) (t : State) (H1 : Heap) (locs1 : List Loc), t.heap = H1 → s.vm.Alike t.vm → post r u → B u t → H.size ≤ H1.size → (∀ q : Nat, q < H.size → ¬ A1 q → H1[q]? = H[q]?) → va_S A0 H0 H1 locs1 → W p l e R s m args below meth c H1 locs1 (cells + mc) (slots + ms) Q (F0 m (pc + 3) ls (.double r :: rest))) : W p l e R s m args below meth c H locs cells slots Q (F0 m pc ls st0) := by
  intro T hT X
  rcases hr T hT X with ⟨v, st₀, t, T', L, h0, X', hL, e1, e2, ⟨⟨r, u, hv, hp, hb⟩, hF⟩, st⟩ | ⟨q, st₀, t, T', L, E, ce, h0, X', hL, e1, e2, ⟨u, hp, hb, hF⟩, hce, hcv, hcl, st⟩
  · cases hv
    obtain ⟨k1, k2, k3⟩ := vx_keep h0 e1 hS hA hf hL hF
    obtain ⟨t2, a1, b1⟩ := kk r u t T'.heap (locs ++ L) e1.symm (by rw [← e2]; exact X'.warmed.alike) hp hb k1 k2 k3 T' rfl X'
    exact ⟨t2, st t2 a1, b1⟩
  · obtain ⟨k1, k2, k3⟩ := vx_keep h0 e1 hS hAX hf hL hF
    obtain ⟨t2, a1, b1⟩ := kx E ce q u t T'.heap (locs ++ L) e1.symm (by rw [← e2]; exact X'.warmed.alike) hp hb k1 k2 k3 (by rw [e1]; exact hce) hcv hcl T' rfl X'
    exact ⟨t2, st.trans a1, b1⟩
theorem vx_callv {S SX : Type} {post : S → Prop} {px : SX → Prop} {B : S → State → Prop} {BX : String → SX → State → Prop} {AX : Nat → Prop} (hr : vx_Run p l e R s m args below meth c H locs cells slots mc ms (F0 m pc ls st0) rest (va_Qv post B A1 a) (vx_X px BX AX) free) (hS : va_S A0 H0 H locs) (hA : ∀ q, q < H.size → A1 q → A0 q) (hf : ∀ q, free q → A0 q) (hAX : ∀ q, q < H.size → AX q → A0 q)
    (kx : ∀ (E : String) (ce : Cell) (q9 : Addr) (u : SX) (t : State) (H1 : Heap) (locs1 : List Loc), t.heap = H1 → s.vm.Alike t.vm → px u → BX E u t → H.size ≤ H1.size → (∀ q : Nat, q < H.size → ¬ AX q → H1[q]? = H[q]?) → va_S A0 H0 H1 locs1 → H1[q9]? = some ce → ce.vm = .none → s.vm.findClass E = some ce.cls → vx_W p l e R s m args below meth c H1 locs1 (cells + mc) (slots + ms) Q (F0 m pc ls rest) q9)
    (kk : ∀ (u : S) (t : State) (H1 : Heap) (locs1 : List Loc), t.heap = H1 → s.vm.Alike t.vm → post u → B u t → H.size ≤ H1.size → (∀ q : Nat, q < H.size → ¬ A1 q → H1[q]? = H[q]?) → va_S A0 H0 H1 locs1 → W p l e R s m args below meth c H1 locs1 (cells + mc) (slots + ms) Q (F0 m (pc + 3) ls (rest))) : W p l e R s m args below meth c H locs cells slots Q (F0 m pc ls st0) := by
  intro T hT X
  rcases hr T hT X with ⟨v, st₀, t, T', L, h0, X', hL, e1, e2, ⟨⟨u, hv, hp, hb⟩, hF⟩, st⟩ | ⟨q, st₀, t, T', L, E, ce, h0, X', hL, e1, e2, ⟨u, hp, hb, hF⟩, hce, hcv, hcl, st⟩
  · cases hv
    obtain ⟨k1, k2, k3⟩ := vx_keep h0 e1 hS hA hf hL hF
    obtain ⟨t2, a1, b1⟩ := kk u t T'.heap (locs ++ L) e1.symm (by rw [← e2]; exact X'.warmed.alike) hp hb k1 k2 k3 T' rfl X'
    exact ⟨t2, st t2 a1, b1⟩
  · obtain ⟨k1, k2, k3⟩ := vx_keep h0 e1 hS hAX hf hL hF
    obtain ⟨t2, a1, b1⟩ := kx E ce q u t T'.heap (locs ++ L) e1.symm (by rw [← e2]; exact X'.warmed.alike) hp hb k1 k2 k3 (by rw [e1]; exact hce) hcv hcl T' rfl X'
    exact ⟨t2, st.trans a1, b1⟩
/-- caught by the row x of this method's table; the rows ahead don't take it -/
theorem vx_catch {own name : String} {E : String} {ce : Cell} {q : Addr} (hown : s.vm.findClass own = some m.cls) (pre : List ExceptionTableEntry) (x : ExceptionTableEntry) (suf : List ExceptionTableEntry) (hsplit : c.exceptionTable.toList = pre ++ x :: suf)
    (hpass : ∀ z ∈ pre, covers z pc = false ∨ (z.catchType ≠ 0 ∧ ∃ nm : String, (Cond.classLink own z.catchType nm).before args s = true ∧ va_Nc E nm s)) (hx : covers x pc = true) (h0 : x.catchType ≠ 0)
    (hlink : (Cond.classLink own x.catchType name).before args s = true) (hcast : (Cond.castable E name).before args s = true) (hcell : H[q]? = some ce) (hv : ce.vm = .none) (hcl : s.vm.findClass E = some ce.cls)
    (kk : W p l e R s m args below meth c H locs cells slots Q (F0 m x.handlerPc ls [.ref q])) : vx_W p l e R s m args below meth c H locs cells slots Q (F0 m pc ls rest) q := by
  intro T hT X
  have hpl : e.platform.magicAccessors = ({} : Platform).magicAccessors := by rw [X.admits.platform]
  obtain ⟨c3, c4, hc3, hc4, hasg⟩ := Cond.castable_spec hcast
  cases Option.some.inj (hc3.symm.trans hcl)
  obtain ⟨c5, hc5, hcl5⟩ := Cond.classLink_spec hown hlink e.platform hpl
  cases Option.some.inj (hc4.symm.trans hc5)
  obtain ⟨vm', X', st⟩ := X.thenCaughtThrough q (g := F0 m pc ls rest) rfl (Steps.refl _) (by rw [hT]; exact hcell) (by rw [hv]; rfl) (by obtain ⟨k9, h9, -⟩ := Vm.findClass_spec hcl; exact ⟨k9, h9⟩) pre x suf hsplit
    (fun z hz => by
      rcases hpass z hz with h | ⟨hz0, nm, hl1, hn1⟩
      · exact Or.inl h
      · obtain ⟨c6, hc6, hcl6⟩ := Cond.classLink_spec hown hl1 e.platform hpl
        obtain ⟨a8, b8, h1, h2, h3⟩ := hn1
        cases Option.some.inj (h1.symm.trans hcl)
        cases Option.some.inj (h2.symm.trans hc6)
        exact Or.inr ⟨hz0, _, hcl6, h3⟩) hx (Or.inr ⟨h0, c4, hcl5, hasg⟩)
  obtain ⟨t, a1, b1⟩ := kk (T.setVm vm') hT X'
  exact ⟨t, st.trans a1, b1⟩
end Rows
section Ends
variable {p : Program} {l : Launch} {e : Env} {R : Room} {s : State} {m : MethodId} {args : Array Value} {below : List Frame} {meth : Method} {c : Code} {H : Heap} {locs : List Loc} {cells slots : Nat} {Q : State → Prop}
variable {mc ms : Nat} {free : Addr → Prop} {A0 A1 : Nat → Prop} {H0 : Heap} {a : Array Value} {ls : Array Slot} {st0 rest : List Value}
variable {Qc : Array Value → State → Outcome → State → Prop} {XC : String → State → State → Prop}
/-- what a body that may throw owes at its end -/
def vx_MQ (below : List Frame) (Qc : Array Value → State → Outcome → State → Prop) (XC : String → State → State → Prop) (a : Array Value) (s : State) (mc ms : Nat) (free : Addr → Prop) : State → Prop := fun t =>
  ∃ o, t.status = .running ∧ Ended t below o ∧ vx_Q Qc XC mc ms free a s o t
theorem vx_ret {g : JFrame} {mc ms : Nat} (k : W p l e R s m args below meth c H locs cells slots (MQ below Qc args s mc ms free) g) : W p l e R s m args below meth c H locs cells slots (vx_MQ below Qc XC args s mc ms free) g := by
  intro T hT X
  obtain ⟨t, a1, o, b1, b2, b3, b4⟩ := k T hT X
  exact ⟨t, a1, o, b1, b2, Or.inl ⟨b3, b4⟩⟩
/-- not caught here: it goes on to the caller -/
theorem vx_widen {g : JFrame} {q : Addr} {k n : Nat} (h1 : cells ≤ k) (h2 : slots ≤ n) (kk : vx_W p l e R s m args below meth c H locs k n Q g q) : vx_W p l e R s m args below meth c H locs cells slots Q g q := fun T hT X => kk T hT (stand_widen X h1 h2)
theorem vx_out {pc : Nat} {E : String} {ce : Cell} {q : Addr} {mc ms : Nat} (hout : ∀ x ∈ c.exceptionTable.toList, covers x pc = false) (hlocks : meth.locks = false) (hcell : H[q]? = some ce) (hv : ce.vm = .none) (hcl : s.vm.findClass E = some ce.cls)
    (hx : ∀ t : State, t.heap = H → s.vm.Alike t.vm → XC E s t) (hf : ∀ z ∈ locs, free z.base) (hc : cells ≤ mc) (hs : slots ≤ ms) :
    vx_W p l e R s m args below meth c H locs cells slots (vx_MQ below Qc XC args s mc ms free) (F0 m pc ls rest) q := by
  intro T hT X
  obtain ⟨st1, hrun, hend, hW, hsm⟩ := X.leaveThrown q (g := F0 m pc ls rest) rfl rfl rfl hout hlocks
  have hcell9 : (T.setFrames (.throwing q :: below)).heap[q]? = some ce := by
    show T.heap[q]? = some ce
    rw [hT]; exact hcell
  exact ⟨_, st1, .threw q, hrun, hend, Or.inr ⟨q, rfl, E, ce, locs, hx _ hT hW.alike, hcell9, hv, hcl, hW, hsm.mono hc hs, hf⟩⟩
theorem vx_frame {U : State} {k n : Nat} (h : s.sameButNew ({ U with vm := s.vm } : State) locs k n) : s.heap.size ≤ U.heap.size ∧ ∀ q : Nat, q < s.heap.size → (∀ z ∈ locs, z.base ≠ q) → U.heap[q]? = s.heap[q]? := by
  obtain ⟨-, h2, -, -, -, h6⟩ := h
  refine ⟨h2, fun q hq hz => ?_⟩
  obtain ⟨c9, e1, e2, e3, e4⟩ := h6 q _ (Array.getElem?_eq_getElem hq)
  have hs : c9.slots = (s.heap[q]).slots := Array.ext_getElem? fun i => e4 i fun hm => hz _ hm rfl
  have h9 : c9 = s.heap[q] := by
    rw [hs] at e2
    exact e2
  have e5 : U.heap[q]? = some c9 := e1
  rw [e5, h9, Array.getElem?_eq_getElem hq]
/-- the words of a throw but the four that speak of the heap -/
def vx_no (w : Cond) : Bool := decide (w ≠ .isRef (.static Bundle.tN "UNASSIGNED_STACK" Bundle.steD)) && decide (w ≠ .isRef (.static Bundle.tN "SUPPRESSED_SENTINEL" Bundle.listD)) && decide (w ≠ .laysStatic Bundle.tN "UNASSIGNED_STACK" Bundle.steD) && decide (w ≠ .laysStatic Bundle.tN "SUPPRESSED_SENTINEL" Bundle.listD)
def vx_at0 (own : String) (ic : Nat) (X : String) (names : List String) : List Cond := (Bundle.ownAtoms0 own ic X names).filter vx_no
def vx_atS (own : String) (ic : Nat) (X : String) (names : List String) : List Cond := (Bundle.ownAtoms own ic X names).filter vx_no
/-- a word that the tables alone decide, or a good one -/
def vx_ot (w : Cond) : Bool := w.onTables || goodWord w
theorem vx_ot_at {args a' : Array Value} {s U : State} {w : Cond} (hW : s.WarmedH U.vm) (hvm : s.vm = U.vm) (hg : vx_ot w = true) (h : w.before args s = true) : w.before a' U = true := by
  simp only [vx_ot, Bool.or_eq_true] at hg
  rcases hg with hg | hg
  · exact va_tabs hg hvm h
  · exact word_at hW (good_of_word hg) h
/-- a list's words: the good ones out of the method's own list, the others by premises of their own -/
theorem vx_hat {args : Array Value} {s : State} {L B : List Cond} (h1 : ∀ w ∈ L.filter goodWord, w.before args s = true) (h2 : ∀ w ∈ L.filter (fun w => !goodWord w), w ∈ B) (h3 : ∀ w ∈ B, w.before args s = true) : ∀ w ∈ L, w.before args s = true := by
  intro w hw
  by_cases g : goodWord w = true
  · exact h1 w (List.mem_filter.mpr ⟨hw, g⟩)
  · refine h3 w (h2 w (List.mem_filter.mpr ⟨hw, ?_⟩))
    show (!goodWord w) = true
    cases hgw : goodWord w
    · rfl
    · exact absurd hgw g
theorem vx_c {args : Array Value} {s : State} {w : Cond} {B : List Cond} (h : w.before args s = true) (t : ∀ w ∈ B, w.before args s = true) : ∀ w' ∈ w :: B, w'.before args s = true := fun w' h' => (List.mem_cons.mp h').elim (fun e => by rw [e]; exact h) (t w')
theorem vx_n {args : Array Value} {s : State} : ∀ w ∈ ([] : List Cond), w.before args s = true := fun _ h => nomatch h
theorem vx_own {args : Array Value} {s : State} {L : List Cond} (h1 : ∀ w ∈ L.filter vx_no, w.before args s = true)
    (hU : (Cond.isRef (.static Bundle.tN "UNASSIGNED_STACK" Bundle.steD)).before args s = true) (hN : (Cond.isRef (.static Bundle.tN "SUPPRESSED_SENTINEL" Bundle.listD)).before args s = true)
    (lU : (Cond.laysStatic Bundle.tN "UNASSIGNED_STACK" Bundle.steD).before args s = true) (lN : (Cond.laysStatic Bundle.tN "SUPPRESSED_SENTINEL" Bundle.listD).before args s = true) : ∀ w ∈ L, w.before args s = true := by
  intro w hw
  by_cases e1 : w = .isRef (.static Bundle.tN "UNASSIGNED_STACK" Bundle.steD)
  · rw [e1]; exact hU
  · by_cases e2 : w = .isRef (.static Bundle.tN "SUPPRESSED_SENTINEL" Bundle.listD)
    · rw [e2]; exact hN
    · by_cases e3 : w = .laysStatic Bundle.tN "UNASSIGNED_STACK" Bundle.steD
      · rw [e3]; exact lU
      · by_cases e4 : w = .laysStatic Bundle.tN "SUPPRESSED_SENTINEL" Bundle.listD
        · rw [e4]; exact lN
        · exact h1 w (List.mem_filter.mpr ⟨hw, by unfold vx_no; rw [decide_eq_true e1, decide_eq_true e2, decide_eq_true e3, decide_eq_true e4]; rfl⟩)
/-- where a static field lies, its class's statics cell in H -/
def vx_L (C n d : String) (A : Nat → Prop) (U : State) (H : Heap) : Prop := ∃ (c : ClassId) (k : Class) (i : Nat) (f : Field) (a : Nat) (cell : Cell), U.vm.findClass C = some c ∧ U.fieldFound? C n d = some (c, k, i, f) ∧ f.isStatic = true ∧ k.statics = some a ∧ H[a]? = some cell ∧ cell.vm.isStatics = true ∧ cell.cls = c ∧ f.slot < cell.slots.size ∧ k.staticTypes[f.slot]? = some f.type ∧ ¬ A a
theorem vx_L.moved {C n d : String} {A : Nat → Prop} {u U : State} {H : Heap} (hvm : u.vm.Alike U.vm) (h : vx_L C n d A u H) : vx_L C n d A U H := by
  obtain ⟨c, k, i, f, a, cell, h1, h2, h3, h4, h5, h6, h7, h8, h9, h10⟩ := h
  obtain ⟨k', hi', he⟩ := State.fieldFound?_setVm hvm h2
  exact ⟨c, k', i, f, a, cell, by rw [hvm.findClass]; exact h1, hi', h3, by rw [he]; exact h4, h5, h6, h7, h8, by rw [he]; exact h9, h10⟩
theorem vx_L.kept {C n d : String} {A : Nat → Prop} {U : State} {H H1 : Heap} (h : vx_L C n d A U H) (hq : ∀ a : Nat, a < H.size → ¬ A a → H1[a]? = H[a]?) : vx_L C n d A U H1 := by
  obtain ⟨c, k, i, f, a, cell, h1, h2, h3, h4, h5, h6, h7, h8, h9, h10⟩ := h
  exact ⟨c, k, i, f, a, cell, h1, h2, h3, h4, by rw [hq a (Array.getElem?_eq_some_iff.mp h5).1 h10]; exact h5, h6, h7, h8, h9, h10⟩
theorem vx_L.narrow {C n d : String} {A B : Nat → Prop} {U : State} {H : Heap} (h : vx_L C n d A U H) (hAB : ∀ q, B q → A q) : vx_L C n d B U H := by
  obtain ⟨c, k, i, f, a, cell, h1, h2, h3, h4, h5, h6, h7, h8, h9, h10⟩ := h
  exact ⟨c, k, i, f, a, cell, h1, h2, h3, h4, h5, h6, h7, h8, h9, fun z => h10 (hAB _ z)⟩
theorem vx_L.word {C n d : String} {A : Nat → Prop} {s : State} {args : Array Value} (h : vx_L C n d A s s.heap) : (Cond.laysStatic C n d).before args s = true := by
  obtain ⟨c, k, i, f, a, cell, h1, h2, h3, h4, h5, h6, h7, h8, h9, -⟩ := h
  show (Cond.laysStatic C n d).holds args s none s [] = true
  exact Cond.laysStatic_of h1 h2 h3 h4 h5 h6 h7 h8 h9
/-- .. and what it holds: null or some reference -/
def vx_Zq (C n d : String) (A : Nat → Prop) (U : State) (H : Heap) : Prop := va_Zq C n d A U H ∧ vx_L C n d A U H
theorem vx_Zq.moved {C n d : String} {A : Nat → Prop} {u U : State} {H : Heap} (hvm : u.vm.Alike U.vm) (h : vx_Zq C n d A u H) : vx_Zq C n d A U H := ⟨va_Zq.moved hvm h.1, vx_L.moved hvm h.2⟩
theorem vx_Zq.kept {C n d : String} {A : Nat → Prop} {U : State} {H H1 : Heap} (h : vx_Zq C n d A U H) (hq : ∀ a : Nat, a < H.size → ¬ A a → H1[a]? = H[a]?) : vx_Zq C n d A U H1 := ⟨va_Zq.kept h.1 hq, vx_L.kept h.2 hq⟩
theorem vx_Zq.narrow {C n d : String} {A B : Nat → Prop} {U : State} {H : Heap} (h : vx_Zq C n d A U H) (hAB : ∀ q, B q → A q) : vx_Zq C n d B U H := ⟨va_Zq.narrow h.1 hAB, vx_L.narrow h.2 hAB⟩
theorem vx_Zqof {args : Array Value} {s : State} {C n d : String} {A : Nat → Prop} (hl : (Cond.laysStatic C n d).before args s = true) (hini : (Cond.initialized C).before args s = true) (h : (Cond.isRef (.static C n d)).before args s = true) (hA : ∀ a : Nat, a < s.heap.size → ¬ A a) : vx_Zq C n d A s s.heap := by
  refine ⟨va_Zqof hl hini h hA, ?_⟩
  obtain ⟨c, k, i, f, a, cell, h1, h2, h3, h4, h5, h6, h7, h8, h9⟩ := Cond.laysStatic_spec hl
  exact ⟨c, k, i, f, a, cell, h1, h2, h3, h4, h5, h6, h7, h8, h9, hA a (Array.getElem?_eq_some_iff.mp h5).1⟩
theorem vx_isRef {C n d : String} {v : Value} {A : Nat → Prop} {s : State} {args : Array Value} (h : va_Z C n d v A s s.heap) (hv : v.isRef = true) : (Cond.isRef (.static C n d)).before args s = true := by
  obtain ⟨cf, kf, fi, f, a, cell, h1, h2, h3, h4, h5, h6, h7, -⟩ := h
  have he : (Term.static C n d).eval args s none [] s = some v := by
    simp [Term.eval, State.fieldNamed?, h1, h2, h4, h5, h6, h7]
  simp only [Cond.before, Cond.holds, Cond.value, he]
  cases v <;> simp_all [Value.isRef]
theorem vx_isRefq {C n d : String} {A : Nat → Prop} {s : State} {args : Array Value} (h : va_Zq C n d A s s.heap) : (Cond.isRef (.static C n d)).before args s = true := by
  rcases h with h | ⟨t, h⟩
  · exact vx_isRef h rfl
  · exact vx_isRef h rfl
/-- the same frame, seen from here: as if the method were called anew in this heap -/
theorem vx_rebase {T : State} (X : Stand p l e R s m args below meth c T locs cells slots) {R' : Room} (hf : R'.frames ≤ R.frames) (hl : R'.locals ≤ R.locals) (hc : cells + R'.cells ≤ R.cells) (hs : slots + R'.slots ≤ R.slots) :
    Stand p l e R' ((T.setVm s.vm).setFrames (.invoking m args :: below)) m args below meth c T [] 0 0 := by
  have htop : (T.setVm s.vm).topJava?.isSome := X.here.top
  have hF : ((T.setVm s.vm).setFrames (.invoking m args :: below)).frames = .invoking m args :: below := State.frames_setFrames _ (State.cur_lt_of_top htop)
  obtain ⟨g₀, hg0⟩ := Option.isSome_iff_exists.mp htop
  obtain ⟨r, hr⟩ := State.topJava?_eq_some.mp hg0
  have hl9 : e.platform.stackLimits (T.setVm s.vm).me = e.platform.stackLimits s.me := X.limits
  have hb9 : (T.setVm s.vm).me.stackBytes = s.me.stackBytes := X.bytes
  refine ⟨X.admits, X.cas, X.clock, hF, ?_, X.hears, X.method, X.code, X.here, X.tail, X.warmed, ?_, ?_, ?_⟩
  · have h := X.room
    have hU : ((T.setVm s.vm).setFrames (.invoking m args :: below)).localsInUse = s.localsInUse := by
      rw [State.localsInUse_invoking hF (meth := meth) (c := c) X.method X.code, State.localsInUse_invoking X.frames X.method X.code]
    simp only [State.hasRoom, Bool.and_eq_true, decide_eq_true_eq] at h ⊢
    obtain ⟨⟨⟨⟨h1, h2, h3, h4, h5, h6⟩, h7⟩, h8⟩, h9⟩ := h
    rw [X.frames, List.length_cons] at h2 h3
    have q1 := X.heapSize
    have q2 := X.used
    simp only [hF, hU, List.length_cons, State.stackLimits_setFrames, State.stackBytes_setFrames, hl9, hb9]
    refine ⟨⟨⟨⟨by omega, by omega, by omega, by omega, by omega, h6⟩, ?_⟩, ?_⟩, X.book⟩
    · show T.heap.size + R'.cells ≤ e.platform.maxCells
      omega
    · show T.slotsUsed + R'.slots ≤ e.platform.maxSlots
      omega
  · rw [State.stackLimits_setFrames]; rfl
  · rw [State.stackBytes_setFrames]; rfl
  · refine ⟨?_, Nat.le_refl _, Nat.le_refl _, ?_, ?_, fun a c9 h9 => ⟨c9, h9, rfl, rfl, fun _ _ => rfl⟩⟩
    · obtain ⟨t, ht, -⟩ := State.frames_cons hr
      show T.setVm s.vm = { ((T.setVm s.vm).setFrames (.invoking m args :: below)).setFrames (T.setVm s.vm).frames with heap := T.heap, slotsUsed := T.slotsUsed }
      rw [State.setFrames_setFrames, State.setFrames_self ht]
      rfl
    · show T.slotsUsed = T.slotsUsed + ((T.heap.toList.drop T.heap.size).map (·.slots.size)).sum
      rw [List.drop_eq_nil_of_le (Nat.le_of_eq Array.length_toList)]
      rfl
    · show ((T.heap.toList.drop T.heap.size).map (·.slots.size)).sum ≤ 0
      rw [List.drop_eq_nil_of_le (Nat.le_of_eq Array.length_toList)]
      exact Nat.le_refl _
/-- 'throw new E()': new; dup; invokespecial; athrow -/
theorem vx_throw0 {cc : ByteArray} {pc : Nat} (hexec : p.tables.exec = Jvm.exec) (hb : c.code = cc) (hl : l.stackTraces = false) {own cls : String} {names : List String} {ik ic mc ms : Nat} {A : Nat → Prop}
    (hown : s.vm.findClass own = some m.cls) (hcls : Bundle.fit cls = true) (hnames : ∀ n ∈ names, Bundle.fit n = true)
    (hk : (Cond.classLink own ik cls).before args s = true) (hini : (Cond.initialized cls).before args s = true) (hat : ∀ w ∈ vx_at0 own ic cls names, w.before args s = true)
    (hgood : ∀ w ∈ Cond.classLink own ik cls :: Cond.initialized cls :: vx_at0 own ic cls names, vx_ot w = true)
    (hU : vx_Zq Bundle.tN "UNASSIGNED_STACK" Bundle.steD A s s.heap) (hN : vx_Zq Bundle.tN "SUPPRESSED_SENTINEL" Bundle.listD A s s.heap) (hS : va_S A s.heap H locs) (hsize : ls.size = c.maxLocals)
    (d0 : decode cc pc = .ok (.new ik, 3)) (d3 : decode cc (pc + 3) = .ok (.dup, 1)) (d4 : decode cc (pc + 4) = .ok (.invokespecial ic, 3)) (d7 : decode cc (pc + 7) = .ok (.athrow, 1))
    (hout : ∀ x ∈ c.exceptionTable.toList, covers x (pc + 7) = false)
    (hRframes : names.length + 3 < R.frames) (hRlocals : (rest.map fun v => v.category).sum + (13 * (names.length + 1) + 42) ≤ R.locals) (hRcells : cells + 1 ≤ R.cells) (hRslots : slots + 6 ≤ R.slots) (hlocks : meth.locks = false)
    (hx : ∀ t : State, s.vm.Alike t.vm → H.size ≤ t.heap.size → (∀ q : Nat, q < H.size → t.heap[q]? = H[q]?) → XC cls s t)
    (hf : ∀ z ∈ locs, free z.base) (hc : cells + 1 ≤ mc) (hs : slots + 6 ≤ ms) :
    W p l e R s m args below meth c H locs cells slots (vx_MQ below Qc XC args s mc ms free) (F0 m pc ls rest) := by
  intro T hT X
  have htr : e.platform.stackTraces = false := (show e.platform.stackTraces = l.stackTraces by rw [X.admits.platform]).trans hl
  have Y := vx_rebase X (R' := { frames := R.frames, locals := R.locals, cells := 1, slots := 6 }) (Nat.le_refl _) (Nat.le_refl _) hRcells hRslots
  obtain ⟨s', hA⟩ : ∃ z, z = (T.setVm s.vm).setFrames (.invoking m args :: below) := ⟨_, rfl⟩
  rw [← hA] at Y
  have hvm : s'.vm = s.vm := by rw [hA]; rfl
  have hhp : s'.heap = H := by rw [hA]; exact hT
  have hW0 : s.WarmedH s'.vm := by rw [hvm]; exact State.WarmedH.refl s
  have hat' : ∀ w ∈ vx_at0 own ic cls names, w.before args s' = true := fun w hw => vx_ot_at hW0 hvm.symm (hgood w (List.mem_cons_of_mem _ (List.mem_cons_of_mem _ hw))) (hat w hw)
  have hk' : (Cond.classLink own ik cls).before args s' = true := vx_ot_at hW0 hvm.symm (hgood _ List.mem_cons_self) hk
  have hini' : (Cond.initialized cls).before args s' = true := vx_ot_at hW0 hvm.symm (hgood _ (List.mem_cons_of_mem _ List.mem_cons_self)) hini
  have hU' : vx_Zq Bundle.tN "UNASSIGNED_STACK" Bundle.steD A s' s'.heap := by rw [hhp]; exact vx_Zq.moved hW0.alike (hU.kept hS.2.1)
  have hN' : vx_Zq Bundle.tN "SUPPRESSED_SENTINEL" Bundle.listD A s' s'.heap := by rw [hhp]; exact vx_Zq.moved hW0.alike (hN.kept hS.2.1)
  have h : ∀ w ∈ Bundle.ownAtoms0 own ic cls names, w.before args s' = true := vx_own hat' (vx_isRefq hU'.1) (vx_isRefq hN'.1) hU'.2.word hN'.2.word
  have hown' : s'.vm.findClass own = some m.cls := by rw [hvm]; exact hown
  have hins : (Cond.instantiable cls 6).before args s' = true := h _ (by simp [Bundle.ownAtoms0])
  obtain ⟨vm₁, cX, kX, hfX, hkX, -, -, X₁, st1⟩ := Y.newCold hexec (own := own) (C := cls) (index := ik) (n := 6) hown' hk' hins hini'
    (g := F0 m pc ls rest) rfl (by rw [hb]; exact d0) (Nat.le_refl _) (Nat.le_refl _)
  generalize hT1 : (T.setVm vm₁).pushCell { cls := cX, slots := kX.instanceTypes.map defaultValue, vm := .none } = T1 at X₁ st1
  have hcat : (Value.ref T.heap.size).category = 1 := rfl
  have hcellA : T1.heap[T.heap.size]? = some (freshCell cX kX) := by rw [← hT1]; exact State.heap_pushCell_size _ _
  have d3' : decode c.code (pc + 3) = .ok (.dup, 1) := by rw [hb]; exact d3
  obtain ⟨U, hsteps, hrun, hend, hW, hsame, ce, hce, hO⟩ := X₁.ctorThrow0 hexec htr (own := own) (cls := cls) (names := names) (ic := ic) hown' hcls hnames h (fun x hx => nomatch hx) hfX hkX hcellA (by rw [hhp, hT]; exact Nat.le_refl _)
    (g := { method := m, pc := pc + 4, locals := ls, stack := .ref T.heap.size :: .ref T.heap.size :: rest, locked := none }) rfl hsize rfl rfl (rest := rest) rfl
    (by rw [hb]; exact d4) (by rw [hb]; exact d7) hout hRframes (by simp only [List.map_cons, List.sum_cons, hcat]; omega) hlocks
  obtain ⟨f1, f2⟩ := vx_frame hsame
  rw [hhp] at f1 f2
  have hWs : s.WarmedH U.vm := State.WarmedH.trans hW0 hW
  have hcl : s.vm.findClass cls = some ce.cls := by
    have h9 := hO.cls
    rw [hvm] at h9
    exact h9
  have hall : s.sameButNew ({ U with vm := s.vm } : State) locs mc ms := by
    subst hA
    obtain ⟨e1, e2⟩ := hsame
    rw [State.setFrames_setFrames] at e1
    have h2 : (T.setVm s.vm).sameButNew ({ U with vm := s.vm } : State) [] (0 + 1) (0 + 6) := ⟨e1, e2⟩
    have h3 := X.same.trans h2
    rw [List.append_nil] at h3
    exact h3.mono hc hs
  refine ⟨U, ?_, .threw T.heap.size, hrun, hend, Or.inr ⟨T.heap.size, rfl, cls, ce, locs, hx U hWs.alike f1 (fun q hq => f2 q hq (fun z hz => nomatch hz)), hce, hO.vm, hcl, hWs, hall, hf⟩⟩
  refine st1 _ ?_
  show Steps p.tables e below (T1.setTop { method := m, pc := pc + 3, locals := ls, stack := .ref T.heap.size :: rest, locked := none }) _
  jvm_step X₁.here [X₁.here.top, hexec, d3', Value.category]
  exact hsteps
/-- 'throw new E("text")': new; dup; ldc; invokespecial; athrow -/
theorem vx_throwS {cc : ByteArray} {pc : Nat} (hexec : p.tables.exec = Jvm.exec) (hb : c.code = cc) (hl : l.stackTraces = false) {own cls text : String} {names : List String} {ik is ic mc ms sa : Nat} {A : Nat → Prop}
    (hown : s.vm.findClass own = some m.cls) (hcls : Bundle.fit cls = true) (hnames : ∀ n ∈ names, Bundle.fit n = true)
    (hk : (Cond.classLink own ik cls).before args s = true) (hini : (Cond.initialized cls).before args s = true) (hstr : vk_R own is text sa s) (hat : ∀ w ∈ vx_atS own ic cls names, w.before args s = true)
    (hgood : ∀ w ∈ Cond.classLink own ik cls :: Cond.initialized cls :: vx_atS own ic cls names, vx_ot w = true)
    (hU : vx_Zq Bundle.tN "UNASSIGNED_STACK" Bundle.steD A s s.heap) (hN : vx_Zq Bundle.tN "SUPPRESSED_SENTINEL" Bundle.listD A s s.heap) (hS : va_S A s.heap H locs) (hsize : ls.size = c.maxLocals)
    (d0 : decode cc pc = .ok (.new ik, 3)) (d3 : decode cc (pc + 3) = .ok (.dup, 1)) (d4 : decode cc (pc + 4) = .ok (.ldc is, 2)) (d6 : decode cc (pc + 6) = .ok (.invokespecial ic, 3)) (d9 : decode cc (pc + 9) = .ok (.athrow, 1))
    (hout : ∀ x ∈ c.exceptionTable.toList, covers x (pc + 9) = false)
    (hRframes : names.length + 3 < R.frames) (hRlocals : (rest.map fun v => v.category).sum + (13 * (names.length + 1) + 43) ≤ R.locals) (hRcells : cells + 1 ≤ R.cells) (hRslots : slots + 6 ≤ R.slots) (hlocks : meth.locks = false)
    (hx : ∀ t : State, s.vm.Alike t.vm → H.size ≤ t.heap.size → (∀ q : Nat, q < H.size → t.heap[q]? = H[q]?) → XC cls s t)
    (hf : ∀ z ∈ locs, free z.base) (hc : cells + 1 ≤ mc) (hs : slots + 6 ≤ ms) :
    W p l e R s m args below meth c H locs cells slots (vx_MQ below Qc XC args s mc ms free) (F0 m pc ls rest) := by
  intro T hT X
  have htr : e.platform.stackTraces = false := (show e.platform.stackTraces = l.stackTraces by rw [X.admits.platform]).trans hl
  have Y := vx_rebase X (R' := { frames := R.frames, locals := R.locals, cells := 1, slots := 6 }) (Nat.le_refl _) (Nat.le_refl _) hRcells hRslots
  obtain ⟨s', hA⟩ : ∃ z, z = (T.setVm s.vm).setFrames (.invoking m args :: below) := ⟨_, rfl⟩
  rw [← hA] at Y
  have hvm : s'.vm = s.vm := by rw [hA]; rfl
  have hhp : s'.heap = H := by rw [hA]; exact hT
  have hW0 : s.WarmedH s'.vm := by rw [hvm]; exact State.WarmedH.refl s
  have hat' : ∀ w ∈ vx_atS own ic cls names, w.before args s' = true := fun w hw => vx_ot_at hW0 hvm.symm (hgood w (List.mem_cons_of_mem _ (List.mem_cons_of_mem _ hw))) (hat w hw)
  have hk' : (Cond.classLink own ik cls).before args s' = true := vx_ot_at hW0 hvm.symm (hgood _ List.mem_cons_self) hk
  have hini' : (Cond.initialized cls).before args s' = true := vx_ot_at hW0 hvm.symm (hgood _ (List.mem_cons_of_mem _ List.mem_cons_self)) hini
  have hU' : vx_Zq Bundle.tN "UNASSIGNED_STACK" Bundle.steD A s' s'.heap := by rw [hhp]; exact vx_Zq.moved hW0.alike (hU.kept hS.2.1)
  have hN' : vx_Zq Bundle.tN "SUPPRESSED_SENTINEL" Bundle.listD A s' s'.heap := by rw [hhp]; exact vx_Zq.moved hW0.alike (hN.kept hS.2.1)
  have h : ∀ w ∈ Bundle.ownAtoms own ic cls names, w.before args s' = true := vx_own hat' (vx_isRefq hU'.1) (vx_isRefq hN'.1) hU'.2.word hN'.2.word
  have hown' : s'.vm.findClass own = some m.cls := by rw [hvm]; exact hown
  have hins : (Cond.instantiable cls 6).before args s' = true := h _ (by simp [Bundle.ownAtoms])
  obtain ⟨vm₁, cX, kX, hfX, hkX, -, -, X₁, st1⟩ := Y.newCold hexec (own := own) (C := cls) (index := ik) (n := 6) hown' hk' hins hini'
    (g := F0 m pc ls rest) rfl (by rw [hb]; exact d0) (Nat.le_refl _) (Nat.le_refl _)
  generalize hT1 : (T.setVm vm₁).pushCell { cls := cX, slots := kX.instanceTypes.map defaultValue, vm := .none } = T1 at X₁ st1
  have hcat : (Value.ref T.heap.size).category = 1 := rfl
  have hcellA : T1.heap[T.heap.size]? = some (freshCell cX kX) := by rw [← hT1]; exact State.heap_pushCell_size _ _
  have d3' : decode c.code (pc + 3) = .ok (.dup, 1) := by rw [hb]; exact d3
  have d4' : decode c.code (pc + 4) = .ok (.ldc is, 2) := by rw [hb]; exact d4
  have hstr' : vk_R own is text sa s' := vk_R.warm hW0 hstr
  obtain ⟨U, hsteps, hrun, hend, hW, hsame, ce, hce, hO⟩ := X₁.ctorThrowS hexec htr (own := own) (cls := cls) (names := names) (ic := ic) hown' hcls hnames h (fun x hx => nomatch hx) hfX hkX hcellA (by rw [hhp, hT]; exact Nat.le_refl _) (msg := .ref sa) rfl
    (g := { method := m, pc := pc + 6, locals := ls, stack := .ref sa :: .ref T.heap.size :: .ref T.heap.size :: rest, locked := none }) rfl hsize rfl rfl (rest := rest) rfl
    (by rw [hb]; exact d6) (by rw [hb]; exact d9) hout hRframes (by simp only [List.map_cons, List.sum_cons, hcat]; omega) hlocks
  obtain ⟨f1, f2⟩ := vx_frame hsame
  rw [hhp] at f1 f2
  have hWs : s.WarmedH U.vm := State.WarmedH.trans hW0 hW
  have hcl : s.vm.findClass cls = some ce.cls := by
    have h9 := hO.cls
    rw [hvm] at h9
    exact h9
  have hall : s.sameButNew ({ U with vm := s.vm } : State) locs mc ms := by
    subst hA
    obtain ⟨e1, e2⟩ := hsame
    rw [State.setFrames_setFrames] at e1
    have h2 : (T.setVm s.vm).sameButNew ({ U with vm := s.vm } : State) [] (0 + 1) (0 + 6) := ⟨e1, e2⟩
    have h3 := X.same.trans h2
    rw [List.append_nil] at h3
    exact h3.mono hc hs
  refine ⟨U, ?_, .threw T.heap.size, hrun, hend, Or.inr ⟨T.heap.size, rfl, cls, ce, locs, hx U hWs.alike f1 (fun q hq => f2 q hq (fun z hz => nomatch hz)), hce, hO.vm, hcl, hWs, hall, hf⟩⟩
  refine st1 _ ?_
  show Steps p.tables e below (T1.setTop { method := m, pc := pc + 3, locals := ls, stack := .ref T.heap.size :: rest, locked := none }) _
  jvm_step X₁.here [X₁.here.top, hexec, d3', Value.category]
  exact X₁.ldcString hexec (own := own) (text := text) (index := is) (a := sa) hown' hstr'.1 hstr'.2
    (g := { method := m, pc := pc + 4, locals := ls, stack := .ref T.heap.size :: .ref T.heap.size :: rest, locked := none }) rfl d4' _ hsteps
/-- 'throw new E("text")', the text by a wide index -/
theorem vx_throwSW {cc : ByteArray} {pc : Nat} (hexec : p.tables.exec = Jvm.exec) (hb : c.code = cc) (hl : l.stackTraces = false) {own cls text : String} {names : List String} {ik is ic mc ms sa : Nat} {A : Nat → Prop}
    (hown : s.vm.findClass own = some m.cls) (hcls : Bundle.fit cls = true) (hnames : ∀ n ∈ names, Bundle.fit n = true)
    (hk : (Cond.classLink own ik cls).before args s = true) (hini : (Cond.initialized cls).before args s = true) (hstr : vk_R own is text sa s) (hat : ∀ w ∈ vx_atS own ic cls names, w.before args s = true)
    (hgood : ∀ w ∈ Cond.classLink own ik cls :: Cond.initialized cls :: vx_atS own ic cls names, vx_ot w = true)
    (hU : vx_Zq Bundle.tN "UNASSIGNED_STACK" Bundle.steD A s s.heap) (hN : vx_Zq Bundle.tN "SUPPRESSED_SENTINEL" Bundle.listD A s s.heap) (hS : va_S A s.heap H locs) (hsize : ls.size = c.maxLocals)
    (d0 : decode cc pc = .ok (.new ik, 3)) (d3 : decode cc (pc + 3) = .ok (.dup, 1)) (d4 : decode cc (pc + 4) = .ok (.ldc_w is, 3)) (d7 : decode cc (pc + 7) = .ok (.invokespecial ic, 3)) (d10 : decode cc (pc + 10) = .ok (.athrow, 1))
    (hout : ∀ x ∈ c.exceptionTable.toList, covers x (pc + 10) = false)
    (hRframes : names.length + 3 < R.frames) (hRlocals : (rest.map fun v => v.category).sum + (13 * (names.length + 1) + 43) ≤ R.locals) (hRcells : cells + 1 ≤ R.cells) (hRslots : slots + 6 ≤ R.slots) (hlocks : meth.locks = false)
    (hx : ∀ t : State, s.vm.Alike t.vm → H.size ≤ t.heap.size → (∀ q : Nat, q < H.size → t.heap[q]? = H[q]?) → XC cls s t)
    (hf : ∀ z ∈ locs, free z.base) (hc : cells + 1 ≤ mc) (hs : slots + 6 ≤ ms) :
    W p l e R s m args below meth c H locs cells slots (vx_MQ below Qc XC args s mc ms free) (F0 m pc ls rest) := by
  intro T hT X
  have htr : e.platform.stackTraces = false := (show e.platform.stackTraces = l.stackTraces by rw [X.admits.platform]).trans hl
  have Y := vx_rebase X (R' := { frames := R.frames, locals := R.locals, cells := 1, slots := 6 }) (Nat.le_refl _) (Nat.le_refl _) hRcells hRslots
  obtain ⟨s', hA⟩ : ∃ z, z = (T.setVm s.vm).setFrames (.invoking m args :: below) := ⟨_, rfl⟩
  rw [← hA] at Y
  have hvm : s'.vm = s.vm := by rw [hA]; rfl
  have hhp : s'.heap = H := by rw [hA]; exact hT
  have hW0 : s.WarmedH s'.vm := by rw [hvm]; exact State.WarmedH.refl s
  have hat' : ∀ w ∈ vx_atS own ic cls names, w.before args s' = true := fun w hw => vx_ot_at hW0 hvm.symm (hgood w (List.mem_cons_of_mem _ (List.mem_cons_of_mem _ hw))) (hat w hw)
  have hk' : (Cond.classLink own ik cls).before args s' = true := vx_ot_at hW0 hvm.symm (hgood _ List.mem_cons_self) hk
  have hini' : (Cond.initialized cls).before args s' = true := vx_ot_at hW0 hvm.symm (hgood _ (List.mem_cons_of_mem _ List.mem_cons_self)) hini
  have hU' : vx_Zq Bundle.tN "UNASSIGNED_STACK" Bundle.steD A s' s'.heap := by rw [hhp]; exact vx_Zq.moved hW0.alike (hU.kept hS.2.1)
  have hN' : vx_Zq Bundle.tN "SUPPRESSED_SENTINEL" Bundle.listD A s' s'.heap := by rw [hhp]; exact vx_Zq.moved hW0.alike (hN.kept hS.2.1)
  have h : ∀ w ∈ Bundle.ownAtoms own ic cls names, w.before args s' = true := vx_own hat' (vx_isRefq hU'.1) (vx_isRefq hN'.1) hU'.2.word hN'.2.word
  have hown' : s'.vm.findClass own = some m.cls := by rw [hvm]; exact hown
  have hins : (Cond.instantiable cls 6).before args s' = true := h _ (by simp [Bundle.ownAtoms])
  obtain ⟨vm₁, cX, kX, hfX, hkX, -, -, X₁, st1⟩ := Y.newCold hexec (own := own) (C := cls) (index := ik) (n := 6) hown' hk' hins hini'
    (g := F0 m pc ls rest) rfl (by rw [hb]; exact d0) (Nat.le_refl _) (Nat.le_refl _)
  generalize hT1 : (T.setVm vm₁).pushCell { cls := cX, slots := kX.instanceTypes.map defaultValue, vm := .none } = T1 at X₁ st1
  have hcat : (Value.ref T.heap.size).category = 1 := rfl
  have hcellA : T1.heap[T.heap.size]? = some (freshCell cX kX) := by rw [← hT1]; exact State.heap_pushCell_size _ _
  have d3' : decode c.code (pc + 3) = .ok (.dup, 1) := by rw [hb]; exact d3
  have d4' : decode c.code (pc + 4) = .ok (.ldc_w is, 3) := by rw [hb]; exact d4
  have hstr' : vk_R own is text sa s' := vk_R.warm hW0 hstr
  obtain ⟨U, hsteps, hrun, hend, hW, hsame, ce, hce, hO⟩ := X₁.ctorThrowS hexec htr (own := own) (cls := cls) (names := names) (ic := ic) hown' hcls hnames h (fun x hx => nomatch hx) hfX hkX hcellA (by rw [hhp, hT]; exact Nat.le_refl _) (msg := .ref sa) rfl
    (g := { method := m, pc := pc + 7, locals := ls, stack := .ref sa :: .ref T.heap.size :: .ref T.heap.size :: rest, locked := none }) rfl hsize rfl rfl (rest := rest) rfl
    (by rw [hb]; exact d7) (by rw [hb]; exact d10) hout hRframes (by simp only [List.map_cons, List.sum_cons, hcat]; omega) hlocks
  obtain ⟨f1, f2⟩ := vx_frame hsame
  rw [hhp] at f1 f2
  have hWs : s.WarmedH U.vm := State.WarmedH.trans hW0 hW
  have hcl : s.vm.findClass cls = some ce.cls := by
    have h9 := hO.cls
    rw [hvm] at h9
    exact h9
  have hall : s.sameButNew ({ U with vm := s.vm } : State) locs mc ms := by
    subst hA
    obtain ⟨e1, e2⟩ := hsame
    rw [State.setFrames_setFrames] at e1
    have h2 : (T.setVm s.vm).sameButNew ({ U with vm := s.vm } : State) [] (0 + 1) (0 + 6) := ⟨e1, e2⟩
    have h3 := X.same.trans h2
    rw [List.append_nil] at h3
    exact h3.mono hc hs
  refine ⟨U, ?_, .threw T.heap.size, hrun, hend, Or.inr ⟨T.heap.size, rfl, cls, ce, locs, hx U hWs.alike f1 (fun q hq => f2 q hq (fun z hz => nomatch hz)), hce, hO.vm, hcl, hWs, hall, hf⟩⟩
  refine st1 _ ?_
  show Steps p.tables e below (T1.setTop { method := m, pc := pc + 3, locals := ls, stack := .ref T.heap.size :: rest, locked := none }) _
  jvm_step X₁.here [X₁.here.top, hexec, d3', Value.category]
  exact X₁.ldcStringW hexec (own := own) (text := text) (index := is) (a := sa) hown' hstr'.1 hstr'.2
    (g := { method := m, pc := pc + 4, locals := ls, stack := .ref T.heap.size :: .ref T.heap.size :: rest, locked := none }) rfl d4' _ hsteps
end Ends
section Bodies
variable {l : Launch}
theorem vx_ofW {y : MethodName} {ws ws' : List Cond} {rm : Room} {Pc : Array Value → State → Prop} {Qc : Array Value → State → Outcome → State → Prop} {XC : String → State → State → Prop} {mc ms : Nat} {free : Addr → Prop} {cc : ByteArray} {maxL : Nat} {ret : Option FieldType}
    (hy : plainName y.cls = true) (hw : ws = Cond.code y cc maxL ret :: ws')
    (body : ∀ p e s m args below meth c s₁, BodyLoose p l y (headSpec ws rm) cc maxL ret e s m args below meth c s₁ → c.maxLocals = maxL → (∀ x ∈ c.exceptionTable.toList, False) → Pc args s →
      W p l e (headSpec ws rm).room s m args below meth c s.heap [] 0 0 (vx_MQ below Qc XC args s mc ms free) (entryFrame m args maxL)) : vx_Met l y ws rm Pc Qc XC mc ms free := by
  refine MetFree.of_bodyS (code := cc) (maxLocals := maxL) (ret := ret) hy ?_ ?_
  · intro args s m h hn
    obtain ⟨meth, c, h1, h2, h3, h4, h5, h6, -, -⟩ := Cond.code_spec hn (atoms_spec (ws := ws) h _ (by rw [hw]; exact List.mem_cons_self))
    exact ⟨meth, c, h1, h2, h3, h4, h5, h6⟩
  · intro p e s m args below meth c s₁ B hml hP _
    have hh0 : s₁.heap = s.heap := by rw [B.state]; rfl
    have ht : ∀ x ∈ c.exceptionTable.toList, False := by
      obtain ⟨meth9, c9, h1, h2, -, -, -, -, h7, -⟩ := Cond.code_spec B.named (atoms_spec (ws := ws) B.pre _ (by rw [hw]; exact List.mem_cons_self))
      cases Option.some.inj (h1.symm.trans B.method)
      cases Option.some.inj (h2.symm.trans (Stand.of_body B).code)
      intro x hx
      rw [Array.isEmpty_iff.mp h7] at hx
      cases hx
    obtain ⟨t, a1, o, b1, b2, b3⟩ := body p e s m args below meth c s₁ B hml ht hP s₁ hh0 (Stand.of_body B)
    exact ⟨t, o, a1, b1, b2, b3⟩
/-- the table of a body with handlers -/
theorem vx_table {p : Program} {x y : MethodName} {S : Spec} {cc bytes : ByteArray} {maxL maxL' : Nat} {ret ret' : Option FieldType} {e : Env} {s s₁ : State} {m : MethodId} {args : Array Value} {below : List Frame} {meth : Method} {c : Code} {hh : List (Nat × Nat × Nat × Nat)}
    (B : BodyLoose p l y S cc maxL ret e s m args below meth c s₁) (h : (Cond.codeWith y bytes maxL' ret' hh).before args s = true) : c.exceptionTable.toList = tableOf hh := by
  obtain ⟨m9, meth9, c9, hn9, h1, h2, -, -, h6, -⟩ := Cond.codeWith_spec h
  cases Option.some.inj (hn9.symm.trans B.named)
  cases Option.some.inj (h1.symm.trans B.method)
  cases Option.some.inj (h2.symm.trans (Stand.of_body B).code)
  rw [← h6, table_eq]
end Bodies
end VXA
/-! ===== END ===== -/
/-! ===== BEGIN a static call of a method with an exception table ===== -/
section VXS
variable {p : Program} {l : Launch} {e : Env} {R : Room} {s : State} {m : MethodId} {args : Array Value} {below : List Frame} {meth : Method} {c : Code} {T : State} {H : Heap} {locs : List Loc} {cells slots : Nat}
abbrev vx_CSW (R : Room) (s : State) (args : Array Value) (own : String) (index : Nat) (y : MethodName) (bytes : ByteArray) (maxL : Nat) (ret : Option FieldType) (hh : List (Nat × Nat × Nat × Nat)) (ws : List Cond) (rm : Room) (mc ms n : Nat) : Prop :=
  (rm.cells = mc ∧ rm.slots = ms ∧ rm.frames + 1 ≤ R.frames ∧ 8 + (maxL + 11) + rm.locals ≤ R.locals ∧ (∀ w ∈ ws, ∀ (a' : Array Value) (U : State), s.WarmedH U.vm → w.before a' U = true) ∧ Cond.codeWith y bytes maxL ret hh ∈ ws) ∧
  (Cond.codeWith y bytes maxL ret hh).before args s = true ∧ (Cond.initialized y.cls).before args s = true ∧ (y.cls ≠ "java/lang/invoke/MethodHandle" ∧ y.cls ≠ "java/lang/invoke/VarHandle") ∧
  (∀ sig, parseMethodDescriptor y.desc = some sig → n = sig.parameters.length) ∧ (Cond.methodLink own index y).before args s = true ∧ (Cond.static y).before args s = true
theorem vx_cwSW {own : String} {index maxL mc ms : Nat} {y : MethodName} {bytes : ByteArray} {ret : Option FieldType} {hh : List (Nat × Nat × Nat × Nat)} {Ts ws ws' : List Cond} {rm : Room} (n : Nat) (ht : ∀ w ∈ Ts, w.before args s = true) (hT : GoodIn Ts (va_wsS own index y ws)) (hw : ws = Cond.codeWith y bytes maxL ret hh :: ws') (hrc : rm.cells = mc) (hrs : rm.slots = ms)
    (hd : y.cls ≠ "java/lang/invoke/MethodHandle" ∧ y.cls ≠ "java/lang/invoke/VarHandle" ∧ (parseMethodDescriptor y.desc).map (fun d => d.parameters.length) = some n) (hR : rm.frames + 1 ≤ R.frames ∧ 8 + (maxL + 11) + rm.locals ≤ R.locals) :
    vx_CSW R s args own index y bytes maxL ret hh ws rm mc ms n := by
  have ok : ∀ w ∈ va_wsS own index y ws, w.before args s = true := fun w h => ht w (hT w h).1
  have hG : GoodIn Ts ws := fun w h => hT w (by unfold va_wsS; exact List.mem_append_right _ h)
  have hc : Cond.codeWith y bytes maxL ret hh ∈ ws := by rw [hw]; exact List.mem_cons_self
  refine ⟨⟨hrc, hrs, hR.1, hR.2, pay_in ht hG, hc⟩, ht _ (hG _ hc).1, ok _ (by simp [va_wsS]), ⟨hd.1, hd.2.1⟩, fun sig h => ?_, ok _ (by simp [va_wsS]), ok _ (by simp [va_wsS])⟩
  have h2 := hd.2.2
  rw [h] at h2
  exact (Option.some.inj h2).symm
theorem vx_callSW (X : Stand p l e R s m args below meth c T locs cells slots) (hexec : p.tables.exec = Jvm.exec) {own : String} {index : Nat} {y : MethodName} {bytes : ByteArray} {maxL : Nat} {ret : Option FieldType} {hh : List (Nat × Nat × Nat × Nat)}
    (hown : s.vm.findClass own = some m.cls) (hlink : (Cond.methodLink own index y).before args s = true) (hstat : (Cond.static y).before args s = true) (hinit : (Cond.initialized y.cls).before args s = true)
    (hcode : (Cond.codeWith y bytes maxL ret hh).before args s = true) (hy : y.cls ≠ "java/lang/invoke/MethodHandle" ∧ y.cls ≠ "java/lang/invoke/VarHandle")
    {W9 : Nat} {Pre : Pt → Array Value → Prop} {Post : Pt → Array Value → Option Value → Pt → Prop} (hK : Back l R p e below s args y 3 W9 Pre Post)
    {g : JFrame} (hg : g.method = m) (hsize : g.locals.size = c.maxLocals) {argsL rest : List Value} (hlen : ∀ sig, parseMethodDescriptor y.desc = some sig → argsL.length = sig.parameters.length)
    (hstack : g.stack = argsL.reverse ++ rest) (hW : 2 * g.monitorRoom + (rest.map fun v => v.category).sum ≤ W9) (hdg : decode c.code g.pc = .ok (.invokestatic index, 3))
    (hpre : ∀ vm₁, s.WarmedH vm₁ → Pre ⟨T.setVm vm₁, locs, cells, slots⟩ argsL.toArray) :
    ∃ (v : Option Value) (vm₁ : Vm) (B : Pt), s.WarmedH vm₁ ∧ Stand p l e R s m args below meth c B.U B.locs B.cells B.slots ∧ Post ⟨T.setVm vm₁, locs, cells, slots⟩ argsL.toArray v B ∧
      ∀ target, Steps p.tables e below (B.U.setTop { g with pc := g.pc + 3, stack := v.toList ++ rest }) target → Steps p.tables e below (T.setTop g) target := by
  obtain ⟨mk, methM, cM, hnamed, hmethM, -, -, -, -, -, -, hsigM⟩ := Cond.codeWith_spec hcode
  have hstatic : methM.isStatic = true := Cond.static_spec hnamed hmethM hstat
  obtain ⟨kP, hkP, -⟩ := className_of_methodNamed hnamed
  have hinitP : kP.init = .initialized := Cond.initialized_spec (findClass_of_methodNamed hnamed) hkP hinit
  obtain ⟨vm₁, X₁, hstep₁⟩ := X.invokestatic hexec hown hlink hnamed hmethM hstatic hkP hinitP hy (g := g) hg (argsL := argsL) (rest := rest) (hlen _ hsigM) hstack hdg
  obtain ⟨v, B, X', hpost, hsteps⟩ := hK m meth c ⟨T.setVm vm₁, locs, cells, slots⟩ { g with stack := rest } (.invokestatic index) mk argsL.toArray X₁ hg hsize hdg hW (X₁.named hnamed) (hpre vm₁ X₁.warmed)
  exact ⟨v, vm₁, B, X₁.warmed, X', hpost, fun target h => hstep₁ _ fun acts => by rw [doInvoke_state]; exact hsteps.trans h⟩
theorem vx_runSW {y : MethodName} {bytes cc : ByteArray} {maxL nL mc ms n index : Nat} {ret : Option FieldType} {hh : List (Nat × Nat × Nat × Nat)} {ws : List Cond} {rm : Room} {Pc : Array Value → State → Prop} {Qc : Array Value → State → Outcome → State → Prop} {free : Addr → Prop} {Ts : List Cond} {own : String} {As rest : List Value} {g : JFrame}
    (S : CallFix p m c cc nL s args Ts own) (hM : Met l y ws rm Pc Qc mc ms free) (cw : vx_CSW R s args own index y bytes maxL ret hh ws rm mc ms n) (hp : PreS s H Pc As)
    (hg : g.method = m) (hn : As.length = n) (hsize : g.locals.size = nL) (hstack : g.stack = As.reverse ++ rest) (hW : 2 * g.monitorRoom + (rest.map fun v => v.category).sum ≤ 8) (hdg : decode cc g.pc = .ok (.invokestatic index, 3)) (hf : cells + mc ≤ R.cells ∧ slots + ms ≤ R.slots) :
    va_Run p l e R s m args below meth c H locs cells slots mc ms g rest (Qc As.toArray) (free) := by
  obtain ⟨⟨hrc, hrs, hfr, hlo, hws, hcw⟩, hcode, hini, hy, hlen, hl, hstt⟩ := cw
  have hK : Back l R p e below s args y 3 8 (PreOf R mc ms Pc) (PostOf Qc mc ms free) := va_backW (hh := hh) (bytes := bytes) (maxL := maxL) (ret := ret) hM hp.1 hrc hrs hfr hlo hws hcw (fun a' U hW => word_at hW (Or.inl (by first | rfl | simp [Cond.onTables, Cond.keeps, Cond.steady])) hini)
  obtain ⟨hx, hb, hml, ho, -⟩ := S
  intro T hT X
  obtain ⟨v, vm₁, ⟨U', l2, c2, s2⟩, hW₁, X', ⟨g', mk, t, L, e1, e2, hq, h1, hL, h2, h3⟩, st⟩ := vx_callSW X hx (hh := hh) (bytes := bytes) (maxL := maxL) (ret := ret) ho hl hstt hini hcode hy hK hg (hsize.trans hml.symm) (argsL := As) (rest := rest) (fun sig h => hn.trans (hlen sig h)) hstack hW (by rw [hb]; exact hdg)
    (fun vm₁ hW₁ => ⟨hf.1, hf.2, hp.2 (T.setVm vm₁) hT hW₁⟩)
  dsimp only [Pt.U, Pt.locs, Pt.cells, Pt.slots] at X' e1 e2 h1 h2 h3 st
  subst h1; subst h2; subst h3
  exact ⟨v, (T.setVm vm₁).calling g' mk As.toArray, t, U', L, hT, X', hL, e1, e2, hq, st⟩
/-- not caught here, past rows that name other classes: it goes on to the caller -/
theorem vx_outP {p : Program} {l : Launch} {e : Env} {R : Room} {s : State} {m : MethodId} {args : Array Value} {below : List Frame} {meth : Method} {c : Code} {H : Heap} {locs : List Loc} {cells slots : Nat} {free : Addr → Prop} {ls : Array Slot} {rest : List Value} {Qc : Array Value → State → Outcome → State → Prop} {XC : String → State → State → Prop}
    {pc : Nat} {own E : String} {ce : Cell} {q : Addr} {mc ms : Nat} (hown : s.vm.findClass own = some m.cls) (hlocks : meth.locks = false)
    (hpass : ∀ z ∈ c.exceptionTable.toList, covers z pc = false ∨ (z.catchType ≠ 0 ∧ ∃ nm : String, (Cond.classLink own z.catchType nm).before args s = true ∧ va_Nc E nm s)) (hcell : H[q]? = some ce) (hv : ce.vm = .none) (hcl : s.vm.findClass E = some ce.cls)
    (hx : ∀ t : State, t.heap = H → s.vm.Alike t.vm → XC E s t) (hf : ∀ z ∈ locs, free z.base) (hc : cells ≤ mc) (hs : slots ≤ ms) :
    vx_W p l e R s m args below meth c H locs cells slots (vx_MQ below Qc XC args s mc ms free) (F0 m pc ls rest) q := by
  intro T hT X
  have hpl : e.platform.magicAccessors = ({} : Platform).magicAccessors := by rw [X.admits.platform]
  obtain ⟨vm', hW', X', st⟩ := X.outThrough hlocks q (g := F0 m pc ls rest) rfl rfl rfl (cell := ce) (by rw [hT]; exact hcell) (by rw [hv]; rfl)
    (by obtain ⟨k9, h9, -⟩ := Vm.findClass_spec hcl; exact ⟨k9, h9⟩) (fun z hz => by
      rcases hpass z hz with h | ⟨hz0, nm, hl1, hn1⟩
      · exact Or.inl h
      · obtain ⟨c6, hc6, hcl6⟩ := Cond.classLink_spec hown hl1 e.platform hpl
        obtain ⟨a8, b8, h1, h2, h3⟩ := hn1
        cases Option.some.inj (h1.symm.trans hcl)
        cases Option.some.inj (h2.symm.trans hc6)
        exact Or.inr ⟨hz0, _, hcl6, h3⟩)
  obtain ⟨g₀, hfr⟩ := X'.frames_eq
  have hcell9 : ((T.setVm vm').setFrames (.throwing q :: below)).heap[q]? = some ce := by
    show T.heap[q]? = some ce
    rw [hT]; exact hcell
  have hend : Ended ((T.setVm vm').setFrames (.throwing q :: below)) below (.threw q) := State.frames_setFrames _ (State.cur_lt_of_frames hfr)
  refine ⟨(T.setVm vm').setFrames (.throwing q :: below), ?_, .threw q, X'.here.running, hend, Or.inr ⟨q, rfl, E, ce, locs, hx _ hT (X'.ends _).1.alike, hcell9, hv, hcl, (X'.ends _).1, (X'.ends _).2.mono hc hs, hf⟩⟩
  rw [X.pushThrowing_eq]
  exact st
/-- a thing of a world lies in the heap -/
theorem vx_lt {D : va_G} {cl : List vw_C} {ws : va_W} {H1 : Heap} (h : va_P D cl ws H1) {k : Nat} {q : Nat × va_E} (hk : ws[k]? = some q) : q.1 < H1.size := (h k q hk).lt
end VXS
/-! ===== END ===== -/
/-! ===== BEGIN methods with a table of their own: called by a name, returning or throwing ===== -/
section VXH
/-! vx_backW, vx_callVX, vx_callSX, vx_callVW, vx_runVW, vx_runVX, vx_runSX, vx_ofWH follow the same proofs as their sisters above (Free/Laws.lean, Shelf42/LK1.lean); vx_outP calls Shelf42/NT130.lean (outThrough). -/
section
variable {l : Launch} {R : Room} {p : Program} {e : Env} {below : List Frame} {s : State} {sargs : Array Value} {y : MethodName} {len W9 : Nat}
theorem vx_backW {ws : List Cond} {rm : Room} {Pc : Array Value → State → Prop} {Qc : Array Value → State → Outcome → State → Prop} {XC : String → State → State → Prop} {mc ms : Nat} {free : Addr → Prop} {bytes : ByteArray} {maxL : Nat} {ret : Option FieldType} {hh : List (Nat × Nat × Nat × Nat)}
    (hM : vx_Met l y ws rm Pc Qc XC mc ms free) (hblind : FrameBlind Pc) (hrc : rm.cells = mc) (hrs : rm.slots = ms)
    (hframes : rm.frames + 1 ≤ R.frames) (hlocals : W9 + (maxL + 11) + rm.locals ≤ R.locals)
    (hws : ∀ w ∈ ws, ∀ a' U, s.WarmedH U.vm → w.before a' U = true) (hcode : Cond.codeWith y bytes maxL ret hh ∈ ws) (hinit : ∀ a' U, s.WarmedH U.vm → (Cond.initialized y.cls).before a' U = true) :
    vx_Back l R p e below s sargs y len W9 (PreOf R mc ms Pc) (PostOf Qc mc ms free) (vx_Post XC mc ms free) := by
  intro m meth c A g ig mk a X hg hsize hdg hW hn hp
  have h1 : (headSpec ws rm).pre.before a A.U = true := atoms_intro fun w hw => hws w hw _ _ X.warmed
  have h2 : (Cond.codeWith y bytes maxL ret hh).before a A.U = true := hws _ hcode _ _ X.warmed
  have h3 : (Cond.initialized y.cls).before a A.U = true := hinit _ _ X.warmed
  have h4 : A.cells + (headSpec ws rm).room.cells ≤ R.cells := by rw [show (headSpec ws rm).room.cells = mc from hrc]; exact hp.1
  have h5 : A.slots + (headSpec ws rm).room.slots ≤ R.slots := by rw [show (headSpec ws rm).room.slots = ms from hrs]; exact hp.2.1
  have hPc : Pc a (A.U.calling g mk a) := hblind _ _ _ _ hp.2.2
  obtain ⟨U, Ls, c0, s0⟩ := A
  dsimp only [Pt.U, Pt.locs, Pt.cells, Pt.slots] at h1 h2 h3 h4 h5 X hn hPc ⊢
  obtain ⟨m9, methY, cY, hn9, hmY, hcY, -, hlY, -⟩ := Cond.codeWith_spec h2
  cases Option.some.inj (hn9.symm.trans hn)
  obtain ⟨kY, hkY, -⟩ := className_of_methodNamed hn
  have hinitY : kY.init = .initialized := Cond.initialized_spec (findClass_of_methodNamed hn) hkY h3
  have h : At U g.method c below := by rw [hg]; exact X.here
  have hlocals9 : W9 + (maxL + 11) + (headSpec ws rm).room.locals ≤ R.locals := hlocals
  have happ : (headSpec ws rm).appliesLoose y e.platform (U.calling g mk a) = true :=
    Spec.appliesLoose_calling (g := g) h hdg hn hkY hinitY
      (X.room_calling (g := g) (R' := (headSpec ws rm).room) hsize hmY hcY hframes (by rw [hlY]; omega) h4 h5) h1
  obtain ⟨mid, hmid⟩ := h.above
  have hfr : (U.setTop g).frames = (.java g :: mid) ++ below := by rw [State.frames_setTop' g h.top, hmid]; rfl
  obtain ⟨o, s₂, hsteps, -, hend, hq⟩ := Steps.callFree hM p X.admits X.cas X.clock (acts := []) hfr happ hPc trivial
  have hq' : vx_Q Qc XC mc ms free a (U.calling g mk a) o s₂ := hq
  rw [State.frames_setTop' g h.top] at hend
  obtain ⟨g₀, hg0⟩ := Option.isSome_iff_exists.mp h.top
  obtain ⟨r, hr⟩ := State.topJava?_eq_some.mp hg0
  have hr' : (({ U with heap := s₂.heap, slotsUsed := s₂.slotsUsed } : State).setVm s₂.vm).frames = .java g₀ :: r := hr
  rcases hq' with ⟨hqc, L, hfe, hL⟩ | ⟨q, rfl, E, ce, L, hx, hce, hcv, hcl, hW₂, hsm, hL⟩
  · obtain ⟨⟨v, rfl⟩, hW₂, e2, q2, q3, q4, q5, q6⟩ := id hfe
    have e3 : s₂ = ({ (U.calling g mk a).setFrames s₂.frames with heap := s₂.heap, slotsUsed := s₂.slotsUsed } : State).setVm s₂.vm := by
      have : s₂ = ({ s₂ with vm := (U.calling g mk a).vm } : State).setVm s₂.vm := rfl
      rw [e2] at this
      exact this
    obtain ⟨c₂, i₂, len₂, hc₂, hd₂, hf₂⟩ := hend
    have hW' : U.WarmedH s₂.vm := hW₂
    have hcc : c₂ = c := by
      have h1 : s₂.code? g.method = U.code? g.method := by
        rw [State.code?_eq, State.code?_eq, hW'.alike.method?]
      exact Option.some.inj (hc₂.symm.trans (h1.trans h.code))
    subst hcc
    have hlen : len₂ = len := by rw [hdg] at hd₂; cases hd₂; rfl
    subst hlen
    have hs₂ : s₂ = (({ U with heap := s₂.heap, slotsUsed := s₂.slotsUsed } : State).setVm s₂.vm).setTop { g with pc := g.pc + len₂, stack := v.toList ++ g.stack } := by
      refine e3.trans ?_
      rw [hf₂, State.calling_eq h.top, State.setFrames_setFrames, State.setTop_of_frames _ hr', hr]
      rfl
    have hsame : U.sameButNew ({ U with heap := s₂.heap, slotsUsed := s₂.slotsUsed } : State) L mc ms := by
      refine ⟨?_, q2, q3, q4, q5, q6⟩
      obtain ⟨t, ht, -⟩ := State.frames_cons hr
      show ({ U with heap := s₂.heap, slotsUsed := s₂.slotsUsed } : State) = { U.setFrames U.frames with heap := s₂.heap, slotsUsed := s₂.slotsUsed }
      rw [State.setFrames_self ht]
    subst hg
    refine Or.inl ⟨v, ⟨(({ U with heap := s₂.heap, slotsUsed := s₂.slotsUsed } : State).setVm s₂.vm), Ls ++ L, c0 + mc, s0 + ms⟩,
      ⟨X.admits, X.cas, X.clock, X.frames, X.room, X.hears, X.method, X.code, (X.here.setHeapUsed s₂.heap s₂.slotsUsed).setVm hW'.alike, X.tail, State.WarmedH.trans X.warmed hW', X.limits, X.bytes, X.same.trans (hsame.setVm s.vm)⟩,
      ⟨g, mk, s₂, L, rfl, rfl, hqc, rfl, hL, rfl, rfl⟩, ?_⟩
    show Steps p.tables e below _ ((({ U with heap := s₂.heap, slotsUsed := s₂.slotsUsed } : State).setVm s₂.vm).setTop { g with pc := g.pc + len₂, stack := v.toList ++ g.stack })
    rw [← hs₂]
    exact hsteps
  · obtain ⟨e2, q2, q3, q4, q5, q6⟩ := id hsm
    have e3 : s₂ = ({ (U.calling g mk a).setFrames s₂.frames with heap := s₂.heap, slotsUsed := s₂.slotsUsed } : State).setVm s₂.vm := by
      have : s₂ = ({ s₂ with vm := (U.calling g mk a).vm } : State).setVm s₂.vm := rfl
      rw [e2] at this
      exact this
    have hf₂ : s₂.frames = .throwing q :: .java g :: U.frames.tail := hend
    have hW' : U.WarmedH s₂.vm := hW₂
    have hs₂ : s₂ = ((({ U with heap := s₂.heap, slotsUsed := s₂.slotsUsed } : State).setVm s₂.vm).setTop g).pushFrame (.throwing q) := by
      refine e3.trans ?_
      rw [hf₂, State.calling_eq h.top, State.setFrames_setFrames, State.pushFrame, State.frames_setTop _ hr', State.setTop_of_frames _ hr', State.setFrames_setFrames, hr]
      rfl
    have hsame : U.sameButNew ({ U with heap := s₂.heap, slotsUsed := s₂.slotsUsed } : State) L mc ms := by
      refine ⟨?_, q2, q3, q4, q5, q6⟩
      obtain ⟨t, ht, -⟩ := State.frames_cons hr
      show ({ U with heap := s₂.heap, slotsUsed := s₂.slotsUsed } : State) = { U.setFrames U.frames with heap := s₂.heap, slotsUsed := s₂.slotsUsed }
      rw [State.setFrames_self ht]
    subst hg
    refine Or.inr ⟨q, ⟨(({ U with heap := s₂.heap, slotsUsed := s₂.slotsUsed } : State).setVm s₂.vm), Ls ++ L, c0 + mc, s0 + ms⟩,
      ⟨X.admits, X.cas, X.clock, X.frames, X.room, X.hears, X.method, X.code, (X.here.setHeapUsed s₂.heap s₂.slotsUsed).setVm hW'.alike, X.tail, State.WarmedH.trans X.warmed hW', X.limits, X.bytes, X.same.trans (hsame.setVm s.vm)⟩,
      ⟨g, mk, s₂, L, E, ce, rfl, rfl, hx, hce, hcv, hcl, rfl, hL, rfl, rfl⟩, ?_⟩
    show Steps p.tables e below _ (((({ U with heap := s₂.heap, slotsUsed := s₂.slotsUsed } : State).setVm s₂.vm).setTop g).pushFrame (.throwing q))
    rw [← hs₂]
    exact hsteps
end
variable {p : Program} {l : Launch} {e : Env} {R : Room} {s : State} {m : MethodId} {args : Array Value} {below : List Frame} {meth : Method} {c : Code} {T : State} {H : Heap} {locs : List Loc} {cells slots : Nat}
theorem vx_callVX (X : Stand p l e R s m args below meth c T locs cells slots) (hexec : p.tables.exec = Jvm.exec) {own C : String} {index : Nat} {y : MethodName} {bytes : ByteArray} {maxL : Nat} {ret : Option FieldType} {hh : List (Nat × Nat × Nat × Nat)}
    (hown : s.vm.findClass own = some m.cls) (hlink : (Cond.methodLink own index y).before args s = true) (hinst : (Cond.instanceMethod y).before args s = true) (hsel : (Cond.selects C y y).before args s = true)
    (hcode : (Cond.codeWith y bytes maxL ret hh).before args s = true) (hy : y.cls ≠ "java/lang/invoke/MethodHandle" ∧ y.cls ≠ "java/lang/invoke/VarHandle")
    {W9 : Nat} {Pre : Pt → Array Value → Prop} {Post : Pt → Array Value → Option Value → Pt → Prop} {PostX : Pt → Array Value → Addr → Pt → Prop} (hK : vx_Back l R p e below s args y 3 W9 Pre Post PostX)
    {b : Addr} {cellB : Cell} (hcell : T.heap[b]? = some cellB) (hobj : cellB.vm.isStatics = false) (hcls : s.vm.findClass C = some cellB.cls)
    {g : JFrame} (hg : g.method = m) (hsize : g.locals.size = c.maxLocals) {argsL rest : List Value} (hlen : ∀ sig, parseMethodDescriptor y.desc = some sig → argsL.length = sig.parameters.length)
    (hstack : g.stack = argsL.reverse ++ .ref b :: rest) (hW : 2 * g.monitorRoom + (rest.map fun v => v.category).sum ≤ W9) (hdg : decode c.code g.pc = .ok (.invokevirtual index, 3))
    (hpre : ∀ vm₁, s.WarmedH vm₁ → Pre ⟨T.setVm vm₁, locs, cells, slots⟩ (Value.ref b :: argsL).toArray) :
    (∃ (v : Option Value) (vm₁ : Vm) (B : Pt), s.WarmedH vm₁ ∧ Stand p l e R s m args below meth c B.U B.locs B.cells B.slots ∧ Post ⟨T.setVm vm₁, locs, cells, slots⟩ (Value.ref b :: argsL).toArray v B ∧
      ∀ target, Steps p.tables e below (B.U.setTop { g with pc := g.pc + 3, stack := v.toList ++ rest }) target → Steps p.tables e below (T.setTop g) target) ∨
    (∃ (q : Addr) (vm₁ : Vm) (B : Pt), s.WarmedH vm₁ ∧ Stand p l e R s m args below meth c B.U B.locs B.cells B.slots ∧ PostX ⟨T.setVm vm₁, locs, cells, slots⟩ (Value.ref b :: argsL).toArray q B ∧
      Steps p.tables e below (T.setTop g) ((B.U.setTop { g with stack := rest }).pushFrame (.throwing q))) := by
  obtain ⟨mk, methM, hnamed, hmethM, hstM, habM⟩ := Cond.instanceMethod_spec hinst
  obtain ⟨m8, methM', cM, hn8, hmethM', -, -, -, -, -, -, hsigM⟩ := Cond.codeWith_spec hcode
  cases Option.some.inj (hn8.symm.trans hnamed)
  cases hmethM.symm.trans hmethM'
  obtain ⟨c2, r2, m2, q1, q2, q3, q4, kP, hkP, hkPi⟩ := Cond.selects_spec hsel
  cases hcls.symm.trans q1
  cases (State.methodFound?_of_named hnamed hy).symm.trans q2
  cases hnamed.symm.trans q3
  have hselP : selectMethod e.platform s.vm cellB.cls mk = .method mk := by rw [Launch.admits_selectMethod X.admits]; exact q4
  obtain ⟨vm₁, X₁, hstep₁⟩ := X.invokevirtual hexec hown hlink hnamed hmethM hstM hkP hkPi hy (a := b) (cell := cellB) hcell
    (fun z h => by rw [h] at hobj; cases hobj) hselP hmethM habM hkP hkPi (g := g) hg (argsL := argsL) (rest := rest) (hlen _ hsigM) hstack hdg
  rcases hK m meth c ⟨T.setVm vm₁, locs, cells, slots⟩ { g with stack := rest } (.invokevirtual index) mk (Value.ref b :: argsL).toArray X₁ hg hsize hdg hW (X₁.named hnamed) (hpre vm₁ X₁.warmed) with ⟨v, B, X', hpost, hsteps⟩ | ⟨q, B, X', hpost, hsteps⟩
  · exact Or.inl ⟨v, vm₁, B, X₁.warmed, X', hpost, fun target h => hstep₁ _ fun acts => by rw [doInvoke_state]; exact hsteps.trans h⟩
  · exact Or.inr ⟨q, vm₁, B, X₁.warmed, X', hpost, hstep₁ _ fun acts => by rw [doInvoke_state]; exact hsteps⟩
theorem vx_callSX (X : Stand p l e R s m args below meth c T locs cells slots) (hexec : p.tables.exec = Jvm.exec) {own : String} {index : Nat} {y : MethodName} {bytes : ByteArray} {maxL : Nat} {ret : Option FieldType} {hh : List (Nat × Nat × Nat × Nat)}
    (hown : s.vm.findClass own = some m.cls) (hlink : (Cond.methodLink own index y).before args s = true) (hstat : (Cond.static y).before args s = true) (hinit : (Cond.initialized y.cls).before args s = true)
    (hcode : (Cond.codeWith y bytes maxL ret hh).before args s = true) (hy : y.cls ≠ "java/lang/invoke/MethodHandle" ∧ y.cls ≠ "java/lang/invoke/VarHandle")
    {W9 : Nat} {Pre : Pt → Array Value → Prop} {Post : Pt → Array Value → Option Value → Pt → Prop} {PostX : Pt → Array Value → Addr → Pt → Prop} (hK : vx_Back l R p e below s args y 3 W9 Pre Post PostX)
    {g : JFrame} (hg : g.method = m) (hsize : g.locals.size = c.maxLocals) {argsL rest : List Value} (hlen : ∀ sig, parseMethodDescriptor y.desc = some sig → argsL.length = sig.parameters.length)
    (hstack : g.stack = argsL.reverse ++ rest) (hW : 2 * g.monitorRoom + (rest.map fun v => v.category).sum ≤ W9) (hdg : decode c.code g.pc = .ok (.invokestatic index, 3))
    (hpre : ∀ vm₁, s.WarmedH vm₁ → Pre ⟨T.setVm vm₁, locs, cells, slots⟩ argsL.toArray) :
    (∃ (v : Option Value) (vm₁ : Vm) (B : Pt), s.WarmedH vm₁ ∧ Stand p l e R s m args below meth c B.U B.locs B.cells B.slots ∧ Post ⟨T.setVm vm₁, locs, cells, slots⟩ argsL.toArray v B ∧
      ∀ target, Steps p.tables e below (B.U.setTop { g with pc := g.pc + 3, stack := v.toList ++ rest }) target → Steps p.tables e below (T.setTop g) target) ∨
    (∃ (q : Addr) (vm₁ : Vm) (B : Pt), s.WarmedH vm₁ ∧ Stand p l e R s m args below meth c B.U B.locs B.cells B.slots ∧ PostX ⟨T.setVm vm₁, locs, cells, slots⟩ argsL.toArray q B ∧
      Steps p.tables e below (T.setTop g) ((B.U.setTop { g with stack := rest }).pushFrame (.throwing q))) := by
  obtain ⟨mk, methM, cM, hnamed, hmethM, -, -, -, -, -, -, hsigM⟩ := Cond.codeWith_spec hcode
  have hstatic : methM.isStatic = true := Cond.static_spec hnamed hmethM hstat
  obtain ⟨kP, hkP, -⟩ := className_of_methodNamed hnamed
  have hinitP : kP.init = .initialized := Cond.initialized_spec (findClass_of_methodNamed hnamed) hkP hinit
  obtain ⟨vm₁, X₁, hstep₁⟩ := X.invokestatic hexec hown hlink hnamed hmethM hstatic hkP hinitP hy (g := g) hg (argsL := argsL) (rest := rest) (hlen _ hsigM) hstack hdg
  rcases hK m meth c ⟨T.setVm vm₁, locs, cells, slots⟩ { g with stack := rest } (.invokestatic index) mk argsL.toArray X₁ hg hsize hdg hW (X₁.named hnamed) (hpre vm₁ X₁.warmed) with ⟨v, B, X', hpost, hsteps⟩ | ⟨q, B, X', hpost, hsteps⟩
  · exact Or.inl ⟨v, vm₁, B, X₁.warmed, X', hpost, fun target h => hstep₁ _ fun acts => by rw [doInvoke_state]; exact hsteps.trans h⟩
  · exact Or.inr ⟨q, vm₁, B, X₁.warmed, X', hpost, hstep₁ _ fun acts => by rw [doInvoke_state]; exact hsteps⟩
theorem vx_callVW (X : Stand p l e R s m args below meth c T locs cells slots) (hexec : p.tables.exec = Jvm.exec) {own C : String} {index : Nat} {y : MethodName} {bytes : ByteArray} {maxL : Nat} {ret : Option FieldType} {hh : List (Nat × Nat × Nat × Nat)}
    (hown : s.vm.findClass own = some m.cls) (hlink : (Cond.methodLink own index y).before args s = true) (hinst : (Cond.instanceMethod y).before args s = true) (hsel : (Cond.selects C y y).before args s = true)
    (hcode : (Cond.codeWith y bytes maxL ret hh).before args s = true) (hy : y.cls ≠ "java/lang/invoke/MethodHandle" ∧ y.cls ≠ "java/lang/invoke/VarHandle")
    {W9 : Nat} {Pre : Pt → Array Value → Prop} {Post : Pt → Array Value → Option Value → Pt → Prop} (hK : Back l R p e below s args y 3 W9 Pre Post)
    {b : Addr} {cellB : Cell} (hcell : T.heap[b]? = some cellB) (hobj : cellB.vm.isStatics = false) (hcls : s.vm.findClass C = some cellB.cls)
    {g : JFrame} (hg : g.method = m) (hsize : g.locals.size = c.maxLocals) {argsL rest : List Value} (hlen : ∀ sig, parseMethodDescriptor y.desc = some sig → argsL.length = sig.parameters.length)
    (hstack : g.stack = argsL.reverse ++ .ref b :: rest) (hW : 2 * g.monitorRoom + (rest.map fun v => v.category).sum ≤ W9) (hdg : decode c.code g.pc = .ok (.invokevirtual index, 3))
    (hpre : ∀ vm₁, s.WarmedH vm₁ → Pre ⟨T.setVm vm₁, locs, cells, slots⟩ (Value.ref b :: argsL).toArray) :
    ∃ (v : Option Value) (vm₁ : Vm) (B : Pt), s.WarmedH vm₁ ∧ Stand p l e R s m args below meth c B.U B.locs B.cells B.slots ∧ Post ⟨T.setVm vm₁, locs, cells, slots⟩ (Value.ref b :: argsL).toArray v B ∧
      ∀ target, Steps p.tables e below (B.U.setTop { g with pc := g.pc + 3, stack := v.toList ++ rest }) target → Steps p.tables e below (T.setTop g) target := by
  obtain ⟨mk, methM, hnamed, hmethM, hstM, habM⟩ := Cond.instanceMethod_spec hinst
  obtain ⟨m8, methM', cM, hn8, hmethM', -, -, -, -, -, -, hsigM⟩ := Cond.codeWith_spec hcode
  cases Option.some.inj (hn8.symm.trans hnamed)
  cases hmethM.symm.trans hmethM'
  obtain ⟨c2, r2, m2, q1, q2, q3, q4, kP, hkP, hkPi⟩ := Cond.selects_spec hsel
  cases hcls.symm.trans q1
  cases (State.methodFound?_of_named hnamed hy).symm.trans q2
  cases hnamed.symm.trans q3
  have hselP : selectMethod e.platform s.vm cellB.cls mk = .method mk := by rw [Launch.admits_selectMethod X.admits]; exact q4
  obtain ⟨vm₁, X₁, hstep₁⟩ := X.invokevirtual hexec hown hlink hnamed hmethM hstM hkP hkPi hy (a := b) (cell := cellB) hcell
    (fun z h => by rw [h] at hobj; cases hobj) hselP hmethM habM hkP hkPi (g := g) hg (argsL := argsL) (rest := rest) (hlen _ hsigM) hstack hdg
  obtain ⟨v, B, X', hpost, hsteps⟩ := hK m meth c ⟨T.setVm vm₁, locs, cells, slots⟩ { g with stack := rest } (.invokevirtual index) mk (Value.ref b :: argsL).toArray X₁ hg hsize hdg hW (X₁.named hnamed) (hpre vm₁ X₁.warmed)
  exact ⟨v, vm₁, B, X₁.warmed, X', hpost, fun target h => hstep₁ _ fun acts => by rw [doInvoke_state]; exact hsteps.trans h⟩
abbrev vx_CVW (R : Room) (s : State) (args : Array Value) (own C : String) (index : Nat) (y : MethodName) (bytes : ByteArray) (maxL : Nat) (ret : Option FieldType) (hh : List (Nat × Nat × Nat × Nat)) (ws : List Cond) (rm : Room) (mc ms n : Nat) : Prop :=
  (rm.cells = mc ∧ rm.slots = ms ∧ rm.frames + 1 ≤ R.frames ∧ 8 + (maxL + 11) + rm.locals ≤ R.locals ∧ (∀ w ∈ ws, ∀ (a' : Array Value) (U : State), s.WarmedH U.vm → w.before a' U = true) ∧ Cond.codeWith y bytes maxL ret hh ∈ ws) ∧
  (Cond.codeWith y bytes maxL ret hh).before args s = true ∧ (Cond.initialized y.cls).before args s = true ∧ (y.cls ≠ "java/lang/invoke/MethodHandle" ∧ y.cls ≠ "java/lang/invoke/VarHandle") ∧
  (∀ sig, parseMethodDescriptor y.desc = some sig → n = sig.parameters.length) ∧ (Cond.methodLink own index y).before args s = true ∧ (Cond.instanceMethod y).before args s = true ∧ (Cond.selects C y y).before args s = true
theorem vx_cwVW {own C : String} {index maxL mc ms : Nat} {y : MethodName} {bytes : ByteArray} {ret : Option FieldType} {hh : List (Nat × Nat × Nat × Nat)} {Ts ws ws' : List Cond} {rm : Room} (n : Nat) (ht : ∀ w ∈ Ts, w.before args s = true) (hT : GoodIn Ts (wsV own index C y ws)) (hw : ws = Cond.codeWith y bytes maxL ret hh :: ws') (hrc : rm.cells = mc) (hrs : rm.slots = ms)
    (hd : y.cls = C ∧ y.cls ≠ "java/lang/invoke/MethodHandle" ∧ y.cls ≠ "java/lang/invoke/VarHandle" ∧ (parseMethodDescriptor y.desc).map (fun d => d.parameters.length) = some n) (hR : rm.frames + 1 ≤ R.frames ∧ 8 + (maxL + 11) + rm.locals ≤ R.locals) :
    vx_CVW R s args own C index y bytes maxL ret hh ws rm mc ms n := by
  obtain ⟨hC, hd⟩ := hd
  subst hC
  have ok : ∀ w ∈ wsV own index y.cls y ws, w.before args s = true := fun w h => ht w (hT w h).1
  have hG : GoodIn Ts ws := fun w h => hT w (by unfold wsV; exact List.mem_append_right _ h)
  have hc : Cond.codeWith y bytes maxL ret hh ∈ ws := by rw [hw]; exact List.mem_cons_self
  refine ⟨⟨hrc, hrs, hR.1, hR.2, pay_in ht hG, hc⟩, ht _ (hG _ hc).1, ok _ (by simp [wsV]), ⟨hd.1, hd.2.1⟩, fun sig h => ?_, ok _ (by simp [wsV]), ok _ (by simp [wsV]), ok _ (by simp [wsV])⟩
  have h2 := hd.2.2
  rw [h] at h2
  exact (Option.some.inj h2).symm
theorem vx_runVW {y : MethodName} {bytes cc : ByteArray} {maxL nL mc ms n index : Nat} {ret : Option FieldType} {hh : List (Nat × Nat × Nat × Nat)} {ws : List Cond} {rm : Room} {Pc : Array Value → State → Prop} {Qc : Array Value → State → Outcome → State → Prop} {free : Addr → Prop} {Ts : List Cond} {own C : String} {b : Addr} {As rest : List Value} {g : JFrame}
    (S : CallFix p m c cc nL s args Ts own) (hM : Met l y ws rm Pc Qc mc ms free) (cw : vx_CVW R s args own C index y bytes maxL ret hh ws rm mc ms n) (hp : PreV s H C b Pc As)
    (hg : g.method = m) (hn : As.length = n) (hsize : g.locals.size = nL) (hstack : g.stack = As.reverse ++ .ref b :: rest) (hW : 2 * g.monitorRoom + (rest.map fun v => v.category).sum ≤ 8) (hdg : decode cc g.pc = .ok (.invokevirtual index, 3)) (hf : cells + mc ≤ R.cells ∧ slots + ms ≤ R.slots) :
    va_Run p l e R s m args below meth c H locs cells slots mc ms g rest (Qc (Value.ref b :: As).toArray) free := by
  obtain ⟨⟨hrc, hrs, hfr, hlo, hws, hcw⟩, hcode, hini, hy, hlen, hl, hin, hse⟩ := cw
  have hK : Back l R p e below s args y 3 8 (PreOf R mc ms Pc) (PostOf Qc mc ms free) := va_backW (hh := hh) (bytes := bytes) (maxL := maxL) (ret := ret) hM hp.1 hrc hrs hfr hlo hws hcw (fun a' U hW => word_at hW (Or.inl (by first | rfl | simp [Cond.onTables, Cond.keeps, Cond.steady])) hini)
  obtain ⟨hx, hb, hml, ho, -⟩ := S
  obtain ⟨-, ⟨cellB, hcB, hoB, hclB⟩, hPc⟩ := hp
  intro T hT X
  obtain ⟨v, vm₁, ⟨U', l2, c2, s2⟩, hW₁, X', ⟨g', mk, t, L, e1, e2, hq, h1, hL, h2, h3⟩, st⟩ := vx_callVW X hx (C := C) (hh := hh) (bytes := bytes) (maxL := maxL) (ret := ret) ho hl hin hse hcode hy hK (by rw [hT]; exact hcB) hoB hclB hg (hsize.trans hml.symm) (argsL := As) (rest := rest) (fun sig h => hn.trans (hlen sig h)) hstack hW (by rw [hb]; exact hdg)
    (fun vm₁ hW₁ => ⟨hf.1, hf.2, hPc (T.setVm vm₁) hT hW₁⟩)
  dsimp only [Pt.U, Pt.locs, Pt.cells, Pt.slots] at X' e1 e2 h1 h2 h3 st
  subst h1; subst h2; subst h3
  exact ⟨v, (T.setVm vm₁).calling g' mk (Value.ref b :: As).toArray, t, U', L, hT, X', hL, e1, e2, hq, st⟩
section
variable {y : MethodName} {bytes cc : ByteArray} {maxL nL mc ms n index : Nat} {ret : Option FieldType} {ws : List Cond} {rm : Room} {Pc : Array Value → State → Prop} {Qc : Array Value → State → Outcome → State → Prop} {XC : String → State → State → Prop} {free : Addr → Prop} {Ts : List Cond} {own C : String} {b : Addr} {As rest : List Value} {g : JFrame}
theorem vx_runVX {hh : List (Nat × Nat × Nat × Nat)} (S : CallFix p m c cc nL s args Ts own) (hM : vx_Met l y ws rm Pc Qc XC mc ms free) (cw : vx_CVW R s args own C index y bytes maxL ret hh ws rm mc ms n) (hp : PreV s H C b Pc As)
    (hg : g.method = m) (hn : As.length = n) (hsize : g.locals.size = nL) (hstack : g.stack = As.reverse ++ .ref b :: rest) (hW : 2 * g.monitorRoom + (rest.map fun v => v.category).sum ≤ 8) (hdg : decode cc g.pc = .ok (.invokevirtual index, 3)) (hf : cells + mc ≤ R.cells ∧ slots + ms ≤ R.slots) :
    vx_Run p l e R s m args below meth c H locs cells slots mc ms g rest (Qc (Value.ref b :: As).toArray) XC free := by
  obtain ⟨⟨hrc, hrs, hfr, hlo, hws, hcw⟩, hcode, hini, hy, hlen, hl, hin, hse⟩ := cw
  have hK : vx_Back l R p e below s args y 3 8 (PreOf R mc ms Pc) (PostOf Qc mc ms free) (vx_Post XC mc ms free) := vx_backW (hh := hh) (bytes := bytes) (maxL := maxL) (ret := ret) hM hp.1 hrc hrs hfr hlo hws hcw (fun a' U hW => word_at hW (Or.inl (by first | rfl | simp [Cond.onTables, Cond.keeps, Cond.steady])) hini)
  obtain ⟨hx, hb, hml, ho, -⟩ := S
  obtain ⟨-, ⟨cellB, hcB, hoB, hclB⟩, hPc⟩ := hp
  intro T hT X
  rcases vx_callVX X hx (C := C) (hh := hh) (bytes := bytes) (maxL := maxL) (ret := ret) ho hl hin hse hcode hy hK (by rw [hT]; exact hcB) hoB hclB hg (hsize.trans hml.symm) (argsL := As) (rest := rest) (fun sig h => hn.trans (hlen sig h)) hstack hW (by rw [hb]; exact hdg)
    (fun vm₁ hW₁ => ⟨hf.1, hf.2, hPc (T.setVm vm₁) hT hW₁⟩) with ⟨v, vm₁, ⟨U', l2, c2, s2⟩, hW₁, X', ⟨g', mk, t, L, e1, e2, hq, h1, hL, h2, h3⟩, st⟩ | ⟨q, vm₁, ⟨U', l2, c2, s2⟩, hW₁, X', ⟨g', mk, t, L, E, ce, e1, e2, hq, hce, hcv, hcl, h1, hL, h2, h3⟩, st⟩
  · dsimp only [Pt.U, Pt.locs, Pt.cells, Pt.slots] at X' e1 e2 h1 h2 h3 st
    subst h1; subst h2; subst h3
    exact Or.inl ⟨v, (T.setVm vm₁).calling g' mk (Value.ref b :: As).toArray, t, U', L, hT, X', hL, e1, e2, hq, st⟩
  · dsimp only [Pt.U, Pt.locs, Pt.cells, Pt.slots] at X' e1 e2 h1 h2 h3 st hcl
    subst h1; subst h2; subst h3
    exact Or.inr ⟨q, (T.setVm vm₁).calling g' mk (Value.ref b :: As).toArray, t, U', L, E, ce, hT, X', hL, e1, e2, hq, hce, hcv, vx_cls hW₁ hcl, st⟩
theorem vx_runSX {hh : List (Nat × Nat × Nat × Nat)} (S : CallFix p m c cc nL s args Ts own) (hM : vx_Met l y ws rm Pc Qc XC mc ms free) (cw : vx_CSW R s args own index y bytes maxL ret hh ws rm mc ms n) (hp : PreS s H Pc As)
    (hg : g.method = m) (hn : As.length = n) (hsize : g.locals.size = nL) (hstack : g.stack = As.reverse ++ rest) (hW : 2 * g.monitorRoom + (rest.map fun v => v.category).sum ≤ 8) (hdg : decode cc g.pc = .ok (.invokestatic index, 3)) (hf : cells + mc ≤ R.cells ∧ slots + ms ≤ R.slots) :
    vx_Run p l e R s m args below meth c H locs cells slots mc ms g rest (Qc As.toArray) XC free := by
  obtain ⟨⟨hrc, hrs, hfr, hlo, hws, hcw⟩, hcode, hini, hy, hlen, hl, hstt⟩ := cw
  have hK : vx_Back l R p e below s args y 3 8 (PreOf R mc ms Pc) (PostOf Qc mc ms free) (vx_Post XC mc ms free) := vx_backW (hh := hh) (bytes := bytes) (maxL := maxL) (ret := ret) hM hp.1 hrc hrs hfr hlo hws hcw (fun a' U hW => word_at hW (Or.inl (by first | rfl | simp [Cond.onTables, Cond.keeps, Cond.steady])) hini)
  obtain ⟨hx, hb, hml, ho, -⟩ := S
  intro T hT X
  rcases vx_callSX X hx (hh := hh) (bytes := bytes) (maxL := maxL) (ret := ret) ho hl hstt hini hcode hy hK hg (hsize.trans hml.symm) (argsL := As) (rest := rest) (fun sig h => hn.trans (hlen sig h)) hstack hW (by rw [hb]; exact hdg)
    (fun vm₁ hW₁ => ⟨hf.1, hf.2, hp.2 (T.setVm vm₁) hT hW₁⟩) with ⟨v, vm₁, ⟨U', l2, c2, s2⟩, hW₁, X', ⟨g', mk, t, L, e1, e2, hq, h1, hL, h2, h3⟩, st⟩ | ⟨q, vm₁, ⟨U', l2, c2, s2⟩, hW₁, X', ⟨g', mk, t, L, E, ce, e1, e2, hq, hce, hcv, hcl, h1, hL, h2, h3⟩, st⟩
  · dsimp only [Pt.U, Pt.locs, Pt.cells, Pt.slots] at X' e1 e2 h1 h2 h3 st
    subst h1; subst h2; subst h3
    exact Or.inl ⟨v, (T.setVm vm₁).calling g' mk As.toArray, t, U', L, hT, X', hL, e1, e2, hq, st⟩
  · dsimp only [Pt.U, Pt.locs, Pt.cells, Pt.slots] at X' e1 e2 h1 h2 h3 st hcl
    subst h1; subst h2; subst h3
    exact Or.inr ⟨q, (T.setVm vm₁).calling g' mk As.toArray, t, U', L, E, ce, hT, X', hL, e1, e2, hq, hce, hcv, vx_cls hW₁ hcl, st⟩
end
end VXH
theorem vx_ofWH {l : Launch} {y : MethodName} {ws ws' : List Cond} {rm : Room} {Pc : Array Value → State → Prop} {Qc : Array Value → State → Outcome → State → Prop} {XC : String → State → State → Prop} {mc ms : Nat} {free : Addr → Prop} {cc : ByteArray} {maxL : Nat} {ret : Option FieldType} {hh : List (Nat × Nat × Nat × Nat)}
    (hy : plainName y.cls = true) (hw : ws = Cond.codeWith y cc maxL ret hh :: ws')
    (body : ∀ p e s m args below meth c s₁, BodyLoose p l y (headSpec ws rm) cc maxL ret e s m args below meth c s₁ → c.maxLocals = maxL → Pc args s →
      W p l e (headSpec ws rm).room s m args below meth c s.heap [] 0 0 (vx_MQ below Qc XC args s mc ms free) (entryFrame m args maxL)) : vx_Met l y ws rm Pc Qc XC mc ms free := by
  refine MetFree.of_bodyS (code := cc) (maxLocals := maxL) (ret := ret) hy ?_ ?_
  · intro args s m h hn
    obtain ⟨m9, meth, c, hn9, h1, h2, h3, h4, -, h5, h6, -⟩ := Cond.codeWith_spec (atoms_spec (ws := ws) h _ (by rw [hw]; exact List.mem_cons_self))
    cases hn.symm.trans hn9
    exact ⟨meth, c, h1, h2, h3, h4, h5, h6⟩
  · intro p e s m args below meth c s₁ B hml hP _
    have hh0 : s₁.heap = s.heap := by rw [B.state]; rfl
    obtain ⟨t, a1, o, b1, b2, b3⟩ := body p e s m args below meth c s₁ B hml hP s₁ hh0 (Stand.of_body B)
    exact ⟨t, o, a1, b1, b2, b3⟩
/-! ===== END ===== -/
end
section
def RX0 : String := "SnowRecorder$Guesses"
def TX0 : u_T := fun k => match k with
  | 0 => ("SnowRecorder$Guesses", "many", "I", false)
  | 1 => ("SnowRecorder$Guesses", "first", "I", false)
  | 2 => ("SnowRecorder$Guesses", "unlike", "[I", true)
  | _ => ("SnowRecorder$Guesses", "depths", "[[I", true)
def tyX0 : Nat → FieldType := fun k => match k with
  | 0 => .int
  | 1 => .int
  | 2 => .array .int
  | _ => .array (.array .int)
abbrev wsX00 : List Cond := u_ws RX0 TX0 4
theorem nmX0 : ∀ a, a < 4 → ∀ b, b < 4 → a ≠ b → (TX0 a).2.1 ≠ (TX0 b).2.1 := by decide +kernel
theorem tyX0_ok : ∀ k, k < 4 → parseFieldDescriptor (TX0 k).2.2.1 = some (tyX0 k) := by decide +kernel
abbrev cX0_init : ByteArray := prog_2_method_1_code
def yX0_init : MethodName := ⟨RX0, "<init>", "()V"⟩
abbrev cX0_clear : ByteArray := prog_2_method_2_code
def yX0_clear : MethodName := ⟨RX0, "clear", "()V"⟩
abbrev cX0_add : ByteArray := prog_2_method_3_code
def yX0_add : MethodName := ⟨RX0, "add", "(I)V"⟩
abbrev cX0_see : ByteArray := prog_2_method_4_code
def yX0_see : MethodName := ⟨RX0, "see", "(II)V"⟩
def RX1 : String := "SnowRecorder$Likeness"
def TX1 : u_T := fun k => match k with
  | _ => ("SnowRecorder$Likeness", "row", "[I", true)
def tyX1 : Nat → FieldType := fun k => match k with
  | _ => .array .int
abbrev wsX10 : List Cond := u_ws RX1 TX1 1
theorem nmX1 : ∀ a, a < 1 → ∀ b, b < 1 → a ≠ b → (TX1 a).2.1 ≠ (TX1 b).2.1 := by decide +kernel
theorem tyX1_ok : ∀ k, k < 1 → parseFieldDescriptor (TX1 k).2.2.1 = some (tyX1 k) := by decide +kernel
abbrev cX1_init : ByteArray := prog_3_method_1_code
def yX1_init : MethodName := ⟨RX1, "<init>", "()V"⟩
abbrev cX1_longestRow : ByteArray := prog_3_method_2_code
def yX1_longestRow : MethodName := ⟨RX1, "longestRow", "(LSnowRecorder$Pack;LSnowRecorder$Pack;)I"⟩
abbrev cX1_fewestSteps : ByteArray := prog_3_method_3_code
def yX1_fewestSteps : MethodName := ⟨RX1, "fewestSteps", "(LSnowRecorder$Pack;LSnowRecorder$Pack;)I"⟩
def RX2 : String := "SnowRecorder$Notes"
def TX2 : u_T := fun k => match k with
  | 0 => ("SnowRecorder$Notes", "size", "I", false)
  | 1 => ("SnowRecorder$Notes", "slope", "[I", true)
  | 2 => ("SnowRecorder$Notes", "hours", "[I", true)
  | _ => ("SnowRecorder$Notes", "depth", "[I", true)
def tyX2 : Nat → FieldType := fun k => match k with
  | 0 => .int
  | 1 => .array .int
  | 2 => .array .int
  | _ => .array .int
abbrev wsX20 : List Cond := u_ws RX2 TX2 4
theorem nmX2 : ∀ a, a < 4 → ∀ b, b < 4 → a ≠ b → (TX2 a).2.1 ≠ (TX2 b).2.1 := by decide +kernel
theorem tyX2_ok : ∀ k, k < 4 → parseFieldDescriptor (TX2 k).2.2.1 = some (tyX2 k) := by decide +kernel
abbrev cX2_init : ByteArray := prog_4_method_1_code
def yX2_init : MethodName := ⟨RX2, "<init>", "()V"⟩
abbrev cX2_copyFrom : ByteArray := prog_4_method_2_code
def yX2_copyFrom : MethodName := ⟨RX2, "copyFrom", "(LSnowRecorder$Notes;)V"⟩
abbrev cX2_add : ByteArray := prog_4_method_3_code
def yX2_add : MethodName := ⟨RX2, "add", "(III)V"⟩
abbrev cX2_slopes : ByteArray := prog_4_method_4_code
def yX2_slopes : MethodName := ⟨RX2, "slopes", "()I"⟩
abbrev cX2_lastHour : ByteArray := prog_4_method_5_code
def yX2_lastHour : MethodName := ⟨RX2, "lastHour", "()I"⟩
def RX3 : String := "SnowRecorder$Pack"
def TX3 : u_T := fun k => match k with
  | 0 => ("SnowRecorder$Pack", "size", "I", false)
  | 1 => ("SnowRecorder$Pack", "runoff", "I", false)
  | _ => ("SnowRecorder$Pack", "cells", "[I", true)
def tyX3 : Nat → FieldType := fun k => match k with
  | 0 => .int
  | 1 => .int
  | _ => .array .int
abbrev wsX30 : List Cond := u_ws RX3 TX3 3
theorem nmX3 : ∀ a, a < 3 → ∀ b, b < 3 → a ≠ b → (TX3 a).2.1 ≠ (TX3 b).2.1 := by decide +kernel
theorem tyX3_ok : ∀ k, k < 3 → parseFieldDescriptor (TX3 k).2.2.1 = some (tyX3 k) := by decide +kernel
abbrev cX3_init : ByteArray := prog_5_method_1_code
def yX3_init : MethodName := ⟨RX3, "<init>", "()V"⟩
abbrev cX3_clear : ByteArray := prog_5_method_2_code
def yX3_clear : MethodName := ⟨RX3, "clear", "()V"⟩
abbrev cX3_copyFrom : ByteArray := prog_5_method_3_code
def yX3_copyFrom : MethodName := ⟨RX3, "copyFrom", "(LSnowRecorder$Pack;)V"⟩
abbrev cX3_sum : ByteArray := prog_5_method_4_code
def yX3_sum : MethodName := ⟨RX3, "sum", "(I)I"⟩
abbrev cX3_mass : ByteArray := prog_5_method_5_code
def yX3_mass : MethodName := ⟨RX3, "mass", "(I)I"⟩
abbrev cX3_massAbove : ByteArray := prog_5_method_6_code
def yX3_massAbove : MethodName := ⟨RX3, "massAbove", "(I)I"⟩
abbrev cX3_nameOf : ByteArray := prog_5_method_7_code
def yX3_nameOf : MethodName := ⟨RX3, "nameOf", "(I)I"⟩
abbrev cX3_has : ByteArray := prog_5_method_8_code
def yX3_has : MethodName := ⟨RX3, "has", "(I)Z"⟩
abbrev cX3_namesIn : ByteArray := prog_5_method_9_code
def yX3_namesIn : MethodName := ⟨RX3, "namesIn", "(LSnowRecorder$Pack;)I"⟩
abbrev cX3_add : ByteArray := prog_5_method_10_code
def yX3_add : MethodName := ⟨RX3, "add", "(IIIIII)V"⟩
abbrev cX3_joinLowest : ByteArray := prog_5_method_11_code
def yX3_joinLowest : MethodName := ⟨RX3, "joinLowest", "()V"⟩
abbrev cX3_wet : ByteArray := prog_5_method_12_code
def yX3_wet : MethodName := ⟨RX3, "wet", "(II)V"⟩
abbrev cX3_melt : ByteArray := prog_5_method_13_code
def yX3_melt : MethodName := ⟨RX3, "melt", "(I)V"⟩
abbrev cX3_cool : ByteArray := prog_5_method_14_code
def yX3_cool : MethodName := ⟨RX3, "cool", "(I)V"⟩
abbrev cX3_evenTemps : ByteArray := prog_5_method_15_code
def yX3_evenTemps : MethodName := ⟨RX3, "evenTemps", "()V"⟩
abbrev cX3_freezeAndSink : ByteArray := prog_5_method_16_code
def yX3_freezeAndSink : MethodName := ⟨RX3, "freezeAndSink", "(LSnowRecorder$Plan;)V"⟩
abbrev cX3_freeze : ByteArray := prog_5_method_17_code
def yX3_freeze : MethodName := ⟨RX3, "freeze", "(I)V"⟩
abbrev cX3_press : ByteArray := prog_5_method_18_code
def yX3_press : MethodName := ⟨RX3, "press", "(LSnowRecorder$Plan;)V"⟩
abbrev cX3_turnAndAge : ByteArray := prog_5_method_19_code
def yX3_turnAndAge : MethodName := ⟨RX3, "turnAndAge", "(I)V"⟩
abbrev cX3_nextKind : ByteArray := prog_5_method_20_code
def yX3_nextKind : MethodName := ⟨RX3, "nextKind", "(II)I"⟩
abbrev cX3_grade : ByteArray := prog_5_method_21_code
def yX3_grade : MethodName := ⟨RX3, "grade", "(II)I"⟩
abbrev cX3_strength : ByteArray := prog_5_method_22_code
def yX3_strength : MethodName := ⟨RX3, "strength", "(ILSnowRecorder$Plan;)I"⟩
abbrev cX3_ratio : ByteArray := prog_5_method_23_code
def yX3_ratio : MethodName := ⟨RX3, "ratio", "(IILSnowRecorder$Plan;)I"⟩
abbrev cX3_weakest : ByteArray := prog_5_method_24_code
def yX3_weakest : MethodName := ⟨RX3, "weakest", "(ILSnowRecorder$Plan;)I"⟩
abbrev cX3_leastRatio : ByteArray := prog_5_method_25_code
def yX3_leastRatio : MethodName := ⟨RX3, "leastRatio", "(ILSnowRecorder$Plan;)I"⟩
abbrev cX3_lowestUnstable : ByteArray := prog_5_method_26_code
def yX3_lowestUnstable : MethodName := ⟨RX3, "lowestUnstable", "(IILSnowRecorder$Plan;)I"⟩
def RX4 : String := "SnowRecorder$Pit"
def TX4 : u_T := fun k => match k with
  | 0 => ("SnowRecorder$Pit", "slope", "I", false)
  | 1 => ("SnowRecorder$Pit", "time", "I", false)
  | _ => ("SnowRecorder$Pit", "pack", "LSnowRecorder$Pack;", true)
def tyX4 : Nat → FieldType := fun k => match k with
  | 0 => .int
  | 1 => .int
  | _ => .object "SnowRecorder$Pack"
abbrev wsX40 : List Cond := u_ws RX4 TX4 3
theorem nmX4 : ∀ a, a < 3 → ∀ b, b < 3 → a ≠ b → (TX4 a).2.1 ≠ (TX4 b).2.1 := by decide +kernel
theorem tyX4_ok : ∀ k, k < 3 → parseFieldDescriptor (TX4 k).2.2.1 = some (tyX4 k) := by decide +kernel
abbrev cX4_init : ByteArray := prog_6_method_1_code
def yX4_init : MethodName := ⟨RX4, "<init>", "()V"⟩
abbrev cX4_copyFrom : ByteArray := prog_6_method_2_code
def yX4_copyFrom : MethodName := ⟨RX4, "copyFrom", "(LSnowRecorder$Pit;)V"⟩
def RX5 : String := "SnowRecorder$Plan"
def TX5 : u_T := fun k => match k with
  | 0 => ("SnowRecorder$Plan", "slopes", "I", false)
  | 1 => ("SnowRecorder$Plan", "hours", "I", false)
  | 2 => ("SnowRecorder$Plan", "untoldAir", "I", false)
  | 3 => ("SnowRecorder$Plan", "steep", "[I", true)
  | 4 => ("SnowRecorder$Plan", "open", "[I", true)
  | 5 => ("SnowRecorder$Plan", "air", "[I", true)
  | 6 => ("SnowRecorder$Plan", "fall", "[I", true)
  | 7 => ("SnowRecorder$Plan", "much", "[I", true)
  | _ => ("SnowRecorder$Plan", "table", "[I", true)
def tyX5 : Nat → FieldType := fun k => match k with
  | 0 => .int
  | 1 => .int
  | 2 => .int
  | 3 => .array .int
  | 4 => .array .int
  | 5 => .array .int
  | 6 => .array .int
  | 7 => .array .int
  | _ => .array .int
abbrev wsX50 : List Cond := u_ws RX5 TX5 9
theorem nmX5 : ∀ a, a < 9 → ∀ b, b < 9 → a ≠ b → (TX5 a).2.1 ≠ (TX5 b).2.1 := by decide +kernel
theorem tyX5_ok : ∀ k, k < 9 → parseFieldDescriptor (TX5 k).2.2.1 = some (tyX5 k) := by decide +kernel
abbrev cX5_init : ByteArray := prog_7_method_1_code
def yX5_init : MethodName := ⟨RX5, "<init>", "()V"⟩
abbrev cX5_clear : ByteArray := prog_7_method_2_code
def yX5_clear : MethodName := ⟨RX5, "clear", "()V"⟩
abbrev cX5_copyFrom : ByteArray := prog_7_method_3_code
def yX5_copyFrom : MethodName := ⟨RX5, "copyFrom", "(LSnowRecorder$Plan;)V"⟩
abbrev cX5_warm : ByteArray := prog_7_method_4_code
def yX5_warm : MethodName := ⟨RX5, "warm", "(I)V"⟩
abbrev cX5_allSlopes : ByteArray := prog_7_method_5_code
def yX5_allSlopes : MethodName := ⟨RX5, "allSlopes", "()I"⟩
abbrev cX5_airAt : ByteArray := prog_7_method_6_code
def yX5_airAt : MethodName := ⟨RX5, "airAt", "(I)I"⟩
abbrev cX5_fallAt : ByteArray := prog_7_method_7_code
def yX5_fallAt : MethodName := ⟨RX5, "fallAt", "(I)I"⟩
abbrev cX5_muchAt : ByteArray := prog_7_method_8_code
def yX5_muchAt : MethodName := ⟨RX5, "muchAt", "(I)I"⟩
abbrev cX5_of : ByteArray := prog_7_method_9_code
def yX5_of : MethodName := ⟨RX5, "of", "(II)I"⟩
def RX6 : String := "SnowRecorder$State"
def TX6 : u_T := fun k => match k with
  | 0 => ("SnowRecorder$State", "now", "LSnowRecorder$World;", true)
  | 1 => ("SnowRecorder$State", "before", "[LSnowRecorder$World;", true)
  | 2 => ("SnowRecorder$State", "acts", "I", false)
  | 3 => ("SnowRecorder$State", "pits", "[LSnowRecorder$Pit;", true)
  | 4 => ("SnowRecorder$State", "notes", "LSnowRecorder$Notes;", true)
  | _ => ("SnowRecorder$State", "refused", "[I", true)
def tyX6 : Nat → FieldType := fun k => match k with
  | 0 => .object "SnowRecorder$World"
  | 1 => .array (.object "SnowRecorder$World")
  | 2 => .int
  | 3 => .array (.object "SnowRecorder$Pit")
  | 4 => .object "SnowRecorder$Notes"
  | _ => .array .int
abbrev wsX60 : List Cond := u_ws RX6 TX6 6
theorem nmX6 : ∀ a, a < 6 → ∀ b, b < 6 → a ≠ b → (TX6 a).2.1 ≠ (TX6 b).2.1 := by decide +kernel
theorem tyX6_ok : ∀ k, k < 6 → parseFieldDescriptor (TX6 k).2.2.1 = some (tyX6 k) := by decide +kernel
abbrev cX6_init : ByteArray := prog_8_method_1_code
def yX6_init : MethodName := ⟨RX6, "<init>", "()V"⟩
abbrev cX6_beginWith : ByteArray := prog_8_method_2_code
def yX6_beginWith : MethodName := ⟨RX6, "beginWith", "(LSnowRecorder$World;)V"⟩
abbrev cX6_copyFrom : ByteArray := prog_8_method_3_code
def yX6_copyFrom : MethodName := ⟨RX6, "copyFrom", "(LSnowRecorder$State;)V"⟩
abbrev cX6_keepAct : ByteArray := prog_8_method_4_code
def yX6_keepAct : MethodName := ⟨RX6, "keepAct", "()V"⟩
abbrev cX6_forgetOldest : ByteArray := prog_8_method_5_code
def yX6_forgetOldest : MethodName := ⟨RX6, "forgetOldest", "()V"⟩
abbrev cX6_takeBack : ByteArray := prog_8_method_6_code
def yX6_takeBack : MethodName := ⟨RX6, "takeBack", "()V"⟩
abbrev cX6_keepPit : ByteArray := prog_8_method_7_code
def yX6_keepPit : MethodName := ⟨RX6, "keepPit", "(I)V"⟩
def RX7 : String := "SnowRecorder$TextReader"
def TX7 : u_T := fun k => match k with
  | 0 => ("SnowRecorder$TextReader", "place", "I", false)
  | 1 => ("SnowRecorder$TextReader", "code", "I", false)
  | 2 => ("SnowRecorder$TextReader", "text", "[B", false)
  | 3 => ("SnowRecorder$TextReader", "end", "I", false)
  | 4 => ("SnowRecorder$TextReader", "type", "I", false)
  | 5 => ("SnowRecorder$TextReader", "at", "I", false)
  | 6 => ("SnowRecorder$TextReader", "behind", "I", false)
  | 7 => ("SnowRecorder$TextReader", "taken", "I", false)
  | _ => ("SnowRecorder$TextReader", "toldTable", "I", false)
def tyX7 : Nat → FieldType := fun k => match k with
  | 0 => .int
  | 1 => .int
  | 2 => .array .byte
  | 3 => .int
  | 4 => .int
  | 5 => .int
  | 6 => .int
  | 7 => .int
  | _ => .int
abbrev wsX70 : List Cond := u_ws RX7 TX7 9
theorem nmX7 : ∀ a, a < 9 → ∀ b, b < 9 → a ≠ b → (TX7 a).2.1 ≠ (TX7 b).2.1 := by decide +kernel
theorem tyX7_ok : ∀ k, k < 9 → parseFieldDescriptor (TX7 k).2.2.1 = some (tyX7 k) := by decide +kernel
abbrev cX7_init : ByteArray := prog_9_method_1_code
def yX7_init : MethodName := ⟨RX7, "<init>", "()V"⟩
abbrev cX7_read : ByteArray := prog_9_method_2_code
def yX7_read : MethodName := ⟨RX7, "read", "([BILSnowRecorder$Plan;LSnowRecorder$World;)I"⟩
abbrev cX7_readClause : ByteArray := prog_9_method_3_code
def yX7_readClause : MethodName := ⟨RX7, "readClause", "(LSnowRecorder$Plan;LSnowRecorder$World;)V"⟩
abbrev cX7_readSlope : ByteArray := prog_9_method_4_code
def yX7_readSlope : MethodName := ⟨RX7, "readSlope", "(LSnowRecorder$Plan;)V"⟩
abbrev cX7_readLayer : ByteArray := prog_9_method_5_code
def yX7_readLayer : MethodName := ⟨RX7, "readLayer", "(LSnowRecorder$Plan;LSnowRecorder$World;)V"⟩
abbrev cX7_readHour : ByteArray := prog_9_method_6_code
def yX7_readHour : MethodName := ⟨RX7, "readHour", "(LSnowRecorder$Plan;)V"⟩
abbrev cX7_readFall : ByteArray := prog_9_method_7_code
def yX7_readFall : MethodName := ⟨RX7, "readFall", "()I"⟩
abbrev cX7_readTable : ByteArray := prog_9_method_8_code
def yX7_readTable : MethodName := ⟨RX7, "readTable", "(LSnowRecorder$Plan;III)V"⟩
abbrev cX7_kind : ByteArray := prog_9_method_9_code
def yX7_kind : MethodName := ⟨RX7, "kind", "()I"⟩
abbrev cX7_number : ByteArray := prog_9_method_10_code
def yX7_number : MethodName := ⟨RX7, "number", "(II)I"⟩
abbrev cX7_close : ByteArray := prog_9_method_11_code
def yX7_close : MethodName := ⟨RX7, "close", "()V"⟩
abbrev cX7_fail : ByteArray := prog_9_method_12_code
def yX7_fail : MethodName := ⟨RX7, "fail", "(II)V"⟩
abbrev cX7_is : ByteArray := prog_9_method_13_code
def yX7_is : MethodName := ⟨RX7, "is", "(Ljava/lang/String;)Z"⟩
abbrev cX7_take : ByteArray := prog_9_method_14_code
def yX7_take : MethodName := ⟨RX7, "take", "()V"⟩
abbrev cX7_peek : ByteArray := prog_9_method_15_code
def yX7_peek : MethodName := ⟨RX7, "peek", "()V"⟩
abbrev cX7_typeOf : ByteArray := prog_9_method_16_code
def yX7_typeOf : MethodName := ⟨RX7, "typeOf", "(I)I"⟩
def RX8 : String := "SnowRecorder$World"
def TX8 : u_T := fun k => match k with
  | 0 => ("SnowRecorder$World", "time", "I", false)
  | 1 => ("SnowRecorder$World", "names", "I", false)
  | 2 => ("SnowRecorder$World", "taken", "I", false)
  | 3 => ("SnowRecorder$World", "slid", "I", false)
  | 4 => ("SnowRecorder$World", "slides", "I", false)
  | 5 => ("SnowRecorder$World", "pits", "I", false)
  | _ => ("SnowRecorder$World", "packs", "[LSnowRecorder$Pack;", true)
def tyX8 : Nat → FieldType := fun k => match k with
  | 0 => .int
  | 1 => .int
  | 2 => .int
  | 3 => .int
  | 4 => .int
  | 5 => .int
  | _ => .array (.object "SnowRecorder$Pack")
abbrev wsX80 : List Cond := u_ws RX8 TX8 7
theorem nmX8 : ∀ a, a < 7 → ∀ b, b < 7 → a ≠ b → (TX8 a).2.1 ≠ (TX8 b).2.1 := by decide +kernel
theorem tyX8_ok : ∀ k, k < 7 → parseFieldDescriptor (TX8 k).2.2.1 = some (tyX8 k) := by decide +kernel
abbrev cX8_init : ByteArray := prog_10_method_1_code
def yX8_init : MethodName := ⟨RX8, "<init>", "()V"⟩
abbrev cX8_clear : ByteArray := prog_10_method_2_code
def yX8_clear : MethodName := ⟨RX8, "clear", "()V"⟩
abbrev cX8_copyFrom : ByteArray := prog_10_method_3_code
def yX8_copyFrom : MethodName := ⟨RX8, "copyFrom", "(LSnowRecorder$World;)V"⟩
abbrev cX8_layers : ByteArray := prog_10_method_4_code
def yX8_layers : MethodName := ⟨RX8, "layers", "()I"⟩
abbrev cX8_runoff : ByteArray := prog_10_method_5_code
def yX8_runoff : MethodName := ⟨RX8, "runoff", "()I"⟩
abbrev cX8_sum : ByteArray := prog_10_method_6_code
def yX8_sum : MethodName := ⟨RX8, "sum", "(I)I"⟩
abbrev cX8_has : ByteArray := prog_10_method_7_code
def yX8_has : MethodName := ⟨RX8, "has", "(I)Z"⟩
abbrev cX8_hour : ByteArray := prog_10_method_8_code
def yX8_hour : MethodName := ⟨RX8, "hour", "(LSnowRecorder$Plan;IZ)V"⟩
abbrev cX8_fallOn : ByteArray := prog_10_method_9_code
def yX8_fallOn : MethodName := ⟨RX8, "fallOn", "(IIII)V"⟩
abbrev cX8_digOn : ByteArray := prog_10_method_10_code
def yX8_digOn : MethodName := ⟨RX8, "digOn", "(I)I"⟩
abbrev cX8_slideOn : ByteArray := prog_10_method_11_code
def yX8_slideOn : MethodName := ⟨RX8, "slideOn", "(ILSnowRecorder$Plan;)I"⟩
def RX9 : String := "SnowRecorder"
def TX9 : u_T := fun k => match k with
  | 0 => ("SnowRecorder", "tape", "[B", true)
  | 1 => ("SnowRecorder", "tapeSize", "I", false)
  | 2 => ("SnowRecorder", "faultPlace", "I", false)
  | 3 => ("SnowRecorder", "reader", "LSnowRecorder$TextReader;", true)
  | 4 => ("SnowRecorder", "plan", "LSnowRecorder$Plan;", true)
  | 5 => ("SnowRecorder", "state", "LSnowRecorder$State;", true)
  | 6 => ("SnowRecorder", "kept", "LSnowRecorder$State;", true)
  | 7 => ("SnowRecorder", "imaged", "Z", false)
  | 8 => ("SnowRecorder", "otherPlan", "LSnowRecorder$Plan;", true)
  | 9 => ("SnowRecorder", "trial", "LSnowRecorder$World;", true)
  | 10 => ("SnowRecorder", "lead", "LSnowRecorder$World;", true)
  | 11 => ("SnowRecorder", "guesses", "LSnowRecorder$Guesses;", true)
  | 12 => ("SnowRecorder", "likeness", "LSnowRecorder$Likeness;", true)
  | _ => ("SnowRecorder", "line", "Ljava/lang/StringBuilder;", true)
def tyX9 : Nat → FieldType := fun k => match k with
  | 0 => .array .byte
  | 1 => .int
  | 2 => .int
  | 3 => .object "SnowRecorder$TextReader"
  | 4 => .object "SnowRecorder$Plan"
  | 5 => .object "SnowRecorder$State"
  | 6 => .object "SnowRecorder$State"
  | 7 => .boolean
  | 8 => .object "SnowRecorder$Plan"
  | 9 => .object "SnowRecorder$World"
  | 10 => .object "SnowRecorder$World"
  | 11 => .object "SnowRecorder$Guesses"
  | 12 => .object "SnowRecorder$Likeness"
  | _ => .object "java/lang/StringBuilder"
abbrev wsX90 : List Cond := u_ws RX9 TX9 14
theorem nmX9 : ∀ a, a < 14 → ∀ b, b < 14 → a ≠ b → (TX9 a).2.1 ≠ (TX9 b).2.1 := by decide +kernel
theorem tyX9_ok : ∀ k, k < 14 → parseFieldDescriptor (TX9 k).2.2.1 = some (tyX9 k) := by decide +kernel
abbrev cX9_init : ByteArray := prog_1_method_1_code
def yX9_init : MethodName := ⟨RX9, "<init>", "()V"⟩
abbrev cX9_feed : ByteArray := prog_1_method_2_code
def yX9_feed : MethodName := ⟨RX9, "feed", "(IIIII)I"⟩
abbrev cX9_snow : ByteArray := prog_1_method_3_code
def yX9_snow : MethodName := ⟨RX9, "snow", "(I)I"⟩
abbrev cX9_fault : ByteArray := prog_1_method_4_code
def yX9_fault : MethodName := ⟨RX9, "fault", "()I"⟩
abbrev cX9_count : ByteArray := prog_1_method_5_code
def yX9_count : MethodName := ⟨RX9, "count", "(I)I"⟩
abbrev cX9_forecast : ByteArray := prog_1_method_6_code
def yX9_forecast : MethodName := ⟨RX9, "forecast", "(II)I"⟩
abbrev cX9_slope : ByteArray := prog_1_method_7_code
def yX9_slope : MethodName := ⟨RX9, "slope", "(II)I"⟩
abbrev cX9_layer : ByteArray := prog_1_method_8_code
def yX9_layer : MethodName := ⟨RX9, "layer", "(III)I"⟩
abbrev cX9_told : ByteArray := prog_1_method_9_code
def yX9_told : MethodName := ⟨RX9, "told", "(III)I"⟩
abbrev cX9_hours : ByteArray := prog_1_method_10_code
def yX9_hours : MethodName := ⟨RX9, "hours", "(I)I"⟩
abbrev cX9_fall : ByteArray := prog_1_method_11_code
def yX9_fall : MethodName := ⟨RX9, "fall", "(III)I"⟩
abbrev cX9_dig : ByteArray := prog_1_method_12_code
def yX9_dig : MethodName := ⟨RX9, "dig", "(I)I"⟩
abbrev cX9_slide : ByteArray := prog_1_method_13_code
def yX9_slide : MethodName := ⟨RX9, "slide", "(I)I"⟩
abbrev cX9_pit : ByteArray := prog_1_method_14_code
def yX9_pit : MethodName := ⟨RX9, "pit", "(I)I"⟩
abbrev cX9_undo : ByteArray := prog_1_method_15_code
def yX9_undo : MethodName := ⟨RX9, "undo", "()I"⟩
abbrev cX9_then : ByteArray := prog_1_method_16_code
def yX9_then : MethodName := ⟨RX9, "then", "(III)I"⟩
abbrev cX9_once : ByteArray := prog_1_method_17_code
def yX9_once : MethodName := ⟨RX9, "once", "(II)I"⟩
abbrev cX9_gone : ByteArray := prog_1_method_18_code
def yX9_gone : MethodName := ⟨RX9, "gone", "(I)I"⟩
abbrev cX9_stands : ByteArray := prog_1_method_19_code
def yX9_stands : MethodName := ⟨RX9, "stands", "(II)I"⟩
abbrev cX9_toLoad : ByteArray := prog_1_method_20_code
def yX9_toLoad : MethodName := ⟨RX9, "toLoad", "(I)I"⟩
abbrev cX9_steepest : ByteArray := prog_1_method_21_code
def yX9_steepest : MethodName := ⟨RX9, "steepest", "(I)I"⟩
abbrev cX9_toWarm : ByteArray := prog_1_method_22_code
def yX9_toWarm : MethodName := ⟨RX9, "toWarm", "(II)I"⟩
abbrev cX9_matters : ByteArray := prog_1_method_23_code
def yX9_matters : MethodName := ⟨RX9, "matters", "(III)I"⟩
abbrev cX9_pitOf : ByteArray := prog_1_method_24_code
def yX9_pitOf : MethodName := ⟨RX9, "pitOf", "(II)I"⟩
abbrev cX9_compare : ByteArray := prog_1_method_25_code
def yX9_compare : MethodName := ⟨RX9, "compare", "(III)I"⟩
abbrev cX9_nearest : ByteArray := prog_1_method_26_code
def yX9_nearest : MethodName := ⟨RX9, "nearest", "(I)I"⟩
abbrev cX9_note : ByteArray := prog_1_method_27_code
def yX9_note : MethodName := ⟨RX9, "note", "(III)I"⟩
abbrev cX9_falls : ByteArray := prog_1_method_28_code
def yX9_falls : MethodName := ⟨RX9, "falls", "(I)I"⟩
abbrev cX9_look : ByteArray := prog_1_method_29_code
def yX9_look : MethodName := ⟨RX9, "look", "(I)I"⟩
abbrev cX9_forget : ByteArray := prog_1_method_30_code
def yX9_forget : MethodName := ⟨RX9, "forget", "()V"⟩
abbrev cX9_odds : ByteArray := prog_1_method_31_code
def yX9_odds : MethodName := ⟨RX9, "odds", "(III)I"⟩
abbrev cX9_years : ByteArray := prog_1_method_32_code
def yX9_years : MethodName := ⟨RX9, "years", "(III)I"⟩
abbrev cX9_image : ByteArray := prog_1_method_33_code
def yX9_image : MethodName := ⟨RX9, "image", "()V"⟩
abbrev cX9_restore : ByteArray := prog_1_method_34_code
def yX9_restore : MethodName := ⟨RX9, "restore", "()Z"⟩
abbrev cX9_putBytes : ByteArray := prog_1_method_35_code
def yX9_putBytes : MethodName := ⟨RX9, "putBytes", "(I)V"⟩
abbrev cX9_refuse : ByteArray := prog_1_method_36_code
def yX9_refuse : MethodName := ⟨RX9, "refuse", "(I)I"⟩
abbrev cX9_isSlope : ByteArray := prog_1_method_37_code
def yX9_isSlope : MethodName := ⟨RX9, "isSlope", "(I)Z"⟩
abbrev cX9_needSlope : ByteArray := prog_1_method_38_code
def yX9_needSlope : MethodName := ⟨RX9, "needSlope", "(I)V"⟩
abbrev cX9_packOf : ByteArray := prog_1_method_39_code
def yX9_packOf : MethodName := ⟨RX9, "packOf", "(I)LSnowRecorder$Pack;"⟩
abbrev cX9_needLayer : ByteArray := prog_1_method_40_code
def yX9_needLayer : MethodName := ⟨RX9, "needLayer", "(LSnowRecorder$Pack;I)V"⟩
abbrev cX9_needPit : ByteArray := prog_1_method_41_code
def yX9_needPit : MethodName := ⟨RX9, "needPit", "(I)V"⟩
abbrev cX9_needWhat : ByteArray := prog_1_method_42_code
def yX9_needWhat : MethodName := ⟨RX9, "needWhat", "(II)V"⟩
abbrev cX9_needHours : ByteArray := prog_1_method_43_code
def yX9_needHours : MethodName := ⟨RX9, "needHours", "(III)V"⟩
abbrev cX9_worst : ByteArray := prog_1_method_44_code
def yX9_worst : MethodName := ⟨RX9, "worst", "()I"⟩
abbrev cX9_comesByHand : ByteArray := prog_1_method_45_code
def yX9_comesByHand : MethodName := ⟨RX9, "comesByHand", "(II)Z"⟩
abbrev cX9_isUnstable : ByteArray := prog_1_method_46_code
def yX9_isUnstable : MethodName := ⟨RX9, "isUnstable", "(LSnowRecorder$World;I)Z"⟩
abbrev cX9_extraOf : ByteArray := prog_1_method_47_code
def yX9_extraOf : MethodName := ⟨RX9, "extraOf", "(I)I"⟩
abbrev cX9_isOnceUnstable : ByteArray := prog_1_method_48_code
def yX9_isOnceUnstable : MethodName := ⟨RX9, "isOnceUnstable", "(II)Z"⟩
abbrev cX9_otherRatio : ByteArray := prog_1_method_49_code
def yX9_otherRatio : MethodName := ⟨RX9, "otherRatio", "(II)I"⟩
abbrev cX9_isSameWeakest : ByteArray := prog_1_method_50_code
def yX9_isSameWeakest : MethodName := ⟨RX9, "isSameWeakest", "(LSnowRecorder$Pit;LSnowRecorder$Pit;)Z"⟩
abbrev cX9_isNotedSo : ByteArray := prog_1_method_51_code
def yX9_isNotedSo : MethodName := ⟨RX9, "isNotedSo", "(LSnowRecorder$World;LSnowRecorder$Plan;III)Z"⟩
abbrev cX9_guessFalls : ByteArray := prog_1_method_52_code
def yX9_guessFalls : MethodName := ⟨RX9, "guessFalls", "(Z)V"⟩
abbrev cX9_guessMuch : ByteArray := prog_1_method_53_code
def yX9_guessMuch : MethodName := ⟨RX9, "guessMuch", "(IIZ)V"⟩
abbrev cX9_lookFrom : ByteArray := prog_1_method_54_code
def yX9_lookFrom : MethodName := ⟨RX9, "lookFrom", "(I)V"⟩
abbrev cX9_weightOf : ByteArray := prog_1_method_55_code
def yX9_weightOf : MethodName := ⟨RX9, "weightOf", "(III)I"⟩
abbrev cX9_isUnstableWithout : ByteArray := prog_1_method_56_code
def yX9_isUnstableWithout : MethodName := ⟨RX9, "isUnstableWithout", "(III)Z"⟩
abbrev cX9_yearGoesBy : ByteArray := prog_1_method_57_code
def yX9_yearGoesBy : MethodName := ⟨RX9, "yearGoesBy", "(I)I"⟩
abbrev cX9_slideAll : ByteArray := prog_1_method_58_code
def yX9_slideAll : MethodName := ⟨RX9, "slideAll", "()V"⟩
abbrev cX9_nextSeed : ByteArray := prog_1_method_59_code
def yX9_nextSeed : MethodName := ⟨RX9, "nextSeed", "(I)I"⟩
abbrev cX9_drawOf : ByteArray := prog_1_method_60_code
def yX9_drawOf : MethodName := ⟨RX9, "drawOf", "(II)I"⟩
abbrev cX9_writeLine : ByteArray := prog_1_method_61_code
def yX9_writeLine : MethodName := ⟨RX9, "writeLine", "(LSnowRecorder$Pack;I)V"⟩
abbrev cX9_kindWord : ByteArray := prog_1_method_62_code
def yX9_kindWord : MethodName := ⟨RX9, "kindWord", "(I)Ljava/lang/String;"⟩
abbrev cX9_part : ByteArray := prog_1_method_63_code
def yX9_part : MethodName := ⟨RX9, "part", "(JJ)I"⟩
abbrev cX9_burden : ByteArray := prog_1_method_64_code
def yX9_burden : MethodName := ⟨RX9, "burden", "(II)I"⟩
def RX10 : String := "SnowRecorderModel"
def TX10 : u_T := fun k => match k with
  | 0 => ("SnowRecorderModel", "rows", "[I", true)
  | 1 => ("SnowRecorderModel", "steep", "[I", true)
  | 2 => ("SnowRecorderModel", "open", "[I", true)
  | 3 => ("SnowRecorderModel", "air", "[I", true)
  | 4 => ("SnowRecorderModel", "falling", "[I", true)
  | 5 => ("SnowRecorderModel", "much", "[I", true)
  | 6 => ("SnowRecorderModel", "table", "[I", true)
  | 7 => ("SnowRecorderModel", "noteSlope", "[I", true)
  | 8 => ("SnowRecorderModel", "noteHours", "[I", true)
  | 9 => ("SnowRecorderModel", "noteDepth", "[I", true)
  | 10 => ("SnowRecorderModel", "refused", "[I", true)
  | 11 => ("SnowRecorderModel", "pits", "[I", true)
  | 12 => ("SnowRecorderModel", "thrown", "I", false)
  | 13 => ("SnowRecorderModel", "slopes", "I", false)
  | 14 => ("SnowRecorderModel", "hourMany", "I", false)
  | 15 => ("SnowRecorderModel", "acts", "I", false)
  | 16 => ("SnowRecorderModel", "firstAct", "I", false)
  | 17 => ("SnowRecorderModel", "notes", "I", false)
  | 18 => ("SnowRecorderModel", "imageActs", "I", false)
  | 19 => ("SnowRecorderModel", "imageFirst", "I", false)
  | 20 => ("SnowRecorderModel", "imageNotes", "I", false)
  | 21 => ("SnowRecorderModel", "hasImage", "I", false)
  | 22 => ("SnowRecorderModel", "tape", "[I", true)
  | 23 => ("SnowRecorderModel", "taped", "I", false)
  | 24 => ("SnowRecorderModel", "faultPlace", "I", false)
  | 25 => ("SnowRecorderModel", "warmer", "I", false)
  | 26 => ("SnowRecorderModel", "without", "I", false)
  | 27 => ("SnowRecorderModel", "otherHour", "I", false)
  | 28 => ("SnowRecorderModel", "otherMuch", "I", false)
  | 29 => ("SnowRecorderModel", "isClear", "Z", false)
  | 30 => ("SnowRecorderModel", "temps", "[I", true)
  | 31 => ("SnowRecorderModel", "kinds", "[I", true)
  | 32 => ("SnowRecorderModel", "next", "I", false)
  | 33 => ("SnowRecorderModel", "place", "I", false)
  | 34 => ("SnowRecorderModel", "size", "I", false)
  | 35 => ("SnowRecorderModel", "sort", "I", false)
  | 36 => ("SnowRecorderModel", "value", "I", false)
  | 37 => ("SnowRecorderModel", "word", "I", false)
  | 38 => ("SnowRecorderModel", "bad", "I", false)
  | 39 => ("SnowRecorderModel", "steep1", "[I", true)
  | 40 => ("SnowRecorderModel", "open1", "[I", true)
  | 41 => ("SnowRecorderModel", "many1", "[I", true)
  | 42 => ("SnowRecorderModel", "air1", "[I", true)
  | 43 => ("SnowRecorderModel", "falling1", "[I", true)
  | 44 => ("SnowRecorderModel", "much1", "[I", true)
  | 45 => ("SnowRecorderModel", "table1", "[I", true)
  | 46 => ("SnowRecorderModel", "layer1", "[I", true)
  | 47 => ("SnowRecorderModel", "slopes1", "I", false)
  | 48 => ("SnowRecorderModel", "hours1", "I", false)
  | 49 => ("SnowRecorderModel", "names1", "I", false)
  | 50 => ("SnowRecorderModel", "line", "[I", true)
  | 51 => ("SnowRecorderModel", "lined", "I", false)
  | 52 => ("SnowRecorderModel", "oneKinds", "[I", true)
  | 53 => ("SnowRecorderModel", "otherKinds", "[I", true)
  | 54 => ("SnowRecorderModel", "folded", "[I", true)
  | 55 => ("SnowRecorderModel", "ones", "I", false)
  | 56 => ("SnowRecorderModel", "others", "I", false)
  | 57 => ("SnowRecorderModel", "dayDepth", "[I", true)
  | 58 => ("SnowRecorderModel", "depths", "[I", true)
  | _ => ("SnowRecorderModel", "its", "I", false)
def tyX10 : Nat → FieldType := fun k => match k with
  | 0 => .array .int
  | 1 => .array .int
  | 2 => .array .int
  | 3 => .array .int
  | 4 => .array .int
  | 5 => .array .int
  | 6 => .array .int
  | 7 => .array .int
  | 8 => .array .int
  | 9 => .array .int
  | 10 => .array .int
  | 11 => .array .int
  | 12 => .int
  | 13 => .int
  | 14 => .int
  | 15 => .int
  | 16 => .int
  | 17 => .int
  | 18 => .int
  | 19 => .int
  | 20 => .int
  | 21 => .int
  | 22 => .array .int
  | 23 => .int
  | 24 => .int
  | 25 => .int
  | 26 => .int
  | 27 => .int
  | 28 => .int
  | 29 => .boolean
  | 30 => .array .int
  | 31 => .array .int
  | 32 => .int
  | 33 => .int
  | 34 => .int
  | 35 => .int
  | 36 => .int
  | 37 => .int
  | 38 => .int
  | 39 => .array .int
  | 40 => .array .int
  | 41 => .array .int
  | 42 => .array .int
  | 43 => .array .int
  | 44 => .array .int
  | 45 => .array .int
  | 46 => .array .int
  | 47 => .int
  | 48 => .int
  | 49 => .int
  | 50 => .array .int
  | 51 => .int
  | 52 => .array .int
  | 53 => .array .int
  | 54 => .array .int
  | 55 => .int
  | 56 => .int
  | 57 => .array .int
  | 58 => .array .int
  | _ => .int
abbrev wsX100 : List Cond := u_ws RX10 TX10 60
theorem nmX10 : ∀ a, a < 60 → ∀ b, b < 60 → a ≠ b → (TX10 a).2.1 ≠ (TX10 b).2.1 := by decide +kernel
theorem tyX10_ok : ∀ k, k < 60 → parseFieldDescriptor (TX10 k).2.2.1 = some (tyX10 k) := by decide +kernel
abbrev cX10_init : ByteArray := prog_12_method_1_code
def yX10_init : MethodName := ⟨RX10, "<init>", "()V"⟩
abbrev cX10_laysTable : ByteArray := prog_12_method_2_code
def yX10_laysTable : MethodName := ⟨RX10, "laysTable", "()V"⟩
abbrev cX10_thrown : ByteArray := prog_12_method_3_code
def yX10_thrown : MethodName := ⟨RX10, "thrown", "()I"⟩
abbrev cX10_right : ByteArray := prog_12_method_4_code
def yX10_right : MethodName := ⟨RX10, "right", "(ZI)Z"⟩
abbrev cX10_within : ByteArray := prog_12_method_5_code
def yX10_within : MethodName := ⟨RX10, "within", "(III)Z"⟩
abbrev cX10_lesser : ByteArray := prog_12_method_6_code
def yX10_lesser : MethodName := ⟨RX10, "lesser", "(II)I"⟩
abbrev cX10_greater : ByteArray := prog_12_method_7_code
def yX10_greater : MethodName := ⟨RX10, "greater", "(II)I"⟩
abbrev cX10_span : ByteArray := prog_12_method_8_code
def yX10_span : MethodName := ⟨RX10, "span", "(I)I"⟩
abbrev cX10_copies : ByteArray := prog_12_method_9_code
def yX10_copies : MethodName := ⟨RX10, "copies", "(III)V"⟩
abbrev cX10_at : ByteArray := prog_12_method_10_code
def yX10_at : MethodName := ⟨RX10, "at", "(III)I"⟩
abbrev cX10_many : ByteArray := prog_12_method_11_code
def yX10_many : MethodName := ⟨RX10, "many", "(II)I"⟩
abbrev cX10_setsMany : ByteArray := prog_12_method_12_code
def yX10_setsMany : MethodName := ⟨RX10, "setsMany", "(III)V"⟩
abbrev cX10_runsOff : ByteArray := prog_12_method_13_code
def yX10_runsOff : MethodName := ⟨RX10, "runsOff", "(III)V"⟩
abbrev cX10_of : ByteArray := prog_12_method_14_code
def yX10_of : MethodName := ⟨RX10, "of", "(IIII)I"⟩
abbrev cX10_sets : ByteArray := prog_12_method_15_code
def yX10_sets : MethodName := ⟨RX10, "sets", "(IIIII)V"⟩
abbrev cX10_weight : ByteArray := prog_12_method_16_code
def yX10_weight : MethodName := ⟨RX10, "weight", "(III)I"⟩
abbrev cX10_above : ByteArray := prog_12_method_17_code
def yX10_above : MethodName := ⟨RX10, "above", "(III)I"⟩
abbrev cX10_sum : ByteArray := prog_12_method_18_code
def yX10_sum : MethodName := ⟨RX10, "sum", "(III)I"⟩
abbrev cX10_joins : ByteArray := prog_12_method_19_code
def yX10_joins : MethodName := ⟨RX10, "joins", "(II)V"⟩
abbrev cX10_comes : ByteArray := prog_12_method_20_code
def yX10_comes : MethodName := ⟨RX10, "comes", "(IIIIII)V"⟩
abbrev cX10_drops : ByteArray := prog_12_method_21_code
def yX10_drops : MethodName := ⟨RX10, "drops", "(IIIII)V"⟩
abbrev cX10_hourOf : ByteArray := prog_12_method_22_code
def yX10_hourOf : MethodName := ⟨RX10, "hourOf", "(I)I"⟩
abbrev cX10_airOf : ByteArray := prog_12_method_23_code
def yX10_airOf : MethodName := ⟨RX10, "airOf", "(I)I"⟩
abbrev cX10_fallsNow : ByteArray := prog_12_method_24_code
def yX10_fallsNow : MethodName := ⟨RX10, "fallsNow", "(III)V"⟩
abbrev cX10_warms : ByteArray := prog_12_method_25_code
def yX10_warms : MethodName := ⟨RX10, "warms", "(III)V"⟩
abbrev cX10_topped : ByteArray := prog_12_method_26_code
def yX10_topped : MethodName := ⟨RX10, "topped", "(III)V"⟩
abbrev cX10_evens : ByteArray := prog_12_method_27_code
def yX10_evens : MethodName := ⟨RX10, "evens", "(II)V"⟩
abbrev cX10_freezes : ByteArray := prog_12_method_28_code
def yX10_freezes : MethodName := ⟨RX10, "freezes", "(I)V"⟩
abbrev cX10_sinks : ByteArray := prog_12_method_29_code
def yX10_sinks : MethodName := ⟨RX10, "sinks", "(II)V"⟩
abbrev cX10_load : ByteArray := prog_12_method_30_code
def yX10_load : MethodName := ⟨RX10, "load", "(III)I"⟩
abbrev cX10_presses : ByteArray := prog_12_method_31_code
def yX10_presses : MethodName := ⟨RX10, "presses", "(II)V"⟩
abbrev cX10_grade : ByteArray := prog_12_method_32_code
def yX10_grade : MethodName := ⟨RX10, "grade", "(IIII)I"⟩
abbrev cX10_kindThen : ByteArray := prog_12_method_33_code
def yX10_kindThen : MethodName := ⟨RX10, "kindThen", "(IIII)I"⟩
abbrev cX10_ages : ByteArray := prog_12_method_34_code
def yX10_ages : MethodName := ⟨RX10, "ages", "(III)V"⟩
abbrev cX10_hour : ByteArray := prog_12_method_35_code
def yX10_hour : MethodName := ⟨RX10, "hour", "(I)V"⟩
abbrev cX10_goes : ByteArray := prog_12_method_36_code
def yX10_goes : MethodName := ⟨RX10, "goes", "(II)V"⟩
abbrev cX10_strength : ByteArray := prog_12_method_37_code
def yX10_strength : MethodName := ⟨RX10, "strength", "(III)I"⟩
abbrev cX10_burden : ByteArray := prog_12_method_38_code
def yX10_burden : MethodName := ⟨RX10, "burden", "(IIIII)I"⟩
abbrev cX10_ratio : ByteArray := prog_12_method_39_code
def yX10_ratio : MethodName := ⟨RX10, "ratio", "(IIIII)I"⟩
abbrev cX10_weakestBy : ByteArray := prog_12_method_40_code
def yX10_weakestBy : MethodName := ⟨RX10, "weakestBy", "(IIII)I"⟩
abbrev cX10_weakest : ByteArray := prog_12_method_41_code
def yX10_weakest : MethodName := ⟨RX10, "weakest", "(II)I"⟩
abbrev cX10_leastRatioBy : ByteArray := prog_12_method_42_code
def yX10_leastRatioBy : MethodName := ⟨RX10, "leastRatioBy", "(IIII)I"⟩
abbrev cX10_leastRatio : ByteArray := prog_12_method_43_code
def yX10_leastRatio : MethodName := ⟨RX10, "leastRatio", "(II)I"⟩
abbrev cX10_isUnstable : ByteArray := prog_12_method_44_code
def yX10_isUnstable : MethodName := ⟨RX10, "isUnstable", "(II)Z"⟩
abbrev cX10_isLetter : ByteArray := prog_12_method_45_code
def yX10_isLetter : MethodName := ⟨RX10, "isLetter", "(I)Z"⟩
abbrev cX10_byteAt : ByteArray := prog_12_method_46_code
def yX10_byteAt : MethodName := ⟨RX10, "byteAt", "(I)I"⟩
abbrev cX10_wordFrom : ByteArray := prog_12_method_47_code
def yX10_wordFrom : MethodName := ⟨RX10, "wordFrom", "(II)I"⟩
abbrev cX10_go : ByteArray := prog_12_method_48_code
def yX10_go : MethodName := ⟨RX10, "go", "()V"⟩
abbrev cX10_wants : ByteArray := prog_12_method_49_code
def yX10_wants : MethodName := ⟨RX10, "wants", "(ZI)Z"⟩
abbrev cX10_number : ByteArray := prog_12_method_50_code
def yX10_number : MethodName := ⟨RX10, "number", "(II)I"⟩
abbrev cX10_is : ByteArray := prog_12_method_51_code
def yX10_is : MethodName := ⟨RX10, "is", "(I)Z"⟩
abbrev cX10_isKind : ByteArray := prog_12_method_52_code
def yX10_isKind : MethodName := ⟨RX10, "isKind", "()Z"⟩
abbrev cX10_kindHere : ByteArray := prog_12_method_53_code
def yX10_kindHere : MethodName := ⟨RX10, "kindHere", "()I"⟩
abbrev cX10_slope1 : ByteArray := prog_12_method_54_code
def yX10_slope1 : MethodName := ⟨RX10, "slope1", "()V"⟩
abbrev cX10_layer1 : ByteArray := prog_12_method_55_code
def yX10_layer1 : MethodName := ⟨RX10, "layer1", "()V"⟩
abbrev cX10_hour1 : ByteArray := prog_12_method_56_code
def yX10_hour1 : MethodName := ⟨RX10, "hour1", "()V"⟩
abbrev cX10_table1 : ByteArray := prog_12_method_57_code
def yX10_table1 : MethodName := ⟨RX10, "table1", "()V"⟩
abbrev cX10_clause1 : ByteArray := prog_12_method_58_code
def yX10_clause1 : MethodName := ⟨RX10, "clause1", "()V"⟩
abbrev cX10_feed : ByteArray := prog_12_method_59_code
def yX10_feed : MethodName := ⟨RX10, "feed", "(IIIII)I"⟩
abbrev cX10_snow : ByteArray := prog_12_method_60_code
def yX10_snow : MethodName := ⟨RX10, "snow", "(I)I"⟩
abbrev cX10_becomes : ByteArray := prog_12_method_61_code
def yX10_becomes : MethodName := ⟨RX10, "becomes", "()V"⟩
abbrev cX10_fault : ByteArray := prog_12_method_62_code
def yX10_fault : MethodName := ⟨RX10, "fault", "()I"⟩
abbrev cX10_allLayers : ByteArray := prog_12_method_63_code
def yX10_allLayers : MethodName := ⟨RX10, "allLayers", "()I"⟩
abbrev cX10_allRunoff : ByteArray := prog_12_method_64_code
def yX10_allRunoff : MethodName := ⟨RX10, "allRunoff", "()I"⟩
abbrev cX10_allWeight : ByteArray := prog_12_method_65_code
def yX10_allWeight : MethodName := ⟨RX10, "allWeight", "()I"⟩
abbrev cX10_worst : ByteArray := prog_12_method_66_code
def yX10_worst : MethodName := ⟨RX10, "worst", "()I"⟩
abbrev cX10_count : ByteArray := prog_12_method_67_code
def yX10_count : MethodName := ⟨RX10, "count", "(I)I"⟩
abbrev cX10_forecast : ByteArray := prog_12_method_68_code
def yX10_forecast : MethodName := ⟨RX10, "forecast", "(II)I"⟩
abbrev cX10_isSlope : ByteArray := prog_12_method_69_code
def yX10_isSlope : MethodName := ⟨RX10, "isSlope", "(I)Z"⟩
abbrev cX10_slope : ByteArray := prog_12_method_70_code
def yX10_slope : MethodName := ⟨RX10, "slope", "(II)I"⟩
abbrev cX10_isLayer : ByteArray := prog_12_method_71_code
def yX10_isLayer : MethodName := ⟨RX10, "isLayer", "(II)Z"⟩
abbrev cX10_layer : ByteArray := prog_12_method_72_code
def yX10_layer : MethodName := ⟨RX10, "layer", "(III)I"⟩
abbrev cX10_says : ByteArray := prog_12_method_73_code
def yX10_says : MethodName := ⟨RX10, "says", "(I)V"⟩
abbrev cX10_saysNumber : ByteArray := prog_12_method_74_code
def yX10_saysNumber : MethodName := ⟨RX10, "saysNumber", "(I)V"⟩
abbrev cX10_saysKind : ByteArray := prog_12_method_75_code
def yX10_saysKind : MethodName := ⟨RX10, "saysKind", "(I)V"⟩
abbrev cX10_saysWord : ByteArray := prog_12_method_76_code
def yX10_saysWord : MethodName := ⟨RX10, "saysWord", "(II)V"⟩
abbrev cX10_told : ByteArray := prog_12_method_77_code
def yX10_told : MethodName := ⟨RX10, "told", "(III)I"⟩
abbrev cX10_keptAt : ByteArray := prog_12_method_78_code
def yX10_keptAt : MethodName := ⟨RX10, "keptAt", "(II)I"⟩
abbrev cX10_refuses : ByteArray := prog_12_method_79_code
def yX10_refuses : MethodName := ⟨RX10, "refuses", "(I)I"⟩
abbrev cX10_keeps : ByteArray := prog_12_method_80_code
def yX10_keeps : MethodName := ⟨RX10, "keeps", "()V"⟩
abbrev cX10_hours : ByteArray := prog_12_method_81_code
def yX10_hours : MethodName := ⟨RX10, "hours", "(I)I"⟩
abbrev cX10_fall : ByteArray := prog_12_method_82_code
def yX10_fall : MethodName := ⟨RX10, "fall", "(III)I"⟩
abbrev cX10_digs : ByteArray := prog_12_method_83_code
def yX10_digs : MethodName := ⟨RX10, "digs", "(II)V"⟩
abbrev cX10_dig : ByteArray := prog_12_method_84_code
def yX10_dig : MethodName := ⟨RX10, "dig", "(I)I"⟩
abbrev cX10_slides : ByteArray := prog_12_method_85_code
def yX10_slides : MethodName := ⟨RX10, "slides", "(II)I"⟩
abbrev cX10_slide : ByteArray := prog_12_method_86_code
def yX10_slide : MethodName := ⟨RX10, "slide", "(I)I"⟩
abbrev cX10_pit : ByteArray := prog_12_method_87_code
def yX10_pit : MethodName := ⟨RX10, "pit", "(I)I"⟩
abbrev cX10_undo : ByteArray := prog_12_method_88_code
def yX10_undo : MethodName := ⟨RX10, "undo", "()I"⟩
abbrev cX10_tries : ByteArray := prog_12_method_89_code
def yX10_tries : MethodName := ⟨RX10, "tries", "()V"⟩
abbrev cX10_then : ByteArray := prog_12_method_90_code
def yX10_then : MethodName := ⟨RX10, "then", "(III)I"⟩
abbrev cX10_once : ByteArray := prog_12_method_91_code
def yX10_once : MethodName := ⟨RX10, "once", "(II)I"⟩
abbrev cX10_isNamed : ByteArray := prog_12_method_92_code
def yX10_isNamed : MethodName := ⟨RX10, "isNamed", "(II)Z"⟩
abbrev cX10_gone : ByteArray := prog_12_method_93_code
def yX10_gone : MethodName := ⟨RX10, "gone", "(I)I"⟩
abbrev cX10_extra : ByteArray := prog_12_method_94_code
def yX10_extra : MethodName := ⟨RX10, "extra", "(I)I"⟩
abbrev cX10_stands : ByteArray := prog_12_method_95_code
def yX10_stands : MethodName := ⟨RX10, "stands", "(II)I"⟩
abbrev cX10_toLoad : ByteArray := prog_12_method_96_code
def yX10_toLoad : MethodName := ⟨RX10, "toLoad", "(I)I"⟩
abbrev cX10_steepest : ByteArray := prog_12_method_97_code
def yX10_steepest : MethodName := ⟨RX10, "steepest", "(I)I"⟩
abbrev cX10_toWarm : ByteArray := prog_12_method_98_code
def yX10_toWarm : MethodName := ⟨RX10, "toWarm", "(II)I"⟩
abbrev cX10_ratioBehind : ByteArray := prog_12_method_99_code
def yX10_ratioBehind : MethodName := ⟨RX10, "ratioBehind", "(II)I"⟩
abbrev cX10_matters : ByteArray := prog_12_method_100_code
def yX10_matters : MethodName := ⟨RX10, "matters", "(III)I"⟩
abbrev cX10_isPit : ByteArray := prog_12_method_101_code
def yX10_isPit : MethodName := ⟨RX10, "isPit", "(I)Z"⟩
abbrev cX10_pitMany : ByteArray := prog_12_method_102_code
def yX10_pitMany : MethodName := ⟨RX10, "pitMany", "(I)I"⟩
abbrev cX10_inPit : ByteArray := prog_12_method_103_code
def yX10_inPit : MethodName := ⟨RX10, "inPit", "(III)I"⟩
abbrev cX10_pitOf : ByteArray := prog_12_method_104_code
def yX10_pitOf : MethodName := ⟨RX10, "pitOf", "(II)I"⟩
abbrev cX10_namesInBoth : ByteArray := prog_12_method_105_code
def yX10_namesInBoth : MethodName := ⟨RX10, "namesInBoth", "(II)I"⟩
abbrev cX10_laysPit : ByteArray := prog_12_method_106_code
def yX10_laysPit : MethodName := ⟨RX10, "laysPit", "(I[I)V"⟩
abbrev cX10_folds : ByteArray := prog_12_method_107_code
def yX10_folds : MethodName := ⟨RX10, "folds", "(Z)I"⟩
abbrev cX10_weakestName : ByteArray := prog_12_method_108_code
def yX10_weakestName : MethodName := ⟨RX10, "weakestName", "(I)I"⟩
abbrev cX10_compare : ByteArray := prog_12_method_109_code
def yX10_compare : MethodName := ⟨RX10, "compare", "(III)I"⟩
abbrev cX10_nearest : ByteArray := prog_12_method_110_code
def yX10_nearest : MethodName := ⟨RX10, "nearest", "(I)I"⟩
abbrev cX10_note : ByteArray := prog_12_method_111_code
def yX10_note : MethodName := ⟨RX10, "note", "(III)I"⟩
abbrev cX10_isNoted : ByteArray := prog_12_method_112_code
def yX10_isNoted : MethodName := ⟨RX10, "isNoted", "()Z"⟩
abbrev cX10_isGuess : ByteArray := prog_12_method_113_code
def yX10_isGuess : MethodName := ⟨RX10, "isGuess", "(II)Z"⟩
abbrev cX10_falls : ByteArray := prog_12_method_114_code
def yX10_falls : MethodName := ⟨RX10, "falls", "(I)I"⟩
abbrev cX10_unlike : ByteArray := prog_12_method_115_code
def yX10_unlike : MethodName := ⟨RX10, "unlike", "(II)I"⟩
abbrev cX10_look : ByteArray := prog_12_method_116_code
def yX10_look : MethodName := ⟨RX10, "look", "(I)I"⟩
abbrev cX10_forget : ByteArray := prog_12_method_117_code
def yX10_forget : MethodName := ⟨RX10, "forget", "()V"⟩
abbrev cX10_odds : ByteArray := prog_12_method_118_code
def yX10_odds : MethodName := ⟨RX10, "odds", "(III)I"⟩
abbrev cX10_draw : ByteArray := prog_12_method_119_code
def yX10_draw : MethodName := ⟨RX10, "draw", "(I)I"⟩
abbrev cX10_year : ByteArray := prog_12_method_120_code
def yX10_year : MethodName := ⟨RX10, "year", "()V"⟩
abbrev cX10_years : ByteArray := prog_12_method_121_code
def yX10_years : MethodName := ⟨RX10, "years", "(III)I"⟩
abbrev cX10_image : ByteArray := prog_12_method_122_code
def yX10_image : MethodName := ⟨RX10, "image", "()V"⟩
abbrev cX10_restore : ByteArray := prog_12_method_123_code
def yX10_restore : MethodName := ⟨RX10, "restore", "()Z"⟩
def RJx145de : String := "java/io/Serializable"
def TJx145de : u_T := fun k => match k with
  | _ => ("", "", "", false)
def tyJx145de : Nat → FieldType := fun k => match k with
  | _ => .int
abbrev wsJx145de0 : List Cond := u_ws RJx145de TJx145de 0
theorem nmJx145de : ∀ a, a < 0 → ∀ b, b < 0 → a ≠ b → (TJx145de a).2.1 ≠ (TJx145de b).2.1 := by decide +kernel
theorem tyJx145de_ok : ∀ k, k < 0 → parseFieldDescriptor (TJx145de k).2.2.1 = some (tyJx145de k) := by decide +kernel
def RJ5 : String := "java/lang/AbstractStringBuilder"
def TJ5 : u_T := fun k => match k with
  | _ => ("", "", "", false)
def tyJ5 : Nat → FieldType := fun k => match k with
  | _ => .int
abbrev wsJ50 : List Cond := u_ws RJ5 TJ5 0
theorem nmJ5 : ∀ a, a < 0 → ∀ b, b < 0 → a ≠ b → (TJ5 a).2.1 ≠ (TJ5 b).2.1 := by decide +kernel
theorem tyJ5_ok : ∀ k, k < 0 → parseFieldDescriptor (TJ5 k).2.2.1 = some (tyJ5 k) := by decide +kernel
abbrev cJ5_init_d00df : ByteArray := prog_14_method_2_code
def yJ5_init_d00df : MethodName := ⟨RJ5, "<init>", "(I)V"⟩
abbrev cJ5_length_8abf5 : ByteArray := prog_14_method_6_code
def yJ5_length_8abf5 : MethodName := ⟨RJ5, "length", "()I"⟩
abbrev cJ5_ensureCapacityInternal_d00df : ByteArray := prog_14_method_9_code
def yJ5_ensureCapacityInternal_d00df : MethodName := ⟨RJ5, "ensureCapacityInternal", "(I)V"⟩
abbrev cJ5_newCapacity_0f7a4 : ByteArray := prog_14_method_10_code
def yJ5_newCapacity_0f7a4 : MethodName := ⟨RJ5, "newCapacity", "(I)I"⟩
abbrev cJ5_inflate_da8c8 : ByteArray := prog_14_method_11_code
def yJ5_inflate_da8c8 : MethodName := ⟨RJ5, "inflate", "()V"⟩
abbrev cJ5_setLength_d00df : ByteArray := prog_14_method_13_code
def yJ5_setLength_d00df : MethodName := ⟨RJ5, "setLength", "(I)V"⟩
abbrev cJ5_charAt_5068e : ByteArray := prog_14_method_14_code
def yJ5_charAt_5068e : MethodName := ⟨RJ5, "charAt", "(I)C"⟩
abbrev cJ5_append_cf1ce : ByteArray := prog_14_method_22_code
def yJ5_append_cf1ce : MethodName := ⟨RJ5, "append", "(Ljava/lang/String;)Ljava/lang/AbstractStringBuilder;"⟩
abbrev cJ5_appendNull_278bc : ByteArray := prog_14_method_26_code
def yJ5_appendNull_278bc : MethodName := ⟨RJ5, "appendNull", "()Ljava/lang/AbstractStringBuilder;"⟩
abbrev cJ5_append_3fe6f : ByteArray := prog_14_method_31_code
def yJ5_append_3fe6f : MethodName := ⟨RJ5, "append", "(C)Ljava/lang/AbstractStringBuilder;"⟩
abbrev cJ5_append_c97b9 : ByteArray := prog_14_method_32_code
def yJ5_append_c97b9 : MethodName := ⟨RJ5, "append", "(I)Ljava/lang/AbstractStringBuilder;"⟩
abbrev cJ5_getValue_6d5f1 : ByteArray := prog_14_method_64_code
def yJ5_getValue_6d5f1 : MethodName := ⟨RJ5, "getValue", "()[B"⟩
abbrev cJ5_isLatin1_aae02 : ByteArray := prog_14_method_68_code
def yJ5_isLatin1_aae02 : MethodName := ⟨RJ5, "isLatin1", "()Z"⟩
abbrev cJ5_inflateIfNeededFor_a7421 : ByteArray := prog_14_method_71_code
def yJ5_inflateIfNeededFor_a7421 : MethodName := ⟨RJ5, "inflateIfNeededFor", "(Ljava/lang/String;)V"⟩
abbrev cJ5_putStringAt_47b60 : ByteArray := prog_14_method_73_code
def yJ5_putStringAt_47b60 : MethodName := ⟨RJ5, "putStringAt", "(ILjava/lang/String;)V"⟩
def RJx2cfe8 : String := "java/lang/Appendable"
def TJx2cfe8 : u_T := fun k => match k with
  | _ => ("", "", "", false)
def tyJx2cfe8 : Nat → FieldType := fun k => match k with
  | _ => .int
abbrev wsJx2cfe80 : List Cond := u_ws RJx2cfe8 TJx2cfe8 0
theorem nmJx2cfe8 : ∀ a, a < 0 → ∀ b, b < 0 → a ≠ b → (TJx2cfe8 a).2.1 ≠ (TJx2cfe8 b).2.1 := by decide +kernel
theorem tyJx2cfe8_ok : ∀ k, k < 0 → parseFieldDescriptor (TJx2cfe8 k).2.2.1 = some (tyJx2cfe8 k) := by decide +kernel
def RJx9f9b0 : String := "java/lang/CharSequence"
def TJx9f9b0 : u_T := fun k => match k with
  | _ => ("", "", "", false)
def tyJx9f9b0 : Nat → FieldType := fun k => match k with
  | _ => .int
abbrev wsJx9f9b00 : List Cond := u_ws RJx9f9b0 TJx9f9b0 0
theorem nmJx9f9b0 : ∀ a, a < 0 → ∀ b, b < 0 → a ≠ b → (TJx9f9b0 a).2.1 ≠ (TJx9f9b0 b).2.1 := by decide +kernel
theorem tyJx9f9b0_ok : ∀ k, k < 0 → parseFieldDescriptor (TJx9f9b0 k).2.2.1 = some (tyJx9f9b0 k) := by decide +kernel
def RJx8e188 : String := "java/lang/Cloneable"
def TJx8e188 : u_T := fun k => match k with
  | _ => ("", "", "", false)
def tyJx8e188 : Nat → FieldType := fun k => match k with
  | _ => .int
abbrev wsJx8e1880 : List Cond := u_ws RJx8e188 TJx8e188 0
theorem nmJx8e188 : ∀ a, a < 0 → ∀ b, b < 0 → a ≠ b → (TJx8e188 a).2.1 ≠ (TJx8e188 b).2.1 := by decide +kernel
theorem tyJx8e188_ok : ∀ k, k < 0 → parseFieldDescriptor (TJx8e188 k).2.2.1 = some (tyJx8e188 k) := by decide +kernel
def RJxb160c : String := "java/lang/Comparable"
def TJxb160c : u_T := fun k => match k with
  | _ => ("", "", "", false)
def tyJxb160c : Nat → FieldType := fun k => match k with
  | _ => .int
abbrev wsJxb160c0 : List Cond := u_ws RJxb160c TJxb160c 0
theorem nmJxb160c : ∀ a, a < 0 → ∀ b, b < 0 → a ≠ b → (TJxb160c a).2.1 ≠ (TJxb160c b).2.1 := by decide +kernel
theorem tyJxb160c_ok : ∀ k, k < 0 → parseFieldDescriptor (TJxb160c k).2.2.1 = some (tyJxb160c k) := by decide +kernel
def RJ6 : String := "java/lang/Integer"
def TJ6 : u_T := fun k => match k with
  | _ => ("", "", "", false)
def tyJ6 : Nat → FieldType := fun k => match k with
  | _ => .int
abbrev wsJ60 : List Cond := u_ws RJ6 TJ6 0
theorem nmJ6 : ∀ a, a < 0 → ∀ b, b < 0 → a ≠ b → (TJ6 a).2.1 ≠ (TJ6 b).2.1 := by decide +kernel
theorem tyJ6_ok : ∀ k, k < 0 → parseFieldDescriptor (TJ6 k).2.2.1 = some (tyJ6 k) := by decide +kernel
abbrev cJ6_getChars_ba4f3 : ByteArray := prog_21_method_12_code
def yJ6_getChars_ba4f3 : MethodName := ⟨RJ6, "getChars", "(II[B)I"⟩
abbrev cJ6_stringSize_0f7a4 : ByteArray := prog_21_method_13_code
def yJ6_stringSize_0f7a4 : MethodName := ⟨RJ6, "stringSize", "(I)I"⟩
def RJ9 : String := "java/lang/Math"
def TJ9 : u_T := fun k => match k with
  | _ => ("", "", "", false)
def tyJ9 : Nat → FieldType := fun k => match k with
  | _ => .int
abbrev wsJ90 : List Cond := u_ws RJ9 TJ9 0
theorem nmJ9 : ∀ a, a < 0 → ∀ b, b < 0 → a ≠ b → (TJ9 a).2.1 ≠ (TJ9 b).2.1 := by decide +kernel
theorem tyJ9_ok : ∀ k, k < 0 → parseFieldDescriptor (TJ9 k).2.2.1 = some (tyJ9 k) := by decide +kernel
abbrev cJ9_floorMod_7cf53 : ByteArray := prog_22_method_50_code
def yJ9_floorMod_7cf53 : MethodName := ⟨RJ9, "floorMod", "(II)I"⟩
abbrev cJ9_abs_0f7a4 : ByteArray := prog_22_method_59_code
def yJ9_abs_0f7a4 : MethodName := ⟨RJ9, "abs", "(I)I"⟩
abbrev cJ9_max_7cf53 : ByteArray := prog_22_method_65_code
def yJ9_max_7cf53 : MethodName := ⟨RJ9, "max", "(II)I"⟩
abbrev cJ9_max_f86c9 : ByteArray := prog_22_method_66_code
def yJ9_max_f86c9 : MethodName := ⟨RJ9, "max", "(JJ)J"⟩
abbrev cJ9_min_7cf53 : ByteArray := prog_22_method_69_code
def yJ9_min_7cf53 : MethodName := ⟨RJ9, "min", "(II)I"⟩
abbrev cJ9_min_f86c9 : ByteArray := prog_22_method_70_code
def yJ9_min_f86c9 : MethodName := ⟨RJ9, "min", "(JJ)J"⟩
def RJxd2413 : String := "java/lang/Number"
def TJxd2413 : u_T := fun k => match k with
  | _ => ("", "", "", false)
def tyJxd2413 : Nat → FieldType := fun k => match k with
  | _ => .int
abbrev wsJxd24130 : List Cond := u_ws RJxd2413 TJxd2413 0
theorem nmJxd2413 : ∀ a, a < 0 → ∀ b, b < 0 → a ≠ b → (TJxd2413 a).2.1 ≠ (TJxd2413 b).2.1 := by decide +kernel
theorem tyJxd2413_ok : ∀ k, k < 0 → parseFieldDescriptor (TJxd2413 k).2.2.1 = some (tyJxd2413 k) := by decide +kernel
def RJ0 : String := "java/lang/String"
def TJ0 : u_T := fun k => match k with
  | 0 => ("java/lang/String", "value", "[B", true)
  | 1 => ("java/lang/String", "coder", "B", true)
  | 2 => ("java/lang/String", "hash", "I", false)
  | _ => ("java/lang/String", "hashIsZero", "Z", false)
def tyJ0 : Nat → FieldType := fun k => match k with
  | 0 => .array .byte
  | 1 => .byte
  | 2 => .int
  | _ => .boolean
abbrev wsJ00 : List Cond := u_ws RJ0 TJ0 4
theorem nmJ0 : ∀ a, a < 4 → ∀ b, b < 4 → a ≠ b → (TJ0 a).2.1 ≠ (TJ0 b).2.1 := by decide +kernel
theorem tyJ0_ok : ∀ k, k < 4 → parseFieldDescriptor (TJ0 k).2.2.1 = some (tyJ0 k) := by decide +kernel
abbrev cJ0_init_81219 : ByteArray := prog_25_method_53_code
def yJ0_init_81219 : MethodName := ⟨RJ0, "<init>", "(Ljava/lang/StringBuilder;)V"⟩
abbrev cJ0_length_8abf5 : ByteArray := prog_25_method_54_code
def yJ0_length_8abf5 : MethodName := ⟨RJ0, "length", "()I"⟩
abbrev cJ0_charAt_5068e : ByteArray := prog_25_method_56_code
def yJ0_charAt_5068e : MethodName := ⟨RJ0, "charAt", "(I)C"⟩
abbrev cJ0_getBytes_840e7 : ByteArray := prog_25_method_147_code
def yJ0_getBytes_840e7 : MethodName := ⟨RJ0, "getBytes", "([BIB)V"⟩
abbrev cJ0_init_db425 : ByteArray := prog_25_method_150_code
def yJ0_init_db425 : MethodName := ⟨RJ0, "<init>", "(Ljava/lang/AbstractStringBuilder;Ljava/lang/Void;)V"⟩
abbrev cJ0_coder_7d493 : ByteArray := prog_25_method_152_code
def yJ0_coder_7d493 : MethodName := ⟨RJ0, "coder", "()B"⟩
abbrev cJ0_isLatin1_aae02 : ByteArray := prog_25_method_154_code
def yJ0_isLatin1_aae02 : MethodName := ⟨RJ0, "isLatin1", "()Z"⟩
abbrev cJ0_checkIndex_df160 : ByteArray := prog_25_method_155_code
def yJ0_checkIndex_df160 : MethodName := ⟨RJ0, "checkIndex", "(II)V"⟩
abbrev cJ0_checkBoundsOffCount_cabcc : ByteArray := prog_25_method_157_code
def yJ0_checkBoundsOffCount_cabcc : MethodName := ⟨RJ0, "checkBoundsOffCount", "(III)I"⟩
abbrev cJ0_checkBoundsBeginEnd_23922 : ByteArray := prog_25_method_158_code
def yJ0_checkBoundsBeginEnd_23922 : MethodName := ⟨RJ0, "checkBoundsBeginEnd", "(III)V"⟩
def RJ4 : String := "java/lang/StringBuilder"
def TJ4 : u_T := fun k => match k with
  | 0 => ("java/lang/AbstractStringBuilder", "value", "[B", false)
  | 1 => ("java/lang/AbstractStringBuilder", "coder", "B", false)
  | 2 => ("java/lang/AbstractStringBuilder", "maybeLatin1", "Z", false)
  | _ => ("java/lang/AbstractStringBuilder", "count", "I", false)
def tyJ4 : Nat → FieldType := fun k => match k with
  | 0 => .array .byte
  | 1 => .byte
  | 2 => .boolean
  | _ => .int
abbrev wsJ40 : List Cond := u_ws RJ4 TJ4 4
theorem nmJ4 : ∀ a, a < 4 → ∀ b, b < 4 → a ≠ b → (TJ4 a).2.1 ≠ (TJ4 b).2.1 := by decide +kernel
theorem tyJ4_ok : ∀ k, k < 4 → parseFieldDescriptor (TJ4 k).2.2.1 = some (tyJ4 k) := by decide +kernel
abbrev cJ4_init_da8c8 : ByteArray := prog_26_method_1_code
def yJ4_init_da8c8 : MethodName := ⟨RJ4, "<init>", "()V"⟩
abbrev cJ4_append_15ec4 : ByteArray := prog_26_method_7_code
def yJ4_append_15ec4 : MethodName := ⟨RJ4, "append", "(Ljava/lang/String;)Ljava/lang/StringBuilder;"⟩
abbrev cJ4_append_cf468 : ByteArray := prog_26_method_14_code
def yJ4_append_cf468 : MethodName := ⟨RJ4, "append", "(C)Ljava/lang/StringBuilder;"⟩
abbrev cJ4_append_bf812 : ByteArray := prog_26_method_15_code
def yJ4_append_bf812 : MethodName := ⟨RJ4, "append", "(I)Ljava/lang/StringBuilder;"⟩
abbrev cJ4_toString_0e30d : ByteArray := prog_26_method_42_code
def yJ4_toString_0e30d : MethodName := ⟨RJ4, "toString", "()Ljava/lang/String;"⟩
abbrev cJ4_charAt_5068e : ByteArray := prog_26_method_88_code
def yJ4_charAt_5068e : MethodName := ⟨RJ4, "charAt", "(I)C"⟩
abbrev cJ4_setLength_d00df : ByteArray := prog_26_method_89_code
def yJ4_setLength_d00df : MethodName := ⟨RJ4, "setLength", "(I)V"⟩
abbrev cJ4_length_8abf5 : ByteArray := prog_26_method_93_code
def yJ4_length_8abf5 : MethodName := ⟨RJ4, "length", "()I"⟩
def RJ1 : String := "java/lang/StringLatin1"
def TJ1 : u_T := fun k => match k with
  | _ => ("", "", "", false)
def tyJ1 : Nat → FieldType := fun k => match k with
  | _ => .int
abbrev wsJ10 : List Cond := u_ws RJ1 TJ1 0
theorem nmJ1 : ∀ a, a < 0 → ∀ b, b < 0 → a ≠ b → (TJ1 a).2.1 ≠ (TJ1 b).2.1 := by decide +kernel
theorem tyJ1_ok : ∀ k, k < 0 → parseFieldDescriptor (TJ1 k).2.2.1 = some (tyJ1 k) := by decide +kernel
abbrev cJ1_charAt_3b067 : ByteArray := prog_27_method_2_code
def yJ1_charAt_3b067 : MethodName := ⟨RJ1, "charAt", "([BI)C"⟩
abbrev cJ1_canEncode_fc78d : ByteArray := prog_27_method_3_code
def yJ1_canEncode_fc78d : MethodName := ⟨RJ1, "canEncode", "(C)Z"⟩
abbrev cJ1_fillNull_b72d1 : ByteArray := prog_27_method_48_code
def yJ1_fillNull_b72d1 : MethodName := ⟨RJ1, "fillNull", "([BII)V"⟩
abbrev cJ1_inflate_0e8fd : ByteArray := prog_27_method_50_code
def yJ1_inflate_0e8fd : MethodName := ⟨RJ1, "inflate", "([BI[BII)V"⟩
def RJ2 : String := "java/lang/StringUTF16"
def TJ2 : u_T := fun k => match k with
  | _ => ("", "", "", false)
def tyJ2 : Nat → FieldType := fun k => match k with
  | _ => .int
abbrev wsJ20 : List Cond := u_ws RJ2 TJ2 0
theorem nmJ2 : ∀ a, a < 0 → ∀ b, b < 0 → a ≠ b → (TJ2 a).2.1 ≠ (TJ2 b).2.1 := by decide +kernel
theorem tyJ2_ok : ∀ k, k < 0 → parseFieldDescriptor (TJ2 k).2.2.1 = some (tyJ2 k) := by decide +kernel
abbrev cJ2_newBytesFor_77867 : ByteArray := prog_28_method_2_code
def yJ2_newBytesFor_77867 : MethodName := ⟨RJ2, "newBytesFor", "(I)[B"⟩
abbrev cJ2_newBytesLength_0f7a4 : ByteArray := prog_28_method_3_code
def yJ2_newBytesLength_0f7a4 : MethodName := ⟨RJ2, "newBytesLength", "(I)I"⟩
abbrev cJ2_putChar_b72d1 : ByteArray := prog_28_method_4_code
def yJ2_putChar_b72d1 : MethodName := ⟨RJ2, "putChar", "([BII)V"⟩
abbrev cJ2_getChar_3b067 : ByteArray := prog_28_method_5_code
def yJ2_getChar_3b067 : MethodName := ⟨RJ2, "getChar", "([BI)C"⟩
abbrev cJ2_length_9d52b : ByteArray := prog_28_method_6_code
def yJ2_length_9d52b : MethodName := ⟨RJ2, "length", "([B)I"⟩
abbrev cJ2_coderFromArrayLen_85cad : ByteArray := prog_28_method_15_code
def yJ2_coderFromArrayLen_85cad : MethodName := ⟨RJ2, "coderFromArrayLen", "([BI)B"⟩
abbrev cJ2_compress_39247 : ByteArray := prog_28_method_17_code
def yJ2_compress_39247 : MethodName := ⟨RJ2, "compress", "([BII)[B"⟩
abbrev cJ2_compress_5af95 : ByteArray := prog_28_method_22_code
def yJ2_compress_5af95 : MethodName := ⟨RJ2, "compress", "([BI[BII)I"⟩
abbrev cJ2_fillNull_b72d1 : ByteArray := prog_28_method_70_code
def yJ2_fillNull_b72d1 : MethodName := ⟨RJ2, "fillNull", "([BII)V"⟩
abbrev cJ2_putCharSB_b72d1 : ByteArray := prog_28_method_71_code
def yJ2_putCharSB_b72d1 : MethodName := ⟨RJ2, "putCharSB", "([BII)V"⟩
abbrev cJ2_getChars_46870 : ByteArray := prog_28_method_77_code
def yJ2_getChars_46870 : MethodName := ⟨RJ2, "getChars", "(III[B)I"⟩
abbrev cJ2_putCharsAt_cd4e5 : ByteArray := prog_28_method_81_code
def yJ2_putCharsAt_cd4e5 : MethodName := ⟨RJ2, "putCharsAt", "([BICCCC)I"⟩
abbrev cJ2_charAt_3b067 : ByteArray := prog_28_method_83_code
def yJ2_charAt_3b067 : MethodName := ⟨RJ2, "charAt", "([BI)C"⟩
abbrev cJ2_inflate_0e8fd : ByteArray := prog_28_method_86_code
def yJ2_inflate_0e8fd : MethodName := ⟨RJ2, "inflate", "([BI[BII)V"⟩
abbrev cJ2_getChars_ba4f3 : ByteArray := prog_28_method_89_code
def yJ2_getChars_ba4f3 : MethodName := ⟨RJ2, "getChars", "(II[B)I"⟩
abbrev cJ2_checkIndex_2214a : ByteArray := prog_28_method_91_code
def yJ2_checkIndex_2214a : MethodName := ⟨RJ2, "checkIndex", "(I[B)V"⟩
abbrev cJ2_checkBoundsBeginEnd_d044e : ByteArray := prog_28_method_93_code
def yJ2_checkBoundsBeginEnd_d044e : MethodName := ⟨RJ2, "checkBoundsBeginEnd", "(II[B)V"⟩
abbrev cJ2_checkBoundsOffCount_d044e : ByteArray := prog_28_method_94_code
def yJ2_checkBoundsOffCount_d044e : MethodName := ⟨RJ2, "checkBoundsOffCount", "(II[B)V"⟩
def RJ10 : String := "java/lang/System"
def TJ10 : u_T := fun k => match k with
  | _ => ("", "", "", false)
def tyJ10 : Nat → FieldType := fun k => match k with
  | _ => .int
abbrev wsJ100 : List Cond := u_ws RJ10 TJ10 0
theorem nmJ10 : ∀ a, a < 0 → ∀ b, b < 0 → a ≠ b → (TJ10 a).2.1 ≠ (TJ10 b).2.1 := by decide +kernel
theorem tyJ10_ok : ∀ k, k < 0 → parseFieldDescriptor (TJ10 k).2.2.1 = some (tyJ10 k) := by decide +kernel
def RJxfd54e : String := "java/lang/constant/Constable"
def TJxfd54e : u_T := fun k => match k with
  | _ => ("", "", "", false)
def tyJxfd54e : Nat → FieldType := fun k => match k with
  | _ => .int
abbrev wsJxfd54e0 : List Cond := u_ws RJxfd54e TJxfd54e 0
theorem nmJxfd54e : ∀ a, a < 0 → ∀ b, b < 0 → a ≠ b → (TJxfd54e a).2.1 ≠ (TJxfd54e b).2.1 := by decide +kernel
theorem tyJxfd54e_ok : ∀ k, k < 0 → parseFieldDescriptor (TJxfd54e k).2.2.1 = some (tyJxfd54e k) := by decide +kernel
def RJx3cf43 : String := "java/lang/constant/ConstantDesc"
def TJx3cf43 : u_T := fun k => match k with
  | _ => ("", "", "", false)
def tyJx3cf43 : Nat → FieldType := fun k => match k with
  | _ => .int
abbrev wsJx3cf430 : List Cond := u_ws RJx3cf43 TJx3cf43 0
theorem nmJx3cf43 : ∀ a, a < 0 → ∀ b, b < 0 → a ≠ b → (TJx3cf43 a).2.1 ≠ (TJx3cf43 b).2.1 := by decide +kernel
theorem tyJx3cf43_ok : ∀ k, k < 0 → parseFieldDescriptor (TJx3cf43 k).2.2.1 = some (tyJx3cf43 k) := by decide +kernel
def RJ7 : String := "java/util/Arrays"
def TJ7 : u_T := fun k => match k with
  | _ => ("", "", "", false)
def tyJ7 : Nat → FieldType := fun k => match k with
  | _ => .int
abbrev wsJ70 : List Cond := u_ws RJ7 TJ7 0
theorem nmJ7 : ∀ a, a < 0 → ∀ b, b < 0 → a ≠ b → (TJ7 a).2.1 ≠ (TJ7 b).2.1 := by decide +kernel
theorem tyJ7_ok : ∀ k, k < 0 → parseFieldDescriptor (TJ7 k).2.2.1 = some (tyJ7 k) := by decide +kernel
abbrev cJ7_rangeCheck_23922 : ByteArray := prog_33_method_30_code
def yJ7_rangeCheck_23922 : MethodName := ⟨RJ7, "rangeCheck", "(III)V"⟩
abbrev cJ7_fill_eb02e : ByteArray := prog_33_method_110_code
def yJ7_fill_eb02e : MethodName := ⟨RJ7, "fill", "([BIIB)V"⟩
abbrev cJ7_copyOf_9075b : ByteArray := prog_33_method_121_code
def yJ7_copyOf_9075b : MethodName := ⟨RJ7, "copyOf", "([BI)[B"⟩
abbrev cJ7_checkLength_df160 : ByteArray := prog_33_method_131_code
def yJ7_checkLength_df160 : MethodName := ⟨RJ7, "checkLength", "(II)V"⟩
abbrev cJ7_copyOfRange_39247 : ByteArray := prog_33_method_132_code
def yJ7_copyOfRange_39247 : MethodName := ⟨RJ7, "copyOfRange", "([BII)[B"⟩
abbrev cJ7_copyOfRangeByte_39247 : ByteArray := prog_33_method_133_code
def yJ7_copyOfRangeByte_39247 : MethodName := ⟨RJ7, "copyOfRangeByte", "([BII)[B"⟩
def RJ8 : String := "jdk/internal/util/ArraysSupport"
def TJ8 : u_T := fun k => match k with
  | _ => ("", "", "", false)
def tyJ8 : Nat → FieldType := fun k => match k with
  | _ => .int
abbrev wsJ80 : List Cond := u_ws RJ8 TJ8 0
theorem nmJ8 : ∀ a, a < 0 → ∀ b, b < 0 → a ≠ b → (TJ8 a).2.1 ≠ (TJ8 b).2.1 := by decide +kernel
theorem tyJ8_ok : ∀ k, k < 0 → parseFieldDescriptor (TJ8 k).2.2.1 = some (tyJ8 k) := by decide +kernel
abbrev cJ8_newLength_cabcc : ByteArray := prog_35_method_27_code
def yJ8_newLength_cabcc : MethodName := ⟨RJ8, "newLength", "(III)I"⟩
abbrev cJ8_hugeLength_7cf53 : ByteArray := prog_35_method_28_code
def yJ8_hugeLength_7cf53 : MethodName := ⟨RJ8, "hugeLength", "(II)I"⟩
def RJ3 : String := "jdk/internal/util/Preconditions"
def TJ3 : u_T := fun k => match k with
  | _ => ("", "", "", false)
def tyJ3 : Nat → FieldType := fun k => match k with
  | _ => .int
abbrev wsJ30 : List Cond := u_ws RJ3 TJ3 0
theorem nmJ3 : ∀ a, a < 0 → ∀ b, b < 0 → a ≠ b → (TJ3 a).2.1 ≠ (TJ3 b).2.1 := by decide +kernel
theorem tyJ3_ok : ∀ k, k < 0 → parseFieldDescriptor (TJ3 k).2.2.1 = some (tyJ3 k) := by decide +kernel
abbrev cJ3_checkIndex_8e157 : ByteArray := prog_36_method_11_code
def yJ3_checkIndex_8e157 : MethodName := ⟨RJ3, "checkIndex", "(IILjava/util/function/BiFunction;)I"⟩
abbrev cJ3_checkFromToIndex_8c36e : ByteArray := prog_36_method_12_code
def yJ3_checkFromToIndex_8c36e : MethodName := ⟨RJ3, "checkFromToIndex", "(IIILjava/util/function/BiFunction;)I"⟩
abbrev cJ3_checkFromIndexSize_8c36e : ByteArray := prog_36_method_13_code
def yJ3_checkFromIndexSize_8c36e : MethodName := ⟨RJ3, "checkFromIndexSize", "(IIILjava/util/function/BiFunction;)I"⟩
def RL : String := "SnowRecorderLaw"
abbrev cL_snow : ByteArray := method_3_code
def yL_snow : MethodName := ⟨RL, "snow", "(LSnowRecorder;I[J)I"⟩
abbrev cL_count : ByteArray := method_4_code
def yL_count : MethodName := ⟨RL, "count", "(LSnowRecorder;I[J)I"⟩
abbrev cL_forecast : ByteArray := method_5_code
def yL_forecast : MethodName := ⟨RL, "forecast", "(LSnowRecorder;II[J)I"⟩
abbrev cL_slope : ByteArray := method_6_code
def yL_slope : MethodName := ⟨RL, "slope", "(LSnowRecorder;II[J)I"⟩
abbrev cL_layer : ByteArray := method_7_code
def yL_layer : MethodName := ⟨RL, "layer", "(LSnowRecorder;III[J)I"⟩
abbrev cL_told : ByteArray := method_8_code
def yL_told : MethodName := ⟨RL, "told", "(LSnowRecorder;III[J)I"⟩
abbrev cL_then : ByteArray := method_9_code
def yL_then : MethodName := ⟨RL, "then", "(LSnowRecorder;III[J)I"⟩
abbrev cL_once : ByteArray := method_10_code
def yL_once : MethodName := ⟨RL, "once", "(LSnowRecorder;II[J)I"⟩
abbrev cL_gone : ByteArray := method_11_code
def yL_gone : MethodName := ⟨RL, "gone", "(LSnowRecorder;I[J)I"⟩
abbrev cL_stands : ByteArray := method_12_code
def yL_stands : MethodName := ⟨RL, "stands", "(LSnowRecorder;II[J)I"⟩
abbrev cL_toLoad : ByteArray := method_13_code
def yL_toLoad : MethodName := ⟨RL, "toLoad", "(LSnowRecorder;I[J)I"⟩
abbrev cL_steepest : ByteArray := method_14_code
def yL_steepest : MethodName := ⟨RL, "steepest", "(LSnowRecorder;I[J)I"⟩
abbrev cL_toWarm : ByteArray := method_15_code
def yL_toWarm : MethodName := ⟨RL, "toWarm", "(LSnowRecorder;II[J)I"⟩
abbrev cL_matters : ByteArray := method_16_code
def yL_matters : MethodName := ⟨RL, "matters", "(LSnowRecorder;III[J)I"⟩
abbrev cL_pitOf : ByteArray := method_17_code
def yL_pitOf : MethodName := ⟨RL, "pitOf", "(LSnowRecorder;II[J)I"⟩
abbrev cL_compare : ByteArray := method_18_code
def yL_compare : MethodName := ⟨RL, "compare", "(LSnowRecorder;III[J)I"⟩
abbrev cL_nearest : ByteArray := method_19_code
def yL_nearest : MethodName := ⟨RL, "nearest", "(LSnowRecorder;I[J)I"⟩
abbrev cL_falls : ByteArray := method_20_code
def yL_falls : MethodName := ⟨RL, "falls", "(LSnowRecorder;I[J)I"⟩
abbrev cL_look : ByteArray := method_21_code
def yL_look : MethodName := ⟨RL, "look", "(LSnowRecorder;I[J)I"⟩
abbrev cL_odds : ByteArray := method_22_code
def yL_odds : MethodName := ⟨RL, "odds", "(LSnowRecorder;III[J)I"⟩
abbrev cL_years : ByteArray := method_23_code
def yL_years : MethodName := ⟨RL, "years", "(LSnowRecorder;III[J)I"⟩
abbrev cL_law : ByteArray := code
def yL_law : MethodName := ⟨RL, "law", "([I)Z"⟩
abbrev vwCl : List vw_C := [(RJ0, TJ0, 4), (RJ4, TJ4, 4), (RX0, TX0, 4), (RX1, TX1, 1), (RX2, TX2, 4), (RX3, TX3, 3), (RX4, TX4, 3), (RX5, TX5, 9), (RX6, TX6, 6), (RX7, TX7, 9), (RX8, TX8, 7), (RX9, TX9, 14), (RX10, TX10, 60)]
end
section
/-! ===== numbers: every int of the program is zI z, z an integer; longs zJ z ===== -/
def zI (z : Int) : Int32 := Int32.ofInt z
def zJ (z : Int) : Int64 := Int64.ofInt z
theorem zI_add (a b : Int) : zI a + zI b = zI (a + b) := (Int32.ofInt_add a b).symm
theorem zI_sub (a b : Int) : zI a - zI b = zI (a - b) := (Int32.ofInt_sub a b).symm
theorem zI_mul (a b : Int) : zI a * zI b = zI (a * b) := (Int32.ofInt_mul a b).symm
theorem zI_neg (a : Int) : -zI a = zI (-a) := (Int32.ofInt_neg a).symm
theorem zJ_add (a b : Int) : zJ a + zJ b = zJ (a + b) := (Int64.ofInt_add a b).symm
theorem zJ_sub (a b : Int) : zJ a - zJ b = zJ (a - b) := (Int64.ofInt_sub a b).symm
theorem zJ_mul (a b : Int) : zJ a * zJ b = zJ (a * b) := (Int64.ofInt_mul a b).symm
theorem zI_to {z : Int} (h : -2147483648 ≤ z ∧ z ≤ 2147483647) : (zI z).toInt = z := Int32.toInt_ofInt_of_le (by omega) (by omega)
theorem zJ_to {z : Int} (h : -9223372036854775808 ≤ z ∧ z ≤ 9223372036854775807) : (zJ z).toInt = z := Int64.toInt_ofInt_of_le (by omega) (by omega)
theorem zI_of (x : Int32) : ∃ z : Int, x = zI z ∧ -2147483648 ≤ z ∧ z ≤ 2147483647 := ⟨x.toInt, (Int32.ofInt_toInt x).symm, by have := x.le_toInt; omega, by have := x.toInt_lt; omega⟩
theorem zI_lt {a b : Int} (ha : -2147483648 ≤ a ∧ a ≤ 2147483647) (hb : -2147483648 ≤ b ∧ b ≤ 2147483647) : zI a < zI b ↔ a < b := by rw [Int32.lt_iff_toInt_lt, zI_to ha, zI_to hb]
theorem zI_le {a b : Int} (ha : -2147483648 ≤ a ∧ a ≤ 2147483647) (hb : -2147483648 ≤ b ∧ b ≤ 2147483647) : zI a ≤ zI b ↔ a ≤ b := by rw [Int32.le_iff_toInt_le, zI_to ha, zI_to hb]
theorem zI_eq {a b : Int} (ha : -2147483648 ≤ a ∧ a ≤ 2147483647) (hb : -2147483648 ≤ b ∧ b ≤ 2147483647) : zI a = zI b ↔ a = b := by rw [← Int32.toInt_inj, zI_to ha, zI_to hb]
theorem zI_0 : zI 0 = 0 := rfl
theorem zJ_lt {a b : Int} (ha : -9223372036854775808 ≤ a ∧ a ≤ 9223372036854775807) (hb : -9223372036854775808 ≤ b ∧ b ≤ 9223372036854775807) : zJ a < zJ b ↔ a < b := by rw [Int64.lt_iff_toInt_lt, zJ_to ha, zJ_to hb]
theorem zJ_eq {a b : Int} (ha : -9223372036854775808 ≤ a ∧ a ≤ 9223372036854775807) (hb : -9223372036854775808 ≤ b ∧ b ≤ 9223372036854775807) : zJ a = zJ b ↔ a = b := by rw [← Int64.toInt_inj, zJ_to ha, zJ_to hb]
theorem zI_div {a b : Int} (ha : -2147483648 ≤ a ∧ a ≤ 2147483647) (hb : -2147483648 ≤ b ∧ b ≤ 2147483647) : zI a / zI b = zI (a.tdiv b) := (Int32.ofInt_tdiv (by show (-2147483648 : Int) ≤ a; omega) (by show a ≤ (2147483647 : Int); omega) (by show (-2147483648 : Int) ≤ b; omega) (by show b ≤ (2147483647 : Int); omega)).symm
theorem zI_rem {a b : Int} (ha : -2147483648 ≤ a ∧ a ≤ 2147483647) (hb : -2147483648 ≤ b ∧ b ≤ 2147483647) : zI a - zI a / zI b * zI b = zI (a.tmod b) := by rw [zI_div ha hb, zI_mul, zI_sub, Int.tmod_def, Int.mul_comm]
theorem zI_nat (k : Nat) : Int32.ofNat k = zI (k : Int) := Int32.ofInt_eq_ofNat.symm
theorem zI_clamp {z : Int} (h : 0 ≤ z ∧ z ≤ 2147483647) : (zI z).toNatClampNeg = z.toNat := by
  show (zI z).toInt.toNat = _
  rw [zI_to (by omega)]
theorem zI_clN {k : Nat} (h : k ≤ 2147483647) : (zI (k : Int)).toNatClampNeg = k := by rw [zI_clamp (by omega)]; omega
theorem zI_in {k n : Nat} (hk : k < n) (hn : n ≤ 2147483647) : vp_in (zI (k : Int)) n := by
  rw [vp_in_iff, zI_to (by omega)]
  omega
theorem zI_ltN {a b : Int} (h : ¬ zI a < 0) (ha : -2147483648 ≤ a ∧ a ≤ 2147483647) : 0 ≤ a := by
  rw [← zI_0, zI_lt ha (by omega)] at h; omega
theorem zI_l {z : Int} (h : -2147483648 ≤ z ∧ z ≤ 2147483647) : (zI z).toInt64 = zJ z := by
  show (zI z).toInt64 = Int64.ofInt z
  rw [← Int64.ofInt_int32ToInt, zI_to h]
theorem zJ_i (z : Int) : (zJ z).toInt32 = zI z := Int64.toInt32_ofInt
theorem zI_b8 {x : Int} (h : -128 ≤ x ∧ x ≤ 127) : (zI x).toInt8.toInt32 = zI x := by
  rw [← Int32.toInt_inj, zI_to (by omega)]
  simp only [Int8.toInt_toInt32, Int32.toInt_toInt8, zI_to (show -2147483648 ≤ x ∧ x ≤ 2147483647 by omega)]
  exact Int.bmod_eq_of_le (by omega) (by omega)
/-! ===== the world: cells by their roles 0 .. N - 1: role i lies at ad i and holds g i ===== -/
def wl (N : Nat) (ad : Nat → Nat) (g : Nat → va_E) : va_W := (List.range N).map (fun i => (ad i, g i))
theorem wl_at {N i : Nat} {ad : Nat → Nat} {g : Nat → va_E} (h : i < N) : (wl N ad g)[i]? = some (ad i, g i) := by simp [wl, h]
theorem wl_set {N i : Nat} {ad : Nat → Nat} {g : Nat → va_E} {e : va_E} : (wl N ad g).set i (ad i, e) = wl N ad (va_up g i e) := by
  apply List.ext_getElem?
  intro j
  by_cases hj : j < N
  · rw [wl_at hj]
    by_cases e1 : i = j
    · subst e1
      rw [List.getElem?_set_self (by simp [wl]; exact hj), va_up_self]
    · rw [List.getElem?_set_ne e1, wl_at hj, va_up_ne _ _ (fun h => e1 h.symm)]
  · rw [List.getElem?_eq_none (by simp [wl]; omega), List.getElem?_eq_none (by simp [wl]; omega)]
theorem wl_push {N q : Nat} {ad : Nat → Nat} {g : Nat → va_E} {e : va_E} : wl N ad g ++ [(q, e)] = wl (N + 1) (va_up ad N q) (va_up g N e) := by
  unfold wl
  rw [List.range_succ, List.map_append, List.map_singleton, va_up_self, va_up_self]
  congr 1
  apply List.map_congr_left
  intro a ha
  have : a ≠ N := Nat.ne_of_lt (List.mem_range.mp ha)
  rw [va_up_ne _ _ this, va_up_ne _ _ this]
def uZ (r : Nat → Int) (k : Nat) (v : Int) : Nat → Int := fun j => if j = k then v else r j
theorem uZ_s (r : Nat → Int) (k : Nat) (v : Int) : uZ r k v k = v := if_pos rfl
theorem uZ_n (r : Nat → Int) {k j : Nat} (v : Int) (h : j ≠ k) : uZ r k v j = r j := if_neg h
theorem uZ_upd (r : Nat → Int) (k : Nat) (v : Int) : upd (fun j => zI (r j)) k (zI v) = fun j => zI (uZ r k v j) := by
  funext j
  show (if j = k then zI v else zI (r j)) = zI (if j = k then v else r j)
  by_cases h : j = k
  · rw [if_pos h, if_pos h]
  · rw [if_neg h, if_neg h]
theorem uZ_updL (r : Nat → Int) (k : Nat) (v : Int) : vp_updL (fun j => zJ (r j)) k (zJ v) = fun j => zJ (uZ r k v j) := by
  funext j
  show (if j = k then zJ v else zJ (r j)) = zJ (if j = k then v else r j)
  by_cases h : j = k
  · rw [if_pos h, if_pos h]
  · rw [if_neg h, if_neg h]
def zAt (ad : Nat → Nat) (i a : Nat) : Prop := ad i = a
theorem ne_o {i c d : Nat} (h : (c == d) = false) : i + c ≠ i + d := fun e => by
  have e2 : c = d := by omega
  subst e2
  simp at h
theorem lt_o {i c d : Nat} (h : Nat.blt c d = true) : i + c < i + d := by
  have h2 : c < d := Nat.le_of_ble_eq_true h
  omega
abbrev oC (ci : Nat) (fs : List Value) : va_E := .inr (ci, fs)
abbrev iA (cs : Nat → ClassId) (n : Nat) (r : Nat → Int) : va_E := .inl (cs 1, n, .inl (fun k => zI (r k)))
abbrev bA (cs : Nat → ClassId) (n : Nat) (r : Nat → Int) : va_E := .inl (cs 0, n, .inl (fun k => zI (r k)))
abbrev jA (cs : Nat → ClassId) (n : Nat) (r : Nat → Int) : va_E := .inl (cs 2, n, .inr (.inl (fun k => zJ (r k))))
abbrev rA (c : ClassId) (n : Nat) (r : Nat → Option Nat) : va_E := .inl (c, n, .inr (.inr (.inr (.inr r))))
theorem up_s {α : Type} {g g' : Nat → α} {i : Nat} {e : α} (h : g' = va_up g i e) : g' i = e := by rw [h, va_up_self]
theorem up_n {α : Type} {g g' : Nat → α} {i j : Nat} {e x : α} (h : g' = va_up g i e) (hx : g j = x) (hn : j ≠ i) : g' j = x := by rw [h, va_up_ne _ _ hn]; exact hx
/-! ===== the words ===== -/
def zcst (w : Cond) : Bool := match w with
  | .castable _ _ => true
  | .declares _ => true
  | _ => false
def AW : List Cond := lw_tbl.filter goodWord
def NW : List Cond := lw_tbl.filter (fun w => w.onTables && (w.keepsH || zcst w))
theorem AW_m {w : Cond} (i : Nat) (h : lw_tbl[i]? = some w) (hg : goodWord w = true) : w ∈ AW := List.mem_filter.mpr ⟨List.mem_of_getElem? h, hg⟩
theorem NW_m {w : Cond} (i : Nat) (h : lw_tbl[i]? = some w) (hg : (w.onTables && (w.keepsH || zcst w)) = true) : w ∈ NW := List.mem_filter.mpr ⟨List.mem_of_getElem? h, hg⟩
theorem AW_good {w : Cond} (h : w ∈ AW) : goodWord w = true := (List.mem_filter.mp h).2
theorem AW_in {ws : List Cond} (h : ∀ w ∈ ws, w ∈ AW) : GoodIn AW ws := fun w hw => ⟨h w hw, good_of_word (AW_good (h w hw))⟩
theorem NW_warm {w : Cond} {s U : State} (hW : s.WarmedH U.vm) (h : w ∈ NW) (hw : va_Nw w s) : va_Nw w U := by
  have h1 := (List.mem_filter.mp h).2
  simp only [Bool.and_eq_true, Bool.or_eq_true] at h1
  obtain ⟨h1, h2⟩ := h1
  rcases h2 with h2 | h2
  · exact va_tabs h1 (rfl : (U.setVm U.vm).vm = U.vm) (Cond.onTables_warmH (args := #[]) (args' := #[]) (T := U) hW h1 h2 hw)
  · cases w with
    | castable a b => exact va_Nw.warmC hW hw
    | declares a => exact va_Nw.warmD hW hw
    | _ => exact absurd h2 (by simp [zcst])
theorem NW_same {w : Cond} {u U : State} (hv : u.vm = U.vm) (h : w ∈ NW) (hw : va_Nw w u) : va_Nw w U := by
  have h1 := (List.mem_filter.mp h).2
  simp only [Bool.and_eq_true] at h1
  exact va_Nw.same h1.1 hv hw
theorem NW_use {w : Cond} {U : State} {a : Array Value} (h : w ∈ NW) (hw : va_Nw w U) : w.before a U = true := by
  have h1 := (List.mem_filter.mp h).2
  simp only [Bool.and_eq_true] at h1
  exact va_Nw.use h1.1 hw
theorem va_AOA.moved {t : FieldType} {u U : State} (hvm : u.vm.Alike U.vm) (h : va_AOA t u) : va_AOA t U := by
  obtain ⟨comp, c, k, h1, h2, h3, h4, h5⟩ := arrayOverA_spec h
  obtain ⟨k', hk', he⟩ := hvm.2.2 _ _ h3
  have hi : (U.vm.classes.findIdx? fun (x : Class) => match x.kind with | .array component _ => component == comp | _ => false) = some c := by
    have e1 := va_idx_bare U.vm comp
    have e2 := va_idx_bare u.vm comp
    first | rw [hvm.bare_eq] at e1 | rw [← hvm.bare_eq] at e1
    exact e1.symm.trans (e2.trans h2)
  have hkind : k'.kind = .array comp (.array t) := by rw [he]; exact h4
  have f1 : U.vm.findClass (FieldType.array t).toString = some comp := by rw [hvm.findClass]; exact h1
  have f2 : U.vm.findClass ("[" ++ (FieldType.array t).toString) = some c := by rw [hvm.findClass]; exact h5
  unfold va_AOA Cond.before Cond.holds
  simp only [Cond.value]
  rw [f1, Option.bind_some]
  refine (congrArg (fun o : Option Nat => (o.bind (fun c => (U.vm.classes[c]?).map fun (k : Class) => match k.kind with | .array _ ty => decide (ty = FieldType.array t) && decide (U.vm.findClass ("[" ++ (FieldType.array t).toString) = some c) | _ => false) == some true)) hi).trans ?_
  simp [hk', hkind, f2]

/-! ===== what a method may lean on beside its own cells ===== -/
abbrev tyL (cs : Nat → ClassId) : List (ClassId × FieldType) := [(cs 0, .byte), (cs 1, .int), (cs 2, .long), (cs 3, .object RX3), (cs 4, .object RX8), (cs 5, .object RX4), (cs 6, .array .int)]
def tabZ (k : Nat) : Int := [3, 12, 4, 40, 1, 5, 8, 3, 2, 1, 1000, 4000, 6000, 9000, 8000].getD k 0
/-- the static row TABLE -/
def zTB (tt : Nat) (A : Nat → Prop) (U : State) (H : Heap) : Prop := ∃ cell : Cell, H[tt]? = some cell ∧ U.isArrayOf cell .int ∧ cell.vm ≠ .unknown ∧ cell.slots.size = 15 ∧ (∀ j : Nat, j < 15 → cell.slots[j]? = some (.int (zI (tabZ j)))) ∧ U.vm.findClass "[I" = some cell.cls ∧ ¬ A tt
theorem zTB.moved {tt : Nat} {A : Nat → Prop} {u U : State} {H : Heap} (hvm : u.vm.Alike U.vm) (h : zTB tt A u H) : zTB tt A U H := by
  obtain ⟨cell, h1, h2, h3, h4, h5, h6, h7⟩ := h
  exact ⟨cell, h1, State.isArrayOf_alike hvm h2, h3, h4, h5, by rw [hvm.findClass]; exact h6, h7⟩
theorem zTB.kept {tt : Nat} {A : Nat → Prop} {U : State} {H H1 : Heap} (h : zTB tt A U H) (hq : ∀ a : Nat, a < H.size → ¬ A a → H1[a]? = H[a]?) : zTB tt A U H1 := by
  obtain ⟨cell, h1, h2, h3, h4, h5, h6, h7⟩ := h
  exact ⟨cell, by rw [hq tt (Array.getElem?_eq_some_iff.mp h1).1 h7]; exact h1, h2, h3, h4, h5, h6, h7⟩
/-- the String constants that are thrown with: the class, the entry, the text -/
def SRL : List (String × Nat × String) := [("SnowRecorder", 88, "the tape has not so many bytes"), ("SnowRecorder", 167, "no such count"), ("SnowRecorder", 170, "no such hour"), ("SnowRecorder", 181, "no such thing of an hour"), ("SnowRecorder", 414, "no such slope"), ("SnowRecorder", 210, "no such thing of a slope"), ("SnowRecorder", 416, "no such layer"), ("SnowRecorder", 241, "no such thing of a layer"), ("SnowRecorder", 249, "no such sign"), ("SnowRecorder", 420, "no such thing to ask"), ("SnowRecorder", 422, "not so many hours"), ("SnowRecorder", 316, "that name isn't given"), ("SnowRecorder", 418, "no such pit"), ("SnowRecorder", 354, "no such thing of a pit"), ("SnowRecorder", 371, "no such comparison"), ("SnowRecorder", 396, "tenths are 0 to 10"), ("SnowRecorder", 406, "years are 0 to 30")]
def zE (D : va_G) (A : Nat → Prop) (cs : Nat → ClassId) (tt : Nat) (U : State) : Prop :=
  va_K D vwCl (tyL cs) U ∧ (∀ w ∈ NW, va_Nw w U) ∧ (∀ q : Nat, U.heap.size ≤ q → A q) ∧ (va_AO RX3 U ∧ va_AO RX8 U ∧ va_AO RX4 U ∧ va_AOA .int U) ∧
  (va_Z RX9 "TABLE" "[I" (.ref tt) A U U.heap ∧ zTB tt A U U.heap ∧ va_Z RJ0 "COMPACT_STRINGS" "Z" (.int 1) A U U.heap) ∧
  (vx_Zq Bundle.tN "UNASSIGNED_STACK" Bundle.steD A U U.heap ∧ vx_Zq Bundle.tN "SUPPRESSED_SENTINEL" Bundle.listD A U U.heap) ∧ (∀ q ∈ SRL, ∃ sa : Nat, vk_R q.1 q.2.1 q.2.2 sa U) ∧ va_Nc "java/lang/IllegalArgumentException" "java/util/NoSuchElementException" U
theorem zE.next {D : va_G} {A : Nat → Prop} {cs : Nat → ClassId} {tt : Nat} {s U : State} {H : Heap} {locs : List Loc} (h : zE D A cs tt s) (hS : va_S A s.heap H locs) (hH : U.heap = H) (hW : s.WarmedH U.vm) : zE D A cs tt U := by
  obtain ⟨h1, h2, h3, ⟨a1, a2, a3, a4⟩, ⟨t1, t2, t3⟩, ⟨u1, u2⟩, h7, h8⟩ := h
  have hq : ∀ a : Nat, a < s.heap.size → ¬ A a → U.heap[a]? = s.heap[a]? := by rw [hH]; exact hS.2.1
  have hv := hW.alike
  refine ⟨va_K.moved hv h1, fun w hw => NW_warm hW hw (h2 w hw), fun q hq => h3 q (Nat.le_trans (by rw [hH] at hq; exact Nat.le_trans hS.1 hq) (Nat.le_refl _)), ⟨va_AO.moved hv a1, va_AO.moved hv a2, va_AO.moved hv a3, va_AOA.moved hv a4⟩, ⟨va_Z.moved hv (t1.kept hq), zTB.moved hv (t2.kept hq), va_Z.moved hv (t3.kept hq)⟩, ⟨vx_Zq.moved hv (u1.kept hq), vx_Zq.moved hv (u2.kept hq)⟩, fun q hq => ?_, va_Nc.moved hv h8⟩
  obtain ⟨sa, hs⟩ := h7 q hq
  exact ⟨sa, vk_R.warm hW hs⟩
theorem zE.calling {D : va_G} {A : Nat → Prop} {cs : Nat → ClassId} {tt : Nat} {U : State} {g : JFrame} {mk : MethodId} {a : Array Value} (h : zE D A cs tt U) : zE D A cs tt (U.calling g mk a) := by
  obtain ⟨h1, h2, h3, ⟨a1, a2, a3, a4⟩, ⟨t1, t2, t3⟩, ⟨u1, u2⟩, h7, h8⟩ := h
  have hv : U.vm.Alike (U.calling g mk a).vm := Vm.Alike.refl U.vm
  refine ⟨va_K.moved hv h1, fun w hw => NW_same (u := U) rfl hw (h2 w hw), h3, ⟨va_AO.moved hv a1, va_AO.moved hv a2, va_AO.moved hv a3, va_AOA.moved hv a4⟩, ⟨va_Z.moved hv t1, zTB.moved hv t2, va_Z.moved hv t3⟩, ⟨vx_Zq.moved hv u1, vx_Zq.moved hv u2⟩, fun q hq => ?_, va_Nc.moved hv h8⟩
  obtain ⟨sa, hs⟩ := h7 q hq
  exact ⟨sa, vk_R.same rfl hs⟩
/-! ===== the judgement: in a world of roles, at pc, with these locals and this stack ===== -/
def zC (p : Program) (s : State) (m : MethodId) (args : Array Value) (c : Code) (cc : ByteArray) (nL : Nat) (own : String) (D : va_G) (A : Nat → Prop) (cs : Nat → ClassId) (tt : Nat) : Prop :=
  p.tables.exec = Jvm.exec ∧ c.code = cc ∧ c.maxLocals = nL ∧ s.vm.findClass own = some m.cls ∧ (∀ w ∈ AW, w.before args s = true) ∧ zE D A cs tt s
def zV (p : Program) (l : Launch) (e : Env) (R : Room) (s : State) (m : MethodId) (args : Array Value) (below : List Frame) (meth : Method) (c : Code) (Q : State → Prop) (D : va_G) (A : Nat → Prop) (nL : Nat) (N : Nat) (ad : Nat → Nat) (g : Nat → va_E) (k n pc : Nat) (lv : List (Nat × Value)) (st : List Value) : Prop :=
  ∀ (H : Heap) (locs : List Loc) (ls : Array Slot), va_P D vwCl (wl N ad g) H → va_D A (wl N ad g) → va_S A s.heap H locs → lv_has ls nL lv → W p l e R s m args below meth c H locs k n Q (F0 m pc ls st)

section ZV
variable {p : Program} {l : Launch} {e : Env} {R : Room} {s : State} {m : MethodId} {args : Array Value} {below : List Frame} {meth : Method} {c : Code} {Q : State → Prop} {D : va_G} {A : Nat → Prop} {cs : Nat → ClassId} {tt : Nat} {cc : ByteArray} {nL : Nat} {own : String} {N : Nat} {ad : Nat → Nat} {g : Nat → va_E} {k n pc : Nat} {lv lv' : List (Nat × Value)} {rest : List Value}
theorem z_iconst (C : zC p s m args c cc nL own D A cs tt) {i z : Int} (hdg : decode cc pc = .ok (.iconst i, 1)) (hz : zI i = zI z) (kk : zV p l e R s m args below meth c Q D A nL N ad g k n (pc + 1) (lv) (.int (zI z) :: rest)) : zV p l e R s m args below meth c Q D A nL N ad g k n (pc) (lv) (rest) := fun H locs ls hP hD hS hl => lv_iconst C.1 C.2.1 hdg hz (kk H locs ls hP hD hS hl)
theorem z_bipush (C : zC p s m args c cc nL own D A cs tt) {i z : Int} (hdg : decode cc pc = .ok (.bipush i, 2)) (hz : (Int8.ofInt i).toInt32 = zI z) (kk : zV p l e R s m args below meth c Q D A nL N ad g k n (pc + 2) (lv) (.int (zI z) :: rest)) : zV p l e R s m args below meth c Q D A nL N ad g k n (pc) (lv) (rest) := fun H locs ls hP hD hS hl => lv_bipush C.1 C.2.1 hdg hz (kk H locs ls hP hD hS hl)
theorem z_sipush (C : zC p s m args c cc nL own D A cs tt) {i z : Int} (hdg : decode cc pc = .ok (.sipush i, 3)) (hz : (Int16.ofInt i).toInt32 = zI z) (kk : zV p l e R s m args below meth c Q D A nL N ad g k n (pc + 3) (lv) (.int (zI z) :: rest)) : zV p l e R s m args below meth c Q D A nL N ad g k n (pc) (lv) (rest) := fun H locs ls hP hD hS hl => lv_sipush C.1 C.2.1 hdg hz (kk H locs ls hP hD hS hl)
theorem z_ldc (C : zC p s m args c cc nL own D A cs tt) {i : Nat} {x : Int32} {z : Int} (hdg : decode cc pc = .ok (.ldc i, 2)) (hw : Cond.constant own i x ∈ AW) (hz : x = zI z) (kk : zV p l e R s m args below meth c Q D A nL N ad g k n (pc + 2) (lv) (.int (zI z) :: rest)) : zV p l e R s m args below meth c Q D A nL N ad g k n (pc) (lv) (rest) := fun H locs ls hP hD hS hl => lv_ldc C.1 C.2.1 C.2.2.2.1 (C.2.2.2.2.1 _ hw) hdg (by rw [hz]; exact kk H locs ls hP hD hS hl)
theorem z_ldc2 (C : zC p s m args c cc nL own D A cs tt) {i : Nat} {x : Int64} {z : Int} (hdg : decode cc pc = .ok (.ldc2_w i, 3)) (hw : Cond.constantLong own i x ∈ AW) (hz : x = zJ z) (kk : zV p l e R s m args below meth c Q D A nL N ad g k n (pc + 3) (lv) (.long (zJ z) :: rest)) : zV p l e R s m args below meth c Q D A nL N ad g k n (pc) (lv) (rest) := fun H locs ls hP hD hS hl => lv_ldc2 C.1 C.2.1 C.2.2.2.1 (C.2.2.2.2.1 _ hw) hdg (by rw [hz]; exact kk H locs ls hP hD hS hl)
theorem z_lconst (C : zC p s m args c cc nL own D A cs tt) {i : Fin 2} {z : Int} (hdg : decode cc pc = .ok (.lconst i, 1)) (hz : Int64.ofNat (i : Nat) = zJ z) (kk : zV p l e R s m args below meth c Q D A nL N ad g k n (pc + 1) (lv) (.long (zJ z) :: rest)) : zV p l e R s m args below meth c Q D A nL N ad g k n (pc) (lv) (rest) := fun H locs ls hP hD hS hl => lv_lconst C.1 C.2.1 hdg hz (kk H locs ls hP hD hS hl)
theorem z_iload_n (C : zC p s m args c cc nL own D A cs tt) {f : Fin 4} {x : Int32} (j : Nat) (hdg : decode cc pc = .ok (.iload_n f, 1)) (hj : lv[j]? = some ((f : Nat), .int x)) (kk : zV p l e R s m args below meth c Q D A nL N ad g k n (pc + 1) (lv) (.int x :: rest)) : zV p l e R s m args below meth c Q D A nL N ad g k n (pc) (lv) (rest) := fun H locs ls hP hD hS hl => lv_iload_n C.1 C.2.1 hdg rfl (lv_at hl j hj) (kk H locs ls hP hD hS hl)
theorem z_iload (C : zC p s m args c cc nL own D A cs tt) {f : Nat} {x : Int32} (j : Nat) (hdg : decode cc pc = .ok (.iload f, 2)) (hj : lv[j]? = some (f, .int x)) (kk : zV p l e R s m args below meth c Q D A nL N ad g k n (pc + 2) (lv) (.int x :: rest)) : zV p l e R s m args below meth c Q D A nL N ad g k n (pc) (lv) (rest) := fun H locs ls hP hD hS hl => lv_iload C.1 C.2.1 hdg (lv_at hl j hj) (kk H locs ls hP hD hS hl)
theorem z_aload_n (C : zC p s m args c cc nL own D A cs tt) {f : Fin 4} {x : Nat} (j : Nat) (hdg : decode cc pc = .ok (.aload_n f, 1)) (hj : lv[j]? = some ((f : Nat), .ref x)) (kk : zV p l e R s m args below meth c Q D A nL N ad g k n (pc + 1) (lv) (.ref x :: rest)) : zV p l e R s m args below meth c Q D A nL N ad g k n (pc) (lv) (rest) := fun H locs ls hP hD hS hl => lv_aload_n C.1 C.2.1 hdg rfl (lv_at hl j hj) (kk H locs ls hP hD hS hl)
theorem z_aload (C : zC p s m args c cc nL own D A cs tt) {f : Nat} {x : Nat} (j : Nat) (hdg : decode cc pc = .ok (.aload f, 2)) (hj : lv[j]? = some (f, .ref x)) (kk : zV p l e R s m args below meth c Q D A nL N ad g k n (pc + 2) (lv) (.ref x :: rest)) : zV p l e R s m args below meth c Q D A nL N ad g k n (pc) (lv) (rest) := fun H locs ls hP hD hS hl => lv_aload C.1 C.2.1 hdg (lv_at hl j hj) (kk H locs ls hP hD hS hl)
theorem z_lload_n (C : zC p s m args c cc nL own D A cs tt) {f : Fin 4} {x : Int64} (j : Nat) (hdg : decode cc pc = .ok (.lload_n f, 1)) (hj : lv[j]? = some ((f : Nat), .long x)) (kk : zV p l e R s m args below meth c Q D A nL N ad g k n (pc + 1) (lv) (.long x :: rest)) : zV p l e R s m args below meth c Q D A nL N ad g k n (pc) (lv) (rest) := fun H locs ls hP hD hS hl => lv_lload_n C.1 C.2.1 hdg rfl (lv_at hl j hj) (kk H locs ls hP hD hS hl)
theorem z_lload (C : zC p s m args c cc nL own D A cs tt) {f : Nat} {x : Int64} (j : Nat) (hdg : decode cc pc = .ok (.lload f, 2)) (hj : lv[j]? = some (f, .long x)) (kk : zV p l e R s m args below meth c Q D A nL N ad g k n (pc + 2) (lv) (.long x :: rest)) : zV p l e R s m args below meth c Q D A nL N ad g k n (pc) (lv) (rest) := fun H locs ls hP hD hS hl => lv_lload C.1 C.2.1 hdg (lv_at hl j hj) (kk H locs ls hP hD hS hl)
theorem z_istore_n (C : zC p s m args c cc nL own D A cs tt) {f : Fin 4} {i : Nat} {x : Int32} (hdg : decode cc pc = .ok (.istore_n f, 1)) (hi : (f : Nat) = i) (hn : i < nL) (hl9 : (i, Value.int x) :: lv.filter (fun q => !(q.1 == i) && !(q.1 + 1 == i && q.2.category == 2)) = lv') (kk : zV p l e R s m args below meth c Q D A nL N ad g k n (pc + 1) (lv') (rest)) : zV p l e R s m args below meth c Q D A nL N ad g k n (pc) (lv) (.int x :: rest) := fun H locs ls hP hD hS hl => lv_istore_n C.1 C.2.1 hdg hi hl hn hl9 (fun ls hl => kk H locs ls hP hD hS hl)
theorem z_istore (C : zC p s m args c cc nL own D A cs tt) {i : Nat} {x : Int32} (hdg : decode cc pc = .ok (.istore i, 2)) (hn : i < nL) (hl9 : (i, Value.int x) :: lv.filter (fun q => !(q.1 == i) && !(q.1 + 1 == i && q.2.category == 2)) = lv') (kk : zV p l e R s m args below meth c Q D A nL N ad g k n (pc + 2) (lv') (rest)) : zV p l e R s m args below meth c Q D A nL N ad g k n (pc) (lv) (.int x :: rest) := fun H locs ls hP hD hS hl => lv_istore C.1 C.2.1 hdg hl hn hl9 (fun ls hl => kk H locs ls hP hD hS hl)
theorem z_astore_n (C : zC p s m args c cc nL own D A cs tt) {f : Fin 4} {i : Nat} {x : Nat} (hdg : decode cc pc = .ok (.astore_n f, 1)) (hi : (f : Nat) = i) (hn : i < nL) (hl9 : (i, Value.ref x) :: lv.filter (fun q => !(q.1 == i) && !(q.1 + 1 == i && q.2.category == 2)) = lv') (kk : zV p l e R s m args below meth c Q D A nL N ad g k n (pc + 1) (lv') (rest)) : zV p l e R s m args below meth c Q D A nL N ad g k n (pc) (lv) (.ref x :: rest) := fun H locs ls hP hD hS hl => lv_astore_n C.1 C.2.1 hdg hi hl hn hl9 (fun ls hl => kk H locs ls hP hD hS hl)
theorem z_astore (C : zC p s m args c cc nL own D A cs tt) {i : Nat} {x : Nat} (hdg : decode cc pc = .ok (.astore i, 2)) (hn : i < nL) (hl9 : (i, Value.ref x) :: lv.filter (fun q => !(q.1 == i) && !(q.1 + 1 == i && q.2.category == 2)) = lv') (kk : zV p l e R s m args below meth c Q D A nL N ad g k n (pc + 2) (lv') (rest)) : zV p l e R s m args below meth c Q D A nL N ad g k n (pc) (lv) (.ref x :: rest) := fun H locs ls hP hD hS hl => lv_astore C.1 C.2.1 hdg hl hn hl9 (fun ls hl => kk H locs ls hP hD hS hl)
theorem z_lstore_n (C : zC p s m args c cc nL own D A cs tt) {f : Fin 4} {i : Nat} {x : Int64} (hdg : decode cc pc = .ok (.lstore_n f, 1)) (hi : (f : Nat) = i) (hn : i + 1 < nL) (hl9 : (i, Value.long x) :: lv.filter (fun q => !(q.1 == i) && (!(q.1 == i + 1) && !(q.1 + 1 == i && q.2.category == 2))) = lv') (kk : zV p l e R s m args below meth c Q D A nL N ad g k n (pc + 1) (lv') (rest)) : zV p l e R s m args below meth c Q D A nL N ad g k n (pc) (lv) (.long x :: rest) := fun H locs ls hP hD hS hl => lv_lstore_n C.1 C.2.1 hdg hi hl hn hl9 (fun ls hl => kk H locs ls hP hD hS hl)
theorem z_lstore (C : zC p s m args c cc nL own D A cs tt) {i : Nat} {x : Int64} (hdg : decode cc pc = .ok (.lstore i, 2)) (hn : i + 1 < nL) (hl9 : (i, Value.long x) :: lv.filter (fun q => !(q.1 == i) && (!(q.1 == i + 1) && !(q.1 + 1 == i && q.2.category == 2))) = lv') (kk : zV p l e R s m args below meth c Q D A nL N ad g k n (pc + 2) (lv') (rest)) : zV p l e R s m args below meth c Q D A nL N ad g k n (pc) (lv) (.long x :: rest) := fun H locs ls hP hD hS hl => lv_lstore C.1 C.2.1 hdg hl hn hl9 (fun ls hl => kk H locs ls hP hD hS hl)
theorem z_iinc (C : zC p s m args c cc nL own D A cs tt) {i j : Nat} {d x z : Int} (hdg : decode cc pc = .ok (.iinc i d, 3)) (hj : lv[j]? = some (i, .int (zI x))) (hz : zI (x + d) = zI z) (hn : i < nL) (hl9 : (i, Value.int (zI z)) :: lv.filter (fun q => !(q.1 == i) && !(q.1 + 1 == i && q.2.category == 2)) = lv') (kk : zV p l e R s m args below meth c Q D A nL N ad g k n (pc + 3) (lv') (rest)) : zV p l e R s m args below meth c Q D A nL N ad g k n (pc) (lv) (rest) := fun H locs ls hP hD hS hl => lv_iinc C.1 C.2.1 hdg hl hj (by show zI x + zI d = _; rw [zI_add]; exact hz) hn hl9 (fun ls hl => kk H locs ls hP hD hS hl)
theorem z_iadd (C : zC p s m args c cc nL own D A cs tt) {a b : Int} (hdg : decode cc pc = .ok (.iadd, 1)) (kk : zV p l e R s m args below meth c Q D A nL N ad g k n (pc + 1) (lv) (.int (zI (a + b)) :: rest)) : zV p l e R s m args below meth c Q D A nL N ad g k n (pc) (lv) (.int (zI b) :: .int (zI a) :: rest) := fun H locs ls hP hD hS hl => lv_iadd C.1 C.2.1 hdg (by rw [zI_add]; exact kk H locs ls hP hD hS hl)
theorem z_isub (C : zC p s m args c cc nL own D A cs tt) {a b : Int} (hdg : decode cc pc = .ok (.isub, 1)) (kk : zV p l e R s m args below meth c Q D A nL N ad g k n (pc + 1) (lv) (.int (zI (a - b)) :: rest)) : zV p l e R s m args below meth c Q D A nL N ad g k n (pc) (lv) (.int (zI b) :: .int (zI a) :: rest) := fun H locs ls hP hD hS hl => lv_isub C.1 C.2.1 hdg (by rw [zI_sub]; exact kk H locs ls hP hD hS hl)
theorem z_imul (C : zC p s m args c cc nL own D A cs tt) {a b : Int} (hdg : decode cc pc = .ok (.imul, 1)) (kk : zV p l e R s m args below meth c Q D A nL N ad g k n (pc + 1) (lv) (.int (zI (a * b)) :: rest)) : zV p l e R s m args below meth c Q D A nL N ad g k n (pc) (lv) (.int (zI b) :: .int (zI a) :: rest) := fun H locs ls hP hD hS hl => lv_imul C.1 C.2.1 hdg (by rw [zI_mul]; exact kk H locs ls hP hD hS hl)
theorem z_ladd (C : zC p s m args c cc nL own D A cs tt) {a b : Int} (hdg : decode cc pc = .ok (.ladd, 1)) (kk : zV p l e R s m args below meth c Q D A nL N ad g k n (pc + 1) (lv) (.long (zJ (a + b)) :: rest)) : zV p l e R s m args below meth c Q D A nL N ad g k n (pc) (lv) (.long (zJ b) :: .long (zJ a) :: rest) := fun H locs ls hP hD hS hl => lv_ladd C.1 C.2.1 hdg (by rw [zJ_add]; exact kk H locs ls hP hD hS hl)
theorem z_lsub (C : zC p s m args c cc nL own D A cs tt) {a b : Int} (hdg : decode cc pc = .ok (.lsub, 1)) (kk : zV p l e R s m args below meth c Q D A nL N ad g k n (pc + 1) (lv) (.long (zJ (a - b)) :: rest)) : zV p l e R s m args below meth c Q D A nL N ad g k n (pc) (lv) (.long (zJ b) :: .long (zJ a) :: rest) := fun H locs ls hP hD hS hl => lv_lsub C.1 C.2.1 hdg (by rw [zJ_sub]; exact kk H locs ls hP hD hS hl)
theorem z_lmul (C : zC p s m args c cc nL own D A cs tt) {a b : Int} (hdg : decode cc pc = .ok (.lmul, 1)) (kk : zV p l e R s m args below meth c Q D A nL N ad g k n (pc + 1) (lv) (.long (zJ (a * b)) :: rest)) : zV p l e R s m args below meth c Q D A nL N ad g k n (pc) (lv) (.long (zJ b) :: .long (zJ a) :: rest) := fun H locs ls hP hD hS hl => lv_lmul C.1 C.2.1 hdg (by rw [zJ_mul]; exact kk H locs ls hP hD hS hl)
theorem z_ineg (C : zC p s m args c cc nL own D A cs tt) {a : Int} (hdg : decode cc pc = .ok (.ineg, 1)) (kk : zV p l e R s m args below meth c Q D A nL N ad g k n (pc + 1) (lv) (.int (zI (-a)) :: rest)) : zV p l e R s m args below meth c Q D A nL N ad g k n (pc) (lv) (.int (zI a) :: rest) := fun H locs ls hP hD hS hl => lv_ineg C.1 C.2.1 hdg (by rw [zI_neg]; exact kk H locs ls hP hD hS hl)
theorem z_idiv (C : zC p s m args c cc nL own D A cs tt) {a b : Int} (hdg : decode cc pc = .ok (.idiv, 1)) (ha : -2147483648 ≤ a ∧ a ≤ 2147483647) (hb : -2147483648 ≤ b ∧ b ≤ 2147483647) (h0 : b ≠ 0) (kk : zV p l e R s m args below meth c Q D A nL N ad g k n (pc + 1) (lv) (.int (zI (a.tdiv b)) :: rest)) : zV p l e R s m args below meth c Q D A nL N ad g k n (pc) (lv) (.int (zI b) :: .int (zI a) :: rest) := fun H locs ls hP hD hS hl => lv_idiv C.1 C.2.1 hdg (by rw [← zI_0, zI_eq hb (by omega)]; exact h0) (by rw [zI_div ha hb]; exact kk H locs ls hP hD hS hl)
theorem z_irem (C : zC p s m args c cc nL own D A cs tt) {a b : Int} (hdg : decode cc pc = .ok (.irem, 1)) (ha : -2147483648 ≤ a ∧ a ≤ 2147483647) (hb : -2147483648 ≤ b ∧ b ≤ 2147483647) (h0 : b ≠ 0) (kk : zV p l e R s m args below meth c Q D A nL N ad g k n (pc + 1) (lv) (.int (zI (a.tmod b)) :: rest)) : zV p l e R s m args below meth c Q D A nL N ad g k n (pc) (lv) (.int (zI b) :: .int (zI a) :: rest) := fun H locs ls hP hD hS hl => lv_irem C.1 C.2.1 hdg (by rw [← zI_0, zI_eq hb (by omega)]; exact h0) (by rw [zI_rem ha hb]; exact kk H locs ls hP hD hS hl)
theorem z_ishl (C : zC p s m args c cc nL own D A cs tt) {a b z : Int} (hdg : decode cc pc = .ok (.ishl, 1)) (hz : zI a <<< (zI b &&& 31) = zI z) (kk : zV p l e R s m args below meth c Q D A nL N ad g k n (pc + 1) (lv) (.int (zI z) :: rest)) : zV p l e R s m args below meth c Q D A nL N ad g k n (pc) (lv) (.int (zI b) :: .int (zI a) :: rest) := fun H locs ls hP hD hS hl => lv_ishl C.1 C.2.1 hdg (by rw [hz]; exact kk H locs ls hP hD hS hl)
theorem z_ishr (C : zC p s m args c cc nL own D A cs tt) {a b z : Int} (hdg : decode cc pc = .ok (.ishr, 1)) (hz : zI a >>> (zI b &&& 31) = zI z) (kk : zV p l e R s m args below meth c Q D A nL N ad g k n (pc + 1) (lv) (.int (zI z) :: rest)) : zV p l e R s m args below meth c Q D A nL N ad g k n (pc) (lv) (.int (zI b) :: .int (zI a) :: rest) := fun H locs ls hP hD hS hl => lv_ishr C.1 C.2.1 hdg (by rw [hz]; exact kk H locs ls hP hD hS hl)
theorem z_iushr (C : zC p s m args c cc nL own D A cs tt) {a b z : Int} (hdg : decode cc pc = .ok (.iushr, 1)) (hz : ((zI a).toUInt32 >>> ((zI b).toUInt32 &&& Int32.toUInt32 31)).toInt32 = zI z) (kk : zV p l e R s m args below meth c Q D A nL N ad g k n (pc + 1) (lv) (.int (zI z) :: rest)) : zV p l e R s m args below meth c Q D A nL N ad g k n (pc) (lv) (.int (zI b) :: .int (zI a) :: rest) := fun H locs ls hP hD hS hl => lv_iushr C.1 C.2.1 hdg hz (kk H locs ls hP hD hS hl)
theorem z_iand (C : zC p s m args c cc nL own D A cs tt) {a b z : Int} (hdg : decode cc pc = .ok (.iand, 1)) (hz : zI a &&& zI b = zI z) (kk : zV p l e R s m args below meth c Q D A nL N ad g k n (pc + 1) (lv) (.int (zI z) :: rest)) : zV p l e R s m args below meth c Q D A nL N ad g k n (pc) (lv) (.int (zI b) :: .int (zI a) :: rest) := fun H locs ls hP hD hS hl => lv_iand C.1 C.2.1 hdg (by rw [hz]; exact kk H locs ls hP hD hS hl)
theorem z_ior (C : zC p s m args c cc nL own D A cs tt) {a b z : Int} (hdg : decode cc pc = .ok (.ior, 1)) (hz : zI a ||| zI b = zI z) (kk : zV p l e R s m args below meth c Q D A nL N ad g k n (pc + 1) (lv) (.int (zI z) :: rest)) : zV p l e R s m args below meth c Q D A nL N ad g k n (pc) (lv) (.int (zI b) :: .int (zI a) :: rest) := fun H locs ls hP hD hS hl => lv_ior C.1 C.2.1 hdg (by rw [hz]; exact kk H locs ls hP hD hS hl)
theorem z_i2l (C : zC p s m args c cc nL own D A cs tt) {a : Int} (hdg : decode cc pc = .ok (.i2l, 1)) (ha : -2147483648 ≤ a ∧ a ≤ 2147483647) (kk : zV p l e R s m args below meth c Q D A nL N ad g k n (pc + 1) (lv) (.long (zJ a) :: rest)) : zV p l e R s m args below meth c Q D A nL N ad g k n (pc) (lv) (.int (zI a) :: rest) := fun H locs ls hP hD hS hl => lv_i2l C.1 C.2.1 hdg (zI_l ha) (kk H locs ls hP hD hS hl)
theorem z_l2i (C : zC p s m args c cc nL own D A cs tt) {a : Int} (hdg : decode cc pc = .ok (.l2i, 1)) (kk : zV p l e R s m args below meth c Q D A nL N ad g k n (pc + 1) (lv) (.int (zI a) :: rest)) : zV p l e R s m args below meth c Q D A nL N ad g k n (pc) (lv) (.long (zJ a) :: rest) := fun H locs ls hP hD hS hl => lv_l2i C.1 C.2.1 hdg (zJ_i a) (kk H locs ls hP hD hS hl)
theorem z_i2b (C : zC p s m args c cc nL own D A cs tt) {a z : Int} (hdg : decode cc pc = .ok (.i2b, 1)) (hz : (zI a).toInt8.toInt32 = zI z) (kk : zV p l e R s m args below meth c Q D A nL N ad g k n (pc + 1) (lv) (.int (zI z) :: rest)) : zV p l e R s m args below meth c Q D A nL N ad g k n (pc) (lv) (.int (zI a) :: rest) := fun H locs ls hP hD hS hl => lv_i2b C.1 C.2.1 hdg hz (kk H locs ls hP hD hS hl)
theorem z_dup (C : zC p s m args c cc nL own D A cs tt) {v : Value} (hdg : decode cc pc = .ok (.dup, 1)) (hv : v.category = 1) (kk : zV p l e R s m args below meth c Q D A nL N ad g k n (pc + 1) (lv) (v :: v :: rest)) : zV p l e R s m args below meth c Q D A nL N ad g k n (pc) (lv) (v :: rest) := fun H locs ls hP hD hS hl => lv_dup C.1 C.2.1 hdg hv (kk H locs ls hP hD hS hl)
theorem z_pop (C : zC p s m args c cc nL own D A cs tt) {v : Value} (hdg : decode cc pc = .ok (.pop, 1)) (hv : v.category = 1) (kk : zV p l e R s m args below meth c Q D A nL N ad g k n (pc + 1) (lv) (rest)) : zV p l e R s m args below meth c Q D A nL N ad g k n (pc) (lv) (v :: rest) := fun H locs ls hP hD hS hl => lv_pop C.1 C.2.1 hdg hv (kk H locs ls hP hD hS hl)
theorem z_dup_x1 (C : zC p s m args c cc nL own D A cs tt) {v w : Value} (hdg : decode cc pc = .ok (.dup_x1, 1)) (hv : v.category = 1) (hw : w.category = 1) (kk : zV p l e R s m args below meth c Q D A nL N ad g k n (pc + 1) (lv) (v :: w :: v :: rest)) : zV p l e R s m args below meth c Q D A nL N ad g k n (pc) (lv) (v :: w :: rest) := fun H locs ls hP hD hS hl => lv_dup_x1 C.1 C.2.1 hdg hv hw (kk H locs ls hP hD hS hl)
theorem z_dup2 (C : zC p s m args c cc nL own D A cs tt) {v w : Value} (hdg : decode cc pc = .ok (.dup2, 1)) (hv : v.category = 1) (hw : w.category = 1) (kk : zV p l e R s m args below meth c Q D A nL N ad g k n (pc + 1) (lv) (v :: w :: v :: w :: rest)) : zV p l e R s m args below meth c Q D A nL N ad g k n (pc) (lv) (v :: w :: rest) := fun H locs ls hP hD hS hl => lv_dup2_11 C.1 C.2.1 hdg hv hw (kk H locs ls hP hD hS hl)
theorem z_icmp_eq (C : zC p s m args c cc nL own D A cs tt) {a b : Int} {off : Int} {tgt : Nat} (hdg : decode cc pc = .ok (.if_icmp .eq off, 3)) (ht : (pc : Int) + off = (tgt : Int)) (ha : -2147483648 ≤ a ∧ a ≤ 2147483647) (hb : -2147483648 ≤ b ∧ b ≤ 2147483647) (kt : a = b → zV p l e R s m args below meth c Q D A nL N ad g k n (tgt) (lv) (rest)) (kf : ¬ (a = b) → zV p l e R s m args below meth c Q D A nL N ad g k n (pc + 3) (lv) (rest)) : zV p l e R s m args below meth c Q D A nL N ad g k n (pc) (lv) (.int (zI b) :: .int (zI a) :: rest) := fun H locs ls hP hD hS hl => lv_icmp_eq C.1 C.2.1 hdg ht (fun h => kt ((zI_eq ha hb).mp h) H locs ls hP hD hS hl) (fun h => kf (fun q => h ((zI_eq ha hb).mpr q)) H locs ls hP hD hS hl)
theorem z_if_eq (C : zC p s m args c cc nL own D A cs tt) {a : Int} {off : Int} {tgt : Nat} (hdg : decode cc pc = .ok (.ifCond .eq off, 3)) (ht : (pc : Int) + off = (tgt : Int)) (ha : -2147483648 ≤ a ∧ a ≤ 2147483647) (kt : a = 0 → zV p l e R s m args below meth c Q D A nL N ad g k n (tgt) (lv) (rest)) (kf : ¬ (a = 0) → zV p l e R s m args below meth c Q D A nL N ad g k n (pc + 3) (lv) (rest)) : zV p l e R s m args below meth c Q D A nL N ad g k n (pc) (lv) (.int (zI a) :: rest) := fun H locs ls hP hD hS hl => lv_if_eq C.1 C.2.1 hdg ht (fun h => kt ((zI_eq ha (show -2147483648 ≤ (0 : Int) ∧ (0 : Int) ≤ 2147483647 by omega)).mp h) H locs ls hP hD hS hl) (fun h => kf (fun q => h ((zI_eq ha (show -2147483648 ≤ (0 : Int) ∧ (0 : Int) ≤ 2147483647 by omega)).mpr q)) H locs ls hP hD hS hl)
theorem z_icmp_ne (C : zC p s m args c cc nL own D A cs tt) {a b : Int} {off : Int} {tgt : Nat} (hdg : decode cc pc = .ok (.if_icmp .ne off, 3)) (ht : (pc : Int) + off = (tgt : Int)) (ha : -2147483648 ≤ a ∧ a ≤ 2147483647) (hb : -2147483648 ≤ b ∧ b ≤ 2147483647) (kt : a ≠ b → zV p l e R s m args below meth c Q D A nL N ad g k n (tgt) (lv) (rest)) (kf : a = b → zV p l e R s m args below meth c Q D A nL N ad g k n (pc + 3) (lv) (rest)) : zV p l e R s m args below meth c Q D A nL N ad g k n (pc) (lv) (.int (zI b) :: .int (zI a) :: rest) := fun H locs ls hP hD hS hl => lv_icmp_ne C.1 C.2.1 hdg ht (fun h => kt (fun q => h ((zI_eq ha hb).mpr q)) H locs ls hP hD hS hl) (fun h => kf ((zI_eq ha hb).mp h) H locs ls hP hD hS hl)
theorem z_if_ne (C : zC p s m args c cc nL own D A cs tt) {a : Int} {off : Int} {tgt : Nat} (hdg : decode cc pc = .ok (.ifCond .ne off, 3)) (ht : (pc : Int) + off = (tgt : Int)) (ha : -2147483648 ≤ a ∧ a ≤ 2147483647) (kt : a ≠ 0 → zV p l e R s m args below meth c Q D A nL N ad g k n (tgt) (lv) (rest)) (kf : a = 0 → zV p l e R s m args below meth c Q D A nL N ad g k n (pc + 3) (lv) (rest)) : zV p l e R s m args below meth c Q D A nL N ad g k n (pc) (lv) (.int (zI a) :: rest) := fun H locs ls hP hD hS hl => lv_if_ne C.1 C.2.1 hdg ht (fun h => kt (fun q => h ((zI_eq ha (show -2147483648 ≤ (0 : Int) ∧ (0 : Int) ≤ 2147483647 by omega)).mpr q)) H locs ls hP hD hS hl) (fun h => kf ((zI_eq ha (show -2147483648 ≤ (0 : Int) ∧ (0 : Int) ≤ 2147483647 by omega)).mp h) H locs ls hP hD hS hl)
theorem z_icmp_lt (C : zC p s m args c cc nL own D A cs tt) {a b : Int} {off : Int} {tgt : Nat} (hdg : decode cc pc = .ok (.if_icmp .lt off, 3)) (ht : (pc : Int) + off = (tgt : Int)) (ha : -2147483648 ≤ a ∧ a ≤ 2147483647) (hb : -2147483648 ≤ b ∧ b ≤ 2147483647) (kt : a < b → zV p l e R s m args below meth c Q D A nL N ad g k n (tgt) (lv) (rest)) (kf : ¬ (a < b) → zV p l e R s m args below meth c Q D A nL N ad g k n (pc + 3) (lv) (rest)) : zV p l e R s m args below meth c Q D A nL N ad g k n (pc) (lv) (.int (zI b) :: .int (zI a) :: rest) := fun H locs ls hP hD hS hl => lv_icmp_lt C.1 C.2.1 hdg ht (fun h => kt ((zI_lt ha hb).mp h) H locs ls hP hD hS hl) (fun h => kf (fun q => h ((zI_lt ha hb).mpr q)) H locs ls hP hD hS hl)
theorem z_if_lt (C : zC p s m args c cc nL own D A cs tt) {a : Int} {off : Int} {tgt : Nat} (hdg : decode cc pc = .ok (.ifCond .lt off, 3)) (ht : (pc : Int) + off = (tgt : Int)) (ha : -2147483648 ≤ a ∧ a ≤ 2147483647) (kt : a < 0 → zV p l e R s m args below meth c Q D A nL N ad g k n (tgt) (lv) (rest)) (kf : ¬ (a < 0) → zV p l e R s m args below meth c Q D A nL N ad g k n (pc + 3) (lv) (rest)) : zV p l e R s m args below meth c Q D A nL N ad g k n (pc) (lv) (.int (zI a) :: rest) := fun H locs ls hP hD hS hl => lv_if_lt C.1 C.2.1 hdg ht (fun h => kt ((zI_lt ha (show -2147483648 ≤ (0 : Int) ∧ (0 : Int) ≤ 2147483647 by omega)).mp h) H locs ls hP hD hS hl) (fun h => kf (fun q => h ((zI_lt ha (show -2147483648 ≤ (0 : Int) ∧ (0 : Int) ≤ 2147483647 by omega)).mpr q)) H locs ls hP hD hS hl)
theorem z_icmp_ge (C : zC p s m args c cc nL own D A cs tt) {a b : Int} {off : Int} {tgt : Nat} (hdg : decode cc pc = .ok (.if_icmp .ge off, 3)) (ht : (pc : Int) + off = (tgt : Int)) (ha : -2147483648 ≤ a ∧ a ≤ 2147483647) (hb : -2147483648 ≤ b ∧ b ≤ 2147483647) (kt : b ≤ a → zV p l e R s m args below meth c Q D A nL N ad g k n (tgt) (lv) (rest)) (kf : ¬ (b ≤ a) → zV p l e R s m args below meth c Q D A nL N ad g k n (pc + 3) (lv) (rest)) : zV p l e R s m args below meth c Q D A nL N ad g k n (pc) (lv) (.int (zI b) :: .int (zI a) :: rest) := fun H locs ls hP hD hS hl => lv_icmp_ge C.1 C.2.1 hdg ht (fun h => kt ((zI_le hb ha).mp h) H locs ls hP hD hS hl) (fun h => kf (fun q => h ((zI_le hb ha).mpr q)) H locs ls hP hD hS hl)
theorem z_if_ge (C : zC p s m args c cc nL own D A cs tt) {a : Int} {off : Int} {tgt : Nat} (hdg : decode cc pc = .ok (.ifCond .ge off, 3)) (ht : (pc : Int) + off = (tgt : Int)) (ha : -2147483648 ≤ a ∧ a ≤ 2147483647) (kt : 0 ≤ a → zV p l e R s m args below meth c Q D A nL N ad g k n (tgt) (lv) (rest)) (kf : ¬ (0 ≤ a) → zV p l e R s m args below meth c Q D A nL N ad g k n (pc + 3) (lv) (rest)) : zV p l e R s m args below meth c Q D A nL N ad g k n (pc) (lv) (.int (zI a) :: rest) := fun H locs ls hP hD hS hl => lv_if_ge C.1 C.2.1 hdg ht (fun h => kt ((zI_le (show -2147483648 ≤ (0 : Int) ∧ (0 : Int) ≤ 2147483647 by omega) ha).mp h) H locs ls hP hD hS hl) (fun h => kf (fun q => h ((zI_le (show -2147483648 ≤ (0 : Int) ∧ (0 : Int) ≤ 2147483647 by omega) ha).mpr q)) H locs ls hP hD hS hl)
theorem z_icmp_gt (C : zC p s m args c cc nL own D A cs tt) {a b : Int} {off : Int} {tgt : Nat} (hdg : decode cc pc = .ok (.if_icmp .gt off, 3)) (ht : (pc : Int) + off = (tgt : Int)) (ha : -2147483648 ≤ a ∧ a ≤ 2147483647) (hb : -2147483648 ≤ b ∧ b ≤ 2147483647) (kt : b < a → zV p l e R s m args below meth c Q D A nL N ad g k n (tgt) (lv) (rest)) (kf : ¬ (b < a) → zV p l e R s m args below meth c Q D A nL N ad g k n (pc + 3) (lv) (rest)) : zV p l e R s m args below meth c Q D A nL N ad g k n (pc) (lv) (.int (zI b) :: .int (zI a) :: rest) := fun H locs ls hP hD hS hl => lv_icmp_gt C.1 C.2.1 hdg ht (fun h => kt ((zI_lt hb ha).mp h) H locs ls hP hD hS hl) (fun h => kf (fun q => h ((zI_lt hb ha).mpr q)) H locs ls hP hD hS hl)
theorem z_if_gt (C : zC p s m args c cc nL own D A cs tt) {a : Int} {off : Int} {tgt : Nat} (hdg : decode cc pc = .ok (.ifCond .gt off, 3)) (ht : (pc : Int) + off = (tgt : Int)) (ha : -2147483648 ≤ a ∧ a ≤ 2147483647) (kt : 0 < a → zV p l e R s m args below meth c Q D A nL N ad g k n (tgt) (lv) (rest)) (kf : ¬ (0 < a) → zV p l e R s m args below meth c Q D A nL N ad g k n (pc + 3) (lv) (rest)) : zV p l e R s m args below meth c Q D A nL N ad g k n (pc) (lv) (.int (zI a) :: rest) := fun H locs ls hP hD hS hl => lv_if_gt C.1 C.2.1 hdg ht (fun h => kt ((zI_lt (show -2147483648 ≤ (0 : Int) ∧ (0 : Int) ≤ 2147483647 by omega) ha).mp h) H locs ls hP hD hS hl) (fun h => kf (fun q => h ((zI_lt (show -2147483648 ≤ (0 : Int) ∧ (0 : Int) ≤ 2147483647 by omega) ha).mpr q)) H locs ls hP hD hS hl)
theorem z_icmp_le (C : zC p s m args c cc nL own D A cs tt) {a b : Int} {off : Int} {tgt : Nat} (hdg : decode cc pc = .ok (.if_icmp .le off, 3)) (ht : (pc : Int) + off = (tgt : Int)) (ha : -2147483648 ≤ a ∧ a ≤ 2147483647) (hb : -2147483648 ≤ b ∧ b ≤ 2147483647) (kt : a ≤ b → zV p l e R s m args below meth c Q D A nL N ad g k n (tgt) (lv) (rest)) (kf : ¬ (a ≤ b) → zV p l e R s m args below meth c Q D A nL N ad g k n (pc + 3) (lv) (rest)) : zV p l e R s m args below meth c Q D A nL N ad g k n (pc) (lv) (.int (zI b) :: .int (zI a) :: rest) := fun H locs ls hP hD hS hl => lv_icmp_le C.1 C.2.1 hdg ht (fun h => kt ((zI_le ha hb).mp h) H locs ls hP hD hS hl) (fun h => kf (fun q => h ((zI_le ha hb).mpr q)) H locs ls hP hD hS hl)
theorem z_if_le (C : zC p s m args c cc nL own D A cs tt) {a : Int} {off : Int} {tgt : Nat} (hdg : decode cc pc = .ok (.ifCond .le off, 3)) (ht : (pc : Int) + off = (tgt : Int)) (ha : -2147483648 ≤ a ∧ a ≤ 2147483647) (kt : a ≤ 0 → zV p l e R s m args below meth c Q D A nL N ad g k n (tgt) (lv) (rest)) (kf : ¬ (a ≤ 0) → zV p l e R s m args below meth c Q D A nL N ad g k n (pc + 3) (lv) (rest)) : zV p l e R s m args below meth c Q D A nL N ad g k n (pc) (lv) (.int (zI a) :: rest) := fun H locs ls hP hD hS hl => lv_if_le C.1 C.2.1 hdg ht (fun h => kt ((zI_le ha (show -2147483648 ≤ (0 : Int) ∧ (0 : Int) ≤ 2147483647 by omega)).mp h) H locs ls hP hD hS hl) (fun h => kf (fun q => h ((zI_le ha (show -2147483648 ≤ (0 : Int) ∧ (0 : Int) ≤ 2147483647 by omega)).mpr q)) H locs ls hP hD hS hl)
theorem z_goto (C : zC p s m args c cc nL own D A cs tt) {off : Int} {tgt : Nat} (hdg : decode cc pc = .ok (.goto off, 3)) (ht : (pc : Int) + off = (tgt : Int)) (kk : zV p l e R s m args below meth c Q D A nL N ad g k n (tgt) (lv) (rest)) : zV p l e R s m args below meth c Q D A nL N ad g k n (pc) (lv) (rest) := fun H locs ls hP hD hS hl => lv_goto C.1 C.2.1 hdg ht (kk H locs ls hP hD hS hl)
theorem z_tin (C : zC p s m args c cc nL own D A cs tt) {a dflt lo hi off : Int} {offs : Array Int} {len tgt : Nat} (hdg : decode cc pc = .ok (.tableswitch dflt lo hi offs, len)) (ha : -2147483648 ≤ a ∧ a ≤ 2147483647) (h1 : lo ≤ a) (h2 : a ≤ hi) (ho : offs[(a - lo).toNat]? = some off) (ht : (pc : Int) + off = (tgt : Int)) (kk : zV p l e R s m args below meth c Q D A nL N ad g k n (tgt) (lv) (rest)) : zV p l e R s m args below meth c Q D A nL N ad g k n (pc) (lv) (.int (zI a) :: rest) := fun H locs ls hP hD hS hl => lv_tableIn C.1 C.2.1 hdg (by rw [zI_to ha]; omega) (by rw [zI_to ha]; omega) (by rw [zI_to ha]; exact ho) ht (kk H locs ls hP hD hS hl)
theorem z_tout (C : zC p s m args c cc nL own D A cs tt) {a dflt lo hi : Int} {offs : Array Int} {len tgt : Nat} (hdg : decode cc pc = .ok (.tableswitch dflt lo hi offs, len)) (ha : -2147483648 ≤ a ∧ a ≤ 2147483647) (h1 : a < lo ∨ hi < a) (ht : (pc : Int) + dflt = (tgt : Int)) (kk : zV p l e R s m args below meth c Q D A nL N ad g k n (tgt) (lv) (rest)) : zV p l e R s m args below meth c Q D A nL N ad g k n (pc) (lv) (.int (zI a) :: rest) := fun H locs ls hP hD hS hl => lv_tableOut C.1 C.2.1 hdg (by rw [zI_to ha]; exact h1) ht (kk H locs ls hP hD hS hl)
theorem z_get (C : zC p s m args c cc nL own D A cs tt) {i a : Nat} (hi : i < N) (ha : ad i = a) {ci : Nat} {fs : List Value} (hg : g i = oC ci fs) {Cn ref : String} {T : u_T} {M index : Nat} (hc : vwCl[ci]? = some (Cn, T, M)) (hin : ∀ w ∈ u_ws Cn T M, w ∈ AW) (f : Nat) (hk : f < M) (hw : Cond.fieldLink own index ref (T f).2.1 (T f).2.2.1 ∈ AW) (hr : (T f).1 = ref) {v : Value} (hv : fs[f]? = some v) (hdg : decode cc pc = .ok (.getfield index, 3)) (kk : zV p l e R s m args below meth c Q D A nL N ad g k n (pc + 3) (lv) (v :: rest)) : zV p l e R s m args below meth c Q D A nL N ad g k n (pc) (lv) (.ref a :: rest) := fun H locs ls hP hD hS hl => va_get C.1 C.2.1 C.2.2.2.2.1 hin C.2.2.2.1 C.2.2.2.2.2.1 hP i ((wl_at hi).trans (by rw [hg, ha])) hc f hk (C.2.2.2.2.1 _ hw) (fun x h => by rw [← hr]; exact h) hv hdg (kk H locs ls hP hD hS hl)
theorem z_put (C : zC p s m args c cc nL own D A cs tt) {i a : Nat} (hi : i < N) (ha : ad i = a) {ci : Nat} {fs fs' : List Value} (hg : g i = oC ci fs) {Cn ref : String} {T : u_T} {M index : Nat} (ty0 : Nat → FieldType) (hty : ∀ k, k < M → parseFieldDescriptor (T k).2.2.1 = some (ty0 k)) (hnm : ∀ a, a < M → ∀ b, b < M → a ≠ b → (T a).2.1 ≠ (T b).2.1) (hc : vwCl[ci]? = some (Cn, T, M)) (hin : ∀ w ∈ u_ws Cn T M, w ∈ AW) (f : Nat) (hk : f < M) (hw : Cond.fieldLink own index ref (T f).2.1 (T f).2.2.1 ∈ AW) (hr : (T f).1 = ref) (hfin : (T f).2.2.2 = false) {v : Value} (hn : narrow (ty0 f) v = v) (hfit : fits (ty0 f) v = true) (hl0 : f < fs.length) (hfs : fs.set f v = fs') (hdg : decode cc pc = .ok (.putfield index, 3)) (kk : ∀ g' : Nat → va_E, g' = va_up g i (oC ci fs') → zV p l e R s m args below meth c Q D A nL N ad g' k n (pc + 3) (lv) (rest)) : zV p l e R s m args below meth c Q D A nL N ad g k n (pc) (lv) (v :: .ref a :: rest) := fun H locs ls hP hD hS hl => va_put C.1 C.2.1 C.2.2.2.2.1 hin ty0 hty hnm C.2.2.2.1 C.2.2.2.2.2.1 hP hD hS i ((wl_at hi).trans (by rw [hg, ha])) hc f hk (C.2.2.2.2.1 _ hw) (fun x h => by rw [← hr]; exact h) hfin (hty f hk) hn hfit hl0 hdg (fun H1 locs1 hP1 hD1 hS1 => by subst hfs; subst ha; rw [wl_set] at hP1 hD1; exact kk _ rfl H1 locs1 ls hP1 hD1 hS1 hl)
theorem z_putF (C : zC p s m args c cc nL own D A cs tt) {i a : Nat} (hi : i < N) (ha : ad i = a) {ci : Nat} {fs fs' : List Value} (hg : g i = oC ci fs) {Cn ref : String} {T : u_T} {M index : Nat} (ty0 : Nat → FieldType) (hty : ∀ k, k < M → parseFieldDescriptor (T k).2.2.1 = some (ty0 k)) (hnm : ∀ a, a < M → ∀ b, b < M → a ≠ b → (T a).2.1 ≠ (T b).2.1) (hc : vwCl[ci]? = some (Cn, T, M)) (hin : ∀ w ∈ u_ws Cn T M, w ∈ AW) (f : Nat) (hk : f < M) (hw : Cond.fieldLink own index ref (T f).2.1 (T f).2.2.1 ∈ AW) (hr : (T f).1 = ref) (hfin : (T f).2.2.2 = true) (hin2 : meth.name = "<init>") (hdecl : (T f).1 = own) {v : Value} (hn : narrow (ty0 f) v = v) (hfit : fits (ty0 f) v = true) (hl0 : f < fs.length) (hfs : fs.set f v = fs') (hdg : decode cc pc = .ok (.putfield index, 3)) (kk : ∀ g' : Nat → va_E, g' = va_up g i (oC ci fs') → zV p l e R s m args below meth c Q D A nL N ad g' k n (pc + 3) (lv) (rest)) : zV p l e R s m args below meth c Q D A nL N ad g k n (pc) (lv) (v :: .ref a :: rest) := fun H locs ls hP hD hS hl => va_putF C.1 C.2.1 C.2.2.2.2.1 hin ty0 hty hnm C.2.2.2.1 C.2.2.2.2.2.1 hP hD hS i ((wl_at hi).trans (by rw [hg, ha])) hc f hk (C.2.2.2.2.1 _ hw) (fun x h => by rw [← hr]; exact h) hfin hin2 hdecl (hty f hk) hn hfit hl0 hdg (fun H1 locs1 hP1 hD1 hS1 => by subst hfs; subst ha; rw [wl_set] at hP1 hD1; exact kk _ rfl H1 locs1 ls hP1 hD1 hS1 hl)
theorem z_alen (C : zC p s m args c cc nL own D A cs tt) {i a : Nat} (hi : i < N) (ha : ad i = a) {cA : ClassId} {x : vp_A} (hg : g i = .inl (cA, x)) (t : Nat) {ty : FieldType} (ht : (tyL cs)[t]? = some (cA, ty)) {z : Int} (hz : (x.1 : Int) = z) (hdg : decode cc pc = .ok (.arraylength, 1)) (kk : zV p l e R s m args below meth c Q D A nL N ad g k n (pc + 1) (lv) (.int (zI z) :: rest)) : zV p l e R s m args below meth c Q D A nL N ad g k n (pc) (lv) (.ref a :: rest) := fun H locs ls hP hD hS hl => va_alen C.1 C.2.1 C.2.2.2.2.2.1 hP i t ((wl_at hi).trans (by rw [hg, ha])) ht (by rw [← hz]; exact zI_nat x.1) hdg (kk H locs ls hP hD hS hl)
theorem z_iald (C : zC p s m args c cc nL own D A cs tt) {i a : Nat} (hi : i < N) (ha : ad i = a) {M : Nat} {r : Nat → Int} (hg : g i = iA cs M r) (j : Nat) {z : Int} (hz : z = (j : Int)) (hj : j < M) (hM : M ≤ 2147483647) (hdg : decode cc pc = .ok (.iaload, 1)) (kk : zV p l e R s m args below meth c Q D A nL N ad g k n (pc + 1) (lv) (.int (zI (r j)) :: rest)) : zV p l e R s m args below meth c Q D A nL N ad g k n (pc) (lv) (.int (zI z) :: .ref a :: rest) := by
  subst hz; subst ha
  exact fun H locs ls hP hD hS hl => va_iald C.1 C.2.1 C.2.2.2.2.2.1 hP i 1 ((wl_at hi).trans (by rw [hg])) rfl (zI_in hj hM) hdg (by rw [zI_clN (by omega)]; exact kk H locs ls hP hD hS hl)
theorem z_bald (C : zC p s m args c cc nL own D A cs tt) {i a : Nat} (hi : i < N) (ha : ad i = a) {M : Nat} {r : Nat → Int} (hg : g i = bA cs M r) (j : Nat) {z : Int} (hz : z = (j : Int)) (hj : j < M) (hM : M ≤ 2147483647) (hdg : decode cc pc = .ok (.baload, 1)) (kk : zV p l e R s m args below meth c Q D A nL N ad g k n (pc + 1) (lv) (.int (zI (r j)) :: rest)) : zV p l e R s m args below meth c Q D A nL N ad g k n (pc) (lv) (.int (zI z) :: .ref a :: rest) := by
  subst hz; subst ha
  exact fun H locs ls hP hD hS hl => va_bald C.1 C.2.1 C.2.2.2.2.2.1 hP i 0 ((wl_at hi).trans (by rw [hg])) rfl (zI_in hj hM) hdg (by rw [zI_clN (by omega)]; exact kk H locs ls hP hD hS hl)
theorem z_lald (C : zC p s m args c cc nL own D A cs tt) {i a : Nat} (hi : i < N) (ha : ad i = a) {M : Nat} {r : Nat → Int} (hg : g i = jA cs M r) (j : Nat) {z : Int} (hz : z = (j : Int)) (hj : j < M) (hM : M ≤ 2147483647) (hdg : decode cc pc = .ok (.laload, 1)) (kk : zV p l e R s m args below meth c Q D A nL N ad g k n (pc + 1) (lv) (.long (zJ (r j)) :: rest)) : zV p l e R s m args below meth c Q D A nL N ad g k n (pc) (lv) (.int (zI z) :: .ref a :: rest) := by
  subst hz; subst ha
  exact fun H locs ls hP hD hS hl => va_lald C.1 C.2.1 C.2.2.2.2.2.1 hP i 2 ((wl_at hi).trans (by rw [hg])) rfl (zI_in hj hM) hdg (by rw [zI_clN (by omega)]; exact kk H locs ls hP hD hS hl)
theorem z_iast (C : zC p s m args c cc nL own D A cs tt) {i a : Nat} (hi : i < N) (ha : ad i = a) {M : Nat} {r : Nat → Int} (hg : g i = iA cs M r) (j : Nat) {z x : Int} (hz : z = (j : Int)) (hj : j < M) (hM : M ≤ 2147483647) (hdg : decode cc pc = .ok (.iastore, 1)) (kk : ∀ g' : Nat → va_E, g' = va_up g i (iA cs M (uZ r j x)) → zV p l e R s m args below meth c Q D A nL N ad g' k n (pc + 1) (lv) (rest)) : zV p l e R s m args below meth c Q D A nL N ad g k n (pc) (lv) (.int (zI x) :: .int (zI z) :: .ref a :: rest) := by
  subst hz; subst ha
  exact fun H locs ls hP hD hS hl => va_iast C.1 C.2.1 C.2.2.2.2.2.1 hP hD hS i 1 ((wl_at hi).trans (by rw [hg])) rfl (zI_in hj hM) hdg (fun H1 locs1 hP1 hD1 hS1 => by rw [zI_clN (by omega), uZ_upd, wl_set] at hP1 hD1; exact kk _ rfl H1 locs1 ls hP1 hD1 hS1 hl)
theorem z_bast (C : zC p s m args c cc nL own D A cs tt) {i a : Nat} (hi : i < N) (ha : ad i = a) {M : Nat} {r : Nat → Int} (hg : g i = bA cs M r) (j : Nat) {z x : Int} (hz : z = (j : Int)) (hj : j < M) (hM : M ≤ 2147483647) (hb : -128 ≤ x ∧ x ≤ 127) (hdg : decode cc pc = .ok (.bastore, 1)) (kk : ∀ g' : Nat → va_E, g' = va_up g i (bA cs M (uZ r j x)) → zV p l e R s m args below meth c Q D A nL N ad g' k n (pc + 1) (lv) (rest)) : zV p l e R s m args below meth c Q D A nL N ad g k n (pc) (lv) (.int (zI x) :: .int (zI z) :: .ref a :: rest) := by
  subst hz; subst ha
  exact fun H locs ls hP hD hS hl => va_bast C.1 C.2.1 C.2.2.2.2.2.1 hP hD hS i 0 ((wl_at hi).trans (by rw [hg])) rfl (zI_in hj hM) hdg (fun H1 locs1 hP1 hD1 hS1 => by rw [vp_nar_byte, zI_b8 hb] at hP1 hD1; rw [zI_clN (by omega), uZ_upd, wl_set] at hP1 hD1; exact kk _ rfl H1 locs1 ls hP1 hD1 hS1 hl)
theorem z_last (C : zC p s m args c cc nL own D A cs tt) {i a : Nat} (hi : i < N) (ha : ad i = a) {M : Nat} {r : Nat → Int} (hg : g i = jA cs M r) (j : Nat) {z x : Int} (hz : z = (j : Int)) (hj : j < M) (hM : M ≤ 2147483647) (hdg : decode cc pc = .ok (.lastore, 1)) (kk : ∀ g' : Nat → va_E, g' = va_up g i (jA cs M (uZ r j x)) → zV p l e R s m args below meth c Q D A nL N ad g' k n (pc + 1) (lv) (rest)) : zV p l e R s m args below meth c Q D A nL N ad g k n (pc) (lv) (.long (zJ x) :: .int (zI z) :: .ref a :: rest) := by
  subst hz; subst ha
  exact fun H locs ls hP hD hS hl => va_last C.1 C.2.1 C.2.2.2.2.2.1 hP hD hS i 2 ((wl_at hi).trans (by rw [hg])) rfl (zI_in hj hM) hdg (fun H1 locs1 hP1 hD1 hS1 => by rw [zI_clN (by omega), uZ_updL, wl_set] at hP1 hD1; exact kk _ rfl H1 locs1 ls hP1 hD1 hS1 hl)
theorem z_aald (C : zC p s m args c cc nL own D A cs tt) {i a : Nat} (hi : i < N) (ha : ad i = a) {cA : ClassId} {Cn : String} {M : Nat} {r : Nat → Option Nat} (hg : g i = rA cA M r) (t : Nat) (ht : (tyL cs)[t]? = some (cA, .object Cn)) (j : Nat) {z : Int} (hz : z = (j : Int)) (hj : j < M) (hM : M ≤ 2147483647) {v : Nat} (hv : r j = some v) (hdg : decode cc pc = .ok (.aaload, 1)) (kk : zV p l e R s m args below meth c Q D A nL N ad g k n (pc + 1) (lv) (.ref v :: rest)) : zV p l e R s m args below meth c Q D A nL N ad g k n (pc) (lv) (.int (zI z) :: .ref a :: rest) := by
  subst hz; subst ha
  exact fun H locs ls hP hD hS hl => va_aldq C.1 C.2.1 C.2.2.2.2.2.1 hP i t ((wl_at hi).trans (by rw [hg])) ht (zI_in hj hM) hdg (by rw [zI_clN (by omega), hv]; exact kk H locs ls hP hD hS hl)
theorem z_aast (C : zC p s m args c cc nL own D A cs tt) {i a a2 : Nat} (hi : i < N) (ha : ad i = a) {cA : ClassId} {q : vw_C} {M : Nat} {r : Nat → Option Nat} (hg : g i = rA cA M r) (t : Nat) (ht : (tyL cs)[t]? = some (cA, .object q.1)) {i2 ci : Nat} {fs : List Value} (hi2 : i2 < N) (ha2 : ad i2 = a2) (hg2 : g i2 = oC ci fs) (hc : vwCl[ci]? = some q) (j : Nat) {z : Int} (hz : z = (j : Int)) (hj : j < M) (hM : M ≤ 2147483647) (hdg : decode cc pc = .ok (.aastore, 1)) (kk : ∀ g' : Nat → va_E, g' = va_up g i (rA cA M (va_up r j (some a2))) → zV p l e R s m args below meth c Q D A nL N ad g' k n (pc + 1) (lv) (rest)) : zV p l e R s m args below meth c Q D A nL N ad g k n (pc) (lv) (.ref a2 :: .int (zI z) :: .ref a :: rest) := by
  subst hz; subst ha; subst ha2
  exact fun H locs ls hP hD hS hl => va_astq C.1 C.2.1 C.2.2.2.2.2.1 hP hD hS i t i2 ci ((wl_at hi).trans (by rw [hg])) ht ((wl_at hi2).trans (by rw [hg2])) hc (zI_in hj hM) hdg (fun H1 locs1 hP1 hD1 hS1 => by rw [zI_clN (by omega), wl_set] at hP1 hD1; exact kk _ rfl H1 locs1 ls hP1 hD1 hS1 hl)
theorem z_new (C : zC p s m args c cc nL own D A cs tt) {Cn : String} {T : u_T} {M ci index : Nat} (ty : Nat → FieldType) (hty : ∀ k, k < M → parseFieldDescriptor (T k).2.2.1 = some (ty k)) (hc : vwCl[ci]? = some (Cn, T, M)) (hin : ∀ w ∈ u_ws Cn T M, w ∈ AW) (hw1 : Cond.classLink own index Cn ∈ AW) (hw2 : Cond.instantiable Cn M ∈ AW) (hw3 : Cond.initialized Cn ∈ AW) {fs : List Value} (hfs : ∀ j, j < M → defaultValue (ty j) = vp_V fs j) (hcells : k + 1 ≤ R.cells) (hslots : n + M ≤ R.slots) (hdg : decode cc pc = .ok (.new index, 3)) (kk : ∀ (q : Nat) (ad' : Nat → Nat) (g' : Nat → va_E), ad' = va_up ad N q → g' = va_up g N (oC ci fs) → zV p l e R s m args below meth c Q D A nL (N + 1) ad' g' (k + 1) (n + M) (pc + 3) (lv) (.ref q :: rest)) : zV p l e R s m args below meth c Q D A nL N ad g k n (pc) (lv) (rest) := fun H locs ls hP hD hS hl => va_new C.1 C.2.1 C.2.2.2.2.1 hin ty hty C.2.2.2.1 (C.2.2.2.2.1 _ hw1) (C.2.2.2.2.1 _ hw2) (C.2.2.2.2.1 _ hw3) C.2.2.2.2.2.1 hP hD hS C.2.2.2.2.2.2.2.1 hc hfs hcells hslots hdg (fun q H1 hP1 hD1 hS1 => by rw [wl_push] at hP1 hD1; exact kk q _ _ rfl rfl H1 locs ls hP1 hD1 hS1 hl)
end ZV
end
section
/-! ===== contracts ===== -/
abbrev zR : Type := Option Value → Nat → (Nat → Nat) → (Nat → va_E) → Prop
def zPre (D : va_G) (A : Nat → Prop) (cs : Nat → ClassId) (tt : Nat) (N : Nat) (ad : Nat → Nat) (g : Nat → va_E) (avs : List Value) : Array Value → State → Prop := fun v U => v = avs.toArray ∧ zE D A cs tt U ∧ va_P D vwCl (wl N ad g) U.heap ∧ va_D A (wl N ad g)
def zPost (D : va_G) (A : Nat → Prop) (Qr : zR) : Array Value → State → Outcome → State → Prop := fun _ st oc t => ∃ (r : Option Value) (N' : Nat) (ad' : Nat → Nat) (g' : Nat → va_E), oc = .returned r ∧ Qr r N' ad' g' ∧ va_P D vwCl (wl N' ad' g') t.heap ∧ va_D A (wl N' ad' g') ∧ va_F A st t
def zM (l : Launch) (y : MethodName) (cc : ByteArray) (mL : Nat) (ret : Option FieldType) (rm : Room) (D : va_G) (A : Nat → Prop) (cs : Nat → ClassId) (tt : Nat) (N : Nat) (ad : Nat → Nat) (g : Nat → va_E) (avs : List Value) (Qr : zR) : Prop := Met l y (.code y cc mL ret :: AW) rm (zPre D A cs tt N ad g avs) (zPost D A Qr) rm.cells rm.slots A
abbrev rI (Qz : Int → Nat → (Nat → Nat) → (Nat → va_E) → Prop) : zR := fun r N' ad' g' => ∃ z : Int, r = some (.int (zI z)) ∧ Qz z N' ad' g'
abbrev rV (Qz : Nat → (Nat → Nat) → (Nat → va_E) → Prop) : zR := fun r N' ad' g' => r = none ∧ Qz N' ad' g'
abbrev rR (Qz : Nat → Nat → (Nat → Nat) → (Nat → va_E) → Prop) : zR := fun r N' ad' g' => ∃ a : Nat, r = some (.ref a) ∧ Qz a N' ad' g'
abbrev rI0 (N : Nat) (ad : Nat → Nat) (Qz : Int → (Nat → va_E) → Prop) : zR := rI (fun z N' ad' g' => N' = N ∧ ad' = ad ∧ Qz z g')
abbrev rV0 (N : Nat) (ad : Nat → Nat) (Qz : (Nat → va_E) → Prop) : zR := rV (fun N' ad' g' => N' = N ∧ ad' = ad ∧ Qz g')
abbrev rR0 (N : Nat) (ad : Nat → Nat) (Qz : Nat → (Nat → va_E) → Prop) : zR := rR (fun a N' ad' g' => N' = N ∧ ad' = ad ∧ Qz a g')
theorem zPre.blind {D : va_G} {A : Nat → Prop} {cs : Nat → ClassId} {tt N : Nat} {ad : Nat → Nat} {g : Nat → va_E} {avs : List Value} : FrameBlind (zPre D A cs tt N ad g avs) := fun _ _ _ _ h => ⟨h.1, h.2.1.calling, h.2.2.1, h.2.2.2⟩
theorem z_of {l : Launch} {y : MethodName} {cc : ByteArray} {mL : Nat} {ret : Option FieldType} {rm : Room} {D : va_G} {A : Nat → Prop} {cs : Nat → ClassId} {tt N : Nat} {ad : Nat → Nat} {g : Nat → va_E} {avs : List Value} {Qr : zR} (hy : plainName y.cls = true) (hlen : (lg_sl avs).length ≤ mL)
    (body : ∀ (p : Program) (e : Env) (s : State) (m : MethodId) (below : List Frame) (meth : Method) (c : Code), zC p s m avs.toArray c cc mL y.cls D A cs tt → meth.sig.returnType = ret → meth.locks = false → meth.name = y.name →
      zV p l e rm s m avs.toArray below meth c (MQ below (zPost D A Qr) avs.toArray s rm.cells rm.slots A) D A mL N ad g 0 0 0 (lv_args 0 avs) []) : zM l y cc mL ret rm D A cs tt N ad g avs Qr := by
  refine Met.ofW (cc := cc) (maxL := mL) (ret := ret) hy rfl ?_
  intro p e s m args below meth c s₁ B hml hv
  obtain ⟨rfl, hE, hP, hD⟩ := hv
  have hts := atoms_spec (ws := Cond.code y cc mL ret :: AW) B.pre
  have hl := lv_entry avs (n := mL) hlen
  rw [lg_entry_eq]
  exact body p e s m below meth c ⟨B.exec, B.bytes, hml, findClass_of_methodNamed B.named, fun w h => hts w (List.mem_cons_of_mem _ h), hE⟩ B.returns B.notSynchronized (name_of_methodNamed B.named B.method).1 s.heap [] _ hP hD va_S.rf hl
def zWv (y : MethodName) (cb : ByteArray) (mL : Nat) (ret : Option FieldType) : Prop := Cond.instanceMethod y ∈ AW ∧ Cond.selects y.cls y y ∈ AW ∧ Cond.initialized y.cls ∈ AW ∧ Cond.code y cb mL ret ∈ AW
def zWs (y : MethodName) (cb : ByteArray) (mL : Nat) (ret : Option FieldType) : Prop := Cond.static y ∈ AW ∧ Cond.initialized y.cls ∈ AW ∧ Cond.code y cb mL ret ∈ AW
def zWi (y : MethodName) (cb : ByteArray) (mL : Nat) : Prop := Cond.instanceMethod y ∈ AW ∧ Cond.initialized y.cls ∈ AW ∧ Cond.code y cb mL none ∈ AW
section ZM
variable {p : Program} {l : Launch} {e : Env} {R : Room} {s : State} {m : MethodId} {args : Array Value} {below : List Frame} {meth : Method} {c : Code} {Q : State → Prop} {D : va_G} {A : Nat → Prop} {cs : Nat → ClassId} {tt : Nat} {cc : ByteArray} {nL : Nat} {own : String} {N : Nat} {ad : Nat → Nat} {g : Nat → va_E} {k n pc : Nat} {lv lv' : List (Nat × Value)} {rest st : List Value} {Qr : zR} {mc ms : Nat}
theorem z_iret (C : zC p s m args c cc nL own D A cs tt) {z : Int} (hr : meth.sig.returnType = some .int) (hlocks : meth.locks = false) (hdg : decode cc pc = .ok (.ireturn, 1)) (hk : k ≤ mc) (hn : n ≤ ms) (hq : Qr (some (.int (zI z))) N ad g) : zV p l e R s m args below meth c (MQ below (zPost D A Qr) args s mc ms A) D A nL N ad g k n (pc) (lv) ([.int (zI z)]) := fun H locs ls hP hD hS hl => W.widen hk hn (W.iret C.1 C.2.1 hr (fun t ht hW => ⟨_, _, _, _, rfl, hq, by rw [ht]; exact hP, hD, hS.F ht⟩) hS.2.2 hdg hlocks)
theorem z_zret (C : zC p s m args c cc nL own D A cs tt) {z : Int} {ty : FieldType} (hr : meth.sig.returnType = some ty) (hlocks : meth.locks = false) (hdg : decode cc pc = .ok (.ireturn, 1)) (hnz : narrow ty (.int (zI z)) = .int (zI z)) (hk : k ≤ mc) (hn : n ≤ ms) (hq : Qr (some (.int (zI z))) N ad g) : zV p l e R s m args below meth c (MQ below (zPost D A Qr) args s mc ms A) D A nL N ad g k n (pc) (lv) ([.int (zI z)]) := fun H locs ls hP hD hS hl => W.widen hk hn (W.zret C.1 C.2.1 hr hnz (fun t ht hW => ⟨_, _, _, _, rfl, hq, by rw [ht]; exact hP, hD, hS.F ht⟩) hS.2.2 hdg hlocks)
theorem z_vret (C : zC p s m args c cc nL own D A cs tt) (hr : meth.sig.returnType = none) (hlocks : meth.locks = false) (hdg : decode cc pc = .ok (.return_, 1)) (hk : k ≤ mc) (hn : n ≤ ms) (hq : Qr none N ad g) : zV p l e R s m args below meth c (MQ below (zPost D A Qr) args s mc ms A) D A nL N ad g k n (pc) (lv) ([]) := fun H locs ls hP hD hS hl => W.widen hk hn (W.vret C.1 C.2.1 hr (fun t ht hW => ⟨_, _, _, _, rfl, hq, by rw [ht]; exact hP, hD, hS.F ht⟩) hS.2.2 hdg hlocks)
theorem z_aret (C : zC p s m args c cc nL own D A cs tt) {a : Nat} {rt : FieldType} (hr : meth.sig.returnType = some rt) (hrt : (∃ n, rt = .object n) ∨ ∃ t, rt = .array t) (hlocks : meth.locks = false) (hdg : decode cc pc = .ok (.areturn, 1)) (hk : k ≤ mc) (hn : n ≤ ms) (hq : Qr (some (.ref a)) N ad g) : zV p l e R s m args below meth c (MQ below (zPost D A Qr) args s mc ms A) D A nL N ad g k n (pc) (lv) ([.ref a]) := fun H locs ls hP hD hS hl => W.widen hk hn (W.aret C.1 C.2.1 hr hrt (Or.inr ⟨a, rfl⟩) (fun t ht hW => ⟨_, _, _, _, rfl, hq, by rw [ht]; exact hP, hD, hS.F ht⟩) hS.2.2 hdg hlocks)
theorem z_widen {k2 n2 : Nat} (hk : k ≤ k2) (hn : n ≤ n2) (kk : zV p l e R s m args below meth c Q D A nL N ad g k2 n2 (pc) (lv) (st)) : zV p l e R s m args below meth c Q D A nL N ad g k n (pc) (lv) (st) := fun H locs ls hP hD hS hl => W.widen hk hn (kk H locs ls hP hD hS hl)
theorem z_lv (ks : List Nat) (h : lv_pick lv ks = lv') (kk : zV p l e R s m args below meth c Q D A nL N ad g k n (pc) (lv') (st)) : zV p l e R s m args below meth c Q D A nL N ad g k n (pc) (lv) (st) := fun H locs ls hP hD hS hl => kk H locs ls hP hD hS (lv_sub hl ks h)
theorem z_objInit (C : zC p s m args c cc nL own D A cs tt) {v : Nat} {idx : Nat} (hlk : Cond.methodLink own idx Lib.objectInit ∈ AW) (hw : Cond.instanceMethod Lib.objectInit ∈ AW) (hcd : Cond.code Lib.objectInit ⟨#[0xb1]⟩ 1 none ∈ AW) (hd : decode cc pc = .ok (.invokespecial idx, 3)) (hframes : 1 ≤ R.frames) (hlocals : (rest.map fun v => v.category).sum + 12 ≤ R.locals) (kk : zV p l e R s m args below meth c Q D A nL N ad g k n (pc + 3) (lv) (rest)) : zV p l e R s m args below meth c Q D A nL N ad g k n (pc) (lv) (.ref v :: rest) := fun H locs ls hP hD hS hl => W.objInit C.1 C.2.1 C.2.2.2.1 (C.2.2.2.2.1 _ hlk) (C.2.2.2.2.1 _ hw) (C.2.2.2.2.1 _ hcd) rfl (by rw [C.2.2.1]; exact hl.1) rfl hd hframes (by show 2 * 0 + _ + 12 ≤ _; omega) (kk H locs ls hP hD hS hl)
theorem z_run {As : Array Value} {H : Heap} {locs : List Loc} {ls : Array Slot} {rm : Room} (hr : va_Run p l e R s m args below meth c H locs k n rm.cells rm.slots (F0 m pc ls st) rest (zPost D A Qr As) A) (hS : va_S A s.heap H locs) (hl : lv_has ls nL lv)
    (kk : ∀ (r : Option Value) (N' : Nat) (ad' : Nat → Nat) (g' : Nat → va_E), Qr r N' ad' g' → zV p l e R s m args below meth c Q D A nL N' ad' g' (k + rm.cells) (n + rm.slots) (pc + 3) (lv) (r.toList ++ rest)) : W p l e R s m args below meth c H locs k n Q (F0 m pc ls st) := by
  intro T hT X
  obtain ⟨v, st₀, t, T', L, h0, X', hL, e1, e2, ⟨r, N', ad', g', hv, hq, hP, hD, hz, hk⟩, st9⟩ := hr T hT X
  cases hv
  rw [h0] at hz hk
  obtain ⟨t2, a1, b1⟩ := kk v N' ad' g' hq T'.heap (locs ++ L) ls (by rw [e1]; exact hP) hD ⟨Nat.le_trans hS.1 (by rw [e1]; exact hz), fun q h1 h2 => by rw [e1, hk q (Nat.lt_of_lt_of_le h1 hS.1) h2]; exact hS.2.1 q h1 h2, fun q hq => by
      rcases List.mem_append.mp hq with h | h
      · exact hS.2.2 q h
      · exact hL q h⟩ hl T' rfl X'
  exact ⟨t2, st9 t2 a1, b1⟩
theorem z_preS {avs : List Value} {H : Heap} {locs : List Loc} (C : zC p s m args c cc nL own D A cs tt) (hP : va_P D vwCl (wl N ad g) H) (hD : va_D A (wl N ad g)) (hS : va_S A s.heap H locs) : PreS s H (zPre D A cs tt N ad g avs) avs :=
  ⟨zPre.blind, fun U hU hW => ⟨rfl, C.2.2.2.2.2.next hS hU hW, by rw [hU]; exact hP, hD⟩⟩
theorem z_cV (C : zC p s m args c cc nL own D A cs tt) {y : MethodName} {cb : ByteArray} {mL index : Nat} {ret : Option FieldType} {rm : Room} {As : List Value} {i a ci : Nat} {fs : List Value} {q : vw_C} (hM : zM l y cb mL ret rm D A cs tt N ad g (.ref a :: As) Qr) (hi : i < N) (ha : ad i = a) (hg : g i = oC ci fs) (hc : vwCl[ci]? = some q) (hq : q.1 = y.cls) (hw : zWv y cb mL ret) (hlk : Cond.methodLink own index y ∈ AW) (hd : y.cls ≠ "java/lang/invoke/MethodHandle" ∧ y.cls ≠ "java/lang/invoke/VarHandle" ∧ (parseMethodDescriptor y.desc).map (fun d => d.parameters.length) = some As.length) (hR : rm.frames + 1 ≤ R.frames ∧ 8 + (mL + 11) + rm.locals ≤ R.locals) (hrest : (rest.map fun v => v.category).sum ≤ 8) (hf : k + rm.cells ≤ R.cells ∧ n + rm.slots ≤ R.slots) (hdg : decode cc pc = .ok (.invokevirtual index, 3)) (hst : st = As.reverse ++ .ref a :: rest)
    (kk : ∀ (r : Option Value) (N' : Nat) (ad' : Nat → Nat) (g' : Nat → va_E), Qr r N' ad' g' → zV p l e R s m args below meth c Q D A nL N' ad' g' (k + rm.cells) (n + rm.slots) (pc + 3) (lv) (r.toList ++ rest)) : zV p l e R s m args below meth c Q D A nL N ad g k n (pc) (lv) (st) := fun H locs ls hP hD hS hl => by
  have hG : GoodIn AW (wsV own index y.cls y (Cond.code y cb mL ret :: AW)) := AW_in (fun w h => by
    rcases List.mem_append.mp h with h | h
    · rcases List.mem_cons.mp h with rfl | h
      · exact hlk
      · rcases List.mem_cons.mp h with rfl | h
        · exact hw.1
        · rcases List.mem_cons.mp h with rfl | h
          · exact hw.2.1
          · rcases List.mem_cons.mp h with rfl | h
            · exact hw.2.2.1
            · exact absurd h List.not_mem_nil
    · rcases List.mem_cons.mp h with rfl | h
      · exact hw.2.2.2
      · exact h)
  have hrc : ∃ cell : Cell, H[a]? = some cell ∧ cell.vm.isStatics = false ∧ s.vm.findClass y.cls = some cell.cls := by
    rw [← hq]; exact va_recv C.2.2.2.2.2.1 hP hc ((wl_at hi).trans (by rw [hg, ha]))
  exact z_run (va_runV (As := As) (rest := rest) ⟨C.1, C.2.1, C.2.2.1, C.2.2.2.1, C.2.2.2.2.1⟩ hM (cwV As.length C.2.2.2.2.1 hG rfl rfl rfl ⟨rfl, hd⟩ hR) ⟨zPre.blind, hrc, (z_preS C hP hD hS).2⟩ rfl rfl hl.1 hst (lv_room hrest) hdg hf) hS hl kk
theorem z_cS (C : zC p s m args c cc nL own D A cs tt) {y : MethodName} {cb : ByteArray} {mL index : Nat} {ret : Option FieldType} {rm : Room} {As : List Value} (hM : zM l y cb mL ret rm D A cs tt N ad g As Qr) (hw : zWs y cb mL ret) (hlk : Cond.methodLink own index y ∈ AW) (hd : y.cls ≠ "java/lang/invoke/MethodHandle" ∧ y.cls ≠ "java/lang/invoke/VarHandle" ∧ (parseMethodDescriptor y.desc).map (fun d => d.parameters.length) = some As.length) (hR : rm.frames + 1 ≤ R.frames ∧ 8 + (mL + 11) + rm.locals ≤ R.locals) (hrest : (rest.map fun v => v.category).sum ≤ 8) (hf : k + rm.cells ≤ R.cells ∧ n + rm.slots ≤ R.slots) (hdg : decode cc pc = .ok (.invokestatic index, 3)) (hst : st = As.reverse ++ rest)
    (kk : ∀ (r : Option Value) (N' : Nat) (ad' : Nat → Nat) (g' : Nat → va_E), Qr r N' ad' g' → zV p l e R s m args below meth c Q D A nL N' ad' g' (k + rm.cells) (n + rm.slots) (pc + 3) (lv) (r.toList ++ rest)) : zV p l e R s m args below meth c Q D A nL N ad g k n (pc) (lv) (st) := fun H locs ls hP hD hS hl => by
  have hG : GoodIn AW (va_wsS own index y (Cond.code y cb mL ret :: AW)) := AW_in (fun w h => by
    rcases List.mem_append.mp h with h | h
    · rcases List.mem_cons.mp h with rfl | h
      · exact hlk
      · rcases List.mem_cons.mp h with rfl | h
        · exact hw.1
        · rcases List.mem_cons.mp h with rfl | h
          · exact hw.2.1
          · exact absurd h List.not_mem_nil
    · rcases List.mem_cons.mp h with rfl | h
      · exact hw.2.2
      · exact h)
  exact z_run (va_runS (As := As) (rest := rest) ⟨C.1, C.2.1, C.2.2.1, C.2.2.2.1, C.2.2.2.2.1⟩ hM (va_cwS As.length C.2.2.2.2.1 hG rfl rfl rfl hd hR) (z_preS C hP hD hS) rfl rfl hl.1 hst (lv_room hrest) hdg hf) hS hl kk
theorem AW_cons {w0 : Cond} (h0 : w0 ∈ AW) : GoodIn AW (w0 :: AW) := AW_in (fun w h => by
    rcases List.mem_cons.mp h with rfl | h
    · exact h0
    · exact h)
theorem z_cI (C : zC p s m args c cc nL own D A cs tt) {y : MethodName} {cb : ByteArray} {mL index : Nat} {rm : Room} {As : List Value} {b : Nat} (hM : zM l y cb mL none rm D A cs tt N ad g (.ref b :: As) Qr) (hw : zWi y cb mL) (hlk : Cond.methodLink own index y ∈ AW) (hin : y.name = "<init>") (hd : y.cls ≠ "java/lang/invoke/MethodHandle" ∧ y.cls ≠ "java/lang/invoke/VarHandle" ∧ (parseMethodDescriptor y.desc).map (fun d => d.parameters.length) = some As.length) (hR : rm.frames + 1 ≤ R.frames ∧ 8 + (mL + 11) + rm.locals ≤ R.locals) (hrest : (rest.map fun v => v.category).sum ≤ 8) (hf : k + rm.cells ≤ R.cells ∧ n + rm.slots ≤ R.slots) (hdg : decode cc pc = .ok (.invokespecial index, 3)) (hst : st = As.reverse ++ .ref b :: rest)
    (kk : ∀ (r : Option Value) (N' : Nat) (ad' : Nat → Nat) (g' : Nat → va_E), Qr r N' ad' g' → zV p l e R s m args below meth c Q D A nL N' ad' g' (k + rm.cells) (n + rm.slots) (pc + 3) (lv) (r.toList ++ rest)) : zV p l e R s m args below meth c Q D A nL N ad g k n (pc) (lv) (st) := fun H locs ls hP hD hS hl => by
  exact z_run (va_runI (As := As) (rest := rest) ⟨C.1, C.2.1, C.2.2.1, C.2.2.2.1, C.2.2.2.2.1⟩ hM (cwI As.length C.2.2.2.2.1 (AW_cons hw.2.2) rfl rfl rfl (C.2.2.2.2.1 _ hw.2.1) (C.2.2.2.2.1 _ hlk) (C.2.2.2.2.1 _ hw.1) hin hd hR) (z_preS C hP hD hS) rfl rfl hl.1 hst (lv_room hrest) hdg hf) hS hl kk
theorem z_cIN (C : zC p s m args c cc nL own D A cs tt) {y : MethodName} {cb : ByteArray} {mL index : Nat} {rm : Room} {As : List Value} {b : Nat} {host : String} (hM : zM l y cb mL none rm D A cs tt N ad g (.ref b :: As) Qr) (hw : zWi y cb mL) (hlk : Cond.methodLinkNest own index y host ∈ NW) (hin : y.name = "<init>") (hd : y.cls ≠ "java/lang/invoke/MethodHandle" ∧ y.cls ≠ "java/lang/invoke/VarHandle" ∧ (parseMethodDescriptor y.desc).map (fun d => d.parameters.length) = some As.length) (hR : rm.frames + 1 ≤ R.frames ∧ 8 + (mL + 11) + rm.locals ≤ R.locals) (hrest : (rest.map fun v => v.category).sum ≤ 8) (hf : k + rm.cells ≤ R.cells ∧ n + rm.slots ≤ R.slots) (hdg : decode cc pc = .ok (.invokespecial index, 3)) (hst : st = As.reverse ++ .ref b :: rest)
    (kk : ∀ (r : Option Value) (N' : Nat) (ad' : Nat → Nat) (g' : Nat → va_E), Qr r N' ad' g' → zV p l e R s m args below meth c Q D A nL N' ad' g' (k + rm.cells) (n + rm.slots) (pc + 3) (lv) (r.toList ++ rest)) : zV p l e R s m args below meth c Q D A nL N ad g k n (pc) (lv) (st) := fun H locs ls hP hD hS hl => by
  exact z_run (va_runIN (As := As) (rest := rest) ⟨C.1, C.2.1, C.2.2.1, C.2.2.2.1, C.2.2.2.2.1⟩ hM ⟨va_cnB As.length C.2.2.2.2.1 (AW_cons hw.2.2) rfl rfl rfl (C.2.2.2.2.2.2.1 _ hlk) (C.2.2.2.2.1 _ hw.2.1) hd hR, hin, C.2.2.2.2.1 _ hw.1⟩ (z_preS C hP hD hS) rfl rfl hl.1 hst (lv_room hrest) hdg hf) hS hl kk
theorem z_cSN (C : zC p s m args c cc nL own D A cs tt) {y : MethodName} {cb : ByteArray} {mL index : Nat} {ret : Option FieldType} {rm : Room} {As : List Value} {host : String} (hM : zM l y cb mL ret rm D A cs tt N ad g As Qr) (hw : zWs y cb mL ret) (hlk : Cond.methodLinkNest own index y host ∈ NW) (hd : y.cls ≠ "java/lang/invoke/MethodHandle" ∧ y.cls ≠ "java/lang/invoke/VarHandle" ∧ (parseMethodDescriptor y.desc).map (fun d => d.parameters.length) = some As.length) (hR : rm.frames + 1 ≤ R.frames ∧ 8 + (mL + 11) + rm.locals ≤ R.locals) (hrest : (rest.map fun v => v.category).sum ≤ 8) (hf : k + rm.cells ≤ R.cells ∧ n + rm.slots ≤ R.slots) (hdg : decode cc pc = .ok (.invokestatic index, 3)) (hst : st = As.reverse ++ rest)
    (kk : ∀ (r : Option Value) (N' : Nat) (ad' : Nat → Nat) (g' : Nat → va_E), Qr r N' ad' g' → zV p l e R s m args below meth c Q D A nL N' ad' g' (k + rm.cells) (n + rm.slots) (pc + 3) (lv) (r.toList ++ rest)) : zV p l e R s m args below meth c Q D A nL N ad g k n (pc) (lv) (st) := fun H locs ls hP hD hS hl => by
  exact z_run (va_runSN (As := As) (rest := rest) ⟨C.1, C.2.1, C.2.2.1, C.2.2.2.1, C.2.2.2.2.1⟩ hM ⟨va_cnB As.length C.2.2.2.2.1 (AW_cons hw.2.2) rfl rfl rfl (C.2.2.2.2.2.2.1 _ hlk) (C.2.2.2.2.1 _ hw.2.1) hd hR, C.2.2.2.2.1 _ hw.1, trivial⟩ (z_preS C hP hD hS) rfl rfl hl.1 hst (lv_room hrest) hdg hf) hS hl kk
theorem kI {Qz : Int → Nat → (Nat → Nat) → (Nat → va_E) → Prop} (h : ∀ (z : Int) (N' : Nat) (ad' : Nat → Nat) (g' : Nat → va_E), Qz z N' ad' g' → zV p l e R s m args below meth c Q D A nL N' ad' g' k n pc lv (.int (zI z) :: rest)) : ∀ (r : Option Value) (N' : Nat) (ad' : Nat → Nat) (g' : Nat → va_E), rI Qz r N' ad' g' → zV p l e R s m args below meth c Q D A nL N' ad' g' k n pc lv (r.toList ++ rest) := by
  rintro r N' ad' g' ⟨z, rfl, hq⟩
  exact h z N' ad' g' hq
theorem kV {Qz : Nat → (Nat → Nat) → (Nat → va_E) → Prop} (h : ∀ (N' : Nat) (ad' : Nat → Nat) (g' : Nat → va_E), Qz N' ad' g' → zV p l e R s m args below meth c Q D A nL N' ad' g' k n pc lv (rest)) : ∀ (r : Option Value) (N' : Nat) (ad' : Nat → Nat) (g' : Nat → va_E), rV Qz r N' ad' g' → zV p l e R s m args below meth c Q D A nL N' ad' g' k n pc lv (r.toList ++ rest) := by
  rintro r N' ad' g' ⟨rfl, hq⟩
  exact h N' ad' g' hq
theorem kR {Qz : Nat → Nat → (Nat → Nat) → (Nat → va_E) → Prop} (h : ∀ (a : Nat) (N' : Nat) (ad' : Nat → Nat) (g' : Nat → va_E), Qz a N' ad' g' → zV p l e R s m args below meth c Q D A nL N' ad' g' k n pc lv (.ref a :: rest)) : ∀ (r : Option Value) (N' : Nat) (ad' : Nat → Nat) (g' : Nat → va_E), rR Qz r N' ad' g' → zV p l e R s m args below meth c Q D A nL N' ad' g' k n pc lv (r.toList ++ rest) := by
  rintro r N' ad' g' ⟨a, rfl, hq⟩
  exact h a N' ad' g' hq
theorem kI0 {Qz : Int → (Nat → va_E) → Prop} (h : ∀ (z : Int) (g' : Nat → va_E), Qz z g' → zV p l e R s m args below meth c Q D A nL N ad g' k n pc lv (.int (zI z) :: rest)) : ∀ (r : Option Value) (N' : Nat) (ad' : Nat → Nat) (g' : Nat → va_E), rI0 N ad Qz r N' ad' g' → zV p l e R s m args below meth c Q D A nL N' ad' g' k n pc lv (r.toList ++ rest) := by
  rintro r N' ad' g' ⟨z, rfl, rfl, rfl, hq⟩
  exact h z g' hq
theorem kV0 {Qz : (Nat → va_E) → Prop} (h : ∀ (g' : Nat → va_E), Qz g' → zV p l e R s m args below meth c Q D A nL N ad g' k n pc lv (rest)) : ∀ (r : Option Value) (N' : Nat) (ad' : Nat → Nat) (g' : Nat → va_E), rV0 N ad Qz r N' ad' g' → zV p l e R s m args below meth c Q D A nL N' ad' g' k n pc lv (r.toList ++ rest) := by
  rintro r N' ad' g' ⟨rfl, rfl, rfl, hq⟩
  exact h g' hq
theorem kR0 {Qz : Nat → (Nat → va_E) → Prop} (h : ∀ (a : Nat) (g' : Nat → va_E), Qz a g' → zV p l e R s m args below meth c Q D A nL N ad g' k n pc lv (.ref a :: rest)) : ∀ (r : Option Value) (N' : Nat) (ad' : Nat → Nat) (g' : Nat → va_E), rR0 N ad Qz r N' ad' g' → zV p l e R s m args below meth c Q D A nL N' ad' g' k n pc lv (r.toList ++ rest) := by
  rintro r N' ad' g' ⟨a, rfl, rfl, rfl, hq⟩
  exact h a g' hq
end ZM
end
section
theorem zRA_fc {U : State} {cA : ClassId} {ty : FieldType} (h : va_RA U cA ty) : U.vm.findClass ("[" ++ ty.toString) = some cA := by
  cases ty with
  | object Cn => obtain ⟨_, _, _, _, _, h4⟩ := h; exact h4
  | _ => exact h
theorem zK_cls {D : va_G} {cs : Nat → ClassId} {s : State} {cA cB : ClassId} {ty : FieldType} (t : Nat) (ht : (tyL cs)[t]? = some (cB, ty)) (hK : va_K D vwCl (tyL cs ++ [(cA, ty)]) s) : cA = cB := by
  have h1 := zRA_fc (hK.2 (tyL cs).length _ (by rw [List.getElem?_append_right (Nat.le_refl _), Nat.sub_self]; rfl)).2
  have hlt : t < (tyL cs).length := (List.getElem?_eq_some_iff.mp ht).1
  have h2 := zRA_fc (hK.2 t _ (by rw [List.getElem?_append_left hlt]; exact ht)).2
  exact Option.some.inj (h1.symm.trans h2)
section ZA
variable {p : Program} {l : Launch} {e : Env} {R : Room} {s : State} {m : MethodId} {args : Array Value} {below : List Frame} {meth : Method} {c : Code} {Q : State → Prop} {D : va_G} {A : Nat → Prop} {cs : Nat → ClassId} {tt : Nat} {cc : ByteArray} {nL : Nat} {own : String} {N : Nat} {ad : Nat → Nat} {g : Nat → va_E} {k n pc : Nat} {lv lv' : List (Nat × Value)} {rest st : List Value}
theorem z_newI (C : zC p s m args c cc nL own D A cs tt) {z : Int} (M : Nat) (hz : z = (M : Int)) (hw : Cond.arrayClass .int ∈ AW) (hM : M * componentBytes .int ≤ 536870912 ∧ M ≤ 2147483647) (hcells : k + 1 ≤ R.cells) (hslots : n + M ≤ R.slots) (hdg : decode cc pc = .ok (.newarray .int, 2)) (kk : ∀ (q : Nat) (ad' : Nat → Nat) (g' : Nat → va_E), ad' = va_up ad N q → g' = va_up g N (iA cs M (fun _ => 0)) → zV p l e R s m args below meth c Q D A nL (N + 1) ad' g' (k + 1) (n + M) (pc + 2) (lv) (.ref q :: rest)) : zV p l e R s m args below meth c Q D A nL N ad g k n (pc) (lv) (.int (zI z) :: rest) := by
  subst hz
  exact fun H locs ls hP hD hS hl => va_newa (atype := .int) (ty := .int) (a0 := (M, .inl (fun _ => zI 0))) (N' := M) C.1 C.2.1 (C.2.2.2.2.1 _ hw) rfl C.2.2.2.2.2.1 hP hD hS C.2.2.2.2.2.2.2.1 (fun cA => rfl) (by rw [← zI_0, zI_lt (by omega) (by omega)]; omega) (zI_clN hM.2) hM.1 hcells hslots hdg (fun q cA H1 hK1 hP1 hD1 hS1 => by
    obtain rfl := zK_cls 1 rfl hK1
    rw [wl_push] at hP1 hD1
    exact kk q _ _ rfl rfl H1 locs ls hP1 hD1 hS1 hl)
theorem z_newB (C : zC p s m args c cc nL own D A cs tt) {z : Int} (M : Nat) (hz : z = (M : Int)) (hw : Cond.arrayClass .byte ∈ AW) (hM : M * componentBytes .byte ≤ 536870912 ∧ M ≤ 2147483647) (hcells : k + 1 ≤ R.cells) (hslots : n + M ≤ R.slots) (hdg : decode cc pc = .ok (.newarray .byte, 2)) (kk : ∀ (q : Nat) (ad' : Nat → Nat) (g' : Nat → va_E), ad' = va_up ad N q → g' = va_up g N (bA cs M (fun _ => 0)) → zV p l e R s m args below meth c Q D A nL (N + 1) ad' g' (k + 1) (n + M) (pc + 2) (lv) (.ref q :: rest)) : zV p l e R s m args below meth c Q D A nL N ad g k n (pc) (lv) (.int (zI z) :: rest) := by
  subst hz
  exact fun H locs ls hP hD hS hl => va_newa (atype := .byte) (ty := .byte) (a0 := (M, .inl (fun _ => zI 0))) (N' := M) C.1 C.2.1 (C.2.2.2.2.1 _ hw) rfl C.2.2.2.2.2.1 hP hD hS C.2.2.2.2.2.2.2.1 (fun cA => rfl) (by rw [← zI_0, zI_lt (by omega) (by omega)]; omega) (zI_clN hM.2) hM.1 hcells hslots hdg (fun q cA H1 hK1 hP1 hD1 hS1 => by
    obtain rfl := zK_cls 0 rfl hK1
    rw [wl_push] at hP1 hD1
    exact kk q _ _ rfl rfl H1 locs ls hP1 hD1 hS1 hl)
theorem z_newJ (C : zC p s m args c cc nL own D A cs tt) {z : Int} (M : Nat) (hz : z = (M : Int)) (hw : Cond.arrayClass .long ∈ AW) (hM : M * componentBytes .long ≤ 536870912 ∧ M ≤ 2147483647) (hcells : k + 1 ≤ R.cells) (hslots : n + M ≤ R.slots) (hdg : decode cc pc = .ok (.newarray .long, 2)) (kk : ∀ (q : Nat) (ad' : Nat → Nat) (g' : Nat → va_E), ad' = va_up ad N q → g' = va_up g N (jA cs M (fun _ => 0)) → zV p l e R s m args below meth c Q D A nL (N + 1) ad' g' (k + 1) (n + M) (pc + 2) (lv) (.ref q :: rest)) : zV p l e R s m args below meth c Q D A nL N ad g k n (pc) (lv) (.int (zI z) :: rest) := by
  subst hz
  exact fun H locs ls hP hD hS hl => va_newa (atype := .long) (ty := .long) (a0 := (M, .inr (.inl (fun _ => zJ 0)))) (N' := M) C.1 C.2.1 (C.2.2.2.2.1 _ hw) rfl C.2.2.2.2.2.1 hP hD hS C.2.2.2.2.2.2.2.1 (fun cA => rfl) (by rw [← zI_0, zI_lt (by omega) (by omega)]; omega) (zI_clN hM.2) hM.1 hcells hslots hdg (fun q cA H1 hK1 hP1 hD1 hS1 => by
    obtain rfl := zK_cls 2 rfl hK1
    rw [wl_push] at hP1 hD1
    exact kk q _ _ rfl rfl H1 locs ls hP1 hD1 hS1 hl)
theorem z_newR (C : zC p s m args c cc nL own D A cs tt) {Cn : String} {cA0 : ClassId} {index : Nat} {z : Int} (t M : Nat) (hz : z = (M : Int)) (ht : (tyL cs)[t]? = some (cA0, .object Cn)) (hw : Cond.classLink own index Cn ∈ AW) (ho : va_AO Cn s) (hM : M * 4 ≤ 536870912 ∧ M ≤ 2147483647) (hcells : k + 1 ≤ R.cells) (hslots : n + M ≤ R.slots) (hdg : decode cc pc = .ok (.anewarray index, 3)) (kk : ∀ (q : Nat) (ad' : Nat → Nat) (g' : Nat → va_E), ad' = va_up ad N q → g' = va_up g N (rA cA0 M (fun _ => none)) → zV p l e R s m args below meth c Q D A nL (N + 1) ad' g' (k + 1) (n + M) (pc + 3) (lv) (.ref q :: rest)) : zV p l e R s m args below meth c Q D A nL N ad g k n (pc) (lv) (.int (zI z) :: rest) := by
  subst hz
  exact fun H locs ls hP hD hS hl => va_newq (N' := M) C.1 C.2.1 C.2.2.2.1 (C.2.2.2.2.1 _ hw) ho C.2.2.2.2.2.1 hP hD hS C.2.2.2.2.2.2.2.1 (by rw [← zI_0, zI_lt (by omega) (by omega)]; omega) (zI_clN hM.2) hM.1 hcells hslots hdg (fun q cA H1 hK1 hP1 hD1 hS1 => by
    obtain rfl := zK_cls t ht hK1
    rw [wl_push] at hP1 hD1
    exact kk q _ _ rfl rfl H1 locs ls hP1 hD1 hS1 hl)
theorem z_getT (C : zC p s m args c cc nL own D A cs tt) {index : Nat} {host : String} (hw : Cond.fieldLinkNest own index RX9 "TABLE" "[I" host ∈ NW) (hdg : decode cc pc = .ok (.getstatic index, 3)) (kk : zV p l e R s m args below meth c Q D A nL N ad g k n (pc + 3) (lv) (.ref tt :: rest)) : zV p l e R s m args below meth c Q D A nL N ad g k n (pc) (lv) (rest) := fun H locs ls hP hD hS hl => va_getsN C.1 C.2.1 C.2.2.2.2.2.2.2.2.2.1.1 hS C.2.2.2.1 (NW_use hw (C.2.2.2.2.2.2.1 _ hw)) (fun _ h => h) hdg (kk H locs ls hP hD hS hl)
theorem zTB_cell {H : Heap} {locs : List Loc} (hE : zE D A cs tt s) (hS : va_S A s.heap H locs) : ∃ cell : Cell, H[tt]? = some cell ∧ s.isArrayOf cell .int ∧ cell.vm ≠ .unknown ∧ cell.cls = cs 1 ∧ cell.slots = (arrV (cs 1) 15 (fun j => .int (zI (tabZ j)))).slots ∧ s.vm.findClass "[I" = some cell.cls ∧ ¬ A tt := by
  obtain ⟨cell, h1, h2, h3, h4, h5, h6, h7⟩ := hE.2.2.2.2.1.2.1
  have hc : s.vm.findClass "[I" = some (cs 1) := zRA_fc (hE.1.2 1 _ rfl).2
  refine ⟨cell, by rw [hS.2.1 tt (Array.getElem?_eq_some_iff.mp h1).1 h7]; exact h1, h2, h3, Option.some.inj (h6.symm.trans hc), ?_, h6, h7⟩
  apply Array.ext_getElem?
  intro j
  by_cases hj : j < 15
  · rw [h5 j hj, arrV_read _ _ hj]
  · rw [Array.getElem?_eq_none (by omega), Array.getElem?_eq_none (by rw [arrV_size]; omega)]
theorem z_cloneT (C : zC p s m args c cc nL own D A cs tt) {index : Nat} (hlk : Cond.methodLink own index ⟨"[I", "clone", "()Ljava/lang/Object;"⟩ ∈ AW) (hsm : Cond.sameMethod "[I" "java/lang/Object" "clone" "()Ljava/lang/Object;" ∈ AW) (hnat : Cond.native ⟨"java/lang/Object", "clone", "()Ljava/lang/Object;"⟩ ∈ AW) (hinst : Cond.instanceMethod ⟨"java/lang/Object", "clone", "()Ljava/lang/Object;"⟩ ∈ AW)
    (hsel : Cond.selects "[I" ⟨"[I", "clone", "()Ljava/lang/Object;"⟩ ⟨"java/lang/Object", "clone", "()Ljava/lang/Object;"⟩ ∈ AW) (hcl : Cond.castable "[I" "java/lang/Cloneable" ∈ NW) (hframes : 1 ≤ R.frames) (hlocals : (rest.map fun v => v.category).sum + 14 ≤ R.locals) (hcells : k + 1 ≤ R.cells) (hslots : n + 15 ≤ R.slots) (hdg : decode cc pc = .ok (.invokevirtual index, 3))
    (kk : ∀ (q : Nat) (ad' : Nat → Nat) (g' : Nat → va_E), ad' = va_up ad N q → g' = va_up g N (iA cs 15 tabZ) → zV p l e R s m args below meth c Q D A nL (N + 1) ad' g' (k + 1) (n + 15) (pc + 3) (lv) (.ref q :: rest)) : zV p l e R s m args below meth c Q D A nL N ad g k n (pc) (lv) (.ref tt :: rest) := by
  intro H locs ls hP hD hS hl T hT X
  obtain ⟨cell, hc1, hof, hkn, hcls, hsl, hfc, hnA⟩ := zTB_cell C.2.2.2.2.2 hS
  obtain ⟨c0, t0', f1, f2, f3⟩ := Cond.castable_spec (NW_use (a := args) hcl (C.2.2.2.2.2.2.1 _ hcl))
  cases hfc.symm.trans f1
  obtain ⟨ho1, kS, hkS, compS, hkindS⟩ := hof
  obtain ⟨-, kA, hkA, comp, hkind⟩ := State.isArrayOf_alike X.warmed.alike (⟨ho1, kS, hkS, compS, hkindS⟩ : s.isArrayOf cell .int)
  have hsz : cell.slots.size = 15 := by rw [hsl, arrV_size]
  obtain ⟨vm', X', st9⟩ := X.cloneArray C.1 C.2.2.2.1 (C.2.2.2.2.1 _ hlk) (C.2.2.2.2.1 _ hsm) (C.2.2.2.2.1 _ hnat) (C.2.2.2.2.1 _ hinst) (C.2.2.2.2.1 _ hsel) (a := tt) (cell := cell) (by rw [hT]; exact hc1) ho1 hkn hfc f2 f3
    (fun i v hv => by
      have hk' : T.vm.classes[cell.cls]? = some kA := hkA
      have hv2 : fits .int v = true := by
        by_cases hi : i < 15
        · rw [hsl, arrV_read _ _ hi] at hv
          cases hv
          rfl
        · rw [Array.getElem?_eq_none (by omega)] at hv
          cases hv
      simpa [State.fitsSlot, State.slotType?, hk', hkind] using hv2)
    (g := F0 m pc ls (.ref tt :: rest)) rfl (by rw [C.2.2.1]; exact hl.1) rfl (by rw [C.2.1]; exact hdg) hframes (by show 2 * 0 + _ + 14 ≤ _; omega) hcells (by rw [hsz]; exact hslots) (hloader := Vm.clonesLoader_of_array hkS hkindS)
  have hcE : ({ cls := cell.cls, slots := cell.slots } : Cell) = vp_cell (cs 1) (15, .inl (fun j => zI (tabZ j))) := by rw [hcls, hsl]; rfl
  rw [hcE, hsz] at X'
  generalize hH1 : H.push (vp_cell (cs 1) (15, .inl (fun j => zI (tabZ j)))) = H1
  have e1 : H1[H.size]? = some (vp_cell (cs 1) (15, .inl (fun j => zI (tabZ j)))) := by rw [← hH1, Array.getElem?_push_size]
  have o1 : ∀ q : Nat, q < H.size → H1[q]? = H[q]? := fun q hq => by rw [← hH1, Array.getElem?_push, if_neg (Nat.ne_of_lt hq)]
  have z1 : H1.size = H.size + 1 := by rw [← hH1, Array.size_push]
  have hP1 : va_P D vwCl (wl N ad g ++ [(H.size, iA cs 15 tabZ)]) H1 := (hP.kept (fun k y hy => o1 y.1 ((hP k y hy).lt))).app (fun k y hy => by
      have hz : k < 1 := (List.getElem?_eq_some_iff.mp hy).1
      rw [show k = 0 by omega] at hy
      cases hy
      exact e1)
  have hD1 : va_D A (wl N ad g ++ [(H.size, iA cs 15 tabZ)]) := hD.push hP rfl (C.2.2.2.2.2.2.2.1 _ hS.1)
  rw [wl_push] at hP1 hD1
  obtain ⟨t, b1, b2⟩ := kk H.size _ _ rfl rfl H1 locs ls hP1 hD1 ⟨Nat.le_trans hS.1 (by omega), fun y h1 h2 => (o1 y (Nat.lt_of_lt_of_le h1 hS.1)).trans (hS.2.1 y h1 h2), hS.2.2⟩ hl ((T.setVm vm').pushCell (vp_cell (cs 1) (15, .inl (fun j => zI (tabZ j))))) (by rw [← hH1, ← hT]; rfl) X'
  refine ⟨t, st9 t ?_, b2⟩
  rw [hcE, hT]
  exact b1
theorem z_castI (C : zC p s m args c cc nL own D A cs tt) {i a index M : Nat} {r : Nat → Int} (hi : i < N) (ha : ad i = a) (hg : g i = iA cs M r) (hw : Cond.classLink own index "[I" ∈ AW) (hdg : decode cc pc = .ok (.checkcast index, 3)) (kk : zV p l e R s m args below meth c Q D A nL N ad g k n (pc + 3) (lv) (.ref a :: rest)) : zV p l e R s m args below meth c Q D A nL N ad g k n (pc) (lv) (.ref a :: rest) := fun H locs ls hP hD hS hl => va_castA C.1 C.2.1 C.2.2.2.1 (C.2.2.2.2.1 _ hw) hP i ((wl_at hi).trans (by rw [hg, ha])) (zRA_fc (C.2.2.2.2.2.1.2 1 _ rfl).2) hdg (kk H locs ls hP hD hS hl)
def cZ (f h : Nat → Int) (sp dp n : Nat) : Nat → Int := fun j => if dp ≤ j ∧ j < dp + n then f (sp + (j - dp)) else h j
theorem cZ_cpy (f h : Nat → Int) (sp dp n : Nat) : va_cpy (fun j => zI (f j)) (fun j => zI (h j)) sp dp n = fun j => zI (cZ f h sp dp n j) := by
  funext j
  by_cases hj : dp ≤ j ∧ j < dp + n
  · rw [pk_cpy_in hj.1 hj.2]; simp only [cZ, if_pos hj]
  · rw [pk_cpy_out (by omega)]; simp only [cZ, if_neg hj]
theorem cZ_all {f h : Nat → Int} {n j : Nat} (hj : j < n) : cZ f h 0 0 n j = f j := by
  show (if 0 ≤ j ∧ j < 0 + n then f (0 + (j - 0)) else h j) = f j
  rw [if_pos (by omega)]; congr 1; omega
theorem z_copyI (C : zC p s m args c cc nL own D A cs tt) {index i j a b : Nat} (hlk : Cond.methodLink own index arraycopyName ∈ AW) (hnat : Cond.native arraycopyName ∈ AW) (hstat : Cond.static arraycopyName ∈ AW) (hini : Cond.initialized "java/lang/System" ∈ AW) (hi : i < N) (hj : j < N) (ha : ad i = a) (hb : ad j = b) {M1 M2 : Nat} {f h : Nat → Int} (hg1 : g i = iA cs M1 f) (hg2 : g j = iA cs M2 h) (sp dp L : Nat) {zs zd zn : Int} (h1 : zs = (sp : Int)) (h2 : zd = (dp : Int)) (h3 : zn = (L : Int)) (h4 : sp + L ≤ M1) (h5 : dp + L ≤ M2) (h6 : M1 ≤ 2147483647 ∧ M2 ≤ 2147483647) (hframes : 1 ≤ R.frames) (hlocals : (rest.map fun v => v.category).sum + (nativeFrameWords "java/lang/System" "arraycopy" 5 + 11) ≤ R.locals) (hdg : decode cc pc = .ok (.invokestatic index, 3)) (kk : ∀ g' : Nat → va_E, g' = va_up g j (iA cs M2 (cZ f h sp dp L)) → zV p l e R s m args below meth c Q D A nL N ad g' k n (pc + 3) (lv) (rest)) : zV p l e R s m args below meth c Q D A nL N ad g k n (pc) (lv) (.int (zI zn) :: .int (zI zd) :: .ref b :: .int (zI zs) :: .ref a :: rest) := by
  subst h1; subst h2; subst h3; subst ha; subst hb
  have nn : ∀ x : Nat, x ≤ 2147483647 → ¬ zI (x : Int) < 0 := fun x hx => by rw [← zI_0, zI_lt (by omega) (by omega)]; omega
  exact fun H locs ls hP hD hS hl => va_copyi C.1 C.2.1 (by rw [C.2.2.1]; exact hl.1.symm) C.2.2.2.1 (C.2.2.2.2.1 _ hlk) (C.2.2.2.2.1 _ hnat) (C.2.2.2.2.1 _ hstat) (C.2.2.2.2.1 _ hini) C.2.2.2.2.2.1 hP hD hS i j 1 1 ((wl_at hi).trans (by rw [hg1])) ((wl_at hj).trans (by rw [hg2])) rfl rfl rfl (nn _ (by omega)) (nn _ (by omega)) (nn _ (by omega)) (by rw [zI_clN (by omega), zI_clN (by omega)]; exact h4) (by rw [zI_clN (by omega), zI_clN (by omega)]; exact h5) (fun _ _ => rfl) hframes hlocals hdg (fun H1 locs1 hP1 hD1 hS1 => by
    rw [zI_clN (by omega), zI_clN (by omega), zI_clN (by omega), cZ_cpy, wl_set] at hP1 hD1
    exact kk _ rfl H1 locs1 ls hP1 hD1 hS1 hl)
theorem z_copyT (C : zC p s m args c cc nL own D A cs tt) {index j b : Nat} (hlk : Cond.methodLink own index arraycopyName ∈ AW) (hnat : Cond.native arraycopyName ∈ AW) (hstat : Cond.static arraycopyName ∈ AW) (hini : Cond.initialized "java/lang/System" ∈ AW) (hj : j < N) (hb : ad j = b) {h : Nat → Int} (hg2 : g j = iA cs 15 h) (hframes : 1 ≤ R.frames) (hlocals : (rest.map fun v => v.category).sum + (nativeFrameWords "java/lang/System" "arraycopy" 5 + 11) ≤ R.locals) (hdg : decode cc pc = .ok (.invokestatic index, 3)) (kk : ∀ g' : Nat → va_E, g' = va_up g j (iA cs 15 (cZ tabZ h 0 0 15)) → zV p l e R s m args below meth c Q D A nL N ad g' k n (pc + 3) (lv) (rest)) : zV p l e R s m args below meth c Q D A nL N ad g k n (pc) (lv) (.int (zI 15) :: .int (zI 0) :: .ref b :: .int (zI 0) :: .ref tt :: rest) := by
  subst hb
  intro H locs ls hP hD hS hl T hT X
  obtain ⟨cell, hc0, hof, hkn, hcls, hsl, hfc, hnA⟩ := zTB_cell C.2.2.2.2.2 hS
  have he := (wl_at (ad := ad) (g := g) hj).trans (by rw [hg2])
  have hc1 : H[ad j]? = some (vp_cell (cs 1) (15, .inl (fun k => zI (h k)))) := hP j _ he
  obtain ⟨ho1, k0, hk0, cm0, hkk0⟩ := hof
  obtain ⟨-, k1, hk1, cm1, hkk1⟩ := (C.2.2.2.2.2.1.2 1 _ rfl).1 15 (fun j => .int (zI (h j)))
  have hrd : ∀ j : Nat, j < 15 → cell.slots[j]? = some (.int (zI (tabZ j))) := fun j hj => by rw [hsl, arrV_read _ _ hj]
  have hsz : cell.slots.size = 15 := by rw [hsl, arrV_size]
  have c15 : (zI 15).toNatClampNeg = 15 := zI_clN (k := 15) (by omega)
  have c0 : (zI 0).toNatClampNeg = 0 := rfl
  obtain ⟨vm', X', step⟩ := X.arraycopy C.1 C.2.2.2.1 (C.2.2.2.2.1 _ hlk) (C.2.2.2.2.1 _ hnat) (C.2.2.2.2.1 _ hstat) (C.2.2.2.2.1 _ hini) (src := tt) (dst := ad j) (cs := cell) (cd := vp_cell (cs 1) (15, .inl (fun k => zI (h k)))) (srcPos := zI 0) (destPos := zI 0) (n := zI 15) (by rw [hT]; exact hc0) (by rw [hT]; exact hc1)
    ho1 (fun _ h => by cases h) hkn (fun h => by cases h) hk0 hk1 hkk0 hkk1 (by simp [refKind]) (by decide) (by decide) (by decide)
    (by show ¬ (0 : Int) + 15 > _; rw [hsz]; omega)
    (by show ¬ (0 : Int) + 15 > ((arrV (cs 1) 15 (fun j => .int (zI (h j)))).slots.size : Int); rw [arrV_size]; omega)
    (fun vm₁ _ i hi => by
      have e : cell.slots.getD ((zI 0).toNatClampNeg + i) .null = .int (zI (tabZ i)) := by
        rw [c15] at hi
        rw [c0, Nat.zero_add, Array.getD_eq_getD_getElem?, hrd i hi]
        rfl
      refine ⟨?_, ?_⟩
      · rw [e]; rfl
      · rw [e]; exact trivial)
    (g := F0 m pc ls (.int (zI 15) :: .int (zI 0) :: .ref (ad j) :: .int (zI 0) :: .ref tt :: rest)) rfl (by rw [C.2.2.1]; exact hl.1) (rest := rest) rfl (by rw [C.2.1]; exact hdg) hframes (by show 2 * 0 + _ + _ ≤ _; omega)
  have e1 : copied cell (vp_cell (cs 1) (15, .inl (fun k => zI (h k)))) (zI 0) (zI 0) (zI 15) = vp_cell (cs 1) (15, .inl (fun k => zI (cZ tabZ h 0 0 15 k))) := by
    have q9 : copied cell (vp_cell (cs 1) (15, .inl (fun k => zI (h k)))) (zI 0) (zI 0) (zI 15) = vp_cell (cs 1) (15, .inl (va_cpy (fun k => zI (tabZ k)) (fun k => zI (h k)) (zI 0).toNatClampNeg (zI 0).toNatClampNeg (zI 15).toNatClampNeg)) := va_copiedX (fun z => .int z) cell (cs 1) (fun k => zI (tabZ k)) (fun k => zI (h k)) hrd (by rw [c0, c15]; omega)
    rw [q9, c0, c15, cZ_cpy]
  rw [e1] at X' step
  have hlt : ad j < H.size := (Array.getElem?_eq_some_iff.mp hc1).1
  generalize hH1 : H.setIfInBounds (ad j) (vp_cell (cs 1) (15, .inl (fun k => zI (cZ tabZ h 0 0 15 k)))) = H1
  have oq : ∀ q : Nat, q ≠ ad j → H1[q]? = H[q]? := fun q hq => by rw [← hH1]; simp [Array.getElem?_setIfInBounds, Ne.symm hq]
  have ea : H1[ad j]? = some (vp_cell (cs 1) (15, .inl (fun k => zI (cZ tabZ h 0 0 15 k)))) := by rw [← hH1]; simp [Array.getElem?_setIfInBounds, hlt]
  have hz1 : H1.size = H.size := by rw [← hH1]; simp
  have hP1 := hP.set (e := iA cs 15 (cZ tabZ h 0 0 15)) hD he ea oq
  have hD1 := hD.set (e := iA cs 15 (cZ tabZ h 0 0 15)) he
  rw [wl_set] at hP1 hD1
  have hAj : A (ad j) := hD.2 j _ he
  obtain ⟨t, a1, b1⟩ := kk _ rfl H1 _ ls hP1 hD1 ⟨by rw [hz1]; exact hS.1, fun q g1 g2 => by
      rw [oq q (fun e => g2 (by rw [e]; exact hAj))]
      exact hS.2.1 q g1 g2, fun q hq => by
      rcases List.mem_append.mp hq with h | h
      · exact hS.2.2 q h
      · obtain ⟨z, -, hz⟩ := List.mem_map.mp h
        rw [← hz]
        exact hAj⟩ hl _ (by rw [← hH1, ← hT]; rfl) X'
  exact ⟨t, step t a1, b1⟩
theorem z_mmax (C : zC p s m args c cc nL own D A cs tt) {index : Nat} {a b : Int} (hlk : Cond.methodLink own index Lib.Math.max.name ∈ AW) (hstat : Cond.static Lib.Math.max.name ∈ AW) (hini : Cond.initialized "java/lang/Math" ∈ AW) (hcd : Cond.code Lib.Math.max.name Lib.Math.max.code 2 (some .int) ∈ AW) (ha : -2147483648 ≤ a ∧ a ≤ 2147483647) (hb : -2147483648 ≤ b ∧ b ≤ 2147483647) (hframes : 1 ≤ R.frames) (hlocals : (rest.map fun v => v.category).sum + 13 ≤ R.locals) (hc : k ≤ R.cells) (hs : n ≤ R.slots) (hdg : decode cc pc = .ok (.invokestatic index, 3)) (kk : zV p l e R s m args below meth c Q D A nL N ad g k n (pc + 3) (lv) (.int (zI (if a < b then b else a)) :: rest)) : zV p l e R s m args below meth c Q D A nL N ad g k n (pc) (lv) (.int (zI b) :: .int (zI a) :: rest) := fun H locs ls hP hD hS hl => va_mmax C.1 C.2.1 (by rw [C.2.2.1]; exact hl.1.symm) C.2.2.2.1 (C.2.2.2.2.1 _ hlk) (C.2.2.2.2.1 _ hstat) (C.2.2.2.2.1 _ hini) (C.2.2.2.2.1 _ hcd) hframes hlocals hc hs hdg (by
    have e9 : (if zI a < zI b then zI b else zI a) = zI (if a < b then b else a) := by
      by_cases h : a < b
      · rw [if_pos h, if_pos ((zI_lt ha hb).mpr h)]
      · rw [if_neg h, if_neg (fun q => h ((zI_lt ha hb).mp q))]
    rw [e9]; exact kk H locs ls hP hD hS hl)
theorem z_mmin (C : zC p s m args c cc nL own D A cs tt) {index : Nat} {a b : Int} (hlk : Cond.methodLink own index Lib.Math.min.name ∈ AW) (hstat : Cond.static Lib.Math.min.name ∈ AW) (hini : Cond.initialized "java/lang/Math" ∈ AW) (hcd : Cond.code Lib.Math.min.name Lib.Math.min.code 2 (some .int) ∈ AW) (ha : -2147483648 ≤ a ∧ a ≤ 2147483647) (hb : -2147483648 ≤ b ∧ b ≤ 2147483647) (hframes : 1 ≤ R.frames) (hlocals : (rest.map fun v => v.category).sum + 13 ≤ R.locals) (hc : k ≤ R.cells) (hs : n ≤ R.slots) (hdg : decode cc pc = .ok (.invokestatic index, 3)) (kk : zV p l e R s m args below meth c Q D A nL N ad g k n (pc + 3) (lv) (.int (zI (if b < a then b else a)) :: rest)) : zV p l e R s m args below meth c Q D A nL N ad g k n (pc) (lv) (.int (zI b) :: .int (zI a) :: rest) := fun H locs ls hP hD hS hl => va_mmin C.1 C.2.1 (by rw [C.2.2.1]; exact hl.1.symm) C.2.2.2.1 (C.2.2.2.2.1 _ hlk) (C.2.2.2.2.1 _ hstat) (C.2.2.2.2.1 _ hini) (C.2.2.2.2.1 _ hcd) hframes hlocals hc hs hdg (by
    have e9 : (if zI b < zI a then zI b else zI a) = zI (if b < a then b else a) := by
      by_cases h : b < a
      · rw [if_pos h, if_pos ((zI_lt hb ha).mpr h)]
      · rw [if_neg h, if_neg (fun q => h ((zI_lt hb ha).mp q))]
    rw [e9]; exact kk H locs ls hP hD hS hl)
theorem z_mna (C : zC p s m args c cc nL own D A cs tt) {index : Nat} (hw : Cond.classLink own index "[[I" ∈ AW) (hac : Cond.arrayClass .int ∈ AW) (hcells : k + 5 ≤ R.cells) (hslots : n + 4804 ≤ R.slots) (hdg : decode cc pc = .ok (.multianewarray index 2, 4))
    (kk : ∀ (q : Nat) (r : Nat → Nat) (ad' : Nat → Nat) (g' : Nat → va_E), ad' = va_up (va_up (va_up (va_up (va_up ad N q) (N + 1) (r 0)) (N + 1 + 1) (r 1)) (N + 1 + 1 + 1) (r 2)) (N + 1 + 1 + 1 + 1) (r 3) → g' = va_up (va_up (va_up (va_up (va_up g N (rA (cs 6) 4 (fun i => if i < 4 then some (r i) else none))) (N + 1) (iA cs 1200 (fun _ => 0))) (N + 1 + 1) (iA cs 1200 (fun _ => 0))) (N + 1 + 1 + 1) (iA cs 1200 (fun _ => 0))) (N + 1 + 1 + 1 + 1) (iA cs 1200 (fun _ => 0)) → zV p l e R s m args below meth c Q D A nL (N + 1 + 1 + 1 + 1 + 1) ad' g' (k + 1 + 4) (n + 4 + 4 * 1200) (pc + 4) (lv) (.ref q :: rest)) : zV p l e R s m args below meth c Q D A nL N ad g k n (pc) (lv) (.int (zI 1200) :: .int (zI 4) :: rest) := by
  intro H locs ls hP hD hS hl
  have hP0 : va_P D vwCl (wl N ad g ++ va_pl [] (fun _ => iA cs 0 (fun _ => 0))) H := by show va_P D vwCl (wl N ad g ++ []) H; rw [List.append_nil]; exact hP
  have hD0 : va_D A (wl N ad g ++ va_pl [] (fun _ => iA cs 0 (fun _ => 0))) := by show va_D A (wl N ad g ++ []); rw [List.append_nil]; exact hD
  refine va_mna (X := wl N ad g) (L := []) (f := fun _ => iA cs 0 (fun _ => 0)) (ty := .int) (cy := cs 1) (N' := 4) (K' := 1200) (z := (1200, .inl (fun _ => zI 0))) C.1 C.2.1 C.2.2.2.1 (C.2.2.2.2.1 _ hw) C.2.2.2.2.2.2.2.2.1.2.2.2 (C.2.2.2.2.1 _ hac) (zRA_fc (C.2.2.2.2.2.1.2 1 _ rfl).2) C.2.2.2.2.2.1 hP0 hD0 hS C.2.2.2.2.2.2.2.1 (by decide) (by decide) (by decide) (by decide) (by decide) (by decide) (by decide) rfl rfl (by omega) (by omega) (fun c9 => arrV_new c9 1200 (.int 0)) hdg (fun q r cA H1 hinj hnin hK1 hP1 hD1 hS1 => ?_)
  obtain rfl := zK_cls 6 rfl hK1
  have e9 : va_pl ([] ++ (List.range 4).map r) (vr_up (fun _ => iA cs 0 (fun _ => 0)) ((List.range 4).map r) (iA cs 1200 (fun _ => 0))) = [(r 0, iA cs 1200 (fun _ => 0))] ++ ([(r 1, iA cs 1200 (fun _ => 0))] ++ ([(r 2, iA cs 1200 (fun _ => 0))] ++ [(r 3, iA cs 1200 (fun _ => 0))])) := by
    show ([r 0, r 1, r 2, r 3].map fun a => (a, vr_up (fun _ => iA cs 0 (fun _ => 0)) [r 0, r 1, r 2, r 3] (iA cs 1200 (fun _ => 0)) a)) = _
    simp [vr_up]
  rw [e9, wl_push, ← List.append_assoc, wl_push, ← List.append_assoc, wl_push, ← List.append_assoc, wl_push, wl_push] at hP1 hD1
  exact kk q r _ _ rfl rfl H1 locs ls hP1 hD1 hS1 hl
theorem z_getZ (C : zC p s m args c cc nL own D A cs tt) {index : Nat} (hw : Cond.fieldLink own index RJ0 "COMPACT_STRINGS" "Z" ∈ AW) (hdg : decode cc pc = .ok (.getstatic index, 3)) (kk : zV p l e R s m args below meth c Q D A nL N ad g k n (pc + 3) (lv) (.int (zI 1) :: rest)) : zV p l e R s m args below meth c Q D A nL N ad g k n (pc) (lv) (rest) := fun H locs ls hP hD hS hl => va_gets C.1 C.2.1 C.2.2.2.2.2.2.2.2.2.1.2.2 hS C.2.2.2.1 (C.2.2.2.2.1 _ hw) (fun _ h => h) hdg (kk H locs ls hP hD hS hl)
end ZA
end
section
-- words of ctor
theorem n_150 : (Jvm.Cond.methodLinkNest "SnowRecorder$World" (36 : Nat) ({ cls := "SnowRecorder$Pack", name := "<init>", desc := "()V" } : Jvm.MethodName) "SnowRecorder") ∈ NW := NW_m 269 (by decide +kernel) (by decide +kernel)
theorem n_212 : (Jvm.Cond.methodLinkNest "SnowRecorder$State" (34 : Nat) ({ cls := "SnowRecorder$Notes", name := "<init>", desc := "()V" } : Jvm.MethodName) "SnowRecorder") ∈ NW := NW_m 331 (by decide +kernel) (by decide +kernel)
theorem n_235 : (Jvm.Cond.methodLinkNest "SnowRecorder$State" (43 : Nat) ({ cls := "SnowRecorder$Pit", name := "<init>", desc := "()V" } : Jvm.MethodName) "SnowRecorder") ∈ NW := NW_m 354 (by decide +kernel) (by decide +kernel)
theorem n_240 : (Jvm.Cond.methodLinkNest "SnowRecorder$Pit" (18 : Nat) ({ cls := "SnowRecorder$Pack", name := "<init>", desc := "()V" } : Jvm.MethodName) "SnowRecorder") ∈ NW := NW_m 359 (by decide +kernel) (by decide +kernel)
theorem n_79 : (Jvm.Cond.fieldLinkNest "SnowRecorder$Plan" (37 : Nat) "SnowRecorder" "TABLE" "[I" "SnowRecorder") ∈ NW := NW_m 198 (by decide +kernel) (by decide +kernel)
theorem n_86 : (Jvm.Cond.castable "[I" "java/lang/Cloneable") ∈ NW := NW_m 205 (by decide +kernel) (by decide +kernel)
theorem q_100 : (Jvm.Cond.fieldLink "SnowRecorder$Plan" (25 : Nat) "SnowRecorder$Plan" "open" "[I") ∈ AW := AW_m 219 (by decide +kernel) (by decide +kernel)
theorem q_104 : (Jvm.Cond.fieldLink "SnowRecorder$Plan" (28 : Nat) "SnowRecorder$Plan" "air" "[I") ∈ AW := AW_m 223 (by decide +kernel) (by decide +kernel)
theorem q_107 : (Jvm.Cond.fieldLink "SnowRecorder$Plan" (31 : Nat) "SnowRecorder$Plan" "fall" "[I") ∈ AW := AW_m 226 (by decide +kernel) (by decide +kernel)
theorem q_11 : (Jvm.Cond.initialized "java/lang/AbstractStringBuilder") ∈ AW := AW_m 130 (by decide +kernel) (by decide +kernel)
theorem q_110 : (Jvm.Cond.fieldLink "SnowRecorder$Plan" (34 : Nat) "SnowRecorder$Plan" "much" "[I") ∈ AW := AW_m 229 (by decide +kernel) (by decide +kernel)
theorem q_113 : (Jvm.Cond.fieldLink "SnowRecorder$Plan" (45 : Nat) "SnowRecorder$Plan" "table" "[I") ∈ AW := AW_m 232 (by decide +kernel) (by decide +kernel)
theorem q_115 : (Jvm.Cond.lays "SnowRecorder$Plan" "SnowRecorder$Plan" "slopes" "I") ∈ AW := AW_m 234 (by decide +kernel) (by decide +kernel)
theorem q_117 : (Jvm.Cond.lays "SnowRecorder$Plan" "SnowRecorder$Plan" "hours" "I") ∈ AW := AW_m 236 (by decide +kernel) (by decide +kernel)
theorem q_119 : (Jvm.Cond.lays "SnowRecorder$Plan" "SnowRecorder$Plan" "untoldAir" "I") ∈ AW := AW_m 238 (by decide +kernel) (by decide +kernel)
theorem q_121 : (Jvm.Cond.laysFinal "SnowRecorder$Plan" "SnowRecorder$Plan" "steep" "[I") ∈ AW := AW_m 240 (by decide +kernel) (by decide +kernel)
theorem q_123 : (Jvm.Cond.laysFinal "SnowRecorder$Plan" "SnowRecorder$Plan" "open" "[I") ∈ AW := AW_m 242 (by decide +kernel) (by decide +kernel)
theorem q_125 : (Jvm.Cond.laysFinal "SnowRecorder$Plan" "SnowRecorder$Plan" "air" "[I") ∈ AW := AW_m 244 (by decide +kernel) (by decide +kernel)
theorem q_127 : (Jvm.Cond.laysFinal "SnowRecorder$Plan" "SnowRecorder$Plan" "fall" "[I") ∈ AW := AW_m 246 (by decide +kernel) (by decide +kernel)
theorem q_129 : (Jvm.Cond.laysFinal "SnowRecorder$Plan" "SnowRecorder$Plan" "much" "[I") ∈ AW := AW_m 248 (by decide +kernel) (by decide +kernel)
theorem q_131 : (Jvm.Cond.laysFinal "SnowRecorder$Plan" "SnowRecorder$Plan" "table" "[I") ∈ AW := AW_m 250 (by decide +kernel) (by decide +kernel)
theorem q_134 : (Jvm.Cond.arrayClass Jvm.ClassFile.FieldType.int) ∈ AW := AW_m 253 (by decide +kernel) (by decide +kernel)
theorem q_140 : (Jvm.Cond.methodLink "SnowRecorder$State" (3 : Nat) ({ cls := "java/lang/Object", name := "<init>", desc := "()V" } : Jvm.MethodName)) ∈ AW := AW_m 259 (by decide +kernel) (by decide +kernel)
theorem q_141 : (Jvm.Cond.classLink "SnowRecorder$State" (9 : Nat) "SnowRecorder$World") ∈ AW := AW_m 260 (by decide +kernel) (by decide +kernel)
theorem q_142 : (Jvm.Cond.instantiable "SnowRecorder$World" (7 : Nat)) ∈ AW := AW_m 261 (by decide +kernel) (by decide +kernel)
theorem q_143 : (Jvm.Cond.methodLink "SnowRecorder$State" (11 : Nat) ({ cls := "SnowRecorder$World", name := "<init>", desc := "()V" } : Jvm.MethodName)) ∈ AW := AW_m 262 (by decide +kernel) (by decide +kernel)
theorem q_144 : (Jvm.Cond.instanceMethod ({ cls := "SnowRecorder$World", name := "<init>", desc := "()V" } : Jvm.MethodName)) ∈ AW := AW_m 263 (by decide +kernel) (by decide +kernel)
theorem q_145 : (Jvm.Cond.code ({ cls := "SnowRecorder$World", name := "<init>", desc := "()V" } : Jvm.MethodName) prog_10_method_1_code (2 : Nat) (Option.none : Option Jvm.ClassFile.FieldType)) ∈ AW := AW_m 264 (by decide +kernel) (by decide +kernel)
theorem q_146 : (Jvm.Cond.methodLink "SnowRecorder$World" (3 : Nat) ({ cls := "java/lang/Object", name := "<init>", desc := "()V" } : Jvm.MethodName)) ∈ AW := AW_m 265 (by decide +kernel) (by decide +kernel)
theorem q_147 : (Jvm.Cond.classLink "SnowRecorder$World" (30 : Nat) "SnowRecorder$Pack") ∈ AW := AW_m 266 (by decide +kernel) (by decide +kernel)
theorem q_149 : (Jvm.Cond.instantiable "SnowRecorder$Pack" (3 : Nat)) ∈ AW := AW_m 268 (by decide +kernel) (by decide +kernel)
theorem q_151 : (Jvm.Cond.instanceMethod ({ cls := "SnowRecorder$Pack", name := "<init>", desc := "()V" } : Jvm.MethodName)) ∈ AW := AW_m 270 (by decide +kernel) (by decide +kernel)
theorem q_152 : (Jvm.Cond.code ({ cls := "SnowRecorder$Pack", name := "<init>", desc := "()V" } : Jvm.MethodName) prog_5_method_1_code (1 : Nat) (Option.none : Option Jvm.ClassFile.FieldType)) ∈ AW := AW_m 271 (by decide +kernel) (by decide +kernel)
theorem q_153 : (Jvm.Cond.methodLink "SnowRecorder$Pack" (3 : Nat) ({ cls := "java/lang/Object", name := "<init>", desc := "()V" } : Jvm.MethodName)) ∈ AW := AW_m 272 (by decide +kernel) (by decide +kernel)
theorem q_154 : (Jvm.Cond.fieldLink "SnowRecorder$Pack" (9 : Nat) "SnowRecorder$Pack" "size" "I") ∈ AW := AW_m 273 (by decide +kernel) (by decide +kernel)
theorem q_159 : (Jvm.Cond.fieldLink "SnowRecorder$Pack" (15 : Nat) "SnowRecorder$Pack" "runoff" "I") ∈ AW := AW_m 278 (by decide +kernel) (by decide +kernel)
theorem q_162 : (Jvm.Cond.fieldLink "SnowRecorder$Pack" (18 : Nat) "SnowRecorder$Pack" "cells" "[I") ∈ AW := AW_m 281 (by decide +kernel) (by decide +kernel)
theorem q_166 : (Jvm.Cond.lays "SnowRecorder$Pack" "SnowRecorder$Pack" "size" "I") ∈ AW := AW_m 285 (by decide +kernel) (by decide +kernel)
theorem q_168 : (Jvm.Cond.lays "SnowRecorder$Pack" "SnowRecorder$Pack" "runoff" "I") ∈ AW := AW_m 287 (by decide +kernel) (by decide +kernel)
theorem q_170 : (Jvm.Cond.laysFinal "SnowRecorder$Pack" "SnowRecorder$Pack" "cells" "[I") ∈ AW := AW_m 289 (by decide +kernel) (by decide +kernel)
theorem q_173 : (Jvm.Cond.fieldLink "SnowRecorder$World" (9 : Nat) "SnowRecorder$World" "time" "I") ∈ AW := AW_m 292 (by decide +kernel) (by decide +kernel)
theorem q_176 : (Jvm.Cond.fieldLink "SnowRecorder$World" (15 : Nat) "SnowRecorder$World" "names" "I") ∈ AW := AW_m 295 (by decide +kernel) (by decide +kernel)
theorem q_179 : (Jvm.Cond.fieldLink "SnowRecorder$World" (18 : Nat) "SnowRecorder$World" "taken" "I") ∈ AW := AW_m 298 (by decide +kernel) (by decide +kernel)
theorem q_181 : (Jvm.Cond.fieldLink "SnowRecorder$World" (21 : Nat) "SnowRecorder$World" "slid" "I") ∈ AW := AW_m 300 (by decide +kernel) (by decide +kernel)
theorem q_183 : (Jvm.Cond.fieldLink "SnowRecorder$World" (24 : Nat) "SnowRecorder$World" "slides" "I") ∈ AW := AW_m 302 (by decide +kernel) (by decide +kernel)
theorem q_185 : (Jvm.Cond.fieldLink "SnowRecorder$World" (27 : Nat) "SnowRecorder$World" "pits" "I") ∈ AW := AW_m 304 (by decide +kernel) (by decide +kernel)
theorem q_188 : (Jvm.Cond.fieldLink "SnowRecorder$World" (32 : Nat) "SnowRecorder$World" "packs" "[LSnowRecorder$Pack;") ∈ AW := AW_m 307 (by decide +kernel) (by decide +kernel)
theorem q_192 : (Jvm.Cond.lays "SnowRecorder$World" "SnowRecorder$World" "time" "I") ∈ AW := AW_m 311 (by decide +kernel) (by decide +kernel)
theorem q_194 : (Jvm.Cond.lays "SnowRecorder$World" "SnowRecorder$World" "names" "I") ∈ AW := AW_m 313 (by decide +kernel) (by decide +kernel)
theorem q_196 : (Jvm.Cond.lays "SnowRecorder$World" "SnowRecorder$World" "taken" "I") ∈ AW := AW_m 315 (by decide +kernel) (by decide +kernel)
theorem q_198 : (Jvm.Cond.lays "SnowRecorder$World" "SnowRecorder$World" "slid" "I") ∈ AW := AW_m 317 (by decide +kernel) (by decide +kernel)
theorem q_200 : (Jvm.Cond.lays "SnowRecorder$World" "SnowRecorder$World" "slides" "I") ∈ AW := AW_m 319 (by decide +kernel) (by decide +kernel)
theorem q_202 : (Jvm.Cond.lays "SnowRecorder$World" "SnowRecorder$World" "pits" "I") ∈ AW := AW_m 321 (by decide +kernel) (by decide +kernel)
theorem q_204 : (Jvm.Cond.laysFinal "SnowRecorder$World" "SnowRecorder$World" "packs" "[LSnowRecorder$Pack;") ∈ AW := AW_m 323 (by decide +kernel) (by decide +kernel)
theorem q_208 : (Jvm.Cond.classLink "SnowRecorder$State" (26 : Nat) "SnowRecorder$Pit") ∈ AW := AW_m 327 (by decide +kernel) (by decide +kernel)
theorem q_210 : (Jvm.Cond.classLink "SnowRecorder$State" (32 : Nat) "SnowRecorder$Notes") ∈ AW := AW_m 329 (by decide +kernel) (by decide +kernel)
theorem q_211 : (Jvm.Cond.instantiable "SnowRecorder$Notes" (4 : Nat)) ∈ AW := AW_m 330 (by decide +kernel) (by decide +kernel)
theorem q_213 : (Jvm.Cond.instanceMethod ({ cls := "SnowRecorder$Notes", name := "<init>", desc := "()V" } : Jvm.MethodName)) ∈ AW := AW_m 332 (by decide +kernel) (by decide +kernel)
theorem q_214 : (Jvm.Cond.code ({ cls := "SnowRecorder$Notes", name := "<init>", desc := "()V" } : Jvm.MethodName) prog_4_method_1_code (1 : Nat) (Option.none : Option Jvm.ClassFile.FieldType)) ∈ AW := AW_m 333 (by decide +kernel) (by decide +kernel)
theorem q_215 : (Jvm.Cond.methodLink "SnowRecorder$Notes" (3 : Nat) ({ cls := "java/lang/Object", name := "<init>", desc := "()V" } : Jvm.MethodName)) ∈ AW := AW_m 334 (by decide +kernel) (by decide +kernel)
theorem q_216 : (Jvm.Cond.fieldLink "SnowRecorder$Notes" (9 : Nat) "SnowRecorder$Notes" "size" "I") ∈ AW := AW_m 335 (by decide +kernel) (by decide +kernel)
theorem q_219 : (Jvm.Cond.fieldLink "SnowRecorder$Notes" (15 : Nat) "SnowRecorder$Notes" "slope" "[I") ∈ AW := AW_m 338 (by decide +kernel) (by decide +kernel)
theorem q_221 : (Jvm.Cond.fieldLink "SnowRecorder$Notes" (19 : Nat) "SnowRecorder$Notes" "hours" "[I") ∈ AW := AW_m 340 (by decide +kernel) (by decide +kernel)
theorem q_223 : (Jvm.Cond.fieldLink "SnowRecorder$Notes" (22 : Nat) "SnowRecorder$Notes" "depth" "[I") ∈ AW := AW_m 342 (by decide +kernel) (by decide +kernel)
theorem q_225 : (Jvm.Cond.lays "SnowRecorder$Notes" "SnowRecorder$Notes" "size" "I") ∈ AW := AW_m 344 (by decide +kernel) (by decide +kernel)
theorem q_227 : (Jvm.Cond.laysFinal "SnowRecorder$Notes" "SnowRecorder$Notes" "slope" "[I") ∈ AW := AW_m 346 (by decide +kernel) (by decide +kernel)
theorem q_229 : (Jvm.Cond.laysFinal "SnowRecorder$Notes" "SnowRecorder$Notes" "hours" "[I") ∈ AW := AW_m 348 (by decide +kernel) (by decide +kernel)
theorem q_231 : (Jvm.Cond.laysFinal "SnowRecorder$Notes" "SnowRecorder$Notes" "depth" "[I") ∈ AW := AW_m 350 (by decide +kernel) (by decide +kernel)
theorem q_234 : (Jvm.Cond.instantiable "SnowRecorder$Pit" (3 : Nat)) ∈ AW := AW_m 353 (by decide +kernel) (by decide +kernel)
theorem q_236 : (Jvm.Cond.instanceMethod ({ cls := "SnowRecorder$Pit", name := "<init>", desc := "()V" } : Jvm.MethodName)) ∈ AW := AW_m 355 (by decide +kernel) (by decide +kernel)
theorem q_237 : (Jvm.Cond.code ({ cls := "SnowRecorder$Pit", name := "<init>", desc := "()V" } : Jvm.MethodName) prog_6_method_1_code (1 : Nat) (Option.none : Option Jvm.ClassFile.FieldType)) ∈ AW := AW_m 356 (by decide +kernel) (by decide +kernel)
theorem q_238 : (Jvm.Cond.methodLink "SnowRecorder$Pit" (1 : Nat) ({ cls := "java/lang/Object", name := "<init>", desc := "()V" } : Jvm.MethodName)) ∈ AW := AW_m 357 (by decide +kernel) (by decide +kernel)
theorem q_239 : (Jvm.Cond.classLink "SnowRecorder$Pit" (16 : Nat) "SnowRecorder$Pack") ∈ AW := AW_m 358 (by decide +kernel) (by decide +kernel)
theorem q_241 : (Jvm.Cond.fieldLink "SnowRecorder$Pit" (7 : Nat) "SnowRecorder$Pit" "slope" "I") ∈ AW := AW_m 360 (by decide +kernel) (by decide +kernel)
theorem q_244 : (Jvm.Cond.fieldLink "SnowRecorder$Pit" (13 : Nat) "SnowRecorder$Pit" "time" "I") ∈ AW := AW_m 363 (by decide +kernel) (by decide +kernel)
theorem q_247 : (Jvm.Cond.fieldLink "SnowRecorder$Pit" (19 : Nat) "SnowRecorder$Pit" "pack" "LSnowRecorder$Pack;") ∈ AW := AW_m 366 (by decide +kernel) (by decide +kernel)
theorem q_250 : (Jvm.Cond.lays "SnowRecorder$Pit" "SnowRecorder$Pit" "slope" "I") ∈ AW := AW_m 369 (by decide +kernel) (by decide +kernel)
theorem q_252 : (Jvm.Cond.lays "SnowRecorder$Pit" "SnowRecorder$Pit" "time" "I") ∈ AW := AW_m 371 (by decide +kernel) (by decide +kernel)
theorem q_254 : (Jvm.Cond.laysFinal "SnowRecorder$Pit" "SnowRecorder$Pit" "pack" "LSnowRecorder$Pack;") ∈ AW := AW_m 373 (by decide +kernel) (by decide +kernel)
theorem q_257 : (Jvm.Cond.fieldLink "SnowRecorder$State" (12 : Nat) "SnowRecorder$State" "now" "LSnowRecorder$World;") ∈ AW := AW_m 376 (by decide +kernel) (by decide +kernel)
theorem q_259 : (Jvm.Cond.fieldLink "SnowRecorder$State" (18 : Nat) "SnowRecorder$State" "before" "[LSnowRecorder$World;") ∈ AW := AW_m 378 (by decide +kernel) (by decide +kernel)
theorem q_260 : (Jvm.Cond.fieldLink "SnowRecorder$State" (22 : Nat) "SnowRecorder$State" "acts" "I") ∈ AW := AW_m 379 (by decide +kernel) (by decide +kernel)
theorem q_262 : (Jvm.Cond.fieldLink "SnowRecorder$State" (28 : Nat) "SnowRecorder$State" "pits" "[LSnowRecorder$Pit;") ∈ AW := AW_m 381 (by decide +kernel) (by decide +kernel)
theorem q_264 : (Jvm.Cond.fieldLink "SnowRecorder$State" (35 : Nat) "SnowRecorder$State" "notes" "LSnowRecorder$Notes;") ∈ AW := AW_m 383 (by decide +kernel) (by decide +kernel)
theorem q_266 : (Jvm.Cond.fieldLink "SnowRecorder$State" (39 : Nat) "SnowRecorder$State" "refused" "[I") ∈ AW := AW_m 385 (by decide +kernel) (by decide +kernel)
theorem q_268 : (Jvm.Cond.laysFinal "SnowRecorder$State" "SnowRecorder$State" "now" "LSnowRecorder$World;") ∈ AW := AW_m 387 (by decide +kernel) (by decide +kernel)
theorem q_270 : (Jvm.Cond.laysFinal "SnowRecorder$State" "SnowRecorder$State" "before" "[LSnowRecorder$World;") ∈ AW := AW_m 389 (by decide +kernel) (by decide +kernel)
theorem q_272 : (Jvm.Cond.lays "SnowRecorder$State" "SnowRecorder$State" "acts" "I") ∈ AW := AW_m 391 (by decide +kernel) (by decide +kernel)
theorem q_274 : (Jvm.Cond.laysFinal "SnowRecorder$State" "SnowRecorder$State" "pits" "[LSnowRecorder$Pit;") ∈ AW := AW_m 393 (by decide +kernel) (by decide +kernel)
theorem q_276 : (Jvm.Cond.laysFinal "SnowRecorder$State" "SnowRecorder$State" "notes" "LSnowRecorder$Notes;") ∈ AW := AW_m 395 (by decide +kernel) (by decide +kernel)
theorem q_278 : (Jvm.Cond.laysFinal "SnowRecorder$State" "SnowRecorder$State" "refused" "[I") ∈ AW := AW_m 397 (by decide +kernel) (by decide +kernel)
theorem q_288 : (Jvm.Cond.methodLink "SnowRecorder$Guesses" (3 : Nat) ({ cls := "java/lang/Object", name := "<init>", desc := "()V" } : Jvm.MethodName)) ∈ AW := AW_m 407 (by decide +kernel) (by decide +kernel)
theorem q_289 : (Jvm.Cond.classLink "SnowRecorder$Guesses" (22 : Nat) "[[I") ∈ AW := AW_m 408 (by decide +kernel) (by decide +kernel)
theorem q_291 : (Jvm.Cond.fieldLink "SnowRecorder$Guesses" (9 : Nat) "SnowRecorder$Guesses" "many" "I") ∈ AW := AW_m 410 (by decide +kernel) (by decide +kernel)
theorem q_293 : (Jvm.Cond.fieldLink "SnowRecorder$Guesses" (15 : Nat) "SnowRecorder$Guesses" "first" "I") ∈ AW := AW_m 412 (by decide +kernel) (by decide +kernel)
theorem q_295 : (Jvm.Cond.fieldLink "SnowRecorder$Guesses" (18 : Nat) "SnowRecorder$Guesses" "unlike" "[I") ∈ AW := AW_m 414 (by decide +kernel) (by decide +kernel)
theorem q_297 : (Jvm.Cond.fieldLink "SnowRecorder$Guesses" (24 : Nat) "SnowRecorder$Guesses" "depths" "[[I") ∈ AW := AW_m 416 (by decide +kernel) (by decide +kernel)
theorem q_298 : (Jvm.Cond.lays "SnowRecorder$Guesses" "SnowRecorder$Guesses" "many" "I") ∈ AW := AW_m 417 (by decide +kernel) (by decide +kernel)
theorem q_300 : (Jvm.Cond.lays "SnowRecorder$Guesses" "SnowRecorder$Guesses" "first" "I") ∈ AW := AW_m 419 (by decide +kernel) (by decide +kernel)
theorem q_302 : (Jvm.Cond.laysFinal "SnowRecorder$Guesses" "SnowRecorder$Guesses" "unlike" "[I") ∈ AW := AW_m 421 (by decide +kernel) (by decide +kernel)
theorem q_304 : (Jvm.Cond.laysFinal "SnowRecorder$Guesses" "SnowRecorder$Guesses" "depths" "[[I") ∈ AW := AW_m 423 (by decide +kernel) (by decide +kernel)
theorem q_312 : (Jvm.Cond.methodLink "SnowRecorder$Likeness" (3 : Nat) ({ cls := "java/lang/Object", name := "<init>", desc := "()V" } : Jvm.MethodName)) ∈ AW := AW_m 431 (by decide +kernel) (by decide +kernel)
theorem q_313 : (Jvm.Cond.fieldLink "SnowRecorder$Likeness" (9 : Nat) "SnowRecorder$Likeness" "row" "[I") ∈ AW := AW_m 432 (by decide +kernel) (by decide +kernel)
theorem q_314 : (Jvm.Cond.laysFinal "SnowRecorder$Likeness" "SnowRecorder$Likeness" "row" "[I") ∈ AW := AW_m 433 (by decide +kernel) (by decide +kernel)
theorem q_322 : (Jvm.Cond.methodLink "java/lang/StringBuilder" (1 : Nat) ({ cls := "java/lang/AbstractStringBuilder", name := "<init>", desc := "(I)V" } : Jvm.MethodName)) ∈ AW := AW_m 441 (by decide +kernel) (by decide +kernel)
theorem q_323 : (Jvm.Cond.instanceMethod ({ cls := "java/lang/AbstractStringBuilder", name := "<init>", desc := "(I)V" } : Jvm.MethodName)) ∈ AW := AW_m 442 (by decide +kernel) (by decide +kernel)
theorem q_324 : (Jvm.Cond.code ({ cls := "java/lang/AbstractStringBuilder", name := "<init>", desc := "(I)V" } : Jvm.MethodName) prog_14_method_2_code (2 : Nat) (Option.none : Option Jvm.ClassFile.FieldType)) ∈ AW := AW_m 443 (by decide +kernel) (by decide +kernel)
theorem q_325 : (Jvm.Cond.methodLink "java/lang/AbstractStringBuilder" (3 : Nat) ({ cls := "java/lang/Object", name := "<init>", desc := "()V" } : Jvm.MethodName)) ∈ AW := AW_m 444 (by decide +kernel) (by decide +kernel)
theorem q_326 : (Jvm.Cond.fieldLink "java/lang/AbstractStringBuilder" (18 : Nat) "java/lang/String" "COMPACT_STRINGS" "Z") ∈ AW := AW_m 445 (by decide +kernel) (by decide +kernel)
theorem q_335 : (Jvm.Cond.fieldLink "java/lang/AbstractStringBuilder" (15 : Nat) "java/lang/AbstractStringBuilder" "value" "[B") ∈ AW := AW_m 454 (by decide +kernel) (by decide +kernel)
theorem q_336 : (Jvm.Cond.fieldLink "java/lang/AbstractStringBuilder" (22 : Nat) "java/lang/AbstractStringBuilder" "coder" "B") ∈ AW := AW_m 455 (by decide +kernel) (by decide +kernel)
theorem q_340 : (Jvm.Cond.lays "java/lang/StringBuilder" "java/lang/AbstractStringBuilder" "value" "[B") ∈ AW := AW_m 459 (by decide +kernel) (by decide +kernel)
theorem q_342 : (Jvm.Cond.lays "java/lang/StringBuilder" "java/lang/AbstractStringBuilder" "coder" "B") ∈ AW := AW_m 461 (by decide +kernel) (by decide +kernel)
theorem q_344 : (Jvm.Cond.lays "java/lang/StringBuilder" "java/lang/AbstractStringBuilder" "maybeLatin1" "Z") ∈ AW := AW_m 463 (by decide +kernel) (by decide +kernel)
theorem q_346 : (Jvm.Cond.lays "java/lang/StringBuilder" "java/lang/AbstractStringBuilder" "count" "I") ∈ AW := AW_m 465 (by decide +kernel) (by decide +kernel)
theorem q_35 : (Jvm.Cond.instanceMethod ({ cls := "java/lang/Object", name := "<init>", desc := "()V" } : Jvm.MethodName)) ∈ AW := AW_m 154 (by decide +kernel) (by decide +kernel)
theorem q_36 : (Jvm.Cond.code ({ cls := "java/lang/Object", name := "<init>", desc := "()V" } : Jvm.MethodName) object_method_1_code (1 : Nat) (Option.none : Option Jvm.ClassFile.FieldType)) ∈ AW := AW_m 155 (by decide +kernel) (by decide +kernel)
theorem q_42 : (Jvm.Cond.methodLink "SnowRecorder$TextReader" (3 : Nat) ({ cls := "java/lang/Object", name := "<init>", desc := "()V" } : Jvm.MethodName)) ∈ AW := AW_m 161 (by decide +kernel) (by decide +kernel)
theorem q_43 : (Jvm.Cond.fieldLink "SnowRecorder$TextReader" (9 : Nat) "SnowRecorder$TextReader" "place" "I") ∈ AW := AW_m 162 (by decide +kernel) (by decide +kernel)
theorem q_45 : (Jvm.Cond.fieldLink "SnowRecorder$TextReader" (15 : Nat) "SnowRecorder$TextReader" "code" "I") ∈ AW := AW_m 164 (by decide +kernel) (by decide +kernel)
theorem q_46 : (Jvm.Cond.fieldLink "SnowRecorder$TextReader" (18 : Nat) "SnowRecorder$TextReader" "text" "[B") ∈ AW := AW_m 165 (by decide +kernel) (by decide +kernel)
theorem q_47 : (Jvm.Cond.fieldLink "SnowRecorder$TextReader" (22 : Nat) "SnowRecorder$TextReader" "end" "I") ∈ AW := AW_m 166 (by decide +kernel) (by decide +kernel)
theorem q_48 : (Jvm.Cond.fieldLink "SnowRecorder$TextReader" (25 : Nat) "SnowRecorder$TextReader" "type" "I") ∈ AW := AW_m 167 (by decide +kernel) (by decide +kernel)
theorem q_49 : (Jvm.Cond.fieldLink "SnowRecorder$TextReader" (28 : Nat) "SnowRecorder$TextReader" "at" "I") ∈ AW := AW_m 168 (by decide +kernel) (by decide +kernel)
theorem q_5 : (Jvm.Cond.initialized "SnowRecorder$World") ∈ AW := AW_m 124 (by decide +kernel) (by decide +kernel)
theorem q_50 : (Jvm.Cond.fieldLink "SnowRecorder$TextReader" (31 : Nat) "SnowRecorder$TextReader" "behind" "I") ∈ AW := AW_m 169 (by decide +kernel) (by decide +kernel)
theorem q_51 : (Jvm.Cond.fieldLink "SnowRecorder$TextReader" (34 : Nat) "SnowRecorder$TextReader" "taken" "I") ∈ AW := AW_m 170 (by decide +kernel) (by decide +kernel)
theorem q_52 : (Jvm.Cond.fieldLink "SnowRecorder$TextReader" (37 : Nat) "SnowRecorder$TextReader" "toldTable" "I") ∈ AW := AW_m 171 (by decide +kernel) (by decide +kernel)
theorem q_53 : (Jvm.Cond.lays "SnowRecorder$TextReader" "SnowRecorder$TextReader" "place" "I") ∈ AW := AW_m 172 (by decide +kernel) (by decide +kernel)
theorem q_55 : (Jvm.Cond.lays "SnowRecorder$TextReader" "SnowRecorder$TextReader" "code" "I") ∈ AW := AW_m 174 (by decide +kernel) (by decide +kernel)
theorem q_57 : (Jvm.Cond.lays "SnowRecorder$TextReader" "SnowRecorder$TextReader" "text" "[B") ∈ AW := AW_m 176 (by decide +kernel) (by decide +kernel)
theorem q_59 : (Jvm.Cond.lays "SnowRecorder$TextReader" "SnowRecorder$TextReader" "end" "I") ∈ AW := AW_m 178 (by decide +kernel) (by decide +kernel)
theorem q_6 : (Jvm.Cond.initialized "SnowRecorder$Pack") ∈ AW := AW_m 125 (by decide +kernel) (by decide +kernel)
theorem q_61 : (Jvm.Cond.lays "SnowRecorder$TextReader" "SnowRecorder$TextReader" "type" "I") ∈ AW := AW_m 180 (by decide +kernel) (by decide +kernel)
theorem q_63 : (Jvm.Cond.lays "SnowRecorder$TextReader" "SnowRecorder$TextReader" "at" "I") ∈ AW := AW_m 182 (by decide +kernel) (by decide +kernel)
theorem q_65 : (Jvm.Cond.lays "SnowRecorder$TextReader" "SnowRecorder$TextReader" "behind" "I") ∈ AW := AW_m 184 (by decide +kernel) (by decide +kernel)
theorem q_67 : (Jvm.Cond.lays "SnowRecorder$TextReader" "SnowRecorder$TextReader" "taken" "I") ∈ AW := AW_m 186 (by decide +kernel) (by decide +kernel)
theorem q_69 : (Jvm.Cond.lays "SnowRecorder$TextReader" "SnowRecorder$TextReader" "toldTable" "I") ∈ AW := AW_m 188 (by decide +kernel) (by decide +kernel)
theorem q_7 : (Jvm.Cond.initialized "SnowRecorder$Notes") ∈ AW := AW_m 126 (by decide +kernel) (by decide +kernel)
theorem q_72 : (Jvm.Cond.arrayClass Jvm.ClassFile.FieldType.byte) ∈ AW := AW_m 191 (by decide +kernel) (by decide +kernel)
theorem q_78 : (Jvm.Cond.methodLink "SnowRecorder$Plan" (3 : Nat) ({ cls := "java/lang/Object", name := "<init>", desc := "()V" } : Jvm.MethodName)) ∈ AW := AW_m 197 (by decide +kernel) (by decide +kernel)
theorem q_8 : (Jvm.Cond.initialized "SnowRecorder$Pit") ∈ AW := AW_m 127 (by decide +kernel) (by decide +kernel)
theorem q_81 : (Jvm.Cond.methodLink "SnowRecorder$Plan" (40 : Nat) ({ cls := "[I", name := "clone", desc := "()Ljava/lang/Object;" } : Jvm.MethodName)) ∈ AW := AW_m 200 (by decide +kernel) (by decide +kernel)
theorem q_82 : (Jvm.Cond.sameMethod "[I" "java/lang/Object" "clone" "()Ljava/lang/Object;") ∈ AW := AW_m 201 (by decide +kernel) (by decide +kernel)
theorem q_83 : (Jvm.Cond.native ({ cls := "java/lang/Object", name := "clone", desc := "()Ljava/lang/Object;" } : Jvm.MethodName)) ∈ AW := AW_m 202 (by decide +kernel) (by decide +kernel)
theorem q_84 : (Jvm.Cond.instanceMethod ({ cls := "java/lang/Object", name := "clone", desc := "()Ljava/lang/Object;" } : Jvm.MethodName)) ∈ AW := AW_m 203 (by decide +kernel) (by decide +kernel)
theorem q_85 : (Jvm.Cond.selects "[I" ({ cls := "[I", name := "clone", desc := "()Ljava/lang/Object;" } : Jvm.MethodName) ({ cls := "java/lang/Object", name := "clone", desc := "()Ljava/lang/Object;" } : Jvm.MethodName)) ∈ AW := AW_m 204 (by decide +kernel) (by decide +kernel)
theorem q_87 : (Jvm.Cond.classLink "SnowRecorder$Plan" (41 : Nat) "[I") ∈ AW := AW_m 206 (by decide +kernel) (by decide +kernel)
theorem q_88 : (Jvm.Cond.fieldLink "SnowRecorder$Plan" (9 : Nat) "SnowRecorder$Plan" "slopes" "I") ∈ AW := AW_m 207 (by decide +kernel) (by decide +kernel)
theorem q_92 : (Jvm.Cond.fieldLink "SnowRecorder$Plan" (15 : Nat) "SnowRecorder$Plan" "hours" "I") ∈ AW := AW_m 211 (by decide +kernel) (by decide +kernel)
theorem q_95 : (Jvm.Cond.fieldLink "SnowRecorder$Plan" (18 : Nat) "SnowRecorder$Plan" "untoldAir" "I") ∈ AW := AW_m 214 (by decide +kernel) (by decide +kernel)
theorem q_96 : (Jvm.Cond.fieldLink "SnowRecorder$Plan" (21 : Nat) "SnowRecorder$Plan" "steep" "[I") ∈ AW := AW_m 215 (by decide +kernel) (by decide +kernel)
theorem mi_yX3_init : zWi yX3_init cX3_init 1 := ⟨q_151, q_6, q_152⟩
theorem mi_yJ5_init_d00df : zWi yJ5_init_d00df cJ5_init_d00df 2 := ⟨q_323, q_11, q_324⟩
theorem mi_yX8_init : zWi yX8_init cX8_init 2 := ⟨q_144, q_5, q_145⟩
theorem mi_yX2_init : zWi yX2_init cX2_init 1 := ⟨q_213, q_7, q_214⟩
theorem mi_yX4_init : zWi yX4_init cX4_init 1 := ⟨q_236, q_8, q_237⟩
theorem inA_X3 : ∀ w ∈ u_ws RX3 TX3 3, w ∈ AW := show ∀ w ∈ ([Cond.lays "SnowRecorder$Pack" "SnowRecorder$Pack" "size" "I", Cond.lays "SnowRecorder$Pack" "SnowRecorder$Pack" "runoff" "I", Cond.laysFinal "SnowRecorder$Pack" "SnowRecorder$Pack" "cells" "[I"] : List Cond), w ∈ AW from List.forall_mem_cons.mpr ⟨q_166, List.forall_mem_cons.mpr ⟨q_168, List.forall_mem_cons.mpr ⟨q_170, fun _ h => absurd h List.not_mem_nil⟩⟩⟩
theorem inA_X8 : ∀ w ∈ u_ws RX8 TX8 7, w ∈ AW := show ∀ w ∈ ([Cond.lays "SnowRecorder$World" "SnowRecorder$World" "time" "I", Cond.lays "SnowRecorder$World" "SnowRecorder$World" "names" "I", Cond.lays "SnowRecorder$World" "SnowRecorder$World" "taken" "I", Cond.lays "SnowRecorder$World" "SnowRecorder$World" "slid" "I", Cond.lays "SnowRecorder$World" "SnowRecorder$World" "slides" "I", Cond.lays "SnowRecorder$World" "SnowRecorder$World" "pits" "I", Cond.laysFinal "SnowRecorder$World" "SnowRecorder$World" "packs" "[LSnowRecorder$Pack;"] : List Cond), w ∈ AW from List.forall_mem_cons.mpr ⟨q_192, List.forall_mem_cons.mpr ⟨q_194, List.forall_mem_cons.mpr ⟨q_196, List.forall_mem_cons.mpr ⟨q_198, List.forall_mem_cons.mpr ⟨q_200, List.forall_mem_cons.mpr ⟨q_202, List.forall_mem_cons.mpr ⟨q_204, fun _ h => absurd h List.not_mem_nil⟩⟩⟩⟩⟩⟩⟩
theorem inA_X2 : ∀ w ∈ u_ws RX2 TX2 4, w ∈ AW := show ∀ w ∈ ([Cond.lays "SnowRecorder$Notes" "SnowRecorder$Notes" "size" "I", Cond.laysFinal "SnowRecorder$Notes" "SnowRecorder$Notes" "slope" "[I", Cond.laysFinal "SnowRecorder$Notes" "SnowRecorder$Notes" "hours" "[I", Cond.laysFinal "SnowRecorder$Notes" "SnowRecorder$Notes" "depth" "[I"] : List Cond), w ∈ AW from List.forall_mem_cons.mpr ⟨q_225, List.forall_mem_cons.mpr ⟨q_227, List.forall_mem_cons.mpr ⟨q_229, List.forall_mem_cons.mpr ⟨q_231, fun _ h => absurd h List.not_mem_nil⟩⟩⟩⟩
theorem inA_X1 : ∀ w ∈ u_ws RX1 TX1 1, w ∈ AW := show ∀ w ∈ ([Cond.laysFinal "SnowRecorder$Likeness" "SnowRecorder$Likeness" "row" "[I"] : List Cond), w ∈ AW from List.forall_mem_cons.mpr ⟨q_314, fun _ h => absurd h List.not_mem_nil⟩
theorem inA_X7 : ∀ w ∈ u_ws RX7 TX7 9, w ∈ AW := show ∀ w ∈ ([Cond.lays "SnowRecorder$TextReader" "SnowRecorder$TextReader" "place" "I", Cond.lays "SnowRecorder$TextReader" "SnowRecorder$TextReader" "code" "I", Cond.lays "SnowRecorder$TextReader" "SnowRecorder$TextReader" "text" "[B", Cond.lays "SnowRecorder$TextReader" "SnowRecorder$TextReader" "end" "I", Cond.lays "SnowRecorder$TextReader" "SnowRecorder$TextReader" "type" "I", Cond.lays "SnowRecorder$TextReader" "SnowRecorder$TextReader" "at" "I", Cond.lays "SnowRecorder$TextReader" "SnowRecorder$TextReader" "behind" "I", Cond.lays "SnowRecorder$TextReader" "SnowRecorder$TextReader" "taken" "I", Cond.lays "SnowRecorder$TextReader" "SnowRecorder$TextReader" "toldTable" "I"] : List Cond), w ∈ AW from List.forall_mem_cons.mpr ⟨q_53, List.forall_mem_cons.mpr ⟨q_55, List.forall_mem_cons.mpr ⟨q_57, List.forall_mem_cons.mpr ⟨q_59, List.forall_mem_cons.mpr ⟨q_61, List.forall_mem_cons.mpr ⟨q_63, List.forall_mem_cons.mpr ⟨q_65, List.forall_mem_cons.mpr ⟨q_67, List.forall_mem_cons.mpr ⟨q_69, fun _ h => absurd h List.not_mem_nil⟩⟩⟩⟩⟩⟩⟩⟩⟩
theorem inA_X4 : ∀ w ∈ u_ws RX4 TX4 3, w ∈ AW := show ∀ w ∈ ([Cond.lays "SnowRecorder$Pit" "SnowRecorder$Pit" "slope" "I", Cond.lays "SnowRecorder$Pit" "SnowRecorder$Pit" "time" "I", Cond.laysFinal "SnowRecorder$Pit" "SnowRecorder$Pit" "pack" "LSnowRecorder$Pack;"] : List Cond), w ∈ AW from List.forall_mem_cons.mpr ⟨q_250, List.forall_mem_cons.mpr ⟨q_252, List.forall_mem_cons.mpr ⟨q_254, fun _ h => absurd h List.not_mem_nil⟩⟩⟩
theorem inA_X5 : ∀ w ∈ u_ws RX5 TX5 9, w ∈ AW := show ∀ w ∈ ([Cond.lays "SnowRecorder$Plan" "SnowRecorder$Plan" "slopes" "I", Cond.lays "SnowRecorder$Plan" "SnowRecorder$Plan" "hours" "I", Cond.lays "SnowRecorder$Plan" "SnowRecorder$Plan" "untoldAir" "I", Cond.laysFinal "SnowRecorder$Plan" "SnowRecorder$Plan" "steep" "[I", Cond.laysFinal "SnowRecorder$Plan" "SnowRecorder$Plan" "open" "[I", Cond.laysFinal "SnowRecorder$Plan" "SnowRecorder$Plan" "air" "[I", Cond.laysFinal "SnowRecorder$Plan" "SnowRecorder$Plan" "fall" "[I", Cond.laysFinal "SnowRecorder$Plan" "SnowRecorder$Plan" "much" "[I", Cond.laysFinal "SnowRecorder$Plan" "SnowRecorder$Plan" "table" "[I"] : List Cond), w ∈ AW from List.forall_mem_cons.mpr ⟨q_115, List.forall_mem_cons.mpr ⟨q_117, List.forall_mem_cons.mpr ⟨q_119, List.forall_mem_cons.mpr ⟨q_121, List.forall_mem_cons.mpr ⟨q_123, List.forall_mem_cons.mpr ⟨q_125, List.forall_mem_cons.mpr ⟨q_127, List.forall_mem_cons.mpr ⟨q_129, List.forall_mem_cons.mpr ⟨q_131, fun _ h => absurd h List.not_mem_nil⟩⟩⟩⟩⟩⟩⟩⟩⟩
theorem inA_X0 : ∀ w ∈ u_ws RX0 TX0 4, w ∈ AW := show ∀ w ∈ ([Cond.lays "SnowRecorder$Guesses" "SnowRecorder$Guesses" "many" "I", Cond.lays "SnowRecorder$Guesses" "SnowRecorder$Guesses" "first" "I", Cond.laysFinal "SnowRecorder$Guesses" "SnowRecorder$Guesses" "unlike" "[I", Cond.laysFinal "SnowRecorder$Guesses" "SnowRecorder$Guesses" "depths" "[[I"] : List Cond), w ∈ AW from List.forall_mem_cons.mpr ⟨q_298, List.forall_mem_cons.mpr ⟨q_300, List.forall_mem_cons.mpr ⟨q_302, List.forall_mem_cons.mpr ⟨q_304, fun _ h => absurd h List.not_mem_nil⟩⟩⟩⟩
theorem inA_J4 : ∀ w ∈ u_ws RJ4 TJ4 4, w ∈ AW := show ∀ w ∈ ([Cond.lays "java/lang/StringBuilder" "java/lang/AbstractStringBuilder" "value" "[B", Cond.lays "java/lang/StringBuilder" "java/lang/AbstractStringBuilder" "coder" "B", Cond.lays "java/lang/StringBuilder" "java/lang/AbstractStringBuilder" "maybeLatin1" "Z", Cond.lays "java/lang/StringBuilder" "java/lang/AbstractStringBuilder" "count" "I"] : List Cond), w ∈ AW from List.forall_mem_cons.mpr ⟨q_340, List.forall_mem_cons.mpr ⟨q_342, List.forall_mem_cons.mpr ⟨q_344, List.forall_mem_cons.mpr ⟨q_346, fun _ h => absurd h List.not_mem_nil⟩⟩⟩⟩
theorem inA_X6 : ∀ w ∈ u_ws RX6 TX6 6, w ∈ AW := show ∀ w ∈ ([Cond.laysFinal "SnowRecorder$State" "SnowRecorder$State" "now" "LSnowRecorder$World;", Cond.laysFinal "SnowRecorder$State" "SnowRecorder$State" "before" "[LSnowRecorder$World;", Cond.lays "SnowRecorder$State" "SnowRecorder$State" "acts" "I", Cond.laysFinal "SnowRecorder$State" "SnowRecorder$State" "pits" "[LSnowRecorder$Pit;", Cond.laysFinal "SnowRecorder$State" "SnowRecorder$State" "notes" "LSnowRecorder$Notes;", Cond.laysFinal "SnowRecorder$State" "SnowRecorder$State" "refused" "[I"] : List Cond), w ∈ AW from List.forall_mem_cons.mpr ⟨q_268, List.forall_mem_cons.mpr ⟨q_270, List.forall_mem_cons.mpr ⟨q_272, List.forall_mem_cons.mpr ⟨q_274, List.forall_mem_cons.mpr ⟨q_276, List.forall_mem_cons.mpr ⟨q_278, fun _ h => absurd h List.not_mem_nil⟩⟩⟩⟩⟩⟩
end
section
-- decode rows of ctor
theorem dX3_init_0 : decode cX3_init 0 = .ok (.aload_n 0, 1) := by decide +kernel
theorem dX3_init_1 : decode cX3_init 1 = .ok (.invokespecial 3, 3) := by decide +kernel
theorem dX3_init_4 : decode cX3_init 4 = .ok (.aload_n 0, 1) := by decide +kernel
theorem dX3_init_5 : decode cX3_init 5 = .ok (.iconst 0, 1) := by decide +kernel
theorem dX3_init_6 : decode cX3_init 6 = .ok (.putfield 9, 3) := by decide +kernel
theorem dX3_init_9 : decode cX3_init 9 = .ok (.aload_n 0, 1) := by decide +kernel
theorem dX3_init_10 : decode cX3_init 10 = .ok (.iconst 0, 1) := by decide +kernel
theorem dX3_init_11 : decode cX3_init 11 = .ok (.putfield 15, 3) := by decide +kernel
theorem dX3_init_14 : decode cX3_init 14 = .ok (.aload_n 0, 1) := by decide +kernel
theorem dX3_init_15 : decode cX3_init 15 = .ok (.bipush 84, 2) := by decide +kernel
theorem dX3_init_17 : decode cX3_init 17 = .ok (.newarray .int, 2) := by decide +kernel
theorem dX3_init_19 : decode cX3_init 19 = .ok (.putfield 18, 3) := by decide +kernel
theorem dX3_init_22 : decode cX3_init 22 = .ok (.return_, 1) := by decide +kernel
theorem dX8_init_0 : decode cX8_init 0 = .ok (.aload_n 0, 1) := by decide +kernel
theorem dX8_init_1 : decode cX8_init 1 = .ok (.invokespecial 3, 3) := by decide +kernel
theorem dX8_init_4 : decode cX8_init 4 = .ok (.aload_n 0, 1) := by decide +kernel
theorem dX8_init_5 : decode cX8_init 5 = .ok (.iconst 0, 1) := by decide +kernel
theorem dX8_init_6 : decode cX8_init 6 = .ok (.putfield 9, 3) := by decide +kernel
theorem dX8_init_9 : decode cX8_init 9 = .ok (.aload_n 0, 1) := by decide +kernel
theorem dX8_init_10 : decode cX8_init 10 = .ok (.iconst 0, 1) := by decide +kernel
theorem dX8_init_11 : decode cX8_init 11 = .ok (.putfield 15, 3) := by decide +kernel
theorem dX8_init_14 : decode cX8_init 14 = .ok (.aload_n 0, 1) := by decide +kernel
theorem dX8_init_15 : decode cX8_init 15 = .ok (.iconst 0, 1) := by decide +kernel
theorem dX8_init_16 : decode cX8_init 16 = .ok (.putfield 18, 3) := by decide +kernel
theorem dX8_init_19 : decode cX8_init 19 = .ok (.aload_n 0, 1) := by decide +kernel
theorem dX8_init_20 : decode cX8_init 20 = .ok (.iconst 0, 1) := by decide +kernel
theorem dX8_init_21 : decode cX8_init 21 = .ok (.putfield 21, 3) := by decide +kernel
theorem dX8_init_24 : decode cX8_init 24 = .ok (.aload_n 0, 1) := by decide +kernel
theorem dX8_init_25 : decode cX8_init 25 = .ok (.iconst 0, 1) := by decide +kernel
theorem dX8_init_26 : decode cX8_init 26 = .ok (.putfield 24, 3) := by decide +kernel
theorem dX8_init_29 : decode cX8_init 29 = .ok (.aload_n 0, 1) := by decide +kernel
theorem dX8_init_30 : decode cX8_init 30 = .ok (.iconst 0, 1) := by decide +kernel
theorem dX8_init_31 : decode cX8_init 31 = .ok (.putfield 27, 3) := by decide +kernel
theorem dX8_init_34 : decode cX8_init 34 = .ok (.aload_n 0, 1) := by decide +kernel
theorem dX8_init_35 : decode cX8_init 35 = .ok (.iconst 4, 1) := by decide +kernel
theorem dX8_init_36 : decode cX8_init 36 = .ok (.anewarray 30, 3) := by decide +kernel
theorem dX8_init_39 : decode cX8_init 39 = .ok (.putfield 32, 3) := by decide +kernel
theorem dX8_init_42 : decode cX8_init 42 = .ok (.iconst 0, 1) := by decide +kernel
theorem dX8_init_43 : decode cX8_init 43 = .ok (.istore_n 1, 1) := by decide +kernel
theorem dX8_init_44 : decode cX8_init 44 = .ok (.iload_n 1, 1) := by decide +kernel
theorem dX8_init_45 : decode cX8_init 45 = .ok (.aload_n 0, 1) := by decide +kernel
theorem dX8_init_46 : decode cX8_init 46 = .ok (.getfield 32, 3) := by decide +kernel
theorem dX8_init_49 : decode cX8_init 49 = .ok (.arraylength, 1) := by decide +kernel
theorem dX8_init_50 : decode cX8_init 50 = .ok (.if_icmp .ge 22, 3) := by decide +kernel
theorem dX8_init_53 : decode cX8_init 53 = .ok (.aload_n 0, 1) := by decide +kernel
theorem dX8_init_54 : decode cX8_init 54 = .ok (.getfield 32, 3) := by decide +kernel
theorem dX8_init_57 : decode cX8_init 57 = .ok (.iload_n 1, 1) := by decide +kernel
theorem dX8_init_58 : decode cX8_init 58 = .ok (.new 30, 3) := by decide +kernel
theorem dX8_init_61 : decode cX8_init 61 = .ok (.dup, 1) := by decide +kernel
theorem dX8_init_62 : decode cX8_init 62 = .ok (.invokespecial 36, 3) := by decide +kernel
theorem dX8_init_65 : decode cX8_init 65 = .ok (.aastore, 1) := by decide +kernel
theorem dX8_init_66 : decode cX8_init 66 = .ok (.iinc 1 1, 3) := by decide +kernel
theorem dX8_init_69 : decode cX8_init 69 = .ok (.goto (-25), 3) := by decide +kernel
theorem dX8_init_72 : decode cX8_init 72 = .ok (.return_, 1) := by decide +kernel
theorem dX2_init_0 : decode cX2_init 0 = .ok (.aload_n 0, 1) := by decide +kernel
theorem dX2_init_1 : decode cX2_init 1 = .ok (.invokespecial 3, 3) := by decide +kernel
theorem dX2_init_4 : decode cX2_init 4 = .ok (.aload_n 0, 1) := by decide +kernel
theorem dX2_init_5 : decode cX2_init 5 = .ok (.iconst 0, 1) := by decide +kernel
theorem dX2_init_6 : decode cX2_init 6 = .ok (.putfield 9, 3) := by decide +kernel
theorem dX2_init_9 : decode cX2_init 9 = .ok (.aload_n 0, 1) := by decide +kernel
theorem dX2_init_10 : decode cX2_init 10 = .ok (.bipush 8, 2) := by decide +kernel
theorem dX2_init_12 : decode cX2_init 12 = .ok (.newarray .int, 2) := by decide +kernel
theorem dX2_init_14 : decode cX2_init 14 = .ok (.putfield 15, 3) := by decide +kernel
theorem dX2_init_17 : decode cX2_init 17 = .ok (.aload_n 0, 1) := by decide +kernel
theorem dX2_init_18 : decode cX2_init 18 = .ok (.bipush 8, 2) := by decide +kernel
theorem dX2_init_20 : decode cX2_init 20 = .ok (.newarray .int, 2) := by decide +kernel
theorem dX2_init_22 : decode cX2_init 22 = .ok (.putfield 19, 3) := by decide +kernel
theorem dX2_init_25 : decode cX2_init 25 = .ok (.aload_n 0, 1) := by decide +kernel
theorem dX2_init_26 : decode cX2_init 26 = .ok (.bipush 8, 2) := by decide +kernel
theorem dX2_init_28 : decode cX2_init 28 = .ok (.newarray .int, 2) := by decide +kernel
theorem dX2_init_30 : decode cX2_init 30 = .ok (.putfield 22, 3) := by decide +kernel
theorem dX2_init_33 : decode cX2_init 33 = .ok (.return_, 1) := by decide +kernel
theorem dX1_init_0 : decode cX1_init 0 = .ok (.aload_n 0, 1) := by decide +kernel
theorem dX1_init_1 : decode cX1_init 1 = .ok (.invokespecial 3, 3) := by decide +kernel
theorem dX1_init_4 : decode cX1_init 4 = .ok (.aload_n 0, 1) := by decide +kernel
theorem dX1_init_5 : decode cX1_init 5 = .ok (.bipush 13, 2) := by decide +kernel
theorem dX1_init_7 : decode cX1_init 7 = .ok (.newarray .int, 2) := by decide +kernel
theorem dX1_init_9 : decode cX1_init 9 = .ok (.putfield 9, 3) := by decide +kernel
theorem dX1_init_12 : decode cX1_init 12 = .ok (.return_, 1) := by decide +kernel
theorem dX7_init_0 : decode cX7_init 0 = .ok (.aload_n 0, 1) := by decide +kernel
theorem dX7_init_1 : decode cX7_init 1 = .ok (.invokespecial 3, 3) := by decide +kernel
theorem dX7_init_4 : decode cX7_init 4 = .ok (.aload_n 0, 1) := by decide +kernel
theorem dX7_init_5 : decode cX7_init 5 = .ok (.iconst (-1), 1) := by decide +kernel
theorem dX7_init_6 : decode cX7_init 6 = .ok (.putfield 9, 3) := by decide +kernel
theorem dX7_init_9 : decode cX7_init 9 = .ok (.aload_n 0, 1) := by decide +kernel
theorem dX7_init_10 : decode cX7_init 10 = .ok (.iconst 0, 1) := by decide +kernel
theorem dX7_init_11 : decode cX7_init 11 = .ok (.putfield 15, 3) := by decide +kernel
theorem dX7_init_14 : decode cX7_init 14 = .ok (.aload_n 0, 1) := by decide +kernel
theorem dX7_init_15 : decode cX7_init 15 = .ok (.iconst 0, 1) := by decide +kernel
theorem dX7_init_16 : decode cX7_init 16 = .ok (.newarray .byte, 2) := by decide +kernel
theorem dX7_init_18 : decode cX7_init 18 = .ok (.putfield 18, 3) := by decide +kernel
theorem dX7_init_21 : decode cX7_init 21 = .ok (.aload_n 0, 1) := by decide +kernel
theorem dX7_init_22 : decode cX7_init 22 = .ok (.iconst 0, 1) := by decide +kernel
theorem dX7_init_23 : decode cX7_init 23 = .ok (.putfield 22, 3) := by decide +kernel
theorem dX7_init_26 : decode cX7_init 26 = .ok (.aload_n 0, 1) := by decide +kernel
theorem dX7_init_27 : decode cX7_init 27 = .ok (.iconst 0, 1) := by decide +kernel
theorem dX7_init_28 : decode cX7_init 28 = .ok (.putfield 25, 3) := by decide +kernel
theorem dX7_init_31 : decode cX7_init 31 = .ok (.aload_n 0, 1) := by decide +kernel
theorem dX7_init_32 : decode cX7_init 32 = .ok (.iconst 0, 1) := by decide +kernel
theorem dX7_init_33 : decode cX7_init 33 = .ok (.putfield 28, 3) := by decide +kernel
theorem dX7_init_36 : decode cX7_init 36 = .ok (.aload_n 0, 1) := by decide +kernel
theorem dX7_init_37 : decode cX7_init 37 = .ok (.iconst 0, 1) := by decide +kernel
theorem dX7_init_38 : decode cX7_init 38 = .ok (.putfield 31, 3) := by decide +kernel
theorem dX7_init_41 : decode cX7_init 41 = .ok (.aload_n 0, 1) := by decide +kernel
theorem dX7_init_42 : decode cX7_init 42 = .ok (.iconst 0, 1) := by decide +kernel
theorem dX7_init_43 : decode cX7_init 43 = .ok (.putfield 34, 3) := by decide +kernel
theorem dX7_init_46 : decode cX7_init 46 = .ok (.aload_n 0, 1) := by decide +kernel
theorem dX7_init_47 : decode cX7_init 47 = .ok (.iconst 0, 1) := by decide +kernel
theorem dX7_init_48 : decode cX7_init 48 = .ok (.putfield 37, 3) := by decide +kernel
theorem dX7_init_51 : decode cX7_init 51 = .ok (.return_, 1) := by decide +kernel
theorem dX4_init_0 : decode cX4_init 0 = .ok (.aload_n 0, 1) := by decide +kernel
theorem dX4_init_1 : decode cX4_init 1 = .ok (.invokespecial 1, 3) := by decide +kernel
theorem dX4_init_4 : decode cX4_init 4 = .ok (.aload_n 0, 1) := by decide +kernel
theorem dX4_init_5 : decode cX4_init 5 = .ok (.iconst 0, 1) := by decide +kernel
theorem dX4_init_6 : decode cX4_init 6 = .ok (.putfield 7, 3) := by decide +kernel
theorem dX4_init_9 : decode cX4_init 9 = .ok (.aload_n 0, 1) := by decide +kernel
theorem dX4_init_10 : decode cX4_init 10 = .ok (.iconst 0, 1) := by decide +kernel
theorem dX4_init_11 : decode cX4_init 11 = .ok (.putfield 13, 3) := by decide +kernel
theorem dX4_init_14 : decode cX4_init 14 = .ok (.aload_n 0, 1) := by decide +kernel
theorem dX4_init_15 : decode cX4_init 15 = .ok (.new 16, 3) := by decide +kernel
theorem dX4_init_18 : decode cX4_init 18 = .ok (.dup, 1) := by decide +kernel
theorem dX4_init_19 : decode cX4_init 19 = .ok (.invokespecial 18, 3) := by decide +kernel
theorem dX4_init_22 : decode cX4_init 22 = .ok (.putfield 19, 3) := by decide +kernel
theorem dX4_init_25 : decode cX4_init 25 = .ok (.return_, 1) := by decide +kernel
theorem dX5_init_0 : decode cX5_init 0 = .ok (.aload_n 0, 1) := by decide +kernel
theorem dX5_init_1 : decode cX5_init 1 = .ok (.invokespecial 3, 3) := by decide +kernel
theorem dX5_init_4 : decode cX5_init 4 = .ok (.aload_n 0, 1) := by decide +kernel
theorem dX5_init_5 : decode cX5_init 5 = .ok (.iconst 0, 1) := by decide +kernel
theorem dX5_init_6 : decode cX5_init 6 = .ok (.putfield 9, 3) := by decide +kernel
theorem dX5_init_9 : decode cX5_init 9 = .ok (.aload_n 0, 1) := by decide +kernel
theorem dX5_init_10 : decode cX5_init 10 = .ok (.iconst 0, 1) := by decide +kernel
theorem dX5_init_11 : decode cX5_init 11 = .ok (.putfield 15, 3) := by decide +kernel
theorem dX5_init_14 : decode cX5_init 14 = .ok (.aload_n 0, 1) := by decide +kernel
theorem dX5_init_15 : decode cX5_init 15 = .ok (.iconst 0, 1) := by decide +kernel
theorem dX5_init_16 : decode cX5_init 16 = .ok (.putfield 18, 3) := by decide +kernel
theorem dX5_init_19 : decode cX5_init 19 = .ok (.aload_n 0, 1) := by decide +kernel
theorem dX5_init_20 : decode cX5_init 20 = .ok (.iconst 4, 1) := by decide +kernel
theorem dX5_init_21 : decode cX5_init 21 = .ok (.newarray .int, 2) := by decide +kernel
theorem dX5_init_23 : decode cX5_init 23 = .ok (.putfield 21, 3) := by decide +kernel
theorem dX5_init_26 : decode cX5_init 26 = .ok (.aload_n 0, 1) := by decide +kernel
theorem dX5_init_27 : decode cX5_init 27 = .ok (.iconst 4, 1) := by decide +kernel
theorem dX5_init_28 : decode cX5_init 28 = .ok (.newarray .int, 2) := by decide +kernel
theorem dX5_init_30 : decode cX5_init 30 = .ok (.putfield 25, 3) := by decide +kernel
theorem dX5_init_33 : decode cX5_init 33 = .ok (.aload_n 0, 1) := by decide +kernel
theorem dX5_init_34 : decode cX5_init 34 = .ok (.bipush 24, 2) := by decide +kernel
theorem dX5_init_36 : decode cX5_init 36 = .ok (.newarray .int, 2) := by decide +kernel
theorem dX5_init_38 : decode cX5_init 38 = .ok (.putfield 28, 3) := by decide +kernel
theorem dX5_init_41 : decode cX5_init 41 = .ok (.aload_n 0, 1) := by decide +kernel
theorem dX5_init_42 : decode cX5_init 42 = .ok (.bipush 24, 2) := by decide +kernel
theorem dX5_init_44 : decode cX5_init 44 = .ok (.newarray .int, 2) := by decide +kernel
theorem dX5_init_46 : decode cX5_init 46 = .ok (.putfield 31, 3) := by decide +kernel
theorem dX5_init_49 : decode cX5_init 49 = .ok (.aload_n 0, 1) := by decide +kernel
theorem dX5_init_50 : decode cX5_init 50 = .ok (.bipush 24, 2) := by decide +kernel
theorem dX5_init_52 : decode cX5_init 52 = .ok (.newarray .int, 2) := by decide +kernel
theorem dX5_init_54 : decode cX5_init 54 = .ok (.putfield 34, 3) := by decide +kernel
theorem dX5_init_57 : decode cX5_init 57 = .ok (.aload_n 0, 1) := by decide +kernel
theorem dX5_init_58 : decode cX5_init 58 = .ok (.getstatic 37, 3) := by decide +kernel
theorem dX5_init_61 : decode cX5_init 61 = .ok (.invokevirtual 40, 3) := by decide +kernel
theorem dX5_init_64 : decode cX5_init 64 = .ok (.checkcast 41, 3) := by decide +kernel
theorem dX5_init_67 : decode cX5_init 67 = .ok (.putfield 45, 3) := by decide +kernel
theorem dX5_init_70 : decode cX5_init 70 = .ok (.return_, 1) := by decide +kernel
theorem dX0_init_0 : decode cX0_init 0 = .ok (.aload_n 0, 1) := by decide +kernel
theorem dX0_init_1 : decode cX0_init 1 = .ok (.invokespecial 3, 3) := by decide +kernel
theorem dX0_init_4 : decode cX0_init 4 = .ok (.aload_n 0, 1) := by decide +kernel
theorem dX0_init_5 : decode cX0_init 5 = .ok (.iconst 0, 1) := by decide +kernel
theorem dX0_init_6 : decode cX0_init 6 = .ok (.putfield 9, 3) := by decide +kernel
theorem dX0_init_9 : decode cX0_init 9 = .ok (.aload_n 0, 1) := by decide +kernel
theorem dX0_init_10 : decode cX0_init 10 = .ok (.iconst (-1), 1) := by decide +kernel
theorem dX0_init_11 : decode cX0_init 11 = .ok (.putfield 15, 3) := by decide +kernel
theorem dX0_init_14 : decode cX0_init 14 = .ok (.aload_n 0, 1) := by decide +kernel
theorem dX0_init_15 : decode cX0_init 15 = .ok (.iconst 4, 1) := by decide +kernel
theorem dX0_init_16 : decode cX0_init 16 = .ok (.newarray .int, 2) := by decide +kernel
theorem dX0_init_18 : decode cX0_init 18 = .ok (.putfield 18, 3) := by decide +kernel
theorem dX0_init_21 : decode cX0_init 21 = .ok (.aload_n 0, 1) := by decide +kernel
theorem dX0_init_22 : decode cX0_init 22 = .ok (.iconst 4, 1) := by decide +kernel
theorem dX0_init_23 : decode cX0_init 23 = .ok (.sipush 1200, 3) := by decide +kernel
theorem dX0_init_26 : decode cX0_init 26 = .ok (.multianewarray 22 2, 4) := by decide +kernel
theorem dX0_init_30 : decode cX0_init 30 = .ok (.putfield 24, 3) := by decide +kernel
theorem dX0_init_33 : decode cX0_init 33 = .ok (.return_, 1) := by decide +kernel
theorem dJ5_init_d00df_0 : decode cJ5_init_d00df 0 = .ok (.aload_n 0, 1) := by decide +kernel
theorem dJ5_init_d00df_1 : decode cJ5_init_d00df 1 = .ok (.invokespecial 3, 3) := by decide +kernel
theorem dJ5_init_d00df_4 : decode cJ5_init_d00df 4 = .ok (.getstatic 18, 3) := by decide +kernel
theorem dJ5_init_d00df_7 : decode cJ5_init_d00df 7 = .ok (.ifCond .eq 18, 3) := by decide +kernel
theorem dJ5_init_d00df_10 : decode cJ5_init_d00df 10 = .ok (.aload_n 0, 1) := by decide +kernel
theorem dJ5_init_d00df_11 : decode cJ5_init_d00df 11 = .ok (.iload_n 1, 1) := by decide +kernel
theorem dJ5_init_d00df_12 : decode cJ5_init_d00df 12 = .ok (.newarray .byte, 2) := by decide +kernel
theorem dJ5_init_d00df_14 : decode cJ5_init_d00df 14 = .ok (.putfield 15, 3) := by decide +kernel
theorem dJ5_init_d00df_17 : decode cJ5_init_d00df 17 = .ok (.aload_n 0, 1) := by decide +kernel
theorem dJ5_init_d00df_18 : decode cJ5_init_d00df 18 = .ok (.iconst 0, 1) := by decide +kernel
theorem dJ5_init_d00df_19 : decode cJ5_init_d00df 19 = .ok (.putfield 22, 3) := by decide +kernel
theorem dJ5_init_d00df_22 : decode cJ5_init_d00df 22 = .ok (.goto 16, 3) := by decide +kernel
theorem dJ5_init_d00df_38 : decode cJ5_init_d00df 38 = .ok (.return_, 1) := by decide +kernel
theorem dJ4_init_da8c8_0 : decode cJ4_init_da8c8 0 = .ok (.aload_n 0, 1) := by decide +kernel
theorem dJ4_init_da8c8_1 : decode cJ4_init_da8c8 1 = .ok (.bipush 16, 2) := by decide +kernel
theorem dJ4_init_da8c8_3 : decode cJ4_init_da8c8 3 = .ok (.invokespecial 1, 3) := by decide +kernel
theorem dJ4_init_da8c8_6 : decode cJ4_init_da8c8 6 = .ok (.return_, 1) := by decide +kernel
theorem dX6_init_0 : decode cX6_init 0 = .ok (.aload_n 0, 1) := by decide +kernel
theorem dX6_init_1 : decode cX6_init 1 = .ok (.invokespecial 3, 3) := by decide +kernel
theorem dX6_init_4 : decode cX6_init 4 = .ok (.aload_n 0, 1) := by decide +kernel
theorem dX6_init_5 : decode cX6_init 5 = .ok (.new 9, 3) := by decide +kernel
theorem dX6_init_8 : decode cX6_init 8 = .ok (.dup, 1) := by decide +kernel
theorem dX6_init_9 : decode cX6_init 9 = .ok (.invokespecial 11, 3) := by decide +kernel
theorem dX6_init_12 : decode cX6_init 12 = .ok (.putfield 12, 3) := by decide +kernel
theorem dX6_init_15 : decode cX6_init 15 = .ok (.aload_n 0, 1) := by decide +kernel
theorem dX6_init_16 : decode cX6_init 16 = .ok (.bipush 40, 2) := by decide +kernel
theorem dX6_init_18 : decode cX6_init 18 = .ok (.anewarray 9, 3) := by decide +kernel
theorem dX6_init_21 : decode cX6_init 21 = .ok (.putfield 18, 3) := by decide +kernel
theorem dX6_init_24 : decode cX6_init 24 = .ok (.aload_n 0, 1) := by decide +kernel
theorem dX6_init_25 : decode cX6_init 25 = .ok (.iconst 0, 1) := by decide +kernel
theorem dX6_init_26 : decode cX6_init 26 = .ok (.putfield 22, 3) := by decide +kernel
theorem dX6_init_29 : decode cX6_init 29 = .ok (.aload_n 0, 1) := by decide +kernel
theorem dX6_init_30 : decode cX6_init 30 = .ok (.bipush 6, 2) := by decide +kernel
theorem dX6_init_32 : decode cX6_init 32 = .ok (.anewarray 26, 3) := by decide +kernel
theorem dX6_init_35 : decode cX6_init 35 = .ok (.putfield 28, 3) := by decide +kernel
theorem dX6_init_38 : decode cX6_init 38 = .ok (.aload_n 0, 1) := by decide +kernel
theorem dX6_init_39 : decode cX6_init 39 = .ok (.new 32, 3) := by decide +kernel
theorem dX6_init_42 : decode cX6_init 42 = .ok (.dup, 1) := by decide +kernel
theorem dX6_init_43 : decode cX6_init 43 = .ok (.invokespecial 34, 3) := by decide +kernel
theorem dX6_init_46 : decode cX6_init 46 = .ok (.putfield 35, 3) := by decide +kernel
theorem dX6_init_49 : decode cX6_init 49 = .ok (.aload_n 0, 1) := by decide +kernel
theorem dX6_init_50 : decode cX6_init 50 = .ok (.iconst 3, 1) := by decide +kernel
theorem dX6_init_51 : decode cX6_init 51 = .ok (.newarray .int, 2) := by decide +kernel
theorem dX6_init_53 : decode cX6_init 53 = .ok (.putfield 39, 3) := by decide +kernel
theorem dX6_init_56 : decode cX6_init 56 = .ok (.iconst 0, 1) := by decide +kernel
theorem dX6_init_57 : decode cX6_init 57 = .ok (.istore_n 1, 1) := by decide +kernel
theorem dX6_init_88 : decode cX6_init 88 = .ok (.iload_n 1, 1) := by decide +kernel
theorem dX6_init_89 : decode cX6_init 89 = .ok (.aload_n 0, 1) := by decide +kernel
theorem dX6_init_90 : decode cX6_init 90 = .ok (.getfield 28, 3) := by decide +kernel
theorem dX6_init_93 : decode cX6_init 93 = .ok (.arraylength, 1) := by decide +kernel
theorem dX6_init_94 : decode cX6_init 94 = .ok (.if_icmp .ge 22, 3) := by decide +kernel
theorem dX6_init_116 : decode cX6_init 116 = .ok (.return_, 1) := by decide +kernel
theorem dX6_init_97 : decode cX6_init 97 = .ok (.aload_n 0, 1) := by decide +kernel
theorem dX6_init_98 : decode cX6_init 98 = .ok (.getfield 28, 3) := by decide +kernel
theorem dX6_init_101 : decode cX6_init 101 = .ok (.iload_n 1, 1) := by decide +kernel
theorem dX6_init_102 : decode cX6_init 102 = .ok (.new 26, 3) := by decide +kernel
theorem dX6_init_105 : decode cX6_init 105 = .ok (.dup, 1) := by decide +kernel
theorem dX6_init_106 : decode cX6_init 106 = .ok (.invokespecial 43, 3) := by decide +kernel
theorem dX6_init_109 : decode cX6_init 109 = .ok (.aastore, 1) := by decide +kernel
theorem dX6_init_110 : decode cX6_init 110 = .ok (.iinc 1 1, 3) := by decide +kernel
theorem dX6_init_113 : decode cX6_init 113 = .ok (.goto (-25), 3) := by decide +kernel
theorem dX6_init_58 : decode cX6_init 58 = .ok (.iload_n 1, 1) := by decide +kernel
theorem dX6_init_59 : decode cX6_init 59 = .ok (.aload_n 0, 1) := by decide +kernel
theorem dX6_init_60 : decode cX6_init 60 = .ok (.getfield 18, 3) := by decide +kernel
theorem dX6_init_63 : decode cX6_init 63 = .ok (.arraylength, 1) := by decide +kernel
theorem dX6_init_64 : decode cX6_init 64 = .ok (.if_icmp .ge 22, 3) := by decide +kernel
theorem dX6_init_86 : decode cX6_init 86 = .ok (.iconst 0, 1) := by decide +kernel
theorem dX6_init_87 : decode cX6_init 87 = .ok (.istore_n 1, 1) := by decide +kernel
theorem dX6_init_67 : decode cX6_init 67 = .ok (.aload_n 0, 1) := by decide +kernel
theorem dX6_init_68 : decode cX6_init 68 = .ok (.getfield 18, 3) := by decide +kernel
theorem dX6_init_71 : decode cX6_init 71 = .ok (.iload_n 1, 1) := by decide +kernel
theorem dX6_init_72 : decode cX6_init 72 = .ok (.new 9, 3) := by decide +kernel
theorem dX6_init_75 : decode cX6_init 75 = .ok (.dup, 1) := by decide +kernel
theorem dX6_init_76 : decode cX6_init 76 = .ok (.invokespecial 11, 3) := by decide +kernel
theorem dX6_init_79 : decode cX6_init 79 = .ok (.aastore, 1) := by decide +kernel
theorem dX6_init_80 : decode cX6_init 80 = .ok (.iinc 1 1, 3) := by decide +kernel
theorem dX6_init_83 : decode cX6_init 83 = .ok (.goto (-25), 3) := by decide +kernel
end
section
def isPack (cs : Nat → ClassId) (ad : Nat → Nat) (g : Nat → va_E) (i : Nat) (sz ro : Int) (r : Nat → Int) : Prop := g i = oC 5 [.int (zI sz), .int (zI ro), .ref (ad (i + 1))] ∧ g (i + 1) = iA cs 84 r
def isWorld (cs : Nat → ClassId) (ad : Nat → Nat) (g : Nat → va_E) (i : Nat) (t : Nat → Int) (sz ro : Nat → Int) (r : Nat → Nat → Int) : Prop := g i = oC 10 [.int (zI (t 0)), .int (zI (t 1)), .int (zI (t 2)), .int (zI (t 3)), .int (zI (t 4)), .int (zI (t 5)), .ref (ad (i + 1))] ∧ (∃ a : Nat → Option Nat, g (i + 1) = rA (cs 3) 4 a ∧ ∀ k, k < 4 → a k = some (ad (i + 2 + 2 * k))) ∧ ∀ k, k < 4 → isPack cs ad g (i + 2 + 2 * k) (sz k) (ro k) (r k)

set_option maxRecDepth 100000 in
set_option maxHeartbeats 4000000 in
theorem c_X3_init (l : Launch) (D : va_G) (A : Nat → Prop) (cs : Nat → ClassId) (tt : Nat) (N : Nat) (ad : Nat → Nat) (g : Nat → va_E) (i a : Nat) (hi : i < N) (ha : ad i = a) (hg : g i = oC 5 [.int (zI 0), .int (zI 0), .null]) : zM l yX3_init cX3_init 1 none ({ frames := 1, cells := 1, slots := 84, locals := 60 } : Room) D A cs tt N ad g [.ref a] (rV fun N' ad' g' => N' = N + 1 ∧ (∀ j, j < N → ad' j = ad j) ∧ (∀ j, j < N → j ≠ i → g' j = g j) ∧ g' i = oC 5 [.int (zI 0), .int (zI 0), .ref (ad' N)] ∧ g' N = iA cs 84 (fun _ => 0)) := by
  refine z_of (by decide) (Nat.le_of_ble_eq_true rfl) ?_
  intro p e s m below meth c C hr hlk hnm
  refine z_lv (lv' := [(0, .ref a)]) [0] rfl ?_
  refine z_aload_n C 0 dX3_init_0 rfl ?_
  refine z_objInit C q_153 q_35 q_36 dX3_init_1 (Nat.le_of_ble_eq_true rfl) (Nat.le_of_ble_eq_true rfl) ?_
  refine z_aload_n C 0 dX3_init_4 rfl ?_
  refine z_iconst (z := 0) C dX3_init_5 rfl ?_
  refine z_put (fs' := [.int (zI (0)), .int (zI (0)), .null]) C (by omega) ha hg tyX3 tyX3_ok nmX3 rfl inA_X3 0 (by decide) q_154 rfl rfl rfl rfl (Nat.le_of_ble_eq_true rfl) rfl dX3_init_6 (fun g1 eg2 => ?_)
  have hg3 := up_s eg2
  refine z_aload_n C 0 dX3_init_9 rfl ?_
  refine z_iconst (z := 0) C dX3_init_10 rfl ?_
  refine z_put (fs' := [.int (zI (0)), .int (zI (0)), .null]) C (by omega) ha hg3 tyX3 tyX3_ok nmX3 rfl inA_X3 1 (by decide) q_159 rfl rfl rfl rfl (Nat.le_of_ble_eq_true rfl) rfl dX3_init_11 (fun g4 eg5 => ?_)
  have hg6 := up_s eg5
  refine z_aload_n C 0 dX3_init_14 rfl ?_
  refine z_bipush (z := 84) C dX3_init_15 (by decide) ?_
  refine z_newI C 84 rfl q_134 (by decide) (by decide) (by decide) dX3_init_17 (fun q7 ad8 g9 ea10 eg11 => ?_)
  have ha12 : zAt ad8 (N) q7 := up_s ea10
  have hg13 := up_s eg11
  have ha14 : zAt ad8 (i) (a) := up_n ea10 ha (by omega)
  have hg15 := up_n eg11 hg6 (by omega)
  refine z_putF (fs' := [.int (zI (0)), .int (zI (0)), .ref q7]) C (by omega) ha14 hg15 tyX3 tyX3_ok nmX3 rfl inA_X3 2 (by decide) q_162 rfl rfl hnm rfl rfl rfl (Nat.le_of_ble_eq_true rfl) rfl dX3_init_19 (fun g16 eg17 => ?_)
  have hg18 := up_s eg17
  have hg19 := up_n eg17 hg13 (by omega)
  exact z_vret C hr hlk dX3_init_22 (by decide) (by decide) (⟨rfl, rfl, fun j h1 => by rw [ea10, va_up_ne _ _ (by omega)], fun j h1 h2 => by rw [eg17, va_up_ne _ _ (by omega)]; rw [eg11, va_up_ne _ _ (by omega)]; rw [eg5, va_up_ne _ _ (by omega)]; rw [eg2, va_up_ne _ _ (by omega)], by rw [show ad8 N = _ from ha12]; exact hg18, hg19⟩)

set_option maxRecDepth 100000 in
set_option maxHeartbeats 4000000 in
theorem c_X8_init (l : Launch) (D : va_G) (A : Nat → Prop) (cs : Nat → ClassId) (tt : Nat) (ad : Nat → Nat) (g : Nat → va_E) (i a : Nat) (ha : ad i = a) (hg : g i = oC 10 [.int (zI 0), .int (zI 0), .int (zI 0), .int (zI 0), .int (zI 0), .int (zI 0), .null]) : zM l yX8_init cX8_init 2 none ({ frames := 2, cells := 9, slots := 352, locals := 120 } : Room) D A cs tt (i + 1) ad g [.ref a] (rV fun N' ad' g' => N' = i + 10 ∧ (∀ j, j < i + 1 → ad' j = ad j) ∧ (∀ j, j < i + 1 → j ≠ i → g' j = g j) ∧ isWorld cs ad' g' i (fun _ => 0) (fun _ => 0) (fun _ => 0) (fun _ _ => 0)) := by
  refine z_of (by decide) (Nat.le_of_ble_eq_true rfl) ?_
  intro p e s m below meth c C hr hlk hnm
  refine z_lv (lv' := [(0, .ref a)]) [0] rfl ?_
  refine z_aload_n C 0 dX8_init_0 rfl ?_
  refine z_objInit C q_146 q_35 q_36 dX8_init_1 (Nat.le_of_ble_eq_true rfl) (Nat.le_of_ble_eq_true rfl) ?_
  refine z_aload_n C 0 dX8_init_4 rfl ?_
  refine z_iconst (z := 0) C dX8_init_5 rfl ?_
  refine z_put (fs' := [.int (zI (0)), .int (zI (0)), .int (zI (0)), .int (zI (0)), .int (zI (0)), .int (zI (0)), .null]) C (lt_o (i := i) (c := 0) (d := 1) rfl) ha hg tyX8 tyX8_ok nmX8 rfl inA_X8 0 (by decide) q_173 rfl rfl rfl rfl (Nat.le_of_ble_eq_true rfl) rfl dX8_init_6 (fun g1 eg2 => ?_)
  have hg3 := up_s eg2
  refine z_aload_n C 0 dX8_init_9 rfl ?_
  refine z_iconst (z := 0) C dX8_init_10 rfl ?_
  refine z_put (fs' := [.int (zI (0)), .int (zI (0)), .int (zI (0)), .int (zI (0)), .int (zI (0)), .int (zI (0)), .null]) C (lt_o (i := i) (c := 0) (d := 1) rfl) ha hg3 tyX8 tyX8_ok nmX8 rfl inA_X8 1 (by decide) q_176 rfl rfl rfl rfl (Nat.le_of_ble_eq_true rfl) rfl dX8_init_11 (fun g4 eg5 => ?_)
  have hg6 := up_s eg5
  refine z_aload_n C 0 dX8_init_14 rfl ?_
  refine z_iconst (z := 0) C dX8_init_15 rfl ?_
  refine z_put (fs' := [.int (zI (0)), .int (zI (0)), .int (zI (0)), .int (zI (0)), .int (zI (0)), .int (zI (0)), .null]) C (lt_o (i := i) (c := 0) (d := 1) rfl) ha hg6 tyX8 tyX8_ok nmX8 rfl inA_X8 2 (by decide) q_179 rfl rfl rfl rfl (Nat.le_of_ble_eq_true rfl) rfl dX8_init_16 (fun g7 eg8 => ?_)
  have hg9 := up_s eg8
  refine z_aload_n C 0 dX8_init_19 rfl ?_
  refine z_iconst (z := 0) C dX8_init_20 rfl ?_
  refine z_put (fs' := [.int (zI (0)), .int (zI (0)), .int (zI (0)), .int (zI (0)), .int (zI (0)), .int (zI (0)), .null]) C (lt_o (i := i) (c := 0) (d := 1) rfl) ha hg9 tyX8 tyX8_ok nmX8 rfl inA_X8 3 (by decide) q_181 rfl rfl rfl rfl (Nat.le_of_ble_eq_true rfl) rfl dX8_init_21 (fun g10 eg11 => ?_)
  have hg12 := up_s eg11
  refine z_aload_n C 0 dX8_init_24 rfl ?_
  refine z_iconst (z := 0) C dX8_init_25 rfl ?_
  refine z_put (fs' := [.int (zI (0)), .int (zI (0)), .int (zI (0)), .int (zI (0)), .int (zI (0)), .int (zI (0)), .null]) C (lt_o (i := i) (c := 0) (d := 1) rfl) ha hg12 tyX8 tyX8_ok nmX8 rfl inA_X8 4 (by decide) q_183 rfl rfl rfl rfl (Nat.le_of_ble_eq_true rfl) rfl dX8_init_26 (fun g13 eg14 => ?_)
  have hg15 := up_s eg14
  refine z_aload_n C 0 dX8_init_29 rfl ?_
  refine z_iconst (z := 0) C dX8_init_30 rfl ?_
  refine z_put (fs' := [.int (zI (0)), .int (zI (0)), .int (zI (0)), .int (zI (0)), .int (zI (0)), .int (zI (0)), .null]) C (lt_o (i := i) (c := 0) (d := 1) rfl) ha hg15 tyX8 tyX8_ok nmX8 rfl inA_X8 5 (by decide) q_185 rfl rfl rfl rfl (Nat.le_of_ble_eq_true rfl) rfl dX8_init_31 (fun g16 eg17 => ?_)
  have hg18 := up_s eg17
  refine z_aload_n C 0 dX8_init_34 rfl ?_
  refine z_iconst (z := 4) C dX8_init_35 rfl ?_
  refine z_newR C 3 4 rfl rfl q_147 C.2.2.2.2.2.2.2.2.1.1 (by decide) (by decide) (by decide) dX8_init_36 (fun q19 ad20 g21 ea22 eg23 => ?_)
  have ha24 : zAt ad20 (i + 1) q19 := up_s ea22
  have hg25 := up_s eg23
  have ha26 : zAt ad20 (i) (a) := up_n ea22 ha (ne_o (i := i) (c := 0) (d := 1) rfl)
  have hg27 := up_n eg23 hg18 (ne_o (i := i) (c := 0) (d := 1) rfl)
  refine z_putF (fs' := [.int (zI (0)), .int (zI (0)), .int (zI (0)), .int (zI (0)), .int (zI (0)), .int (zI (0)), .ref q19]) C (lt_o (i := i) (c := 0) (d := 2) rfl) ha26 hg27 tyX8 tyX8_ok nmX8 rfl inA_X8 6 (by decide) q_188 rfl rfl hnm rfl rfl rfl (Nat.le_of_ble_eq_true rfl) rfl dX8_init_39 (fun g28 eg29 => ?_)
  have hg30 := up_s eg29
  refine z_iconst (z := 0) C dX8_init_42 rfl ?_
  refine z_istore_n (lv' := [(1, .int (zI (0))), (0, .ref a)]) C dX8_init_43 rfl (by decide) rfl ?_
  refine z_iload_n C 0 dX8_init_44 rfl ?_
  refine z_aload_n C 1 dX8_init_45 rfl ?_
  refine z_get (v := .ref q19) C (lt_o (i := i) (c := 0) (d := 2) rfl) ha26 hg30 rfl inA_X8 6 (by decide) q_188 rfl rfl dX8_init_46 ?_
  have hg31 := up_n eg29 hg25 (ne_o (i := i) (c := 1) (d := 0) rfl)
  refine z_alen (z := 4) C (lt_o (i := i) (c := 1) (d := 2) rfl) ha24 hg31 3 rfl rfl dX8_init_49 ?_
  refine z_icmp_ge (tgt := 72) C dX8_init_50 (by decide) (by omega) (by omega) (fun h => absurd h (by omega)) (fun _ => ?_)
  refine z_aload_n C 1 dX8_init_53 rfl ?_
  refine z_get (v := .ref q19) C (lt_o (i := i) (c := 0) (d := 2) rfl) ha26 hg30 rfl inA_X8 6 (by decide) q_188 rfl rfl dX8_init_54 ?_
  refine z_iload_n C 0 dX8_init_57 rfl ?_
  refine z_new (fs := [.int (zI (0)), .int (zI (0)), .null]) (ci := 5) C tyX3 tyX3_ok rfl inA_X3 q_147 q_149 q_6 (fun j hj => by rcases (show j = 0 ∨ j = 1 ∨ j = 2 by omega) with rfl | rfl | rfl <;> rfl) (by decide) (by decide) dX8_init_58 (fun q32 ad33 g34 ea35 eg36 => ?_)
  have ha37 : zAt ad33 (i + 1 + 1) q32 := up_s ea35
  have hg38 := up_s eg36
  refine z_dup C dX8_init_61 rfl ?_
  refine z_cIN (As := []) (rest := [.ref q32, .int (zI (0)), .ref q19]) C (c_X3_init l D A cs tt _ _ _ (i + 1 + 1) q32 (lt_o (i := i) (c := 2) (d := 3) rfl) ha37 hg38) mi_yX3_init n_150 rfl (by decide +kernel) (by decide) (Nat.le_of_ble_eq_true rfl) (by decide) dX8_init_62 rfl (kV fun M43 ad44 g45 hq46 => ?_)
  obtain ⟨rfl, hA39, hG40, hg41, hg42⟩ := hq46
  have ha47 : zAt ad44 (i + 1 + 1 + 1) (ad44 (i + 1 + 1 + 1)) := rfl
  have ha48 : zAt ad33 (i + 1) (q19) := up_n ea35 ha24 (ne_o (i := i) (c := 1) (d := 2) rfl)
  have ha49 : zAt ad44 (i + 1) (q19) := (hA39 (i + 1) (lt_o (i := i) (c := 1) (d := 3) rfl)).trans ha48
  have hg50 := up_n eg36 hg31 (ne_o (i := i) (c := 1) (d := 2) rfl)
  have hg51 := (hG40 (i + 1) (lt_o (i := i) (c := 1) (d := 3) rfl) (ne_o (i := i) (c := 1) (d := 2) rfl)).trans hg50
  have ha52 : zAt ad44 (i + 1 + 1) (q32) := (hA39 (i + 1 + 1) (lt_o (i := i) (c := 2) (d := 3) rfl)).trans ha37
  refine z_aast (q := (RX3, TX3, 3)) C (lt_o (i := i) (c := 1) (d := 4) rfl) ha49 hg51 3 rfl (lt_o (i := i) (c := 2) (d := 4) rfl) ha52 hg41 rfl (0) (by omega) (by omega) (by decide) dX8_init_65 (fun g53 eg54 => ?_)
  have hg55 := up_s eg54
  refine z_iinc (z := 1) (lv' := [(1, .int (zI (1))), (0, .ref a)]) (j := 0) C dX8_init_66 rfl (congrArg zI (by omega)) (by decide) rfl ?_
  refine z_goto (tgt := 44) C dX8_init_69 (by decide) ?_
  refine z_iload_n C 0 dX8_init_44 rfl ?_
  refine z_aload_n C 1 dX8_init_45 rfl ?_
  have ha56 : zAt ad33 (i) (a) := up_n ea35 ha26 (ne_o (i := i) (c := 0) (d := 2) rfl)
  have ha57 : zAt ad44 (i) (a) := (hA39 (i) (lt_o (i := i) (c := 0) (d := 3) rfl)).trans ha56
  have hg58 := up_n eg36 hg30 (ne_o (i := i) (c := 0) (d := 2) rfl)
  have hg59 := (hG40 (i) (lt_o (i := i) (c := 0) (d := 3) rfl) (ne_o (i := i) (c := 0) (d := 2) rfl)).trans hg58
  have hg60 := up_n eg54 hg59 (ne_o (i := i) (c := 0) (d := 1) rfl)
  refine z_get (v := .ref q19) C (lt_o (i := i) (c := 0) (d := 4) rfl) ha57 hg60 rfl inA_X8 6 (by decide) q_188 rfl rfl dX8_init_46 ?_
  refine z_alen (z := 4) C (lt_o (i := i) (c := 1) (d := 4) rfl) ha49 hg55 3 rfl rfl dX8_init_49 ?_
  refine z_icmp_ge (tgt := 72) C dX8_init_50 (by decide) (by omega) (by omega) (fun h => absurd h (by omega)) (fun _ => ?_)
  refine z_aload_n C 1 dX8_init_53 rfl ?_
  refine z_get (v := .ref q19) C (lt_o (i := i) (c := 0) (d := 4) rfl) ha57 hg60 rfl inA_X8 6 (by decide) q_188 rfl rfl dX8_init_54 ?_
  refine z_iload_n C 0 dX8_init_57 rfl ?_
  refine z_new (fs := [.int (zI (0)), .int (zI (0)), .null]) (ci := 5) C tyX3 tyX3_ok rfl inA_X3 q_147 q_149 q_6 (fun j hj => by rcases (show j = 0 ∨ j = 1 ∨ j = 2 by omega) with rfl | rfl | rfl <;> rfl) (by decide) (by decide) dX8_init_58 (fun q61 ad62 g63 ea64 eg65 => ?_)
  have ha66 : zAt ad62 (i + 1 + 1 + 1 + 1) q61 := up_s ea64
  have hg67 := up_s eg65
  refine z_dup C dX8_init_61 rfl ?_
  refine z_cIN (As := []) (rest := [.ref q61, .int (zI (1)), .ref q19]) C (c_X3_init l D A cs tt _ _ _ (i + 1 + 1 + 1 + 1) q61 (lt_o (i := i) (c := 4) (d := 5) rfl) ha66 hg67) mi_yX3_init n_150 rfl (by decide +kernel) (by decide) (Nat.le_of_ble_eq_true rfl) (by decide) dX8_init_62 rfl (kV fun M72 ad73 g74 hq75 => ?_)
  obtain ⟨rfl, hA68, hG69, hg70, hg71⟩ := hq75
  have ha76 : zAt ad73 (i + 1 + 1 + 1 + 1 + 1) (ad73 (i + 1 + 1 + 1 + 1 + 1)) := rfl
  have ha77 : zAt ad62 (i + 1) (q19) := up_n ea64 ha49 (ne_o (i := i) (c := 1) (d := 4) rfl)
  have ha78 : zAt ad73 (i + 1) (q19) := (hA68 (i + 1) (lt_o (i := i) (c := 1) (d := 5) rfl)).trans ha77
  have hg79 := up_n eg65 hg55 (ne_o (i := i) (c := 1) (d := 4) rfl)
  have hg80 := (hG69 (i + 1) (lt_o (i := i) (c := 1) (d := 5) rfl) (ne_o (i := i) (c := 1) (d := 4) rfl)).trans hg79
  have ha81 : zAt ad73 (i + 1 + 1 + 1 + 1) (q61) := (hA68 (i + 1 + 1 + 1 + 1) (lt_o (i := i) (c := 4) (d := 5) rfl)).trans ha66
  refine z_aast (q := (RX3, TX3, 3)) C (lt_o (i := i) (c := 1) (d := 6) rfl) ha78 hg80 3 rfl (lt_o (i := i) (c := 4) (d := 6) rfl) ha81 hg70 rfl (1) (by omega) (by omega) (by decide) dX8_init_65 (fun g82 eg83 => ?_)
  have hg84 := up_s eg83
  refine z_iinc (z := 2) (lv' := [(1, .int (zI (2))), (0, .ref a)]) (j := 0) C dX8_init_66 rfl (congrArg zI (by omega)) (by decide) rfl ?_
  refine z_goto (tgt := 44) C dX8_init_69 (by decide) ?_
  refine z_iload_n C 0 dX8_init_44 rfl ?_
  refine z_aload_n C 1 dX8_init_45 rfl ?_
  have ha85 : zAt ad62 (i) (a) := up_n ea64 ha57 (ne_o (i := i) (c := 0) (d := 4) rfl)
  have ha86 : zAt ad73 (i) (a) := (hA68 (i) (lt_o (i := i) (c := 0) (d := 5) rfl)).trans ha85
  have hg87 := up_n eg65 hg60 (ne_o (i := i) (c := 0) (d := 4) rfl)
  have hg88 := (hG69 (i) (lt_o (i := i) (c := 0) (d := 5) rfl) (ne_o (i := i) (c := 0) (d := 4) rfl)).trans hg87
  have hg89 := up_n eg83 hg88 (ne_o (i := i) (c := 0) (d := 1) rfl)
  refine z_get (v := .ref q19) C (lt_o (i := i) (c := 0) (d := 6) rfl) ha86 hg89 rfl inA_X8 6 (by decide) q_188 rfl rfl dX8_init_46 ?_
  refine z_alen (z := 4) C (lt_o (i := i) (c := 1) (d := 6) rfl) ha78 hg84 3 rfl rfl dX8_init_49 ?_
  refine z_icmp_ge (tgt := 72) C dX8_init_50 (by decide) (by omega) (by omega) (fun h => absurd h (by omega)) (fun _ => ?_)
  refine z_aload_n C 1 dX8_init_53 rfl ?_
  refine z_get (v := .ref q19) C (lt_o (i := i) (c := 0) (d := 6) rfl) ha86 hg89 rfl inA_X8 6 (by decide) q_188 rfl rfl dX8_init_54 ?_
  refine z_iload_n C 0 dX8_init_57 rfl ?_
  refine z_new (fs := [.int (zI (0)), .int (zI (0)), .null]) (ci := 5) C tyX3 tyX3_ok rfl inA_X3 q_147 q_149 q_6 (fun j hj => by rcases (show j = 0 ∨ j = 1 ∨ j = 2 by omega) with rfl | rfl | rfl <;> rfl) (by decide) (by decide) dX8_init_58 (fun q90 ad91 g92 ea93 eg94 => ?_)
  have ha95 : zAt ad91 (i + 1 + 1 + 1 + 1 + 1 + 1) q90 := up_s ea93
  have hg96 := up_s eg94
  refine z_dup C dX8_init_61 rfl ?_
  refine z_cIN (As := []) (rest := [.ref q90, .int (zI (2)), .ref q19]) C (c_X3_init l D A cs tt _ _ _ (i + 1 + 1 + 1 + 1 + 1 + 1) q90 (lt_o (i := i) (c := 6) (d := 7) rfl) ha95 hg96) mi_yX3_init n_150 rfl (by decide +kernel) (by decide) (Nat.le_of_ble_eq_true rfl) (by decide) dX8_init_62 rfl (kV fun M101 ad102 g103 hq104 => ?_)
  obtain ⟨rfl, hA97, hG98, hg99, hg100⟩ := hq104
  have ha105 : zAt ad102 (i + 1 + 1 + 1 + 1 + 1 + 1 + 1) (ad102 (i + 1 + 1 + 1 + 1 + 1 + 1 + 1)) := rfl
  have ha106 : zAt ad91 (i + 1) (q19) := up_n ea93 ha78 (ne_o (i := i) (c := 1) (d := 6) rfl)
  have ha107 : zAt ad102 (i + 1) (q19) := (hA97 (i + 1) (lt_o (i := i) (c := 1) (d := 7) rfl)).trans ha106
  have hg108 := up_n eg94 hg84 (ne_o (i := i) (c := 1) (d := 6) rfl)
  have hg109 := (hG98 (i + 1) (lt_o (i := i) (c := 1) (d := 7) rfl) (ne_o (i := i) (c := 1) (d := 6) rfl)).trans hg108
  have ha110 : zAt ad102 (i + 1 + 1 + 1 + 1 + 1 + 1) (q90) := (hA97 (i + 1 + 1 + 1 + 1 + 1 + 1) (lt_o (i := i) (c := 6) (d := 7) rfl)).trans ha95
  refine z_aast (q := (RX3, TX3, 3)) C (lt_o (i := i) (c := 1) (d := 8) rfl) ha107 hg109 3 rfl (lt_o (i := i) (c := 6) (d := 8) rfl) ha110 hg99 rfl (2) (by omega) (by omega) (by decide) dX8_init_65 (fun g111 eg112 => ?_)
  have hg113 := up_s eg112
  refine z_iinc (z := 3) (lv' := [(1, .int (zI (3))), (0, .ref a)]) (j := 0) C dX8_init_66 rfl (congrArg zI (by omega)) (by decide) rfl ?_
  refine z_goto (tgt := 44) C dX8_init_69 (by decide) ?_
  refine z_iload_n C 0 dX8_init_44 rfl ?_
  refine z_aload_n C 1 dX8_init_45 rfl ?_
  have ha114 : zAt ad91 (i) (a) := up_n ea93 ha86 (ne_o (i := i) (c := 0) (d := 6) rfl)
  have ha115 : zAt ad102 (i) (a) := (hA97 (i) (lt_o (i := i) (c := 0) (d := 7) rfl)).trans ha114
  have hg116 := up_n eg94 hg89 (ne_o (i := i) (c := 0) (d := 6) rfl)
  have hg117 := (hG98 (i) (lt_o (i := i) (c := 0) (d := 7) rfl) (ne_o (i := i) (c := 0) (d := 6) rfl)).trans hg116
  have hg118 := up_n eg112 hg117 (ne_o (i := i) (c := 0) (d := 1) rfl)
  refine z_get (v := .ref q19) C (lt_o (i := i) (c := 0) (d := 8) rfl) ha115 hg118 rfl inA_X8 6 (by decide) q_188 rfl rfl dX8_init_46 ?_
  refine z_alen (z := 4) C (lt_o (i := i) (c := 1) (d := 8) rfl) ha107 hg113 3 rfl rfl dX8_init_49 ?_
  refine z_icmp_ge (tgt := 72) C dX8_init_50 (by decide) (by omega) (by omega) (fun h => absurd h (by omega)) (fun _ => ?_)
  refine z_aload_n C 1 dX8_init_53 rfl ?_
  refine z_get (v := .ref q19) C (lt_o (i := i) (c := 0) (d := 8) rfl) ha115 hg118 rfl inA_X8 6 (by decide) q_188 rfl rfl dX8_init_54 ?_
  refine z_iload_n C 0 dX8_init_57 rfl ?_
  refine z_new (fs := [.int (zI (0)), .int (zI (0)), .null]) (ci := 5) C tyX3 tyX3_ok rfl inA_X3 q_147 q_149 q_6 (fun j hj => by rcases (show j = 0 ∨ j = 1 ∨ j = 2 by omega) with rfl | rfl | rfl <;> rfl) (by decide) (by decide) dX8_init_58 (fun q119 ad120 g121 ea122 eg123 => ?_)
  have ha124 : zAt ad120 (i + 1 + 1 + 1 + 1 + 1 + 1 + 1 + 1) q119 := up_s ea122
  have hg125 := up_s eg123
  refine z_dup C dX8_init_61 rfl ?_
  refine z_cIN (As := []) (rest := [.ref q119, .int (zI (3)), .ref q19]) C (c_X3_init l D A cs tt _ _ _ (i + 1 + 1 + 1 + 1 + 1 + 1 + 1 + 1) q119 (lt_o (i := i) (c := 8) (d := 9) rfl) ha124 hg125) mi_yX3_init n_150 rfl (by decide +kernel) (by decide) (Nat.le_of_ble_eq_true rfl) (by decide) dX8_init_62 rfl (kV fun M130 ad131 g132 hq133 => ?_)
  obtain ⟨rfl, hA126, hG127, hg128, hg129⟩ := hq133
  have ha134 : zAt ad131 (i + 1 + 1 + 1 + 1 + 1 + 1 + 1 + 1 + 1) (ad131 (i + 1 + 1 + 1 + 1 + 1 + 1 + 1 + 1 + 1)) := rfl
  have ha135 : zAt ad120 (i + 1) (q19) := up_n ea122 ha107 (ne_o (i := i) (c := 1) (d := 8) rfl)
  have ha136 : zAt ad131 (i + 1) (q19) := (hA126 (i + 1) (lt_o (i := i) (c := 1) (d := 9) rfl)).trans ha135
  have hg137 := up_n eg123 hg113 (ne_o (i := i) (c := 1) (d := 8) rfl)
  have hg138 := (hG127 (i + 1) (lt_o (i := i) (c := 1) (d := 9) rfl) (ne_o (i := i) (c := 1) (d := 8) rfl)).trans hg137
  have ha139 : zAt ad131 (i + 1 + 1 + 1 + 1 + 1 + 1 + 1 + 1) (q119) := (hA126 (i + 1 + 1 + 1 + 1 + 1 + 1 + 1 + 1) (lt_o (i := i) (c := 8) (d := 9) rfl)).trans ha124
  refine z_aast (q := (RX3, TX3, 3)) C (lt_o (i := i) (c := 1) (d := 10) rfl) ha136 hg138 3 rfl (lt_o (i := i) (c := 8) (d := 10) rfl) ha139 hg128 rfl (3) (by omega) (by omega) (by decide) dX8_init_65 (fun g140 eg141 => ?_)
  have hg142 := up_s eg141
  refine z_iinc (z := 4) (lv' := [(1, .int (zI (4))), (0, .ref a)]) (j := 0) C dX8_init_66 rfl (congrArg zI (by omega)) (by decide) rfl ?_
  refine z_goto (tgt := 44) C dX8_init_69 (by decide) ?_
  refine z_iload_n C 0 dX8_init_44 rfl ?_
  refine z_aload_n C 1 dX8_init_45 rfl ?_
  have ha143 : zAt ad120 (i) (a) := up_n ea122 ha115 (ne_o (i := i) (c := 0) (d := 8) rfl)
  have ha144 : zAt ad131 (i) (a) := (hA126 (i) (lt_o (i := i) (c := 0) (d := 9) rfl)).trans ha143
  have hg145 := up_n eg123 hg118 (ne_o (i := i) (c := 0) (d := 8) rfl)
  have hg146 := (hG127 (i) (lt_o (i := i) (c := 0) (d := 9) rfl) (ne_o (i := i) (c := 0) (d := 8) rfl)).trans hg145
  have hg147 := up_n eg141 hg146 (ne_o (i := i) (c := 0) (d := 1) rfl)
  refine z_get (v := .ref q19) C (lt_o (i := i) (c := 0) (d := 10) rfl) ha144 hg147 rfl inA_X8 6 (by decide) q_188 rfl rfl dX8_init_46 ?_
  refine z_alen (z := 4) C (lt_o (i := i) (c := 1) (d := 10) rfl) ha136 hg142 3 rfl rfl dX8_init_49 ?_
  refine z_icmp_ge (tgt := 72) C dX8_init_50 (by decide) (by omega) (by omega) (fun _ => ?_) (fun h => absurd h (by omega))
  have ha148 : zAt ad62 (i + 1 + 1) (q32) := up_n ea64 ha52 (ne_o (i := i) (c := 2) (d := 4) rfl)
  have ha149 : zAt ad73 (i + 1 + 1) (q32) := (hA68 (i + 1 + 1) (lt_o (i := i) (c := 2) (d := 5) rfl)).trans ha148
  have ha150 : zAt ad91 (i + 1 + 1) (q32) := up_n ea93 ha149 (ne_o (i := i) (c := 2) (d := 6) rfl)
  have ha151 : zAt ad102 (i + 1 + 1) (q32) := (hA97 (i + 1 + 1) (lt_o (i := i) (c := 2) (d := 7) rfl)).trans ha150
  have ha152 : zAt ad120 (i + 1 + 1) (q32) := up_n ea122 ha151 (ne_o (i := i) (c := 2) (d := 8) rfl)
  have ha153 : zAt ad131 (i + 1 + 1) (q32) := (hA126 (i + 1 + 1) (lt_o (i := i) (c := 2) (d := 9) rfl)).trans ha152
  have hg154 := up_n eg54 hg41 (ne_o (i := i) (c := 2) (d := 1) rfl)
  have hg155 := up_n eg65 hg154 (ne_o (i := i) (c := 2) (d := 4) rfl)
  have hg156 := (hG69 (i + 1 + 1) (lt_o (i := i) (c := 2) (d := 5) rfl) (ne_o (i := i) (c := 2) (d := 4) rfl)).trans hg155
  have hg157 := up_n eg83 hg156 (ne_o (i := i) (c := 2) (d := 1) rfl)
  have hg158 := up_n eg94 hg157 (ne_o (i := i) (c := 2) (d := 6) rfl)
  have hg159 := (hG98 (i + 1 + 1) (lt_o (i := i) (c := 2) (d := 7) rfl) (ne_o (i := i) (c := 2) (d := 6) rfl)).trans hg158
  have hg160 := up_n eg112 hg159 (ne_o (i := i) (c := 2) (d := 1) rfl)
  have hg161 := up_n eg123 hg160 (ne_o (i := i) (c := 2) (d := 8) rfl)
  have hg162 := (hG127 (i + 1 + 1) (lt_o (i := i) (c := 2) (d := 9) rfl) (ne_o (i := i) (c := 2) (d := 8) rfl)).trans hg161
  have hg163 := up_n eg141 hg162 (ne_o (i := i) (c := 2) (d := 1) rfl)
  have ha164 : zAt ad62 (i + 1 + 1 + 1) (ad44 (i + 1 + 1 + 1)) := up_n ea64 ha47 (ne_o (i := i) (c := 3) (d := 4) rfl)
  have ha165 : zAt ad73 (i + 1 + 1 + 1) (ad44 (i + 1 + 1 + 1)) := (hA68 (i + 1 + 1 + 1) (lt_o (i := i) (c := 3) (d := 5) rfl)).trans ha164
  have ha166 : zAt ad91 (i + 1 + 1 + 1) (ad44 (i + 1 + 1 + 1)) := up_n ea93 ha165 (ne_o (i := i) (c := 3) (d := 6) rfl)
  have ha167 : zAt ad102 (i + 1 + 1 + 1) (ad44 (i + 1 + 1 + 1)) := (hA97 (i + 1 + 1 + 1) (lt_o (i := i) (c := 3) (d := 7) rfl)).trans ha166
  have ha168 : zAt ad120 (i + 1 + 1 + 1) (ad44 (i + 1 + 1 + 1)) := up_n ea122 ha167 (ne_o (i := i) (c := 3) (d := 8) rfl)
  have ha169 : zAt ad131 (i + 1 + 1 + 1) (ad44 (i + 1 + 1 + 1)) := (hA126 (i + 1 + 1 + 1) (lt_o (i := i) (c := 3) (d := 9) rfl)).trans ha168
  have hg170 := up_n eg54 hg42 (ne_o (i := i) (c := 3) (d := 1) rfl)
  have hg171 := up_n eg65 hg170 (ne_o (i := i) (c := 3) (d := 4) rfl)
  have hg172 := (hG69 (i + 1 + 1 + 1) (lt_o (i := i) (c := 3) (d := 5) rfl) (ne_o (i := i) (c := 3) (d := 4) rfl)).trans hg171
  have hg173 := up_n eg83 hg172 (ne_o (i := i) (c := 3) (d := 1) rfl)
  have hg174 := up_n eg94 hg173 (ne_o (i := i) (c := 3) (d := 6) rfl)
  have hg175 := (hG98 (i + 1 + 1 + 1) (lt_o (i := i) (c := 3) (d := 7) rfl) (ne_o (i := i) (c := 3) (d := 6) rfl)).trans hg174
  have hg176 := up_n eg112 hg175 (ne_o (i := i) (c := 3) (d := 1) rfl)
  have hg177 := up_n eg123 hg176 (ne_o (i := i) (c := 3) (d := 8) rfl)
  have hg178 := (hG127 (i + 1 + 1 + 1) (lt_o (i := i) (c := 3) (d := 9) rfl) (ne_o (i := i) (c := 3) (d := 8) rfl)).trans hg177
  have hg179 := up_n eg141 hg178 (ne_o (i := i) (c := 3) (d := 1) rfl)
  have ha180 : zAt ad91 (i + 1 + 1 + 1 + 1) (q61) := up_n ea93 ha81 (ne_o (i := i) (c := 4) (d := 6) rfl)
  have ha181 : zAt ad102 (i + 1 + 1 + 1 + 1) (q61) := (hA97 (i + 1 + 1 + 1 + 1) (lt_o (i := i) (c := 4) (d := 7) rfl)).trans ha180
  have ha182 : zAt ad120 (i + 1 + 1 + 1 + 1) (q61) := up_n ea122 ha181 (ne_o (i := i) (c := 4) (d := 8) rfl)
  have ha183 : zAt ad131 (i + 1 + 1 + 1 + 1) (q61) := (hA126 (i + 1 + 1 + 1 + 1) (lt_o (i := i) (c := 4) (d := 9) rfl)).trans ha182
  have hg184 := up_n eg83 hg70 (ne_o (i := i) (c := 4) (d := 1) rfl)
  have hg185 := up_n eg94 hg184 (ne_o (i := i) (c := 4) (d := 6) rfl)
  have hg186 := (hG98 (i + 1 + 1 + 1 + 1) (lt_o (i := i) (c := 4) (d := 7) rfl) (ne_o (i := i) (c := 4) (d := 6) rfl)).trans hg185
  have hg187 := up_n eg112 hg186 (ne_o (i := i) (c := 4) (d := 1) rfl)
  have hg188 := up_n eg123 hg187 (ne_o (i := i) (c := 4) (d := 8) rfl)
  have hg189 := (hG127 (i + 1 + 1 + 1 + 1) (lt_o (i := i) (c := 4) (d := 9) rfl) (ne_o (i := i) (c := 4) (d := 8) rfl)).trans hg188
  have hg190 := up_n eg141 hg189 (ne_o (i := i) (c := 4) (d := 1) rfl)
  have ha191 : zAt ad91 (i + 1 + 1 + 1 + 1 + 1) (ad73 (i + 1 + 1 + 1 + 1 + 1)) := up_n ea93 ha76 (ne_o (i := i) (c := 5) (d := 6) rfl)
  have ha192 : zAt ad102 (i + 1 + 1 + 1 + 1 + 1) (ad73 (i + 1 + 1 + 1 + 1 + 1)) := (hA97 (i + 1 + 1 + 1 + 1 + 1) (lt_o (i := i) (c := 5) (d := 7) rfl)).trans ha191
  have ha193 : zAt ad120 (i + 1 + 1 + 1 + 1 + 1) (ad73 (i + 1 + 1 + 1 + 1 + 1)) := up_n ea122 ha192 (ne_o (i := i) (c := 5) (d := 8) rfl)
  have ha194 : zAt ad131 (i + 1 + 1 + 1 + 1 + 1) (ad73 (i + 1 + 1 + 1 + 1 + 1)) := (hA126 (i + 1 + 1 + 1 + 1 + 1) (lt_o (i := i) (c := 5) (d := 9) rfl)).trans ha193
  have hg195 := up_n eg83 hg71 (ne_o (i := i) (c := 5) (d := 1) rfl)
  have hg196 := up_n eg94 hg195 (ne_o (i := i) (c := 5) (d := 6) rfl)
  have hg197 := (hG98 (i + 1 + 1 + 1 + 1 + 1) (lt_o (i := i) (c := 5) (d := 7) rfl) (ne_o (i := i) (c := 5) (d := 6) rfl)).trans hg196
  have hg198 := up_n eg112 hg197 (ne_o (i := i) (c := 5) (d := 1) rfl)
  have hg199 := up_n eg123 hg198 (ne_o (i := i) (c := 5) (d := 8) rfl)
  have hg200 := (hG127 (i + 1 + 1 + 1 + 1 + 1) (lt_o (i := i) (c := 5) (d := 9) rfl) (ne_o (i := i) (c := 5) (d := 8) rfl)).trans hg199
  have hg201 := up_n eg141 hg200 (ne_o (i := i) (c := 5) (d := 1) rfl)
  have ha202 : zAt ad120 (i + 1 + 1 + 1 + 1 + 1 + 1) (q90) := up_n ea122 ha110 (ne_o (i := i) (c := 6) (d := 8) rfl)
  have ha203 : zAt ad131 (i + 1 + 1 + 1 + 1 + 1 + 1) (q90) := (hA126 (i + 1 + 1 + 1 + 1 + 1 + 1) (lt_o (i := i) (c := 6) (d := 9) rfl)).trans ha202
  have hg204 := up_n eg112 hg99 (ne_o (i := i) (c := 6) (d := 1) rfl)
  have hg205 := up_n eg123 hg204 (ne_o (i := i) (c := 6) (d := 8) rfl)
  have hg206 := (hG127 (i + 1 + 1 + 1 + 1 + 1 + 1) (lt_o (i := i) (c := 6) (d := 9) rfl) (ne_o (i := i) (c := 6) (d := 8) rfl)).trans hg205
  have hg207 := up_n eg141 hg206 (ne_o (i := i) (c := 6) (d := 1) rfl)
  have ha208 : zAt ad120 (i + 1 + 1 + 1 + 1 + 1 + 1 + 1) (ad102 (i + 1 + 1 + 1 + 1 + 1 + 1 + 1)) := up_n ea122 ha105 (ne_o (i := i) (c := 7) (d := 8) rfl)
  have ha209 : zAt ad131 (i + 1 + 1 + 1 + 1 + 1 + 1 + 1) (ad102 (i + 1 + 1 + 1 + 1 + 1 + 1 + 1)) := (hA126 (i + 1 + 1 + 1 + 1 + 1 + 1 + 1) (lt_o (i := i) (c := 7) (d := 9) rfl)).trans ha208
  have hg210 := up_n eg112 hg100 (ne_o (i := i) (c := 7) (d := 1) rfl)
  have hg211 := up_n eg123 hg210 (ne_o (i := i) (c := 7) (d := 8) rfl)
  have hg212 := (hG127 (i + 1 + 1 + 1 + 1 + 1 + 1 + 1) (lt_o (i := i) (c := 7) (d := 9) rfl) (ne_o (i := i) (c := 7) (d := 8) rfl)).trans hg211
  have hg213 := up_n eg141 hg212 (ne_o (i := i) (c := 7) (d := 1) rfl)
  have hg214 := up_n eg141 hg128 (ne_o (i := i) (c := 8) (d := 1) rfl)
  have hg215 := up_n eg141 hg129 (ne_o (i := i) (c := 9) (d := 1) rfl)
  have hr4 : ∀ k, k < 4 → (va_up (va_up (va_up (va_up (fun _ => none) (0) (some q32)) (1) (some q61)) (2) (some q90)) (3) (some q119)) k = some (ad131 (i + 2 + 2 * k)) := by
    intro k hk
    rcases (show k = 0 ∨ k = 1 ∨ k = 2 ∨ k = 3 by omega) with rfl | rfl | rfl | rfl
    · exact congrArg some (Eq.symm ha153)
    · exact congrArg some (Eq.symm ha183)
    · exact congrArg some (Eq.symm ha203)
    · exact congrArg some (Eq.symm ha139)
  have hp4 : ∀ k, k < 4 → isPack cs ad131 g140 (i + 2 + 2 * k) 0 0 (fun _ => 0) := by
    intro k hk
    rcases (show k = 0 ∨ k = 1 ∨ k = 2 ∨ k = 3 by omega) with rfl | rfl | rfl | rfl
    · exact ⟨by rw [← (show ad131 (i + 1 + 1 + 1) = _ from ha169)] at hg163; exact hg163, hg179⟩
    · exact ⟨by rw [← (show ad131 (i + 1 + 1 + 1 + 1 + 1) = _ from ha194)] at hg190; exact hg190, hg201⟩
    · exact ⟨by rw [← (show ad131 (i + 1 + 1 + 1 + 1 + 1 + 1 + 1) = _ from ha209)] at hg207; exact hg207, hg213⟩
    · exact ⟨by rw [← (show ad131 (i + 1 + 1 + 1 + 1 + 1 + 1 + 1 + 1 + 1) = _ from ha134)] at hg214; exact hg214, hg215⟩
  exact z_vret C hr hlk dX8_init_72 (by decide) (by decide) (⟨rfl, rfl, fun j h1 => by rw [hA126 _ (by omega)]; rw [ea122, va_up_ne _ _ (by omega)]; rw [hA97 _ (by omega)]; rw [ea93, va_up_ne _ _ (by omega)]; rw [hA68 _ (by omega)]; rw [ea64, va_up_ne _ _ (by omega)]; rw [hA39 _ (by omega)]; rw [ea35, va_up_ne _ _ (by omega)]; rw [ea22, va_up_ne _ _ (by omega)], fun j h1 h2 => by rw [eg141, va_up_ne _ _ (by omega)]; rw [hG127 _ (by omega) (by omega)]; rw [eg123, va_up_ne _ _ (by omega)]; rw [eg112, va_up_ne _ _ (by omega)]; rw [hG98 _ (by omega) (by omega)]; rw [eg94, va_up_ne _ _ (by omega)]; rw [eg83, va_up_ne _ _ (by omega)]; rw [hG69 _ (by omega) (by omega)]; rw [eg65, va_up_ne _ _ (by omega)]; rw [eg54, va_up_ne _ _ (by omega)]; rw [hG40 _ (by omega) (by omega)]; rw [eg36, va_up_ne _ _ (by omega)]; rw [eg29, va_up_ne _ _ (by omega)]; rw [eg23, va_up_ne _ _ (by omega)]; rw [eg17, va_up_ne _ _ (by omega)]; rw [eg14, va_up_ne _ _ (by omega)]; rw [eg11, va_up_ne _ _ (by omega)]; rw [eg8, va_up_ne _ _ (by omega)]; rw [eg5, va_up_ne _ _ (by omega)]; rw [eg2, va_up_ne _ _ (by omega)], by rw [← (show ad131 (i + 1) = _ from ha136)] at hg147; exact hg147, ⟨_, hg142, hr4⟩, hp4⟩)

theorem isPack.mv {cs : Nat → ClassId} {ad ad' : Nat → Nat} {g g' : Nat → va_E} {i : Nat} {sz ro : Int} {r : Nat → Int} (hA : ∀ j, i ≤ j → j < i + 2 → ad' j = ad j) (hG : ∀ j, i ≤ j → j < i + 2 → g' j = g j) (h : isPack cs ad g i sz ro r) : isPack cs ad' g' i sz ro r := by
  obtain ⟨h1, h2⟩ := h
  exact ⟨by rw [hG _ (by omega) (by omega), hA _ (by omega) (by omega)]; exact h1, by rw [hG _ (by omega) (by omega)]; exact h2⟩
theorem isWorld.mv {cs : Nat → ClassId} {ad ad' : Nat → Nat} {g g' : Nat → va_E} {i : Nat} {t sz ro : Nat → Int} {r : Nat → Nat → Int} (hA : ∀ j, i ≤ j → j < i + 10 → ad' j = ad j) (hG : ∀ j, i ≤ j → j < i + 10 → g' j = g j) (h : isWorld cs ad g i t sz ro r) : isWorld cs ad' g' i t sz ro r := by
  obtain ⟨h1, ⟨a, h2, h3⟩, h4⟩ := h
  exact ⟨by rw [hG _ (by omega) (by omega), hA _ (by omega) (by omega)]; exact h1, ⟨a, by rw [hG _ (by omega) (by omega)]; exact h2, fun k hk => by rw [hA _ (by omega) (by omega)]; exact h3 k hk⟩, fun k hk => (h4 k hk).mv (fun j _ _ => hA j (by omega) (by omega)) (fun j _ _ => hG j (by omega) (by omega))⟩
def isNotes (cs : Nat → ClassId) (ad : Nat → Nat) (g : Nat → va_E) (i : Nat) (sz : Int) (a b d : Nat → Int) : Prop := g i = oC 4 [.int (zI sz), .ref (ad (i + 1)), .ref (ad (i + 2)), .ref (ad (i + 3))] ∧ g (i + 1) = iA cs 8 a ∧ g (i + 2) = iA cs 8 b ∧ g (i + 3) = iA cs 8 d
theorem isNotes.mv {cs : Nat → ClassId} {ad ad' : Nat → Nat} {g g' : Nat → va_E} {i : Nat} {sz : Int} {a b d : Nat → Int} (hA : ∀ j, i ≤ j → j < i + 4 → ad' j = ad j) (hG : ∀ j, i ≤ j → j < i + 4 → g' j = g j) (h : isNotes cs ad g i sz a b d) : isNotes cs ad' g' i sz a b d := by
  obtain ⟨h1, h2, h3, h4⟩ := h
  exact ⟨by rw [hG _ (by omega) (by omega), hA _ (by omega) (by omega), hA _ (by omega) (by omega), hA _ (by omega) (by omega)]; exact h1, by rw [hG _ (by omega) (by omega)]; exact h2, by rw [hG _ (by omega) (by omega)]; exact h3, by rw [hG _ (by omega) (by omega)]; exact h4⟩
def isPit (cs : Nat → ClassId) (ad : Nat → Nat) (g : Nat → va_E) (i : Nat) (sl ti sz ro : Int) (r : Nat → Int) : Prop := g i = oC 6 [.int (zI sl), .int (zI ti), .ref (ad (i + 1))] ∧ isPack cs ad g (i + 1) sz ro r
theorem isPit.mv {cs : Nat → ClassId} {ad ad' : Nat → Nat} {g g' : Nat → va_E} {i : Nat} {sl ti sz ro : Int} {r : Nat → Int} (hA : ∀ j, i ≤ j → j < i + 3 → ad' j = ad j) (hG : ∀ j, i ≤ j → j < i + 3 → g' j = g j) (h : isPit cs ad g i sl ti sz ro r) : isPit cs ad' g' i sl ti sz ro r := by
  obtain ⟨h1, h2⟩ := h
  exact ⟨by rw [hG _ (by omega) (by omega), hA _ (by omega) (by omega)]; exact h1, h2.mv (fun j _ _ => hA j (by omega) (by omega)) (fun j _ _ => hG j (by omega) (by omega))⟩
def isPlan (cs : Nat → ClassId) (ad : Nat → Nat) (g : Nat → va_E) (i : Nat) (sl ho ua : Int) (st op ai fa mu tb : Nat → Int) : Prop := g i = oC 7 [.int (zI sl), .int (zI ho), .int (zI ua), .ref (ad (i + 1)), .ref (ad (i + 2)), .ref (ad (i + 3)), .ref (ad (i + 4)), .ref (ad (i + 5)), .ref (ad (i + 6))] ∧ g (i + 1) = iA cs 4 st ∧ g (i + 2) = iA cs 4 op ∧ g (i + 3) = iA cs 24 ai ∧ g (i + 4) = iA cs 24 fa ∧ g (i + 5) = iA cs 24 mu ∧ g (i + 6) = iA cs 15 tb
theorem isPlan.mv {cs : Nat → ClassId} {ad ad' : Nat → Nat} {g g' : Nat → va_E} {i : Nat} {sl ho ua : Int} {st op ai fa mu tb : Nat → Int} (hA : ∀ j, i ≤ j → j < i + 7 → ad' j = ad j) (hG : ∀ j, i ≤ j → j < i + 7 → g' j = g j) (h : isPlan cs ad g i sl ho ua st op ai fa mu tb) : isPlan cs ad' g' i sl ho ua st op ai fa mu tb := by
  obtain ⟨h1, h2, h3, h4, h5, h6, h7⟩ := h
  exact ⟨by rw [hG _ (by omega) (by omega), hA _ (by omega) (by omega), hA _ (by omega) (by omega), hA _ (by omega) (by omega), hA _ (by omega) (by omega), hA _ (by omega) (by omega), hA _ (by omega) (by omega)]; exact h1, by rw [hG _ (by omega) (by omega)]; exact h2, by rw [hG _ (by omega) (by omega)]; exact h3, by rw [hG _ (by omega) (by omega)]; exact h4, by rw [hG _ (by omega) (by omega)]; exact h5, by rw [hG _ (by omega) (by omega)]; exact h6, by rw [hG _ (by omega) (by omega)]; exact h7⟩
def isRdr (cs : Nat → ClassId) (ad : Nat → Nat) (g : Nat → va_E) (i : Nat) : Prop := g i = oC 9 [.int (zI (-1)), .int (zI 0), .ref (ad (i + 1)), .int (zI 0), .int (zI 0), .int (zI 0), .int (zI 0), .int (zI 0), .int (zI 0)] ∧ g (i + 1) = bA cs 0 (fun _ => 0)
theorem isRdr.mv {cs : Nat → ClassId} {ad ad' : Nat → Nat} {g g' : Nat → va_E} {i : Nat} (hA : ∀ j, i ≤ j → j < i + 2 → ad' j = ad j) (hG : ∀ j, i ≤ j → j < i + 2 → g' j = g j) (h : isRdr cs ad g i) : isRdr cs ad' g' i := by
  obtain ⟨h1, h2⟩ := h
  exact ⟨by rw [hG _ (by omega) (by omega), hA _ (by omega) (by omega)]; exact h1, by rw [hG _ (by omega) (by omega)]; exact h2⟩
def isLike (cs : Nat → ClassId) (ad : Nat → Nat) (g : Nat → va_E) (i : Nat) (r : Nat → Int) : Prop := g i = oC 3 [.ref (ad (i + 1))] ∧ g (i + 1) = iA cs 13 r
theorem isLike.mv {cs : Nat → ClassId} {ad ad' : Nat → Nat} {g g' : Nat → va_E} {i : Nat} {r : Nat → Int} (hA : ∀ j, i ≤ j → j < i + 2 → ad' j = ad j) (hG : ∀ j, i ≤ j → j < i + 2 → g' j = g j) (h : isLike cs ad g i r) : isLike cs ad' g' i r := by
  obtain ⟨h1, h2⟩ := h
  exact ⟨by rw [hG _ (by omega) (by omega), hA _ (by omega) (by omega)]; exact h1, by rw [hG _ (by omega) (by omega)]; exact h2⟩
def isBld (cs : Nat → ClassId) (ad : Nat → Nat) (g : Nat → va_E) (i : Nat) : Prop := g i = oC 1 [.ref (ad (i + 1)), .int (zI 0), .int (zI 0), .int (zI 0)] ∧ g (i + 1) = bA cs 16 (fun _ => 0)
theorem isBld.mv {cs : Nat → ClassId} {ad ad' : Nat → Nat} {g g' : Nat → va_E} {i : Nat} (hA : ∀ j, i ≤ j → j < i + 2 → ad' j = ad j) (hG : ∀ j, i ≤ j → j < i + 2 → g' j = g j) (h : isBld cs ad g i) : isBld cs ad' g' i := by
  obtain ⟨h1, h2⟩ := h
  exact ⟨by rw [hG _ (by omega) (by omega), hA _ (by omega) (by omega)]; exact h1, by rw [hG _ (by omega) (by omega)]; exact h2⟩
def isGss (cs : Nat → ClassId) (ad : Nat → Nat) (g : Nat → va_E) (i : Nat) (mn fi : Int) (u : Nat → Int) (q : Nat → Nat → Int) : Prop := g i = oC 2 [.int (zI mn), .int (zI fi), .ref (ad (i + 1)), .ref (ad (i + 2))] ∧ g (i + 1) = iA cs 4 u ∧ (∃ a : Nat → Option Nat, g (i + 2) = rA (cs 6) 4 a ∧ ∀ k, k < 4 → a k = some (ad (i + 3 + k))) ∧ ∀ k, k < 4 → g (i + 3 + k) = iA cs 1200 (q k)
theorem isGss.mv {cs : Nat → ClassId} {ad ad' : Nat → Nat} {g g' : Nat → va_E} {i : Nat} {mn fi : Int} {u : Nat → Int} {q : Nat → Nat → Int} (hA : ∀ j, i ≤ j → j < i + 7 → ad' j = ad j) (hG : ∀ j, i ≤ j → j < i + 7 → g' j = g j) (h : isGss cs ad g i mn fi u q) : isGss cs ad' g' i mn fi u q := by
  obtain ⟨h1, h2, ⟨a, h3, h4⟩, h5⟩ := h
  exact ⟨by rw [hG _ (by omega) (by omega), hA _ (by omega) (by omega), hA _ (by omega) (by omega)]; exact h1, by rw [hG _ (by omega) (by omega)]; exact h2, ⟨a, by rw [hG _ (by omega) (by omega)]; exact h3, fun k hk => by rw [hA _ (by omega) (by omega)]; exact h4 k hk⟩, fun k hk => by rw [hG _ (by omega) (by omega)]; exact h5 k hk⟩

set_option maxRecDepth 100000 in
set_option maxHeartbeats 4000000 in
theorem c_X2_init (l : Launch) (D : va_G) (A : Nat → Prop) (cs : Nat → ClassId) (tt : Nat) (ad : Nat → Nat) (g : Nat → va_E) (i a : Nat) (ha : ad i = a) (hg : g i = oC 4 [.int (zI 0), .null, .null, .null]) : zM l yX2_init cX2_init 1 none ({ frames := 1, cells := 3, slots := 24, locals := 60 } : Room) D A cs tt (i + 1) ad g [.ref a] (rV fun N' ad' g' => N' = i + 4 ∧ (∀ j, j < i + 1 → ad' j = ad j) ∧ (∀ j, j < i + 1 → j ≠ i → g' j = g j) ∧ isNotes cs ad' g' i 0 (fun _ => 0) (fun _ => 0) (fun _ => 0)) := by
  refine z_of (by decide) (Nat.le_of_ble_eq_true rfl) ?_
  intro p e s m below meth c C hr hlk hnm
  refine z_lv (lv' := [(0, .ref a)]) [0] rfl ?_
  refine z_aload_n C 0 dX2_init_0 rfl ?_
  refine z_objInit C q_215 q_35 q_36 dX2_init_1 (Nat.le_of_ble_eq_true rfl) (Nat.le_of_ble_eq_true rfl) ?_
  refine z_aload_n C 0 dX2_init_4 rfl ?_
  refine z_iconst (z := 0) C dX2_init_5 rfl ?_
  refine z_put (fs' := [.int (zI (0)), .null, .null, .null]) C (lt_o (i := i) (c := 0) (d := 1) rfl) ha hg tyX2 tyX2_ok nmX2 rfl inA_X2 0 (by decide) q_216 rfl rfl rfl rfl (Nat.le_of_ble_eq_true rfl) rfl dX2_init_6 (fun g1 eg2 => ?_)
  have hg3 := up_s eg2
  refine z_aload_n C 0 dX2_init_9 rfl ?_
  refine z_bipush (z := 8) C dX2_init_10 (by decide) ?_
  refine z_newI C 8 rfl q_134 (by decide) (by decide) (by decide) dX2_init_12 (fun q4 ad5 g6 ea7 eg8 => ?_)
  have ha9 : zAt ad5 (i + 1) q4 := up_s ea7
  have hg10 := up_s eg8
  have ha11 : zAt ad5 (i) (a) := up_n ea7 ha (ne_o (i := i) (c := 0) (d := 1) rfl)
  have hg12 := up_n eg8 hg3 (ne_o (i := i) (c := 0) (d := 1) rfl)
  refine z_putF (fs' := [.int (zI (0)), .ref q4, .null, .null]) C (lt_o (i := i) (c := 0) (d := 2) rfl) ha11 hg12 tyX2 tyX2_ok nmX2 rfl inA_X2 1 (by decide) q_219 rfl rfl hnm rfl rfl rfl (Nat.le_of_ble_eq_true rfl) rfl dX2_init_14 (fun g13 eg14 => ?_)
  have hg15 := up_s eg14
  refine z_aload_n C 0 dX2_init_17 rfl ?_
  refine z_bipush (z := 8) C dX2_init_18 (by decide) ?_
  refine z_newI C 8 rfl q_134 (by decide) (by decide) (by decide) dX2_init_20 (fun q16 ad17 g18 ea19 eg20 => ?_)
  have ha21 : zAt ad17 (i + 1 + 1) q16 := up_s ea19
  have hg22 := up_s eg20
  have ha23 : zAt ad17 (i) (a) := up_n ea19 ha11 (ne_o (i := i) (c := 0) (d := 2) rfl)
  have hg24 := up_n eg20 hg15 (ne_o (i := i) (c := 0) (d := 2) rfl)
  refine z_putF (fs' := [.int (zI (0)), .ref q4, .ref q16, .null]) C (lt_o (i := i) (c := 0) (d := 3) rfl) ha23 hg24 tyX2 tyX2_ok nmX2 rfl inA_X2 2 (by decide) q_221 rfl rfl hnm rfl rfl rfl (Nat.le_of_ble_eq_true rfl) rfl dX2_init_22 (fun g25 eg26 => ?_)
  have hg27 := up_s eg26
  refine z_aload_n C 0 dX2_init_25 rfl ?_
  refine z_bipush (z := 8) C dX2_init_26 (by decide) ?_
  refine z_newI C 8 rfl q_134 (by decide) (by decide) (by decide) dX2_init_28 (fun q28 ad29 g30 ea31 eg32 => ?_)
  have ha33 : zAt ad29 (i + 1 + 1 + 1) q28 := up_s ea31
  have hg34 := up_s eg32
  have ha35 : zAt ad29 (i) (a) := up_n ea31 ha23 (ne_o (i := i) (c := 0) (d := 3) rfl)
  have hg36 := up_n eg32 hg27 (ne_o (i := i) (c := 0) (d := 3) rfl)
  refine z_putF (fs' := [.int (zI (0)), .ref q4, .ref q16, .ref q28]) C (lt_o (i := i) (c := 0) (d := 4) rfl) ha35 hg36 tyX2 tyX2_ok nmX2 rfl inA_X2 3 (by decide) q_223 rfl rfl hnm rfl rfl rfl (Nat.le_of_ble_eq_true rfl) rfl dX2_init_30 (fun g37 eg38 => ?_)
  have hg39 := up_s eg38
  have ha40 : zAt ad17 (i + 1) (q4) := up_n ea19 ha9 (ne_o (i := i) (c := 1) (d := 2) rfl)
  have ha41 : zAt ad29 (i + 1) (q4) := up_n ea31 ha40 (ne_o (i := i) (c := 1) (d := 3) rfl)
  have ha42 : zAt ad29 (i + 1 + 1) (q16) := up_n ea31 ha21 (ne_o (i := i) (c := 2) (d := 3) rfl)
  have hg43 := up_n eg14 hg10 (ne_o (i := i) (c := 1) (d := 0) rfl)
  have hg44 := up_n eg20 hg43 (ne_o (i := i) (c := 1) (d := 2) rfl)
  have hg45 := up_n eg26 hg44 (ne_o (i := i) (c := 1) (d := 0) rfl)
  have hg46 := up_n eg32 hg45 (ne_o (i := i) (c := 1) (d := 3) rfl)
  have hg47 := up_n eg38 hg46 (ne_o (i := i) (c := 1) (d := 0) rfl)
  have hg48 := up_n eg26 hg22 (ne_o (i := i) (c := 2) (d := 0) rfl)
  have hg49 := up_n eg32 hg48 (ne_o (i := i) (c := 2) (d := 3) rfl)
  have hg50 := up_n eg38 hg49 (ne_o (i := i) (c := 2) (d := 0) rfl)
  have hg51 := up_n eg38 hg34 (ne_o (i := i) (c := 3) (d := 0) rfl)
  exact z_vret C hr hlk dX2_init_33 (by decide) (by decide) (⟨rfl, rfl, fun j h1 => by rw [ea31, va_up_ne _ _ (by omega)]; rw [ea19, va_up_ne _ _ (by omega)]; rw [ea7, va_up_ne _ _ (by omega)], fun j h1 h2 => by rw [eg38, va_up_ne _ _ (by omega)]; rw [eg32, va_up_ne _ _ (by omega)]; rw [eg26, va_up_ne _ _ (by omega)]; rw [eg20, va_up_ne _ _ (by omega)]; rw [eg14, va_up_ne _ _ (by omega)]; rw [eg8, va_up_ne _ _ (by omega)]; rw [eg2, va_up_ne _ _ (by omega)], by rw [← (show ad29 (i + 1) = q4 from ha41), ← (show ad29 (i + 1 + 1) = q16 from ha42), ← (show ad29 (i + 1 + 1 + 1) = q28 from ha33)] at hg39; exact hg39, hg47, hg50, hg51⟩)

set_option maxRecDepth 100000 in
set_option maxHeartbeats 4000000 in
theorem c_X1_init (l : Launch) (D : va_G) (A : Nat → Prop) (cs : Nat → ClassId) (tt : Nat) (ad : Nat → Nat) (g : Nat → va_E) (i a : Nat) (ha : ad i = a) (hg : g i = oC 3 [.null]) : zM l yX1_init cX1_init 1 none ({ frames := 1, cells := 1, slots := 13, locals := 60 } : Room) D A cs tt (i + 1) ad g [.ref a] (rV fun N' ad' g' => N' = i + 2 ∧ (∀ j, j < i + 1 → ad' j = ad j) ∧ (∀ j, j < i + 1 → j ≠ i → g' j = g j) ∧ isLike cs ad' g' i (fun _ => 0)) := by
  refine z_of (by decide) (Nat.le_of_ble_eq_true rfl) ?_
  intro p e s m below meth c C hr hlk hnm
  refine z_lv (lv' := [(0, .ref a)]) [0] rfl ?_
  refine z_aload_n C 0 dX1_init_0 rfl ?_
  refine z_objInit C q_312 q_35 q_36 dX1_init_1 (Nat.le_of_ble_eq_true rfl) (Nat.le_of_ble_eq_true rfl) ?_
  refine z_aload_n C 0 dX1_init_4 rfl ?_
  refine z_bipush (z := 13) C dX1_init_5 (by decide) ?_
  refine z_newI C 13 rfl q_134 (by decide) (by decide) (by decide) dX1_init_7 (fun q1 ad2 g3 ea4 eg5 => ?_)
  have ha6 : zAt ad2 (i + 1) q1 := up_s ea4
  have hg7 := up_s eg5
  have ha8 : zAt ad2 (i) (a) := up_n ea4 ha (ne_o (i := i) (c := 0) (d := 1) rfl)
  have hg9 := up_n eg5 hg (ne_o (i := i) (c := 0) (d := 1) rfl)
  refine z_putF (fs' := [.ref q1]) C (lt_o (i := i) (c := 0) (d := 2) rfl) ha8 hg9 tyX1 tyX1_ok nmX1 rfl inA_X1 0 (by decide) q_313 rfl rfl hnm rfl rfl rfl (Nat.le_of_ble_eq_true rfl) rfl dX1_init_9 (fun g10 eg11 => ?_)
  have hg12 := up_s eg11
  have hg13 := up_n eg11 hg7 (ne_o (i := i) (c := 1) (d := 0) rfl)
  exact z_vret C hr hlk dX1_init_12 (by decide) (by decide) (⟨rfl, rfl, fun j h1 => by rw [ea4, va_up_ne _ _ (by omega)], fun j h1 h2 => by rw [eg11, va_up_ne _ _ (by omega)]; rw [eg5, va_up_ne _ _ (by omega)], by rw [← (show ad2 (i + 1) = q1 from ha6)] at hg12; exact hg12, hg13⟩)

set_option maxRecDepth 100000 in
set_option maxHeartbeats 4000000 in
theorem c_X7_init (l : Launch) (D : va_G) (A : Nat → Prop) (cs : Nat → ClassId) (tt : Nat) (ad : Nat → Nat) (g : Nat → va_E) (i a : Nat) (ha : ad i = a) (hg : g i = oC 9 [.int (zI 0), .int (zI 0), .null, .int (zI 0), .int (zI 0), .int (zI 0), .int (zI 0), .int (zI 0), .int (zI 0)]) : zM l yX7_init cX7_init 1 none ({ frames := 1, cells := 1, slots := 0, locals := 60 } : Room) D A cs tt (i + 1) ad g [.ref a] (rV fun N' ad' g' => N' = i + 2 ∧ (∀ j, j < i + 1 → ad' j = ad j) ∧ (∀ j, j < i + 1 → j ≠ i → g' j = g j) ∧ isRdr cs ad' g' i) := by
  refine z_of (by decide) (Nat.le_of_ble_eq_true rfl) ?_
  intro p e s m below meth c C hr hlk hnm
  refine z_lv (lv' := [(0, .ref a)]) [0] rfl ?_
  refine z_aload_n C 0 dX7_init_0 rfl ?_
  refine z_objInit C q_42 q_35 q_36 dX7_init_1 (Nat.le_of_ble_eq_true rfl) (Nat.le_of_ble_eq_true rfl) ?_
  refine z_aload_n C 0 dX7_init_4 rfl ?_
  refine z_iconst (z := -1) C dX7_init_5 rfl ?_
  refine z_put (fs' := [.int (zI (-1)), .int (zI (0)), .null, .int (zI (0)), .int (zI (0)), .int (zI (0)), .int (zI (0)), .int (zI (0)), .int (zI (0))]) C (lt_o (i := i) (c := 0) (d := 1) rfl) ha hg tyX7 tyX7_ok nmX7 rfl inA_X7 0 (by decide) q_43 rfl rfl rfl rfl (Nat.le_of_ble_eq_true rfl) rfl dX7_init_6 (fun g1 eg2 => ?_)
  have hg3 := up_s eg2
  refine z_aload_n C 0 dX7_init_9 rfl ?_
  refine z_iconst (z := 0) C dX7_init_10 rfl ?_
  refine z_put (fs' := [.int (zI (-1)), .int (zI (0)), .null, .int (zI (0)), .int (zI (0)), .int (zI (0)), .int (zI (0)), .int (zI (0)), .int (zI (0))]) C (lt_o (i := i) (c := 0) (d := 1) rfl) ha hg3 tyX7 tyX7_ok nmX7 rfl inA_X7 1 (by decide) q_45 rfl rfl rfl rfl (Nat.le_of_ble_eq_true rfl) rfl dX7_init_11 (fun g4 eg5 => ?_)
  have hg6 := up_s eg5
  refine z_aload_n C 0 dX7_init_14 rfl ?_
  refine z_iconst (z := 0) C dX7_init_15 rfl ?_
  refine z_newB C 0 rfl q_72 (by decide) (by decide) (by decide) dX7_init_16 (fun q7 ad8 g9 ea10 eg11 => ?_)
  have ha12 : zAt ad8 (i + 1) q7 := up_s ea10
  have hg13 := up_s eg11
  have ha14 : zAt ad8 (i) (a) := up_n ea10 ha (ne_o (i := i) (c := 0) (d := 1) rfl)
  have hg15 := up_n eg11 hg6 (ne_o (i := i) (c := 0) (d := 1) rfl)
  refine z_put (fs' := [.int (zI (-1)), .int (zI (0)), .ref q7, .int (zI (0)), .int (zI (0)), .int (zI (0)), .int (zI (0)), .int (zI (0)), .int (zI (0))]) C (lt_o (i := i) (c := 0) (d := 2) rfl) ha14 hg15 tyX7 tyX7_ok nmX7 rfl inA_X7 2 (by decide) q_46 rfl rfl rfl rfl (Nat.le_of_ble_eq_true rfl) rfl dX7_init_18 (fun g16 eg17 => ?_)
  have hg18 := up_s eg17
  refine z_aload_n C 0 dX7_init_21 rfl ?_
  refine z_iconst (z := 0) C dX7_init_22 rfl ?_
  refine z_put (fs' := [.int (zI (-1)), .int (zI (0)), .ref q7, .int (zI (0)), .int (zI (0)), .int (zI (0)), .int (zI (0)), .int (zI (0)), .int (zI (0))]) C (lt_o (i := i) (c := 0) (d := 2) rfl) ha14 hg18 tyX7 tyX7_ok nmX7 rfl inA_X7 3 (by decide) q_47 rfl rfl rfl rfl (Nat.le_of_ble_eq_true rfl) rfl dX7_init_23 (fun g19 eg20 => ?_)
  have hg21 := up_s eg20
  refine z_aload_n C 0 dX7_init_26 rfl ?_
  refine z_iconst (z := 0) C dX7_init_27 rfl ?_
  refine z_put (fs' := [.int (zI (-1)), .int (zI (0)), .ref q7, .int (zI (0)), .int (zI (0)), .int (zI (0)), .int (zI (0)), .int (zI (0)), .int (zI (0))]) C (lt_o (i := i) (c := 0) (d := 2) rfl) ha14 hg21 tyX7 tyX7_ok nmX7 rfl inA_X7 4 (by decide) q_48 rfl rfl rfl rfl (Nat.le_of_ble_eq_true rfl) rfl dX7_init_28 (fun g22 eg23 => ?_)
  have hg24 := up_s eg23
  refine z_aload_n C 0 dX7_init_31 rfl ?_
  refine z_iconst (z := 0) C dX7_init_32 rfl ?_
  refine z_put (fs' := [.int (zI (-1)), .int (zI (0)), .ref q7, .int (zI (0)), .int (zI (0)), .int (zI (0)), .int (zI (0)), .int (zI (0)), .int (zI (0))]) C (lt_o (i := i) (c := 0) (d := 2) rfl) ha14 hg24 tyX7 tyX7_ok nmX7 rfl inA_X7 5 (by decide) q_49 rfl rfl rfl rfl (Nat.le_of_ble_eq_true rfl) rfl dX7_init_33 (fun g25 eg26 => ?_)
  have hg27 := up_s eg26
  refine z_aload_n C 0 dX7_init_36 rfl ?_
  refine z_iconst (z := 0) C dX7_init_37 rfl ?_
  refine z_put (fs' := [.int (zI (-1)), .int (zI (0)), .ref q7, .int (zI (0)), .int (zI (0)), .int (zI (0)), .int (zI (0)), .int (zI (0)), .int (zI (0))]) C (lt_o (i := i) (c := 0) (d := 2) rfl) ha14 hg27 tyX7 tyX7_ok nmX7 rfl inA_X7 6 (by decide) q_50 rfl rfl rfl rfl (Nat.le_of_ble_eq_true rfl) rfl dX7_init_38 (fun g28 eg29 => ?_)
  have hg30 := up_s eg29
  refine z_aload_n C 0 dX7_init_41 rfl ?_
  refine z_iconst (z := 0) C dX7_init_42 rfl ?_
  refine z_put (fs' := [.int (zI (-1)), .int (zI (0)), .ref q7, .int (zI (0)), .int (zI (0)), .int (zI (0)), .int (zI (0)), .int (zI (0)), .int (zI (0))]) C (lt_o (i := i) (c := 0) (d := 2) rfl) ha14 hg30 tyX7 tyX7_ok nmX7 rfl inA_X7 7 (by decide) q_51 rfl rfl rfl rfl (Nat.le_of_ble_eq_true rfl) rfl dX7_init_43 (fun g31 eg32 => ?_)
  have hg33 := up_s eg32
  refine z_aload_n C 0 dX7_init_46 rfl ?_
  refine z_iconst (z := 0) C dX7_init_47 rfl ?_
  refine z_put (fs' := [.int (zI (-1)), .int (zI (0)), .ref q7, .int (zI (0)), .int (zI (0)), .int (zI (0)), .int (zI (0)), .int (zI (0)), .int (zI (0))]) C (lt_o (i := i) (c := 0) (d := 2) rfl) ha14 hg33 tyX7 tyX7_ok nmX7 rfl inA_X7 8 (by decide) q_52 rfl rfl rfl rfl (Nat.le_of_ble_eq_true rfl) rfl dX7_init_48 (fun g34 eg35 => ?_)
  have hg36 := up_s eg35
  have hg37 := up_n eg17 hg13 (ne_o (i := i) (c := 1) (d := 0) rfl)
  have hg38 := up_n eg20 hg37 (ne_o (i := i) (c := 1) (d := 0) rfl)
  have hg39 := up_n eg23 hg38 (ne_o (i := i) (c := 1) (d := 0) rfl)
  have hg40 := up_n eg26 hg39 (ne_o (i := i) (c := 1) (d := 0) rfl)
  have hg41 := up_n eg29 hg40 (ne_o (i := i) (c := 1) (d := 0) rfl)
  have hg42 := up_n eg32 hg41 (ne_o (i := i) (c := 1) (d := 0) rfl)
  have hg43 := up_n eg35 hg42 (ne_o (i := i) (c := 1) (d := 0) rfl)
  exact z_vret C hr hlk dX7_init_51 (by decide) (by decide) (⟨rfl, rfl, fun j h1 => by rw [ea10, va_up_ne _ _ (by omega)], fun j h1 h2 => by rw [eg35, va_up_ne _ _ (by omega)]; rw [eg32, va_up_ne _ _ (by omega)]; rw [eg29, va_up_ne _ _ (by omega)]; rw [eg26, va_up_ne _ _ (by omega)]; rw [eg23, va_up_ne _ _ (by omega)]; rw [eg20, va_up_ne _ _ (by omega)]; rw [eg17, va_up_ne _ _ (by omega)]; rw [eg11, va_up_ne _ _ (by omega)]; rw [eg5, va_up_ne _ _ (by omega)]; rw [eg2, va_up_ne _ _ (by omega)], by rw [← (show ad8 (i + 1) = q7 from ha12)] at hg36; exact hg36, hg43⟩)

set_option maxRecDepth 100000 in
set_option maxHeartbeats 4000000 in
theorem c_X4_init (l : Launch) (D : va_G) (A : Nat → Prop) (cs : Nat → ClassId) (tt : Nat) (ad : Nat → Nat) (g : Nat → va_E) (i a : Nat) (ha : ad i = a) (hg : g i = oC 6 [.int (zI 0), .int (zI 0), .null]) : zM l yX4_init cX4_init 1 none ({ frames := 2, cells := 2, slots := 87, locals := 120 } : Room) D A cs tt (i + 1) ad g [.ref a] (rV fun N' ad' g' => N' = i + 3 ∧ (∀ j, j < i + 1 → ad' j = ad j) ∧ (∀ j, j < i + 1 → j ≠ i → g' j = g j) ∧ isPit cs ad' g' i 0 0 0 0 (fun _ => 0)) := by
  refine z_of (by decide) (Nat.le_of_ble_eq_true rfl) ?_
  intro p e s m below meth c C hr hlk hnm
  refine z_lv (lv' := [(0, .ref a)]) [0] rfl ?_
  refine z_aload_n C 0 dX4_init_0 rfl ?_
  refine z_objInit C q_238 q_35 q_36 dX4_init_1 (Nat.le_of_ble_eq_true rfl) (Nat.le_of_ble_eq_true rfl) ?_
  refine z_aload_n C 0 dX4_init_4 rfl ?_
  refine z_iconst (z := 0) C dX4_init_5 rfl ?_
  refine z_put (fs' := [.int (zI (0)), .int (zI (0)), .null]) C (lt_o (i := i) (c := 0) (d := 1) rfl) ha hg tyX4 tyX4_ok nmX4 rfl inA_X4 0 (by decide) q_241 rfl rfl rfl rfl (Nat.le_of_ble_eq_true rfl) rfl dX4_init_6 (fun g1 eg2 => ?_)
  have hg3 := up_s eg2
  refine z_aload_n C 0 dX4_init_9 rfl ?_
  refine z_iconst (z := 0) C dX4_init_10 rfl ?_
  refine z_put (fs' := [.int (zI (0)), .int (zI (0)), .null]) C (lt_o (i := i) (c := 0) (d := 1) rfl) ha hg3 tyX4 tyX4_ok nmX4 rfl inA_X4 1 (by decide) q_244 rfl rfl rfl rfl (Nat.le_of_ble_eq_true rfl) rfl dX4_init_11 (fun g4 eg5 => ?_)
  have hg6 := up_s eg5
  refine z_aload_n C 0 dX4_init_14 rfl ?_
  refine z_new (fs := [.int (zI (0)), .int (zI (0)), .null]) (ci := 5) C tyX3 tyX3_ok rfl inA_X3 q_239 q_149 q_6 (fun j hj => by rcases (show j = 0 ∨ j = 1 ∨ j = 2 by omega) with rfl | rfl | rfl <;> rfl) (by decide) (by decide) dX4_init_15 (fun q7 ad8 g9 ea10 eg11 => ?_)
  have ha12 : zAt ad8 (i + 1) q7 := up_s ea10
  have hg13 := up_s eg11
  refine z_dup C dX4_init_18 rfl ?_
  refine z_cIN (As := []) (rest := [.ref q7, .ref a]) C (c_X3_init l D A cs tt _ _ _ (i + 1) q7 (lt_o (i := i) (c := 1) (d := 2) rfl) ha12 hg13) mi_yX3_init n_240 rfl (by decide +kernel) (by decide) (Nat.le_of_ble_eq_true rfl) (by decide) dX4_init_19 rfl (kV fun M18 ad19 g20 hq21 => ?_)
  obtain ⟨rfl, hA14, hG15, hg16, hg17⟩ := hq21
  have ha22 : zAt ad19 (i + 1 + 1) (ad19 (i + 1 + 1)) := rfl
  have ha23 : zAt ad8 (i) (a) := up_n ea10 ha (ne_o (i := i) (c := 0) (d := 1) rfl)
  have ha24 : zAt ad19 (i) (a) := (hA14 (i) (lt_o (i := i) (c := 0) (d := 2) rfl)).trans ha23
  have hg25 := up_n eg11 hg6 (ne_o (i := i) (c := 0) (d := 1) rfl)
  have hg26 := (hG15 (i) (lt_o (i := i) (c := 0) (d := 2) rfl) (ne_o (i := i) (c := 0) (d := 1) rfl)).trans hg25
  refine z_putF (fs' := [.int (zI (0)), .int (zI (0)), .ref q7]) C (lt_o (i := i) (c := 0) (d := 3) rfl) ha24 hg26 tyX4 tyX4_ok nmX4 rfl inA_X4 2 (by decide) q_247 rfl rfl hnm rfl rfl rfl (Nat.le_of_ble_eq_true rfl) rfl dX4_init_22 (fun g27 eg28 => ?_)
  have hg29 := up_s eg28
  have ha30 : zAt ad19 (i + 1) (q7) := (hA14 (i + 1) (lt_o (i := i) (c := 1) (d := 2) rfl)).trans ha12
  have hg31 := up_n eg28 hg16 (ne_o (i := i) (c := 1) (d := 0) rfl)
  have hg32 := up_n eg28 hg17 (ne_o (i := i) (c := 2) (d := 0) rfl)
  exact z_vret C hr hlk dX4_init_25 (by decide) (by decide) (⟨rfl, rfl, fun j h1 => by rw [hA14 _ (by omega)]; rw [ea10, va_up_ne _ _ (by omega)], fun j h1 h2 => by rw [eg28, va_up_ne _ _ (by omega)]; rw [hG15 _ (by omega) (by omega)]; rw [eg11, va_up_ne _ _ (by omega)]; rw [eg5, va_up_ne _ _ (by omega)]; rw [eg2, va_up_ne _ _ (by omega)], by rw [← (show ad19 (i + 1) = q7 from ha30)] at hg29; exact hg29, by rw [← (show ad19 (i + 1 + 1) = ad19 (i + 1 + 1) from ha22)] at hg31; exact hg31, hg32⟩)

set_option maxRecDepth 100000 in
set_option maxHeartbeats 4000000 in
theorem c_X5_init (l : Launch) (D : va_G) (A : Nat → Prop) (cs : Nat → ClassId) (tt : Nat) (ad : Nat → Nat) (g : Nat → va_E) (i a : Nat) (ha : ad i = a) (hg : g i = oC 7 [.int (zI 0), .int (zI 0), .int (zI 0), .null, .null, .null, .null, .null, .null]) : zM l yX5_init cX5_init 1 none ({ frames := 1, cells := 6, slots := 95, locals := 60 } : Room) D A cs tt (i + 1) ad g [.ref a] (rV fun N' ad' g' => N' = i + 7 ∧ (∀ j, j < i + 1 → ad' j = ad j) ∧ (∀ j, j < i + 1 → j ≠ i → g' j = g j) ∧ isPlan cs ad' g' i 0 0 0 (fun _ => 0) (fun _ => 0) (fun _ => 0) (fun _ => 0) (fun _ => 0) tabZ) := by
  refine z_of (by decide) (Nat.le_of_ble_eq_true rfl) ?_
  intro p e s m below meth c C hr hlk hnm
  refine z_lv (lv' := [(0, .ref a)]) [0] rfl ?_
  refine z_aload_n C 0 dX5_init_0 rfl ?_
  refine z_objInit C q_78 q_35 q_36 dX5_init_1 (Nat.le_of_ble_eq_true rfl) (Nat.le_of_ble_eq_true rfl) ?_
  refine z_aload_n C 0 dX5_init_4 rfl ?_
  refine z_iconst (z := 0) C dX5_init_5 rfl ?_
  refine z_put (fs' := [.int (zI (0)), .int (zI (0)), .int (zI (0)), .null, .null, .null, .null, .null, .null]) C (lt_o (i := i) (c := 0) (d := 1) rfl) ha hg tyX5 tyX5_ok nmX5 rfl inA_X5 0 (by decide) q_88 rfl rfl rfl rfl (Nat.le_of_ble_eq_true rfl) rfl dX5_init_6 (fun g1 eg2 => ?_)
  have hg3 := up_s eg2
  refine z_aload_n C 0 dX5_init_9 rfl ?_
  refine z_iconst (z := 0) C dX5_init_10 rfl ?_
  refine z_put (fs' := [.int (zI (0)), .int (zI (0)), .int (zI (0)), .null, .null, .null, .null, .null, .null]) C (lt_o (i := i) (c := 0) (d := 1) rfl) ha hg3 tyX5 tyX5_ok nmX5 rfl inA_X5 1 (by decide) q_92 rfl rfl rfl rfl (Nat.le_of_ble_eq_true rfl) rfl dX5_init_11 (fun g4 eg5 => ?_)
  have hg6 := up_s eg5
  refine z_aload_n C 0 dX5_init_14 rfl ?_
  refine z_iconst (z := 0) C dX5_init_15 rfl ?_
  refine z_put (fs' := [.int (zI (0)), .int (zI (0)), .int (zI (0)), .null, .null, .null, .null, .null, .null]) C (lt_o (i := i) (c := 0) (d := 1) rfl) ha hg6 tyX5 tyX5_ok nmX5 rfl inA_X5 2 (by decide) q_95 rfl rfl rfl rfl (Nat.le_of_ble_eq_true rfl) rfl dX5_init_16 (fun g7 eg8 => ?_)
  have hg9 := up_s eg8
  refine z_aload_n C 0 dX5_init_19 rfl ?_
  refine z_iconst (z := 4) C dX5_init_20 rfl ?_
  refine z_newI C 4 rfl q_134 (by decide) (by decide) (by decide) dX5_init_21 (fun q10 ad11 g12 ea13 eg14 => ?_)
  have ha15 : zAt ad11 (i + 1) q10 := up_s ea13
  have hg16 := up_s eg14
  have ha17 : zAt ad11 (i) (a) := up_n ea13 ha (ne_o (i := i) (c := 0) (d := 1) rfl)
  have hg18 := up_n eg14 hg9 (ne_o (i := i) (c := 0) (d := 1) rfl)
  refine z_putF (fs' := [.int (zI (0)), .int (zI (0)), .int (zI (0)), .ref q10, .null, .null, .null, .null, .null]) C (lt_o (i := i) (c := 0) (d := 2) rfl) ha17 hg18 tyX5 tyX5_ok nmX5 rfl inA_X5 3 (by decide) q_96 rfl rfl hnm rfl rfl rfl (Nat.le_of_ble_eq_true rfl) rfl dX5_init_23 (fun g19 eg20 => ?_)
  have hg21 := up_s eg20
  refine z_aload_n C 0 dX5_init_26 rfl ?_
  refine z_iconst (z := 4) C dX5_init_27 rfl ?_
  refine z_newI C 4 rfl q_134 (by decide) (by decide) (by decide) dX5_init_28 (fun q22 ad23 g24 ea25 eg26 => ?_)
  have ha27 : zAt ad23 (i + 1 + 1) q22 := up_s ea25
  have hg28 := up_s eg26
  have ha29 : zAt ad23 (i) (a) := up_n ea25 ha17 (ne_o (i := i) (c := 0) (d := 2) rfl)
  have hg30 := up_n eg26 hg21 (ne_o (i := i) (c := 0) (d := 2) rfl)
  refine z_putF (fs' := [.int (zI (0)), .int (zI (0)), .int (zI (0)), .ref q10, .ref q22, .null, .null, .null, .null]) C (lt_o (i := i) (c := 0) (d := 3) rfl) ha29 hg30 tyX5 tyX5_ok nmX5 rfl inA_X5 4 (by decide) q_100 rfl rfl hnm rfl rfl rfl (Nat.le_of_ble_eq_true rfl) rfl dX5_init_30 (fun g31 eg32 => ?_)
  have hg33 := up_s eg32
  refine z_aload_n C 0 dX5_init_33 rfl ?_
  refine z_bipush (z := 24) C dX5_init_34 (by decide) ?_
  refine z_newI C 24 rfl q_134 (by decide) (by decide) (by decide) dX5_init_36 (fun q34 ad35 g36 ea37 eg38 => ?_)
  have ha39 : zAt ad35 (i + 1 + 1 + 1) q34 := up_s ea37
  have hg40 := up_s eg38
  have ha41 : zAt ad35 (i) (a) := up_n ea37 ha29 (ne_o (i := i) (c := 0) (d := 3) rfl)
  have hg42 := up_n eg38 hg33 (ne_o (i := i) (c := 0) (d := 3) rfl)
  refine z_putF (fs' := [.int (zI (0)), .int (zI (0)), .int (zI (0)), .ref q10, .ref q22, .ref q34, .null, .null, .null]) C (lt_o (i := i) (c := 0) (d := 4) rfl) ha41 hg42 tyX5 tyX5_ok nmX5 rfl inA_X5 5 (by decide) q_104 rfl rfl hnm rfl rfl rfl (Nat.le_of_ble_eq_true rfl) rfl dX5_init_38 (fun g43 eg44 => ?_)
  have hg45 := up_s eg44
  refine z_aload_n C 0 dX5_init_41 rfl ?_
  refine z_bipush (z := 24) C dX5_init_42 (by decide) ?_
  refine z_newI C 24 rfl q_134 (by decide) (by decide) (by decide) dX5_init_44 (fun q46 ad47 g48 ea49 eg50 => ?_)
  have ha51 : zAt ad47 (i + 1 + 1 + 1 + 1) q46 := up_s ea49
  have hg52 := up_s eg50
  have ha53 : zAt ad47 (i) (a) := up_n ea49 ha41 (ne_o (i := i) (c := 0) (d := 4) rfl)
  have hg54 := up_n eg50 hg45 (ne_o (i := i) (c := 0) (d := 4) rfl)
  refine z_putF (fs' := [.int (zI (0)), .int (zI (0)), .int (zI (0)), .ref q10, .ref q22, .ref q34, .ref q46, .null, .null]) C (lt_o (i := i) (c := 0) (d := 5) rfl) ha53 hg54 tyX5 tyX5_ok nmX5 rfl inA_X5 6 (by decide) q_107 rfl rfl hnm rfl rfl rfl (Nat.le_of_ble_eq_true rfl) rfl dX5_init_46 (fun g55 eg56 => ?_)
  have hg57 := up_s eg56
  refine z_aload_n C 0 dX5_init_49 rfl ?_
  refine z_bipush (z := 24) C dX5_init_50 (by decide) ?_
  refine z_newI C 24 rfl q_134 (by decide) (by decide) (by decide) dX5_init_52 (fun q58 ad59 g60 ea61 eg62 => ?_)
  have ha63 : zAt ad59 (i + 1 + 1 + 1 + 1 + 1) q58 := up_s ea61
  have hg64 := up_s eg62
  have ha65 : zAt ad59 (i) (a) := up_n ea61 ha53 (ne_o (i := i) (c := 0) (d := 5) rfl)
  have hg66 := up_n eg62 hg57 (ne_o (i := i) (c := 0) (d := 5) rfl)
  refine z_putF (fs' := [.int (zI (0)), .int (zI (0)), .int (zI (0)), .ref q10, .ref q22, .ref q34, .ref q46, .ref q58, .null]) C (lt_o (i := i) (c := 0) (d := 6) rfl) ha65 hg66 tyX5 tyX5_ok nmX5 rfl inA_X5 7 (by decide) q_110 rfl rfl hnm rfl rfl rfl (Nat.le_of_ble_eq_true rfl) rfl dX5_init_54 (fun g67 eg68 => ?_)
  have hg69 := up_s eg68
  refine z_aload_n C 0 dX5_init_57 rfl ?_
  refine z_getT C n_79 dX5_init_58 ?_
  refine z_cloneT C q_81 q_82 q_83 q_84 q_85 n_86 (by decide) (Nat.le_of_ble_eq_true rfl) (by decide) (by decide) dX5_init_61 (fun q70 ad71 g72 ea73 eg74 => ?_)
  have ha75 : zAt ad71 (i + 1 + 1 + 1 + 1 + 1 + 1) q70 := up_s ea73
  have hg76 := up_s eg74
  refine z_castI C (by omega) ha75 hg76 q_87 dX5_init_64 ?_
  have ha77 : zAt ad71 (i) (a) := up_n ea73 ha65 (ne_o (i := i) (c := 0) (d := 6) rfl)
  have hg78 := up_n eg74 hg69 (ne_o (i := i) (c := 0) (d := 6) rfl)
  refine z_putF (fs' := [.int (zI (0)), .int (zI (0)), .int (zI (0)), .ref q10, .ref q22, .ref q34, .ref q46, .ref q58, .ref q70]) C (lt_o (i := i) (c := 0) (d := 7) rfl) ha77 hg78 tyX5 tyX5_ok nmX5 rfl inA_X5 8 (by decide) q_113 rfl rfl hnm rfl rfl rfl (Nat.le_of_ble_eq_true rfl) rfl dX5_init_67 (fun g79 eg80 => ?_)
  have hg81 := up_s eg80
  have ha82 : zAt ad23 (i + 1) (q10) := up_n ea25 ha15 (ne_o (i := i) (c := 1) (d := 2) rfl)
  have ha83 : zAt ad35 (i + 1) (q10) := up_n ea37 ha82 (ne_o (i := i) (c := 1) (d := 3) rfl)
  have ha84 : zAt ad47 (i + 1) (q10) := up_n ea49 ha83 (ne_o (i := i) (c := 1) (d := 4) rfl)
  have ha85 : zAt ad59 (i + 1) (q10) := up_n ea61 ha84 (ne_o (i := i) (c := 1) (d := 5) rfl)
  have ha86 : zAt ad71 (i + 1) (q10) := up_n ea73 ha85 (ne_o (i := i) (c := 1) (d := 6) rfl)
  have ha87 : zAt ad35 (i + 1 + 1) (q22) := up_n ea37 ha27 (ne_o (i := i) (c := 2) (d := 3) rfl)
  have ha88 : zAt ad47 (i + 1 + 1) (q22) := up_n ea49 ha87 (ne_o (i := i) (c := 2) (d := 4) rfl)
  have ha89 : zAt ad59 (i + 1 + 1) (q22) := up_n ea61 ha88 (ne_o (i := i) (c := 2) (d := 5) rfl)
  have ha90 : zAt ad71 (i + 1 + 1) (q22) := up_n ea73 ha89 (ne_o (i := i) (c := 2) (d := 6) rfl)
  have ha91 : zAt ad47 (i + 1 + 1 + 1) (q34) := up_n ea49 ha39 (ne_o (i := i) (c := 3) (d := 4) rfl)
  have ha92 : zAt ad59 (i + 1 + 1 + 1) (q34) := up_n ea61 ha91 (ne_o (i := i) (c := 3) (d := 5) rfl)
  have ha93 : zAt ad71 (i + 1 + 1 + 1) (q34) := up_n ea73 ha92 (ne_o (i := i) (c := 3) (d := 6) rfl)
  have ha94 : zAt ad59 (i + 1 + 1 + 1 + 1) (q46) := up_n ea61 ha51 (ne_o (i := i) (c := 4) (d := 5) rfl)
  have ha95 : zAt ad71 (i + 1 + 1 + 1 + 1) (q46) := up_n ea73 ha94 (ne_o (i := i) (c := 4) (d := 6) rfl)
  have ha96 : zAt ad71 (i + 1 + 1 + 1 + 1 + 1) (q58) := up_n ea73 ha63 (ne_o (i := i) (c := 5) (d := 6) rfl)
  have hg97 := up_n eg20 hg16 (ne_o (i := i) (c := 1) (d := 0) rfl)
  have hg98 := up_n eg26 hg97 (ne_o (i := i) (c := 1) (d := 2) rfl)
  have hg99 := up_n eg32 hg98 (ne_o (i := i) (c := 1) (d := 0) rfl)
  have hg100 := up_n eg38 hg99 (ne_o (i := i) (c := 1) (d := 3) rfl)
  have hg101 := up_n eg44 hg100 (ne_o (i := i) (c := 1) (d := 0) rfl)
  have hg102 := up_n eg50 hg101 (ne_o (i := i) (c := 1) (d := 4) rfl)
  have hg103 := up_n eg56 hg102 (ne_o (i := i) (c := 1) (d := 0) rfl)
  have hg104 := up_n eg62 hg103 (ne_o (i := i) (c := 1) (d := 5) rfl)
  have hg105 := up_n eg68 hg104 (ne_o (i := i) (c := 1) (d := 0) rfl)
  have hg106 := up_n eg74 hg105 (ne_o (i := i) (c := 1) (d := 6) rfl)
  have hg107 := up_n eg80 hg106 (ne_o (i := i) (c := 1) (d := 0) rfl)
  have hg108 := up_n eg32 hg28 (ne_o (i := i) (c := 2) (d := 0) rfl)
  have hg109 := up_n eg38 hg108 (ne_o (i := i) (c := 2) (d := 3) rfl)
  have hg110 := up_n eg44 hg109 (ne_o (i := i) (c := 2) (d := 0) rfl)
  have hg111 := up_n eg50 hg110 (ne_o (i := i) (c := 2) (d := 4) rfl)
  have hg112 := up_n eg56 hg111 (ne_o (i := i) (c := 2) (d := 0) rfl)
  have hg113 := up_n eg62 hg112 (ne_o (i := i) (c := 2) (d := 5) rfl)
  have hg114 := up_n eg68 hg113 (ne_o (i := i) (c := 2) (d := 0) rfl)
  have hg115 := up_n eg74 hg114 (ne_o (i := i) (c := 2) (d := 6) rfl)
  have hg116 := up_n eg80 hg115 (ne_o (i := i) (c := 2) (d := 0) rfl)
  have hg117 := up_n eg44 hg40 (ne_o (i := i) (c := 3) (d := 0) rfl)
  have hg118 := up_n eg50 hg117 (ne_o (i := i) (c := 3) (d := 4) rfl)
  have hg119 := up_n eg56 hg118 (ne_o (i := i) (c := 3) (d := 0) rfl)
  have hg120 := up_n eg62 hg119 (ne_o (i := i) (c := 3) (d := 5) rfl)
  have hg121 := up_n eg68 hg120 (ne_o (i := i) (c := 3) (d := 0) rfl)
  have hg122 := up_n eg74 hg121 (ne_o (i := i) (c := 3) (d := 6) rfl)
  have hg123 := up_n eg80 hg122 (ne_o (i := i) (c := 3) (d := 0) rfl)
  have hg124 := up_n eg56 hg52 (ne_o (i := i) (c := 4) (d := 0) rfl)
  have hg125 := up_n eg62 hg124 (ne_o (i := i) (c := 4) (d := 5) rfl)
  have hg126 := up_n eg68 hg125 (ne_o (i := i) (c := 4) (d := 0) rfl)
  have hg127 := up_n eg74 hg126 (ne_o (i := i) (c := 4) (d := 6) rfl)
  have hg128 := up_n eg80 hg127 (ne_o (i := i) (c := 4) (d := 0) rfl)
  have hg129 := up_n eg68 hg64 (ne_o (i := i) (c := 5) (d := 0) rfl)
  have hg130 := up_n eg74 hg129 (ne_o (i := i) (c := 5) (d := 6) rfl)
  have hg131 := up_n eg80 hg130 (ne_o (i := i) (c := 5) (d := 0) rfl)
  have hg132 := up_n eg80 hg76 (ne_o (i := i) (c := 6) (d := 0) rfl)
  exact z_vret C hr hlk dX5_init_70 (by decide) (by decide) (⟨rfl, rfl, fun j h1 => by rw [ea73, va_up_ne _ _ (by omega)]; rw [ea61, va_up_ne _ _ (by omega)]; rw [ea49, va_up_ne _ _ (by omega)]; rw [ea37, va_up_ne _ _ (by omega)]; rw [ea25, va_up_ne _ _ (by omega)]; rw [ea13, va_up_ne _ _ (by omega)], fun j h1 h2 => by rw [eg80, va_up_ne _ _ (by omega)]; rw [eg74, va_up_ne _ _ (by omega)]; rw [eg68, va_up_ne _ _ (by omega)]; rw [eg62, va_up_ne _ _ (by omega)]; rw [eg56, va_up_ne _ _ (by omega)]; rw [eg50, va_up_ne _ _ (by omega)]; rw [eg44, va_up_ne _ _ (by omega)]; rw [eg38, va_up_ne _ _ (by omega)]; rw [eg32, va_up_ne _ _ (by omega)]; rw [eg26, va_up_ne _ _ (by omega)]; rw [eg20, va_up_ne _ _ (by omega)]; rw [eg14, va_up_ne _ _ (by omega)]; rw [eg8, va_up_ne _ _ (by omega)]; rw [eg5, va_up_ne _ _ (by omega)]; rw [eg2, va_up_ne _ _ (by omega)], by rw [← (show ad71 (i + 1) = q10 from ha86), ← (show ad71 (i + 1 + 1) = q22 from ha90), ← (show ad71 (i + 1 + 1 + 1) = q34 from ha93), ← (show ad71 (i + 1 + 1 + 1 + 1) = q46 from ha95), ← (show ad71 (i + 1 + 1 + 1 + 1 + 1) = q58 from ha96), ← (show ad71 (i + 1 + 1 + 1 + 1 + 1 + 1) = q70 from ha75)] at hg81; exact hg81, hg107, hg116, hg123, hg128, hg131, hg132⟩)

set_option maxRecDepth 100000 in
set_option maxHeartbeats 4000000 in
theorem c_X0_init (l : Launch) (D : va_G) (A : Nat → Prop) (cs : Nat → ClassId) (tt : Nat) (ad : Nat → Nat) (g : Nat → va_E) (i a : Nat) (ha : ad i = a) (hg : g i = oC 2 [.int (zI 0), .int (zI 0), .null, .null]) : zM l yX0_init cX0_init 1 none ({ frames := 1, cells := 6, slots := 4808, locals := 60 } : Room) D A cs tt (i + 1) ad g [.ref a] (rV fun N' ad' g' => N' = i + 7 ∧ (∀ j, j < i + 1 → ad' j = ad j) ∧ (∀ j, j < i + 1 → j ≠ i → g' j = g j) ∧ isGss cs ad' g' i 0 (-1) (fun _ => 0) (fun _ _ => 0)) := by
  refine z_of (by decide) (Nat.le_of_ble_eq_true rfl) ?_
  intro p e s m below meth c C hr hlk hnm
  refine z_lv (lv' := [(0, .ref a)]) [0] rfl ?_
  refine z_aload_n C 0 dX0_init_0 rfl ?_
  refine z_objInit C q_288 q_35 q_36 dX0_init_1 (Nat.le_of_ble_eq_true rfl) (Nat.le_of_ble_eq_true rfl) ?_
  refine z_aload_n C 0 dX0_init_4 rfl ?_
  refine z_iconst (z := 0) C dX0_init_5 rfl ?_
  refine z_put (fs' := [.int (zI (0)), .int (zI (0)), .null, .null]) C (lt_o (i := i) (c := 0) (d := 1) rfl) ha hg tyX0 tyX0_ok nmX0 rfl inA_X0 0 (by decide) q_291 rfl rfl rfl rfl (Nat.le_of_ble_eq_true rfl) rfl dX0_init_6 (fun g1 eg2 => ?_)
  have hg3 := up_s eg2
  refine z_aload_n C 0 dX0_init_9 rfl ?_
  refine z_iconst (z := -1) C dX0_init_10 rfl ?_
  refine z_put (fs' := [.int (zI (0)), .int (zI (-1)), .null, .null]) C (lt_o (i := i) (c := 0) (d := 1) rfl) ha hg3 tyX0 tyX0_ok nmX0 rfl inA_X0 1 (by decide) q_293 rfl rfl rfl rfl (Nat.le_of_ble_eq_true rfl) rfl dX0_init_11 (fun g4 eg5 => ?_)
  have hg6 := up_s eg5
  refine z_aload_n C 0 dX0_init_14 rfl ?_
  refine z_iconst (z := 4) C dX0_init_15 rfl ?_
  refine z_newI C 4 rfl q_134 (by decide) (by decide) (by decide) dX0_init_16 (fun q7 ad8 g9 ea10 eg11 => ?_)
  have ha12 : zAt ad8 (i + 1) q7 := up_s ea10
  have hg13 := up_s eg11
  have ha14 : zAt ad8 (i) (a) := up_n ea10 ha (ne_o (i := i) (c := 0) (d := 1) rfl)
  have hg15 := up_n eg11 hg6 (ne_o (i := i) (c := 0) (d := 1) rfl)
  refine z_putF (fs' := [.int (zI (0)), .int (zI (-1)), .ref q7, .null]) C (lt_o (i := i) (c := 0) (d := 2) rfl) ha14 hg15 tyX0 tyX0_ok nmX0 rfl inA_X0 2 (by decide) q_295 rfl rfl hnm rfl rfl rfl (Nat.le_of_ble_eq_true rfl) rfl dX0_init_18 (fun g16 eg17 => ?_)
  have hg18 := up_s eg17
  refine z_aload_n C 0 dX0_init_21 rfl ?_
  refine z_iconst (z := 4) C dX0_init_22 rfl ?_
  refine z_sipush (z := 1200) C dX0_init_23 (by decide) ?_
  refine z_mna C q_289 q_134 (by decide) (by decide) dX0_init_26 (fun q19 r20 ad21 g22 ea23 eg24 => ?_)
  have hA25 : ∀ j, j < i + 1 + 1 → ad21 j = ad8 j := fun j h1 => by rw [ea23, va_up_ne _ _ (by omega), va_up_ne _ _ (by omega), va_up_ne _ _ (by omega), va_up_ne _ _ (by omega), va_up_ne _ _ (by omega)]
  have hG26 : ∀ j, j < i + 1 + 1 → g22 j = g16 j := fun j h1 => by rw [eg24, va_up_ne _ _ (by omega), va_up_ne _ _ (by omega), va_up_ne _ _ (by omega), va_up_ne _ _ (by omega), va_up_ne _ _ (by omega)]
  have ha27 : zAt ad21 (i + 1 + 1) (q19) := by show ad21 (i + 1 + 1) = q19; rw [ea23, va_up_ne _ _ (by omega), va_up_ne _ _ (by omega), va_up_ne _ _ (by omega), va_up_ne _ _ (by omega), va_up_self]
  have hg28 := congrFun eg24 (i + 1 + 1)
  rw [va_up_ne _ _ (by omega), va_up_ne _ _ (by omega), va_up_ne _ _ (by omega), va_up_ne _ _ (by omega), va_up_self] at hg28
  have ha29 : zAt ad21 (i + 1 + 1 + 1) (r20 0) := by show ad21 (i + 1 + 1 + 1) = r20 0; rw [ea23, va_up_ne _ _ (by omega), va_up_ne _ _ (by omega), va_up_ne _ _ (by omega), va_up_self]
  have hg30 := congrFun eg24 (i + 1 + 1 + 1)
  rw [va_up_ne _ _ (by omega), va_up_ne _ _ (by omega), va_up_ne _ _ (by omega), va_up_self] at hg30
  have ha31 : zAt ad21 (i + 1 + 1 + 1 + 1) (r20 1) := by show ad21 (i + 1 + 1 + 1 + 1) = r20 1; rw [ea23, va_up_ne _ _ (by omega), va_up_ne _ _ (by omega), va_up_self]
  have hg32 := congrFun eg24 (i + 1 + 1 + 1 + 1)
  rw [va_up_ne _ _ (by omega), va_up_ne _ _ (by omega), va_up_self] at hg32
  have ha33 : zAt ad21 (i + 1 + 1 + 1 + 1 + 1) (r20 2) := by show ad21 (i + 1 + 1 + 1 + 1 + 1) = r20 2; rw [ea23, va_up_ne _ _ (by omega), va_up_self]
  have hg34 := congrFun eg24 (i + 1 + 1 + 1 + 1 + 1)
  rw [va_up_ne _ _ (by omega), va_up_self] at hg34
  have ha35 : zAt ad21 (i + 1 + 1 + 1 + 1 + 1 + 1) (r20 3) := by show ad21 (i + 1 + 1 + 1 + 1 + 1 + 1) = r20 3; rw [ea23, va_up_self]
  have hg36 := congrFun eg24 (i + 1 + 1 + 1 + 1 + 1 + 1)
  rw [va_up_self] at hg36
  have ha37 : zAt ad21 (i) (a) := (hA25 (i) (lt_o (i := i) (c := 0) (d := 2) rfl)).trans ha14
  have hg38 := (hG26 (i) (lt_o (i := i) (c := 0) (d := 2) rfl)).trans hg18
  refine z_putF (fs' := [.int (zI (0)), .int (zI (-1)), .ref q7, .ref q19]) C (lt_o (i := i) (c := 0) (d := 7) rfl) ha37 hg38 tyX0 tyX0_ok nmX0 rfl inA_X0 3 (by decide) q_297 rfl rfl hnm rfl rfl rfl (Nat.le_of_ble_eq_true rfl) rfl dX0_init_30 (fun g39 eg40 => ?_)
  have hg41 := up_s eg40
  have ha42 : zAt ad21 (i + 1) (q7) := (hA25 (i + 1) (lt_o (i := i) (c := 1) (d := 2) rfl)).trans ha12
  have hg43 := up_n eg17 hg13 (ne_o (i := i) (c := 1) (d := 0) rfl)
  have hg44 := (hG26 (i + 1) (lt_o (i := i) (c := 1) (d := 2) rfl)).trans hg43
  have hg45 := up_n eg40 hg44 (ne_o (i := i) (c := 1) (d := 0) rfl)
  have hg46 := up_n eg40 hg28 (ne_o (i := i) (c := 2) (d := 0) rfl)
  have hg47 := up_n eg40 hg30 (ne_o (i := i) (c := 3) (d := 0) rfl)
  have hg48 := up_n eg40 hg32 (ne_o (i := i) (c := 4) (d := 0) rfl)
  have hg49 := up_n eg40 hg34 (ne_o (i := i) (c := 5) (d := 0) rfl)
  have hg50 := up_n eg40 hg36 (ne_o (i := i) (c := 6) (d := 0) rfl)
  have hk4 : ∀ k, k < 4 → (fun i => if i < 4 then some (r20 i) else none) k = some (ad21 (i + 3 + k)) := by
    intro k hk
    rcases (show k = 0 ∨ k = 1 ∨ k = 2 ∨ k = 3 by omega) with rfl | rfl | rfl | rfl
    · exact congrArg some (Eq.symm ha29)
    · exact congrArg some (Eq.symm ha31)
    · exact congrArg some (Eq.symm ha33)
    · exact congrArg some (Eq.symm ha35)
  have hc4 : ∀ k, k < 4 → g39 (i + 3 + k) = iA cs 1200 (fun _ => 0) := by
    intro k hk
    rcases (show k = 0 ∨ k = 1 ∨ k = 2 ∨ k = 3 by omega) with rfl | rfl | rfl | rfl
    · exact hg47
    · exact hg48
    · exact hg49
    · exact hg50
  exact z_vret C hr hlk dX0_init_33 (by decide) (by decide) (⟨rfl, rfl, fun j h1 => by rw [hA25 _ (by omega)]; rw [ea10, va_up_ne _ _ (by omega)], fun j h1 h2 => by rw [eg40, va_up_ne _ _ (by omega)]; rw [hG26 _ (by omega)]; rw [eg17, va_up_ne _ _ (by omega)]; rw [eg11, va_up_ne _ _ (by omega)]; rw [eg5, va_up_ne _ _ (by omega)]; rw [eg2, va_up_ne _ _ (by omega)], by rw [← (show ad21 (i + 1) = q7 from ha42), ← (show ad21 (i + 1 + 1) = q19 from ha27)] at hg41; exact hg41, hg45, ⟨_, hg46, hk4⟩, hc4⟩)

set_option maxRecDepth 100000 in
set_option maxHeartbeats 4000000 in
theorem c_J5_init_d00df (l : Launch) (D : va_G) (A : Nat → Prop) (cs : Nat → ClassId) (tt : Nat) (ad : Nat → Nat) (g : Nat → va_E) (i a : Nat) (ha : ad i = a) (hg : g i = oC 1 [.null, .int (zI 0), .int (zI 0), .int (zI 0)]) : zM l yJ5_init_d00df cJ5_init_d00df 2 none ({ frames := 1, cells := 1, slots := 16, locals := 60 } : Room) D A cs tt (i + 1) ad g [.ref a, .int (zI 16)] (rV fun N' ad' g' => N' = i + 2 ∧ (∀ j, j < i + 1 → ad' j = ad j) ∧ (∀ j, j < i + 1 → j ≠ i → g' j = g j) ∧ isBld cs ad' g' i) := by
  refine z_of (by decide) (Nat.le_of_ble_eq_true rfl) ?_
  intro p e s m below meth c C hr hlk hnm
  refine z_lv (lv' := [(0, .ref a), (1, .int (zI (16)))]) [0, 1] rfl ?_
  refine z_aload_n C 0 dJ5_init_d00df_0 rfl ?_
  refine z_objInit C q_325 q_35 q_36 dJ5_init_d00df_1 (Nat.le_of_ble_eq_true rfl) (Nat.le_of_ble_eq_true rfl) ?_
  refine z_getZ C q_326 dJ5_init_d00df_4 ?_
  refine z_if_eq (tgt := 25) C dJ5_init_d00df_7 (by decide) (by omega) (fun h => absurd h (by omega)) (fun _ => ?_)
  refine z_aload_n C 0 dJ5_init_d00df_10 rfl ?_
  refine z_iload_n C 1 dJ5_init_d00df_11 rfl ?_
  refine z_newB C 16 rfl q_72 (by decide) (by decide) (by decide) dJ5_init_d00df_12 (fun q1 ad2 g3 ea4 eg5 => ?_)
  have ha6 : zAt ad2 (i + 1) q1 := up_s ea4
  have hg7 := up_s eg5
  have ha8 : zAt ad2 (i) (a) := up_n ea4 ha (ne_o (i := i) (c := 0) (d := 1) rfl)
  have hg9 := up_n eg5 hg (ne_o (i := i) (c := 0) (d := 1) rfl)
  refine z_put (fs' := [.ref q1, .int (zI (0)), .int (zI (0)), .int (zI (0))]) C (lt_o (i := i) (c := 0) (d := 2) rfl) ha8 hg9 tyJ4 tyJ4_ok nmJ4 rfl inA_J4 0 (by decide) q_335 rfl rfl rfl rfl (Nat.le_of_ble_eq_true rfl) rfl dJ5_init_d00df_14 (fun g10 eg11 => ?_)
  have hg12 := up_s eg11
  refine z_aload_n C 0 dJ5_init_d00df_17 rfl ?_
  refine z_iconst (z := 0) C dJ5_init_d00df_18 rfl ?_
  refine z_put (fs' := [.ref q1, .int (zI (0)), .int (zI (0)), .int (zI (0))]) C (lt_o (i := i) (c := 0) (d := 2) rfl) ha8 hg12 tyJ4 tyJ4_ok nmJ4 rfl inA_J4 1 (by decide) q_336 rfl rfl (by decide) rfl (Nat.le_of_ble_eq_true rfl) rfl dJ5_init_d00df_19 (fun g13 eg14 => ?_)
  have hg15 := up_s eg14
  refine z_goto (tgt := 38) C dJ5_init_d00df_22 (by decide) ?_
  have hg16 := up_n eg11 hg7 (ne_o (i := i) (c := 1) (d := 0) rfl)
  have hg17 := up_n eg14 hg16 (ne_o (i := i) (c := 1) (d := 0) rfl)
  exact z_vret C hr hlk dJ5_init_d00df_38 (by decide) (by decide) (⟨rfl, rfl, fun j h1 => by rw [ea4, va_up_ne _ _ (by omega)], fun j h1 h2 => by rw [eg14, va_up_ne _ _ (by omega)]; rw [eg11, va_up_ne _ _ (by omega)]; rw [eg5, va_up_ne _ _ (by omega)], by rw [← (show ad2 (i + 1) = q1 from ha6)] at hg15; exact hg15, hg17⟩)

set_option maxRecDepth 100000 in
set_option maxHeartbeats 4000000 in
theorem c_J4_init_da8c8 (l : Launch) (D : va_G) (A : Nat → Prop) (cs : Nat → ClassId) (tt : Nat) (ad : Nat → Nat) (g : Nat → va_E) (i a : Nat) (ha : ad i = a) (hg : g i = oC 1 [.null, .int (zI 0), .int (zI 0), .int (zI 0)]) : zM l yJ4_init_da8c8 cJ4_init_da8c8 1 none ({ frames := 2, cells := 1, slots := 16, locals := 120 } : Room) D A cs tt (i + 1) ad g [.ref a] (rV fun N' ad' g' => N' = i + 2 ∧ (∀ j, j < i + 1 → ad' j = ad j) ∧ (∀ j, j < i + 1 → j ≠ i → g' j = g j) ∧ isBld cs ad' g' i) := by
  refine z_of (by decide) (Nat.le_of_ble_eq_true rfl) ?_
  intro p e s m below meth c C hr hlk hnm
  refine z_lv (lv' := [(0, .ref a)]) [0] rfl ?_
  refine z_aload_n C 0 dJ4_init_da8c8_0 rfl ?_
  refine z_bipush (z := 16) C dJ4_init_da8c8_1 (by decide) ?_
  refine z_cI (As := [.int (zI (16))]) (rest := []) C (c_J5_init_d00df l D A cs tt _ _ i a ha hg) mi_yJ5_init_d00df q_322 rfl (by decide +kernel) (by decide) (Nat.le_of_ble_eq_true rfl) (by decide) dJ4_init_da8c8_3 rfl (kV fun M4 ad5 g6 hq7 => ?_)
  obtain ⟨rfl, hA1, hG2, hp3⟩ := hq7
  exact z_vret C hr hlk dJ4_init_da8c8_6 (by decide) (by decide) (⟨rfl, rfl, hA1, hG2, hp3⟩)

def isSt (cs : Nat → ClassId) (ad : Nat → Nat) (g : Nat → va_E) (i : Nat) : Prop := g i = oC 8 [.ref (ad (i + 1)), .ref (ad (i + 11)), .int (zI 0), .ref (ad (i + 12)), .ref (ad (i + 13)), .ref (ad (i + 17))] ∧ isWorld cs ad g (i + 1) (fun _ => 0) (fun _ => 0) (fun _ => 0) (fun _ _ => 0) ∧ (∃ b : Nat → Option Nat, g (i + 11) = rA (cs 4) 40 b ∧ ∀ k, k < 40 → b k = some (ad (i + 18 + 10 * k))) ∧ (∃ b : Nat → Option Nat, g (i + 12) = rA (cs 5) 6 b ∧ ∀ k, k < 6 → b k = some (ad (i + 418 + 3 * k))) ∧ isNotes cs ad g (i + 13) 0 (fun _ => 0) (fun _ => 0) (fun _ => 0) ∧ g (i + 17) = iA cs 3 (fun _ => 0) ∧ (∀ k, k < 40 → isWorld cs ad g (i + 18 + 10 * k) (fun _ => 0) (fun _ => 0) (fun _ => 0) (fun _ _ => 0)) ∧ ∀ k, k < 6 → isPit cs ad g (i + 418 + 3 * k) 0 0 0 0 (fun _ => 0)
theorem isSt.mv {cs : Nat → ClassId} {ad ad' : Nat → Nat} {g g' : Nat → va_E} {i : Nat} (hA : ∀ j, i ≤ j → j < i + 436 → ad' j = ad j) (hG : ∀ j, i ≤ j → j < i + 436 → g' j = g j) (h : isSt cs ad g i) : isSt cs ad' g' i := by
  obtain ⟨h1, h2, ⟨b1, h3, h4⟩, ⟨b2, h5, h6⟩, h7, h8, h9, h10⟩ := h
  refine ⟨by rw [hG _ (by omega) (by omega), hA _ (by omega) (by omega), hA _ (by omega) (by omega), hA _ (by omega) (by omega), hA _ (by omega) (by omega), hA _ (by omega) (by omega)]; exact h1, h2.mv (fun j _ _ => hA j (by omega) (by omega)) (fun j _ _ => hG j (by omega) (by omega)), ⟨b1, by rw [hG _ (by omega) (by omega)]; exact h3, fun k hk => by rw [hA _ (by omega) (by omega)]; exact h4 k hk⟩, ⟨b2, by rw [hG _ (by omega) (by omega)]; exact h5, fun k hk => by rw [hA _ (by omega) (by omega)]; exact h6 k hk⟩, h7.mv (fun j _ _ => hA j (by omega) (by omega)) (fun j _ _ => hG j (by omega) (by omega)), by rw [hG _ (by omega) (by omega)]; exact h8, fun k hk => (h9 k hk).mv (fun j _ _ => hA j (by omega) (by omega)) (fun j _ _ => hG j (by omega) (by omega)), fun k hk => (h10 k hk).mv (fun j _ _ => hA j (by omega) (by omega)) (fun j _ _ => hG j (by omega) (by omega))⟩

set_option maxRecDepth 100000 in
set_option maxHeartbeats 4000000 in
theorem c_X6_init (l : Launch) (D : va_G) (A : Nat → Prop) (cs : Nat → ClassId) (tt : Nat) (ad : Nat → Nat) (g : Nat → va_E) (i a : Nat) (ha : ad i = a) (hg : g i = oC 8 [.null, .null, .int (zI 0), .null, .null, .null]) : zM l yX6_init cX6_init 2 none ({ frames := 3, cells := 435, slots := 15336, locals := 180 } : Room) D A cs tt (i + 1) ad g [.ref a] (rV fun N' ad' g' => N' = i + 436 ∧ (∀ j, j < i + 1 → ad' j = ad j) ∧ (∀ j, j < i + 1 → j ≠ i → g' j = g j) ∧ isSt cs ad' g' i) := by
  refine z_of (by decide) (Nat.le_of_ble_eq_true rfl) ?_
  intro p e s m below meth c C hr hlk hnm
  refine z_lv (lv' := [(0, .ref a)]) [0] rfl ?_
  refine z_aload_n C 0 dX6_init_0 rfl ?_
  refine z_objInit C q_140 q_35 q_36 dX6_init_1 (Nat.le_of_ble_eq_true rfl) (Nat.le_of_ble_eq_true rfl) ?_
  refine z_aload_n C 0 dX6_init_4 rfl ?_
  refine z_new (fs := [.int (zI (0)), .int (zI (0)), .int (zI (0)), .int (zI (0)), .int (zI (0)), .int (zI (0)), .null]) (ci := 10) C tyX8 tyX8_ok rfl inA_X8 q_141 q_142 q_5 (fun j hj => by rcases (show j = 0 ∨ j = 1 ∨ j = 2 ∨ j = 3 ∨ j = 4 ∨ j = 5 ∨ j = 6 by omega) with rfl | rfl | rfl | rfl | rfl | rfl | rfl <;> rfl) (by decide) (by decide) dX6_init_5 (fun q1 ad2 g3 ea4 eg5 => ?_)
  have ha6 : zAt ad2 (i + 1) q1 := up_s ea4
  have hg7 := up_s eg5
  refine z_dup C dX6_init_8 rfl ?_
  refine z_cI (As := []) (rest := [.ref q1, .ref a]) C (c_X8_init l D A cs tt _ _ (i + 1) q1 ha6 hg7) mi_yX8_init q_143 rfl (by decide +kernel) (by decide) (Nat.le_of_ble_eq_true rfl) (by decide) dX6_init_9 rfl (kV fun M11 ad12 g13 hq14 => ?_)
  obtain ⟨rfl, hA8, hG9, hp10⟩ := hq14
  have ha15 : zAt ad2 (i) (a) := up_n ea4 ha (ne_o (i := i) (c := 0) (d := 1) rfl)
  have ha16 : zAt ad12 (i) (a) := (hA8 (i) (lt_o (i := i) (c := 0) (d := 2) rfl)).trans ha15
  have hg17 := up_n eg5 hg (ne_o (i := i) (c := 0) (d := 1) rfl)
  have hg18 := (hG9 (i) (lt_o (i := i) (c := 0) (d := 2) rfl) (ne_o (i := i) (c := 0) (d := 1) rfl)).trans hg17
  refine z_putF (fs' := [.ref q1, .null, .int (zI (0)), .null, .null, .null]) C (lt_o (i := i) (c := 0) (d := 11) rfl) ha16 hg18 tyX6 tyX6_ok nmX6 rfl inA_X6 0 (by decide) q_257 rfl rfl hnm rfl rfl rfl (Nat.le_of_ble_eq_true rfl) rfl dX6_init_12 (fun g19 eg20 => ?_)
  have hg21 := up_s eg20
  refine z_aload_n C 0 dX6_init_15 rfl ?_
  refine z_bipush (z := 40) C dX6_init_16 (by decide) ?_
  refine z_newR C 4 40 rfl rfl q_141 C.2.2.2.2.2.2.2.2.1.2.1 (by decide) (by decide) (by decide) dX6_init_18 (fun q22 ad23 g24 ea25 eg26 => ?_)
  have ha27 : zAt ad23 (i + 1 + 10) q22 := up_s ea25
  have hg28 := up_s eg26
  have ha29 : zAt ad23 (i) (a) := up_n ea25 ha16 (ne_o (i := i) (c := 0) (d := 11) rfl)
  have hg30 := up_n eg26 hg21 (ne_o (i := i) (c := 0) (d := 11) rfl)
  refine z_putF (fs' := [.ref q1, .ref q22, .int (zI (0)), .null, .null, .null]) C (lt_o (i := i) (c := 0) (d := 12) rfl) ha29 hg30 tyX6 tyX6_ok nmX6 rfl inA_X6 1 (by decide) q_259 rfl rfl hnm rfl rfl rfl (Nat.le_of_ble_eq_true rfl) rfl dX6_init_21 (fun g31 eg32 => ?_)
  have hg33 := up_s eg32
  refine z_aload_n C 0 dX6_init_24 rfl ?_
  refine z_iconst (z := 0) C dX6_init_25 rfl ?_
  refine z_put (fs' := [.ref q1, .ref q22, .int (zI (0)), .null, .null, .null]) C (lt_o (i := i) (c := 0) (d := 12) rfl) ha29 hg33 tyX6 tyX6_ok nmX6 rfl inA_X6 2 (by decide) q_260 rfl rfl rfl rfl (Nat.le_of_ble_eq_true rfl) rfl dX6_init_26 (fun g34 eg35 => ?_)
  have hg36 := up_s eg35
  refine z_aload_n C 0 dX6_init_29 rfl ?_
  refine z_bipush (z := 6) C dX6_init_30 (by decide) ?_
  refine z_newR C 5 6 rfl rfl q_208 C.2.2.2.2.2.2.2.2.1.2.2.1 (by decide) (by decide) (by decide) dX6_init_32 (fun q37 ad38 g39 ea40 eg41 => ?_)
  have ha42 : zAt ad38 (i + 1 + 10 + 1) q37 := up_s ea40
  have hg43 := up_s eg41
  have ha44 : zAt ad38 (i) (a) := up_n ea40 ha29 (ne_o (i := i) (c := 0) (d := 12) rfl)
  have hg45 := up_n eg41 hg36 (ne_o (i := i) (c := 0) (d := 12) rfl)
  refine z_putF (fs' := [.ref q1, .ref q22, .int (zI (0)), .ref q37, .null, .null]) C (lt_o (i := i) (c := 0) (d := 13) rfl) ha44 hg45 tyX6 tyX6_ok nmX6 rfl inA_X6 3 (by decide) q_262 rfl rfl hnm rfl rfl rfl (Nat.le_of_ble_eq_true rfl) rfl dX6_init_35 (fun g46 eg47 => ?_)
  have hg48 := up_s eg47
  refine z_aload_n C 0 dX6_init_38 rfl ?_
  refine z_new (fs := [.int (zI (0)), .null, .null, .null]) (ci := 4) C tyX2 tyX2_ok rfl inA_X2 q_210 q_211 q_7 (fun j hj => by rcases (show j = 0 ∨ j = 1 ∨ j = 2 ∨ j = 3 by omega) with rfl | rfl | rfl | rfl <;> rfl) (by decide) (by decide) dX6_init_39 (fun q49 ad50 g51 ea52 eg53 => ?_)
  have ha54 : zAt ad50 (i + 1 + 10 + 1 + 1) q49 := up_s ea52
  have hg55 := up_s eg53
  refine z_dup C dX6_init_42 rfl ?_
  refine z_cIN (As := []) (rest := [.ref q49, .ref a]) C (c_X2_init l D A cs tt _ _ (i + 1 + 10 + 1 + 1) q49 ha54 hg55) mi_yX2_init n_212 rfl (by decide +kernel) (by decide) (Nat.le_of_ble_eq_true rfl) (by decide) dX6_init_43 rfl (kV fun M59 ad60 g61 hq62 => ?_)
  obtain ⟨rfl, hA56, hG57, hp58⟩ := hq62
  have ha63 : zAt ad50 (i) (a) := up_n ea52 ha44 (ne_o (i := i) (c := 0) (d := 13) rfl)
  have ha64 : zAt ad60 (i) (a) := (hA56 (i) (lt_o (i := i) (c := 0) (d := 14) rfl)).trans ha63
  have hg65 := up_n eg53 hg48 (ne_o (i := i) (c := 0) (d := 13) rfl)
  have hg66 := (hG57 (i) (lt_o (i := i) (c := 0) (d := 14) rfl) (ne_o (i := i) (c := 0) (d := 13) rfl)).trans hg65
  refine z_putF (fs' := [.ref q1, .ref q22, .int (zI (0)), .ref q37, .ref q49, .null]) C (lt_o (i := i) (c := 0) (d := 17) rfl) ha64 hg66 tyX6 tyX6_ok nmX6 rfl inA_X6 4 (by decide) q_264 rfl rfl hnm rfl rfl rfl (Nat.le_of_ble_eq_true rfl) rfl dX6_init_46 (fun g67 eg68 => ?_)
  have hg69 := up_s eg68
  refine z_aload_n C 0 dX6_init_49 rfl ?_
  refine z_iconst (z := 3) C dX6_init_50 rfl ?_
  refine z_newI C 3 rfl q_134 (by decide) (by decide) (by decide) dX6_init_51 (fun q70 ad71 g72 ea73 eg74 => ?_)
  have ha75 : zAt ad71 (i + 1 + 10 + 1 + 1 + 4) q70 := up_s ea73
  have hg76 := up_s eg74
  have ha77 : zAt ad71 (i) (a) := up_n ea73 ha64 (ne_o (i := i) (c := 0) (d := 17) rfl)
  have hg78 := up_n eg74 hg69 (ne_o (i := i) (c := 0) (d := 17) rfl)
  refine z_putF (fs' := [.ref q1, .ref q22, .int (zI (0)), .ref q37, .ref q49, .ref q70]) C (lt_o (i := i) (c := 0) (d := 18) rfl) ha77 hg78 tyX6 tyX6_ok nmX6 rfl inA_X6 5 (by decide) q_266 rfl rfl hnm rfl rfl rfl (Nat.le_of_ble_eq_true rfl) rfl dX6_init_53 (fun g79 eg80 => ?_)
  have hg81 := up_s eg80
  refine z_iconst (z := 0) C dX6_init_56 rfl ?_
  refine z_istore_n (lv' := [(1, .int (zI (0))), (0, .ref a)]) C dX6_init_57 rfl (by decide) rfl ?_
  have ha83 : zAt ad12 (i + 1) (q1) := (hA8 (i + 1) (lt_o (i := i) (c := 1) (d := 2) rfl)).trans ha6
  have ha84 : zAt ad23 (i + 1) (q1) := up_n ea25 ha83 (ne_o (i := i) (c := 1) (d := 11) rfl)
  have ha85 : zAt ad38 (i + 1) (q1) := up_n ea40 ha84 (ne_o (i := i) (c := 1) (d := 12) rfl)
  have ha86 : zAt ad50 (i + 1) (q1) := up_n ea52 ha85 (ne_o (i := i) (c := 1) (d := 13) rfl)
  have ha87 : zAt ad60 (i + 1) (q1) := (hA56 (i + 1) (lt_o (i := i) (c := 1) (d := 14) rfl)).trans ha86
  have ha88 : zAt ad71 (i + 1) (q1) := up_n ea73 ha87 (ne_o (i := i) (c := 1) (d := 17) rfl)
  have ha89 : zAt ad38 (i + 1 + 10) (q22) := up_n ea40 ha27 (ne_o (i := i) (c := 11) (d := 12) rfl)
  have ha90 : zAt ad50 (i + 1 + 10) (q22) := up_n ea52 ha89 (ne_o (i := i) (c := 11) (d := 13) rfl)
  have ha91 : zAt ad60 (i + 1 + 10) (q22) := (hA56 (i + 1 + 10) (lt_o (i := i) (c := 11) (d := 14) rfl)).trans ha90
  have ha92 : zAt ad71 (i + 1 + 10) (q22) := up_n ea73 ha91 (ne_o (i := i) (c := 11) (d := 17) rfl)
  have ha93 : zAt ad50 (i + 1 + 10 + 1) (q37) := up_n ea52 ha42 (ne_o (i := i) (c := 12) (d := 13) rfl)
  have ha94 : zAt ad60 (i + 1 + 10 + 1) (q37) := (hA56 (i + 1 + 10 + 1) (lt_o (i := i) (c := 12) (d := 14) rfl)).trans ha93
  have ha95 : zAt ad71 (i + 1 + 10 + 1) (q37) := up_n ea73 ha94 (ne_o (i := i) (c := 12) (d := 17) rfl)
  have ha96 : zAt ad60 (i + 1 + 10 + 1 + 1) (q49) := (hA56 (i + 1 + 10 + 1 + 1) (lt_o (i := i) (c := 13) (d := 14) rfl)).trans ha54
  have ha97 : zAt ad71 (i + 1 + 10 + 1 + 1) (q49) := up_n ea73 ha96 (ne_o (i := i) (c := 13) (d := 17) rfl)
  have h82 : g79 i = oC 8 [.ref (ad71 (i + 1)), .ref (ad71 (i + 11)), .int (zI 0), .ref (ad71 (i + 12)), .ref (ad71 (i + 13)), .ref (ad71 (i + 17))] := by rw [← (show ad71 (i + 1) = q1 from ha88), ← (show ad71 (i + 1 + 10) = q22 from ha92), ← (show ad71 (i + 1 + 10 + 1) = q37 from ha95), ← (show ad71 (i + 1 + 10 + 1 + 1) = q49 from ha97), ← (show ad71 (i + 1 + 10 + 1 + 1 + 4) = q70 from ha75)] at hg81; exact hg81
  have hp98 := isWorld.mv (ad' := ad71) (g' := g79) (fun j h1 h2 => by rw [ea73, va_up_ne _ _ (by omega)]; rw [hA56 _ (by omega)]; rw [ea52, va_up_ne _ _ (by omega)]; rw [ea40, va_up_ne _ _ (by omega)]; rw [ea25, va_up_ne _ _ (by omega)]) (fun j h1 h2 => by rw [eg80, va_up_ne _ _ (by omega)]; rw [eg74, va_up_ne _ _ (by omega)]; rw [eg68, va_up_ne _ _ (by omega)]; rw [hG57 _ (by omega) (by omega)]; rw [eg53, va_up_ne _ _ (by omega)]; rw [eg47, va_up_ne _ _ (by omega)]; rw [eg41, va_up_ne _ _ (by omega)]; rw [eg35, va_up_ne _ _ (by omega)]; rw [eg32, va_up_ne _ _ (by omega)]; rw [eg26, va_up_ne _ _ (by omega)]; rw [eg20, va_up_ne _ _ (by omega)]) hp10
  have hp99 := isNotes.mv (ad' := ad71) (g' := g79) (fun j h1 h2 => by rw [ea73, va_up_ne _ _ (by omega)]) (fun j h1 h2 => by rw [eg80, va_up_ne _ _ (by omega)]; rw [eg74, va_up_ne _ _ (by omega)]; rw [eg68, va_up_ne _ _ (by omega)]) hp58
  have hg100 := up_n eg32 hg28 (ne_o (i := i) (c := 11) (d := 0) rfl)
  have hg101 := up_n eg35 hg100 (ne_o (i := i) (c := 11) (d := 0) rfl)
  have hg102 := up_n eg41 hg101 (ne_o (i := i) (c := 11) (d := 12) rfl)
  have hg103 := up_n eg47 hg102 (ne_o (i := i) (c := 11) (d := 0) rfl)
  have hg104 := up_n eg53 hg103 (ne_o (i := i) (c := 11) (d := 13) rfl)
  have hg105 := (hG57 (i + 1 + 10) (lt_o (i := i) (c := 11) (d := 14) rfl) (ne_o (i := i) (c := 11) (d := 13) rfl)).trans hg104
  have hg106 := up_n eg68 hg105 (ne_o (i := i) (c := 11) (d := 0) rfl)
  have hg107 := up_n eg74 hg106 (ne_o (i := i) (c := 11) (d := 17) rfl)
  have hg108 := up_n eg80 hg107 (ne_o (i := i) (c := 11) (d := 0) rfl)
  have hg109 := up_n eg47 hg43 (ne_o (i := i) (c := 12) (d := 0) rfl)
  have hg110 := up_n eg53 hg109 (ne_o (i := i) (c := 12) (d := 13) rfl)
  have hg111 := (hG57 (i + 1 + 10 + 1) (lt_o (i := i) (c := 12) (d := 14) rfl) (ne_o (i := i) (c := 12) (d := 13) rfl)).trans hg110
  have hg112 := up_n eg68 hg111 (ne_o (i := i) (c := 12) (d := 0) rfl)
  have hg113 := up_n eg74 hg112 (ne_o (i := i) (c := 12) (d := 17) rfl)
  have hg114 := up_n eg80 hg113 (ne_o (i := i) (c := 12) (d := 0) rfl)
  have hg115 := up_n eg80 hg76 (ne_o (i := i) (c := 17) (d := 0) rfl)
  have hadf : ∀ j, j < i + 1 → ad71 j = ad j := fun j h1 => by rw [ea73, va_up_ne _ _ (by omega)]; rw [hA56 _ (by omega)]; rw [ea52, va_up_ne _ _ (by omega)]; rw [ea40, va_up_ne _ _ (by omega)]; rw [ea25, va_up_ne _ _ (by omega)]; rw [hA8 _ (by omega)]; rw [ea4, va_up_ne _ _ (by omega)]
  have hgf : ∀ j, j < i → g79 j = g j := fun j h1 => by rw [eg80, va_up_ne _ _ (by omega)]; rw [eg74, va_up_ne _ _ (by omega)]; rw [eg68, va_up_ne _ _ (by omega)]; rw [hG57 _ (by omega) (by omega)]; rw [eg53, va_up_ne _ _ (by omega)]; rw [eg47, va_up_ne _ _ (by omega)]; rw [eg41, va_up_ne _ _ (by omega)]; rw [eg35, va_up_ne _ _ (by omega)]; rw [eg32, va_up_ne _ _ (by omega)]; rw [eg26, va_up_ne _ _ (by omega)]; rw [eg20, va_up_ne _ _ (by omega)]; rw [hG9 _ (by omega) (by omega)]; rw [eg5, va_up_ne _ _ (by omega)]
  have loop2 : ∀ (n kk : Nat) (ad1 : Nat → Nat) (g1 : Nat → va_E), kk + n = 6 → (∀ j, j < i + 1 → ad1 j = ad j) → (∀ j, j < i → g1 j = g j) → g1 i = oC 8 [.ref (ad1 (i + 1)), .ref (ad1 (i + 11)), .int (zI 0), .ref (ad1 (i + 12)), .ref (ad1 (i + 13)), .ref (ad1 (i + 17))] → isWorld cs ad1 g1 (i + 1) (fun _ => 0) (fun _ => 0) (fun _ => 0) (fun _ _ => 0) → isNotes cs ad1 g1 (i + 13) 0 (fun _ => 0) (fun _ => 0) (fun _ => 0) → g1 (i + 17) = iA cs 3 (fun _ => 0) → (∃ b : Nat → Option Nat, g1 (i + 11) = rA (cs 4) 40 b ∧ ∀ k, k < 40 → b k = some (ad1 (i + 18 + 10 * k))) → (∀ k, k < 40 → isWorld cs ad1 g1 (i + 18 + 10 * k) (fun _ => 0) (fun _ => 0) (fun _ => 0) (fun _ _ => 0)) → (∃ b : Nat → Option Nat, g1 (i + 12) = rA (cs 5) 6 b ∧ ∀ k, k < kk → b k = some (ad1 (i + 418 + 3 * k))) → (∀ k, k < kk → isPit cs ad1 g1 (i + 418 + 3 * k) 0 0 0 0 (fun _ => 0)) → zV p l e ({ frames := 3, cells := 435, slots := 15336, locals := 180 } : Room) s m [Value.ref a].toArray below meth c (MQ below (zPost D A (rV fun N' ad' g' => N' = i + 436 ∧ (∀ j, j < i + 1 → ad' j = ad j) ∧ (∀ j, j < i + 1 → j ≠ i → g' j = g j) ∧ isSt cs ad' g' i)) [Value.ref a].toArray s ({ frames := 3, cells := 435, slots := 15336, locals := 180 } : Room).cells ({ frames := 3, cells := 435, slots := 15336, locals := 180 } : Room).slots A) D A 2 (i + 418 + 3 * kk) ad1 g1 (417 + 3 * kk) (14796 + 90 * kk) 88 [(1, .int (zI (kk : Int))), (0, .ref a)] [] := by
    intro n
    induction n with
    | zero =>
      intro kk ad1 g1 hkk f1 f2 f8 fw fn fr g40 gw40 g6 gw6
      have haa : zAt ad1 i a := by show ad1 i = a; rw [f1 _ (by omega)]; exact ha
      have ha116 : zAt ad1 (i + 12) (ad1 (i + 12)) := rfl
      obtain ⟨b, fb1, fb2⟩ := g6
      refine z_iload_n C 0 dX6_init_88 rfl ?_
      refine z_aload_n C 1 dX6_init_89 rfl ?_
      refine z_get (v := .ref (ad1 (i + 12))) C (by omega) haa f8 rfl inA_X6 3 (by decide) q_262 rfl rfl dX6_init_90 ?_
      refine z_alen (z := 6) C (by omega) ha116 fb1 5 rfl rfl dX6_init_93 ?_
      have hkk : kk = 6 := by omega
      subst hkk
      refine z_icmp_ge (tgt := 116) C dX6_init_94 (by decide) (by omega) (by omega) (fun _ => ?_) (fun h => absurd h (by omega))
      exact z_vret C hr hlk dX6_init_116 (by decide) (by decide) (⟨rfl, rfl, f1, fun j h1 h2 => f2 j (by omega), f8, fw, g40, ⟨b, fb1, fb2⟩, fn, fr, gw40, gw6⟩)
    | succ n ih =>
      intro kk ad1 g1 hkk f1 f2 f8 fw fn fr g40 gw40 g6 gw6
      have haa : zAt ad1 i a := by show ad1 i = a; rw [f1 _ (by omega)]; exact ha
      have ha117 : zAt ad1 (i + 12) (ad1 (i + 12)) := rfl
      obtain ⟨b, fb1, fb2⟩ := g6
      refine z_iload_n C 0 dX6_init_88 rfl ?_
      refine z_aload_n C 1 dX6_init_89 rfl ?_
      refine z_get (v := .ref (ad1 (i + 12))) C (by omega) haa f8 rfl inA_X6 3 (by decide) q_262 rfl rfl dX6_init_90 ?_
      refine z_alen (z := 6) C (by omega) ha117 fb1 5 rfl rfl dX6_init_93 ?_
      refine z_icmp_ge (tgt := 116) C dX6_init_94 (by decide) (by omega) (by omega) (fun h => absurd h (by omega)) (fun _ => ?_)
      refine z_aload_n C 1 dX6_init_97 rfl ?_
      refine z_get (v := .ref (ad1 (i + 12))) C (by omega) haa f8 rfl inA_X6 3 (by decide) q_262 rfl rfl dX6_init_98 ?_
      refine z_iload_n C 0 dX6_init_101 rfl ?_
      refine z_new (fs := [.int (zI (0)), .int (zI (0)), .null]) (ci := 6) C tyX4 tyX4_ok rfl inA_X4 q_208 q_234 q_8 (fun j hj => by rcases (show j = 0 ∨ j = 1 ∨ j = 2 by omega) with rfl | rfl | rfl <;> rfl) (by show _ ≤ 435; omega) (by show _ ≤ 15336; omega) dX6_init_102 (fun q118 ad119 g120 ea121 eg122 => ?_)
      have ha123 : zAt ad119 (i + 418 + 3 * kk) q118 := up_s ea121
      have hg124 := up_s eg122
      refine z_dup C dX6_init_105 rfl ?_
      refine z_cIN (As := []) (rest := [.ref q118, .int (zI ((kk : Int))), .ref (ad1 (i + 12))]) C (c_X4_init l D A cs tt _ _ (i + 418 + 3 * kk) q118 ha123 hg124) mi_yX4_init n_235 rfl (by decide +kernel) (by decide) (Nat.le_of_ble_eq_true rfl) ⟨by show _ + 2 ≤ 435; omega, by show _ + 87 ≤ 15336; omega⟩ dX6_init_106 rfl (kV fun M128 ad129 g130 hq131 => ?_)
      obtain ⟨rfl, hA125, hG126, hp127⟩ := hq131
      have ha132 : zAt ad119 (i + 12) (ad1 (i + 12)) := up_n ea121 ha117 (by omega)
      have ha133 : zAt ad129 (i + 12) (ad1 (i + 12)) := (hA125 (i + 12) (by omega)).trans ha132
      have hg134 := up_n eg122 fb1 (by omega)
      have hg135 := (hG126 (i + 12) (by omega) (by omega)).trans hg134
      have ha136 : zAt ad129 (i + 418 + 3 * kk) (q118) := (hA125 (i + 418 + 3 * kk) (lt_o (i := i + 418 + 3 * kk) (c := 0) (d := 1) rfl)).trans ha123
      refine z_aast (q := (RX4, TX4, 3)) C (by omega) ha133 hg135 5 rfl (lt_o (i := i + 418 + 3 * kk) (c := 0) (d := 3) rfl) ha136 hp127.1 rfl (kk) (by omega) (by omega) (by decide) dX6_init_109 (fun g137 eg138 => ?_)
      have hg139 := up_s eg138
      refine z_iinc (z := ((kk + 1 : Nat) : Int)) (lv' := [(1, .int (zI (((kk + 1 : Nat) : Int)))), (0, .ref a)]) (j := 0) C dX6_init_110 rfl (congrArg zI (by omega)) (by decide) rfl ?_
      refine z_goto (tgt := 88) C dX6_init_113 (by decide) ?_
      have hp140 := isPit.mv (ad' := ad129) (g' := g137) (fun j h1 h2 => by rfl) (fun j h1 h2 => by rw [eg138, va_up_ne _ _ (by omega)]) hp127
      have f1' : ∀ j, j < i + 1 → ad129 j = ad j := fun j h1 => by rw [hA125 _ (by omega)]; rw [ea121, va_up_ne _ _ (by omega)]; exact f1 j h1
      have f2' : ∀ j, j < i → g137 j = g j := fun j h1 => by rw [eg138, va_up_ne _ _ (by omega)]; rw [hG126 _ (by omega) (by omega)]; rw [eg122, va_up_ne _ _ (by omega)]; exact f2 j h1
      have hA9 : ∀ j, j < i + 418 + 3 * kk → ad129 j = ad1 j := fun j h1 => by rw [hA125 _ (by omega)]; rw [ea121, va_up_ne _ _ (by omega)]
      have hG9 : ∀ j, j < i + 418 + 3 * kk → j ≠ i + 12 → g137 j = g1 j := fun j h1 h2 => by rw [eg138, va_up_ne _ _ (by omega)]; rw [hG126 _ (by omega) (by omega)]; rw [eg122, va_up_ne _ _ (by omega)]
      have f8' : g137 i = oC 8 [.ref (ad129 (i + 1)), .ref (ad129 (i + 11)), .int (zI 0), .ref (ad129 (i + 12)), .ref (ad129 (i + 13)), .ref (ad129 (i + 17))] := by rw [hG9 _ (by omega) (by omega), hA9 _ (by omega), hA9 _ (by omega), hA9 _ (by omega), hA9 _ (by omega), hA9 _ (by omega)]; exact f8
      have fb' : ∀ k, k < kk + 1 → (va_up (b) (kk) (some q118)) k = some (ad129 (i + 418 + 3 * k)) := by
        intro k hk
        by_cases e9 : k = kk
        · subst e9; rw [va_up_self]; exact congrArg some (Eq.symm ha136)
        · rw [va_up_ne _ _ e9, hA9 _ (by omega)]; exact fb2 k (by omega)
      have fw' : ∀ k, k < kk + 1 → isPit cs ad129 g137 (i + 418 + 3 * k) 0 0 0 0 (fun _ => 0) := by
        intro k hk
        by_cases e9 : k = kk
        · subst e9; exact hp140
        · exact (gw6 k (by omega)).mv (fun j h1 h2 => hA9 j (by omega)) (fun j h1 h2 => hG9 j (by omega) (by omega))
      have e9 : i + 418 + 3 * kk + 3 = i + 418 + 3 * (kk + 1) := by omega
      rw [e9]
      refine z_widen (k2 := 417 + 3 * (kk + 1)) (n2 := 14796 + 90 * (kk + 1)) (by show 417 + 3 * kk + 1 + 2 ≤ _; omega) (by show 14796 + 90 * kk + 3 + 87 ≤ _; omega) ?_
      refine ih (kk + 1) ad129 g137 (by omega) f1' f2' f8' (fw.mv (fun j h1 h2 => hA9 j (by omega)) (fun j h1 h2 => hG9 j (by omega) (by omega))) (fn.mv (fun j h1 h2 => hA9 j (by omega)) (fun j h1 h2 => hG9 j (by omega) (by omega))) (by rw [hG9 _ (by omega) (by omega)]; exact fr) ?_ (fun k hk => (gw40 k hk).mv (fun j h1 h2 => hA9 j (by omega)) (fun j h1 h2 => hG9 j (by omega) (by omega))) ⟨_, hg139, fb'⟩ fw'
      obtain ⟨b4, q1, q2⟩ := g40
      exact ⟨b4, by rw [hG9 _ (by omega) (by omega)]; exact q1, fun k hk => by rw [hA9 _ (by omega)]; exact q2 k hk⟩
  have loop1 : ∀ (n kk : Nat) (ad1 : Nat → Nat) (g1 : Nat → va_E), kk + n = 40 → (∀ j, j < i + 1 → ad1 j = ad j) → (∀ j, j < i → g1 j = g j) → g1 i = oC 8 [.ref (ad1 (i + 1)), .ref (ad1 (i + 11)), .int (zI 0), .ref (ad1 (i + 12)), .ref (ad1 (i + 13)), .ref (ad1 (i + 17))] → isWorld cs ad1 g1 (i + 1) (fun _ => 0) (fun _ => 0) (fun _ => 0) (fun _ _ => 0) → isNotes cs ad1 g1 (i + 13) 0 (fun _ => 0) (fun _ => 0) (fun _ => 0) → g1 (i + 17) = iA cs 3 (fun _ => 0) → g1 (i + 12) = rA (cs 5) 6 (fun _ => none) → (∃ b : Nat → Option Nat, g1 (i + 11) = rA (cs 4) 40 b ∧ ∀ k, k < kk → b k = some (ad1 (i + 18 + 10 * k))) → (∀ k, k < kk → isWorld cs ad1 g1 (i + 18 + 10 * k) (fun _ => 0) (fun _ => 0) (fun _ => 0) (fun _ _ => 0)) → zV p l e ({ frames := 3, cells := 435, slots := 15336, locals := 180 } : Room) s m [Value.ref a].toArray below meth c (MQ below (zPost D A (rV fun N' ad' g' => N' = i + 436 ∧ (∀ j, j < i + 1 → ad' j = ad j) ∧ (∀ j, j < i + 1 → j ≠ i → g' j = g j) ∧ isSt cs ad' g' i)) [Value.ref a].toArray s ({ frames := 3, cells := 435, slots := 15336, locals := 180 } : Room).cells ({ frames := 3, cells := 435, slots := 15336, locals := 180 } : Room).slots A) D A 2 (i + 18 + 10 * kk) ad1 g1 (17 + 10 * kk) (436 + 359 * kk) 58 [(1, .int (zI (kk : Int))), (0, .ref a)] [] := by
    intro n
    induction n with
    | zero =>
      intro kk ad1 g1 hkk f1 f2 f8 fw fn fr gp g40 gw40
      have haa : zAt ad1 i a := by show ad1 i = a; rw [f1 _ (by omega)]; exact ha
      have ha141 : zAt ad1 (i + 11) (ad1 (i + 11)) := rfl
      obtain ⟨b, fb1, fb2⟩ := g40
      refine z_iload_n C 0 dX6_init_58 rfl ?_
      refine z_aload_n C 1 dX6_init_59 rfl ?_
      refine z_get (v := .ref (ad1 (i + 11))) C (by omega) haa f8 rfl inA_X6 1 (by decide) q_259 rfl rfl dX6_init_60 ?_
      refine z_alen (z := 40) C (by omega) ha141 fb1 4 rfl rfl dX6_init_63 ?_
      have hkk : kk = 40 := by omega
      subst hkk
      refine z_icmp_ge (tgt := 86) C dX6_init_64 (by decide) (by omega) (by omega) (fun _ => ?_) (fun h => absurd h (by omega))
      refine z_iconst (z := 0) C dX6_init_86 rfl ?_
      refine z_istore_n (lv' := [(1, .int (zI (0))), (0, .ref a)]) C dX6_init_87 rfl (by decide) rfl ?_
      refine z_lv (lv' := [(1, .int (zI ((0 : Nat) : Int))), (0, .ref a)]) [0, 1] rfl ?_
      refine z_widen (k2 := 417 + 3 * 0) (n2 := 14796 + 90 * 0) (by decide) (by decide) ?_
      exact loop2 6 0 ad1 g1 rfl f1 f2 f8 fw fn fr ⟨b, fb1, fb2⟩ gw40 ⟨_, gp, fun k hk => absurd hk (Nat.not_lt_zero k)⟩ (fun k hk => absurd hk (Nat.not_lt_zero k))
    | succ n ih =>
      intro kk ad1 g1 hkk f1 f2 f8 fw fn fr gp g40 gw40
      have haa : zAt ad1 i a := by show ad1 i = a; rw [f1 _ (by omega)]; exact ha
      have ha142 : zAt ad1 (i + 11) (ad1 (i + 11)) := rfl
      obtain ⟨b, fb1, fb2⟩ := g40
      refine z_iload_n C 0 dX6_init_58 rfl ?_
      refine z_aload_n C 1 dX6_init_59 rfl ?_
      refine z_get (v := .ref (ad1 (i + 11))) C (by omega) haa f8 rfl inA_X6 1 (by decide) q_259 rfl rfl dX6_init_60 ?_
      refine z_alen (z := 40) C (by omega) ha142 fb1 4 rfl rfl dX6_init_63 ?_
      refine z_icmp_ge (tgt := 86) C dX6_init_64 (by decide) (by omega) (by omega) (fun h => absurd h (by omega)) (fun _ => ?_)
      refine z_aload_n C 1 dX6_init_67 rfl ?_
      refine z_get (v := .ref (ad1 (i + 11))) C (by omega) haa f8 rfl inA_X6 1 (by decide) q_259 rfl rfl dX6_init_68 ?_
      refine z_iload_n C 0 dX6_init_71 rfl ?_
      refine z_new (fs := [.int (zI (0)), .int (zI (0)), .int (zI (0)), .int (zI (0)), .int (zI (0)), .int (zI (0)), .null]) (ci := 10) C tyX8 tyX8_ok rfl inA_X8 q_141 q_142 q_5 (fun j hj => by rcases (show j = 0 ∨ j = 1 ∨ j = 2 ∨ j = 3 ∨ j = 4 ∨ j = 5 ∨ j = 6 by omega) with rfl | rfl | rfl | rfl | rfl | rfl | rfl <;> rfl) (by show _ ≤ 435; omega) (by show _ ≤ 15336; omega) dX6_init_72 (fun q143 ad144 g145 ea146 eg147 => ?_)
      have ha148 : zAt ad144 (i + 18 + 10 * kk) q143 := up_s ea146
      have hg149 := up_s eg147
      refine z_dup C dX6_init_75 rfl ?_
      refine z_cI (As := []) (rest := [.ref q143, .int (zI ((kk : Int))), .ref (ad1 (i + 11))]) C (c_X8_init l D A cs tt _ _ (i + 18 + 10 * kk) q143 ha148 hg149) mi_yX8_init q_143 rfl (by decide +kernel) (by decide) (Nat.le_of_ble_eq_true rfl) ⟨by show _ + 9 ≤ 435; omega, by show _ + 352 ≤ 15336; omega⟩ dX6_init_76 rfl (kV fun M153 ad154 g155 hq156 => ?_)
      obtain ⟨rfl, hA150, hG151, hp152⟩ := hq156
      have ha157 : zAt ad144 (i + 11) (ad1 (i + 11)) := up_n ea146 ha142 (by omega)
      have ha158 : zAt ad154 (i + 11) (ad1 (i + 11)) := (hA150 (i + 11) (by omega)).trans ha157
      have hg159 := up_n eg147 fb1 (by omega)
      have hg160 := (hG151 (i + 11) (by omega) (by omega)).trans hg159
      have ha161 : zAt ad154 (i + 18 + 10 * kk) (q143) := (hA150 (i + 18 + 10 * kk) (lt_o (i := i + 18 + 10 * kk) (c := 0) (d := 1) rfl)).trans ha148
      refine z_aast (q := (RX8, TX8, 7)) C (by omega) ha158 hg160 4 rfl (lt_o (i := i + 18 + 10 * kk) (c := 0) (d := 10) rfl) ha161 hp152.1 rfl (kk) (by omega) (by omega) (by decide) dX6_init_79 (fun g162 eg163 => ?_)
      have hg164 := up_s eg163
      refine z_iinc (z := ((kk + 1 : Nat) : Int)) (lv' := [(1, .int (zI (((kk + 1 : Nat) : Int)))), (0, .ref a)]) (j := 0) C dX6_init_80 rfl (congrArg zI (by omega)) (by decide) rfl ?_
      refine z_goto (tgt := 58) C dX6_init_83 (by decide) ?_
      have hp165 := isWorld.mv (ad' := ad154) (g' := g162) (fun j h1 h2 => by rfl) (fun j h1 h2 => by rw [eg163, va_up_ne _ _ (by omega)]) hp152
      have f1' : ∀ j, j < i + 1 → ad154 j = ad j := fun j h1 => by rw [hA150 _ (by omega)]; rw [ea146, va_up_ne _ _ (by omega)]; exact f1 j h1
      have f2' : ∀ j, j < i → g162 j = g j := fun j h1 => by rw [eg163, va_up_ne _ _ (by omega)]; rw [hG151 _ (by omega) (by omega)]; rw [eg147, va_up_ne _ _ (by omega)]; exact f2 j h1
      have hA9 : ∀ j, j < i + 18 + 10 * kk → ad154 j = ad1 j := fun j h1 => by rw [hA150 _ (by omega)]; rw [ea146, va_up_ne _ _ (by omega)]
      have hG9 : ∀ j, j < i + 18 + 10 * kk → j ≠ i + 11 → g162 j = g1 j := fun j h1 h2 => by rw [eg163, va_up_ne _ _ (by omega)]; rw [hG151 _ (by omega) (by omega)]; rw [eg147, va_up_ne _ _ (by omega)]
      have f8' : g162 i = oC 8 [.ref (ad154 (i + 1)), .ref (ad154 (i + 11)), .int (zI 0), .ref (ad154 (i + 12)), .ref (ad154 (i + 13)), .ref (ad154 (i + 17))] := by rw [hG9 _ (by omega) (by omega), hA9 _ (by omega), hA9 _ (by omega), hA9 _ (by omega), hA9 _ (by omega), hA9 _ (by omega)]; exact f8
      have fb' : ∀ k, k < kk + 1 → (va_up (b) (kk) (some q143)) k = some (ad154 (i + 18 + 10 * k)) := by
        intro k hk
        by_cases e9 : k = kk
        · subst e9; rw [va_up_self]; exact congrArg some (Eq.symm ha161)
        · rw [va_up_ne _ _ e9, hA9 _ (by omega)]; exact fb2 k (by omega)
      have fw' : ∀ k, k < kk + 1 → isWorld cs ad154 g162 (i + 18 + 10 * k) (fun _ => 0) (fun _ => 0) (fun _ => 0) (fun _ _ => 0) := by
        intro k hk
        by_cases e9 : k = kk
        · subst e9; exact hp165
        · exact (gw40 k (by omega)).mv (fun j h1 h2 => hA9 j (by omega)) (fun j h1 h2 => hG9 j (by omega) (by omega))
      have e9 : i + 18 + 10 * kk + 10 = i + 18 + 10 * (kk + 1) := by omega
      rw [e9]
      refine z_widen (k2 := 17 + 10 * (kk + 1)) (n2 := 436 + 359 * (kk + 1)) (by show 17 + 10 * kk + 1 + 9 ≤ _; omega) (by show 436 + 359 * kk + 7 + 352 ≤ _; omega) ?_
      exact ih (kk + 1) ad154 g162 (by omega) f1' f2' f8' (fw.mv (fun j h1 h2 => hA9 j (by omega)) (fun j h1 h2 => hG9 j (by omega) (by omega))) (fn.mv (fun j h1 h2 => hA9 j (by omega)) (fun j h1 h2 => hG9 j (by omega) (by omega))) (by rw [hG9 _ (by omega) (by omega)]; exact fr) (by rw [hG9 _ (by omega) (by omega)]; exact gp) ⟨_, hg164, fb'⟩ fw'
  refine z_lv (lv' := [(1, .int (zI ((0 : Nat) : Int))), (0, .ref a)]) [0, 1] rfl ?_
  refine z_widen (k2 := 17 + 10 * 0) (n2 := 436 + 359 * 0) (by decide) (by decide) ?_
  exact loop1 40 0 ad71 g79 rfl hadf hgf h82 hp98 hp99 hg115 hg114 ⟨_, hg108, fun k hk => absurd hk (Nat.not_lt_zero k)⟩ (fun k hk => absurd hk (Nat.not_lt_zero k))
end
section
-- words of rec
theorem n_285 : (Jvm.Cond.methodLinkNest "SnowRecorder" (63 : Nat) ({ cls := "SnowRecorder$Guesses", name := "<init>", desc := "()V" } : Jvm.MethodName) "SnowRecorder") ∈ NW := NW_m 404 (by decide +kernel) (by decide +kernel)
theorem n_309 : (Jvm.Cond.methodLinkNest "SnowRecorder" (70 : Nat) ({ cls := "SnowRecorder$Likeness", name := "<init>", desc := "()V" } : Jvm.MethodName) "SnowRecorder") ∈ NW := NW_m 428 (by decide +kernel) (by decide +kernel)
theorem n_39 : (Jvm.Cond.methodLinkNest "SnowRecorder" (22 : Nat) ({ cls := "SnowRecorder$TextReader", name := "<init>", desc := "()V" } : Jvm.MethodName) "SnowRecorder") ∈ NW := NW_m 158 (by decide +kernel) (by decide +kernel)
theorem n_75 : (Jvm.Cond.methodLinkNest "SnowRecorder" (29 : Nat) ({ cls := "SnowRecorder$Plan", name := "<init>", desc := "()V" } : Jvm.MethodName) "SnowRecorder") ∈ NW := NW_m 194 (by decide +kernel) (by decide +kernel)
theorem q_10 : (Jvm.Cond.initialized "SnowRecorder$Likeness") ∈ AW := AW_m 129 (by decide +kernel) (by decide +kernel)
theorem q_12 : (Jvm.Cond.initialized "java/lang/StringBuilder") ∈ AW := AW_m 131 (by decide +kernel) (by decide +kernel)
theorem q_135 : (Jvm.Cond.classLink "SnowRecorder" (34 : Nat) "SnowRecorder$State") ∈ AW := AW_m 254 (by decide +kernel) (by decide +kernel)
theorem q_136 : (Jvm.Cond.instantiable "SnowRecorder$State" (6 : Nat)) ∈ AW := AW_m 255 (by decide +kernel) (by decide +kernel)
theorem q_137 : (Jvm.Cond.methodLink "SnowRecorder" (36 : Nat) ({ cls := "SnowRecorder$State", name := "<init>", desc := "()V" } : Jvm.MethodName)) ∈ AW := AW_m 256 (by decide +kernel) (by decide +kernel)
theorem q_138 : (Jvm.Cond.instanceMethod ({ cls := "SnowRecorder$State", name := "<init>", desc := "()V" } : Jvm.MethodName)) ∈ AW := AW_m 257 (by decide +kernel) (by decide +kernel)
theorem q_139 : (Jvm.Cond.code ({ cls := "SnowRecorder$State", name := "<init>", desc := "()V" } : Jvm.MethodName) prog_8_method_1_code (2 : Nat) (Option.none : Option Jvm.ClassFile.FieldType)) ∈ AW := AW_m 258 (by decide +kernel) (by decide +kernel)
theorem q_2 : (Jvm.Cond.initialized "SnowRecorder$TextReader") ∈ AW := AW_m 121 (by decide +kernel) (by decide +kernel)
theorem q_281 : (Jvm.Cond.classLink "SnowRecorder" (51 : Nat) "SnowRecorder$World") ∈ AW := AW_m 400 (by decide +kernel) (by decide +kernel)
theorem q_282 : (Jvm.Cond.methodLink "SnowRecorder" (53 : Nat) ({ cls := "SnowRecorder$World", name := "<init>", desc := "()V" } : Jvm.MethodName)) ∈ AW := AW_m 401 (by decide +kernel) (by decide +kernel)
theorem q_283 : (Jvm.Cond.classLink "SnowRecorder" (61 : Nat) "SnowRecorder$Guesses") ∈ AW := AW_m 402 (by decide +kernel) (by decide +kernel)
theorem q_284 : (Jvm.Cond.instantiable "SnowRecorder$Guesses" (4 : Nat)) ∈ AW := AW_m 403 (by decide +kernel) (by decide +kernel)
theorem q_286 : (Jvm.Cond.instanceMethod ({ cls := "SnowRecorder$Guesses", name := "<init>", desc := "()V" } : Jvm.MethodName)) ∈ AW := AW_m 405 (by decide +kernel) (by decide +kernel)
theorem q_287 : (Jvm.Cond.code ({ cls := "SnowRecorder$Guesses", name := "<init>", desc := "()V" } : Jvm.MethodName) prog_2_method_1_code (1 : Nat) (Option.none : Option Jvm.ClassFile.FieldType)) ∈ AW := AW_m 406 (by decide +kernel) (by decide +kernel)
theorem q_3 : (Jvm.Cond.initialized "SnowRecorder$Plan") ∈ AW := AW_m 122 (by decide +kernel) (by decide +kernel)
theorem q_307 : (Jvm.Cond.classLink "SnowRecorder" (68 : Nat) "SnowRecorder$Likeness") ∈ AW := AW_m 426 (by decide +kernel) (by decide +kernel)
theorem q_308 : (Jvm.Cond.instantiable "SnowRecorder$Likeness" (1 : Nat)) ∈ AW := AW_m 427 (by decide +kernel) (by decide +kernel)
theorem q_310 : (Jvm.Cond.instanceMethod ({ cls := "SnowRecorder$Likeness", name := "<init>", desc := "()V" } : Jvm.MethodName)) ∈ AW := AW_m 429 (by decide +kernel) (by decide +kernel)
theorem q_311 : (Jvm.Cond.code ({ cls := "SnowRecorder$Likeness", name := "<init>", desc := "()V" } : Jvm.MethodName) prog_3_method_1_code (1 : Nat) (Option.none : Option Jvm.ClassFile.FieldType)) ∈ AW := AW_m 430 (by decide +kernel) (by decide +kernel)
theorem q_317 : (Jvm.Cond.classLink "SnowRecorder" (75 : Nat) "java/lang/StringBuilder") ∈ AW := AW_m 436 (by decide +kernel) (by decide +kernel)
theorem q_318 : (Jvm.Cond.instantiable "java/lang/StringBuilder" (4 : Nat)) ∈ AW := AW_m 437 (by decide +kernel) (by decide +kernel)
theorem q_319 : (Jvm.Cond.methodLink "SnowRecorder" (77 : Nat) ({ cls := "java/lang/StringBuilder", name := "<init>", desc := "()V" } : Jvm.MethodName)) ∈ AW := AW_m 438 (by decide +kernel) (by decide +kernel)
theorem q_320 : (Jvm.Cond.instanceMethod ({ cls := "java/lang/StringBuilder", name := "<init>", desc := "()V" } : Jvm.MethodName)) ∈ AW := AW_m 439 (by decide +kernel) (by decide +kernel)
theorem q_321 : (Jvm.Cond.code ({ cls := "java/lang/StringBuilder", name := "<init>", desc := "()V" } : Jvm.MethodName) prog_26_method_1_code (1 : Nat) (Option.none : Option Jvm.ClassFile.FieldType)) ∈ AW := AW_m 440 (by decide +kernel) (by decide +kernel)
theorem q_34 : (Jvm.Cond.methodLink "SnowRecorder" (3 : Nat) ({ cls := "java/lang/Object", name := "<init>", desc := "()V" } : Jvm.MethodName)) ∈ AW := AW_m 153 (by decide +kernel) (by decide +kernel)
theorem q_349 : (Jvm.Cond.fieldLink "SnowRecorder" (9 : Nat) "SnowRecorder" "tape" "[B") ∈ AW := AW_m 468 (by decide +kernel) (by decide +kernel)
theorem q_350 : (Jvm.Cond.fieldLink "SnowRecorder" (13 : Nat) "SnowRecorder" "tapeSize" "I") ∈ AW := AW_m 469 (by decide +kernel) (by decide +kernel)
theorem q_351 : (Jvm.Cond.fieldLink "SnowRecorder" (17 : Nat) "SnowRecorder" "faultPlace" "I") ∈ AW := AW_m 470 (by decide +kernel) (by decide +kernel)
theorem q_352 : (Jvm.Cond.fieldLink "SnowRecorder" (23 : Nat) "SnowRecorder" "reader" "LSnowRecorder$TextReader;") ∈ AW := AW_m 471 (by decide +kernel) (by decide +kernel)
theorem q_353 : (Jvm.Cond.fieldLink "SnowRecorder" (30 : Nat) "SnowRecorder" "plan" "LSnowRecorder$Plan;") ∈ AW := AW_m 472 (by decide +kernel) (by decide +kernel)
theorem q_354 : (Jvm.Cond.fieldLink "SnowRecorder" (37 : Nat) "SnowRecorder" "state" "LSnowRecorder$State;") ∈ AW := AW_m 473 (by decide +kernel) (by decide +kernel)
theorem q_355 : (Jvm.Cond.fieldLink "SnowRecorder" (41 : Nat) "SnowRecorder" "kept" "LSnowRecorder$State;") ∈ AW := AW_m 474 (by decide +kernel) (by decide +kernel)
theorem q_356 : (Jvm.Cond.fieldLink "SnowRecorder" (44 : Nat) "SnowRecorder" "imaged" "Z") ∈ AW := AW_m 475 (by decide +kernel) (by decide +kernel)
theorem q_357 : (Jvm.Cond.fieldLink "SnowRecorder" (48 : Nat) "SnowRecorder" "otherPlan" "LSnowRecorder$Plan;") ∈ AW := AW_m 476 (by decide +kernel) (by decide +kernel)
theorem q_358 : (Jvm.Cond.fieldLink "SnowRecorder" (54 : Nat) "SnowRecorder" "trial" "LSnowRecorder$World;") ∈ AW := AW_m 477 (by decide +kernel) (by decide +kernel)
theorem q_359 : (Jvm.Cond.fieldLink "SnowRecorder" (58 : Nat) "SnowRecorder" "lead" "LSnowRecorder$World;") ∈ AW := AW_m 478 (by decide +kernel) (by decide +kernel)
theorem q_360 : (Jvm.Cond.fieldLink "SnowRecorder" (64 : Nat) "SnowRecorder" "guesses" "LSnowRecorder$Guesses;") ∈ AW := AW_m 479 (by decide +kernel) (by decide +kernel)
theorem q_361 : (Jvm.Cond.fieldLink "SnowRecorder" (71 : Nat) "SnowRecorder" "likeness" "LSnowRecorder$Likeness;") ∈ AW := AW_m 480 (by decide +kernel) (by decide +kernel)
theorem q_362 : (Jvm.Cond.fieldLink "SnowRecorder" (78 : Nat) "SnowRecorder" "line" "Ljava/lang/StringBuilder;") ∈ AW := AW_m 481 (by decide +kernel) (by decide +kernel)
theorem q_363 : (Jvm.Cond.laysFinal "SnowRecorder" "SnowRecorder" "tape" "[B") ∈ AW := AW_m 482 (by decide +kernel) (by decide +kernel)
theorem q_365 : (Jvm.Cond.lays "SnowRecorder" "SnowRecorder" "tapeSize" "I") ∈ AW := AW_m 484 (by decide +kernel) (by decide +kernel)
theorem q_367 : (Jvm.Cond.lays "SnowRecorder" "SnowRecorder" "faultPlace" "I") ∈ AW := AW_m 486 (by decide +kernel) (by decide +kernel)
theorem q_369 : (Jvm.Cond.laysFinal "SnowRecorder" "SnowRecorder" "reader" "LSnowRecorder$TextReader;") ∈ AW := AW_m 488 (by decide +kernel) (by decide +kernel)
theorem q_37 : (Jvm.Cond.classLink "SnowRecorder" (20 : Nat) "SnowRecorder$TextReader") ∈ AW := AW_m 156 (by decide +kernel) (by decide +kernel)
theorem q_371 : (Jvm.Cond.laysFinal "SnowRecorder" "SnowRecorder" "plan" "LSnowRecorder$Plan;") ∈ AW := AW_m 490 (by decide +kernel) (by decide +kernel)
theorem q_373 : (Jvm.Cond.laysFinal "SnowRecorder" "SnowRecorder" "state" "LSnowRecorder$State;") ∈ AW := AW_m 492 (by decide +kernel) (by decide +kernel)
theorem q_375 : (Jvm.Cond.laysFinal "SnowRecorder" "SnowRecorder" "kept" "LSnowRecorder$State;") ∈ AW := AW_m 494 (by decide +kernel) (by decide +kernel)
theorem q_377 : (Jvm.Cond.lays "SnowRecorder" "SnowRecorder" "imaged" "Z") ∈ AW := AW_m 496 (by decide +kernel) (by decide +kernel)
theorem q_379 : (Jvm.Cond.laysFinal "SnowRecorder" "SnowRecorder" "otherPlan" "LSnowRecorder$Plan;") ∈ AW := AW_m 498 (by decide +kernel) (by decide +kernel)
theorem q_38 : (Jvm.Cond.instantiable "SnowRecorder$TextReader" (9 : Nat)) ∈ AW := AW_m 157 (by decide +kernel) (by decide +kernel)
theorem q_381 : (Jvm.Cond.laysFinal "SnowRecorder" "SnowRecorder" "trial" "LSnowRecorder$World;") ∈ AW := AW_m 500 (by decide +kernel) (by decide +kernel)
theorem q_383 : (Jvm.Cond.laysFinal "SnowRecorder" "SnowRecorder" "lead" "LSnowRecorder$World;") ∈ AW := AW_m 502 (by decide +kernel) (by decide +kernel)
theorem q_385 : (Jvm.Cond.laysFinal "SnowRecorder" "SnowRecorder" "guesses" "LSnowRecorder$Guesses;") ∈ AW := AW_m 504 (by decide +kernel) (by decide +kernel)
theorem q_387 : (Jvm.Cond.laysFinal "SnowRecorder" "SnowRecorder" "likeness" "LSnowRecorder$Likeness;") ∈ AW := AW_m 506 (by decide +kernel) (by decide +kernel)
theorem q_389 : (Jvm.Cond.laysFinal "SnowRecorder" "SnowRecorder" "line" "Ljava/lang/StringBuilder;") ∈ AW := AW_m 508 (by decide +kernel) (by decide +kernel)
theorem q_4 : (Jvm.Cond.initialized "SnowRecorder$State") ∈ AW := AW_m 123 (by decide +kernel) (by decide +kernel)
theorem q_40 : (Jvm.Cond.instanceMethod ({ cls := "SnowRecorder$TextReader", name := "<init>", desc := "()V" } : Jvm.MethodName)) ∈ AW := AW_m 159 (by decide +kernel) (by decide +kernel)
theorem q_41 : (Jvm.Cond.code ({ cls := "SnowRecorder$TextReader", name := "<init>", desc := "()V" } : Jvm.MethodName) prog_9_method_1_code (1 : Nat) (Option.none : Option Jvm.ClassFile.FieldType)) ∈ AW := AW_m 160 (by decide +kernel) (by decide +kernel)
theorem q_73 : (Jvm.Cond.classLink "SnowRecorder" (27 : Nat) "SnowRecorder$Plan") ∈ AW := AW_m 192 (by decide +kernel) (by decide +kernel)
theorem q_74 : (Jvm.Cond.instantiable "SnowRecorder$Plan" (9 : Nat)) ∈ AW := AW_m 193 (by decide +kernel) (by decide +kernel)
theorem q_76 : (Jvm.Cond.instanceMethod ({ cls := "SnowRecorder$Plan", name := "<init>", desc := "()V" } : Jvm.MethodName)) ∈ AW := AW_m 195 (by decide +kernel) (by decide +kernel)
theorem q_77 : (Jvm.Cond.code ({ cls := "SnowRecorder$Plan", name := "<init>", desc := "()V" } : Jvm.MethodName) prog_7_method_1_code (1 : Nat) (Option.none : Option Jvm.ClassFile.FieldType)) ∈ AW := AW_m 196 (by decide +kernel) (by decide +kernel)
theorem q_9 : (Jvm.Cond.initialized "SnowRecorder$Guesses") ∈ AW := AW_m 128 (by decide +kernel) (by decide +kernel)
theorem mi_yX7_init : zWi yX7_init cX7_init 1 := ⟨q_40, q_2, q_41⟩
theorem mi_yX5_init : zWi yX5_init cX5_init 1 := ⟨q_76, q_3, q_77⟩
theorem mi_yX6_init : zWi yX6_init cX6_init 2 := ⟨q_138, q_4, q_139⟩
theorem mi_yX0_init : zWi yX0_init cX0_init 1 := ⟨q_286, q_9, q_287⟩
theorem mi_yX1_init : zWi yX1_init cX1_init 1 := ⟨q_310, q_10, q_311⟩
theorem mi_yJ4_init_da8c8 : zWi yJ4_init_da8c8 cJ4_init_da8c8 1 := ⟨q_320, q_12, q_321⟩
theorem inA_X9 : ∀ w ∈ u_ws RX9 TX9 14, w ∈ AW := show ∀ w ∈ ([Cond.laysFinal "SnowRecorder" "SnowRecorder" "tape" "[B", Cond.lays "SnowRecorder" "SnowRecorder" "tapeSize" "I", Cond.lays "SnowRecorder" "SnowRecorder" "faultPlace" "I", Cond.laysFinal "SnowRecorder" "SnowRecorder" "reader" "LSnowRecorder$TextReader;", Cond.laysFinal "SnowRecorder" "SnowRecorder" "plan" "LSnowRecorder$Plan;", Cond.laysFinal "SnowRecorder" "SnowRecorder" "state" "LSnowRecorder$State;", Cond.laysFinal "SnowRecorder" "SnowRecorder" "kept" "LSnowRecorder$State;", Cond.lays "SnowRecorder" "SnowRecorder" "imaged" "Z", Cond.laysFinal "SnowRecorder" "SnowRecorder" "otherPlan" "LSnowRecorder$Plan;", Cond.laysFinal "SnowRecorder" "SnowRecorder" "trial" "LSnowRecorder$World;", Cond.laysFinal "SnowRecorder" "SnowRecorder" "lead" "LSnowRecorder$World;", Cond.laysFinal "SnowRecorder" "SnowRecorder" "guesses" "LSnowRecorder$Guesses;", Cond.laysFinal "SnowRecorder" "SnowRecorder" "likeness" "LSnowRecorder$Likeness;", Cond.laysFinal "SnowRecorder" "SnowRecorder" "line" "Ljava/lang/StringBuilder;"] : List Cond), w ∈ AW from List.forall_mem_cons.mpr ⟨q_363, List.forall_mem_cons.mpr ⟨q_365, List.forall_mem_cons.mpr ⟨q_367, List.forall_mem_cons.mpr ⟨q_369, List.forall_mem_cons.mpr ⟨q_371, List.forall_mem_cons.mpr ⟨q_373, List.forall_mem_cons.mpr ⟨q_375, List.forall_mem_cons.mpr ⟨q_377, List.forall_mem_cons.mpr ⟨q_379, List.forall_mem_cons.mpr ⟨q_381, List.forall_mem_cons.mpr ⟨q_383, List.forall_mem_cons.mpr ⟨q_385, List.forall_mem_cons.mpr ⟨q_387, List.forall_mem_cons.mpr ⟨q_389, fun _ h => absurd h List.not_mem_nil⟩⟩⟩⟩⟩⟩⟩⟩⟩⟩⟩⟩⟩⟩
end
section
-- decode rows of rec
theorem dX9_init_0 : decode cX9_init 0 = .ok (.aload_n 0, 1) := by decide +kernel
theorem dX9_init_1 : decode cX9_init 1 = .ok (.invokespecial 3, 3) := by decide +kernel
theorem dX9_init_4 : decode cX9_init 4 = .ok (.aload_n 0, 1) := by decide +kernel
theorem dX9_init_5 : decode cX9_init 5 = .ok (.sipush 900, 3) := by decide +kernel
theorem dX9_init_8 : decode cX9_init 8 = .ok (.newarray .byte, 2) := by decide +kernel
theorem dX9_init_10 : decode cX9_init 10 = .ok (.putfield 9, 3) := by decide +kernel
theorem dX9_init_13 : decode cX9_init 13 = .ok (.aload_n 0, 1) := by decide +kernel
theorem dX9_init_14 : decode cX9_init 14 = .ok (.iconst 0, 1) := by decide +kernel
theorem dX9_init_15 : decode cX9_init 15 = .ok (.putfield 13, 3) := by decide +kernel
theorem dX9_init_18 : decode cX9_init 18 = .ok (.aload_n 0, 1) := by decide +kernel
theorem dX9_init_19 : decode cX9_init 19 = .ok (.iconst (-1), 1) := by decide +kernel
theorem dX9_init_20 : decode cX9_init 20 = .ok (.putfield 17, 3) := by decide +kernel
theorem dX9_init_23 : decode cX9_init 23 = .ok (.aload_n 0, 1) := by decide +kernel
theorem dX9_init_24 : decode cX9_init 24 = .ok (.new 20, 3) := by decide +kernel
theorem dX9_init_27 : decode cX9_init 27 = .ok (.dup, 1) := by decide +kernel
theorem dX9_init_28 : decode cX9_init 28 = .ok (.invokespecial 22, 3) := by decide +kernel
theorem dX9_init_31 : decode cX9_init 31 = .ok (.putfield 23, 3) := by decide +kernel
theorem dX9_init_34 : decode cX9_init 34 = .ok (.aload_n 0, 1) := by decide +kernel
theorem dX9_init_35 : decode cX9_init 35 = .ok (.new 27, 3) := by decide +kernel
theorem dX9_init_38 : decode cX9_init 38 = .ok (.dup, 1) := by decide +kernel
theorem dX9_init_39 : decode cX9_init 39 = .ok (.invokespecial 29, 3) := by decide +kernel
theorem dX9_init_42 : decode cX9_init 42 = .ok (.putfield 30, 3) := by decide +kernel
theorem dX9_init_45 : decode cX9_init 45 = .ok (.aload_n 0, 1) := by decide +kernel
theorem dX9_init_46 : decode cX9_init 46 = .ok (.new 34, 3) := by decide +kernel
theorem dX9_init_49 : decode cX9_init 49 = .ok (.dup, 1) := by decide +kernel
theorem dX9_init_50 : decode cX9_init 50 = .ok (.invokespecial 36, 3) := by decide +kernel
theorem dX9_init_53 : decode cX9_init 53 = .ok (.putfield 37, 3) := by decide +kernel
theorem dX9_init_56 : decode cX9_init 56 = .ok (.aload_n 0, 1) := by decide +kernel
theorem dX9_init_57 : decode cX9_init 57 = .ok (.new 34, 3) := by decide +kernel
theorem dX9_init_60 : decode cX9_init 60 = .ok (.dup, 1) := by decide +kernel
theorem dX9_init_61 : decode cX9_init 61 = .ok (.invokespecial 36, 3) := by decide +kernel
theorem dX9_init_64 : decode cX9_init 64 = .ok (.putfield 41, 3) := by decide +kernel
theorem dX9_init_67 : decode cX9_init 67 = .ok (.aload_n 0, 1) := by decide +kernel
theorem dX9_init_68 : decode cX9_init 68 = .ok (.iconst 0, 1) := by decide +kernel
theorem dX9_init_69 : decode cX9_init 69 = .ok (.putfield 44, 3) := by decide +kernel
theorem dX9_init_72 : decode cX9_init 72 = .ok (.aload_n 0, 1) := by decide +kernel
theorem dX9_init_73 : decode cX9_init 73 = .ok (.new 27, 3) := by decide +kernel
theorem dX9_init_76 : decode cX9_init 76 = .ok (.dup, 1) := by decide +kernel
theorem dX9_init_77 : decode cX9_init 77 = .ok (.invokespecial 29, 3) := by decide +kernel
theorem dX9_init_80 : decode cX9_init 80 = .ok (.putfield 48, 3) := by decide +kernel
theorem dX9_init_83 : decode cX9_init 83 = .ok (.aload_n 0, 1) := by decide +kernel
theorem dX9_init_84 : decode cX9_init 84 = .ok (.new 51, 3) := by decide +kernel
theorem dX9_init_87 : decode cX9_init 87 = .ok (.dup, 1) := by decide +kernel
theorem dX9_init_88 : decode cX9_init 88 = .ok (.invokespecial 53, 3) := by decide +kernel
theorem dX9_init_91 : decode cX9_init 91 = .ok (.putfield 54, 3) := by decide +kernel
theorem dX9_init_94 : decode cX9_init 94 = .ok (.aload_n 0, 1) := by decide +kernel
theorem dX9_init_95 : decode cX9_init 95 = .ok (.new 51, 3) := by decide +kernel
theorem dX9_init_98 : decode cX9_init 98 = .ok (.dup, 1) := by decide +kernel
theorem dX9_init_99 : decode cX9_init 99 = .ok (.invokespecial 53, 3) := by decide +kernel
theorem dX9_init_102 : decode cX9_init 102 = .ok (.putfield 58, 3) := by decide +kernel
theorem dX9_init_105 : decode cX9_init 105 = .ok (.aload_n 0, 1) := by decide +kernel
theorem dX9_init_106 : decode cX9_init 106 = .ok (.new 61, 3) := by decide +kernel
theorem dX9_init_109 : decode cX9_init 109 = .ok (.dup, 1) := by decide +kernel
theorem dX9_init_110 : decode cX9_init 110 = .ok (.invokespecial 63, 3) := by decide +kernel
theorem dX9_init_113 : decode cX9_init 113 = .ok (.putfield 64, 3) := by decide +kernel
theorem dX9_init_116 : decode cX9_init 116 = .ok (.aload_n 0, 1) := by decide +kernel
theorem dX9_init_117 : decode cX9_init 117 = .ok (.new 68, 3) := by decide +kernel
theorem dX9_init_120 : decode cX9_init 120 = .ok (.dup, 1) := by decide +kernel
theorem dX9_init_121 : decode cX9_init 121 = .ok (.invokespecial 70, 3) := by decide +kernel
theorem dX9_init_124 : decode cX9_init 124 = .ok (.putfield 71, 3) := by decide +kernel
theorem dX9_init_127 : decode cX9_init 127 = .ok (.aload_n 0, 1) := by decide +kernel
theorem dX9_init_128 : decode cX9_init 128 = .ok (.new 75, 3) := by decide +kernel
theorem dX9_init_131 : decode cX9_init 131 = .ok (.dup, 1) := by decide +kernel
theorem dX9_init_132 : decode cX9_init 132 = .ok (.invokespecial 77, 3) := by decide +kernel
theorem dX9_init_135 : decode cX9_init 135 = .ok (.putfield 78, 3) := by decide +kernel
theorem dX9_init_138 : decode cX9_init 138 = .ok (.return_, 1) := by decide +kernel
end
section
def isRec (cs : Nat → ClassId) (ad : Nat → Nat) (g : Nat → va_E) (i : Nat) : Prop := g i = oC 11 [.ref (ad (i + 1)), .int (zI 0), .int (zI (-1)), .ref (ad (i + 2)), .ref (ad (i + 4)), .ref (ad (i + 11)), .ref (ad (i + 447)), .int (zI 0), .ref (ad (i + 883)), .ref (ad (i + 890)), .ref (ad (i + 900)), .ref (ad (i + 910)), .ref (ad (i + 917)), .ref (ad (i + 919))] ∧ g (i + 1) = bA cs 900 (fun _ => 0) ∧ isRdr cs ad g (i + 2) ∧ isPlan cs ad g (i + 4) 0 0 0 (fun _ => 0) (fun _ => 0) (fun _ => 0) (fun _ => 0) (fun _ => 0) tabZ ∧ isSt cs ad g (i + 11) ∧ isSt cs ad g (i + 447) ∧ isPlan cs ad g (i + 883) 0 0 0 (fun _ => 0) (fun _ => 0) (fun _ => 0) (fun _ => 0) (fun _ => 0) tabZ ∧ isWorld cs ad g (i + 890) (fun _ => 0) (fun _ => 0) (fun _ => 0) (fun _ _ => 0) ∧ isWorld cs ad g (i + 900) (fun _ => 0) (fun _ => 0) (fun _ => 0) (fun _ _ => 0) ∧ isGss cs ad g (i + 910) 0 (-1) (fun _ => 0) (fun _ _ => 0) ∧ isLike cs ad g (i + 917) (fun _ => 0) ∧ isBld cs ad g (i + 919)
theorem isRec.mv {cs : Nat → ClassId} {ad ad' : Nat → Nat} {g g' : Nat → va_E} {i : Nat} (hA : ∀ j, i ≤ j → j < i + 921 → ad' j = ad j) (hG : ∀ j, i ≤ j → j < i + 921 → g' j = g j) (h : isRec cs ad g i) : isRec cs ad' g' i := by
  obtain ⟨h1, h2, h3, h4, h5, h6, h7, h8, h9, h10, h11, h12⟩ := h
  exact ⟨by rw [hG _ (by omega) (by omega), hA _ (by omega) (by omega), hA _ (by omega) (by omega), hA _ (by omega) (by omega), hA _ (by omega) (by omega), hA _ (by omega) (by omega), hA _ (by omega) (by omega), hA _ (by omega) (by omega), hA _ (by omega) (by omega), hA _ (by omega) (by omega), hA _ (by omega) (by omega), hA _ (by omega) (by omega)]; exact h1, by rw [hG _ (by omega) (by omega)]; exact h2, h3.mv (fun j _ _ => hA j (by omega) (by omega)) (fun j _ _ => hG j (by omega) (by omega)), h4.mv (fun j _ _ => hA j (by omega) (by omega)) (fun j _ _ => hG j (by omega) (by omega)), h5.mv (fun j _ _ => hA j (by omega) (by omega)) (fun j _ _ => hG j (by omega) (by omega)), h6.mv (fun j _ _ => hA j (by omega) (by omega)) (fun j _ _ => hG j (by omega) (by omega)), h7.mv (fun j _ _ => hA j (by omega) (by omega)) (fun j _ _ => hG j (by omega) (by omega)), h8.mv (fun j _ _ => hA j (by omega) (by omega)) (fun j _ _ => hG j (by omega) (by omega)), h9.mv (fun j _ _ => hA j (by omega) (by omega)) (fun j _ _ => hG j (by omega) (by omega)), h10.mv (fun j _ _ => hA j (by omega) (by omega)) (fun j _ _ => hG j (by omega) (by omega)), h11.mv (fun j _ _ => hA j (by omega) (by omega)) (fun j _ _ => hG j (by omega) (by omega)), h12.mv (fun j _ _ => hA j (by omega) (by omega)) (fun j _ _ => hG j (by omega) (by omega))⟩

set_option maxRecDepth 100000 in
set_option maxHeartbeats 4000000 in
theorem c_X9_init (l : Launch) (D : va_G) (A : Nat → Prop) (cs : Nat → ClassId) (tt : Nat) (ad : Nat → Nat) (g : Nat → va_E) (i a : Nat) (ha : ad i = a) (hg : g i = oC 11 [.null, .int (zI (0)), .int (zI (0)), .null, .null, .null, .null, .int (zI (0)), .null, .null, .null, .null, .null, .null]) : zM l yX9_init cX9_init 1 none ({ frames := 4, cells := 920, slots := 37365, locals := 240 } : Room) D A cs tt (i + 1) ad g [.ref a] (rV fun N' ad' g' => N' = i + 921 ∧ (∀ j, j < i + 1 → ad' j = ad j) ∧ (∀ j, j < i + 1 → j ≠ i → g' j = g j) ∧ isRec cs ad' g' i) := by
  refine z_of (by decide) (Nat.le_of_ble_eq_true rfl) ?_
  intro p e s m below meth c C hr hlk hnm
  refine z_lv (lv' := [(0, .ref a)]) [0] rfl ?_
  refine z_aload_n C 0 dX9_init_0 rfl ?_
  refine z_objInit C q_34 q_35 q_36 dX9_init_1 (Nat.le_of_ble_eq_true rfl) (Nat.le_of_ble_eq_true rfl) ?_
  refine z_aload_n C 0 dX9_init_4 rfl ?_
  refine z_sipush (z := 900) C dX9_init_5 (by decide) ?_
  refine z_newB C 900 rfl q_72 (by decide) (by decide) (by decide) dX9_init_8 (fun q1 ad2 g3 ea4 eg5 => ?_)
  have ha6 : zAt ad2 (i + 1) q1 := up_s ea4
  have hg7 := up_s eg5
  have ha8 : zAt ad2 (i) (a) := up_n ea4 ha (ne_o (i := i) (c := 0) (d := 1) rfl)
  have hg9 := up_n eg5 hg (ne_o (i := i) (c := 0) (d := 1) rfl)
  refine z_putF (fs' := [.ref q1, .int (zI (0)), .int (zI (0)), .null, .null, .null, .null, .int (zI (0)), .null, .null, .null, .null, .null, .null]) C (lt_o (i := i) (c := 0) (d := 2) rfl) ha8 hg9 tyX9 tyX9_ok nmX9 rfl inA_X9 0 (by decide) q_349 rfl rfl hnm rfl rfl rfl (Nat.le_of_ble_eq_true rfl) rfl dX9_init_10 (fun g10 eg11 => ?_)
  have hg12 := up_s eg11
  refine z_aload_n C 0 dX9_init_13 rfl ?_
  refine z_iconst (z := 0) C dX9_init_14 rfl ?_
  refine z_put (fs' := [.ref q1, .int (zI (0)), .int (zI (0)), .null, .null, .null, .null, .int (zI (0)), .null, .null, .null, .null, .null, .null]) C (lt_o (i := i) (c := 0) (d := 2) rfl) ha8 hg12 tyX9 tyX9_ok nmX9 rfl inA_X9 1 (by decide) q_350 rfl rfl rfl rfl (Nat.le_of_ble_eq_true rfl) rfl dX9_init_15 (fun g13 eg14 => ?_)
  have hg15 := up_s eg14
  refine z_aload_n C 0 dX9_init_18 rfl ?_
  refine z_iconst (z := -1) C dX9_init_19 rfl ?_
  refine z_put (fs' := [.ref q1, .int (zI (0)), .int (zI (-1)), .null, .null, .null, .null, .int (zI (0)), .null, .null, .null, .null, .null, .null]) C (lt_o (i := i) (c := 0) (d := 2) rfl) ha8 hg15 tyX9 tyX9_ok nmX9 rfl inA_X9 2 (by decide) q_351 rfl rfl rfl rfl (Nat.le_of_ble_eq_true rfl) rfl dX9_init_20 (fun g16 eg17 => ?_)
  have hg18 := up_s eg17
  refine z_aload_n C 0 dX9_init_23 rfl ?_
  refine z_new (fs := [.int (zI (0)), .int (zI (0)), .null, .int (zI (0)), .int (zI (0)), .int (zI (0)), .int (zI (0)), .int (zI (0)), .int (zI (0))]) (ci := 9) C tyX7 tyX7_ok rfl inA_X7 q_37 q_38 q_2 (fun j hj => by rcases (show j = 0 ∨ j = 1 ∨ j = 2 ∨ j = 3 ∨ j = 4 ∨ j = 5 ∨ j = 6 ∨ j = 7 ∨ j = 8 by omega) with rfl | rfl | rfl | rfl | rfl | rfl | rfl | rfl | rfl <;> rfl) (by decide) (by decide) dX9_init_24 (fun q19 ad20 g21 ea22 eg23 => ?_)
  have ha24 : zAt ad20 (i + 1 + 1) q19 := up_s ea22
  have hg25 := up_s eg23
  refine z_dup C dX9_init_27 rfl ?_
  refine z_cIN (As := []) (rest := [.ref q19, .ref a]) C (c_X7_init l D A cs tt _ _ (i + 1 + 1) q19 ha24 hg25) mi_yX7_init n_39 rfl (by decide +kernel) (by decide) (Nat.le_of_ble_eq_true rfl) (by decide) dX9_init_28 rfl (kV fun M29 ad30 g31 hq32 => ?_)
  obtain ⟨rfl, hA26, hG27, hp28⟩ := hq32
  have e0o : i + 1 + 1 = i + 2 := by omega
  have ha33 : zAt ad20 (i) (a) := up_n ea22 ha8 (ne_o (i := i) (c := 0) (d := 2) rfl)
  have ha34 : zAt ad30 (i) (a) := (hA26 (i) (lt_o (i := i) (c := 0) (d := 3) rfl)).trans ha33
  have hg35 := up_n eg23 hg18 (ne_o (i := i) (c := 0) (d := 2) rfl)
  have hg36 := (hG27 (i) (lt_o (i := i) (c := 0) (d := 3) rfl) (ne_o (i := i) (c := 0) (d := 2) rfl)).trans hg35
  refine z_putF (fs' := [.ref q1, .int (zI (0)), .int (zI (-1)), .ref q19, .null, .null, .null, .int (zI (0)), .null, .null, .null, .null, .null, .null]) C (lt_o (i := i) (c := 0) (d := 4) rfl) ha34 hg36 tyX9 tyX9_ok nmX9 rfl inA_X9 3 (by decide) q_352 rfl rfl hnm rfl rfl rfl (Nat.le_of_ble_eq_true rfl) rfl dX9_init_31 (fun g37 eg38 => ?_)
  have hg39 := up_s eg38
  refine z_aload_n C 0 dX9_init_34 rfl ?_
  refine z_new (fs := [.int (zI (0)), .int (zI (0)), .int (zI (0)), .null, .null, .null, .null, .null, .null]) (ci := 7) C tyX5 tyX5_ok rfl inA_X5 q_73 q_74 q_3 (fun j hj => by rcases (show j = 0 ∨ j = 1 ∨ j = 2 ∨ j = 3 ∨ j = 4 ∨ j = 5 ∨ j = 6 ∨ j = 7 ∨ j = 8 by omega) with rfl | rfl | rfl | rfl | rfl | rfl | rfl | rfl | rfl <;> rfl) (by decide) (by decide) dX9_init_35 (fun q40 ad41 g42 ea43 eg44 => ?_)
  have ha45 : zAt ad41 (i + 1 + 1 + 2) q40 := up_s ea43
  have hg46 := up_s eg44
  refine z_dup C dX9_init_38 rfl ?_
  refine z_cIN (As := []) (rest := [.ref q40, .ref a]) C (c_X5_init l D A cs tt _ _ (i + 1 + 1 + 2) q40 ha45 hg46) mi_yX5_init n_75 rfl (by decide +kernel) (by decide) (Nat.le_of_ble_eq_true rfl) (by decide) dX9_init_39 rfl (kV fun M50 ad51 g52 hq53 => ?_)
  obtain ⟨rfl, hA47, hG48, hp49⟩ := hq53
  have e1o : i + 1 + 1 + 2 = i + 4 := by omega
  have ha54 : zAt ad41 (i) (a) := up_n ea43 ha34 (ne_o (i := i) (c := 0) (d := 4) rfl)
  have ha55 : zAt ad51 (i) (a) := (hA47 (i) (lt_o (i := i) (c := 0) (d := 5) rfl)).trans ha54
  have hg56 := up_n eg44 hg39 (ne_o (i := i) (c := 0) (d := 4) rfl)
  have hg57 := (hG48 (i) (lt_o (i := i) (c := 0) (d := 5) rfl) (ne_o (i := i) (c := 0) (d := 4) rfl)).trans hg56
  refine z_putF (fs' := [.ref q1, .int (zI (0)), .int (zI (-1)), .ref q19, .ref q40, .null, .null, .int (zI (0)), .null, .null, .null, .null, .null, .null]) C (lt_o (i := i) (c := 0) (d := 11) rfl) ha55 hg57 tyX9 tyX9_ok nmX9 rfl inA_X9 4 (by decide) q_353 rfl rfl hnm rfl rfl rfl (Nat.le_of_ble_eq_true rfl) rfl dX9_init_42 (fun g58 eg59 => ?_)
  have hg60 := up_s eg59
  refine z_aload_n C 0 dX9_init_45 rfl ?_
  refine z_new (fs := [.null, .null, .int (zI (0)), .null, .null, .null]) (ci := 8) C tyX6 tyX6_ok rfl inA_X6 q_135 q_136 q_4 (fun j hj => by rcases (show j = 0 ∨ j = 1 ∨ j = 2 ∨ j = 3 ∨ j = 4 ∨ j = 5 by omega) with rfl | rfl | rfl | rfl | rfl | rfl <;> rfl) (by decide) (by decide) dX9_init_46 (fun q61 ad62 g63 ea64 eg65 => ?_)
  have ha66 : zAt ad62 (i + 1 + 1 + 2 + 7) q61 := up_s ea64
  have hg67 := up_s eg65
  refine z_dup C dX9_init_49 rfl ?_
  refine z_cI (As := []) (rest := [.ref q61, .ref a]) C (c_X6_init l D A cs tt _ _ (i + 1 + 1 + 2 + 7) q61 ha66 hg67) mi_yX6_init q_137 rfl (by decide +kernel) (by decide) (Nat.le_of_ble_eq_true rfl) (by decide) dX9_init_50 rfl (kV fun M71 ad72 g73 hq74 => ?_)
  obtain ⟨rfl, hA68, hG69, hp70⟩ := hq74
  have e2o : i + 1 + 1 + 2 + 7 = i + 11 := by omega
  have ha75 : zAt ad62 (i) (a) := up_n ea64 ha55 (ne_o (i := i) (c := 0) (d := 11) rfl)
  have ha76 : zAt ad72 (i) (a) := (hA68 (i) (lt_o (i := i) (c := 0) (d := 12) rfl)).trans ha75
  have hg77 := up_n eg65 hg60 (ne_o (i := i) (c := 0) (d := 11) rfl)
  have hg78 := (hG69 (i) (lt_o (i := i) (c := 0) (d := 12) rfl) (ne_o (i := i) (c := 0) (d := 11) rfl)).trans hg77
  refine z_putF (fs' := [.ref q1, .int (zI (0)), .int (zI (-1)), .ref q19, .ref q40, .ref q61, .null, .int (zI (0)), .null, .null, .null, .null, .null, .null]) C (lt_o (i := i) (c := 0) (d := 447) rfl) ha76 hg78 tyX9 tyX9_ok nmX9 rfl inA_X9 5 (by decide) q_354 rfl rfl hnm rfl rfl rfl (Nat.le_of_ble_eq_true rfl) rfl dX9_init_53 (fun g79 eg80 => ?_)
  have hg81 := up_s eg80
  refine z_aload_n C 0 dX9_init_56 rfl ?_
  refine z_new (fs := [.null, .null, .int (zI (0)), .null, .null, .null]) (ci := 8) C tyX6 tyX6_ok rfl inA_X6 q_135 q_136 q_4 (fun j hj => by rcases (show j = 0 ∨ j = 1 ∨ j = 2 ∨ j = 3 ∨ j = 4 ∨ j = 5 by omega) with rfl | rfl | rfl | rfl | rfl | rfl <;> rfl) (by decide) (by decide) dX9_init_57 (fun q82 ad83 g84 ea85 eg86 => ?_)
  have ha87 : zAt ad83 (i + 1 + 1 + 2 + 7 + 436) q82 := up_s ea85
  have hg88 := up_s eg86
  refine z_dup C dX9_init_60 rfl ?_
  refine z_cI (As := []) (rest := [.ref q82, .ref a]) C (c_X6_init l D A cs tt _ _ (i + 1 + 1 + 2 + 7 + 436) q82 ha87 hg88) mi_yX6_init q_137 rfl (by decide +kernel) (by decide) (Nat.le_of_ble_eq_true rfl) (by decide) dX9_init_61 rfl (kV fun M92 ad93 g94 hq95 => ?_)
  obtain ⟨rfl, hA89, hG90, hp91⟩ := hq95
  have e3o : i + 1 + 1 + 2 + 7 + 436 = i + 447 := by omega
  have ha96 : zAt ad83 (i) (a) := up_n ea85 ha76 (ne_o (i := i) (c := 0) (d := 447) rfl)
  have ha97 : zAt ad93 (i) (a) := (hA89 (i) (lt_o (i := i) (c := 0) (d := 448) rfl)).trans ha96
  have hg98 := up_n eg86 hg81 (ne_o (i := i) (c := 0) (d := 447) rfl)
  have hg99 := (hG90 (i) (lt_o (i := i) (c := 0) (d := 448) rfl) (ne_o (i := i) (c := 0) (d := 447) rfl)).trans hg98
  refine z_putF (fs' := [.ref q1, .int (zI (0)), .int (zI (-1)), .ref q19, .ref q40, .ref q61, .ref q82, .int (zI (0)), .null, .null, .null, .null, .null, .null]) C (lt_o (i := i) (c := 0) (d := 883) rfl) ha97 hg99 tyX9 tyX9_ok nmX9 rfl inA_X9 6 (by decide) q_355 rfl rfl hnm rfl rfl rfl (Nat.le_of_ble_eq_true rfl) rfl dX9_init_64 (fun g100 eg101 => ?_)
  have hg102 := up_s eg101
  refine z_aload_n C 0 dX9_init_67 rfl ?_
  refine z_iconst (z := 0) C dX9_init_68 rfl ?_
  refine z_put (fs' := [.ref q1, .int (zI (0)), .int (zI (-1)), .ref q19, .ref q40, .ref q61, .ref q82, .int (zI (0)), .null, .null, .null, .null, .null, .null]) C (lt_o (i := i) (c := 0) (d := 883) rfl) ha97 hg102 tyX9 tyX9_ok nmX9 rfl inA_X9 7 (by decide) q_356 rfl rfl (by decide) rfl (Nat.le_of_ble_eq_true rfl) rfl dX9_init_69 (fun g103 eg104 => ?_)
  have hg105 := up_s eg104
  refine z_aload_n C 0 dX9_init_72 rfl ?_
  refine z_new (fs := [.int (zI (0)), .int (zI (0)), .int (zI (0)), .null, .null, .null, .null, .null, .null]) (ci := 7) C tyX5 tyX5_ok rfl inA_X5 q_73 q_74 q_3 (fun j hj => by rcases (show j = 0 ∨ j = 1 ∨ j = 2 ∨ j = 3 ∨ j = 4 ∨ j = 5 ∨ j = 6 ∨ j = 7 ∨ j = 8 by omega) with rfl | rfl | rfl | rfl | rfl | rfl | rfl | rfl | rfl <;> rfl) (by decide) (by decide) dX9_init_73 (fun q106 ad107 g108 ea109 eg110 => ?_)
  have ha111 : zAt ad107 (i + 1 + 1 + 2 + 7 + 436 + 436) q106 := up_s ea109
  have hg112 := up_s eg110
  refine z_dup C dX9_init_76 rfl ?_
  refine z_cIN (As := []) (rest := [.ref q106, .ref a]) C (c_X5_init l D A cs tt _ _ (i + 1 + 1 + 2 + 7 + 436 + 436) q106 ha111 hg112) mi_yX5_init n_75 rfl (by decide +kernel) (by decide) (Nat.le_of_ble_eq_true rfl) (by decide) dX9_init_77 rfl (kV fun M116 ad117 g118 hq119 => ?_)
  obtain ⟨rfl, hA113, hG114, hp115⟩ := hq119
  have e4o : i + 1 + 1 + 2 + 7 + 436 + 436 = i + 883 := by omega
  have ha120 : zAt ad107 (i) (a) := up_n ea109 ha97 (ne_o (i := i) (c := 0) (d := 883) rfl)
  have ha121 : zAt ad117 (i) (a) := (hA113 (i) (lt_o (i := i) (c := 0) (d := 884) rfl)).trans ha120
  have hg122 := up_n eg110 hg105 (ne_o (i := i) (c := 0) (d := 883) rfl)
  have hg123 := (hG114 (i) (lt_o (i := i) (c := 0) (d := 884) rfl) (ne_o (i := i) (c := 0) (d := 883) rfl)).trans hg122
  refine z_putF (fs' := [.ref q1, .int (zI (0)), .int (zI (-1)), .ref q19, .ref q40, .ref q61, .ref q82, .int (zI (0)), .ref q106, .null, .null, .null, .null, .null]) C (lt_o (i := i) (c := 0) (d := 890) rfl) ha121 hg123 tyX9 tyX9_ok nmX9 rfl inA_X9 8 (by decide) q_357 rfl rfl hnm rfl rfl rfl (Nat.le_of_ble_eq_true rfl) rfl dX9_init_80 (fun g124 eg125 => ?_)
  have hg126 := up_s eg125
  refine z_aload_n C 0 dX9_init_83 rfl ?_
  refine z_new (fs := [.int (zI (0)), .int (zI (0)), .int (zI (0)), .int (zI (0)), .int (zI (0)), .int (zI (0)), .null]) (ci := 10) C tyX8 tyX8_ok rfl inA_X8 q_281 q_142 q_5 (fun j hj => by rcases (show j = 0 ∨ j = 1 ∨ j = 2 ∨ j = 3 ∨ j = 4 ∨ j = 5 ∨ j = 6 by omega) with rfl | rfl | rfl | rfl | rfl | rfl | rfl <;> rfl) (by decide) (by decide) dX9_init_84 (fun q127 ad128 g129 ea130 eg131 => ?_)
  have ha132 : zAt ad128 (i + 1 + 1 + 2 + 7 + 436 + 436 + 7) q127 := up_s ea130
  have hg133 := up_s eg131
  refine z_dup C dX9_init_87 rfl ?_
  refine z_cI (As := []) (rest := [.ref q127, .ref a]) C (c_X8_init l D A cs tt _ _ (i + 1 + 1 + 2 + 7 + 436 + 436 + 7) q127 ha132 hg133) mi_yX8_init q_282 rfl (by decide +kernel) (by decide) (Nat.le_of_ble_eq_true rfl) (by decide) dX9_init_88 rfl (kV fun M137 ad138 g139 hq140 => ?_)
  obtain ⟨rfl, hA134, hG135, hp136⟩ := hq140
  have e5o : i + 1 + 1 + 2 + 7 + 436 + 436 + 7 = i + 890 := by omega
  have ha141 : zAt ad128 (i) (a) := up_n ea130 ha121 (ne_o (i := i) (c := 0) (d := 890) rfl)
  have ha142 : zAt ad138 (i) (a) := (hA134 (i) (lt_o (i := i) (c := 0) (d := 891) rfl)).trans ha141
  have hg143 := up_n eg131 hg126 (ne_o (i := i) (c := 0) (d := 890) rfl)
  have hg144 := (hG135 (i) (lt_o (i := i) (c := 0) (d := 891) rfl) (ne_o (i := i) (c := 0) (d := 890) rfl)).trans hg143
  refine z_putF (fs' := [.ref q1, .int (zI (0)), .int (zI (-1)), .ref q19, .ref q40, .ref q61, .ref q82, .int (zI (0)), .ref q106, .ref q127, .null, .null, .null, .null]) C (lt_o (i := i) (c := 0) (d := 900) rfl) ha142 hg144 tyX9 tyX9_ok nmX9 rfl inA_X9 9 (by decide) q_358 rfl rfl hnm rfl rfl rfl (Nat.le_of_ble_eq_true rfl) rfl dX9_init_91 (fun g145 eg146 => ?_)
  have hg147 := up_s eg146
  refine z_aload_n C 0 dX9_init_94 rfl ?_
  refine z_new (fs := [.int (zI (0)), .int (zI (0)), .int (zI (0)), .int (zI (0)), .int (zI (0)), .int (zI (0)), .null]) (ci := 10) C tyX8 tyX8_ok rfl inA_X8 q_281 q_142 q_5 (fun j hj => by rcases (show j = 0 ∨ j = 1 ∨ j = 2 ∨ j = 3 ∨ j = 4 ∨ j = 5 ∨ j = 6 by omega) with rfl | rfl | rfl | rfl | rfl | rfl | rfl <;> rfl) (by decide) (by decide) dX9_init_95 (fun q148 ad149 g150 ea151 eg152 => ?_)
  have ha153 : zAt ad149 (i + 1 + 1 + 2 + 7 + 436 + 436 + 7 + 10) q148 := up_s ea151
  have hg154 := up_s eg152
  refine z_dup C dX9_init_98 rfl ?_
  refine z_cI (As := []) (rest := [.ref q148, .ref a]) C (c_X8_init l D A cs tt _ _ (i + 1 + 1 + 2 + 7 + 436 + 436 + 7 + 10) q148 ha153 hg154) mi_yX8_init q_282 rfl (by decide +kernel) (by decide) (Nat.le_of_ble_eq_true rfl) (by decide) dX9_init_99 rfl (kV fun M158 ad159 g160 hq161 => ?_)
  obtain ⟨rfl, hA155, hG156, hp157⟩ := hq161
  have e6o : i + 1 + 1 + 2 + 7 + 436 + 436 + 7 + 10 = i + 900 := by omega
  have ha162 : zAt ad149 (i) (a) := up_n ea151 ha142 (ne_o (i := i) (c := 0) (d := 900) rfl)
  have ha163 : zAt ad159 (i) (a) := (hA155 (i) (lt_o (i := i) (c := 0) (d := 901) rfl)).trans ha162
  have hg164 := up_n eg152 hg147 (ne_o (i := i) (c := 0) (d := 900) rfl)
  have hg165 := (hG156 (i) (lt_o (i := i) (c := 0) (d := 901) rfl) (ne_o (i := i) (c := 0) (d := 900) rfl)).trans hg164
  refine z_putF (fs' := [.ref q1, .int (zI (0)), .int (zI (-1)), .ref q19, .ref q40, .ref q61, .ref q82, .int (zI (0)), .ref q106, .ref q127, .ref q148, .null, .null, .null]) C (lt_o (i := i) (c := 0) (d := 910) rfl) ha163 hg165 tyX9 tyX9_ok nmX9 rfl inA_X9 10 (by decide) q_359 rfl rfl hnm rfl rfl rfl (Nat.le_of_ble_eq_true rfl) rfl dX9_init_102 (fun g166 eg167 => ?_)
  have hg168 := up_s eg167
  refine z_aload_n C 0 dX9_init_105 rfl ?_
  refine z_new (fs := [.int (zI (0)), .int (zI (0)), .null, .null]) (ci := 2) C tyX0 tyX0_ok rfl inA_X0 q_283 q_284 q_9 (fun j hj => by rcases (show j = 0 ∨ j = 1 ∨ j = 2 ∨ j = 3 by omega) with rfl | rfl | rfl | rfl <;> rfl) (by decide) (by decide) dX9_init_106 (fun q169 ad170 g171 ea172 eg173 => ?_)
  have ha174 : zAt ad170 (i + 1 + 1 + 2 + 7 + 436 + 436 + 7 + 10 + 10) q169 := up_s ea172
  have hg175 := up_s eg173
  refine z_dup C dX9_init_109 rfl ?_
  refine z_cIN (As := []) (rest := [.ref q169, .ref a]) C (c_X0_init l D A cs tt _ _ (i + 1 + 1 + 2 + 7 + 436 + 436 + 7 + 10 + 10) q169 ha174 hg175) mi_yX0_init n_285 rfl (by decide +kernel) (by decide) (Nat.le_of_ble_eq_true rfl) (by decide) dX9_init_110 rfl (kV fun M179 ad180 g181 hq182 => ?_)
  obtain ⟨rfl, hA176, hG177, hp178⟩ := hq182
  have e7o : i + 1 + 1 + 2 + 7 + 436 + 436 + 7 + 10 + 10 = i + 910 := by omega
  have ha183 : zAt ad170 (i) (a) := up_n ea172 ha163 (ne_o (i := i) (c := 0) (d := 910) rfl)
  have ha184 : zAt ad180 (i) (a) := (hA176 (i) (lt_o (i := i) (c := 0) (d := 911) rfl)).trans ha183
  have hg185 := up_n eg173 hg168 (ne_o (i := i) (c := 0) (d := 910) rfl)
  have hg186 := (hG177 (i) (lt_o (i := i) (c := 0) (d := 911) rfl) (ne_o (i := i) (c := 0) (d := 910) rfl)).trans hg185
  refine z_putF (fs' := [.ref q1, .int (zI (0)), .int (zI (-1)), .ref q19, .ref q40, .ref q61, .ref q82, .int (zI (0)), .ref q106, .ref q127, .ref q148, .ref q169, .null, .null]) C (lt_o (i := i) (c := 0) (d := 917) rfl) ha184 hg186 tyX9 tyX9_ok nmX9 rfl inA_X9 11 (by decide) q_360 rfl rfl hnm rfl rfl rfl (Nat.le_of_ble_eq_true rfl) rfl dX9_init_113 (fun g187 eg188 => ?_)
  have hg189 := up_s eg188
  refine z_aload_n C 0 dX9_init_116 rfl ?_
  refine z_new (fs := [.null]) (ci := 3) C tyX1 tyX1_ok rfl inA_X1 q_307 q_308 q_10 (fun j hj => by rcases (show j = 0 by omega) with rfl <;> rfl) (by decide) (by decide) dX9_init_117 (fun q190 ad191 g192 ea193 eg194 => ?_)
  have ha195 : zAt ad191 (i + 1 + 1 + 2 + 7 + 436 + 436 + 7 + 10 + 10 + 7) q190 := up_s ea193
  have hg196 := up_s eg194
  refine z_dup C dX9_init_120 rfl ?_
  refine z_cIN (As := []) (rest := [.ref q190, .ref a]) C (c_X1_init l D A cs tt _ _ (i + 1 + 1 + 2 + 7 + 436 + 436 + 7 + 10 + 10 + 7) q190 ha195 hg196) mi_yX1_init n_309 rfl (by decide +kernel) (by decide) (Nat.le_of_ble_eq_true rfl) (by decide) dX9_init_121 rfl (kV fun M200 ad201 g202 hq203 => ?_)
  obtain ⟨rfl, hA197, hG198, hp199⟩ := hq203
  have e8o : i + 1 + 1 + 2 + 7 + 436 + 436 + 7 + 10 + 10 + 7 = i + 917 := by omega
  have ha204 : zAt ad191 (i) (a) := up_n ea193 ha184 (ne_o (i := i) (c := 0) (d := 917) rfl)
  have ha205 : zAt ad201 (i) (a) := (hA197 (i) (lt_o (i := i) (c := 0) (d := 918) rfl)).trans ha204
  have hg206 := up_n eg194 hg189 (ne_o (i := i) (c := 0) (d := 917) rfl)
  have hg207 := (hG198 (i) (lt_o (i := i) (c := 0) (d := 918) rfl) (ne_o (i := i) (c := 0) (d := 917) rfl)).trans hg206
  refine z_putF (fs' := [.ref q1, .int (zI (0)), .int (zI (-1)), .ref q19, .ref q40, .ref q61, .ref q82, .int (zI (0)), .ref q106, .ref q127, .ref q148, .ref q169, .ref q190, .null]) C (lt_o (i := i) (c := 0) (d := 919) rfl) ha205 hg207 tyX9 tyX9_ok nmX9 rfl inA_X9 12 (by decide) q_361 rfl rfl hnm rfl rfl rfl (Nat.le_of_ble_eq_true rfl) rfl dX9_init_124 (fun g208 eg209 => ?_)
  have hg210 := up_s eg209
  refine z_aload_n C 0 dX9_init_127 rfl ?_
  refine z_new (fs := [.null, .int (zI (0)), .int (zI (0)), .int (zI (0))]) (ci := 1) C tyJ4 tyJ4_ok rfl inA_J4 q_317 q_318 q_12 (fun j hj => by rcases (show j = 0 ∨ j = 1 ∨ j = 2 ∨ j = 3 by omega) with rfl | rfl | rfl | rfl <;> rfl) (by decide) (by decide) dX9_init_128 (fun q211 ad212 g213 ea214 eg215 => ?_)
  have ha216 : zAt ad212 (i + 1 + 1 + 2 + 7 + 436 + 436 + 7 + 10 + 10 + 7 + 2) q211 := up_s ea214
  have hg217 := up_s eg215
  refine z_dup C dX9_init_131 rfl ?_
  refine z_cI (As := []) (rest := [.ref q211, .ref a]) C (c_J4_init_da8c8 l D A cs tt _ _ (i + 1 + 1 + 2 + 7 + 436 + 436 + 7 + 10 + 10 + 7 + 2) q211 ha216 hg217) mi_yJ4_init_da8c8 q_319 rfl (by decide +kernel) (by decide) (Nat.le_of_ble_eq_true rfl) (by decide) dX9_init_132 rfl (kV fun M221 ad222 g223 hq224 => ?_)
  obtain ⟨rfl, hA218, hG219, hp220⟩ := hq224
  have e9o : i + 1 + 1 + 2 + 7 + 436 + 436 + 7 + 10 + 10 + 7 + 2 = i + 919 := by omega
  have ha225 : zAt ad212 (i) (a) := up_n ea214 ha205 (ne_o (i := i) (c := 0) (d := 919) rfl)
  have ha226 : zAt ad222 (i) (a) := (hA218 (i) (lt_o (i := i) (c := 0) (d := 920) rfl)).trans ha225
  have hg227 := up_n eg215 hg210 (ne_o (i := i) (c := 0) (d := 919) rfl)
  have hg228 := (hG219 (i) (lt_o (i := i) (c := 0) (d := 920) rfl) (ne_o (i := i) (c := 0) (d := 919) rfl)).trans hg227
  refine z_putF (fs' := [.ref q1, .int (zI (0)), .int (zI (-1)), .ref q19, .ref q40, .ref q61, .ref q82, .int (zI (0)), .ref q106, .ref q127, .ref q148, .ref q169, .ref q190, .ref q211]) C (lt_o (i := i) (c := 0) (d := 921) rfl) ha226 hg228 tyX9 tyX9_ok nmX9 rfl inA_X9 13 (by decide) q_362 rfl rfl hnm rfl rfl rfl (Nat.le_of_ble_eq_true rfl) rfl dX9_init_135 (fun g229 eg230 => ?_)
  have hg231 := up_s eg230
  have ha232 : zAt ad20 (i + 1) (q1) := up_n ea22 ha6 (ne_o (i := i) (c := 1) (d := 2) rfl)
  have ha233 : zAt ad30 (i + 1) (q1) := (hA26 (i + 1) (lt_o (i := i) (c := 1) (d := 3) rfl)).trans ha232
  have ha234 : zAt ad41 (i + 1) (q1) := up_n ea43 ha233 (ne_o (i := i) (c := 1) (d := 4) rfl)
  have ha235 : zAt ad51 (i + 1) (q1) := (hA47 (i + 1) (lt_o (i := i) (c := 1) (d := 5) rfl)).trans ha234
  have ha236 : zAt ad62 (i + 1) (q1) := up_n ea64 ha235 (ne_o (i := i) (c := 1) (d := 11) rfl)
  have ha237 : zAt ad72 (i + 1) (q1) := (hA68 (i + 1) (lt_o (i := i) (c := 1) (d := 12) rfl)).trans ha236
  have ha238 : zAt ad83 (i + 1) (q1) := up_n ea85 ha237 (ne_o (i := i) (c := 1) (d := 447) rfl)
  have ha239 : zAt ad93 (i + 1) (q1) := (hA89 (i + 1) (lt_o (i := i) (c := 1) (d := 448) rfl)).trans ha238
  have ha240 : zAt ad107 (i + 1) (q1) := up_n ea109 ha239 (ne_o (i := i) (c := 1) (d := 883) rfl)
  have ha241 : zAt ad117 (i + 1) (q1) := (hA113 (i + 1) (lt_o (i := i) (c := 1) (d := 884) rfl)).trans ha240
  have ha242 : zAt ad128 (i + 1) (q1) := up_n ea130 ha241 (ne_o (i := i) (c := 1) (d := 890) rfl)
  have ha243 : zAt ad138 (i + 1) (q1) := (hA134 (i + 1) (lt_o (i := i) (c := 1) (d := 891) rfl)).trans ha242
  have ha244 : zAt ad149 (i + 1) (q1) := up_n ea151 ha243 (ne_o (i := i) (c := 1) (d := 900) rfl)
  have ha245 : zAt ad159 (i + 1) (q1) := (hA155 (i + 1) (lt_o (i := i) (c := 1) (d := 901) rfl)).trans ha244
  have ha246 : zAt ad170 (i + 1) (q1) := up_n ea172 ha245 (ne_o (i := i) (c := 1) (d := 910) rfl)
  have ha247 : zAt ad180 (i + 1) (q1) := (hA176 (i + 1) (lt_o (i := i) (c := 1) (d := 911) rfl)).trans ha246
  have ha248 : zAt ad191 (i + 1) (q1) := up_n ea193 ha247 (ne_o (i := i) (c := 1) (d := 917) rfl)
  have ha249 : zAt ad201 (i + 1) (q1) := (hA197 (i + 1) (lt_o (i := i) (c := 1) (d := 918) rfl)).trans ha248
  have ha250 : zAt ad212 (i + 1) (q1) := up_n ea214 ha249 (ne_o (i := i) (c := 1) (d := 919) rfl)
  have ha251 : zAt ad222 (i + 1) (q1) := (hA218 (i + 1) (lt_o (i := i) (c := 1) (d := 920) rfl)).trans ha250
  have ha252 : zAt ad30 (i + 1 + 1) (q19) := (hA26 (i + 1 + 1) (lt_o (i := i) (c := 2) (d := 3) rfl)).trans ha24
  have ha253 : zAt ad41 (i + 1 + 1) (q19) := up_n ea43 ha252 (ne_o (i := i) (c := 2) (d := 4) rfl)
  have ha254 : zAt ad51 (i + 1 + 1) (q19) := (hA47 (i + 1 + 1) (lt_o (i := i) (c := 2) (d := 5) rfl)).trans ha253
  have ha255 : zAt ad62 (i + 1 + 1) (q19) := up_n ea64 ha254 (ne_o (i := i) (c := 2) (d := 11) rfl)
  have ha256 : zAt ad72 (i + 1 + 1) (q19) := (hA68 (i + 1 + 1) (lt_o (i := i) (c := 2) (d := 12) rfl)).trans ha255
  have ha257 : zAt ad83 (i + 1 + 1) (q19) := up_n ea85 ha256 (ne_o (i := i) (c := 2) (d := 447) rfl)
  have ha258 : zAt ad93 (i + 1 + 1) (q19) := (hA89 (i + 1 + 1) (lt_o (i := i) (c := 2) (d := 448) rfl)).trans ha257
  have ha259 : zAt ad107 (i + 1 + 1) (q19) := up_n ea109 ha258 (ne_o (i := i) (c := 2) (d := 883) rfl)
  have ha260 : zAt ad117 (i + 1 + 1) (q19) := (hA113 (i + 1 + 1) (lt_o (i := i) (c := 2) (d := 884) rfl)).trans ha259
  have ha261 : zAt ad128 (i + 1 + 1) (q19) := up_n ea130 ha260 (ne_o (i := i) (c := 2) (d := 890) rfl)
  have ha262 : zAt ad138 (i + 1 + 1) (q19) := (hA134 (i + 1 + 1) (lt_o (i := i) (c := 2) (d := 891) rfl)).trans ha261
  have ha263 : zAt ad149 (i + 1 + 1) (q19) := up_n ea151 ha262 (ne_o (i := i) (c := 2) (d := 900) rfl)
  have ha264 : zAt ad159 (i + 1 + 1) (q19) := (hA155 (i + 1 + 1) (lt_o (i := i) (c := 2) (d := 901) rfl)).trans ha263
  have ha265 : zAt ad170 (i + 1 + 1) (q19) := up_n ea172 ha264 (ne_o (i := i) (c := 2) (d := 910) rfl)
  have ha266 : zAt ad180 (i + 1 + 1) (q19) := (hA176 (i + 1 + 1) (lt_o (i := i) (c := 2) (d := 911) rfl)).trans ha265
  have ha267 : zAt ad191 (i + 1 + 1) (q19) := up_n ea193 ha266 (ne_o (i := i) (c := 2) (d := 917) rfl)
  have ha268 : zAt ad201 (i + 1 + 1) (q19) := (hA197 (i + 1 + 1) (lt_o (i := i) (c := 2) (d := 918) rfl)).trans ha267
  have ha269 : zAt ad212 (i + 1 + 1) (q19) := up_n ea214 ha268 (ne_o (i := i) (c := 2) (d := 919) rfl)
  have ha270 : zAt ad222 (i + 1 + 1) (q19) := (hA218 (i + 1 + 1) (lt_o (i := i) (c := 2) (d := 920) rfl)).trans ha269
  have ha271 : zAt ad51 (i + 1 + 1 + 2) (q40) := (hA47 (i + 1 + 1 + 2) (lt_o (i := i) (c := 4) (d := 5) rfl)).trans ha45
  have ha272 : zAt ad62 (i + 1 + 1 + 2) (q40) := up_n ea64 ha271 (ne_o (i := i) (c := 4) (d := 11) rfl)
  have ha273 : zAt ad72 (i + 1 + 1 + 2) (q40) := (hA68 (i + 1 + 1 + 2) (lt_o (i := i) (c := 4) (d := 12) rfl)).trans ha272
  have ha274 : zAt ad83 (i + 1 + 1 + 2) (q40) := up_n ea85 ha273 (ne_o (i := i) (c := 4) (d := 447) rfl)
  have ha275 : zAt ad93 (i + 1 + 1 + 2) (q40) := (hA89 (i + 1 + 1 + 2) (lt_o (i := i) (c := 4) (d := 448) rfl)).trans ha274
  have ha276 : zAt ad107 (i + 1 + 1 + 2) (q40) := up_n ea109 ha275 (ne_o (i := i) (c := 4) (d := 883) rfl)
  have ha277 : zAt ad117 (i + 1 + 1 + 2) (q40) := (hA113 (i + 1 + 1 + 2) (lt_o (i := i) (c := 4) (d := 884) rfl)).trans ha276
  have ha278 : zAt ad128 (i + 1 + 1 + 2) (q40) := up_n ea130 ha277 (ne_o (i := i) (c := 4) (d := 890) rfl)
  have ha279 : zAt ad138 (i + 1 + 1 + 2) (q40) := (hA134 (i + 1 + 1 + 2) (lt_o (i := i) (c := 4) (d := 891) rfl)).trans ha278
  have ha280 : zAt ad149 (i + 1 + 1 + 2) (q40) := up_n ea151 ha279 (ne_o (i := i) (c := 4) (d := 900) rfl)
  have ha281 : zAt ad159 (i + 1 + 1 + 2) (q40) := (hA155 (i + 1 + 1 + 2) (lt_o (i := i) (c := 4) (d := 901) rfl)).trans ha280
  have ha282 : zAt ad170 (i + 1 + 1 + 2) (q40) := up_n ea172 ha281 (ne_o (i := i) (c := 4) (d := 910) rfl)
  have ha283 : zAt ad180 (i + 1 + 1 + 2) (q40) := (hA176 (i + 1 + 1 + 2) (lt_o (i := i) (c := 4) (d := 911) rfl)).trans ha282
  have ha284 : zAt ad191 (i + 1 + 1 + 2) (q40) := up_n ea193 ha283 (ne_o (i := i) (c := 4) (d := 917) rfl)
  have ha285 : zAt ad201 (i + 1 + 1 + 2) (q40) := (hA197 (i + 1 + 1 + 2) (lt_o (i := i) (c := 4) (d := 918) rfl)).trans ha284
  have ha286 : zAt ad212 (i + 1 + 1 + 2) (q40) := up_n ea214 ha285 (ne_o (i := i) (c := 4) (d := 919) rfl)
  have ha287 : zAt ad222 (i + 1 + 1 + 2) (q40) := (hA218 (i + 1 + 1 + 2) (lt_o (i := i) (c := 4) (d := 920) rfl)).trans ha286
  have ha288 : zAt ad72 (i + 1 + 1 + 2 + 7) (q61) := (hA68 (i + 1 + 1 + 2 + 7) (lt_o (i := i) (c := 11) (d := 12) rfl)).trans ha66
  have ha289 : zAt ad83 (i + 1 + 1 + 2 + 7) (q61) := up_n ea85 ha288 (ne_o (i := i) (c := 11) (d := 447) rfl)
  have ha290 : zAt ad93 (i + 1 + 1 + 2 + 7) (q61) := (hA89 (i + 1 + 1 + 2 + 7) (lt_o (i := i) (c := 11) (d := 448) rfl)).trans ha289
  have ha291 : zAt ad107 (i + 1 + 1 + 2 + 7) (q61) := up_n ea109 ha290 (ne_o (i := i) (c := 11) (d := 883) rfl)
  have ha292 : zAt ad117 (i + 1 + 1 + 2 + 7) (q61) := (hA113 (i + 1 + 1 + 2 + 7) (lt_o (i := i) (c := 11) (d := 884) rfl)).trans ha291
  have ha293 : zAt ad128 (i + 1 + 1 + 2 + 7) (q61) := up_n ea130 ha292 (ne_o (i := i) (c := 11) (d := 890) rfl)
  have ha294 : zAt ad138 (i + 1 + 1 + 2 + 7) (q61) := (hA134 (i + 1 + 1 + 2 + 7) (lt_o (i := i) (c := 11) (d := 891) rfl)).trans ha293
  have ha295 : zAt ad149 (i + 1 + 1 + 2 + 7) (q61) := up_n ea151 ha294 (ne_o (i := i) (c := 11) (d := 900) rfl)
  have ha296 : zAt ad159 (i + 1 + 1 + 2 + 7) (q61) := (hA155 (i + 1 + 1 + 2 + 7) (lt_o (i := i) (c := 11) (d := 901) rfl)).trans ha295
  have ha297 : zAt ad170 (i + 1 + 1 + 2 + 7) (q61) := up_n ea172 ha296 (ne_o (i := i) (c := 11) (d := 910) rfl)
  have ha298 : zAt ad180 (i + 1 + 1 + 2 + 7) (q61) := (hA176 (i + 1 + 1 + 2 + 7) (lt_o (i := i) (c := 11) (d := 911) rfl)).trans ha297
  have ha299 : zAt ad191 (i + 1 + 1 + 2 + 7) (q61) := up_n ea193 ha298 (ne_o (i := i) (c := 11) (d := 917) rfl)
  have ha300 : zAt ad201 (i + 1 + 1 + 2 + 7) (q61) := (hA197 (i + 1 + 1 + 2 + 7) (lt_o (i := i) (c := 11) (d := 918) rfl)).trans ha299
  have ha301 : zAt ad212 (i + 1 + 1 + 2 + 7) (q61) := up_n ea214 ha300 (ne_o (i := i) (c := 11) (d := 919) rfl)
  have ha302 : zAt ad222 (i + 1 + 1 + 2 + 7) (q61) := (hA218 (i + 1 + 1 + 2 + 7) (lt_o (i := i) (c := 11) (d := 920) rfl)).trans ha301
  have ha303 : zAt ad93 (i + 1 + 1 + 2 + 7 + 436) (q82) := (hA89 (i + 1 + 1 + 2 + 7 + 436) (lt_o (i := i) (c := 447) (d := 448) rfl)).trans ha87
  have ha304 : zAt ad107 (i + 1 + 1 + 2 + 7 + 436) (q82) := up_n ea109 ha303 (ne_o (i := i) (c := 447) (d := 883) rfl)
  have ha305 : zAt ad117 (i + 1 + 1 + 2 + 7 + 436) (q82) := (hA113 (i + 1 + 1 + 2 + 7 + 436) (lt_o (i := i) (c := 447) (d := 884) rfl)).trans ha304
  have ha306 : zAt ad128 (i + 1 + 1 + 2 + 7 + 436) (q82) := up_n ea130 ha305 (ne_o (i := i) (c := 447) (d := 890) rfl)
  have ha307 : zAt ad138 (i + 1 + 1 + 2 + 7 + 436) (q82) := (hA134 (i + 1 + 1 + 2 + 7 + 436) (lt_o (i := i) (c := 447) (d := 891) rfl)).trans ha306
  have ha308 : zAt ad149 (i + 1 + 1 + 2 + 7 + 436) (q82) := up_n ea151 ha307 (ne_o (i := i) (c := 447) (d := 900) rfl)
  have ha309 : zAt ad159 (i + 1 + 1 + 2 + 7 + 436) (q82) := (hA155 (i + 1 + 1 + 2 + 7 + 436) (lt_o (i := i) (c := 447) (d := 901) rfl)).trans ha308
  have ha310 : zAt ad170 (i + 1 + 1 + 2 + 7 + 436) (q82) := up_n ea172 ha309 (ne_o (i := i) (c := 447) (d := 910) rfl)
  have ha311 : zAt ad180 (i + 1 + 1 + 2 + 7 + 436) (q82) := (hA176 (i + 1 + 1 + 2 + 7 + 436) (lt_o (i := i) (c := 447) (d := 911) rfl)).trans ha310
  have ha312 : zAt ad191 (i + 1 + 1 + 2 + 7 + 436) (q82) := up_n ea193 ha311 (ne_o (i := i) (c := 447) (d := 917) rfl)
  have ha313 : zAt ad201 (i + 1 + 1 + 2 + 7 + 436) (q82) := (hA197 (i + 1 + 1 + 2 + 7 + 436) (lt_o (i := i) (c := 447) (d := 918) rfl)).trans ha312
  have ha314 : zAt ad212 (i + 1 + 1 + 2 + 7 + 436) (q82) := up_n ea214 ha313 (ne_o (i := i) (c := 447) (d := 919) rfl)
  have ha315 : zAt ad222 (i + 1 + 1 + 2 + 7 + 436) (q82) := (hA218 (i + 1 + 1 + 2 + 7 + 436) (lt_o (i := i) (c := 447) (d := 920) rfl)).trans ha314
  have ha316 : zAt ad117 (i + 1 + 1 + 2 + 7 + 436 + 436) (q106) := (hA113 (i + 1 + 1 + 2 + 7 + 436 + 436) (lt_o (i := i) (c := 883) (d := 884) rfl)).trans ha111
  have ha317 : zAt ad128 (i + 1 + 1 + 2 + 7 + 436 + 436) (q106) := up_n ea130 ha316 (ne_o (i := i) (c := 883) (d := 890) rfl)
  have ha318 : zAt ad138 (i + 1 + 1 + 2 + 7 + 436 + 436) (q106) := (hA134 (i + 1 + 1 + 2 + 7 + 436 + 436) (lt_o (i := i) (c := 883) (d := 891) rfl)).trans ha317
  have ha319 : zAt ad149 (i + 1 + 1 + 2 + 7 + 436 + 436) (q106) := up_n ea151 ha318 (ne_o (i := i) (c := 883) (d := 900) rfl)
  have ha320 : zAt ad159 (i + 1 + 1 + 2 + 7 + 436 + 436) (q106) := (hA155 (i + 1 + 1 + 2 + 7 + 436 + 436) (lt_o (i := i) (c := 883) (d := 901) rfl)).trans ha319
  have ha321 : zAt ad170 (i + 1 + 1 + 2 + 7 + 436 + 436) (q106) := up_n ea172 ha320 (ne_o (i := i) (c := 883) (d := 910) rfl)
  have ha322 : zAt ad180 (i + 1 + 1 + 2 + 7 + 436 + 436) (q106) := (hA176 (i + 1 + 1 + 2 + 7 + 436 + 436) (lt_o (i := i) (c := 883) (d := 911) rfl)).trans ha321
  have ha323 : zAt ad191 (i + 1 + 1 + 2 + 7 + 436 + 436) (q106) := up_n ea193 ha322 (ne_o (i := i) (c := 883) (d := 917) rfl)
  have ha324 : zAt ad201 (i + 1 + 1 + 2 + 7 + 436 + 436) (q106) := (hA197 (i + 1 + 1 + 2 + 7 + 436 + 436) (lt_o (i := i) (c := 883) (d := 918) rfl)).trans ha323
  have ha325 : zAt ad212 (i + 1 + 1 + 2 + 7 + 436 + 436) (q106) := up_n ea214 ha324 (ne_o (i := i) (c := 883) (d := 919) rfl)
  have ha326 : zAt ad222 (i + 1 + 1 + 2 + 7 + 436 + 436) (q106) := (hA218 (i + 1 + 1 + 2 + 7 + 436 + 436) (lt_o (i := i) (c := 883) (d := 920) rfl)).trans ha325
  have ha327 : zAt ad138 (i + 1 + 1 + 2 + 7 + 436 + 436 + 7) (q127) := (hA134 (i + 1 + 1 + 2 + 7 + 436 + 436 + 7) (lt_o (i := i) (c := 890) (d := 891) rfl)).trans ha132
  have ha328 : zAt ad149 (i + 1 + 1 + 2 + 7 + 436 + 436 + 7) (q127) := up_n ea151 ha327 (ne_o (i := i) (c := 890) (d := 900) rfl)
  have ha329 : zAt ad159 (i + 1 + 1 + 2 + 7 + 436 + 436 + 7) (q127) := (hA155 (i + 1 + 1 + 2 + 7 + 436 + 436 + 7) (lt_o (i := i) (c := 890) (d := 901) rfl)).trans ha328
  have ha330 : zAt ad170 (i + 1 + 1 + 2 + 7 + 436 + 436 + 7) (q127) := up_n ea172 ha329 (ne_o (i := i) (c := 890) (d := 910) rfl)
  have ha331 : zAt ad180 (i + 1 + 1 + 2 + 7 + 436 + 436 + 7) (q127) := (hA176 (i + 1 + 1 + 2 + 7 + 436 + 436 + 7) (lt_o (i := i) (c := 890) (d := 911) rfl)).trans ha330
  have ha332 : zAt ad191 (i + 1 + 1 + 2 + 7 + 436 + 436 + 7) (q127) := up_n ea193 ha331 (ne_o (i := i) (c := 890) (d := 917) rfl)
  have ha333 : zAt ad201 (i + 1 + 1 + 2 + 7 + 436 + 436 + 7) (q127) := (hA197 (i + 1 + 1 + 2 + 7 + 436 + 436 + 7) (lt_o (i := i) (c := 890) (d := 918) rfl)).trans ha332
  have ha334 : zAt ad212 (i + 1 + 1 + 2 + 7 + 436 + 436 + 7) (q127) := up_n ea214 ha333 (ne_o (i := i) (c := 890) (d := 919) rfl)
  have ha335 : zAt ad222 (i + 1 + 1 + 2 + 7 + 436 + 436 + 7) (q127) := (hA218 (i + 1 + 1 + 2 + 7 + 436 + 436 + 7) (lt_o (i := i) (c := 890) (d := 920) rfl)).trans ha334
  have ha336 : zAt ad159 (i + 1 + 1 + 2 + 7 + 436 + 436 + 7 + 10) (q148) := (hA155 (i + 1 + 1 + 2 + 7 + 436 + 436 + 7 + 10) (lt_o (i := i) (c := 900) (d := 901) rfl)).trans ha153
  have ha337 : zAt ad170 (i + 1 + 1 + 2 + 7 + 436 + 436 + 7 + 10) (q148) := up_n ea172 ha336 (ne_o (i := i) (c := 900) (d := 910) rfl)
  have ha338 : zAt ad180 (i + 1 + 1 + 2 + 7 + 436 + 436 + 7 + 10) (q148) := (hA176 (i + 1 + 1 + 2 + 7 + 436 + 436 + 7 + 10) (lt_o (i := i) (c := 900) (d := 911) rfl)).trans ha337
  have ha339 : zAt ad191 (i + 1 + 1 + 2 + 7 + 436 + 436 + 7 + 10) (q148) := up_n ea193 ha338 (ne_o (i := i) (c := 900) (d := 917) rfl)
  have ha340 : zAt ad201 (i + 1 + 1 + 2 + 7 + 436 + 436 + 7 + 10) (q148) := (hA197 (i + 1 + 1 + 2 + 7 + 436 + 436 + 7 + 10) (lt_o (i := i) (c := 900) (d := 918) rfl)).trans ha339
  have ha341 : zAt ad212 (i + 1 + 1 + 2 + 7 + 436 + 436 + 7 + 10) (q148) := up_n ea214 ha340 (ne_o (i := i) (c := 900) (d := 919) rfl)
  have ha342 : zAt ad222 (i + 1 + 1 + 2 + 7 + 436 + 436 + 7 + 10) (q148) := (hA218 (i + 1 + 1 + 2 + 7 + 436 + 436 + 7 + 10) (lt_o (i := i) (c := 900) (d := 920) rfl)).trans ha341
  have ha343 : zAt ad180 (i + 1 + 1 + 2 + 7 + 436 + 436 + 7 + 10 + 10) (q169) := (hA176 (i + 1 + 1 + 2 + 7 + 436 + 436 + 7 + 10 + 10) (lt_o (i := i) (c := 910) (d := 911) rfl)).trans ha174
  have ha344 : zAt ad191 (i + 1 + 1 + 2 + 7 + 436 + 436 + 7 + 10 + 10) (q169) := up_n ea193 ha343 (ne_o (i := i) (c := 910) (d := 917) rfl)
  have ha345 : zAt ad201 (i + 1 + 1 + 2 + 7 + 436 + 436 + 7 + 10 + 10) (q169) := (hA197 (i + 1 + 1 + 2 + 7 + 436 + 436 + 7 + 10 + 10) (lt_o (i := i) (c := 910) (d := 918) rfl)).trans ha344
  have ha346 : zAt ad212 (i + 1 + 1 + 2 + 7 + 436 + 436 + 7 + 10 + 10) (q169) := up_n ea214 ha345 (ne_o (i := i) (c := 910) (d := 919) rfl)
  have ha347 : zAt ad222 (i + 1 + 1 + 2 + 7 + 436 + 436 + 7 + 10 + 10) (q169) := (hA218 (i + 1 + 1 + 2 + 7 + 436 + 436 + 7 + 10 + 10) (lt_o (i := i) (c := 910) (d := 920) rfl)).trans ha346
  have ha348 : zAt ad201 (i + 1 + 1 + 2 + 7 + 436 + 436 + 7 + 10 + 10 + 7) (q190) := (hA197 (i + 1 + 1 + 2 + 7 + 436 + 436 + 7 + 10 + 10 + 7) (lt_o (i := i) (c := 917) (d := 918) rfl)).trans ha195
  have ha349 : zAt ad212 (i + 1 + 1 + 2 + 7 + 436 + 436 + 7 + 10 + 10 + 7) (q190) := up_n ea214 ha348 (ne_o (i := i) (c := 917) (d := 919) rfl)
  have ha350 : zAt ad222 (i + 1 + 1 + 2 + 7 + 436 + 436 + 7 + 10 + 10 + 7) (q190) := (hA218 (i + 1 + 1 + 2 + 7 + 436 + 436 + 7 + 10 + 10 + 7) (lt_o (i := i) (c := 917) (d := 920) rfl)).trans ha349
  have ha351 : zAt ad222 (i + 1 + 1 + 2 + 7 + 436 + 436 + 7 + 10 + 10 + 7 + 2) (q211) := (hA218 (i + 1 + 1 + 2 + 7 + 436 + 436 + 7 + 10 + 10 + 7 + 2) (lt_o (i := i) (c := 919) (d := 920) rfl)).trans ha216
  have hg352 := up_n eg11 hg7 (ne_o (i := i) (c := 1) (d := 0) rfl)
  have hg353 := up_n eg14 hg352 (ne_o (i := i) (c := 1) (d := 0) rfl)
  have hg354 := up_n eg17 hg353 (ne_o (i := i) (c := 1) (d := 0) rfl)
  have hg355 := up_n eg23 hg354 (ne_o (i := i) (c := 1) (d := 2) rfl)
  have hg356 := (hG27 (i + 1) (lt_o (i := i) (c := 1) (d := 3) rfl) (ne_o (i := i) (c := 1) (d := 2) rfl)).trans hg355
  have hg357 := up_n eg38 hg356 (ne_o (i := i) (c := 1) (d := 0) rfl)
  have hg358 := up_n eg44 hg357 (ne_o (i := i) (c := 1) (d := 4) rfl)
  have hg359 := (hG48 (i + 1) (lt_o (i := i) (c := 1) (d := 5) rfl) (ne_o (i := i) (c := 1) (d := 4) rfl)).trans hg358
  have hg360 := up_n eg59 hg359 (ne_o (i := i) (c := 1) (d := 0) rfl)
  have hg361 := up_n eg65 hg360 (ne_o (i := i) (c := 1) (d := 11) rfl)
  have hg362 := (hG69 (i + 1) (lt_o (i := i) (c := 1) (d := 12) rfl) (ne_o (i := i) (c := 1) (d := 11) rfl)).trans hg361
  have hg363 := up_n eg80 hg362 (ne_o (i := i) (c := 1) (d := 0) rfl)
  have hg364 := up_n eg86 hg363 (ne_o (i := i) (c := 1) (d := 447) rfl)
  have hg365 := (hG90 (i + 1) (lt_o (i := i) (c := 1) (d := 448) rfl) (ne_o (i := i) (c := 1) (d := 447) rfl)).trans hg364
  have hg366 := up_n eg101 hg365 (ne_o (i := i) (c := 1) (d := 0) rfl)
  have hg367 := up_n eg104 hg366 (ne_o (i := i) (c := 1) (d := 0) rfl)
  have hg368 := up_n eg110 hg367 (ne_o (i := i) (c := 1) (d := 883) rfl)
  have hg369 := (hG114 (i + 1) (lt_o (i := i) (c := 1) (d := 884) rfl) (ne_o (i := i) (c := 1) (d := 883) rfl)).trans hg368
  have hg370 := up_n eg125 hg369 (ne_o (i := i) (c := 1) (d := 0) rfl)
  have hg371 := up_n eg131 hg370 (ne_o (i := i) (c := 1) (d := 890) rfl)
  have hg372 := (hG135 (i + 1) (lt_o (i := i) (c := 1) (d := 891) rfl) (ne_o (i := i) (c := 1) (d := 890) rfl)).trans hg371
  have hg373 := up_n eg146 hg372 (ne_o (i := i) (c := 1) (d := 0) rfl)
  have hg374 := up_n eg152 hg373 (ne_o (i := i) (c := 1) (d := 900) rfl)
  have hg375 := (hG156 (i + 1) (lt_o (i := i) (c := 1) (d := 901) rfl) (ne_o (i := i) (c := 1) (d := 900) rfl)).trans hg374
  have hg376 := up_n eg167 hg375 (ne_o (i := i) (c := 1) (d := 0) rfl)
  have hg377 := up_n eg173 hg376 (ne_o (i := i) (c := 1) (d := 910) rfl)
  have hg378 := (hG177 (i + 1) (lt_o (i := i) (c := 1) (d := 911) rfl) (ne_o (i := i) (c := 1) (d := 910) rfl)).trans hg377
  have hg379 := up_n eg188 hg378 (ne_o (i := i) (c := 1) (d := 0) rfl)
  have hg380 := up_n eg194 hg379 (ne_o (i := i) (c := 1) (d := 917) rfl)
  have hg381 := (hG198 (i + 1) (lt_o (i := i) (c := 1) (d := 918) rfl) (ne_o (i := i) (c := 1) (d := 917) rfl)).trans hg380
  have hg382 := up_n eg209 hg381 (ne_o (i := i) (c := 1) (d := 0) rfl)
  have hg383 := up_n eg215 hg382 (ne_o (i := i) (c := 1) (d := 919) rfl)
  have hg384 := (hG219 (i + 1) (lt_o (i := i) (c := 1) (d := 920) rfl) (ne_o (i := i) (c := 1) (d := 919) rfl)).trans hg383
  have hg385 := up_n eg230 hg384 (ne_o (i := i) (c := 1) (d := 0) rfl)
  have hfin : g229 i = oC 11 [.ref (ad222 (i + 1)), .int (zI 0), .int (zI (-1)), .ref (ad222 (i + 2)), .ref (ad222 (i + 4)), .ref (ad222 (i + 11)), .ref (ad222 (i + 447)), .int (zI 0), .ref (ad222 (i + 883)), .ref (ad222 (i + 890)), .ref (ad222 (i + 900)), .ref (ad222 (i + 910)), .ref (ad222 (i + 917)), .ref (ad222 (i + 919))] := by rw [← (show ad222 (i + 1) = q1 from ha251), ← (show ad222 (i + 1 + 1) = q19 from ha270), ← (show ad222 (i + 1 + 1 + 2) = q40 from ha287), ← (show ad222 (i + 1 + 1 + 2 + 7) = q61 from ha302), ← (show ad222 (i + 1 + 1 + 2 + 7 + 436) = q82 from ha315), ← (show ad222 (i + 1 + 1 + 2 + 7 + 436 + 436) = q106 from ha326), ← (show ad222 (i + 1 + 1 + 2 + 7 + 436 + 436 + 7) = q127 from ha335), ← (show ad222 (i + 1 + 1 + 2 + 7 + 436 + 436 + 7 + 10) = q148 from ha342), ← (show ad222 (i + 1 + 1 + 2 + 7 + 436 + 436 + 7 + 10 + 10) = q169 from ha347), ← (show ad222 (i + 1 + 1 + 2 + 7 + 436 + 436 + 7 + 10 + 10 + 7) = q190 from ha350), ← (show ad222 (i + 1 + 1 + 2 + 7 + 436 + 436 + 7 + 10 + 10 + 7 + 2) = q211 from ha351)] at hg231; exact hg231
  have hp386 := isRdr.mv (ad' := ad222) (g' := g229) (fun j h1 h2 => by rw [hA218 _ (by omega)]; rw [ea214, va_up_ne _ _ (by omega)]; rw [hA197 _ (by omega)]; rw [ea193, va_up_ne _ _ (by omega)]; rw [hA176 _ (by omega)]; rw [ea172, va_up_ne _ _ (by omega)]; rw [hA155 _ (by omega)]; rw [ea151, va_up_ne _ _ (by omega)]; rw [hA134 _ (by omega)]; rw [ea130, va_up_ne _ _ (by omega)]; rw [hA113 _ (by omega)]; rw [ea109, va_up_ne _ _ (by omega)]; rw [hA89 _ (by omega)]; rw [ea85, va_up_ne _ _ (by omega)]; rw [hA68 _ (by omega)]; rw [ea64, va_up_ne _ _ (by omega)]; rw [hA47 _ (by omega)]; rw [ea43, va_up_ne _ _ (by omega)]) (fun j h1 h2 => by rw [eg230, va_up_ne _ _ (by omega)]; rw [hG219 _ (by omega) (by omega)]; rw [eg215, va_up_ne _ _ (by omega)]; rw [eg209, va_up_ne _ _ (by omega)]; rw [hG198 _ (by omega) (by omega)]; rw [eg194, va_up_ne _ _ (by omega)]; rw [eg188, va_up_ne _ _ (by omega)]; rw [hG177 _ (by omega) (by omega)]; rw [eg173, va_up_ne _ _ (by omega)]; rw [eg167, va_up_ne _ _ (by omega)]; rw [hG156 _ (by omega) (by omega)]; rw [eg152, va_up_ne _ _ (by omega)]; rw [eg146, va_up_ne _ _ (by omega)]; rw [hG135 _ (by omega) (by omega)]; rw [eg131, va_up_ne _ _ (by omega)]; rw [eg125, va_up_ne _ _ (by omega)]; rw [hG114 _ (by omega) (by omega)]; rw [eg110, va_up_ne _ _ (by omega)]; rw [eg104, va_up_ne _ _ (by omega)]; rw [eg101, va_up_ne _ _ (by omega)]; rw [hG90 _ (by omega) (by omega)]; rw [eg86, va_up_ne _ _ (by omega)]; rw [eg80, va_up_ne _ _ (by omega)]; rw [hG69 _ (by omega) (by omega)]; rw [eg65, va_up_ne _ _ (by omega)]; rw [eg59, va_up_ne _ _ (by omega)]; rw [hG48 _ (by omega) (by omega)]; rw [eg44, va_up_ne _ _ (by omega)]; rw [eg38, va_up_ne _ _ (by omega)]) hp28
  have hp387 := isPlan.mv (ad' := ad222) (g' := g229) (fun j h1 h2 => by rw [hA218 _ (by omega)]; rw [ea214, va_up_ne _ _ (by omega)]; rw [hA197 _ (by omega)]; rw [ea193, va_up_ne _ _ (by omega)]; rw [hA176 _ (by omega)]; rw [ea172, va_up_ne _ _ (by omega)]; rw [hA155 _ (by omega)]; rw [ea151, va_up_ne _ _ (by omega)]; rw [hA134 _ (by omega)]; rw [ea130, va_up_ne _ _ (by omega)]; rw [hA113 _ (by omega)]; rw [ea109, va_up_ne _ _ (by omega)]; rw [hA89 _ (by omega)]; rw [ea85, va_up_ne _ _ (by omega)]; rw [hA68 _ (by omega)]; rw [ea64, va_up_ne _ _ (by omega)]) (fun j h1 h2 => by rw [eg230, va_up_ne _ _ (by omega)]; rw [hG219 _ (by omega) (by omega)]; rw [eg215, va_up_ne _ _ (by omega)]; rw [eg209, va_up_ne _ _ (by omega)]; rw [hG198 _ (by omega) (by omega)]; rw [eg194, va_up_ne _ _ (by omega)]; rw [eg188, va_up_ne _ _ (by omega)]; rw [hG177 _ (by omega) (by omega)]; rw [eg173, va_up_ne _ _ (by omega)]; rw [eg167, va_up_ne _ _ (by omega)]; rw [hG156 _ (by omega) (by omega)]; rw [eg152, va_up_ne _ _ (by omega)]; rw [eg146, va_up_ne _ _ (by omega)]; rw [hG135 _ (by omega) (by omega)]; rw [eg131, va_up_ne _ _ (by omega)]; rw [eg125, va_up_ne _ _ (by omega)]; rw [hG114 _ (by omega) (by omega)]; rw [eg110, va_up_ne _ _ (by omega)]; rw [eg104, va_up_ne _ _ (by omega)]; rw [eg101, va_up_ne _ _ (by omega)]; rw [hG90 _ (by omega) (by omega)]; rw [eg86, va_up_ne _ _ (by omega)]; rw [eg80, va_up_ne _ _ (by omega)]; rw [hG69 _ (by omega) (by omega)]; rw [eg65, va_up_ne _ _ (by omega)]; rw [eg59, va_up_ne _ _ (by omega)]) hp49
  have hp388 := isSt.mv (ad' := ad222) (g' := g229) (fun j h1 h2 => by rw [hA218 _ (by omega)]; rw [ea214, va_up_ne _ _ (by omega)]; rw [hA197 _ (by omega)]; rw [ea193, va_up_ne _ _ (by omega)]; rw [hA176 _ (by omega)]; rw [ea172, va_up_ne _ _ (by omega)]; rw [hA155 _ (by omega)]; rw [ea151, va_up_ne _ _ (by omega)]; rw [hA134 _ (by omega)]; rw [ea130, va_up_ne _ _ (by omega)]; rw [hA113 _ (by omega)]; rw [ea109, va_up_ne _ _ (by omega)]; rw [hA89 _ (by omega)]; rw [ea85, va_up_ne _ _ (by omega)]) (fun j h1 h2 => by rw [eg230, va_up_ne _ _ (by omega)]; rw [hG219 _ (by omega) (by omega)]; rw [eg215, va_up_ne _ _ (by omega)]; rw [eg209, va_up_ne _ _ (by omega)]; rw [hG198 _ (by omega) (by omega)]; rw [eg194, va_up_ne _ _ (by omega)]; rw [eg188, va_up_ne _ _ (by omega)]; rw [hG177 _ (by omega) (by omega)]; rw [eg173, va_up_ne _ _ (by omega)]; rw [eg167, va_up_ne _ _ (by omega)]; rw [hG156 _ (by omega) (by omega)]; rw [eg152, va_up_ne _ _ (by omega)]; rw [eg146, va_up_ne _ _ (by omega)]; rw [hG135 _ (by omega) (by omega)]; rw [eg131, va_up_ne _ _ (by omega)]; rw [eg125, va_up_ne _ _ (by omega)]; rw [hG114 _ (by omega) (by omega)]; rw [eg110, va_up_ne _ _ (by omega)]; rw [eg104, va_up_ne _ _ (by omega)]; rw [eg101, va_up_ne _ _ (by omega)]; rw [hG90 _ (by omega) (by omega)]; rw [eg86, va_up_ne _ _ (by omega)]; rw [eg80, va_up_ne _ _ (by omega)]) hp70
  have hp389 := isSt.mv (ad' := ad222) (g' := g229) (fun j h1 h2 => by rw [hA218 _ (by omega)]; rw [ea214, va_up_ne _ _ (by omega)]; rw [hA197 _ (by omega)]; rw [ea193, va_up_ne _ _ (by omega)]; rw [hA176 _ (by omega)]; rw [ea172, va_up_ne _ _ (by omega)]; rw [hA155 _ (by omega)]; rw [ea151, va_up_ne _ _ (by omega)]; rw [hA134 _ (by omega)]; rw [ea130, va_up_ne _ _ (by omega)]; rw [hA113 _ (by omega)]; rw [ea109, va_up_ne _ _ (by omega)]) (fun j h1 h2 => by rw [eg230, va_up_ne _ _ (by omega)]; rw [hG219 _ (by omega) (by omega)]; rw [eg215, va_up_ne _ _ (by omega)]; rw [eg209, va_up_ne _ _ (by omega)]; rw [hG198 _ (by omega) (by omega)]; rw [eg194, va_up_ne _ _ (by omega)]; rw [eg188, va_up_ne _ _ (by omega)]; rw [hG177 _ (by omega) (by omega)]; rw [eg173, va_up_ne _ _ (by omega)]; rw [eg167, va_up_ne _ _ (by omega)]; rw [hG156 _ (by omega) (by omega)]; rw [eg152, va_up_ne _ _ (by omega)]; rw [eg146, va_up_ne _ _ (by omega)]; rw [hG135 _ (by omega) (by omega)]; rw [eg131, va_up_ne _ _ (by omega)]; rw [eg125, va_up_ne _ _ (by omega)]; rw [hG114 _ (by omega) (by omega)]; rw [eg110, va_up_ne _ _ (by omega)]; rw [eg104, va_up_ne _ _ (by omega)]; rw [eg101, va_up_ne _ _ (by omega)]) hp91
  have hp390 := isPlan.mv (ad' := ad222) (g' := g229) (fun j h1 h2 => by rw [hA218 _ (by omega)]; rw [ea214, va_up_ne _ _ (by omega)]; rw [hA197 _ (by omega)]; rw [ea193, va_up_ne _ _ (by omega)]; rw [hA176 _ (by omega)]; rw [ea172, va_up_ne _ _ (by omega)]; rw [hA155 _ (by omega)]; rw [ea151, va_up_ne _ _ (by omega)]; rw [hA134 _ (by omega)]; rw [ea130, va_up_ne _ _ (by omega)]) (fun j h1 h2 => by rw [eg230, va_up_ne _ _ (by omega)]; rw [hG219 _ (by omega) (by omega)]; rw [eg215, va_up_ne _ _ (by omega)]; rw [eg209, va_up_ne _ _ (by omega)]; rw [hG198 _ (by omega) (by omega)]; rw [eg194, va_up_ne _ _ (by omega)]; rw [eg188, va_up_ne _ _ (by omega)]; rw [hG177 _ (by omega) (by omega)]; rw [eg173, va_up_ne _ _ (by omega)]; rw [eg167, va_up_ne _ _ (by omega)]; rw [hG156 _ (by omega) (by omega)]; rw [eg152, va_up_ne _ _ (by omega)]; rw [eg146, va_up_ne _ _ (by omega)]; rw [hG135 _ (by omega) (by omega)]; rw [eg131, va_up_ne _ _ (by omega)]; rw [eg125, va_up_ne _ _ (by omega)]) hp115
  have hp391 := isWorld.mv (ad' := ad222) (g' := g229) (fun j h1 h2 => by rw [hA218 _ (by omega)]; rw [ea214, va_up_ne _ _ (by omega)]; rw [hA197 _ (by omega)]; rw [ea193, va_up_ne _ _ (by omega)]; rw [hA176 _ (by omega)]; rw [ea172, va_up_ne _ _ (by omega)]; rw [hA155 _ (by omega)]; rw [ea151, va_up_ne _ _ (by omega)]) (fun j h1 h2 => by rw [eg230, va_up_ne _ _ (by omega)]; rw [hG219 _ (by omega) (by omega)]; rw [eg215, va_up_ne _ _ (by omega)]; rw [eg209, va_up_ne _ _ (by omega)]; rw [hG198 _ (by omega) (by omega)]; rw [eg194, va_up_ne _ _ (by omega)]; rw [eg188, va_up_ne _ _ (by omega)]; rw [hG177 _ (by omega) (by omega)]; rw [eg173, va_up_ne _ _ (by omega)]; rw [eg167, va_up_ne _ _ (by omega)]; rw [hG156 _ (by omega) (by omega)]; rw [eg152, va_up_ne _ _ (by omega)]; rw [eg146, va_up_ne _ _ (by omega)]) hp136
  have hp392 := isWorld.mv (ad' := ad222) (g' := g229) (fun j h1 h2 => by rw [hA218 _ (by omega)]; rw [ea214, va_up_ne _ _ (by omega)]; rw [hA197 _ (by omega)]; rw [ea193, va_up_ne _ _ (by omega)]; rw [hA176 _ (by omega)]; rw [ea172, va_up_ne _ _ (by omega)]) (fun j h1 h2 => by rw [eg230, va_up_ne _ _ (by omega)]; rw [hG219 _ (by omega) (by omega)]; rw [eg215, va_up_ne _ _ (by omega)]; rw [eg209, va_up_ne _ _ (by omega)]; rw [hG198 _ (by omega) (by omega)]; rw [eg194, va_up_ne _ _ (by omega)]; rw [eg188, va_up_ne _ _ (by omega)]; rw [hG177 _ (by omega) (by omega)]; rw [eg173, va_up_ne _ _ (by omega)]; rw [eg167, va_up_ne _ _ (by omega)]) hp157
  have hp393 := isGss.mv (ad' := ad222) (g' := g229) (fun j h1 h2 => by rw [hA218 _ (by omega)]; rw [ea214, va_up_ne _ _ (by omega)]; rw [hA197 _ (by omega)]; rw [ea193, va_up_ne _ _ (by omega)]) (fun j h1 h2 => by rw [eg230, va_up_ne _ _ (by omega)]; rw [hG219 _ (by omega) (by omega)]; rw [eg215, va_up_ne _ _ (by omega)]; rw [eg209, va_up_ne _ _ (by omega)]; rw [hG198 _ (by omega) (by omega)]; rw [eg194, va_up_ne _ _ (by omega)]; rw [eg188, va_up_ne _ _ (by omega)]) hp178
  have hp394 := isLike.mv (ad' := ad222) (g' := g229) (fun j h1 h2 => by rw [hA218 _ (by omega)]; rw [ea214, va_up_ne _ _ (by omega)]) (fun j h1 h2 => by rw [eg230, va_up_ne _ _ (by omega)]; rw [hG219 _ (by omega) (by omega)]; rw [eg215, va_up_ne _ _ (by omega)]; rw [eg209, va_up_ne _ _ (by omega)]) hp199
  have hp395 := isBld.mv (ad' := ad222) (g' := g229) (fun j h1 h2 => by rfl) (fun j h1 h2 => by rw [eg230, va_up_ne _ _ (by omega)]) hp220
  exact z_vret C hr hlk dX9_init_138 (by decide) (by decide) (⟨rfl, rfl, fun j h1 => by rw [hA218 _ (by omega)]; rw [ea214, va_up_ne _ _ (by omega)]; rw [hA197 _ (by omega)]; rw [ea193, va_up_ne _ _ (by omega)]; rw [hA176 _ (by omega)]; rw [ea172, va_up_ne _ _ (by omega)]; rw [hA155 _ (by omega)]; rw [ea151, va_up_ne _ _ (by omega)]; rw [hA134 _ (by omega)]; rw [ea130, va_up_ne _ _ (by omega)]; rw [hA113 _ (by omega)]; rw [ea109, va_up_ne _ _ (by omega)]; rw [hA89 _ (by omega)]; rw [ea85, va_up_ne _ _ (by omega)]; rw [hA68 _ (by omega)]; rw [ea64, va_up_ne _ _ (by omega)]; rw [hA47 _ (by omega)]; rw [ea43, va_up_ne _ _ (by omega)]; rw [hA26 _ (by omega)]; rw [ea22, va_up_ne _ _ (by omega)]; rw [ea4, va_up_ne _ _ (by omega)], fun j h1 h2 => by rw [eg230, va_up_ne _ _ (by omega)]; rw [hG219 _ (by omega) (by omega)]; rw [eg215, va_up_ne _ _ (by omega)]; rw [eg209, va_up_ne _ _ (by omega)]; rw [hG198 _ (by omega) (by omega)]; rw [eg194, va_up_ne _ _ (by omega)]; rw [eg188, va_up_ne _ _ (by omega)]; rw [hG177 _ (by omega) (by omega)]; rw [eg173, va_up_ne _ _ (by omega)]; rw [eg167, va_up_ne _ _ (by omega)]; rw [hG156 _ (by omega) (by omega)]; rw [eg152, va_up_ne _ _ (by omega)]; rw [eg146, va_up_ne _ _ (by omega)]; rw [hG135 _ (by omega) (by omega)]; rw [eg131, va_up_ne _ _ (by omega)]; rw [eg125, va_up_ne _ _ (by omega)]; rw [hG114 _ (by omega) (by omega)]; rw [eg110, va_up_ne _ _ (by omega)]; rw [eg104, va_up_ne _ _ (by omega)]; rw [eg101, va_up_ne _ _ (by omega)]; rw [hG90 _ (by omega) (by omega)]; rw [eg86, va_up_ne _ _ (by omega)]; rw [eg80, va_up_ne _ _ (by omega)]; rw [hG69 _ (by omega) (by omega)]; rw [eg65, va_up_ne _ _ (by omega)]; rw [eg59, va_up_ne _ _ (by omega)]; rw [hG48 _ (by omega) (by omega)]; rw [eg44, va_up_ne _ _ (by omega)]; rw [eg38, va_up_ne _ _ (by omega)]; rw [hG27 _ (by omega) (by omega)]; rw [eg23, va_up_ne _ _ (by omega)]; rw [eg17, va_up_ne _ _ (by omega)]; rw [eg14, va_up_ne _ _ (by omega)]; rw [eg11, va_up_ne _ _ (by omega)]; rw [eg5, va_up_ne _ _ (by omega)], hfin, hg385, hp386, hp387, hp388, hp389, hp390, hp391, hp392, hp393, hp394, hp395⟩)
end
section
-- words of mod
theorem q_1454 : (Jvm.Cond.methodLink "SnowRecorderModel" (3 : Nat) ({ cls := "java/lang/Object", name := "<init>", desc := "()V" } : Jvm.MethodName)) ∈ AW := AW_m 1573 (by decide +kernel) (by decide +kernel)
theorem q_1455 : (Jvm.Cond.methodLink "SnowRecorderModel" (107 : Nat) ({ cls := "SnowRecorderModel", name := "laysTable", desc := "()V" } : Jvm.MethodName)) ∈ AW := AW_m 1574 (by decide +kernel) (by decide +kernel)
theorem q_1457 : (Jvm.Cond.instanceMethod ({ cls := "SnowRecorderModel", name := "laysTable", desc := "()V" } : Jvm.MethodName)) ∈ AW := AW_m 1576 (by decide +kernel) (by decide +kernel)
theorem q_1458 : (Jvm.Cond.code ({ cls := "SnowRecorderModel", name := "laysTable", desc := "()V" } : Jvm.MethodName) prog_12_method_2_code (2 : Nat) (Option.none : Option Jvm.ClassFile.FieldType)) ∈ AW := AW_m 1577 (by decide +kernel) (by decide +kernel)
theorem q_1459 : (Jvm.Cond.fieldLink "SnowRecorderModel" (9 : Nat) "SnowRecorderModel" "rows" "[I") ∈ AW := AW_m 1578 (by decide +kernel) (by decide +kernel)
theorem q_1460 : (Jvm.Cond.fieldLink "SnowRecorderModel" (13 : Nat) "SnowRecorderModel" "steep" "[I") ∈ AW := AW_m 1579 (by decide +kernel) (by decide +kernel)
theorem q_1461 : (Jvm.Cond.fieldLink "SnowRecorderModel" (16 : Nat) "SnowRecorderModel" "open" "[I") ∈ AW := AW_m 1580 (by decide +kernel) (by decide +kernel)
theorem q_1462 : (Jvm.Cond.fieldLink "SnowRecorderModel" (19 : Nat) "SnowRecorderModel" "air" "[I") ∈ AW := AW_m 1581 (by decide +kernel) (by decide +kernel)
theorem q_1463 : (Jvm.Cond.fieldLink "SnowRecorderModel" (22 : Nat) "SnowRecorderModel" "falling" "[I") ∈ AW := AW_m 1582 (by decide +kernel) (by decide +kernel)
theorem q_1464 : (Jvm.Cond.fieldLink "SnowRecorderModel" (25 : Nat) "SnowRecorderModel" "much" "[I") ∈ AW := AW_m 1583 (by decide +kernel) (by decide +kernel)
theorem q_1465 : (Jvm.Cond.fieldLink "SnowRecorderModel" (28 : Nat) "SnowRecorderModel" "table" "[I") ∈ AW := AW_m 1584 (by decide +kernel) (by decide +kernel)
theorem q_1466 : (Jvm.Cond.fieldLink "SnowRecorderModel" (31 : Nat) "SnowRecorderModel" "noteSlope" "[I") ∈ AW := AW_m 1585 (by decide +kernel) (by decide +kernel)
theorem q_1467 : (Jvm.Cond.fieldLink "SnowRecorderModel" (34 : Nat) "SnowRecorderModel" "noteHours" "[I") ∈ AW := AW_m 1586 (by decide +kernel) (by decide +kernel)
theorem q_1468 : (Jvm.Cond.fieldLink "SnowRecorderModel" (37 : Nat) "SnowRecorderModel" "noteDepth" "[I") ∈ AW := AW_m 1587 (by decide +kernel) (by decide +kernel)
theorem q_1469 : (Jvm.Cond.fieldLink "SnowRecorderModel" (40 : Nat) "SnowRecorderModel" "refused" "[I") ∈ AW := AW_m 1588 (by decide +kernel) (by decide +kernel)
theorem q_1470 : (Jvm.Cond.fieldLink "SnowRecorderModel" (43 : Nat) "SnowRecorderModel" "pits" "[I") ∈ AW := AW_m 1589 (by decide +kernel) (by decide +kernel)
theorem q_1481 : (Jvm.Cond.fieldLink "SnowRecorderModel" (46 : Nat) "SnowRecorderModel" "tape" "[I") ∈ AW := AW_m 1600 (by decide +kernel) (by decide +kernel)
theorem q_1483 : (Jvm.Cond.fieldLink "SnowRecorderModel" (49 : Nat) "SnowRecorderModel" "faultPlace" "I") ∈ AW := AW_m 1602 (by decide +kernel) (by decide +kernel)
theorem q_1485 : (Jvm.Cond.fieldLink "SnowRecorderModel" (53 : Nat) "SnowRecorderModel" "without" "I") ∈ AW := AW_m 1604 (by decide +kernel) (by decide +kernel)
theorem q_1486 : (Jvm.Cond.fieldLink "SnowRecorderModel" (56 : Nat) "SnowRecorderModel" "otherHour" "I") ∈ AW := AW_m 1605 (by decide +kernel) (by decide +kernel)
theorem q_1489 : (Jvm.Cond.fieldLink "SnowRecorderModel" (59 : Nat) "SnowRecorderModel" "temps" "[I") ∈ AW := AW_m 1608 (by decide +kernel) (by decide +kernel)
theorem q_1490 : (Jvm.Cond.fieldLink "SnowRecorderModel" (62 : Nat) "SnowRecorderModel" "kinds" "[I") ∈ AW := AW_m 1609 (by decide +kernel) (by decide +kernel)
theorem q_1498 : (Jvm.Cond.fieldLink "SnowRecorderModel" (65 : Nat) "SnowRecorderModel" "steep1" "[I") ∈ AW := AW_m 1617 (by decide +kernel) (by decide +kernel)
theorem q_1499 : (Jvm.Cond.fieldLink "SnowRecorderModel" (68 : Nat) "SnowRecorderModel" "open1" "[I") ∈ AW := AW_m 1618 (by decide +kernel) (by decide +kernel)
theorem q_15 : (Jvm.Cond.initialized "SnowRecorderModel") ∈ AW := AW_m 134 (by decide +kernel) (by decide +kernel)
theorem q_1500 : (Jvm.Cond.fieldLink "SnowRecorderModel" (71 : Nat) "SnowRecorderModel" "many1" "[I") ∈ AW := AW_m 1619 (by decide +kernel) (by decide +kernel)
theorem q_1501 : (Jvm.Cond.fieldLink "SnowRecorderModel" (74 : Nat) "SnowRecorderModel" "air1" "[I") ∈ AW := AW_m 1620 (by decide +kernel) (by decide +kernel)
theorem q_1502 : (Jvm.Cond.fieldLink "SnowRecorderModel" (77 : Nat) "SnowRecorderModel" "falling1" "[I") ∈ AW := AW_m 1621 (by decide +kernel) (by decide +kernel)
theorem q_1503 : (Jvm.Cond.fieldLink "SnowRecorderModel" (80 : Nat) "SnowRecorderModel" "much1" "[I") ∈ AW := AW_m 1622 (by decide +kernel) (by decide +kernel)
theorem q_1504 : (Jvm.Cond.fieldLink "SnowRecorderModel" (83 : Nat) "SnowRecorderModel" "table1" "[I") ∈ AW := AW_m 1623 (by decide +kernel) (by decide +kernel)
theorem q_1505 : (Jvm.Cond.fieldLink "SnowRecorderModel" (86 : Nat) "SnowRecorderModel" "layer1" "[I") ∈ AW := AW_m 1624 (by decide +kernel) (by decide +kernel)
theorem q_1509 : (Jvm.Cond.fieldLink "SnowRecorderModel" (89 : Nat) "SnowRecorderModel" "line" "[I") ∈ AW := AW_m 1628 (by decide +kernel) (by decide +kernel)
theorem q_1511 : (Jvm.Cond.fieldLink "SnowRecorderModel" (92 : Nat) "SnowRecorderModel" "oneKinds" "[I") ∈ AW := AW_m 1630 (by decide +kernel) (by decide +kernel)
theorem q_1512 : (Jvm.Cond.fieldLink "SnowRecorderModel" (95 : Nat) "SnowRecorderModel" "otherKinds" "[I") ∈ AW := AW_m 1631 (by decide +kernel) (by decide +kernel)
theorem q_1513 : (Jvm.Cond.fieldLink "SnowRecorderModel" (98 : Nat) "SnowRecorderModel" "folded" "[I") ∈ AW := AW_m 1632 (by decide +kernel) (by decide +kernel)
theorem q_1516 : (Jvm.Cond.fieldLink "SnowRecorderModel" (101 : Nat) "SnowRecorderModel" "dayDepth" "[I") ∈ AW := AW_m 1635 (by decide +kernel) (by decide +kernel)
theorem q_1517 : (Jvm.Cond.fieldLink "SnowRecorderModel" (104 : Nat) "SnowRecorderModel" "depths" "[I") ∈ AW := AW_m 1636 (by decide +kernel) (by decide +kernel)
theorem q_1519 : (Jvm.Cond.laysFinal "SnowRecorderModel" "SnowRecorderModel" "rows" "[I") ∈ AW := AW_m 1638 (by decide +kernel) (by decide +kernel)
theorem q_1521 : (Jvm.Cond.laysFinal "SnowRecorderModel" "SnowRecorderModel" "steep" "[I") ∈ AW := AW_m 1640 (by decide +kernel) (by decide +kernel)
theorem q_1523 : (Jvm.Cond.laysFinal "SnowRecorderModel" "SnowRecorderModel" "open" "[I") ∈ AW := AW_m 1642 (by decide +kernel) (by decide +kernel)
theorem q_1525 : (Jvm.Cond.laysFinal "SnowRecorderModel" "SnowRecorderModel" "air" "[I") ∈ AW := AW_m 1644 (by decide +kernel) (by decide +kernel)
theorem q_1527 : (Jvm.Cond.laysFinal "SnowRecorderModel" "SnowRecorderModel" "falling" "[I") ∈ AW := AW_m 1646 (by decide +kernel) (by decide +kernel)
theorem q_1529 : (Jvm.Cond.laysFinal "SnowRecorderModel" "SnowRecorderModel" "much" "[I") ∈ AW := AW_m 1648 (by decide +kernel) (by decide +kernel)
theorem q_1531 : (Jvm.Cond.laysFinal "SnowRecorderModel" "SnowRecorderModel" "table" "[I") ∈ AW := AW_m 1650 (by decide +kernel) (by decide +kernel)
theorem q_1533 : (Jvm.Cond.laysFinal "SnowRecorderModel" "SnowRecorderModel" "noteSlope" "[I") ∈ AW := AW_m 1652 (by decide +kernel) (by decide +kernel)
theorem q_1535 : (Jvm.Cond.laysFinal "SnowRecorderModel" "SnowRecorderModel" "noteHours" "[I") ∈ AW := AW_m 1654 (by decide +kernel) (by decide +kernel)
theorem q_1537 : (Jvm.Cond.laysFinal "SnowRecorderModel" "SnowRecorderModel" "noteDepth" "[I") ∈ AW := AW_m 1656 (by decide +kernel) (by decide +kernel)
theorem q_1539 : (Jvm.Cond.laysFinal "SnowRecorderModel" "SnowRecorderModel" "refused" "[I") ∈ AW := AW_m 1658 (by decide +kernel) (by decide +kernel)
theorem q_1541 : (Jvm.Cond.laysFinal "SnowRecorderModel" "SnowRecorderModel" "pits" "[I") ∈ AW := AW_m 1660 (by decide +kernel) (by decide +kernel)
theorem q_1543 : (Jvm.Cond.lays "SnowRecorderModel" "SnowRecorderModel" "thrown" "I") ∈ AW := AW_m 1662 (by decide +kernel) (by decide +kernel)
theorem q_1545 : (Jvm.Cond.lays "SnowRecorderModel" "SnowRecorderModel" "slopes" "I") ∈ AW := AW_m 1664 (by decide +kernel) (by decide +kernel)
theorem q_1547 : (Jvm.Cond.lays "SnowRecorderModel" "SnowRecorderModel" "hourMany" "I") ∈ AW := AW_m 1666 (by decide +kernel) (by decide +kernel)
theorem q_1549 : (Jvm.Cond.lays "SnowRecorderModel" "SnowRecorderModel" "acts" "I") ∈ AW := AW_m 1668 (by decide +kernel) (by decide +kernel)
theorem q_1551 : (Jvm.Cond.lays "SnowRecorderModel" "SnowRecorderModel" "firstAct" "I") ∈ AW := AW_m 1670 (by decide +kernel) (by decide +kernel)
theorem q_1553 : (Jvm.Cond.lays "SnowRecorderModel" "SnowRecorderModel" "notes" "I") ∈ AW := AW_m 1672 (by decide +kernel) (by decide +kernel)
theorem q_1555 : (Jvm.Cond.lays "SnowRecorderModel" "SnowRecorderModel" "imageActs" "I") ∈ AW := AW_m 1674 (by decide +kernel) (by decide +kernel)
theorem q_1557 : (Jvm.Cond.lays "SnowRecorderModel" "SnowRecorderModel" "imageFirst" "I") ∈ AW := AW_m 1676 (by decide +kernel) (by decide +kernel)
theorem q_1559 : (Jvm.Cond.lays "SnowRecorderModel" "SnowRecorderModel" "imageNotes" "I") ∈ AW := AW_m 1678 (by decide +kernel) (by decide +kernel)
theorem q_1561 : (Jvm.Cond.lays "SnowRecorderModel" "SnowRecorderModel" "hasImage" "I") ∈ AW := AW_m 1680 (by decide +kernel) (by decide +kernel)
theorem q_1563 : (Jvm.Cond.laysFinal "SnowRecorderModel" "SnowRecorderModel" "tape" "[I") ∈ AW := AW_m 1682 (by decide +kernel) (by decide +kernel)
theorem q_1565 : (Jvm.Cond.lays "SnowRecorderModel" "SnowRecorderModel" "taped" "I") ∈ AW := AW_m 1684 (by decide +kernel) (by decide +kernel)
theorem q_1567 : (Jvm.Cond.lays "SnowRecorderModel" "SnowRecorderModel" "faultPlace" "I") ∈ AW := AW_m 1686 (by decide +kernel) (by decide +kernel)
theorem q_1569 : (Jvm.Cond.lays "SnowRecorderModel" "SnowRecorderModel" "warmer" "I") ∈ AW := AW_m 1688 (by decide +kernel) (by decide +kernel)
theorem q_1571 : (Jvm.Cond.lays "SnowRecorderModel" "SnowRecorderModel" "without" "I") ∈ AW := AW_m 1690 (by decide +kernel) (by decide +kernel)
theorem q_1573 : (Jvm.Cond.lays "SnowRecorderModel" "SnowRecorderModel" "otherHour" "I") ∈ AW := AW_m 1692 (by decide +kernel) (by decide +kernel)
theorem q_1575 : (Jvm.Cond.lays "SnowRecorderModel" "SnowRecorderModel" "otherMuch" "I") ∈ AW := AW_m 1694 (by decide +kernel) (by decide +kernel)
theorem q_1577 : (Jvm.Cond.lays "SnowRecorderModel" "SnowRecorderModel" "isClear" "Z") ∈ AW := AW_m 1696 (by decide +kernel) (by decide +kernel)
theorem q_1579 : (Jvm.Cond.laysFinal "SnowRecorderModel" "SnowRecorderModel" "temps" "[I") ∈ AW := AW_m 1698 (by decide +kernel) (by decide +kernel)
theorem q_1581 : (Jvm.Cond.laysFinal "SnowRecorderModel" "SnowRecorderModel" "kinds" "[I") ∈ AW := AW_m 1700 (by decide +kernel) (by decide +kernel)
theorem q_1583 : (Jvm.Cond.lays "SnowRecorderModel" "SnowRecorderModel" "next" "I") ∈ AW := AW_m 1702 (by decide +kernel) (by decide +kernel)
theorem q_1585 : (Jvm.Cond.lays "SnowRecorderModel" "SnowRecorderModel" "place" "I") ∈ AW := AW_m 1704 (by decide +kernel) (by decide +kernel)
theorem q_1587 : (Jvm.Cond.lays "SnowRecorderModel" "SnowRecorderModel" "size" "I") ∈ AW := AW_m 1706 (by decide +kernel) (by decide +kernel)
theorem q_1589 : (Jvm.Cond.lays "SnowRecorderModel" "SnowRecorderModel" "sort" "I") ∈ AW := AW_m 1708 (by decide +kernel) (by decide +kernel)
theorem q_1591 : (Jvm.Cond.lays "SnowRecorderModel" "SnowRecorderModel" "value" "I") ∈ AW := AW_m 1710 (by decide +kernel) (by decide +kernel)
theorem q_1593 : (Jvm.Cond.lays "SnowRecorderModel" "SnowRecorderModel" "word" "I") ∈ AW := AW_m 1712 (by decide +kernel) (by decide +kernel)
theorem q_1595 : (Jvm.Cond.lays "SnowRecorderModel" "SnowRecorderModel" "bad" "I") ∈ AW := AW_m 1714 (by decide +kernel) (by decide +kernel)
theorem q_1597 : (Jvm.Cond.laysFinal "SnowRecorderModel" "SnowRecorderModel" "steep1" "[I") ∈ AW := AW_m 1716 (by decide +kernel) (by decide +kernel)
theorem q_1599 : (Jvm.Cond.laysFinal "SnowRecorderModel" "SnowRecorderModel" "open1" "[I") ∈ AW := AW_m 1718 (by decide +kernel) (by decide +kernel)
theorem q_1601 : (Jvm.Cond.laysFinal "SnowRecorderModel" "SnowRecorderModel" "many1" "[I") ∈ AW := AW_m 1720 (by decide +kernel) (by decide +kernel)
theorem q_1603 : (Jvm.Cond.laysFinal "SnowRecorderModel" "SnowRecorderModel" "air1" "[I") ∈ AW := AW_m 1722 (by decide +kernel) (by decide +kernel)
theorem q_1605 : (Jvm.Cond.laysFinal "SnowRecorderModel" "SnowRecorderModel" "falling1" "[I") ∈ AW := AW_m 1724 (by decide +kernel) (by decide +kernel)
theorem q_1607 : (Jvm.Cond.laysFinal "SnowRecorderModel" "SnowRecorderModel" "much1" "[I") ∈ AW := AW_m 1726 (by decide +kernel) (by decide +kernel)
theorem q_1609 : (Jvm.Cond.laysFinal "SnowRecorderModel" "SnowRecorderModel" "table1" "[I") ∈ AW := AW_m 1728 (by decide +kernel) (by decide +kernel)
theorem q_1611 : (Jvm.Cond.laysFinal "SnowRecorderModel" "SnowRecorderModel" "layer1" "[I") ∈ AW := AW_m 1730 (by decide +kernel) (by decide +kernel)
theorem q_1613 : (Jvm.Cond.lays "SnowRecorderModel" "SnowRecorderModel" "slopes1" "I") ∈ AW := AW_m 1732 (by decide +kernel) (by decide +kernel)
theorem q_1615 : (Jvm.Cond.lays "SnowRecorderModel" "SnowRecorderModel" "hours1" "I") ∈ AW := AW_m 1734 (by decide +kernel) (by decide +kernel)
theorem q_1617 : (Jvm.Cond.lays "SnowRecorderModel" "SnowRecorderModel" "names1" "I") ∈ AW := AW_m 1736 (by decide +kernel) (by decide +kernel)
theorem q_1619 : (Jvm.Cond.laysFinal "SnowRecorderModel" "SnowRecorderModel" "line" "[I") ∈ AW := AW_m 1738 (by decide +kernel) (by decide +kernel)
theorem q_1621 : (Jvm.Cond.lays "SnowRecorderModel" "SnowRecorderModel" "lined" "I") ∈ AW := AW_m 1740 (by decide +kernel) (by decide +kernel)
theorem q_1623 : (Jvm.Cond.laysFinal "SnowRecorderModel" "SnowRecorderModel" "oneKinds" "[I") ∈ AW := AW_m 1742 (by decide +kernel) (by decide +kernel)
theorem q_1625 : (Jvm.Cond.laysFinal "SnowRecorderModel" "SnowRecorderModel" "otherKinds" "[I") ∈ AW := AW_m 1744 (by decide +kernel) (by decide +kernel)
theorem q_1627 : (Jvm.Cond.laysFinal "SnowRecorderModel" "SnowRecorderModel" "folded" "[I") ∈ AW := AW_m 1746 (by decide +kernel) (by decide +kernel)
theorem q_1629 : (Jvm.Cond.lays "SnowRecorderModel" "SnowRecorderModel" "ones" "I") ∈ AW := AW_m 1748 (by decide +kernel) (by decide +kernel)
theorem q_1631 : (Jvm.Cond.lays "SnowRecorderModel" "SnowRecorderModel" "others" "I") ∈ AW := AW_m 1750 (by decide +kernel) (by decide +kernel)
theorem q_1633 : (Jvm.Cond.laysFinal "SnowRecorderModel" "SnowRecorderModel" "dayDepth" "[I") ∈ AW := AW_m 1752 (by decide +kernel) (by decide +kernel)
theorem q_1635 : (Jvm.Cond.laysFinal "SnowRecorderModel" "SnowRecorderModel" "depths" "[I") ∈ AW := AW_m 1754 (by decide +kernel) (by decide +kernel)
theorem q_1637 : (Jvm.Cond.lays "SnowRecorderModel" "SnowRecorderModel" "its" "I") ∈ AW := AW_m 1756 (by decide +kernel) (by decide +kernel)
theorem s_39 : Cond.selects "SnowRecorderModel" ({ cls := "SnowRecorderModel", name := "laysTable", desc := "()V" } : Jvm.MethodName) ({ cls := "SnowRecorderModel", name := "laysTable", desc := "()V" } : Jvm.MethodName) ∈ AW := AW_m 39 (by decide +kernel) (by decide +kernel)
theorem hd_yX10_laysTable : yX10_laysTable.cls ≠ "java/lang/invoke/MethodHandle" ∧ yX10_laysTable.cls ≠ "java/lang/invoke/VarHandle" ∧ (parseMethodDescriptor yX10_laysTable.desc).map (fun d => d.parameters.length) = some 0 := by decide +kernel
theorem mv_yX10_laysTable : zWv yX10_laysTable cX10_laysTable 2 none := ⟨q_1457, s_39, q_15, q_1458⟩
theorem inA_X10 : ∀ w ∈ u_ws RX10 TX10 60, w ∈ AW := show ∀ w ∈ ([Cond.laysFinal "SnowRecorderModel" "SnowRecorderModel" "rows" "[I", Cond.laysFinal "SnowRecorderModel" "SnowRecorderModel" "steep" "[I", Cond.laysFinal "SnowRecorderModel" "SnowRecorderModel" "open" "[I", Cond.laysFinal "SnowRecorderModel" "SnowRecorderModel" "air" "[I", Cond.laysFinal "SnowRecorderModel" "SnowRecorderModel" "falling" "[I", Cond.laysFinal "SnowRecorderModel" "SnowRecorderModel" "much" "[I", Cond.laysFinal "SnowRecorderModel" "SnowRecorderModel" "table" "[I", Cond.laysFinal "SnowRecorderModel" "SnowRecorderModel" "noteSlope" "[I", Cond.laysFinal "SnowRecorderModel" "SnowRecorderModel" "noteHours" "[I", Cond.laysFinal "SnowRecorderModel" "SnowRecorderModel" "noteDepth" "[I", Cond.laysFinal "SnowRecorderModel" "SnowRecorderModel" "refused" "[I", Cond.laysFinal "SnowRecorderModel" "SnowRecorderModel" "pits" "[I", Cond.lays "SnowRecorderModel" "SnowRecorderModel" "thrown" "I", Cond.lays "SnowRecorderModel" "SnowRecorderModel" "slopes" "I", Cond.lays "SnowRecorderModel" "SnowRecorderModel" "hourMany" "I", Cond.lays "SnowRecorderModel" "SnowRecorderModel" "acts" "I", Cond.lays "SnowRecorderModel" "SnowRecorderModel" "firstAct" "I", Cond.lays "SnowRecorderModel" "SnowRecorderModel" "notes" "I", Cond.lays "SnowRecorderModel" "SnowRecorderModel" "imageActs" "I", Cond.lays "SnowRecorderModel" "SnowRecorderModel" "imageFirst" "I", Cond.lays "SnowRecorderModel" "SnowRecorderModel" "imageNotes" "I", Cond.lays "SnowRecorderModel" "SnowRecorderModel" "hasImage" "I", Cond.laysFinal "SnowRecorderModel" "SnowRecorderModel" "tape" "[I", Cond.lays "SnowRecorderModel" "SnowRecorderModel" "taped" "I", Cond.lays "SnowRecorderModel" "SnowRecorderModel" "faultPlace" "I", Cond.lays "SnowRecorderModel" "SnowRecorderModel" "warmer" "I", Cond.lays "SnowRecorderModel" "SnowRecorderModel" "without" "I", Cond.lays "SnowRecorderModel" "SnowRecorderModel" "otherHour" "I", Cond.lays "SnowRecorderModel" "SnowRecorderModel" "otherMuch" "I", Cond.lays "SnowRecorderModel" "SnowRecorderModel" "isClear" "Z", Cond.laysFinal "SnowRecorderModel" "SnowRecorderModel" "temps" "[I", Cond.laysFinal "SnowRecorderModel" "SnowRecorderModel" "kinds" "[I", Cond.lays "SnowRecorderModel" "SnowRecorderModel" "next" "I", Cond.lays "SnowRecorderModel" "SnowRecorderModel" "place" "I", Cond.lays "SnowRecorderModel" "SnowRecorderModel" "size" "I", Cond.lays "SnowRecorderModel" "SnowRecorderModel" "sort" "I", Cond.lays "SnowRecorderModel" "SnowRecorderModel" "value" "I", Cond.lays "SnowRecorderModel" "SnowRecorderModel" "word" "I", Cond.lays "SnowRecorderModel" "SnowRecorderModel" "bad" "I", Cond.laysFinal "SnowRecorderModel" "SnowRecorderModel" "steep1" "[I", Cond.laysFinal "SnowRecorderModel" "SnowRecorderModel" "open1" "[I", Cond.laysFinal "SnowRecorderModel" "SnowRecorderModel" "many1" "[I", Cond.laysFinal "SnowRecorderModel" "SnowRecorderModel" "air1" "[I", Cond.laysFinal "SnowRecorderModel" "SnowRecorderModel" "falling1" "[I", Cond.laysFinal "SnowRecorderModel" "SnowRecorderModel" "much1" "[I", Cond.laysFinal "SnowRecorderModel" "SnowRecorderModel" "table1" "[I", Cond.laysFinal "SnowRecorderModel" "SnowRecorderModel" "layer1" "[I", Cond.lays "SnowRecorderModel" "SnowRecorderModel" "slopes1" "I", Cond.lays "SnowRecorderModel" "SnowRecorderModel" "hours1" "I", Cond.lays "SnowRecorderModel" "SnowRecorderModel" "names1" "I", Cond.laysFinal "SnowRecorderModel" "SnowRecorderModel" "line" "[I", Cond.lays "SnowRecorderModel" "SnowRecorderModel" "lined" "I", Cond.laysFinal "SnowRecorderModel" "SnowRecorderModel" "oneKinds" "[I", Cond.laysFinal "SnowRecorderModel" "SnowRecorderModel" "otherKinds" "[I", Cond.laysFinal "SnowRecorderModel" "SnowRecorderModel" "folded" "[I", Cond.lays "SnowRecorderModel" "SnowRecorderModel" "ones" "I", Cond.lays "SnowRecorderModel" "SnowRecorderModel" "others" "I", Cond.laysFinal "SnowRecorderModel" "SnowRecorderModel" "dayDepth" "[I", Cond.laysFinal "SnowRecorderModel" "SnowRecorderModel" "depths" "[I", Cond.lays "SnowRecorderModel" "SnowRecorderModel" "its" "I"] : List Cond), w ∈ AW from List.forall_mem_cons.mpr ⟨q_1519, List.forall_mem_cons.mpr ⟨q_1521, List.forall_mem_cons.mpr ⟨q_1523, List.forall_mem_cons.mpr ⟨q_1525, List.forall_mem_cons.mpr ⟨q_1527, List.forall_mem_cons.mpr ⟨q_1529, List.forall_mem_cons.mpr ⟨q_1531, List.forall_mem_cons.mpr ⟨q_1533, List.forall_mem_cons.mpr ⟨q_1535, List.forall_mem_cons.mpr ⟨q_1537, List.forall_mem_cons.mpr ⟨q_1539, List.forall_mem_cons.mpr ⟨q_1541, List.forall_mem_cons.mpr ⟨q_1543, List.forall_mem_cons.mpr ⟨q_1545, List.forall_mem_cons.mpr ⟨q_1547, List.forall_mem_cons.mpr ⟨q_1549, List.forall_mem_cons.mpr ⟨q_1551, List.forall_mem_cons.mpr ⟨q_1553, List.forall_mem_cons.mpr ⟨q_1555, List.forall_mem_cons.mpr ⟨q_1557, List.forall_mem_cons.mpr ⟨q_1559, List.forall_mem_cons.mpr ⟨q_1561, List.forall_mem_cons.mpr ⟨q_1563, List.forall_mem_cons.mpr ⟨q_1565, List.forall_mem_cons.mpr ⟨q_1567, List.forall_mem_cons.mpr ⟨q_1569, List.forall_mem_cons.mpr ⟨q_1571, List.forall_mem_cons.mpr ⟨q_1573, List.forall_mem_cons.mpr ⟨q_1575, List.forall_mem_cons.mpr ⟨q_1577, List.forall_mem_cons.mpr ⟨q_1579, List.forall_mem_cons.mpr ⟨q_1581, List.forall_mem_cons.mpr ⟨q_1583, List.forall_mem_cons.mpr ⟨q_1585, List.forall_mem_cons.mpr ⟨q_1587, List.forall_mem_cons.mpr ⟨q_1589, List.forall_mem_cons.mpr ⟨q_1591, List.forall_mem_cons.mpr ⟨q_1593, List.forall_mem_cons.mpr ⟨q_1595, List.forall_mem_cons.mpr ⟨q_1597, List.forall_mem_cons.mpr ⟨q_1599, List.forall_mem_cons.mpr ⟨q_1601, List.forall_mem_cons.mpr ⟨q_1603, List.forall_mem_cons.mpr ⟨q_1605, List.forall_mem_cons.mpr ⟨q_1607, List.forall_mem_cons.mpr ⟨q_1609, List.forall_mem_cons.mpr ⟨q_1611, List.forall_mem_cons.mpr ⟨q_1613, List.forall_mem_cons.mpr ⟨q_1615, List.forall_mem_cons.mpr ⟨q_1617, List.forall_mem_cons.mpr ⟨q_1619, List.forall_mem_cons.mpr ⟨q_1621, List.forall_mem_cons.mpr ⟨q_1623, List.forall_mem_cons.mpr ⟨q_1625, List.forall_mem_cons.mpr ⟨q_1627, List.forall_mem_cons.mpr ⟨q_1629, List.forall_mem_cons.mpr ⟨q_1631, List.forall_mem_cons.mpr ⟨q_1633, List.forall_mem_cons.mpr ⟨q_1635, List.forall_mem_cons.mpr ⟨q_1637, fun _ h => absurd h List.not_mem_nil⟩⟩⟩⟩⟩⟩⟩⟩⟩⟩⟩⟩⟩⟩⟩⟩⟩⟩⟩⟩⟩⟩⟩⟩⟩⟩⟩⟩⟩⟩⟩⟩⟩⟩⟩⟩⟩⟩⟩⟩⟩⟩⟩⟩⟩⟩⟩⟩⟩⟩⟩⟩⟩⟩⟩⟩⟩⟩⟩⟩
end
section
-- decode rows of mod
theorem dX10_laysTable_0 : decode cX10_laysTable 0 = .ok (.iconst 0, 1) := by decide +kernel
theorem dX10_laysTable_1 : decode cX10_laysTable 1 = .ok (.istore_n 1, 1) := by decide +kernel
theorem dX10_laysTable_2 : decode cX10_laysTable 2 = .ok (.iload_n 1, 1) := by decide +kernel
theorem dX10_laysTable_3 : decode cX10_laysTable 3 = .ok (.iconst 5, 1) := by decide +kernel
theorem dX10_laysTable_4 : decode cX10_laysTable 4 = .ok (.if_icmp .ge 153, 3) := by decide +kernel
theorem dX10_laysTable_7 : decode cX10_laysTable 7 = .ok (.aload_n 0, 1) := by decide +kernel
theorem dX10_laysTable_8 : decode cX10_laysTable 8 = .ok (.getfield 28, 3) := by decide +kernel
theorem dX10_laysTable_11 : decode cX10_laysTable 11 = .ok (.iload_n 1, 1) := by decide +kernel
theorem dX10_laysTable_12 : decode cX10_laysTable 12 = .ok (.iload_n 1, 1) := by decide +kernel
theorem dX10_laysTable_13 : decode cX10_laysTable 13 = .ok (.ifCond .ne 7, 3) := by decide +kernel
theorem dX10_laysTable_16 : decode cX10_laysTable 16 = .ok (.iconst 3, 1) := by decide +kernel
theorem dX10_laysTable_17 : decode cX10_laysTable 17 = .ok (.goto 33, 3) := by decide +kernel
theorem dX10_laysTable_50 : decode cX10_laysTable 50 = .ok (.iastore, 1) := by decide +kernel
theorem dX10_laysTable_51 : decode cX10_laysTable 51 = .ok (.aload_n 0, 1) := by decide +kernel
theorem dX10_laysTable_52 : decode cX10_laysTable 52 = .ok (.getfield 28, 3) := by decide +kernel
theorem dX10_laysTable_55 : decode cX10_laysTable 55 = .ok (.iconst 5, 1) := by decide +kernel
theorem dX10_laysTable_56 : decode cX10_laysTable 56 = .ok (.iload_n 1, 1) := by decide +kernel
theorem dX10_laysTable_57 : decode cX10_laysTable 57 = .ok (.iadd, 1) := by decide +kernel
theorem dX10_laysTable_58 : decode cX10_laysTable 58 = .ok (.iload_n 1, 1) := by decide +kernel
theorem dX10_laysTable_59 : decode cX10_laysTable 59 = .ok (.ifCond .ne 7, 3) := by decide +kernel
theorem dX10_laysTable_62 : decode cX10_laysTable 62 = .ok (.iconst 5, 1) := by decide +kernel
theorem dX10_laysTable_63 : decode cX10_laysTable 63 = .ok (.goto 32, 3) := by decide +kernel
theorem dX10_laysTable_95 : decode cX10_laysTable 95 = .ok (.iastore, 1) := by decide +kernel
theorem dX10_laysTable_96 : decode cX10_laysTable 96 = .ok (.aload_n 0, 1) := by decide +kernel
theorem dX10_laysTable_97 : decode cX10_laysTable 97 = .ok (.getfield 28, 3) := by decide +kernel
theorem dX10_laysTable_100 : decode cX10_laysTable 100 = .ok (.bipush 10, 2) := by decide +kernel
theorem dX10_laysTable_102 : decode cX10_laysTable 102 = .ok (.iload_n 1, 1) := by decide +kernel
theorem dX10_laysTable_103 : decode cX10_laysTable 103 = .ok (.iadd, 1) := by decide +kernel
theorem dX10_laysTable_104 : decode cX10_laysTable 104 = .ok (.iload_n 1, 1) := by decide +kernel
theorem dX10_laysTable_105 : decode cX10_laysTable 105 = .ok (.ifCond .ne 9, 3) := by decide +kernel
theorem dX10_laysTable_108 : decode cX10_laysTable 108 = .ok (.sipush 1000, 3) := by decide +kernel
theorem dX10_laysTable_111 : decode cX10_laysTable 111 = .ok (.goto 39, 3) := by decide +kernel
theorem dX10_laysTable_150 : decode cX10_laysTable 150 = .ok (.iastore, 1) := by decide +kernel
theorem dX10_laysTable_151 : decode cX10_laysTable 151 = .ok (.iinc 1 1, 3) := by decide +kernel
theorem dX10_laysTable_154 : decode cX10_laysTable 154 = .ok (.goto (-152), 3) := by decide +kernel
theorem dX10_laysTable_20 : decode cX10_laysTable 20 = .ok (.iload_n 1, 1) := by decide +kernel
theorem dX10_laysTable_21 : decode cX10_laysTable 21 = .ok (.iconst 1, 1) := by decide +kernel
theorem dX10_laysTable_22 : decode cX10_laysTable 22 = .ok (.if_icmp .ne 8, 3) := by decide +kernel
theorem dX10_laysTable_25 : decode cX10_laysTable 25 = .ok (.bipush 12, 2) := by decide +kernel
theorem dX10_laysTable_27 : decode cX10_laysTable 27 = .ok (.goto 23, 3) := by decide +kernel
theorem dX10_laysTable_66 : decode cX10_laysTable 66 = .ok (.iload_n 1, 1) := by decide +kernel
theorem dX10_laysTable_67 : decode cX10_laysTable 67 = .ok (.iconst 1, 1) := by decide +kernel
theorem dX10_laysTable_68 : decode cX10_laysTable 68 = .ok (.if_icmp .ne 8, 3) := by decide +kernel
theorem dX10_laysTable_71 : decode cX10_laysTable 71 = .ok (.bipush 8, 2) := by decide +kernel
theorem dX10_laysTable_73 : decode cX10_laysTable 73 = .ok (.goto 22, 3) := by decide +kernel
theorem dX10_laysTable_114 : decode cX10_laysTable 114 = .ok (.iload_n 1, 1) := by decide +kernel
theorem dX10_laysTable_115 : decode cX10_laysTable 115 = .ok (.iconst 1, 1) := by decide +kernel
theorem dX10_laysTable_116 : decode cX10_laysTable 116 = .ok (.if_icmp .ne 9, 3) := by decide +kernel
theorem dX10_laysTable_119 : decode cX10_laysTable 119 = .ok (.sipush 4000, 3) := by decide +kernel
theorem dX10_laysTable_122 : decode cX10_laysTable 122 = .ok (.goto 28, 3) := by decide +kernel
theorem dX10_laysTable_30 : decode cX10_laysTable 30 = .ok (.iload_n 1, 1) := by decide +kernel
theorem dX10_laysTable_31 : decode cX10_laysTable 31 = .ok (.iconst 2, 1) := by decide +kernel
theorem dX10_laysTable_32 : decode cX10_laysTable 32 = .ok (.if_icmp .ne 7, 3) := by decide +kernel
theorem dX10_laysTable_35 : decode cX10_laysTable 35 = .ok (.iconst 4, 1) := by decide +kernel
theorem dX10_laysTable_36 : decode cX10_laysTable 36 = .ok (.goto 14, 3) := by decide +kernel
theorem dX10_laysTable_76 : decode cX10_laysTable 76 = .ok (.iload_n 1, 1) := by decide +kernel
theorem dX10_laysTable_77 : decode cX10_laysTable 77 = .ok (.iconst 2, 1) := by decide +kernel
theorem dX10_laysTable_78 : decode cX10_laysTable 78 = .ok (.if_icmp .ne 7, 3) := by decide +kernel
theorem dX10_laysTable_81 : decode cX10_laysTable 81 = .ok (.iconst 3, 1) := by decide +kernel
theorem dX10_laysTable_82 : decode cX10_laysTable 82 = .ok (.goto 13, 3) := by decide +kernel
theorem dX10_laysTable_125 : decode cX10_laysTable 125 = .ok (.iload_n 1, 1) := by decide +kernel
theorem dX10_laysTable_126 : decode cX10_laysTable 126 = .ok (.iconst 2, 1) := by decide +kernel
theorem dX10_laysTable_127 : decode cX10_laysTable 127 = .ok (.if_icmp .ne 9, 3) := by decide +kernel
theorem dX10_laysTable_130 : decode cX10_laysTable 130 = .ok (.sipush 6000, 3) := by decide +kernel
theorem dX10_laysTable_133 : decode cX10_laysTable 133 = .ok (.goto 17, 3) := by decide +kernel
theorem dX10_laysTable_39 : decode cX10_laysTable 39 = .ok (.iload_n 1, 1) := by decide +kernel
theorem dX10_laysTable_40 : decode cX10_laysTable 40 = .ok (.iconst 3, 1) := by decide +kernel
theorem dX10_laysTable_41 : decode cX10_laysTable 41 = .ok (.if_icmp .ne 8, 3) := by decide +kernel
theorem dX10_laysTable_44 : decode cX10_laysTable 44 = .ok (.bipush 40, 2) := by decide +kernel
theorem dX10_laysTable_46 : decode cX10_laysTable 46 = .ok (.goto 4, 3) := by decide +kernel
theorem dX10_laysTable_85 : decode cX10_laysTable 85 = .ok (.iload_n 1, 1) := by decide +kernel
theorem dX10_laysTable_86 : decode cX10_laysTable 86 = .ok (.iconst 3, 1) := by decide +kernel
theorem dX10_laysTable_87 : decode cX10_laysTable 87 = .ok (.if_icmp .ne 7, 3) := by decide +kernel
theorem dX10_laysTable_90 : decode cX10_laysTable 90 = .ok (.iconst 2, 1) := by decide +kernel
theorem dX10_laysTable_91 : decode cX10_laysTable 91 = .ok (.goto 4, 3) := by decide +kernel
theorem dX10_laysTable_136 : decode cX10_laysTable 136 = .ok (.iload_n 1, 1) := by decide +kernel
theorem dX10_laysTable_137 : decode cX10_laysTable 137 = .ok (.iconst 3, 1) := by decide +kernel
theorem dX10_laysTable_138 : decode cX10_laysTable 138 = .ok (.if_icmp .ne 9, 3) := by decide +kernel
theorem dX10_laysTable_141 : decode cX10_laysTable 141 = .ok (.sipush 9000, 3) := by decide +kernel
theorem dX10_laysTable_144 : decode cX10_laysTable 144 = .ok (.goto 6, 3) := by decide +kernel
theorem dX10_laysTable_49 : decode cX10_laysTable 49 = .ok (.iconst 1, 1) := by decide +kernel
theorem dX10_laysTable_94 : decode cX10_laysTable 94 = .ok (.iconst 1, 1) := by decide +kernel
theorem dX10_laysTable_147 : decode cX10_laysTable 147 = .ok (.sipush 8000, 3) := by decide +kernel
theorem dX10_laysTable_157 : decode cX10_laysTable 157 = .ok (.return_, 1) := by decide +kernel
theorem dX10_init_0 : decode cX10_init 0 = .ok (.aload_n 0, 1) := by decide +kernel
theorem dX10_init_1 : decode cX10_init 1 = .ok (.invokespecial 3, 3) := by decide +kernel
theorem dX10_init_4 : decode cX10_init 4 = .ok (.aload_n 0, 1) := by decide +kernel
theorem dX10_init_5 : decode cX10_init 5 = .ok (.sipush 29200, 3) := by decide +kernel
theorem dX10_init_8 : decode cX10_init 8 = .ok (.newarray .int, 2) := by decide +kernel
theorem dX10_init_10 : decode cX10_init 10 = .ok (.putfield 9, 3) := by decide +kernel
theorem dX10_init_13 : decode cX10_init 13 = .ok (.aload_n 0, 1) := by decide +kernel
theorem dX10_init_14 : decode cX10_init 14 = .ok (.iconst 4, 1) := by decide +kernel
theorem dX10_init_15 : decode cX10_init 15 = .ok (.newarray .int, 2) := by decide +kernel
theorem dX10_init_17 : decode cX10_init 17 = .ok (.putfield 13, 3) := by decide +kernel
theorem dX10_init_20 : decode cX10_init 20 = .ok (.aload_n 0, 1) := by decide +kernel
theorem dX10_init_21 : decode cX10_init 21 = .ok (.iconst 4, 1) := by decide +kernel
theorem dX10_init_22 : decode cX10_init 22 = .ok (.newarray .int, 2) := by decide +kernel
theorem dX10_init_24 : decode cX10_init 24 = .ok (.putfield 16, 3) := by decide +kernel
theorem dX10_init_27 : decode cX10_init 27 = .ok (.aload_n 0, 1) := by decide +kernel
theorem dX10_init_28 : decode cX10_init 28 = .ok (.bipush 24, 2) := by decide +kernel
theorem dX10_init_30 : decode cX10_init 30 = .ok (.newarray .int, 2) := by decide +kernel
theorem dX10_init_32 : decode cX10_init 32 = .ok (.putfield 19, 3) := by decide +kernel
theorem dX10_init_35 : decode cX10_init 35 = .ok (.aload_n 0, 1) := by decide +kernel
theorem dX10_init_36 : decode cX10_init 36 = .ok (.bipush 24, 2) := by decide +kernel
theorem dX10_init_38 : decode cX10_init 38 = .ok (.newarray .int, 2) := by decide +kernel
theorem dX10_init_40 : decode cX10_init 40 = .ok (.putfield 22, 3) := by decide +kernel
theorem dX10_init_43 : decode cX10_init 43 = .ok (.aload_n 0, 1) := by decide +kernel
theorem dX10_init_44 : decode cX10_init 44 = .ok (.bipush 24, 2) := by decide +kernel
theorem dX10_init_46 : decode cX10_init 46 = .ok (.newarray .int, 2) := by decide +kernel
theorem dX10_init_48 : decode cX10_init 48 = .ok (.putfield 25, 3) := by decide +kernel
theorem dX10_init_51 : decode cX10_init 51 = .ok (.aload_n 0, 1) := by decide +kernel
theorem dX10_init_52 : decode cX10_init 52 = .ok (.bipush 15, 2) := by decide +kernel
theorem dX10_init_54 : decode cX10_init 54 = .ok (.newarray .int, 2) := by decide +kernel
theorem dX10_init_56 : decode cX10_init 56 = .ok (.putfield 28, 3) := by decide +kernel
theorem dX10_init_59 : decode cX10_init 59 = .ok (.aload_n 0, 1) := by decide +kernel
theorem dX10_init_60 : decode cX10_init 60 = .ok (.bipush 16, 2) := by decide +kernel
theorem dX10_init_62 : decode cX10_init 62 = .ok (.newarray .int, 2) := by decide +kernel
theorem dX10_init_64 : decode cX10_init 64 = .ok (.putfield 31, 3) := by decide +kernel
theorem dX10_init_67 : decode cX10_init 67 = .ok (.aload_n 0, 1) := by decide +kernel
theorem dX10_init_68 : decode cX10_init 68 = .ok (.bipush 16, 2) := by decide +kernel
theorem dX10_init_70 : decode cX10_init 70 = .ok (.newarray .int, 2) := by decide +kernel
theorem dX10_init_72 : decode cX10_init 72 = .ok (.putfield 34, 3) := by decide +kernel
theorem dX10_init_75 : decode cX10_init 75 = .ok (.aload_n 0, 1) := by decide +kernel
theorem dX10_init_76 : decode cX10_init 76 = .ok (.bipush 16, 2) := by decide +kernel
theorem dX10_init_78 : decode cX10_init 78 = .ok (.newarray .int, 2) := by decide +kernel
theorem dX10_init_80 : decode cX10_init 80 = .ok (.putfield 37, 3) := by decide +kernel
theorem dX10_init_83 : decode cX10_init 83 = .ok (.aload_n 0, 1) := by decide +kernel
theorem dX10_init_84 : decode cX10_init 84 = .ok (.bipush 6, 2) := by decide +kernel
theorem dX10_init_86 : decode cX10_init 86 = .ok (.newarray .int, 2) := by decide +kernel
theorem dX10_init_88 : decode cX10_init 88 = .ok (.putfield 40, 3) := by decide +kernel
theorem dX10_init_91 : decode cX10_init 91 = .ok (.aload_n 0, 1) := by decide +kernel
theorem dX10_init_92 : decode cX10_init 92 = .ok (.sipush 1080, 3) := by decide +kernel
theorem dX10_init_95 : decode cX10_init 95 = .ok (.newarray .int, 2) := by decide +kernel
theorem dX10_init_97 : decode cX10_init 97 = .ok (.putfield 43, 3) := by decide +kernel
theorem dX10_init_100 : decode cX10_init 100 = .ok (.aload_n 0, 1) := by decide +kernel
theorem dX10_init_101 : decode cX10_init 101 = .ok (.sipush 900, 3) := by decide +kernel
theorem dX10_init_104 : decode cX10_init 104 = .ok (.newarray .int, 2) := by decide +kernel
theorem dX10_init_106 : decode cX10_init 106 = .ok (.putfield 46, 3) := by decide +kernel
theorem dX10_init_109 : decode cX10_init 109 = .ok (.aload_n 0, 1) := by decide +kernel
theorem dX10_init_110 : decode cX10_init 110 = .ok (.iconst (-1), 1) := by decide +kernel
theorem dX10_init_111 : decode cX10_init 111 = .ok (.putfield 49, 3) := by decide +kernel
theorem dX10_init_114 : decode cX10_init 114 = .ok (.aload_n 0, 1) := by decide +kernel
theorem dX10_init_115 : decode cX10_init 115 = .ok (.iconst (-1), 1) := by decide +kernel
theorem dX10_init_116 : decode cX10_init 116 = .ok (.putfield 53, 3) := by decide +kernel
theorem dX10_init_119 : decode cX10_init 119 = .ok (.aload_n 0, 1) := by decide +kernel
theorem dX10_init_120 : decode cX10_init 120 = .ok (.iconst (-1), 1) := by decide +kernel
theorem dX10_init_121 : decode cX10_init 121 = .ok (.putfield 56, 3) := by decide +kernel
theorem dX10_init_124 : decode cX10_init 124 = .ok (.aload_n 0, 1) := by decide +kernel
theorem dX10_init_125 : decode cX10_init 125 = .ok (.bipush 14, 2) := by decide +kernel
theorem dX10_init_127 : decode cX10_init 127 = .ok (.newarray .int, 2) := by decide +kernel
theorem dX10_init_129 : decode cX10_init 129 = .ok (.putfield 59, 3) := by decide +kernel
theorem dX10_init_132 : decode cX10_init 132 = .ok (.aload_n 0, 1) := by decide +kernel
theorem dX10_init_133 : decode cX10_init 133 = .ok (.bipush 12, 2) := by decide +kernel
theorem dX10_init_135 : decode cX10_init 135 = .ok (.newarray .int, 2) := by decide +kernel
theorem dX10_init_137 : decode cX10_init 137 = .ok (.putfield 62, 3) := by decide +kernel
theorem dX10_init_140 : decode cX10_init 140 = .ok (.aload_n 0, 1) := by decide +kernel
theorem dX10_init_141 : decode cX10_init 141 = .ok (.iconst 4, 1) := by decide +kernel
theorem dX10_init_142 : decode cX10_init 142 = .ok (.newarray .int, 2) := by decide +kernel
theorem dX10_init_144 : decode cX10_init 144 = .ok (.putfield 65, 3) := by decide +kernel
theorem dX10_init_147 : decode cX10_init 147 = .ok (.aload_n 0, 1) := by decide +kernel
theorem dX10_init_148 : decode cX10_init 148 = .ok (.iconst 4, 1) := by decide +kernel
theorem dX10_init_149 : decode cX10_init 149 = .ok (.newarray .int, 2) := by decide +kernel
theorem dX10_init_151 : decode cX10_init 151 = .ok (.putfield 68, 3) := by decide +kernel
theorem dX10_init_154 : decode cX10_init 154 = .ok (.aload_n 0, 1) := by decide +kernel
theorem dX10_init_155 : decode cX10_init 155 = .ok (.iconst 4, 1) := by decide +kernel
theorem dX10_init_156 : decode cX10_init 156 = .ok (.newarray .int, 2) := by decide +kernel
theorem dX10_init_158 : decode cX10_init 158 = .ok (.putfield 71, 3) := by decide +kernel
theorem dX10_init_161 : decode cX10_init 161 = .ok (.aload_n 0, 1) := by decide +kernel
theorem dX10_init_162 : decode cX10_init 162 = .ok (.bipush 24, 2) := by decide +kernel
theorem dX10_init_164 : decode cX10_init 164 = .ok (.newarray .int, 2) := by decide +kernel
theorem dX10_init_166 : decode cX10_init 166 = .ok (.putfield 74, 3) := by decide +kernel
theorem dX10_init_169 : decode cX10_init 169 = .ok (.aload_n 0, 1) := by decide +kernel
theorem dX10_init_170 : decode cX10_init 170 = .ok (.bipush 24, 2) := by decide +kernel
theorem dX10_init_172 : decode cX10_init 172 = .ok (.newarray .int, 2) := by decide +kernel
theorem dX10_init_174 : decode cX10_init 174 = .ok (.putfield 77, 3) := by decide +kernel
theorem dX10_init_177 : decode cX10_init 177 = .ok (.aload_n 0, 1) := by decide +kernel
theorem dX10_init_178 : decode cX10_init 178 = .ok (.bipush 24, 2) := by decide +kernel
theorem dX10_init_180 : decode cX10_init 180 = .ok (.newarray .int, 2) := by decide +kernel
theorem dX10_init_182 : decode cX10_init 182 = .ok (.putfield 80, 3) := by decide +kernel
theorem dX10_init_185 : decode cX10_init 185 = .ok (.aload_n 0, 1) := by decide +kernel
theorem dX10_init_186 : decode cX10_init 186 = .ok (.bipush 15, 2) := by decide +kernel
theorem dX10_init_188 : decode cX10_init 188 = .ok (.newarray .int, 2) := by decide +kernel
theorem dX10_init_190 : decode cX10_init 190 = .ok (.putfield 83, 3) := by decide +kernel
theorem dX10_init_193 : decode cX10_init 193 = .ok (.aload_n 0, 1) := by decide +kernel
theorem dX10_init_194 : decode cX10_init 194 = .ok (.sipush 336, 3) := by decide +kernel
theorem dX10_init_197 : decode cX10_init 197 = .ok (.newarray .int, 2) := by decide +kernel
theorem dX10_init_199 : decode cX10_init 199 = .ok (.putfield 86, 3) := by decide +kernel
theorem dX10_init_202 : decode cX10_init 202 = .ok (.aload_n 0, 1) := by decide +kernel
theorem dX10_init_203 : decode cX10_init 203 = .ok (.bipush 64, 2) := by decide +kernel
theorem dX10_init_205 : decode cX10_init 205 = .ok (.newarray .int, 2) := by decide +kernel
theorem dX10_init_207 : decode cX10_init 207 = .ok (.putfield 89, 3) := by decide +kernel
theorem dX10_init_210 : decode cX10_init 210 = .ok (.aload_n 0, 1) := by decide +kernel
theorem dX10_init_211 : decode cX10_init 211 = .ok (.bipush 12, 2) := by decide +kernel
theorem dX10_init_213 : decode cX10_init 213 = .ok (.newarray .int, 2) := by decide +kernel
theorem dX10_init_215 : decode cX10_init 215 = .ok (.putfield 92, 3) := by decide +kernel
theorem dX10_init_218 : decode cX10_init 218 = .ok (.aload_n 0, 1) := by decide +kernel
theorem dX10_init_219 : decode cX10_init 219 = .ok (.bipush 12, 2) := by decide +kernel
theorem dX10_init_221 : decode cX10_init 221 = .ok (.newarray .int, 2) := by decide +kernel
theorem dX10_init_223 : decode cX10_init 223 = .ok (.putfield 95, 3) := by decide +kernel
theorem dX10_init_226 : decode cX10_init 226 = .ok (.aload_n 0, 1) := by decide +kernel
theorem dX10_init_227 : decode cX10_init 227 = .ok (.sipush 169, 3) := by decide +kernel
theorem dX10_init_230 : decode cX10_init 230 = .ok (.newarray .int, 2) := by decide +kernel
theorem dX10_init_232 : decode cX10_init 232 = .ok (.putfield 98, 3) := by decide +kernel
theorem dX10_init_235 : decode cX10_init 235 = .ok (.aload_n 0, 1) := by decide +kernel
theorem dX10_init_236 : decode cX10_init 236 = .ok (.iconst 4, 1) := by decide +kernel
theorem dX10_init_237 : decode cX10_init 237 = .ok (.newarray .int, 2) := by decide +kernel
theorem dX10_init_239 : decode cX10_init 239 = .ok (.putfield 101, 3) := by decide +kernel
theorem dX10_init_242 : decode cX10_init 242 = .ok (.aload_n 0, 1) := by decide +kernel
theorem dX10_init_243 : decode cX10_init 243 = .ok (.sipush 4800, 3) := by decide +kernel
theorem dX10_init_246 : decode cX10_init 246 = .ok (.newarray .int, 2) := by decide +kernel
theorem dX10_init_248 : decode cX10_init 248 = .ok (.putfield 104, 3) := by decide +kernel
theorem dX10_init_251 : decode cX10_init 251 = .ok (.aload_n 0, 1) := by decide +kernel
theorem dX10_init_252 : decode cX10_init 252 = .ok (.invokevirtual 107, 3) := by decide +kernel
theorem dX10_init_255 : decode cX10_init 255 = .ok (.return_, 1) := by decide +kernel
end
section
abbrev mF (ad : Nat → Nat) (i : Nat) (F : Nat → Int) : List Value := [.ref (ad (i + 1)), .ref (ad (i + 2)), .ref (ad (i + 3)), .ref (ad (i + 4)), .ref (ad (i + 5)), .ref (ad (i + 6)), .ref (ad (i + 7)), .ref (ad (i + 8)), .ref (ad (i + 9)), .ref (ad (i + 10)), .ref (ad (i + 11)), .ref (ad (i + 12)), .int (zI (F 12)), .int (zI (F 13)), .int (zI (F 14)), .int (zI (F 15)), .int (zI (F 16)), .int (zI (F 17)), .int (zI (F 18)), .int (zI (F 19)), .int (zI (F 20)), .int (zI (F 21)), .ref (ad (i + 13)), .int (zI (F 23)), .int (zI (F 24)), .int (zI (F 25)), .int (zI (F 26)), .int (zI (F 27)), .int (zI (F 28)), .int (zI (F 29)), .ref (ad (i + 14)), .ref (ad (i + 15)), .int (zI (F 32)), .int (zI (F 33)), .int (zI (F 34)), .int (zI (F 35)), .int (zI (F 36)), .int (zI (F 37)), .int (zI (F 38)), .ref (ad (i + 16)), .ref (ad (i + 17)), .ref (ad (i + 18)), .ref (ad (i + 19)), .ref (ad (i + 20)), .ref (ad (i + 21)), .ref (ad (i + 22)), .ref (ad (i + 23)), .int (zI (F 47)), .int (zI (F 48)), .int (zI (F 49)), .ref (ad (i + 24)), .int (zI (F 51)), .ref (ad (i + 25)), .ref (ad (i + 26)), .ref (ad (i + 27)), .int (zI (F 55)), .int (zI (F 56)), .ref (ad (i + 28)), .ref (ad (i + 29)), .int (zI (F 59))]
abbrev mC (ad : Nat → Nat) (i : Nat) (F : Nat → Int) : va_E := oC 12 (mF ad i F)
def mLen (k : Nat) : Nat := [0, 29200, 4, 4, 24, 24, 24, 15, 16, 16, 16, 6, 1080, 900, 14, 12, 4, 4, 4, 24, 24, 24, 15, 336, 64, 12, 12, 169, 4, 4800].getD k 0
def isMod (cs : Nat → ClassId) (ad : Nat → Nat) (g : Nat → va_E) (i : Nat) (F : Nat → Int) (B : Nat → Nat → Int) : Prop := g i = mC ad i F ∧ ∀ k, 1 ≤ k → k ≤ 29 → g (i + k) = iA cs (mLen k) (B k)
theorem isMod.mv {cs : Nat → ClassId} {ad ad' : Nat → Nat} {g g' : Nat → va_E} {i : Nat} {F : Nat → Int} {B : Nat → Nat → Int} (hA : ∀ j, i ≤ j → j < i + 30 → ad' j = ad j) (hG : ∀ j, i ≤ j → j < i + 30 → g' j = g j) (h : isMod cs ad g i F B) : isMod cs ad' g' i F B := by
  obtain ⟨h1, h2⟩ := h
  refine ⟨?_, fun k a b => by rw [hG _ (by omega) (by omega)]; exact h2 k a b⟩
  rw [hG _ (by omega) (by omega), h1]
  show oC 12 (mF ad i F) = oC 12 (mF ad' i F)
  have e : ∀ k, 1 ≤ k → k ≤ 29 → ad (i + k) = ad' (i + k) := fun k a b => (hA _ (by omega) (by omega)).symm
  simp only [mF, e 1 (by decide) (by decide), e 2 (by decide) (by decide), e 3 (by decide) (by decide), e 4 (by decide) (by decide), e 5 (by decide) (by decide), e 6 (by decide) (by decide), e 7 (by decide) (by decide), e 8 (by decide) (by decide), e 9 (by decide) (by decide), e 10 (by decide) (by decide), e 11 (by decide) (by decide), e 12 (by decide) (by decide), e 13 (by decide) (by decide), e 14 (by decide) (by decide), e 15 (by decide) (by decide), e 16 (by decide) (by decide), e 17 (by decide) (by decide), e 18 (by decide) (by decide), e 19 (by decide) (by decide), e 20 (by decide) (by decide), e 21 (by decide) (by decide), e 22 (by decide) (by decide), e 23 (by decide) (by decide), e 24 (by decide) (by decide), e 25 (by decide) (by decide), e 26 (by decide) (by decide), e 27 (by decide) (by decide), e 28 (by decide) (by decide), e 29 (by decide) (by decide)]
set_option maxRecDepth 100000 in
set_option maxHeartbeats 4000000 in
theorem c_X10_laysTable (l : Launch) (D : va_G) (A : Nat → Prop) (cs : Nat → ClassId) (tt : Nat) (N : Nat) (ad : Nat → Nat) (g : Nat → va_E) (i : Nat) (F r : Nat → Int) (hi : i + 7 < N) (hg : g i = mC ad i F) (ht : g (i + 7) = iA cs 15 r) : zM l yX10_laysTable cX10_laysTable 2 none ({ frames := 1, cells := 0, slots := 0, locals := 60 } : Room) D A cs tt N ad g [.ref (ad i)] (rV0 N ad fun g' => (∀ j, j ≠ i + 7 → g' j = g j) ∧ ∃ r' : Nat → Int, g' (i + 7) = iA cs 15 r' ∧ ∀ k, k < 15 → r' k = tabZ k) := by
  have hai : zAt ad i (ad i) := rfl
  have hat : zAt ad (i + 7) (ad (i + 7)) := rfl
  refine z_of (by decide) (Nat.le_of_ble_eq_true rfl) ?_
  intro p e s m below meth c C hr hlk hnm
  refine z_lv (lv' := [(0, .ref (ad i))]) [0] rfl ?_
  refine z_iconst (z := 0) C dX10_laysTable_0 rfl ?_
  refine z_istore_n (lv' := [(1, .int (zI (0))), (0, .ref (ad i))]) C dX10_laysTable_1 rfl (by decide) rfl ?_
  refine z_iload_n C 0 dX10_laysTable_2 rfl ?_
  refine z_iconst (z := 5) C dX10_laysTable_3 rfl ?_
  refine z_icmp_ge (tgt := 157) C dX10_laysTable_4 (by decide) (by omega) (by omega) (fun h => absurd h (by omega)) (fun _ => ?_)
  refine z_aload_n C 1 dX10_laysTable_7 rfl ?_
  refine z_get (v := .ref (ad (i + 7))) C (by omega) hai hg rfl inA_X10 6 (by decide) q_1465 rfl rfl dX10_laysTable_8 ?_
  refine z_iload_n C 0 dX10_laysTable_11 rfl ?_
  refine z_iload_n C 0 dX10_laysTable_12 rfl ?_
  refine z_if_ne (tgt := 20) C dX10_laysTable_13 (by decide) (by omega) (fun h => absurd h (by omega)) (fun _ => ?_)
  refine z_iconst (z := 3) C dX10_laysTable_16 rfl ?_
  refine z_goto (tgt := 50) C dX10_laysTable_17 (by decide) ?_
  refine z_iast C (by omega) hat ht (0) (by omega) (by omega) (by decide) dX10_laysTable_50 (fun g1 eg2 => ?_)
  have hg3 := up_s eg2
  refine z_aload_n C 1 dX10_laysTable_51 rfl ?_
  have hg4 := up_n eg2 hg (ne_o (i := i) (c := 0) (d := 7) rfl)
  refine z_get (v := .ref (ad (i + 7))) C (by omega) hai hg4 rfl inA_X10 6 (by decide) q_1465 rfl rfl dX10_laysTable_52 ?_
  refine z_iconst (z := 5) C dX10_laysTable_55 rfl ?_
  refine z_iload_n C 0 dX10_laysTable_56 rfl ?_
  refine z_iadd C dX10_laysTable_57 ?_
  refine z_iload_n C 0 dX10_laysTable_58 rfl ?_
  refine z_if_ne (tgt := 66) C dX10_laysTable_59 (by decide) (by omega) (fun h => absurd h (by omega)) (fun _ => ?_)
  refine z_iconst (z := 5) C dX10_laysTable_62 rfl ?_
  refine z_goto (tgt := 95) C dX10_laysTable_63 (by decide) ?_
  refine z_iast C (by omega) hat hg3 (5) (by omega) (by omega) (by decide) dX10_laysTable_95 (fun g5 eg6 => ?_)
  have hg7 := up_s eg6
  refine z_aload_n C 1 dX10_laysTable_96 rfl ?_
  have hg8 := up_n eg6 hg4 (ne_o (i := i) (c := 0) (d := 7) rfl)
  refine z_get (v := .ref (ad (i + 7))) C (by omega) hai hg8 rfl inA_X10 6 (by decide) q_1465 rfl rfl dX10_laysTable_97 ?_
  refine z_bipush (z := 10) C dX10_laysTable_100 (by decide) ?_
  refine z_iload_n C 0 dX10_laysTable_102 rfl ?_
  refine z_iadd C dX10_laysTable_103 ?_
  refine z_iload_n C 0 dX10_laysTable_104 rfl ?_
  refine z_if_ne (tgt := 114) C dX10_laysTable_105 (by decide) (by omega) (fun h => absurd h (by omega)) (fun _ => ?_)
  refine z_sipush (z := 1000) C dX10_laysTable_108 (by decide) ?_
  refine z_goto (tgt := 150) C dX10_laysTable_111 (by decide) ?_
  refine z_iast C (by omega) hat hg7 (10) (by omega) (by omega) (by decide) dX10_laysTable_150 (fun g9 eg10 => ?_)
  have hg11 := up_s eg10
  refine z_iinc (z := 1) (lv' := [(1, .int (zI (1))), (0, .ref (ad i))]) (j := 0) C dX10_laysTable_151 rfl (congrArg zI (by omega)) (by decide) rfl ?_
  refine z_goto (tgt := 2) C dX10_laysTable_154 (by decide) ?_
  refine z_iload_n C 0 dX10_laysTable_2 rfl ?_
  refine z_iconst (z := 5) C dX10_laysTable_3 rfl ?_
  refine z_icmp_ge (tgt := 157) C dX10_laysTable_4 (by decide) (by omega) (by omega) (fun h => absurd h (by omega)) (fun _ => ?_)
  refine z_aload_n C 1 dX10_laysTable_7 rfl ?_
  have hg12 := up_n eg10 hg8 (ne_o (i := i) (c := 0) (d := 7) rfl)
  refine z_get (v := .ref (ad (i + 7))) C (by omega) hai hg12 rfl inA_X10 6 (by decide) q_1465 rfl rfl dX10_laysTable_8 ?_
  refine z_iload_n C 0 dX10_laysTable_11 rfl ?_
  refine z_iload_n C 0 dX10_laysTable_12 rfl ?_
  refine z_if_ne (tgt := 20) C dX10_laysTable_13 (by decide) (by omega) (fun _ => ?_) (fun h => absurd h (by omega))
  refine z_iload_n C 0 dX10_laysTable_20 rfl ?_
  refine z_iconst (z := 1) C dX10_laysTable_21 rfl ?_
  refine z_icmp_ne (tgt := 30) C dX10_laysTable_22 (by decide) (by omega) (by omega) (fun h => absurd h (by omega)) (fun _ => ?_)
  refine z_bipush (z := 12) C dX10_laysTable_25 (by decide) ?_
  refine z_goto (tgt := 50) C dX10_laysTable_27 (by decide) ?_
  refine z_iast C (by omega) hat hg11 (1) (by omega) (by omega) (by decide) dX10_laysTable_50 (fun g13 eg14 => ?_)
  have hg15 := up_s eg14
  refine z_aload_n C 1 dX10_laysTable_51 rfl ?_
  have hg16 := up_n eg14 hg12 (ne_o (i := i) (c := 0) (d := 7) rfl)
  refine z_get (v := .ref (ad (i + 7))) C (by omega) hai hg16 rfl inA_X10 6 (by decide) q_1465 rfl rfl dX10_laysTable_52 ?_
  refine z_iconst (z := 5) C dX10_laysTable_55 rfl ?_
  refine z_iload_n C 0 dX10_laysTable_56 rfl ?_
  refine z_iadd C dX10_laysTable_57 ?_
  refine z_iload_n C 0 dX10_laysTable_58 rfl ?_
  refine z_if_ne (tgt := 66) C dX10_laysTable_59 (by decide) (by omega) (fun _ => ?_) (fun h => absurd h (by omega))
  refine z_iload_n C 0 dX10_laysTable_66 rfl ?_
  refine z_iconst (z := 1) C dX10_laysTable_67 rfl ?_
  refine z_icmp_ne (tgt := 76) C dX10_laysTable_68 (by decide) (by omega) (by omega) (fun h => absurd h (by omega)) (fun _ => ?_)
  refine z_bipush (z := 8) C dX10_laysTable_71 (by decide) ?_
  refine z_goto (tgt := 95) C dX10_laysTable_73 (by decide) ?_
  refine z_iast C (by omega) hat hg15 (6) (by omega) (by omega) (by decide) dX10_laysTable_95 (fun g17 eg18 => ?_)
  have hg19 := up_s eg18
  refine z_aload_n C 1 dX10_laysTable_96 rfl ?_
  have hg20 := up_n eg18 hg16 (ne_o (i := i) (c := 0) (d := 7) rfl)
  refine z_get (v := .ref (ad (i + 7))) C (by omega) hai hg20 rfl inA_X10 6 (by decide) q_1465 rfl rfl dX10_laysTable_97 ?_
  refine z_bipush (z := 10) C dX10_laysTable_100 (by decide) ?_
  refine z_iload_n C 0 dX10_laysTable_102 rfl ?_
  refine z_iadd C dX10_laysTable_103 ?_
  refine z_iload_n C 0 dX10_laysTable_104 rfl ?_
  refine z_if_ne (tgt := 114) C dX10_laysTable_105 (by decide) (by omega) (fun _ => ?_) (fun h => absurd h (by omega))
  refine z_iload_n C 0 dX10_laysTable_114 rfl ?_
  refine z_iconst (z := 1) C dX10_laysTable_115 rfl ?_
  refine z_icmp_ne (tgt := 125) C dX10_laysTable_116 (by decide) (by omega) (by omega) (fun h => absurd h (by omega)) (fun _ => ?_)
  refine z_sipush (z := 4000) C dX10_laysTable_119 (by decide) ?_
  refine z_goto (tgt := 150) C dX10_laysTable_122 (by decide) ?_
  refine z_iast C (by omega) hat hg19 (11) (by omega) (by omega) (by decide) dX10_laysTable_150 (fun g21 eg22 => ?_)
  have hg23 := up_s eg22
  refine z_iinc (z := 2) (lv' := [(1, .int (zI (2))), (0, .ref (ad i))]) (j := 0) C dX10_laysTable_151 rfl (congrArg zI (by omega)) (by decide) rfl ?_
  refine z_goto (tgt := 2) C dX10_laysTable_154 (by decide) ?_
  refine z_iload_n C 0 dX10_laysTable_2 rfl ?_
  refine z_iconst (z := 5) C dX10_laysTable_3 rfl ?_
  refine z_icmp_ge (tgt := 157) C dX10_laysTable_4 (by decide) (by omega) (by omega) (fun h => absurd h (by omega)) (fun _ => ?_)
  refine z_aload_n C 1 dX10_laysTable_7 rfl ?_
  have hg24 := up_n eg22 hg20 (ne_o (i := i) (c := 0) (d := 7) rfl)
  refine z_get (v := .ref (ad (i + 7))) C (by omega) hai hg24 rfl inA_X10 6 (by decide) q_1465 rfl rfl dX10_laysTable_8 ?_
  refine z_iload_n C 0 dX10_laysTable_11 rfl ?_
  refine z_iload_n C 0 dX10_laysTable_12 rfl ?_
  refine z_if_ne (tgt := 20) C dX10_laysTable_13 (by decide) (by omega) (fun _ => ?_) (fun h => absurd h (by omega))
  refine z_iload_n C 0 dX10_laysTable_20 rfl ?_
  refine z_iconst (z := 1) C dX10_laysTable_21 rfl ?_
  refine z_icmp_ne (tgt := 30) C dX10_laysTable_22 (by decide) (by omega) (by omega) (fun _ => ?_) (fun h => absurd h (by omega))
  refine z_iload_n C 0 dX10_laysTable_30 rfl ?_
  refine z_iconst (z := 2) C dX10_laysTable_31 rfl ?_
  refine z_icmp_ne (tgt := 39) C dX10_laysTable_32 (by decide) (by omega) (by omega) (fun h => absurd h (by omega)) (fun _ => ?_)
  refine z_iconst (z := 4) C dX10_laysTable_35 rfl ?_
  refine z_goto (tgt := 50) C dX10_laysTable_36 (by decide) ?_
  refine z_iast C (by omega) hat hg23 (2) (by omega) (by omega) (by decide) dX10_laysTable_50 (fun g25 eg26 => ?_)
  have hg27 := up_s eg26
  refine z_aload_n C 1 dX10_laysTable_51 rfl ?_
  have hg28 := up_n eg26 hg24 (ne_o (i := i) (c := 0) (d := 7) rfl)
  refine z_get (v := .ref (ad (i + 7))) C (by omega) hai hg28 rfl inA_X10 6 (by decide) q_1465 rfl rfl dX10_laysTable_52 ?_
  refine z_iconst (z := 5) C dX10_laysTable_55 rfl ?_
  refine z_iload_n C 0 dX10_laysTable_56 rfl ?_
  refine z_iadd C dX10_laysTable_57 ?_
  refine z_iload_n C 0 dX10_laysTable_58 rfl ?_
  refine z_if_ne (tgt := 66) C dX10_laysTable_59 (by decide) (by omega) (fun _ => ?_) (fun h => absurd h (by omega))
  refine z_iload_n C 0 dX10_laysTable_66 rfl ?_
  refine z_iconst (z := 1) C dX10_laysTable_67 rfl ?_
  refine z_icmp_ne (tgt := 76) C dX10_laysTable_68 (by decide) (by omega) (by omega) (fun _ => ?_) (fun h => absurd h (by omega))
  refine z_iload_n C 0 dX10_laysTable_76 rfl ?_
  refine z_iconst (z := 2) C dX10_laysTable_77 rfl ?_
  refine z_icmp_ne (tgt := 85) C dX10_laysTable_78 (by decide) (by omega) (by omega) (fun h => absurd h (by omega)) (fun _ => ?_)
  refine z_iconst (z := 3) C dX10_laysTable_81 rfl ?_
  refine z_goto (tgt := 95) C dX10_laysTable_82 (by decide) ?_
  refine z_iast C (by omega) hat hg27 (7) (by omega) (by omega) (by decide) dX10_laysTable_95 (fun g29 eg30 => ?_)
  have hg31 := up_s eg30
  refine z_aload_n C 1 dX10_laysTable_96 rfl ?_
  have hg32 := up_n eg30 hg28 (ne_o (i := i) (c := 0) (d := 7) rfl)
  refine z_get (v := .ref (ad (i + 7))) C (by omega) hai hg32 rfl inA_X10 6 (by decide) q_1465 rfl rfl dX10_laysTable_97 ?_
  refine z_bipush (z := 10) C dX10_laysTable_100 (by decide) ?_
  refine z_iload_n C 0 dX10_laysTable_102 rfl ?_
  refine z_iadd C dX10_laysTable_103 ?_
  refine z_iload_n C 0 dX10_laysTable_104 rfl ?_
  refine z_if_ne (tgt := 114) C dX10_laysTable_105 (by decide) (by omega) (fun _ => ?_) (fun h => absurd h (by omega))
  refine z_iload_n C 0 dX10_laysTable_114 rfl ?_
  refine z_iconst (z := 1) C dX10_laysTable_115 rfl ?_
  refine z_icmp_ne (tgt := 125) C dX10_laysTable_116 (by decide) (by omega) (by omega) (fun _ => ?_) (fun h => absurd h (by omega))
  refine z_iload_n C 0 dX10_laysTable_125 rfl ?_
  refine z_iconst (z := 2) C dX10_laysTable_126 rfl ?_
  refine z_icmp_ne (tgt := 136) C dX10_laysTable_127 (by decide) (by omega) (by omega) (fun h => absurd h (by omega)) (fun _ => ?_)
  refine z_sipush (z := 6000) C dX10_laysTable_130 (by decide) ?_
  refine z_goto (tgt := 150) C dX10_laysTable_133 (by decide) ?_
  refine z_iast C (by omega) hat hg31 (12) (by omega) (by omega) (by decide) dX10_laysTable_150 (fun g33 eg34 => ?_)
  have hg35 := up_s eg34
  refine z_iinc (z := 3) (lv' := [(1, .int (zI (3))), (0, .ref (ad i))]) (j := 0) C dX10_laysTable_151 rfl (congrArg zI (by omega)) (by decide) rfl ?_
  refine z_goto (tgt := 2) C dX10_laysTable_154 (by decide) ?_
  refine z_iload_n C 0 dX10_laysTable_2 rfl ?_
  refine z_iconst (z := 5) C dX10_laysTable_3 rfl ?_
  refine z_icmp_ge (tgt := 157) C dX10_laysTable_4 (by decide) (by omega) (by omega) (fun h => absurd h (by omega)) (fun _ => ?_)
  refine z_aload_n C 1 dX10_laysTable_7 rfl ?_
  have hg36 := up_n eg34 hg32 (ne_o (i := i) (c := 0) (d := 7) rfl)
  refine z_get (v := .ref (ad (i + 7))) C (by omega) hai hg36 rfl inA_X10 6 (by decide) q_1465 rfl rfl dX10_laysTable_8 ?_
  refine z_iload_n C 0 dX10_laysTable_11 rfl ?_
  refine z_iload_n C 0 dX10_laysTable_12 rfl ?_
  refine z_if_ne (tgt := 20) C dX10_laysTable_13 (by decide) (by omega) (fun _ => ?_) (fun h => absurd h (by omega))
  refine z_iload_n C 0 dX10_laysTable_20 rfl ?_
  refine z_iconst (z := 1) C dX10_laysTable_21 rfl ?_
  refine z_icmp_ne (tgt := 30) C dX10_laysTable_22 (by decide) (by omega) (by omega) (fun _ => ?_) (fun h => absurd h (by omega))
  refine z_iload_n C 0 dX10_laysTable_30 rfl ?_
  refine z_iconst (z := 2) C dX10_laysTable_31 rfl ?_
  refine z_icmp_ne (tgt := 39) C dX10_laysTable_32 (by decide) (by omega) (by omega) (fun _ => ?_) (fun h => absurd h (by omega))
  refine z_iload_n C 0 dX10_laysTable_39 rfl ?_
  refine z_iconst (z := 3) C dX10_laysTable_40 rfl ?_
  refine z_icmp_ne (tgt := 49) C dX10_laysTable_41 (by decide) (by omega) (by omega) (fun h => absurd h (by omega)) (fun _ => ?_)
  refine z_bipush (z := 40) C dX10_laysTable_44 (by decide) ?_
  refine z_goto (tgt := 50) C dX10_laysTable_46 (by decide) ?_
  refine z_iast C (by omega) hat hg35 (3) (by omega) (by omega) (by decide) dX10_laysTable_50 (fun g37 eg38 => ?_)
  have hg39 := up_s eg38
  refine z_aload_n C 1 dX10_laysTable_51 rfl ?_
  have hg40 := up_n eg38 hg36 (ne_o (i := i) (c := 0) (d := 7) rfl)
  refine z_get (v := .ref (ad (i + 7))) C (by omega) hai hg40 rfl inA_X10 6 (by decide) q_1465 rfl rfl dX10_laysTable_52 ?_
  refine z_iconst (z := 5) C dX10_laysTable_55 rfl ?_
  refine z_iload_n C 0 dX10_laysTable_56 rfl ?_
  refine z_iadd C dX10_laysTable_57 ?_
  refine z_iload_n C 0 dX10_laysTable_58 rfl ?_
  refine z_if_ne (tgt := 66) C dX10_laysTable_59 (by decide) (by omega) (fun _ => ?_) (fun h => absurd h (by omega))
  refine z_iload_n C 0 dX10_laysTable_66 rfl ?_
  refine z_iconst (z := 1) C dX10_laysTable_67 rfl ?_
  refine z_icmp_ne (tgt := 76) C dX10_laysTable_68 (by decide) (by omega) (by omega) (fun _ => ?_) (fun h => absurd h (by omega))
  refine z_iload_n C 0 dX10_laysTable_76 rfl ?_
  refine z_iconst (z := 2) C dX10_laysTable_77 rfl ?_
  refine z_icmp_ne (tgt := 85) C dX10_laysTable_78 (by decide) (by omega) (by omega) (fun _ => ?_) (fun h => absurd h (by omega))
  refine z_iload_n C 0 dX10_laysTable_85 rfl ?_
  refine z_iconst (z := 3) C dX10_laysTable_86 rfl ?_
  refine z_icmp_ne (tgt := 94) C dX10_laysTable_87 (by decide) (by omega) (by omega) (fun h => absurd h (by omega)) (fun _ => ?_)
  refine z_iconst (z := 2) C dX10_laysTable_90 rfl ?_
  refine z_goto (tgt := 95) C dX10_laysTable_91 (by decide) ?_
  refine z_iast C (by omega) hat hg39 (8) (by omega) (by omega) (by decide) dX10_laysTable_95 (fun g41 eg42 => ?_)
  have hg43 := up_s eg42
  refine z_aload_n C 1 dX10_laysTable_96 rfl ?_
  have hg44 := up_n eg42 hg40 (ne_o (i := i) (c := 0) (d := 7) rfl)
  refine z_get (v := .ref (ad (i + 7))) C (by omega) hai hg44 rfl inA_X10 6 (by decide) q_1465 rfl rfl dX10_laysTable_97 ?_
  refine z_bipush (z := 10) C dX10_laysTable_100 (by decide) ?_
  refine z_iload_n C 0 dX10_laysTable_102 rfl ?_
  refine z_iadd C dX10_laysTable_103 ?_
  refine z_iload_n C 0 dX10_laysTable_104 rfl ?_
  refine z_if_ne (tgt := 114) C dX10_laysTable_105 (by decide) (by omega) (fun _ => ?_) (fun h => absurd h (by omega))
  refine z_iload_n C 0 dX10_laysTable_114 rfl ?_
  refine z_iconst (z := 1) C dX10_laysTable_115 rfl ?_
  refine z_icmp_ne (tgt := 125) C dX10_laysTable_116 (by decide) (by omega) (by omega) (fun _ => ?_) (fun h => absurd h (by omega))
  refine z_iload_n C 0 dX10_laysTable_125 rfl ?_
  refine z_iconst (z := 2) C dX10_laysTable_126 rfl ?_
  refine z_icmp_ne (tgt := 136) C dX10_laysTable_127 (by decide) (by omega) (by omega) (fun _ => ?_) (fun h => absurd h (by omega))
  refine z_iload_n C 0 dX10_laysTable_136 rfl ?_
  refine z_iconst (z := 3) C dX10_laysTable_137 rfl ?_
  refine z_icmp_ne (tgt := 147) C dX10_laysTable_138 (by decide) (by omega) (by omega) (fun h => absurd h (by omega)) (fun _ => ?_)
  refine z_sipush (z := 9000) C dX10_laysTable_141 (by decide) ?_
  refine z_goto (tgt := 150) C dX10_laysTable_144 (by decide) ?_
  refine z_iast C (by omega) hat hg43 (13) (by omega) (by omega) (by decide) dX10_laysTable_150 (fun g45 eg46 => ?_)
  have hg47 := up_s eg46
  refine z_iinc (z := 4) (lv' := [(1, .int (zI (4))), (0, .ref (ad i))]) (j := 0) C dX10_laysTable_151 rfl (congrArg zI (by omega)) (by decide) rfl ?_
  refine z_goto (tgt := 2) C dX10_laysTable_154 (by decide) ?_
  refine z_iload_n C 0 dX10_laysTable_2 rfl ?_
  refine z_iconst (z := 5) C dX10_laysTable_3 rfl ?_
  refine z_icmp_ge (tgt := 157) C dX10_laysTable_4 (by decide) (by omega) (by omega) (fun h => absurd h (by omega)) (fun _ => ?_)
  refine z_aload_n C 1 dX10_laysTable_7 rfl ?_
  have hg48 := up_n eg46 hg44 (ne_o (i := i) (c := 0) (d := 7) rfl)
  refine z_get (v := .ref (ad (i + 7))) C (by omega) hai hg48 rfl inA_X10 6 (by decide) q_1465 rfl rfl dX10_laysTable_8 ?_
  refine z_iload_n C 0 dX10_laysTable_11 rfl ?_
  refine z_iload_n C 0 dX10_laysTable_12 rfl ?_
  refine z_if_ne (tgt := 20) C dX10_laysTable_13 (by decide) (by omega) (fun _ => ?_) (fun h => absurd h (by omega))
  refine z_iload_n C 0 dX10_laysTable_20 rfl ?_
  refine z_iconst (z := 1) C dX10_laysTable_21 rfl ?_
  refine z_icmp_ne (tgt := 30) C dX10_laysTable_22 (by decide) (by omega) (by omega) (fun _ => ?_) (fun h => absurd h (by omega))
  refine z_iload_n C 0 dX10_laysTable_30 rfl ?_
  refine z_iconst (z := 2) C dX10_laysTable_31 rfl ?_
  refine z_icmp_ne (tgt := 39) C dX10_laysTable_32 (by decide) (by omega) (by omega) (fun _ => ?_) (fun h => absurd h (by omega))
  refine z_iload_n C 0 dX10_laysTable_39 rfl ?_
  refine z_iconst (z := 3) C dX10_laysTable_40 rfl ?_
  refine z_icmp_ne (tgt := 49) C dX10_laysTable_41 (by decide) (by omega) (by omega) (fun _ => ?_) (fun h => absurd h (by omega))
  refine z_iconst (z := 1) C dX10_laysTable_49 rfl ?_
  refine z_iast C (by omega) hat hg47 (4) (by omega) (by omega) (by decide) dX10_laysTable_50 (fun g49 eg50 => ?_)
  have hg51 := up_s eg50
  refine z_aload_n C 1 dX10_laysTable_51 rfl ?_
  have hg52 := up_n eg50 hg48 (ne_o (i := i) (c := 0) (d := 7) rfl)
  refine z_get (v := .ref (ad (i + 7))) C (by omega) hai hg52 rfl inA_X10 6 (by decide) q_1465 rfl rfl dX10_laysTable_52 ?_
  refine z_iconst (z := 5) C dX10_laysTable_55 rfl ?_
  refine z_iload_n C 0 dX10_laysTable_56 rfl ?_
  refine z_iadd C dX10_laysTable_57 ?_
  refine z_iload_n C 0 dX10_laysTable_58 rfl ?_
  refine z_if_ne (tgt := 66) C dX10_laysTable_59 (by decide) (by omega) (fun _ => ?_) (fun h => absurd h (by omega))
  refine z_iload_n C 0 dX10_laysTable_66 rfl ?_
  refine z_iconst (z := 1) C dX10_laysTable_67 rfl ?_
  refine z_icmp_ne (tgt := 76) C dX10_laysTable_68 (by decide) (by omega) (by omega) (fun _ => ?_) (fun h => absurd h (by omega))
  refine z_iload_n C 0 dX10_laysTable_76 rfl ?_
  refine z_iconst (z := 2) C dX10_laysTable_77 rfl ?_
  refine z_icmp_ne (tgt := 85) C dX10_laysTable_78 (by decide) (by omega) (by omega) (fun _ => ?_) (fun h => absurd h (by omega))
  refine z_iload_n C 0 dX10_laysTable_85 rfl ?_
  refine z_iconst (z := 3) C dX10_laysTable_86 rfl ?_
  refine z_icmp_ne (tgt := 94) C dX10_laysTable_87 (by decide) (by omega) (by omega) (fun _ => ?_) (fun h => absurd h (by omega))
  refine z_iconst (z := 1) C dX10_laysTable_94 rfl ?_
  refine z_iast C (by omega) hat hg51 (9) (by omega) (by omega) (by decide) dX10_laysTable_95 (fun g53 eg54 => ?_)
  have hg55 := up_s eg54
  refine z_aload_n C 1 dX10_laysTable_96 rfl ?_
  have hg56 := up_n eg54 hg52 (ne_o (i := i) (c := 0) (d := 7) rfl)
  refine z_get (v := .ref (ad (i + 7))) C (by omega) hai hg56 rfl inA_X10 6 (by decide) q_1465 rfl rfl dX10_laysTable_97 ?_
  refine z_bipush (z := 10) C dX10_laysTable_100 (by decide) ?_
  refine z_iload_n C 0 dX10_laysTable_102 rfl ?_
  refine z_iadd C dX10_laysTable_103 ?_
  refine z_iload_n C 0 dX10_laysTable_104 rfl ?_
  refine z_if_ne (tgt := 114) C dX10_laysTable_105 (by decide) (by omega) (fun _ => ?_) (fun h => absurd h (by omega))
  refine z_iload_n C 0 dX10_laysTable_114 rfl ?_
  refine z_iconst (z := 1) C dX10_laysTable_115 rfl ?_
  refine z_icmp_ne (tgt := 125) C dX10_laysTable_116 (by decide) (by omega) (by omega) (fun _ => ?_) (fun h => absurd h (by omega))
  refine z_iload_n C 0 dX10_laysTable_125 rfl ?_
  refine z_iconst (z := 2) C dX10_laysTable_126 rfl ?_
  refine z_icmp_ne (tgt := 136) C dX10_laysTable_127 (by decide) (by omega) (by omega) (fun _ => ?_) (fun h => absurd h (by omega))
  refine z_iload_n C 0 dX10_laysTable_136 rfl ?_
  refine z_iconst (z := 3) C dX10_laysTable_137 rfl ?_
  refine z_icmp_ne (tgt := 147) C dX10_laysTable_138 (by decide) (by omega) (by omega) (fun _ => ?_) (fun h => absurd h (by omega))
  refine z_sipush (z := 8000) C dX10_laysTable_147 (by decide) ?_
  refine z_iast C (by omega) hat hg55 (14) (by omega) (by omega) (by decide) dX10_laysTable_150 (fun g57 eg58 => ?_)
  have hg59 := up_s eg58
  refine z_iinc (z := 5) (lv' := [(1, .int (zI (5))), (0, .ref (ad i))]) (j := 0) C dX10_laysTable_151 rfl (congrArg zI (by omega)) (by decide) rfl ?_
  refine z_goto (tgt := 2) C dX10_laysTable_154 (by decide) ?_
  refine z_iload_n C 0 dX10_laysTable_2 rfl ?_
  refine z_iconst (z := 5) C dX10_laysTable_3 rfl ?_
  refine z_icmp_ge (tgt := 157) C dX10_laysTable_4 (by decide) (by omega) (by omega) (fun _ => ?_) (fun h => absurd h (by omega))
  have hk15 : ∀ k, k < 15 → (uZ (uZ (uZ (uZ (uZ (uZ (uZ (uZ (uZ (uZ (uZ (uZ (uZ (uZ (uZ (r) (0) (3)) (5) (5)) (10) (1000)) (1) (12)) (6) (8)) (11) (4000)) (2) (4)) (7) (3)) (12) (6000)) (3) (40)) (8) (2)) (13) (9000)) (4) (1)) (9) (1)) (14) (8000)) k = tabZ k := by
    intro k hk
    rcases (show k = 0 ∨ k = 1 ∨ k = 2 ∨ k = 3 ∨ k = 4 ∨ k = 5 ∨ k = 6 ∨ k = 7 ∨ k = 8 ∨ k = 9 ∨ k = 10 ∨ k = 11 ∨ k = 12 ∨ k = 13 ∨ k = 14 by omega) with rfl | rfl | rfl | rfl | rfl | rfl | rfl | rfl | rfl | rfl | rfl | rfl | rfl | rfl | rfl <;> rfl
  exact z_vret C hr hlk dX10_laysTable_157 (by decide) (by decide) (⟨rfl, rfl, rfl, fun j h1 => by rw [eg58, va_up_ne _ _ (by omega)]; rw [eg54, va_up_ne _ _ (by omega)]; rw [eg50, va_up_ne _ _ (by omega)]; rw [eg46, va_up_ne _ _ (by omega)]; rw [eg42, va_up_ne _ _ (by omega)]; rw [eg38, va_up_ne _ _ (by omega)]; rw [eg34, va_up_ne _ _ (by omega)]; rw [eg30, va_up_ne _ _ (by omega)]; rw [eg26, va_up_ne _ _ (by omega)]; rw [eg22, va_up_ne _ _ (by omega)]; rw [eg18, va_up_ne _ _ (by omega)]; rw [eg14, va_up_ne _ _ (by omega)]; rw [eg10, va_up_ne _ _ (by omega)]; rw [eg6, va_up_ne _ _ (by omega)]; rw [eg2, va_up_ne _ _ (by omega)], _, hg59, hk15⟩)

set_option maxRecDepth 100000 in
set_option maxHeartbeats 4000000 in
theorem c_X10_init (l : Launch) (D : va_G) (A : Nat → Prop) (cs : Nat → ClassId) (tt : Nat) (ad : Nat → Nat) (g : Nat → va_E) (i a : Nat) (ha : ad i = a) (hg : g i = oC 12 [.null, .null, .null, .null, .null, .null, .null, .null, .null, .null, .null, .null, .int (zI (0)), .int (zI (0)), .int (zI (0)), .int (zI (0)), .int (zI (0)), .int (zI (0)), .int (zI (0)), .int (zI (0)), .int (zI (0)), .int (zI (0)), .null, .int (zI (0)), .int (zI (0)), .int (zI (0)), .int (zI (0)), .int (zI (0)), .int (zI (0)), .int (zI (0)), .null, .null, .int (zI (0)), .int (zI (0)), .int (zI (0)), .int (zI (0)), .int (zI (0)), .int (zI (0)), .int (zI (0)), .null, .null, .null, .null, .null, .null, .null, .null, .int (zI (0)), .int (zI (0)), .int (zI (0)), .null, .int (zI (0)), .null, .null, .null, .int (zI (0)), .int (zI (0)), .null, .null, .int (zI (0))]) : zM l yX10_init cX10_init 1 none ({ frames := 2, cells := 29, slots := 36851, locals := 120 } : Room) D A cs tt (i + 1) ad g [.ref a] (rV fun N' ad' g' => N' = i + 30 ∧ (∀ j, j < i + 1 → ad' j = ad j) ∧ (∀ j, j < i + 1 → j ≠ i → g' j = g j) ∧ ∃ B : Nat → Nat → Int, isMod cs ad' g' i (fun k => if k = 24 ∨ k = 26 ∨ k = 27 then -1 else 0) B ∧ (∀ k, k < 15 → B 7 k = tabZ k) ∧ ∀ k, k ≠ 7 → ∀ j, B k j = 0) := by
  refine z_of (by decide) (Nat.le_of_ble_eq_true rfl) ?_
  intro p e s m below meth c C hr hlk hnm
  refine z_lv (lv' := [(0, .ref a)]) [0] rfl ?_
  refine z_aload_n C 0 dX10_init_0 rfl ?_
  refine z_objInit C q_1454 q_35 q_36 dX10_init_1 (Nat.le_of_ble_eq_true rfl) (Nat.le_of_ble_eq_true rfl) ?_
  refine z_aload_n C 0 dX10_init_4 rfl ?_
  refine z_sipush (z := 29200) C dX10_init_5 (by decide) ?_
  refine z_newI C 29200 rfl q_134 (by decide) (by decide) (by decide) dX10_init_8 (fun q1 ad2 g3 ea4 eg5 => ?_)
  have ha6 : zAt ad2 (i + 1) q1 := up_s ea4
  have hg7 := up_s eg5
  have ha8 : zAt ad2 (i) (a) := up_n ea4 ha (ne_o (i := i) (c := 0) (d := 1) rfl)
  have hg9 := up_n eg5 hg (ne_o (i := i) (c := 0) (d := 1) rfl)
  refine z_putF (fs' := [.ref q1, .null, .null, .null, .null, .null, .null, .null, .null, .null, .null, .null, .int (zI (0)), .int (zI (0)), .int (zI (0)), .int (zI (0)), .int (zI (0)), .int (zI (0)), .int (zI (0)), .int (zI (0)), .int (zI (0)), .int (zI (0)), .null, .int (zI (0)), .int (zI (0)), .int (zI (0)), .int (zI (0)), .int (zI (0)), .int (zI (0)), .int (zI (0)), .null, .null, .int (zI (0)), .int (zI (0)), .int (zI (0)), .int (zI (0)), .int (zI (0)), .int (zI (0)), .int (zI (0)), .null, .null, .null, .null, .null, .null, .null, .null, .int (zI (0)), .int (zI (0)), .int (zI (0)), .null, .int (zI (0)), .null, .null, .null, .int (zI (0)), .int (zI (0)), .null, .null, .int (zI (0))]) C (lt_o (i := i) (c := 0) (d := 2) rfl) ha8 hg9 tyX10 tyX10_ok nmX10 rfl inA_X10 0 (by decide) q_1459 rfl rfl hnm rfl rfl rfl (Nat.le_of_ble_eq_true rfl) rfl dX10_init_10 (fun g10 eg11 => ?_)
  have hg12 := up_s eg11
  refine z_aload_n C 0 dX10_init_13 rfl ?_
  refine z_iconst (z := 4) C dX10_init_14 rfl ?_
  refine z_newI C 4 rfl q_134 (by decide) (by decide) (by decide) dX10_init_15 (fun q13 ad14 g15 ea16 eg17 => ?_)
  have ha18 : zAt ad14 (i + 1 + 1) q13 := up_s ea16
  have hg19 := up_s eg17
  have ha20 : zAt ad14 (i) (a) := up_n ea16 ha8 (ne_o (i := i) (c := 0) (d := 2) rfl)
  have hg21 := up_n eg17 hg12 (ne_o (i := i) (c := 0) (d := 2) rfl)
  refine z_putF (fs' := [.ref q1, .ref q13, .null, .null, .null, .null, .null, .null, .null, .null, .null, .null, .int (zI (0)), .int (zI (0)), .int (zI (0)), .int (zI (0)), .int (zI (0)), .int (zI (0)), .int (zI (0)), .int (zI (0)), .int (zI (0)), .int (zI (0)), .null, .int (zI (0)), .int (zI (0)), .int (zI (0)), .int (zI (0)), .int (zI (0)), .int (zI (0)), .int (zI (0)), .null, .null, .int (zI (0)), .int (zI (0)), .int (zI (0)), .int (zI (0)), .int (zI (0)), .int (zI (0)), .int (zI (0)), .null, .null, .null, .null, .null, .null, .null, .null, .int (zI (0)), .int (zI (0)), .int (zI (0)), .null, .int (zI (0)), .null, .null, .null, .int (zI (0)), .int (zI (0)), .null, .null, .int (zI (0))]) C (lt_o (i := i) (c := 0) (d := 3) rfl) ha20 hg21 tyX10 tyX10_ok nmX10 rfl inA_X10 1 (by decide) q_1460 rfl rfl hnm rfl rfl rfl (Nat.le_of_ble_eq_true rfl) rfl dX10_init_17 (fun g22 eg23 => ?_)
  have hg24 := up_s eg23
  refine z_aload_n C 0 dX10_init_20 rfl ?_
  refine z_iconst (z := 4) C dX10_init_21 rfl ?_
  refine z_newI C 4 rfl q_134 (by decide) (by decide) (by decide) dX10_init_22 (fun q25 ad26 g27 ea28 eg29 => ?_)
  have ha30 : zAt ad26 (i + 1 + 1 + 1) q25 := up_s ea28
  have hg31 := up_s eg29
  have ha32 : zAt ad26 (i) (a) := up_n ea28 ha20 (ne_o (i := i) (c := 0) (d := 3) rfl)
  have hg33 := up_n eg29 hg24 (ne_o (i := i) (c := 0) (d := 3) rfl)
  refine z_putF (fs' := [.ref q1, .ref q13, .ref q25, .null, .null, .null, .null, .null, .null, .null, .null, .null, .int (zI (0)), .int (zI (0)), .int (zI (0)), .int (zI (0)), .int (zI (0)), .int (zI (0)), .int (zI (0)), .int (zI (0)), .int (zI (0)), .int (zI (0)), .null, .int (zI (0)), .int (zI (0)), .int (zI (0)), .int (zI (0)), .int (zI (0)), .int (zI (0)), .int (zI (0)), .null, .null, .int (zI (0)), .int (zI (0)), .int (zI (0)), .int (zI (0)), .int (zI (0)), .int (zI (0)), .int (zI (0)), .null, .null, .null, .null, .null, .null, .null, .null, .int (zI (0)), .int (zI (0)), .int (zI (0)), .null, .int (zI (0)), .null, .null, .null, .int (zI (0)), .int (zI (0)), .null, .null, .int (zI (0))]) C (lt_o (i := i) (c := 0) (d := 4) rfl) ha32 hg33 tyX10 tyX10_ok nmX10 rfl inA_X10 2 (by decide) q_1461 rfl rfl hnm rfl rfl rfl (Nat.le_of_ble_eq_true rfl) rfl dX10_init_24 (fun g34 eg35 => ?_)
  have hg36 := up_s eg35
  refine z_aload_n C 0 dX10_init_27 rfl ?_
  refine z_bipush (z := 24) C dX10_init_28 (by decide) ?_
  refine z_newI C 24 rfl q_134 (by decide) (by decide) (by decide) dX10_init_30 (fun q37 ad38 g39 ea40 eg41 => ?_)
  have ha42 : zAt ad38 (i + 1 + 1 + 1 + 1) q37 := up_s ea40
  have hg43 := up_s eg41
  have ha44 : zAt ad38 (i) (a) := up_n ea40 ha32 (ne_o (i := i) (c := 0) (d := 4) rfl)
  have hg45 := up_n eg41 hg36 (ne_o (i := i) (c := 0) (d := 4) rfl)
  refine z_putF (fs' := [.ref q1, .ref q13, .ref q25, .ref q37, .null, .null, .null, .null, .null, .null, .null, .null, .int (zI (0)), .int (zI (0)), .int (zI (0)), .int (zI (0)), .int (zI (0)), .int (zI (0)), .int (zI (0)), .int (zI (0)), .int (zI (0)), .int (zI (0)), .null, .int (zI (0)), .int (zI (0)), .int (zI (0)), .int (zI (0)), .int (zI (0)), .int (zI (0)), .int (zI (0)), .null, .null, .int (zI (0)), .int (zI (0)), .int (zI (0)), .int (zI (0)), .int (zI (0)), .int (zI (0)), .int (zI (0)), .null, .null, .null, .null, .null, .null, .null, .null, .int (zI (0)), .int (zI (0)), .int (zI (0)), .null, .int (zI (0)), .null, .null, .null, .int (zI (0)), .int (zI (0)), .null, .null, .int (zI (0))]) C (lt_o (i := i) (c := 0) (d := 5) rfl) ha44 hg45 tyX10 tyX10_ok nmX10 rfl inA_X10 3 (by decide) q_1462 rfl rfl hnm rfl rfl rfl (Nat.le_of_ble_eq_true rfl) rfl dX10_init_32 (fun g46 eg47 => ?_)
  have hg48 := up_s eg47
  refine z_aload_n C 0 dX10_init_35 rfl ?_
  refine z_bipush (z := 24) C dX10_init_36 (by decide) ?_
  refine z_newI C 24 rfl q_134 (by decide) (by decide) (by decide) dX10_init_38 (fun q49 ad50 g51 ea52 eg53 => ?_)
  have ha54 : zAt ad50 (i + 1 + 1 + 1 + 1 + 1) q49 := up_s ea52
  have hg55 := up_s eg53
  have ha56 : zAt ad50 (i) (a) := up_n ea52 ha44 (ne_o (i := i) (c := 0) (d := 5) rfl)
  have hg57 := up_n eg53 hg48 (ne_o (i := i) (c := 0) (d := 5) rfl)
  refine z_putF (fs' := [.ref q1, .ref q13, .ref q25, .ref q37, .ref q49, .null, .null, .null, .null, .null, .null, .null, .int (zI (0)), .int (zI (0)), .int (zI (0)), .int (zI (0)), .int (zI (0)), .int (zI (0)), .int (zI (0)), .int (zI (0)), .int (zI (0)), .int (zI (0)), .null, .int (zI (0)), .int (zI (0)), .int (zI (0)), .int (zI (0)), .int (zI (0)), .int (zI (0)), .int (zI (0)), .null, .null, .int (zI (0)), .int (zI (0)), .int (zI (0)), .int (zI (0)), .int (zI (0)), .int (zI (0)), .int (zI (0)), .null, .null, .null, .null, .null, .null, .null, .null, .int (zI (0)), .int (zI (0)), .int (zI (0)), .null, .int (zI (0)), .null, .null, .null, .int (zI (0)), .int (zI (0)), .null, .null, .int (zI (0))]) C (lt_o (i := i) (c := 0) (d := 6) rfl) ha56 hg57 tyX10 tyX10_ok nmX10 rfl inA_X10 4 (by decide) q_1463 rfl rfl hnm rfl rfl rfl (Nat.le_of_ble_eq_true rfl) rfl dX10_init_40 (fun g58 eg59 => ?_)
  have hg60 := up_s eg59
  refine z_aload_n C 0 dX10_init_43 rfl ?_
  refine z_bipush (z := 24) C dX10_init_44 (by decide) ?_
  refine z_newI C 24 rfl q_134 (by decide) (by decide) (by decide) dX10_init_46 (fun q61 ad62 g63 ea64 eg65 => ?_)
  have ha66 : zAt ad62 (i + 1 + 1 + 1 + 1 + 1 + 1) q61 := up_s ea64
  have hg67 := up_s eg65
  have ha68 : zAt ad62 (i) (a) := up_n ea64 ha56 (ne_o (i := i) (c := 0) (d := 6) rfl)
  have hg69 := up_n eg65 hg60 (ne_o (i := i) (c := 0) (d := 6) rfl)
  refine z_putF (fs' := [.ref q1, .ref q13, .ref q25, .ref q37, .ref q49, .ref q61, .null, .null, .null, .null, .null, .null, .int (zI (0)), .int (zI (0)), .int (zI (0)), .int (zI (0)), .int (zI (0)), .int (zI (0)), .int (zI (0)), .int (zI (0)), .int (zI (0)), .int (zI (0)), .null, .int (zI (0)), .int (zI (0)), .int (zI (0)), .int (zI (0)), .int (zI (0)), .int (zI (0)), .int (zI (0)), .null, .null, .int (zI (0)), .int (zI (0)), .int (zI (0)), .int (zI (0)), .int (zI (0)), .int (zI (0)), .int (zI (0)), .null, .null, .null, .null, .null, .null, .null, .null, .int (zI (0)), .int (zI (0)), .int (zI (0)), .null, .int (zI (0)), .null, .null, .null, .int (zI (0)), .int (zI (0)), .null, .null, .int (zI (0))]) C (lt_o (i := i) (c := 0) (d := 7) rfl) ha68 hg69 tyX10 tyX10_ok nmX10 rfl inA_X10 5 (by decide) q_1464 rfl rfl hnm rfl rfl rfl (Nat.le_of_ble_eq_true rfl) rfl dX10_init_48 (fun g70 eg71 => ?_)
  have hg72 := up_s eg71
  refine z_aload_n C 0 dX10_init_51 rfl ?_
  refine z_bipush (z := 15) C dX10_init_52 (by decide) ?_
  refine z_newI C 15 rfl q_134 (by decide) (by decide) (by decide) dX10_init_54 (fun q73 ad74 g75 ea76 eg77 => ?_)
  have ha78 : zAt ad74 (i + 1 + 1 + 1 + 1 + 1 + 1 + 1) q73 := up_s ea76
  have hg79 := up_s eg77
  have ha80 : zAt ad74 (i) (a) := up_n ea76 ha68 (ne_o (i := i) (c := 0) (d := 7) rfl)
  have hg81 := up_n eg77 hg72 (ne_o (i := i) (c := 0) (d := 7) rfl)
  refine z_putF (fs' := [.ref q1, .ref q13, .ref q25, .ref q37, .ref q49, .ref q61, .ref q73, .null, .null, .null, .null, .null, .int (zI (0)), .int (zI (0)), .int (zI (0)), .int (zI (0)), .int (zI (0)), .int (zI (0)), .int (zI (0)), .int (zI (0)), .int (zI (0)), .int (zI (0)), .null, .int (zI (0)), .int (zI (0)), .int (zI (0)), .int (zI (0)), .int (zI (0)), .int (zI (0)), .int (zI (0)), .null, .null, .int (zI (0)), .int (zI (0)), .int (zI (0)), .int (zI (0)), .int (zI (0)), .int (zI (0)), .int (zI (0)), .null, .null, .null, .null, .null, .null, .null, .null, .int (zI (0)), .int (zI (0)), .int (zI (0)), .null, .int (zI (0)), .null, .null, .null, .int (zI (0)), .int (zI (0)), .null, .null, .int (zI (0))]) C (lt_o (i := i) (c := 0) (d := 8) rfl) ha80 hg81 tyX10 tyX10_ok nmX10 rfl inA_X10 6 (by decide) q_1465 rfl rfl hnm rfl rfl rfl (Nat.le_of_ble_eq_true rfl) rfl dX10_init_56 (fun g82 eg83 => ?_)
  have hg84 := up_s eg83
  refine z_aload_n C 0 dX10_init_59 rfl ?_
  refine z_bipush (z := 16) C dX10_init_60 (by decide) ?_
  refine z_newI C 16 rfl q_134 (by decide) (by decide) (by decide) dX10_init_62 (fun q85 ad86 g87 ea88 eg89 => ?_)
  have ha90 : zAt ad86 (i + 1 + 1 + 1 + 1 + 1 + 1 + 1 + 1) q85 := up_s ea88
  have hg91 := up_s eg89
  have ha92 : zAt ad86 (i) (a) := up_n ea88 ha80 (ne_o (i := i) (c := 0) (d := 8) rfl)
  have hg93 := up_n eg89 hg84 (ne_o (i := i) (c := 0) (d := 8) rfl)
  refine z_putF (fs' := [.ref q1, .ref q13, .ref q25, .ref q37, .ref q49, .ref q61, .ref q73, .ref q85, .null, .null, .null, .null, .int (zI (0)), .int (zI (0)), .int (zI (0)), .int (zI (0)), .int (zI (0)), .int (zI (0)), .int (zI (0)), .int (zI (0)), .int (zI (0)), .int (zI (0)), .null, .int (zI (0)), .int (zI (0)), .int (zI (0)), .int (zI (0)), .int (zI (0)), .int (zI (0)), .int (zI (0)), .null, .null, .int (zI (0)), .int (zI (0)), .int (zI (0)), .int (zI (0)), .int (zI (0)), .int (zI (0)), .int (zI (0)), .null, .null, .null, .null, .null, .null, .null, .null, .int (zI (0)), .int (zI (0)), .int (zI (0)), .null, .int (zI (0)), .null, .null, .null, .int (zI (0)), .int (zI (0)), .null, .null, .int (zI (0))]) C (lt_o (i := i) (c := 0) (d := 9) rfl) ha92 hg93 tyX10 tyX10_ok nmX10 rfl inA_X10 7 (by decide) q_1466 rfl rfl hnm rfl rfl rfl (Nat.le_of_ble_eq_true rfl) rfl dX10_init_64 (fun g94 eg95 => ?_)
  have hg96 := up_s eg95
  refine z_aload_n C 0 dX10_init_67 rfl ?_
  refine z_bipush (z := 16) C dX10_init_68 (by decide) ?_
  refine z_newI C 16 rfl q_134 (by decide) (by decide) (by decide) dX10_init_70 (fun q97 ad98 g99 ea100 eg101 => ?_)
  have ha102 : zAt ad98 (i + 1 + 1 + 1 + 1 + 1 + 1 + 1 + 1 + 1) q97 := up_s ea100
  have hg103 := up_s eg101
  have ha104 : zAt ad98 (i) (a) := up_n ea100 ha92 (ne_o (i := i) (c := 0) (d := 9) rfl)
  have hg105 := up_n eg101 hg96 (ne_o (i := i) (c := 0) (d := 9) rfl)
  refine z_putF (fs' := [.ref q1, .ref q13, .ref q25, .ref q37, .ref q49, .ref q61, .ref q73, .ref q85, .ref q97, .null, .null, .null, .int (zI (0)), .int (zI (0)), .int (zI (0)), .int (zI (0)), .int (zI (0)), .int (zI (0)), .int (zI (0)), .int (zI (0)), .int (zI (0)), .int (zI (0)), .null, .int (zI (0)), .int (zI (0)), .int (zI (0)), .int (zI (0)), .int (zI (0)), .int (zI (0)), .int (zI (0)), .null, .null, .int (zI (0)), .int (zI (0)), .int (zI (0)), .int (zI (0)), .int (zI (0)), .int (zI (0)), .int (zI (0)), .null, .null, .null, .null, .null, .null, .null, .null, .int (zI (0)), .int (zI (0)), .int (zI (0)), .null, .int (zI (0)), .null, .null, .null, .int (zI (0)), .int (zI (0)), .null, .null, .int (zI (0))]) C (lt_o (i := i) (c := 0) (d := 10) rfl) ha104 hg105 tyX10 tyX10_ok nmX10 rfl inA_X10 8 (by decide) q_1467 rfl rfl hnm rfl rfl rfl (Nat.le_of_ble_eq_true rfl) rfl dX10_init_72 (fun g106 eg107 => ?_)
  have hg108 := up_s eg107
  refine z_aload_n C 0 dX10_init_75 rfl ?_
  refine z_bipush (z := 16) C dX10_init_76 (by decide) ?_
  refine z_newI C 16 rfl q_134 (by decide) (by decide) (by decide) dX10_init_78 (fun q109 ad110 g111 ea112 eg113 => ?_)
  have ha114 : zAt ad110 (i + 1 + 1 + 1 + 1 + 1 + 1 + 1 + 1 + 1 + 1) q109 := up_s ea112
  have hg115 := up_s eg113
  have ha116 : zAt ad110 (i) (a) := up_n ea112 ha104 (ne_o (i := i) (c := 0) (d := 10) rfl)
  have hg117 := up_n eg113 hg108 (ne_o (i := i) (c := 0) (d := 10) rfl)
  refine z_putF (fs' := [.ref q1, .ref q13, .ref q25, .ref q37, .ref q49, .ref q61, .ref q73, .ref q85, .ref q97, .ref q109, .null, .null, .int (zI (0)), .int (zI (0)), .int (zI (0)), .int (zI (0)), .int (zI (0)), .int (zI (0)), .int (zI (0)), .int (zI (0)), .int (zI (0)), .int (zI (0)), .null, .int (zI (0)), .int (zI (0)), .int (zI (0)), .int (zI (0)), .int (zI (0)), .int (zI (0)), .int (zI (0)), .null, .null, .int (zI (0)), .int (zI (0)), .int (zI (0)), .int (zI (0)), .int (zI (0)), .int (zI (0)), .int (zI (0)), .null, .null, .null, .null, .null, .null, .null, .null, .int (zI (0)), .int (zI (0)), .int (zI (0)), .null, .int (zI (0)), .null, .null, .null, .int (zI (0)), .int (zI (0)), .null, .null, .int (zI (0))]) C (lt_o (i := i) (c := 0) (d := 11) rfl) ha116 hg117 tyX10 tyX10_ok nmX10 rfl inA_X10 9 (by decide) q_1468 rfl rfl hnm rfl rfl rfl (Nat.le_of_ble_eq_true rfl) rfl dX10_init_80 (fun g118 eg119 => ?_)
  have hg120 := up_s eg119
  refine z_aload_n C 0 dX10_init_83 rfl ?_
  refine z_bipush (z := 6) C dX10_init_84 (by decide) ?_
  refine z_newI C 6 rfl q_134 (by decide) (by decide) (by decide) dX10_init_86 (fun q121 ad122 g123 ea124 eg125 => ?_)
  have ha126 : zAt ad122 (i + 1 + 1 + 1 + 1 + 1 + 1 + 1 + 1 + 1 + 1 + 1) q121 := up_s ea124
  have hg127 := up_s eg125
  have ha128 : zAt ad122 (i) (a) := up_n ea124 ha116 (ne_o (i := i) (c := 0) (d := 11) rfl)
  have hg129 := up_n eg125 hg120 (ne_o (i := i) (c := 0) (d := 11) rfl)
  refine z_putF (fs' := [.ref q1, .ref q13, .ref q25, .ref q37, .ref q49, .ref q61, .ref q73, .ref q85, .ref q97, .ref q109, .ref q121, .null, .int (zI (0)), .int (zI (0)), .int (zI (0)), .int (zI (0)), .int (zI (0)), .int (zI (0)), .int (zI (0)), .int (zI (0)), .int (zI (0)), .int (zI (0)), .null, .int (zI (0)), .int (zI (0)), .int (zI (0)), .int (zI (0)), .int (zI (0)), .int (zI (0)), .int (zI (0)), .null, .null, .int (zI (0)), .int (zI (0)), .int (zI (0)), .int (zI (0)), .int (zI (0)), .int (zI (0)), .int (zI (0)), .null, .null, .null, .null, .null, .null, .null, .null, .int (zI (0)), .int (zI (0)), .int (zI (0)), .null, .int (zI (0)), .null, .null, .null, .int (zI (0)), .int (zI (0)), .null, .null, .int (zI (0))]) C (lt_o (i := i) (c := 0) (d := 12) rfl) ha128 hg129 tyX10 tyX10_ok nmX10 rfl inA_X10 10 (by decide) q_1469 rfl rfl hnm rfl rfl rfl (Nat.le_of_ble_eq_true rfl) rfl dX10_init_88 (fun g130 eg131 => ?_)
  have hg132 := up_s eg131
  refine z_aload_n C 0 dX10_init_91 rfl ?_
  refine z_sipush (z := 1080) C dX10_init_92 (by decide) ?_
  refine z_newI C 1080 rfl q_134 (by decide) (by decide) (by decide) dX10_init_95 (fun q133 ad134 g135 ea136 eg137 => ?_)
  have ha138 : zAt ad134 (i + 1 + 1 + 1 + 1 + 1 + 1 + 1 + 1 + 1 + 1 + 1 + 1) q133 := up_s ea136
  have hg139 := up_s eg137
  have ha140 : zAt ad134 (i) (a) := up_n ea136 ha128 (ne_o (i := i) (c := 0) (d := 12) rfl)
  have hg141 := up_n eg137 hg132 (ne_o (i := i) (c := 0) (d := 12) rfl)
  refine z_putF (fs' := [.ref q1, .ref q13, .ref q25, .ref q37, .ref q49, .ref q61, .ref q73, .ref q85, .ref q97, .ref q109, .ref q121, .ref q133, .int (zI (0)), .int (zI (0)), .int (zI (0)), .int (zI (0)), .int (zI (0)), .int (zI (0)), .int (zI (0)), .int (zI (0)), .int (zI (0)), .int (zI (0)), .null, .int (zI (0)), .int (zI (0)), .int (zI (0)), .int (zI (0)), .int (zI (0)), .int (zI (0)), .int (zI (0)), .null, .null, .int (zI (0)), .int (zI (0)), .int (zI (0)), .int (zI (0)), .int (zI (0)), .int (zI (0)), .int (zI (0)), .null, .null, .null, .null, .null, .null, .null, .null, .int (zI (0)), .int (zI (0)), .int (zI (0)), .null, .int (zI (0)), .null, .null, .null, .int (zI (0)), .int (zI (0)), .null, .null, .int (zI (0))]) C (lt_o (i := i) (c := 0) (d := 13) rfl) ha140 hg141 tyX10 tyX10_ok nmX10 rfl inA_X10 11 (by decide) q_1470 rfl rfl hnm rfl rfl rfl (Nat.le_of_ble_eq_true rfl) rfl dX10_init_97 (fun g142 eg143 => ?_)
  have hg144 := up_s eg143
  refine z_aload_n C 0 dX10_init_100 rfl ?_
  refine z_sipush (z := 900) C dX10_init_101 (by decide) ?_
  refine z_newI C 900 rfl q_134 (by decide) (by decide) (by decide) dX10_init_104 (fun q145 ad146 g147 ea148 eg149 => ?_)
  have ha150 : zAt ad146 (i + 1 + 1 + 1 + 1 + 1 + 1 + 1 + 1 + 1 + 1 + 1 + 1 + 1) q145 := up_s ea148
  have hg151 := up_s eg149
  have ha152 : zAt ad146 (i) (a) := up_n ea148 ha140 (ne_o (i := i) (c := 0) (d := 13) rfl)
  have hg153 := up_n eg149 hg144 (ne_o (i := i) (c := 0) (d := 13) rfl)
  refine z_putF (fs' := [.ref q1, .ref q13, .ref q25, .ref q37, .ref q49, .ref q61, .ref q73, .ref q85, .ref q97, .ref q109, .ref q121, .ref q133, .int (zI (0)), .int (zI (0)), .int (zI (0)), .int (zI (0)), .int (zI (0)), .int (zI (0)), .int (zI (0)), .int (zI (0)), .int (zI (0)), .int (zI (0)), .ref q145, .int (zI (0)), .int (zI (0)), .int (zI (0)), .int (zI (0)), .int (zI (0)), .int (zI (0)), .int (zI (0)), .null, .null, .int (zI (0)), .int (zI (0)), .int (zI (0)), .int (zI (0)), .int (zI (0)), .int (zI (0)), .int (zI (0)), .null, .null, .null, .null, .null, .null, .null, .null, .int (zI (0)), .int (zI (0)), .int (zI (0)), .null, .int (zI (0)), .null, .null, .null, .int (zI (0)), .int (zI (0)), .null, .null, .int (zI (0))]) C (lt_o (i := i) (c := 0) (d := 14) rfl) ha152 hg153 tyX10 tyX10_ok nmX10 rfl inA_X10 22 (by decide) q_1481 rfl rfl hnm rfl rfl rfl (Nat.le_of_ble_eq_true rfl) rfl dX10_init_106 (fun g154 eg155 => ?_)
  have hg156 := up_s eg155
  refine z_aload_n C 0 dX10_init_109 rfl ?_
  refine z_iconst (z := -1) C dX10_init_110 rfl ?_
  refine z_put (fs' := [.ref q1, .ref q13, .ref q25, .ref q37, .ref q49, .ref q61, .ref q73, .ref q85, .ref q97, .ref q109, .ref q121, .ref q133, .int (zI (0)), .int (zI (0)), .int (zI (0)), .int (zI (0)), .int (zI (0)), .int (zI (0)), .int (zI (0)), .int (zI (0)), .int (zI (0)), .int (zI (0)), .ref q145, .int (zI (0)), .int (zI (-1)), .int (zI (0)), .int (zI (0)), .int (zI (0)), .int (zI (0)), .int (zI (0)), .null, .null, .int (zI (0)), .int (zI (0)), .int (zI (0)), .int (zI (0)), .int (zI (0)), .int (zI (0)), .int (zI (0)), .null, .null, .null, .null, .null, .null, .null, .null, .int (zI (0)), .int (zI (0)), .int (zI (0)), .null, .int (zI (0)), .null, .null, .null, .int (zI (0)), .int (zI (0)), .null, .null, .int (zI (0))]) C (lt_o (i := i) (c := 0) (d := 14) rfl) ha152 hg156 tyX10 tyX10_ok nmX10 rfl inA_X10 24 (by decide) q_1483 rfl rfl rfl rfl (Nat.le_of_ble_eq_true rfl) rfl dX10_init_111 (fun g157 eg158 => ?_)
  have hg159 := up_s eg158
  refine z_aload_n C 0 dX10_init_114 rfl ?_
  refine z_iconst (z := -1) C dX10_init_115 rfl ?_
  refine z_put (fs' := [.ref q1, .ref q13, .ref q25, .ref q37, .ref q49, .ref q61, .ref q73, .ref q85, .ref q97, .ref q109, .ref q121, .ref q133, .int (zI (0)), .int (zI (0)), .int (zI (0)), .int (zI (0)), .int (zI (0)), .int (zI (0)), .int (zI (0)), .int (zI (0)), .int (zI (0)), .int (zI (0)), .ref q145, .int (zI (0)), .int (zI (-1)), .int (zI (0)), .int (zI (-1)), .int (zI (0)), .int (zI (0)), .int (zI (0)), .null, .null, .int (zI (0)), .int (zI (0)), .int (zI (0)), .int (zI (0)), .int (zI (0)), .int (zI (0)), .int (zI (0)), .null, .null, .null, .null, .null, .null, .null, .null, .int (zI (0)), .int (zI (0)), .int (zI (0)), .null, .int (zI (0)), .null, .null, .null, .int (zI (0)), .int (zI (0)), .null, .null, .int (zI (0))]) C (lt_o (i := i) (c := 0) (d := 14) rfl) ha152 hg159 tyX10 tyX10_ok nmX10 rfl inA_X10 26 (by decide) q_1485 rfl rfl rfl rfl (Nat.le_of_ble_eq_true rfl) rfl dX10_init_116 (fun g160 eg161 => ?_)
  have hg162 := up_s eg161
  refine z_aload_n C 0 dX10_init_119 rfl ?_
  refine z_iconst (z := -1) C dX10_init_120 rfl ?_
  refine z_put (fs' := [.ref q1, .ref q13, .ref q25, .ref q37, .ref q49, .ref q61, .ref q73, .ref q85, .ref q97, .ref q109, .ref q121, .ref q133, .int (zI (0)), .int (zI (0)), .int (zI (0)), .int (zI (0)), .int (zI (0)), .int (zI (0)), .int (zI (0)), .int (zI (0)), .int (zI (0)), .int (zI (0)), .ref q145, .int (zI (0)), .int (zI (-1)), .int (zI (0)), .int (zI (-1)), .int (zI (-1)), .int (zI (0)), .int (zI (0)), .null, .null, .int (zI (0)), .int (zI (0)), .int (zI (0)), .int (zI (0)), .int (zI (0)), .int (zI (0)), .int (zI (0)), .null, .null, .null, .null, .null, .null, .null, .null, .int (zI (0)), .int (zI (0)), .int (zI (0)), .null, .int (zI (0)), .null, .null, .null, .int (zI (0)), .int (zI (0)), .null, .null, .int (zI (0))]) C (lt_o (i := i) (c := 0) (d := 14) rfl) ha152 hg162 tyX10 tyX10_ok nmX10 rfl inA_X10 27 (by decide) q_1486 rfl rfl rfl rfl (Nat.le_of_ble_eq_true rfl) rfl dX10_init_121 (fun g163 eg164 => ?_)
  have hg165 := up_s eg164
  refine z_aload_n C 0 dX10_init_124 rfl ?_
  refine z_bipush (z := 14) C dX10_init_125 (by decide) ?_
  refine z_newI C 14 rfl q_134 (by decide) (by decide) (by decide) dX10_init_127 (fun q166 ad167 g168 ea169 eg170 => ?_)
  have ha171 : zAt ad167 (i + 1 + 1 + 1 + 1 + 1 + 1 + 1 + 1 + 1 + 1 + 1 + 1 + 1 + 1) q166 := up_s ea169
  have hg172 := up_s eg170
  have ha173 : zAt ad167 (i) (a) := up_n ea169 ha152 (ne_o (i := i) (c := 0) (d := 14) rfl)
  have hg174 := up_n eg170 hg165 (ne_o (i := i) (c := 0) (d := 14) rfl)
  refine z_putF (fs' := [.ref q1, .ref q13, .ref q25, .ref q37, .ref q49, .ref q61, .ref q73, .ref q85, .ref q97, .ref q109, .ref q121, .ref q133, .int (zI (0)), .int (zI (0)), .int (zI (0)), .int (zI (0)), .int (zI (0)), .int (zI (0)), .int (zI (0)), .int (zI (0)), .int (zI (0)), .int (zI (0)), .ref q145, .int (zI (0)), .int (zI (-1)), .int (zI (0)), .int (zI (-1)), .int (zI (-1)), .int (zI (0)), .int (zI (0)), .ref q166, .null, .int (zI (0)), .int (zI (0)), .int (zI (0)), .int (zI (0)), .int (zI (0)), .int (zI (0)), .int (zI (0)), .null, .null, .null, .null, .null, .null, .null, .null, .int (zI (0)), .int (zI (0)), .int (zI (0)), .null, .int (zI (0)), .null, .null, .null, .int (zI (0)), .int (zI (0)), .null, .null, .int (zI (0))]) C (lt_o (i := i) (c := 0) (d := 15) rfl) ha173 hg174 tyX10 tyX10_ok nmX10 rfl inA_X10 30 (by decide) q_1489 rfl rfl hnm rfl rfl rfl (Nat.le_of_ble_eq_true rfl) rfl dX10_init_129 (fun g175 eg176 => ?_)
  have hg177 := up_s eg176
  refine z_aload_n C 0 dX10_init_132 rfl ?_
  refine z_bipush (z := 12) C dX10_init_133 (by decide) ?_
  refine z_newI C 12 rfl q_134 (by decide) (by decide) (by decide) dX10_init_135 (fun q178 ad179 g180 ea181 eg182 => ?_)
  have ha183 : zAt ad179 (i + 1 + 1 + 1 + 1 + 1 + 1 + 1 + 1 + 1 + 1 + 1 + 1 + 1 + 1 + 1) q178 := up_s ea181
  have hg184 := up_s eg182
  have ha185 : zAt ad179 (i) (a) := up_n ea181 ha173 (ne_o (i := i) (c := 0) (d := 15) rfl)
  have hg186 := up_n eg182 hg177 (ne_o (i := i) (c := 0) (d := 15) rfl)
  refine z_putF (fs' := [.ref q1, .ref q13, .ref q25, .ref q37, .ref q49, .ref q61, .ref q73, .ref q85, .ref q97, .ref q109, .ref q121, .ref q133, .int (zI (0)), .int (zI (0)), .int (zI (0)), .int (zI (0)), .int (zI (0)), .int (zI (0)), .int (zI (0)), .int (zI (0)), .int (zI (0)), .int (zI (0)), .ref q145, .int (zI (0)), .int (zI (-1)), .int (zI (0)), .int (zI (-1)), .int (zI (-1)), .int (zI (0)), .int (zI (0)), .ref q166, .ref q178, .int (zI (0)), .int (zI (0)), .int (zI (0)), .int (zI (0)), .int (zI (0)), .int (zI (0)), .int (zI (0)), .null, .null, .null, .null, .null, .null, .null, .null, .int (zI (0)), .int (zI (0)), .int (zI (0)), .null, .int (zI (0)), .null, .null, .null, .int (zI (0)), .int (zI (0)), .null, .null, .int (zI (0))]) C (lt_o (i := i) (c := 0) (d := 16) rfl) ha185 hg186 tyX10 tyX10_ok nmX10 rfl inA_X10 31 (by decide) q_1490 rfl rfl hnm rfl rfl rfl (Nat.le_of_ble_eq_true rfl) rfl dX10_init_137 (fun g187 eg188 => ?_)
  have hg189 := up_s eg188
  refine z_aload_n C 0 dX10_init_140 rfl ?_
  refine z_iconst (z := 4) C dX10_init_141 rfl ?_
  refine z_newI C 4 rfl q_134 (by decide) (by decide) (by decide) dX10_init_142 (fun q190 ad191 g192 ea193 eg194 => ?_)
  have ha195 : zAt ad191 (i + 1 + 1 + 1 + 1 + 1 + 1 + 1 + 1 + 1 + 1 + 1 + 1 + 1 + 1 + 1 + 1) q190 := up_s ea193
  have hg196 := up_s eg194
  have ha197 : zAt ad191 (i) (a) := up_n ea193 ha185 (ne_o (i := i) (c := 0) (d := 16) rfl)
  have hg198 := up_n eg194 hg189 (ne_o (i := i) (c := 0) (d := 16) rfl)
  refine z_putF (fs' := [.ref q1, .ref q13, .ref q25, .ref q37, .ref q49, .ref q61, .ref q73, .ref q85, .ref q97, .ref q109, .ref q121, .ref q133, .int (zI (0)), .int (zI (0)), .int (zI (0)), .int (zI (0)), .int (zI (0)), .int (zI (0)), .int (zI (0)), .int (zI (0)), .int (zI (0)), .int (zI (0)), .ref q145, .int (zI (0)), .int (zI (-1)), .int (zI (0)), .int (zI (-1)), .int (zI (-1)), .int (zI (0)), .int (zI (0)), .ref q166, .ref q178, .int (zI (0)), .int (zI (0)), .int (zI (0)), .int (zI (0)), .int (zI (0)), .int (zI (0)), .int (zI (0)), .ref q190, .null, .null, .null, .null, .null, .null, .null, .int (zI (0)), .int (zI (0)), .int (zI (0)), .null, .int (zI (0)), .null, .null, .null, .int (zI (0)), .int (zI (0)), .null, .null, .int (zI (0))]) C (lt_o (i := i) (c := 0) (d := 17) rfl) ha197 hg198 tyX10 tyX10_ok nmX10 rfl inA_X10 39 (by decide) q_1498 rfl rfl hnm rfl rfl rfl (Nat.le_of_ble_eq_true rfl) rfl dX10_init_144 (fun g199 eg200 => ?_)
  have hg201 := up_s eg200
  refine z_aload_n C 0 dX10_init_147 rfl ?_
  refine z_iconst (z := 4) C dX10_init_148 rfl ?_
  refine z_newI C 4 rfl q_134 (by decide) (by decide) (by decide) dX10_init_149 (fun q202 ad203 g204 ea205 eg206 => ?_)
  have ha207 : zAt ad203 (i + 1 + 1 + 1 + 1 + 1 + 1 + 1 + 1 + 1 + 1 + 1 + 1 + 1 + 1 + 1 + 1 + 1) q202 := up_s ea205
  have hg208 := up_s eg206
  have ha209 : zAt ad203 (i) (a) := up_n ea205 ha197 (ne_o (i := i) (c := 0) (d := 17) rfl)
  have hg210 := up_n eg206 hg201 (ne_o (i := i) (c := 0) (d := 17) rfl)
  refine z_putF (fs' := [.ref q1, .ref q13, .ref q25, .ref q37, .ref q49, .ref q61, .ref q73, .ref q85, .ref q97, .ref q109, .ref q121, .ref q133, .int (zI (0)), .int (zI (0)), .int (zI (0)), .int (zI (0)), .int (zI (0)), .int (zI (0)), .int (zI (0)), .int (zI (0)), .int (zI (0)), .int (zI (0)), .ref q145, .int (zI (0)), .int (zI (-1)), .int (zI (0)), .int (zI (-1)), .int (zI (-1)), .int (zI (0)), .int (zI (0)), .ref q166, .ref q178, .int (zI (0)), .int (zI (0)), .int (zI (0)), .int (zI (0)), .int (zI (0)), .int (zI (0)), .int (zI (0)), .ref q190, .ref q202, .null, .null, .null, .null, .null, .null, .int (zI (0)), .int (zI (0)), .int (zI (0)), .null, .int (zI (0)), .null, .null, .null, .int (zI (0)), .int (zI (0)), .null, .null, .int (zI (0))]) C (lt_o (i := i) (c := 0) (d := 18) rfl) ha209 hg210 tyX10 tyX10_ok nmX10 rfl inA_X10 40 (by decide) q_1499 rfl rfl hnm rfl rfl rfl (Nat.le_of_ble_eq_true rfl) rfl dX10_init_151 (fun g211 eg212 => ?_)
  have hg213 := up_s eg212
  refine z_aload_n C 0 dX10_init_154 rfl ?_
  refine z_iconst (z := 4) C dX10_init_155 rfl ?_
  refine z_newI C 4 rfl q_134 (by decide) (by decide) (by decide) dX10_init_156 (fun q214 ad215 g216 ea217 eg218 => ?_)
  have ha219 : zAt ad215 (i + 1 + 1 + 1 + 1 + 1 + 1 + 1 + 1 + 1 + 1 + 1 + 1 + 1 + 1 + 1 + 1 + 1 + 1) q214 := up_s ea217
  have hg220 := up_s eg218
  have ha221 : zAt ad215 (i) (a) := up_n ea217 ha209 (ne_o (i := i) (c := 0) (d := 18) rfl)
  have hg222 := up_n eg218 hg213 (ne_o (i := i) (c := 0) (d := 18) rfl)
  refine z_putF (fs' := [.ref q1, .ref q13, .ref q25, .ref q37, .ref q49, .ref q61, .ref q73, .ref q85, .ref q97, .ref q109, .ref q121, .ref q133, .int (zI (0)), .int (zI (0)), .int (zI (0)), .int (zI (0)), .int (zI (0)), .int (zI (0)), .int (zI (0)), .int (zI (0)), .int (zI (0)), .int (zI (0)), .ref q145, .int (zI (0)), .int (zI (-1)), .int (zI (0)), .int (zI (-1)), .int (zI (-1)), .int (zI (0)), .int (zI (0)), .ref q166, .ref q178, .int (zI (0)), .int (zI (0)), .int (zI (0)), .int (zI (0)), .int (zI (0)), .int (zI (0)), .int (zI (0)), .ref q190, .ref q202, .ref q214, .null, .null, .null, .null, .null, .int (zI (0)), .int (zI (0)), .int (zI (0)), .null, .int (zI (0)), .null, .null, .null, .int (zI (0)), .int (zI (0)), .null, .null, .int (zI (0))]) C (lt_o (i := i) (c := 0) (d := 19) rfl) ha221 hg222 tyX10 tyX10_ok nmX10 rfl inA_X10 41 (by decide) q_1500 rfl rfl hnm rfl rfl rfl (Nat.le_of_ble_eq_true rfl) rfl dX10_init_158 (fun g223 eg224 => ?_)
  have hg225 := up_s eg224
  refine z_aload_n C 0 dX10_init_161 rfl ?_
  refine z_bipush (z := 24) C dX10_init_162 (by decide) ?_
  refine z_newI C 24 rfl q_134 (by decide) (by decide) (by decide) dX10_init_164 (fun q226 ad227 g228 ea229 eg230 => ?_)
  have ha231 : zAt ad227 (i + 1 + 1 + 1 + 1 + 1 + 1 + 1 + 1 + 1 + 1 + 1 + 1 + 1 + 1 + 1 + 1 + 1 + 1 + 1) q226 := up_s ea229
  have hg232 := up_s eg230
  have ha233 : zAt ad227 (i) (a) := up_n ea229 ha221 (ne_o (i := i) (c := 0) (d := 19) rfl)
  have hg234 := up_n eg230 hg225 (ne_o (i := i) (c := 0) (d := 19) rfl)
  refine z_putF (fs' := [.ref q1, .ref q13, .ref q25, .ref q37, .ref q49, .ref q61, .ref q73, .ref q85, .ref q97, .ref q109, .ref q121, .ref q133, .int (zI (0)), .int (zI (0)), .int (zI (0)), .int (zI (0)), .int (zI (0)), .int (zI (0)), .int (zI (0)), .int (zI (0)), .int (zI (0)), .int (zI (0)), .ref q145, .int (zI (0)), .int (zI (-1)), .int (zI (0)), .int (zI (-1)), .int (zI (-1)), .int (zI (0)), .int (zI (0)), .ref q166, .ref q178, .int (zI (0)), .int (zI (0)), .int (zI (0)), .int (zI (0)), .int (zI (0)), .int (zI (0)), .int (zI (0)), .ref q190, .ref q202, .ref q214, .ref q226, .null, .null, .null, .null, .int (zI (0)), .int (zI (0)), .int (zI (0)), .null, .int (zI (0)), .null, .null, .null, .int (zI (0)), .int (zI (0)), .null, .null, .int (zI (0))]) C (lt_o (i := i) (c := 0) (d := 20) rfl) ha233 hg234 tyX10 tyX10_ok nmX10 rfl inA_X10 42 (by decide) q_1501 rfl rfl hnm rfl rfl rfl (Nat.le_of_ble_eq_true rfl) rfl dX10_init_166 (fun g235 eg236 => ?_)
  have hg237 := up_s eg236
  refine z_aload_n C 0 dX10_init_169 rfl ?_
  refine z_bipush (z := 24) C dX10_init_170 (by decide) ?_
  refine z_newI C 24 rfl q_134 (by decide) (by decide) (by decide) dX10_init_172 (fun q238 ad239 g240 ea241 eg242 => ?_)
  have ha243 : zAt ad239 (i + 1 + 1 + 1 + 1 + 1 + 1 + 1 + 1 + 1 + 1 + 1 + 1 + 1 + 1 + 1 + 1 + 1 + 1 + 1 + 1) q238 := up_s ea241
  have hg244 := up_s eg242
  have ha245 : zAt ad239 (i) (a) := up_n ea241 ha233 (ne_o (i := i) (c := 0) (d := 20) rfl)
  have hg246 := up_n eg242 hg237 (ne_o (i := i) (c := 0) (d := 20) rfl)
  refine z_putF (fs' := [.ref q1, .ref q13, .ref q25, .ref q37, .ref q49, .ref q61, .ref q73, .ref q85, .ref q97, .ref q109, .ref q121, .ref q133, .int (zI (0)), .int (zI (0)), .int (zI (0)), .int (zI (0)), .int (zI (0)), .int (zI (0)), .int (zI (0)), .int (zI (0)), .int (zI (0)), .int (zI (0)), .ref q145, .int (zI (0)), .int (zI (-1)), .int (zI (0)), .int (zI (-1)), .int (zI (-1)), .int (zI (0)), .int (zI (0)), .ref q166, .ref q178, .int (zI (0)), .int (zI (0)), .int (zI (0)), .int (zI (0)), .int (zI (0)), .int (zI (0)), .int (zI (0)), .ref q190, .ref q202, .ref q214, .ref q226, .ref q238, .null, .null, .null, .int (zI (0)), .int (zI (0)), .int (zI (0)), .null, .int (zI (0)), .null, .null, .null, .int (zI (0)), .int (zI (0)), .null, .null, .int (zI (0))]) C (lt_o (i := i) (c := 0) (d := 21) rfl) ha245 hg246 tyX10 tyX10_ok nmX10 rfl inA_X10 43 (by decide) q_1502 rfl rfl hnm rfl rfl rfl (Nat.le_of_ble_eq_true rfl) rfl dX10_init_174 (fun g247 eg248 => ?_)
  have hg249 := up_s eg248
  refine z_aload_n C 0 dX10_init_177 rfl ?_
  refine z_bipush (z := 24) C dX10_init_178 (by decide) ?_
  refine z_newI C 24 rfl q_134 (by decide) (by decide) (by decide) dX10_init_180 (fun q250 ad251 g252 ea253 eg254 => ?_)
  have ha255 : zAt ad251 (i + 1 + 1 + 1 + 1 + 1 + 1 + 1 + 1 + 1 + 1 + 1 + 1 + 1 + 1 + 1 + 1 + 1 + 1 + 1 + 1 + 1) q250 := up_s ea253
  have hg256 := up_s eg254
  have ha257 : zAt ad251 (i) (a) := up_n ea253 ha245 (ne_o (i := i) (c := 0) (d := 21) rfl)
  have hg258 := up_n eg254 hg249 (ne_o (i := i) (c := 0) (d := 21) rfl)
  refine z_putF (fs' := [.ref q1, .ref q13, .ref q25, .ref q37, .ref q49, .ref q61, .ref q73, .ref q85, .ref q97, .ref q109, .ref q121, .ref q133, .int (zI (0)), .int (zI (0)), .int (zI (0)), .int (zI (0)), .int (zI (0)), .int (zI (0)), .int (zI (0)), .int (zI (0)), .int (zI (0)), .int (zI (0)), .ref q145, .int (zI (0)), .int (zI (-1)), .int (zI (0)), .int (zI (-1)), .int (zI (-1)), .int (zI (0)), .int (zI (0)), .ref q166, .ref q178, .int (zI (0)), .int (zI (0)), .int (zI (0)), .int (zI (0)), .int (zI (0)), .int (zI (0)), .int (zI (0)), .ref q190, .ref q202, .ref q214, .ref q226, .ref q238, .ref q250, .null, .null, .int (zI (0)), .int (zI (0)), .int (zI (0)), .null, .int (zI (0)), .null, .null, .null, .int (zI (0)), .int (zI (0)), .null, .null, .int (zI (0))]) C (lt_o (i := i) (c := 0) (d := 22) rfl) ha257 hg258 tyX10 tyX10_ok nmX10 rfl inA_X10 44 (by decide) q_1503 rfl rfl hnm rfl rfl rfl (Nat.le_of_ble_eq_true rfl) rfl dX10_init_182 (fun g259 eg260 => ?_)
  have hg261 := up_s eg260
  refine z_aload_n C 0 dX10_init_185 rfl ?_
  refine z_bipush (z := 15) C dX10_init_186 (by decide) ?_
  refine z_newI C 15 rfl q_134 (by decide) (by decide) (by decide) dX10_init_188 (fun q262 ad263 g264 ea265 eg266 => ?_)
  have ha267 : zAt ad263 (i + 1 + 1 + 1 + 1 + 1 + 1 + 1 + 1 + 1 + 1 + 1 + 1 + 1 + 1 + 1 + 1 + 1 + 1 + 1 + 1 + 1 + 1) q262 := up_s ea265
  have hg268 := up_s eg266
  have ha269 : zAt ad263 (i) (a) := up_n ea265 ha257 (ne_o (i := i) (c := 0) (d := 22) rfl)
  have hg270 := up_n eg266 hg261 (ne_o (i := i) (c := 0) (d := 22) rfl)
  refine z_putF (fs' := [.ref q1, .ref q13, .ref q25, .ref q37, .ref q49, .ref q61, .ref q73, .ref q85, .ref q97, .ref q109, .ref q121, .ref q133, .int (zI (0)), .int (zI (0)), .int (zI (0)), .int (zI (0)), .int (zI (0)), .int (zI (0)), .int (zI (0)), .int (zI (0)), .int (zI (0)), .int (zI (0)), .ref q145, .int (zI (0)), .int (zI (-1)), .int (zI (0)), .int (zI (-1)), .int (zI (-1)), .int (zI (0)), .int (zI (0)), .ref q166, .ref q178, .int (zI (0)), .int (zI (0)), .int (zI (0)), .int (zI (0)), .int (zI (0)), .int (zI (0)), .int (zI (0)), .ref q190, .ref q202, .ref q214, .ref q226, .ref q238, .ref q250, .ref q262, .null, .int (zI (0)), .int (zI (0)), .int (zI (0)), .null, .int (zI (0)), .null, .null, .null, .int (zI (0)), .int (zI (0)), .null, .null, .int (zI (0))]) C (lt_o (i := i) (c := 0) (d := 23) rfl) ha269 hg270 tyX10 tyX10_ok nmX10 rfl inA_X10 45 (by decide) q_1504 rfl rfl hnm rfl rfl rfl (Nat.le_of_ble_eq_true rfl) rfl dX10_init_190 (fun g271 eg272 => ?_)
  have hg273 := up_s eg272
  refine z_aload_n C 0 dX10_init_193 rfl ?_
  refine z_sipush (z := 336) C dX10_init_194 (by decide) ?_
  refine z_newI C 336 rfl q_134 (by decide) (by decide) (by decide) dX10_init_197 (fun q274 ad275 g276 ea277 eg278 => ?_)
  have ha279 : zAt ad275 (i + 1 + 1 + 1 + 1 + 1 + 1 + 1 + 1 + 1 + 1 + 1 + 1 + 1 + 1 + 1 + 1 + 1 + 1 + 1 + 1 + 1 + 1 + 1) q274 := up_s ea277
  have hg280 := up_s eg278
  have ha281 : zAt ad275 (i) (a) := up_n ea277 ha269 (ne_o (i := i) (c := 0) (d := 23) rfl)
  have hg282 := up_n eg278 hg273 (ne_o (i := i) (c := 0) (d := 23) rfl)
  refine z_putF (fs' := [.ref q1, .ref q13, .ref q25, .ref q37, .ref q49, .ref q61, .ref q73, .ref q85, .ref q97, .ref q109, .ref q121, .ref q133, .int (zI (0)), .int (zI (0)), .int (zI (0)), .int (zI (0)), .int (zI (0)), .int (zI (0)), .int (zI (0)), .int (zI (0)), .int (zI (0)), .int (zI (0)), .ref q145, .int (zI (0)), .int (zI (-1)), .int (zI (0)), .int (zI (-1)), .int (zI (-1)), .int (zI (0)), .int (zI (0)), .ref q166, .ref q178, .int (zI (0)), .int (zI (0)), .int (zI (0)), .int (zI (0)), .int (zI (0)), .int (zI (0)), .int (zI (0)), .ref q190, .ref q202, .ref q214, .ref q226, .ref q238, .ref q250, .ref q262, .ref q274, .int (zI (0)), .int (zI (0)), .int (zI (0)), .null, .int (zI (0)), .null, .null, .null, .int (zI (0)), .int (zI (0)), .null, .null, .int (zI (0))]) C (lt_o (i := i) (c := 0) (d := 24) rfl) ha281 hg282 tyX10 tyX10_ok nmX10 rfl inA_X10 46 (by decide) q_1505 rfl rfl hnm rfl rfl rfl (Nat.le_of_ble_eq_true rfl) rfl dX10_init_199 (fun g283 eg284 => ?_)
  have hg285 := up_s eg284
  refine z_aload_n C 0 dX10_init_202 rfl ?_
  refine z_bipush (z := 64) C dX10_init_203 (by decide) ?_
  refine z_newI C 64 rfl q_134 (by decide) (by decide) (by decide) dX10_init_205 (fun q286 ad287 g288 ea289 eg290 => ?_)
  have ha291 : zAt ad287 (i + 1 + 1 + 1 + 1 + 1 + 1 + 1 + 1 + 1 + 1 + 1 + 1 + 1 + 1 + 1 + 1 + 1 + 1 + 1 + 1 + 1 + 1 + 1 + 1) q286 := up_s ea289
  have hg292 := up_s eg290
  have ha293 : zAt ad287 (i) (a) := up_n ea289 ha281 (ne_o (i := i) (c := 0) (d := 24) rfl)
  have hg294 := up_n eg290 hg285 (ne_o (i := i) (c := 0) (d := 24) rfl)
  refine z_putF (fs' := [.ref q1, .ref q13, .ref q25, .ref q37, .ref q49, .ref q61, .ref q73, .ref q85, .ref q97, .ref q109, .ref q121, .ref q133, .int (zI (0)), .int (zI (0)), .int (zI (0)), .int (zI (0)), .int (zI (0)), .int (zI (0)), .int (zI (0)), .int (zI (0)), .int (zI (0)), .int (zI (0)), .ref q145, .int (zI (0)), .int (zI (-1)), .int (zI (0)), .int (zI (-1)), .int (zI (-1)), .int (zI (0)), .int (zI (0)), .ref q166, .ref q178, .int (zI (0)), .int (zI (0)), .int (zI (0)), .int (zI (0)), .int (zI (0)), .int (zI (0)), .int (zI (0)), .ref q190, .ref q202, .ref q214, .ref q226, .ref q238, .ref q250, .ref q262, .ref q274, .int (zI (0)), .int (zI (0)), .int (zI (0)), .ref q286, .int (zI (0)), .null, .null, .null, .int (zI (0)), .int (zI (0)), .null, .null, .int (zI (0))]) C (lt_o (i := i) (c := 0) (d := 25) rfl) ha293 hg294 tyX10 tyX10_ok nmX10 rfl inA_X10 50 (by decide) q_1509 rfl rfl hnm rfl rfl rfl (Nat.le_of_ble_eq_true rfl) rfl dX10_init_207 (fun g295 eg296 => ?_)
  have hg297 := up_s eg296
  refine z_aload_n C 0 dX10_init_210 rfl ?_
  refine z_bipush (z := 12) C dX10_init_211 (by decide) ?_
  refine z_newI C 12 rfl q_134 (by decide) (by decide) (by decide) dX10_init_213 (fun q298 ad299 g300 ea301 eg302 => ?_)
  have ha303 : zAt ad299 (i + 1 + 1 + 1 + 1 + 1 + 1 + 1 + 1 + 1 + 1 + 1 + 1 + 1 + 1 + 1 + 1 + 1 + 1 + 1 + 1 + 1 + 1 + 1 + 1 + 1) q298 := up_s ea301
  have hg304 := up_s eg302
  have ha305 : zAt ad299 (i) (a) := up_n ea301 ha293 (ne_o (i := i) (c := 0) (d := 25) rfl)
  have hg306 := up_n eg302 hg297 (ne_o (i := i) (c := 0) (d := 25) rfl)
  refine z_putF (fs' := [.ref q1, .ref q13, .ref q25, .ref q37, .ref q49, .ref q61, .ref q73, .ref q85, .ref q97, .ref q109, .ref q121, .ref q133, .int (zI (0)), .int (zI (0)), .int (zI (0)), .int (zI (0)), .int (zI (0)), .int (zI (0)), .int (zI (0)), .int (zI (0)), .int (zI (0)), .int (zI (0)), .ref q145, .int (zI (0)), .int (zI (-1)), .int (zI (0)), .int (zI (-1)), .int (zI (-1)), .int (zI (0)), .int (zI (0)), .ref q166, .ref q178, .int (zI (0)), .int (zI (0)), .int (zI (0)), .int (zI (0)), .int (zI (0)), .int (zI (0)), .int (zI (0)), .ref q190, .ref q202, .ref q214, .ref q226, .ref q238, .ref q250, .ref q262, .ref q274, .int (zI (0)), .int (zI (0)), .int (zI (0)), .ref q286, .int (zI (0)), .ref q298, .null, .null, .int (zI (0)), .int (zI (0)), .null, .null, .int (zI (0))]) C (lt_o (i := i) (c := 0) (d := 26) rfl) ha305 hg306 tyX10 tyX10_ok nmX10 rfl inA_X10 52 (by decide) q_1511 rfl rfl hnm rfl rfl rfl (Nat.le_of_ble_eq_true rfl) rfl dX10_init_215 (fun g307 eg308 => ?_)
  have hg309 := up_s eg308
  refine z_aload_n C 0 dX10_init_218 rfl ?_
  refine z_bipush (z := 12) C dX10_init_219 (by decide) ?_
  refine z_newI C 12 rfl q_134 (by decide) (by decide) (by decide) dX10_init_221 (fun q310 ad311 g312 ea313 eg314 => ?_)
  have ha315 : zAt ad311 (i + 1 + 1 + 1 + 1 + 1 + 1 + 1 + 1 + 1 + 1 + 1 + 1 + 1 + 1 + 1 + 1 + 1 + 1 + 1 + 1 + 1 + 1 + 1 + 1 + 1 + 1) q310 := up_s ea313
  have hg316 := up_s eg314
  have ha317 : zAt ad311 (i) (a) := up_n ea313 ha305 (ne_o (i := i) (c := 0) (d := 26) rfl)
  have hg318 := up_n eg314 hg309 (ne_o (i := i) (c := 0) (d := 26) rfl)
  refine z_putF (fs' := [.ref q1, .ref q13, .ref q25, .ref q37, .ref q49, .ref q61, .ref q73, .ref q85, .ref q97, .ref q109, .ref q121, .ref q133, .int (zI (0)), .int (zI (0)), .int (zI (0)), .int (zI (0)), .int (zI (0)), .int (zI (0)), .int (zI (0)), .int (zI (0)), .int (zI (0)), .int (zI (0)), .ref q145, .int (zI (0)), .int (zI (-1)), .int (zI (0)), .int (zI (-1)), .int (zI (-1)), .int (zI (0)), .int (zI (0)), .ref q166, .ref q178, .int (zI (0)), .int (zI (0)), .int (zI (0)), .int (zI (0)), .int (zI (0)), .int (zI (0)), .int (zI (0)), .ref q190, .ref q202, .ref q214, .ref q226, .ref q238, .ref q250, .ref q262, .ref q274, .int (zI (0)), .int (zI (0)), .int (zI (0)), .ref q286, .int (zI (0)), .ref q298, .ref q310, .null, .int (zI (0)), .int (zI (0)), .null, .null, .int (zI (0))]) C (lt_o (i := i) (c := 0) (d := 27) rfl) ha317 hg318 tyX10 tyX10_ok nmX10 rfl inA_X10 53 (by decide) q_1512 rfl rfl hnm rfl rfl rfl (Nat.le_of_ble_eq_true rfl) rfl dX10_init_223 (fun g319 eg320 => ?_)
  have hg321 := up_s eg320
  refine z_aload_n C 0 dX10_init_226 rfl ?_
  refine z_sipush (z := 169) C dX10_init_227 (by decide) ?_
  refine z_newI C 169 rfl q_134 (by decide) (by decide) (by decide) dX10_init_230 (fun q322 ad323 g324 ea325 eg326 => ?_)
  have ha327 : zAt ad323 (i + 1 + 1 + 1 + 1 + 1 + 1 + 1 + 1 + 1 + 1 + 1 + 1 + 1 + 1 + 1 + 1 + 1 + 1 + 1 + 1 + 1 + 1 + 1 + 1 + 1 + 1 + 1) q322 := up_s ea325
  have hg328 := up_s eg326
  have ha329 : zAt ad323 (i) (a) := up_n ea325 ha317 (ne_o (i := i) (c := 0) (d := 27) rfl)
  have hg330 := up_n eg326 hg321 (ne_o (i := i) (c := 0) (d := 27) rfl)
  refine z_putF (fs' := [.ref q1, .ref q13, .ref q25, .ref q37, .ref q49, .ref q61, .ref q73, .ref q85, .ref q97, .ref q109, .ref q121, .ref q133, .int (zI (0)), .int (zI (0)), .int (zI (0)), .int (zI (0)), .int (zI (0)), .int (zI (0)), .int (zI (0)), .int (zI (0)), .int (zI (0)), .int (zI (0)), .ref q145, .int (zI (0)), .int (zI (-1)), .int (zI (0)), .int (zI (-1)), .int (zI (-1)), .int (zI (0)), .int (zI (0)), .ref q166, .ref q178, .int (zI (0)), .int (zI (0)), .int (zI (0)), .int (zI (0)), .int (zI (0)), .int (zI (0)), .int (zI (0)), .ref q190, .ref q202, .ref q214, .ref q226, .ref q238, .ref q250, .ref q262, .ref q274, .int (zI (0)), .int (zI (0)), .int (zI (0)), .ref q286, .int (zI (0)), .ref q298, .ref q310, .ref q322, .int (zI (0)), .int (zI (0)), .null, .null, .int (zI (0))]) C (lt_o (i := i) (c := 0) (d := 28) rfl) ha329 hg330 tyX10 tyX10_ok nmX10 rfl inA_X10 54 (by decide) q_1513 rfl rfl hnm rfl rfl rfl (Nat.le_of_ble_eq_true rfl) rfl dX10_init_232 (fun g331 eg332 => ?_)
  have hg333 := up_s eg332
  refine z_aload_n C 0 dX10_init_235 rfl ?_
  refine z_iconst (z := 4) C dX10_init_236 rfl ?_
  refine z_newI C 4 rfl q_134 (by decide) (by decide) (by decide) dX10_init_237 (fun q334 ad335 g336 ea337 eg338 => ?_)
  have ha339 : zAt ad335 (i + 1 + 1 + 1 + 1 + 1 + 1 + 1 + 1 + 1 + 1 + 1 + 1 + 1 + 1 + 1 + 1 + 1 + 1 + 1 + 1 + 1 + 1 + 1 + 1 + 1 + 1 + 1 + 1) q334 := up_s ea337
  have hg340 := up_s eg338
  have ha341 : zAt ad335 (i) (a) := up_n ea337 ha329 (ne_o (i := i) (c := 0) (d := 28) rfl)
  have hg342 := up_n eg338 hg333 (ne_o (i := i) (c := 0) (d := 28) rfl)
  refine z_putF (fs' := [.ref q1, .ref q13, .ref q25, .ref q37, .ref q49, .ref q61, .ref q73, .ref q85, .ref q97, .ref q109, .ref q121, .ref q133, .int (zI (0)), .int (zI (0)), .int (zI (0)), .int (zI (0)), .int (zI (0)), .int (zI (0)), .int (zI (0)), .int (zI (0)), .int (zI (0)), .int (zI (0)), .ref q145, .int (zI (0)), .int (zI (-1)), .int (zI (0)), .int (zI (-1)), .int (zI (-1)), .int (zI (0)), .int (zI (0)), .ref q166, .ref q178, .int (zI (0)), .int (zI (0)), .int (zI (0)), .int (zI (0)), .int (zI (0)), .int (zI (0)), .int (zI (0)), .ref q190, .ref q202, .ref q214, .ref q226, .ref q238, .ref q250, .ref q262, .ref q274, .int (zI (0)), .int (zI (0)), .int (zI (0)), .ref q286, .int (zI (0)), .ref q298, .ref q310, .ref q322, .int (zI (0)), .int (zI (0)), .ref q334, .null, .int (zI (0))]) C (lt_o (i := i) (c := 0) (d := 29) rfl) ha341 hg342 tyX10 tyX10_ok nmX10 rfl inA_X10 57 (by decide) q_1516 rfl rfl hnm rfl rfl rfl (Nat.le_of_ble_eq_true rfl) rfl dX10_init_239 (fun g343 eg344 => ?_)
  have hg345 := up_s eg344
  refine z_aload_n C 0 dX10_init_242 rfl ?_
  refine z_sipush (z := 4800) C dX10_init_243 (by decide) ?_
  refine z_newI C 4800 rfl q_134 (by decide) (by decide) (by decide) dX10_init_246 (fun q346 ad347 g348 ea349 eg350 => ?_)
  have ha351 : zAt ad347 (i + 1 + 1 + 1 + 1 + 1 + 1 + 1 + 1 + 1 + 1 + 1 + 1 + 1 + 1 + 1 + 1 + 1 + 1 + 1 + 1 + 1 + 1 + 1 + 1 + 1 + 1 + 1 + 1 + 1) q346 := up_s ea349
  have hg352 := up_s eg350
  have ha353 : zAt ad347 (i) (a) := up_n ea349 ha341 (ne_o (i := i) (c := 0) (d := 29) rfl)
  have hg354 := up_n eg350 hg345 (ne_o (i := i) (c := 0) (d := 29) rfl)
  refine z_putF (fs' := [.ref q1, .ref q13, .ref q25, .ref q37, .ref q49, .ref q61, .ref q73, .ref q85, .ref q97, .ref q109, .ref q121, .ref q133, .int (zI (0)), .int (zI (0)), .int (zI (0)), .int (zI (0)), .int (zI (0)), .int (zI (0)), .int (zI (0)), .int (zI (0)), .int (zI (0)), .int (zI (0)), .ref q145, .int (zI (0)), .int (zI (-1)), .int (zI (0)), .int (zI (-1)), .int (zI (-1)), .int (zI (0)), .int (zI (0)), .ref q166, .ref q178, .int (zI (0)), .int (zI (0)), .int (zI (0)), .int (zI (0)), .int (zI (0)), .int (zI (0)), .int (zI (0)), .ref q190, .ref q202, .ref q214, .ref q226, .ref q238, .ref q250, .ref q262, .ref q274, .int (zI (0)), .int (zI (0)), .int (zI (0)), .ref q286, .int (zI (0)), .ref q298, .ref q310, .ref q322, .int (zI (0)), .int (zI (0)), .ref q334, .ref q346, .int (zI (0))]) C (lt_o (i := i) (c := 0) (d := 30) rfl) ha353 hg354 tyX10 tyX10_ok nmX10 rfl inA_X10 58 (by decide) q_1517 rfl rfl hnm rfl rfl rfl (Nat.le_of_ble_eq_true rfl) rfl dX10_init_248 (fun g355 eg356 => ?_)
  have hg357 := up_s eg356
  refine z_aload_n C 0 dX10_init_251 rfl ?_
  have ha358 : zAt ad14 (i + 1) (q1) := up_n ea16 ha6 (ne_o (i := i) (c := 1) (d := 2) rfl)
  have ha359 : zAt ad26 (i + 1) (q1) := up_n ea28 ha358 (ne_o (i := i) (c := 1) (d := 3) rfl)
  have ha360 : zAt ad38 (i + 1) (q1) := up_n ea40 ha359 (ne_o (i := i) (c := 1) (d := 4) rfl)
  have ha361 : zAt ad50 (i + 1) (q1) := up_n ea52 ha360 (ne_o (i := i) (c := 1) (d := 5) rfl)
  have ha362 : zAt ad62 (i + 1) (q1) := up_n ea64 ha361 (ne_o (i := i) (c := 1) (d := 6) rfl)
  have ha363 : zAt ad74 (i + 1) (q1) := up_n ea76 ha362 (ne_o (i := i) (c := 1) (d := 7) rfl)
  have ha364 : zAt ad86 (i + 1) (q1) := up_n ea88 ha363 (ne_o (i := i) (c := 1) (d := 8) rfl)
  have ha365 : zAt ad98 (i + 1) (q1) := up_n ea100 ha364 (ne_o (i := i) (c := 1) (d := 9) rfl)
  have ha366 : zAt ad110 (i + 1) (q1) := up_n ea112 ha365 (ne_o (i := i) (c := 1) (d := 10) rfl)
  have ha367 : zAt ad122 (i + 1) (q1) := up_n ea124 ha366 (ne_o (i := i) (c := 1) (d := 11) rfl)
  have ha368 : zAt ad134 (i + 1) (q1) := up_n ea136 ha367 (ne_o (i := i) (c := 1) (d := 12) rfl)
  have ha369 : zAt ad146 (i + 1) (q1) := up_n ea148 ha368 (ne_o (i := i) (c := 1) (d := 13) rfl)
  have ha370 : zAt ad167 (i + 1) (q1) := up_n ea169 ha369 (ne_o (i := i) (c := 1) (d := 14) rfl)
  have ha371 : zAt ad179 (i + 1) (q1) := up_n ea181 ha370 (ne_o (i := i) (c := 1) (d := 15) rfl)
  have ha372 : zAt ad191 (i + 1) (q1) := up_n ea193 ha371 (ne_o (i := i) (c := 1) (d := 16) rfl)
  have ha373 : zAt ad203 (i + 1) (q1) := up_n ea205 ha372 (ne_o (i := i) (c := 1) (d := 17) rfl)
  have ha374 : zAt ad215 (i + 1) (q1) := up_n ea217 ha373 (ne_o (i := i) (c := 1) (d := 18) rfl)
  have ha375 : zAt ad227 (i + 1) (q1) := up_n ea229 ha374 (ne_o (i := i) (c := 1) (d := 19) rfl)
  have ha376 : zAt ad239 (i + 1) (q1) := up_n ea241 ha375 (ne_o (i := i) (c := 1) (d := 20) rfl)
  have ha377 : zAt ad251 (i + 1) (q1) := up_n ea253 ha376 (ne_o (i := i) (c := 1) (d := 21) rfl)
  have ha378 : zAt ad263 (i + 1) (q1) := up_n ea265 ha377 (ne_o (i := i) (c := 1) (d := 22) rfl)
  have ha379 : zAt ad275 (i + 1) (q1) := up_n ea277 ha378 (ne_o (i := i) (c := 1) (d := 23) rfl)
  have ha380 : zAt ad287 (i + 1) (q1) := up_n ea289 ha379 (ne_o (i := i) (c := 1) (d := 24) rfl)
  have ha381 : zAt ad299 (i + 1) (q1) := up_n ea301 ha380 (ne_o (i := i) (c := 1) (d := 25) rfl)
  have ha382 : zAt ad311 (i + 1) (q1) := up_n ea313 ha381 (ne_o (i := i) (c := 1) (d := 26) rfl)
  have ha383 : zAt ad323 (i + 1) (q1) := up_n ea325 ha382 (ne_o (i := i) (c := 1) (d := 27) rfl)
  have ha384 : zAt ad335 (i + 1) (q1) := up_n ea337 ha383 (ne_o (i := i) (c := 1) (d := 28) rfl)
  have ha385 : zAt ad347 (i + 1) (q1) := up_n ea349 ha384 (ne_o (i := i) (c := 1) (d := 29) rfl)
  have ha386 : zAt ad26 (i + 1 + 1) (q13) := up_n ea28 ha18 (ne_o (i := i) (c := 2) (d := 3) rfl)
  have ha387 : zAt ad38 (i + 1 + 1) (q13) := up_n ea40 ha386 (ne_o (i := i) (c := 2) (d := 4) rfl)
  have ha388 : zAt ad50 (i + 1 + 1) (q13) := up_n ea52 ha387 (ne_o (i := i) (c := 2) (d := 5) rfl)
  have ha389 : zAt ad62 (i + 1 + 1) (q13) := up_n ea64 ha388 (ne_o (i := i) (c := 2) (d := 6) rfl)
  have ha390 : zAt ad74 (i + 1 + 1) (q13) := up_n ea76 ha389 (ne_o (i := i) (c := 2) (d := 7) rfl)
  have ha391 : zAt ad86 (i + 1 + 1) (q13) := up_n ea88 ha390 (ne_o (i := i) (c := 2) (d := 8) rfl)
  have ha392 : zAt ad98 (i + 1 + 1) (q13) := up_n ea100 ha391 (ne_o (i := i) (c := 2) (d := 9) rfl)
  have ha393 : zAt ad110 (i + 1 + 1) (q13) := up_n ea112 ha392 (ne_o (i := i) (c := 2) (d := 10) rfl)
  have ha394 : zAt ad122 (i + 1 + 1) (q13) := up_n ea124 ha393 (ne_o (i := i) (c := 2) (d := 11) rfl)
  have ha395 : zAt ad134 (i + 1 + 1) (q13) := up_n ea136 ha394 (ne_o (i := i) (c := 2) (d := 12) rfl)
  have ha396 : zAt ad146 (i + 1 + 1) (q13) := up_n ea148 ha395 (ne_o (i := i) (c := 2) (d := 13) rfl)
  have ha397 : zAt ad167 (i + 1 + 1) (q13) := up_n ea169 ha396 (ne_o (i := i) (c := 2) (d := 14) rfl)
  have ha398 : zAt ad179 (i + 1 + 1) (q13) := up_n ea181 ha397 (ne_o (i := i) (c := 2) (d := 15) rfl)
  have ha399 : zAt ad191 (i + 1 + 1) (q13) := up_n ea193 ha398 (ne_o (i := i) (c := 2) (d := 16) rfl)
  have ha400 : zAt ad203 (i + 1 + 1) (q13) := up_n ea205 ha399 (ne_o (i := i) (c := 2) (d := 17) rfl)
  have ha401 : zAt ad215 (i + 1 + 1) (q13) := up_n ea217 ha400 (ne_o (i := i) (c := 2) (d := 18) rfl)
  have ha402 : zAt ad227 (i + 1 + 1) (q13) := up_n ea229 ha401 (ne_o (i := i) (c := 2) (d := 19) rfl)
  have ha403 : zAt ad239 (i + 1 + 1) (q13) := up_n ea241 ha402 (ne_o (i := i) (c := 2) (d := 20) rfl)
  have ha404 : zAt ad251 (i + 1 + 1) (q13) := up_n ea253 ha403 (ne_o (i := i) (c := 2) (d := 21) rfl)
  have ha405 : zAt ad263 (i + 1 + 1) (q13) := up_n ea265 ha404 (ne_o (i := i) (c := 2) (d := 22) rfl)
  have ha406 : zAt ad275 (i + 1 + 1) (q13) := up_n ea277 ha405 (ne_o (i := i) (c := 2) (d := 23) rfl)
  have ha407 : zAt ad287 (i + 1 + 1) (q13) := up_n ea289 ha406 (ne_o (i := i) (c := 2) (d := 24) rfl)
  have ha408 : zAt ad299 (i + 1 + 1) (q13) := up_n ea301 ha407 (ne_o (i := i) (c := 2) (d := 25) rfl)
  have ha409 : zAt ad311 (i + 1 + 1) (q13) := up_n ea313 ha408 (ne_o (i := i) (c := 2) (d := 26) rfl)
  have ha410 : zAt ad323 (i + 1 + 1) (q13) := up_n ea325 ha409 (ne_o (i := i) (c := 2) (d := 27) rfl)
  have ha411 : zAt ad335 (i + 1 + 1) (q13) := up_n ea337 ha410 (ne_o (i := i) (c := 2) (d := 28) rfl)
  have ha412 : zAt ad347 (i + 1 + 1) (q13) := up_n ea349 ha411 (ne_o (i := i) (c := 2) (d := 29) rfl)
  have ha413 : zAt ad38 (i + 1 + 1 + 1) (q25) := up_n ea40 ha30 (ne_o (i := i) (c := 3) (d := 4) rfl)
  have ha414 : zAt ad50 (i + 1 + 1 + 1) (q25) := up_n ea52 ha413 (ne_o (i := i) (c := 3) (d := 5) rfl)
  have ha415 : zAt ad62 (i + 1 + 1 + 1) (q25) := up_n ea64 ha414 (ne_o (i := i) (c := 3) (d := 6) rfl)
  have ha416 : zAt ad74 (i + 1 + 1 + 1) (q25) := up_n ea76 ha415 (ne_o (i := i) (c := 3) (d := 7) rfl)
  have ha417 : zAt ad86 (i + 1 + 1 + 1) (q25) := up_n ea88 ha416 (ne_o (i := i) (c := 3) (d := 8) rfl)
  have ha418 : zAt ad98 (i + 1 + 1 + 1) (q25) := up_n ea100 ha417 (ne_o (i := i) (c := 3) (d := 9) rfl)
  have ha419 : zAt ad110 (i + 1 + 1 + 1) (q25) := up_n ea112 ha418 (ne_o (i := i) (c := 3) (d := 10) rfl)
  have ha420 : zAt ad122 (i + 1 + 1 + 1) (q25) := up_n ea124 ha419 (ne_o (i := i) (c := 3) (d := 11) rfl)
  have ha421 : zAt ad134 (i + 1 + 1 + 1) (q25) := up_n ea136 ha420 (ne_o (i := i) (c := 3) (d := 12) rfl)
  have ha422 : zAt ad146 (i + 1 + 1 + 1) (q25) := up_n ea148 ha421 (ne_o (i := i) (c := 3) (d := 13) rfl)
  have ha423 : zAt ad167 (i + 1 + 1 + 1) (q25) := up_n ea169 ha422 (ne_o (i := i) (c := 3) (d := 14) rfl)
  have ha424 : zAt ad179 (i + 1 + 1 + 1) (q25) := up_n ea181 ha423 (ne_o (i := i) (c := 3) (d := 15) rfl)
  have ha425 : zAt ad191 (i + 1 + 1 + 1) (q25) := up_n ea193 ha424 (ne_o (i := i) (c := 3) (d := 16) rfl)
  have ha426 : zAt ad203 (i + 1 + 1 + 1) (q25) := up_n ea205 ha425 (ne_o (i := i) (c := 3) (d := 17) rfl)
  have ha427 : zAt ad215 (i + 1 + 1 + 1) (q25) := up_n ea217 ha426 (ne_o (i := i) (c := 3) (d := 18) rfl)
  have ha428 : zAt ad227 (i + 1 + 1 + 1) (q25) := up_n ea229 ha427 (ne_o (i := i) (c := 3) (d := 19) rfl)
  have ha429 : zAt ad239 (i + 1 + 1 + 1) (q25) := up_n ea241 ha428 (ne_o (i := i) (c := 3) (d := 20) rfl)
  have ha430 : zAt ad251 (i + 1 + 1 + 1) (q25) := up_n ea253 ha429 (ne_o (i := i) (c := 3) (d := 21) rfl)
  have ha431 : zAt ad263 (i + 1 + 1 + 1) (q25) := up_n ea265 ha430 (ne_o (i := i) (c := 3) (d := 22) rfl)
  have ha432 : zAt ad275 (i + 1 + 1 + 1) (q25) := up_n ea277 ha431 (ne_o (i := i) (c := 3) (d := 23) rfl)
  have ha433 : zAt ad287 (i + 1 + 1 + 1) (q25) := up_n ea289 ha432 (ne_o (i := i) (c := 3) (d := 24) rfl)
  have ha434 : zAt ad299 (i + 1 + 1 + 1) (q25) := up_n ea301 ha433 (ne_o (i := i) (c := 3) (d := 25) rfl)
  have ha435 : zAt ad311 (i + 1 + 1 + 1) (q25) := up_n ea313 ha434 (ne_o (i := i) (c := 3) (d := 26) rfl)
  have ha436 : zAt ad323 (i + 1 + 1 + 1) (q25) := up_n ea325 ha435 (ne_o (i := i) (c := 3) (d := 27) rfl)
  have ha437 : zAt ad335 (i + 1 + 1 + 1) (q25) := up_n ea337 ha436 (ne_o (i := i) (c := 3) (d := 28) rfl)
  have ha438 : zAt ad347 (i + 1 + 1 + 1) (q25) := up_n ea349 ha437 (ne_o (i := i) (c := 3) (d := 29) rfl)
  have ha439 : zAt ad50 (i + 1 + 1 + 1 + 1) (q37) := up_n ea52 ha42 (ne_o (i := i) (c := 4) (d := 5) rfl)
  have ha440 : zAt ad62 (i + 1 + 1 + 1 + 1) (q37) := up_n ea64 ha439 (ne_o (i := i) (c := 4) (d := 6) rfl)
  have ha441 : zAt ad74 (i + 1 + 1 + 1 + 1) (q37) := up_n ea76 ha440 (ne_o (i := i) (c := 4) (d := 7) rfl)
  have ha442 : zAt ad86 (i + 1 + 1 + 1 + 1) (q37) := up_n ea88 ha441 (ne_o (i := i) (c := 4) (d := 8) rfl)
  have ha443 : zAt ad98 (i + 1 + 1 + 1 + 1) (q37) := up_n ea100 ha442 (ne_o (i := i) (c := 4) (d := 9) rfl)
  have ha444 : zAt ad110 (i + 1 + 1 + 1 + 1) (q37) := up_n ea112 ha443 (ne_o (i := i) (c := 4) (d := 10) rfl)
  have ha445 : zAt ad122 (i + 1 + 1 + 1 + 1) (q37) := up_n ea124 ha444 (ne_o (i := i) (c := 4) (d := 11) rfl)
  have ha446 : zAt ad134 (i + 1 + 1 + 1 + 1) (q37) := up_n ea136 ha445 (ne_o (i := i) (c := 4) (d := 12) rfl)
  have ha447 : zAt ad146 (i + 1 + 1 + 1 + 1) (q37) := up_n ea148 ha446 (ne_o (i := i) (c := 4) (d := 13) rfl)
  have ha448 : zAt ad167 (i + 1 + 1 + 1 + 1) (q37) := up_n ea169 ha447 (ne_o (i := i) (c := 4) (d := 14) rfl)
  have ha449 : zAt ad179 (i + 1 + 1 + 1 + 1) (q37) := up_n ea181 ha448 (ne_o (i := i) (c := 4) (d := 15) rfl)
  have ha450 : zAt ad191 (i + 1 + 1 + 1 + 1) (q37) := up_n ea193 ha449 (ne_o (i := i) (c := 4) (d := 16) rfl)
  have ha451 : zAt ad203 (i + 1 + 1 + 1 + 1) (q37) := up_n ea205 ha450 (ne_o (i := i) (c := 4) (d := 17) rfl)
  have ha452 : zAt ad215 (i + 1 + 1 + 1 + 1) (q37) := up_n ea217 ha451 (ne_o (i := i) (c := 4) (d := 18) rfl)
  have ha453 : zAt ad227 (i + 1 + 1 + 1 + 1) (q37) := up_n ea229 ha452 (ne_o (i := i) (c := 4) (d := 19) rfl)
  have ha454 : zAt ad239 (i + 1 + 1 + 1 + 1) (q37) := up_n ea241 ha453 (ne_o (i := i) (c := 4) (d := 20) rfl)
  have ha455 : zAt ad251 (i + 1 + 1 + 1 + 1) (q37) := up_n ea253 ha454 (ne_o (i := i) (c := 4) (d := 21) rfl)
  have ha456 : zAt ad263 (i + 1 + 1 + 1 + 1) (q37) := up_n ea265 ha455 (ne_o (i := i) (c := 4) (d := 22) rfl)
  have ha457 : zAt ad275 (i + 1 + 1 + 1 + 1) (q37) := up_n ea277 ha456 (ne_o (i := i) (c := 4) (d := 23) rfl)
  have ha458 : zAt ad287 (i + 1 + 1 + 1 + 1) (q37) := up_n ea289 ha457 (ne_o (i := i) (c := 4) (d := 24) rfl)
  have ha459 : zAt ad299 (i + 1 + 1 + 1 + 1) (q37) := up_n ea301 ha458 (ne_o (i := i) (c := 4) (d := 25) rfl)
  have ha460 : zAt ad311 (i + 1 + 1 + 1 + 1) (q37) := up_n ea313 ha459 (ne_o (i := i) (c := 4) (d := 26) rfl)
  have ha461 : zAt ad323 (i + 1 + 1 + 1 + 1) (q37) := up_n ea325 ha460 (ne_o (i := i) (c := 4) (d := 27) rfl)
  have ha462 : zAt ad335 (i + 1 + 1 + 1 + 1) (q37) := up_n ea337 ha461 (ne_o (i := i) (c := 4) (d := 28) rfl)
  have ha463 : zAt ad347 (i + 1 + 1 + 1 + 1) (q37) := up_n ea349 ha462 (ne_o (i := i) (c := 4) (d := 29) rfl)
  have ha464 : zAt ad62 (i + 1 + 1 + 1 + 1 + 1) (q49) := up_n ea64 ha54 (ne_o (i := i) (c := 5) (d := 6) rfl)
  have ha465 : zAt ad74 (i + 1 + 1 + 1 + 1 + 1) (q49) := up_n ea76 ha464 (ne_o (i := i) (c := 5) (d := 7) rfl)
  have ha466 : zAt ad86 (i + 1 + 1 + 1 + 1 + 1) (q49) := up_n ea88 ha465 (ne_o (i := i) (c := 5) (d := 8) rfl)
  have ha467 : zAt ad98 (i + 1 + 1 + 1 + 1 + 1) (q49) := up_n ea100 ha466 (ne_o (i := i) (c := 5) (d := 9) rfl)
  have ha468 : zAt ad110 (i + 1 + 1 + 1 + 1 + 1) (q49) := up_n ea112 ha467 (ne_o (i := i) (c := 5) (d := 10) rfl)
  have ha469 : zAt ad122 (i + 1 + 1 + 1 + 1 + 1) (q49) := up_n ea124 ha468 (ne_o (i := i) (c := 5) (d := 11) rfl)
  have ha470 : zAt ad134 (i + 1 + 1 + 1 + 1 + 1) (q49) := up_n ea136 ha469 (ne_o (i := i) (c := 5) (d := 12) rfl)
  have ha471 : zAt ad146 (i + 1 + 1 + 1 + 1 + 1) (q49) := up_n ea148 ha470 (ne_o (i := i) (c := 5) (d := 13) rfl)
  have ha472 : zAt ad167 (i + 1 + 1 + 1 + 1 + 1) (q49) := up_n ea169 ha471 (ne_o (i := i) (c := 5) (d := 14) rfl)
  have ha473 : zAt ad179 (i + 1 + 1 + 1 + 1 + 1) (q49) := up_n ea181 ha472 (ne_o (i := i) (c := 5) (d := 15) rfl)
  have ha474 : zAt ad191 (i + 1 + 1 + 1 + 1 + 1) (q49) := up_n ea193 ha473 (ne_o (i := i) (c := 5) (d := 16) rfl)
  have ha475 : zAt ad203 (i + 1 + 1 + 1 + 1 + 1) (q49) := up_n ea205 ha474 (ne_o (i := i) (c := 5) (d := 17) rfl)
  have ha476 : zAt ad215 (i + 1 + 1 + 1 + 1 + 1) (q49) := up_n ea217 ha475 (ne_o (i := i) (c := 5) (d := 18) rfl)
  have ha477 : zAt ad227 (i + 1 + 1 + 1 + 1 + 1) (q49) := up_n ea229 ha476 (ne_o (i := i) (c := 5) (d := 19) rfl)
  have ha478 : zAt ad239 (i + 1 + 1 + 1 + 1 + 1) (q49) := up_n ea241 ha477 (ne_o (i := i) (c := 5) (d := 20) rfl)
  have ha479 : zAt ad251 (i + 1 + 1 + 1 + 1 + 1) (q49) := up_n ea253 ha478 (ne_o (i := i) (c := 5) (d := 21) rfl)
  have ha480 : zAt ad263 (i + 1 + 1 + 1 + 1 + 1) (q49) := up_n ea265 ha479 (ne_o (i := i) (c := 5) (d := 22) rfl)
  have ha481 : zAt ad275 (i + 1 + 1 + 1 + 1 + 1) (q49) := up_n ea277 ha480 (ne_o (i := i) (c := 5) (d := 23) rfl)
  have ha482 : zAt ad287 (i + 1 + 1 + 1 + 1 + 1) (q49) := up_n ea289 ha481 (ne_o (i := i) (c := 5) (d := 24) rfl)
  have ha483 : zAt ad299 (i + 1 + 1 + 1 + 1 + 1) (q49) := up_n ea301 ha482 (ne_o (i := i) (c := 5) (d := 25) rfl)
  have ha484 : zAt ad311 (i + 1 + 1 + 1 + 1 + 1) (q49) := up_n ea313 ha483 (ne_o (i := i) (c := 5) (d := 26) rfl)
  have ha485 : zAt ad323 (i + 1 + 1 + 1 + 1 + 1) (q49) := up_n ea325 ha484 (ne_o (i := i) (c := 5) (d := 27) rfl)
  have ha486 : zAt ad335 (i + 1 + 1 + 1 + 1 + 1) (q49) := up_n ea337 ha485 (ne_o (i := i) (c := 5) (d := 28) rfl)
  have ha487 : zAt ad347 (i + 1 + 1 + 1 + 1 + 1) (q49) := up_n ea349 ha486 (ne_o (i := i) (c := 5) (d := 29) rfl)
  have ha488 : zAt ad74 (i + 1 + 1 + 1 + 1 + 1 + 1) (q61) := up_n ea76 ha66 (ne_o (i := i) (c := 6) (d := 7) rfl)
  have ha489 : zAt ad86 (i + 1 + 1 + 1 + 1 + 1 + 1) (q61) := up_n ea88 ha488 (ne_o (i := i) (c := 6) (d := 8) rfl)
  have ha490 : zAt ad98 (i + 1 + 1 + 1 + 1 + 1 + 1) (q61) := up_n ea100 ha489 (ne_o (i := i) (c := 6) (d := 9) rfl)
  have ha491 : zAt ad110 (i + 1 + 1 + 1 + 1 + 1 + 1) (q61) := up_n ea112 ha490 (ne_o (i := i) (c := 6) (d := 10) rfl)
  have ha492 : zAt ad122 (i + 1 + 1 + 1 + 1 + 1 + 1) (q61) := up_n ea124 ha491 (ne_o (i := i) (c := 6) (d := 11) rfl)
  have ha493 : zAt ad134 (i + 1 + 1 + 1 + 1 + 1 + 1) (q61) := up_n ea136 ha492 (ne_o (i := i) (c := 6) (d := 12) rfl)
  have ha494 : zAt ad146 (i + 1 + 1 + 1 + 1 + 1 + 1) (q61) := up_n ea148 ha493 (ne_o (i := i) (c := 6) (d := 13) rfl)
  have ha495 : zAt ad167 (i + 1 + 1 + 1 + 1 + 1 + 1) (q61) := up_n ea169 ha494 (ne_o (i := i) (c := 6) (d := 14) rfl)
  have ha496 : zAt ad179 (i + 1 + 1 + 1 + 1 + 1 + 1) (q61) := up_n ea181 ha495 (ne_o (i := i) (c := 6) (d := 15) rfl)
  have ha497 : zAt ad191 (i + 1 + 1 + 1 + 1 + 1 + 1) (q61) := up_n ea193 ha496 (ne_o (i := i) (c := 6) (d := 16) rfl)
  have ha498 : zAt ad203 (i + 1 + 1 + 1 + 1 + 1 + 1) (q61) := up_n ea205 ha497 (ne_o (i := i) (c := 6) (d := 17) rfl)
  have ha499 : zAt ad215 (i + 1 + 1 + 1 + 1 + 1 + 1) (q61) := up_n ea217 ha498 (ne_o (i := i) (c := 6) (d := 18) rfl)
  have ha500 : zAt ad227 (i + 1 + 1 + 1 + 1 + 1 + 1) (q61) := up_n ea229 ha499 (ne_o (i := i) (c := 6) (d := 19) rfl)
  have ha501 : zAt ad239 (i + 1 + 1 + 1 + 1 + 1 + 1) (q61) := up_n ea241 ha500 (ne_o (i := i) (c := 6) (d := 20) rfl)
  have ha502 : zAt ad251 (i + 1 + 1 + 1 + 1 + 1 + 1) (q61) := up_n ea253 ha501 (ne_o (i := i) (c := 6) (d := 21) rfl)
  have ha503 : zAt ad263 (i + 1 + 1 + 1 + 1 + 1 + 1) (q61) := up_n ea265 ha502 (ne_o (i := i) (c := 6) (d := 22) rfl)
  have ha504 : zAt ad275 (i + 1 + 1 + 1 + 1 + 1 + 1) (q61) := up_n ea277 ha503 (ne_o (i := i) (c := 6) (d := 23) rfl)
  have ha505 : zAt ad287 (i + 1 + 1 + 1 + 1 + 1 + 1) (q61) := up_n ea289 ha504 (ne_o (i := i) (c := 6) (d := 24) rfl)
  have ha506 : zAt ad299 (i + 1 + 1 + 1 + 1 + 1 + 1) (q61) := up_n ea301 ha505 (ne_o (i := i) (c := 6) (d := 25) rfl)
  have ha507 : zAt ad311 (i + 1 + 1 + 1 + 1 + 1 + 1) (q61) := up_n ea313 ha506 (ne_o (i := i) (c := 6) (d := 26) rfl)
  have ha508 : zAt ad323 (i + 1 + 1 + 1 + 1 + 1 + 1) (q61) := up_n ea325 ha507 (ne_o (i := i) (c := 6) (d := 27) rfl)
  have ha509 : zAt ad335 (i + 1 + 1 + 1 + 1 + 1 + 1) (q61) := up_n ea337 ha508 (ne_o (i := i) (c := 6) (d := 28) rfl)
  have ha510 : zAt ad347 (i + 1 + 1 + 1 + 1 + 1 + 1) (q61) := up_n ea349 ha509 (ne_o (i := i) (c := 6) (d := 29) rfl)
  have ha511 : zAt ad86 (i + 1 + 1 + 1 + 1 + 1 + 1 + 1) (q73) := up_n ea88 ha78 (ne_o (i := i) (c := 7) (d := 8) rfl)
  have ha512 : zAt ad98 (i + 1 + 1 + 1 + 1 + 1 + 1 + 1) (q73) := up_n ea100 ha511 (ne_o (i := i) (c := 7) (d := 9) rfl)
  have ha513 : zAt ad110 (i + 1 + 1 + 1 + 1 + 1 + 1 + 1) (q73) := up_n ea112 ha512 (ne_o (i := i) (c := 7) (d := 10) rfl)
  have ha514 : zAt ad122 (i + 1 + 1 + 1 + 1 + 1 + 1 + 1) (q73) := up_n ea124 ha513 (ne_o (i := i) (c := 7) (d := 11) rfl)
  have ha515 : zAt ad134 (i + 1 + 1 + 1 + 1 + 1 + 1 + 1) (q73) := up_n ea136 ha514 (ne_o (i := i) (c := 7) (d := 12) rfl)
  have ha516 : zAt ad146 (i + 1 + 1 + 1 + 1 + 1 + 1 + 1) (q73) := up_n ea148 ha515 (ne_o (i := i) (c := 7) (d := 13) rfl)
  have ha517 : zAt ad167 (i + 1 + 1 + 1 + 1 + 1 + 1 + 1) (q73) := up_n ea169 ha516 (ne_o (i := i) (c := 7) (d := 14) rfl)
  have ha518 : zAt ad179 (i + 1 + 1 + 1 + 1 + 1 + 1 + 1) (q73) := up_n ea181 ha517 (ne_o (i := i) (c := 7) (d := 15) rfl)
  have ha519 : zAt ad191 (i + 1 + 1 + 1 + 1 + 1 + 1 + 1) (q73) := up_n ea193 ha518 (ne_o (i := i) (c := 7) (d := 16) rfl)
  have ha520 : zAt ad203 (i + 1 + 1 + 1 + 1 + 1 + 1 + 1) (q73) := up_n ea205 ha519 (ne_o (i := i) (c := 7) (d := 17) rfl)
  have ha521 : zAt ad215 (i + 1 + 1 + 1 + 1 + 1 + 1 + 1) (q73) := up_n ea217 ha520 (ne_o (i := i) (c := 7) (d := 18) rfl)
  have ha522 : zAt ad227 (i + 1 + 1 + 1 + 1 + 1 + 1 + 1) (q73) := up_n ea229 ha521 (ne_o (i := i) (c := 7) (d := 19) rfl)
  have ha523 : zAt ad239 (i + 1 + 1 + 1 + 1 + 1 + 1 + 1) (q73) := up_n ea241 ha522 (ne_o (i := i) (c := 7) (d := 20) rfl)
  have ha524 : zAt ad251 (i + 1 + 1 + 1 + 1 + 1 + 1 + 1) (q73) := up_n ea253 ha523 (ne_o (i := i) (c := 7) (d := 21) rfl)
  have ha525 : zAt ad263 (i + 1 + 1 + 1 + 1 + 1 + 1 + 1) (q73) := up_n ea265 ha524 (ne_o (i := i) (c := 7) (d := 22) rfl)
  have ha526 : zAt ad275 (i + 1 + 1 + 1 + 1 + 1 + 1 + 1) (q73) := up_n ea277 ha525 (ne_o (i := i) (c := 7) (d := 23) rfl)
  have ha527 : zAt ad287 (i + 1 + 1 + 1 + 1 + 1 + 1 + 1) (q73) := up_n ea289 ha526 (ne_o (i := i) (c := 7) (d := 24) rfl)
  have ha528 : zAt ad299 (i + 1 + 1 + 1 + 1 + 1 + 1 + 1) (q73) := up_n ea301 ha527 (ne_o (i := i) (c := 7) (d := 25) rfl)
  have ha529 : zAt ad311 (i + 1 + 1 + 1 + 1 + 1 + 1 + 1) (q73) := up_n ea313 ha528 (ne_o (i := i) (c := 7) (d := 26) rfl)
  have ha530 : zAt ad323 (i + 1 + 1 + 1 + 1 + 1 + 1 + 1) (q73) := up_n ea325 ha529 (ne_o (i := i) (c := 7) (d := 27) rfl)
  have ha531 : zAt ad335 (i + 1 + 1 + 1 + 1 + 1 + 1 + 1) (q73) := up_n ea337 ha530 (ne_o (i := i) (c := 7) (d := 28) rfl)
  have ha532 : zAt ad347 (i + 1 + 1 + 1 + 1 + 1 + 1 + 1) (q73) := up_n ea349 ha531 (ne_o (i := i) (c := 7) (d := 29) rfl)
  have ha533 : zAt ad98 (i + 1 + 1 + 1 + 1 + 1 + 1 + 1 + 1) (q85) := up_n ea100 ha90 (ne_o (i := i) (c := 8) (d := 9) rfl)
  have ha534 : zAt ad110 (i + 1 + 1 + 1 + 1 + 1 + 1 + 1 + 1) (q85) := up_n ea112 ha533 (ne_o (i := i) (c := 8) (d := 10) rfl)
  have ha535 : zAt ad122 (i + 1 + 1 + 1 + 1 + 1 + 1 + 1 + 1) (q85) := up_n ea124 ha534 (ne_o (i := i) (c := 8) (d := 11) rfl)
  have ha536 : zAt ad134 (i + 1 + 1 + 1 + 1 + 1 + 1 + 1 + 1) (q85) := up_n ea136 ha535 (ne_o (i := i) (c := 8) (d := 12) rfl)
  have ha537 : zAt ad146 (i + 1 + 1 + 1 + 1 + 1 + 1 + 1 + 1) (q85) := up_n ea148 ha536 (ne_o (i := i) (c := 8) (d := 13) rfl)
  have ha538 : zAt ad167 (i + 1 + 1 + 1 + 1 + 1 + 1 + 1 + 1) (q85) := up_n ea169 ha537 (ne_o (i := i) (c := 8) (d := 14) rfl)
  have ha539 : zAt ad179 (i + 1 + 1 + 1 + 1 + 1 + 1 + 1 + 1) (q85) := up_n ea181 ha538 (ne_o (i := i) (c := 8) (d := 15) rfl)
  have ha540 : zAt ad191 (i + 1 + 1 + 1 + 1 + 1 + 1 + 1 + 1) (q85) := up_n ea193 ha539 (ne_o (i := i) (c := 8) (d := 16) rfl)
  have ha541 : zAt ad203 (i + 1 + 1 + 1 + 1 + 1 + 1 + 1 + 1) (q85) := up_n ea205 ha540 (ne_o (i := i) (c := 8) (d := 17) rfl)
  have ha542 : zAt ad215 (i + 1 + 1 + 1 + 1 + 1 + 1 + 1 + 1) (q85) := up_n ea217 ha541 (ne_o (i := i) (c := 8) (d := 18) rfl)
  have ha543 : zAt ad227 (i + 1 + 1 + 1 + 1 + 1 + 1 + 1 + 1) (q85) := up_n ea229 ha542 (ne_o (i := i) (c := 8) (d := 19) rfl)
  have ha544 : zAt ad239 (i + 1 + 1 + 1 + 1 + 1 + 1 + 1 + 1) (q85) := up_n ea241 ha543 (ne_o (i := i) (c := 8) (d := 20) rfl)
  have ha545 : zAt ad251 (i + 1 + 1 + 1 + 1 + 1 + 1 + 1 + 1) (q85) := up_n ea253 ha544 (ne_o (i := i) (c := 8) (d := 21) rfl)
  have ha546 : zAt ad263 (i + 1 + 1 + 1 + 1 + 1 + 1 + 1 + 1) (q85) := up_n ea265 ha545 (ne_o (i := i) (c := 8) (d := 22) rfl)
  have ha547 : zAt ad275 (i + 1 + 1 + 1 + 1 + 1 + 1 + 1 + 1) (q85) := up_n ea277 ha546 (ne_o (i := i) (c := 8) (d := 23) rfl)
  have ha548 : zAt ad287 (i + 1 + 1 + 1 + 1 + 1 + 1 + 1 + 1) (q85) := up_n ea289 ha547 (ne_o (i := i) (c := 8) (d := 24) rfl)
  have ha549 : zAt ad299 (i + 1 + 1 + 1 + 1 + 1 + 1 + 1 + 1) (q85) := up_n ea301 ha548 (ne_o (i := i) (c := 8) (d := 25) rfl)
  have ha550 : zAt ad311 (i + 1 + 1 + 1 + 1 + 1 + 1 + 1 + 1) (q85) := up_n ea313 ha549 (ne_o (i := i) (c := 8) (d := 26) rfl)
  have ha551 : zAt ad323 (i + 1 + 1 + 1 + 1 + 1 + 1 + 1 + 1) (q85) := up_n ea325 ha550 (ne_o (i := i) (c := 8) (d := 27) rfl)
  have ha552 : zAt ad335 (i + 1 + 1 + 1 + 1 + 1 + 1 + 1 + 1) (q85) := up_n ea337 ha551 (ne_o (i := i) (c := 8) (d := 28) rfl)
  have ha553 : zAt ad347 (i + 1 + 1 + 1 + 1 + 1 + 1 + 1 + 1) (q85) := up_n ea349 ha552 (ne_o (i := i) (c := 8) (d := 29) rfl)
  have ha554 : zAt ad110 (i + 1 + 1 + 1 + 1 + 1 + 1 + 1 + 1 + 1) (q97) := up_n ea112 ha102 (ne_o (i := i) (c := 9) (d := 10) rfl)
  have ha555 : zAt ad122 (i + 1 + 1 + 1 + 1 + 1 + 1 + 1 + 1 + 1) (q97) := up_n ea124 ha554 (ne_o (i := i) (c := 9) (d := 11) rfl)
  have ha556 : zAt ad134 (i + 1 + 1 + 1 + 1 + 1 + 1 + 1 + 1 + 1) (q97) := up_n ea136 ha555 (ne_o (i := i) (c := 9) (d := 12) rfl)
  have ha557 : zAt ad146 (i + 1 + 1 + 1 + 1 + 1 + 1 + 1 + 1 + 1) (q97) := up_n ea148 ha556 (ne_o (i := i) (c := 9) (d := 13) rfl)
  have ha558 : zAt ad167 (i + 1 + 1 + 1 + 1 + 1 + 1 + 1 + 1 + 1) (q97) := up_n ea169 ha557 (ne_o (i := i) (c := 9) (d := 14) rfl)
  have ha559 : zAt ad179 (i + 1 + 1 + 1 + 1 + 1 + 1 + 1 + 1 + 1) (q97) := up_n ea181 ha558 (ne_o (i := i) (c := 9) (d := 15) rfl)
  have ha560 : zAt ad191 (i + 1 + 1 + 1 + 1 + 1 + 1 + 1 + 1 + 1) (q97) := up_n ea193 ha559 (ne_o (i := i) (c := 9) (d := 16) rfl)
  have ha561 : zAt ad203 (i + 1 + 1 + 1 + 1 + 1 + 1 + 1 + 1 + 1) (q97) := up_n ea205 ha560 (ne_o (i := i) (c := 9) (d := 17) rfl)
  have ha562 : zAt ad215 (i + 1 + 1 + 1 + 1 + 1 + 1 + 1 + 1 + 1) (q97) := up_n ea217 ha561 (ne_o (i := i) (c := 9) (d := 18) rfl)
  have ha563 : zAt ad227 (i + 1 + 1 + 1 + 1 + 1 + 1 + 1 + 1 + 1) (q97) := up_n ea229 ha562 (ne_o (i := i) (c := 9) (d := 19) rfl)
  have ha564 : zAt ad239 (i + 1 + 1 + 1 + 1 + 1 + 1 + 1 + 1 + 1) (q97) := up_n ea241 ha563 (ne_o (i := i) (c := 9) (d := 20) rfl)
  have ha565 : zAt ad251 (i + 1 + 1 + 1 + 1 + 1 + 1 + 1 + 1 + 1) (q97) := up_n ea253 ha564 (ne_o (i := i) (c := 9) (d := 21) rfl)
  have ha566 : zAt ad263 (i + 1 + 1 + 1 + 1 + 1 + 1 + 1 + 1 + 1) (q97) := up_n ea265 ha565 (ne_o (i := i) (c := 9) (d := 22) rfl)
  have ha567 : zAt ad275 (i + 1 + 1 + 1 + 1 + 1 + 1 + 1 + 1 + 1) (q97) := up_n ea277 ha566 (ne_o (i := i) (c := 9) (d := 23) rfl)
  have ha568 : zAt ad287 (i + 1 + 1 + 1 + 1 + 1 + 1 + 1 + 1 + 1) (q97) := up_n ea289 ha567 (ne_o (i := i) (c := 9) (d := 24) rfl)
  have ha569 : zAt ad299 (i + 1 + 1 + 1 + 1 + 1 + 1 + 1 + 1 + 1) (q97) := up_n ea301 ha568 (ne_o (i := i) (c := 9) (d := 25) rfl)
  have ha570 : zAt ad311 (i + 1 + 1 + 1 + 1 + 1 + 1 + 1 + 1 + 1) (q97) := up_n ea313 ha569 (ne_o (i := i) (c := 9) (d := 26) rfl)
  have ha571 : zAt ad323 (i + 1 + 1 + 1 + 1 + 1 + 1 + 1 + 1 + 1) (q97) := up_n ea325 ha570 (ne_o (i := i) (c := 9) (d := 27) rfl)
  have ha572 : zAt ad335 (i + 1 + 1 + 1 + 1 + 1 + 1 + 1 + 1 + 1) (q97) := up_n ea337 ha571 (ne_o (i := i) (c := 9) (d := 28) rfl)
  have ha573 : zAt ad347 (i + 1 + 1 + 1 + 1 + 1 + 1 + 1 + 1 + 1) (q97) := up_n ea349 ha572 (ne_o (i := i) (c := 9) (d := 29) rfl)
  have ha574 : zAt ad122 (i + 1 + 1 + 1 + 1 + 1 + 1 + 1 + 1 + 1 + 1) (q109) := up_n ea124 ha114 (ne_o (i := i) (c := 10) (d := 11) rfl)
  have ha575 : zAt ad134 (i + 1 + 1 + 1 + 1 + 1 + 1 + 1 + 1 + 1 + 1) (q109) := up_n ea136 ha574 (ne_o (i := i) (c := 10) (d := 12) rfl)
  have ha576 : zAt ad146 (i + 1 + 1 + 1 + 1 + 1 + 1 + 1 + 1 + 1 + 1) (q109) := up_n ea148 ha575 (ne_o (i := i) (c := 10) (d := 13) rfl)
  have ha577 : zAt ad167 (i + 1 + 1 + 1 + 1 + 1 + 1 + 1 + 1 + 1 + 1) (q109) := up_n ea169 ha576 (ne_o (i := i) (c := 10) (d := 14) rfl)
  have ha578 : zAt ad179 (i + 1 + 1 + 1 + 1 + 1 + 1 + 1 + 1 + 1 + 1) (q109) := up_n ea181 ha577 (ne_o (i := i) (c := 10) (d := 15) rfl)
  have ha579 : zAt ad191 (i + 1 + 1 + 1 + 1 + 1 + 1 + 1 + 1 + 1 + 1) (q109) := up_n ea193 ha578 (ne_o (i := i) (c := 10) (d := 16) rfl)
  have ha580 : zAt ad203 (i + 1 + 1 + 1 + 1 + 1 + 1 + 1 + 1 + 1 + 1) (q109) := up_n ea205 ha579 (ne_o (i := i) (c := 10) (d := 17) rfl)
  have ha581 : zAt ad215 (i + 1 + 1 + 1 + 1 + 1 + 1 + 1 + 1 + 1 + 1) (q109) := up_n ea217 ha580 (ne_o (i := i) (c := 10) (d := 18) rfl)
  have ha582 : zAt ad227 (i + 1 + 1 + 1 + 1 + 1 + 1 + 1 + 1 + 1 + 1) (q109) := up_n ea229 ha581 (ne_o (i := i) (c := 10) (d := 19) rfl)
  have ha583 : zAt ad239 (i + 1 + 1 + 1 + 1 + 1 + 1 + 1 + 1 + 1 + 1) (q109) := up_n ea241 ha582 (ne_o (i := i) (c := 10) (d := 20) rfl)
  have ha584 : zAt ad251 (i + 1 + 1 + 1 + 1 + 1 + 1 + 1 + 1 + 1 + 1) (q109) := up_n ea253 ha583 (ne_o (i := i) (c := 10) (d := 21) rfl)
  have ha585 : zAt ad263 (i + 1 + 1 + 1 + 1 + 1 + 1 + 1 + 1 + 1 + 1) (q109) := up_n ea265 ha584 (ne_o (i := i) (c := 10) (d := 22) rfl)
  have ha586 : zAt ad275 (i + 1 + 1 + 1 + 1 + 1 + 1 + 1 + 1 + 1 + 1) (q109) := up_n ea277 ha585 (ne_o (i := i) (c := 10) (d := 23) rfl)
  have ha587 : zAt ad287 (i + 1 + 1 + 1 + 1 + 1 + 1 + 1 + 1 + 1 + 1) (q109) := up_n ea289 ha586 (ne_o (i := i) (c := 10) (d := 24) rfl)
  have ha588 : zAt ad299 (i + 1 + 1 + 1 + 1 + 1 + 1 + 1 + 1 + 1 + 1) (q109) := up_n ea301 ha587 (ne_o (i := i) (c := 10) (d := 25) rfl)
  have ha589 : zAt ad311 (i + 1 + 1 + 1 + 1 + 1 + 1 + 1 + 1 + 1 + 1) (q109) := up_n ea313 ha588 (ne_o (i := i) (c := 10) (d := 26) rfl)
  have ha590 : zAt ad323 (i + 1 + 1 + 1 + 1 + 1 + 1 + 1 + 1 + 1 + 1) (q109) := up_n ea325 ha589 (ne_o (i := i) (c := 10) (d := 27) rfl)
  have ha591 : zAt ad335 (i + 1 + 1 + 1 + 1 + 1 + 1 + 1 + 1 + 1 + 1) (q109) := up_n ea337 ha590 (ne_o (i := i) (c := 10) (d := 28) rfl)
  have ha592 : zAt ad347 (i + 1 + 1 + 1 + 1 + 1 + 1 + 1 + 1 + 1 + 1) (q109) := up_n ea349 ha591 (ne_o (i := i) (c := 10) (d := 29) rfl)
  have ha593 : zAt ad134 (i + 1 + 1 + 1 + 1 + 1 + 1 + 1 + 1 + 1 + 1 + 1) (q121) := up_n ea136 ha126 (ne_o (i := i) (c := 11) (d := 12) rfl)
  have ha594 : zAt ad146 (i + 1 + 1 + 1 + 1 + 1 + 1 + 1 + 1 + 1 + 1 + 1) (q121) := up_n ea148 ha593 (ne_o (i := i) (c := 11) (d := 13) rfl)
  have ha595 : zAt ad167 (i + 1 + 1 + 1 + 1 + 1 + 1 + 1 + 1 + 1 + 1 + 1) (q121) := up_n ea169 ha594 (ne_o (i := i) (c := 11) (d := 14) rfl)
  have ha596 : zAt ad179 (i + 1 + 1 + 1 + 1 + 1 + 1 + 1 + 1 + 1 + 1 + 1) (q121) := up_n ea181 ha595 (ne_o (i := i) (c := 11) (d := 15) rfl)
  have ha597 : zAt ad191 (i + 1 + 1 + 1 + 1 + 1 + 1 + 1 + 1 + 1 + 1 + 1) (q121) := up_n ea193 ha596 (ne_o (i := i) (c := 11) (d := 16) rfl)
  have ha598 : zAt ad203 (i + 1 + 1 + 1 + 1 + 1 + 1 + 1 + 1 + 1 + 1 + 1) (q121) := up_n ea205 ha597 (ne_o (i := i) (c := 11) (d := 17) rfl)
  have ha599 : zAt ad215 (i + 1 + 1 + 1 + 1 + 1 + 1 + 1 + 1 + 1 + 1 + 1) (q121) := up_n ea217 ha598 (ne_o (i := i) (c := 11) (d := 18) rfl)
  have ha600 : zAt ad227 (i + 1 + 1 + 1 + 1 + 1 + 1 + 1 + 1 + 1 + 1 + 1) (q121) := up_n ea229 ha599 (ne_o (i := i) (c := 11) (d := 19) rfl)
  have ha601 : zAt ad239 (i + 1 + 1 + 1 + 1 + 1 + 1 + 1 + 1 + 1 + 1 + 1) (q121) := up_n ea241 ha600 (ne_o (i := i) (c := 11) (d := 20) rfl)
  have ha602 : zAt ad251 (i + 1 + 1 + 1 + 1 + 1 + 1 + 1 + 1 + 1 + 1 + 1) (q121) := up_n ea253 ha601 (ne_o (i := i) (c := 11) (d := 21) rfl)
  have ha603 : zAt ad263 (i + 1 + 1 + 1 + 1 + 1 + 1 + 1 + 1 + 1 + 1 + 1) (q121) := up_n ea265 ha602 (ne_o (i := i) (c := 11) (d := 22) rfl)
  have ha604 : zAt ad275 (i + 1 + 1 + 1 + 1 + 1 + 1 + 1 + 1 + 1 + 1 + 1) (q121) := up_n ea277 ha603 (ne_o (i := i) (c := 11) (d := 23) rfl)
  have ha605 : zAt ad287 (i + 1 + 1 + 1 + 1 + 1 + 1 + 1 + 1 + 1 + 1 + 1) (q121) := up_n ea289 ha604 (ne_o (i := i) (c := 11) (d := 24) rfl)
  have ha606 : zAt ad299 (i + 1 + 1 + 1 + 1 + 1 + 1 + 1 + 1 + 1 + 1 + 1) (q121) := up_n ea301 ha605 (ne_o (i := i) (c := 11) (d := 25) rfl)
  have ha607 : zAt ad311 (i + 1 + 1 + 1 + 1 + 1 + 1 + 1 + 1 + 1 + 1 + 1) (q121) := up_n ea313 ha606 (ne_o (i := i) (c := 11) (d := 26) rfl)
  have ha608 : zAt ad323 (i + 1 + 1 + 1 + 1 + 1 + 1 + 1 + 1 + 1 + 1 + 1) (q121) := up_n ea325 ha607 (ne_o (i := i) (c := 11) (d := 27) rfl)
  have ha609 : zAt ad335 (i + 1 + 1 + 1 + 1 + 1 + 1 + 1 + 1 + 1 + 1 + 1) (q121) := up_n ea337 ha608 (ne_o (i := i) (c := 11) (d := 28) rfl)
  have ha610 : zAt ad347 (i + 1 + 1 + 1 + 1 + 1 + 1 + 1 + 1 + 1 + 1 + 1) (q121) := up_n ea349 ha609 (ne_o (i := i) (c := 11) (d := 29) rfl)
  have ha611 : zAt ad146 (i + 1 + 1 + 1 + 1 + 1 + 1 + 1 + 1 + 1 + 1 + 1 + 1) (q133) := up_n ea148 ha138 (ne_o (i := i) (c := 12) (d := 13) rfl)
  have ha612 : zAt ad167 (i + 1 + 1 + 1 + 1 + 1 + 1 + 1 + 1 + 1 + 1 + 1 + 1) (q133) := up_n ea169 ha611 (ne_o (i := i) (c := 12) (d := 14) rfl)
  have ha613 : zAt ad179 (i + 1 + 1 + 1 + 1 + 1 + 1 + 1 + 1 + 1 + 1 + 1 + 1) (q133) := up_n ea181 ha612 (ne_o (i := i) (c := 12) (d := 15) rfl)
  have ha614 : zAt ad191 (i + 1 + 1 + 1 + 1 + 1 + 1 + 1 + 1 + 1 + 1 + 1 + 1) (q133) := up_n ea193 ha613 (ne_o (i := i) (c := 12) (d := 16) rfl)
  have ha615 : zAt ad203 (i + 1 + 1 + 1 + 1 + 1 + 1 + 1 + 1 + 1 + 1 + 1 + 1) (q133) := up_n ea205 ha614 (ne_o (i := i) (c := 12) (d := 17) rfl)
  have ha616 : zAt ad215 (i + 1 + 1 + 1 + 1 + 1 + 1 + 1 + 1 + 1 + 1 + 1 + 1) (q133) := up_n ea217 ha615 (ne_o (i := i) (c := 12) (d := 18) rfl)
  have ha617 : zAt ad227 (i + 1 + 1 + 1 + 1 + 1 + 1 + 1 + 1 + 1 + 1 + 1 + 1) (q133) := up_n ea229 ha616 (ne_o (i := i) (c := 12) (d := 19) rfl)
  have ha618 : zAt ad239 (i + 1 + 1 + 1 + 1 + 1 + 1 + 1 + 1 + 1 + 1 + 1 + 1) (q133) := up_n ea241 ha617 (ne_o (i := i) (c := 12) (d := 20) rfl)
  have ha619 : zAt ad251 (i + 1 + 1 + 1 + 1 + 1 + 1 + 1 + 1 + 1 + 1 + 1 + 1) (q133) := up_n ea253 ha618 (ne_o (i := i) (c := 12) (d := 21) rfl)
  have ha620 : zAt ad263 (i + 1 + 1 + 1 + 1 + 1 + 1 + 1 + 1 + 1 + 1 + 1 + 1) (q133) := up_n ea265 ha619 (ne_o (i := i) (c := 12) (d := 22) rfl)
  have ha621 : zAt ad275 (i + 1 + 1 + 1 + 1 + 1 + 1 + 1 + 1 + 1 + 1 + 1 + 1) (q133) := up_n ea277 ha620 (ne_o (i := i) (c := 12) (d := 23) rfl)
  have ha622 : zAt ad287 (i + 1 + 1 + 1 + 1 + 1 + 1 + 1 + 1 + 1 + 1 + 1 + 1) (q133) := up_n ea289 ha621 (ne_o (i := i) (c := 12) (d := 24) rfl)
  have ha623 : zAt ad299 (i + 1 + 1 + 1 + 1 + 1 + 1 + 1 + 1 + 1 + 1 + 1 + 1) (q133) := up_n ea301 ha622 (ne_o (i := i) (c := 12) (d := 25) rfl)
  have ha624 : zAt ad311 (i + 1 + 1 + 1 + 1 + 1 + 1 + 1 + 1 + 1 + 1 + 1 + 1) (q133) := up_n ea313 ha623 (ne_o (i := i) (c := 12) (d := 26) rfl)
  have ha625 : zAt ad323 (i + 1 + 1 + 1 + 1 + 1 + 1 + 1 + 1 + 1 + 1 + 1 + 1) (q133) := up_n ea325 ha624 (ne_o (i := i) (c := 12) (d := 27) rfl)
  have ha626 : zAt ad335 (i + 1 + 1 + 1 + 1 + 1 + 1 + 1 + 1 + 1 + 1 + 1 + 1) (q133) := up_n ea337 ha625 (ne_o (i := i) (c := 12) (d := 28) rfl)
  have ha627 : zAt ad347 (i + 1 + 1 + 1 + 1 + 1 + 1 + 1 + 1 + 1 + 1 + 1 + 1) (q133) := up_n ea349 ha626 (ne_o (i := i) (c := 12) (d := 29) rfl)
  have ha628 : zAt ad167 (i + 1 + 1 + 1 + 1 + 1 + 1 + 1 + 1 + 1 + 1 + 1 + 1 + 1) (q145) := up_n ea169 ha150 (ne_o (i := i) (c := 13) (d := 14) rfl)
  have ha629 : zAt ad179 (i + 1 + 1 + 1 + 1 + 1 + 1 + 1 + 1 + 1 + 1 + 1 + 1 + 1) (q145) := up_n ea181 ha628 (ne_o (i := i) (c := 13) (d := 15) rfl)
  have ha630 : zAt ad191 (i + 1 + 1 + 1 + 1 + 1 + 1 + 1 + 1 + 1 + 1 + 1 + 1 + 1) (q145) := up_n ea193 ha629 (ne_o (i := i) (c := 13) (d := 16) rfl)
  have ha631 : zAt ad203 (i + 1 + 1 + 1 + 1 + 1 + 1 + 1 + 1 + 1 + 1 + 1 + 1 + 1) (q145) := up_n ea205 ha630 (ne_o (i := i) (c := 13) (d := 17) rfl)
  have ha632 : zAt ad215 (i + 1 + 1 + 1 + 1 + 1 + 1 + 1 + 1 + 1 + 1 + 1 + 1 + 1) (q145) := up_n ea217 ha631 (ne_o (i := i) (c := 13) (d := 18) rfl)
  have ha633 : zAt ad227 (i + 1 + 1 + 1 + 1 + 1 + 1 + 1 + 1 + 1 + 1 + 1 + 1 + 1) (q145) := up_n ea229 ha632 (ne_o (i := i) (c := 13) (d := 19) rfl)
  have ha634 : zAt ad239 (i + 1 + 1 + 1 + 1 + 1 + 1 + 1 + 1 + 1 + 1 + 1 + 1 + 1) (q145) := up_n ea241 ha633 (ne_o (i := i) (c := 13) (d := 20) rfl)
  have ha635 : zAt ad251 (i + 1 + 1 + 1 + 1 + 1 + 1 + 1 + 1 + 1 + 1 + 1 + 1 + 1) (q145) := up_n ea253 ha634 (ne_o (i := i) (c := 13) (d := 21) rfl)
  have ha636 : zAt ad263 (i + 1 + 1 + 1 + 1 + 1 + 1 + 1 + 1 + 1 + 1 + 1 + 1 + 1) (q145) := up_n ea265 ha635 (ne_o (i := i) (c := 13) (d := 22) rfl)
  have ha637 : zAt ad275 (i + 1 + 1 + 1 + 1 + 1 + 1 + 1 + 1 + 1 + 1 + 1 + 1 + 1) (q145) := up_n ea277 ha636 (ne_o (i := i) (c := 13) (d := 23) rfl)
  have ha638 : zAt ad287 (i + 1 + 1 + 1 + 1 + 1 + 1 + 1 + 1 + 1 + 1 + 1 + 1 + 1) (q145) := up_n ea289 ha637 (ne_o (i := i) (c := 13) (d := 24) rfl)
  have ha639 : zAt ad299 (i + 1 + 1 + 1 + 1 + 1 + 1 + 1 + 1 + 1 + 1 + 1 + 1 + 1) (q145) := up_n ea301 ha638 (ne_o (i := i) (c := 13) (d := 25) rfl)
  have ha640 : zAt ad311 (i + 1 + 1 + 1 + 1 + 1 + 1 + 1 + 1 + 1 + 1 + 1 + 1 + 1) (q145) := up_n ea313 ha639 (ne_o (i := i) (c := 13) (d := 26) rfl)
  have ha641 : zAt ad323 (i + 1 + 1 + 1 + 1 + 1 + 1 + 1 + 1 + 1 + 1 + 1 + 1 + 1) (q145) := up_n ea325 ha640 (ne_o (i := i) (c := 13) (d := 27) rfl)
  have ha642 : zAt ad335 (i + 1 + 1 + 1 + 1 + 1 + 1 + 1 + 1 + 1 + 1 + 1 + 1 + 1) (q145) := up_n ea337 ha641 (ne_o (i := i) (c := 13) (d := 28) rfl)
  have ha643 : zAt ad347 (i + 1 + 1 + 1 + 1 + 1 + 1 + 1 + 1 + 1 + 1 + 1 + 1 + 1) (q145) := up_n ea349 ha642 (ne_o (i := i) (c := 13) (d := 29) rfl)
  have ha644 : zAt ad179 (i + 1 + 1 + 1 + 1 + 1 + 1 + 1 + 1 + 1 + 1 + 1 + 1 + 1 + 1) (q166) := up_n ea181 ha171 (ne_o (i := i) (c := 14) (d := 15) rfl)
  have ha645 : zAt ad191 (i + 1 + 1 + 1 + 1 + 1 + 1 + 1 + 1 + 1 + 1 + 1 + 1 + 1 + 1) (q166) := up_n ea193 ha644 (ne_o (i := i) (c := 14) (d := 16) rfl)
  have ha646 : zAt ad203 (i + 1 + 1 + 1 + 1 + 1 + 1 + 1 + 1 + 1 + 1 + 1 + 1 + 1 + 1) (q166) := up_n ea205 ha645 (ne_o (i := i) (c := 14) (d := 17) rfl)
  have ha647 : zAt ad215 (i + 1 + 1 + 1 + 1 + 1 + 1 + 1 + 1 + 1 + 1 + 1 + 1 + 1 + 1) (q166) := up_n ea217 ha646 (ne_o (i := i) (c := 14) (d := 18) rfl)
  have ha648 : zAt ad227 (i + 1 + 1 + 1 + 1 + 1 + 1 + 1 + 1 + 1 + 1 + 1 + 1 + 1 + 1) (q166) := up_n ea229 ha647 (ne_o (i := i) (c := 14) (d := 19) rfl)
  have ha649 : zAt ad239 (i + 1 + 1 + 1 + 1 + 1 + 1 + 1 + 1 + 1 + 1 + 1 + 1 + 1 + 1) (q166) := up_n ea241 ha648 (ne_o (i := i) (c := 14) (d := 20) rfl)
  have ha650 : zAt ad251 (i + 1 + 1 + 1 + 1 + 1 + 1 + 1 + 1 + 1 + 1 + 1 + 1 + 1 + 1) (q166) := up_n ea253 ha649 (ne_o (i := i) (c := 14) (d := 21) rfl)
  have ha651 : zAt ad263 (i + 1 + 1 + 1 + 1 + 1 + 1 + 1 + 1 + 1 + 1 + 1 + 1 + 1 + 1) (q166) := up_n ea265 ha650 (ne_o (i := i) (c := 14) (d := 22) rfl)
  have ha652 : zAt ad275 (i + 1 + 1 + 1 + 1 + 1 + 1 + 1 + 1 + 1 + 1 + 1 + 1 + 1 + 1) (q166) := up_n ea277 ha651 (ne_o (i := i) (c := 14) (d := 23) rfl)
  have ha653 : zAt ad287 (i + 1 + 1 + 1 + 1 + 1 + 1 + 1 + 1 + 1 + 1 + 1 + 1 + 1 + 1) (q166) := up_n ea289 ha652 (ne_o (i := i) (c := 14) (d := 24) rfl)
  have ha654 : zAt ad299 (i + 1 + 1 + 1 + 1 + 1 + 1 + 1 + 1 + 1 + 1 + 1 + 1 + 1 + 1) (q166) := up_n ea301 ha653 (ne_o (i := i) (c := 14) (d := 25) rfl)
  have ha655 : zAt ad311 (i + 1 + 1 + 1 + 1 + 1 + 1 + 1 + 1 + 1 + 1 + 1 + 1 + 1 + 1) (q166) := up_n ea313 ha654 (ne_o (i := i) (c := 14) (d := 26) rfl)
  have ha656 : zAt ad323 (i + 1 + 1 + 1 + 1 + 1 + 1 + 1 + 1 + 1 + 1 + 1 + 1 + 1 + 1) (q166) := up_n ea325 ha655 (ne_o (i := i) (c := 14) (d := 27) rfl)
  have ha657 : zAt ad335 (i + 1 + 1 + 1 + 1 + 1 + 1 + 1 + 1 + 1 + 1 + 1 + 1 + 1 + 1) (q166) := up_n ea337 ha656 (ne_o (i := i) (c := 14) (d := 28) rfl)
  have ha658 : zAt ad347 (i + 1 + 1 + 1 + 1 + 1 + 1 + 1 + 1 + 1 + 1 + 1 + 1 + 1 + 1) (q166) := up_n ea349 ha657 (ne_o (i := i) (c := 14) (d := 29) rfl)
  have ha659 : zAt ad191 (i + 1 + 1 + 1 + 1 + 1 + 1 + 1 + 1 + 1 + 1 + 1 + 1 + 1 + 1 + 1) (q178) := up_n ea193 ha183 (ne_o (i := i) (c := 15) (d := 16) rfl)
  have ha660 : zAt ad203 (i + 1 + 1 + 1 + 1 + 1 + 1 + 1 + 1 + 1 + 1 + 1 + 1 + 1 + 1 + 1) (q178) := up_n ea205 ha659 (ne_o (i := i) (c := 15) (d := 17) rfl)
  have ha661 : zAt ad215 (i + 1 + 1 + 1 + 1 + 1 + 1 + 1 + 1 + 1 + 1 + 1 + 1 + 1 + 1 + 1) (q178) := up_n ea217 ha660 (ne_o (i := i) (c := 15) (d := 18) rfl)
  have ha662 : zAt ad227 (i + 1 + 1 + 1 + 1 + 1 + 1 + 1 + 1 + 1 + 1 + 1 + 1 + 1 + 1 + 1) (q178) := up_n ea229 ha661 (ne_o (i := i) (c := 15) (d := 19) rfl)
  have ha663 : zAt ad239 (i + 1 + 1 + 1 + 1 + 1 + 1 + 1 + 1 + 1 + 1 + 1 + 1 + 1 + 1 + 1) (q178) := up_n ea241 ha662 (ne_o (i := i) (c := 15) (d := 20) rfl)
  have ha664 : zAt ad251 (i + 1 + 1 + 1 + 1 + 1 + 1 + 1 + 1 + 1 + 1 + 1 + 1 + 1 + 1 + 1) (q178) := up_n ea253 ha663 (ne_o (i := i) (c := 15) (d := 21) rfl)
  have ha665 : zAt ad263 (i + 1 + 1 + 1 + 1 + 1 + 1 + 1 + 1 + 1 + 1 + 1 + 1 + 1 + 1 + 1) (q178) := up_n ea265 ha664 (ne_o (i := i) (c := 15) (d := 22) rfl)
  have ha666 : zAt ad275 (i + 1 + 1 + 1 + 1 + 1 + 1 + 1 + 1 + 1 + 1 + 1 + 1 + 1 + 1 + 1) (q178) := up_n ea277 ha665 (ne_o (i := i) (c := 15) (d := 23) rfl)
  have ha667 : zAt ad287 (i + 1 + 1 + 1 + 1 + 1 + 1 + 1 + 1 + 1 + 1 + 1 + 1 + 1 + 1 + 1) (q178) := up_n ea289 ha666 (ne_o (i := i) (c := 15) (d := 24) rfl)
  have ha668 : zAt ad299 (i + 1 + 1 + 1 + 1 + 1 + 1 + 1 + 1 + 1 + 1 + 1 + 1 + 1 + 1 + 1) (q178) := up_n ea301 ha667 (ne_o (i := i) (c := 15) (d := 25) rfl)
  have ha669 : zAt ad311 (i + 1 + 1 + 1 + 1 + 1 + 1 + 1 + 1 + 1 + 1 + 1 + 1 + 1 + 1 + 1) (q178) := up_n ea313 ha668 (ne_o (i := i) (c := 15) (d := 26) rfl)
  have ha670 : zAt ad323 (i + 1 + 1 + 1 + 1 + 1 + 1 + 1 + 1 + 1 + 1 + 1 + 1 + 1 + 1 + 1) (q178) := up_n ea325 ha669 (ne_o (i := i) (c := 15) (d := 27) rfl)
  have ha671 : zAt ad335 (i + 1 + 1 + 1 + 1 + 1 + 1 + 1 + 1 + 1 + 1 + 1 + 1 + 1 + 1 + 1) (q178) := up_n ea337 ha670 (ne_o (i := i) (c := 15) (d := 28) rfl)
  have ha672 : zAt ad347 (i + 1 + 1 + 1 + 1 + 1 + 1 + 1 + 1 + 1 + 1 + 1 + 1 + 1 + 1 + 1) (q178) := up_n ea349 ha671 (ne_o (i := i) (c := 15) (d := 29) rfl)
  have ha673 : zAt ad203 (i + 1 + 1 + 1 + 1 + 1 + 1 + 1 + 1 + 1 + 1 + 1 + 1 + 1 + 1 + 1 + 1) (q190) := up_n ea205 ha195 (ne_o (i := i) (c := 16) (d := 17) rfl)
  have ha674 : zAt ad215 (i + 1 + 1 + 1 + 1 + 1 + 1 + 1 + 1 + 1 + 1 + 1 + 1 + 1 + 1 + 1 + 1) (q190) := up_n ea217 ha673 (ne_o (i := i) (c := 16) (d := 18) rfl)
  have ha675 : zAt ad227 (i + 1 + 1 + 1 + 1 + 1 + 1 + 1 + 1 + 1 + 1 + 1 + 1 + 1 + 1 + 1 + 1) (q190) := up_n ea229 ha674 (ne_o (i := i) (c := 16) (d := 19) rfl)
  have ha676 : zAt ad239 (i + 1 + 1 + 1 + 1 + 1 + 1 + 1 + 1 + 1 + 1 + 1 + 1 + 1 + 1 + 1 + 1) (q190) := up_n ea241 ha675 (ne_o (i := i) (c := 16) (d := 20) rfl)
  have ha677 : zAt ad251 (i + 1 + 1 + 1 + 1 + 1 + 1 + 1 + 1 + 1 + 1 + 1 + 1 + 1 + 1 + 1 + 1) (q190) := up_n ea253 ha676 (ne_o (i := i) (c := 16) (d := 21) rfl)
  have ha678 : zAt ad263 (i + 1 + 1 + 1 + 1 + 1 + 1 + 1 + 1 + 1 + 1 + 1 + 1 + 1 + 1 + 1 + 1) (q190) := up_n ea265 ha677 (ne_o (i := i) (c := 16) (d := 22) rfl)
  have ha679 : zAt ad275 (i + 1 + 1 + 1 + 1 + 1 + 1 + 1 + 1 + 1 + 1 + 1 + 1 + 1 + 1 + 1 + 1) (q190) := up_n ea277 ha678 (ne_o (i := i) (c := 16) (d := 23) rfl)
  have ha680 : zAt ad287 (i + 1 + 1 + 1 + 1 + 1 + 1 + 1 + 1 + 1 + 1 + 1 + 1 + 1 + 1 + 1 + 1) (q190) := up_n ea289 ha679 (ne_o (i := i) (c := 16) (d := 24) rfl)
  have ha681 : zAt ad299 (i + 1 + 1 + 1 + 1 + 1 + 1 + 1 + 1 + 1 + 1 + 1 + 1 + 1 + 1 + 1 + 1) (q190) := up_n ea301 ha680 (ne_o (i := i) (c := 16) (d := 25) rfl)
  have ha682 : zAt ad311 (i + 1 + 1 + 1 + 1 + 1 + 1 + 1 + 1 + 1 + 1 + 1 + 1 + 1 + 1 + 1 + 1) (q190) := up_n ea313 ha681 (ne_o (i := i) (c := 16) (d := 26) rfl)
  have ha683 : zAt ad323 (i + 1 + 1 + 1 + 1 + 1 + 1 + 1 + 1 + 1 + 1 + 1 + 1 + 1 + 1 + 1 + 1) (q190) := up_n ea325 ha682 (ne_o (i := i) (c := 16) (d := 27) rfl)
  have ha684 : zAt ad335 (i + 1 + 1 + 1 + 1 + 1 + 1 + 1 + 1 + 1 + 1 + 1 + 1 + 1 + 1 + 1 + 1) (q190) := up_n ea337 ha683 (ne_o (i := i) (c := 16) (d := 28) rfl)
  have ha685 : zAt ad347 (i + 1 + 1 + 1 + 1 + 1 + 1 + 1 + 1 + 1 + 1 + 1 + 1 + 1 + 1 + 1 + 1) (q190) := up_n ea349 ha684 (ne_o (i := i) (c := 16) (d := 29) rfl)
  have ha686 : zAt ad215 (i + 1 + 1 + 1 + 1 + 1 + 1 + 1 + 1 + 1 + 1 + 1 + 1 + 1 + 1 + 1 + 1 + 1) (q202) := up_n ea217 ha207 (ne_o (i := i) (c := 17) (d := 18) rfl)
  have ha687 : zAt ad227 (i + 1 + 1 + 1 + 1 + 1 + 1 + 1 + 1 + 1 + 1 + 1 + 1 + 1 + 1 + 1 + 1 + 1) (q202) := up_n ea229 ha686 (ne_o (i := i) (c := 17) (d := 19) rfl)
  have ha688 : zAt ad239 (i + 1 + 1 + 1 + 1 + 1 + 1 + 1 + 1 + 1 + 1 + 1 + 1 + 1 + 1 + 1 + 1 + 1) (q202) := up_n ea241 ha687 (ne_o (i := i) (c := 17) (d := 20) rfl)
  have ha689 : zAt ad251 (i + 1 + 1 + 1 + 1 + 1 + 1 + 1 + 1 + 1 + 1 + 1 + 1 + 1 + 1 + 1 + 1 + 1) (q202) := up_n ea253 ha688 (ne_o (i := i) (c := 17) (d := 21) rfl)
  have ha690 : zAt ad263 (i + 1 + 1 + 1 + 1 + 1 + 1 + 1 + 1 + 1 + 1 + 1 + 1 + 1 + 1 + 1 + 1 + 1) (q202) := up_n ea265 ha689 (ne_o (i := i) (c := 17) (d := 22) rfl)
  have ha691 : zAt ad275 (i + 1 + 1 + 1 + 1 + 1 + 1 + 1 + 1 + 1 + 1 + 1 + 1 + 1 + 1 + 1 + 1 + 1) (q202) := up_n ea277 ha690 (ne_o (i := i) (c := 17) (d := 23) rfl)
  have ha692 : zAt ad287 (i + 1 + 1 + 1 + 1 + 1 + 1 + 1 + 1 + 1 + 1 + 1 + 1 + 1 + 1 + 1 + 1 + 1) (q202) := up_n ea289 ha691 (ne_o (i := i) (c := 17) (d := 24) rfl)
  have ha693 : zAt ad299 (i + 1 + 1 + 1 + 1 + 1 + 1 + 1 + 1 + 1 + 1 + 1 + 1 + 1 + 1 + 1 + 1 + 1) (q202) := up_n ea301 ha692 (ne_o (i := i) (c := 17) (d := 25) rfl)
  have ha694 : zAt ad311 (i + 1 + 1 + 1 + 1 + 1 + 1 + 1 + 1 + 1 + 1 + 1 + 1 + 1 + 1 + 1 + 1 + 1) (q202) := up_n ea313 ha693 (ne_o (i := i) (c := 17) (d := 26) rfl)
  have ha695 : zAt ad323 (i + 1 + 1 + 1 + 1 + 1 + 1 + 1 + 1 + 1 + 1 + 1 + 1 + 1 + 1 + 1 + 1 + 1) (q202) := up_n ea325 ha694 (ne_o (i := i) (c := 17) (d := 27) rfl)
  have ha696 : zAt ad335 (i + 1 + 1 + 1 + 1 + 1 + 1 + 1 + 1 + 1 + 1 + 1 + 1 + 1 + 1 + 1 + 1 + 1) (q202) := up_n ea337 ha695 (ne_o (i := i) (c := 17) (d := 28) rfl)
  have ha697 : zAt ad347 (i + 1 + 1 + 1 + 1 + 1 + 1 + 1 + 1 + 1 + 1 + 1 + 1 + 1 + 1 + 1 + 1 + 1) (q202) := up_n ea349 ha696 (ne_o (i := i) (c := 17) (d := 29) rfl)
  have ha698 : zAt ad227 (i + 1 + 1 + 1 + 1 + 1 + 1 + 1 + 1 + 1 + 1 + 1 + 1 + 1 + 1 + 1 + 1 + 1 + 1) (q214) := up_n ea229 ha219 (ne_o (i := i) (c := 18) (d := 19) rfl)
  have ha699 : zAt ad239 (i + 1 + 1 + 1 + 1 + 1 + 1 + 1 + 1 + 1 + 1 + 1 + 1 + 1 + 1 + 1 + 1 + 1 + 1) (q214) := up_n ea241 ha698 (ne_o (i := i) (c := 18) (d := 20) rfl)
  have ha700 : zAt ad251 (i + 1 + 1 + 1 + 1 + 1 + 1 + 1 + 1 + 1 + 1 + 1 + 1 + 1 + 1 + 1 + 1 + 1 + 1) (q214) := up_n ea253 ha699 (ne_o (i := i) (c := 18) (d := 21) rfl)
  have ha701 : zAt ad263 (i + 1 + 1 + 1 + 1 + 1 + 1 + 1 + 1 + 1 + 1 + 1 + 1 + 1 + 1 + 1 + 1 + 1 + 1) (q214) := up_n ea265 ha700 (ne_o (i := i) (c := 18) (d := 22) rfl)
  have ha702 : zAt ad275 (i + 1 + 1 + 1 + 1 + 1 + 1 + 1 + 1 + 1 + 1 + 1 + 1 + 1 + 1 + 1 + 1 + 1 + 1) (q214) := up_n ea277 ha701 (ne_o (i := i) (c := 18) (d := 23) rfl)
  have ha703 : zAt ad287 (i + 1 + 1 + 1 + 1 + 1 + 1 + 1 + 1 + 1 + 1 + 1 + 1 + 1 + 1 + 1 + 1 + 1 + 1) (q214) := up_n ea289 ha702 (ne_o (i := i) (c := 18) (d := 24) rfl)
  have ha704 : zAt ad299 (i + 1 + 1 + 1 + 1 + 1 + 1 + 1 + 1 + 1 + 1 + 1 + 1 + 1 + 1 + 1 + 1 + 1 + 1) (q214) := up_n ea301 ha703 (ne_o (i := i) (c := 18) (d := 25) rfl)
  have ha705 : zAt ad311 (i + 1 + 1 + 1 + 1 + 1 + 1 + 1 + 1 + 1 + 1 + 1 + 1 + 1 + 1 + 1 + 1 + 1 + 1) (q214) := up_n ea313 ha704 (ne_o (i := i) (c := 18) (d := 26) rfl)
  have ha706 : zAt ad323 (i + 1 + 1 + 1 + 1 + 1 + 1 + 1 + 1 + 1 + 1 + 1 + 1 + 1 + 1 + 1 + 1 + 1 + 1) (q214) := up_n ea325 ha705 (ne_o (i := i) (c := 18) (d := 27) rfl)
  have ha707 : zAt ad335 (i + 1 + 1 + 1 + 1 + 1 + 1 + 1 + 1 + 1 + 1 + 1 + 1 + 1 + 1 + 1 + 1 + 1 + 1) (q214) := up_n ea337 ha706 (ne_o (i := i) (c := 18) (d := 28) rfl)
  have ha708 : zAt ad347 (i + 1 + 1 + 1 + 1 + 1 + 1 + 1 + 1 + 1 + 1 + 1 + 1 + 1 + 1 + 1 + 1 + 1 + 1) (q214) := up_n ea349 ha707 (ne_o (i := i) (c := 18) (d := 29) rfl)
  have ha709 : zAt ad239 (i + 1 + 1 + 1 + 1 + 1 + 1 + 1 + 1 + 1 + 1 + 1 + 1 + 1 + 1 + 1 + 1 + 1 + 1 + 1) (q226) := up_n ea241 ha231 (ne_o (i := i) (c := 19) (d := 20) rfl)
  have ha710 : zAt ad251 (i + 1 + 1 + 1 + 1 + 1 + 1 + 1 + 1 + 1 + 1 + 1 + 1 + 1 + 1 + 1 + 1 + 1 + 1 + 1) (q226) := up_n ea253 ha709 (ne_o (i := i) (c := 19) (d := 21) rfl)
  have ha711 : zAt ad263 (i + 1 + 1 + 1 + 1 + 1 + 1 + 1 + 1 + 1 + 1 + 1 + 1 + 1 + 1 + 1 + 1 + 1 + 1 + 1) (q226) := up_n ea265 ha710 (ne_o (i := i) (c := 19) (d := 22) rfl)
  have ha712 : zAt ad275 (i + 1 + 1 + 1 + 1 + 1 + 1 + 1 + 1 + 1 + 1 + 1 + 1 + 1 + 1 + 1 + 1 + 1 + 1 + 1) (q226) := up_n ea277 ha711 (ne_o (i := i) (c := 19) (d := 23) rfl)
  have ha713 : zAt ad287 (i + 1 + 1 + 1 + 1 + 1 + 1 + 1 + 1 + 1 + 1 + 1 + 1 + 1 + 1 + 1 + 1 + 1 + 1 + 1) (q226) := up_n ea289 ha712 (ne_o (i := i) (c := 19) (d := 24) rfl)
  have ha714 : zAt ad299 (i + 1 + 1 + 1 + 1 + 1 + 1 + 1 + 1 + 1 + 1 + 1 + 1 + 1 + 1 + 1 + 1 + 1 + 1 + 1) (q226) := up_n ea301 ha713 (ne_o (i := i) (c := 19) (d := 25) rfl)
  have ha715 : zAt ad311 (i + 1 + 1 + 1 + 1 + 1 + 1 + 1 + 1 + 1 + 1 + 1 + 1 + 1 + 1 + 1 + 1 + 1 + 1 + 1) (q226) := up_n ea313 ha714 (ne_o (i := i) (c := 19) (d := 26) rfl)
  have ha716 : zAt ad323 (i + 1 + 1 + 1 + 1 + 1 + 1 + 1 + 1 + 1 + 1 + 1 + 1 + 1 + 1 + 1 + 1 + 1 + 1 + 1) (q226) := up_n ea325 ha715 (ne_o (i := i) (c := 19) (d := 27) rfl)
  have ha717 : zAt ad335 (i + 1 + 1 + 1 + 1 + 1 + 1 + 1 + 1 + 1 + 1 + 1 + 1 + 1 + 1 + 1 + 1 + 1 + 1 + 1) (q226) := up_n ea337 ha716 (ne_o (i := i) (c := 19) (d := 28) rfl)
  have ha718 : zAt ad347 (i + 1 + 1 + 1 + 1 + 1 + 1 + 1 + 1 + 1 + 1 + 1 + 1 + 1 + 1 + 1 + 1 + 1 + 1 + 1) (q226) := up_n ea349 ha717 (ne_o (i := i) (c := 19) (d := 29) rfl)
  have ha719 : zAt ad251 (i + 1 + 1 + 1 + 1 + 1 + 1 + 1 + 1 + 1 + 1 + 1 + 1 + 1 + 1 + 1 + 1 + 1 + 1 + 1 + 1) (q238) := up_n ea253 ha243 (ne_o (i := i) (c := 20) (d := 21) rfl)
  have ha720 : zAt ad263 (i + 1 + 1 + 1 + 1 + 1 + 1 + 1 + 1 + 1 + 1 + 1 + 1 + 1 + 1 + 1 + 1 + 1 + 1 + 1 + 1) (q238) := up_n ea265 ha719 (ne_o (i := i) (c := 20) (d := 22) rfl)
  have ha721 : zAt ad275 (i + 1 + 1 + 1 + 1 + 1 + 1 + 1 + 1 + 1 + 1 + 1 + 1 + 1 + 1 + 1 + 1 + 1 + 1 + 1 + 1) (q238) := up_n ea277 ha720 (ne_o (i := i) (c := 20) (d := 23) rfl)
  have ha722 : zAt ad287 (i + 1 + 1 + 1 + 1 + 1 + 1 + 1 + 1 + 1 + 1 + 1 + 1 + 1 + 1 + 1 + 1 + 1 + 1 + 1 + 1) (q238) := up_n ea289 ha721 (ne_o (i := i) (c := 20) (d := 24) rfl)
  have ha723 : zAt ad299 (i + 1 + 1 + 1 + 1 + 1 + 1 + 1 + 1 + 1 + 1 + 1 + 1 + 1 + 1 + 1 + 1 + 1 + 1 + 1 + 1) (q238) := up_n ea301 ha722 (ne_o (i := i) (c := 20) (d := 25) rfl)
  have ha724 : zAt ad311 (i + 1 + 1 + 1 + 1 + 1 + 1 + 1 + 1 + 1 + 1 + 1 + 1 + 1 + 1 + 1 + 1 + 1 + 1 + 1 + 1) (q238) := up_n ea313 ha723 (ne_o (i := i) (c := 20) (d := 26) rfl)
  have ha725 : zAt ad323 (i + 1 + 1 + 1 + 1 + 1 + 1 + 1 + 1 + 1 + 1 + 1 + 1 + 1 + 1 + 1 + 1 + 1 + 1 + 1 + 1) (q238) := up_n ea325 ha724 (ne_o (i := i) (c := 20) (d := 27) rfl)
  have ha726 : zAt ad335 (i + 1 + 1 + 1 + 1 + 1 + 1 + 1 + 1 + 1 + 1 + 1 + 1 + 1 + 1 + 1 + 1 + 1 + 1 + 1 + 1) (q238) := up_n ea337 ha725 (ne_o (i := i) (c := 20) (d := 28) rfl)
  have ha727 : zAt ad347 (i + 1 + 1 + 1 + 1 + 1 + 1 + 1 + 1 + 1 + 1 + 1 + 1 + 1 + 1 + 1 + 1 + 1 + 1 + 1 + 1) (q238) := up_n ea349 ha726 (ne_o (i := i) (c := 20) (d := 29) rfl)
  have ha728 : zAt ad263 (i + 1 + 1 + 1 + 1 + 1 + 1 + 1 + 1 + 1 + 1 + 1 + 1 + 1 + 1 + 1 + 1 + 1 + 1 + 1 + 1 + 1) (q250) := up_n ea265 ha255 (ne_o (i := i) (c := 21) (d := 22) rfl)
  have ha729 : zAt ad275 (i + 1 + 1 + 1 + 1 + 1 + 1 + 1 + 1 + 1 + 1 + 1 + 1 + 1 + 1 + 1 + 1 + 1 + 1 + 1 + 1 + 1) (q250) := up_n ea277 ha728 (ne_o (i := i) (c := 21) (d := 23) rfl)
  have ha730 : zAt ad287 (i + 1 + 1 + 1 + 1 + 1 + 1 + 1 + 1 + 1 + 1 + 1 + 1 + 1 + 1 + 1 + 1 + 1 + 1 + 1 + 1 + 1) (q250) := up_n ea289 ha729 (ne_o (i := i) (c := 21) (d := 24) rfl)
  have ha731 : zAt ad299 (i + 1 + 1 + 1 + 1 + 1 + 1 + 1 + 1 + 1 + 1 + 1 + 1 + 1 + 1 + 1 + 1 + 1 + 1 + 1 + 1 + 1) (q250) := up_n ea301 ha730 (ne_o (i := i) (c := 21) (d := 25) rfl)
  have ha732 : zAt ad311 (i + 1 + 1 + 1 + 1 + 1 + 1 + 1 + 1 + 1 + 1 + 1 + 1 + 1 + 1 + 1 + 1 + 1 + 1 + 1 + 1 + 1) (q250) := up_n ea313 ha731 (ne_o (i := i) (c := 21) (d := 26) rfl)
  have ha733 : zAt ad323 (i + 1 + 1 + 1 + 1 + 1 + 1 + 1 + 1 + 1 + 1 + 1 + 1 + 1 + 1 + 1 + 1 + 1 + 1 + 1 + 1 + 1) (q250) := up_n ea325 ha732 (ne_o (i := i) (c := 21) (d := 27) rfl)
  have ha734 : zAt ad335 (i + 1 + 1 + 1 + 1 + 1 + 1 + 1 + 1 + 1 + 1 + 1 + 1 + 1 + 1 + 1 + 1 + 1 + 1 + 1 + 1 + 1) (q250) := up_n ea337 ha733 (ne_o (i := i) (c := 21) (d := 28) rfl)
  have ha735 : zAt ad347 (i + 1 + 1 + 1 + 1 + 1 + 1 + 1 + 1 + 1 + 1 + 1 + 1 + 1 + 1 + 1 + 1 + 1 + 1 + 1 + 1 + 1) (q250) := up_n ea349 ha734 (ne_o (i := i) (c := 21) (d := 29) rfl)
  have ha736 : zAt ad275 (i + 1 + 1 + 1 + 1 + 1 + 1 + 1 + 1 + 1 + 1 + 1 + 1 + 1 + 1 + 1 + 1 + 1 + 1 + 1 + 1 + 1 + 1) (q262) := up_n ea277 ha267 (ne_o (i := i) (c := 22) (d := 23) rfl)
  have ha737 : zAt ad287 (i + 1 + 1 + 1 + 1 + 1 + 1 + 1 + 1 + 1 + 1 + 1 + 1 + 1 + 1 + 1 + 1 + 1 + 1 + 1 + 1 + 1 + 1) (q262) := up_n ea289 ha736 (ne_o (i := i) (c := 22) (d := 24) rfl)
  have ha738 : zAt ad299 (i + 1 + 1 + 1 + 1 + 1 + 1 + 1 + 1 + 1 + 1 + 1 + 1 + 1 + 1 + 1 + 1 + 1 + 1 + 1 + 1 + 1 + 1) (q262) := up_n ea301 ha737 (ne_o (i := i) (c := 22) (d := 25) rfl)
  have ha739 : zAt ad311 (i + 1 + 1 + 1 + 1 + 1 + 1 + 1 + 1 + 1 + 1 + 1 + 1 + 1 + 1 + 1 + 1 + 1 + 1 + 1 + 1 + 1 + 1) (q262) := up_n ea313 ha738 (ne_o (i := i) (c := 22) (d := 26) rfl)
  have ha740 : zAt ad323 (i + 1 + 1 + 1 + 1 + 1 + 1 + 1 + 1 + 1 + 1 + 1 + 1 + 1 + 1 + 1 + 1 + 1 + 1 + 1 + 1 + 1 + 1) (q262) := up_n ea325 ha739 (ne_o (i := i) (c := 22) (d := 27) rfl)
  have ha741 : zAt ad335 (i + 1 + 1 + 1 + 1 + 1 + 1 + 1 + 1 + 1 + 1 + 1 + 1 + 1 + 1 + 1 + 1 + 1 + 1 + 1 + 1 + 1 + 1) (q262) := up_n ea337 ha740 (ne_o (i := i) (c := 22) (d := 28) rfl)
  have ha742 : zAt ad347 (i + 1 + 1 + 1 + 1 + 1 + 1 + 1 + 1 + 1 + 1 + 1 + 1 + 1 + 1 + 1 + 1 + 1 + 1 + 1 + 1 + 1 + 1) (q262) := up_n ea349 ha741 (ne_o (i := i) (c := 22) (d := 29) rfl)
  have ha743 : zAt ad287 (i + 1 + 1 + 1 + 1 + 1 + 1 + 1 + 1 + 1 + 1 + 1 + 1 + 1 + 1 + 1 + 1 + 1 + 1 + 1 + 1 + 1 + 1 + 1) (q274) := up_n ea289 ha279 (ne_o (i := i) (c := 23) (d := 24) rfl)
  have ha744 : zAt ad299 (i + 1 + 1 + 1 + 1 + 1 + 1 + 1 + 1 + 1 + 1 + 1 + 1 + 1 + 1 + 1 + 1 + 1 + 1 + 1 + 1 + 1 + 1 + 1) (q274) := up_n ea301 ha743 (ne_o (i := i) (c := 23) (d := 25) rfl)
  have ha745 : zAt ad311 (i + 1 + 1 + 1 + 1 + 1 + 1 + 1 + 1 + 1 + 1 + 1 + 1 + 1 + 1 + 1 + 1 + 1 + 1 + 1 + 1 + 1 + 1 + 1) (q274) := up_n ea313 ha744 (ne_o (i := i) (c := 23) (d := 26) rfl)
  have ha746 : zAt ad323 (i + 1 + 1 + 1 + 1 + 1 + 1 + 1 + 1 + 1 + 1 + 1 + 1 + 1 + 1 + 1 + 1 + 1 + 1 + 1 + 1 + 1 + 1 + 1) (q274) := up_n ea325 ha745 (ne_o (i := i) (c := 23) (d := 27) rfl)
  have ha747 : zAt ad335 (i + 1 + 1 + 1 + 1 + 1 + 1 + 1 + 1 + 1 + 1 + 1 + 1 + 1 + 1 + 1 + 1 + 1 + 1 + 1 + 1 + 1 + 1 + 1) (q274) := up_n ea337 ha746 (ne_o (i := i) (c := 23) (d := 28) rfl)
  have ha748 : zAt ad347 (i + 1 + 1 + 1 + 1 + 1 + 1 + 1 + 1 + 1 + 1 + 1 + 1 + 1 + 1 + 1 + 1 + 1 + 1 + 1 + 1 + 1 + 1 + 1) (q274) := up_n ea349 ha747 (ne_o (i := i) (c := 23) (d := 29) rfl)
  have ha749 : zAt ad299 (i + 1 + 1 + 1 + 1 + 1 + 1 + 1 + 1 + 1 + 1 + 1 + 1 + 1 + 1 + 1 + 1 + 1 + 1 + 1 + 1 + 1 + 1 + 1 + 1) (q286) := up_n ea301 ha291 (ne_o (i := i) (c := 24) (d := 25) rfl)
  have ha750 : zAt ad311 (i + 1 + 1 + 1 + 1 + 1 + 1 + 1 + 1 + 1 + 1 + 1 + 1 + 1 + 1 + 1 + 1 + 1 + 1 + 1 + 1 + 1 + 1 + 1 + 1) (q286) := up_n ea313 ha749 (ne_o (i := i) (c := 24) (d := 26) rfl)
  have ha751 : zAt ad323 (i + 1 + 1 + 1 + 1 + 1 + 1 + 1 + 1 + 1 + 1 + 1 + 1 + 1 + 1 + 1 + 1 + 1 + 1 + 1 + 1 + 1 + 1 + 1 + 1) (q286) := up_n ea325 ha750 (ne_o (i := i) (c := 24) (d := 27) rfl)
  have ha752 : zAt ad335 (i + 1 + 1 + 1 + 1 + 1 + 1 + 1 + 1 + 1 + 1 + 1 + 1 + 1 + 1 + 1 + 1 + 1 + 1 + 1 + 1 + 1 + 1 + 1 + 1) (q286) := up_n ea337 ha751 (ne_o (i := i) (c := 24) (d := 28) rfl)
  have ha753 : zAt ad347 (i + 1 + 1 + 1 + 1 + 1 + 1 + 1 + 1 + 1 + 1 + 1 + 1 + 1 + 1 + 1 + 1 + 1 + 1 + 1 + 1 + 1 + 1 + 1 + 1) (q286) := up_n ea349 ha752 (ne_o (i := i) (c := 24) (d := 29) rfl)
  have ha754 : zAt ad311 (i + 1 + 1 + 1 + 1 + 1 + 1 + 1 + 1 + 1 + 1 + 1 + 1 + 1 + 1 + 1 + 1 + 1 + 1 + 1 + 1 + 1 + 1 + 1 + 1 + 1) (q298) := up_n ea313 ha303 (ne_o (i := i) (c := 25) (d := 26) rfl)
  have ha755 : zAt ad323 (i + 1 + 1 + 1 + 1 + 1 + 1 + 1 + 1 + 1 + 1 + 1 + 1 + 1 + 1 + 1 + 1 + 1 + 1 + 1 + 1 + 1 + 1 + 1 + 1 + 1) (q298) := up_n ea325 ha754 (ne_o (i := i) (c := 25) (d := 27) rfl)
  have ha756 : zAt ad335 (i + 1 + 1 + 1 + 1 + 1 + 1 + 1 + 1 + 1 + 1 + 1 + 1 + 1 + 1 + 1 + 1 + 1 + 1 + 1 + 1 + 1 + 1 + 1 + 1 + 1) (q298) := up_n ea337 ha755 (ne_o (i := i) (c := 25) (d := 28) rfl)
  have ha757 : zAt ad347 (i + 1 + 1 + 1 + 1 + 1 + 1 + 1 + 1 + 1 + 1 + 1 + 1 + 1 + 1 + 1 + 1 + 1 + 1 + 1 + 1 + 1 + 1 + 1 + 1 + 1) (q298) := up_n ea349 ha756 (ne_o (i := i) (c := 25) (d := 29) rfl)
  have ha758 : zAt ad323 (i + 1 + 1 + 1 + 1 + 1 + 1 + 1 + 1 + 1 + 1 + 1 + 1 + 1 + 1 + 1 + 1 + 1 + 1 + 1 + 1 + 1 + 1 + 1 + 1 + 1 + 1) (q310) := up_n ea325 ha315 (ne_o (i := i) (c := 26) (d := 27) rfl)
  have ha759 : zAt ad335 (i + 1 + 1 + 1 + 1 + 1 + 1 + 1 + 1 + 1 + 1 + 1 + 1 + 1 + 1 + 1 + 1 + 1 + 1 + 1 + 1 + 1 + 1 + 1 + 1 + 1 + 1) (q310) := up_n ea337 ha758 (ne_o (i := i) (c := 26) (d := 28) rfl)
  have ha760 : zAt ad347 (i + 1 + 1 + 1 + 1 + 1 + 1 + 1 + 1 + 1 + 1 + 1 + 1 + 1 + 1 + 1 + 1 + 1 + 1 + 1 + 1 + 1 + 1 + 1 + 1 + 1 + 1) (q310) := up_n ea349 ha759 (ne_o (i := i) (c := 26) (d := 29) rfl)
  have ha761 : zAt ad335 (i + 1 + 1 + 1 + 1 + 1 + 1 + 1 + 1 + 1 + 1 + 1 + 1 + 1 + 1 + 1 + 1 + 1 + 1 + 1 + 1 + 1 + 1 + 1 + 1 + 1 + 1 + 1) (q322) := up_n ea337 ha327 (ne_o (i := i) (c := 27) (d := 28) rfl)
  have ha762 : zAt ad347 (i + 1 + 1 + 1 + 1 + 1 + 1 + 1 + 1 + 1 + 1 + 1 + 1 + 1 + 1 + 1 + 1 + 1 + 1 + 1 + 1 + 1 + 1 + 1 + 1 + 1 + 1 + 1) (q322) := up_n ea349 ha761 (ne_o (i := i) (c := 27) (d := 29) rfl)
  have ha763 : zAt ad347 (i + 1 + 1 + 1 + 1 + 1 + 1 + 1 + 1 + 1 + 1 + 1 + 1 + 1 + 1 + 1 + 1 + 1 + 1 + 1 + 1 + 1 + 1 + 1 + 1 + 1 + 1 + 1 + 1) (q334) := up_n ea349 ha339 (ne_o (i := i) (c := 28) (d := 29) rfl)
  have hmod : g355 i = mC ad347 i (fun k => if k = 24 ∨ k = 26 ∨ k = 27 then -1 else 0) := by rw [← (show ad347 (i + 1) = q1 from ha385), ← (show ad347 (i + 1 + 1) = q13 from ha412), ← (show ad347 (i + 1 + 1 + 1) = q25 from ha438), ← (show ad347 (i + 1 + 1 + 1 + 1) = q37 from ha463), ← (show ad347 (i + 1 + 1 + 1 + 1 + 1) = q49 from ha487), ← (show ad347 (i + 1 + 1 + 1 + 1 + 1 + 1) = q61 from ha510), ← (show ad347 (i + 1 + 1 + 1 + 1 + 1 + 1 + 1) = q73 from ha532), ← (show ad347 (i + 1 + 1 + 1 + 1 + 1 + 1 + 1 + 1) = q85 from ha553), ← (show ad347 (i + 1 + 1 + 1 + 1 + 1 + 1 + 1 + 1 + 1) = q97 from ha573), ← (show ad347 (i + 1 + 1 + 1 + 1 + 1 + 1 + 1 + 1 + 1 + 1) = q109 from ha592), ← (show ad347 (i + 1 + 1 + 1 + 1 + 1 + 1 + 1 + 1 + 1 + 1 + 1) = q121 from ha610), ← (show ad347 (i + 1 + 1 + 1 + 1 + 1 + 1 + 1 + 1 + 1 + 1 + 1 + 1) = q133 from ha627), ← (show ad347 (i + 1 + 1 + 1 + 1 + 1 + 1 + 1 + 1 + 1 + 1 + 1 + 1 + 1) = q145 from ha643), ← (show ad347 (i + 1 + 1 + 1 + 1 + 1 + 1 + 1 + 1 + 1 + 1 + 1 + 1 + 1 + 1) = q166 from ha658), ← (show ad347 (i + 1 + 1 + 1 + 1 + 1 + 1 + 1 + 1 + 1 + 1 + 1 + 1 + 1 + 1 + 1) = q178 from ha672), ← (show ad347 (i + 1 + 1 + 1 + 1 + 1 + 1 + 1 + 1 + 1 + 1 + 1 + 1 + 1 + 1 + 1 + 1) = q190 from ha685), ← (show ad347 (i + 1 + 1 + 1 + 1 + 1 + 1 + 1 + 1 + 1 + 1 + 1 + 1 + 1 + 1 + 1 + 1 + 1) = q202 from ha697), ← (show ad347 (i + 1 + 1 + 1 + 1 + 1 + 1 + 1 + 1 + 1 + 1 + 1 + 1 + 1 + 1 + 1 + 1 + 1 + 1) = q214 from ha708), ← (show ad347 (i + 1 + 1 + 1 + 1 + 1 + 1 + 1 + 1 + 1 + 1 + 1 + 1 + 1 + 1 + 1 + 1 + 1 + 1 + 1) = q226 from ha718), ← (show ad347 (i + 1 + 1 + 1 + 1 + 1 + 1 + 1 + 1 + 1 + 1 + 1 + 1 + 1 + 1 + 1 + 1 + 1 + 1 + 1 + 1) = q238 from ha727), ← (show ad347 (i + 1 + 1 + 1 + 1 + 1 + 1 + 1 + 1 + 1 + 1 + 1 + 1 + 1 + 1 + 1 + 1 + 1 + 1 + 1 + 1 + 1) = q250 from ha735), ← (show ad347 (i + 1 + 1 + 1 + 1 + 1 + 1 + 1 + 1 + 1 + 1 + 1 + 1 + 1 + 1 + 1 + 1 + 1 + 1 + 1 + 1 + 1 + 1) = q262 from ha742), ← (show ad347 (i + 1 + 1 + 1 + 1 + 1 + 1 + 1 + 1 + 1 + 1 + 1 + 1 + 1 + 1 + 1 + 1 + 1 + 1 + 1 + 1 + 1 + 1 + 1) = q274 from ha748), ← (show ad347 (i + 1 + 1 + 1 + 1 + 1 + 1 + 1 + 1 + 1 + 1 + 1 + 1 + 1 + 1 + 1 + 1 + 1 + 1 + 1 + 1 + 1 + 1 + 1 + 1) = q286 from ha753), ← (show ad347 (i + 1 + 1 + 1 + 1 + 1 + 1 + 1 + 1 + 1 + 1 + 1 + 1 + 1 + 1 + 1 + 1 + 1 + 1 + 1 + 1 + 1 + 1 + 1 + 1 + 1) = q298 from ha757), ← (show ad347 (i + 1 + 1 + 1 + 1 + 1 + 1 + 1 + 1 + 1 + 1 + 1 + 1 + 1 + 1 + 1 + 1 + 1 + 1 + 1 + 1 + 1 + 1 + 1 + 1 + 1 + 1) = q310 from ha760), ← (show ad347 (i + 1 + 1 + 1 + 1 + 1 + 1 + 1 + 1 + 1 + 1 + 1 + 1 + 1 + 1 + 1 + 1 + 1 + 1 + 1 + 1 + 1 + 1 + 1 + 1 + 1 + 1 + 1) = q322 from ha762), ← (show ad347 (i + 1 + 1 + 1 + 1 + 1 + 1 + 1 + 1 + 1 + 1 + 1 + 1 + 1 + 1 + 1 + 1 + 1 + 1 + 1 + 1 + 1 + 1 + 1 + 1 + 1 + 1 + 1 + 1) = q334 from ha763), ← (show ad347 (i + 1 + 1 + 1 + 1 + 1 + 1 + 1 + 1 + 1 + 1 + 1 + 1 + 1 + 1 + 1 + 1 + 1 + 1 + 1 + 1 + 1 + 1 + 1 + 1 + 1 + 1 + 1 + 1 + 1) = q346 from ha351)] at hg357; exact hg357
  have hg764 := up_n eg11 hg7 (ne_o (i := i) (c := 1) (d := 0) rfl)
  have hg765 := up_n eg17 hg764 (ne_o (i := i) (c := 1) (d := 2) rfl)
  have hg766 := up_n eg23 hg765 (ne_o (i := i) (c := 1) (d := 0) rfl)
  have hg767 := up_n eg29 hg766 (ne_o (i := i) (c := 1) (d := 3) rfl)
  have hg768 := up_n eg35 hg767 (ne_o (i := i) (c := 1) (d := 0) rfl)
  have hg769 := up_n eg41 hg768 (ne_o (i := i) (c := 1) (d := 4) rfl)
  have hg770 := up_n eg47 hg769 (ne_o (i := i) (c := 1) (d := 0) rfl)
  have hg771 := up_n eg53 hg770 (ne_o (i := i) (c := 1) (d := 5) rfl)
  have hg772 := up_n eg59 hg771 (ne_o (i := i) (c := 1) (d := 0) rfl)
  have hg773 := up_n eg65 hg772 (ne_o (i := i) (c := 1) (d := 6) rfl)
  have hg774 := up_n eg71 hg773 (ne_o (i := i) (c := 1) (d := 0) rfl)
  have hg775 := up_n eg77 hg774 (ne_o (i := i) (c := 1) (d := 7) rfl)
  have hg776 := up_n eg83 hg775 (ne_o (i := i) (c := 1) (d := 0) rfl)
  have hg777 := up_n eg89 hg776 (ne_o (i := i) (c := 1) (d := 8) rfl)
  have hg778 := up_n eg95 hg777 (ne_o (i := i) (c := 1) (d := 0) rfl)
  have hg779 := up_n eg101 hg778 (ne_o (i := i) (c := 1) (d := 9) rfl)
  have hg780 := up_n eg107 hg779 (ne_o (i := i) (c := 1) (d := 0) rfl)
  have hg781 := up_n eg113 hg780 (ne_o (i := i) (c := 1) (d := 10) rfl)
  have hg782 := up_n eg119 hg781 (ne_o (i := i) (c := 1) (d := 0) rfl)
  have hg783 := up_n eg125 hg782 (ne_o (i := i) (c := 1) (d := 11) rfl)
  have hg784 := up_n eg131 hg783 (ne_o (i := i) (c := 1) (d := 0) rfl)
  have hg785 := up_n eg137 hg784 (ne_o (i := i) (c := 1) (d := 12) rfl)
  have hg786 := up_n eg143 hg785 (ne_o (i := i) (c := 1) (d := 0) rfl)
  have hg787 := up_n eg149 hg786 (ne_o (i := i) (c := 1) (d := 13) rfl)
  have hg788 := up_n eg155 hg787 (ne_o (i := i) (c := 1) (d := 0) rfl)
  have hg789 := up_n eg158 hg788 (ne_o (i := i) (c := 1) (d := 0) rfl)
  have hg790 := up_n eg161 hg789 (ne_o (i := i) (c := 1) (d := 0) rfl)
  have hg791 := up_n eg164 hg790 (ne_o (i := i) (c := 1) (d := 0) rfl)
  have hg792 := up_n eg170 hg791 (ne_o (i := i) (c := 1) (d := 14) rfl)
  have hg793 := up_n eg176 hg792 (ne_o (i := i) (c := 1) (d := 0) rfl)
  have hg794 := up_n eg182 hg793 (ne_o (i := i) (c := 1) (d := 15) rfl)
  have hg795 := up_n eg188 hg794 (ne_o (i := i) (c := 1) (d := 0) rfl)
  have hg796 := up_n eg194 hg795 (ne_o (i := i) (c := 1) (d := 16) rfl)
  have hg797 := up_n eg200 hg796 (ne_o (i := i) (c := 1) (d := 0) rfl)
  have hg798 := up_n eg206 hg797 (ne_o (i := i) (c := 1) (d := 17) rfl)
  have hg799 := up_n eg212 hg798 (ne_o (i := i) (c := 1) (d := 0) rfl)
  have hg800 := up_n eg218 hg799 (ne_o (i := i) (c := 1) (d := 18) rfl)
  have hg801 := up_n eg224 hg800 (ne_o (i := i) (c := 1) (d := 0) rfl)
  have hg802 := up_n eg230 hg801 (ne_o (i := i) (c := 1) (d := 19) rfl)
  have hg803 := up_n eg236 hg802 (ne_o (i := i) (c := 1) (d := 0) rfl)
  have hg804 := up_n eg242 hg803 (ne_o (i := i) (c := 1) (d := 20) rfl)
  have hg805 := up_n eg248 hg804 (ne_o (i := i) (c := 1) (d := 0) rfl)
  have hg806 := up_n eg254 hg805 (ne_o (i := i) (c := 1) (d := 21) rfl)
  have hg807 := up_n eg260 hg806 (ne_o (i := i) (c := 1) (d := 0) rfl)
  have hg808 := up_n eg266 hg807 (ne_o (i := i) (c := 1) (d := 22) rfl)
  have hg809 := up_n eg272 hg808 (ne_o (i := i) (c := 1) (d := 0) rfl)
  have hg810 := up_n eg278 hg809 (ne_o (i := i) (c := 1) (d := 23) rfl)
  have hg811 := up_n eg284 hg810 (ne_o (i := i) (c := 1) (d := 0) rfl)
  have hg812 := up_n eg290 hg811 (ne_o (i := i) (c := 1) (d := 24) rfl)
  have hg813 := up_n eg296 hg812 (ne_o (i := i) (c := 1) (d := 0) rfl)
  have hg814 := up_n eg302 hg813 (ne_o (i := i) (c := 1) (d := 25) rfl)
  have hg815 := up_n eg308 hg814 (ne_o (i := i) (c := 1) (d := 0) rfl)
  have hg816 := up_n eg314 hg815 (ne_o (i := i) (c := 1) (d := 26) rfl)
  have hg817 := up_n eg320 hg816 (ne_o (i := i) (c := 1) (d := 0) rfl)
  have hg818 := up_n eg326 hg817 (ne_o (i := i) (c := 1) (d := 27) rfl)
  have hg819 := up_n eg332 hg818 (ne_o (i := i) (c := 1) (d := 0) rfl)
  have hg820 := up_n eg338 hg819 (ne_o (i := i) (c := 1) (d := 28) rfl)
  have hg821 := up_n eg344 hg820 (ne_o (i := i) (c := 1) (d := 0) rfl)
  have hg822 := up_n eg350 hg821 (ne_o (i := i) (c := 1) (d := 29) rfl)
  have hg823 := up_n eg356 hg822 (ne_o (i := i) (c := 1) (d := 0) rfl)
  have hg824 := up_n eg23 hg19 (ne_o (i := i) (c := 2) (d := 0) rfl)
  have hg825 := up_n eg29 hg824 (ne_o (i := i) (c := 2) (d := 3) rfl)
  have hg826 := up_n eg35 hg825 (ne_o (i := i) (c := 2) (d := 0) rfl)
  have hg827 := up_n eg41 hg826 (ne_o (i := i) (c := 2) (d := 4) rfl)
  have hg828 := up_n eg47 hg827 (ne_o (i := i) (c := 2) (d := 0) rfl)
  have hg829 := up_n eg53 hg828 (ne_o (i := i) (c := 2) (d := 5) rfl)
  have hg830 := up_n eg59 hg829 (ne_o (i := i) (c := 2) (d := 0) rfl)
  have hg831 := up_n eg65 hg830 (ne_o (i := i) (c := 2) (d := 6) rfl)
  have hg832 := up_n eg71 hg831 (ne_o (i := i) (c := 2) (d := 0) rfl)
  have hg833 := up_n eg77 hg832 (ne_o (i := i) (c := 2) (d := 7) rfl)
  have hg834 := up_n eg83 hg833 (ne_o (i := i) (c := 2) (d := 0) rfl)
  have hg835 := up_n eg89 hg834 (ne_o (i := i) (c := 2) (d := 8) rfl)
  have hg836 := up_n eg95 hg835 (ne_o (i := i) (c := 2) (d := 0) rfl)
  have hg837 := up_n eg101 hg836 (ne_o (i := i) (c := 2) (d := 9) rfl)
  have hg838 := up_n eg107 hg837 (ne_o (i := i) (c := 2) (d := 0) rfl)
  have hg839 := up_n eg113 hg838 (ne_o (i := i) (c := 2) (d := 10) rfl)
  have hg840 := up_n eg119 hg839 (ne_o (i := i) (c := 2) (d := 0) rfl)
  have hg841 := up_n eg125 hg840 (ne_o (i := i) (c := 2) (d := 11) rfl)
  have hg842 := up_n eg131 hg841 (ne_o (i := i) (c := 2) (d := 0) rfl)
  have hg843 := up_n eg137 hg842 (ne_o (i := i) (c := 2) (d := 12) rfl)
  have hg844 := up_n eg143 hg843 (ne_o (i := i) (c := 2) (d := 0) rfl)
  have hg845 := up_n eg149 hg844 (ne_o (i := i) (c := 2) (d := 13) rfl)
  have hg846 := up_n eg155 hg845 (ne_o (i := i) (c := 2) (d := 0) rfl)
  have hg847 := up_n eg158 hg846 (ne_o (i := i) (c := 2) (d := 0) rfl)
  have hg848 := up_n eg161 hg847 (ne_o (i := i) (c := 2) (d := 0) rfl)
  have hg849 := up_n eg164 hg848 (ne_o (i := i) (c := 2) (d := 0) rfl)
  have hg850 := up_n eg170 hg849 (ne_o (i := i) (c := 2) (d := 14) rfl)
  have hg851 := up_n eg176 hg850 (ne_o (i := i) (c := 2) (d := 0) rfl)
  have hg852 := up_n eg182 hg851 (ne_o (i := i) (c := 2) (d := 15) rfl)
  have hg853 := up_n eg188 hg852 (ne_o (i := i) (c := 2) (d := 0) rfl)
  have hg854 := up_n eg194 hg853 (ne_o (i := i) (c := 2) (d := 16) rfl)
  have hg855 := up_n eg200 hg854 (ne_o (i := i) (c := 2) (d := 0) rfl)
  have hg856 := up_n eg206 hg855 (ne_o (i := i) (c := 2) (d := 17) rfl)
  have hg857 := up_n eg212 hg856 (ne_o (i := i) (c := 2) (d := 0) rfl)
  have hg858 := up_n eg218 hg857 (ne_o (i := i) (c := 2) (d := 18) rfl)
  have hg859 := up_n eg224 hg858 (ne_o (i := i) (c := 2) (d := 0) rfl)
  have hg860 := up_n eg230 hg859 (ne_o (i := i) (c := 2) (d := 19) rfl)
  have hg861 := up_n eg236 hg860 (ne_o (i := i) (c := 2) (d := 0) rfl)
  have hg862 := up_n eg242 hg861 (ne_o (i := i) (c := 2) (d := 20) rfl)
  have hg863 := up_n eg248 hg862 (ne_o (i := i) (c := 2) (d := 0) rfl)
  have hg864 := up_n eg254 hg863 (ne_o (i := i) (c := 2) (d := 21) rfl)
  have hg865 := up_n eg260 hg864 (ne_o (i := i) (c := 2) (d := 0) rfl)
  have hg866 := up_n eg266 hg865 (ne_o (i := i) (c := 2) (d := 22) rfl)
  have hg867 := up_n eg272 hg866 (ne_o (i := i) (c := 2) (d := 0) rfl)
  have hg868 := up_n eg278 hg867 (ne_o (i := i) (c := 2) (d := 23) rfl)
  have hg869 := up_n eg284 hg868 (ne_o (i := i) (c := 2) (d := 0) rfl)
  have hg870 := up_n eg290 hg869 (ne_o (i := i) (c := 2) (d := 24) rfl)
  have hg871 := up_n eg296 hg870 (ne_o (i := i) (c := 2) (d := 0) rfl)
  have hg872 := up_n eg302 hg871 (ne_o (i := i) (c := 2) (d := 25) rfl)
  have hg873 := up_n eg308 hg872 (ne_o (i := i) (c := 2) (d := 0) rfl)
  have hg874 := up_n eg314 hg873 (ne_o (i := i) (c := 2) (d := 26) rfl)
  have hg875 := up_n eg320 hg874 (ne_o (i := i) (c := 2) (d := 0) rfl)
  have hg876 := up_n eg326 hg875 (ne_o (i := i) (c := 2) (d := 27) rfl)
  have hg877 := up_n eg332 hg876 (ne_o (i := i) (c := 2) (d := 0) rfl)
  have hg878 := up_n eg338 hg877 (ne_o (i := i) (c := 2) (d := 28) rfl)
  have hg879 := up_n eg344 hg878 (ne_o (i := i) (c := 2) (d := 0) rfl)
  have hg880 := up_n eg350 hg879 (ne_o (i := i) (c := 2) (d := 29) rfl)
  have hg881 := up_n eg356 hg880 (ne_o (i := i) (c := 2) (d := 0) rfl)
  have hg882 := up_n eg35 hg31 (ne_o (i := i) (c := 3) (d := 0) rfl)
  have hg883 := up_n eg41 hg882 (ne_o (i := i) (c := 3) (d := 4) rfl)
  have hg884 := up_n eg47 hg883 (ne_o (i := i) (c := 3) (d := 0) rfl)
  have hg885 := up_n eg53 hg884 (ne_o (i := i) (c := 3) (d := 5) rfl)
  have hg886 := up_n eg59 hg885 (ne_o (i := i) (c := 3) (d := 0) rfl)
  have hg887 := up_n eg65 hg886 (ne_o (i := i) (c := 3) (d := 6) rfl)
  have hg888 := up_n eg71 hg887 (ne_o (i := i) (c := 3) (d := 0) rfl)
  have hg889 := up_n eg77 hg888 (ne_o (i := i) (c := 3) (d := 7) rfl)
  have hg890 := up_n eg83 hg889 (ne_o (i := i) (c := 3) (d := 0) rfl)
  have hg891 := up_n eg89 hg890 (ne_o (i := i) (c := 3) (d := 8) rfl)
  have hg892 := up_n eg95 hg891 (ne_o (i := i) (c := 3) (d := 0) rfl)
  have hg893 := up_n eg101 hg892 (ne_o (i := i) (c := 3) (d := 9) rfl)
  have hg894 := up_n eg107 hg893 (ne_o (i := i) (c := 3) (d := 0) rfl)
  have hg895 := up_n eg113 hg894 (ne_o (i := i) (c := 3) (d := 10) rfl)
  have hg896 := up_n eg119 hg895 (ne_o (i := i) (c := 3) (d := 0) rfl)
  have hg897 := up_n eg125 hg896 (ne_o (i := i) (c := 3) (d := 11) rfl)
  have hg898 := up_n eg131 hg897 (ne_o (i := i) (c := 3) (d := 0) rfl)
  have hg899 := up_n eg137 hg898 (ne_o (i := i) (c := 3) (d := 12) rfl)
  have hg900 := up_n eg143 hg899 (ne_o (i := i) (c := 3) (d := 0) rfl)
  have hg901 := up_n eg149 hg900 (ne_o (i := i) (c := 3) (d := 13) rfl)
  have hg902 := up_n eg155 hg901 (ne_o (i := i) (c := 3) (d := 0) rfl)
  have hg903 := up_n eg158 hg902 (ne_o (i := i) (c := 3) (d := 0) rfl)
  have hg904 := up_n eg161 hg903 (ne_o (i := i) (c := 3) (d := 0) rfl)
  have hg905 := up_n eg164 hg904 (ne_o (i := i) (c := 3) (d := 0) rfl)
  have hg906 := up_n eg170 hg905 (ne_o (i := i) (c := 3) (d := 14) rfl)
  have hg907 := up_n eg176 hg906 (ne_o (i := i) (c := 3) (d := 0) rfl)
  have hg908 := up_n eg182 hg907 (ne_o (i := i) (c := 3) (d := 15) rfl)
  have hg909 := up_n eg188 hg908 (ne_o (i := i) (c := 3) (d := 0) rfl)
  have hg910 := up_n eg194 hg909 (ne_o (i := i) (c := 3) (d := 16) rfl)
  have hg911 := up_n eg200 hg910 (ne_o (i := i) (c := 3) (d := 0) rfl)
  have hg912 := up_n eg206 hg911 (ne_o (i := i) (c := 3) (d := 17) rfl)
  have hg913 := up_n eg212 hg912 (ne_o (i := i) (c := 3) (d := 0) rfl)
  have hg914 := up_n eg218 hg913 (ne_o (i := i) (c := 3) (d := 18) rfl)
  have hg915 := up_n eg224 hg914 (ne_o (i := i) (c := 3) (d := 0) rfl)
  have hg916 := up_n eg230 hg915 (ne_o (i := i) (c := 3) (d := 19) rfl)
  have hg917 := up_n eg236 hg916 (ne_o (i := i) (c := 3) (d := 0) rfl)
  have hg918 := up_n eg242 hg917 (ne_o (i := i) (c := 3) (d := 20) rfl)
  have hg919 := up_n eg248 hg918 (ne_o (i := i) (c := 3) (d := 0) rfl)
  have hg920 := up_n eg254 hg919 (ne_o (i := i) (c := 3) (d := 21) rfl)
  have hg921 := up_n eg260 hg920 (ne_o (i := i) (c := 3) (d := 0) rfl)
  have hg922 := up_n eg266 hg921 (ne_o (i := i) (c := 3) (d := 22) rfl)
  have hg923 := up_n eg272 hg922 (ne_o (i := i) (c := 3) (d := 0) rfl)
  have hg924 := up_n eg278 hg923 (ne_o (i := i) (c := 3) (d := 23) rfl)
  have hg925 := up_n eg284 hg924 (ne_o (i := i) (c := 3) (d := 0) rfl)
  have hg926 := up_n eg290 hg925 (ne_o (i := i) (c := 3) (d := 24) rfl)
  have hg927 := up_n eg296 hg926 (ne_o (i := i) (c := 3) (d := 0) rfl)
  have hg928 := up_n eg302 hg927 (ne_o (i := i) (c := 3) (d := 25) rfl)
  have hg929 := up_n eg308 hg928 (ne_o (i := i) (c := 3) (d := 0) rfl)
  have hg930 := up_n eg314 hg929 (ne_o (i := i) (c := 3) (d := 26) rfl)
  have hg931 := up_n eg320 hg930 (ne_o (i := i) (c := 3) (d := 0) rfl)
  have hg932 := up_n eg326 hg931 (ne_o (i := i) (c := 3) (d := 27) rfl)
  have hg933 := up_n eg332 hg932 (ne_o (i := i) (c := 3) (d := 0) rfl)
  have hg934 := up_n eg338 hg933 (ne_o (i := i) (c := 3) (d := 28) rfl)
  have hg935 := up_n eg344 hg934 (ne_o (i := i) (c := 3) (d := 0) rfl)
  have hg936 := up_n eg350 hg935 (ne_o (i := i) (c := 3) (d := 29) rfl)
  have hg937 := up_n eg356 hg936 (ne_o (i := i) (c := 3) (d := 0) rfl)
  have hg938 := up_n eg47 hg43 (ne_o (i := i) (c := 4) (d := 0) rfl)
  have hg939 := up_n eg53 hg938 (ne_o (i := i) (c := 4) (d := 5) rfl)
  have hg940 := up_n eg59 hg939 (ne_o (i := i) (c := 4) (d := 0) rfl)
  have hg941 := up_n eg65 hg940 (ne_o (i := i) (c := 4) (d := 6) rfl)
  have hg942 := up_n eg71 hg941 (ne_o (i := i) (c := 4) (d := 0) rfl)
  have hg943 := up_n eg77 hg942 (ne_o (i := i) (c := 4) (d := 7) rfl)
  have hg944 := up_n eg83 hg943 (ne_o (i := i) (c := 4) (d := 0) rfl)
  have hg945 := up_n eg89 hg944 (ne_o (i := i) (c := 4) (d := 8) rfl)
  have hg946 := up_n eg95 hg945 (ne_o (i := i) (c := 4) (d := 0) rfl)
  have hg947 := up_n eg101 hg946 (ne_o (i := i) (c := 4) (d := 9) rfl)
  have hg948 := up_n eg107 hg947 (ne_o (i := i) (c := 4) (d := 0) rfl)
  have hg949 := up_n eg113 hg948 (ne_o (i := i) (c := 4) (d := 10) rfl)
  have hg950 := up_n eg119 hg949 (ne_o (i := i) (c := 4) (d := 0) rfl)
  have hg951 := up_n eg125 hg950 (ne_o (i := i) (c := 4) (d := 11) rfl)
  have hg952 := up_n eg131 hg951 (ne_o (i := i) (c := 4) (d := 0) rfl)
  have hg953 := up_n eg137 hg952 (ne_o (i := i) (c := 4) (d := 12) rfl)
  have hg954 := up_n eg143 hg953 (ne_o (i := i) (c := 4) (d := 0) rfl)
  have hg955 := up_n eg149 hg954 (ne_o (i := i) (c := 4) (d := 13) rfl)
  have hg956 := up_n eg155 hg955 (ne_o (i := i) (c := 4) (d := 0) rfl)
  have hg957 := up_n eg158 hg956 (ne_o (i := i) (c := 4) (d := 0) rfl)
  have hg958 := up_n eg161 hg957 (ne_o (i := i) (c := 4) (d := 0) rfl)
  have hg959 := up_n eg164 hg958 (ne_o (i := i) (c := 4) (d := 0) rfl)
  have hg960 := up_n eg170 hg959 (ne_o (i := i) (c := 4) (d := 14) rfl)
  have hg961 := up_n eg176 hg960 (ne_o (i := i) (c := 4) (d := 0) rfl)
  have hg962 := up_n eg182 hg961 (ne_o (i := i) (c := 4) (d := 15) rfl)
  have hg963 := up_n eg188 hg962 (ne_o (i := i) (c := 4) (d := 0) rfl)
  have hg964 := up_n eg194 hg963 (ne_o (i := i) (c := 4) (d := 16) rfl)
  have hg965 := up_n eg200 hg964 (ne_o (i := i) (c := 4) (d := 0) rfl)
  have hg966 := up_n eg206 hg965 (ne_o (i := i) (c := 4) (d := 17) rfl)
  have hg967 := up_n eg212 hg966 (ne_o (i := i) (c := 4) (d := 0) rfl)
  have hg968 := up_n eg218 hg967 (ne_o (i := i) (c := 4) (d := 18) rfl)
  have hg969 := up_n eg224 hg968 (ne_o (i := i) (c := 4) (d := 0) rfl)
  have hg970 := up_n eg230 hg969 (ne_o (i := i) (c := 4) (d := 19) rfl)
  have hg971 := up_n eg236 hg970 (ne_o (i := i) (c := 4) (d := 0) rfl)
  have hg972 := up_n eg242 hg971 (ne_o (i := i) (c := 4) (d := 20) rfl)
  have hg973 := up_n eg248 hg972 (ne_o (i := i) (c := 4) (d := 0) rfl)
  have hg974 := up_n eg254 hg973 (ne_o (i := i) (c := 4) (d := 21) rfl)
  have hg975 := up_n eg260 hg974 (ne_o (i := i) (c := 4) (d := 0) rfl)
  have hg976 := up_n eg266 hg975 (ne_o (i := i) (c := 4) (d := 22) rfl)
  have hg977 := up_n eg272 hg976 (ne_o (i := i) (c := 4) (d := 0) rfl)
  have hg978 := up_n eg278 hg977 (ne_o (i := i) (c := 4) (d := 23) rfl)
  have hg979 := up_n eg284 hg978 (ne_o (i := i) (c := 4) (d := 0) rfl)
  have hg980 := up_n eg290 hg979 (ne_o (i := i) (c := 4) (d := 24) rfl)
  have hg981 := up_n eg296 hg980 (ne_o (i := i) (c := 4) (d := 0) rfl)
  have hg982 := up_n eg302 hg981 (ne_o (i := i) (c := 4) (d := 25) rfl)
  have hg983 := up_n eg308 hg982 (ne_o (i := i) (c := 4) (d := 0) rfl)
  have hg984 := up_n eg314 hg983 (ne_o (i := i) (c := 4) (d := 26) rfl)
  have hg985 := up_n eg320 hg984 (ne_o (i := i) (c := 4) (d := 0) rfl)
  have hg986 := up_n eg326 hg985 (ne_o (i := i) (c := 4) (d := 27) rfl)
  have hg987 := up_n eg332 hg986 (ne_o (i := i) (c := 4) (d := 0) rfl)
  have hg988 := up_n eg338 hg987 (ne_o (i := i) (c := 4) (d := 28) rfl)
  have hg989 := up_n eg344 hg988 (ne_o (i := i) (c := 4) (d := 0) rfl)
  have hg990 := up_n eg350 hg989 (ne_o (i := i) (c := 4) (d := 29) rfl)
  have hg991 := up_n eg356 hg990 (ne_o (i := i) (c := 4) (d := 0) rfl)
  have hg992 := up_n eg59 hg55 (ne_o (i := i) (c := 5) (d := 0) rfl)
  have hg993 := up_n eg65 hg992 (ne_o (i := i) (c := 5) (d := 6) rfl)
  have hg994 := up_n eg71 hg993 (ne_o (i := i) (c := 5) (d := 0) rfl)
  have hg995 := up_n eg77 hg994 (ne_o (i := i) (c := 5) (d := 7) rfl)
  have hg996 := up_n eg83 hg995 (ne_o (i := i) (c := 5) (d := 0) rfl)
  have hg997 := up_n eg89 hg996 (ne_o (i := i) (c := 5) (d := 8) rfl)
  have hg998 := up_n eg95 hg997 (ne_o (i := i) (c := 5) (d := 0) rfl)
  have hg999 := up_n eg101 hg998 (ne_o (i := i) (c := 5) (d := 9) rfl)
  have hg1000 := up_n eg107 hg999 (ne_o (i := i) (c := 5) (d := 0) rfl)
  have hg1001 := up_n eg113 hg1000 (ne_o (i := i) (c := 5) (d := 10) rfl)
  have hg1002 := up_n eg119 hg1001 (ne_o (i := i) (c := 5) (d := 0) rfl)
  have hg1003 := up_n eg125 hg1002 (ne_o (i := i) (c := 5) (d := 11) rfl)
  have hg1004 := up_n eg131 hg1003 (ne_o (i := i) (c := 5) (d := 0) rfl)
  have hg1005 := up_n eg137 hg1004 (ne_o (i := i) (c := 5) (d := 12) rfl)
  have hg1006 := up_n eg143 hg1005 (ne_o (i := i) (c := 5) (d := 0) rfl)
  have hg1007 := up_n eg149 hg1006 (ne_o (i := i) (c := 5) (d := 13) rfl)
  have hg1008 := up_n eg155 hg1007 (ne_o (i := i) (c := 5) (d := 0) rfl)
  have hg1009 := up_n eg158 hg1008 (ne_o (i := i) (c := 5) (d := 0) rfl)
  have hg1010 := up_n eg161 hg1009 (ne_o (i := i) (c := 5) (d := 0) rfl)
  have hg1011 := up_n eg164 hg1010 (ne_o (i := i) (c := 5) (d := 0) rfl)
  have hg1012 := up_n eg170 hg1011 (ne_o (i := i) (c := 5) (d := 14) rfl)
  have hg1013 := up_n eg176 hg1012 (ne_o (i := i) (c := 5) (d := 0) rfl)
  have hg1014 := up_n eg182 hg1013 (ne_o (i := i) (c := 5) (d := 15) rfl)
  have hg1015 := up_n eg188 hg1014 (ne_o (i := i) (c := 5) (d := 0) rfl)
  have hg1016 := up_n eg194 hg1015 (ne_o (i := i) (c := 5) (d := 16) rfl)
  have hg1017 := up_n eg200 hg1016 (ne_o (i := i) (c := 5) (d := 0) rfl)
  have hg1018 := up_n eg206 hg1017 (ne_o (i := i) (c := 5) (d := 17) rfl)
  have hg1019 := up_n eg212 hg1018 (ne_o (i := i) (c := 5) (d := 0) rfl)
  have hg1020 := up_n eg218 hg1019 (ne_o (i := i) (c := 5) (d := 18) rfl)
  have hg1021 := up_n eg224 hg1020 (ne_o (i := i) (c := 5) (d := 0) rfl)
  have hg1022 := up_n eg230 hg1021 (ne_o (i := i) (c := 5) (d := 19) rfl)
  have hg1023 := up_n eg236 hg1022 (ne_o (i := i) (c := 5) (d := 0) rfl)
  have hg1024 := up_n eg242 hg1023 (ne_o (i := i) (c := 5) (d := 20) rfl)
  have hg1025 := up_n eg248 hg1024 (ne_o (i := i) (c := 5) (d := 0) rfl)
  have hg1026 := up_n eg254 hg1025 (ne_o (i := i) (c := 5) (d := 21) rfl)
  have hg1027 := up_n eg260 hg1026 (ne_o (i := i) (c := 5) (d := 0) rfl)
  have hg1028 := up_n eg266 hg1027 (ne_o (i := i) (c := 5) (d := 22) rfl)
  have hg1029 := up_n eg272 hg1028 (ne_o (i := i) (c := 5) (d := 0) rfl)
  have hg1030 := up_n eg278 hg1029 (ne_o (i := i) (c := 5) (d := 23) rfl)
  have hg1031 := up_n eg284 hg1030 (ne_o (i := i) (c := 5) (d := 0) rfl)
  have hg1032 := up_n eg290 hg1031 (ne_o (i := i) (c := 5) (d := 24) rfl)
  have hg1033 := up_n eg296 hg1032 (ne_o (i := i) (c := 5) (d := 0) rfl)
  have hg1034 := up_n eg302 hg1033 (ne_o (i := i) (c := 5) (d := 25) rfl)
  have hg1035 := up_n eg308 hg1034 (ne_o (i := i) (c := 5) (d := 0) rfl)
  have hg1036 := up_n eg314 hg1035 (ne_o (i := i) (c := 5) (d := 26) rfl)
  have hg1037 := up_n eg320 hg1036 (ne_o (i := i) (c := 5) (d := 0) rfl)
  have hg1038 := up_n eg326 hg1037 (ne_o (i := i) (c := 5) (d := 27) rfl)
  have hg1039 := up_n eg332 hg1038 (ne_o (i := i) (c := 5) (d := 0) rfl)
  have hg1040 := up_n eg338 hg1039 (ne_o (i := i) (c := 5) (d := 28) rfl)
  have hg1041 := up_n eg344 hg1040 (ne_o (i := i) (c := 5) (d := 0) rfl)
  have hg1042 := up_n eg350 hg1041 (ne_o (i := i) (c := 5) (d := 29) rfl)
  have hg1043 := up_n eg356 hg1042 (ne_o (i := i) (c := 5) (d := 0) rfl)
  have hg1044 := up_n eg71 hg67 (ne_o (i := i) (c := 6) (d := 0) rfl)
  have hg1045 := up_n eg77 hg1044 (ne_o (i := i) (c := 6) (d := 7) rfl)
  have hg1046 := up_n eg83 hg1045 (ne_o (i := i) (c := 6) (d := 0) rfl)
  have hg1047 := up_n eg89 hg1046 (ne_o (i := i) (c := 6) (d := 8) rfl)
  have hg1048 := up_n eg95 hg1047 (ne_o (i := i) (c := 6) (d := 0) rfl)
  have hg1049 := up_n eg101 hg1048 (ne_o (i := i) (c := 6) (d := 9) rfl)
  have hg1050 := up_n eg107 hg1049 (ne_o (i := i) (c := 6) (d := 0) rfl)
  have hg1051 := up_n eg113 hg1050 (ne_o (i := i) (c := 6) (d := 10) rfl)
  have hg1052 := up_n eg119 hg1051 (ne_o (i := i) (c := 6) (d := 0) rfl)
  have hg1053 := up_n eg125 hg1052 (ne_o (i := i) (c := 6) (d := 11) rfl)
  have hg1054 := up_n eg131 hg1053 (ne_o (i := i) (c := 6) (d := 0) rfl)
  have hg1055 := up_n eg137 hg1054 (ne_o (i := i) (c := 6) (d := 12) rfl)
  have hg1056 := up_n eg143 hg1055 (ne_o (i := i) (c := 6) (d := 0) rfl)
  have hg1057 := up_n eg149 hg1056 (ne_o (i := i) (c := 6) (d := 13) rfl)
  have hg1058 := up_n eg155 hg1057 (ne_o (i := i) (c := 6) (d := 0) rfl)
  have hg1059 := up_n eg158 hg1058 (ne_o (i := i) (c := 6) (d := 0) rfl)
  have hg1060 := up_n eg161 hg1059 (ne_o (i := i) (c := 6) (d := 0) rfl)
  have hg1061 := up_n eg164 hg1060 (ne_o (i := i) (c := 6) (d := 0) rfl)
  have hg1062 := up_n eg170 hg1061 (ne_o (i := i) (c := 6) (d := 14) rfl)
  have hg1063 := up_n eg176 hg1062 (ne_o (i := i) (c := 6) (d := 0) rfl)
  have hg1064 := up_n eg182 hg1063 (ne_o (i := i) (c := 6) (d := 15) rfl)
  have hg1065 := up_n eg188 hg1064 (ne_o (i := i) (c := 6) (d := 0) rfl)
  have hg1066 := up_n eg194 hg1065 (ne_o (i := i) (c := 6) (d := 16) rfl)
  have hg1067 := up_n eg200 hg1066 (ne_o (i := i) (c := 6) (d := 0) rfl)
  have hg1068 := up_n eg206 hg1067 (ne_o (i := i) (c := 6) (d := 17) rfl)
  have hg1069 := up_n eg212 hg1068 (ne_o (i := i) (c := 6) (d := 0) rfl)
  have hg1070 := up_n eg218 hg1069 (ne_o (i := i) (c := 6) (d := 18) rfl)
  have hg1071 := up_n eg224 hg1070 (ne_o (i := i) (c := 6) (d := 0) rfl)
  have hg1072 := up_n eg230 hg1071 (ne_o (i := i) (c := 6) (d := 19) rfl)
  have hg1073 := up_n eg236 hg1072 (ne_o (i := i) (c := 6) (d := 0) rfl)
  have hg1074 := up_n eg242 hg1073 (ne_o (i := i) (c := 6) (d := 20) rfl)
  have hg1075 := up_n eg248 hg1074 (ne_o (i := i) (c := 6) (d := 0) rfl)
  have hg1076 := up_n eg254 hg1075 (ne_o (i := i) (c := 6) (d := 21) rfl)
  have hg1077 := up_n eg260 hg1076 (ne_o (i := i) (c := 6) (d := 0) rfl)
  have hg1078 := up_n eg266 hg1077 (ne_o (i := i) (c := 6) (d := 22) rfl)
  have hg1079 := up_n eg272 hg1078 (ne_o (i := i) (c := 6) (d := 0) rfl)
  have hg1080 := up_n eg278 hg1079 (ne_o (i := i) (c := 6) (d := 23) rfl)
  have hg1081 := up_n eg284 hg1080 (ne_o (i := i) (c := 6) (d := 0) rfl)
  have hg1082 := up_n eg290 hg1081 (ne_o (i := i) (c := 6) (d := 24) rfl)
  have hg1083 := up_n eg296 hg1082 (ne_o (i := i) (c := 6) (d := 0) rfl)
  have hg1084 := up_n eg302 hg1083 (ne_o (i := i) (c := 6) (d := 25) rfl)
  have hg1085 := up_n eg308 hg1084 (ne_o (i := i) (c := 6) (d := 0) rfl)
  have hg1086 := up_n eg314 hg1085 (ne_o (i := i) (c := 6) (d := 26) rfl)
  have hg1087 := up_n eg320 hg1086 (ne_o (i := i) (c := 6) (d := 0) rfl)
  have hg1088 := up_n eg326 hg1087 (ne_o (i := i) (c := 6) (d := 27) rfl)
  have hg1089 := up_n eg332 hg1088 (ne_o (i := i) (c := 6) (d := 0) rfl)
  have hg1090 := up_n eg338 hg1089 (ne_o (i := i) (c := 6) (d := 28) rfl)
  have hg1091 := up_n eg344 hg1090 (ne_o (i := i) (c := 6) (d := 0) rfl)
  have hg1092 := up_n eg350 hg1091 (ne_o (i := i) (c := 6) (d := 29) rfl)
  have hg1093 := up_n eg356 hg1092 (ne_o (i := i) (c := 6) (d := 0) rfl)
  have hg1094 := up_n eg83 hg79 (ne_o (i := i) (c := 7) (d := 0) rfl)
  have hg1095 := up_n eg89 hg1094 (ne_o (i := i) (c := 7) (d := 8) rfl)
  have hg1096 := up_n eg95 hg1095 (ne_o (i := i) (c := 7) (d := 0) rfl)
  have hg1097 := up_n eg101 hg1096 (ne_o (i := i) (c := 7) (d := 9) rfl)
  have hg1098 := up_n eg107 hg1097 (ne_o (i := i) (c := 7) (d := 0) rfl)
  have hg1099 := up_n eg113 hg1098 (ne_o (i := i) (c := 7) (d := 10) rfl)
  have hg1100 := up_n eg119 hg1099 (ne_o (i := i) (c := 7) (d := 0) rfl)
  have hg1101 := up_n eg125 hg1100 (ne_o (i := i) (c := 7) (d := 11) rfl)
  have hg1102 := up_n eg131 hg1101 (ne_o (i := i) (c := 7) (d := 0) rfl)
  have hg1103 := up_n eg137 hg1102 (ne_o (i := i) (c := 7) (d := 12) rfl)
  have hg1104 := up_n eg143 hg1103 (ne_o (i := i) (c := 7) (d := 0) rfl)
  have hg1105 := up_n eg149 hg1104 (ne_o (i := i) (c := 7) (d := 13) rfl)
  have hg1106 := up_n eg155 hg1105 (ne_o (i := i) (c := 7) (d := 0) rfl)
  have hg1107 := up_n eg158 hg1106 (ne_o (i := i) (c := 7) (d := 0) rfl)
  have hg1108 := up_n eg161 hg1107 (ne_o (i := i) (c := 7) (d := 0) rfl)
  have hg1109 := up_n eg164 hg1108 (ne_o (i := i) (c := 7) (d := 0) rfl)
  have hg1110 := up_n eg170 hg1109 (ne_o (i := i) (c := 7) (d := 14) rfl)
  have hg1111 := up_n eg176 hg1110 (ne_o (i := i) (c := 7) (d := 0) rfl)
  have hg1112 := up_n eg182 hg1111 (ne_o (i := i) (c := 7) (d := 15) rfl)
  have hg1113 := up_n eg188 hg1112 (ne_o (i := i) (c := 7) (d := 0) rfl)
  have hg1114 := up_n eg194 hg1113 (ne_o (i := i) (c := 7) (d := 16) rfl)
  have hg1115 := up_n eg200 hg1114 (ne_o (i := i) (c := 7) (d := 0) rfl)
  have hg1116 := up_n eg206 hg1115 (ne_o (i := i) (c := 7) (d := 17) rfl)
  have hg1117 := up_n eg212 hg1116 (ne_o (i := i) (c := 7) (d := 0) rfl)
  have hg1118 := up_n eg218 hg1117 (ne_o (i := i) (c := 7) (d := 18) rfl)
  have hg1119 := up_n eg224 hg1118 (ne_o (i := i) (c := 7) (d := 0) rfl)
  have hg1120 := up_n eg230 hg1119 (ne_o (i := i) (c := 7) (d := 19) rfl)
  have hg1121 := up_n eg236 hg1120 (ne_o (i := i) (c := 7) (d := 0) rfl)
  have hg1122 := up_n eg242 hg1121 (ne_o (i := i) (c := 7) (d := 20) rfl)
  have hg1123 := up_n eg248 hg1122 (ne_o (i := i) (c := 7) (d := 0) rfl)
  have hg1124 := up_n eg254 hg1123 (ne_o (i := i) (c := 7) (d := 21) rfl)
  have hg1125 := up_n eg260 hg1124 (ne_o (i := i) (c := 7) (d := 0) rfl)
  have hg1126 := up_n eg266 hg1125 (ne_o (i := i) (c := 7) (d := 22) rfl)
  have hg1127 := up_n eg272 hg1126 (ne_o (i := i) (c := 7) (d := 0) rfl)
  have hg1128 := up_n eg278 hg1127 (ne_o (i := i) (c := 7) (d := 23) rfl)
  have hg1129 := up_n eg284 hg1128 (ne_o (i := i) (c := 7) (d := 0) rfl)
  have hg1130 := up_n eg290 hg1129 (ne_o (i := i) (c := 7) (d := 24) rfl)
  have hg1131 := up_n eg296 hg1130 (ne_o (i := i) (c := 7) (d := 0) rfl)
  have hg1132 := up_n eg302 hg1131 (ne_o (i := i) (c := 7) (d := 25) rfl)
  have hg1133 := up_n eg308 hg1132 (ne_o (i := i) (c := 7) (d := 0) rfl)
  have hg1134 := up_n eg314 hg1133 (ne_o (i := i) (c := 7) (d := 26) rfl)
  have hg1135 := up_n eg320 hg1134 (ne_o (i := i) (c := 7) (d := 0) rfl)
  have hg1136 := up_n eg326 hg1135 (ne_o (i := i) (c := 7) (d := 27) rfl)
  have hg1137 := up_n eg332 hg1136 (ne_o (i := i) (c := 7) (d := 0) rfl)
  have hg1138 := up_n eg338 hg1137 (ne_o (i := i) (c := 7) (d := 28) rfl)
  have hg1139 := up_n eg344 hg1138 (ne_o (i := i) (c := 7) (d := 0) rfl)
  have hg1140 := up_n eg350 hg1139 (ne_o (i := i) (c := 7) (d := 29) rfl)
  have hg1141 := up_n eg356 hg1140 (ne_o (i := i) (c := 7) (d := 0) rfl)
  have hg1142 := up_n eg95 hg91 (ne_o (i := i) (c := 8) (d := 0) rfl)
  have hg1143 := up_n eg101 hg1142 (ne_o (i := i) (c := 8) (d := 9) rfl)
  have hg1144 := up_n eg107 hg1143 (ne_o (i := i) (c := 8) (d := 0) rfl)
  have hg1145 := up_n eg113 hg1144 (ne_o (i := i) (c := 8) (d := 10) rfl)
  have hg1146 := up_n eg119 hg1145 (ne_o (i := i) (c := 8) (d := 0) rfl)
  have hg1147 := up_n eg125 hg1146 (ne_o (i := i) (c := 8) (d := 11) rfl)
  have hg1148 := up_n eg131 hg1147 (ne_o (i := i) (c := 8) (d := 0) rfl)
  have hg1149 := up_n eg137 hg1148 (ne_o (i := i) (c := 8) (d := 12) rfl)
  have hg1150 := up_n eg143 hg1149 (ne_o (i := i) (c := 8) (d := 0) rfl)
  have hg1151 := up_n eg149 hg1150 (ne_o (i := i) (c := 8) (d := 13) rfl)
  have hg1152 := up_n eg155 hg1151 (ne_o (i := i) (c := 8) (d := 0) rfl)
  have hg1153 := up_n eg158 hg1152 (ne_o (i := i) (c := 8) (d := 0) rfl)
  have hg1154 := up_n eg161 hg1153 (ne_o (i := i) (c := 8) (d := 0) rfl)
  have hg1155 := up_n eg164 hg1154 (ne_o (i := i) (c := 8) (d := 0) rfl)
  have hg1156 := up_n eg170 hg1155 (ne_o (i := i) (c := 8) (d := 14) rfl)
  have hg1157 := up_n eg176 hg1156 (ne_o (i := i) (c := 8) (d := 0) rfl)
  have hg1158 := up_n eg182 hg1157 (ne_o (i := i) (c := 8) (d := 15) rfl)
  have hg1159 := up_n eg188 hg1158 (ne_o (i := i) (c := 8) (d := 0) rfl)
  have hg1160 := up_n eg194 hg1159 (ne_o (i := i) (c := 8) (d := 16) rfl)
  have hg1161 := up_n eg200 hg1160 (ne_o (i := i) (c := 8) (d := 0) rfl)
  have hg1162 := up_n eg206 hg1161 (ne_o (i := i) (c := 8) (d := 17) rfl)
  have hg1163 := up_n eg212 hg1162 (ne_o (i := i) (c := 8) (d := 0) rfl)
  have hg1164 := up_n eg218 hg1163 (ne_o (i := i) (c := 8) (d := 18) rfl)
  have hg1165 := up_n eg224 hg1164 (ne_o (i := i) (c := 8) (d := 0) rfl)
  have hg1166 := up_n eg230 hg1165 (ne_o (i := i) (c := 8) (d := 19) rfl)
  have hg1167 := up_n eg236 hg1166 (ne_o (i := i) (c := 8) (d := 0) rfl)
  have hg1168 := up_n eg242 hg1167 (ne_o (i := i) (c := 8) (d := 20) rfl)
  have hg1169 := up_n eg248 hg1168 (ne_o (i := i) (c := 8) (d := 0) rfl)
  have hg1170 := up_n eg254 hg1169 (ne_o (i := i) (c := 8) (d := 21) rfl)
  have hg1171 := up_n eg260 hg1170 (ne_o (i := i) (c := 8) (d := 0) rfl)
  have hg1172 := up_n eg266 hg1171 (ne_o (i := i) (c := 8) (d := 22) rfl)
  have hg1173 := up_n eg272 hg1172 (ne_o (i := i) (c := 8) (d := 0) rfl)
  have hg1174 := up_n eg278 hg1173 (ne_o (i := i) (c := 8) (d := 23) rfl)
  have hg1175 := up_n eg284 hg1174 (ne_o (i := i) (c := 8) (d := 0) rfl)
  have hg1176 := up_n eg290 hg1175 (ne_o (i := i) (c := 8) (d := 24) rfl)
  have hg1177 := up_n eg296 hg1176 (ne_o (i := i) (c := 8) (d := 0) rfl)
  have hg1178 := up_n eg302 hg1177 (ne_o (i := i) (c := 8) (d := 25) rfl)
  have hg1179 := up_n eg308 hg1178 (ne_o (i := i) (c := 8) (d := 0) rfl)
  have hg1180 := up_n eg314 hg1179 (ne_o (i := i) (c := 8) (d := 26) rfl)
  have hg1181 := up_n eg320 hg1180 (ne_o (i := i) (c := 8) (d := 0) rfl)
  have hg1182 := up_n eg326 hg1181 (ne_o (i := i) (c := 8) (d := 27) rfl)
  have hg1183 := up_n eg332 hg1182 (ne_o (i := i) (c := 8) (d := 0) rfl)
  have hg1184 := up_n eg338 hg1183 (ne_o (i := i) (c := 8) (d := 28) rfl)
  have hg1185 := up_n eg344 hg1184 (ne_o (i := i) (c := 8) (d := 0) rfl)
  have hg1186 := up_n eg350 hg1185 (ne_o (i := i) (c := 8) (d := 29) rfl)
  have hg1187 := up_n eg356 hg1186 (ne_o (i := i) (c := 8) (d := 0) rfl)
  have hg1188 := up_n eg107 hg103 (ne_o (i := i) (c := 9) (d := 0) rfl)
  have hg1189 := up_n eg113 hg1188 (ne_o (i := i) (c := 9) (d := 10) rfl)
  have hg1190 := up_n eg119 hg1189 (ne_o (i := i) (c := 9) (d := 0) rfl)
  have hg1191 := up_n eg125 hg1190 (ne_o (i := i) (c := 9) (d := 11) rfl)
  have hg1192 := up_n eg131 hg1191 (ne_o (i := i) (c := 9) (d := 0) rfl)
  have hg1193 := up_n eg137 hg1192 (ne_o (i := i) (c := 9) (d := 12) rfl)
  have hg1194 := up_n eg143 hg1193 (ne_o (i := i) (c := 9) (d := 0) rfl)
  have hg1195 := up_n eg149 hg1194 (ne_o (i := i) (c := 9) (d := 13) rfl)
  have hg1196 := up_n eg155 hg1195 (ne_o (i := i) (c := 9) (d := 0) rfl)
  have hg1197 := up_n eg158 hg1196 (ne_o (i := i) (c := 9) (d := 0) rfl)
  have hg1198 := up_n eg161 hg1197 (ne_o (i := i) (c := 9) (d := 0) rfl)
  have hg1199 := up_n eg164 hg1198 (ne_o (i := i) (c := 9) (d := 0) rfl)
  have hg1200 := up_n eg170 hg1199 (ne_o (i := i) (c := 9) (d := 14) rfl)
  have hg1201 := up_n eg176 hg1200 (ne_o (i := i) (c := 9) (d := 0) rfl)
  have hg1202 := up_n eg182 hg1201 (ne_o (i := i) (c := 9) (d := 15) rfl)
  have hg1203 := up_n eg188 hg1202 (ne_o (i := i) (c := 9) (d := 0) rfl)
  have hg1204 := up_n eg194 hg1203 (ne_o (i := i) (c := 9) (d := 16) rfl)
  have hg1205 := up_n eg200 hg1204 (ne_o (i := i) (c := 9) (d := 0) rfl)
  have hg1206 := up_n eg206 hg1205 (ne_o (i := i) (c := 9) (d := 17) rfl)
  have hg1207 := up_n eg212 hg1206 (ne_o (i := i) (c := 9) (d := 0) rfl)
  have hg1208 := up_n eg218 hg1207 (ne_o (i := i) (c := 9) (d := 18) rfl)
  have hg1209 := up_n eg224 hg1208 (ne_o (i := i) (c := 9) (d := 0) rfl)
  have hg1210 := up_n eg230 hg1209 (ne_o (i := i) (c := 9) (d := 19) rfl)
  have hg1211 := up_n eg236 hg1210 (ne_o (i := i) (c := 9) (d := 0) rfl)
  have hg1212 := up_n eg242 hg1211 (ne_o (i := i) (c := 9) (d := 20) rfl)
  have hg1213 := up_n eg248 hg1212 (ne_o (i := i) (c := 9) (d := 0) rfl)
  have hg1214 := up_n eg254 hg1213 (ne_o (i := i) (c := 9) (d := 21) rfl)
  have hg1215 := up_n eg260 hg1214 (ne_o (i := i) (c := 9) (d := 0) rfl)
  have hg1216 := up_n eg266 hg1215 (ne_o (i := i) (c := 9) (d := 22) rfl)
  have hg1217 := up_n eg272 hg1216 (ne_o (i := i) (c := 9) (d := 0) rfl)
  have hg1218 := up_n eg278 hg1217 (ne_o (i := i) (c := 9) (d := 23) rfl)
  have hg1219 := up_n eg284 hg1218 (ne_o (i := i) (c := 9) (d := 0) rfl)
  have hg1220 := up_n eg290 hg1219 (ne_o (i := i) (c := 9) (d := 24) rfl)
  have hg1221 := up_n eg296 hg1220 (ne_o (i := i) (c := 9) (d := 0) rfl)
  have hg1222 := up_n eg302 hg1221 (ne_o (i := i) (c := 9) (d := 25) rfl)
  have hg1223 := up_n eg308 hg1222 (ne_o (i := i) (c := 9) (d := 0) rfl)
  have hg1224 := up_n eg314 hg1223 (ne_o (i := i) (c := 9) (d := 26) rfl)
  have hg1225 := up_n eg320 hg1224 (ne_o (i := i) (c := 9) (d := 0) rfl)
  have hg1226 := up_n eg326 hg1225 (ne_o (i := i) (c := 9) (d := 27) rfl)
  have hg1227 := up_n eg332 hg1226 (ne_o (i := i) (c := 9) (d := 0) rfl)
  have hg1228 := up_n eg338 hg1227 (ne_o (i := i) (c := 9) (d := 28) rfl)
  have hg1229 := up_n eg344 hg1228 (ne_o (i := i) (c := 9) (d := 0) rfl)
  have hg1230 := up_n eg350 hg1229 (ne_o (i := i) (c := 9) (d := 29) rfl)
  have hg1231 := up_n eg356 hg1230 (ne_o (i := i) (c := 9) (d := 0) rfl)
  have hg1232 := up_n eg119 hg115 (ne_o (i := i) (c := 10) (d := 0) rfl)
  have hg1233 := up_n eg125 hg1232 (ne_o (i := i) (c := 10) (d := 11) rfl)
  have hg1234 := up_n eg131 hg1233 (ne_o (i := i) (c := 10) (d := 0) rfl)
  have hg1235 := up_n eg137 hg1234 (ne_o (i := i) (c := 10) (d := 12) rfl)
  have hg1236 := up_n eg143 hg1235 (ne_o (i := i) (c := 10) (d := 0) rfl)
  have hg1237 := up_n eg149 hg1236 (ne_o (i := i) (c := 10) (d := 13) rfl)
  have hg1238 := up_n eg155 hg1237 (ne_o (i := i) (c := 10) (d := 0) rfl)
  have hg1239 := up_n eg158 hg1238 (ne_o (i := i) (c := 10) (d := 0) rfl)
  have hg1240 := up_n eg161 hg1239 (ne_o (i := i) (c := 10) (d := 0) rfl)
  have hg1241 := up_n eg164 hg1240 (ne_o (i := i) (c := 10) (d := 0) rfl)
  have hg1242 := up_n eg170 hg1241 (ne_o (i := i) (c := 10) (d := 14) rfl)
  have hg1243 := up_n eg176 hg1242 (ne_o (i := i) (c := 10) (d := 0) rfl)
  have hg1244 := up_n eg182 hg1243 (ne_o (i := i) (c := 10) (d := 15) rfl)
  have hg1245 := up_n eg188 hg1244 (ne_o (i := i) (c := 10) (d := 0) rfl)
  have hg1246 := up_n eg194 hg1245 (ne_o (i := i) (c := 10) (d := 16) rfl)
  have hg1247 := up_n eg200 hg1246 (ne_o (i := i) (c := 10) (d := 0) rfl)
  have hg1248 := up_n eg206 hg1247 (ne_o (i := i) (c := 10) (d := 17) rfl)
  have hg1249 := up_n eg212 hg1248 (ne_o (i := i) (c := 10) (d := 0) rfl)
  have hg1250 := up_n eg218 hg1249 (ne_o (i := i) (c := 10) (d := 18) rfl)
  have hg1251 := up_n eg224 hg1250 (ne_o (i := i) (c := 10) (d := 0) rfl)
  have hg1252 := up_n eg230 hg1251 (ne_o (i := i) (c := 10) (d := 19) rfl)
  have hg1253 := up_n eg236 hg1252 (ne_o (i := i) (c := 10) (d := 0) rfl)
  have hg1254 := up_n eg242 hg1253 (ne_o (i := i) (c := 10) (d := 20) rfl)
  have hg1255 := up_n eg248 hg1254 (ne_o (i := i) (c := 10) (d := 0) rfl)
  have hg1256 := up_n eg254 hg1255 (ne_o (i := i) (c := 10) (d := 21) rfl)
  have hg1257 := up_n eg260 hg1256 (ne_o (i := i) (c := 10) (d := 0) rfl)
  have hg1258 := up_n eg266 hg1257 (ne_o (i := i) (c := 10) (d := 22) rfl)
  have hg1259 := up_n eg272 hg1258 (ne_o (i := i) (c := 10) (d := 0) rfl)
  have hg1260 := up_n eg278 hg1259 (ne_o (i := i) (c := 10) (d := 23) rfl)
  have hg1261 := up_n eg284 hg1260 (ne_o (i := i) (c := 10) (d := 0) rfl)
  have hg1262 := up_n eg290 hg1261 (ne_o (i := i) (c := 10) (d := 24) rfl)
  have hg1263 := up_n eg296 hg1262 (ne_o (i := i) (c := 10) (d := 0) rfl)
  have hg1264 := up_n eg302 hg1263 (ne_o (i := i) (c := 10) (d := 25) rfl)
  have hg1265 := up_n eg308 hg1264 (ne_o (i := i) (c := 10) (d := 0) rfl)
  have hg1266 := up_n eg314 hg1265 (ne_o (i := i) (c := 10) (d := 26) rfl)
  have hg1267 := up_n eg320 hg1266 (ne_o (i := i) (c := 10) (d := 0) rfl)
  have hg1268 := up_n eg326 hg1267 (ne_o (i := i) (c := 10) (d := 27) rfl)
  have hg1269 := up_n eg332 hg1268 (ne_o (i := i) (c := 10) (d := 0) rfl)
  have hg1270 := up_n eg338 hg1269 (ne_o (i := i) (c := 10) (d := 28) rfl)
  have hg1271 := up_n eg344 hg1270 (ne_o (i := i) (c := 10) (d := 0) rfl)
  have hg1272 := up_n eg350 hg1271 (ne_o (i := i) (c := 10) (d := 29) rfl)
  have hg1273 := up_n eg356 hg1272 (ne_o (i := i) (c := 10) (d := 0) rfl)
  have hg1274 := up_n eg131 hg127 (ne_o (i := i) (c := 11) (d := 0) rfl)
  have hg1275 := up_n eg137 hg1274 (ne_o (i := i) (c := 11) (d := 12) rfl)
  have hg1276 := up_n eg143 hg1275 (ne_o (i := i) (c := 11) (d := 0) rfl)
  have hg1277 := up_n eg149 hg1276 (ne_o (i := i) (c := 11) (d := 13) rfl)
  have hg1278 := up_n eg155 hg1277 (ne_o (i := i) (c := 11) (d := 0) rfl)
  have hg1279 := up_n eg158 hg1278 (ne_o (i := i) (c := 11) (d := 0) rfl)
  have hg1280 := up_n eg161 hg1279 (ne_o (i := i) (c := 11) (d := 0) rfl)
  have hg1281 := up_n eg164 hg1280 (ne_o (i := i) (c := 11) (d := 0) rfl)
  have hg1282 := up_n eg170 hg1281 (ne_o (i := i) (c := 11) (d := 14) rfl)
  have hg1283 := up_n eg176 hg1282 (ne_o (i := i) (c := 11) (d := 0) rfl)
  have hg1284 := up_n eg182 hg1283 (ne_o (i := i) (c := 11) (d := 15) rfl)
  have hg1285 := up_n eg188 hg1284 (ne_o (i := i) (c := 11) (d := 0) rfl)
  have hg1286 := up_n eg194 hg1285 (ne_o (i := i) (c := 11) (d := 16) rfl)
  have hg1287 := up_n eg200 hg1286 (ne_o (i := i) (c := 11) (d := 0) rfl)
  have hg1288 := up_n eg206 hg1287 (ne_o (i := i) (c := 11) (d := 17) rfl)
  have hg1289 := up_n eg212 hg1288 (ne_o (i := i) (c := 11) (d := 0) rfl)
  have hg1290 := up_n eg218 hg1289 (ne_o (i := i) (c := 11) (d := 18) rfl)
  have hg1291 := up_n eg224 hg1290 (ne_o (i := i) (c := 11) (d := 0) rfl)
  have hg1292 := up_n eg230 hg1291 (ne_o (i := i) (c := 11) (d := 19) rfl)
  have hg1293 := up_n eg236 hg1292 (ne_o (i := i) (c := 11) (d := 0) rfl)
  have hg1294 := up_n eg242 hg1293 (ne_o (i := i) (c := 11) (d := 20) rfl)
  have hg1295 := up_n eg248 hg1294 (ne_o (i := i) (c := 11) (d := 0) rfl)
  have hg1296 := up_n eg254 hg1295 (ne_o (i := i) (c := 11) (d := 21) rfl)
  have hg1297 := up_n eg260 hg1296 (ne_o (i := i) (c := 11) (d := 0) rfl)
  have hg1298 := up_n eg266 hg1297 (ne_o (i := i) (c := 11) (d := 22) rfl)
  have hg1299 := up_n eg272 hg1298 (ne_o (i := i) (c := 11) (d := 0) rfl)
  have hg1300 := up_n eg278 hg1299 (ne_o (i := i) (c := 11) (d := 23) rfl)
  have hg1301 := up_n eg284 hg1300 (ne_o (i := i) (c := 11) (d := 0) rfl)
  have hg1302 := up_n eg290 hg1301 (ne_o (i := i) (c := 11) (d := 24) rfl)
  have hg1303 := up_n eg296 hg1302 (ne_o (i := i) (c := 11) (d := 0) rfl)
  have hg1304 := up_n eg302 hg1303 (ne_o (i := i) (c := 11) (d := 25) rfl)
  have hg1305 := up_n eg308 hg1304 (ne_o (i := i) (c := 11) (d := 0) rfl)
  have hg1306 := up_n eg314 hg1305 (ne_o (i := i) (c := 11) (d := 26) rfl)
  have hg1307 := up_n eg320 hg1306 (ne_o (i := i) (c := 11) (d := 0) rfl)
  have hg1308 := up_n eg326 hg1307 (ne_o (i := i) (c := 11) (d := 27) rfl)
  have hg1309 := up_n eg332 hg1308 (ne_o (i := i) (c := 11) (d := 0) rfl)
  have hg1310 := up_n eg338 hg1309 (ne_o (i := i) (c := 11) (d := 28) rfl)
  have hg1311 := up_n eg344 hg1310 (ne_o (i := i) (c := 11) (d := 0) rfl)
  have hg1312 := up_n eg350 hg1311 (ne_o (i := i) (c := 11) (d := 29) rfl)
  have hg1313 := up_n eg356 hg1312 (ne_o (i := i) (c := 11) (d := 0) rfl)
  have hg1314 := up_n eg143 hg139 (ne_o (i := i) (c := 12) (d := 0) rfl)
  have hg1315 := up_n eg149 hg1314 (ne_o (i := i) (c := 12) (d := 13) rfl)
  have hg1316 := up_n eg155 hg1315 (ne_o (i := i) (c := 12) (d := 0) rfl)
  have hg1317 := up_n eg158 hg1316 (ne_o (i := i) (c := 12) (d := 0) rfl)
  have hg1318 := up_n eg161 hg1317 (ne_o (i := i) (c := 12) (d := 0) rfl)
  have hg1319 := up_n eg164 hg1318 (ne_o (i := i) (c := 12) (d := 0) rfl)
  have hg1320 := up_n eg170 hg1319 (ne_o (i := i) (c := 12) (d := 14) rfl)
  have hg1321 := up_n eg176 hg1320 (ne_o (i := i) (c := 12) (d := 0) rfl)
  have hg1322 := up_n eg182 hg1321 (ne_o (i := i) (c := 12) (d := 15) rfl)
  have hg1323 := up_n eg188 hg1322 (ne_o (i := i) (c := 12) (d := 0) rfl)
  have hg1324 := up_n eg194 hg1323 (ne_o (i := i) (c := 12) (d := 16) rfl)
  have hg1325 := up_n eg200 hg1324 (ne_o (i := i) (c := 12) (d := 0) rfl)
  have hg1326 := up_n eg206 hg1325 (ne_o (i := i) (c := 12) (d := 17) rfl)
  have hg1327 := up_n eg212 hg1326 (ne_o (i := i) (c := 12) (d := 0) rfl)
  have hg1328 := up_n eg218 hg1327 (ne_o (i := i) (c := 12) (d := 18) rfl)
  have hg1329 := up_n eg224 hg1328 (ne_o (i := i) (c := 12) (d := 0) rfl)
  have hg1330 := up_n eg230 hg1329 (ne_o (i := i) (c := 12) (d := 19) rfl)
  have hg1331 := up_n eg236 hg1330 (ne_o (i := i) (c := 12) (d := 0) rfl)
  have hg1332 := up_n eg242 hg1331 (ne_o (i := i) (c := 12) (d := 20) rfl)
  have hg1333 := up_n eg248 hg1332 (ne_o (i := i) (c := 12) (d := 0) rfl)
  have hg1334 := up_n eg254 hg1333 (ne_o (i := i) (c := 12) (d := 21) rfl)
  have hg1335 := up_n eg260 hg1334 (ne_o (i := i) (c := 12) (d := 0) rfl)
  have hg1336 := up_n eg266 hg1335 (ne_o (i := i) (c := 12) (d := 22) rfl)
  have hg1337 := up_n eg272 hg1336 (ne_o (i := i) (c := 12) (d := 0) rfl)
  have hg1338 := up_n eg278 hg1337 (ne_o (i := i) (c := 12) (d := 23) rfl)
  have hg1339 := up_n eg284 hg1338 (ne_o (i := i) (c := 12) (d := 0) rfl)
  have hg1340 := up_n eg290 hg1339 (ne_o (i := i) (c := 12) (d := 24) rfl)
  have hg1341 := up_n eg296 hg1340 (ne_o (i := i) (c := 12) (d := 0) rfl)
  have hg1342 := up_n eg302 hg1341 (ne_o (i := i) (c := 12) (d := 25) rfl)
  have hg1343 := up_n eg308 hg1342 (ne_o (i := i) (c := 12) (d := 0) rfl)
  have hg1344 := up_n eg314 hg1343 (ne_o (i := i) (c := 12) (d := 26) rfl)
  have hg1345 := up_n eg320 hg1344 (ne_o (i := i) (c := 12) (d := 0) rfl)
  have hg1346 := up_n eg326 hg1345 (ne_o (i := i) (c := 12) (d := 27) rfl)
  have hg1347 := up_n eg332 hg1346 (ne_o (i := i) (c := 12) (d := 0) rfl)
  have hg1348 := up_n eg338 hg1347 (ne_o (i := i) (c := 12) (d := 28) rfl)
  have hg1349 := up_n eg344 hg1348 (ne_o (i := i) (c := 12) (d := 0) rfl)
  have hg1350 := up_n eg350 hg1349 (ne_o (i := i) (c := 12) (d := 29) rfl)
  have hg1351 := up_n eg356 hg1350 (ne_o (i := i) (c := 12) (d := 0) rfl)
  have hg1352 := up_n eg155 hg151 (ne_o (i := i) (c := 13) (d := 0) rfl)
  have hg1353 := up_n eg158 hg1352 (ne_o (i := i) (c := 13) (d := 0) rfl)
  have hg1354 := up_n eg161 hg1353 (ne_o (i := i) (c := 13) (d := 0) rfl)
  have hg1355 := up_n eg164 hg1354 (ne_o (i := i) (c := 13) (d := 0) rfl)
  have hg1356 := up_n eg170 hg1355 (ne_o (i := i) (c := 13) (d := 14) rfl)
  have hg1357 := up_n eg176 hg1356 (ne_o (i := i) (c := 13) (d := 0) rfl)
  have hg1358 := up_n eg182 hg1357 (ne_o (i := i) (c := 13) (d := 15) rfl)
  have hg1359 := up_n eg188 hg1358 (ne_o (i := i) (c := 13) (d := 0) rfl)
  have hg1360 := up_n eg194 hg1359 (ne_o (i := i) (c := 13) (d := 16) rfl)
  have hg1361 := up_n eg200 hg1360 (ne_o (i := i) (c := 13) (d := 0) rfl)
  have hg1362 := up_n eg206 hg1361 (ne_o (i := i) (c := 13) (d := 17) rfl)
  have hg1363 := up_n eg212 hg1362 (ne_o (i := i) (c := 13) (d := 0) rfl)
  have hg1364 := up_n eg218 hg1363 (ne_o (i := i) (c := 13) (d := 18) rfl)
  have hg1365 := up_n eg224 hg1364 (ne_o (i := i) (c := 13) (d := 0) rfl)
  have hg1366 := up_n eg230 hg1365 (ne_o (i := i) (c := 13) (d := 19) rfl)
  have hg1367 := up_n eg236 hg1366 (ne_o (i := i) (c := 13) (d := 0) rfl)
  have hg1368 := up_n eg242 hg1367 (ne_o (i := i) (c := 13) (d := 20) rfl)
  have hg1369 := up_n eg248 hg1368 (ne_o (i := i) (c := 13) (d := 0) rfl)
  have hg1370 := up_n eg254 hg1369 (ne_o (i := i) (c := 13) (d := 21) rfl)
  have hg1371 := up_n eg260 hg1370 (ne_o (i := i) (c := 13) (d := 0) rfl)
  have hg1372 := up_n eg266 hg1371 (ne_o (i := i) (c := 13) (d := 22) rfl)
  have hg1373 := up_n eg272 hg1372 (ne_o (i := i) (c := 13) (d := 0) rfl)
  have hg1374 := up_n eg278 hg1373 (ne_o (i := i) (c := 13) (d := 23) rfl)
  have hg1375 := up_n eg284 hg1374 (ne_o (i := i) (c := 13) (d := 0) rfl)
  have hg1376 := up_n eg290 hg1375 (ne_o (i := i) (c := 13) (d := 24) rfl)
  have hg1377 := up_n eg296 hg1376 (ne_o (i := i) (c := 13) (d := 0) rfl)
  have hg1378 := up_n eg302 hg1377 (ne_o (i := i) (c := 13) (d := 25) rfl)
  have hg1379 := up_n eg308 hg1378 (ne_o (i := i) (c := 13) (d := 0) rfl)
  have hg1380 := up_n eg314 hg1379 (ne_o (i := i) (c := 13) (d := 26) rfl)
  have hg1381 := up_n eg320 hg1380 (ne_o (i := i) (c := 13) (d := 0) rfl)
  have hg1382 := up_n eg326 hg1381 (ne_o (i := i) (c := 13) (d := 27) rfl)
  have hg1383 := up_n eg332 hg1382 (ne_o (i := i) (c := 13) (d := 0) rfl)
  have hg1384 := up_n eg338 hg1383 (ne_o (i := i) (c := 13) (d := 28) rfl)
  have hg1385 := up_n eg344 hg1384 (ne_o (i := i) (c := 13) (d := 0) rfl)
  have hg1386 := up_n eg350 hg1385 (ne_o (i := i) (c := 13) (d := 29) rfl)
  have hg1387 := up_n eg356 hg1386 (ne_o (i := i) (c := 13) (d := 0) rfl)
  have hg1388 := up_n eg176 hg172 (ne_o (i := i) (c := 14) (d := 0) rfl)
  have hg1389 := up_n eg182 hg1388 (ne_o (i := i) (c := 14) (d := 15) rfl)
  have hg1390 := up_n eg188 hg1389 (ne_o (i := i) (c := 14) (d := 0) rfl)
  have hg1391 := up_n eg194 hg1390 (ne_o (i := i) (c := 14) (d := 16) rfl)
  have hg1392 := up_n eg200 hg1391 (ne_o (i := i) (c := 14) (d := 0) rfl)
  have hg1393 := up_n eg206 hg1392 (ne_o (i := i) (c := 14) (d := 17) rfl)
  have hg1394 := up_n eg212 hg1393 (ne_o (i := i) (c := 14) (d := 0) rfl)
  have hg1395 := up_n eg218 hg1394 (ne_o (i := i) (c := 14) (d := 18) rfl)
  have hg1396 := up_n eg224 hg1395 (ne_o (i := i) (c := 14) (d := 0) rfl)
  have hg1397 := up_n eg230 hg1396 (ne_o (i := i) (c := 14) (d := 19) rfl)
  have hg1398 := up_n eg236 hg1397 (ne_o (i := i) (c := 14) (d := 0) rfl)
  have hg1399 := up_n eg242 hg1398 (ne_o (i := i) (c := 14) (d := 20) rfl)
  have hg1400 := up_n eg248 hg1399 (ne_o (i := i) (c := 14) (d := 0) rfl)
  have hg1401 := up_n eg254 hg1400 (ne_o (i := i) (c := 14) (d := 21) rfl)
  have hg1402 := up_n eg260 hg1401 (ne_o (i := i) (c := 14) (d := 0) rfl)
  have hg1403 := up_n eg266 hg1402 (ne_o (i := i) (c := 14) (d := 22) rfl)
  have hg1404 := up_n eg272 hg1403 (ne_o (i := i) (c := 14) (d := 0) rfl)
  have hg1405 := up_n eg278 hg1404 (ne_o (i := i) (c := 14) (d := 23) rfl)
  have hg1406 := up_n eg284 hg1405 (ne_o (i := i) (c := 14) (d := 0) rfl)
  have hg1407 := up_n eg290 hg1406 (ne_o (i := i) (c := 14) (d := 24) rfl)
  have hg1408 := up_n eg296 hg1407 (ne_o (i := i) (c := 14) (d := 0) rfl)
  have hg1409 := up_n eg302 hg1408 (ne_o (i := i) (c := 14) (d := 25) rfl)
  have hg1410 := up_n eg308 hg1409 (ne_o (i := i) (c := 14) (d := 0) rfl)
  have hg1411 := up_n eg314 hg1410 (ne_o (i := i) (c := 14) (d := 26) rfl)
  have hg1412 := up_n eg320 hg1411 (ne_o (i := i) (c := 14) (d := 0) rfl)
  have hg1413 := up_n eg326 hg1412 (ne_o (i := i) (c := 14) (d := 27) rfl)
  have hg1414 := up_n eg332 hg1413 (ne_o (i := i) (c := 14) (d := 0) rfl)
  have hg1415 := up_n eg338 hg1414 (ne_o (i := i) (c := 14) (d := 28) rfl)
  have hg1416 := up_n eg344 hg1415 (ne_o (i := i) (c := 14) (d := 0) rfl)
  have hg1417 := up_n eg350 hg1416 (ne_o (i := i) (c := 14) (d := 29) rfl)
  have hg1418 := up_n eg356 hg1417 (ne_o (i := i) (c := 14) (d := 0) rfl)
  have hg1419 := up_n eg188 hg184 (ne_o (i := i) (c := 15) (d := 0) rfl)
  have hg1420 := up_n eg194 hg1419 (ne_o (i := i) (c := 15) (d := 16) rfl)
  have hg1421 := up_n eg200 hg1420 (ne_o (i := i) (c := 15) (d := 0) rfl)
  have hg1422 := up_n eg206 hg1421 (ne_o (i := i) (c := 15) (d := 17) rfl)
  have hg1423 := up_n eg212 hg1422 (ne_o (i := i) (c := 15) (d := 0) rfl)
  have hg1424 := up_n eg218 hg1423 (ne_o (i := i) (c := 15) (d := 18) rfl)
  have hg1425 := up_n eg224 hg1424 (ne_o (i := i) (c := 15) (d := 0) rfl)
  have hg1426 := up_n eg230 hg1425 (ne_o (i := i) (c := 15) (d := 19) rfl)
  have hg1427 := up_n eg236 hg1426 (ne_o (i := i) (c := 15) (d := 0) rfl)
  have hg1428 := up_n eg242 hg1427 (ne_o (i := i) (c := 15) (d := 20) rfl)
  have hg1429 := up_n eg248 hg1428 (ne_o (i := i) (c := 15) (d := 0) rfl)
  have hg1430 := up_n eg254 hg1429 (ne_o (i := i) (c := 15) (d := 21) rfl)
  have hg1431 := up_n eg260 hg1430 (ne_o (i := i) (c := 15) (d := 0) rfl)
  have hg1432 := up_n eg266 hg1431 (ne_o (i := i) (c := 15) (d := 22) rfl)
  have hg1433 := up_n eg272 hg1432 (ne_o (i := i) (c := 15) (d := 0) rfl)
  have hg1434 := up_n eg278 hg1433 (ne_o (i := i) (c := 15) (d := 23) rfl)
  have hg1435 := up_n eg284 hg1434 (ne_o (i := i) (c := 15) (d := 0) rfl)
  have hg1436 := up_n eg290 hg1435 (ne_o (i := i) (c := 15) (d := 24) rfl)
  have hg1437 := up_n eg296 hg1436 (ne_o (i := i) (c := 15) (d := 0) rfl)
  have hg1438 := up_n eg302 hg1437 (ne_o (i := i) (c := 15) (d := 25) rfl)
  have hg1439 := up_n eg308 hg1438 (ne_o (i := i) (c := 15) (d := 0) rfl)
  have hg1440 := up_n eg314 hg1439 (ne_o (i := i) (c := 15) (d := 26) rfl)
  have hg1441 := up_n eg320 hg1440 (ne_o (i := i) (c := 15) (d := 0) rfl)
  have hg1442 := up_n eg326 hg1441 (ne_o (i := i) (c := 15) (d := 27) rfl)
  have hg1443 := up_n eg332 hg1442 (ne_o (i := i) (c := 15) (d := 0) rfl)
  have hg1444 := up_n eg338 hg1443 (ne_o (i := i) (c := 15) (d := 28) rfl)
  have hg1445 := up_n eg344 hg1444 (ne_o (i := i) (c := 15) (d := 0) rfl)
  have hg1446 := up_n eg350 hg1445 (ne_o (i := i) (c := 15) (d := 29) rfl)
  have hg1447 := up_n eg356 hg1446 (ne_o (i := i) (c := 15) (d := 0) rfl)
  have hg1448 := up_n eg200 hg196 (ne_o (i := i) (c := 16) (d := 0) rfl)
  have hg1449 := up_n eg206 hg1448 (ne_o (i := i) (c := 16) (d := 17) rfl)
  have hg1450 := up_n eg212 hg1449 (ne_o (i := i) (c := 16) (d := 0) rfl)
  have hg1451 := up_n eg218 hg1450 (ne_o (i := i) (c := 16) (d := 18) rfl)
  have hg1452 := up_n eg224 hg1451 (ne_o (i := i) (c := 16) (d := 0) rfl)
  have hg1453 := up_n eg230 hg1452 (ne_o (i := i) (c := 16) (d := 19) rfl)
  have hg1454 := up_n eg236 hg1453 (ne_o (i := i) (c := 16) (d := 0) rfl)
  have hg1455 := up_n eg242 hg1454 (ne_o (i := i) (c := 16) (d := 20) rfl)
  have hg1456 := up_n eg248 hg1455 (ne_o (i := i) (c := 16) (d := 0) rfl)
  have hg1457 := up_n eg254 hg1456 (ne_o (i := i) (c := 16) (d := 21) rfl)
  have hg1458 := up_n eg260 hg1457 (ne_o (i := i) (c := 16) (d := 0) rfl)
  have hg1459 := up_n eg266 hg1458 (ne_o (i := i) (c := 16) (d := 22) rfl)
  have hg1460 := up_n eg272 hg1459 (ne_o (i := i) (c := 16) (d := 0) rfl)
  have hg1461 := up_n eg278 hg1460 (ne_o (i := i) (c := 16) (d := 23) rfl)
  have hg1462 := up_n eg284 hg1461 (ne_o (i := i) (c := 16) (d := 0) rfl)
  have hg1463 := up_n eg290 hg1462 (ne_o (i := i) (c := 16) (d := 24) rfl)
  have hg1464 := up_n eg296 hg1463 (ne_o (i := i) (c := 16) (d := 0) rfl)
  have hg1465 := up_n eg302 hg1464 (ne_o (i := i) (c := 16) (d := 25) rfl)
  have hg1466 := up_n eg308 hg1465 (ne_o (i := i) (c := 16) (d := 0) rfl)
  have hg1467 := up_n eg314 hg1466 (ne_o (i := i) (c := 16) (d := 26) rfl)
  have hg1468 := up_n eg320 hg1467 (ne_o (i := i) (c := 16) (d := 0) rfl)
  have hg1469 := up_n eg326 hg1468 (ne_o (i := i) (c := 16) (d := 27) rfl)
  have hg1470 := up_n eg332 hg1469 (ne_o (i := i) (c := 16) (d := 0) rfl)
  have hg1471 := up_n eg338 hg1470 (ne_o (i := i) (c := 16) (d := 28) rfl)
  have hg1472 := up_n eg344 hg1471 (ne_o (i := i) (c := 16) (d := 0) rfl)
  have hg1473 := up_n eg350 hg1472 (ne_o (i := i) (c := 16) (d := 29) rfl)
  have hg1474 := up_n eg356 hg1473 (ne_o (i := i) (c := 16) (d := 0) rfl)
  have hg1475 := up_n eg212 hg208 (ne_o (i := i) (c := 17) (d := 0) rfl)
  have hg1476 := up_n eg218 hg1475 (ne_o (i := i) (c := 17) (d := 18) rfl)
  have hg1477 := up_n eg224 hg1476 (ne_o (i := i) (c := 17) (d := 0) rfl)
  have hg1478 := up_n eg230 hg1477 (ne_o (i := i) (c := 17) (d := 19) rfl)
  have hg1479 := up_n eg236 hg1478 (ne_o (i := i) (c := 17) (d := 0) rfl)
  have hg1480 := up_n eg242 hg1479 (ne_o (i := i) (c := 17) (d := 20) rfl)
  have hg1481 := up_n eg248 hg1480 (ne_o (i := i) (c := 17) (d := 0) rfl)
  have hg1482 := up_n eg254 hg1481 (ne_o (i := i) (c := 17) (d := 21) rfl)
  have hg1483 := up_n eg260 hg1482 (ne_o (i := i) (c := 17) (d := 0) rfl)
  have hg1484 := up_n eg266 hg1483 (ne_o (i := i) (c := 17) (d := 22) rfl)
  have hg1485 := up_n eg272 hg1484 (ne_o (i := i) (c := 17) (d := 0) rfl)
  have hg1486 := up_n eg278 hg1485 (ne_o (i := i) (c := 17) (d := 23) rfl)
  have hg1487 := up_n eg284 hg1486 (ne_o (i := i) (c := 17) (d := 0) rfl)
  have hg1488 := up_n eg290 hg1487 (ne_o (i := i) (c := 17) (d := 24) rfl)
  have hg1489 := up_n eg296 hg1488 (ne_o (i := i) (c := 17) (d := 0) rfl)
  have hg1490 := up_n eg302 hg1489 (ne_o (i := i) (c := 17) (d := 25) rfl)
  have hg1491 := up_n eg308 hg1490 (ne_o (i := i) (c := 17) (d := 0) rfl)
  have hg1492 := up_n eg314 hg1491 (ne_o (i := i) (c := 17) (d := 26) rfl)
  have hg1493 := up_n eg320 hg1492 (ne_o (i := i) (c := 17) (d := 0) rfl)
  have hg1494 := up_n eg326 hg1493 (ne_o (i := i) (c := 17) (d := 27) rfl)
  have hg1495 := up_n eg332 hg1494 (ne_o (i := i) (c := 17) (d := 0) rfl)
  have hg1496 := up_n eg338 hg1495 (ne_o (i := i) (c := 17) (d := 28) rfl)
  have hg1497 := up_n eg344 hg1496 (ne_o (i := i) (c := 17) (d := 0) rfl)
  have hg1498 := up_n eg350 hg1497 (ne_o (i := i) (c := 17) (d := 29) rfl)
  have hg1499 := up_n eg356 hg1498 (ne_o (i := i) (c := 17) (d := 0) rfl)
  have hg1500 := up_n eg224 hg220 (ne_o (i := i) (c := 18) (d := 0) rfl)
  have hg1501 := up_n eg230 hg1500 (ne_o (i := i) (c := 18) (d := 19) rfl)
  have hg1502 := up_n eg236 hg1501 (ne_o (i := i) (c := 18) (d := 0) rfl)
  have hg1503 := up_n eg242 hg1502 (ne_o (i := i) (c := 18) (d := 20) rfl)
  have hg1504 := up_n eg248 hg1503 (ne_o (i := i) (c := 18) (d := 0) rfl)
  have hg1505 := up_n eg254 hg1504 (ne_o (i := i) (c := 18) (d := 21) rfl)
  have hg1506 := up_n eg260 hg1505 (ne_o (i := i) (c := 18) (d := 0) rfl)
  have hg1507 := up_n eg266 hg1506 (ne_o (i := i) (c := 18) (d := 22) rfl)
  have hg1508 := up_n eg272 hg1507 (ne_o (i := i) (c := 18) (d := 0) rfl)
  have hg1509 := up_n eg278 hg1508 (ne_o (i := i) (c := 18) (d := 23) rfl)
  have hg1510 := up_n eg284 hg1509 (ne_o (i := i) (c := 18) (d := 0) rfl)
  have hg1511 := up_n eg290 hg1510 (ne_o (i := i) (c := 18) (d := 24) rfl)
  have hg1512 := up_n eg296 hg1511 (ne_o (i := i) (c := 18) (d := 0) rfl)
  have hg1513 := up_n eg302 hg1512 (ne_o (i := i) (c := 18) (d := 25) rfl)
  have hg1514 := up_n eg308 hg1513 (ne_o (i := i) (c := 18) (d := 0) rfl)
  have hg1515 := up_n eg314 hg1514 (ne_o (i := i) (c := 18) (d := 26) rfl)
  have hg1516 := up_n eg320 hg1515 (ne_o (i := i) (c := 18) (d := 0) rfl)
  have hg1517 := up_n eg326 hg1516 (ne_o (i := i) (c := 18) (d := 27) rfl)
  have hg1518 := up_n eg332 hg1517 (ne_o (i := i) (c := 18) (d := 0) rfl)
  have hg1519 := up_n eg338 hg1518 (ne_o (i := i) (c := 18) (d := 28) rfl)
  have hg1520 := up_n eg344 hg1519 (ne_o (i := i) (c := 18) (d := 0) rfl)
  have hg1521 := up_n eg350 hg1520 (ne_o (i := i) (c := 18) (d := 29) rfl)
  have hg1522 := up_n eg356 hg1521 (ne_o (i := i) (c := 18) (d := 0) rfl)
  have hg1523 := up_n eg236 hg232 (ne_o (i := i) (c := 19) (d := 0) rfl)
  have hg1524 := up_n eg242 hg1523 (ne_o (i := i) (c := 19) (d := 20) rfl)
  have hg1525 := up_n eg248 hg1524 (ne_o (i := i) (c := 19) (d := 0) rfl)
  have hg1526 := up_n eg254 hg1525 (ne_o (i := i) (c := 19) (d := 21) rfl)
  have hg1527 := up_n eg260 hg1526 (ne_o (i := i) (c := 19) (d := 0) rfl)
  have hg1528 := up_n eg266 hg1527 (ne_o (i := i) (c := 19) (d := 22) rfl)
  have hg1529 := up_n eg272 hg1528 (ne_o (i := i) (c := 19) (d := 0) rfl)
  have hg1530 := up_n eg278 hg1529 (ne_o (i := i) (c := 19) (d := 23) rfl)
  have hg1531 := up_n eg284 hg1530 (ne_o (i := i) (c := 19) (d := 0) rfl)
  have hg1532 := up_n eg290 hg1531 (ne_o (i := i) (c := 19) (d := 24) rfl)
  have hg1533 := up_n eg296 hg1532 (ne_o (i := i) (c := 19) (d := 0) rfl)
  have hg1534 := up_n eg302 hg1533 (ne_o (i := i) (c := 19) (d := 25) rfl)
  have hg1535 := up_n eg308 hg1534 (ne_o (i := i) (c := 19) (d := 0) rfl)
  have hg1536 := up_n eg314 hg1535 (ne_o (i := i) (c := 19) (d := 26) rfl)
  have hg1537 := up_n eg320 hg1536 (ne_o (i := i) (c := 19) (d := 0) rfl)
  have hg1538 := up_n eg326 hg1537 (ne_o (i := i) (c := 19) (d := 27) rfl)
  have hg1539 := up_n eg332 hg1538 (ne_o (i := i) (c := 19) (d := 0) rfl)
  have hg1540 := up_n eg338 hg1539 (ne_o (i := i) (c := 19) (d := 28) rfl)
  have hg1541 := up_n eg344 hg1540 (ne_o (i := i) (c := 19) (d := 0) rfl)
  have hg1542 := up_n eg350 hg1541 (ne_o (i := i) (c := 19) (d := 29) rfl)
  have hg1543 := up_n eg356 hg1542 (ne_o (i := i) (c := 19) (d := 0) rfl)
  have hg1544 := up_n eg248 hg244 (ne_o (i := i) (c := 20) (d := 0) rfl)
  have hg1545 := up_n eg254 hg1544 (ne_o (i := i) (c := 20) (d := 21) rfl)
  have hg1546 := up_n eg260 hg1545 (ne_o (i := i) (c := 20) (d := 0) rfl)
  have hg1547 := up_n eg266 hg1546 (ne_o (i := i) (c := 20) (d := 22) rfl)
  have hg1548 := up_n eg272 hg1547 (ne_o (i := i) (c := 20) (d := 0) rfl)
  have hg1549 := up_n eg278 hg1548 (ne_o (i := i) (c := 20) (d := 23) rfl)
  have hg1550 := up_n eg284 hg1549 (ne_o (i := i) (c := 20) (d := 0) rfl)
  have hg1551 := up_n eg290 hg1550 (ne_o (i := i) (c := 20) (d := 24) rfl)
  have hg1552 := up_n eg296 hg1551 (ne_o (i := i) (c := 20) (d := 0) rfl)
  have hg1553 := up_n eg302 hg1552 (ne_o (i := i) (c := 20) (d := 25) rfl)
  have hg1554 := up_n eg308 hg1553 (ne_o (i := i) (c := 20) (d := 0) rfl)
  have hg1555 := up_n eg314 hg1554 (ne_o (i := i) (c := 20) (d := 26) rfl)
  have hg1556 := up_n eg320 hg1555 (ne_o (i := i) (c := 20) (d := 0) rfl)
  have hg1557 := up_n eg326 hg1556 (ne_o (i := i) (c := 20) (d := 27) rfl)
  have hg1558 := up_n eg332 hg1557 (ne_o (i := i) (c := 20) (d := 0) rfl)
  have hg1559 := up_n eg338 hg1558 (ne_o (i := i) (c := 20) (d := 28) rfl)
  have hg1560 := up_n eg344 hg1559 (ne_o (i := i) (c := 20) (d := 0) rfl)
  have hg1561 := up_n eg350 hg1560 (ne_o (i := i) (c := 20) (d := 29) rfl)
  have hg1562 := up_n eg356 hg1561 (ne_o (i := i) (c := 20) (d := 0) rfl)
  have hg1563 := up_n eg260 hg256 (ne_o (i := i) (c := 21) (d := 0) rfl)
  have hg1564 := up_n eg266 hg1563 (ne_o (i := i) (c := 21) (d := 22) rfl)
  have hg1565 := up_n eg272 hg1564 (ne_o (i := i) (c := 21) (d := 0) rfl)
  have hg1566 := up_n eg278 hg1565 (ne_o (i := i) (c := 21) (d := 23) rfl)
  have hg1567 := up_n eg284 hg1566 (ne_o (i := i) (c := 21) (d := 0) rfl)
  have hg1568 := up_n eg290 hg1567 (ne_o (i := i) (c := 21) (d := 24) rfl)
  have hg1569 := up_n eg296 hg1568 (ne_o (i := i) (c := 21) (d := 0) rfl)
  have hg1570 := up_n eg302 hg1569 (ne_o (i := i) (c := 21) (d := 25) rfl)
  have hg1571 := up_n eg308 hg1570 (ne_o (i := i) (c := 21) (d := 0) rfl)
  have hg1572 := up_n eg314 hg1571 (ne_o (i := i) (c := 21) (d := 26) rfl)
  have hg1573 := up_n eg320 hg1572 (ne_o (i := i) (c := 21) (d := 0) rfl)
  have hg1574 := up_n eg326 hg1573 (ne_o (i := i) (c := 21) (d := 27) rfl)
  have hg1575 := up_n eg332 hg1574 (ne_o (i := i) (c := 21) (d := 0) rfl)
  have hg1576 := up_n eg338 hg1575 (ne_o (i := i) (c := 21) (d := 28) rfl)
  have hg1577 := up_n eg344 hg1576 (ne_o (i := i) (c := 21) (d := 0) rfl)
  have hg1578 := up_n eg350 hg1577 (ne_o (i := i) (c := 21) (d := 29) rfl)
  have hg1579 := up_n eg356 hg1578 (ne_o (i := i) (c := 21) (d := 0) rfl)
  have hg1580 := up_n eg272 hg268 (ne_o (i := i) (c := 22) (d := 0) rfl)
  have hg1581 := up_n eg278 hg1580 (ne_o (i := i) (c := 22) (d := 23) rfl)
  have hg1582 := up_n eg284 hg1581 (ne_o (i := i) (c := 22) (d := 0) rfl)
  have hg1583 := up_n eg290 hg1582 (ne_o (i := i) (c := 22) (d := 24) rfl)
  have hg1584 := up_n eg296 hg1583 (ne_o (i := i) (c := 22) (d := 0) rfl)
  have hg1585 := up_n eg302 hg1584 (ne_o (i := i) (c := 22) (d := 25) rfl)
  have hg1586 := up_n eg308 hg1585 (ne_o (i := i) (c := 22) (d := 0) rfl)
  have hg1587 := up_n eg314 hg1586 (ne_o (i := i) (c := 22) (d := 26) rfl)
  have hg1588 := up_n eg320 hg1587 (ne_o (i := i) (c := 22) (d := 0) rfl)
  have hg1589 := up_n eg326 hg1588 (ne_o (i := i) (c := 22) (d := 27) rfl)
  have hg1590 := up_n eg332 hg1589 (ne_o (i := i) (c := 22) (d := 0) rfl)
  have hg1591 := up_n eg338 hg1590 (ne_o (i := i) (c := 22) (d := 28) rfl)
  have hg1592 := up_n eg344 hg1591 (ne_o (i := i) (c := 22) (d := 0) rfl)
  have hg1593 := up_n eg350 hg1592 (ne_o (i := i) (c := 22) (d := 29) rfl)
  have hg1594 := up_n eg356 hg1593 (ne_o (i := i) (c := 22) (d := 0) rfl)
  have hg1595 := up_n eg284 hg280 (ne_o (i := i) (c := 23) (d := 0) rfl)
  have hg1596 := up_n eg290 hg1595 (ne_o (i := i) (c := 23) (d := 24) rfl)
  have hg1597 := up_n eg296 hg1596 (ne_o (i := i) (c := 23) (d := 0) rfl)
  have hg1598 := up_n eg302 hg1597 (ne_o (i := i) (c := 23) (d := 25) rfl)
  have hg1599 := up_n eg308 hg1598 (ne_o (i := i) (c := 23) (d := 0) rfl)
  have hg1600 := up_n eg314 hg1599 (ne_o (i := i) (c := 23) (d := 26) rfl)
  have hg1601 := up_n eg320 hg1600 (ne_o (i := i) (c := 23) (d := 0) rfl)
  have hg1602 := up_n eg326 hg1601 (ne_o (i := i) (c := 23) (d := 27) rfl)
  have hg1603 := up_n eg332 hg1602 (ne_o (i := i) (c := 23) (d := 0) rfl)
  have hg1604 := up_n eg338 hg1603 (ne_o (i := i) (c := 23) (d := 28) rfl)
  have hg1605 := up_n eg344 hg1604 (ne_o (i := i) (c := 23) (d := 0) rfl)
  have hg1606 := up_n eg350 hg1605 (ne_o (i := i) (c := 23) (d := 29) rfl)
  have hg1607 := up_n eg356 hg1606 (ne_o (i := i) (c := 23) (d := 0) rfl)
  have hg1608 := up_n eg296 hg292 (ne_o (i := i) (c := 24) (d := 0) rfl)
  have hg1609 := up_n eg302 hg1608 (ne_o (i := i) (c := 24) (d := 25) rfl)
  have hg1610 := up_n eg308 hg1609 (ne_o (i := i) (c := 24) (d := 0) rfl)
  have hg1611 := up_n eg314 hg1610 (ne_o (i := i) (c := 24) (d := 26) rfl)
  have hg1612 := up_n eg320 hg1611 (ne_o (i := i) (c := 24) (d := 0) rfl)
  have hg1613 := up_n eg326 hg1612 (ne_o (i := i) (c := 24) (d := 27) rfl)
  have hg1614 := up_n eg332 hg1613 (ne_o (i := i) (c := 24) (d := 0) rfl)
  have hg1615 := up_n eg338 hg1614 (ne_o (i := i) (c := 24) (d := 28) rfl)
  have hg1616 := up_n eg344 hg1615 (ne_o (i := i) (c := 24) (d := 0) rfl)
  have hg1617 := up_n eg350 hg1616 (ne_o (i := i) (c := 24) (d := 29) rfl)
  have hg1618 := up_n eg356 hg1617 (ne_o (i := i) (c := 24) (d := 0) rfl)
  have hg1619 := up_n eg308 hg304 (ne_o (i := i) (c := 25) (d := 0) rfl)
  have hg1620 := up_n eg314 hg1619 (ne_o (i := i) (c := 25) (d := 26) rfl)
  have hg1621 := up_n eg320 hg1620 (ne_o (i := i) (c := 25) (d := 0) rfl)
  have hg1622 := up_n eg326 hg1621 (ne_o (i := i) (c := 25) (d := 27) rfl)
  have hg1623 := up_n eg332 hg1622 (ne_o (i := i) (c := 25) (d := 0) rfl)
  have hg1624 := up_n eg338 hg1623 (ne_o (i := i) (c := 25) (d := 28) rfl)
  have hg1625 := up_n eg344 hg1624 (ne_o (i := i) (c := 25) (d := 0) rfl)
  have hg1626 := up_n eg350 hg1625 (ne_o (i := i) (c := 25) (d := 29) rfl)
  have hg1627 := up_n eg356 hg1626 (ne_o (i := i) (c := 25) (d := 0) rfl)
  have hg1628 := up_n eg320 hg316 (ne_o (i := i) (c := 26) (d := 0) rfl)
  have hg1629 := up_n eg326 hg1628 (ne_o (i := i) (c := 26) (d := 27) rfl)
  have hg1630 := up_n eg332 hg1629 (ne_o (i := i) (c := 26) (d := 0) rfl)
  have hg1631 := up_n eg338 hg1630 (ne_o (i := i) (c := 26) (d := 28) rfl)
  have hg1632 := up_n eg344 hg1631 (ne_o (i := i) (c := 26) (d := 0) rfl)
  have hg1633 := up_n eg350 hg1632 (ne_o (i := i) (c := 26) (d := 29) rfl)
  have hg1634 := up_n eg356 hg1633 (ne_o (i := i) (c := 26) (d := 0) rfl)
  have hg1635 := up_n eg332 hg328 (ne_o (i := i) (c := 27) (d := 0) rfl)
  have hg1636 := up_n eg338 hg1635 (ne_o (i := i) (c := 27) (d := 28) rfl)
  have hg1637 := up_n eg344 hg1636 (ne_o (i := i) (c := 27) (d := 0) rfl)
  have hg1638 := up_n eg350 hg1637 (ne_o (i := i) (c := 27) (d := 29) rfl)
  have hg1639 := up_n eg356 hg1638 (ne_o (i := i) (c := 27) (d := 0) rfl)
  have hg1640 := up_n eg344 hg340 (ne_o (i := i) (c := 28) (d := 0) rfl)
  have hg1641 := up_n eg350 hg1640 (ne_o (i := i) (c := 28) (d := 29) rfl)
  have hg1642 := up_n eg356 hg1641 (ne_o (i := i) (c := 28) (d := 0) rfl)
  have hg1643 := up_n eg356 hg352 (ne_o (i := i) (c := 29) (d := 0) rfl)
  have hB : ∀ k, 1 ≤ k → k ≤ 29 → g355 (i + k) = iA cs (mLen k) (fun _ => 0) := by
    intro k h1 h2
    rcases (show k = 1 ∨ k = 2 ∨ k = 3 ∨ k = 4 ∨ k = 5 ∨ k = 6 ∨ k = 7 ∨ k = 8 ∨ k = 9 ∨ k = 10 ∨ k = 11 ∨ k = 12 ∨ k = 13 ∨ k = 14 ∨ k = 15 ∨ k = 16 ∨ k = 17 ∨ k = 18 ∨ k = 19 ∨ k = 20 ∨ k = 21 ∨ k = 22 ∨ k = 23 ∨ k = 24 ∨ k = 25 ∨ k = 26 ∨ k = 27 ∨ k = 28 ∨ k = 29 by omega) with rfl | rfl | rfl | rfl | rfl | rfl | rfl | rfl | rfl | rfl | rfl | rfl | rfl | rfl | rfl | rfl | rfl | rfl | rfl | rfl | rfl | rfl | rfl | rfl | rfl | rfl | rfl | rfl | rfl
    · exact hg823
    · exact hg881
    · exact hg937
    · exact hg991
    · exact hg1043
    · exact hg1093
    · exact hg1141
    · exact hg1187
    · exact hg1231
    · exact hg1273
    · exact hg1313
    · exact hg1351
    · exact hg1387
    · exact hg1418
    · exact hg1447
    · exact hg1474
    · exact hg1499
    · exact hg1522
    · exact hg1543
    · exact hg1562
    · exact hg1579
    · exact hg1594
    · exact hg1607
    · exact hg1618
    · exact hg1627
    · exact hg1634
    · exact hg1639
    · exact hg1642
    · exact hg1643
  have haa9 : ad347 i = a := ha353
  refine z_cV (As := []) (rest := []) (ci := 12) C ((by rw [← haa9]; exact c_X10_laysTable l D A cs tt _ _ _ i _ _ (by omega) hmod (hB 7 (by decide) (by decide)))) (lt_o (i := i) (c := 0) (d := 30) rfl) ha353 hmod rfl rfl mv_yX10_laysTable q_1455 hd_yX10_laysTable (by decide) (Nat.le_of_ble_eq_true rfl) (by decide) dX10_init_252 rfl (kV0 fun g1644 hq1645 => ?_)
  obtain ⟨hq1, r9, hq2, hq3⟩ := hq1645
  have hmod2 : g1644 i = mC ad347 i (fun k => if k = 24 ∨ k = 26 ∨ k = 27 then -1 else 0) := (hq1 i (by omega)).trans hmod
  exact z_vret C hr hlk dX10_init_255 (by decide) (by decide) (⟨rfl, rfl, fun j h1 => by rw [ea349, va_up_ne _ _ (by omega)]; rw [ea337, va_up_ne _ _ (by omega)]; rw [ea325, va_up_ne _ _ (by omega)]; rw [ea313, va_up_ne _ _ (by omega)]; rw [ea301, va_up_ne _ _ (by omega)]; rw [ea289, va_up_ne _ _ (by omega)]; rw [ea277, va_up_ne _ _ (by omega)]; rw [ea265, va_up_ne _ _ (by omega)]; rw [ea253, va_up_ne _ _ (by omega)]; rw [ea241, va_up_ne _ _ (by omega)]; rw [ea229, va_up_ne _ _ (by omega)]; rw [ea217, va_up_ne _ _ (by omega)]; rw [ea205, va_up_ne _ _ (by omega)]; rw [ea193, va_up_ne _ _ (by omega)]; rw [ea181, va_up_ne _ _ (by omega)]; rw [ea169, va_up_ne _ _ (by omega)]; rw [ea148, va_up_ne _ _ (by omega)]; rw [ea136, va_up_ne _ _ (by omega)]; rw [ea124, va_up_ne _ _ (by omega)]; rw [ea112, va_up_ne _ _ (by omega)]; rw [ea100, va_up_ne _ _ (by omega)]; rw [ea88, va_up_ne _ _ (by omega)]; rw [ea76, va_up_ne _ _ (by omega)]; rw [ea64, va_up_ne _ _ (by omega)]; rw [ea52, va_up_ne _ _ (by omega)]; rw [ea40, va_up_ne _ _ (by omega)]; rw [ea28, va_up_ne _ _ (by omega)]; rw [ea16, va_up_ne _ _ (by omega)]; rw [ea4, va_up_ne _ _ (by omega)], fun j h1 h2 => by rw [hq1 j (by omega)]; rw [eg356, va_up_ne _ _ (by omega)]; rw [eg350, va_up_ne _ _ (by omega)]; rw [eg344, va_up_ne _ _ (by omega)]; rw [eg338, va_up_ne _ _ (by omega)]; rw [eg332, va_up_ne _ _ (by omega)]; rw [eg326, va_up_ne _ _ (by omega)]; rw [eg320, va_up_ne _ _ (by omega)]; rw [eg314, va_up_ne _ _ (by omega)]; rw [eg308, va_up_ne _ _ (by omega)]; rw [eg302, va_up_ne _ _ (by omega)]; rw [eg296, va_up_ne _ _ (by omega)]; rw [eg290, va_up_ne _ _ (by omega)]; rw [eg284, va_up_ne _ _ (by omega)]; rw [eg278, va_up_ne _ _ (by omega)]; rw [eg272, va_up_ne _ _ (by omega)]; rw [eg266, va_up_ne _ _ (by omega)]; rw [eg260, va_up_ne _ _ (by omega)]; rw [eg254, va_up_ne _ _ (by omega)]; rw [eg248, va_up_ne _ _ (by omega)]; rw [eg242, va_up_ne _ _ (by omega)]; rw [eg236, va_up_ne _ _ (by omega)]; rw [eg230, va_up_ne _ _ (by omega)]; rw [eg224, va_up_ne _ _ (by omega)]; rw [eg218, va_up_ne _ _ (by omega)]; rw [eg212, va_up_ne _ _ (by omega)]; rw [eg206, va_up_ne _ _ (by omega)]; rw [eg200, va_up_ne _ _ (by omega)]; rw [eg194, va_up_ne _ _ (by omega)]; rw [eg188, va_up_ne _ _ (by omega)]; rw [eg182, va_up_ne _ _ (by omega)]; rw [eg176, va_up_ne _ _ (by omega)]; rw [eg170, va_up_ne _ _ (by omega)]; rw [eg164, va_up_ne _ _ (by omega)]; rw [eg161, va_up_ne _ _ (by omega)]; rw [eg158, va_up_ne _ _ (by omega)]; rw [eg155, va_up_ne _ _ (by omega)]; rw [eg149, va_up_ne _ _ (by omega)]; rw [eg143, va_up_ne _ _ (by omega)]; rw [eg137, va_up_ne _ _ (by omega)]; rw [eg131, va_up_ne _ _ (by omega)]; rw [eg125, va_up_ne _ _ (by omega)]; rw [eg119, va_up_ne _ _ (by omega)]; rw [eg113, va_up_ne _ _ (by omega)]; rw [eg107, va_up_ne _ _ (by omega)]; rw [eg101, va_up_ne _ _ (by omega)]; rw [eg95, va_up_ne _ _ (by omega)]; rw [eg89, va_up_ne _ _ (by omega)]; rw [eg83, va_up_ne _ _ (by omega)]; rw [eg77, va_up_ne _ _ (by omega)]; rw [eg71, va_up_ne _ _ (by omega)]; rw [eg65, va_up_ne _ _ (by omega)]; rw [eg59, va_up_ne _ _ (by omega)]; rw [eg53, va_up_ne _ _ (by omega)]; rw [eg47, va_up_ne _ _ (by omega)]; rw [eg41, va_up_ne _ _ (by omega)]; rw [eg35, va_up_ne _ _ (by omega)]; rw [eg29, va_up_ne _ _ (by omega)]; rw [eg23, va_up_ne _ _ (by omega)]; rw [eg17, va_up_ne _ _ (by omega)]; rw [eg11, va_up_ne _ _ (by omega)]; rw [eg5, va_up_ne _ _ (by omega)], va_up (fun _ _ => 0) 7 r9, ⟨hmod2, fun k h1 h2 => by by_cases e : k = 7; (subst e; rw [va_up_self]; exact hq2); (rw [hq1 _ (by omega), va_up_ne _ _ e]; exact hB k h1 h2)⟩, fun k hk => by rw [va_up_self]; exact hq3 k hk, fun k e j => by rw [va_up_ne _ _ e]⟩)
end
section
def zx_chAt (X : String) (ix : Nat) (rx : ByteArray) : List String → List Cond
  | [] => Bundle.passSAtoms X Bundle.tN ix rx
  | Y :: r => Bundle.passSAtoms X Y ix rx ++ Bundle.chainSAtoms Y r
theorem zx_chain {args : Array Value} {s : State} {pl : Platform} (hpl : pl.magicAccessors = ({} : Platform).magicAccessors) {top : MethodId} (htop : s.methodNamed? (Bundle.initS Bundle.tN) = some top)
    {ix : Nat} {rx : ByteArray} (x0 : decode rx 0 = .ok (.aload_n 0, 1)) (x1 : decode rx 1 = .ok (.aload_n 1, 1)) (x2 : decode rx 2 = .ok (.invokespecial ix, 3)) (x5 : decode rx 5 = .ok (.return_, 1))
    (names : List String) (X : String) (hX : Bundle.fit X = true) (hn : ∀ n ∈ names, Bundle.fit n = true) (h : ∀ c ∈ zx_chAt X ix rx names, c.before args s = true) :
      ∃ (P1 : PassC) (Ps : List PassC), Ps.length = names.length ∧ P1.LinksS pl s ∧ (∀ P, P ∈ Ps → P.LinksS pl s) ∧ s.methodNamed? (Bundle.initS X) = some P1.m ∧
        P1.sup = firstOf top (Ps.map (·.toPassT)) ∧ PassesOn top (Ps.map (·.toPassT)) := by
  cases names with
  | nil =>
    obtain ⟨P, L, hm, hs⟩ := PassC.ofS_atoms (args := args) (s := s) hpl (X := X) (Y := Bundle.tN) (Bundle.fit_spec hX).1 (by decide) x0 x1 x2 x5 h
    exact ⟨P, [], rfl, L, (fun _ hP => by cases hP), hm, Option.some.inj (hs.symm.trans htop), trivial⟩
  | cons Y r =>
    obtain ⟨P, L, hm, hs⟩ := PassC.ofS_atoms (args := args) (s := s) hpl (X := X) (Y := Y) (Bundle.fit_spec hX).1 (Bundle.fit_spec (hn Y List.mem_cons_self)).2 x0 x1 x2 x5 (fun c hc => h c (by simp only [zx_chAt, List.mem_append]; exact Or.inl hc))
    obtain ⟨P', Ps, hlen, L', hL, hm', hsup, hpass⟩ := Bundle.chainS (args := args) hpl htop r Y (hn Y List.mem_cons_self) (fun n hn' => hn n (List.mem_cons_of_mem _ hn')) (fun c hc => h c (by simp only [zx_chAt, List.mem_append]; exact Or.inr hc))
    refine ⟨P, P' :: Ps, by simp [hlen], L, ?_, hm, Option.some.inj (hs.symm.trans hm'), hsup, hpass⟩
    intro Q hQ
    rcases List.mem_cons.mp hQ with rfl | hQ
    · exact L'
    · exact hL Q hQ
def zx_own (own : String) (ic : Nat) (X : String) (ix : Nat) (rx : ByteArray) (names : List String) : List Cond :=
  Bundle.throwableAtoms ++ Bundle.throwableSAtoms ++ zx_chAt X ix rx names ++
  [.methodLink own ic (Bundle.initS X), .instantiable X 6, .castable X X, .selects X Bundle.tFill0 Bundle.tFill0, .selects X Bundle.tFill Bundle.tFill,
   .lays X Bundle.tN "cause" "Ljava/lang/Throwable;", .lays X Bundle.tN "stackTrace" Bundle.steD, .lays X Bundle.tN "suppressedExceptions" Bundle.listD, .lays X Bundle.tN "detailMessage" "Ljava/lang/String;",
   .isRef (.static Bundle.tN "UNASSIGNED_STACK" Bundle.steD), .isRef (.static Bundle.tN "SUPPRESSED_SENTINEL" Bundle.listD),
   .fieldLink Bundle.tN 198 Bundle.tN "backtrace" "Ljava/lang/Object;", .lays Bundle.tN Bundle.tN "backtrace" "Ljava/lang/Object;", .lays X Bundle.tN "backtrace" "Ljava/lang/Object;"]
def zx_at (own : String) (ic : Nat) (X : String) (ix : Nat) (rx : ByteArray) (names : List String) : List Cond := (zx_own own ic X ix rx names).filter vx_no
section ZXT
variable {p : Program} {l : Launch} {e : Env} {R : Room} {s : State} {m₀ : MethodId} {args : Array Value} {below : List Frame} {meth : Method} {c : Code} {W : State} {locs : List Loc} {cells slots : Nat}
set_option maxHeartbeats 4000000 in
theorem zx_ctorThrow (X : Stand p l e R s m₀ args below meth c W locs cells slots) (hexec : p.tables.exec = Jvm.exec) (htr : e.platform.stackTraces = false) {own cls : String} {names : List String} {ic : Nat} {ix : Nat} {rx : ByteArray} (x0 : decode rx 0 = .ok (.aload_n 0, 1)) (x1 : decode rx 1 = .ok (.aload_n 1, 1)) (x2 : decode rx 2 = .ok (.invokespecial ix, 3)) (x5 : decode rx 5 = .ok (.return_, 1))
    (hown : s.vm.findClass own = some m₀.cls) (hcls : Bundle.fit cls = true) (hnames : ∀ n ∈ names, Bundle.fit n = true)
    (h : ∀ a ∈ zx_own own ic cls ix rx names, a.before args s = true)
    (hlocs : ∀ x ∈ locs, ∀ cell, s.heap[x.base]? = some cell → cell.vm.isStatics = false)
    {a : Addr} {cX : ClassId} {kX : Class} (hfoundX : s.vm.findClass cls = some cX) (hkX : s.vm.classes[cX]? = some kX) (hcell : W.heap[a]? = some (freshCell cX kX)) (hnew : s.heap.size ≤ a)
    {msg : Value} (hmsg : msg.isRef = true)
    {g : JFrame} (hg : g.method = m₀) (hsize : g.locals.size = c.maxLocals) (hlocked : g.locked = none) (hentered : g.entered = []) {rest : List Value} (hstack : g.stack = msg :: .ref a :: .ref a :: rest)
    (hd6 : decode c.code g.pc = .ok (.invokespecial ic, 3)) (hd9 : decode c.code (g.pc + 3) = .ok (.athrow, 1)) (hout : ∀ x ∈ c.exceptionTable.toList, covers x (g.pc + 3) = false)
    (hRframes : names.length + 3 < R.frames) (hRlocals : 2 * g.monitorRoom + ((Value.ref a :: rest).map fun v => v.category).sum + (13 * (names.length + 1) + 42) ≤ R.locals) (hlocks : meth.locks = false := by first | assumption | exact BodyLoose.notSynchronized (by assumption) | exact Body.notSynchronized (by assumption)) :
    ∃ U : State, Steps p.tables e below (W.setTop g) U ∧ U.status = .running ∧ Ended U below (.threw a) ∧ s.WarmedH U.vm ∧ s.sameButNew ({ U with vm := s.vm } : State) locs cells slots ∧
      ∃ ce, U.heap[a]? = some ce ∧ Bundle.OwnCell args s cls a msg ce := by
  have howns : e.platform.frameOwnsMonitors = true := by rw [X.admits.platform]
  have hfin : e.platform.finalization = false := by rw [X.admits.platform]
  have hpl : e.platform.magicAccessors = ({} : Platform).magicAccessors := by rw [X.admits.platform]
  have a' : ∀ x, x ∈ zx_own own ic cls ix rx names → x.holds args s none s [] = true := fun x hx => h x hx
  obtain ⟨T, Z0, L, -, Y⟩ := ThrowableC.of_atoms (args := args) howns hfin hpl (fun x hx => h x (by simp [zx_own, hx]))
  obtain ⟨Z, M, LZ, LM, hnZ⟩ := Init0T.ofS_atoms (args := args) hpl L Y (fun x hx => h x (by simp [zx_own, hx]))
  obtain ⟨P1, Ps, hlen, L1, hL, hP1m, hlink1, hlink⟩ := zx_chain (args := args) hpl hnZ x0 x1 x2 x5 names cls hcls hnames (fun x hx => h x (by simp [zx_own, hx]))
  have hfound : s.vm.findClass cls = some P1.m.cls := findClass_of_methodNamed hP1m
  cases Option.some.inj (hfoundX.symm.trans hfound)
  obtain ⟨c1, kX', hc1, hk, hord, -, -, hn6⟩ := Cond.instantiable_spec (a' (.instantiable cls 6) (by simp [zx_own]))
  cases Option.some.inj (hc1.symm.trans hfound)
  cases Option.some.inj (hkX.symm.trans hk)
  have hsel0 : selectMethod e.platform s.vm P1.m.cls T.fill0 = .method T.fill0 := by
    obtain ⟨c2, r2, m2, q1, q2, q3, q4, -⟩ := Cond.selects_spec (a' (.selects cls Bundle.tFill0 Bundle.tFill0) (by simp [zx_own]))
    cases Option.some.inj (q1.symm.trans hfound)
    cases Option.some.inj (q2.symm.trans (State.methodFound?_of_named Y.fill0 (by decide)))
    cases Option.some.inj (q3.symm.trans Y.fill0)
    rw [Launch.admits_selectMethod X.admits]; exact q4
  have hselF : selectMethod e.platform s.vm P1.m.cls T.fill = .method T.fill := by
    obtain ⟨c2, r2, m2, q1, q2, q3, q4, -⟩ := Cond.selects_spec (a' (.selects cls Bundle.tFill Bundle.tFill) (by simp [zx_own]))
    cases Option.some.inj (q1.symm.trans hfound)
    cases Option.some.inj (q2.symm.trans (State.methodFound?_of_named Y.fill (by decide)))
    cases Option.some.inj (q3.symm.trans Y.fill)
    rw [Launch.admits_selectMethod X.admits]; exact q4
  obtain ⟨cellS0, hcS0, hiss⟩ := Y.statics
  obtain ⟨u0, hu0⟩ := Cond.staticRefV Y.unassigned L.unassignedStatic L.statics hcS0 hiss (a' (.isRef (.static Bundle.tN "UNASSIGNED_STACK" Bundle.steD)) (by simp [zx_own]))
  obtain ⟨sen, hsen⟩ := Cond.staticRefV Y.sentinel L.sentinelStatic L.statics hcS0 hiss (a' (.isRef (.static Bundle.tN "SUPPRESSED_SENTINEL" Bundle.listD)) (by simp [zx_own]))
  obtain ⟨ci198, i198, fB, hk198, hg198, ha198, hsB, -, hnB, htB, hffB⟩ := Cond.ownField (t := .object "java/lang/Object") Y.found L.cls (by decide +kernel) (a' (.fieldLink Bundle.tN 198 Bundle.tN "backtrace" "Ljava/lang/Object;") (by simp [zx_own])) (a' (.lays Bundle.tN Bundle.tN "backtrace" "Ljava/lang/Object;") (by simp [zx_own])) e.platform hpl
  obtain ⟨cellS, hcS', heS, -, hkeep⟩ := X.same.2.2.2.2.2 T.aS cellS0 hcS0
  have hcellS : W.heap[T.aS]? = some cellS := hcS'
  have hout' : ∀ i, (⟨T.aS, i⟩ : Loc) ∉ locs := fun i hmem => by
    have := hlocs _ hmem cellS0 hcS0
    rw [hiss] at this; cases this
  have hknownS : cellS.vm ≠ .unknown := by
    rw [heS]; intro hu
    rw [show cellS0.vm = .unknown from hu] at hiss
    cases hiss
  have hneS : T.aS ≠ a := Nat.ne_of_lt (Nat.lt_of_lt_of_le (Array.getElem?_eq_some_iff.mp hcS0).1 hnew)
  obtain ⟨iM, hffM⟩ := Y.msg
  obtain ⟨tyC, dC, hdC, hdnC⟩ := Cond.laysAt hfound hk Y.cause (a' (.lays cls Bundle.tN "cause" "Ljava/lang/Throwable;") (by simp [zx_own]))
  obtain ⟨tyS, dS, hdS, hdnS⟩ := Cond.laysAt hfound hk Y.stack (a' (.lays cls Bundle.tN "stackTrace" Bundle.steD) (by simp [zx_own]))
  obtain ⟨tyP, dP, hdP, hdnP⟩ := Cond.laysAt hfound hk Y.supp (a' (.lays cls Bundle.tN "suppressedExceptions" Bundle.listD) (by simp [zx_own]))
  obtain ⟨tyM, dM, hdM, hdnM⟩ := Cond.laysAt hfound hk hffM (a' (.lays cls Bundle.tN "detailMessage" "Ljava/lang/String;") (by simp [zx_own]))
  obtain ⟨tyB, dB, hdB, hdnB⟩ := Cond.laysAt hfound hk hffB (a' (.lays cls Bundle.tN "backtrace" "Ljava/lang/Object;") (by simp [zx_own]))
  have bC := Cond.laysApart hdB hdC hdnB hdnC (by rw [hnB, Y.causeName]; decide)
  have bS := Cond.laysApart hdB hdS hdnB hdnS (by rw [hnB, Y.stackName]; decide)
  have bP := Cond.laysApart hdB hdP hdnB hdnP (by rw [hnB, Y.suppName]; decide)
  have hskip : SkipFacts T e.platform s (fun u => u) u0 ((preparedCellV T.toThrowableT (freshCell P1.m.cls kX) a u0 sen).withEntry W.cur) :=
    ⟨{ ci198 := ci198, i198 := i198, fBack := fB }, ⟨hk198, hg198, ha198, hsB⟩, by
      have := fresh_default (c := P1.m.cls) tyB
      rw [htB] at this
      simpa [preparedCellV, Cell.setSlot, Cell.withEntry, Array.getElem?_setIfInBounds, bC, bS, bP, bC.symm, bS.symm, bP.symm, defaultValue] using this, fun _ _ => rfl⟩
  obtain ⟨tm, methC, cdC, kC, vm₁, hnC, -, -, -, -, -, -, -, hW₁, st1⟩ := Steps.initColdS (tb := p.tables) (e := e) (below := below) (s := s) (U := W) X.here hexec X.warmed hpl hown (t := Bundle.initS cls) rfl rfl (Bundle.fit_spec hcls).2
    (a' (.methodLink own ic (Bundle.initS cls)) (by simp [zx_own])) (h (.instanceMethod (Bundle.initS cls)) (by cases names <;> simp [zx_own, zx_chAt, Bundle.passSAtoms])) (bytes := rx) (maxL := 2) (h (.code (Bundle.initS cls) rx 2 none) (by cases names <;> simp [zx_own, zx_chAt, Bundle.passSAtoms]))
    (f := g) hg (a := a) (msg := msg) (rest := .ref a :: rest) hstack hd6
  cases Option.some.inj (hnC.symm.trans hP1m)
  have X₁ := X.noted hW₁
  obtain ⟨vm₂, X₂, st2⟩ := X₁.ctorMessageOffV hexec (g := { g with stack := .ref a :: rest }) hg hsize T L Z LZ M LM (P1 :: Ps)
    (fun P hP => by rcases List.mem_cons.mp hP with rfl | hP; exact L1; exact hL P hP) ⟨hlink1, hlink⟩ (u0 := u0) (sen := sen) (self := a) hmsg (cell := freshCell P1.m.cls kX) (cellS := cellS)
    hcell (fun _ => by simp) (by simp) rfl rfl hsel0 hselF hcellS hneS hknownS (by rw [hkeep _ (hout' _)]; exact hu0) (by rw [hkeep _ (hout' _)]; exact hsen)
    (Takes.of_laid hk hord tyC (by rw [Y.causeType]; rfl)) (Takes.of_laid hk hord tyS (by rw [Y.stackType]; exact fits_refV_array _ u0)) (Takes.of_laid hk hord tyP (by rw [Y.suppType]; exact fits_refV_object _ sen))
    (Takes.of_laid hk hord tyM (by rw [Y.msgType]; exact fits_refV_object _ ⟨msg, hmsg⟩)) Y.objLocals hskip htr [] hd6
    (by simp only [List.length_cons, hlen]; omega) (by simp only [List.length_cons, hlen]; exact hRlocals)
  obtain ⟨hwalk, hrun, hended, hWU, hsame⟩ := X₂.athrowLeaves hexec (g := { g with stack := .ref a :: rest, pc := g.pc + 3 }) hg hlocked hentered hout (a := a) (rest := rest) rfl hd9
  obtain ⟨c3, c4, hc3, hc4, hasg⟩ := Cond.castable_spec (a' (.castable cls cls) (by simp [zx_own]))
  cases Option.some.inj (hc3.symm.trans hfound)
  cases Option.some.inj (hc4.symm.trans hfound)
  have hlt : a < ((W.setVm vm₁).setVm vm₂).heap.size := (Array.getElem?_eq_some_iff.mp hcell).1
  have hU := heapAt_setCell_self (s := (W.setVm vm₁).setVm vm₂) (plainBareV T.toThrowableT (freshCell P1.m.cls kX) a u0 sen msg) hlt
  have hnM : T.fMsg.name = "detailMessage" := (State.fieldFound?_type hffM (t := .object "java/lang/String") (by decide +kernel)).1
  have nCS := Cond.laysApart hdC hdS hdnC hdnS (by rw [Y.causeName, Y.stackName]; decide)
  have nCP := Cond.laysApart hdC hdP hdnC hdnP (by rw [Y.causeName, Y.suppName]; decide)
  have nCM := Cond.laysApart hdC hdM hdnC hdnM (by rw [Y.causeName, hnM]; decide)
  have nSP := Cond.laysApart hdS hdP hdnS hdnP (by rw [Y.stackName, Y.suppName]; decide)
  have nSM := Cond.laysApart hdS hdM hdnS hdnM (by rw [Y.stackName, hnM]; decide)
  have nPM := Cond.laysApart hdP hdM hdnP hdnM (by rw [Y.suppName, hnM]; decide)
  have lC : T.fCause.slot < kX.instanceTypes.size := (Array.getElem?_eq_some_iff.mp tyC).1
  have lS : T.fStack.slot < kX.instanceTypes.size := (Array.getElem?_eq_some_iff.mp tyS).1
  have lP : T.fSupp.slot < kX.instanceTypes.size := (Array.getElem?_eq_some_iff.mp tyP).1
  have lM : T.fMsg.slot < kX.instanceTypes.size := (Array.getElem?_eq_some_iff.mp tyM).1
  have evU : ∀ o, (Term.static Bundle.tN "UNASSIGNED_STACK" Bundle.steD).eval args s o [] s = some u0.v := by
    intro o
    simp [Term.eval, State.fieldNamed?, Y.unassigned, L.unassignedStatic, L.statics, hcS0, hiss, hu0]
  have evS : ∀ o, (Term.static Bundle.tN "SUPPRESSED_SENTINEL" Bundle.listD).eval args s o [] s = some sen.v := by
    intro o
    simp [Term.eval, State.fieldNamed?, Y.sentinel, L.sentinelStatic, L.statics, hcS0, hiss, hsen]
  refine ⟨_, st1 _ (fun acts => ?_), hrun, hended, hWU, hsame.weaken (fun y hy hlt' => ?_) (Nat.le_refl _) (Nat.le_refl _), _, hU, ?_⟩
  · rw [doInvoke_state]
    exact st2 _ hwalk
  · rcases List.mem_append.mp hy with h1 | h1
    · exact h1
    · exfalso
      have hb : y.base = a := by
        simp only [List.mem_cons, List.not_mem_nil, or_false] at h1
        rcases h1 with rfl | rfl | rfl | rfl | rfl <;> rfl
      rw [hb] at hlt'
      exact Nat.not_lt.mpr hnew hlt'
  · exact { cls := hfound, self := hasg, monitor := rfl, hash := rfl, vm := rfl, size := by simp [plainBareV, preparedCellV, Cell.setSlot, hn6]
            cause := ⟨_, _, _, _, Y.cause, by simp [plainBareV, preparedCellV, Cell.setSlot, nCS.symm, nCP.symm, nCM.symm, lC]⟩
            stack := ⟨_, _, _, _, u0, Y.stack, by simp [plainBareV, preparedCellV, Cell.setSlot, nSM.symm, lS], evU⟩
            supp := ⟨_, _, _, _, sen, Y.supp, by simp [plainBareV, preparedCellV, Cell.setSlot, nSP, nPM.symm, lP], evS⟩
            msg := ⟨_, _, _, _, hffM, by simp [plainBareV, preparedCellV, Cell.setSlot, lM]⟩
            other := fun O f d c k i fd hf hy n1 n2 n3 n4 => by
              obtain ⟨ty, dd, hdd, hddn⟩ := Cond.laysAt hfound hk hf hy
              have m1 := Cond.laysApart hdd hdC hddn hdnC (by rw [Y.causeName]; exact n1)
              have m2 := Cond.laysApart hdd hdS hddn hdnS (by rw [Y.stackName]; exact n2)
              have m3 := Cond.laysApart hdd hdP hddn hdnP (by rw [Y.suppName]; exact n3)
              have m4 := Cond.laysApart hdd hdM hddn hdnM (by rw [hnM]; exact n4)
              have := fresh_default (c := P1.m.cls) ty
              simpa [plainBareV, preparedCellV, Cell.setSlot, Array.getElem?_setIfInBounds, m1, m2, m3, m4, m1.symm, m2.symm, m3.symm, m4.symm] using this }
end ZXT
section ZXE
variable {p : Program} {l : Launch} {e : Env} {R : Room} {s : State} {m : MethodId} {args : Array Value} {below : List Frame} {meth : Method} {c : Code} {H : Heap} {locs : List Loc} {cells slots : Nat} {Q : State → Prop}
variable {mc ms : Nat} {free : Addr → Prop} {A0 A1 : Nat → Prop} {H0 : Heap} {a : Array Value} {ls : Array Slot} {st0 rest : List Value}
variable {Qc : Array Value → State → Outcome → State → Prop} {XC : String → State → State → Prop}
set_option maxHeartbeats 4000000 in
theorem zx_throwS {cc : ByteArray} {pc : Nat} (hexec : p.tables.exec = Jvm.exec) (hb : c.code = cc) (hl : l.stackTraces = false) {own cls text : String} {names : List String} {ik is ic mc ms sa : Nat} {ix : Nat} {rx : ByteArray} {A : Nat → Prop}
    (x0 : decode rx 0 = .ok (.aload_n 0, 1)) (x1 : decode rx 1 = .ok (.aload_n 1, 1)) (x2 : decode rx 2 = .ok (.invokespecial ix, 3)) (x5 : decode rx 5 = .ok (.return_, 1)) (hown : s.vm.findClass own = some m.cls) (hcls : Bundle.fit cls = true) (hnames : ∀ n ∈ names, Bundle.fit n = true)
    (hk : (Cond.classLink own ik cls).before args s = true) (hini : (Cond.initialized cls).before args s = true) (hstr : vk_R own is text sa s) (hat : ∀ w ∈ zx_at own ic cls ix rx names, w.before args s = true)
    (hgood : ∀ w ∈ Cond.classLink own ik cls :: Cond.initialized cls :: zx_at own ic cls ix rx names, vx_ot w = true)
    (hU : vx_Zq Bundle.tN "UNASSIGNED_STACK" Bundle.steD A s s.heap) (hN : vx_Zq Bundle.tN "SUPPRESSED_SENTINEL" Bundle.listD A s s.heap) (hS : va_S A s.heap H locs) (hsize : ls.size = c.maxLocals)
    (d0 : decode cc pc = .ok (.new ik, 3)) (d3 : decode cc (pc + 3) = .ok (.dup, 1)) (d4 : decode cc (pc + 4) = .ok (.ldc is, 2)) (d6 : decode cc (pc + 6) = .ok (.invokespecial ic, 3)) (d9 : decode cc (pc + 9) = .ok (.athrow, 1))
    (hout : ∀ x ∈ c.exceptionTable.toList, covers x (pc + 9) = false)
    (hRframes : names.length + 3 < R.frames) (hRlocals : (rest.map fun v => v.category).sum + (13 * (names.length + 1) + 43) ≤ R.locals) (hRcells : cells + 1 ≤ R.cells) (hRslots : slots + 6 ≤ R.slots) (hlocks : meth.locks = false)
    (hx : ∀ t : State, s.vm.Alike t.vm → H.size ≤ t.heap.size → (∀ q : Nat, q < H.size → t.heap[q]? = H[q]?) → XC cls s t)
    (hf : ∀ z ∈ locs, free z.base) (hc : cells + 1 ≤ mc) (hs : slots + 6 ≤ ms) :
    W p l e R s m args below meth c H locs cells slots (vx_MQ below Qc XC args s mc ms free) (F0 m pc ls rest) := by
  intro T hT X
  have htr : e.platform.stackTraces = false := (show e.platform.stackTraces = l.stackTraces by rw [X.admits.platform]).trans hl
  have Y := vx_rebase X (R' := { frames := R.frames, locals := R.locals, cells := 1, slots := 6 }) (Nat.le_refl _) (Nat.le_refl _) hRcells hRslots
  obtain ⟨s', hA⟩ : ∃ z, z = (T.setVm s.vm).setFrames (.invoking m args :: below) := ⟨_, rfl⟩
  rw [← hA] at Y
  have hvm : s'.vm = s.vm := by rw [hA]; rfl
  have hhp : s'.heap = H := by rw [hA]; exact hT
  have hW0 : s.WarmedH s'.vm := by rw [hvm]; exact State.WarmedH.refl s
  have hat' : ∀ w ∈ zx_at own ic cls ix rx names, w.before args s' = true := fun w hw => vx_ot_at hW0 hvm.symm (hgood w (List.mem_cons_of_mem _ (List.mem_cons_of_mem _ hw))) (hat w hw)
  have hk' : (Cond.classLink own ik cls).before args s' = true := vx_ot_at hW0 hvm.symm (hgood _ List.mem_cons_self) hk
  have hini' : (Cond.initialized cls).before args s' = true := vx_ot_at hW0 hvm.symm (hgood _ (List.mem_cons_of_mem _ List.mem_cons_self)) hini
  have hU' : vx_Zq Bundle.tN "UNASSIGNED_STACK" Bundle.steD A s' s'.heap := by rw [hhp]; exact vx_Zq.moved hW0.alike (hU.kept hS.2.1)
  have hN' : vx_Zq Bundle.tN "SUPPRESSED_SENTINEL" Bundle.listD A s' s'.heap := by rw [hhp]; exact vx_Zq.moved hW0.alike (hN.kept hS.2.1)
  have h : ∀ w ∈ zx_own own ic cls ix rx names, w.before args s' = true := vx_own hat' (vx_isRefq hU'.1) (vx_isRefq hN'.1) hU'.2.word hN'.2.word
  have hown' : s'.vm.findClass own = some m.cls := by rw [hvm]; exact hown
  have hins : (Cond.instantiable cls 6).before args s' = true := h _ (by simp [zx_own])
  obtain ⟨vm₁, cX, kX, hfX, hkX, -, -, X₁, st1⟩ := Y.newCold hexec (own := own) (C := cls) (index := ik) (n := 6) hown' hk' hins hini'
    (g := F0 m pc ls rest) rfl (by rw [hb]; exact d0) (Nat.le_refl _) (Nat.le_refl _)
  generalize hT1 : (T.setVm vm₁).pushCell { cls := cX, slots := kX.instanceTypes.map defaultValue, vm := .none } = T1 at X₁ st1
  have hcat : (Value.ref T.heap.size).category = 1 := rfl
  have hcellA : T1.heap[T.heap.size]? = some (freshCell cX kX) := by rw [← hT1]; exact State.heap_pushCell_size _ _
  have d3' : decode c.code (pc + 3) = .ok (.dup, 1) := by rw [hb]; exact d3
  have d4' : decode c.code (pc + 4) = .ok (.ldc is, 2) := by rw [hb]; exact d4
  have hstr' : vk_R own is text sa s' := vk_R.warm hW0 hstr
  obtain ⟨U, hsteps, hrun, hend, hW, hsame, ce, hce, hO⟩ := zx_ctorThrow X₁ hexec htr (own := own) (cls := cls) (names := names) (ic := ic) x0 x1 x2 x5 hown' hcls hnames h (fun x hx => nomatch hx) hfX hkX hcellA (by rw [hhp, hT]; exact Nat.le_refl _) (msg := .ref sa) rfl
    (g := { method := m, pc := pc + 6, locals := ls, stack := .ref sa :: .ref T.heap.size :: .ref T.heap.size :: rest, locked := none }) rfl hsize rfl rfl (rest := rest) rfl
    (by rw [hb]; exact d6) (by rw [hb]; exact d9) hout hRframes (by simp only [List.map_cons, List.sum_cons, hcat]; omega) hlocks
  obtain ⟨f1, f2⟩ := vx_frame hsame
  rw [hhp] at f1 f2
  have hWs : s.WarmedH U.vm := State.WarmedH.trans hW0 hW
  have hcl : s.vm.findClass cls = some ce.cls := by
    have h9 := hO.cls
    rw [hvm] at h9
    exact h9
  have hall : s.sameButNew ({ U with vm := s.vm } : State) locs mc ms := by
    subst hA
    obtain ⟨e1, e2⟩ := hsame
    rw [State.setFrames_setFrames] at e1
    have h2 : (T.setVm s.vm).sameButNew ({ U with vm := s.vm } : State) [] (0 + 1) (0 + 6) := ⟨e1, e2⟩
    have h3 := X.same.trans h2
    rw [List.append_nil] at h3
    exact h3.mono hc hs
  refine ⟨U, ?_, .threw T.heap.size, hrun, hend, Or.inr ⟨T.heap.size, rfl, cls, ce, locs, hx U hWs.alike f1 (fun q hq => f2 q hq (fun z hz => nomatch hz)), hce, hO.vm, hcl, hWs, hall, hf⟩⟩
  refine st1 _ ?_
  show Steps p.tables e below (T1.setTop { method := m, pc := pc + 3, locals := ls, stack := .ref T.heap.size :: rest, locked := none }) _
  jvm_step X₁.here [X₁.here.top, hexec, d3', Value.category]
  exact X₁.ldcString hexec (own := own) (text := text) (index := is) (a := sa) hown' hstr'.1 hstr'.2
    (g := { method := m, pc := pc + 4, locals := ls, stack := .ref T.heap.size :: .ref T.heap.size :: rest, locked := none }) rfl d4' _ hsteps
end ZXE
section ZXE
variable {p : Program} {l : Launch} {e : Env} {R : Room} {s : State} {m : MethodId} {args : Array Value} {below : List Frame} {meth : Method} {c : Code} {H : Heap} {locs : List Loc} {cells slots : Nat} {Q : State → Prop}
variable {mc ms : Nat} {free : Addr → Prop} {A0 A1 : Nat → Prop} {H0 : Heap} {a : Array Value} {ls : Array Slot} {st0 rest : List Value}
variable {Qc : Array Value → State → Outcome → State → Prop} {XC : String → State → State → Prop}
set_option maxHeartbeats 4000000 in
theorem zx_throwSW {cc : ByteArray} {pc : Nat} (hexec : p.tables.exec = Jvm.exec) (hb : c.code = cc) (hl : l.stackTraces = false) {own cls text : String} {names : List String} {ik is ic mc ms sa : Nat} {ix : Nat} {rx : ByteArray} {A : Nat → Prop}
    (x0 : decode rx 0 = .ok (.aload_n 0, 1)) (x1 : decode rx 1 = .ok (.aload_n 1, 1)) (x2 : decode rx 2 = .ok (.invokespecial ix, 3)) (x5 : decode rx 5 = .ok (.return_, 1)) (hown : s.vm.findClass own = some m.cls) (hcls : Bundle.fit cls = true) (hnames : ∀ n ∈ names, Bundle.fit n = true)
    (hk : (Cond.classLink own ik cls).before args s = true) (hini : (Cond.initialized cls).before args s = true) (hstr : vk_R own is text sa s) (hat : ∀ w ∈ zx_at own ic cls ix rx names, w.before args s = true)
    (hgood : ∀ w ∈ Cond.classLink own ik cls :: Cond.initialized cls :: zx_at own ic cls ix rx names, vx_ot w = true)
    (hU : vx_Zq Bundle.tN "UNASSIGNED_STACK" Bundle.steD A s s.heap) (hN : vx_Zq Bundle.tN "SUPPRESSED_SENTINEL" Bundle.listD A s s.heap) (hS : va_S A s.heap H locs) (hsize : ls.size = c.maxLocals)
    (d0 : decode cc pc = .ok (.new ik, 3)) (d3 : decode cc (pc + 3) = .ok (.dup, 1)) (d4 : decode cc (pc + 4) = .ok (.ldc_w is, 3)) (d7 : decode cc (pc + 7) = .ok (.invokespecial ic, 3)) (d10 : decode cc (pc + 10) = .ok (.athrow, 1))
    (hout : ∀ x ∈ c.exceptionTable.toList, covers x (pc + 10) = false)
    (hRframes : names.length + 3 < R.frames) (hRlocals : (rest.map fun v => v.category).sum + (13 * (names.length + 1) + 43) ≤ R.locals) (hRcells : cells + 1 ≤ R.cells) (hRslots : slots + 6 ≤ R.slots) (hlocks : meth.locks = false)
    (hx : ∀ t : State, s.vm.Alike t.vm → H.size ≤ t.heap.size → (∀ q : Nat, q < H.size → t.heap[q]? = H[q]?) → XC cls s t)
    (hf : ∀ z ∈ locs, free z.base) (hc : cells + 1 ≤ mc) (hs : slots + 6 ≤ ms) :
    W p l e R s m args below meth c H locs cells slots (vx_MQ below Qc XC args s mc ms free) (F0 m pc ls rest) := by
  intro T hT X
  have htr : e.platform.stackTraces = false := (show e.platform.stackTraces = l.stackTraces by rw [X.admits.platform]).trans hl
  have Y := vx_rebase X (R' := { frames := R.frames, locals := R.locals, cells := 1, slots := 6 }) (Nat.le_refl _) (Nat.le_refl _) hRcells hRslots
  obtain ⟨s', hA⟩ : ∃ z, z = (T.setVm s.vm).setFrames (.invoking m args :: below) := ⟨_, rfl⟩
  rw [← hA] at Y
  have hvm : s'.vm = s.vm := by rw [hA]; rfl
  have hhp : s'.heap = H := by rw [hA]; exact hT
  have hW0 : s.WarmedH s'.vm := by rw [hvm]; exact State.WarmedH.refl s
  have hat' : ∀ w ∈ zx_at own ic cls ix rx names, w.before args s' = true := fun w hw => vx_ot_at hW0 hvm.symm (hgood w (List.mem_cons_of_mem _ (List.mem_cons_of_mem _ hw))) (hat w hw)
  have hk' : (Cond.classLink own ik cls).before args s' = true := vx_ot_at hW0 hvm.symm (hgood _ List.mem_cons_self) hk
  have hini' : (Cond.initialized cls).before args s' = true := vx_ot_at hW0 hvm.symm (hgood _ (List.mem_cons_of_mem _ List.mem_cons_self)) hini
  have hU' : vx_Zq Bundle.tN "UNASSIGNED_STACK" Bundle.steD A s' s'.heap := by rw [hhp]; exact vx_Zq.moved hW0.alike (hU.kept hS.2.1)
  have hN' : vx_Zq Bundle.tN "SUPPRESSED_SENTINEL" Bundle.listD A s' s'.heap := by rw [hhp]; exact vx_Zq.moved hW0.alike (hN.kept hS.2.1)
  have h : ∀ w ∈ zx_own own ic cls ix rx names, w.before args s' = true := vx_own hat' (vx_isRefq hU'.1) (vx_isRefq hN'.1) hU'.2.word hN'.2.word
  have hown' : s'.vm.findClass own = some m.cls := by rw [hvm]; exact hown
  have hins : (Cond.instantiable cls 6).before args s' = true := h _ (by simp [zx_own])
  obtain ⟨vm₁, cX, kX, hfX, hkX, -, -, X₁, st1⟩ := Y.newCold hexec (own := own) (C := cls) (index := ik) (n := 6) hown' hk' hins hini'
    (g := F0 m pc ls rest) rfl (by rw [hb]; exact d0) (Nat.le_refl _) (Nat.le_refl _)
  generalize hT1 : (T.setVm vm₁).pushCell { cls := cX, slots := kX.instanceTypes.map defaultValue, vm := .none } = T1 at X₁ st1
  have hcat : (Value.ref T.heap.size).category = 1 := rfl
  have hcellA : T1.heap[T.heap.size]? = some (freshCell cX kX) := by rw [← hT1]; exact State.heap_pushCell_size _ _
  have d3' : decode c.code (pc + 3) = .ok (.dup, 1) := by rw [hb]; exact d3
  have d4' : decode c.code (pc + 4) = .ok (.ldc_w is, 3) := by rw [hb]; exact d4
  have hstr' : vk_R own is text sa s' := vk_R.warm hW0 hstr
  obtain ⟨U, hsteps, hrun, hend, hW, hsame, ce, hce, hO⟩ := zx_ctorThrow X₁ hexec htr (own := own) (cls := cls) (names := names) (ic := ic) x0 x1 x2 x5 hown' hcls hnames h (fun x hx => nomatch hx) hfX hkX hcellA (by rw [hhp, hT]; exact Nat.le_refl _) (msg := .ref sa) rfl
    (g := { method := m, pc := pc + 7, locals := ls, stack := .ref sa :: .ref T.heap.size :: .ref T.heap.size :: rest, locked := none }) rfl hsize rfl rfl (rest := rest) rfl
    (by rw [hb]; exact d7) (by rw [hb]; exact d10) hout hRframes (by simp only [List.map_cons, List.sum_cons, hcat]; omega) hlocks
  obtain ⟨f1, f2⟩ := vx_frame hsame
  rw [hhp] at f1 f2
  have hWs : s.WarmedH U.vm := State.WarmedH.trans hW0 hW
  have hcl : s.vm.findClass cls = some ce.cls := by
    have h9 := hO.cls
    rw [hvm] at h9
    exact h9
  have hall : s.sameButNew ({ U with vm := s.vm } : State) locs mc ms := by
    subst hA
    obtain ⟨e1, e2⟩ := hsame
    rw [State.setFrames_setFrames] at e1
    have h2 : (T.setVm s.vm).sameButNew ({ U with vm := s.vm } : State) [] (0 + 1) (0 + 6) := ⟨e1, e2⟩
    have h3 := X.same.trans h2
    rw [List.append_nil] at h3
    exact h3.mono hc hs
  refine ⟨U, ?_, .threw T.heap.size, hrun, hend, Or.inr ⟨T.heap.size, rfl, cls, ce, locs, hx U hWs.alike f1 (fun q hq => f2 q hq (fun z hz => nomatch hz)), hce, hO.vm, hcl, hWs, hall, hf⟩⟩
  refine st1 _ ?_
  show Steps p.tables e below (T1.setTop { method := m, pc := pc + 3, locals := ls, stack := .ref T.heap.size :: rest, locked := none }) _
  jvm_step X₁.here [X₁.here.top, hexec, d3', Value.category]
  exact X₁.ldcStringW hexec (own := own) (text := text) (index := is) (a := sa) hown' hstr'.1 hstr'.2
    (g := { method := m, pc := pc + 4, locals := ls, stack := .ref T.heap.size :: .ref T.heap.size :: rest, locked := none }) rfl d4' _ hsteps
end ZXE
end
section
abbrev zXR : Type := String → Nat → (Nat → Nat) → (Nat → va_E) → Prop
def zX (D : va_G) (A : Nat → Prop) (Xr : zXR) : String → State → State → Prop := fun E st t => ∃ (N' : Nat) (ad' : Nat → Nat) (g' : Nat → va_E), Xr E N' ad' g' ∧ va_P D vwCl (wl N' ad' g') t.heap ∧ va_D A (wl N' ad' g') ∧ va_F A st t
def zMX (l : Launch) (y : MethodName) (cc : ByteArray) (mL : Nat) (ret : Option FieldType) (rm : Room) (D : va_G) (A : Nat → Prop) (cs : Nat → ClassId) (tt : Nat) (N : Nat) (ad : Nat → Nat) (g : Nat → va_E) (avs : List Value) (Qr : zR) (Xr : zXR) : Prop := vx_Met l y (.code y cc mL ret :: AW) rm (zPre D A cs tt N ad g avs) (zPost D A Qr) (zX D A Xr) rm.cells rm.slots A
def zMW (l : Launch) (y : MethodName) (cc : ByteArray) (mL : Nat) (ret : Option FieldType) (hh : List (Nat × Nat × Nat × Nat)) (rm : Room) (D : va_G) (A : Nat → Prop) (cs : Nat → ClassId) (tt : Nat) (N : Nat) (ad : Nat → Nat) (g : Nat → va_E) (avs : List Value) (Qr : zR) : Prop := vx_Met l y (.codeWith y cc mL ret hh :: AW) rm (zPre D A cs tt N ad g avs) (zPost D A Qr) (fun _ _ _ => False) rm.cells rm.slots A
abbrev xE (N : Nat) (ad : Nat → Nat) (g : Nat → va_E) (E0 : String) : zXR := fun E N' ad' g' => E = E0 ∧ N' = N ∧ ad' = ad ∧ g' = g
def eNS : String := "java/util/NoSuchElementException"
def eIA : String := "java/lang/IllegalArgumentException"
def xNames : List String := ["java/lang/RuntimeException", "java/lang/Exception"]
theorem z_ofX {l : Launch} {y : MethodName} {cc : ByteArray} {mL : Nat} {ret : Option FieldType} {rm : Room} {D : va_G} {A : Nat → Prop} {cs : Nat → ClassId} {tt N : Nat} {ad : Nat → Nat} {g : Nat → va_E} {avs : List Value} {Qr : zR} {Xr : zXR} (hy : plainName y.cls = true) (hlen : (lg_sl avs).length ≤ mL)
    (body : ∀ (p : Program) (e : Env) (s : State) (m : MethodId) (below : List Frame) (meth : Method) (c : Code), zC p s m avs.toArray c cc mL y.cls D A cs tt → meth.sig.returnType = ret → meth.locks = false → (∀ x ∈ c.exceptionTable.toList, False) →
      zV p l e rm s m avs.toArray below meth c (vx_MQ below (zPost D A Qr) (zX D A Xr) avs.toArray s rm.cells rm.slots A) D A mL N ad g 0 0 0 (lv_args 0 avs) []) : zMX l y cc mL ret rm D A cs tt N ad g avs Qr Xr := by
  refine vx_ofW (cc := cc) (maxL := mL) (ret := ret) hy rfl ?_
  intro p e s m args below meth c s₁ B hml hxt hv
  obtain ⟨rfl, hE, hP, hD⟩ := hv
  have hts := atoms_spec (ws := Cond.code y cc mL ret :: AW) B.pre
  have hl := lv_entry avs (n := mL) hlen
  rw [lg_entry_eq]
  exact body p e s m below meth c ⟨B.exec, B.bytes, hml, findClass_of_methodNamed B.named, fun w h => hts w (List.mem_cons_of_mem _ h), hE⟩ B.returns B.notSynchronized hxt s.heap [] _ hP hD va_S.rf hl
theorem z_ofW {l : Launch} {y : MethodName} {cc : ByteArray} {mL : Nat} {ret : Option FieldType} {hh : List (Nat × Nat × Nat × Nat)} {rm : Room} {D : va_G} {A : Nat → Prop} {cs : Nat → ClassId} {tt N : Nat} {ad : Nat → Nat} {g : Nat → va_E} {avs : List Value} {Qr : zR} (hy : plainName y.cls = true) (hlen : (lg_sl avs).length ≤ mL)
    (body : ∀ (p : Program) (e : Env) (s : State) (m : MethodId) (below : List Frame) (meth : Method) (c : Code), zC p s m avs.toArray c cc mL y.cls D A cs tt → meth.sig.returnType = ret → meth.locks = false → c.exceptionTable.toList = tableOf hh →
      zV p l e rm s m avs.toArray below meth c (MQ below (zPost D A Qr) avs.toArray s rm.cells rm.slots A) D A mL N ad g 0 0 0 (lv_args 0 avs) []) : zMW l y cc mL ret hh rm D A cs tt N ad g avs Qr := by
  refine vx_ofWH (cc := cc) (maxL := mL) (ret := ret) (hh := hh) hy rfl ?_
  intro p e s m args below meth c s₁ B hml hv
  obtain ⟨rfl, hE, hP, hD⟩ := hv
  have hts := atoms_spec (ws := Cond.codeWith y cc mL ret hh :: AW) B.pre
  have hl := lv_entry avs (n := mL) hlen
  rw [lg_entry_eq]
  exact vx_ret (body p e s m below meth c ⟨B.exec, B.bytes, hml, findClass_of_methodNamed B.named, fun w h => hts w (List.mem_cons_of_mem _ h), hE⟩ B.returns B.notSynchronized (vx_table (x := y) (y := y) B (hts _ List.mem_cons_self)) s.heap [] _ hP hD va_S.rf hl)
section ZX
variable {p : Program} {l : Launch} {e : Env} {R : Room} {s : State} {m : MethodId} {args : Array Value} {below : List Frame} {meth : Method} {c : Code} {Q : State → Prop} {D : va_G} {A : Nat → Prop} {cs : Nat → ClassId} {tt : Nat} {cc : ByteArray} {nL : Nat} {own : String} {N : Nat} {ad : Nat → Nat} {g : Nat → va_E} {k n pc : Nat} {lv lv' : List (Nat × Value)} {rest st : List Value} {Qr : zR} {Xr Xr2 : zXR} {mc ms : Nat} {E : String}
theorem z_rX (kk : zV p l e R s m args below meth c (MQ below (zPost D A Qr) args s mc ms A) D A nL N ad g k n (pc) (lv) (st)) : zV p l e R s m args below meth c (vx_MQ below (zPost D A Qr) (zX D A Xr) args s mc ms A) D A nL N ad g k n (pc) (lv) (st) := fun H locs ls hP hD hS hl => vx_ret (kk H locs ls hP hD hS hl)
/-- at pc something was thrown: the world, the locals, what is left of the stack -/
def zU (p : Program) (l : Launch) (e : Env) (R : Room) (s : State) (m : MethodId) (args : Array Value) (below : List Frame) (meth : Method) (c : Code) (Q : State → Prop) (D : va_G) (A : Nat → Prop) (nL : Nat) (N : Nat) (ad : Nat → Nat) (g : Nat → va_E) (k n pc : Nat) (lv : List (Nat × Value)) (rest : List Value) (E : String) : Prop :=
  ∀ (H : Heap) (locs : List Loc) (ls : Array Slot) (q : Addr) (ce : Cell), va_P D vwCl (wl N ad g) H → va_D A (wl N ad g) → va_S A s.heap H locs → lv_has ls nL lv → H[q]? = some ce → ce.vm = .none → s.vm.findClass E = some ce.cls → vx_W p l e R s m args below meth c H locs k n Q (F0 m pc ls rest) q
theorem z_uout (C : zC p s m args c cc nL own D A cs tt) (hxt : ∀ x ∈ c.exceptionTable.toList, False) (hlocks : meth.locks = false) (hk : k ≤ mc) (hn : n ≤ ms) (hq : Xr E N ad g) : zU p l e R s m args below meth c (vx_MQ below (zPost D A Qr) (zX D A Xr) args s mc ms A) D A nL N ad g k n pc lv rest E :=
  fun H locs ls q ce hP hD hS hl hce hcv hcl => vx_out (fun x hx => (hxt x hx).elim) hlocks hce hcv hcl (fun t ht hal => ⟨N, ad, g, hq, by rw [ht]; exact hP, hD, hS.F ht⟩) hS.2.2 hk hn
theorem z_ucatch (C : zC p s m args c cc nL own D A cs tt) {name : String} (pre : List ExceptionTableEntry) (x : ExceptionTableEntry) (suf : List ExceptionTableEntry) (hsplit : c.exceptionTable.toList = pre ++ x :: suf) (hpass : ∀ z ∈ pre, covers z pc = false ∨ (z.catchType ≠ 0 ∧ ∃ nm : String, Cond.classLink own z.catchType nm ∈ AW ∧ va_Nc E nm s)) (hx : covers x pc = true) (h0 : x.catchType ≠ 0) (hlink : Cond.classLink own x.catchType name ∈ AW) (hcast : Cond.castable E name ∈ NW)
    (kk : ∀ q : Nat, zV p l e R s m args below meth c Q D A nL N ad g k n (x.handlerPc) (lv) ([.ref q])) : zU p l e R s m args below meth c Q D A nL N ad g k n pc lv rest E :=
  fun H locs ls q ce hP hD hS hl hce hcv hcl => vx_catch C.2.2.2.1 pre x suf hsplit (fun z hz => (hpass z hz).imp id (fun h => ⟨h.1, h.2.imp fun nm q => ⟨C.2.2.2.2.1 _ q.1, q.2⟩⟩)) hx h0 (C.2.2.2.2.1 _ hlink) (NW_use hcast (C.2.2.2.2.2.2.1 _ hcast)) hce hcv hcl (kk q H locs ls hP hD hS hl)
theorem z_runX {As : Array Value} {H : Heap} {locs : List Loc} {ls : Array Slot} {rm : Room} (hr : vx_Run p l e R s m args below meth c H locs k n rm.cells rm.slots (F0 m pc ls st) rest (zPost D A Qr As) (zX D A Xr) A) (hS : va_S A s.heap H locs) (hl : lv_has ls nL lv)
    (kk : ∀ (r : Option Value) (N' : Nat) (ad' : Nat → Nat) (g' : Nat → va_E), Qr r N' ad' g' → zV p l e R s m args below meth c Q D A nL N' ad' g' (k + rm.cells) (n + rm.slots) (pc + 3) (lv) (r.toList ++ rest))
    (kx : ∀ (E : String) (N' : Nat) (ad' : Nat → Nat) (g' : Nat → va_E), Xr E N' ad' g' → zU p l e R s m args below meth c Q D A nL N' ad' g' (k + rm.cells) (n + rm.slots) pc lv rest E) : W p l e R s m args below meth c H locs k n Q (F0 m pc ls st) := by
  intro T hT X
  rcases hr T hT X with ⟨v, st₀, t, T', L, h0, X', hL, e1, e2, ⟨r, N', ad', g', hv, hq, hP, hD, hF⟩, st9⟩ | ⟨q, st₀, t, T', L, E, ce, h0, X', hL, e1, e2, ⟨N', ad', g', hq, hP, hD, hF⟩, hce, hcv, hcl, st9⟩
  · cases hv
    obtain ⟨k1, k2, k3⟩ := vx_keep h0 e1 hS (fun q _ h => h) (fun q h => h) hL hF
    obtain ⟨t2, a1, b1⟩ := kk v N' ad' g' hq T'.heap (locs ++ L) ls (by rw [e1]; exact hP) hD k3 hl T' rfl X'
    exact ⟨t2, st9 t2 a1, b1⟩
  · obtain ⟨k1, k2, k3⟩ := vx_keep h0 e1 hS (fun q _ h => h) (fun q h => h) hL hF
    obtain ⟨t2, a1, b1⟩ := kx E N' ad' g' hq T'.heap (locs ++ L) ls q ce (by rw [e1]; exact hP) hD k3 hl (by rw [e1]; exact hce) hcv hcl T' rfl X'
    exact ⟨t2, st9.trans a1, b1⟩
theorem z_cVX (C : zC p s m args c cc nL own D A cs tt) {y : MethodName} {cb : ByteArray} {mL index : Nat} {ret : Option FieldType} {rm : Room} {As : List Value} {i a ci : Nat} {fs : List Value} {q : vw_C} (hM : zMX l y cb mL ret rm D A cs tt N ad g (.ref a :: As) Qr Xr) (hi : i < N) (ha : ad i = a) (hg : g i = oC ci fs) (hc : vwCl[ci]? = some q) (hq : q.1 = y.cls) (hw : zWv y cb mL ret) (hlk : Cond.methodLink own index y ∈ AW) (hd : y.cls ≠ "java/lang/invoke/MethodHandle" ∧ y.cls ≠ "java/lang/invoke/VarHandle" ∧ (parseMethodDescriptor y.desc).map (fun d => d.parameters.length) = some As.length) (hR : rm.frames + 1 ≤ R.frames ∧ 8 + (mL + 11) + rm.locals ≤ R.locals) (hrest : (rest.map fun v => v.category).sum ≤ 8) (hf : k + rm.cells ≤ R.cells ∧ n + rm.slots ≤ R.slots) (hdg : decode cc pc = .ok (.invokevirtual index, 3)) (hst : st = As.reverse ++ .ref a :: rest)
    (kx : ∀ (E : String) (N' : Nat) (ad' : Nat → Nat) (g' : Nat → va_E), Xr E N' ad' g' → zU p l e R s m args below meth c Q D A nL N' ad' g' (k + rm.cells) (n + rm.slots) pc lv rest E)
    (kk : ∀ (r : Option Value) (N' : Nat) (ad' : Nat → Nat) (g' : Nat → va_E), Qr r N' ad' g' → zV p l e R s m args below meth c Q D A nL N' ad' g' (k + rm.cells) (n + rm.slots) (pc + 3) (lv) (r.toList ++ rest)) : zV p l e R s m args below meth c Q D A nL N ad g k n (pc) (lv) (st) := fun H locs ls hP hD hS hl => by
  have hG : GoodIn AW (wsV own index y.cls y (Cond.code y cb mL ret :: AW)) := AW_in (fun w h => by
    rcases List.mem_append.mp h with h | h
    · rcases List.mem_cons.mp h with rfl | h
      · exact hlk
      · rcases List.mem_cons.mp h with rfl | h
        · exact hw.1
        · rcases List.mem_cons.mp h with rfl | h
          · exact hw.2.1
          · rcases List.mem_cons.mp h with rfl | h
            · exact hw.2.2.1
            · exact absurd h List.not_mem_nil
    · rcases List.mem_cons.mp h with rfl | h
      · exact hw.2.2.2
      · exact h)
  have hrc : ∃ cell : Cell, H[a]? = some cell ∧ cell.vm.isStatics = false ∧ s.vm.findClass y.cls = some cell.cls := by
    rw [← hq]; exact va_recv C.2.2.2.2.2.1 hP hc ((wl_at hi).trans (by rw [hg, ha]))
  exact z_runX (vx_runV (As := As) (rest := rest) ⟨C.1, C.2.1, C.2.2.1, C.2.2.2.1, C.2.2.2.2.1⟩ hM (cwV As.length C.2.2.2.2.1 hG rfl rfl rfl ⟨rfl, hd⟩ hR) ⟨zPre.blind, hrc, (z_preS C hP hD hS).2⟩ rfl rfl hl.1 hst (lv_room hrest) hdg hf) hS hl kk kx
theorem z_cSX (C : zC p s m args c cc nL own D A cs tt) {y : MethodName} {cb : ByteArray} {mL index : Nat} {ret : Option FieldType} {rm : Room} {As : List Value} (hM : zMX l y cb mL ret rm D A cs tt N ad g As Qr Xr) (hw : zWs y cb mL ret) (hlk : Cond.methodLink own index y ∈ AW) (hd : y.cls ≠ "java/lang/invoke/MethodHandle" ∧ y.cls ≠ "java/lang/invoke/VarHandle" ∧ (parseMethodDescriptor y.desc).map (fun d => d.parameters.length) = some As.length) (hR : rm.frames + 1 ≤ R.frames ∧ 8 + (mL + 11) + rm.locals ≤ R.locals) (hrest : (rest.map fun v => v.category).sum ≤ 8) (hf : k + rm.cells ≤ R.cells ∧ n + rm.slots ≤ R.slots) (hdg : decode cc pc = .ok (.invokestatic index, 3)) (hst : st = As.reverse ++ rest)
    (kx : ∀ (E : String) (N' : Nat) (ad' : Nat → Nat) (g' : Nat → va_E), Xr E N' ad' g' → zU p l e R s m args below meth c Q D A nL N' ad' g' (k + rm.cells) (n + rm.slots) pc lv rest E)
    (kk : ∀ (r : Option Value) (N' : Nat) (ad' : Nat → Nat) (g' : Nat → va_E), Qr r N' ad' g' → zV p l e R s m args below meth c Q D A nL N' ad' g' (k + rm.cells) (n + rm.slots) (pc + 3) (lv) (r.toList ++ rest)) : zV p l e R s m args below meth c Q D A nL N ad g k n (pc) (lv) (st) := fun H locs ls hP hD hS hl => by
  have hG : GoodIn AW (va_wsS own index y (Cond.code y cb mL ret :: AW)) := AW_in (fun w h => by
    rcases List.mem_append.mp h with h | h
    · rcases List.mem_cons.mp h with rfl | h
      · exact hlk
      · rcases List.mem_cons.mp h with rfl | h
        · exact hw.1
        · rcases List.mem_cons.mp h with rfl | h
          · exact hw.2.1
          · exact absurd h List.not_mem_nil
    · rcases List.mem_cons.mp h with rfl | h
      · exact hw.2.2
      · exact h)
  exact z_runX (vx_runS (As := As) (rest := rest) ⟨C.1, C.2.1, C.2.2.1, C.2.2.2.1, C.2.2.2.2.1⟩ hM (va_cwS As.length C.2.2.2.2.1 hG rfl rfl rfl hd hR) (z_preS C hP hD hS) rfl rfl hl.1 hst (lv_room hrest) hdg hf) hS hl kk kx
def zWw (y : MethodName) (cb : ByteArray) (mL : Nat) (ret : Option FieldType) (hh : List (Nat × Nat × Nat × Nat)) : Prop := Cond.static y ∈ AW ∧ Cond.initialized y.cls ∈ AW ∧ Cond.codeWith y cb mL ret hh ∈ AW
theorem z_cSW (C : zC p s m args c cc nL own D A cs tt) {y : MethodName} {cb : ByteArray} {mL index : Nat} {ret : Option FieldType} {rm : Room} {As : List Value} {hh : List (Nat × Nat × Nat × Nat)} (hM : zMW l y cb mL ret hh rm D A cs tt N ad g As Qr) (hw : zWw y cb mL ret hh) (hlk : Cond.methodLink own index y ∈ AW) (hd : y.cls ≠ "java/lang/invoke/MethodHandle" ∧ y.cls ≠ "java/lang/invoke/VarHandle" ∧ (parseMethodDescriptor y.desc).map (fun d => d.parameters.length) = some As.length) (hR : rm.frames + 1 ≤ R.frames ∧ 8 + (mL + 11) + rm.locals ≤ R.locals) (hrest : (rest.map fun v => v.category).sum ≤ 8) (hf : k + rm.cells ≤ R.cells ∧ n + rm.slots ≤ R.slots) (hdg : decode cc pc = .ok (.invokestatic index, 3)) (hst : st = As.reverse ++ rest)
    (kk : ∀ (r : Option Value) (N' : Nat) (ad' : Nat → Nat) (g' : Nat → va_E), Qr r N' ad' g' → zV p l e R s m args below meth c Q D A nL N' ad' g' (k + rm.cells) (n + rm.slots) (pc + 3) (lv) (r.toList ++ rest)) : zV p l e R s m args below meth c Q D A nL N ad g k n (pc) (lv) (st) := fun H locs ls hP hD hS hl => by
  have hG : GoodIn AW (va_wsS own index y (Cond.codeWith y cb mL ret hh :: AW)) := AW_in (fun w h => by
    rcases List.mem_append.mp h with h | h
    · rcases List.mem_cons.mp h with rfl | h
      · exact hlk
      · rcases List.mem_cons.mp h with rfl | h
        · exact hw.1
        · rcases List.mem_cons.mp h with rfl | h
          · exact hw.2.1
          · exact absurd h List.not_mem_nil
    · rcases List.mem_cons.mp h with rfl | h
      · exact hw.2.2
      · exact h)
  intro T hT X
  rcases vx_runSX (As := As) (rest := rest) ⟨C.1, C.2.1, C.2.2.1, C.2.2.2.1, C.2.2.2.2.1⟩ hM (vx_cwSW As.length C.2.2.2.2.1 hG rfl rfl rfl hd hR) (z_preS C hP hD hS) rfl rfl hl.1 hst (lv_room hrest) hdg hf T hT X with h | ⟨_, _, _, _, _, _, _, _, _, _, _, _, hF, _⟩
  · exact z_run (k := k) (n := n) (rm := rm) (As := As.toArray) (Qr := Qr) (fun T2 hT2 X2 => (vx_runSX (As := As) (rest := rest) ⟨C.1, C.2.1, C.2.2.1, C.2.2.2.1, C.2.2.2.2.1⟩ hM (vx_cwSW As.length C.2.2.2.2.1 hG rfl rfl rfl hd hR) (z_preS C hP hD hS) rfl rfl hl.1 hst (lv_room hrest) hdg hf T2 hT2 X2).elim (fun h => h) (fun ⟨_, _, _, _, _, _, _, _, _, _, _, _, hF, _⟩ => hF.elim)) hS hl kk T hT X
  · exact hF.elim
theorem z_thr (C : zC p s m args c cc nL own D A cs tt) (hl0 : l.stackTraces = false) {cls text : String} {ik is ic : Nat} (hcls : Bundle.fit cls = true) (hk : Cond.classLink own ik cls ∈ AW) (hini : Cond.initialized cls ∈ AW) (hstr : (own, is, text) ∈ SRL) (hat : ∀ w ∈ vx_atS own ic cls xNames, w ∈ AW ∨ w ∈ NW)
    (hgood : ∀ w ∈ Cond.classLink own ik cls :: Cond.initialized cls :: vx_atS own ic cls xNames, vx_ot w = true)
    (d0 : decode cc pc = .ok (.new ik, 3)) (d3 : decode cc (pc + 3) = .ok (.dup, 1)) (d4 : decode cc (pc + 4) = .ok (.ldc is, 2)) (d6 : decode cc (pc + 6) = .ok (.invokespecial ic, 3)) (d9 : decode cc (pc + 9) = .ok (.athrow, 1))
    (hxt : ∀ x ∈ c.exceptionTable.toList, False) (hRframes : 5 < R.frames) (hRlocals : (rest.map fun v => v.category).sum + 82 ≤ R.locals) (hRcells : k + 1 ≤ R.cells) (hRslots : n + 6 ≤ R.slots) (hlocks : meth.locks = false) (hmc : k + 1 ≤ mc) (hms : n + 6 ≤ ms) (hq : Xr cls N ad g) : zV p l e R s m args below meth c (vx_MQ below (zPost D A Qr) (zX D A Xr) args s mc ms A) D A nL N ad g k n (pc) (lv) (rest) := fun H locs ls hP hD hS hl => by
  obtain ⟨sa, hs⟩ := C.2.2.2.2.2.2.2.2.2.2.2.1 _ hstr
  exact vx_throwS C.1 C.2.1 hl0 C.2.2.2.1 hcls (by decide +kernel : ∀ n ∈ xNames, Bundle.fit n = true) (C.2.2.2.2.1 _ hk) (C.2.2.2.2.1 _ hini) hs (fun w h => (hat w h).elim (C.2.2.2.2.1 w) (fun q => NW_use q (C.2.2.2.2.2.2.1 _ q))) hgood C.2.2.2.2.2.2.2.2.2.2.1.1 C.2.2.2.2.2.2.2.2.2.2.1.2 hS (hl.1.trans C.2.2.1.symm) d0 d3 d4 d6 d9 (fun x hx => (hxt x hx).elim) hRframes hRlocals hRcells hRslots hlocks (fun t hal hz hold => ⟨N, ad, g, hq, hP.kept (fun k9 q9 h9 => hold q9.1 ((hP k9 q9 h9).lt)), hD, ⟨Nat.le_trans hS.1 hz, fun q h1 h2 => (hold q (Nat.lt_of_lt_of_le h1 hS.1)).trans (hS.2.1 q h1 h2)⟩⟩) hS.2.2 hmc hms
theorem z_thrW (C : zC p s m args c cc nL own D A cs tt) (hl0 : l.stackTraces = false) {cls text : String} {ik is ic : Nat} (hcls : Bundle.fit cls = true) (hk : Cond.classLink own ik cls ∈ AW) (hini : Cond.initialized cls ∈ AW) (hstr : (own, is, text) ∈ SRL) (hat : ∀ w ∈ vx_atS own ic cls xNames, w ∈ AW ∨ w ∈ NW)
    (hgood : ∀ w ∈ Cond.classLink own ik cls :: Cond.initialized cls :: vx_atS own ic cls xNames, vx_ot w = true)
    (d0 : decode cc pc = .ok (.new ik, 3)) (d3 : decode cc (pc + 3) = .ok (.dup, 1)) (d4 : decode cc (pc + 4) = .ok (.ldc_w is, 3)) (d6 : decode cc (pc + 7) = .ok (.invokespecial ic, 3)) (d9 : decode cc (pc + 10) = .ok (.athrow, 1))
    (hxt : ∀ x ∈ c.exceptionTable.toList, False) (hRframes : 5 < R.frames) (hRlocals : (rest.map fun v => v.category).sum + 82 ≤ R.locals) (hRcells : k + 1 ≤ R.cells) (hRslots : n + 6 ≤ R.slots) (hlocks : meth.locks = false) (hmc : k + 1 ≤ mc) (hms : n + 6 ≤ ms) (hq : Xr cls N ad g) : zV p l e R s m args below meth c (vx_MQ below (zPost D A Qr) (zX D A Xr) args s mc ms A) D A nL N ad g k n (pc) (lv) (rest) := fun H locs ls hP hD hS hl => by
  obtain ⟨sa, hs⟩ := C.2.2.2.2.2.2.2.2.2.2.2.1 _ hstr
  exact vx_throwSW C.1 C.2.1 hl0 C.2.2.2.1 hcls (by decide +kernel : ∀ n ∈ xNames, Bundle.fit n = true) (C.2.2.2.2.1 _ hk) (C.2.2.2.2.1 _ hini) hs (fun w h => (hat w h).elim (C.2.2.2.2.1 w) (fun q => NW_use q (C.2.2.2.2.2.2.1 _ q))) hgood C.2.2.2.2.2.2.2.2.2.2.1.1 C.2.2.2.2.2.2.2.2.2.2.1.2 hS (hl.1.trans C.2.2.1.symm) d0 d3 d4 d6 d9 (fun x hx => (hxt x hx).elim) hRframes hRlocals hRcells hRslots hlocks (fun t hal hz hold => ⟨N, ad, g, hq, hP.kept (fun k9 q9 h9 => hold q9.1 ((hP k9 q9 h9).lt)), hD, ⟨Nat.le_trans hS.1 hz, fun q h1 h2 => (hold q (Nat.lt_of_lt_of_le h1 hS.1)).trans (hS.2.1 q h1 h2)⟩⟩) hS.2.2 hmc hms
theorem z_thrN (C : zC p s m args c cc nL own D A cs tt) (hl0 : l.stackTraces = false) {cls text : String} {ik is ic : Nat} {ix : Nat} {rx : ByteArray} (x0 : decode rx 0 = .ok (.aload_n 0, 1)) (x1 : decode rx 1 = .ok (.aload_n 1, 1)) (x2 : decode rx 2 = .ok (.invokespecial ix, 3)) (x5 : decode rx 5 = .ok (.return_, 1)) (hcls : Bundle.fit cls = true) (hk : Cond.classLink own ik cls ∈ AW) (hini : Cond.initialized cls ∈ AW) (hstr : (own, is, text) ∈ SRL) (hat : ∀ w ∈ zx_at own ic cls ix rx xNames, w ∈ AW ∨ w ∈ NW)
    (hgood : ∀ w ∈ Cond.classLink own ik cls :: Cond.initialized cls :: zx_at own ic cls ix rx xNames, vx_ot w = true)
    (d0 : decode cc pc = .ok (.new ik, 3)) (d3 : decode cc (pc + 3) = .ok (.dup, 1)) (d4 : decode cc (pc + 4) = .ok (.ldc is, 2)) (d6 : decode cc (pc + 6) = .ok (.invokespecial ic, 3)) (d9 : decode cc (pc + 9) = .ok (.athrow, 1))
    (hxt : ∀ x ∈ c.exceptionTable.toList, False) (hRframes : 5 < R.frames) (hRlocals : (rest.map fun v => v.category).sum + 82 ≤ R.locals) (hRcells : k + 1 ≤ R.cells) (hRslots : n + 6 ≤ R.slots) (hlocks : meth.locks = false) (hmc : k + 1 ≤ mc) (hms : n + 6 ≤ ms) (hq : Xr cls N ad g) : zV p l e R s m args below meth c (vx_MQ below (zPost D A Qr) (zX D A Xr) args s mc ms A) D A nL N ad g k n (pc) (lv) (rest) := fun H locs ls hP hD hS hl => by
  obtain ⟨sa, hs⟩ := C.2.2.2.2.2.2.2.2.2.2.2.1 _ hstr
  exact zx_throwS C.1 C.2.1 hl0 x0 x1 x2 x5 C.2.2.2.1 hcls (by decide +kernel : ∀ n ∈ xNames, Bundle.fit n = true) (C.2.2.2.2.1 _ hk) (C.2.2.2.2.1 _ hini) hs (fun w h => (hat w h).elim (C.2.2.2.2.1 w) (fun q => NW_use q (C.2.2.2.2.2.2.1 _ q))) hgood C.2.2.2.2.2.2.2.2.2.2.1.1 C.2.2.2.2.2.2.2.2.2.2.1.2 hS (hl.1.trans C.2.2.1.symm) d0 d3 d4 d6 d9 (fun x hx => (hxt x hx).elim) hRframes hRlocals hRcells hRslots hlocks (fun t hal hz hold => ⟨N, ad, g, hq, hP.kept (fun k9 q9 h9 => hold q9.1 ((hP k9 q9 h9).lt)), hD, ⟨Nat.le_trans hS.1 hz, fun q h1 h2 => (hold q (Nat.lt_of_lt_of_le h1 hS.1)).trans (hS.2.1 q h1 h2)⟩⟩) hS.2.2 hmc hms
theorem z_thrNW (C : zC p s m args c cc nL own D A cs tt) (hl0 : l.stackTraces = false) {cls text : String} {ik is ic : Nat} {ix : Nat} {rx : ByteArray} (x0 : decode rx 0 = .ok (.aload_n 0, 1)) (x1 : decode rx 1 = .ok (.aload_n 1, 1)) (x2 : decode rx 2 = .ok (.invokespecial ix, 3)) (x5 : decode rx 5 = .ok (.return_, 1)) (hcls : Bundle.fit cls = true) (hk : Cond.classLink own ik cls ∈ AW) (hini : Cond.initialized cls ∈ AW) (hstr : (own, is, text) ∈ SRL) (hat : ∀ w ∈ zx_at own ic cls ix rx xNames, w ∈ AW ∨ w ∈ NW)
    (hgood : ∀ w ∈ Cond.classLink own ik cls :: Cond.initialized cls :: zx_at own ic cls ix rx xNames, vx_ot w = true)
    (d0 : decode cc pc = .ok (.new ik, 3)) (d3 : decode cc (pc + 3) = .ok (.dup, 1)) (d4 : decode cc (pc + 4) = .ok (.ldc_w is, 3)) (d6 : decode cc (pc + 7) = .ok (.invokespecial ic, 3)) (d9 : decode cc (pc + 10) = .ok (.athrow, 1))
    (hxt : ∀ x ∈ c.exceptionTable.toList, False) (hRframes : 5 < R.frames) (hRlocals : (rest.map fun v => v.category).sum + 82 ≤ R.locals) (hRcells : k + 1 ≤ R.cells) (hRslots : n + 6 ≤ R.slots) (hlocks : meth.locks = false) (hmc : k + 1 ≤ mc) (hms : n + 6 ≤ ms) (hq : Xr cls N ad g) : zV p l e R s m args below meth c (vx_MQ below (zPost D A Qr) (zX D A Xr) args s mc ms A) D A nL N ad g k n (pc) (lv) (rest) := fun H locs ls hP hD hS hl => by
  obtain ⟨sa, hs⟩ := C.2.2.2.2.2.2.2.2.2.2.2.1 _ hstr
  exact zx_throwSW C.1 C.2.1 hl0 x0 x1 x2 x5 C.2.2.2.1 hcls (by decide +kernel : ∀ n ∈ xNames, Bundle.fit n = true) (C.2.2.2.2.1 _ hk) (C.2.2.2.2.1 _ hini) hs (fun w h => (hat w h).elim (C.2.2.2.2.1 w) (fun q => NW_use q (C.2.2.2.2.2.2.1 _ q))) hgood C.2.2.2.2.2.2.2.2.2.2.1.1 C.2.2.2.2.2.2.2.2.2.2.1.2 hS (hl.1.trans C.2.2.1.symm) d0 d3 d4 d6 d9 (fun x hx => (hxt x hx).elim) hRframes hRlocals hRcells hRslots hlocks (fun t hal hz hold => ⟨N, ad, g, hq, hP.kept (fun k9 q9 h9 => hold q9.1 ((hP k9 q9 h9).lt)), hD, ⟨Nat.le_trans hS.1 hz, fun q h1 h2 => (hold q (Nat.lt_of_lt_of_le h1 hS.1)).trans (hS.2.1 q h1 h2)⟩⟩) hS.2.2 hmc hms
end ZX
theorem at_IA : ∀ w ∈ vx_atS RX9 90 eIA xNames, w ∈ AW ∨ w ∈ NW := by decide +kernel
abbrev nsB : ByteArray := prog_34_method_4_code
theorem ns0 : decode nsB 0 = .ok (.aload_n 0, 1) := by decide +kernel
theorem ns1 : decode nsB 1 = .ok (.aload_n 1, 1) := by decide +kernel
theorem ns2 : decode nsB 2 = .ok (.invokespecial 13, 3) := by decide +kernel
theorem ns5 : decode nsB 5 = .ok (.return_, 1) := by decide +kernel
theorem at_NS : ∀ w ∈ zx_at RX9 169 eNS 13 nsB xNames, w ∈ AW ∨ w ∈ NW := by decide +kernel
theorem gd_IA : ∀ w ∈ Cond.classLink RX9 86 eIA :: Cond.initialized eIA :: vx_atS RX9 90 eIA xNames, vx_ot w = true := by decide +kernel
theorem gd_NS : ∀ w ∈ Cond.classLink RX9 165 eNS :: Cond.initialized eNS :: zx_at RX9 169 eNS 13 nsB xNames, vx_ot w = true := by decide +kernel
end
section
-- words of throws
theorem q_1 : (Jvm.Cond.initialized "SnowRecorder") ∈ AW := AW_m 120 (by decide +kernel) (by decide +kernel)
theorem q_1316 : (Jvm.Cond.methodLink "SnowRecorder" (338 : Nat) ({ cls := "SnowRecorder", name := "needPit", desc := "(I)V" } : Jvm.MethodName)) ∈ AW := AW_m 1435 (by decide +kernel) (by decide +kernel)
theorem q_1318 : (Jvm.Cond.instanceMethod ({ cls := "SnowRecorder", name := "needPit", desc := "(I)V" } : Jvm.MethodName)) ∈ AW := AW_m 1437 (by decide +kernel) (by decide +kernel)
theorem q_1319 : (Jvm.Cond.code ({ cls := "SnowRecorder", name := "needPit", desc := "(I)V" } : Jvm.MethodName) prog_1_method_41_code (2 : Nat) (Option.none : Option Jvm.ClassFile.FieldType)) ∈ AW := AW_m 1438 (by decide +kernel) (by decide +kernel)
theorem q_177 : (Jvm.Cond.fieldLink "SnowRecorder" (128 : Nat) "SnowRecorder$World" "names" "I") ∈ AW := AW_m 296 (by decide +kernel) (by decide +kernel)
theorem q_186 : (Jvm.Cond.fieldLink "SnowRecorder" (150 : Nat) "SnowRecorder$World" "pits" "I") ∈ AW := AW_m 305 (by decide +kernel) (by decide +kernel)
theorem q_24 : (Jvm.Cond.initialized "java/util/NoSuchElementException") ∈ AW := AW_m 143 (by decide +kernel) (by decide +kernel)
theorem q_258 : (Jvm.Cond.fieldLink "SnowRecorder" (112 : Nat) "SnowRecorder$State" "now" "LSnowRecorder$World;") ∈ AW := AW_m 377 (by decide +kernel) (by decide +kernel)
theorem q_537 : (Jvm.Cond.methodLink "SnowRecorder" (268 : Nat) ({ cls := "SnowRecorder", name := "isSlope", desc := "(I)Z" } : Jvm.MethodName)) ∈ AW := AW_m 656 (by decide +kernel) (by decide +kernel)
theorem q_539 : (Jvm.Cond.instanceMethod ({ cls := "SnowRecorder", name := "isSlope", desc := "(I)Z" } : Jvm.MethodName)) ∈ AW := AW_m 658 (by decide +kernel) (by decide +kernel)
theorem q_540 : (Jvm.Cond.code ({ cls := "SnowRecorder", name := "isSlope", desc := "(I)Z" } : Jvm.MethodName) prog_1_method_37_code (2 : Nat) (Option.some Jvm.ClassFile.FieldType.boolean)) ∈ AW := AW_m 659 (by decide +kernel) (by decide +kernel)
theorem q_90 : (Jvm.Cond.fieldLink "SnowRecorder" (115 : Nat) "SnowRecorder$Plan" "slopes" "I") ∈ AW := AW_m 209 (by decide +kernel) (by decide +kernel)
theorem q_904 : (Jvm.Cond.classLink "SnowRecorder" (165 : Nat) "java/util/NoSuchElementException") ∈ AW := AW_m 1023 (by decide +kernel) (by decide +kernel)
theorem q_93 : (Jvm.Cond.fieldLink "SnowRecorder" (118 : Nat) "SnowRecorder$Plan" "hours" "I") ∈ AW := AW_m 212 (by decide +kernel) (by decide +kernel)
theorem q_936 : (Jvm.Cond.methodLink "SnowRecorder" (183 : Nat) ({ cls := "SnowRecorder", name := "packOf", desc := "(I)LSnowRecorder$Pack;" } : Jvm.MethodName)) ∈ AW := AW_m 1055 (by decide +kernel) (by decide +kernel)
theorem q_938 : (Jvm.Cond.instanceMethod ({ cls := "SnowRecorder", name := "packOf", desc := "(I)LSnowRecorder$Pack;" } : Jvm.MethodName)) ∈ AW := AW_m 1057 (by decide +kernel) (by decide +kernel)
theorem q_939 : (Jvm.Cond.code ({ cls := "SnowRecorder", name := "packOf", desc := "(I)LSnowRecorder$Pack;" } : Jvm.MethodName) prog_1_method_39_code (2 : Nat) (Option.some (Jvm.ClassFile.FieldType.object "SnowRecorder$Pack"))) ∈ AW := AW_m 1058 (by decide +kernel) (by decide +kernel)
theorem q_940 : (Jvm.Cond.methodLink "SnowRecorder" (300 : Nat) ({ cls := "SnowRecorder", name := "needSlope", desc := "(I)V" } : Jvm.MethodName)) ∈ AW := AW_m 1059 (by decide +kernel) (by decide +kernel)
theorem q_942 : (Jvm.Cond.instanceMethod ({ cls := "SnowRecorder", name := "needSlope", desc := "(I)V" } : Jvm.MethodName)) ∈ AW := AW_m 1061 (by decide +kernel) (by decide +kernel)
theorem q_943 : (Jvm.Cond.code ({ cls := "SnowRecorder", name := "needSlope", desc := "(I)V" } : Jvm.MethodName) prog_1_method_38_code (2 : Nat) (Option.none : Option Jvm.ClassFile.FieldType)) ∈ AW := AW_m 1062 (by decide +kernel) (by decide +kernel)
theorem s_23 : Cond.selects "SnowRecorder" ({ cls := "SnowRecorder", name := "packOf", desc := "(I)LSnowRecorder$Pack;" } : Jvm.MethodName) ({ cls := "SnowRecorder", name := "packOf", desc := "(I)LSnowRecorder$Pack;" } : Jvm.MethodName) ∈ AW := AW_m 23 (by decide +kernel) (by decide +kernel)
theorem s_24 : Cond.selects "SnowRecorder" ({ cls := "SnowRecorder", name := "needSlope", desc := "(I)V" } : Jvm.MethodName) ({ cls := "SnowRecorder", name := "needSlope", desc := "(I)V" } : Jvm.MethodName) ∈ AW := AW_m 24 (by decide +kernel) (by decide +kernel)
theorem s_29 : Cond.selects "SnowRecorder" ({ cls := "SnowRecorder", name := "needPit", desc := "(I)V" } : Jvm.MethodName) ({ cls := "SnowRecorder", name := "needPit", desc := "(I)V" } : Jvm.MethodName) ∈ AW := AW_m 29 (by decide +kernel) (by decide +kernel)
theorem s_5 : Cond.selects "SnowRecorder" ({ cls := "SnowRecorder", name := "isSlope", desc := "(I)Z" } : Jvm.MethodName) ({ cls := "SnowRecorder", name := "isSlope", desc := "(I)Z" } : Jvm.MethodName) ∈ AW := AW_m 5 (by decide +kernel) (by decide +kernel)
theorem hd_yX9_isSlope : yX9_isSlope.cls ≠ "java/lang/invoke/MethodHandle" ∧ yX9_isSlope.cls ≠ "java/lang/invoke/VarHandle" ∧ (parseMethodDescriptor yX9_isSlope.desc).map (fun d => d.parameters.length) = some 1 := by decide +kernel
theorem hd_yX9_needSlope : yX9_needSlope.cls ≠ "java/lang/invoke/MethodHandle" ∧ yX9_needSlope.cls ≠ "java/lang/invoke/VarHandle" ∧ (parseMethodDescriptor yX9_needSlope.desc).map (fun d => d.parameters.length) = some 1 := by decide +kernel
theorem hd_yX9_packOf : yX9_packOf.cls ≠ "java/lang/invoke/MethodHandle" ∧ yX9_packOf.cls ≠ "java/lang/invoke/VarHandle" ∧ (parseMethodDescriptor yX9_packOf.desc).map (fun d => d.parameters.length) = some 1 := by decide +kernel
theorem hd_yX9_needPit : yX9_needPit.cls ≠ "java/lang/invoke/MethodHandle" ∧ yX9_needPit.cls ≠ "java/lang/invoke/VarHandle" ∧ (parseMethodDescriptor yX9_needPit.desc).map (fun d => d.parameters.length) = some 1 := by decide +kernel
theorem mv_yX9_isSlope : zWv yX9_isSlope cX9_isSlope 2 (some .boolean) := ⟨q_539, s_5, q_1, q_540⟩
theorem mv_yX9_needSlope : zWv yX9_needSlope cX9_needSlope 2 none := ⟨q_942, s_24, q_1, q_943⟩
theorem mv_yX9_packOf : zWv yX9_packOf cX9_packOf 2 (some (.object "SnowRecorder$Pack")) := ⟨q_938, s_23, q_1, q_939⟩
theorem mv_yX9_needPit : zWv yX9_needPit cX9_needPit 2 none := ⟨q_1318, s_29, q_1, q_1319⟩
end
section
-- decode rows of throws
theorem dX9_isSlope_0 : decode cX9_isSlope 0 = .ok (.iload_n 1, 1) := by decide +kernel
theorem dX9_isSlope_1 : decode cX9_isSlope 1 = .ok (.ifCond .lt 18, 3) := by decide +kernel
theorem dX9_isSlope_19 : decode cX9_isSlope 19 = .ok (.iconst 0, 1) := by decide +kernel
theorem dX9_isSlope_20 : decode cX9_isSlope 20 = .ok (.ireturn, 1) := by decide +kernel
theorem dX9_isSlope_4 : decode cX9_isSlope 4 = .ok (.iload_n 1, 1) := by decide +kernel
theorem dX9_isSlope_5 : decode cX9_isSlope 5 = .ok (.aload_n 0, 1) := by decide +kernel
theorem dX9_isSlope_6 : decode cX9_isSlope 6 = .ok (.getfield 30, 3) := by decide +kernel
theorem dX9_isSlope_9 : decode cX9_isSlope 9 = .ok (.getfield 115, 3) := by decide +kernel
theorem dX9_isSlope_12 : decode cX9_isSlope 12 = .ok (.if_icmp .ge 7, 3) := by decide +kernel
theorem dX9_needSlope_0 : decode cX9_needSlope 0 = .ok (.aload_n 0, 1) := by decide +kernel
theorem dX9_needSlope_1 : decode cX9_needSlope 1 = .ok (.iload_n 1, 1) := by decide +kernel
theorem dX9_needSlope_2 : decode cX9_needSlope 2 = .ok (.invokevirtual 268, 3) := by decide +kernel
theorem dX9_needSlope_5 : decode cX9_needSlope 5 = .ok (.ifCond .ne 14, 3) := by decide +kernel
theorem dX9_needSlope_8 : decode cX9_needSlope 8 = .ok (.new 165, 3) := by decide +kernel
theorem dX9_needSlope_11 : decode cX9_needSlope 11 = .ok (.dup, 1) := by decide +kernel
theorem dX9_needSlope_12 : decode cX9_needSlope 12 = .ok (.ldc_w 414, 3) := by decide +kernel
theorem dX9_needSlope_15 : decode cX9_needSlope 15 = .ok (.invokespecial 169, 3) := by decide +kernel
theorem dX9_needSlope_18 : decode cX9_needSlope 18 = .ok (.athrow, 1) := by decide +kernel
theorem dX9_packOf_0 : decode cX9_packOf 0 = .ok (.aload_n 0, 1) := by decide +kernel
theorem dX9_packOf_1 : decode cX9_packOf 1 = .ok (.iload_n 1, 1) := by decide +kernel
theorem dX9_packOf_2 : decode cX9_packOf 2 = .ok (.invokevirtual 300, 3) := by decide +kernel
theorem dX9_needPit_0 : decode cX9_needPit 0 = .ok (.iload_n 1, 1) := by decide +kernel
theorem dX9_needPit_1 : decode cX9_needPit 1 = .ok (.ifCond .lt 17, 3) := by decide +kernel
theorem dX9_needPit_18 : decode cX9_needPit 18 = .ok (.new 165, 3) := by decide +kernel
theorem dX9_needPit_21 : decode cX9_needPit 21 = .ok (.dup, 1) := by decide +kernel
theorem dX9_needPit_22 : decode cX9_needPit 22 = .ok (.ldc_w 418, 3) := by decide +kernel
theorem dX9_needPit_25 : decode cX9_needPit 25 = .ok (.invokespecial 169, 3) := by decide +kernel
theorem dX9_needPit_28 : decode cX9_needPit 28 = .ok (.athrow, 1) := by decide +kernel
theorem dX9_needPit_4 : decode cX9_needPit 4 = .ok (.iload_n 1, 1) := by decide +kernel
theorem dX9_needPit_5 : decode cX9_needPit 5 = .ok (.aload_n 0, 1) := by decide +kernel
theorem dX9_needPit_6 : decode cX9_needPit 6 = .ok (.getfield 37, 3) := by decide +kernel
theorem dX9_needPit_9 : decode cX9_needPit 9 = .ok (.getfield 112, 3) := by decide +kernel
theorem dX9_needPit_12 : decode cX9_needPit 12 = .ok (.getfield 150, 3) := by decide +kernel
theorem dX9_needPit_15 : decode cX9_needPit 15 = .ok (.if_icmp .lt 14, 3) := by decide +kernel
theorem dX9_slope_0 : decode cX9_slope 0 = .ok (.aload_n 0, 1) := by decide +kernel
theorem dX9_slope_1 : decode cX9_slope 1 = .ok (.iload_n 1, 1) := by decide +kernel
theorem dX9_slope_2 : decode cX9_slope 2 = .ok (.invokevirtual 183, 3) := by decide +kernel
theorem dX9_layer_0 : decode cX9_layer 0 = .ok (.aload_n 0, 1) := by decide +kernel
theorem dX9_layer_1 : decode cX9_layer 1 = .ok (.iload_n 1, 1) := by decide +kernel
theorem dX9_layer_2 : decode cX9_layer 2 = .ok (.invokevirtual 183, 3) := by decide +kernel
theorem dX9_told_0 : decode cX9_told 0 = .ok (.aload_n 0, 1) := by decide +kernel
theorem dX9_told_1 : decode cX9_told 1 = .ok (.iload_n 1, 1) := by decide +kernel
theorem dX9_told_2 : decode cX9_told 2 = .ok (.invokevirtual 183, 3) := by decide +kernel
theorem dX9_then_0 : decode cX9_then 0 = .ok (.aload_n 0, 1) := by decide +kernel
theorem dX9_then_1 : decode cX9_then 1 = .ok (.iload_n 1, 1) := by decide +kernel
theorem dX9_then_2 : decode cX9_then 2 = .ok (.invokevirtual 300, 3) := by decide +kernel
theorem dX9_once_0 : decode cX9_once 0 = .ok (.aload_n 0, 1) := by decide +kernel
theorem dX9_once_1 : decode cX9_once 1 = .ok (.iload_n 1, 1) := by decide +kernel
theorem dX9_once_2 : decode cX9_once 2 = .ok (.invokevirtual 300, 3) := by decide +kernel
theorem dX9_stands_0 : decode cX9_stands 0 = .ok (.aload_n 0, 1) := by decide +kernel
theorem dX9_stands_1 : decode cX9_stands 1 = .ok (.iload_n 1, 1) := by decide +kernel
theorem dX9_stands_2 : decode cX9_stands 2 = .ok (.invokevirtual 183, 3) := by decide +kernel
theorem dX9_toLoad_0 : decode cX9_toLoad 0 = .ok (.aload_n 0, 1) := by decide +kernel
theorem dX9_toLoad_1 : decode cX9_toLoad 1 = .ok (.iload_n 1, 1) := by decide +kernel
theorem dX9_toLoad_2 : decode cX9_toLoad 2 = .ok (.invokevirtual 183, 3) := by decide +kernel
theorem dX9_steepest_0 : decode cX9_steepest 0 = .ok (.aload_n 0, 1) := by decide +kernel
theorem dX9_steepest_1 : decode cX9_steepest 1 = .ok (.iload_n 1, 1) := by decide +kernel
theorem dX9_steepest_2 : decode cX9_steepest 2 = .ok (.invokevirtual 183, 3) := by decide +kernel
theorem dX9_toWarm_0 : decode cX9_toWarm 0 = .ok (.aload_n 0, 1) := by decide +kernel
theorem dX9_toWarm_1 : decode cX9_toWarm 1 = .ok (.iload_n 1, 1) := by decide +kernel
theorem dX9_toWarm_2 : decode cX9_toWarm 2 = .ok (.invokevirtual 300, 3) := by decide +kernel
theorem dX9_matters_0 : decode cX9_matters 0 = .ok (.aload_n 0, 1) := by decide +kernel
theorem dX9_matters_1 : decode cX9_matters 1 = .ok (.iload_n 1, 1) := by decide +kernel
theorem dX9_matters_2 : decode cX9_matters 2 = .ok (.invokevirtual 300, 3) := by decide +kernel
theorem dX9_pitOf_0 : decode cX9_pitOf 0 = .ok (.aload_n 0, 1) := by decide +kernel
theorem dX9_pitOf_1 : decode cX9_pitOf 1 = .ok (.iload_n 1, 1) := by decide +kernel
theorem dX9_pitOf_2 : decode cX9_pitOf 2 = .ok (.invokevirtual 338, 3) := by decide +kernel
theorem dX9_compare_0 : decode cX9_compare 0 = .ok (.aload_n 0, 1) := by decide +kernel
theorem dX9_compare_1 : decode cX9_compare 1 = .ok (.iload_n 1, 1) := by decide +kernel
theorem dX9_compare_2 : decode cX9_compare 2 = .ok (.invokevirtual 338, 3) := by decide +kernel
theorem dX9_nearest_0 : decode cX9_nearest 0 = .ok (.aload_n 0, 1) := by decide +kernel
theorem dX9_nearest_1 : decode cX9_nearest 1 = .ok (.iload_n 1, 1) := by decide +kernel
theorem dX9_nearest_2 : decode cX9_nearest 2 = .ok (.invokevirtual 338, 3) := by decide +kernel
theorem dX9_odds_0 : decode cX9_odds 0 = .ok (.aload_n 0, 1) := by decide +kernel
theorem dX9_odds_1 : decode cX9_odds 1 = .ok (.iload_n 1, 1) := by decide +kernel
theorem dX9_odds_2 : decode cX9_odds 2 = .ok (.invokevirtual 300, 3) := by decide +kernel
theorem dX9_forecast_0 : decode cX9_forecast 0 = .ok (.iload_n 1, 1) := by decide +kernel
theorem dX9_forecast_1 : decode cX9_forecast 1 = .ok (.ifCond .lt 14, 3) := by decide +kernel
theorem dX9_forecast_15 : decode cX9_forecast 15 = .ok (.new 165, 3) := by decide +kernel
theorem dX9_forecast_18 : decode cX9_forecast 18 = .ok (.dup, 1) := by decide +kernel
theorem dX9_forecast_19 : decode cX9_forecast 19 = .ok (.ldc 170, 2) := by decide +kernel
theorem dX9_forecast_21 : decode cX9_forecast 21 = .ok (.invokespecial 169, 3) := by decide +kernel
theorem dX9_forecast_24 : decode cX9_forecast 24 = .ok (.athrow, 1) := by decide +kernel
theorem dX9_forecast_4 : decode cX9_forecast 4 = .ok (.iload_n 1, 1) := by decide +kernel
theorem dX9_forecast_5 : decode cX9_forecast 5 = .ok (.aload_n 0, 1) := by decide +kernel
theorem dX9_forecast_6 : decode cX9_forecast 6 = .ok (.getfield 30, 3) := by decide +kernel
theorem dX9_forecast_9 : decode cX9_forecast 9 = .ok (.getfield 118, 3) := by decide +kernel
theorem dX9_forecast_12 : decode cX9_forecast 12 = .ok (.if_icmp .lt 13, 3) := by decide +kernel
theorem dX9_gone_0 : decode cX9_gone 0 = .ok (.iload_n 1, 1) := by decide +kernel
theorem dX9_gone_1 : decode cX9_gone 1 = .ok (.ifCond .lt 17, 3) := by decide +kernel
theorem dX9_gone_18 : decode cX9_gone 18 = .ok (.new 165, 3) := by decide +kernel
theorem dX9_gone_21 : decode cX9_gone 21 = .ok (.dup, 1) := by decide +kernel
theorem dX9_gone_22 : decode cX9_gone 22 = .ok (.ldc_w 316, 3) := by decide +kernel
theorem dX9_gone_25 : decode cX9_gone 25 = .ok (.invokespecial 169, 3) := by decide +kernel
theorem dX9_gone_28 : decode cX9_gone 28 = .ok (.athrow, 1) := by decide +kernel
theorem dX9_gone_4 : decode cX9_gone 4 = .ok (.iload_n 1, 1) := by decide +kernel
theorem dX9_gone_5 : decode cX9_gone 5 = .ok (.aload_n 0, 1) := by decide +kernel
theorem dX9_gone_6 : decode cX9_gone 6 = .ok (.getfield 37, 3) := by decide +kernel
theorem dX9_gone_9 : decode cX9_gone 9 = .ok (.getfield 112, 3) := by decide +kernel
theorem dX9_gone_12 : decode cX9_gone 12 = .ok (.getfield 128, 3) := by decide +kernel
theorem dX9_gone_15 : decode cX9_gone 15 = .ok (.if_icmp .lt 14, 3) := by decide +kernel
end
section
set_option maxRecDepth 100000 in
set_option maxHeartbeats 4000000 in
theorem c_X9_isSlope (l : Launch) (D : va_G) (A : Nat → Prop) (cs : Nat → ClassId) (tt : Nat) (N : Nat) (ad : Nat → Nat) (g : Nat → va_E) (i : Nat) (hN : i + 921 ≤ N) (hR : isRec cs ad g i) (z : Int) (hz : -2147483648 ≤ z ∧ z ≤ 2147483647) : zM l yX9_isSlope cX9_isSlope 2 (some .boolean) ({ frames := 1, cells := 0, slots := 0, locals := 60 } : Room) D A cs tt N ad g [.ref (ad i), .int (zI z)] (rI0 N ad fun r g' => r = 0 ∧ g' = g) := by
  obtain ⟨r1, r2, r3, r4, r5, r6, r7, r8, r9, r10, r11, r12⟩ := id hR
  have ha1 : zAt ad (i) (ad i) := rfl
  have ha2 : zAt ad (i + 4) (ad (i + 4)) := rfl
  refine z_of (by decide) (Nat.le_of_ble_eq_true rfl) ?_
  intro p e s m below meth c C hr hlk hnm
  refine z_lv (lv' := [(0, .ref (ad i)), (1, .int (zI (z)))]) [0, 1] rfl ?_
  refine z_iload_n C 1 dX9_isSlope_0 rfl ?_
  refine z_if_lt (tgt := 19) C dX9_isSlope_1 (by decide) (by omega) (fun h1 => ?_) (fun h1 => ?_)
  · refine z_iconst (z := 0) C dX9_isSlope_19 rfl ?_
    exact z_zret C hr hlk dX9_isSlope_20 (by decide) (by decide) (by decide) ⟨0, rfl, rfl, rfl, rfl, rfl⟩
  · refine z_iload_n C 1 dX9_isSlope_4 rfl ?_
    refine z_aload_n C 0 dX9_isSlope_5 rfl ?_
    refine z_get (v := .ref (ad (i + 4))) C (by omega) ha1 r1 rfl inA_X9 4 (by decide) q_353 rfl rfl dX9_isSlope_6 ?_
    refine z_get (v := .int (zI (0))) C (by omega) ha2 r4.1 rfl inA_X5 0 (by decide) q_90 rfl rfl dX9_isSlope_9 ?_
    refine z_icmp_ge (tgt := 19) C dX9_isSlope_12 (by decide) (by omega) (by omega) (fun _ => ?_) (fun h => absurd h (by omega))
    refine z_iconst (z := 0) C dX9_isSlope_19 rfl ?_
    exact z_zret C hr hlk dX9_isSlope_20 (by decide) (by decide) (by decide) ⟨0, rfl, rfl, rfl, rfl, rfl⟩

set_option maxRecDepth 100000 in
set_option maxHeartbeats 4000000 in
theorem c_X9_needSlope (l : Launch) (D : va_G) (A : Nat → Prop) (cs : Nat → ClassId) (tt : Nat) (N : Nat) (ad : Nat → Nat) (g : Nat → va_E) (i : Nat) (hN : i + 921 ≤ N) (hR : isRec cs ad g i) (hl0 : l.stackTraces = false) (z : Int) (hz : -2147483648 ≤ z ∧ z ≤ 2147483647) : zMX l yX9_needSlope cX9_needSlope 2 none ({ frames := 6, cells := 1, slots := 6, locals := 360 } : Room) D A cs tt N ad g [.ref (ad i), .int (zI z)] (rV0 N ad fun _ => False) (xE N ad g eNS) := by
  obtain ⟨r1, r2, r3, r4, r5, r6, r7, r8, r9, r10, r11, r12⟩ := id hR
  have ha1 : zAt ad (i) (ad i) := rfl
  refine z_ofX (by decide) (Nat.le_of_ble_eq_true rfl) ?_
  intro p e s m below meth c C hr hlk hxt
  refine z_lv (lv' := [(0, .ref (ad i)), (1, .int (zI (z)))]) [0, 1] rfl ?_
  refine z_aload_n C 0 dX9_needSlope_0 rfl ?_
  refine z_iload_n C 1 dX9_needSlope_1 rfl ?_
  refine z_cV (As := [.int (zI (z))]) (rest := []) (ci := 11) C (c_X9_isSlope l D A cs tt N ad g i hN hR z hz) (by omega) ha1 r1 rfl rfl mv_yX9_isSlope q_537 hd_yX9_isSlope (by decide) (Nat.le_of_ble_eq_true rfl) (by decide) dX9_needSlope_2 rfl (kI0 fun r0 g0 h0 => ?_)
  obtain ⟨rfl, rfl⟩ := h0
  refine z_if_ne (tgt := 19) C dX9_needSlope_5 (by decide) (by omega) (fun h => absurd h (by omega)) (fun _ => ?_)
  exact z_thrNW (cls := eNS) (text := "no such slope") C hl0 (ix := 13) (rx := nsB) ns0 ns1 ns2 ns5 (by decide +kernel) q_904 q_24 (by decide +kernel) at_NS gd_NS dX9_needSlope_8 dX9_needSlope_11 dX9_needSlope_12 dX9_needSlope_15 dX9_needSlope_18 hxt (by decide) (Nat.le_of_ble_eq_true rfl) (by decide) (by decide) hlk (by decide) (by decide) ⟨rfl, rfl, rfl, rfl⟩

set_option maxRecDepth 100000 in
set_option maxHeartbeats 4000000 in
theorem c_X9_packOf (l : Launch) (D : va_G) (A : Nat → Prop) (cs : Nat → ClassId) (tt : Nat) (N : Nat) (ad : Nat → Nat) (g : Nat → va_E) (i : Nat) (hN : i + 921 ≤ N) (hR : isRec cs ad g i) (hl0 : l.stackTraces = false) (z : Int) (hz : -2147483648 ≤ z ∧ z ≤ 2147483647) : zMX l yX9_packOf cX9_packOf 2 (some (.object "SnowRecorder$Pack")) ({ frames := 7, cells := 1, slots := 6, locals := 420 } : Room) D A cs tt N ad g [.ref (ad i), .int (zI z)] (rR0 N ad fun _ _ => False) (xE N ad g eNS) := by
  obtain ⟨r1, r2, r3, r4, r5, r6, r7, r8, r9, r10, r11, r12⟩ := id hR
  have ha1 : zAt ad (i) (ad i) := rfl
  refine z_ofX (by decide) (Nat.le_of_ble_eq_true rfl) ?_
  intro p e s m below meth c C hr hlk hxt
  refine z_lv (lv' := [(0, .ref (ad i)), (1, .int (zI (z)))]) [0, 1] rfl ?_
  refine z_aload_n C 0 dX9_packOf_0 rfl ?_
  refine z_iload_n C 1 dX9_packOf_1 rfl ?_
  refine z_cVX (As := [.int (zI (z))]) (rest := []) (ci := 11) C (c_X9_needSlope l D A cs tt N ad g i hN hR hl0 z hz) (by omega) ha1 r1 rfl rfl mv_yX9_needSlope q_940 hd_yX9_needSlope (by decide) (Nat.le_of_ble_eq_true rfl) (by decide) dX9_packOf_2 rfl (fun E N' ad' g' h => by obtain ⟨rfl, rfl, rfl, rfl⟩ := h; exact z_uout C hxt hlk (by decide) (by decide) ⟨rfl, rfl, rfl, rfl⟩) (fun r N' ad' g' h => h.2.2.2.elim)

set_option maxRecDepth 100000 in
set_option maxHeartbeats 4000000 in
theorem c_X9_needPit (l : Launch) (D : va_G) (A : Nat → Prop) (cs : Nat → ClassId) (tt : Nat) (N : Nat) (ad : Nat → Nat) (g : Nat → va_E) (i : Nat) (hN : i + 921 ≤ N) (hR : isRec cs ad g i) (hl0 : l.stackTraces = false) (z : Int) (hz : -2147483648 ≤ z ∧ z ≤ 2147483647) : zMX l yX9_needPit cX9_needPit 2 none ({ frames := 6, cells := 1, slots := 6, locals := 360 } : Room) D A cs tt N ad g [.ref (ad i), .int (zI z)] (rV0 N ad fun _ => False) (xE N ad g eNS) := by
  obtain ⟨r1, r2, r3, r4, r5, r6, r7, r8, r9, r10, r11, r12⟩ := id hR
  have ha1 : zAt ad (i) (ad i) := rfl
  have ha2 : zAt ad (i + 11) (ad (i + 11)) := rfl
  have ha3 : zAt ad (i + 11 + 1) (ad (i + 11 + 1)) := rfl
  refine z_ofX (by decide) (Nat.le_of_ble_eq_true rfl) ?_
  intro p e s m below meth c C hr hlk hxt
  refine z_lv (lv' := [(0, .ref (ad i)), (1, .int (zI (z)))]) [0, 1] rfl ?_
  refine z_iload_n C 1 dX9_needPit_0 rfl ?_
  refine z_if_lt (tgt := 18) C dX9_needPit_1 (by decide) (by omega) (fun h1 => ?_) (fun h1 => ?_)
  · exact z_thrNW (cls := eNS) (text := "no such pit") C hl0 (ix := 13) (rx := nsB) ns0 ns1 ns2 ns5 (by decide +kernel) q_904 q_24 (by decide +kernel) at_NS gd_NS dX9_needPit_18 dX9_needPit_21 dX9_needPit_22 dX9_needPit_25 dX9_needPit_28 hxt (by decide) (Nat.le_of_ble_eq_true rfl) (by decide) (by decide) hlk (by decide) (by decide) ⟨rfl, rfl, rfl, rfl⟩
  · refine z_iload_n C 1 dX9_needPit_4 rfl ?_
    refine z_aload_n C 0 dX9_needPit_5 rfl ?_
    refine z_get (v := .ref (ad (i + 11))) C (by omega) ha1 r1 rfl inA_X9 5 (by decide) q_354 rfl rfl dX9_needPit_6 ?_
    refine z_get (v := .ref (ad (i + 11 + 1))) C (by omega) ha2 r5.1 rfl inA_X6 0 (by decide) q_258 rfl rfl dX9_needPit_9 ?_
    refine z_get (v := .int (zI (0))) C (by omega) ha3 r5.2.1.1 rfl inA_X8 5 (by decide) q_186 rfl rfl dX9_needPit_12 ?_
    refine z_icmp_lt (tgt := 29) C dX9_needPit_15 (by decide) (by omega) (by omega) (fun h => absurd h (by omega)) (fun _ => ?_)
    exact z_thrNW (cls := eNS) (text := "no such pit") C hl0 (ix := 13) (rx := nsB) ns0 ns1 ns2 ns5 (by decide +kernel) q_904 q_24 (by decide +kernel) at_NS gd_NS dX9_needPit_18 dX9_needPit_21 dX9_needPit_22 dX9_needPit_25 dX9_needPit_28 hxt (by decide) (Nat.le_of_ble_eq_true rfl) (by decide) (by decide) hlk (by decide) (by decide) ⟨rfl, rfl, rfl, rfl⟩

set_option maxRecDepth 100000 in
set_option maxHeartbeats 4000000 in
theorem c_X9_slope (l : Launch) (D : va_G) (A : Nat → Prop) (cs : Nat → ClassId) (tt : Nat) (N : Nat) (ad : Nat → Nat) (g : Nat → va_E) (i : Nat) (hN : i + 921 ≤ N) (hR : isRec cs ad g i) (hl0 : l.stackTraces = false) (z z1 : Int) (hz : -2147483648 ≤ z ∧ z ≤ 2147483647) (hz1 : -2147483648 ≤ z1 ∧ z1 ≤ 2147483647) : zMX l yX9_slope cX9_slope 5 (some .int) ({ frames := 8, cells := 1, slots := 6, locals := 480 } : Room) D A cs tt N ad g [.ref (ad i), .int (zI z), .int (zI z1)] (rI0 N ad fun _ _ => False) (xE N ad g eNS) := by
  obtain ⟨r1, r2, r3, r4, r5, r6, r7, r8, r9, r10, r11, r12⟩ := id hR
  have ha1 : zAt ad (i) (ad i) := rfl
  refine z_ofX (by decide) (Nat.le_of_ble_eq_true rfl) ?_
  intro p e s m below meth c C hr hlk hxt
  refine z_lv (lv' := [(0, .ref (ad i)), (1, .int (zI (z))), (2, .int (zI (z1)))]) [0, 1, 2] rfl ?_
  refine z_aload_n C 0 dX9_slope_0 rfl ?_
  refine z_iload_n C 1 dX9_slope_1 rfl ?_
  refine z_cVX (As := [.int (zI (z))]) (rest := []) (ci := 11) C (c_X9_packOf l D A cs tt N ad g i hN hR hl0 z hz) (by omega) ha1 r1 rfl rfl mv_yX9_packOf q_936 hd_yX9_packOf (by decide) (Nat.le_of_ble_eq_true rfl) (by decide) dX9_slope_2 rfl (fun E N' ad' g' h => by obtain ⟨rfl, rfl, rfl, rfl⟩ := h; exact z_uout C hxt hlk (by decide) (by decide) ⟨rfl, rfl, rfl, rfl⟩) (fun r N' ad' g' h => h.choose_spec.2.2.2.elim)

set_option maxRecDepth 100000 in
set_option maxHeartbeats 4000000 in
theorem c_X9_layer (l : Launch) (D : va_G) (A : Nat → Prop) (cs : Nat → ClassId) (tt : Nat) (N : Nat) (ad : Nat → Nat) (g : Nat → va_E) (i : Nat) (hN : i + 921 ≤ N) (hR : isRec cs ad g i) (hl0 : l.stackTraces = false) (z z1 z2 : Int) (hz : -2147483648 ≤ z ∧ z ≤ 2147483647) (hz1 : -2147483648 ≤ z1 ∧ z1 ≤ 2147483647) (hz2 : -2147483648 ≤ z2 ∧ z2 ≤ 2147483647) : zMX l yX9_layer cX9_layer 6 (some .int) ({ frames := 8, cells := 1, slots := 6, locals := 480 } : Room) D A cs tt N ad g [.ref (ad i), .int (zI z), .int (zI z1), .int (zI z2)] (rI0 N ad fun _ _ => False) (xE N ad g eNS) := by
  obtain ⟨r1, r2, r3, r4, r5, r6, r7, r8, r9, r10, r11, r12⟩ := id hR
  have ha1 : zAt ad (i) (ad i) := rfl
  refine z_ofX (by decide) (Nat.le_of_ble_eq_true rfl) ?_
  intro p e s m below meth c C hr hlk hxt
  refine z_lv (lv' := [(0, .ref (ad i)), (1, .int (zI (z))), (2, .int (zI (z1))), (3, .int (zI (z2)))]) [0, 1, 2, 3] rfl ?_
  refine z_aload_n C 0 dX9_layer_0 rfl ?_
  refine z_iload_n C 1 dX9_layer_1 rfl ?_
  refine z_cVX (As := [.int (zI (z))]) (rest := []) (ci := 11) C (c_X9_packOf l D A cs tt N ad g i hN hR hl0 z hz) (by omega) ha1 r1 rfl rfl mv_yX9_packOf q_936 hd_yX9_packOf (by decide) (Nat.le_of_ble_eq_true rfl) (by decide) dX9_layer_2 rfl (fun E N' ad' g' h => by obtain ⟨rfl, rfl, rfl, rfl⟩ := h; exact z_uout C hxt hlk (by decide) (by decide) ⟨rfl, rfl, rfl, rfl⟩) (fun r N' ad' g' h => h.choose_spec.2.2.2.elim)

set_option maxRecDepth 100000 in
set_option maxHeartbeats 4000000 in
theorem c_X9_told (l : Launch) (D : va_G) (A : Nat → Prop) (cs : Nat → ClassId) (tt : Nat) (N : Nat) (ad : Nat → Nat) (g : Nat → va_E) (i : Nat) (hN : i + 921 ≤ N) (hR : isRec cs ad g i) (hl0 : l.stackTraces = false) (z z1 z2 : Int) (hz : -2147483648 ≤ z ∧ z ≤ 2147483647) (hz1 : -2147483648 ≤ z1 ∧ z1 ≤ 2147483647) (hz2 : -2147483648 ≤ z2 ∧ z2 ≤ 2147483647) : zMX l yX9_told cX9_told 5 (some .int) ({ frames := 8, cells := 1, slots := 6, locals := 480 } : Room) D A cs tt N ad g [.ref (ad i), .int (zI z), .int (zI z1), .int (zI z2)] (rI0 N ad fun _ _ => False) (xE N ad g eNS) := by
  obtain ⟨r1, r2, r3, r4, r5, r6, r7, r8, r9, r10, r11, r12⟩ := id hR
  have ha1 : zAt ad (i) (ad i) := rfl
  refine z_ofX (by decide) (Nat.le_of_ble_eq_true rfl) ?_
  intro p e s m below meth c C hr hlk hxt
  refine z_lv (lv' := [(0, .ref (ad i)), (1, .int (zI (z))), (2, .int (zI (z1))), (3, .int (zI (z2)))]) [0, 1, 2, 3] rfl ?_
  refine z_aload_n C 0 dX9_told_0 rfl ?_
  refine z_iload_n C 1 dX9_told_1 rfl ?_
  refine z_cVX (As := [.int (zI (z))]) (rest := []) (ci := 11) C (c_X9_packOf l D A cs tt N ad g i hN hR hl0 z hz) (by omega) ha1 r1 rfl rfl mv_yX9_packOf q_936 hd_yX9_packOf (by decide) (Nat.le_of_ble_eq_true rfl) (by decide) dX9_told_2 rfl (fun E N' ad' g' h => by obtain ⟨rfl, rfl, rfl, rfl⟩ := h; exact z_uout C hxt hlk (by decide) (by decide) ⟨rfl, rfl, rfl, rfl⟩) (fun r N' ad' g' h => h.choose_spec.2.2.2.elim)

set_option maxRecDepth 100000 in
set_option maxHeartbeats 4000000 in
theorem c_X9_then (l : Launch) (D : va_G) (A : Nat → Prop) (cs : Nat → ClassId) (tt : Nat) (N : Nat) (ad : Nat → Nat) (g : Nat → va_E) (i : Nat) (hN : i + 921 ≤ N) (hR : isRec cs ad g i) (hl0 : l.stackTraces = false) (z z1 z2 : Int) (hz : -2147483648 ≤ z ∧ z ≤ 2147483647) (hz1 : -2147483648 ≤ z1 ∧ z1 ≤ 2147483647) (hz2 : -2147483648 ≤ z2 ∧ z2 ≤ 2147483647) : zMX l yX9_then cX9_then 6 (some .int) ({ frames := 8, cells := 1, slots := 6, locals := 480 } : Room) D A cs tt N ad g [.ref (ad i), .int (zI z), .int (zI z1), .int (zI z2)] (rI0 N ad fun _ _ => False) (xE N ad g eNS) := by
  obtain ⟨r1, r2, r3, r4, r5, r6, r7, r8, r9, r10, r11, r12⟩ := id hR
  have ha1 : zAt ad (i) (ad i) := rfl
  refine z_ofX (by decide) (Nat.le_of_ble_eq_true rfl) ?_
  intro p e s m below meth c C hr hlk hxt
  refine z_lv (lv' := [(0, .ref (ad i)), (1, .int (zI (z))), (2, .int (zI (z1))), (3, .int (zI (z2)))]) [0, 1, 2, 3] rfl ?_
  refine z_aload_n C 0 dX9_then_0 rfl ?_
  refine z_iload_n C 1 dX9_then_1 rfl ?_
  refine z_cVX (As := [.int (zI (z))]) (rest := []) (ci := 11) C (c_X9_needSlope l D A cs tt N ad g i hN hR hl0 z hz) (by omega) ha1 r1 rfl rfl mv_yX9_needSlope q_940 hd_yX9_needSlope (by decide) (Nat.le_of_ble_eq_true rfl) (by decide) dX9_then_2 rfl (fun E N' ad' g' h => by obtain ⟨rfl, rfl, rfl, rfl⟩ := h; exact z_uout C hxt hlk (by decide) (by decide) ⟨rfl, rfl, rfl, rfl⟩) (fun r N' ad' g' h => h.2.2.2.elim)

set_option maxRecDepth 100000 in
set_option maxHeartbeats 4000000 in
theorem c_X9_once (l : Launch) (D : va_G) (A : Nat → Prop) (cs : Nat → ClassId) (tt : Nat) (N : Nat) (ad : Nat → Nat) (g : Nat → va_E) (i : Nat) (hN : i + 921 ≤ N) (hR : isRec cs ad g i) (hl0 : l.stackTraces = false) (z z1 : Int) (hz : -2147483648 ≤ z ∧ z ≤ 2147483647) (hz1 : -2147483648 ≤ z1 ∧ z1 ≤ 2147483647) : zMX l yX9_once cX9_once 5 (some .int) ({ frames := 8, cells := 1, slots := 6, locals := 480 } : Room) D A cs tt N ad g [.ref (ad i), .int (zI z), .int (zI z1)] (rI0 N ad fun _ _ => False) (xE N ad g eNS) := by
  obtain ⟨r1, r2, r3, r4, r5, r6, r7, r8, r9, r10, r11, r12⟩ := id hR
  have ha1 : zAt ad (i) (ad i) := rfl
  refine z_ofX (by decide) (Nat.le_of_ble_eq_true rfl) ?_
  intro p e s m below meth c C hr hlk hxt
  refine z_lv (lv' := [(0, .ref (ad i)), (1, .int (zI (z))), (2, .int (zI (z1)))]) [0, 1, 2] rfl ?_
  refine z_aload_n C 0 dX9_once_0 rfl ?_
  refine z_iload_n C 1 dX9_once_1 rfl ?_
  refine z_cVX (As := [.int (zI (z))]) (rest := []) (ci := 11) C (c_X9_needSlope l D A cs tt N ad g i hN hR hl0 z hz) (by omega) ha1 r1 rfl rfl mv_yX9_needSlope q_940 hd_yX9_needSlope (by decide) (Nat.le_of_ble_eq_true rfl) (by decide) dX9_once_2 rfl (fun E N' ad' g' h => by obtain ⟨rfl, rfl, rfl, rfl⟩ := h; exact z_uout C hxt hlk (by decide) (by decide) ⟨rfl, rfl, rfl, rfl⟩) (fun r N' ad' g' h => h.2.2.2.elim)

set_option maxRecDepth 100000 in
set_option maxHeartbeats 4000000 in
theorem c_X9_stands (l : Launch) (D : va_G) (A : Nat → Prop) (cs : Nat → ClassId) (tt : Nat) (N : Nat) (ad : Nat → Nat) (g : Nat → va_E) (i : Nat) (hN : i + 921 ≤ N) (hR : isRec cs ad g i) (hl0 : l.stackTraces = false) (z z1 : Int) (hz : -2147483648 ≤ z ∧ z ≤ 2147483647) (hz1 : -2147483648 ≤ z1 ∧ z1 ≤ 2147483647) : zMX l yX9_stands cX9_stands 6 (some .int) ({ frames := 8, cells := 1, slots := 6, locals := 480 } : Room) D A cs tt N ad g [.ref (ad i), .int (zI z), .int (zI z1)] (rI0 N ad fun _ _ => False) (xE N ad g eNS) := by
  obtain ⟨r1, r2, r3, r4, r5, r6, r7, r8, r9, r10, r11, r12⟩ := id hR
  have ha1 : zAt ad (i) (ad i) := rfl
  refine z_ofX (by decide) (Nat.le_of_ble_eq_true rfl) ?_
  intro p e s m below meth c C hr hlk hxt
  refine z_lv (lv' := [(0, .ref (ad i)), (1, .int (zI (z))), (2, .int (zI (z1)))]) [0, 1, 2] rfl ?_
  refine z_aload_n C 0 dX9_stands_0 rfl ?_
  refine z_iload_n C 1 dX9_stands_1 rfl ?_
  refine z_cVX (As := [.int (zI (z))]) (rest := []) (ci := 11) C (c_X9_packOf l D A cs tt N ad g i hN hR hl0 z hz) (by omega) ha1 r1 rfl rfl mv_yX9_packOf q_936 hd_yX9_packOf (by decide) (Nat.le_of_ble_eq_true rfl) (by decide) dX9_stands_2 rfl (fun E N' ad' g' h => by obtain ⟨rfl, rfl, rfl, rfl⟩ := h; exact z_uout C hxt hlk (by decide) (by decide) ⟨rfl, rfl, rfl, rfl⟩) (fun r N' ad' g' h => h.choose_spec.2.2.2.elim)

set_option maxRecDepth 100000 in
set_option maxHeartbeats 4000000 in
theorem c_X9_toLoad (l : Launch) (D : va_G) (A : Nat → Prop) (cs : Nat → ClassId) (tt : Nat) (N : Nat) (ad : Nat → Nat) (g : Nat → va_E) (i : Nat) (hN : i + 921 ≤ N) (hR : isRec cs ad g i) (hl0 : l.stackTraces = false) (z : Int) (hz : -2147483648 ≤ z ∧ z ≤ 2147483647) : zMX l yX9_toLoad cX9_toLoad 4 (some .int) ({ frames := 8, cells := 1, slots := 6, locals := 480 } : Room) D A cs tt N ad g [.ref (ad i), .int (zI z)] (rI0 N ad fun _ _ => False) (xE N ad g eNS) := by
  obtain ⟨r1, r2, r3, r4, r5, r6, r7, r8, r9, r10, r11, r12⟩ := id hR
  have ha1 : zAt ad (i) (ad i) := rfl
  refine z_ofX (by decide) (Nat.le_of_ble_eq_true rfl) ?_
  intro p e s m below meth c C hr hlk hxt
  refine z_lv (lv' := [(0, .ref (ad i)), (1, .int (zI (z)))]) [0, 1] rfl ?_
  refine z_aload_n C 0 dX9_toLoad_0 rfl ?_
  refine z_iload_n C 1 dX9_toLoad_1 rfl ?_
  refine z_cVX (As := [.int (zI (z))]) (rest := []) (ci := 11) C (c_X9_packOf l D A cs tt N ad g i hN hR hl0 z hz) (by omega) ha1 r1 rfl rfl mv_yX9_packOf q_936 hd_yX9_packOf (by decide) (Nat.le_of_ble_eq_true rfl) (by decide) dX9_toLoad_2 rfl (fun E N' ad' g' h => by obtain ⟨rfl, rfl, rfl, rfl⟩ := h; exact z_uout C hxt hlk (by decide) (by decide) ⟨rfl, rfl, rfl, rfl⟩) (fun r N' ad' g' h => h.choose_spec.2.2.2.elim)

set_option maxRecDepth 100000 in
set_option maxHeartbeats 4000000 in
theorem c_X9_steepest (l : Launch) (D : va_G) (A : Nat → Prop) (cs : Nat → ClassId) (tt : Nat) (N : Nat) (ad : Nat → Nat) (g : Nat → va_E) (i : Nat) (hN : i + 921 ≤ N) (hR : isRec cs ad g i) (hl0 : l.stackTraces = false) (z : Int) (hz : -2147483648 ≤ z ∧ z ≤ 2147483647) : zMX l yX9_steepest cX9_steepest 4 (some .int) ({ frames := 8, cells := 1, slots := 6, locals := 480 } : Room) D A cs tt N ad g [.ref (ad i), .int (zI z)] (rI0 N ad fun _ _ => False) (xE N ad g eNS) := by
  obtain ⟨r1, r2, r3, r4, r5, r6, r7, r8, r9, r10, r11, r12⟩ := id hR
  have ha1 : zAt ad (i) (ad i) := rfl
  refine z_ofX (by decide) (Nat.le_of_ble_eq_true rfl) ?_
  intro p e s m below meth c C hr hlk hxt
  refine z_lv (lv' := [(0, .ref (ad i)), (1, .int (zI (z)))]) [0, 1] rfl ?_
  refine z_aload_n C 0 dX9_steepest_0 rfl ?_
  refine z_iload_n C 1 dX9_steepest_1 rfl ?_
  refine z_cVX (As := [.int (zI (z))]) (rest := []) (ci := 11) C (c_X9_packOf l D A cs tt N ad g i hN hR hl0 z hz) (by omega) ha1 r1 rfl rfl mv_yX9_packOf q_936 hd_yX9_packOf (by decide) (Nat.le_of_ble_eq_true rfl) (by decide) dX9_steepest_2 rfl (fun E N' ad' g' h => by obtain ⟨rfl, rfl, rfl, rfl⟩ := h; exact z_uout C hxt hlk (by decide) (by decide) ⟨rfl, rfl, rfl, rfl⟩) (fun r N' ad' g' h => h.choose_spec.2.2.2.elim)

set_option maxRecDepth 100000 in
set_option maxHeartbeats 4000000 in
theorem c_X9_toWarm (l : Launch) (D : va_G) (A : Nat → Prop) (cs : Nat → ClassId) (tt : Nat) (N : Nat) (ad : Nat → Nat) (g : Nat → va_E) (i : Nat) (hN : i + 921 ≤ N) (hR : isRec cs ad g i) (hl0 : l.stackTraces = false) (z z1 : Int) (hz : -2147483648 ≤ z ∧ z ≤ 2147483647) (hz1 : -2147483648 ≤ z1 ∧ z1 ≤ 2147483647) : zMX l yX9_toWarm cX9_toWarm 4 (some .int) ({ frames := 8, cells := 1, slots := 6, locals := 480 } : Room) D A cs tt N ad g [.ref (ad i), .int (zI z), .int (zI z1)] (rI0 N ad fun _ _ => False) (xE N ad g eNS) := by
  obtain ⟨r1, r2, r3, r4, r5, r6, r7, r8, r9, r10, r11, r12⟩ := id hR
  have ha1 : zAt ad (i) (ad i) := rfl
  refine z_ofX (by decide) (Nat.le_of_ble_eq_true rfl) ?_
  intro p e s m below meth c C hr hlk hxt
  refine z_lv (lv' := [(0, .ref (ad i)), (1, .int (zI (z))), (2, .int (zI (z1)))]) [0, 1, 2] rfl ?_
  refine z_aload_n C 0 dX9_toWarm_0 rfl ?_
  refine z_iload_n C 1 dX9_toWarm_1 rfl ?_
  refine z_cVX (As := [.int (zI (z))]) (rest := []) (ci := 11) C (c_X9_needSlope l D A cs tt N ad g i hN hR hl0 z hz) (by omega) ha1 r1 rfl rfl mv_yX9_needSlope q_940 hd_yX9_needSlope (by decide) (Nat.le_of_ble_eq_true rfl) (by decide) dX9_toWarm_2 rfl (fun E N' ad' g' h => by obtain ⟨rfl, rfl, rfl, rfl⟩ := h; exact z_uout C hxt hlk (by decide) (by decide) ⟨rfl, rfl, rfl, rfl⟩) (fun r N' ad' g' h => h.2.2.2.elim)

set_option maxRecDepth 100000 in
set_option maxHeartbeats 4000000 in
theorem c_X9_matters (l : Launch) (D : va_G) (A : Nat → Prop) (cs : Nat → ClassId) (tt : Nat) (N : Nat) (ad : Nat → Nat) (g : Nat → va_E) (i : Nat) (hN : i + 921 ≤ N) (hR : isRec cs ad g i) (hl0 : l.stackTraces = false) (z z1 z2 : Int) (hz : -2147483648 ≤ z ∧ z ≤ 2147483647) (hz1 : -2147483648 ≤ z1 ∧ z1 ≤ 2147483647) (hz2 : -2147483648 ≤ z2 ∧ z2 ≤ 2147483647) : zMX l yX9_matters cX9_matters 9 (some .int) ({ frames := 8, cells := 1, slots := 6, locals := 480 } : Room) D A cs tt N ad g [.ref (ad i), .int (zI z), .int (zI z1), .int (zI z2)] (rI0 N ad fun _ _ => False) (xE N ad g eNS) := by
  obtain ⟨r1, r2, r3, r4, r5, r6, r7, r8, r9, r10, r11, r12⟩ := id hR
  have ha1 : zAt ad (i) (ad i) := rfl
  refine z_ofX (by decide) (Nat.le_of_ble_eq_true rfl) ?_
  intro p e s m below meth c C hr hlk hxt
  refine z_lv (lv' := [(0, .ref (ad i)), (1, .int (zI (z))), (2, .int (zI (z1))), (3, .int (zI (z2)))]) [0, 1, 2, 3] rfl ?_
  refine z_aload_n C 0 dX9_matters_0 rfl ?_
  refine z_iload_n C 1 dX9_matters_1 rfl ?_
  refine z_cVX (As := [.int (zI (z))]) (rest := []) (ci := 11) C (c_X9_needSlope l D A cs tt N ad g i hN hR hl0 z hz) (by omega) ha1 r1 rfl rfl mv_yX9_needSlope q_940 hd_yX9_needSlope (by decide) (Nat.le_of_ble_eq_true rfl) (by decide) dX9_matters_2 rfl (fun E N' ad' g' h => by obtain ⟨rfl, rfl, rfl, rfl⟩ := h; exact z_uout C hxt hlk (by decide) (by decide) ⟨rfl, rfl, rfl, rfl⟩) (fun r N' ad' g' h => h.2.2.2.elim)

set_option maxRecDepth 100000 in
set_option maxHeartbeats 4000000 in
theorem c_X9_pitOf (l : Launch) (D : va_G) (A : Nat → Prop) (cs : Nat → ClassId) (tt : Nat) (N : Nat) (ad : Nat → Nat) (g : Nat → va_E) (i : Nat) (hN : i + 921 ≤ N) (hR : isRec cs ad g i) (hl0 : l.stackTraces = false) (z z1 : Int) (hz : -2147483648 ≤ z ∧ z ≤ 2147483647) (hz1 : -2147483648 ≤ z1 ∧ z1 ≤ 2147483647) : zMX l yX9_pitOf cX9_pitOf 3 (some .int) ({ frames := 8, cells := 1, slots := 6, locals := 480 } : Room) D A cs tt N ad g [.ref (ad i), .int (zI z), .int (zI z1)] (rI0 N ad fun _ _ => False) (xE N ad g eNS) := by
  obtain ⟨r1, r2, r3, r4, r5, r6, r7, r8, r9, r10, r11, r12⟩ := id hR
  have ha1 : zAt ad (i) (ad i) := rfl
  refine z_ofX (by decide) (Nat.le_of_ble_eq_true rfl) ?_
  intro p e s m below meth c C hr hlk hxt
  refine z_lv (lv' := [(0, .ref (ad i)), (1, .int (zI (z))), (2, .int (zI (z1)))]) [0, 1, 2] rfl ?_
  refine z_aload_n C 0 dX9_pitOf_0 rfl ?_
  refine z_iload_n C 1 dX9_pitOf_1 rfl ?_
  refine z_cVX (As := [.int (zI (z))]) (rest := []) (ci := 11) C (c_X9_needPit l D A cs tt N ad g i hN hR hl0 z hz) (by omega) ha1 r1 rfl rfl mv_yX9_needPit q_1316 hd_yX9_needPit (by decide) (Nat.le_of_ble_eq_true rfl) (by decide) dX9_pitOf_2 rfl (fun E N' ad' g' h => by obtain ⟨rfl, rfl, rfl, rfl⟩ := h; exact z_uout C hxt hlk (by decide) (by decide) ⟨rfl, rfl, rfl, rfl⟩) (fun r N' ad' g' h => h.2.2.2.elim)

set_option maxRecDepth 100000 in
set_option maxHeartbeats 4000000 in
theorem c_X9_compare (l : Launch) (D : va_G) (A : Nat → Prop) (cs : Nat → ClassId) (tt : Nat) (N : Nat) (ad : Nat → Nat) (g : Nat → va_E) (i : Nat) (hN : i + 921 ≤ N) (hR : isRec cs ad g i) (hl0 : l.stackTraces = false) (z z1 z2 : Int) (hz : -2147483648 ≤ z ∧ z ≤ 2147483647) (hz1 : -2147483648 ≤ z1 ∧ z1 ≤ 2147483647) (hz2 : -2147483648 ≤ z2 ∧ z2 ≤ 2147483647) : zMX l yX9_compare cX9_compare 6 (some .int) ({ frames := 8, cells := 1, slots := 6, locals := 480 } : Room) D A cs tt N ad g [.ref (ad i), .int (zI z), .int (zI z1), .int (zI z2)] (rI0 N ad fun _ _ => False) (xE N ad g eNS) := by
  obtain ⟨r1, r2, r3, r4, r5, r6, r7, r8, r9, r10, r11, r12⟩ := id hR
  have ha1 : zAt ad (i) (ad i) := rfl
  refine z_ofX (by decide) (Nat.le_of_ble_eq_true rfl) ?_
  intro p e s m below meth c C hr hlk hxt
  refine z_lv (lv' := [(0, .ref (ad i)), (1, .int (zI (z))), (2, .int (zI (z1))), (3, .int (zI (z2)))]) [0, 1, 2, 3] rfl ?_
  refine z_aload_n C 0 dX9_compare_0 rfl ?_
  refine z_iload_n C 1 dX9_compare_1 rfl ?_
  refine z_cVX (As := [.int (zI (z))]) (rest := []) (ci := 11) C (c_X9_needPit l D A cs tt N ad g i hN hR hl0 z hz) (by omega) ha1 r1 rfl rfl mv_yX9_needPit q_1316 hd_yX9_needPit (by decide) (Nat.le_of_ble_eq_true rfl) (by decide) dX9_compare_2 rfl (fun E N' ad' g' h => by obtain ⟨rfl, rfl, rfl, rfl⟩ := h; exact z_uout C hxt hlk (by decide) (by decide) ⟨rfl, rfl, rfl, rfl⟩) (fun r N' ad' g' h => h.2.2.2.elim)

set_option maxRecDepth 100000 in
set_option maxHeartbeats 4000000 in
theorem c_X9_nearest (l : Launch) (D : va_G) (A : Nat → Prop) (cs : Nat → ClassId) (tt : Nat) (N : Nat) (ad : Nat → Nat) (g : Nat → va_E) (i : Nat) (hN : i + 921 ≤ N) (hR : isRec cs ad g i) (hl0 : l.stackTraces = false) (z : Int) (hz : -2147483648 ≤ z ∧ z ≤ 2147483647) : zMX l yX9_nearest cX9_nearest 6 (some .int) ({ frames := 8, cells := 1, slots := 6, locals := 480 } : Room) D A cs tt N ad g [.ref (ad i), .int (zI z)] (rI0 N ad fun _ _ => False) (xE N ad g eNS) := by
  obtain ⟨r1, r2, r3, r4, r5, r6, r7, r8, r9, r10, r11, r12⟩ := id hR
  have ha1 : zAt ad (i) (ad i) := rfl
  refine z_ofX (by decide) (Nat.le_of_ble_eq_true rfl) ?_
  intro p e s m below meth c C hr hlk hxt
  refine z_lv (lv' := [(0, .ref (ad i)), (1, .int (zI (z)))]) [0, 1] rfl ?_
  refine z_aload_n C 0 dX9_nearest_0 rfl ?_
  refine z_iload_n C 1 dX9_nearest_1 rfl ?_
  refine z_cVX (As := [.int (zI (z))]) (rest := []) (ci := 11) C (c_X9_needPit l D A cs tt N ad g i hN hR hl0 z hz) (by omega) ha1 r1 rfl rfl mv_yX9_needPit q_1316 hd_yX9_needPit (by decide) (Nat.le_of_ble_eq_true rfl) (by decide) dX9_nearest_2 rfl (fun E N' ad' g' h => by obtain ⟨rfl, rfl, rfl, rfl⟩ := h; exact z_uout C hxt hlk (by decide) (by decide) ⟨rfl, rfl, rfl, rfl⟩) (fun r N' ad' g' h => h.2.2.2.elim)

set_option maxRecDepth 100000 in
set_option maxHeartbeats 4000000 in
theorem c_X9_odds (l : Launch) (D : va_G) (A : Nat → Prop) (cs : Nat → ClassId) (tt : Nat) (N : Nat) (ad : Nat → Nat) (g : Nat → va_E) (i : Nat) (hN : i + 921 ≤ N) (hR : isRec cs ad g i) (hl0 : l.stackTraces = false) (z z1 z2 : Int) (hz : -2147483648 ≤ z ∧ z ≤ 2147483647) (hz1 : -2147483648 ≤ z1 ∧ z1 ≤ 2147483647) (hz2 : -2147483648 ≤ z2 ∧ z2 ≤ 2147483647) : zMX l yX9_odds cX9_odds 7 (some .int) ({ frames := 8, cells := 1, slots := 6, locals := 480 } : Room) D A cs tt N ad g [.ref (ad i), .int (zI z), .int (zI z1), .int (zI z2)] (rI0 N ad fun _ _ => False) (xE N ad g eNS) := by
  obtain ⟨r1, r2, r3, r4, r5, r6, r7, r8, r9, r10, r11, r12⟩ := id hR
  have ha1 : zAt ad (i) (ad i) := rfl
  refine z_ofX (by decide) (Nat.le_of_ble_eq_true rfl) ?_
  intro p e s m below meth c C hr hlk hxt
  refine z_lv (lv' := [(0, .ref (ad i)), (1, .int (zI (z))), (2, .int (zI (z1))), (3, .int (zI (z2)))]) [0, 1, 2, 3] rfl ?_
  refine z_aload_n C 0 dX9_odds_0 rfl ?_
  refine z_iload_n C 1 dX9_odds_1 rfl ?_
  refine z_cVX (As := [.int (zI (z))]) (rest := []) (ci := 11) C (c_X9_needSlope l D A cs tt N ad g i hN hR hl0 z hz) (by omega) ha1 r1 rfl rfl mv_yX9_needSlope q_940 hd_yX9_needSlope (by decide) (Nat.le_of_ble_eq_true rfl) (by decide) dX9_odds_2 rfl (fun E N' ad' g' h => by obtain ⟨rfl, rfl, rfl, rfl⟩ := h; exact z_uout C hxt hlk (by decide) (by decide) ⟨rfl, rfl, rfl, rfl⟩) (fun r N' ad' g' h => h.2.2.2.elim)

set_option maxRecDepth 100000 in
set_option maxHeartbeats 4000000 in
theorem c_X9_forecast (l : Launch) (D : va_G) (A : Nat → Prop) (cs : Nat → ClassId) (tt : Nat) (N : Nat) (ad : Nat → Nat) (g : Nat → va_E) (i : Nat) (hN : i + 921 ≤ N) (hR : isRec cs ad g i) (hl0 : l.stackTraces = false) (z z1 : Int) (hz : -2147483648 ≤ z ∧ z ≤ 2147483647) (hz1 : -2147483648 ≤ z1 ∧ z1 ≤ 2147483647) : zMX l yX9_forecast cX9_forecast 3 (some .int) ({ frames := 8, cells := 1, slots := 6, locals := 480 } : Room) D A cs tt N ad g [.ref (ad i), .int (zI z), .int (zI z1)] (rI0 N ad fun _ _ => False) (xE N ad g eNS) := by
  obtain ⟨r1, r2, r3, r4, r5, r6, r7, r8, r9, r10, r11, r12⟩ := id hR
  have ha1 : zAt ad (i) (ad i) := rfl
  have ha2 : zAt ad (i + 4) (ad (i + 4)) := rfl
  refine z_ofX (by decide) (Nat.le_of_ble_eq_true rfl) ?_
  intro p e s m below meth c C hr hlk hxt
  refine z_lv (lv' := [(0, .ref (ad i)), (1, .int (zI (z))), (2, .int (zI (z1)))]) [0, 1, 2] rfl ?_
  refine z_iload_n C 1 dX9_forecast_0 rfl ?_
  refine z_if_lt (tgt := 15) C dX9_forecast_1 (by decide) (by omega) (fun h1 => ?_) (fun h1 => ?_)
  · exact z_thrN (cls := eNS) (text := "no such hour") C hl0 (ix := 13) (rx := nsB) ns0 ns1 ns2 ns5 (by decide +kernel) q_904 q_24 (by decide +kernel) at_NS gd_NS dX9_forecast_15 dX9_forecast_18 dX9_forecast_19 dX9_forecast_21 dX9_forecast_24 hxt (by decide) (Nat.le_of_ble_eq_true rfl) (by decide) (by decide) hlk (by decide) (by decide) ⟨rfl, rfl, rfl, rfl⟩
  · refine z_iload_n C 1 dX9_forecast_4 rfl ?_
    refine z_aload_n C 0 dX9_forecast_5 rfl ?_
    refine z_get (v := .ref (ad (i + 4))) C (by omega) ha1 r1 rfl inA_X9 4 (by decide) q_353 rfl rfl dX9_forecast_6 ?_
    refine z_get (v := .int (zI (0))) C (by omega) ha2 r4.1 rfl inA_X5 1 (by decide) q_93 rfl rfl dX9_forecast_9 ?_
    refine z_icmp_lt (tgt := 25) C dX9_forecast_12 (by decide) (by omega) (by omega) (fun h => absurd h (by omega)) (fun _ => ?_)
    exact z_thrN (cls := eNS) (text := "no such hour") C hl0 (ix := 13) (rx := nsB) ns0 ns1 ns2 ns5 (by decide +kernel) q_904 q_24 (by decide +kernel) at_NS gd_NS dX9_forecast_15 dX9_forecast_18 dX9_forecast_19 dX9_forecast_21 dX9_forecast_24 hxt (by decide) (Nat.le_of_ble_eq_true rfl) (by decide) (by decide) hlk (by decide) (by decide) ⟨rfl, rfl, rfl, rfl⟩

set_option maxRecDepth 100000 in
set_option maxHeartbeats 4000000 in
theorem c_X9_gone (l : Launch) (D : va_G) (A : Nat → Prop) (cs : Nat → ClassId) (tt : Nat) (N : Nat) (ad : Nat → Nat) (g : Nat → va_E) (i : Nat) (hN : i + 921 ≤ N) (hR : isRec cs ad g i) (hl0 : l.stackTraces = false) (z : Int) (hz : -2147483648 ≤ z ∧ z ≤ 2147483647) : zMX l yX9_gone cX9_gone 3 (some .int) ({ frames := 8, cells := 1, slots := 6, locals := 480 } : Room) D A cs tt N ad g [.ref (ad i), .int (zI z)] (rI0 N ad fun _ _ => False) (xE N ad g eNS) := by
  obtain ⟨r1, r2, r3, r4, r5, r6, r7, r8, r9, r10, r11, r12⟩ := id hR
  have ha1 : zAt ad (i) (ad i) := rfl
  have ha2 : zAt ad (i + 11) (ad (i + 11)) := rfl
  have ha3 : zAt ad (i + 11 + 1) (ad (i + 11 + 1)) := rfl
  refine z_ofX (by decide) (Nat.le_of_ble_eq_true rfl) ?_
  intro p e s m below meth c C hr hlk hxt
  refine z_lv (lv' := [(0, .ref (ad i)), (1, .int (zI (z)))]) [0, 1] rfl ?_
  refine z_iload_n C 1 dX9_gone_0 rfl ?_
  refine z_if_lt (tgt := 18) C dX9_gone_1 (by decide) (by omega) (fun h1 => ?_) (fun h1 => ?_)
  · exact z_thrNW (cls := eNS) (text := "that name isn't given") C hl0 (ix := 13) (rx := nsB) ns0 ns1 ns2 ns5 (by decide +kernel) q_904 q_24 (by decide +kernel) at_NS gd_NS dX9_gone_18 dX9_gone_21 dX9_gone_22 dX9_gone_25 dX9_gone_28 hxt (by decide) (Nat.le_of_ble_eq_true rfl) (by decide) (by decide) hlk (by decide) (by decide) ⟨rfl, rfl, rfl, rfl⟩
  · refine z_iload_n C 1 dX9_gone_4 rfl ?_
    refine z_aload_n C 0 dX9_gone_5 rfl ?_
    refine z_get (v := .ref (ad (i + 11))) C (by omega) ha1 r1 rfl inA_X9 5 (by decide) q_354 rfl rfl dX9_gone_6 ?_
    refine z_get (v := .ref (ad (i + 11 + 1))) C (by omega) ha2 r5.1 rfl inA_X6 0 (by decide) q_258 rfl rfl dX9_gone_9 ?_
    refine z_get (v := .int (zI (0))) C (by omega) ha3 r5.2.1.1 rfl inA_X8 1 (by decide) q_177 rfl rfl dX9_gone_12 ?_
    refine z_icmp_lt (tgt := 29) C dX9_gone_15 (by decide) (by omega) (by omega) (fun h => absurd h (by omega)) (fun _ => ?_)
    exact z_thrNW (cls := eNS) (text := "that name isn't given") C hl0 (ix := 13) (rx := nsB) ns0 ns1 ns2 ns5 (by decide +kernel) q_904 q_24 (by decide +kernel) at_NS gd_NS dX9_gone_18 dX9_gone_21 dX9_gone_22 dX9_gone_25 dX9_gone_28 hxt (by decide) (Nat.le_of_ble_eq_true rfl) (by decide) (by decide) hlk (by decide) (by decide) ⟨rfl, rfl, rfl, rfl⟩
end
section
-- words of plain
theorem q_218 : (Jvm.Cond.fieldLink "SnowRecorder" (160 : Nat) "SnowRecorder$Notes" "size" "I") ∈ AW := AW_m 337 (by decide +kernel) (by decide +kernel)
theorem q_261 : (Jvm.Cond.fieldLink "SnowRecorder" (153 : Nat) "SnowRecorder$State" "acts" "I") ∈ AW := AW_m 380 (by decide +kernel) (by decide +kernel)
theorem q_265 : (Jvm.Cond.fieldLink "SnowRecorder" (156 : Nat) "SnowRecorder$State" "notes" "LSnowRecorder$Notes;") ∈ AW := AW_m 384 (by decide +kernel) (by decide +kernel)
theorem q_267 : (Jvm.Cond.fieldLink "SnowRecorder" (100 : Nat) "SnowRecorder$State" "refused" "[I") ∈ AW := AW_m 386 (by decide +kernel) (by decide +kernel)
theorem q_408 : (Jvm.Cond.methodLink "SnowRecorder" (255 : Nat) ({ cls := "SnowRecorder", name := "refuse", desc := "(I)I" } : Jvm.MethodName)) ∈ AW := AW_m 527 (by decide +kernel) (by decide +kernel)
theorem q_410 : (Jvm.Cond.instanceMethod ({ cls := "SnowRecorder", name := "refuse", desc := "(I)I" } : Jvm.MethodName)) ∈ AW := AW_m 529 (by decide +kernel) (by decide +kernel)
theorem q_411 : (Jvm.Cond.code ({ cls := "SnowRecorder", name := "refuse", desc := "(I)I" } : Jvm.MethodName) prog_1_method_36_code (2 : Nat) (Option.some Jvm.ClassFile.FieldType.int)) ∈ AW := AW_m 530 (by decide +kernel) (by decide +kernel)
theorem s_1 : Cond.selects "SnowRecorder" ({ cls := "SnowRecorder", name := "refuse", desc := "(I)I" } : Jvm.MethodName) ({ cls := "SnowRecorder", name := "refuse", desc := "(I)I" } : Jvm.MethodName) ∈ AW := AW_m 1 (by decide +kernel) (by decide +kernel)
theorem hd_yX9_refuse : yX9_refuse.cls ≠ "java/lang/invoke/MethodHandle" ∧ yX9_refuse.cls ≠ "java/lang/invoke/VarHandle" ∧ (parseMethodDescriptor yX9_refuse.desc).map (fun d => d.parameters.length) = some 1 := by decide +kernel
theorem mv_yX9_refuse : zWv yX9_refuse cX9_refuse 2 (some .int) := ⟨q_410, s_1, q_1, q_411⟩
end
section
-- decode rows of plain
theorem dX9_fault_0 : decode cX9_fault 0 = .ok (.aload_n 0, 1) := by decide +kernel
theorem dX9_fault_1 : decode cX9_fault 1 = .ok (.getfield 17, 3) := by decide +kernel
theorem dX9_fault_4 : decode cX9_fault 4 = .ok (.ireturn, 1) := by decide +kernel
theorem dX9_undo_0 : decode cX9_undo 0 = .ok (.aload_n 0, 1) := by decide +kernel
theorem dX9_undo_1 : decode cX9_undo 1 = .ok (.getfield 37, 3) := by decide +kernel
theorem dX9_undo_4 : decode cX9_undo 4 = .ok (.getfield 153, 3) := by decide +kernel
theorem dX9_undo_7 : decode cX9_undo 7 = .ok (.ifCond .ne 5, 3) := by decide +kernel
theorem dX9_undo_10 : decode cX9_undo 10 = .ok (.iconst (-1), 1) := by decide +kernel
theorem dX9_undo_11 : decode cX9_undo 11 = .ok (.ireturn, 1) := by decide +kernel
theorem dX9_restore_0 : decode cX9_restore 0 = .ok (.aload_n 0, 1) := by decide +kernel
theorem dX9_restore_1 : decode cX9_restore 1 = .ok (.getfield 44, 3) := by decide +kernel
theorem dX9_restore_4 : decode cX9_restore 4 = .ok (.ifCond .ne 5, 3) := by decide +kernel
theorem dX9_restore_7 : decode cX9_restore 7 = .ok (.iconst 0, 1) := by decide +kernel
theorem dX9_restore_8 : decode cX9_restore 8 = .ok (.ireturn, 1) := by decide +kernel
theorem dX9_forget_0 : decode cX9_forget 0 = .ok (.aload_n 0, 1) := by decide +kernel
theorem dX9_forget_1 : decode cX9_forget 1 = .ok (.getfield 37, 3) := by decide +kernel
theorem dX9_forget_4 : decode cX9_forget 4 = .ok (.getfield 156, 3) := by decide +kernel
theorem dX9_forget_7 : decode cX9_forget 7 = .ok (.iconst 0, 1) := by decide +kernel
theorem dX9_forget_8 : decode cX9_forget 8 = .ok (.putfield 160, 3) := by decide +kernel
theorem dX9_forget_11 : decode cX9_forget 11 = .ok (.return_, 1) := by decide +kernel
theorem dX9_refuse_0 : decode cX9_refuse 0 = .ok (.aload_n 0, 1) := by decide +kernel
theorem dX9_refuse_1 : decode cX9_refuse 1 = .ok (.getfield 37, 3) := by decide +kernel
theorem dX9_refuse_4 : decode cX9_refuse 4 = .ok (.getfield 100, 3) := by decide +kernel
theorem dX9_refuse_7 : decode cX9_refuse 7 = .ok (.iload_n 1, 1) := by decide +kernel
theorem dX9_refuse_8 : decode cX9_refuse 8 = .ok (.dup2, 1) := by decide +kernel
theorem dX9_refuse_9 : decode cX9_refuse 9 = .ok (.iaload, 1) := by decide +kernel
theorem dX9_refuse_10 : decode cX9_refuse 10 = .ok (.iconst 1, 1) := by decide +kernel
theorem dX9_refuse_11 : decode cX9_refuse 11 = .ok (.iadd, 1) := by decide +kernel
theorem dX9_refuse_12 : decode cX9_refuse 12 = .ok (.iastore, 1) := by decide +kernel
theorem dX9_refuse_13 : decode cX9_refuse 13 = .ok (.iconst (-1), 1) := by decide +kernel
theorem dX9_refuse_14 : decode cX9_refuse 14 = .ok (.ireturn, 1) := by decide +kernel
theorem dX9_fall_0 : decode cX9_fall 0 = .ok (.aload_n 0, 1) := by decide +kernel
theorem dX9_fall_1 : decode cX9_fall 1 = .ok (.iload_n 1, 1) := by decide +kernel
theorem dX9_fall_2 : decode cX9_fall 2 = .ok (.invokevirtual 268, 3) := by decide +kernel
theorem dX9_fall_5 : decode cX9_fall 5 = .ok (.ifCond .eq 12, 3) := by decide +kernel
theorem dX9_fall_17 : decode cX9_fall 17 = .ok (.aload_n 0, 1) := by decide +kernel
theorem dX9_fall_18 : decode cX9_fall 18 = .ok (.iconst 1, 1) := by decide +kernel
theorem dX9_fall_19 : decode cX9_fall 19 = .ok (.invokevirtual 255, 3) := by decide +kernel
theorem dX9_fall_22 : decode cX9_fall 22 = .ok (.ireturn, 1) := by decide +kernel
theorem dX9_dig_0 : decode cX9_dig 0 = .ok (.aload_n 0, 1) := by decide +kernel
theorem dX9_dig_1 : decode cX9_dig 1 = .ok (.iload_n 1, 1) := by decide +kernel
theorem dX9_dig_2 : decode cX9_dig 2 = .ok (.invokevirtual 268, 3) := by decide +kernel
theorem dX9_dig_5 : decode cX9_dig 5 = .ok (.ifCond .eq 21, 3) := by decide +kernel
theorem dX9_dig_26 : decode cX9_dig 26 = .ok (.aload_n 0, 1) := by decide +kernel
theorem dX9_dig_27 : decode cX9_dig 27 = .ok (.iconst 1, 1) := by decide +kernel
theorem dX9_dig_28 : decode cX9_dig 28 = .ok (.invokevirtual 255, 3) := by decide +kernel
theorem dX9_dig_31 : decode cX9_dig 31 = .ok (.ireturn, 1) := by decide +kernel
theorem dX9_slide_0 : decode cX9_slide 0 = .ok (.aload_n 0, 1) := by decide +kernel
theorem dX9_slide_1 : decode cX9_slide 1 = .ok (.iload_n 1, 1) := by decide +kernel
theorem dX9_slide_2 : decode cX9_slide 2 = .ok (.invokevirtual 268, 3) := by decide +kernel
theorem dX9_slide_5 : decode cX9_slide 5 = .ok (.ifCond .eq 18, 3) := by decide +kernel
theorem dX9_slide_23 : decode cX9_slide 23 = .ok (.aload_n 0, 1) := by decide +kernel
theorem dX9_slide_24 : decode cX9_slide 24 = .ok (.iconst 1, 1) := by decide +kernel
theorem dX9_slide_25 : decode cX9_slide 25 = .ok (.invokevirtual 255, 3) := by decide +kernel
theorem dX9_slide_28 : decode cX9_slide 28 = .ok (.ireturn, 1) := by decide +kernel
theorem dX9_pit_0 : decode cX9_pit 0 = .ok (.aload_n 0, 1) := by decide +kernel
theorem dX9_pit_1 : decode cX9_pit 1 = .ok (.iload_n 1, 1) := by decide +kernel
theorem dX9_pit_2 : decode cX9_pit 2 = .ok (.invokevirtual 268, 3) := by decide +kernel
theorem dX9_pit_5 : decode cX9_pit 5 = .ok (.ifCond .eq 18, 3) := by decide +kernel
theorem dX9_pit_23 : decode cX9_pit 23 = .ok (.aload_n 0, 1) := by decide +kernel
theorem dX9_pit_24 : decode cX9_pit 24 = .ok (.iconst 1, 1) := by decide +kernel
theorem dX9_pit_25 : decode cX9_pit 25 = .ok (.invokevirtual 255, 3) := by decide +kernel
theorem dX9_pit_28 : decode cX9_pit 28 = .ok (.ireturn, 1) := by decide +kernel
theorem dX9_note_0 : decode cX9_note 0 = .ok (.aload_n 0, 1) := by decide +kernel
theorem dX9_note_1 : decode cX9_note 1 = .ok (.iload_n 1, 1) := by decide +kernel
theorem dX9_note_2 : decode cX9_note 2 = .ok (.invokevirtual 268, 3) := by decide +kernel
theorem dX9_note_5 : decode cX9_note 5 = .ok (.ifCond .eq 28, 3) := by decide +kernel
theorem dX9_note_33 : decode cX9_note 33 = .ok (.iconst 0, 1) := by decide +kernel
theorem dX9_note_34 : decode cX9_note 34 = .ok (.istore 4, 2) := by decide +kernel
theorem dX9_note_36 : decode cX9_note 36 = .ok (.iload 4, 2) := by decide +kernel
theorem dX9_note_38 : decode cX9_note 38 = .ok (.ifCond .eq 18, 3) := by decide +kernel
theorem dX9_note_56 : decode cX9_note 56 = .ok (.aload_n 0, 1) := by decide +kernel
theorem dX9_note_57 : decode cX9_note 57 = .ok (.iconst 2, 1) := by decide +kernel
theorem dX9_note_58 : decode cX9_note 58 = .ok (.invokevirtual 255, 3) := by decide +kernel
theorem dX9_note_61 : decode cX9_note 61 = .ok (.ireturn, 1) := by decide +kernel
end
section
/-- nothing outside the recorder's own roles has changed -/
abbrev oR (i : Nat) (g g' : Nat → va_E) : Prop := ∀ j, j < i ∨ i + 921 ≤ j → g' j = g j
set_option maxRecDepth 100000 in
set_option maxHeartbeats 4000000 in
theorem c_X9_fault (l : Launch) (D : va_G) (A : Nat → Prop) (cs : Nat → ClassId) (tt : Nat) (N : Nat) (ad : Nat → Nat) (g : Nat → va_E) (i : Nat) (hN : i + 921 ≤ N) (hR : isRec cs ad g i) : zM l yX9_fault cX9_fault 1 (some .int) ({ frames := 1, cells := 0, slots := 0, locals := 60 } : Room) D A cs tt N ad g [.ref (ad i)] (rI0 N ad fun r g' => r = -1 ∧ oR i g g') := by
  obtain ⟨r1, r2, r3, r4, r5, r6, r7, r8, r9, r10, r11, r12⟩ := id hR
  have ha1 : zAt ad (i) (ad i) := rfl
  refine z_of (by decide) (Nat.le_of_ble_eq_true rfl) ?_
  intro p e s m below meth c C hr hlk hnm
  refine z_lv (lv' := [(0, .ref (ad i))]) [0] rfl ?_
  refine z_aload_n C 0 dX9_fault_0 rfl ?_
  refine z_get (v := .int (zI (-1))) C (by omega) ha1 r1 rfl inA_X9 2 (by decide) q_351 rfl rfl dX9_fault_1 ?_
  exact z_iret C hr hlk dX9_fault_4 (by decide) (by decide) ⟨-1, rfl, rfl, rfl, rfl, fun j h1 => by rfl⟩

set_option maxRecDepth 100000 in
set_option maxHeartbeats 4000000 in
theorem c_X9_undo (l : Launch) (D : va_G) (A : Nat → Prop) (cs : Nat → ClassId) (tt : Nat) (N : Nat) (ad : Nat → Nat) (g : Nat → va_E) (i : Nat) (hN : i + 921 ≤ N) (hR : isRec cs ad g i) : zM l yX9_undo cX9_undo 1 (some .int) ({ frames := 1, cells := 0, slots := 0, locals := 60 } : Room) D A cs tt N ad g [.ref (ad i)] (rI0 N ad fun r g' => r = -1 ∧ oR i g g') := by
  obtain ⟨r1, r2, r3, r4, r5, r6, r7, r8, r9, r10, r11, r12⟩ := id hR
  have ha1 : zAt ad (i) (ad i) := rfl
  have ha2 : zAt ad (i + 11) (ad (i + 11)) := rfl
  refine z_of (by decide) (Nat.le_of_ble_eq_true rfl) ?_
  intro p e s m below meth c C hr hlk hnm
  refine z_lv (lv' := [(0, .ref (ad i))]) [0] rfl ?_
  refine z_aload_n C 0 dX9_undo_0 rfl ?_
  refine z_get (v := .ref (ad (i + 11))) C (by omega) ha1 r1 rfl inA_X9 5 (by decide) q_354 rfl rfl dX9_undo_1 ?_
  refine z_get (v := .int (zI (0))) C (by omega) ha2 r5.1 rfl inA_X6 2 (by decide) q_261 rfl rfl dX9_undo_4 ?_
  refine z_if_ne (tgt := 12) C dX9_undo_7 (by decide) (by omega) (fun h => absurd h (by omega)) (fun _ => ?_)
  refine z_iconst (z := -1) C dX9_undo_10 rfl ?_
  exact z_iret C hr hlk dX9_undo_11 (by decide) (by decide) ⟨-1, rfl, rfl, rfl, rfl, fun j h1 => by rfl⟩

set_option maxRecDepth 100000 in
set_option maxHeartbeats 4000000 in
theorem c_X9_restore (l : Launch) (D : va_G) (A : Nat → Prop) (cs : Nat → ClassId) (tt : Nat) (N : Nat) (ad : Nat → Nat) (g : Nat → va_E) (i : Nat) (hN : i + 921 ≤ N) (hR : isRec cs ad g i) : zM l yX9_restore cX9_restore 1 (some .boolean) ({ frames := 1, cells := 0, slots := 0, locals := 60 } : Room) D A cs tt N ad g [.ref (ad i)] (rI0 N ad fun r g' => r = 0 ∧ oR i g g') := by
  obtain ⟨r1, r2, r3, r4, r5, r6, r7, r8, r9, r10, r11, r12⟩ := id hR
  have ha1 : zAt ad (i) (ad i) := rfl
  refine z_of (by decide) (Nat.le_of_ble_eq_true rfl) ?_
  intro p e s m below meth c C hr hlk hnm
  refine z_lv (lv' := [(0, .ref (ad i))]) [0] rfl ?_
  refine z_aload_n C 0 dX9_restore_0 rfl ?_
  refine z_get (v := .int (zI (0))) C (by omega) ha1 r1 rfl inA_X9 7 (by decide) q_356 rfl rfl dX9_restore_1 ?_
  refine z_if_ne (tgt := 9) C dX9_restore_4 (by decide) (by omega) (fun h => absurd h (by omega)) (fun _ => ?_)
  refine z_iconst (z := 0) C dX9_restore_7 rfl ?_
  exact z_zret C hr hlk dX9_restore_8 (by decide) (by decide) (by decide) ⟨0, rfl, rfl, rfl, rfl, fun j h1 => by rfl⟩

set_option maxRecDepth 100000 in
set_option maxHeartbeats 4000000 in
theorem c_X9_forget (l : Launch) (D : va_G) (A : Nat → Prop) (cs : Nat → ClassId) (tt : Nat) (N : Nat) (ad : Nat → Nat) (g : Nat → va_E) (i : Nat) (hN : i + 921 ≤ N) (hR : isRec cs ad g i) : zM l yX9_forget cX9_forget 1 none ({ frames := 1, cells := 0, slots := 0, locals := 60 } : Room) D A cs tt N ad g [.ref (ad i)] (rV0 N ad fun g' => oR i g g') := by
  obtain ⟨r1, r2, r3, r4, r5, r6, r7, r8, r9, r10, r11, r12⟩ := id hR
  have ha1 : zAt ad (i) (ad i) := rfl
  have ha2 : zAt ad (i + 11) (ad (i + 11)) := rfl
  have ha3 : zAt ad (i + 11 + 13) (ad (i + 11 + 13)) := rfl
  refine z_of (by decide) (Nat.le_of_ble_eq_true rfl) ?_
  intro p e s m below meth c C hr hlk hnm
  refine z_lv (lv' := [(0, .ref (ad i))]) [0] rfl ?_
  refine z_aload_n C 0 dX9_forget_0 rfl ?_
  refine z_get (v := .ref (ad (i + 11))) C (by omega) ha1 r1 rfl inA_X9 5 (by decide) q_354 rfl rfl dX9_forget_1 ?_
  refine z_get (v := .ref (ad (i + 11 + 13))) C (by omega) ha2 r5.1 rfl inA_X6 4 (by decide) q_265 rfl rfl dX9_forget_4 ?_
  refine z_iconst (z := 0) C dX9_forget_7 rfl ?_
  refine z_put (fs' := [.int (zI (0)), .ref (ad (i + 11 + 13 + 1)), .ref (ad (i + 11 + 13 + 2)), .ref (ad (i + 11 + 13 + 3))]) C (by omega) ha3 r5.2.2.2.2.1.1 tyX2 tyX2_ok nmX2 rfl inA_X2 0 (by decide) q_218 rfl rfl rfl rfl (Nat.le_of_ble_eq_true rfl) rfl dX9_forget_8 (fun g4 eg5 => ?_)
  have hg6 := up_s eg5
  exact z_vret C hr hlk dX9_forget_11 (by decide) (by decide) ⟨rfl, rfl, rfl, fun j h1 => by rw [eg5, va_up_ne _ _ (by omega)]⟩

set_option maxRecDepth 100000 in
set_option maxHeartbeats 4000000 in
theorem c_X9_refuse (l : Launch) (D : va_G) (A : Nat → Prop) (cs : Nat → ClassId) (tt : Nat) (N : Nat) (ad : Nat → Nat) (g : Nat → va_E) (i : Nat) (hN : i + 921 ≤ N) (hR : isRec cs ad g i) (q : Nat) (hq : q < 3) : zM l yX9_refuse cX9_refuse 2 (some .int) ({ frames := 1, cells := 0, slots := 0, locals := 60 } : Room) D A cs tt N ad g [.ref (ad i), .int (zI (q : Int))] (rI0 N ad fun r g' => r = -1 ∧ oR i g g') := by
  obtain ⟨r1, r2, r3, r4, r5, r6, r7, r8, r9, r10, r11, r12⟩ := id hR
  have ha1 : zAt ad (i) (ad i) := rfl
  have ha2 : zAt ad (i + 11) (ad (i + 11)) := rfl
  have ha3 : zAt ad (i + 11 + 17) (ad (i + 11 + 17)) := rfl
  refine z_of (by decide) (Nat.le_of_ble_eq_true rfl) ?_
  intro p e s m below meth c C hr hlk hnm
  refine z_lv (lv' := [(0, .ref (ad i)), (1, .int (zI ((q : Int))))]) [0, 1] rfl ?_
  refine z_aload_n C 0 dX9_refuse_0 rfl ?_
  refine z_get (v := .ref (ad (i + 11))) C (by omega) ha1 r1 rfl inA_X9 5 (by decide) q_354 rfl rfl dX9_refuse_1 ?_
  refine z_get (v := .ref (ad (i + 11 + 17))) C (by omega) ha2 r5.1 rfl inA_X6 5 (by decide) q_267 rfl rfl dX9_refuse_4 ?_
  refine z_iload_n C 1 dX9_refuse_7 rfl ?_
  refine z_dup2 C dX9_refuse_8 rfl rfl ?_
  refine z_iald C (by omega) ha3 r5.2.2.2.2.2.1 (q) rfl hq (by decide) dX9_refuse_9 ?_
  refine z_iconst (z := 1) C dX9_refuse_10 rfl ?_
  refine z_iadd C dX9_refuse_11 ?_
  refine z_iast C (by omega) ha3 r5.2.2.2.2.2.1 (q) rfl hq (by decide) dX9_refuse_12 (fun g4 eg5 => ?_)
  have hg6 := up_s eg5
  refine z_iconst (z := -1) C dX9_refuse_13 rfl ?_
  exact z_iret C hr hlk dX9_refuse_14 (by decide) (by decide) ⟨-1, rfl, rfl, rfl, rfl, fun j h1 => by rw [eg5, va_up_ne _ _ (by omega)]⟩

set_option maxRecDepth 100000 in
set_option maxHeartbeats 4000000 in
theorem c_X9_fall (l : Launch) (D : va_G) (A : Nat → Prop) (cs : Nat → ClassId) (tt : Nat) (N : Nat) (ad : Nat → Nat) (g : Nat → va_E) (i : Nat) (hN : i + 921 ≤ N) (hR : isRec cs ad g i) (z z1 z2 : Int) (hz : -2147483648 ≤ z ∧ z ≤ 2147483647) (hz1 : -2147483648 ≤ z1 ∧ z1 ≤ 2147483647) (hz2 : -2147483648 ≤ z2 ∧ z2 ≤ 2147483647) : zM l yX9_fall cX9_fall 4 (some .int) ({ frames := 3, cells := 0, slots := 0, locals := 180 } : Room) D A cs tt N ad g [.ref (ad i), .int (zI z), .int (zI z1), .int (zI z2)] (rI0 N ad fun r g' => r = -1 ∧ oR i g g') := by
  obtain ⟨r1, r2, r3, r4, r5, r6, r7, r8, r9, r10, r11, r12⟩ := id hR
  have ha1 : zAt ad (i) (ad i) := rfl
  refine z_of (by decide) (Nat.le_of_ble_eq_true rfl) ?_
  intro p e s m below meth c C hr hlk hnm
  refine z_lv (lv' := [(0, .ref (ad i)), (1, .int (zI (z))), (2, .int (zI (z1))), (3, .int (zI (z2)))]) [0, 1, 2, 3] rfl ?_
  refine z_aload_n C 0 dX9_fall_0 rfl ?_
  refine z_iload_n C 1 dX9_fall_1 rfl ?_
  refine z_cV (As := [.int (zI (z))]) (rest := []) (ci := 11) C (c_X9_isSlope l D A cs tt N ad g i hN hR z hz) (by omega) ha1 r1 rfl rfl mv_yX9_isSlope q_537 hd_yX9_isSlope (by decide) (Nat.le_of_ble_eq_true rfl) (by decide) dX9_fall_2 rfl (kI0 fun r0 g0 h0 => ?_)
  obtain ⟨rfl, rfl⟩ := h0
  refine z_if_eq (tgt := 17) C dX9_fall_5 (by decide) (by omega) (fun _ => ?_) (fun h => absurd h (by omega))
  refine z_aload_n C 0 dX9_fall_17 rfl ?_
  refine z_iconst (z := 1) C dX9_fall_18 rfl ?_
  refine z_cV (As := [.int (zI (1))]) (rest := []) (ci := 11) C (c_X9_refuse l D A cs tt N ad _ i hN hR 1 (by decide)) (by omega) ha1 r1 rfl rfl mv_yX9_refuse q_408 hd_yX9_refuse (by decide) (Nat.le_of_ble_eq_true rfl) (by decide) dX9_fall_19 rfl (kI0 fun r1x g1x h1x => ?_)
  obtain ⟨rfl, h1y⟩ := h1x
  exact z_iret C hr hlk dX9_fall_22 (by decide) (by decide) ⟨-1, rfl, rfl, rfl, rfl, h1y⟩

set_option maxRecDepth 100000 in
set_option maxHeartbeats 4000000 in
theorem c_X9_dig (l : Launch) (D : va_G) (A : Nat → Prop) (cs : Nat → ClassId) (tt : Nat) (N : Nat) (ad : Nat → Nat) (g : Nat → va_E) (i : Nat) (hN : i + 921 ≤ N) (hR : isRec cs ad g i) (z : Int) (hz : -2147483648 ≤ z ∧ z ≤ 2147483647) : zM l yX9_dig cX9_dig 2 (some .int) ({ frames := 3, cells := 0, slots := 0, locals := 180 } : Room) D A cs tt N ad g [.ref (ad i), .int (zI z)] (rI0 N ad fun r g' => r = -1 ∧ oR i g g') := by
  obtain ⟨r1, r2, r3, r4, r5, r6, r7, r8, r9, r10, r11, r12⟩ := id hR
  have ha1 : zAt ad (i) (ad i) := rfl
  refine z_of (by decide) (Nat.le_of_ble_eq_true rfl) ?_
  intro p e s m below meth c C hr hlk hnm
  refine z_lv (lv' := [(0, .ref (ad i)), (1, .int (zI (z)))]) [0, 1] rfl ?_
  refine z_aload_n C 0 dX9_dig_0 rfl ?_
  refine z_iload_n C 1 dX9_dig_1 rfl ?_
  refine z_cV (As := [.int (zI (z))]) (rest := []) (ci := 11) C (c_X9_isSlope l D A cs tt N ad g i hN hR z hz) (by omega) ha1 r1 rfl rfl mv_yX9_isSlope q_537 hd_yX9_isSlope (by decide) (Nat.le_of_ble_eq_true rfl) (by decide) dX9_dig_2 rfl (kI0 fun r0 g0 h0 => ?_)
  obtain ⟨rfl, rfl⟩ := h0
  refine z_if_eq (tgt := 26) C dX9_dig_5 (by decide) (by omega) (fun _ => ?_) (fun h => absurd h (by omega))
  refine z_aload_n C 0 dX9_dig_26 rfl ?_
  refine z_iconst (z := 1) C dX9_dig_27 rfl ?_
  refine z_cV (As := [.int (zI (1))]) (rest := []) (ci := 11) C (c_X9_refuse l D A cs tt N ad _ i hN hR 1 (by decide)) (by omega) ha1 r1 rfl rfl mv_yX9_refuse q_408 hd_yX9_refuse (by decide) (Nat.le_of_ble_eq_true rfl) (by decide) dX9_dig_28 rfl (kI0 fun r1x g1x h1x => ?_)
  obtain ⟨rfl, h1y⟩ := h1x
  exact z_iret C hr hlk dX9_dig_31 (by decide) (by decide) ⟨-1, rfl, rfl, rfl, rfl, h1y⟩

set_option maxRecDepth 100000 in
set_option maxHeartbeats 4000000 in
theorem c_X9_slide (l : Launch) (D : va_G) (A : Nat → Prop) (cs : Nat → ClassId) (tt : Nat) (N : Nat) (ad : Nat → Nat) (g : Nat → va_E) (i : Nat) (hN : i + 921 ≤ N) (hR : isRec cs ad g i) (z : Int) (hz : -2147483648 ≤ z ∧ z ≤ 2147483647) : zM l yX9_slide cX9_slide 2 (some .int) ({ frames := 3, cells := 0, slots := 0, locals := 180 } : Room) D A cs tt N ad g [.ref (ad i), .int (zI z)] (rI0 N ad fun r g' => r = -1 ∧ oR i g g') := by
  obtain ⟨r1, r2, r3, r4, r5, r6, r7, r8, r9, r10, r11, r12⟩ := id hR
  have ha1 : zAt ad (i) (ad i) := rfl
  refine z_of (by decide) (Nat.le_of_ble_eq_true rfl) ?_
  intro p e s m below meth c C hr hlk hnm
  refine z_lv (lv' := [(0, .ref (ad i)), (1, .int (zI (z)))]) [0, 1] rfl ?_
  refine z_aload_n C 0 dX9_slide_0 rfl ?_
  refine z_iload_n C 1 dX9_slide_1 rfl ?_
  refine z_cV (As := [.int (zI (z))]) (rest := []) (ci := 11) C (c_X9_isSlope l D A cs tt N ad g i hN hR z hz) (by omega) ha1 r1 rfl rfl mv_yX9_isSlope q_537 hd_yX9_isSlope (by decide) (Nat.le_of_ble_eq_true rfl) (by decide) dX9_slide_2 rfl (kI0 fun r0 g0 h0 => ?_)
  obtain ⟨rfl, rfl⟩ := h0
  refine z_if_eq (tgt := 23) C dX9_slide_5 (by decide) (by omega) (fun _ => ?_) (fun h => absurd h (by omega))
  refine z_aload_n C 0 dX9_slide_23 rfl ?_
  refine z_iconst (z := 1) C dX9_slide_24 rfl ?_
  refine z_cV (As := [.int (zI (1))]) (rest := []) (ci := 11) C (c_X9_refuse l D A cs tt N ad _ i hN hR 1 (by decide)) (by omega) ha1 r1 rfl rfl mv_yX9_refuse q_408 hd_yX9_refuse (by decide) (Nat.le_of_ble_eq_true rfl) (by decide) dX9_slide_25 rfl (kI0 fun r1x g1x h1x => ?_)
  obtain ⟨rfl, h1y⟩ := h1x
  exact z_iret C hr hlk dX9_slide_28 (by decide) (by decide) ⟨-1, rfl, rfl, rfl, rfl, h1y⟩

set_option maxRecDepth 100000 in
set_option maxHeartbeats 4000000 in
theorem c_X9_pit (l : Launch) (D : va_G) (A : Nat → Prop) (cs : Nat → ClassId) (tt : Nat) (N : Nat) (ad : Nat → Nat) (g : Nat → va_E) (i : Nat) (hN : i + 921 ≤ N) (hR : isRec cs ad g i) (z : Int) (hz : -2147483648 ≤ z ∧ z ≤ 2147483647) : zM l yX9_pit cX9_pit 2 (some .int) ({ frames := 3, cells := 0, slots := 0, locals := 180 } : Room) D A cs tt N ad g [.ref (ad i), .int (zI z)] (rI0 N ad fun r g' => r = -1 ∧ oR i g g') := by
  obtain ⟨r1, r2, r3, r4, r5, r6, r7, r8, r9, r10, r11, r12⟩ := id hR
  have ha1 : zAt ad (i) (ad i) := rfl
  refine z_of (by decide) (Nat.le_of_ble_eq_true rfl) ?_
  intro p e s m below meth c C hr hlk hnm
  refine z_lv (lv' := [(0, .ref (ad i)), (1, .int (zI (z)))]) [0, 1] rfl ?_
  refine z_aload_n C 0 dX9_pit_0 rfl ?_
  refine z_iload_n C 1 dX9_pit_1 rfl ?_
  refine z_cV (As := [.int (zI (z))]) (rest := []) (ci := 11) C (c_X9_isSlope l D A cs tt N ad g i hN hR z hz) (by omega) ha1 r1 rfl rfl mv_yX9_isSlope q_537 hd_yX9_isSlope (by decide) (Nat.le_of_ble_eq_true rfl) (by decide) dX9_pit_2 rfl (kI0 fun r0 g0 h0 => ?_)
  obtain ⟨rfl, rfl⟩ := h0
  refine z_if_eq (tgt := 23) C dX9_pit_5 (by decide) (by omega) (fun _ => ?_) (fun h => absurd h (by omega))
  refine z_aload_n C 0 dX9_pit_23 rfl ?_
  refine z_iconst (z := 1) C dX9_pit_24 rfl ?_
  refine z_cV (As := [.int (zI (1))]) (rest := []) (ci := 11) C (c_X9_refuse l D A cs tt N ad _ i hN hR 1 (by decide)) (by omega) ha1 r1 rfl rfl mv_yX9_refuse q_408 hd_yX9_refuse (by decide) (Nat.le_of_ble_eq_true rfl) (by decide) dX9_pit_25 rfl (kI0 fun r1x g1x h1x => ?_)
  obtain ⟨rfl, h1y⟩ := h1x
  exact z_iret C hr hlk dX9_pit_28 (by decide) (by decide) ⟨-1, rfl, rfl, rfl, rfl, h1y⟩

set_option maxRecDepth 100000 in
set_option maxHeartbeats 4000000 in
theorem c_X9_note (l : Launch) (D : va_G) (A : Nat → Prop) (cs : Nat → ClassId) (tt : Nat) (N : Nat) (ad : Nat → Nat) (g : Nat → va_E) (i : Nat) (hN : i + 921 ≤ N) (hR : isRec cs ad g i) (z z1 z2 : Int) (hz : -2147483648 ≤ z ∧ z ≤ 2147483647) (hz1 : -2147483648 ≤ z1 ∧ z1 ≤ 2147483647) (hz2 : -2147483648 ≤ z2 ∧ z2 ≤ 2147483647) : zM l yX9_note cX9_note 5 (some .int) ({ frames := 3, cells := 0, slots := 0, locals := 180 } : Room) D A cs tt N ad g [.ref (ad i), .int (zI z), .int (zI z1), .int (zI z2)] (rI0 N ad fun r g' => r = -1 ∧ oR i g g') := by
  obtain ⟨r1, r2, r3, r4, r5, r6, r7, r8, r9, r10, r11, r12⟩ := id hR
  have ha1 : zAt ad (i) (ad i) := rfl
  refine z_of (by decide) (Nat.le_of_ble_eq_true rfl) ?_
  intro p e s m below meth c C hr hlk hnm
  refine z_lv (lv' := [(0, .ref (ad i)), (1, .int (zI (z))), (2, .int (zI (z1))), (3, .int (zI (z2)))]) [0, 1, 2, 3] rfl ?_
  refine z_aload_n C 0 dX9_note_0 rfl ?_
  refine z_iload_n C 1 dX9_note_1 rfl ?_
  refine z_cV (As := [.int (zI (z))]) (rest := []) (ci := 11) C (c_X9_isSlope l D A cs tt N ad g i hN hR z hz) (by omega) ha1 r1 rfl rfl mv_yX9_isSlope q_537 hd_yX9_isSlope (by decide) (Nat.le_of_ble_eq_true rfl) (by decide) dX9_note_2 rfl (kI0 fun r0 g0 h0 => ?_)
  obtain ⟨rfl, rfl⟩ := h0
  refine z_if_eq (tgt := 33) C dX9_note_5 (by decide) (by omega) (fun _ => ?_) (fun h => absurd h (by omega))
  refine z_iconst (z := 0) C dX9_note_33 rfl ?_
  refine z_istore (lv' := [(4, .int (zI (0))), (0, .ref (ad i)), (1, .int (zI (z))), (2, .int (zI (z1))), (3, .int (zI (z2)))]) C dX9_note_34 (by decide) rfl ?_
  refine z_iload C 0 dX9_note_36 rfl ?_
  refine z_if_eq (tgt := 56) C dX9_note_38 (by decide) (by omega) (fun _ => ?_) (fun h => absurd h (by omega))
  refine z_aload_n C 1 dX9_note_56 rfl ?_
  refine z_iconst (z := 2) C dX9_note_57 rfl ?_
  refine z_cV (As := [.int (zI (2))]) (rest := []) (ci := 11) C (c_X9_refuse l D A cs tt N ad _ i hN hR 2 (by decide)) (by omega) ha1 r1 rfl rfl mv_yX9_refuse q_408 hd_yX9_refuse (by decide) (Nat.le_of_ble_eq_true rfl) (by decide) dX9_note_58 rfl (kI0 fun r1x g1x h1x => ?_)
  obtain ⟨rfl, h1y⟩ := h1x
  exact z_iret C hr hlk dX9_note_61 (by decide) (by decide) ⟨-1, rfl, rfl, rfl, rfl, h1y⟩
end
section
-- words of world
theorem q_21 : (Jvm.Cond.initialized "java/lang/System") ∈ AW := AW_m 140 (by decide +kernel) (by decide +kernel)
theorem q_424 : (Jvm.Cond.methodLink "SnowRecorder$World" (40 : Nat) ({ cls := "SnowRecorder$Pack", name := "copyFrom", desc := "(LSnowRecorder$Pack;)V" } : Jvm.MethodName)) ∈ AW := AW_m 543 (by decide +kernel) (by decide +kernel)
theorem q_425 : (Jvm.Cond.instanceMethod ({ cls := "SnowRecorder$Pack", name := "copyFrom", desc := "(LSnowRecorder$Pack;)V" } : Jvm.MethodName)) ∈ AW := AW_m 544 (by decide +kernel) (by decide +kernel)
theorem q_426 : (Jvm.Cond.selects "SnowRecorder$Pack" ({ cls := "SnowRecorder$Pack", name := "copyFrom", desc := "(LSnowRecorder$Pack;)V" } : Jvm.MethodName) ({ cls := "SnowRecorder$Pack", name := "copyFrom", desc := "(LSnowRecorder$Pack;)V" } : Jvm.MethodName)) ∈ AW := AW_m 545 (by decide +kernel) (by decide +kernel)
theorem q_427 : (Jvm.Cond.code ({ cls := "SnowRecorder$Pack", name := "copyFrom", desc := "(LSnowRecorder$Pack;)V" } : Jvm.MethodName) prog_5_method_3_code (2 : Nat) (Option.none : Option Jvm.ClassFile.FieldType)) ∈ AW := AW_m 546 (by decide +kernel) (by decide +kernel)
theorem q_428 : (Jvm.Cond.methodLink "SnowRecorder$Pack" (22 : Nat) ({ cls := "java/lang/System", name := "arraycopy", desc := "(Ljava/lang/Object;ILjava/lang/Object;II)V" } : Jvm.MethodName)) ∈ AW := AW_m 547 (by decide +kernel) (by decide +kernel)
theorem q_429 : (Jvm.Cond.static ({ cls := "java/lang/System", name := "arraycopy", desc := "(Ljava/lang/Object;ILjava/lang/Object;II)V" } : Jvm.MethodName)) ∈ AW := AW_m 548 (by decide +kernel) (by decide +kernel)
theorem q_430 : (Jvm.Cond.native ({ cls := "java/lang/System", name := "arraycopy", desc := "(Ljava/lang/Object;ILjava/lang/Object;II)V" } : Jvm.MethodName)) ∈ AW := AW_m 549 (by decide +kernel) (by decide +kernel)
theorem hd_yX3_copyFrom : yX3_copyFrom.cls ≠ "java/lang/invoke/MethodHandle" ∧ yX3_copyFrom.cls ≠ "java/lang/invoke/VarHandle" ∧ (parseMethodDescriptor yX3_copyFrom.desc).map (fun d => d.parameters.length) = some 1 := by decide +kernel
theorem mv_yX3_copyFrom : zWv yX3_copyFrom cX3_copyFrom 2 none := ⟨q_425, q_426, q_6, q_427⟩
end
section
-- decode rows of world
theorem dX3_copyFrom_0 : decode cX3_copyFrom 0 = .ok (.aload_n 0, 1) := by decide +kernel
theorem dX3_copyFrom_1 : decode cX3_copyFrom 1 = .ok (.aload_n 1, 1) := by decide +kernel
theorem dX3_copyFrom_2 : decode cX3_copyFrom 2 = .ok (.getfield 9, 3) := by decide +kernel
theorem dX3_copyFrom_5 : decode cX3_copyFrom 5 = .ok (.putfield 9, 3) := by decide +kernel
theorem dX3_copyFrom_8 : decode cX3_copyFrom 8 = .ok (.aload_n 0, 1) := by decide +kernel
theorem dX3_copyFrom_9 : decode cX3_copyFrom 9 = .ok (.aload_n 1, 1) := by decide +kernel
theorem dX3_copyFrom_10 : decode cX3_copyFrom 10 = .ok (.getfield 15, 3) := by decide +kernel
theorem dX3_copyFrom_13 : decode cX3_copyFrom 13 = .ok (.putfield 15, 3) := by decide +kernel
theorem dX3_copyFrom_16 : decode cX3_copyFrom 16 = .ok (.aload_n 1, 1) := by decide +kernel
theorem dX3_copyFrom_17 : decode cX3_copyFrom 17 = .ok (.getfield 18, 3) := by decide +kernel
theorem dX3_copyFrom_20 : decode cX3_copyFrom 20 = .ok (.iconst 0, 1) := by decide +kernel
theorem dX3_copyFrom_21 : decode cX3_copyFrom 21 = .ok (.aload_n 0, 1) := by decide +kernel
theorem dX3_copyFrom_22 : decode cX3_copyFrom 22 = .ok (.getfield 18, 3) := by decide +kernel
theorem dX3_copyFrom_25 : decode cX3_copyFrom 25 = .ok (.iconst 0, 1) := by decide +kernel
theorem dX3_copyFrom_26 : decode cX3_copyFrom 26 = .ok (.aload_n 0, 1) := by decide +kernel
theorem dX3_copyFrom_27 : decode cX3_copyFrom 27 = .ok (.getfield 18, 3) := by decide +kernel
theorem dX3_copyFrom_30 : decode cX3_copyFrom 30 = .ok (.arraylength, 1) := by decide +kernel
theorem dX3_copyFrom_31 : decode cX3_copyFrom 31 = .ok (.invokestatic 22, 3) := by decide +kernel
theorem dX3_copyFrom_34 : decode cX3_copyFrom 34 = .ok (.return_, 1) := by decide +kernel
theorem dX8_copyFrom_0 : decode cX8_copyFrom 0 = .ok (.aload_n 0, 1) := by decide +kernel
theorem dX8_copyFrom_1 : decode cX8_copyFrom 1 = .ok (.aload_n 1, 1) := by decide +kernel
theorem dX8_copyFrom_2 : decode cX8_copyFrom 2 = .ok (.getfield 9, 3) := by decide +kernel
theorem dX8_copyFrom_5 : decode cX8_copyFrom 5 = .ok (.putfield 9, 3) := by decide +kernel
theorem dX8_copyFrom_8 : decode cX8_copyFrom 8 = .ok (.aload_n 0, 1) := by decide +kernel
theorem dX8_copyFrom_9 : decode cX8_copyFrom 9 = .ok (.aload_n 1, 1) := by decide +kernel
theorem dX8_copyFrom_10 : decode cX8_copyFrom 10 = .ok (.getfield 15, 3) := by decide +kernel
theorem dX8_copyFrom_13 : decode cX8_copyFrom 13 = .ok (.putfield 15, 3) := by decide +kernel
theorem dX8_copyFrom_16 : decode cX8_copyFrom 16 = .ok (.aload_n 0, 1) := by decide +kernel
theorem dX8_copyFrom_17 : decode cX8_copyFrom 17 = .ok (.aload_n 1, 1) := by decide +kernel
theorem dX8_copyFrom_18 : decode cX8_copyFrom 18 = .ok (.getfield 18, 3) := by decide +kernel
theorem dX8_copyFrom_21 : decode cX8_copyFrom 21 = .ok (.putfield 18, 3) := by decide +kernel
theorem dX8_copyFrom_24 : decode cX8_copyFrom 24 = .ok (.aload_n 0, 1) := by decide +kernel
theorem dX8_copyFrom_25 : decode cX8_copyFrom 25 = .ok (.aload_n 1, 1) := by decide +kernel
theorem dX8_copyFrom_26 : decode cX8_copyFrom 26 = .ok (.getfield 21, 3) := by decide +kernel
theorem dX8_copyFrom_29 : decode cX8_copyFrom 29 = .ok (.putfield 21, 3) := by decide +kernel
theorem dX8_copyFrom_32 : decode cX8_copyFrom 32 = .ok (.aload_n 0, 1) := by decide +kernel
theorem dX8_copyFrom_33 : decode cX8_copyFrom 33 = .ok (.aload_n 1, 1) := by decide +kernel
theorem dX8_copyFrom_34 : decode cX8_copyFrom 34 = .ok (.getfield 24, 3) := by decide +kernel
theorem dX8_copyFrom_37 : decode cX8_copyFrom 37 = .ok (.putfield 24, 3) := by decide +kernel
theorem dX8_copyFrom_40 : decode cX8_copyFrom 40 = .ok (.aload_n 0, 1) := by decide +kernel
theorem dX8_copyFrom_41 : decode cX8_copyFrom 41 = .ok (.aload_n 1, 1) := by decide +kernel
theorem dX8_copyFrom_42 : decode cX8_copyFrom 42 = .ok (.getfield 27, 3) := by decide +kernel
theorem dX8_copyFrom_45 : decode cX8_copyFrom 45 = .ok (.putfield 27, 3) := by decide +kernel
theorem dX8_copyFrom_48 : decode cX8_copyFrom 48 = .ok (.iconst 0, 1) := by decide +kernel
theorem dX8_copyFrom_49 : decode cX8_copyFrom 49 = .ok (.istore_n 2, 1) := by decide +kernel
theorem dX8_copyFrom_50 : decode cX8_copyFrom 50 = .ok (.iload_n 2, 1) := by decide +kernel
theorem dX8_copyFrom_51 : decode cX8_copyFrom 51 = .ok (.aload_n 0, 1) := by decide +kernel
theorem dX8_copyFrom_52 : decode cX8_copyFrom 52 = .ok (.getfield 32, 3) := by decide +kernel
theorem dX8_copyFrom_55 : decode cX8_copyFrom 55 = .ok (.arraylength, 1) := by decide +kernel
theorem dX8_copyFrom_56 : decode cX8_copyFrom 56 = .ok (.if_icmp .ge 24, 3) := by decide +kernel
theorem dX8_copyFrom_59 : decode cX8_copyFrom 59 = .ok (.aload_n 0, 1) := by decide +kernel
theorem dX8_copyFrom_60 : decode cX8_copyFrom 60 = .ok (.getfield 32, 3) := by decide +kernel
theorem dX8_copyFrom_63 : decode cX8_copyFrom 63 = .ok (.iload_n 2, 1) := by decide +kernel
theorem dX8_copyFrom_64 : decode cX8_copyFrom 64 = .ok (.aaload, 1) := by decide +kernel
theorem dX8_copyFrom_65 : decode cX8_copyFrom 65 = .ok (.aload_n 1, 1) := by decide +kernel
theorem dX8_copyFrom_66 : decode cX8_copyFrom 66 = .ok (.getfield 32, 3) := by decide +kernel
theorem dX8_copyFrom_69 : decode cX8_copyFrom 69 = .ok (.iload_n 2, 1) := by decide +kernel
theorem dX8_copyFrom_70 : decode cX8_copyFrom 70 = .ok (.aaload, 1) := by decide +kernel
theorem dX8_copyFrom_71 : decode cX8_copyFrom 71 = .ok (.invokevirtual 40, 3) := by decide +kernel
theorem dX8_copyFrom_74 : decode cX8_copyFrom 74 = .ok (.iinc 2 1, 3) := by decide +kernel
theorem dX8_copyFrom_77 : decode cX8_copyFrom 77 = .ok (.goto (-27), 3) := by decide +kernel
theorem dX8_copyFrom_80 : decode cX8_copyFrom 80 = .ok (.return_, 1) := by decide +kernel
end
section
theorem z_ext {p : Program} {l : Launch} {e : Env} {R : Room} {s : State} {m : MethodId} {args : Array Value} {below : List Frame} {meth : Method} {c : Code} {Q : State → Prop} {D : va_G} {A : Nat → Prop} {cs : Nat → ClassId} {nL N : Nat} {ad : Nat → Nat} {g : Nat → va_E} {k n pc : Nat} {lv : List (Nat × Value)} {st : List Value} {i M : Nat} {r r' : Nat → Int} (hi : i < N) (hg : g i = iA cs M r) (h : ∀ j, j < M → r j = r' j) (kk : ∀ g' : Nat → va_E, g' = va_up g i (iA cs M r') → zV p l e R s m args below meth c Q D A nL N ad g' k n pc lv st) : zV p l e R s m args below meth c Q D A nL N ad g k n pc lv st := by
  intro H locs ls hP hD hS hl
  have he := (wl_at (ad := ad) (g := g) hi).trans (by rw [hg])
  have hc : H[ad i]? = some (vp_cell (cs 1) (M, .inl (fun j => zI (r j)))) := hP i _ he
  have e9 : vp_cell (cs 1) (M, .inl (fun j => zI (r j))) = vp_cell (cs 1) (M, .inl (fun j => zI (r' j))) := by
    show arrV (cs 1) M (fun j => .int (zI (r j))) = arrV (cs 1) M (fun j => .int (zI (r' j)))
    unfold arrV
    congr 1
    apply Array.ext
    · simp
    · intro j h1 h2
      simp only [Array.getElem_ofFn]
      rw [h j (by simpa using h1)]
  rw [e9] at hc
  have hP1 := hP.set (e := iA cs M r') hD he hc (fun _ _ => rfl)
  have hD1 := hD.set (e := iA cs M r') he
  rw [wl_set] at hP1 hD1
  exact kk _ rfl H locs ls hP1 hD1 hS hl

set_option maxRecDepth 100000 in
set_option maxHeartbeats 4000000 in
theorem c_X3_copyFrom (l : Launch) (D : va_G) (A : Nat → Prop) (cs : Nat → ClassId) (tt : Nat) (N : Nat) (ad : Nat → Nat) (g : Nat → va_E) (a b : Nat) (hN : a + 2 ≤ N ∧ b + 2 ≤ N) (hab : a + 2 ≤ b ∨ b + 2 ≤ a) (sz ro sz2 ro2 : Int) (r r2 : Nat → Int) (ha : isPack cs ad g a sz ro r) (hb : isPack cs ad g b sz2 ro2 r2) : zM l yX3_copyFrom cX3_copyFrom 2 none ({ frames := 1, cells := 0, slots := 0, locals := 60 } : Room) D A cs tt N ad g [.ref (ad a), .ref (ad b)] (rV0 N ad fun g' => isPack cs ad g' a sz2 ro2 r2 ∧ ∀ j, j < a ∨ a + 2 ≤ j → g' j = g j) := by
  have ha1 : zAt ad (a) (ad a) := rfl
  have ha2 : zAt ad (a + 1) (ad (a + 1)) := rfl
  have ha3 : zAt ad (b) (ad b) := rfl
  have ha4 : zAt ad (b + 1) (ad (b + 1)) := rfl
  refine z_of (by decide) (Nat.le_of_ble_eq_true rfl) ?_
  intro p e s m below meth c C hr hlk hnm
  refine z_lv (lv' := [(0, .ref (ad a)), (1, .ref (ad b))]) [0, 1] rfl ?_
  refine z_aload_n C 0 dX3_copyFrom_0 rfl ?_
  refine z_aload_n C 1 dX3_copyFrom_1 rfl ?_
  refine z_get (v := .int (zI (sz2))) C (by omega) ha3 hb.1 rfl inA_X3 0 (by decide) q_154 rfl rfl dX3_copyFrom_2 ?_
  refine z_put (fs' := [.int (zI (sz2)), .int (zI (ro)), .ref (ad (a + 1))]) C (by omega) ha1 ha.1 tyX3 tyX3_ok nmX3 rfl inA_X3 0 (by decide) q_154 rfl rfl rfl rfl (Nat.le_of_ble_eq_true rfl) rfl dX3_copyFrom_5 (fun g5 eg6 => ?_)
  have hg7 := up_s eg6
  refine z_aload_n C 0 dX3_copyFrom_8 rfl ?_
  refine z_aload_n C 1 dX3_copyFrom_9 rfl ?_
  have hg8 := up_n eg6 hb.1 (by omega)
  refine z_get (v := .int (zI (ro2))) C (by omega) ha3 hg8 rfl inA_X3 1 (by decide) q_159 rfl rfl dX3_copyFrom_10 ?_
  refine z_put (fs' := [.int (zI (sz2)), .int (zI (ro2)), .ref (ad (a + 1))]) C (by omega) ha1 hg7 tyX3 tyX3_ok nmX3 rfl inA_X3 1 (by decide) q_159 rfl rfl rfl rfl (Nat.le_of_ble_eq_true rfl) rfl dX3_copyFrom_13 (fun g9 eg10 => ?_)
  have hg11 := up_s eg10
  refine z_aload_n C 1 dX3_copyFrom_16 rfl ?_
  have hg12 := up_n eg10 hg8 (by omega)
  refine z_get (v := .ref (ad (b + 1))) C (by omega) ha3 hg12 rfl inA_X3 2 (by decide) q_162 rfl rfl dX3_copyFrom_17 ?_
  refine z_iconst (z := 0) C dX3_copyFrom_20 rfl ?_
  refine z_aload_n C 0 dX3_copyFrom_21 rfl ?_
  refine z_get (v := .ref (ad (a + 1))) C (by omega) ha1 hg11 rfl inA_X3 2 (by decide) q_162 rfl rfl dX3_copyFrom_22 ?_
  refine z_iconst (z := 0) C dX3_copyFrom_25 rfl ?_
  refine z_aload_n C 0 dX3_copyFrom_26 rfl ?_
  refine z_get (v := .ref (ad (a + 1))) C (by omega) ha1 hg11 rfl inA_X3 2 (by decide) q_162 rfl rfl dX3_copyFrom_27 ?_
  have hg13 := up_n eg6 ha.2 (ne_o (i := a) (c := 1) (d := 0) rfl)
  have hg14 := up_n eg10 hg13 (ne_o (i := a) (c := 1) (d := 0) rfl)
  refine z_alen (z := 84) C (by omega) ha2 hg14 1 rfl rfl dX3_copyFrom_30 ?_
  have hg15 := up_n eg6 hb.2 (by omega)
  have hg16 := up_n eg10 hg15 (by omega)
  refine z_copyI C q_428 q_430 q_429 q_21 (by omega) (by omega) ha4 ha2 hg16 hg14 0 0 84 rfl rfl rfl (by decide) (by decide) (by decide) (by decide) (Nat.le_of_ble_eq_true rfl) dX3_copyFrom_31 (fun g17 eg18 => ?_)
  have hg19 := up_s eg18
  refine z_ext (r' := r2) (by omega) hg19 (fun j hj => cZ_all hj) (fun g20 eg21 => ?_)
  have hg22 := up_s eg21
  have hg23 := up_n eg18 hg11 (ne_o (i := a) (c := 0) (d := 1) rfl)
  have hg24 := up_n eg21 hg23 (ne_o (i := a) (c := 0) (d := 1) rfl)
  exact z_vret C hr hlk dX3_copyFrom_34 (by decide) (by decide) ⟨rfl, rfl, rfl, ⟨hg24, hg22⟩, fun j h1 => by rw [eg21, va_up_ne _ _ (by omega)]; rw [eg18, va_up_ne _ _ (by omega)]; rw [eg10, va_up_ne _ _ (by omega)]; rw [eg6, va_up_ne _ _ (by omega)]⟩

set_option maxRecDepth 100000 in
set_option maxHeartbeats 4000000 in
theorem c_X8_copyFrom (l : Launch) (D : va_G) (A : Nat → Prop) (cs : Nat → ClassId) (tt : Nat) (N : Nat) (ad : Nat → Nat) (g : Nat → va_E) (a b : Nat) (hN : a + 10 ≤ N ∧ b + 10 ≤ N) (hab : a + 10 ≤ b ∨ b + 10 ≤ a) (t sz ro t2 sz2 ro2 : Nat → Int) (r r2 : Nat → Nat → Int) (ha : isWorld cs ad g a t sz ro r) (hb : isWorld cs ad g b t2 sz2 ro2 r2) : zM l yX8_copyFrom cX8_copyFrom 3 none ({ frames := 2, cells := 0, slots := 0, locals := 120 } : Room) D A cs tt N ad g [.ref (ad a), .ref (ad b)] (rV0 N ad fun g' => isWorld cs ad g' a t2 sz2 ro2 r2 ∧ ∀ j, j < a ∨ a + 10 ≤ j → g' j = g j) := by
  obtain ⟨u1, ⟨ua, u2, u3⟩, u4⟩ := id ha
  have ha1 : zAt ad (a) (ad a) := rfl
  have ha2 : zAt ad (a + 1) (ad (a + 1)) := rfl
  have up0 : isPack cs ad g (a + 2) (sz 0) (ro 0) (r 0) := u4 0 (by decide)
  have uq0 : ua 0 = some (ad (a + 2)) := u3 0 (by decide)
  have ha3 : zAt ad (a + 2) (ad (a + 2)) := rfl
  have up1 : isPack cs ad g (a + 4) (sz 1) (ro 1) (r 1) := u4 1 (by decide)
  have uq1 : ua 1 = some (ad (a + 4)) := u3 1 (by decide)
  have ha4 : zAt ad (a + 4) (ad (a + 4)) := rfl
  have up2 : isPack cs ad g (a + 6) (sz 2) (ro 2) (r 2) := u4 2 (by decide)
  have uq2 : ua 2 = some (ad (a + 6)) := u3 2 (by decide)
  have ha5 : zAt ad (a + 6) (ad (a + 6)) := rfl
  have up3 : isPack cs ad g (a + 8) (sz 3) (ro 3) (r 3) := u4 3 (by decide)
  have uq3 : ua 3 = some (ad (a + 8)) := u3 3 (by decide)
  have ha6 : zAt ad (a + 8) (ad (a + 8)) := rfl
  obtain ⟨v1, ⟨va, v2, v3⟩, v4⟩ := id hb
  have ha7 : zAt ad (b) (ad b) := rfl
  have ha8 : zAt ad (b + 1) (ad (b + 1)) := rfl
  have vp0 : isPack cs ad g (b + 2) (sz2 0) (ro2 0) (r2 0) := v4 0 (by decide)
  have vq0 : va 0 = some (ad (b + 2)) := v3 0 (by decide)
  have ha9 : zAt ad (b + 2) (ad (b + 2)) := rfl
  have vp1 : isPack cs ad g (b + 4) (sz2 1) (ro2 1) (r2 1) := v4 1 (by decide)
  have vq1 : va 1 = some (ad (b + 4)) := v3 1 (by decide)
  have ha10 : zAt ad (b + 4) (ad (b + 4)) := rfl
  have vp2 : isPack cs ad g (b + 6) (sz2 2) (ro2 2) (r2 2) := v4 2 (by decide)
  have vq2 : va 2 = some (ad (b + 6)) := v3 2 (by decide)
  have ha11 : zAt ad (b + 6) (ad (b + 6)) := rfl
  have vp3 : isPack cs ad g (b + 8) (sz2 3) (ro2 3) (r2 3) := v4 3 (by decide)
  have vq3 : va 3 = some (ad (b + 8)) := v3 3 (by decide)
  have ha12 : zAt ad (b + 8) (ad (b + 8)) := rfl
  refine z_of (by decide) (Nat.le_of_ble_eq_true rfl) ?_
  intro p e s m below meth c C hr hlk hnm
  refine z_lv (lv' := [(0, .ref (ad a)), (1, .ref (ad b))]) [0, 1] rfl ?_
  refine z_aload_n C 0 dX8_copyFrom_0 rfl ?_
  refine z_aload_n C 1 dX8_copyFrom_1 rfl ?_
  refine z_get (v := .int (zI (t2 0))) C (by omega) ha7 v1 rfl inA_X8 0 (by decide) q_173 rfl rfl dX8_copyFrom_2 ?_
  refine z_put (fs' := [.int (zI (t2 0)), .int (zI (t 1)), .int (zI (t 2)), .int (zI (t 3)), .int (zI (t 4)), .int (zI (t 5)), .ref (ad (a + 1))]) C (by omega) ha1 u1 tyX8 tyX8_ok nmX8 rfl inA_X8 0 (by decide) q_173 rfl rfl rfl rfl (Nat.le_of_ble_eq_true rfl) rfl dX8_copyFrom_5 (fun g13 eg14 => ?_)
  have hg15 := up_s eg14
  refine z_aload_n C 0 dX8_copyFrom_8 rfl ?_
  refine z_aload_n C 1 dX8_copyFrom_9 rfl ?_
  have hg16 := up_n eg14 v1 (by omega)
  refine z_get (v := .int (zI (t2 1))) C (by omega) ha7 hg16 rfl inA_X8 1 (by decide) q_176 rfl rfl dX8_copyFrom_10 ?_
  refine z_put (fs' := [.int (zI (t2 0)), .int (zI (t2 1)), .int (zI (t 2)), .int (zI (t 3)), .int (zI (t 4)), .int (zI (t 5)), .ref (ad (a + 1))]) C (by omega) ha1 hg15 tyX8 tyX8_ok nmX8 rfl inA_X8 1 (by decide) q_176 rfl rfl rfl rfl (Nat.le_of_ble_eq_true rfl) rfl dX8_copyFrom_13 (fun g17 eg18 => ?_)
  have hg19 := up_s eg18
  refine z_aload_n C 0 dX8_copyFrom_16 rfl ?_
  refine z_aload_n C 1 dX8_copyFrom_17 rfl ?_
  have hg20 := up_n eg18 hg16 (by omega)
  refine z_get (v := .int (zI (t2 2))) C (by omega) ha7 hg20 rfl inA_X8 2 (by decide) q_179 rfl rfl dX8_copyFrom_18 ?_
  refine z_put (fs' := [.int (zI (t2 0)), .int (zI (t2 1)), .int (zI (t2 2)), .int (zI (t 3)), .int (zI (t 4)), .int (zI (t 5)), .ref (ad (a + 1))]) C (by omega) ha1 hg19 tyX8 tyX8_ok nmX8 rfl inA_X8 2 (by decide) q_179 rfl rfl rfl rfl (Nat.le_of_ble_eq_true rfl) rfl dX8_copyFrom_21 (fun g21 eg22 => ?_)
  have hg23 := up_s eg22
  refine z_aload_n C 0 dX8_copyFrom_24 rfl ?_
  refine z_aload_n C 1 dX8_copyFrom_25 rfl ?_
  have hg24 := up_n eg22 hg20 (by omega)
  refine z_get (v := .int (zI (t2 3))) C (by omega) ha7 hg24 rfl inA_X8 3 (by decide) q_181 rfl rfl dX8_copyFrom_26 ?_
  refine z_put (fs' := [.int (zI (t2 0)), .int (zI (t2 1)), .int (zI (t2 2)), .int (zI (t2 3)), .int (zI (t 4)), .int (zI (t 5)), .ref (ad (a + 1))]) C (by omega) ha1 hg23 tyX8 tyX8_ok nmX8 rfl inA_X8 3 (by decide) q_181 rfl rfl rfl rfl (Nat.le_of_ble_eq_true rfl) rfl dX8_copyFrom_29 (fun g25 eg26 => ?_)
  have hg27 := up_s eg26
  refine z_aload_n C 0 dX8_copyFrom_32 rfl ?_
  refine z_aload_n C 1 dX8_copyFrom_33 rfl ?_
  have hg28 := up_n eg26 hg24 (by omega)
  refine z_get (v := .int (zI (t2 4))) C (by omega) ha7 hg28 rfl inA_X8 4 (by decide) q_183 rfl rfl dX8_copyFrom_34 ?_
  refine z_put (fs' := [.int (zI (t2 0)), .int (zI (t2 1)), .int (zI (t2 2)), .int (zI (t2 3)), .int (zI (t2 4)), .int (zI (t 5)), .ref (ad (a + 1))]) C (by omega) ha1 hg27 tyX8 tyX8_ok nmX8 rfl inA_X8 4 (by decide) q_183 rfl rfl rfl rfl (Nat.le_of_ble_eq_true rfl) rfl dX8_copyFrom_37 (fun g29 eg30 => ?_)
  have hg31 := up_s eg30
  refine z_aload_n C 0 dX8_copyFrom_40 rfl ?_
  refine z_aload_n C 1 dX8_copyFrom_41 rfl ?_
  have hg32 := up_n eg30 hg28 (by omega)
  refine z_get (v := .int (zI (t2 5))) C (by omega) ha7 hg32 rfl inA_X8 5 (by decide) q_185 rfl rfl dX8_copyFrom_42 ?_
  refine z_put (fs' := [.int (zI (t2 0)), .int (zI (t2 1)), .int (zI (t2 2)), .int (zI (t2 3)), .int (zI (t2 4)), .int (zI (t2 5)), .ref (ad (a + 1))]) C (by omega) ha1 hg31 tyX8 tyX8_ok nmX8 rfl inA_X8 5 (by decide) q_185 rfl rfl rfl rfl (Nat.le_of_ble_eq_true rfl) rfl dX8_copyFrom_45 (fun g33 eg34 => ?_)
  have hg35 := up_s eg34
  refine z_iconst (z := 0) C dX8_copyFrom_48 rfl ?_
  refine z_istore_n (lv' := [(2, .int (zI (0))), (0, .ref (ad a)), (1, .ref (ad b))]) C dX8_copyFrom_49 rfl (by decide) rfl ?_
  refine z_iload_n C 0 dX8_copyFrom_50 rfl ?_
  refine z_aload_n C 1 dX8_copyFrom_51 rfl ?_
  refine z_get (v := .ref (ad (a + 1))) C (by omega) ha1 hg35 rfl inA_X8 6 (by decide) q_188 rfl rfl dX8_copyFrom_52 ?_
  have hg36 := up_n eg14 u2 (ne_o (i := a) (c := 1) (d := 0) rfl)
  have hg37 := up_n eg18 hg36 (ne_o (i := a) (c := 1) (d := 0) rfl)
  have hg38 := up_n eg22 hg37 (ne_o (i := a) (c := 1) (d := 0) rfl)
  have hg39 := up_n eg26 hg38 (ne_o (i := a) (c := 1) (d := 0) rfl)
  have hg40 := up_n eg30 hg39 (ne_o (i := a) (c := 1) (d := 0) rfl)
  have hg41 := up_n eg34 hg40 (ne_o (i := a) (c := 1) (d := 0) rfl)
  refine z_alen (z := 4) C (by omega) ha2 hg41 3 rfl rfl dX8_copyFrom_55 ?_
  refine z_icmp_ge (tgt := 80) C dX8_copyFrom_56 (by decide) (by omega) (by omega) (fun h => absurd h (by omega)) (fun _ => ?_)
  refine z_aload_n C 1 dX8_copyFrom_59 rfl ?_
  refine z_get (v := .ref (ad (a + 1))) C (by omega) ha1 hg35 rfl inA_X8 6 (by decide) q_188 rfl rfl dX8_copyFrom_60 ?_
  refine z_iload_n C 0 dX8_copyFrom_63 rfl ?_
  refine z_aald C (by omega) ha2 hg41 3 rfl (0) (by omega) (by omega) (by decide) uq0 dX8_copyFrom_64 ?_
  refine z_aload_n C 2 dX8_copyFrom_65 rfl ?_
  have hg42 := up_n eg34 hg32 (by omega)
  refine z_get (v := .ref (ad (b + 1))) C (by omega) ha7 hg42 rfl inA_X8 6 (by decide) q_188 rfl rfl dX8_copyFrom_66 ?_
  refine z_iload_n C 0 dX8_copyFrom_69 rfl ?_
  have hg43 := up_n eg14 v2 (by omega)
  have hg44 := up_n eg18 hg43 (by omega)
  have hg45 := up_n eg22 hg44 (by omega)
  have hg46 := up_n eg26 hg45 (by omega)
  have hg47 := up_n eg30 hg46 (by omega)
  have hg48 := up_n eg34 hg47 (by omega)
  refine z_aald C (by omega) ha8 hg48 3 rfl (0) (by omega) (by omega) (by decide) vq0 dX8_copyFrom_70 ?_
  have hp49 := isPack.mv (ad' := ad) (g' := g33) (fun j h1 h2 => by rfl) (fun j h1 h2 => by rw [eg34, va_up_ne _ _ (by omega)]; rw [eg30, va_up_ne _ _ (by omega)]; rw [eg26, va_up_ne _ _ (by omega)]; rw [eg22, va_up_ne _ _ (by omega)]; rw [eg18, va_up_ne _ _ (by omega)]; rw [eg14, va_up_ne _ _ (by omega)]) up0
  have hp50 := isPack.mv (ad' := ad) (g' := g33) (fun j h1 h2 => by rfl) (fun j h1 h2 => by rw [eg34, va_up_ne _ _ (by omega)]; rw [eg30, va_up_ne _ _ (by omega)]; rw [eg26, va_up_ne _ _ (by omega)]; rw [eg22, va_up_ne _ _ (by omega)]; rw [eg18, va_up_ne _ _ (by omega)]; rw [eg14, va_up_ne _ _ (by omega)]) vp0
  refine z_cV (As := [.ref (ad (b + 2))]) (rest := []) (ci := 5) C (c_X3_copyFrom l D A cs tt N ad _ (a + 2) (b + 2) (by omega) (by omega) _ _ _ _ _ _ hp49 hp50) (by omega) ha3 hp49.1 rfl rfl mv_yX3_copyFrom q_424 hd_yX3_copyFrom (by decide) (Nat.le_of_ble_eq_true rfl) (by decide) dX8_copyFrom_71 rfl (kV0 fun g51 hq52 => ?_)
  obtain ⟨hp53, hf54⟩ := hq52
  refine z_iinc (z := 1) (lv' := [(2, .int (zI (1))), (0, .ref (ad a)), (1, .ref (ad b))]) (j := 0) C dX8_copyFrom_74 rfl (congrArg zI (by omega)) (by decide) rfl ?_
  refine z_goto (tgt := 50) C dX8_copyFrom_77 (by decide) ?_
  refine z_iload_n C 0 dX8_copyFrom_50 rfl ?_
  refine z_aload_n C 1 dX8_copyFrom_51 rfl ?_
  have hg55 := (hf54 (a) (by omega)).trans hg35
  refine z_get (v := .ref (ad (a + 1))) C (by omega) ha1 hg55 rfl inA_X8 6 (by decide) q_188 rfl rfl dX8_copyFrom_52 ?_
  have hg56 := (hf54 (a + 1) (by omega)).trans hg41
  refine z_alen (z := 4) C (by omega) ha2 hg56 3 rfl rfl dX8_copyFrom_55 ?_
  refine z_icmp_ge (tgt := 80) C dX8_copyFrom_56 (by decide) (by omega) (by omega) (fun h => absurd h (by omega)) (fun _ => ?_)
  refine z_aload_n C 1 dX8_copyFrom_59 rfl ?_
  refine z_get (v := .ref (ad (a + 1))) C (by omega) ha1 hg55 rfl inA_X8 6 (by decide) q_188 rfl rfl dX8_copyFrom_60 ?_
  refine z_iload_n C 0 dX8_copyFrom_63 rfl ?_
  refine z_aald C (by omega) ha2 hg56 3 rfl (1) (by omega) (by omega) (by decide) uq1 dX8_copyFrom_64 ?_
  refine z_aload_n C 2 dX8_copyFrom_65 rfl ?_
  have hg57 := (hf54 (b) (by omega)).trans hg42
  refine z_get (v := .ref (ad (b + 1))) C (by omega) ha7 hg57 rfl inA_X8 6 (by decide) q_188 rfl rfl dX8_copyFrom_66 ?_
  refine z_iload_n C 0 dX8_copyFrom_69 rfl ?_
  have hg58 := (hf54 (b + 1) (by omega)).trans hg48
  refine z_aald C (by omega) ha8 hg58 3 rfl (1) (by omega) (by omega) (by decide) vq1 dX8_copyFrom_70 ?_
  have hp59 := isPack.mv (ad' := ad) (g' := g51) (fun j h1 h2 => by rfl) (fun j h1 h2 => by rw [hf54 _ (by omega)]; rw [eg34, va_up_ne _ _ (by omega)]; rw [eg30, va_up_ne _ _ (by omega)]; rw [eg26, va_up_ne _ _ (by omega)]; rw [eg22, va_up_ne _ _ (by omega)]; rw [eg18, va_up_ne _ _ (by omega)]; rw [eg14, va_up_ne _ _ (by omega)]) up1
  have hp60 := isPack.mv (ad' := ad) (g' := g51) (fun j h1 h2 => by rfl) (fun j h1 h2 => by rw [hf54 _ (by omega)]; rw [eg34, va_up_ne _ _ (by omega)]; rw [eg30, va_up_ne _ _ (by omega)]; rw [eg26, va_up_ne _ _ (by omega)]; rw [eg22, va_up_ne _ _ (by omega)]; rw [eg18, va_up_ne _ _ (by omega)]; rw [eg14, va_up_ne _ _ (by omega)]) vp1
  refine z_cV (As := [.ref (ad (b + 4))]) (rest := []) (ci := 5) C (c_X3_copyFrom l D A cs tt N ad _ (a + 4) (b + 4) (by omega) (by omega) _ _ _ _ _ _ hp59 hp60) (by omega) ha4 hp59.1 rfl rfl mv_yX3_copyFrom q_424 hd_yX3_copyFrom (by decide) (Nat.le_of_ble_eq_true rfl) (by decide) dX8_copyFrom_71 rfl (kV0 fun g61 hq62 => ?_)
  obtain ⟨hp63, hf64⟩ := hq62
  refine z_iinc (z := 2) (lv' := [(2, .int (zI (2))), (0, .ref (ad a)), (1, .ref (ad b))]) (j := 0) C dX8_copyFrom_74 rfl (congrArg zI (by omega)) (by decide) rfl ?_
  refine z_goto (tgt := 50) C dX8_copyFrom_77 (by decide) ?_
  refine z_iload_n C 0 dX8_copyFrom_50 rfl ?_
  refine z_aload_n C 1 dX8_copyFrom_51 rfl ?_
  have hg65 := (hf64 (a) (by omega)).trans hg55
  refine z_get (v := .ref (ad (a + 1))) C (by omega) ha1 hg65 rfl inA_X8 6 (by decide) q_188 rfl rfl dX8_copyFrom_52 ?_
  have hg66 := (hf64 (a + 1) (by omega)).trans hg56
  refine z_alen (z := 4) C (by omega) ha2 hg66 3 rfl rfl dX8_copyFrom_55 ?_
  refine z_icmp_ge (tgt := 80) C dX8_copyFrom_56 (by decide) (by omega) (by omega) (fun h => absurd h (by omega)) (fun _ => ?_)
  refine z_aload_n C 1 dX8_copyFrom_59 rfl ?_
  refine z_get (v := .ref (ad (a + 1))) C (by omega) ha1 hg65 rfl inA_X8 6 (by decide) q_188 rfl rfl dX8_copyFrom_60 ?_
  refine z_iload_n C 0 dX8_copyFrom_63 rfl ?_
  refine z_aald C (by omega) ha2 hg66 3 rfl (2) (by omega) (by omega) (by decide) uq2 dX8_copyFrom_64 ?_
  refine z_aload_n C 2 dX8_copyFrom_65 rfl ?_
  have hg67 := (hf64 (b) (by omega)).trans hg57
  refine z_get (v := .ref (ad (b + 1))) C (by omega) ha7 hg67 rfl inA_X8 6 (by decide) q_188 rfl rfl dX8_copyFrom_66 ?_
  refine z_iload_n C 0 dX8_copyFrom_69 rfl ?_
  have hg68 := (hf64 (b + 1) (by omega)).trans hg58
  refine z_aald C (by omega) ha8 hg68 3 rfl (2) (by omega) (by omega) (by decide) vq2 dX8_copyFrom_70 ?_
  have hp69 := isPack.mv (ad' := ad) (g' := g61) (fun j h1 h2 => by rfl) (fun j h1 h2 => by rw [hf64 _ (by omega)]; rw [hf54 _ (by omega)]; rw [eg34, va_up_ne _ _ (by omega)]; rw [eg30, va_up_ne _ _ (by omega)]; rw [eg26, va_up_ne _ _ (by omega)]; rw [eg22, va_up_ne _ _ (by omega)]; rw [eg18, va_up_ne _ _ (by omega)]; rw [eg14, va_up_ne _ _ (by omega)]) up2
  have hp70 := isPack.mv (ad' := ad) (g' := g61) (fun j h1 h2 => by rfl) (fun j h1 h2 => by rw [hf64 _ (by omega)]; rw [hf54 _ (by omega)]; rw [eg34, va_up_ne _ _ (by omega)]; rw [eg30, va_up_ne _ _ (by omega)]; rw [eg26, va_up_ne _ _ (by omega)]; rw [eg22, va_up_ne _ _ (by omega)]; rw [eg18, va_up_ne _ _ (by omega)]; rw [eg14, va_up_ne _ _ (by omega)]) vp2
  refine z_cV (As := [.ref (ad (b + 6))]) (rest := []) (ci := 5) C (c_X3_copyFrom l D A cs tt N ad _ (a + 6) (b + 6) (by omega) (by omega) _ _ _ _ _ _ hp69 hp70) (by omega) ha5 hp69.1 rfl rfl mv_yX3_copyFrom q_424 hd_yX3_copyFrom (by decide) (Nat.le_of_ble_eq_true rfl) (by decide) dX8_copyFrom_71 rfl (kV0 fun g71 hq72 => ?_)
  obtain ⟨hp73, hf74⟩ := hq72
  refine z_iinc (z := 3) (lv' := [(2, .int (zI (3))), (0, .ref (ad a)), (1, .ref (ad b))]) (j := 0) C dX8_copyFrom_74 rfl (congrArg zI (by omega)) (by decide) rfl ?_
  refine z_goto (tgt := 50) C dX8_copyFrom_77 (by decide) ?_
  refine z_iload_n C 0 dX8_copyFrom_50 rfl ?_
  refine z_aload_n C 1 dX8_copyFrom_51 rfl ?_
  have hg75 := (hf74 (a) (by omega)).trans hg65
  refine z_get (v := .ref (ad (a + 1))) C (by omega) ha1 hg75 rfl inA_X8 6 (by decide) q_188 rfl rfl dX8_copyFrom_52 ?_
  have hg76 := (hf74 (a + 1) (by omega)).trans hg66
  refine z_alen (z := 4) C (by omega) ha2 hg76 3 rfl rfl dX8_copyFrom_55 ?_
  refine z_icmp_ge (tgt := 80) C dX8_copyFrom_56 (by decide) (by omega) (by omega) (fun h => absurd h (by omega)) (fun _ => ?_)
  refine z_aload_n C 1 dX8_copyFrom_59 rfl ?_
  refine z_get (v := .ref (ad (a + 1))) C (by omega) ha1 hg75 rfl inA_X8 6 (by decide) q_188 rfl rfl dX8_copyFrom_60 ?_
  refine z_iload_n C 0 dX8_copyFrom_63 rfl ?_
  refine z_aald C (by omega) ha2 hg76 3 rfl (3) (by omega) (by omega) (by decide) uq3 dX8_copyFrom_64 ?_
  refine z_aload_n C 2 dX8_copyFrom_65 rfl ?_
  have hg77 := (hf74 (b) (by omega)).trans hg67
  refine z_get (v := .ref (ad (b + 1))) C (by omega) ha7 hg77 rfl inA_X8 6 (by decide) q_188 rfl rfl dX8_copyFrom_66 ?_
  refine z_iload_n C 0 dX8_copyFrom_69 rfl ?_
  have hg78 := (hf74 (b + 1) (by omega)).trans hg68
  refine z_aald C (by omega) ha8 hg78 3 rfl (3) (by omega) (by omega) (by decide) vq3 dX8_copyFrom_70 ?_
  have hp79 := isPack.mv (ad' := ad) (g' := g71) (fun j h1 h2 => by rfl) (fun j h1 h2 => by rw [hf74 _ (by omega)]; rw [hf64 _ (by omega)]; rw [hf54 _ (by omega)]; rw [eg34, va_up_ne _ _ (by omega)]; rw [eg30, va_up_ne _ _ (by omega)]; rw [eg26, va_up_ne _ _ (by omega)]; rw [eg22, va_up_ne _ _ (by omega)]; rw [eg18, va_up_ne _ _ (by omega)]; rw [eg14, va_up_ne _ _ (by omega)]) up3
  have hp80 := isPack.mv (ad' := ad) (g' := g71) (fun j h1 h2 => by rfl) (fun j h1 h2 => by rw [hf74 _ (by omega)]; rw [hf64 _ (by omega)]; rw [hf54 _ (by omega)]; rw [eg34, va_up_ne _ _ (by omega)]; rw [eg30, va_up_ne _ _ (by omega)]; rw [eg26, va_up_ne _ _ (by omega)]; rw [eg22, va_up_ne _ _ (by omega)]; rw [eg18, va_up_ne _ _ (by omega)]; rw [eg14, va_up_ne _ _ (by omega)]) vp3
  refine z_cV (As := [.ref (ad (b + 8))]) (rest := []) (ci := 5) C (c_X3_copyFrom l D A cs tt N ad _ (a + 8) (b + 8) (by omega) (by omega) _ _ _ _ _ _ hp79 hp80) (by omega) ha6 hp79.1 rfl rfl mv_yX3_copyFrom q_424 hd_yX3_copyFrom (by decide) (Nat.le_of_ble_eq_true rfl) (by decide) dX8_copyFrom_71 rfl (kV0 fun g81 hq82 => ?_)
  obtain ⟨hp83, hf84⟩ := hq82
  refine z_iinc (z := 4) (lv' := [(2, .int (zI (4))), (0, .ref (ad a)), (1, .ref (ad b))]) (j := 0) C dX8_copyFrom_74 rfl (congrArg zI (by omega)) (by decide) rfl ?_
  refine z_goto (tgt := 50) C dX8_copyFrom_77 (by decide) ?_
  refine z_iload_n C 0 dX8_copyFrom_50 rfl ?_
  refine z_aload_n C 1 dX8_copyFrom_51 rfl ?_
  have hg85 := (hf84 (a) (by omega)).trans hg75
  refine z_get (v := .ref (ad (a + 1))) C (by omega) ha1 hg85 rfl inA_X8 6 (by decide) q_188 rfl rfl dX8_copyFrom_52 ?_
  have hg86 := (hf84 (a + 1) (by omega)).trans hg76
  refine z_alen (z := 4) C (by omega) ha2 hg86 3 rfl rfl dX8_copyFrom_55 ?_
  refine z_icmp_ge (tgt := 80) C dX8_copyFrom_56 (by decide) (by omega) (by omega) (fun _ => ?_) (fun h => absurd h (by omega))
  have hp87 := isPack.mv (ad' := ad) (g' := g81) (fun j h1 h2 => by rfl) (fun j h1 h2 => by rw [hf84 _ (by omega)]; rw [hf74 _ (by omega)]; rw [hf64 _ (by omega)]) hp53
  have hp88 := isPack.mv (ad' := ad) (g' := g81) (fun j h1 h2 => by rfl) (fun j h1 h2 => by rw [hf84 _ (by omega)]; rw [hf74 _ (by omega)]) hp63
  have hp89 := isPack.mv (ad' := ad) (g' := g81) (fun j h1 h2 => by rfl) (fun j h1 h2 => by rw [hf84 _ (by omega)]) hp73
  have hp4 : ∀ k, k < 4 → isPack cs ad g81 (a + 2 + 2 * k) (sz2 k) (ro2 k) (r2 k) := by
    intro k hk
    rcases (show k = 0 ∨ k = 1 ∨ k = 2 ∨ k = 3 by omega) with rfl | rfl | rfl | rfl
    · exact hp87
    · exact hp88
    · exact hp89
    · exact hp83
  exact z_vret C hr hlk dX8_copyFrom_80 (by decide) (by decide) ⟨rfl, rfl, rfl, ⟨hg85, ⟨_, hg86, u3⟩, hp4⟩, fun j h1 => by rw [hf84 _ (by omega)]; rw [hf74 _ (by omega)]; rw [hf64 _ (by omega)]; rw [hf54 _ (by omega)]; rw [eg34, va_up_ne _ _ (by omega)]; rw [eg30, va_up_ne _ _ (by omega)]; rw [eg26, va_up_ne _ _ (by omega)]; rw [eg22, va_up_ne _ _ (by omega)]; rw [eg18, va_up_ne _ _ (by omega)]; rw [eg14, va_up_ne _ _ (by omega)]⟩
end
section
-- words of feed
end
section
-- decode rows of feed
theorem dX9_putBytes_0 : decode cX9_putBytes 0 = .ok (.bipush 24, 2) := by decide +kernel
theorem dX9_putBytes_2 : decode cX9_putBytes 2 = .ok (.istore_n 2, 1) := by decide +kernel
theorem dX9_putBytes_3 : decode cX9_putBytes 3 = .ok (.iload_n 2, 1) := by decide +kernel
theorem dX9_putBytes_4 : decode cX9_putBytes 4 = .ok (.ifCond .lt 44, 3) := by decide +kernel
theorem dX9_putBytes_7 : decode cX9_putBytes 7 = .ok (.aload_n 0, 1) := by decide +kernel
theorem dX9_putBytes_8 : decode cX9_putBytes 8 = .ok (.getfield 13, 3) := by decide +kernel
theorem dX9_putBytes_11 : decode cX9_putBytes 11 = .ok (.aload_n 0, 1) := by decide +kernel
theorem dX9_putBytes_12 : decode cX9_putBytes 12 = .ok (.getfield 9, 3) := by decide +kernel
theorem dX9_putBytes_15 : decode cX9_putBytes 15 = .ok (.arraylength, 1) := by decide +kernel
theorem dX9_putBytes_16 : decode cX9_putBytes 16 = .ok (.if_icmp .ge 32, 3) := by decide +kernel
theorem dX9_putBytes_19 : decode cX9_putBytes 19 = .ok (.aload_n 0, 1) := by decide +kernel
theorem dX9_putBytes_20 : decode cX9_putBytes 20 = .ok (.getfield 9, 3) := by decide +kernel
theorem dX9_putBytes_23 : decode cX9_putBytes 23 = .ok (.aload_n 0, 1) := by decide +kernel
theorem dX9_putBytes_24 : decode cX9_putBytes 24 = .ok (.getfield 13, 3) := by decide +kernel
theorem dX9_putBytes_27 : decode cX9_putBytes 27 = .ok (.iload_n 1, 1) := by decide +kernel
theorem dX9_putBytes_28 : decode cX9_putBytes 28 = .ok (.iload_n 2, 1) := by decide +kernel
theorem dX9_putBytes_29 : decode cX9_putBytes 29 = .ok (.iushr, 1) := by decide +kernel
theorem dX9_putBytes_30 : decode cX9_putBytes 30 = .ok (.i2b, 1) := by decide +kernel
theorem dX9_putBytes_31 : decode cX9_putBytes 31 = .ok (.bastore, 1) := by decide +kernel
theorem dX9_putBytes_32 : decode cX9_putBytes 32 = .ok (.aload_n 0, 1) := by decide +kernel
theorem dX9_putBytes_33 : decode cX9_putBytes 33 = .ok (.dup, 1) := by decide +kernel
theorem dX9_putBytes_34 : decode cX9_putBytes 34 = .ok (.getfield 13, 3) := by decide +kernel
theorem dX9_putBytes_37 : decode cX9_putBytes 37 = .ok (.iconst 1, 1) := by decide +kernel
theorem dX9_putBytes_38 : decode cX9_putBytes 38 = .ok (.iadd, 1) := by decide +kernel
theorem dX9_putBytes_39 : decode cX9_putBytes 39 = .ok (.putfield 13, 3) := by decide +kernel
theorem dX9_putBytes_42 : decode cX9_putBytes 42 = .ok (.iinc 2 (-8), 3) := by decide +kernel
theorem dX9_putBytes_45 : decode cX9_putBytes 45 = .ok (.goto (-42), 3) := by decide +kernel
theorem dX9_putBytes_48 : decode cX9_putBytes 48 = .ok (.return_, 1) := by decide +kernel
end
section
theorem b8_of (x : Int32) : ∃ z : Int, x.toInt8.toInt32 = zI z ∧ -128 ≤ z ∧ z ≤ 127 := ⟨x.toInt8.toInt, (Int32.ofInt_int8ToInt x.toInt8).symm, by have := x.toInt8.le_toInt; omega, by have := x.toInt8.toInt_lt; omega⟩
abbrev recC (ad : Nat → Nat) (i : Nat) (t : Int) : va_E := oC 11 [.ref (ad (i + 1)), .int (zI t), .int (zI (-1)), .ref (ad (i + 2)), .ref (ad (i + 4)), .ref (ad (i + 11)), .ref (ad (i + 447)), .int (zI 0), .ref (ad (i + 883)), .ref (ad (i + 890)), .ref (ad (i + 900)), .ref (ad (i + 910)), .ref (ad (i + 917)), .ref (ad (i + 919))]

set_option maxRecDepth 100000 in
set_option maxHeartbeats 4000000 in
theorem c_X9_putBytes (l : Launch) (D : va_G) (A : Nat → Prop) (cs : Nat → ClassId) (tt : Nat) (N : Nat) (ad : Nat → Nat) (g : Nat → va_E) (i t : Nat) (hN : i + 2 ≤ N) (ht4 : t + 4 ≤ 900) (r : Nat → Int) (hg : g i = recC ad i (t : Int)) (ht : g (i + 1) = bA cs 900 r) (z : Int) : zM l yX9_putBytes cX9_putBytes 3 none ({ frames := 1, cells := 0, slots := 0, locals := 60 } : Room) D A cs tt N ad g [.ref (ad i), .int (zI z)] (rV0 N ad fun g' => g' i = recC ad i ((t + 4 : Nat) : Int) ∧ (∃ r' : Nat → Int, g' (i + 1) = bA cs 900 r') ∧ ∀ j, j ≠ i → j ≠ i + 1 → g' j = g j) := by
  have ha1 : zAt ad (i) (ad i) := rfl
  have ha2 : zAt ad (i + 1) (ad (i + 1)) := rfl
  refine z_of (by decide) (Nat.le_of_ble_eq_true rfl) ?_
  intro p e s m below meth c C hr hlk hnm
  refine z_lv (lv' := [(0, .ref (ad i)), (1, .int (zI (z)))]) [0, 1] rfl ?_
  refine z_bipush (z := 24) C dX9_putBytes_0 (by decide) ?_
  refine z_istore_n (lv' := [(2, .int (zI (24))), (0, .ref (ad i)), (1, .int (zI (z)))]) C dX9_putBytes_2 rfl (by decide) rfl ?_
  refine z_iload_n C 0 dX9_putBytes_3 rfl ?_
  refine z_if_lt (tgt := 48) C dX9_putBytes_4 (by decide) (by omega) (fun h => absurd h (by omega)) (fun _ => ?_)
  refine z_aload_n C 1 dX9_putBytes_7 rfl ?_
  refine z_get (v := .int (zI ((t : Int)))) C (by omega) ha1 hg rfl inA_X9 1 (by decide) q_350 rfl rfl dX9_putBytes_8 ?_
  refine z_aload_n C 1 dX9_putBytes_11 rfl ?_
  refine z_get (v := .ref (ad (i + 1))) C (by omega) ha1 hg rfl inA_X9 0 (by decide) q_349 rfl rfl dX9_putBytes_12 ?_
  refine z_alen (z := 900) C (by omega) ha2 ht 0 rfl rfl dX9_putBytes_15 ?_
  refine z_icmp_ge (tgt := 48) C dX9_putBytes_16 (by decide) (by omega) (by omega) (fun h => absurd h (by omega)) (fun _ => ?_)
  refine z_aload_n C 1 dX9_putBytes_19 rfl ?_
  refine z_get (v := .ref (ad (i + 1))) C (by omega) ha1 hg rfl inA_X9 0 (by decide) q_349 rfl rfl dX9_putBytes_20 ?_
  refine z_aload_n C 1 dX9_putBytes_23 rfl ?_
  refine z_get (v := .int (zI ((t : Int)))) C (by omega) ha1 hg rfl inA_X9 1 (by decide) q_350 rfl rfl dX9_putBytes_24 ?_
  refine z_iload_n C 2 dX9_putBytes_27 rfl ?_
  refine z_iload_n C 0 dX9_putBytes_28 rfl ?_
  obtain ⟨z3, e4, -⟩ := zI_of (((zI z).toUInt32 >>> ((zI (24)).toUInt32 &&& Int32.toUInt32 31)).toInt32)
  refine z_iushr (z := z3) C dX9_putBytes_29 e4 ?_
  obtain ⟨z5, e6, h7⟩ := b8_of (zI z3)
  refine z_i2b (z := z5) C dX9_putBytes_30 e6 ?_
  refine z_bast C (by omega) ha2 ht (t) (by omega) (by omega) (by decide) h7 dX9_putBytes_31 (fun g8 eg9 => ?_)
  have hg10 := up_s eg9
  refine z_aload_n C 1 dX9_putBytes_32 rfl ?_
  refine z_dup C dX9_putBytes_33 rfl ?_
  have hg11 := up_n eg9 hg (ne_o (i := i) (c := 0) (d := 1) rfl)
  refine z_get (v := .int (zI ((t : Int)))) C (by omega) ha1 hg11 rfl inA_X9 1 (by decide) q_350 rfl rfl dX9_putBytes_34 ?_
  refine z_iconst (z := 1) C dX9_putBytes_37 rfl ?_
  refine z_iadd C dX9_putBytes_38 ?_
  rw [show ((t : Int)) + 1 = ((t + 1 : Nat) : Int) by omega]
  refine z_put (fs' := [.ref (ad (i + 1)), .int (zI (((t + 1 : Nat) : Int))), .int (zI (-1)), .ref (ad (i + 2)), .ref (ad (i + 4)), .ref (ad (i + 11)), .ref (ad (i + 447)), .int (zI (0)), .ref (ad (i + 883)), .ref (ad (i + 890)), .ref (ad (i + 900)), .ref (ad (i + 910)), .ref (ad (i + 917)), .ref (ad (i + 919))]) C (by omega) ha1 hg11 tyX9 tyX9_ok nmX9 rfl inA_X9 1 (by decide) q_350 rfl rfl rfl rfl (Nat.le_of_ble_eq_true rfl) rfl dX9_putBytes_39 (fun g12 eg13 => ?_)
  have hg14 := up_s eg13
  refine z_iinc (z := 16) (lv' := [(2, .int (zI (16))), (0, .ref (ad i)), (1, .int (zI (z)))]) (j := 0) C dX9_putBytes_42 rfl (congrArg zI (by omega)) (by decide) rfl ?_
  refine z_goto (tgt := 3) C dX9_putBytes_45 (by decide) ?_
  refine z_iload_n C 0 dX9_putBytes_3 rfl ?_
  refine z_if_lt (tgt := 48) C dX9_putBytes_4 (by decide) (by omega) (fun h => absurd h (by omega)) (fun _ => ?_)
  refine z_aload_n C 1 dX9_putBytes_7 rfl ?_
  refine z_get (v := .int (zI (((t + 1 : Nat) : Int)))) C (by omega) ha1 hg14 rfl inA_X9 1 (by decide) q_350 rfl rfl dX9_putBytes_8 ?_
  refine z_aload_n C 1 dX9_putBytes_11 rfl ?_
  refine z_get (v := .ref (ad (i + 1))) C (by omega) ha1 hg14 rfl inA_X9 0 (by decide) q_349 rfl rfl dX9_putBytes_12 ?_
  have hg15 := up_n eg13 hg10 (ne_o (i := i) (c := 1) (d := 0) rfl)
  refine z_alen (z := 900) C (by omega) ha2 hg15 0 rfl rfl dX9_putBytes_15 ?_
  refine z_icmp_ge (tgt := 48) C dX9_putBytes_16 (by decide) (by omega) (by omega) (fun h => absurd h (by omega)) (fun _ => ?_)
  refine z_aload_n C 1 dX9_putBytes_19 rfl ?_
  refine z_get (v := .ref (ad (i + 1))) C (by omega) ha1 hg14 rfl inA_X9 0 (by decide) q_349 rfl rfl dX9_putBytes_20 ?_
  refine z_aload_n C 1 dX9_putBytes_23 rfl ?_
  refine z_get (v := .int (zI (((t + 1 : Nat) : Int)))) C (by omega) ha1 hg14 rfl inA_X9 1 (by decide) q_350 rfl rfl dX9_putBytes_24 ?_
  refine z_iload_n C 2 dX9_putBytes_27 rfl ?_
  refine z_iload_n C 0 dX9_putBytes_28 rfl ?_
  obtain ⟨z16, e17, -⟩ := zI_of (((zI z).toUInt32 >>> ((zI (16)).toUInt32 &&& Int32.toUInt32 31)).toInt32)
  refine z_iushr (z := z16) C dX9_putBytes_29 e17 ?_
  obtain ⟨z18, e19, h20⟩ := b8_of (zI z16)
  refine z_i2b (z := z18) C dX9_putBytes_30 e19 ?_
  refine z_bast C (by omega) ha2 hg15 (t + 1) (by omega) (by omega) (by decide) h20 dX9_putBytes_31 (fun g21 eg22 => ?_)
  have hg23 := up_s eg22
  refine z_aload_n C 1 dX9_putBytes_32 rfl ?_
  refine z_dup C dX9_putBytes_33 rfl ?_
  have hg24 := up_n eg22 hg14 (ne_o (i := i) (c := 0) (d := 1) rfl)
  refine z_get (v := .int (zI (((t + 1 : Nat) : Int)))) C (by omega) ha1 hg24 rfl inA_X9 1 (by decide) q_350 rfl rfl dX9_putBytes_34 ?_
  refine z_iconst (z := 1) C dX9_putBytes_37 rfl ?_
  refine z_iadd C dX9_putBytes_38 ?_
  rw [show (((t + 1 : Nat) : Int)) + 1 = ((t + 2 : Nat) : Int) by omega]
  refine z_put (fs' := [.ref (ad (i + 1)), .int (zI (((t + 2 : Nat) : Int))), .int (zI (-1)), .ref (ad (i + 2)), .ref (ad (i + 4)), .ref (ad (i + 11)), .ref (ad (i + 447)), .int (zI (0)), .ref (ad (i + 883)), .ref (ad (i + 890)), .ref (ad (i + 900)), .ref (ad (i + 910)), .ref (ad (i + 917)), .ref (ad (i + 919))]) C (by omega) ha1 hg24 tyX9 tyX9_ok nmX9 rfl inA_X9 1 (by decide) q_350 rfl rfl rfl rfl (Nat.le_of_ble_eq_true rfl) rfl dX9_putBytes_39 (fun g25 eg26 => ?_)
  have hg27 := up_s eg26
  refine z_iinc (z := 8) (lv' := [(2, .int (zI (8))), (0, .ref (ad i)), (1, .int (zI (z)))]) (j := 0) C dX9_putBytes_42 rfl (congrArg zI (by omega)) (by decide) rfl ?_
  refine z_goto (tgt := 3) C dX9_putBytes_45 (by decide) ?_
  refine z_iload_n C 0 dX9_putBytes_3 rfl ?_
  refine z_if_lt (tgt := 48) C dX9_putBytes_4 (by decide) (by omega) (fun h => absurd h (by omega)) (fun _ => ?_)
  refine z_aload_n C 1 dX9_putBytes_7 rfl ?_
  refine z_get (v := .int (zI (((t + 2 : Nat) : Int)))) C (by omega) ha1 hg27 rfl inA_X9 1 (by decide) q_350 rfl rfl dX9_putBytes_8 ?_
  refine z_aload_n C 1 dX9_putBytes_11 rfl ?_
  refine z_get (v := .ref (ad (i + 1))) C (by omega) ha1 hg27 rfl inA_X9 0 (by decide) q_349 rfl rfl dX9_putBytes_12 ?_
  have hg28 := up_n eg26 hg23 (ne_o (i := i) (c := 1) (d := 0) rfl)
  refine z_alen (z := 900) C (by omega) ha2 hg28 0 rfl rfl dX9_putBytes_15 ?_
  refine z_icmp_ge (tgt := 48) C dX9_putBytes_16 (by decide) (by omega) (by omega) (fun h => absurd h (by omega)) (fun _ => ?_)
  refine z_aload_n C 1 dX9_putBytes_19 rfl ?_
  refine z_get (v := .ref (ad (i + 1))) C (by omega) ha1 hg27 rfl inA_X9 0 (by decide) q_349 rfl rfl dX9_putBytes_20 ?_
  refine z_aload_n C 1 dX9_putBytes_23 rfl ?_
  refine z_get (v := .int (zI (((t + 2 : Nat) : Int)))) C (by omega) ha1 hg27 rfl inA_X9 1 (by decide) q_350 rfl rfl dX9_putBytes_24 ?_
  refine z_iload_n C 2 dX9_putBytes_27 rfl ?_
  refine z_iload_n C 0 dX9_putBytes_28 rfl ?_
  obtain ⟨z29, e30, -⟩ := zI_of (((zI z).toUInt32 >>> ((zI (8)).toUInt32 &&& Int32.toUInt32 31)).toInt32)
  refine z_iushr (z := z29) C dX9_putBytes_29 e30 ?_
  obtain ⟨z31, e32, h33⟩ := b8_of (zI z29)
  refine z_i2b (z := z31) C dX9_putBytes_30 e32 ?_
  refine z_bast C (by omega) ha2 hg28 (t + 2) (by omega) (by omega) (by decide) h33 dX9_putBytes_31 (fun g34 eg35 => ?_)
  have hg36 := up_s eg35
  refine z_aload_n C 1 dX9_putBytes_32 rfl ?_
  refine z_dup C dX9_putBytes_33 rfl ?_
  have hg37 := up_n eg35 hg27 (ne_o (i := i) (c := 0) (d := 1) rfl)
  refine z_get (v := .int (zI (((t + 2 : Nat) : Int)))) C (by omega) ha1 hg37 rfl inA_X9 1 (by decide) q_350 rfl rfl dX9_putBytes_34 ?_
  refine z_iconst (z := 1) C dX9_putBytes_37 rfl ?_
  refine z_iadd C dX9_putBytes_38 ?_
  rw [show (((t + 2 : Nat) : Int)) + 1 = ((t + 3 : Nat) : Int) by omega]
  refine z_put (fs' := [.ref (ad (i + 1)), .int (zI (((t + 3 : Nat) : Int))), .int (zI (-1)), .ref (ad (i + 2)), .ref (ad (i + 4)), .ref (ad (i + 11)), .ref (ad (i + 447)), .int (zI (0)), .ref (ad (i + 883)), .ref (ad (i + 890)), .ref (ad (i + 900)), .ref (ad (i + 910)), .ref (ad (i + 917)), .ref (ad (i + 919))]) C (by omega) ha1 hg37 tyX9 tyX9_ok nmX9 rfl inA_X9 1 (by decide) q_350 rfl rfl rfl rfl (Nat.le_of_ble_eq_true rfl) rfl dX9_putBytes_39 (fun g38 eg39 => ?_)
  have hg40 := up_s eg39
  refine z_iinc (z := 0) (lv' := [(2, .int (zI (0))), (0, .ref (ad i)), (1, .int (zI (z)))]) (j := 0) C dX9_putBytes_42 rfl (congrArg zI (by omega)) (by decide) rfl ?_
  refine z_goto (tgt := 3) C dX9_putBytes_45 (by decide) ?_
  refine z_iload_n C 0 dX9_putBytes_3 rfl ?_
  refine z_if_lt (tgt := 48) C dX9_putBytes_4 (by decide) (by omega) (fun h => absurd h (by omega)) (fun _ => ?_)
  refine z_aload_n C 1 dX9_putBytes_7 rfl ?_
  refine z_get (v := .int (zI (((t + 3 : Nat) : Int)))) C (by omega) ha1 hg40 rfl inA_X9 1 (by decide) q_350 rfl rfl dX9_putBytes_8 ?_
  refine z_aload_n C 1 dX9_putBytes_11 rfl ?_
  refine z_get (v := .ref (ad (i + 1))) C (by omega) ha1 hg40 rfl inA_X9 0 (by decide) q_349 rfl rfl dX9_putBytes_12 ?_
  have hg41 := up_n eg39 hg36 (ne_o (i := i) (c := 1) (d := 0) rfl)
  refine z_alen (z := 900) C (by omega) ha2 hg41 0 rfl rfl dX9_putBytes_15 ?_
  refine z_icmp_ge (tgt := 48) C dX9_putBytes_16 (by decide) (by omega) (by omega) (fun h => absurd h (by omega)) (fun _ => ?_)
  refine z_aload_n C 1 dX9_putBytes_19 rfl ?_
  refine z_get (v := .ref (ad (i + 1))) C (by omega) ha1 hg40 rfl inA_X9 0 (by decide) q_349 rfl rfl dX9_putBytes_20 ?_
  refine z_aload_n C 1 dX9_putBytes_23 rfl ?_
  refine z_get (v := .int (zI (((t + 3 : Nat) : Int)))) C (by omega) ha1 hg40 rfl inA_X9 1 (by decide) q_350 rfl rfl dX9_putBytes_24 ?_
  refine z_iload_n C 2 dX9_putBytes_27 rfl ?_
  refine z_iload_n C 0 dX9_putBytes_28 rfl ?_
  obtain ⟨z42, e43, -⟩ := zI_of (((zI z).toUInt32 >>> ((zI (0)).toUInt32 &&& Int32.toUInt32 31)).toInt32)
  refine z_iushr (z := z42) C dX9_putBytes_29 e43 ?_
  obtain ⟨z44, e45, h46⟩ := b8_of (zI z42)
  refine z_i2b (z := z44) C dX9_putBytes_30 e45 ?_
  refine z_bast C (by omega) ha2 hg41 (t + 3) (by omega) (by omega) (by decide) h46 dX9_putBytes_31 (fun g47 eg48 => ?_)
  have hg49 := up_s eg48
  refine z_aload_n C 1 dX9_putBytes_32 rfl ?_
  refine z_dup C dX9_putBytes_33 rfl ?_
  have hg50 := up_n eg48 hg40 (ne_o (i := i) (c := 0) (d := 1) rfl)
  refine z_get (v := .int (zI (((t + 3 : Nat) : Int)))) C (by omega) ha1 hg50 rfl inA_X9 1 (by decide) q_350 rfl rfl dX9_putBytes_34 ?_
  refine z_iconst (z := 1) C dX9_putBytes_37 rfl ?_
  refine z_iadd C dX9_putBytes_38 ?_
  rw [show (((t + 3 : Nat) : Int)) + 1 = ((t + 4 : Nat) : Int) by omega]
  refine z_put (fs' := [.ref (ad (i + 1)), .int (zI (((t + 4 : Nat) : Int))), .int (zI (-1)), .ref (ad (i + 2)), .ref (ad (i + 4)), .ref (ad (i + 11)), .ref (ad (i + 447)), .int (zI (0)), .ref (ad (i + 883)), .ref (ad (i + 890)), .ref (ad (i + 900)), .ref (ad (i + 910)), .ref (ad (i + 917)), .ref (ad (i + 919))]) C (by omega) ha1 hg50 tyX9 tyX9_ok nmX9 rfl inA_X9 1 (by decide) q_350 rfl rfl rfl rfl (Nat.le_of_ble_eq_true rfl) rfl dX9_putBytes_39 (fun g51 eg52 => ?_)
  have hg53 := up_s eg52
  refine z_iinc (z := -8) (lv' := [(2, .int (zI (-8))), (0, .ref (ad i)), (1, .int (zI (z)))]) (j := 0) C dX9_putBytes_42 rfl (congrArg zI (by omega)) (by decide) rfl ?_
  refine z_goto (tgt := 3) C dX9_putBytes_45 (by decide) ?_
  refine z_iload_n C 0 dX9_putBytes_3 rfl ?_
  refine z_if_lt (tgt := 48) C dX9_putBytes_4 (by decide) (by omega) (fun _ => ?_) (fun h => absurd h (by omega))
  have hg54 := up_n eg52 hg49 (ne_o (i := i) (c := 1) (d := 0) rfl)
  exact z_vret C hr hlk dX9_putBytes_48 (by decide) (by decide) ⟨rfl, rfl, rfl, hg53, ⟨_, hg54⟩, fun j h1 h2 => by rw [eg52, va_up_ne _ _ (by omega)]; rw [eg48, va_up_ne _ _ (by omega)]; rw [eg39, va_up_ne _ _ (by omega)]; rw [eg35, va_up_ne _ _ (by omega)]; rw [eg26, va_up_ne _ _ (by omega)]; rw [eg22, va_up_ne _ _ (by omega)]; rw [eg13, va_up_ne _ _ (by omega)]; rw [eg9, va_up_ne _ _ (by omega)]⟩
end
