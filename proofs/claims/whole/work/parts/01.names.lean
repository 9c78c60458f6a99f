-- ===== PART A: goes FIRST, ahead of the names: the tables' words, and 'selects' of the private methods out of them =====
/-- a private method of a class that the tables say can be made, by its rows of tables_1 -/
def lw_okq (q : MethodName × Nat) : Prop := (q.1.cls ≠ "java/lang/invoke/MethodHandle" ∧ q.1.cls ≠ "java/lang/invoke/VarHandle") ∧ Cond.instantiable q.1.cls q.2 ∈ tables_1 ∧ Cond.privateMethod q.1 ∈ tables_1 ∧ Cond.instanceMethod q.1 ∈ tables_1
theorem lw_p0 : lw_okq (⟨"FieldLine", "feedNumber", "(I)V"⟩, 9) := ⟨⟨by decide +kernel, by decide +kernel⟩, List.mem_of_getElem? (i := 24) (by decide +kernel), List.mem_of_getElem? (i := 245) (by decide +kernel), List.mem_of_getElem? (i := 246) (by decide +kernel)⟩
theorem lw_p1 : lw_okq (⟨"FieldLine", "isTaken", "(I)Z"⟩, 9) := ⟨⟨by decide +kernel, by decide +kernel⟩, List.mem_of_getElem? (i := 24) (by decide +kernel), List.mem_of_getElem? (i := 279) (by decide +kernel), List.mem_of_getElem? (i := 280) (by decide +kernel)⟩
theorem lw_p2 : lw_okq (⟨"FieldLine", "deviceOf", "(I)LFieldLine$Device;"⟩, 9) := ⟨⟨by decide +kernel, by decide +kernel⟩, List.mem_of_getElem? (i := 24) (by decide +kernel), List.mem_of_getElem? (i := 283) (by decide +kernel), List.mem_of_getElem? (i := 284) (by decide +kernel)⟩
theorem lw_p3 : lw_okq (⟨"FieldLine", "bankOf", "(II)LFieldLine$Bank;"⟩, 9) := ⟨⟨by decide +kernel, by decide +kernel⟩, List.mem_of_getElem? (i := 24) (by decide +kernel), List.mem_of_getElem? (i := 424) (by decide +kernel), List.mem_of_getElem? (i := 425) (by decide +kernel)⟩
theorem lw_p4 : lw_okq (⟨"FieldLine", "tapeIsPdu", "()Z"⟩, 9) := ⟨⟨by decide +kernel, by decide +kernel⟩, List.mem_of_getElem? (i := 24) (by decide +kernel), List.mem_of_getElem? (i := 544) (by decide +kernel), List.mem_of_getElem? (i := 545) (by decide +kernel)⟩
theorem lw_p5 : lw_okq (⟨"FieldLine$Wire", "indexOfHarm", "(I)I"⟩, 14) := ⟨⟨by decide +kernel, by decide +kernel⟩, List.mem_of_getElem? (i := 56) (by decide +kernel), List.mem_of_getElem? (i := 787) (by decide +kernel), List.mem_of_getElem? (i := 788) (by decide +kernel)⟩
theorem lw_p6 : lw_okq (⟨"FieldLine", "firstAttempts", "()I"⟩, 9) := ⟨⟨by decide +kernel, by decide +kernel⟩, List.mem_of_getElem? (i := 24) (by decide +kernel), List.mem_of_getElem? (i := 812) (by decide +kernel), List.mem_of_getElem? (i := 813) (by decide +kernel)⟩
theorem lw_p7 : lw_okq (⟨"java/lang/Throwable", "fillInStackTrace", "(I)Ljava/lang/Throwable;"⟩, 6) := ⟨⟨by decide +kernel, by decide +kernel⟩, List.mem_of_getElem? (i := 878) (by decide +kernel), List.mem_of_getElem? (i := 876) (by decide +kernel), List.mem_of_getElem? (i := 877) (by decide +kernel)⟩
theorem lw_p8 : lw_okq (⟨"FieldLine", "step", "()V"⟩, 9) := ⟨⟨by decide +kernel, by decide +kernel⟩, List.mem_of_getElem? (i := 24) (by decide +kernel), List.mem_of_getElem? (i := 908) (by decide +kernel), List.mem_of_getElem? (i := 909) (by decide +kernel)⟩
theorem lw_p9 : lw_okq (⟨"FieldLine", "applyRules", "()V"⟩, 9) := ⟨⟨by decide +kernel, by decide +kernel⟩, List.mem_of_getElem? (i := 24) (by decide +kernel), List.mem_of_getElem? (i := 912) (by decide +kernel), List.mem_of_getElem? (i := 913) (by decide +kernel)⟩
theorem lw_p10 : lw_okq (⟨"FieldLine$Device", "applyOne", "(IIII)V"⟩, 20) := ⟨⟨by decide +kernel, by decide +kernel⟩, List.mem_of_getElem? (i := 286) (by decide +kernel), List.mem_of_getElem? (i := 921) (by decide +kernel), List.mem_of_getElem? (i := 922) (by decide +kernel)⟩
theorem lw_p11 : lw_okq (⟨"FieldLine$Device", "pour", "(II)V"⟩, 20) := ⟨⟨by decide +kernel, by decide +kernel⟩, List.mem_of_getElem? (i := 286) (by decide +kernel), List.mem_of_getElem? (i := 932) (by decide +kernel), List.mem_of_getElem? (i := 933) (by decide +kernel)⟩
theorem lw_p12 : lw_okq (⟨"FieldLine$Master", "isInRow", "(I)Z"⟩, 17) := ⟨⟨by decide +kernel, by decide +kernel⟩, List.mem_of_getElem? (i := 114) (by decide +kernel), List.mem_of_getElem? (i := 942) (by decide +kernel), List.mem_of_getElem? (i := 943) (by decide +kernel)⟩
theorem lw_p13 : lw_okq (⟨"FieldLine", "beginFrame", "()V"⟩, 9) := ⟨⟨by decide +kernel, by decide +kernel⟩, List.mem_of_getElem? (i := 24) (by decide +kernel), List.mem_of_getElem? (i := 947) (by decide +kernel), List.mem_of_getElem? (i := 948) (by decide +kernel)⟩
theorem lw_p14 : lw_okq (⟨"FieldLine$Master", "finish", "(LFieldLine$Job;IILFieldLine$Row;)V"⟩, 17) := ⟨⟨by decide +kernel, by decide +kernel⟩, List.mem_of_getElem? (i := 114) (by decide +kernel), List.mem_of_getElem? (i := 964) (by decide +kernel), List.mem_of_getElem? (i := 965) (by decide +kernel)⟩
theorem lw_p15 : lw_okq (⟨"FieldLine$Master", "fail", "(LFieldLine$Job;I)V"⟩, 17) := ⟨⟨by decide +kernel, by decide +kernel⟩, List.mem_of_getElem? (i := 114) (by decide +kernel), List.mem_of_getElem? (i := 970) (by decide +kernel), List.mem_of_getElem? (i := 971) (by decide +kernel)⟩
def lw_privs_1 : List (MethodName × Nat) := [(⟨"FieldLine", "feedNumber", "(I)V"⟩, 9), (⟨"FieldLine", "isTaken", "(I)Z"⟩, 9), (⟨"FieldLine", "deviceOf", "(I)LFieldLine$Device;"⟩, 9), (⟨"FieldLine", "bankOf", "(II)LFieldLine$Bank;"⟩, 9), (⟨"FieldLine", "tapeIsPdu", "()Z"⟩, 9), (⟨"FieldLine$Wire", "indexOfHarm", "(I)I"⟩, 14), (⟨"FieldLine", "firstAttempts", "()I"⟩, 9), (⟨"java/lang/Throwable", "fillInStackTrace", "(I)Ljava/lang/Throwable;"⟩, 6), (⟨"FieldLine", "step", "()V"⟩, 9), (⟨"FieldLine", "applyRules", "()V"⟩, 9), (⟨"FieldLine$Device", "applyOne", "(IIII)V"⟩, 20), (⟨"FieldLine$Device", "pour", "(II)V"⟩, 20), (⟨"FieldLine$Master", "isInRow", "(I)Z"⟩, 17), (⟨"FieldLine", "beginFrame", "()V"⟩, 9), (⟨"FieldLine$Master", "finish", "(LFieldLine$Job;IILFieldLine$Row;)V"⟩, 17), (⟨"FieldLine$Master", "fail", "(LFieldLine$Job;I)V"⟩, 17)]
theorem lw_r1 : ∀ q ∈ lw_privs_1, lw_okq q := List.forall_mem_cons.mpr ⟨lw_p0, List.forall_mem_cons.mpr ⟨lw_p1, List.forall_mem_cons.mpr ⟨lw_p2, List.forall_mem_cons.mpr ⟨lw_p3, List.forall_mem_cons.mpr ⟨lw_p4, List.forall_mem_cons.mpr ⟨lw_p5, List.forall_mem_cons.mpr ⟨lw_p6, List.forall_mem_cons.mpr ⟨lw_p7, List.forall_mem_cons.mpr ⟨lw_p8, List.forall_mem_cons.mpr ⟨lw_p9, List.forall_mem_cons.mpr ⟨lw_p10, List.forall_mem_cons.mpr ⟨lw_p11, List.forall_mem_cons.mpr ⟨lw_p12, List.forall_mem_cons.mpr ⟨lw_p13, List.forall_mem_cons.mpr ⟨lw_p14, List.forall_mem_cons.mpr ⟨lw_p15, fun _ h => absurd h List.not_mem_nil⟩⟩⟩⟩⟩⟩⟩⟩⟩⟩⟩⟩⟩⟩⟩⟩
theorem lw_p16 : lw_okq (⟨"FieldLine", "shortenLags", "()V"⟩, 9) := ⟨⟨by decide +kernel, by decide +kernel⟩, List.mem_of_getElem? (i := 24) (by decide +kernel), List.mem_of_getElem? (i := 974) (by decide +kernel), List.mem_of_getElem? (i := 975) (by decide +kernel)⟩
theorem lw_p17 : lw_okq (⟨"FieldLine$Wire", "beginByte", "()V"⟩, 14) := ⟨⟨by decide +kernel, by decide +kernel⟩, List.mem_of_getElem? (i := 56) (by decide +kernel), List.mem_of_getElem? (i := 982) (by decide +kernel), List.mem_of_getElem? (i := 983) (by decide +kernel)⟩
theorem lw_p18 : lw_okq (⟨"FieldLine$Wire", "takeHarm", "()I"⟩, 14) := ⟨⟨by decide +kernel, by decide +kernel⟩, List.mem_of_getElem? (i := 56) (by decide +kernel), List.mem_of_getElem? (i := 986) (by decide +kernel), List.mem_of_getElem? (i := 987) (by decide +kernel)⟩
theorem lw_p19 : lw_okq (⟨"FieldLine$Wire", "finishByte", "()V"⟩, 14) := ⟨⟨by decide +kernel, by decide +kernel⟩, List.mem_of_getElem? (i := 56) (by decide +kernel), List.mem_of_getElem? (i := 991) (by decide +kernel), List.mem_of_getElem? (i := 992) (by decide +kernel)⟩
theorem lw_p20 : lw_okq (⟨"FieldLine", "spread", "(II)V"⟩, 9) := ⟨⟨by decide +kernel, by decide +kernel⟩, List.mem_of_getElem? (i := 24) (by decide +kernel), List.mem_of_getElem? (i := 996) (by decide +kernel), List.mem_of_getElem? (i := 997) (by decide +kernel)⟩
theorem lw_p21 : lw_okq (⟨"FieldLine", "silence", "(I)V"⟩, 9) := ⟨⟨by decide +kernel, by decide +kernel⟩, List.mem_of_getElem? (i := 24) (by decide +kernel), List.mem_of_getElem? (i := 1009) (by decide +kernel), List.mem_of_getElem? (i := 1010) (by decide +kernel)⟩
theorem lw_p22 : lw_okq (⟨"FieldLine", "takeMessage", "(LFieldLine$Device;)V"⟩, 9) := ⟨⟨by decide +kernel, by decide +kernel⟩, List.mem_of_getElem? (i := 24) (by decide +kernel), List.mem_of_getElem? (i := 1062) (by decide +kernel), List.mem_of_getElem? (i := 1063) (by decide +kernel)⟩
theorem lw_p23 : lw_okq (⟨"FieldLineModel", "isDevice", "(I)Z"⟩, 38) := ⟨⟨by decide +kernel, by decide +kernel⟩, List.mem_of_getElem? (i := 1102) (by decide +kernel), List.mem_of_getElem? (i := 1453) (by decide +kernel), List.mem_of_getElem? (i := 1454) (by decide +kernel)⟩
theorem lw_p24 : lw_okq (⟨"FieldLineModel", "isPlace", "(III)Z"⟩, 38) := ⟨⟨by decide +kernel, by decide +kernel⟩, List.mem_of_getElem? (i := 1102) (by decide +kernel), List.mem_of_getElem? (i := 1462) (by decide +kernel), List.mem_of_getElem? (i := 1463) (by decide +kernel)⟩
theorem lw_p25 : lw_okq (⟨"FieldLineModel", "serve", "(LFieldLineModel$Device;[II)V"⟩, 38) := ⟨⟨by decide +kernel, by decide +kernel⟩, List.mem_of_getElem? (i := 1102) (by decide +kernel), List.mem_of_getElem? (i := 1535) (by decide +kernel), List.mem_of_getElem? (i := 1536) (by decide +kernel)⟩
theorem lw_p26 : lw_okq (⟨"FieldLineModel", "says", "(I)V"⟩, 38) := ⟨⟨by decide +kernel, by decide +kernel⟩, List.mem_of_getElem? (i := 1102) (by decide +kernel), List.mem_of_getElem? (i := 1577) (by decide +kernel), List.mem_of_getElem? (i := 1578) (by decide +kernel)⟩
theorem lw_p27 : lw_okq (⟨"FieldLineModel", "bits", "(LFieldLineModel$Device;III)V"⟩, 38) := ⟨⟨by decide +kernel, by decide +kernel⟩, List.mem_of_getElem? (i := 1102) (by decide +kernel), List.mem_of_getElem? (i := 1581) (by decide +kernel), List.mem_of_getElem? (i := 1582) (by decide +kernel)⟩
theorem lw_p28 : lw_okq (⟨"FieldLineModel", "values", "(LFieldLineModel$Device;IIII)V"⟩, 38) := ⟨⟨by decide +kernel, by decide +kernel⟩, List.mem_of_getElem? (i := 1102) (by decide +kernel), List.mem_of_getElem? (i := 1585) (by decide +kernel), List.mem_of_getElem? (i := 1586) (by decide +kernel)⟩
theorem lw_p29 : lw_okq (⟨"FieldLineModel", "saysTwo", "(I)V"⟩, 38) := ⟨⟨by decide +kernel, by decide +kernel⟩, List.mem_of_getElem? (i := 1102) (by decide +kernel), List.mem_of_getElem? (i := 1589) (by decide +kernel), List.mem_of_getElem? (i := 1590) (by decide +kernel)⟩
theorem lw_p30 : lw_okq (⟨"FieldLineModel", "same", "([II)V"⟩, 38) := ⟨⟨by decide +kernel, by decide +kernel⟩, List.mem_of_getElem? (i := 1102) (by decide +kernel), List.mem_of_getElem? (i := 1593) (by decide +kernel), List.mem_of_getElem? (i := 1594) (by decide +kernel)⟩
theorem lw_p31 : lw_okq (⟨"FieldLineModel", "tests", "(LFieldLineModel$Device;[II)V"⟩, 38) := ⟨⟨by decide +kernel, by decide +kernel⟩, List.mem_of_getElem? (i := 1102) (by decide +kernel), List.mem_of_getElem? (i := 1597) (by decide +kernel), List.mem_of_getElem? (i := 1598) (by decide +kernel)⟩
def lw_privs_2 : List (MethodName × Nat) := [(⟨"FieldLine", "shortenLags", "()V"⟩, 9), (⟨"FieldLine$Wire", "beginByte", "()V"⟩, 14), (⟨"FieldLine$Wire", "takeHarm", "()I"⟩, 14), (⟨"FieldLine$Wire", "finishByte", "()V"⟩, 14), (⟨"FieldLine", "spread", "(II)V"⟩, 9), (⟨"FieldLine", "silence", "(I)V"⟩, 9), (⟨"FieldLine", "takeMessage", "(LFieldLine$Device;)V"⟩, 9), (⟨"FieldLineModel", "isDevice", "(I)Z"⟩, 38), (⟨"FieldLineModel", "isPlace", "(III)Z"⟩, 38), (⟨"FieldLineModel", "serve", "(LFieldLineModel$Device;[II)V"⟩, 38), (⟨"FieldLineModel", "says", "(I)V"⟩, 38), (⟨"FieldLineModel", "bits", "(LFieldLineModel$Device;III)V"⟩, 38), (⟨"FieldLineModel", "values", "(LFieldLineModel$Device;IIII)V"⟩, 38), (⟨"FieldLineModel", "saysTwo", "(I)V"⟩, 38), (⟨"FieldLineModel", "same", "([II)V"⟩, 38), (⟨"FieldLineModel", "tests", "(LFieldLineModel$Device;[II)V"⟩, 38)]
theorem lw_r2 : ∀ q ∈ lw_privs_2, lw_okq q := List.forall_mem_cons.mpr ⟨lw_p16, List.forall_mem_cons.mpr ⟨lw_p17, List.forall_mem_cons.mpr ⟨lw_p18, List.forall_mem_cons.mpr ⟨lw_p19, List.forall_mem_cons.mpr ⟨lw_p20, List.forall_mem_cons.mpr ⟨lw_p21, List.forall_mem_cons.mpr ⟨lw_p22, List.forall_mem_cons.mpr ⟨lw_p23, List.forall_mem_cons.mpr ⟨lw_p24, List.forall_mem_cons.mpr ⟨lw_p25, List.forall_mem_cons.mpr ⟨lw_p26, List.forall_mem_cons.mpr ⟨lw_p27, List.forall_mem_cons.mpr ⟨lw_p28, List.forall_mem_cons.mpr ⟨lw_p29, List.forall_mem_cons.mpr ⟨lw_p30, List.forall_mem_cons.mpr ⟨lw_p31, fun _ h => absurd h List.not_mem_nil⟩⟩⟩⟩⟩⟩⟩⟩⟩⟩⟩⟩⟩⟩⟩⟩
theorem lw_p32 : lw_okq (⟨"FieldLineModel", "reads", "(LFieldLineModel$Device;[II)V"⟩, 38) := ⟨⟨by decide +kernel, by decide +kernel⟩, List.mem_of_getElem? (i := 1102) (by decide +kernel), List.mem_of_getElem? (i := 1605) (by decide +kernel), List.mem_of_getElem? (i := 1606) (by decide +kernel)⟩
theorem lw_p33 : lw_okq (⟨"FieldLineModel", "names", "(LFieldLineModel$Device;II)V"⟩, 38) := ⟨⟨by decide +kernel, by decide +kernel⟩, List.mem_of_getElem? (i := 1102) (by decide +kernel), List.mem_of_getElem? (i := 1612) (by decide +kernel), List.mem_of_getElem? (i := 1613) (by decide +kernel)⟩
theorem lw_p34 : lw_okq (⟨"FieldLineModel", "newRequest", "(I[II)I"⟩, 38) := ⟨⟨by decide +kernel, by decide +kernel⟩, List.mem_of_getElem? (i := 1102) (by decide +kernel), List.mem_of_getElem? (i := 1629) (by decide +kernel), List.mem_of_getElem? (i := 1630) (by decide +kernel)⟩
theorem lw_p35 : lw_okq (⟨"FieldLineModel", "oneTick", "()V"⟩, 38) := ⟨⟨by decide +kernel, by decide +kernel⟩, List.mem_of_getElem? (i := 1102) (by decide +kernel), List.mem_of_getElem? (i := 1649) (by decide +kernel), List.mem_of_getElem? (i := 1650) (by decide +kernel)⟩
theorem lw_p36 : lw_okq (⟨"FieldLineModel", "scan", "(I)V"⟩, 38) := ⟨⟨by decide +kernel, by decide +kernel⟩, List.mem_of_getElem? (i := 1102) (by decide +kernel), List.mem_of_getElem? (i := 1660) (by decide +kernel), List.mem_of_getElem? (i := 1661) (by decide +kernel)⟩
theorem lw_p37 : lw_okq (⟨"FieldLineModel", "isInRow", "(I)Z"⟩, 38) := ⟨⟨by decide +kernel, by decide +kernel⟩, List.mem_of_getElem? (i := 1102) (by decide +kernel), List.mem_of_getElem? (i := 1664) (by decide +kernel), List.mem_of_getElem? (i := 1665) (by decide +kernel)⟩
theorem lw_p38 : lw_okq (⟨"FieldLineModel", "begins", "()V"⟩, 38) := ⟨⟨by decide +kernel, by decide +kernel⟩, List.mem_of_getElem? (i := 1102) (by decide +kernel), List.mem_of_getElem? (i := 1668) (by decide +kernel), List.mem_of_getElem? (i := 1669) (by decide +kernel)⟩
theorem lw_p39 : lw_okq (⟨"FieldLineModel", "sends", "(II[II)V"⟩, 38) := ⟨⟨by decide +kernel, by decide +kernel⟩, List.mem_of_getElem? (i := 1102) (by decide +kernel), List.mem_of_getElem? (i := 1672) (by decide +kernel), List.mem_of_getElem? (i := 1673) (by decide +kernel)⟩
theorem lw_p40 : lw_okq (⟨"FieldLineModel", "through", "(IIII)V"⟩, 38) := ⟨⟨by decide +kernel, by decide +kernel⟩, List.mem_of_getElem? (i := 1102) (by decide +kernel), List.mem_of_getElem? (i := 1676) (by decide +kernel), List.mem_of_getElem? (i := 1677) (by decide +kernel)⟩
theorem lw_p41 : lw_okq (⟨"FieldLineModel", "fails", "(I)V"⟩, 38) := ⟨⟨by decide +kernel, by decide +kernel⟩, List.mem_of_getElem? (i := 1102) (by decide +kernel), List.mem_of_getElem? (i := 1684) (by decide +kernel), List.mem_of_getElem? (i := 1685) (by decide +kernel)⟩
theorem lw_p42 : lw_okq (⟨"FieldLineModel", "sendsOn", "()Z"⟩, 38) := ⟨⟨by decide +kernel, by decide +kernel⟩, List.mem_of_getElem? (i := 1102) (by decide +kernel), List.mem_of_getElem? (i := 1688) (by decide +kernel), List.mem_of_getElem? (i := 1689) (by decide +kernel)⟩
theorem lw_p43 : lw_okq (⟨"FieldLineModel", "takeHarm", "(I)I"⟩, 38) := ⟨⟨by decide +kernel, by decide +kernel⟩, List.mem_of_getElem? (i := 1102) (by decide +kernel), List.mem_of_getElem? (i := 1692) (by decide +kernel), List.mem_of_getElem? (i := 1693) (by decide +kernel)⟩
theorem lw_p44 : lw_okq (⟨"FieldLineModel", "endsSending", "()V"⟩, 38) := ⟨⟨by decide +kernel, by decide +kernel⟩, List.mem_of_getElem? (i := 1102) (by decide +kernel), List.mem_of_getElem? (i := 1706) (by decide +kernel), List.mem_of_getElem? (i := 1707) (by decide +kernel)⟩
theorem lw_p45 : lw_okq (⟨"FieldLineModel", "silence", "(I)V"⟩, 38) := ⟨⟨by decide +kernel, by decide +kernel⟩, List.mem_of_getElem? (i := 1102) (by decide +kernel), List.mem_of_getElem? (i := 1710) (by decide +kernel), List.mem_of_getElem? (i := 1711) (by decide +kernel)⟩
theorem lw_p46 : lw_okq (⟨"FieldLineModel", "looksMaster", "()V"⟩, 38) := ⟨⟨by decide +kernel, by decide +kernel⟩, List.mem_of_getElem? (i := 1102) (by decide +kernel), List.mem_of_getElem? (i := 1714) (by decide +kernel), List.mem_of_getElem? (i := 1715) (by decide +kernel)⟩
theorem lw_p47 : lw_okq (⟨"FieldLineModel", "looks", "(LFieldLineModel$Device;)V"⟩, 38) := ⟨⟨by decide +kernel, by decide +kernel⟩, List.mem_of_getElem? (i := 1102) (by decide +kernel), List.mem_of_getElem? (i := 1746) (by decide +kernel), List.mem_of_getElem? (i := 1747) (by decide +kernel)⟩
def lw_privs_3 : List (MethodName × Nat) := [(⟨"FieldLineModel", "reads", "(LFieldLineModel$Device;[II)V"⟩, 38), (⟨"FieldLineModel", "names", "(LFieldLineModel$Device;II)V"⟩, 38), (⟨"FieldLineModel", "newRequest", "(I[II)I"⟩, 38), (⟨"FieldLineModel", "oneTick", "()V"⟩, 38), (⟨"FieldLineModel", "scan", "(I)V"⟩, 38), (⟨"FieldLineModel", "isInRow", "(I)Z"⟩, 38), (⟨"FieldLineModel", "begins", "()V"⟩, 38), (⟨"FieldLineModel", "sends", "(II[II)V"⟩, 38), (⟨"FieldLineModel", "through", "(IIII)V"⟩, 38), (⟨"FieldLineModel", "fails", "(I)V"⟩, 38), (⟨"FieldLineModel", "sendsOn", "()Z"⟩, 38), (⟨"FieldLineModel", "takeHarm", "(I)I"⟩, 38), (⟨"FieldLineModel", "endsSending", "()V"⟩, 38), (⟨"FieldLineModel", "silence", "(I)V"⟩, 38), (⟨"FieldLineModel", "looksMaster", "()V"⟩, 38), (⟨"FieldLineModel", "looks", "(LFieldLineModel$Device;)V"⟩, 38)]
theorem lw_r3 : ∀ q ∈ lw_privs_3, lw_okq q := List.forall_mem_cons.mpr ⟨lw_p32, List.forall_mem_cons.mpr ⟨lw_p33, List.forall_mem_cons.mpr ⟨lw_p34, List.forall_mem_cons.mpr ⟨lw_p35, List.forall_mem_cons.mpr ⟨lw_p36, List.forall_mem_cons.mpr ⟨lw_p37, List.forall_mem_cons.mpr ⟨lw_p38, List.forall_mem_cons.mpr ⟨lw_p39, List.forall_mem_cons.mpr ⟨lw_p40, List.forall_mem_cons.mpr ⟨lw_p41, List.forall_mem_cons.mpr ⟨lw_p42, List.forall_mem_cons.mpr ⟨lw_p43, List.forall_mem_cons.mpr ⟨lw_p44, List.forall_mem_cons.mpr ⟨lw_p45, List.forall_mem_cons.mpr ⟨lw_p46, List.forall_mem_cons.mpr ⟨lw_p47, fun _ h => absurd h List.not_mem_nil⟩⟩⟩⟩⟩⟩⟩⟩⟩⟩⟩⟩⟩⟩⟩⟩
def lw_privs : List (MethodName × Nat) := lw_privs_1 ++ (lw_privs_2 ++ (lw_privs_3))
def lw_tbl : List Cond := k2_sels lw_privs ++ tables_1
theorem lw_privs_ok : ∀ q ∈ lw_privs, lw_okq q := by
  show ∀ q ∈ lw_privs_1 ++ (lw_privs_2 ++ (lw_privs_3)), lw_okq q
  exact List.forall_mem_append.mpr ⟨lw_r1, List.forall_mem_append.mpr ⟨lw_r2, lw_r3⟩⟩
-- ===== end of PART A; then your names; then what follows =====
def RX0 : String := "FieldLine$Bank"
def TX0 : u_T := fun k => match k with
  | 0 => ("FieldLine$Bank", "cell", "[I", true)
  | 1 => ("FieldLine$Bank", "mask", "I", true)
  | 2 => ("FieldLine$Bank", "from", "I", false)
  | _ => ("FieldLine$Bank", "n", "I", false)
def tyX0 : Nat → FieldType := fun k => match k with
  | 0 => .array .int
  | 1 => .int
  | 2 => .int
  | _ => .int
abbrev wsX00 : List Cond := u_ws RX0 TX0 4
theorem nmX0 : ∀ a, a < 4 → ∀ b, b < 4 → a ≠ b → (TX0 a).2.1 ≠ (TX0 b).2.1 := by decide +kernel
theorem tyX0_ok : ∀ k, k < 4 → parseFieldDescriptor (TX0 k).2.2.1 = some (tyX0 k) := by decide +kernel
abbrev cX0_init : ByteArray := prog_2_method_1_code
def yX0_init : MethodName := ⟨RX0, "<init>", "(I)V"⟩
abbrev cX0_makeAnew : ByteArray := prog_2_method_2_code
def yX0_makeAnew : MethodName := ⟨RX0, "makeAnew", "(II)V"⟩
abbrev cX0_has : ByteArray := prog_2_method_3_code
def yX0_has : MethodName := ⟨RX0, "has", "(II)Z"⟩
abbrev cX0_value : ByteArray := prog_2_method_4_code
def yX0_value : MethodName := ⟨RX0, "value", "(I)I"⟩
abbrev cX0_write : ByteArray := prog_2_method_5_code
def yX0_write : MethodName := ⟨RX0, "write", "(II)V"⟩
abbrev cX0_bits : ByteArray := prog_2_method_6_code
def yX0_bits : MethodName := ⟨RX0, "bits", "(II)I"⟩
def RX1 : String := "FieldLine$Device"
def TX1 : u_T := fun k => match k with
  | 0 => ("FieldLine$Device", "number", "I", true)
  | 1 => ("FieldLine$Device", "address", "I", true)
  | 2 => ("FieldLine$Device", "lag", "I", true)
  | 3 => ("FieldLine$Device", "coils", "LFieldLine$Bank;", true)
  | 4 => ("FieldLine$Device", "contacts", "LFieldLine$Bank;", true)
  | 5 => ("FieldLine$Device", "registers", "LFieldLine$Bank;", true)
  | 6 => ("FieldLine$Device", "gauges", "LFieldLine$Bank;", true)
  | 7 => ("FieldLine$Device", "limits", "[I", true)
  | 8 => ("FieldLine$Device", "limitCount", "I", false)
  | 9 => ("FieldLine$Device", "files", "LFieldLine$Shelf;", true)
  | 10 => ("FieldLine$Device", "queues", "LFieldLine$Shelf;", true)
  | 11 => ("FieldLine$Device", "texts", "LFieldLine$Shelf;", true)
  | 12 => ("FieldLine$Device", "rules", "LFieldLine$Row;", true)
  | 13 => ("FieldLine$Device", "counters", "[I", true)
  | 14 => ("FieldLine$Device", "log", "LFieldLine$Row;", true)
  | 15 => ("FieldLine$Device", "ear", "LFieldLine$Station;", true)
  | 16 => ("FieldLine$Device", "reply", "LFieldLine$Row;", true)
  | 17 => ("FieldLine$Device", "replyLag", "I", false)
  | 18 => ("FieldLine$Device", "busy", "I", false)
  | _ => ("FieldLine$Device", "deaf", "Z", false)
def tyX1 : Nat → FieldType := fun k => match k with
  | 0 => .int
  | 1 => .int
  | 2 => .int
  | 3 => .object "FieldLine$Bank"
  | 4 => .object "FieldLine$Bank"
  | 5 => .object "FieldLine$Bank"
  | 6 => .object "FieldLine$Bank"
  | 7 => .array .int
  | 8 => .int
  | 9 => .object "FieldLine$Shelf"
  | 10 => .object "FieldLine$Shelf"
  | 11 => .object "FieldLine$Shelf"
  | 12 => .object "FieldLine$Row"
  | 13 => .array .int
  | 14 => .object "FieldLine$Row"
  | 15 => .object "FieldLine$Station"
  | 16 => .object "FieldLine$Row"
  | 17 => .int
  | 18 => .int
  | _ => .boolean
abbrev wsX10 : List Cond := u_ws RX1 TX1 20
theorem nmX1 : ∀ a, a < 20 → ∀ b, b < 20 → a ≠ b → (TX1 a).2.1 ≠ (TX1 b).2.1 := by decide +kernel
theorem tyX1_ok : ∀ k, k < 20 → parseFieldDescriptor (TX1 k).2.2.1 = some (tyX1 k) := by decide +kernel
abbrev cX1_init : ByteArray := prog_3_method_1_code
def yX1_init : MethodName := ⟨RX1, "<init>", "(III)V"⟩
abbrev cX1_bankOfKind : ByteArray := prog_3_method_2_code
def yX1_bankOfKind : MethodName := ⟨RX1, "bankOfKind", "(I)LFieldLine$Bank;"⟩
abbrev cX1_addLimit : ByteArray := prog_3_method_3_code
def yX1_addLimit : MethodName := ⟨RX1, "addLimit", "(IIII)Z"⟩
abbrev cX1_mayBeGiven : ByteArray := prog_3_method_4_code
def yX1_mayBeGiven : MethodName := ⟨RX1, "mayBeGiven", "(II)Z"⟩
abbrev cX1_registersFault : ByteArray := prog_3_method_5_code
def yX1_registersFault : MethodName := ⟨RX1, "registersFault", "(IILFieldLine$Row;I)I"⟩
abbrev cX1_counterOf : ByteArray := prog_3_method_6_code
def yX1_counterOf : MethodName := ⟨RX1, "counterOf", "(I)I"⟩
abbrev cX1_count : ByteArray := prog_3_method_7_code
def yX1_count : MethodName := ⟨RX1, "count", "(I)V"⟩
abbrev cX1_clearCounters : ByteArray := prog_3_method_8_code
def yX1_clearCounters : MethodName := ⟨RX1, "clearCounters", "()V"⟩
abbrev cX1_countFrame : ByteArray := prog_3_method_9_code
def yX1_countFrame : MethodName := ⟨RX1, "countFrame", "()Z"⟩
abbrev cX1_keepReply : ByteArray := prog_3_method_10_code
def yX1_keepReply : MethodName := ⟨RX1, "keepReply", "(LFieldLine$Row;I)V"⟩
abbrev cX1_applyRules : ByteArray := prog_3_method_11_code
def yX1_applyRules : MethodName := ⟨RX1, "applyRules", "()V"⟩
abbrev cX1_addRule : ByteArray := prog_3_method_12_code
def yX1_addRule : MethodName := ⟨RX1, "addRule", "(IIII)Z"⟩
abbrev cX1_applyOne : ByteArray := prog_3_method_13_code
def yX1_applyOne : MethodName := ⟨RX1, "applyOne", "(IIII)V"⟩
abbrev cX1_nearer : ByteArray := prog_3_method_14_code
def yX1_nearer : MethodName := ⟨RX1, "nearer", "(III)I"⟩
abbrev cX1_pour : ByteArray := prog_3_method_15_code
def yX1_pour : MethodName := ⟨RX1, "pour", "(II)V"⟩
def RX2 : String := "FieldLine$Job"
def TX2 : u_T := fun k => match k with
  | 0 => ("FieldLine$Job", "pdu", "LFieldLine$Row;", true)
  | 1 => ("FieldLine$Job", "number", "I", false)
  | 2 => ("FieldLine$Job", "address", "I", false)
  | 3 => ("FieldLine$Job", "attempts", "I", false)
  | 4 => ("FieldLine$Job", "outcome", "I", false)
  | _ => ("FieldLine$Job", "code", "I", false)
def tyX2 : Nat → FieldType := fun k => match k with
  | 0 => .object "FieldLine$Row"
  | 1 => .int
  | 2 => .int
  | 3 => .int
  | 4 => .int
  | _ => .int
abbrev wsX20 : List Cond := u_ws RX2 TX2 6
theorem nmX2 : ∀ a, a < 6 → ∀ b, b < 6 → a ≠ b → (TX2 a).2.1 ≠ (TX2 b).2.1 := by decide +kernel
theorem tyX2_ok : ∀ k, k < 6 → parseFieldDescriptor (TX2 k).2.2.1 = some (tyX2 k) := by decide +kernel
abbrev cX2_init : ByteArray := prog_4_method_1_code
def yX2_init : MethodName := ⟨RX2, "<init>", "()V"⟩
def RX3 : String := "FieldLine$Master"
def TX3 : u_T := fun k => match k with
  | 0 => ("FieldLine$Master", "ear", "LFieldLine$Station;", true)
  | 1 => ("FieldLine$Master", "phase", "I", false)
  | 2 => ("FieldLine$Master", "waited", "I", false)
  | 3 => ("FieldLine$Master", "mostAttempts", "I", false)
  | 4 => ("FieldLine$Master", "timeout", "I", false)
  | 5 => ("FieldLine$Master", "turn", "I", false)
  | 6 => ("FieldLine$Master", "requests", "[LFieldLine$Job;", true)
  | 7 => ("FieldLine$Master", "requestHead", "I", false)
  | 8 => ("FieldLine$Master", "requestCount", "I", false)
  | 9 => ("FieldLine$Master", "nextNumber", "I", false)
  | 10 => ("FieldLine$Master", "results", "[LFieldLine$Job;", true)
  | 11 => ("FieldLine$Master", "resultHead", "I", false)
  | 12 => ("FieldLine$Master", "resultCount", "I", false)
  | 13 => ("FieldLine$Master", "lost", "I", false)
  | 14 => ("FieldLine$Master", "stray", "I", false)
  | 15 => ("FieldLine$Master", "scans", "[LFieldLine$Scan;", true)
  | _ => ("FieldLine$Master", "scanCount", "I", false)
def tyX3 : Nat → FieldType := fun k => match k with
  | 0 => .object "FieldLine$Station"
  | 1 => .int
  | 2 => .int
  | 3 => .int
  | 4 => .int
  | 5 => .int
  | 6 => .array (.object "FieldLine$Job")
  | 7 => .int
  | 8 => .int
  | 9 => .int
  | 10 => .array (.object "FieldLine$Job")
  | 11 => .int
  | 12 => .int
  | 13 => .int
  | 14 => .int
  | 15 => .array (.object "FieldLine$Scan")
  | _ => .int
abbrev wsX30 : List Cond := u_ws RX3 TX3 17
theorem nmX3 : ∀ a, a < 17 → ∀ b, b < 17 → a ≠ b → (TX3 a).2.1 ≠ (TX3 b).2.1 := by decide +kernel
theorem tyX3_ok : ∀ k, k < 17 → parseFieldDescriptor (TX3 k).2.2.1 = some (tyX3 k) := by decide +kernel
abbrev cX3_init : ByteArray := prog_5_method_1_code
def yX3_init : MethodName := ⟨RX3, "<init>", "()V"⟩
abbrev cX3_firstRequest : ByteArray := prog_5_method_2_code
def yX3_firstRequest : MethodName := ⟨RX3, "firstRequest", "()LFieldLine$Job;"⟩
abbrev cX3_firstResult : ByteArray := prog_5_method_3_code
def yX3_firstResult : MethodName := ⟨RX3, "firstResult", "()LFieldLine$Job;"⟩
abbrev cX3_dropResult : ByteArray := prog_5_method_4_code
def yX3_dropResult : MethodName := ⟨RX3, "dropResult", "()Z"⟩
abbrev cX3_addRequest : ByteArray := prog_5_method_5_code
def yX3_addRequest : MethodName := ⟨RX3, "addRequest", "(ILFieldLine$Row;)I"⟩
abbrev cX3_addScan : ByteArray := prog_5_method_6_code
def yX3_addScan : MethodName := ⟨RX3, "addScan", "(IIILFieldLine$Row;)I"⟩
abbrev cX3_runScans : ByteArray := prog_5_method_7_code
def yX3_runScans : MethodName := ⟨RX3, "runScans", "(I)V"⟩
abbrev cX3_isInRow : ByteArray := prog_5_method_8_code
def yX3_isInRow : MethodName := ⟨RX3, "isInRow", "(I)Z"⟩
abbrev cX3_startWaiting : ByteArray := prog_5_method_9_code
def yX3_startWaiting : MethodName := ⟨RX3, "startWaiting", "()V"⟩
abbrev cX3_waitOneTick : ByteArray := prog_5_method_10_code
def yX3_waitOneTick : MethodName := ⟨RX3, "waitOneTick", "(Z)V"⟩
abbrev cX3_takeFrame : ByteArray := prog_5_method_11_code
def yX3_takeFrame : MethodName := ⟨RX3, "takeFrame", "(LFieldLine$Row;)V"⟩
abbrev cX3_fail : ByteArray := prog_5_method_12_code
def yX3_fail : MethodName := ⟨RX3, "fail", "(LFieldLine$Job;I)V"⟩
abbrev cX3_finish : ByteArray := prog_5_method_13_code
def yX3_finish : MethodName := ⟨RX3, "finish", "(LFieldLine$Job;IILFieldLine$Row;)V"⟩
def RX4 : String := "FieldLine$Row"
def TX4 : u_T := fun k => match k with
  | 0 => ("FieldLine$Row", "cell", "[I", true)
  | _ => ("FieldLine$Row", "n", "I", false)
def tyX4 : Nat → FieldType := fun k => match k with
  | 0 => .array .int
  | _ => .int
abbrev wsX40 : List Cond := u_ws RX4 TX4 2
theorem nmX4 : ∀ a, a < 2 → ∀ b, b < 2 → a ≠ b → (TX4 a).2.1 ≠ (TX4 b).2.1 := by decide +kernel
theorem tyX4_ok : ∀ k, k < 2 → parseFieldDescriptor (TX4 k).2.2.1 = some (tyX4 k) := by decide +kernel
abbrev cX4_init : ByteArray := prog_6_method_1_code
def yX4_init : MethodName := ⟨RX4, "<init>", "(I)V"⟩
abbrev cX4_at : ByteArray := prog_6_method_2_code
def yX4_at : MethodName := ⟨RX4, "at", "(I)I"⟩
abbrev cX4_orNone : ByteArray := prog_6_method_3_code
def yX4_orNone : MethodName := ⟨RX4, "orNone", "(I)I"⟩
abbrev cX4_word : ByteArray := prog_6_method_4_code
def yX4_word : MethodName := ⟨RX4, "word", "(I)I"⟩
abbrev cX4_change : ByteArray := prog_6_method_5_code
def yX4_change : MethodName := ⟨RX4, "change", "(II)V"⟩
abbrev cX4_add : ByteArray := prog_6_method_6_code
def yX4_add : MethodName := ⟨RX4, "add", "(I)V"⟩
abbrev cX4_addWord : ByteArray := prog_6_method_7_code
def yX4_addWord : MethodName := ⟨RX4, "addWord", "(I)V"⟩
abbrev cX4_addLatest : ByteArray := prog_6_method_8_code
def yX4_addLatest : MethodName := ⟨RX4, "addLatest", "(I)V"⟩
abbrev cX4_clear : ByteArray := prog_6_method_9_code
def yX4_clear : MethodName := ⟨RX4, "clear", "()V"⟩
abbrev cX4_cut : ByteArray := prog_6_method_10_code
def yX4_cut : MethodName := ⟨RX4, "cut", "(I)V"⟩
abbrev cX4_becomeZeros : ByteArray := prog_6_method_11_code
def yX4_becomeZeros : MethodName := ⟨RX4, "becomeZeros", "(I)V"⟩
abbrev cX4_become : ByteArray := prog_6_method_12_code
def yX4_become : MethodName := ⟨RX4, "become", "(LFieldLine$Row;II)V"⟩
abbrev cX4_addPart : ByteArray := prog_6_method_13_code
def yX4_addPart : MethodName := ⟨RX4, "addPart", "(LFieldLine$Row;II)V"⟩
abbrev cX4_beginsAs : ByteArray := prog_6_method_14_code
def yX4_beginsAs : MethodName := ⟨RX4, "beginsAs", "(LFieldLine$Row;I)Z"⟩
abbrev cX4_sumOf : ByteArray := prog_6_method_15_code
def yX4_sumOf : MethodName := ⟨RX4, "sumOf", "(I)I"⟩
def RX5 : String := "FieldLine$Scan"
def TX5 : u_T := fun k => match k with
  | 0 => ("FieldLine$Scan", "pdu", "LFieldLine$Row;", true)
  | 1 => ("FieldLine$Scan", "every", "I", true)
  | 2 => ("FieldLine$Scan", "address", "I", true)
  | 3 => ("FieldLine$Scan", "time", "I", false)
  | _ => ("FieldLine$Scan", "former", "I", false)
def tyX5 : Nat → FieldType := fun k => match k with
  | 0 => .object "FieldLine$Row"
  | 1 => .int
  | 2 => .int
  | 3 => .int
  | _ => .int
abbrev wsX50 : List Cond := u_ws RX5 TX5 5
theorem nmX5 : ∀ a, a < 5 → ∀ b, b < 5 → a ≠ b → (TX5 a).2.1 ≠ (TX5 b).2.1 := by decide +kernel
theorem tyX5_ok : ∀ k, k < 5 → parseFieldDescriptor (TX5 k).2.2.1 = some (tyX5 k) := by decide +kernel
abbrev cX5_init : ByteArray := prog_7_method_1_code
def yX5_init : MethodName := ⟨RX5, "<init>", "(IIILFieldLine$Row;)V"⟩
def RX6 : String := "FieldLine$Service"
def TX6 : u_T := fun k => match k with
  | _ => ("", "", "", false)
def tyX6 : Nat → FieldType := fun k => match k with
  | _ => .int
abbrev wsX60 : List Cond := u_ws RX6 TX6 0
theorem nmX6 : ∀ a, a < 0 → ∀ b, b < 0 → a ≠ b → (TX6 a).2.1 ≠ (TX6 b).2.1 := by decide +kernel
theorem tyX6_ok : ∀ k, k < 0 → parseFieldDescriptor (TX6 k).2.2.1 = some (tyX6 k) := by decide +kernel
abbrev cX6_isForAll : ByteArray := prog_8_method_2_code
def yX6_isForAll : MethodName := ⟨RX6, "isForAll", "(I)Z"⟩
abbrev cX6_served : ByteArray := prog_8_method_3_code
def yX6_served : MethodName := ⟨RX6, "served", "(LFieldLine$Device;LFieldLine$Row;LFieldLine$Row;)I"⟩
abbrev cX6_faultHere : ByteArray := prog_8_method_4_code
def yX6_faultHere : MethodName := ⟨RX6, "faultHere", "(LFieldLine$Device;LFieldLine$Row;)I"⟩
abbrev cX6_diagnosisFault : ByteArray := prog_8_method_5_code
def yX6_diagnosisFault : MethodName := ⟨RX6, "diagnosisFault", "(LFieldLine$Row;)I"⟩
abbrev cX6_filesFault : ByteArray := prog_8_method_6_code
def yX6_filesFault : MethodName := ⟨RX6, "filesFault", "(LFieldLine$Device;LFieldLine$Row;)I"⟩
abbrev cX6_maskFault : ByteArray := prog_8_method_7_code
def yX6_maskFault : MethodName := ⟨RX6, "maskFault", "(LFieldLine$Device;LFieldLine$Row;)I"⟩
abbrev cX6_masked : ByteArray := prog_8_method_8_code
def yX6_masked : MethodName := ⟨RX6, "masked", "(III)I"⟩
abbrev cX6_queueFault : ByteArray := prog_8_method_9_code
def yX6_queueFault : MethodName := ⟨RX6, "queueFault", "(LFieldLine$Device;I)I"⟩
abbrev cX6_perform : ByteArray := prog_8_method_10_code
def yX6_perform : MethodName := ⟨RX6, "perform", "(LFieldLine$Device;LFieldLine$Row;LFieldLine$Row;)V"⟩
abbrev cX6_isTelling : ByteArray := prog_8_method_11_code
def yX6_isTelling : MethodName := ⟨RX6, "isTelling", "(I)Z"⟩
abbrev cX6_tell : ByteArray := prog_8_method_12_code
def yX6_tell : MethodName := ⟨RX6, "tell", "(LFieldLine$Device;LFieldLine$Row;LFieldLine$Row;)V"⟩
abbrev cX6_readBits : ByteArray := prog_8_method_13_code
def yX6_readBits : MethodName := ⟨RX6, "readBits", "(LFieldLine$Bank;LFieldLine$Row;LFieldLine$Row;)V"⟩
abbrev cX6_readWords : ByteArray := prog_8_method_14_code
def yX6_readWords : MethodName := ⟨RX6, "readWords", "(LFieldLine$Bank;LFieldLine$Row;LFieldLine$Row;)V"⟩
abbrev cX6_writeBits : ByteArray := prog_8_method_15_code
def yX6_writeBits : MethodName := ⟨RX6, "writeBits", "(LFieldLine$Bank;LFieldLine$Row;)V"⟩
abbrev cX6_writeWords : ByteArray := prog_8_method_16_code
def yX6_writeWords : MethodName := ⟨RX6, "writeWords", "(LFieldLine$Bank;IILFieldLine$Row;I)V"⟩
abbrev cX6_diagnose : ByteArray := prog_8_method_17_code
def yX6_diagnose : MethodName := ⟨RX6, "diagnose", "(LFieldLine$Device;LFieldLine$Row;LFieldLine$Row;)V"⟩
abbrev cX6_tellEvents : ByteArray := prog_8_method_18_code
def yX6_tellEvents : MethodName := ⟨RX6, "tellEvents", "(LFieldLine$Device;LFieldLine$Row;)V"⟩
abbrev cX6_readFiles : ByteArray := prog_8_method_19_code
def yX6_readFiles : MethodName := ⟨RX6, "readFiles", "(LFieldLine$Device;LFieldLine$Row;LFieldLine$Row;)V"⟩
abbrev cX6_writeFiles : ByteArray := prog_8_method_20_code
def yX6_writeFiles : MethodName := ⟨RX6, "writeFiles", "(LFieldLine$Device;LFieldLine$Row;)V"⟩
abbrev cX6_tellQueue : ByteArray := prog_8_method_21_code
def yX6_tellQueue : MethodName := ⟨RX6, "tellQueue", "(LFieldLine$Row;LFieldLine$Row;)V"⟩
abbrev cX6_tellTexts : ByteArray := prog_8_method_22_code
def yX6_tellTexts : MethodName := ⟨RX6, "tellTexts", "(LFieldLine$Shelf;LFieldLine$Row;LFieldLine$Row;)V"⟩
def RX7 : String := "FieldLine$Shape"
def TX7 : u_T := fun k => match k with
  | _ => ("", "", "", false)
def tyX7 : Nat → FieldType := fun k => match k with
  | _ => .int
abbrev wsX70 : List Cond := u_ws RX7 TX7 0
theorem nmX7 : ∀ a, a < 0 → ∀ b, b < 0 → a ≠ b → (TX7 a).2.1 ≠ (TX7 b).2.1 := by decide +kernel
theorem tyX7_ok : ∀ k, k < 0 → parseFieldDescriptor (TX7 k).2.2.1 = some (tyX7 k) := by decide +kernel
abbrev cX7_fault : ByteArray := prog_9_method_2_code
def yX7_fault : MethodName := ⟨RX7, "fault", "(LFieldLine$Row;)I"⟩
abbrev cX7_codeUnless : ByteArray := prog_9_method_3_code
def yX7_codeUnless : MethodName := ⟨RX7, "codeUnless", "(Z)I"⟩
abbrev cX7_diagnosisFault : ByteArray := prog_9_method_4_code
def yX7_diagnosisFault : MethodName := ⟨RX7, "diagnosisFault", "(LFieldLine$Row;)I"⟩
abbrev cX7_textsFault : ByteArray := prog_9_method_5_code
def yX7_textsFault : MethodName := ⟨RX7, "textsFault", "(LFieldLine$Row;)I"⟩
abbrev cX7_areReadParts : ByteArray := prog_9_method_6_code
def yX7_areReadParts : MethodName := ⟨RX7, "areReadParts", "(LFieldLine$Row;)Z"⟩
abbrev cX7_areWriteParts : ByteArray := prog_9_method_7_code
def yX7_areWriteParts : MethodName := ⟨RX7, "areWriteParts", "(LFieldLine$Row;)Z"⟩
abbrev cX7_isRestart : ByteArray := prog_9_method_8_code
def yX7_isRestart : MethodName := ⟨RX7, "isRestart", "(LFieldLine$Row;)Z"⟩
abbrev cX7_isRefusal : ByteArray := prog_9_method_9_code
def yX7_isRefusal : MethodName := ⟨RX7, "isRefusal", "(LFieldLine$Row;LFieldLine$Row;)Z"⟩
abbrev cX7_fits : ByteArray := prog_9_method_10_code
def yX7_fits : MethodName := ⟨RX7, "fits", "(LFieldLine$Row;LFieldLine$Row;)Z"⟩
abbrev cX7_isSame : ByteArray := prog_9_method_11_code
def yX7_isSame : MethodName := ⟨RX7, "isSame", "(LFieldLine$Row;LFieldLine$Row;)Z"⟩
abbrev cX7_diagnosisFits : ByteArray := prog_9_method_12_code
def yX7_diagnosisFits : MethodName := ⟨RX7, "diagnosisFits", "(LFieldLine$Row;LFieldLine$Row;)Z"⟩
abbrev cX7_partsFit : ByteArray := prog_9_method_13_code
def yX7_partsFit : MethodName := ⟨RX7, "partsFit", "(LFieldLine$Row;LFieldLine$Row;)Z"⟩
abbrev cX7_textsEnd : ByteArray := prog_9_method_14_code
def yX7_textsEnd : MethodName := ⟨RX7, "textsEnd", "(LFieldLine$Row;)I"⟩
def RX8 : String := "FieldLine$Shelf"
def TX8 : u_T := fun k => match k with
  | 0 => ("FieldLine$Shelf", "keys", "[I", true)
  | 1 => ("FieldLine$Shelf", "rows", "[LFieldLine$Row;", true)
  | 2 => ("FieldLine$Shelf", "rowMost", "I", true)
  | _ => ("FieldLine$Shelf", "n", "I", false)
def tyX8 : Nat → FieldType := fun k => match k with
  | 0 => .array .int
  | 1 => .array (.object "FieldLine$Row")
  | 2 => .int
  | _ => .int
abbrev wsX80 : List Cond := u_ws RX8 TX8 4
theorem nmX8 : ∀ a, a < 4 → ∀ b, b < 4 → a ≠ b → (TX8 a).2.1 ≠ (TX8 b).2.1 := by decide +kernel
theorem tyX8_ok : ∀ k, k < 4 → parseFieldDescriptor (TX8 k).2.2.1 = some (tyX8 k) := by decide +kernel
abbrev cX8_init : ByteArray := prog_10_method_1_code
def yX8_init : MethodName := ⟨RX8, "<init>", "(II)V"⟩
abbrev cX8_find : ByteArray := prog_10_method_2_code
def yX8_find : MethodName := ⟨RX8, "find", "(I)LFieldLine$Row;"⟩
abbrev cX8_findOrMake : ByteArray := prog_10_method_3_code
def yX8_findOrMake : MethodName := ⟨RX8, "findOrMake", "(I)LFieldLine$Row;"⟩
abbrev cX8_leastKey : ByteArray := prog_10_method_4_code
def yX8_leastKey : MethodName := ⟨RX8, "leastKey", "(II)I"⟩
abbrev cX8_greatestKey : ByteArray := prog_10_method_5_code
def yX8_greatestKey : MethodName := ⟨RX8, "greatestKey", "()I"⟩
def RX9 : String := "FieldLine$Station"
def TX9 : u_T := fun k => match k with
  | 0 => ("FieldLine$Station", "row", "LFieldLine$Row;", true)
  | 1 => ("FieldLine$Station", "quiet", "I", false)
  | 2 => ("FieldLine$Station", "spoilt", "Z", false)
  | _ => ("FieldLine$Station", "overrun", "Z", false)
def tyX9 : Nat → FieldType := fun k => match k with
  | 0 => .object "FieldLine$Row"
  | 1 => .int
  | 2 => .boolean
  | _ => .boolean
abbrev wsX90 : List Cond := u_ws RX9 TX9 4
theorem nmX9 : ∀ a, a < 4 → ∀ b, b < 4 → a ≠ b → (TX9 a).2.1 ≠ (TX9 b).2.1 := by decide +kernel
theorem tyX9_ok : ∀ k, k < 4 → parseFieldDescriptor (TX9 k).2.2.1 = some (tyX9 k) := by decide +kernel
abbrev cX9_init : ByteArray := prog_11_method_1_code
def yX9_init : MethodName := ⟨RX9, "<init>", "()V"⟩
abbrev cX9_hear : ByteArray := prog_11_method_2_code
def yX9_hear : MethodName := ⟨RX9, "hear", "(I)V"⟩
abbrev cX9_frameEndsNow : ByteArray := prog_11_method_3_code
def yX9_frameEndsNow : MethodName := ⟨RX9, "frameEndsNow", "()Z"⟩
abbrev cX9_isGood : ByteArray := prog_11_method_4_code
def yX9_isGood : MethodName := ⟨RX9, "isGood", "()Z"⟩
abbrev cX9_forget : ByteArray := prog_11_method_5_code
def yX9_forget : MethodName := ⟨RX9, "forget", "()V"⟩
def RX10 : String := "FieldLine$Wire"
def TX10 : u_T := fun k => match k with
  | 0 => ("FieldLine$Wire", "frame", "LFieldLine$Row;", true)
  | 1 => ("FieldLine$Wire", "sender", "I", false)
  | 2 => ("FieldLine$Wire", "idle", "I", false)
  | 3 => ("FieldLine$Wire", "next", "I", false)
  | 4 => ("FieldLine$Wire", "late", "I", false)
  | 5 => ("FieldLine$Wire", "left", "I", false)
  | 6 => ("FieldLine$Wire", "harm", "I", false)
  | 7 => ("FieldLine$Wire", "heard", "I", false)
  | 8 => ("FieldLine$Wire", "begun", "I", false)
  | 9 => ("FieldLine$Wire", "done", "I", false)
  | 10 => ("FieldLine$Wire", "frames", "I", false)
  | 11 => ("FieldLine$Wire", "harmedBytes", "[I", true)
  | 12 => ("FieldLine$Wire", "harms", "[I", true)
  | _ => ("FieldLine$Wire", "harmCount", "I", false)
def tyX10 : Nat → FieldType := fun k => match k with
  | 0 => .object "FieldLine$Row"
  | 1 => .int
  | 2 => .int
  | 3 => .int
  | 4 => .int
  | 5 => .int
  | 6 => .int
  | 7 => .int
  | 8 => .int
  | 9 => .int
  | 10 => .int
  | 11 => .array .int
  | 12 => .array .int
  | _ => .int
abbrev wsX100 : List Cond := u_ws RX10 TX10 14
theorem nmX10 : ∀ a, a < 14 → ∀ b, b < 14 → a ≠ b → (TX10 a).2.1 ≠ (TX10 b).2.1 := by decide +kernel
theorem tyX10_ok : ∀ k, k < 14 → parseFieldDescriptor (TX10 k).2.2.1 = some (tyX10 k) := by decide +kernel
abbrev cX10_init : ByteArray := prog_12_method_1_code
def yX10_init : MethodName := ⟨RX10, "<init>", "()V"⟩
abbrev cX10_startFrame : ByteArray := prog_12_method_2_code
def yX10_startFrame : MethodName := ⟨RX10, "startFrame", "(IILFieldLine$Row;)V"⟩
abbrev cX10_advance : ByteArray := prog_12_method_3_code
def yX10_advance : MethodName := ⟨RX10, "advance", "()I"⟩
abbrev cX10_beginByte : ByteArray := prog_12_method_4_code
def yX10_beginByte : MethodName := ⟨RX10, "beginByte", "()V"⟩
abbrev cX10_finishByte : ByteArray := prog_12_method_5_code
def yX10_finishByte : MethodName := ⟨RX10, "finishByte", "()V"⟩
abbrev cX10_takeHarm : ByteArray := prog_12_method_6_code
def yX10_takeHarm : MethodName := ⟨RX10, "takeHarm", "()I"⟩
abbrev cX10_indexOfHarm : ByteArray := prog_12_method_7_code
def yX10_indexOfHarm : MethodName := ⟨RX10, "indexOfHarm", "(I)I"⟩
abbrev cX10_tellHarm : ByteArray := prog_12_method_8_code
def yX10_tellHarm : MethodName := ⟨RX10, "tellHarm", "(II)Z"⟩
def RX11 : String := "FieldLine"
def TX11 : u_T := fun k => match k with
  | 0 => ("FieldLine", "tape", "LFieldLine$Row;", true)
  | 1 => ("FieldLine", "lastAnswer", "LFieldLine$Row;", true)
  | 2 => ("FieldLine", "heard", "LFieldLine$Row;", true)
  | 3 => ("FieldLine", "coming", "LFieldLine$Row;", true)
  | 4 => ("FieldLine", "devices", "[LFieldLine$Device;", true)
  | 5 => ("FieldLine", "deviceCount", "I", false)
  | 6 => ("FieldLine", "wire", "LFieldLine$Wire;", true)
  | 7 => ("FieldLine", "master", "LFieldLine$Master;", true)
  | _ => ("FieldLine", "clock", "I", false)
def tyX11 : Nat → FieldType := fun k => match k with
  | 0 => .object "FieldLine$Row"
  | 1 => .object "FieldLine$Row"
  | 2 => .object "FieldLine$Row"
  | 3 => .object "FieldLine$Row"
  | 4 => .array (.object "FieldLine$Device")
  | 5 => .int
  | 6 => .object "FieldLine$Wire"
  | 7 => .object "FieldLine$Master"
  | _ => .int
abbrev wsX110 : List Cond := u_ws RX11 TX11 9
theorem nmX11 : ∀ a, a < 9 → ∀ b, b < 9 → a ≠ b → (TX11 a).2.1 ≠ (TX11 b).2.1 := by decide +kernel
theorem tyX11_ok : ∀ k, k < 9 → parseFieldDescriptor (TX11 k).2.2.1 = some (tyX11 k) := by decide +kernel
abbrev cX11_init : ByteArray := prog_1_method_1_code
def yX11_init : MethodName := ⟨RX11, "<init>", "()V"⟩
abbrev cX11_feed : ByteArray := prog_1_method_2_code
def yX11_feed : MethodName := ⟨RX11, "feed", "(IIIII)I"⟩
abbrev cX11_feedNumber : ByteArray := prog_1_method_3_code
def yX11_feedNumber : MethodName := ⟨RX11, "feedNumber", "(I)V"⟩
abbrev cX11_end : ByteArray := prog_1_method_4_code
def yX11_end : MethodName := ⟨RX11, "end", "(I)I"⟩
abbrev cX11_sum : ByteArray := prog_1_method_5_code
def yX11_sum : MethodName := ⟨RX11, "sum", "()I"⟩
abbrev cX11_device : ByteArray := prog_1_method_6_code
def yX11_device : MethodName := ⟨RX11, "device", "(II)I"⟩
abbrev cX11_isTaken : ByteArray := prog_1_method_7_code
def yX11_isTaken : MethodName := ⟨RX11, "isTaken", "(I)Z"⟩
abbrev cX11_deviceOf : ByteArray := prog_1_method_8_code
def yX11_deviceOf : MethodName := ⟨RX11, "deviceOf", "(I)LFieldLine$Device;"⟩
abbrev cX11_bankOf : ByteArray := prog_1_method_9_code
def yX11_bankOf : MethodName := ⟨RX11, "bankOf", "(II)LFieldLine$Bank;"⟩
abbrev cX11_within : ByteArray := prog_1_method_10_code
def yX11_within : MethodName := ⟨RX11, "within", "(III)Z"⟩
abbrev cX11_bank : ByteArray := prog_1_method_11_code
def yX11_bank : MethodName := ⟨RX11, "bank", "(IIII)Z"⟩
abbrev cX11_put : ByteArray := prog_1_method_12_code
def yX11_put : MethodName := ⟨RX11, "put", "(IIII)Z"⟩
abbrev cX11_get : ByteArray := prog_1_method_13_code
def yX11_get : MethodName := ⟨RX11, "get", "(III)I"⟩
abbrev cX11_limit : ByteArray := prog_1_method_14_code
def yX11_limit : MethodName := ⟨RX11, "limit", "(IIIII)Z"⟩
abbrev cX11_file : ByteArray := prog_1_method_15_code
def yX11_file : MethodName := ⟨RX11, "file", "(III)Z"⟩
abbrev cX11_record : ByteArray := prog_1_method_16_code
def yX11_record : MethodName := ⟨RX11, "record", "(III)I"⟩
abbrev cX11_queue : ByteArray := prog_1_method_17_code
def yX11_queue : MethodName := ⟨RX11, "queue", "(II)Z"⟩
abbrev cX11_push : ByteArray := prog_1_method_18_code
def yX11_push : MethodName := ⟨RX11, "push", "(III)I"⟩
abbrev cX11_name : ByteArray := prog_1_method_19_code
def yX11_name : MethodName := ⟨RX11, "name", "(II)Z"⟩
abbrev cX11_rule : ByteArray := prog_1_method_20_code
def yX11_rule : MethodName := ⟨RX11, "rule", "(IIIII)Z"⟩
abbrev cX11_busy : ByteArray := prog_1_method_21_code
def yX11_busy : MethodName := ⟨RX11, "busy", "(II)Z"⟩
abbrev cX11_serve : ByteArray := prog_1_method_22_code
def yX11_serve : MethodName := ⟨RX11, "serve", "(I)I"⟩
abbrev cX11_tapeIsPdu : ByteArray := prog_1_method_23_code
def yX11_tapeIsPdu : MethodName := ⟨RX11, "tapeIsPdu", "()Z"⟩
abbrev cX11_answer : ByteArray := prog_1_method_24_code
def yX11_answer : MethodName := ⟨RX11, "answer", "(I)I"⟩
abbrev cX11_settings : ByteArray := prog_1_method_25_code
def yX11_settings : MethodName := ⟨RX11, "settings", "(III)Z"⟩
abbrev cX11_request : ByteArray := prog_1_method_26_code
def yX11_request : MethodName := ⟨RX11, "request", "(I)I"⟩
abbrev cX11_scan : ByteArray := prog_1_method_27_code
def yX11_scan : MethodName := ⟨RX11, "scan", "(II)I"⟩
abbrev cX11_harm : ByteArray := prog_1_method_28_code
def yX11_harm : MethodName := ⟨RX11, "harm", "(II)Z"⟩
abbrev cX11_tick : ByteArray := prog_1_method_29_code
def yX11_tick : MethodName := ⟨RX11, "tick", "(I)I"⟩
abbrev cX11_step : ByteArray := prog_1_method_30_code
def yX11_step : MethodName := ⟨RX11, "step", "()V"⟩
abbrev cX11_applyRules : ByteArray := prog_1_method_31_code
def yX11_applyRules : MethodName := ⟨RX11, "applyRules", "()V"⟩
abbrev cX11_beginFrame : ByteArray := prog_1_method_32_code
def yX11_beginFrame : MethodName := ⟨RX11, "beginFrame", "()V"⟩
abbrev cX11_shortenLags : ByteArray := prog_1_method_33_code
def yX11_shortenLags : MethodName := ⟨RX11, "shortenLags", "()V"⟩
abbrev cX11_spread : ByteArray := prog_1_method_34_code
def yX11_spread : MethodName := ⟨RX11, "spread", "(II)V"⟩
abbrev cX11_silence : ByteArray := prog_1_method_35_code
def yX11_silence : MethodName := ⟨RX11, "silence", "(I)V"⟩
abbrev cX11_takeMessage : ByteArray := prog_1_method_36_code
def yX11_takeMessage : MethodName := ⟨RX11, "takeMessage", "(LFieldLine$Device;)V"⟩
abbrev cX11_result : ByteArray := prog_1_method_37_code
def yX11_result : MethodName := ⟨RX11, "result", "(I)I"⟩
abbrev cX11_data : ByteArray := prog_1_method_38_code
def yX11_data : MethodName := ⟨RX11, "data", "(I)I"⟩
abbrev cX11_take : ByteArray := prog_1_method_39_code
def yX11_take : MethodName := ⟨RX11, "take", "()Z"⟩
abbrev cX11_state : ByteArray := prog_1_method_40_code
def yX11_state : MethodName := ⟨RX11, "state", "(I)I"⟩
abbrev cX11_firstAttempts : ByteArray := prog_1_method_41_code
def yX11_firstAttempts : MethodName := ⟨RX11, "firstAttempts", "()I"⟩
abbrev cX11_counter : ByteArray := prog_1_method_42_code
def yX11_counter : MethodName := ⟨RX11, "counter", "(II)I"⟩
abbrev cX11_event : ByteArray := prog_1_method_43_code
def yX11_event : MethodName := ⟨RX11, "event", "(II)I"⟩
abbrev cX11_sent : ByteArray := prog_1_method_44_code
def yX11_sent : MethodName := ⟨RX11, "sent", "(I)I"⟩
def RX12 : String := "FieldLineModel$Device"
def TX12 : u_T := fun k => match k with
  | 0 => ("FieldLineModel$Station", "row", "[I", true)
  | 1 => ("FieldLineModel$Station", "many", "I", false)
  | 2 => ("FieldLineModel$Station", "quiet", "I", false)
  | 3 => ("FieldLineModel$Station", "spoilt", "Z", false)
  | 4 => ("FieldLineModel$Station", "overrun", "Z", false)
  | 5 => ("FieldLineModel$Device", "address", "I", false)
  | 6 => ("FieldLineModel$Device", "lag", "I", false)
  | 7 => ("FieldLineModel$Device", "number", "I", false)
  | 8 => ("FieldLineModel$Device", "bank", "[[I", true)
  | 9 => ("FieldLineModel$Device", "from", "[I", true)
  | 10 => ("FieldLineModel$Device", "places", "[I", true)
  | 11 => ("FieldLineModel$Device", "limits", "I", false)
  | 12 => ("FieldLineModel$Device", "limitFrom", "[I", true)
  | 13 => ("FieldLineModel$Device", "limitMany", "[I", true)
  | 14 => ("FieldLineModel$Device", "low", "[I", true)
  | 15 => ("FieldLineModel$Device", "high", "[I", true)
  | 16 => ("FieldLineModel$Device", "files", "I", false)
  | 17 => ("FieldLineModel$Device", "fileNumber", "[I", true)
  | 18 => ("FieldLineModel$Device", "fileSize", "[I", true)
  | 19 => ("FieldLineModel$Device", "file", "[[I", true)
  | 20 => ("FieldLineModel$Device", "queues", "I", false)
  | 21 => ("FieldLineModel$Device", "queueAt", "[I", true)
  | 22 => ("FieldLineModel$Device", "queueMany", "[I", true)
  | 23 => ("FieldLineModel$Device", "queue", "[[I", true)
  | 24 => ("FieldLineModel$Device", "texts", "I", false)
  | 25 => ("FieldLineModel$Device", "textId", "[I", true)
  | 26 => ("FieldLineModel$Device", "textSize", "[I", true)
  | 27 => ("FieldLineModel$Device", "text", "[[I", true)
  | 28 => ("FieldLineModel$Device", "rules", "I", false)
  | 29 => ("FieldLineModel$Device", "rule", "[I", true)
  | 30 => ("FieldLineModel$Device", "counter", "[I", true)
  | 31 => ("FieldLineModel$Device", "events", "I", false)
  | 32 => ("FieldLineModel$Device", "event", "[I", true)
  | 33 => ("FieldLineModel$Device", "deaf", "Z", false)
  | 34 => ("FieldLineModel$Device", "busy", "I", false)
  | 35 => ("FieldLineModel$Device", "replySize", "I", false)
  | 36 => ("FieldLineModel$Device", "replyLag", "I", false)
  | _ => ("FieldLineModel$Device", "reply", "[I", true)
def tyX12 : Nat → FieldType := fun k => match k with
  | 0 => .array .int
  | 1 => .int
  | 2 => .int
  | 3 => .boolean
  | 4 => .boolean
  | 5 => .int
  | 6 => .int
  | 7 => .int
  | 8 => .array (.array .int)
  | 9 => .array .int
  | 10 => .array .int
  | 11 => .int
  | 12 => .array .int
  | 13 => .array .int
  | 14 => .array .int
  | 15 => .array .int
  | 16 => .int
  | 17 => .array .int
  | 18 => .array .int
  | 19 => .array (.array .int)
  | 20 => .int
  | 21 => .array .int
  | 22 => .array .int
  | 23 => .array (.array .int)
  | 24 => .int
  | 25 => .array .int
  | 26 => .array .int
  | 27 => .array (.array .int)
  | 28 => .int
  | 29 => .array .int
  | 30 => .array .int
  | 31 => .int
  | 32 => .array .int
  | 33 => .boolean
  | 34 => .int
  | 35 => .int
  | 36 => .int
  | _ => .array .int
abbrev wsX120 : List Cond := u_ws RX12 TX12 38
theorem nmX12 : ∀ a, a < 38 → ∀ b, b < 38 → a ≠ b → (TX12 a).2.1 ≠ (TX12 b).2.1 := by decide +kernel
theorem tyX12_ok : ∀ k, k < 38 → parseFieldDescriptor (TX12 k).2.2.1 = some (tyX12 k) := by decide +kernel
abbrev cX12_init : ByteArray := prog_15_method_1_code
def yX12_init : MethodName := ⟨RX12, "<init>", "()V"⟩
abbrev cX12_counts : ByteArray := prog_15_method_2_code
def yX12_counts : MethodName := ⟨RX12, "counts", "(I)V"⟩
abbrev cX12_tells : ByteArray := prog_15_method_3_code
def yX12_tells : MethodName := ⟨RX12, "tells", "(I)V"⟩
abbrev cX12_place : ByteArray := prog_15_method_4_code
def yX12_place : MethodName := ⟨RX12, "place", "(II)I"⟩
abbrev cX12_has : ByteArray := prog_15_method_5_code
def yX12_has : MethodName := ⟨RX12, "has", "(III)Z"⟩
abbrev cX12_get : ByteArray := prog_15_method_6_code
def yX12_get : MethodName := ⟨RX12, "get", "(II)I"⟩
abbrev cX12_put : ByteArray := prog_15_method_7_code
def yX12_put : MethodName := ⟨RX12, "put", "(III)V"⟩
abbrev cX12_may : ByteArray := prog_15_method_8_code
def yX12_may : MethodName := ⟨RX12, "may", "(II)Z"⟩
abbrev cX12_fileOf : ByteArray := prog_15_method_9_code
def yX12_fileOf : MethodName := ⟨RX12, "fileOf", "(I)I"⟩
abbrev cX12_queueOf : ByteArray := prog_15_method_10_code
def yX12_queueOf : MethodName := ⟨RX12, "queueOf", "(I)I"⟩
abbrev cX12_textOf : ByteArray := prog_15_method_11_code
def yX12_textOf : MethodName := ⟨RX12, "textOf", "(I)I"⟩
abbrev cX12_comesInto : ByteArray := prog_15_method_12_code
def yX12_comesInto : MethodName := ⟨RX12, "comesInto", "(II)V"⟩
def RX13 : String := "FieldLineModel$Row"
def TX13 : u_T := fun k => match k with
  | 0 => ("FieldLineModel$Row", "pdu", "[[I", true)
  | 1 => ("FieldLineModel$Row", "size", "[I", true)
  | 2 => ("FieldLineModel$Row", "about", "[[I", true)
  | _ => ("FieldLineModel$Row", "many", "I", false)
def tyX13 : Nat → FieldType := fun k => match k with
  | 0 => .array (.array .int)
  | 1 => .array .int
  | 2 => .array (.array .int)
  | _ => .int
abbrev wsX130 : List Cond := u_ws RX13 TX13 4
theorem nmX13 : ∀ a, a < 4 → ∀ b, b < 4 → a ≠ b → (TX13 a).2.1 ≠ (TX13 b).2.1 := by decide +kernel
theorem tyX13_ok : ∀ k, k < 4 → parseFieldDescriptor (TX13 k).2.2.1 = some (tyX13 k) := by decide +kernel
abbrev cX13_init : ByteArray := prog_16_method_1_code
def yX13_init : MethodName := ⟨RX13, "<init>", "(II)V"⟩
abbrev cX13_adds : ByteArray := prog_16_method_2_code
def yX13_adds : MethodName := ⟨RX13, "adds", "([III)I"⟩
abbrev cX13_goes : ByteArray := prog_16_method_3_code
def yX13_goes : MethodName := ⟨RX13, "goes", "()V"⟩
def RX14 : String := "FieldLineModel$Station"
def TX14 : u_T := fun k => match k with
  | 0 => ("FieldLineModel$Station", "row", "[I", true)
  | 1 => ("FieldLineModel$Station", "many", "I", false)
  | 2 => ("FieldLineModel$Station", "quiet", "I", false)
  | 3 => ("FieldLineModel$Station", "spoilt", "Z", false)
  | _ => ("FieldLineModel$Station", "overrun", "Z", false)
def tyX14 : Nat → FieldType := fun k => match k with
  | 0 => .array .int
  | 1 => .int
  | 2 => .int
  | 3 => .boolean
  | _ => .boolean
abbrev wsX140 : List Cond := u_ws RX14 TX14 5
theorem nmX14 : ∀ a, a < 5 → ∀ b, b < 5 → a ≠ b → (TX14 a).2.1 ≠ (TX14 b).2.1 := by decide +kernel
theorem tyX14_ok : ∀ k, k < 5 → parseFieldDescriptor (TX14 k).2.2.1 = some (tyX14 k) := by decide +kernel
abbrev cX14_init : ByteArray := prog_17_method_1_code
def yX14_init : MethodName := ⟨RX14, "<init>", "()V"⟩
abbrev cX14_hears : ByteArray := prog_17_method_2_code
def yX14_hears : MethodName := ⟨RX14, "hears", "(I)V"⟩
abbrev cX14_isGood : ByteArray := prog_17_method_3_code
def yX14_isGood : MethodName := ⟨RX14, "isGood", "()Z"⟩
abbrev cX14_empties : ByteArray := prog_17_method_4_code
def yX14_empties : MethodName := ⟨RX14, "empties", "()V"⟩
def RX15 : String := "FieldLineModel"
def TX15 : u_T := fun k => match k with
  | 0 => ("FieldLineModel", "thrown", "I", false)
  | 1 => ("FieldLineModel", "devices", "[LFieldLineModel$Device;", true)
  | 2 => ("FieldLineModel", "deviceMany", "I", false)
  | 3 => ("FieldLineModel", "ans", "[I", true)
  | 4 => ("FieldLineModel", "ansSize", "I", false)
  | 5 => ("FieldLineModel", "pdu", "[I", true)
  | 6 => ("FieldLineModel", "master", "LFieldLineModel$Station;", true)
  | 7 => ("FieldLineModel", "doing", "I", false)
  | 8 => ("FieldLineModel", "wait", "I", false)
  | 9 => ("FieldLineModel", "attempts", "I", false)
  | 10 => ("FieldLineModel", "timeout", "I", false)
  | 11 => ("FieldLineModel", "turn", "I", false)
  | 12 => ("FieldLineModel", "requests", "LFieldLineModel$Row;", true)
  | 13 => ("FieldLineModel", "results", "LFieldLineModel$Row;", true)
  | 14 => ("FieldLineModel", "scans", "LFieldLineModel$Row;", true)
  | 15 => ("FieldLineModel", "numbers", "I", false)
  | 16 => ("FieldLineModel", "resultsLost", "I", false)
  | 17 => ("FieldLineModel", "strays", "I", false)
  | 18 => ("FieldLineModel", "clock", "I", false)
  | 19 => ("FieldLineModel", "idle", "I", false)
  | 20 => ("FieldLineModel", "sender", "I", false)
  | 21 => ("FieldLineModel", "frame", "[I", true)
  | 22 => ("FieldLineModel", "frameSize", "I", false)
  | 23 => ("FieldLineModel", "frames", "I", false)
  | 24 => ("FieldLineModel", "byteAt", "I", false)
  | 25 => ("FieldLineModel", "begun", "Z", false)
  | 26 => ("FieldLineModel", "late", "I", false)
  | 27 => ("FieldLineModel", "left", "I", false)
  | 28 => ("FieldLineModel", "harm", "I", false)
  | 29 => ("FieldLineModel", "begunBytes", "I", false)
  | 30 => ("FieldLineModel", "doneBytes", "I", false)
  | 31 => ("FieldLineModel", "harmOf", "[I", true)
  | 32 => ("FieldLineModel", "harms", "[I", true)
  | 33 => ("FieldLineModel", "harmMany", "I", false)
  | 34 => ("FieldLineModel", "tape", "[I", true)
  | 35 => ("FieldLineModel", "taped", "I", false)
  | 36 => ("FieldLineModel", "answer", "[I", true)
  | _ => ("FieldLineModel", "answerSize", "I", false)
def tyX15 : Nat → FieldType := fun k => match k with
  | 0 => .int
  | 1 => .array (.object "FieldLineModel$Device")
  | 2 => .int
  | 3 => .array .int
  | 4 => .int
  | 5 => .array .int
  | 6 => .object "FieldLineModel$Station"
  | 7 => .int
  | 8 => .int
  | 9 => .int
  | 10 => .int
  | 11 => .int
  | 12 => .object "FieldLineModel$Row"
  | 13 => .object "FieldLineModel$Row"
  | 14 => .object "FieldLineModel$Row"
  | 15 => .int
  | 16 => .int
  | 17 => .int
  | 18 => .int
  | 19 => .int
  | 20 => .int
  | 21 => .array .int
  | 22 => .int
  | 23 => .int
  | 24 => .int
  | 25 => .boolean
  | 26 => .int
  | 27 => .int
  | 28 => .int
  | 29 => .int
  | 30 => .int
  | 31 => .array .int
  | 32 => .array .int
  | 33 => .int
  | 34 => .array .int
  | 35 => .int
  | 36 => .array .int
  | _ => .int
abbrev wsX150 : List Cond := u_ws RX15 TX15 38
theorem nmX15 : ∀ a, a < 38 → ∀ b, b < 38 → a ≠ b → (TX15 a).2.1 ≠ (TX15 b).2.1 := by decide +kernel
theorem tyX15_ok : ∀ k, k < 38 → parseFieldDescriptor (TX15 k).2.2.1 = some (tyX15 k) := by decide +kernel
abbrev cX15_init : ByteArray := prog_14_method_1_code
def yX15_init : MethodName := ⟨RX15, "<init>", "()V"⟩
abbrev cX15_thrown : ByteArray := prog_14_method_2_code
def yX15_thrown : MethodName := ⟨RX15, "thrown", "()I"⟩
abbrev cX15_in : ByteArray := prog_14_method_3_code
def yX15_in : MethodName := ⟨RX15, "in", "(III)Z"⟩
abbrev cX15_sumOf : ByteArray := prog_14_method_4_code
def yX15_sumOf : MethodName := ⟨RX15, "sumOf", "([II)I"⟩
abbrev cX15_two : ByteArray := prog_14_method_5_code
def yX15_two : MethodName := ⟨RX15, "two", "([II)I"⟩
abbrev cX15_isDevice : ByteArray := prog_14_method_6_code
def yX15_isDevice : MethodName := ⟨RX15, "isDevice", "(I)Z"⟩
abbrev cX15_isShaped : ByteArray := prog_14_method_7_code
def yX15_isShaped : MethodName := ⟨RX15, "isShaped", "([II)Z"⟩
abbrev cX15_says : ByteArray := prog_14_method_8_code
def yX15_says : MethodName := ⟨RX15, "says", "(I)V"⟩
abbrev cX15_saysTwo : ByteArray := prog_14_method_9_code
def yX15_saysTwo : MethodName := ⟨RX15, "saysTwo", "(I)V"⟩
abbrev cX15_same : ByteArray := prog_14_method_10_code
def yX15_same : MethodName := ⟨RX15, "same", "([II)V"⟩
abbrev cX15_isTold : ByteArray := prog_14_method_11_code
def yX15_isTold : MethodName := ⟨RX15, "isTold", "(I)Z"⟩
abbrev cX15_refusal : ByteArray := prog_14_method_12_code
def yX15_refusal : MethodName := ⟨RX15, "refusal", "(LFieldLineModel$Device;[II)I"⟩
abbrev cX15_refusal8 : ByteArray := prog_14_method_13_code
def yX15_refusal8 : MethodName := ⟨RX15, "refusal8", "([II)I"⟩
abbrev cX15_mays : ByteArray := prog_14_method_14_code
def yX15_mays : MethodName := ⟨RX15, "mays", "(LFieldLineModel$Device;[IIII)Z"⟩
abbrev cX15_masked : ByteArray := prog_14_method_15_code
def yX15_masked : MethodName := ⟨RX15, "masked", "(LFieldLineModel$Device;[I)I"⟩
abbrev cX15_parts : ByteArray := prog_14_method_16_code
def yX15_parts : MethodName := ⟨RX15, "parts", "(LFieldLineModel$Device;[II)I"⟩
abbrev cX15_serve : ByteArray := prog_14_method_17_code
def yX15_serve : MethodName := ⟨RX15, "serve", "(LFieldLineModel$Device;[II)V"⟩
abbrev cX15_bits : ByteArray := prog_14_method_18_code
def yX15_bits : MethodName := ⟨RX15, "bits", "(LFieldLineModel$Device;III)V"⟩
abbrev cX15_values : ByteArray := prog_14_method_19_code
def yX15_values : MethodName := ⟨RX15, "values", "(LFieldLineModel$Device;IIII)V"⟩
abbrev cX15_tests : ByteArray := prog_14_method_20_code
def yX15_tests : MethodName := ⟨RX15, "tests", "(LFieldLineModel$Device;[II)V"⟩
abbrev cX15_reads : ByteArray := prog_14_method_21_code
def yX15_reads : MethodName := ⟨RX15, "reads", "(LFieldLineModel$Device;[II)V"⟩
abbrev cX15_writes : ByteArray := prog_14_method_22_code
def yX15_writes : MethodName := ⟨RX15, "writes", "(LFieldLineModel$Device;[II)V"⟩
abbrev cX15_names : ByteArray := prog_14_method_23_code
def yX15_names : MethodName := ⟨RX15, "names", "(LFieldLineModel$Device;II)V"⟩
abbrev cX15_looks : ByteArray := prog_14_method_24_code
def yX15_looks : MethodName := ⟨RX15, "looks", "(LFieldLineModel$Device;)V"⟩
abbrev cX15_isRefusal : ByteArray := prog_14_method_25_code
def yX15_isRefusal : MethodName := ⟨RX15, "isRefusal", "([II)Z"⟩
abbrev cX15_obeys : ByteArray := prog_14_method_26_code
def yX15_obeys : MethodName := ⟨RX15, "obeys", "(LFieldLineModel$Device;)V"⟩
abbrev cX15_obeys_ : ByteArray := prog_14_method_27_code
def yX15_obeys_ : MethodName := ⟨RX15, "obeys", "(LFieldLineModel$Device;IIII)V"⟩
abbrev cX15_newRequest : ByteArray := prog_14_method_28_code
def yX15_newRequest : MethodName := ⟨RX15, "newRequest", "(I[II)I"⟩
abbrev cX15_through : ByteArray := prog_14_method_29_code
def yX15_through : MethodName := ⟨RX15, "through", "(IIII)V"⟩
abbrev cX15_fails : ByteArray := prog_14_method_30_code
def yX15_fails : MethodName := ⟨RX15, "fails", "(I)V"⟩
abbrev cX15_looksMaster : ByteArray := prog_14_method_31_code
def yX15_looksMaster : MethodName := ⟨RX15, "looksMaster", "()V"⟩
abbrev cX15_isBegun : ByteArray := prog_14_method_32_code
def yX15_isBegun : MethodName := ⟨RX15, "isBegun", "([I[II)Z"⟩
abbrev cX15_doesFit : ByteArray := prog_14_method_33_code
def yX15_doesFit : MethodName := ⟨RX15, "doesFit", "([II[II)Z"⟩
abbrev cX15_doPartsFit : ByteArray := prog_14_method_34_code
def yX15_doPartsFit : MethodName := ⟨RX15, "doPartsFit", "([II[II)Z"⟩
abbrev cX15_doNamesFit : ByteArray := prog_14_method_35_code
def yX15_doNamesFit : MethodName := ⟨RX15, "doNamesFit", "([II)Z"⟩
abbrev cX15_sends : ByteArray := prog_14_method_36_code
def yX15_sends : MethodName := ⟨RX15, "sends", "(II[II)V"⟩
abbrev cX15_begins : ByteArray := prog_14_method_37_code
def yX15_begins : MethodName := ⟨RX15, "begins", "()V"⟩
abbrev cX15_isInRow : ByteArray := prog_14_method_38_code
def yX15_isInRow : MethodName := ⟨RX15, "isInRow", "(I)Z"⟩
abbrev cX15_scan : ByteArray := prog_14_method_39_code
def yX15_scan : MethodName := ⟨RX15, "scan", "(I)V"⟩
abbrev cX15_takeHarm : ByteArray := prog_14_method_40_code
def yX15_takeHarm : MethodName := ⟨RX15, "takeHarm", "(I)I"⟩
abbrev cX15_sendsOn : ByteArray := prog_14_method_41_code
def yX15_sendsOn : MethodName := ⟨RX15, "sendsOn", "()Z"⟩
abbrev cX15_endsSending : ByteArray := prog_14_method_42_code
def yX15_endsSending : MethodName := ⟨RX15, "endsSending", "()V"⟩
abbrev cX15_oneTick : ByteArray := prog_14_method_43_code
def yX15_oneTick : MethodName := ⟨RX15, "oneTick", "()V"⟩
abbrev cX15_silence : ByteArray := prog_14_method_44_code
def yX15_silence : MethodName := ⟨RX15, "silence", "(I)V"⟩
abbrev cX15_feed : ByteArray := prog_14_method_45_code
def yX15_feed : MethodName := ⟨RX15, "feed", "(IIIII)I"⟩
abbrev cX15_end : ByteArray := prog_14_method_46_code
def yX15_end : MethodName := ⟨RX15, "end", "(I)I"⟩
abbrev cX15_sum : ByteArray := prog_14_method_47_code
def yX15_sum : MethodName := ⟨RX15, "sum", "()I"⟩
abbrev cX15_device : ByteArray := prog_14_method_48_code
def yX15_device : MethodName := ⟨RX15, "device", "(II)I"⟩
abbrev cX15_bank : ByteArray := prog_14_method_49_code
def yX15_bank : MethodName := ⟨RX15, "bank", "(IIII)Z"⟩
abbrev cX15_isPlace : ByteArray := prog_14_method_50_code
def yX15_isPlace : MethodName := ⟨RX15, "isPlace", "(III)Z"⟩
abbrev cX15_put : ByteArray := prog_14_method_51_code
def yX15_put : MethodName := ⟨RX15, "put", "(IIII)Z"⟩
abbrev cX15_get : ByteArray := prog_14_method_52_code
def yX15_get : MethodName := ⟨RX15, "get", "(III)I"⟩
abbrev cX15_limit : ByteArray := prog_14_method_53_code
def yX15_limit : MethodName := ⟨RX15, "limit", "(IIIII)Z"⟩
abbrev cX15_file : ByteArray := prog_14_method_54_code
def yX15_file : MethodName := ⟨RX15, "file", "(III)Z"⟩
abbrev cX15_record : ByteArray := prog_14_method_55_code
def yX15_record : MethodName := ⟨RX15, "record", "(III)I"⟩
abbrev cX15_queue : ByteArray := prog_14_method_56_code
def yX15_queue : MethodName := ⟨RX15, "queue", "(II)Z"⟩
abbrev cX15_push : ByteArray := prog_14_method_57_code
def yX15_push : MethodName := ⟨RX15, "push", "(III)I"⟩
abbrev cX15_name : ByteArray := prog_14_method_58_code
def yX15_name : MethodName := ⟨RX15, "name", "(II)Z"⟩
abbrev cX15_rule : ByteArray := prog_14_method_59_code
def yX15_rule : MethodName := ⟨RX15, "rule", "(IIIII)Z"⟩
abbrev cX15_busy : ByteArray := prog_14_method_60_code
def yX15_busy : MethodName := ⟨RX15, "busy", "(II)Z"⟩
abbrev cX15_serve_ : ByteArray := prog_14_method_61_code
def yX15_serve_ : MethodName := ⟨RX15, "serve", "(I)I"⟩
abbrev cX15_answer : ByteArray := prog_14_method_62_code
def yX15_answer : MethodName := ⟨RX15, "answer", "(I)I"⟩
abbrev cX15_settings : ByteArray := prog_14_method_63_code
def yX15_settings : MethodName := ⟨RX15, "settings", "(III)Z"⟩
abbrev cX15_request : ByteArray := prog_14_method_64_code
def yX15_request : MethodName := ⟨RX15, "request", "(I)I"⟩
abbrev cX15_scan_ : ByteArray := prog_14_method_65_code
def yX15_scan_ : MethodName := ⟨RX15, "scan", "(II)I"⟩
abbrev cX15_harm : ByteArray := prog_14_method_66_code
def yX15_harm : MethodName := ⟨RX15, "harm", "(II)Z"⟩
abbrev cX15_tick : ByteArray := prog_14_method_67_code
def yX15_tick : MethodName := ⟨RX15, "tick", "(I)I"⟩
abbrev cX15_result : ByteArray := prog_14_method_68_code
def yX15_result : MethodName := ⟨RX15, "result", "(I)I"⟩
abbrev cX15_data : ByteArray := prog_14_method_69_code
def yX15_data : MethodName := ⟨RX15, "data", "(I)I"⟩
abbrev cX15_take : ByteArray := prog_14_method_70_code
def yX15_take : MethodName := ⟨RX15, "take", "()Z"⟩
abbrev cX15_state : ByteArray := prog_14_method_71_code
def yX15_state : MethodName := ⟨RX15, "state", "(I)I"⟩
abbrev cX15_counter : ByteArray := prog_14_method_72_code
def yX15_counter : MethodName := ⟨RX15, "counter", "(II)I"⟩
abbrev cX15_event : ByteArray := prog_14_method_73_code
def yX15_event : MethodName := ⟨RX15, "event", "(II)I"⟩
abbrev cX15_sent : ByteArray := prog_14_method_74_code
def yX15_sent : MethodName := ⟨RX15, "sent", "(I)I"⟩
def RL : String := "FieldLineLaw"
abbrev cL_tick : ByteArray := method_3_code
def yL_tick : MethodName := ⟨RL, "tick", "(LFieldLine;I[J)I"⟩
abbrev cL_data : ByteArray := method_4_code
def yL_data : MethodName := ⟨RL, "data", "(LFieldLine;I[J)I"⟩
abbrev cL_law : ByteArray := code
def yL_law : MethodName := ⟨RL, "law", "([I)Z"⟩
abbrev vwCl : List vw_C := [(RX0, TX0, 4), (RX1, TX1, 20), (RX2, TX2, 6), (RX3, TX3, 17), (RX4, TX4, 2), (RX5, TX5, 5), (RX8, TX8, 4), (RX9, TX9, 4), (RX10, TX10, 14), (RX11, TX11, 9), (RX12, TX12, 38), (RX13, TX13, 4), (RX14, TX14, 5), (RX15, TX15, 38)]
