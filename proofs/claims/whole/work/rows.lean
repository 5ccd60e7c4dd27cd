section
-- ===== PART A: goes FIRST, ahead of the names: the tables' words, and 'selects' of the private methods out of them =====
/-- a private method of a class that the tables say can be made, by its rows of tables_1 -/
def lw_okq (q : MethodName × Nat) : Prop := (q.1.cls ≠ "java/lang/invoke/MethodHandle" ∧ q.1.cls ≠ "java/lang/invoke/VarHandle") ∧ Cond.instantiable q.1.cls q.2 ∈ tables_1 ∧ Cond.privateMethod q.1 ∈ tables_1 ∧ Cond.instanceMethod q.1 ∈ tables_1
theorem lw_p0 : lw_okq (⟨"java/lang/Throwable", "fillInStackTrace", "(I)Ljava/lang/Throwable;"⟩, 6) := ⟨⟨by decide +kernel, by decide +kernel⟩, List.mem_of_getElem? (i := 213) (by decide +kernel), List.mem_of_getElem? (i := 211) (by decide +kernel), List.mem_of_getElem? (i := 212) (by decide +kernel)⟩
theorem lw_p1 : lw_okq (⟨"ReportChecks2", "requireRoomForReport", "()V"⟩, 14) := ⟨⟨by decide +kernel, by decide +kernel⟩, List.mem_of_getElem? (i := 19) (by decide +kernel), List.mem_of_getElem? (i := 258) (by decide +kernel), List.mem_of_getElem? (i := 259) (by decide +kernel)⟩
theorem lw_p2 : lw_okq (⟨"ReportChecks2", "keep", "(LReportChecks2$Report;)I"⟩, 14) := ⟨⟨by decide +kernel, by decide +kernel⟩, List.mem_of_getElem? (i := 19) (by decide +kernel), List.mem_of_getElem? (i := 331) (by decide +kernel), List.mem_of_getElem? (i := 332) (by decide +kernel)⟩
theorem lw_p3 : lw_okq (⟨"ReportChecks2", "known", "(I)LReportChecks2$Report;"⟩, 14) := ⟨⟨by decide +kernel, by decide +kernel⟩, List.mem_of_getElem? (i := 19) (by decide +kernel), List.mem_of_getElem? (i := 357) (by decide +kernel), List.mem_of_getElem? (i := 358) (by decide +kernel)⟩
theorem lw_p4 : lw_okq (⟨"ReportChecks2$Report", "canBeTold", "(I)Z"⟩, 11) := ⟨⟨by decide +kernel, by decide +kernel⟩, List.mem_of_getElem? (i := 277) (by decide +kernel), List.mem_of_getElem? (i := 365) (by decide +kernel), List.mem_of_getElem? (i := 366) (by decide +kernel)⟩
theorem lw_p5 : lw_okq (⟨"ReportChecks2$Report", "tell", "(II)V"⟩, 11) := ⟨⟨by decide +kernel, by decide +kernel⟩, List.mem_of_getElem? (i := 277) (by decide +kernel), List.mem_of_getElem? (i := 388) (by decide +kernel), List.mem_of_getElem? (i := 389) (by decide +kernel)⟩
theorem lw_p6 : lw_okq (⟨"ReportChecks2$Report", "fillByAct", "(II)Z"⟩, 11) := ⟨⟨by decide +kernel, by decide +kernel⟩, List.mem_of_getElem? (i := 277) (by decide +kernel), List.mem_of_getElem? (i := 406) (by decide +kernel), List.mem_of_getElem? (i := 407) (by decide +kernel)⟩
theorem lw_p7 : lw_okq (⟨"ReportChecks2$RuleReader", "readInto", "(LReportChecks2$RuleBook;I)I"⟩, 3) := ⟨⟨by decide +kernel, by decide +kernel⟩, List.mem_of_getElem? (i := 29) (by decide +kernel), List.mem_of_getElem? (i := 434) (by decide +kernel), List.mem_of_getElem? (i := 435) (by decide +kernel)⟩
theorem lw_p8 : lw_okq (⟨"ReportChecks2$RuleReader", "skipBlanks", "()V"⟩, 3) := ⟨⟨by decide +kernel, by decide +kernel⟩, List.mem_of_getElem? (i := 29) (by decide +kernel), List.mem_of_getElem? (i := 441) (by decide +kernel), List.mem_of_getElem? (i := 442) (by decide +kernel)⟩
theorem lw_p9 : lw_okq (⟨"ReportChecks2$RuleBook", "startRule", "(I)V"⟩, 7) := ⟨⟨by decide +kernel, by decide +kernel⟩, List.mem_of_getElem? (i := 47) (by decide +kernel), List.mem_of_getElem? (i := 445) (by decide +kernel), List.mem_of_getElem? (i := 446) (by decide +kernel)⟩
theorem lw_p10 : lw_okq (⟨"ReportChecks2$RuleReader", "readSum", "(LReportChecks2$RuleBook;I)Z"⟩, 3) := ⟨⟨by decide +kernel, by decide +kernel⟩, List.mem_of_getElem? (i := 29) (by decide +kernel), List.mem_of_getElem? (i := 449) (by decide +kernel), List.mem_of_getElem? (i := 450) (by decide +kernel)⟩
theorem lw_p11 : lw_okq (⟨"ReportChecks2$RuleReader", "readTerm", "(LReportChecks2$RuleBook;IZ)Z"⟩, 3) := ⟨⟨by decide +kernel, by decide +kernel⟩, List.mem_of_getElem? (i := 29) (by decide +kernel), List.mem_of_getElem? (i := 453) (by decide +kernel), List.mem_of_getElem? (i := 454) (by decide +kernel)⟩
theorem lw_p12 : lw_okq (⟨"ReportChecks2$RuleReader", "readFactor", "()I"⟩, 3) := ⟨⟨by decide +kernel, by decide +kernel⟩, List.mem_of_getElem? (i := 29) (by decide +kernel), List.mem_of_getElem? (i := 457) (by decide +kernel), List.mem_of_getElem? (i := 458) (by decide +kernel)⟩
theorem lw_p13 : lw_okq (⟨"ReportChecks2$RuleReader", "passes", "(C)Z"⟩, 3) := ⟨⟨by decide +kernel, by decide +kernel⟩, List.mem_of_getElem? (i := 29) (by decide +kernel), List.mem_of_getElem? (i := 461) (by decide +kernel), List.mem_of_getElem? (i := 462) (by decide +kernel)⟩
theorem lw_p14 : lw_okq (⟨"ReportChecks2$RuleReader", "readNumber", "(I)I"⟩, 3) := ⟨⟨by decide +kernel, by decide +kernel⟩, List.mem_of_getElem? (i := 29) (by decide +kernel), List.mem_of_getElem? (i := 466) (by decide +kernel), List.mem_of_getElem? (i := 467) (by decide +kernel)⟩
theorem lw_p15 : lw_okq (⟨"ReportChecks2$RuleBook", "addTerm", "(IIIZ)V"⟩, 7) := ⟨⟨by decide +kernel, by decide +kernel⟩, List.mem_of_getElem? (i := 47) (by decide +kernel), List.mem_of_getElem? (i := 474) (by decide +kernel), List.mem_of_getElem? (i := 475) (by decide +kernel)⟩
def lw_privs_1 : List (MethodName × Nat) := [(⟨"java/lang/Throwable", "fillInStackTrace", "(I)Ljava/lang/Throwable;"⟩, 6), (⟨"ReportChecks2", "requireRoomForReport", "()V"⟩, 14), (⟨"ReportChecks2", "keep", "(LReportChecks2$Report;)I"⟩, 14), (⟨"ReportChecks2", "known", "(I)LReportChecks2$Report;"⟩, 14), (⟨"ReportChecks2$Report", "canBeTold", "(I)Z"⟩, 11), (⟨"ReportChecks2$Report", "tell", "(II)V"⟩, 11), (⟨"ReportChecks2$Report", "fillByAct", "(II)Z"⟩, 11), (⟨"ReportChecks2$RuleReader", "readInto", "(LReportChecks2$RuleBook;I)I"⟩, 3), (⟨"ReportChecks2$RuleReader", "skipBlanks", "()V"⟩, 3), (⟨"ReportChecks2$RuleBook", "startRule", "(I)V"⟩, 7), (⟨"ReportChecks2$RuleReader", "readSum", "(LReportChecks2$RuleBook;I)Z"⟩, 3), (⟨"ReportChecks2$RuleReader", "readTerm", "(LReportChecks2$RuleBook;IZ)Z"⟩, 3), (⟨"ReportChecks2$RuleReader", "readFactor", "()I"⟩, 3), (⟨"ReportChecks2$RuleReader", "passes", "(C)Z"⟩, 3), (⟨"ReportChecks2$RuleReader", "readNumber", "(I)I"⟩, 3), (⟨"ReportChecks2$RuleBook", "addTerm", "(IIIZ)V"⟩, 7)]
theorem lw_r1 : ∀ q ∈ lw_privs_1, lw_okq q := List.forall_mem_cons.mpr ⟨lw_p0, List.forall_mem_cons.mpr ⟨lw_p1, List.forall_mem_cons.mpr ⟨lw_p2, List.forall_mem_cons.mpr ⟨lw_p3, List.forall_mem_cons.mpr ⟨lw_p4, List.forall_mem_cons.mpr ⟨lw_p5, List.forall_mem_cons.mpr ⟨lw_p6, List.forall_mem_cons.mpr ⟨lw_p7, List.forall_mem_cons.mpr ⟨lw_p8, List.forall_mem_cons.mpr ⟨lw_p9, List.forall_mem_cons.mpr ⟨lw_p10, List.forall_mem_cons.mpr ⟨lw_p11, List.forall_mem_cons.mpr ⟨lw_p12, List.forall_mem_cons.mpr ⟨lw_p13, List.forall_mem_cons.mpr ⟨lw_p14, List.forall_mem_cons.mpr ⟨lw_p15, fun _ h => absurd h List.not_mem_nil⟩⟩⟩⟩⟩⟩⟩⟩⟩⟩⟩⟩⟩⟩⟩⟩
theorem lw_p16 : lw_okq (⟨"ReportChecks2$RuleBook", "noteField", "(II)V"⟩, 7) := ⟨⟨by decide +kernel, by decide +kernel⟩, List.mem_of_getElem? (i := 47) (by decide +kernel), List.mem_of_getElem? (i := 478) (by decide +kernel), List.mem_of_getElem? (i := 479) (by decide +kernel)⟩
theorem lw_p17 : lw_okq (⟨"ReportChecks2$RuleReader", "readComparison", "(LReportChecks2$RuleBook;I)Z"⟩, 3) := ⟨⟨by decide +kernel, by decide +kernel⟩, List.mem_of_getElem? (i := 29) (by decide +kernel), List.mem_of_getElem? (i := 483) (by decide +kernel), List.mem_of_getElem? (i := 484) (by decide +kernel)⟩
theorem lw_p18 : lw_okq (⟨"ReportChecks2", "findWanting", "(LReportChecks2$Report;LReportChecks2$Findings;)V"⟩, 14) := ⟨⟨by decide +kernel, by decide +kernel⟩, List.mem_of_getElem? (i := 19) (by decide +kernel), List.mem_of_getElem? (i := 495) (by decide +kernel), List.mem_of_getElem? (i := 496) (by decide +kernel)⟩
theorem lw_p19 : lw_okq (⟨"ReportChecks2$Findings", "add", "(II)V"⟩, 3) := ⟨⟨by decide +kernel, by decide +kernel⟩, List.mem_of_getElem? (i := 80) (by decide +kernel), List.mem_of_getElem? (i := 500) (by decide +kernel), List.mem_of_getElem? (i := 501) (by decide +kernel)⟩
theorem lw_p20 : lw_okq (⟨"ReportChecks2$RuleBook", "faultOf", "(ILReportChecks2$Report;)I"⟩, 7) := ⟨⟨by decide +kernel, by decide +kernel⟩, List.mem_of_getElem? (i := 47) (by decide +kernel), List.mem_of_getElem? (i := 504) (by decide +kernel), List.mem_of_getElem? (i := 505) (by decide +kernel)⟩
theorem lw_p21 : lw_okq (⟨"ReportChecks2$RuleBook", "sumOf", "(I[I)I"⟩, 7) := ⟨⟨by decide +kernel, by decide +kernel⟩, List.mem_of_getElem? (i := 47) (by decide +kernel), List.mem_of_getElem? (i := 508) (by decide +kernel), List.mem_of_getElem? (i := 509) (by decide +kernel)⟩
theorem lw_p22 : lw_okq (⟨"ReportChecks2$Report", "isReadyFor", "(I)Z"⟩, 11) := ⟨⟨by decide +kernel, by decide +kernel⟩, List.mem_of_getElem? (i := 277) (by decide +kernel), List.mem_of_getElem? (i := 539) (by decide +kernel), List.mem_of_getElem? (i := 540) (by decide +kernel)⟩
theorem lw_p23 : lw_okq (⟨"ReportChecks2$Report", "isClosed", "()Z"⟩, 11) := ⟨⟨by decide +kernel, by decide +kernel⟩, List.mem_of_getElem? (i := 277) (by decide +kernel), List.mem_of_getElem? (i := 543) (by decide +kernel), List.mem_of_getElem? (i := 544) (by decide +kernel)⟩
theorem lw_p24 : lw_okq (⟨"ReportChecks2$Report", "hasSigner", "(I)Z"⟩, 11) := ⟨⟨by decide +kernel, by decide +kernel⟩, List.mem_of_getElem? (i := 277) (by decide +kernel), List.mem_of_getElem? (i := 547) (by decide +kernel), List.mem_of_getElem? (i := 548) (by decide +kernel)⟩
theorem lw_p25 : lw_okq (⟨"ReportChecks2$Report", "addSignature", "(I)V"⟩, 11) := ⟨⟨by decide +kernel, by decide +kernel⟩, List.mem_of_getElem? (i := 277) (by decide +kernel), List.mem_of_getElem? (i := 552) (by decide +kernel), List.mem_of_getElem? (i := 553) (by decide +kernel)⟩
theorem lw_p26 : lw_okq (⟨"ReportChecks2$Report", "copyValues", "(LReportChecks2$Report;)V"⟩, 11) := ⟨⟨by decide +kernel, by decide +kernel⟩, List.mem_of_getElem? (i := 277) (by decide +kernel), List.mem_of_getElem? (i := 568) (by decide +kernel), List.mem_of_getElem? (i := 569) (by decide +kernel)⟩
theorem lw_p27 : lw_okq (⟨"ReportChecks2$CodeText", "write", "(LReportChecks2$Report;I)V"⟩, 2) := ⟨⟨by decide +kernel, by decide +kernel⟩, List.mem_of_getElem? (i := 99) (by decide +kernel), List.mem_of_getElem? (i := 597) (by decide +kernel), List.mem_of_getElem? (i := 598) (by decide +kernel)⟩
theorem lw_p28 : lw_okq (⟨"ReportChecks2$CodeText", "addByte", "(I)V"⟩, 2) := ⟨⟨by decide +kernel, by decide +kernel⟩, List.mem_of_getElem? (i := 99) (by decide +kernel), List.mem_of_getElem? (i := 601) (by decide +kernel), List.mem_of_getElem? (i := 602) (by decide +kernel)⟩
theorem lw_p29 : lw_okq (⟨"ReportChecks2$CodeText", "addNumber", "(I)V"⟩, 2) := ⟨⟨by decide +kernel, by decide +kernel⟩, List.mem_of_getElem? (i := 99) (by decide +kernel), List.mem_of_getElem? (i := 605) (by decide +kernel), List.mem_of_getElem? (i := 606) (by decide +kernel)⟩
theorem lw_p30 : lw_okq (⟨"ReportChecks2$CodeText", "addField", "(IIZ)V"⟩, 2) := ⟨⟨by decide +kernel, by decide +kernel⟩, List.mem_of_getElem? (i := 99) (by decide +kernel), List.mem_of_getElem? (i := 613) (by decide +kernel), List.mem_of_getElem? (i := 614) (by decide +kernel)⟩
theorem lw_p31 : lw_okq (⟨"ReportChecks2$Report", "isLate", "(II)Z"⟩, 11) := ⟨⟨by decide +kernel, by decide +kernel⟩, List.mem_of_getElem? (i := 277) (by decide +kernel), List.mem_of_getElem? (i := 633) (by decide +kernel), List.mem_of_getElem? (i := 634) (by decide +kernel)⟩
def lw_privs_2 : List (MethodName × Nat) := [(⟨"ReportChecks2$RuleBook", "noteField", "(II)V"⟩, 7), (⟨"ReportChecks2$RuleReader", "readComparison", "(LReportChecks2$RuleBook;I)Z"⟩, 3), (⟨"ReportChecks2", "findWanting", "(LReportChecks2$Report;LReportChecks2$Findings;)V"⟩, 14), (⟨"ReportChecks2$Findings", "add", "(II)V"⟩, 3), (⟨"ReportChecks2$RuleBook", "faultOf", "(ILReportChecks2$Report;)I"⟩, 7), (⟨"ReportChecks2$RuleBook", "sumOf", "(I[I)I"⟩, 7), (⟨"ReportChecks2$Report", "isReadyFor", "(I)Z"⟩, 11), (⟨"ReportChecks2$Report", "isClosed", "()Z"⟩, 11), (⟨"ReportChecks2$Report", "hasSigner", "(I)Z"⟩, 11), (⟨"ReportChecks2$Report", "addSignature", "(I)V"⟩, 11), (⟨"ReportChecks2$Report", "copyValues", "(LReportChecks2$Report;)V"⟩, 11), (⟨"ReportChecks2$CodeText", "write", "(LReportChecks2$Report;I)V"⟩, 2), (⟨"ReportChecks2$CodeText", "addByte", "(I)V"⟩, 2), (⟨"ReportChecks2$CodeText", "addNumber", "(I)V"⟩, 2), (⟨"ReportChecks2$CodeText", "addField", "(IIZ)V"⟩, 2), (⟨"ReportChecks2$Report", "isLate", "(II)Z"⟩, 11)]
theorem lw_r2 : ∀ q ∈ lw_privs_2, lw_okq q := List.forall_mem_cons.mpr ⟨lw_p16, List.forall_mem_cons.mpr ⟨lw_p17, List.forall_mem_cons.mpr ⟨lw_p18, List.forall_mem_cons.mpr ⟨lw_p19, List.forall_mem_cons.mpr ⟨lw_p20, List.forall_mem_cons.mpr ⟨lw_p21, List.forall_mem_cons.mpr ⟨lw_p22, List.forall_mem_cons.mpr ⟨lw_p23, List.forall_mem_cons.mpr ⟨lw_p24, List.forall_mem_cons.mpr ⟨lw_p25, List.forall_mem_cons.mpr ⟨lw_p26, List.forall_mem_cons.mpr ⟨lw_p27, List.forall_mem_cons.mpr ⟨lw_p28, List.forall_mem_cons.mpr ⟨lw_p29, List.forall_mem_cons.mpr ⟨lw_p30, List.forall_mem_cons.mpr ⟨lw_p31, fun _ h => absurd h List.not_mem_nil⟩⟩⟩⟩⟩⟩⟩⟩⟩⟩⟩⟩⟩⟩⟩⟩
theorem lw_p32 : lw_okq (⟨"ReportChecks2$Report", "isSettled", "()Z"⟩, 11) := ⟨⟨by decide +kernel, by decide +kernel⟩, List.mem_of_getElem? (i := 277) (by decide +kernel), List.mem_of_getElem? (i := 645) (by decide +kernel), List.mem_of_getElem? (i := 646) (by decide +kernel)⟩
theorem lw_p33 : lw_okq (⟨"ReportChecks2$Report", "isBetween", "(III)Z"⟩, 11) := ⟨⟨by decide +kernel, by decide +kernel⟩, List.mem_of_getElem? (i := 277) (by decide +kernel), List.mem_of_getElem? (i := 649) (by decide +kernel), List.mem_of_getElem? (i := 650) (by decide +kernel)⟩
theorem lw_p34 : lw_okq (⟨"ReportChecks2$Report", "lastSigner", "()I"⟩, 11) := ⟨⟨by decide +kernel, by decide +kernel⟩, List.mem_of_getElem? (i := 277) (by decide +kernel), List.mem_of_getElem? (i := 660) (by decide +kernel), List.mem_of_getElem? (i := 661) (by decide +kernel)⟩
theorem lw_p35 : lw_okq (⟨"ReportChecks2Model", "goes", "(ZZZ)Z"⟩, 39) := ⟨⟨by decide +kernel, by decide +kernel⟩, List.mem_of_getElem? (i := 686) (by decide +kernel), List.mem_of_getElem? (i := 821) (by decide +kernel), List.mem_of_getElem? (i := 822) (by decide +kernel)⟩
theorem lw_p36 : lw_okq (⟨"ReportChecks2Model", "makes", "(III)I"⟩, 39) := ⟨⟨by decide +kernel, by decide +kernel⟩, List.mem_of_getElem? (i := 686) (by decide +kernel), List.mem_of_getElem? (i := 825) (by decide +kernel), List.mem_of_getElem? (i := 826) (by decide +kernel)⟩
theorem lw_p37 : lw_okq (⟨"ReportChecks2Model", "isReport", "(I)Z"⟩, 39) := ⟨⟨by decide +kernel, by decide +kernel⟩, List.mem_of_getElem? (i := 686) (by decide +kernel), List.mem_of_getElem? (i := 840) (by decide +kernel), List.mem_of_getElem? (i := 841) (by decide +kernel)⟩
theorem lw_p38 : lw_okq (⟨"ReportChecks2Model", "see", "()I"⟩, 39) := ⟨⟨by decide +kernel, by decide +kernel⟩, List.mem_of_getElem? (i := 686) (by decide +kernel), List.mem_of_getElem? (i := 862) (by decide +kernel), List.mem_of_getElem? (i := 863) (by decide +kernel)⟩
theorem lw_p39 : lw_okq (⟨"ReportChecks2Model", "here", "()I"⟩, 39) := ⟨⟨by decide +kernel, by decide +kernel⟩, List.mem_of_getElem? (i := 686) (by decide +kernel), List.mem_of_getElem? (i := 866) (by decide +kernel), List.mem_of_getElem? (i := 867) (by decide +kernel)⟩
theorem lw_p40 : lw_okq (⟨"ReportChecks2Model", "rule", "()V"⟩, 39) := ⟨⟨by decide +kernel, by decide +kernel⟩, List.mem_of_getElem? (i := 686) (by decide +kernel), List.mem_of_getElem? (i := 870) (by decide +kernel), List.mem_of_getElem? (i := 871) (by decide +kernel)⟩
theorem lw_p41 : lw_okq (⟨"ReportChecks2Model", "fail", "(I)V"⟩, 39) := ⟨⟨by decide +kernel, by decide +kernel⟩, List.mem_of_getElem? (i := 686) (by decide +kernel), List.mem_of_getElem? (i := 874) (by decide +kernel), List.mem_of_getElem? (i := 875) (by decide +kernel)⟩
theorem lw_p42 : lw_okq (⟨"ReportChecks2Model", "sum", "(I)V"⟩, 39) := ⟨⟨by decide +kernel, by decide +kernel⟩, List.mem_of_getElem? (i := 686) (by decide +kernel), List.mem_of_getElem? (i := 878) (by decide +kernel), List.mem_of_getElem? (i := 879) (by decide +kernel)⟩
theorem lw_p43 : lw_okq (⟨"ReportChecks2Model", "factor", "()I"⟩, 39) := ⟨⟨by decide +kernel, by decide +kernel⟩, List.mem_of_getElem? (i := 686) (by decide +kernel), List.mem_of_getElem? (i := 882) (by decide +kernel), List.mem_of_getElem? (i := 883) (by decide +kernel)⟩
theorem lw_p44 : lw_okq (⟨"ReportChecks2Model", "number", "(I)I"⟩, 39) := ⟨⟨by decide +kernel, by decide +kernel⟩, List.mem_of_getElem? (i := 686) (by decide +kernel), List.mem_of_getElem? (i := 886) (by decide +kernel), List.mem_of_getElem? (i := 887) (by decide +kernel)⟩
theorem lw_p45 : lw_okq (⟨"ReportChecks2Model", "isDigit", "()Z"⟩, 39) := ⟨⟨by decide +kernel, by decide +kernel⟩, List.mem_of_getElem? (i := 686) (by decide +kernel), List.mem_of_getElem? (i := 890) (by decide +kernel), List.mem_of_getElem? (i := 891) (by decide +kernel)⟩
theorem lw_p46 : lw_okq (⟨"ReportChecks2Model", "wanted", "(II)V"⟩, 39) := ⟨⟨by decide +kernel, by decide +kernel⟩, List.mem_of_getElem? (i := 686) (by decide +kernel), List.mem_of_getElem? (i := 902) (by decide +kernel), List.mem_of_getElem? (i := 903) (by decide +kernel)⟩
theorem lw_p47 : lw_okq (⟨"ReportChecks2Model", "verdict", "(II)I"⟩, 39) := ⟨⟨by decide +kernel, by decide +kernel⟩, List.mem_of_getElem? (i := 686) (by decide +kernel), List.mem_of_getElem? (i := 906) (by decide +kernel), List.mem_of_getElem? (i := 907) (by decide +kernel)⟩
def lw_privs_3 : List (MethodName × Nat) := [(⟨"ReportChecks2$Report", "isSettled", "()Z"⟩, 11), (⟨"ReportChecks2$Report", "isBetween", "(III)Z"⟩, 11), (⟨"ReportChecks2$Report", "lastSigner", "()I"⟩, 11), (⟨"ReportChecks2Model", "goes", "(ZZZ)Z"⟩, 39), (⟨"ReportChecks2Model", "makes", "(III)I"⟩, 39), (⟨"ReportChecks2Model", "isReport", "(I)Z"⟩, 39), (⟨"ReportChecks2Model", "see", "()I"⟩, 39), (⟨"ReportChecks2Model", "here", "()I"⟩, 39), (⟨"ReportChecks2Model", "rule", "()V"⟩, 39), (⟨"ReportChecks2Model", "fail", "(I)V"⟩, 39), (⟨"ReportChecks2Model", "sum", "(I)V"⟩, 39), (⟨"ReportChecks2Model", "factor", "()I"⟩, 39), (⟨"ReportChecks2Model", "number", "(I)I"⟩, 39), (⟨"ReportChecks2Model", "isDigit", "()Z"⟩, 39), (⟨"ReportChecks2Model", "wanted", "(II)V"⟩, 39), (⟨"ReportChecks2Model", "verdict", "(II)I"⟩, 39)]
theorem lw_r3 : ∀ q ∈ lw_privs_3, lw_okq q := List.forall_mem_cons.mpr ⟨lw_p32, List.forall_mem_cons.mpr ⟨lw_p33, List.forall_mem_cons.mpr ⟨lw_p34, List.forall_mem_cons.mpr ⟨lw_p35, List.forall_mem_cons.mpr ⟨lw_p36, List.forall_mem_cons.mpr ⟨lw_p37, List.forall_mem_cons.mpr ⟨lw_p38, List.forall_mem_cons.mpr ⟨lw_p39, List.forall_mem_cons.mpr ⟨lw_p40, List.forall_mem_cons.mpr ⟨lw_p41, List.forall_mem_cons.mpr ⟨lw_p42, List.forall_mem_cons.mpr ⟨lw_p43, List.forall_mem_cons.mpr ⟨lw_p44, List.forall_mem_cons.mpr ⟨lw_p45, List.forall_mem_cons.mpr ⟨lw_p46, List.forall_mem_cons.mpr ⟨lw_p47, fun _ h => absurd h List.not_mem_nil⟩⟩⟩⟩⟩⟩⟩⟩⟩⟩⟩⟩⟩⟩⟩⟩
theorem lw_p48 : lw_okq (⟨"ReportChecks2Model", "isAsked", "(II)Z"⟩, 39) := ⟨⟨by decide +kernel, by decide +kernel⟩, List.mem_of_getElem? (i := 686) (by decide +kernel), List.mem_of_getElem? (i := 910) (by decide +kernel), List.mem_of_getElem? (i := 911) (by decide +kernel)⟩
theorem lw_p49 : lw_okq (⟨"ReportChecks2Model", "has", "(II)Z"⟩, 39) := ⟨⟨by decide +kernel, by decide +kernel⟩, List.mem_of_getElem? (i := 686) (by decide +kernel), List.mem_of_getElem? (i := 914) (by decide +kernel), List.mem_of_getElem? (i := 915) (by decide +kernel)⟩
theorem lw_p50 : lw_okq (⟨"ReportChecks2Model", "reckon", "(II)I"⟩, 39) := ⟨⟨by decide +kernel, by decide +kernel⟩, List.mem_of_getElem? (i := 686) (by decide +kernel), List.mem_of_getElem? (i := 918) (by decide +kernel), List.mem_of_getElem? (i := 919) (by decide +kernel)⟩
theorem lw_p51 : lw_okq (⟨"ReportChecks2Model", "of", "(II)I"⟩, 39) := ⟨⟨by decide +kernel, by decide +kernel⟩, List.mem_of_getElem? (i := 686) (by decide +kernel), List.mem_of_getElem? (i := 922) (by decide +kernel), List.mem_of_getElem? (i := 923) (by decide +kernel)⟩
theorem lw_p52 : lw_okq (⟨"ReportChecks2Model", "canSign", "(II)Z"⟩, 39) := ⟨⟨by decide +kernel, by decide +kernel⟩, List.mem_of_getElem? (i := 686) (by decide +kernel), List.mem_of_getElem? (i := 937) (by decide +kernel), List.mem_of_getElem? (i := 938) (by decide +kernel)⟩
theorem lw_p53 : lw_okq (⟨"ReportChecks2Model", "opened", "(I)I"⟩, 39) := ⟨⟨by decide +kernel, by decide +kernel⟩, List.mem_of_getElem? (i := 686) (by decide +kernel), List.mem_of_getElem? (i := 941) (by decide +kernel), List.mem_of_getElem? (i := 942) (by decide +kernel)⟩
theorem lw_p54 : lw_okq (⟨"ReportChecks2Model", "write", "(I)V"⟩, 39) := ⟨⟨by decide +kernel, by decide +kernel⟩, List.mem_of_getElem? (i := 686) (by decide +kernel), List.mem_of_getElem? (i := 961) (by decide +kernel), List.mem_of_getElem? (i := 962) (by decide +kernel)⟩
theorem lw_p55 : lw_okq (⟨"ReportChecks2Model", "number0", "(I)V"⟩, 39) := ⟨⟨by decide +kernel, by decide +kernel⟩, List.mem_of_getElem? (i := 686) (by decide +kernel), List.mem_of_getElem? (i := 965) (by decide +kernel), List.mem_of_getElem? (i := 966) (by decide +kernel)⟩
def lw_privs_4 : List (MethodName × Nat) := [(⟨"ReportChecks2Model", "isAsked", "(II)Z"⟩, 39), (⟨"ReportChecks2Model", "has", "(II)Z"⟩, 39), (⟨"ReportChecks2Model", "reckon", "(II)I"⟩, 39), (⟨"ReportChecks2Model", "of", "(II)I"⟩, 39), (⟨"ReportChecks2Model", "canSign", "(II)Z"⟩, 39), (⟨"ReportChecks2Model", "opened", "(I)I"⟩, 39), (⟨"ReportChecks2Model", "write", "(I)V"⟩, 39), (⟨"ReportChecks2Model", "number0", "(I)V"⟩, 39)]
theorem lw_r4 : ∀ q ∈ lw_privs_4, lw_okq q := List.forall_mem_cons.mpr ⟨lw_p48, List.forall_mem_cons.mpr ⟨lw_p49, List.forall_mem_cons.mpr ⟨lw_p50, List.forall_mem_cons.mpr ⟨lw_p51, List.forall_mem_cons.mpr ⟨lw_p52, List.forall_mem_cons.mpr ⟨lw_p53, List.forall_mem_cons.mpr ⟨lw_p54, List.forall_mem_cons.mpr ⟨lw_p55, fun _ h => absurd h List.not_mem_nil⟩⟩⟩⟩⟩⟩⟩⟩
def lw_privs : List (MethodName × Nat) := lw_privs_1 ++ (lw_privs_2 ++ (lw_privs_3 ++ (lw_privs_4)))
def lw_tbl : List Cond := k2_sels lw_privs ++ tables_1
theorem lw_privs_ok : ∀ q ∈ lw_privs, lw_okq q := by
  show ∀ q ∈ lw_privs_1 ++ (lw_privs_2 ++ (lw_privs_3 ++ (lw_privs_4))), lw_okq q
  exact List.forall_mem_append.mpr ⟨lw_r1, List.forall_mem_append.mpr ⟨lw_r2, List.forall_mem_append.mpr ⟨lw_r3, lw_r4⟩⟩⟩
-- ===== end of PART A; then your names; then what follows =====
end
section
/-! ===== the words that every method of this claim may use, and that stay under warmer tables ===== -/
def g_ok (w : Cond) : Bool := match w with
  | .arrayClass _ => true
  | .arrayOver (.object _) => true
  | .fieldLinkNest .. => true
  | .methodLinkNest .. => true
  | v => v.onTables && v.keepsFace
theorem g_warm {s U : State} {w : Cond} (hg : g_ok w = true) (hW : s.WarmedH U.vm) (h : w.before #[] s = true) : w.before #[] U = true := by
  by_cases h1 : (w.onTables && w.keepsFace) = true
  · simp only [Bool.and_eq_true] at h1
    have h2 : w.before #[] (s.setVm U.vm) = true := Cond.before_shiftedFace (State.Shifted.of_warmed hW) w h1.2 h
    exact va_tabs (u := s.setVm U.vm) (U := U) h1.1 rfl h2
  · unfold g_ok at hg
    split at hg
    · exact word_at hW (Or.inr ⟨_, rfl⟩) h
    · exact (va_AO.moved hW.alike (va_AO.of h) : va_AO _ U)
    · exact va_Nw.warmF hW h
    · exact va_Nw.warmM hW h
    · exact absurd hg h1
def g_ws : List Cond := lw_tbl.filter g_ok
theorem g_in {w : Cond} (h : w ∈ lw_tbl) (hg : g_ok w = true) : w ∈ g_ws := List.mem_filter.mpr ⟨h, hg⟩
theorem g_okw {w : Cond} (h : w ∈ g_ws) : g_ok w = true := (List.mem_filter.mp h).2
end
section
/-! ===== classes by number, their fields, array types: printed by program ===== -/
def cR0 : String := "ReportChecks2"
def cT0 : u_T := fun k => match k with
  | 0 => ("ReportChecks2", "reports", "[LReportChecks2$Report;", true)
  | 1 => ("ReportChecks2", "reportCount", "I", false)
  | 2 => ("ReportChecks2", "askedByKind", "[I", true)
  | 3 => ("ReportChecks2", "hiddenFromPerson", "[I", true)
  | 4 => ("ReportChecks2", "minute", "I", false)
  | 5 => ("ReportChecks2", "tape", "[B", true)
  | 6 => ("ReportChecks2", "tapeLength", "I", false)
  | 7 => ("ReportChecks2", "reader", "LReportChecks2$RuleReader;", true)
  | 8 => ("ReportChecks2", "book", "LReportChecks2$RuleBook;", false)
  | 9 => ("ReportChecks2", "spareBook", "LReportChecks2$RuleBook;", false)
  | 10 => ("ReportChecks2", "wrongPlace", "I", false)
  | 11 => ("ReportChecks2", "latestCheck", "LReportChecks2$Findings;", true)
  | 12 => ("ReportChecks2", "signingCheck", "LReportChecks2$Findings;", true)
  | _ => ("ReportChecks2", "latestCode", "LReportChecks2$CodeText;", true)
def ct0 : Nat → FieldType := fun k => match k with
  | 0 => (.array (.object "ReportChecks2$Report"))
  | 1 => .int
  | 2 => (.array .int)
  | 3 => (.array .int)
  | 4 => .int
  | 5 => (.array .byte)
  | 6 => .int
  | 7 => (.object "ReportChecks2$RuleReader")
  | 8 => (.object "ReportChecks2$RuleBook")
  | 9 => (.object "ReportChecks2$RuleBook")
  | 10 => .int
  | 11 => (.object "ReportChecks2$Findings")
  | 12 => (.object "ReportChecks2$Findings")
  | _ => (.object "ReportChecks2$CodeText")
def cR1 : String := "ReportChecks2$RuleReader"
def cT1 : u_T := fun k => match k with
  | 0 => ("ReportChecks2$RuleReader", "text", "[B", true)
  | 1 => ("ReportChecks2$RuleReader", "length", "I", false)
  | _ => ("ReportChecks2$RuleReader", "position", "I", false)
def ct1 : Nat → FieldType := fun k => match k with
  | 0 => (.array .byte)
  | 1 => .int
  | _ => .int
def cR2 : String := "ReportChecks2$RuleBook"
def cT2 : u_T := fun k => match k with
  | 0 => ("ReportChecks2$RuleBook", "size", "I", false)
  | 1 => ("ReportChecks2$RuleBook", "comparisons", "[C", true)
  | 2 => ("ReportChecks2$RuleBook", "fieldsTold", "[I", true)
  | 3 => ("ReportChecks2$RuleBook", "termCounts", "[I", true)
  | 4 => ("ReportChecks2$RuleBook", "dividends", "[I", true)
  | 5 => ("ReportChecks2$RuleBook", "divisors", "[I", true)
  | _ => ("ReportChecks2$RuleBook", "subtracted", "[Z", true)
def ct2 : Nat → FieldType := fun k => match k with
  | 0 => .int
  | 1 => (.array .char)
  | 2 => (.array .int)
  | 3 => (.array .int)
  | 4 => (.array .int)
  | 5 => (.array .int)
  | _ => (.array .boolean)
def cR3 : String := "ReportChecks2$Findings"
def cT3 : u_T := fun k => match k with
  | 0 => ("ReportChecks2$Findings", "sorts", "[I", true)
  | 1 => ("ReportChecks2$Findings", "numbers", "[I", true)
  | _ => ("ReportChecks2$Findings", "size", "I", false)
def ct3 : Nat → FieldType := fun k => match k with
  | 0 => (.array .int)
  | 1 => (.array .int)
  | _ => .int
def cR4 : String := "ReportChecks2$CodeText"
def cT4 : u_T := fun k => match k with
  | 0 => ("ReportChecks2$CodeText", "bytes", "[B", true)
  | _ => ("ReportChecks2$CodeText", "length", "I", false)
def ct4 : Nat → FieldType := fun k => match k with
  | 0 => (.array .byte)
  | _ => .int
def cR5 : String := "ReportChecks2$Report"
def cT5 : u_T := fun k => match k with
  | 0 => ("ReportChecks2$Report", "incident", "I", true)
  | 1 => ("ReportChecks2$Report", "kind", "I", true)
  | 2 => ("ReportChecks2$Report", "madeAt", "I", true)
  | 3 => ("ReportChecks2$Report", "former", "I", true)
  | 4 => ("ReportChecks2$Report", "values", "[I", true)
  | 5 => ("ReportChecks2$Report", "filledFields", "I", false)
  | 6 => ("ReportChecks2$Report", "fieldsByActs", "I", false)
  | 7 => ("ReportChecks2$Report", "openFields", "I", false)
  | 8 => ("ReportChecks2$Report", "personsInside", "I", false)
  | 9 => ("ReportChecks2$Report", "signers", "[I", true)
  | _ => ("ReportChecks2$Report", "signatures", "I", false)
def ct5 : Nat → FieldType := fun k => match k with
  | 0 => .int
  | 1 => .int
  | 2 => .int
  | 3 => .int
  | 4 => (.array .int)
  | 5 => .int
  | 6 => .int
  | 7 => .int
  | 8 => .int
  | 9 => (.array .int)
  | _ => .int
def cR6 : String := "ReportChecks2Model"
def cT6 : u_T := fun k => match k with
  | 0 => ("ReportChecks2Model", "thrown", "I", false)
  | 1 => ("ReportChecks2Model", "now", "I", false)
  | 2 => ("ReportChecks2Model", "reports", "I", false)
  | 3 => ("ReportChecks2Model", "incident", "[I", true)
  | 4 => ("ReportChecks2Model", "kind", "[I", true)
  | 5 => ("ReportChecks2Model", "made", "[I", true)
  | 6 => ("ReportChecks2Model", "within", "[I", true)
  | 7 => ("ReportChecks2Model", "from", "[I", true)
  | 8 => ("ReportChecks2Model", "signed", "[I", true)
  | 9 => ("ReportChecks2Model", "by", "[I", true)
  | 10 => ("ReportChecks2Model", "full", "[Z", true)
  | 11 => ("ReportChecks2Model", "acts", "[Z", true)
  | 12 => ("ReportChecks2Model", "open", "[Z", true)
  | 13 => ("ReportChecks2Model", "value", "[I", true)
  | 14 => ("ReportChecks2Model", "asks", "[Z", true)
  | 15 => ("ReportChecks2Model", "hidden", "[Z", true)
  | 16 => ("ReportChecks2Model", "taped", "I", false)
  | 17 => ("ReportChecks2Model", "tape", "[I", true)
  | 18 => ("ReportChecks2Model", "place", "I", false)
  | 19 => ("ReportChecks2Model", "at", "I", false)
  | 20 => ("ReportChecks2Model", "wrong", "I", false)
  | 21 => ("ReportChecks2Model", "rules", "I", false)
  | 22 => ("ReportChecks2Model", "sign", "[I", true)
  | 23 => ("ReportChecks2Model", "term", "[I", true)
  | 24 => ("ReportChecks2Model", "first", "[I", true)
  | 25 => ("ReportChecks2Model", "second", "[I", true)
  | 26 => ("ReportChecks2Model", "divided", "[Z", true)
  | 27 => ("ReportChecks2Model", "newRules", "I", false)
  | 28 => ("ReportChecks2Model", "newSign", "[I", true)
  | 29 => ("ReportChecks2Model", "newTerm", "[I", true)
  | 30 => ("ReportChecks2Model", "newFirst", "[I", true)
  | 31 => ("ReportChecks2Model", "newSecond", "[I", true)
  | 32 => ("ReportChecks2Model", "newDivided", "[Z", true)
  | 33 => ("ReportChecks2Model", "broke", "Z", false)
  | 34 => ("ReportChecks2Model", "wants", "I", false)
  | 35 => ("ReportChecks2Model", "wantIs", "[I", true)
  | 36 => ("ReportChecks2Model", "wantOf", "[I", true)
  | 37 => ("ReportChecks2Model", "coded", "I", false)
  | _ => ("ReportChecks2Model", "out", "[I", true)
def ct6 : Nat → FieldType := fun k => match k with
  | 0 => .int
  | 1 => .int
  | 2 => .int
  | 3 => (.array .int)
  | 4 => (.array .int)
  | 5 => (.array .int)
  | 6 => (.array .int)
  | 7 => (.array .int)
  | 8 => (.array .int)
  | 9 => (.array .int)
  | 10 => (.array .boolean)
  | 11 => (.array .boolean)
  | 12 => (.array .boolean)
  | 13 => (.array .int)
  | 14 => (.array .boolean)
  | 15 => (.array .boolean)
  | 16 => .int
  | 17 => (.array .int)
  | 18 => .int
  | 19 => .int
  | 20 => .int
  | 21 => .int
  | 22 => (.array .int)
  | 23 => (.array .int)
  | 24 => (.array .int)
  | 25 => (.array .int)
  | 26 => (.array .boolean)
  | 27 => .int
  | 28 => (.array .int)
  | 29 => (.array .int)
  | 30 => (.array .int)
  | 31 => (.array .int)
  | 32 => (.array .boolean)
  | 33 => .boolean
  | 34 => .int
  | 35 => (.array .int)
  | 36 => (.array .int)
  | 37 => .int
  | _ => (.array .int)
def cR7 : String := "java/lang/IllegalArgumentException"
def cT7 : u_T := fun _ => ("", "", "", false)
def cR8 : String := "java/lang/IndexOutOfBoundsException"
def cT8 : u_T := fun _ => ("", "", "", false)
def cR9 : String := "java/lang/IllegalStateException"
def cT9 : u_T := fun _ => ("", "", "", false)
def cR10 : String := "java/lang/UnsupportedOperationException"
def cT10 : u_T := fun _ => ("", "", "", false)
def g_cl : List vw_C := [(cR0, cT0, 14), (cR1, cT1, 3), (cR2, cT2, 7), (cR3, cT3, 3), (cR4, cT4, 2), (cR5, cT5, 11), (cR6, cT6, 39), (cR7, cT7, 0), (cR8, cT8, 0), (cR9, cT9, 0), (cR10, cT10, 0)]
def g_ty (cA : Nat → ClassId) : List (ClassId × FieldType) := [(cA 0, .int), (cA 1, .byte), (cA 2, .boolean), (cA 3, .char), (cA 4, .long), (cA 5, (.object "ReportChecks2$Report"))]
theorem cw0 : ∀ w ∈ u_ws cR0 cT0 14, w ∈ g_ws := fun w h => g_in ((show ∀ w ∈ u_ws cR0 cT0 14, w ∈ lw_tbl by decide +kernel) w h) ((show ∀ w ∈ u_ws cR0 cT0 14, g_ok w = true by decide +kernel) w h)
theorem cp0 : ∀ j, j < 14 → parseFieldDescriptor (cT0 j).2.2.1 = some (ct0 j) := by decide +kernel
theorem cn0 : ∀ i, i < 14 → ∀ j, j < 14 → i ≠ j → (cT0 i).2.1 ≠ (cT0 j).2.1 := by decide +kernel
theorem cw1 : ∀ w ∈ u_ws cR1 cT1 3, w ∈ g_ws := fun w h => g_in ((show ∀ w ∈ u_ws cR1 cT1 3, w ∈ lw_tbl by decide +kernel) w h) ((show ∀ w ∈ u_ws cR1 cT1 3, g_ok w = true by decide +kernel) w h)
theorem cp1 : ∀ j, j < 3 → parseFieldDescriptor (cT1 j).2.2.1 = some (ct1 j) := by decide +kernel
theorem cn1 : ∀ i, i < 3 → ∀ j, j < 3 → i ≠ j → (cT1 i).2.1 ≠ (cT1 j).2.1 := by decide +kernel
theorem cw2 : ∀ w ∈ u_ws cR2 cT2 7, w ∈ g_ws := fun w h => g_in ((show ∀ w ∈ u_ws cR2 cT2 7, w ∈ lw_tbl by decide +kernel) w h) ((show ∀ w ∈ u_ws cR2 cT2 7, g_ok w = true by decide +kernel) w h)
theorem cp2 : ∀ j, j < 7 → parseFieldDescriptor (cT2 j).2.2.1 = some (ct2 j) := by decide +kernel
theorem cn2 : ∀ i, i < 7 → ∀ j, j < 7 → i ≠ j → (cT2 i).2.1 ≠ (cT2 j).2.1 := by decide +kernel
theorem cw3 : ∀ w ∈ u_ws cR3 cT3 3, w ∈ g_ws := fun w h => g_in ((show ∀ w ∈ u_ws cR3 cT3 3, w ∈ lw_tbl by decide +kernel) w h) ((show ∀ w ∈ u_ws cR3 cT3 3, g_ok w = true by decide +kernel) w h)
theorem cp3 : ∀ j, j < 3 → parseFieldDescriptor (cT3 j).2.2.1 = some (ct3 j) := by decide +kernel
theorem cn3 : ∀ i, i < 3 → ∀ j, j < 3 → i ≠ j → (cT3 i).2.1 ≠ (cT3 j).2.1 := by decide +kernel
theorem cw4 : ∀ w ∈ u_ws cR4 cT4 2, w ∈ g_ws := fun w h => g_in ((show ∀ w ∈ u_ws cR4 cT4 2, w ∈ lw_tbl by decide +kernel) w h) ((show ∀ w ∈ u_ws cR4 cT4 2, g_ok w = true by decide +kernel) w h)
theorem cp4 : ∀ j, j < 2 → parseFieldDescriptor (cT4 j).2.2.1 = some (ct4 j) := by decide +kernel
theorem cn4 : ∀ i, i < 2 → ∀ j, j < 2 → i ≠ j → (cT4 i).2.1 ≠ (cT4 j).2.1 := by decide +kernel
theorem cw5 : ∀ w ∈ u_ws cR5 cT5 11, w ∈ g_ws := fun w h => g_in ((show ∀ w ∈ u_ws cR5 cT5 11, w ∈ lw_tbl by decide +kernel) w h) ((show ∀ w ∈ u_ws cR5 cT5 11, g_ok w = true by decide +kernel) w h)
theorem cp5 : ∀ j, j < 11 → parseFieldDescriptor (cT5 j).2.2.1 = some (ct5 j) := by decide +kernel
theorem cn5 : ∀ i, i < 11 → ∀ j, j < 11 → i ≠ j → (cT5 i).2.1 ≠ (cT5 j).2.1 := by decide +kernel
theorem cw6 : ∀ w ∈ u_ws cR6 cT6 39, w ∈ g_ws := fun w h => g_in ((show ∀ w ∈ u_ws cR6 cT6 39, w ∈ lw_tbl by decide +kernel) w h) ((show ∀ w ∈ u_ws cR6 cT6 39, g_ok w = true by decide +kernel) w h)
theorem cp6 : ∀ j, j < 39 → parseFieldDescriptor (cT6 j).2.2.1 = some (ct6 j) := by decide +kernel
theorem cn6 : ∀ i, i < 39 → ∀ j, j < 39 → i ≠ j → (cT6 i).2.1 ≠ (cT6 j).2.1 := by decide +kernel
end
section
/-! ===== throwing: rows that began as claim/NAMES.whole.lean.txt's (its section VXA), names spelt out ===== -/
section VXA
variable {p : Program} {l : Launch} {e : Env} {R : Room} {s : State} {m : MethodId} {args : Array Value} {below : List Frame} {meth : Method} {c : Code} {H : Heap} {locs : List Loc} {cells slots : Nat} {Q : State → Prop}
variable {mc ms : Nat} {free : Addr → Prop} {A0 A1 : Nat → Prop} {H0 : Heap} {a : Array Value} {ls : Array Slot} {st0 rest : List Value}
theorem vx_frame {U : State} {k n : Nat} (h : s.sameButNew ({ U with vm := s.vm } : State) locs k n) : s.heap.size ≤ U.heap.size ∧ ∀ q : Nat, q < s.heap.size → (∀ z ∈ locs, z.base ≠ q) → U.heap[q]? = s.heap[q]? := by
  obtain ⟨-, h2, -, -, -, h6⟩ := h
  refine ⟨h2, fun q hq hz => ?_⟩
  obtain ⟨c9, e1, e2, e3, e4⟩ := h6 q _ (Array.getElem?_eq_getElem hq)
  have hs : c9.slots = (s.heap[q]).slots := Array.ext_getElem? fun i => e4 i fun hm => hz _ hm rfl
  have h9 : c9 = s.heap[q] := by
    rw [hs] at e2
    exact e2
  have e5 : U.heap[q]? = some c9 := e1
  rw [e5, h9, Array.getElem?_eq_getElem hq]
/-- the words of a throw but the four that speak of the heap -/
def vx_no (w : Cond) : Bool := decide (w ≠ .isRef (.static Bundle.tN "UNASSIGNED_STACK" Bundle.steD)) && decide (w ≠ .isRef (.static Bundle.tN "SUPPRESSED_SENTINEL" Bundle.listD)) && decide (w ≠ .laysStatic Bundle.tN "UNASSIGNED_STACK" Bundle.steD) && decide (w ≠ .laysStatic Bundle.tN "SUPPRESSED_SENTINEL" Bundle.listD)
def vx_at0 (own : String) (ic : Nat) (X : String) (names : List String) : List Cond := (Bundle.ownAtoms0 own ic X names).filter vx_no
def vx_atS (own : String) (ic : Nat) (X : String) (names : List String) : List Cond := (Bundle.ownAtoms own ic X names).filter vx_no
/-- a word that the tables alone decide, or a good one -/
def vx_ot (w : Cond) : Bool := w.onTables || goodWord w
theorem vx_ot_at {args a' : Array Value} {s U : State} {w : Cond} (hW : s.WarmedH U.vm) (hvm : s.vm = U.vm) (hg : vx_ot w = true) (h : w.before args s = true) : w.before a' U = true := by
  simp only [vx_ot, Bool.or_eq_true] at hg
  rcases hg with hg | hg
  · exact va_tabs hg hvm h
  · exact word_at hW (good_of_word hg) h
/-- a list's words: the good ones out of the method's own list, the others by premises of their own -/
theorem vx_hat {args : Array Value} {s : State} {L B : List Cond} (h1 : ∀ w ∈ L.filter goodWord, w.before args s = true) (h2 : ∀ w ∈ L.filter (fun w => !goodWord w), w ∈ B) (h3 : ∀ w ∈ B, w.before args s = true) : ∀ w ∈ L, w.before args s = true := by
  intro w hw
  by_cases g : goodWord w = true
  · exact h1 w (List.mem_filter.mpr ⟨hw, g⟩)
  · refine h3 w (h2 w (List.mem_filter.mpr ⟨hw, ?_⟩))
    show (!goodWord w) = true
    cases hgw : goodWord w
    · rfl
    · exact absurd hgw g
theorem vx_c {args : Array Value} {s : State} {w : Cond} {B : List Cond} (h : w.before args s = true) (t : ∀ w ∈ B, w.before args s = true) : ∀ w' ∈ w :: B, w'.before args s = true := fun w' h' => (List.mem_cons.mp h').elim (fun e => by rw [e]; exact h) (t w')
theorem vx_n {args : Array Value} {s : State} : ∀ w ∈ ([] : List Cond), w.before args s = true := fun _ h => nomatch h
theorem vx_own {args : Array Value} {s : State} {L : List Cond} (h1 : ∀ w ∈ L.filter vx_no, w.before args s = true)
    (hU : (Cond.isRef (.static Bundle.tN "UNASSIGNED_STACK" Bundle.steD)).before args s = true) (hN : (Cond.isRef (.static Bundle.tN "SUPPRESSED_SENTINEL" Bundle.listD)).before args s = true)
    (lU : (Cond.laysStatic Bundle.tN "UNASSIGNED_STACK" Bundle.steD).before args s = true) (lN : (Cond.laysStatic Bundle.tN "SUPPRESSED_SENTINEL" Bundle.listD).before args s = true) : ∀ w ∈ L, w.before args s = true := by
  intro w hw
  by_cases e1 : w = .isRef (.static Bundle.tN "UNASSIGNED_STACK" Bundle.steD)
  · rw [e1]; exact hU
  · by_cases e2 : w = .isRef (.static Bundle.tN "SUPPRESSED_SENTINEL" Bundle.listD)
    · rw [e2]; exact hN
    · by_cases e3 : w = .laysStatic Bundle.tN "UNASSIGNED_STACK" Bundle.steD
      · rw [e3]; exact lU
      · by_cases e4 : w = .laysStatic Bundle.tN "SUPPRESSED_SENTINEL" Bundle.listD
        · rw [e4]; exact lN
        · exact h1 w (List.mem_filter.mpr ⟨hw, by unfold vx_no; rw [decide_eq_true e1, decide_eq_true e2, decide_eq_true e3, decide_eq_true e4]; rfl⟩)
/-- where a static field lies, its class's statics cell in H -/
def vx_L (C n d : String) (A : Nat → Prop) (U : State) (H : Heap) : Prop := ∃ (c : ClassId) (k : Class) (i : Nat) (f : Field) (a : Nat) (cell : Cell), U.vm.findClass C = some c ∧ U.fieldFound? C n d = some (c, k, i, f) ∧ f.isStatic = true ∧ k.statics = some a ∧ H[a]? = some cell ∧ cell.vm.isStatics = true ∧ cell.cls = c ∧ f.slot < cell.slots.size ∧ k.staticTypes[f.slot]? = some f.type ∧ ¬ A a
theorem vx_L.moved {C n d : String} {A : Nat → Prop} {u U : State} {H : Heap} (hvm : u.vm.Alike U.vm) (h : vx_L C n d A u H) : vx_L C n d A U H := by
  obtain ⟨c, k, i, f, a, cell, h1, h2, h3, h4, h5, h6, h7, h8, h9, h10⟩ := h
  obtain ⟨k', hi', he⟩ := State.fieldFound?_setVm hvm h2
  exact ⟨c, k', i, f, a, cell, by rw [hvm.findClass]; exact h1, hi', h3, by rw [he]; exact h4, h5, h6, h7, h8, by rw [he]; exact h9, h10⟩
theorem vx_L.kept {C n d : String} {A : Nat → Prop} {U : State} {H H1 : Heap} (h : vx_L C n d A U H) (hq : ∀ a : Nat, a < H.size → ¬ A a → H1[a]? = H[a]?) : vx_L C n d A U H1 := by
  obtain ⟨c, k, i, f, a, cell, h1, h2, h3, h4, h5, h6, h7, h8, h9, h10⟩ := h
  exact ⟨c, k, i, f, a, cell, h1, h2, h3, h4, by rw [hq a (Array.getElem?_eq_some_iff.mp h5).1 h10]; exact h5, h6, h7, h8, h9, h10⟩
theorem vx_L.narrow {C n d : String} {A B : Nat → Prop} {U : State} {H : Heap} (h : vx_L C n d A U H) (hAB : ∀ q, B q → A q) : vx_L C n d B U H := by
  obtain ⟨c, k, i, f, a, cell, h1, h2, h3, h4, h5, h6, h7, h8, h9, h10⟩ := h
  exact ⟨c, k, i, f, a, cell, h1, h2, h3, h4, h5, h6, h7, h8, h9, fun z => h10 (hAB _ z)⟩
theorem vx_L.word {C n d : String} {A : Nat → Prop} {s : State} {args : Array Value} (h : vx_L C n d A s s.heap) : (Cond.laysStatic C n d).before args s = true := by
  obtain ⟨c, k, i, f, a, cell, h1, h2, h3, h4, h5, h6, h7, h8, h9, -⟩ := h
  show (Cond.laysStatic C n d).holds args s none s [] = true
  exact Cond.laysStatic_of h1 h2 h3 h4 h5 h6 h7 h8 h9
/-- .. and what it holds: null or some reference -/
def vx_Zq (C n d : String) (A : Nat → Prop) (U : State) (H : Heap) : Prop := va_Zq C n d A U H ∧ vx_L C n d A U H
theorem vx_Zq.moved {C n d : String} {A : Nat → Prop} {u U : State} {H : Heap} (hvm : u.vm.Alike U.vm) (h : vx_Zq C n d A u H) : vx_Zq C n d A U H := ⟨va_Zq.moved hvm h.1, vx_L.moved hvm h.2⟩
theorem vx_Zq.kept {C n d : String} {A : Nat → Prop} {U : State} {H H1 : Heap} (h : vx_Zq C n d A U H) (hq : ∀ a : Nat, a < H.size → ¬ A a → H1[a]? = H[a]?) : vx_Zq C n d A U H1 := ⟨va_Zq.kept h.1 hq, vx_L.kept h.2 hq⟩
theorem vx_Zq.narrow {C n d : String} {A B : Nat → Prop} {U : State} {H : Heap} (h : vx_Zq C n d A U H) (hAB : ∀ q, B q → A q) : vx_Zq C n d B U H := ⟨va_Zq.narrow h.1 hAB, vx_L.narrow h.2 hAB⟩
theorem vx_Zqof {args : Array Value} {s : State} {C n d : String} {A : Nat → Prop} (hl : (Cond.laysStatic C n d).before args s = true) (hini : (Cond.initialized C).before args s = true) (h : (Cond.isRef (.static C n d)).before args s = true) (hA : ∀ a : Nat, a < s.heap.size → ¬ A a) : vx_Zq C n d A s s.heap := by
  refine ⟨va_Zqof hl hini h hA, ?_⟩
  obtain ⟨c, k, i, f, a, cell, h1, h2, h3, h4, h5, h6, h7, h8, h9⟩ := Cond.laysStatic_spec hl
  exact ⟨c, k, i, f, a, cell, h1, h2, h3, h4, h5, h6, h7, h8, h9, hA a (Array.getElem?_eq_some_iff.mp h5).1⟩
theorem vx_isRef {C n d : String} {v : Value} {A : Nat → Prop} {s : State} {args : Array Value} (h : va_Z C n d v A s s.heap) (hv : v.isRef = true) : (Cond.isRef (.static C n d)).before args s = true := by
  obtain ⟨cf, kf, fi, f, a, cell, h1, h2, h3, h4, h5, h6, h7, -⟩ := h
  have he : (Term.static C n d).eval args s none [] s = some v := by
    simp [Term.eval, State.fieldNamed?, h1, h2, h4, h5, h6, h7]
  simp only [Cond.before, Cond.holds, Cond.value, he]
  cases v <;> simp_all [Value.isRef]
theorem vx_isRefq {C n d : String} {A : Nat → Prop} {s : State} {args : Array Value} (h : va_Zq C n d A s s.heap) : (Cond.isRef (.static C n d)).before args s = true := by
  rcases h with h | ⟨t, h⟩
  · exact vx_isRef h rfl
  · exact vx_isRef h rfl
/-- the same frame, seen from here: as if the method were called anew in this heap -/
theorem vx_rebase {T : State} (X : Stand p l e R s m args below meth c T locs cells slots) {R' : Room} (hf : R'.frames ≤ R.frames) (hl : R'.locals ≤ R.locals) (hc : cells + R'.cells ≤ R.cells) (hs : slots + R'.slots ≤ R.slots) :
    Stand p l e R' ((T.setVm s.vm).setFrames (.invoking m args :: below)) m args below meth c T [] 0 0 := by
  have htop : (T.setVm s.vm).topJava?.isSome := X.here.top
  have hF : ((T.setVm s.vm).setFrames (.invoking m args :: below)).frames = .invoking m args :: below := State.frames_setFrames _ (State.cur_lt_of_top htop)
  obtain ⟨g₀, hg0⟩ := Option.isSome_iff_exists.mp htop
  obtain ⟨r, hr⟩ := State.topJava?_eq_some.mp hg0
  have hl9 : e.platform.stackLimits (T.setVm s.vm).me = e.platform.stackLimits s.me := X.limits
  have hb9 : (T.setVm s.vm).me.stackBytes = s.me.stackBytes := X.bytes
  refine ⟨X.admits, X.cas, X.clock, hF, ?_, X.hears, X.method, X.code, X.here, X.tail, X.warmed, ?_, ?_, ?_⟩
  · have h := X.room
    have hU : ((T.setVm s.vm).setFrames (.invoking m args :: below)).localsInUse = s.localsInUse := by
      rw [State.localsInUse_invoking hF (meth := meth) (c := c) X.method X.code, State.localsInUse_invoking X.frames X.method X.code]
    simp only [State.hasRoom, Bool.and_eq_true, decide_eq_true_eq] at h ⊢
    obtain ⟨⟨⟨⟨h1, h2, h3, h4, h5, h6⟩, h7⟩, h8⟩, h9⟩ := h
    rw [X.frames, List.length_cons] at h2 h3
    have q1 := X.heapSize
    have q2 := X.used
    simp only [hF, hU, List.length_cons, State.stackLimits_setFrames, State.stackBytes_setFrames, hl9, hb9]
    refine ⟨⟨⟨⟨by omega, by omega, by omega, by omega, by omega, h6⟩, ?_⟩, ?_⟩, X.book⟩
    · show T.heap.size + R'.cells ≤ e.platform.maxCells
      omega
    · show T.slotsUsed + R'.slots ≤ e.platform.maxSlots
      omega
  · rw [State.stackLimits_setFrames]; rfl
  · rw [State.stackBytes_setFrames]; rfl
  · refine ⟨?_, Nat.le_refl _, Nat.le_refl _, ?_, ?_, fun a c9 h9 => ⟨c9, h9, rfl, rfl, fun _ _ => rfl⟩⟩
    · obtain ⟨t, ht, -⟩ := State.frames_cons hr
      show T.setVm s.vm = { ((T.setVm s.vm).setFrames (.invoking m args :: below)).setFrames (T.setVm s.vm).frames with heap := T.heap, slotsUsed := T.slotsUsed }
      rw [State.setFrames_setFrames, State.setFrames_self ht]
      rfl
    · show T.slotsUsed = T.slotsUsed + ((T.heap.toList.drop T.heap.size).map (·.slots.size)).sum
      rw [List.drop_eq_nil_of_le (Nat.le_of_eq Array.length_toList)]
      rfl
    · show ((T.heap.toList.drop T.heap.size).map (·.slots.size)).sum ≤ 0
      rw [List.drop_eq_nil_of_le (Nat.le_of_eq Array.length_toList)]
      exact Nat.le_refl _
end VXA
end
section
/-! ===== the abstract heap: cells numbered from 0 on, at the addresses b, b + 1, .. ===== -/
abbrev AC : Type := (Nat × vp_A) ⊕ (Nat × List Value)
abbrev AH : Type := Nat → AC
def hu (h : AH) (k : Nat) (x : AC) : AH := fun j => if j = k then x else h j
theorem hu_s (h : AH) (k : Nat) (x : AC) : hu h k x k = x := if_pos rfl
theorem hu_n {h : AH} {k j : Nat} {x : AC} (hj : j ≠ k) : hu h k x j = h j := if_neg hj
theorem hu_self {h : AH} {k : Nat} {x : AC} (hk : h k = x) : hu h k x = h := by
  funext j
  unfold hu
  split
  · rename_i e; rw [e, hk]
  · rfl
def sv (b : Nat) (v : Value) : Value := match v with
  | .ref a => .ref (b + a)
  | w => w
def so (b : Nat) (f : Nat → Option Nat) : Nat → Option Nat := fun j => (f j).map (fun a => b + a)
def sa (b : Nat) (a : vp_A) : vp_A := match a with
  | (n, .inl f) => (n, .inl f)
  | (n, .inr (.inl f)) => (n, .inr (.inl f))
  | (n, .inr (.inr (.inl f))) => (n, .inr (.inr (.inl f)))
  | (n, .inr (.inr (.inr (.inl f)))) => (n, .inr (.inr (.inr (.inl f))))
  | (n, .inr (.inr (.inr (.inr f)))) => (n, .inr (.inr (.inr (.inr (so b f)))))
def toE (b : Nat) (cA : Nat → ClassId) (x : AC) : va_E := match x with
  | .inl y => .inl (cA y.1, sa b y.2)
  | .inr o => .inr (o.1, o.2.map (sv b))
def wO (b : Nat) (cA : Nat → ClassId) (n : Nat) (h : AH) : va_W := (List.range n).map (fun k => (b + k, toE b cA (h k)))
theorem wO_len (b : Nat) (cA : Nat → ClassId) (n : Nat) (h : AH) : (wO b cA n h).length = n := by simp [wO]
theorem wO_get {b : Nat} {cA : Nat → ClassId} {n : Nat} {h : AH} {k : Nat} (hk : k < n) : (wO b cA n h)[k]? = some (b + k, toE b cA (h k)) := by
  simp [wO, hk]
theorem wO_inv {b : Nat} {cA : Nat → ClassId} {n : Nat} {h : AH} {k : Nat} {q : Nat × va_E} (hq : (wO b cA n h)[k]? = some q) : k < n ∧ q = (b + k, toE b cA (h k)) := by
  have hk : k < n := by
    have := (List.getElem?_eq_some_iff.mp hq).1
    rwa [wO_len] at this
  rw [wO_get hk] at hq
  exact ⟨hk, (Option.some.inj hq).symm⟩
theorem wO_set {b : Nat} {cA : Nat → ClassId} {n : Nat} {h : AH} {k : Nat} (hk : k < n) (x : AC) : (wO b cA n h).set k (b + k, toE b cA x) = wO b cA n (hu h k x) := by
  apply List.ext_getElem?
  intro j
  by_cases hj : j < n
  · rw [wO_get hj]
    by_cases e : k = j
    · subst e
      rw [List.getElem?_set_self (by rw [wO_len]; exact hk), hu_s]
    · rw [List.getElem?_set_ne e, wO_get hj, hu_n (fun q => e q.symm)]
  · rw [List.getElem?_eq_none (by rw [List.length_set, wO_len]; omega), List.getElem?_eq_none (by rw [wO_len]; omega)]
theorem wO_push {b : Nat} {cA : Nat → ClassId} {n : Nat} {h : AH} (x : AC) : wO b cA n h ++ [(b + n, toE b cA x)] = wO b cA (n + 1) (hu h n x) := by
  apply List.ext_getElem?
  intro j
  by_cases hj : j < n
  · rw [List.getElem?_append_left (by rw [wO_len]; exact hj), wO_get hj, wO_get (by omega), hu_n (by omega)]
  · by_cases e : j = n
    · subst e
      rw [List.getElem?_append_right (by rw [wO_len]; exact Nat.le_refl _), wO_len, Nat.sub_self, wO_get (by omega), hu_s]
      rfl
    · rw [List.getElem?_eq_none (by simp [wO_len]; omega), List.getElem?_eq_none (by rw [wO_len]; omega)]
theorem wO_D (b : Nat) (cA : Nat → ClassId) (n : Nat) (h : AH) : va_D (fun q => b ≤ q) (wO b cA n h) := by
  refine ⟨fun i j x y hi hj he => ?_, fun k q hq => ?_⟩
  · obtain ⟨-, rfl⟩ := wO_inv hi
    obtain ⟨-, rfl⟩ := wO_inv hj
    have : b + i = b + j := he
    omega
  · obtain ⟨-, rfl⟩ := wO_inv hq
    exact Nat.le_add_right _ _
theorem sv_cat (b : Nat) (v : Value) : (sv b v).category = v.category := by cases v <;> rfl
theorem sv_args (b : Nat) : ∀ (i : Nat) (vs : List Value), lv_args i (vs.map (sv b)) = (lv_args i vs).map (fun q => (q.1, sv b q.2))
  | _, [] => rfl
  | i, v :: vs => by
    show (i, sv b v) :: lv_args (if (sv b v).category = 2 then i + 2 else i + 1) (vs.map (sv b)) = (i, sv b v) :: (lv_args (if v.category = 2 then i + 2 else i + 1) vs).map (fun q => (q.1, sv b q.2))
    rw [sv_cat, sv_args b _ vs]
theorem lk_mem {L : List (Nat × Value)} {i : Nat} {v : Value} (h : List.lookup i L = some v) : (i, v) ∈ L := by
  induction L with
  | nil => cases h
  | cons q L ih =>
    obtain ⟨j, w⟩ := q
    by_cases e : i = j
    · subst e
      simp at h
      subst h
      exact List.mem_cons_self
    · rw [List.lookup_cons] at h
      have : (i == j) = false := by simpa using e
      rw [this] at h
      exact List.mem_cons_of_mem _ (ih h)
def sL (b : Nat) (L : List (Nat × Value)) : List (Nat × Value) := L.map (fun q => (q.1, sv b q.2))
theorem sL_at {b nL : Nat} {ls : Array Slot} {L : List (Nat × Value)} (hl : lv_has ls nL (sL b L)) {i : Nat} {v : Value} (h : List.lookup i L = some v) : ls[i]? = some (.val (sv b v)) :=
  hl.2.2 (i, sv b v) (List.mem_map.mpr ⟨(i, v), lk_mem h, rfl⟩)
/-- the locals behind a store -/
def sT (L : List (Nat × Value)) (i : Nat) (v : Value) : List (Nat × Value) := (i, v) :: L.filter (fun q => !(q.1 == i) && !(q.1 + 1 == i && q.2.category == 2))
def sT2 (L : List (Nat × Value)) (i : Nat) (v : Value) : List (Nat × Value) := (i, v) :: L.filter (fun q => !(q.1 == i) && (!(q.1 == i + 1) && !(q.1 + 1 == i && q.2.category == 2)))
theorem sL_sT (b : Nat) (L : List (Nat × Value)) (i : Nat) (v : Value) : (i, sv b v) :: (sL b L).filter (fun q => !(q.1 == i) && !(q.1 + 1 == i && q.2.category == 2)) = sL b (sT L i v) := by
  unfold sL sT
  rw [List.map_cons, List.filter_map]
  congr 2
  apply List.filter_congr
  intro q _
  simp [sv_cat]
theorem sL_sT2 (b : Nat) (L : List (Nat × Value)) (i : Nat) (v : Value) : (i, sv b v) :: (sL b L).filter (fun q => !(q.1 == i) && (!(q.1 == i + 1) && !(q.1 + 1 == i && q.2.category == 2))) = sL b (sT2 L i v) := by
  unfold sL sT2
  rw [List.map_cons, List.filter_map]
  congr 2
  apply List.filter_congr
  intro q _
  simp [sv_cat]
end
section
/-! ===== what holds at the entry of every method; the judgement J; contracts ===== -/
/-- exceptions that are none of another's class -/
def g_nc : List (String × String) := [("java/lang/IllegalArgumentException", "java/lang/IndexOutOfBoundsException"), ("java/lang/IllegalArgumentException", "java/lang/IllegalStateException"), ("java/lang/IllegalArgumentException", "java/lang/UnsupportedOperationException"), ("java/lang/IndexOutOfBoundsException", "java/lang/IllegalArgumentException"), ("java/lang/IndexOutOfBoundsException", "java/lang/IllegalStateException"), ("java/lang/IndexOutOfBoundsException", "java/lang/UnsupportedOperationException"), ("java/lang/IllegalStateException", "java/lang/IllegalArgumentException"), ("java/lang/IllegalStateException", "java/lang/IndexOutOfBoundsException"), ("java/lang/IllegalStateException", "java/lang/UnsupportedOperationException"), ("java/lang/UnsupportedOperationException", "java/lang/IllegalArgumentException"), ("java/lang/UnsupportedOperationException", "java/lang/IndexOutOfBoundsException"), ("java/lang/UnsupportedOperationException", "java/lang/IllegalStateException")]
/-- the texts of the exceptions -/
def g_str : List (String × Nat × String) := [("ReportChecks2", 264, "no such kind"), ("ReportChecks2", 81, "the incident is not 0 .. 9,999"), ("ReportChecks2", 277, "there are 30 reports"), ("ReportChecks2", 266, "no such field"), ("ReportChecks2", 262, "no such report"), ("ReportChecks2", 109, "the value is not -99,999 .. 99,999"), ("ReportChecks2", 117, "the field can't be told"), ("ReportChecks2", 126, "no such kind of acts"), ("ReportChecks2", 129, "the minute is to come, or below 0"), ("ReportChecks2", 270, "the report has a signature"), ("ReportChecks2", 139, "the persons inside are not 0 .. 99"), ("ReportChecks2", 144, "the bytes are not 1 .. 8"), ("ReportChecks2", 148, "there would be more than 300 bytes"), ("ReportChecks2", 155, "the text is wrong"), ("ReportChecks2", 165, "the latest check told no such thing"), ("ReportChecks2", 173, "no such what"), ("ReportChecks2", 268, "no such person"), ("ReportChecks2", 181, "the report can't be signed by that person"), ("ReportChecks2", 275, "the report is not closed"), ("ReportChecks2", 207, "the field is open"), ("ReportChecks2", 216, "the byte's number is below 0"), ("ReportChecks2", 221, "the minutes, or the number is below 0"), ("ReportChecks2", 226, "low is above high"), ("ReportChecks2", 255, "the field is empty"), ("ReportChecks2", 260, "the minutes are not 1 .. 5,000, or go beyond 99,999")]
/-- the words, the classes, the texts, the statics that a Throwable's constructor reads -/
def Gl (D : va_G) (cA : Nat → ClassId) (b : Nat) (U : State) : Prop :=
  (∀ w ∈ g_ws, w.before #[] U = true) ∧ va_K D g_cl (g_ty cA) U ∧ b ≤ U.heap.size ∧ (∀ q ∈ g_nc, va_Nc q.1 q.2 U) ∧ (∀ q ∈ g_str, ∃ a, vk_R q.1 q.2.1 q.2.2 a U) ∧
  vx_Zq Bundle.tN "UNASSIGNED_STACK" Bundle.steD (fun q => b ≤ q) U U.heap ∧ vx_Zq Bundle.tN "SUPPRESSED_SENTINEL" Bundle.listD (fun q => b ≤ q) U U.heap
theorem Gl.to {D : va_G} {cA : Nat → ClassId} {b : Nat} {s U : State} (h : Gl D cA b s) (hW : s.WarmedH U.vm) (hz : b ≤ U.heap.size) (hk : ∀ q : Nat, q < b → U.heap[q]? = s.heap[q]?) : Gl D cA b U := by
  obtain ⟨h1, h2, h3, h4, h5, h6, h7⟩ := h
  refine ⟨fun w hw => g_warm (g_okw hw) hW (h1 w hw), va_K.moved hW.alike h2, hz, fun q hq => va_Nc.moved hW.alike (h4 q hq), fun q hq => ?_, ?_, ?_⟩
  · obtain ⟨a, ha⟩ := h5 q hq
    exact ⟨a, vk_R.warm hW ha⟩
  · exact vx_Zq.moved hW.alike (h6.kept (fun a _ ha => hk a (Nat.not_le.mp ha)))
  · exact vx_Zq.moved hW.alike (h7.kept (fun a _ ha => hk a (Nat.not_le.mp ha)))
/-- the heap holds the abstract one -/
def Hp (D : va_G) (cA : Nat → ClassId) (b n : Nat) (h : AH) (H : Heap) : Prop := H.size = b + n ∧ va_P D g_cl (wO b cA n h) H
/-- an answer: returned, or thrown (the number of the exception's class) -/
abbrev Rz : Type := Option Value ⊕ Nat
def Ou (b n : Nat) (h : AH) (r : Rz) (o : Outcome) : Prop := match r with
  | .inl v => o = .returned (v.map (sv b))
  | .inr ci => ∃ k, k < n ∧ o = .threw (b + k) ∧ h k = .inr (ci, [])
def EndO (D : va_G) (cA : Nat → ClassId) (b : Nat) (s : State) (o : Outcome) (t : State) (Qa : Rz → Nat → AH → Prop) (mc ms : Nat) : Prop :=
  s.WarmedH t.vm ∧ (∃ L : List Loc, s.sameButNew ({ t with vm := s.vm } : State) L mc ms ∧ ∀ q ∈ L, b ≤ q.base) ∧ (∀ q : Nat, q < b → t.heap[q]? = s.heap[q]?) ∧ ∃ (n : Nat) (h : AH) (r : Rz), Hp D cA b n h t.heap ∧ Ou b n h r o ∧ Qa r n h
def EndQ (D : va_G) (cA : Nat → ClassId) (b : Nat) (s : State) (below : List Frame) (Qa : Rz → Nat → AH → Prop) (mc ms : Nat) : State → Prop := fun t =>
  ∃ o, t.status = .running ∧ Ended t below o ∧ EndO D cA b s o t Qa mc ms
/-- a contract: called with the values vs on the abstract heap n, h the method ends so that Qa; it makes at most mc cells of ms slots, it nests fr frames of lo words -/
def Cn (l : Launch) (D : va_G) (cA : Nat → ClassId) (b : Nat) (y : MethodName) (cd : Cond) (fr lo mc ms : Nat) (vs : List Value) (n : Nat) (h : AH) (Qa : Rz → Nat → AH → Prop) : Prop :=
  MetFree l y (headSpec [cd] { frames := fr, cells := mc, slots := ms, locals := lo }) (fun a U => a = (vs.map (sv b)).toArray ∧ Gl D cA b U ∧ Hp D cA b n h U.heap) (fun _ _ _ _ _ => True) (fun _ st o t => EndO D cA b st o t Qa mc ms)
/-- what stays the same all over a method's body -/
def Cx (p : Program) (l : Launch) (s : State) (m : MethodId) (meth : Method) (c : Code) (D : va_G) (cA : Nat → ClassId) (b nL : Nat) (own : String) (mn : String) (cc : ByteArray) (ret : Option FieldType) (hh : List (Nat × Nat × Nat × Nat)) : Prop :=
  p.tables.exec = Jvm.exec ∧ c.code = cc ∧ c.maxLocals = nL ∧ s.vm.findClass own = some m.cls ∧ Gl D cA b s ∧ meth.locks = false ∧ meth.sig.returnType = ret ∧ c.exceptionTable.toList = tableOf hh ∧ l.stackTraces = false ∧ meth.name = mn
def J (p : Program) (l : Launch) (e : Env) (R : Room) (s : State) (m : MethodId) (args : Array Value) (below : List Frame) (meth : Method) (c : Code) (D : va_G) (cA : Nat → ClassId) (b nL : Nat) (Q : State → Prop) (n : Nat) (h : AH) (kc ks pc : Nat) (L : List (Nat × Value)) (st : List Value) : Prop :=
  ∀ (H : Heap) (locs : List Loc) (ls : Array Slot), Hp D cA b n h H → va_S (fun q => b ≤ q) s.heap H locs → lv_has ls nL (sL b L) → W p l e R s m args below meth c H locs kc ks Q (F0 m pc ls (st.map (sv b)))
theorem sv_len (b : Nat) (vs : List Value) : (lg_sl (vs.map (sv b))).length = (lg_sl vs).length := by
  induction vs with
  | nil => rfl
  | cons v vs ih =>
    have h1 : lg_sl (v :: vs) = lg_sl [v] ++ lg_sl vs := by simp [lg_sl]
    have h2 : lg_sl ((v :: vs).map (sv b)) = lg_sl [sv b v] ++ lg_sl (vs.map (sv b)) := by simp [lg_sl]
    rw [h1, h2, List.length_append, List.length_append, ih]
    cases v <;> rfl
/-- a contract out of the body's walk -/
theorem Cn.of {l : Launch} {D : va_G} {cA : Nat → ClassId} {b : Nat} {y : MethodName} {cd : Cond} {fr lo mc ms : Nat} {vs : List Value} {n : Nat} {h : AH} {Qa : Rz → Nat → AH → Prop} {cc : ByteArray} {maxL : Nat} {ret : Option FieldType} {hh : List (Nat × Nat × Nat × Nat)}
    (hy : plainName y.cls = true) (hl : l.stackTraces = false) (hcd : (cd = Cond.code y cc maxL ret ∧ hh = []) ∨ cd = Cond.codeWith y cc maxL ret hh) (hn : (lg_sl vs).length ≤ maxL)
    (body : ∀ (p : Program) (e : Env) (s : State) (m : MethodId) (args : Array Value) (below : List Frame) (meth : Method) (c : Code), Cx p l s m meth c D cA b maxL y.cls y.name cc ret hh →
      J p l e { frames := fr, cells := mc, slots := ms, locals := lo } s m args below meth c D cA b maxL (EndQ D cA b s below Qa mc ms) n h 0 0 0 (lv_args 0 vs) []) : Cn l D cA b y cd fr lo mc ms vs n h Qa := by
  have hspec : ∀ (args : Array Value) (s : State) (m : MethodId), cd.before args s = true → s.methodNamed? y = some m → ∃ meth c, s.vm.method? m = some meth ∧ meth.code = some c ∧ c.code = cc ∧ c.maxLocals = maxL ∧ meth.sig.returnType = ret ∧ meth.locks = false ∧ c.exceptionTable.toList = tableOf hh := by
    intro args s m hb hm
    rcases hcd with ⟨rfl, rfl⟩ | rfl
    · obtain ⟨meth, c, h1, h2, h3, h4, h5, h6, h7, -⟩ := Cond.code_spec hm hb
      exact ⟨meth, c, h1, h2, h3, h4, h5, h6, by rw [Array.isEmpty_iff.mp h7]; rfl⟩
    · obtain ⟨m9, meth, c, hn9, h1, h2, h3, h4, h6, h5, h7, -⟩ := Cond.codeWith_spec hb
      cases hm.symm.trans hn9
      exact ⟨meth, c, h1, h2, h3, h4, h5, h7, by rw [← h6, table_eq]⟩
  refine MetFree.of_bodyS (code := cc) (maxLocals := maxL) (ret := ret) hy ?_ ?_
  · intro args s m hp hm
    obtain ⟨meth, c, h1, h2, h3, h4, h5, h6, -⟩ := hspec args s m (atoms_spec (ws := [cd]) hp cd List.mem_cons_self) hm
    exact ⟨meth, c, h1, h2, h3, h4, h5, h6⟩
  · intro p e s m args below meth c s₁ B hml hP _
    obtain ⟨rfl, hG, hH⟩ := hP
    have hh0 : s₁.heap = s.heap := by rw [B.state]; rfl
    obtain ⟨meth9, c9, g1, g2, -, -, -, -, g7⟩ := hspec _ s m (atoms_spec (ws := [cd]) B.pre cd List.mem_cons_self) B.named
    cases Option.some.inj (g1.symm.trans B.method)
    cases Option.some.inj (g2.symm.trans (Stand.of_body B).code)
    have hown : s.vm.findClass y.cls = some m.cls := findClass_of_methodNamed B.named
    have K := body p e s m (vs.map (sv b)).toArray below meth c ⟨B.exec, B.bytes, hml, hown, hG, B.notSynchronized, B.returns, g7, hl, (name_of_methodNamed B.named B.method).1⟩
    have hl0 := lv_entry (vs.map (sv b)) (n := maxL) (by rw [sv_len]; exact hn)
    rw [sv_args] at hl0
    have K2 := K s.heap [] _ hH va_S.rf hl0
    have K3 : W p l e { frames := fr, cells := mc, slots := ms, locals := lo } s m (vs.map (sv b)).toArray below meth c s.heap [] 0 0 (EndQ D cA b s below Qa mc ms) (entryFrame m (vs.map (sv b)).toArray maxL) := by
      rw [lg_entry_eq]
      exact K2
    obtain ⟨t, a1, o, b1, b2, b3⟩ := K3 s₁ hh0 (Stand.of_body B)
    exact ⟨t, o, a1, b1, b2, b3⟩
end
section
section JR
variable {p : Program} {l : Launch} {e : Env} {R : Room} {s : State} {m : MethodId} {args : Array Value} {below : List Frame} {meth : Method} {c : Code} {D : va_G} {cA : Nat → ClassId} {b nL : Nat} {Q : State → Prop} {n : Nat} {h : AH} {kc ks pc : Nat} {L : List (Nat × Value)} {st : List Value} {own mn : String} {cc : ByteArray} {ret : Option FieldType} {hh : List (Nat × Nat × Nat × Nat)}
theorem j_iconst (C : Cx p l s m meth c D cA b nL own mn cc ret hh) {z : Int} {v : Int32} (hd : decode cc pc = .ok (.iconst z, 1)) (hv : Int32.ofInt z = v) (k : J p l e R s m args below meth c D cA b nL Q n h kc ks (pc + 1) L (.int v :: st)) : J p l e R s m args below meth c D cA b nL Q n h kc ks pc L st :=
  fun H locs ls hp hS hl => lv_iconst C.1 C.2.1 hd hv (k H locs ls hp hS hl)
theorem j_bipush (C : Cx p l s m meth c D cA b nL own mn cc ret hh) {z : Int} {v : Int32} (hd : decode cc pc = .ok (.bipush z, 2)) (hv : (Int8.ofInt z).toInt32 = v) (k : J p l e R s m args below meth c D cA b nL Q n h kc ks (pc + 2) L (.int v :: st)) : J p l e R s m args below meth c D cA b nL Q n h kc ks pc L st :=
  fun H locs ls hp hS hl => lv_bipush C.1 C.2.1 hd hv (k H locs ls hp hS hl)
theorem j_sipush (C : Cx p l s m meth c D cA b nL own mn cc ret hh) {z : Int} {v : Int32} (hd : decode cc pc = .ok (.sipush z, 3)) (hv : (Int16.ofInt z).toInt32 = v) (k : J p l e R s m args below meth c D cA b nL Q n h kc ks (pc + 3) L (.int v :: st)) : J p l e R s m args below meth c D cA b nL Q n h kc ks pc L st :=
  fun H locs ls hp hS hl => lv_sipush C.1 C.2.1 hd hv (k H locs ls hp hS hl)
theorem j_lconst (C : Cx p l s m meth c D cA b nL own mn cc ret hh) {z : Fin 2} {v : Int64} (hd : decode cc pc = .ok (.lconst z, 1)) (hv : Int64.ofNat (z : Nat) = v) (k : J p l e R s m args below meth c D cA b nL Q n h kc ks (pc + 1) L (.long v :: st)) : J p l e R s m args below meth c D cA b nL Q n h kc ks pc L st :=
  fun H locs ls hp hS hl => lv_lconst C.1 C.2.1 hd hv (k H locs ls hp hS hl)
theorem j_null (C : Cx p l s m meth c D cA b nL own mn cc ret hh)  (hd : decode cc pc = .ok (.aconst_null, 1))  (k : J p l e R s m args below meth c D cA b nL Q n h kc ks (pc + 1) L (.null :: st)) : J p l e R s m args below meth c D cA b nL Q n h kc ks pc L st :=
  fun H locs ls hp hS hl => lv_null C.1 C.2.1 hd (k H locs ls hp hS hl)
theorem j_iload_n (C : Cx p l s m meth c D cA b nL own mn cc ret hh) {i : Fin 4} {j : Nat} {x : Int32} (hd : decode cc pc = .ok (.iload_n i, 1)) (hi : (i : Nat) = j) (hx : List.lookup j L = some (.int x)) (k : J p l e R s m args below meth c D cA b nL Q n h kc ks (pc + 1) L (.int x :: st)) : J p l e R s m args below meth c D cA b nL Q n h kc ks pc L st :=
  fun H locs ls hp hS hl => lv_iload_n C.1 C.2.1 hd hi (sL_at hl hx) (k H locs ls hp hS hl)
theorem j_iload (C : Cx p l s m meth c D cA b nL own mn cc ret hh) {i : Nat} {x : Int32} (hd : decode cc pc = .ok (.iload i, 2)) (hx : List.lookup i L = some (.int x)) (k : J p l e R s m args below meth c D cA b nL Q n h kc ks (pc + 2) L (.int x :: st)) : J p l e R s m args below meth c D cA b nL Q n h kc ks pc L st :=
  fun H locs ls hp hS hl => lv_iload C.1 C.2.1 hd (sL_at hl hx) (k H locs ls hp hS hl)
theorem j_lload_n (C : Cx p l s m meth c D cA b nL own mn cc ret hh) {i : Fin 4} {j : Nat} {x : Int64} (hd : decode cc pc = .ok (.lload_n i, 1)) (hi : (i : Nat) = j) (hx : List.lookup j L = some (.long x)) (k : J p l e R s m args below meth c D cA b nL Q n h kc ks (pc + 1) L (.long x :: st)) : J p l e R s m args below meth c D cA b nL Q n h kc ks pc L st :=
  fun H locs ls hp hS hl => lv_lload_n C.1 C.2.1 hd hi (sL_at hl hx) (k H locs ls hp hS hl)
theorem j_lload (C : Cx p l s m meth c D cA b nL own mn cc ret hh) {i : Nat} {x : Int64} (hd : decode cc pc = .ok (.lload i, 2)) (hx : List.lookup i L = some (.long x)) (k : J p l e R s m args below meth c D cA b nL Q n h kc ks (pc + 2) L (.long x :: st)) : J p l e R s m args below meth c D cA b nL Q n h kc ks pc L st :=
  fun H locs ls hp hS hl => lv_lload C.1 C.2.1 hd (sL_at hl hx) (k H locs ls hp hS hl)
theorem j_aload_n (C : Cx p l s m meth c D cA b nL own mn cc ret hh) {i : Fin 4} {j : Nat} {x : Nat} (hd : decode cc pc = .ok (.aload_n i, 1)) (hi : (i : Nat) = j) (hx : List.lookup j L = some (.ref x)) (k : J p l e R s m args below meth c D cA b nL Q n h kc ks (pc + 1) L (.ref x :: st)) : J p l e R s m args below meth c D cA b nL Q n h kc ks pc L st :=
  fun H locs ls hp hS hl => lv_aload_n C.1 C.2.1 hd hi (sL_at hl hx) (k H locs ls hp hS hl)
theorem j_aload (C : Cx p l s m meth c D cA b nL own mn cc ret hh) {i : Nat} {x : Nat} (hd : decode cc pc = .ok (.aload i, 2)) (hx : List.lookup i L = some (.ref x)) (k : J p l e R s m args below meth c D cA b nL Q n h kc ks (pc + 2) L (.ref x :: st)) : J p l e R s m args below meth c D cA b nL Q n h kc ks pc L st :=
  fun H locs ls hp hS hl => lv_aload C.1 C.2.1 hd (sL_at hl hx) (k H locs ls hp hS hl)
theorem j_istore_n (C : Cx p l s m meth c D cA b nL own mn cc ret hh) {i : Fin 4} {j : Nat} {x : Int32} {L' : List (Nat × Value)} (hd : decode cc pc = .ok (.istore_n i, 1)) (hi : (i : Nat) = j) (hn : j < nL) (hL : sT L j (.int x) = L') (k : J p l e R s m args below meth c D cA b nL Q n h kc ks (pc + 1) L' st) : J p l e R s m args below meth c D cA b nL Q n h kc ks pc L (.int x :: st) := by
  intro H locs ls hp hS hl
  subst hL
  exact lv_istore_n C.1 C.2.1 hd hi hl hn (sL_sT b L j (.int x)) (fun ls hl => k H locs ls hp hS hl)
theorem j_istore (C : Cx p l s m meth c D cA b nL own mn cc ret hh) {i : Nat} {x : Int32} {L' : List (Nat × Value)} (hd : decode cc pc = .ok (.istore i, 2)) (hn : i < nL) (hL : sT L i (.int x) = L') (k : J p l e R s m args below meth c D cA b nL Q n h kc ks (pc + 2) L' st) : J p l e R s m args below meth c D cA b nL Q n h kc ks pc L (.int x :: st) := by
  intro H locs ls hp hS hl
  subst hL
  exact lv_istore C.1 C.2.1 hd hl hn (sL_sT b L i (.int x)) (fun ls hl => k H locs ls hp hS hl)
theorem j_astore_n (C : Cx p l s m meth c D cA b nL own mn cc ret hh) {i : Fin 4} {j : Nat} {x : Nat} {L' : List (Nat × Value)} (hd : decode cc pc = .ok (.astore_n i, 1)) (hi : (i : Nat) = j) (hn : j < nL) (hL : sT L j (.ref x) = L') (k : J p l e R s m args below meth c D cA b nL Q n h kc ks (pc + 1) L' st) : J p l e R s m args below meth c D cA b nL Q n h kc ks pc L (.ref x :: st) := by
  intro H locs ls hp hS hl
  subst hL
  exact lv_astore_n C.1 C.2.1 hd hi hl hn (sL_sT b L j (.ref x)) (fun ls hl => k H locs ls hp hS hl)
theorem j_astore (C : Cx p l s m meth c D cA b nL own mn cc ret hh) {i : Nat} {x : Nat} {L' : List (Nat × Value)} (hd : decode cc pc = .ok (.astore i, 2)) (hn : i < nL) (hL : sT L i (.ref x) = L') (k : J p l e R s m args below meth c D cA b nL Q n h kc ks (pc + 2) L' st) : J p l e R s m args below meth c D cA b nL Q n h kc ks pc L (.ref x :: st) := by
  intro H locs ls hp hS hl
  subst hL
  exact lv_astore C.1 C.2.1 hd hl hn (sL_sT b L i (.ref x)) (fun ls hl => k H locs ls hp hS hl)
theorem j_lstore_n (C : Cx p l s m meth c D cA b nL own mn cc ret hh) {i : Fin 4} {j : Nat} {x : Int64} {L' : List (Nat × Value)} (hd : decode cc pc = .ok (.lstore_n i, 1)) (hi : (i : Nat) = j) (hn : j + 1 < nL) (hL : sT2 L j (.long x) = L') (k : J p l e R s m args below meth c D cA b nL Q n h kc ks (pc + 1) L' st) : J p l e R s m args below meth c D cA b nL Q n h kc ks pc L (.long x :: st) := by
  intro H locs ls hp hS hl
  subst hL
  exact lv_lstore_n C.1 C.2.1 hd hi hl hn (sL_sT2 b L j (.long x)) (fun ls hl => k H locs ls hp hS hl)
theorem j_lstore (C : Cx p l s m meth c D cA b nL own mn cc ret hh) {i : Nat} {x : Int64} {L' : List (Nat × Value)} (hd : decode cc pc = .ok (.lstore i, 2)) (hn : i + 1 < nL) (hL : sT2 L i (.long x) = L') (k : J p l e R s m args below meth c D cA b nL Q n h kc ks (pc + 2) L' st) : J p l e R s m args below meth c D cA b nL Q n h kc ks pc L (.long x :: st) := by
  intro H locs ls hp hS hl
  subst hL
  exact lv_lstore C.1 C.2.1 hd hl hn (sL_sT2 b L i (.long x)) (fun ls hl => k H locs ls hp hS hl)
theorem j_iinc (C : Cx p l s m meth c D cA b nL own mn cc ret hh) {i : Nat} {z : Int} {x v : Int32} {L' : List (Nat × Value)} (hd : decode cc pc = .ok (.iinc i z, 3)) (hx : List.lookup i L = some (.int x)) (hv : x + Int32.ofInt z = v) (hn : i < nL) (hL : sT L i (.int v) = L') (k : J p l e R s m args below meth c D cA b nL Q n h kc ks (pc + 3) L' st) : J p l e R s m args below meth c D cA b nL Q n h kc ks pc L st := by
  intro H locs ls hp hS hl
  subst hL
  obtain ⟨q, hq⟩ := List.getElem?_of_mem (show (i, Value.int x) ∈ sL b L from List.mem_map.mpr ⟨(i, .int x), lk_mem hx, rfl⟩)
  exact lv_iinc C.1 C.2.1 hd hl hq hv hn (sL_sT b L i (.int v)) (fun ls hl => k H locs ls hp hS hl)
theorem j_iadd (C : Cx p l s m meth c D cA b nL own mn cc ret hh) {x y : Int32} (hd : decode cc pc = .ok (.iadd, 1))  (k : J p l e R s m args below meth c D cA b nL Q n h kc ks (pc + 1) L (.int (x + y) :: st)) : J p l e R s m args below meth c D cA b nL Q n h kc ks pc L (.int y :: .int x :: st) :=
  fun H locs ls hp hS hl => lv_iadd C.1 C.2.1 hd (k H locs ls hp hS hl)
theorem j_isub (C : Cx p l s m meth c D cA b nL own mn cc ret hh) {x y : Int32} (hd : decode cc pc = .ok (.isub, 1))  (k : J p l e R s m args below meth c D cA b nL Q n h kc ks (pc + 1) L (.int (x - y) :: st)) : J p l e R s m args below meth c D cA b nL Q n h kc ks pc L (.int y :: .int x :: st) :=
  fun H locs ls hp hS hl => lv_isub C.1 C.2.1 hd (k H locs ls hp hS hl)
theorem j_imul (C : Cx p l s m meth c D cA b nL own mn cc ret hh) {x y : Int32} (hd : decode cc pc = .ok (.imul, 1))  (k : J p l e R s m args below meth c D cA b nL Q n h kc ks (pc + 1) L (.int (x * y) :: st)) : J p l e R s m args below meth c D cA b nL Q n h kc ks pc L (.int y :: .int x :: st) :=
  fun H locs ls hp hS hl => lv_imul C.1 C.2.1 hd (k H locs ls hp hS hl)
theorem j_iand (C : Cx p l s m meth c D cA b nL own mn cc ret hh) {x y : Int32} (hd : decode cc pc = .ok (.iand, 1))  (k : J p l e R s m args below meth c D cA b nL Q n h kc ks (pc + 1) L (.int (x &&& y) :: st)) : J p l e R s m args below meth c D cA b nL Q n h kc ks pc L (.int y :: .int x :: st) :=
  fun H locs ls hp hS hl => lv_iand C.1 C.2.1 hd (k H locs ls hp hS hl)
theorem j_ior (C : Cx p l s m meth c D cA b nL own mn cc ret hh) {x y : Int32} (hd : decode cc pc = .ok (.ior, 1))  (k : J p l e R s m args below meth c D cA b nL Q n h kc ks (pc + 1) L (.int (x ||| y) :: st)) : J p l e R s m args below meth c D cA b nL Q n h kc ks pc L (.int y :: .int x :: st) :=
  fun H locs ls hp hS hl => lv_ior C.1 C.2.1 hd (k H locs ls hp hS hl)
theorem j_ixor (C : Cx p l s m meth c D cA b nL own mn cc ret hh) {x y : Int32} (hd : decode cc pc = .ok (.ixor, 1))  (k : J p l e R s m args below meth c D cA b nL Q n h kc ks (pc + 1) L (.int (x ^^^ y) :: st)) : J p l e R s m args below meth c D cA b nL Q n h kc ks pc L (.int y :: .int x :: st) :=
  fun H locs ls hp hS hl => lv_ixor C.1 C.2.1 hd (k H locs ls hp hS hl)
theorem j_ladd (C : Cx p l s m meth c D cA b nL own mn cc ret hh) {x y : Int64} (hd : decode cc pc = .ok (.ladd, 1))  (k : J p l e R s m args below meth c D cA b nL Q n h kc ks (pc + 1) L (.long (x + y) :: st)) : J p l e R s m args below meth c D cA b nL Q n h kc ks pc L (.long y :: .long x :: st) :=
  fun H locs ls hp hS hl => lv_ladd C.1 C.2.1 hd (k H locs ls hp hS hl)
theorem j_lsub (C : Cx p l s m meth c D cA b nL own mn cc ret hh) {x y : Int64} (hd : decode cc pc = .ok (.lsub, 1))  (k : J p l e R s m args below meth c D cA b nL Q n h kc ks (pc + 1) L (.long (x - y) :: st)) : J p l e R s m args below meth c D cA b nL Q n h kc ks pc L (.long y :: .long x :: st) :=
  fun H locs ls hp hS hl => lv_lsub C.1 C.2.1 hd (k H locs ls hp hS hl)
theorem j_lmul (C : Cx p l s m meth c D cA b nL own mn cc ret hh) {x y : Int64} (hd : decode cc pc = .ok (.lmul, 1))  (k : J p l e R s m args below meth c D cA b nL Q n h kc ks (pc + 1) L (.long (x * y) :: st)) : J p l e R s m args below meth c D cA b nL Q n h kc ks pc L (.long y :: .long x :: st) :=
  fun H locs ls hp hS hl => lv_lmul C.1 C.2.1 hd (k H locs ls hp hS hl)
theorem j_land (C : Cx p l s m meth c D cA b nL own mn cc ret hh) {x y : Int64} (hd : decode cc pc = .ok (.land, 1))  (k : J p l e R s m args below meth c D cA b nL Q n h kc ks (pc + 1) L (.long (x &&& y) :: st)) : J p l e R s m args below meth c D cA b nL Q n h kc ks pc L (.long y :: .long x :: st) :=
  fun H locs ls hp hS hl => lv_land C.1 C.2.1 hd (k H locs ls hp hS hl)
theorem j_lor (C : Cx p l s m meth c D cA b nL own mn cc ret hh) {x y : Int64} (hd : decode cc pc = .ok (.lor, 1))  (k : J p l e R s m args below meth c D cA b nL Q n h kc ks (pc + 1) L (.long (x ||| y) :: st)) : J p l e R s m args below meth c D cA b nL Q n h kc ks pc L (.long y :: .long x :: st) :=
  fun H locs ls hp hS hl => lv_lor C.1 C.2.1 hd (k H locs ls hp hS hl)
theorem j_lxor (C : Cx p l s m meth c D cA b nL own mn cc ret hh) {x y : Int64} (hd : decode cc pc = .ok (.lxor, 1))  (k : J p l e R s m args below meth c D cA b nL Q n h kc ks (pc + 1) L (.long (x ^^^ y) :: st)) : J p l e R s m args below meth c D cA b nL Q n h kc ks pc L (.long y :: .long x :: st) :=
  fun H locs ls hp hS hl => lv_lxor C.1 C.2.1 hd (k H locs ls hp hS hl)
theorem j_idiv (C : Cx p l s m meth c D cA b nL own mn cc ret hh) {x y : Int32} (hd : decode cc pc = .ok (.idiv, 1)) (hne : ¬ y = 0) (k : J p l e R s m args below meth c D cA b nL Q n h kc ks (pc + 1) L (.int (x / y) :: st)) : J p l e R s m args below meth c D cA b nL Q n h kc ks pc L (.int y :: .int x :: st) :=
  fun H locs ls hp hS hl => lv_idiv C.1 C.2.1 hd hne (k H locs ls hp hS hl)
theorem j_irem (C : Cx p l s m meth c D cA b nL own mn cc ret hh) {x y : Int32} (hd : decode cc pc = .ok (.irem, 1)) (hne : ¬ y = 0) (k : J p l e R s m args below meth c D cA b nL Q n h kc ks (pc + 1) L (.int (x - x / y * y) :: st)) : J p l e R s m args below meth c D cA b nL Q n h kc ks pc L (.int y :: .int x :: st) :=
  fun H locs ls hp hS hl => lv_irem C.1 C.2.1 hd hne (k H locs ls hp hS hl)
theorem j_ineg (C : Cx p l s m meth c D cA b nL own mn cc ret hh) {x : Int32} (hd : decode cc pc = .ok (.ineg, 1))  (k : J p l e R s m args below meth c D cA b nL Q n h kc ks (pc + 1) L (.int (-x) :: st)) : J p l e R s m args below meth c D cA b nL Q n h kc ks pc L (.int x :: st) :=
  fun H locs ls hp hS hl => lv_ineg C.1 C.2.1 hd (k H locs ls hp hS hl)
theorem j_ishl (C : Cx p l s m meth c D cA b nL own mn cc ret hh) {x y : Int32} (hd : decode cc pc = .ok (.ishl, 1))  (k : J p l e R s m args below meth c D cA b nL Q n h kc ks (pc + 1) L (.int (x <<< (y &&& 31)) :: st)) : J p l e R s m args below meth c D cA b nL Q n h kc ks pc L (.int y :: .int x :: st) :=
  fun H locs ls hp hS hl => lv_ishl C.1 C.2.1 hd (k H locs ls hp hS hl)
theorem j_ishr (C : Cx p l s m meth c D cA b nL own mn cc ret hh) {x y : Int32} (hd : decode cc pc = .ok (.ishr, 1))  (k : J p l e R s m args below meth c D cA b nL Q n h kc ks (pc + 1) L (.int (x >>> (y &&& 31)) :: st)) : J p l e R s m args below meth c D cA b nL Q n h kc ks pc L (.int y :: .int x :: st) :=
  fun H locs ls hp hS hl => lv_ishr C.1 C.2.1 hd (k H locs ls hp hS hl)
theorem j_iushr (C : Cx p l s m meth c D cA b nL own mn cc ret hh) {x y v : Int32} (hd : decode cc pc = .ok (.iushr, 1)) (hv : (x.toUInt32 >>> (y.toUInt32 &&& Int32.toUInt32 31)).toInt32 = v) (k : J p l e R s m args below meth c D cA b nL Q n h kc ks (pc + 1) L (.int v :: st)) : J p l e R s m args below meth c D cA b nL Q n h kc ks pc L (.int y :: .int x :: st) :=
  fun H locs ls hp hS hl => lv_iushr C.1 C.2.1 hd hv (k H locs ls hp hS hl)
theorem j_lushr (C : Cx p l s m meth c D cA b nL own mn cc ret hh) {x v : Int64} {y : Int32} (hd : decode cc pc = .ok (.lushr, 1)) (hv : (x.toUInt64 >>> (y.toInt64.toUInt64 &&& Int64.toUInt64 63)).toInt64 = v) (k : J p l e R s m args below meth c D cA b nL Q n h kc ks (pc + 1) L (.long v :: st)) : J p l e R s m args below meth c D cA b nL Q n h kc ks pc L (.int y :: .long x :: st) :=
  fun H locs ls hp hS hl => lv_lushr C.1 C.2.1 hd hv (k H locs ls hp hS hl)
theorem j_lshl (C : Cx p l s m meth c D cA b nL own mn cc ret hh) {x v : Int64} {y : Int32} (hd : decode cc pc = .ok (.lshl, 1)) (hv : x <<< (y.toInt64 &&& 63) = v) (k : J p l e R s m args below meth c D cA b nL Q n h kc ks (pc + 1) L (.long v :: st)) : J p l e R s m args below meth c D cA b nL Q n h kc ks pc L (.int y :: .long x :: st) :=
  fun H locs ls hp hS hl => lv_lshl C.1 C.2.1 hd hv (k H locs ls hp hS hl)
theorem j_i2l (C : Cx p l s m meth c D cA b nL own mn cc ret hh) {x : Int32} {v : Int64} (hd : decode cc pc = .ok (.i2l, 1)) (hv : x.toInt64 = v) (k : J p l e R s m args below meth c D cA b nL Q n h kc ks (pc + 1) L (.long v :: st)) : J p l e R s m args below meth c D cA b nL Q n h kc ks pc L (.int x :: st) :=
  fun H locs ls hp hS hl => lv_i2l C.1 C.2.1 hd hv (k H locs ls hp hS hl)
theorem j_l2i (C : Cx p l s m meth c D cA b nL own mn cc ret hh) {x : Int64} {v : Int32} (hd : decode cc pc = .ok (.l2i, 1)) (hv : x.toInt32 = v) (k : J p l e R s m args below meth c D cA b nL Q n h kc ks (pc + 1) L (.int v :: st)) : J p l e R s m args below meth c D cA b nL Q n h kc ks pc L (.long x :: st) :=
  fun H locs ls hp hS hl => lv_l2i C.1 C.2.1 hd hv (k H locs ls hp hS hl)
theorem j_i2b (C : Cx p l s m meth c D cA b nL own mn cc ret hh) {x v : Int32} (hd : decode cc pc = .ok (.i2b, 1)) (hv : x.toInt8.toInt32 = v) (k : J p l e R s m args below meth c D cA b nL Q n h kc ks (pc + 1) L (.int v :: st)) : J p l e R s m args below meth c D cA b nL Q n h kc ks pc L (.int x :: st) :=
  fun H locs ls hp hS hl => lv_i2b C.1 C.2.1 hd hv (k H locs ls hp hS hl)
theorem j_i2c (C : Cx p l s m meth c D cA b nL own mn cc ret hh) {x v : Int32} (hd : decode cc pc = .ok (.i2c, 1)) (hv : (x.toUInt32 % 65536).toInt32 = v) (k : J p l e R s m args below meth c D cA b nL Q n h kc ks (pc + 1) L (.int v :: st)) : J p l e R s m args below meth c D cA b nL Q n h kc ks pc L (.int x :: st) :=
  fun H locs ls hp hS hl => lv_i2c C.1 C.2.1 hd hv (k H locs ls hp hS hl)
theorem j_dup (C : Cx p l s m meth c D cA b nL own mn cc ret hh) {v : Value} (hd : decode cc pc = .ok (.dup, 1)) (hv : v.category = 1) (k : J p l e R s m args below meth c D cA b nL Q n h kc ks (pc + 1) L (v :: v :: st)) : J p l e R s m args below meth c D cA b nL Q n h kc ks pc L (v :: st) :=
  fun H locs ls hp hS hl => lv_dup C.1 C.2.1 hd ((sv_cat b v).trans hv) (k H locs ls hp hS hl)
theorem j_pop (C : Cx p l s m meth c D cA b nL own mn cc ret hh) {v : Value} (hd : decode cc pc = .ok (.pop, 1)) (hv : v.category = 1) (k : J p l e R s m args below meth c D cA b nL Q n h kc ks (pc + 1) L st) : J p l e R s m args below meth c D cA b nL Q n h kc ks pc L (v :: st) :=
  fun H locs ls hp hS hl => lv_pop C.1 C.2.1 hd ((sv_cat b v).trans hv) (k H locs ls hp hS hl)
theorem j_dup_x1 (C : Cx p l s m meth c D cA b nL own mn cc ret hh) {v w : Value} (hd : decode cc pc = .ok (.dup_x1, 1)) (hv : v.category = 1) (hw : w.category = 1) (k : J p l e R s m args below meth c D cA b nL Q n h kc ks (pc + 1) L (v :: w :: v :: st)) : J p l e R s m args below meth c D cA b nL Q n h kc ks pc L (v :: w :: st) :=
  fun H locs ls hp hS hl => lv_dup_x1 C.1 C.2.1 hd ((sv_cat b v).trans hv) ((sv_cat b w).trans hw) (k H locs ls hp hS hl)
theorem j_dup_x2 (C : Cx p l s m meth c D cA b nL own mn cc ret hh) {v w z : Value} (hd : decode cc pc = .ok (.dup_x2, 1)) (hv : v.category = 1) (hw : w.category = 1) (hz : z.category = 1) (k : J p l e R s m args below meth c D cA b nL Q n h kc ks (pc + 1) L (v :: w :: z :: v :: st)) : J p l e R s m args below meth c D cA b nL Q n h kc ks pc L (v :: w :: z :: st) :=
  fun H locs ls hp hS hl => lv_dup_x2 C.1 C.2.1 hd ((sv_cat b v).trans hv) ((sv_cat b w).trans hw) ((sv_cat b z).trans hz) (k H locs ls hp hS hl)
theorem j_dup2 (C : Cx p l s m meth c D cA b nL own mn cc ret hh) {v w : Value} (hd : decode cc pc = .ok (.dup2, 1)) (hv : v.category = 1) (hw : w.category = 1) (k : J p l e R s m args below meth c D cA b nL Q n h kc ks (pc + 1) L (v :: w :: v :: w :: st)) : J p l e R s m args below meth c D cA b nL Q n h kc ks pc L (v :: w :: st) :=
  fun H locs ls hp hS hl => lv_dup2_11 C.1 C.2.1 hd ((sv_cat b v).trans hv) ((sv_cat b w).trans hw) (k H locs ls hp hS hl)
theorem j_goto (C : Cx p l s m meth c D cA b nL own mn cc ret hh) {z : Int} {tgt : Nat} (hd : decode cc pc = .ok (.goto z, 3)) (ht : (pc : Int) + z = (tgt : Int)) (k : J p l e R s m args below meth c D cA b nL Q n h kc ks tgt L st) : J p l e R s m args below meth c D cA b nL Q n h kc ks pc L st :=
  fun H locs ls hp hS hl => lv_goto C.1 C.2.1 hd ht (k H locs ls hp hS hl)
theorem j_if_eq (C : Cx p l s m meth c D cA b nL own mn cc ret hh) {x : Int32} {z : Int} {tgt : Nat} (hd : decode cc pc = .ok (.ifCond .eq z, 3)) (ht : (pc : Int) + z = (tgt : Int)) (k1 : x = 0 → J p l e R s m args below meth c D cA b nL Q n h kc ks tgt L st) (k2 : ¬ x = 0 → J p l e R s m args below meth c D cA b nL Q n h kc ks (pc + 3) L st) : J p l e R s m args below meth c D cA b nL Q n h kc ks pc L (.int x :: st) :=
  fun H locs ls hp hS hl => lv_if_eq C.1 C.2.1 hd ht (fun q => k1 q H locs ls hp hS hl) (fun q => k2 q H locs ls hp hS hl)
theorem j_icmp_eq (C : Cx p l s m meth c D cA b nL own mn cc ret hh) {x y : Int32} {z : Int} {tgt : Nat} (hd : decode cc pc = .ok (.if_icmp .eq z, 3)) (ht : (pc : Int) + z = (tgt : Int)) (k1 : x = y → J p l e R s m args below meth c D cA b nL Q n h kc ks tgt L st) (k2 : ¬ x = y → J p l e R s m args below meth c D cA b nL Q n h kc ks (pc + 3) L st) : J p l e R s m args below meth c D cA b nL Q n h kc ks pc L (.int y :: .int x :: st) :=
  fun H locs ls hp hS hl => lv_icmp_eq C.1 C.2.1 hd ht (fun q => k1 q H locs ls hp hS hl) (fun q => k2 q H locs ls hp hS hl)
theorem j_if_ne (C : Cx p l s m meth c D cA b nL own mn cc ret hh) {x : Int32} {z : Int} {tgt : Nat} (hd : decode cc pc = .ok (.ifCond .ne z, 3)) (ht : (pc : Int) + z = (tgt : Int)) (k1 : ¬ x = 0 → J p l e R s m args below meth c D cA b nL Q n h kc ks tgt L st) (k2 : x = 0 → J p l e R s m args below meth c D cA b nL Q n h kc ks (pc + 3) L st) : J p l e R s m args below meth c D cA b nL Q n h kc ks pc L (.int x :: st) :=
  fun H locs ls hp hS hl => lv_if_ne C.1 C.2.1 hd ht (fun q => k1 q H locs ls hp hS hl) (fun q => k2 q H locs ls hp hS hl)
theorem j_icmp_ne (C : Cx p l s m meth c D cA b nL own mn cc ret hh) {x y : Int32} {z : Int} {tgt : Nat} (hd : decode cc pc = .ok (.if_icmp .ne z, 3)) (ht : (pc : Int) + z = (tgt : Int)) (k1 : ¬ x = y → J p l e R s m args below meth c D cA b nL Q n h kc ks tgt L st) (k2 : x = y → J p l e R s m args below meth c D cA b nL Q n h kc ks (pc + 3) L st) : J p l e R s m args below meth c D cA b nL Q n h kc ks pc L (.int y :: .int x :: st) :=
  fun H locs ls hp hS hl => lv_icmp_ne C.1 C.2.1 hd ht (fun q => k1 q H locs ls hp hS hl) (fun q => k2 q H locs ls hp hS hl)
theorem j_if_lt (C : Cx p l s m meth c D cA b nL own mn cc ret hh) {x : Int32} {z : Int} {tgt : Nat} (hd : decode cc pc = .ok (.ifCond .lt z, 3)) (ht : (pc : Int) + z = (tgt : Int)) (k1 : x < 0 → J p l e R s m args below meth c D cA b nL Q n h kc ks tgt L st) (k2 : ¬ x < 0 → J p l e R s m args below meth c D cA b nL Q n h kc ks (pc + 3) L st) : J p l e R s m args below meth c D cA b nL Q n h kc ks pc L (.int x :: st) :=
  fun H locs ls hp hS hl => lv_if_lt C.1 C.2.1 hd ht (fun q => k1 q H locs ls hp hS hl) (fun q => k2 q H locs ls hp hS hl)
theorem j_icmp_lt (C : Cx p l s m meth c D cA b nL own mn cc ret hh) {x y : Int32} {z : Int} {tgt : Nat} (hd : decode cc pc = .ok (.if_icmp .lt z, 3)) (ht : (pc : Int) + z = (tgt : Int)) (k1 : x < y → J p l e R s m args below meth c D cA b nL Q n h kc ks tgt L st) (k2 : ¬ x < y → J p l e R s m args below meth c D cA b nL Q n h kc ks (pc + 3) L st) : J p l e R s m args below meth c D cA b nL Q n h kc ks pc L (.int y :: .int x :: st) :=
  fun H locs ls hp hS hl => lv_icmp_lt C.1 C.2.1 hd ht (fun q => k1 q H locs ls hp hS hl) (fun q => k2 q H locs ls hp hS hl)
theorem j_if_ge (C : Cx p l s m meth c D cA b nL own mn cc ret hh) {x : Int32} {z : Int} {tgt : Nat} (hd : decode cc pc = .ok (.ifCond .ge z, 3)) (ht : (pc : Int) + z = (tgt : Int)) (k1 : 0 ≤ x → J p l e R s m args below meth c D cA b nL Q n h kc ks tgt L st) (k2 : ¬ 0 ≤ x → J p l e R s m args below meth c D cA b nL Q n h kc ks (pc + 3) L st) : J p l e R s m args below meth c D cA b nL Q n h kc ks pc L (.int x :: st) :=
  fun H locs ls hp hS hl => lv_if_ge C.1 C.2.1 hd ht (fun q => k1 q H locs ls hp hS hl) (fun q => k2 q H locs ls hp hS hl)
theorem j_icmp_ge (C : Cx p l s m meth c D cA b nL own mn cc ret hh) {x y : Int32} {z : Int} {tgt : Nat} (hd : decode cc pc = .ok (.if_icmp .ge z, 3)) (ht : (pc : Int) + z = (tgt : Int)) (k1 : y ≤ x → J p l e R s m args below meth c D cA b nL Q n h kc ks tgt L st) (k2 : ¬ y ≤ x → J p l e R s m args below meth c D cA b nL Q n h kc ks (pc + 3) L st) : J p l e R s m args below meth c D cA b nL Q n h kc ks pc L (.int y :: .int x :: st) :=
  fun H locs ls hp hS hl => lv_icmp_ge C.1 C.2.1 hd ht (fun q => k1 q H locs ls hp hS hl) (fun q => k2 q H locs ls hp hS hl)
theorem j_if_gt (C : Cx p l s m meth c D cA b nL own mn cc ret hh) {x : Int32} {z : Int} {tgt : Nat} (hd : decode cc pc = .ok (.ifCond .gt z, 3)) (ht : (pc : Int) + z = (tgt : Int)) (k1 : 0 < x → J p l e R s m args below meth c D cA b nL Q n h kc ks tgt L st) (k2 : ¬ 0 < x → J p l e R s m args below meth c D cA b nL Q n h kc ks (pc + 3) L st) : J p l e R s m args below meth c D cA b nL Q n h kc ks pc L (.int x :: st) :=
  fun H locs ls hp hS hl => lv_if_gt C.1 C.2.1 hd ht (fun q => k1 q H locs ls hp hS hl) (fun q => k2 q H locs ls hp hS hl)
theorem j_icmp_gt (C : Cx p l s m meth c D cA b nL own mn cc ret hh) {x y : Int32} {z : Int} {tgt : Nat} (hd : decode cc pc = .ok (.if_icmp .gt z, 3)) (ht : (pc : Int) + z = (tgt : Int)) (k1 : y < x → J p l e R s m args below meth c D cA b nL Q n h kc ks tgt L st) (k2 : ¬ y < x → J p l e R s m args below meth c D cA b nL Q n h kc ks (pc + 3) L st) : J p l e R s m args below meth c D cA b nL Q n h kc ks pc L (.int y :: .int x :: st) :=
  fun H locs ls hp hS hl => lv_icmp_gt C.1 C.2.1 hd ht (fun q => k1 q H locs ls hp hS hl) (fun q => k2 q H locs ls hp hS hl)
theorem j_if_le (C : Cx p l s m meth c D cA b nL own mn cc ret hh) {x : Int32} {z : Int} {tgt : Nat} (hd : decode cc pc = .ok (.ifCond .le z, 3)) (ht : (pc : Int) + z = (tgt : Int)) (k1 : x ≤ 0 → J p l e R s m args below meth c D cA b nL Q n h kc ks tgt L st) (k2 : ¬ x ≤ 0 → J p l e R s m args below meth c D cA b nL Q n h kc ks (pc + 3) L st) : J p l e R s m args below meth c D cA b nL Q n h kc ks pc L (.int x :: st) :=
  fun H locs ls hp hS hl => lv_if_le C.1 C.2.1 hd ht (fun q => k1 q H locs ls hp hS hl) (fun q => k2 q H locs ls hp hS hl)
theorem j_icmp_le (C : Cx p l s m meth c D cA b nL own mn cc ret hh) {x y : Int32} {z : Int} {tgt : Nat} (hd : decode cc pc = .ok (.if_icmp .le z, 3)) (ht : (pc : Int) + z = (tgt : Int)) (k1 : x ≤ y → J p l e R s m args below meth c D cA b nL Q n h kc ks tgt L st) (k2 : ¬ x ≤ y → J p l e R s m args below meth c D cA b nL Q n h kc ks (pc + 3) L st) : J p l e R s m args below meth c D cA b nL Q n h kc ks pc L (.int y :: .int x :: st) :=
  fun H locs ls hp hS hl => lv_icmp_le C.1 C.2.1 hd ht (fun q => k1 q H locs ls hp hS hl) (fun q => k2 q H locs ls hp hS hl)
theorem j_ifnonnull (C : Cx p l s m meth c D cA b nL own mn cc ret hh) {x : Nat} {z : Int} {tgt : Nat} (hd : decode cc pc = .ok (.ifnonnull z, 3)) (ht : (pc : Int) + z = (tgt : Int)) (k : J p l e R s m args below meth c D cA b nL Q n h kc ks tgt L st) : J p l e R s m args below meth c D cA b nL Q n h kc ks pc L (.ref x :: st) :=
  fun H locs ls hp hS hl => lv_ifnonnull C.1 C.2.1 hd ht (k H locs ls hp hS hl)
theorem j_ifnullN (C : Cx p l s m meth c D cA b nL own mn cc ret hh)  {z : Int} {tgt : Nat} (hd : decode cc pc = .ok (.ifnull z, 3)) (ht : (pc : Int) + z = (tgt : Int)) (k : J p l e R s m args below meth c D cA b nL Q n h kc ks tgt L st) : J p l e R s m args below meth c D cA b nL Q n h kc ks pc L (.null :: st) :=
  fun H locs ls hp hS hl => lv_ifnullN C.1 C.2.1 hd ht (k H locs ls hp hS hl)
theorem j_ifnull (C : Cx p l s m meth c D cA b nL own mn cc ret hh) {x : Nat} {z : Int} (hd : decode cc pc = .ok (.ifnull z, 3)) (k : J p l e R s m args below meth c D cA b nL Q n h kc ks (pc + 3) L st) : J p l e R s m args below meth c D cA b nL Q n h kc ks pc L (.ref x :: st) :=
  fun H locs ls hp hS hl => lv_ifnull C.1 C.2.1 hd (k H locs ls hp hS hl)
theorem j_ifnonnullN (C : Cx p l s m meth c D cA b nL own mn cc ret hh)  {z : Int} (hd : decode cc pc = .ok (.ifnonnull z, 3)) (k : J p l e R s m args below meth c D cA b nL Q n h kc ks (pc + 3) L st) : J p l e R s m args below meth c D cA b nL Q n h kc ks pc L (.null :: st) :=
  fun H locs ls hp hS hl => lv_ifnonnullN C.1 C.2.1 hd (k H locs ls hp hS hl)
end JR
end
section
/-! ===== fields, arrays, new ===== -/
/-- field k of class ci, as the entry 'index' of the class 'own' names it -/
def FL (own : String) (index ci k : Nat) : Prop := ∃ (C : String) (T : u_T) (N : Nat), g_cl[ci]? = some (C, T, N) ∧ k < N ∧ (∀ w ∈ u_ws C T N, w ∈ g_ws) ∧ (Cond.fieldLink own index (T k).1 (T k).2.1 (T k).2.2.1 ∈ g_ws ∨ ∃ host : String, Cond.fieldLinkNest own index (T k).1 (T k).2.1 (T k).2.2.1 host ∈ g_ws)
/-- .. and what may be stored there -/
def FP (own : String) (index ci k : Nat) (fin : Bool) (ty : FieldType) : Prop := ∃ (C : String) (T : u_T) (N : Nat) (t0 : Nat → FieldType), g_cl[ci]? = some (C, T, N) ∧ k < N ∧ (∀ w ∈ u_ws C T N, w ∈ g_ws) ∧ (Cond.fieldLink own index (T k).1 (T k).2.1 (T k).2.2.1 ∈ g_ws ∨ (fin = false ∧ ∃ host : String, Cond.fieldLinkNest own index (T k).1 (T k).2.1 (T k).2.2.1 host ∈ g_ws)) ∧ (∀ j, j < N → parseFieldDescriptor (T j).2.2.1 = some (t0 j)) ∧ (∀ i, i < N → ∀ j, j < N → i ≠ j → (T i).2.1 ≠ (T j).2.1) ∧ (T k).2.2.2 = fin ∧ t0 k = ty ∧ (fin = true → (T k).1 = own)
theorem sv_narrow {b : Nat} {ty : FieldType} {v : Value} (h : narrow ty v = v) : narrow ty (sv b v) = sv b v := by
  cases v with
  | ref a => cases ty <;> first | rfl | (simp [narrow] at h)
  | _ => exact h
theorem sv_fits {b : Nat} {ty : FieldType} {v : Value} (h : fits ty v = true) : fits ty (sv b v) = true := by
  cases v with
  | ref a => cases ty <;> first | rfl | (simp [fits] at h)
  | _ => exact h
section JM
variable {p : Program} {l : Launch} {e : Env} {R : Room} {s : State} {m : MethodId} {args : Array Value} {below : List Frame} {meth : Method} {c : Code} {D : va_G} {cA : Nat → ClassId} {b nL : Nat} {Q : State → Prop} {n : Nat} {h : AH} {kc ks pc : Nat} {L : List (Nat × Value)} {st : List Value} {own mn : String} {cc : ByteArray} {ret : Option FieldType} {hh : List (Nat × Nat × Nat × Nat)}
theorem Cx.w (C : Cx p l s m meth c D cA b nL own mn cc ret hh) {w : Cond} (hw : w ∈ g_ws) (ho : w.onTables = true) (a : Array Value) : w.before a s = true := va_tabs ho rfl (C.2.2.2.2.1.1 w hw)
theorem Cx.ws (C : Cx p l s m meth c D cA b nL own mn cc ret hh) {ws : List Cond} (hw : ∀ w ∈ ws, w ∈ g_ws) (ho : ∀ w ∈ ws, w.onTables = true) (a : Array Value) : ∀ w ∈ ws, w.before a s = true := fun w h => C.w (hw w h) (ho w h) a
theorem u_ws_on (C : String) (T : u_T) (N : Nat) : ∀ w ∈ u_ws C T N, w.onTables = true := by
  intro w hw
  obtain ⟨k, -, rfl⟩ := List.mem_map.mp hw
  unfold u_lay
  split <;> rfl
theorem Hp.obj {H : Heap} (hp : Hp D cA b n h H) {a : Nat} (ha : a < n) {x : AC} (hx : h a = x) : (wO b cA n h)[a]? = some (b + a, toE b cA x) := by rw [← hx]; exact wO_get ha
theorem Hp.up {H H1 : Heap} (hp : Hp D cA b n h H) {a : Nat} (ha : a < n) {x : AC} (hz : H1.size = H.size) (hP : va_P D g_cl ((wO b cA n h).set a (b + a, toE b cA x)) H1) : Hp D cA b n (hu h a x) H1 := ⟨hz.trans hp.1, by rw [← wO_set ha x]; exact hP⟩
theorem j_get (C : Cx p l s m meth c D cA b nL own mn cc ret hh) {index ci k a : Nat} {fs : List Value} {v : Value} (hF : FL own index ci k) (hd : decode cc pc = .ok (.getfield index, 3)) (ha : a < n) (hx : h a = .inr (ci, fs)) (hv : fs[k]? = some v) (kk : J p l e R s m args below meth c D cA b nL Q n h kc ks (pc + 3) L (v :: st)) : J p l e R s m args below meth c D cA b nL Q n h kc ks pc L (.ref a :: st) := by
  intro H locs ls hp hS hl
  obtain ⟨Cl, T, N, h1, h2, h3, h4⟩ := hF
  have hts := C.ws h3 (u_ws_on Cl T N) args
  have hg := hp.obj ha hx
  have hv' : (fs.map (sv b))[k]? = some (sv b v) := by rw [List.getElem?_map, hv]; rfl
  rcases h4 with h4 | ⟨host, h4⟩
  · exact va_get C.1 C.2.1 hts (fun _ q => q) C.2.2.2.1 C.2.2.2.2.1.2.1 hp.2 a hg h1 k h2 (C.w h4 rfl args) (fun _ q => q) hv' hd (kk H locs ls hp hS hl)
  · exact va_getN C.1 C.2.1 hts (fun _ q => q) C.2.2.2.1 C.2.2.2.2.1.2.1 hp.2 a hg h1 k h2 (C.w h4 rfl args) (fun _ q => q) hv' hd (kk H locs ls hp hS hl)
theorem S_put {H H1 : Heap} {locs : List Loc} {x : Loc} (hS : va_S (fun q => b ≤ q) s.heap H locs) (hz : H1.size = H.size) (oq : ∀ q, q ≠ x.base → H1[q]? = H[q]?) (hx : b ≤ x.base) : va_S (fun q => b ≤ q) s.heap H1 (locs ++ [x]) := by
  refine ⟨by rw [hz]; exact hS.1, fun q h1 h2 => ?_, fun y hy => ?_⟩
  · rw [oq q (fun e => h2 (by rw [e]; exact hx))]; exact hS.2.1 q h1 h2
  · rcases List.mem_append.mp hy with h | h
    · exact hS.2.2 y h
    · rw [List.mem_singleton] at h; subst h; exact hx
theorem j_put (C : Cx p l s m meth c D cA b nL own mn cc ret hh) {index ci k a : Nat} {ty : FieldType} {fs fs' : List Value} {v : Value} (hF : FP own index ci k false ty) (hd : decode cc pc = .ok (.putfield index, 3)) (ha : a < n) (hx : h a = .inr (ci, fs)) (hl : k < fs.length) (hn : narrow ty v = v) (hf : fits ty v = true) (hfs : fs.set k v = fs') (kk : J p l e R s m args below meth c D cA b nL Q n (hu h a (.inr (ci, fs'))) kc ks (pc + 3) L st) : J p l e R s m args below meth c D cA b nL Q n h kc ks pc L (v :: .ref a :: st) := by
  intro H locs ls hp hS hl'
  subst hfs
  obtain ⟨Cl, T, N, t0, h1, h2, h3, h4, hty, hnm, hfin, rfl, -⟩ := hF
  have hts := C.ws h3 (u_ws_on Cl T N) args
  have hg := hp.obj ha hx
  have hK := C.2.2.2.2.1.2.1
  have hap := va_apart (own := own) hts (fun _ q => q) t0 hty hnm hK h1
  obtain ⟨r, g1, cell, q1, q2, q3, q4⟩ := hp.2 a _ hg
  cases Option.some.inj (g1.symm.trans h1)
  obtain ⟨hSl, hfc, kC, hkC, hkind⟩ := hK.1 ci _ h1
  obtain ⟨cf, kf, fi, f, hi, hsl⟩ := hSl k h2
  have hlay := hts _ (u_in_lay h2)
  unfold u_lay at hlay
  rw [if_neg (by rw [hfin]; decide)] at hlay
  have hst := (u_facts hfc hkC (u_lays hts (fun _ q => q) h2) hi).1
  have h6 := u_store hfc hkC hkind hlay hi (hty k h2) (sv_narrow (b := b) hn) (sv_fits (b := b) hf)
  have go : ∀ H' : Heap, H'[b + a]? = some (cell.setSlot f.slot (sv b v)) → H'.size = H.size → (∀ q, q ≠ b + a → H'[q]? = H[q]?) → W p l e R s m args below meth c H' (locs ++ [⟨b + a, f.slot⟩]) kc ks Q (F0 m (pc + 3) ls (st.map (sv b))) := by
    intro H' e1 e2 e3
    refine kk H' _ ls (hp.up ha e2 (hp.2.set (wO_D b cA n h) hg ⟨_, h1, ?_⟩ e3)) (S_put hS e2 e3 (Nat.le_add_right b a)) hl'
    rw [hsl] at e1
    refine t_OB.to (V := updV (vp_V (fs.map (sv b))) k (sv b v)) ⟨_, e1, q2, q3, t_set q4 hap h2 (sv b v)⟩ (fun j _ => ?_)
    rw [vp_updV_set (by simpa using hl), List.map_set]
  rcases h4 with h4 | ⟨-, host, h4⟩
  · exact W.putK C.1 C.2.1 (f := f) ⟨C.2.2.2.1, C.w h4 rfl args, ⟨_, _, _, hi⟩, hst⟩ (by rw [q2]; exact h6) q1 q3 (by rw [hsl]; exact k2_hasslot (q4 k h2)) rfl rfl hd go
  · exact va_WputK C.1 C.2.1 (f := f) C.2.2.2.1 (C.w h4 rfl args) hi hst (by rw [q2]; exact h6) q1 q3 (by rw [hsl]; exact k2_hasslot (q4 k h2)) rfl rfl hd go
theorem j_putF (C : Cx p l s m meth c D cA b nL own mn cc ret hh) {index ci k a : Nat} {ty : FieldType} {fs fs' : List Value} {v : Value} (hF : FP own index ci k true ty) (hmn : mn = "<init>") (hd : decode cc pc = .ok (.putfield index, 3)) (ha : a < n) (hx : h a = .inr (ci, fs)) (hl : k < fs.length) (hn : narrow ty v = v) (hf : fits ty v = true) (hfs : fs.set k v = fs') (kk : J p l e R s m args below meth c D cA b nL Q n (hu h a (.inr (ci, fs'))) kc ks (pc + 3) L st) : J p l e R s m args below meth c D cA b nL Q n h kc ks pc L (v :: .ref a :: st) := by
  intro H locs ls hp hS hl'
  subst hfs
  obtain ⟨Cl, T, N, t0, h1, h2, h3, h4, hty, hnm, hfin, rfl, hdecl⟩ := hF
  have hts := C.ws h3 (u_ws_on Cl T N) args
  have hg := hp.obj ha hx
  have hK := C.2.2.2.2.1.2.1
  have hap := va_apart (own := own) hts (fun _ q => q) t0 hty hnm hK h1
  obtain ⟨r, g1, cell, q1, q2, q3, q4⟩ := hp.2 a _ hg
  cases Option.some.inj (g1.symm.trans h1)
  obtain ⟨hSl, hfc, kC, hkC, hkind⟩ := hK.1 ci _ h1
  obtain ⟨cf, kf, fi, f, hi, hsl⟩ := hSl k h2
  have hlay := hts _ (u_in_lay h2)
  unfold u_lay at hlay
  rw [if_pos hfin] at hlay
  have hst := (u_facts hfc hkC (u_lays hts (fun _ q => q) h2) hi).1
  have hcf : m.cls = cf := by
    obtain ⟨_, _, c', _, _, _, -, -, hf', -, -, -, hown2, -⟩ := Cond.laysFinal_spec hlay
    have e1 : c' = cf := by have := hi.symm.trans hf'; simp at this; exact this.1.symm
    rw [hdecl rfl] at hown2
    rw [← e1]; exact Option.some.inj (C.2.2.2.1.symm.trans hown2)
  have h6 := u_fits hfc hkC hkind (Or.inr hlay) hi (hty k h2) (sv_narrow (b := b) hn) (sv_fits (b := b) hf)
  have go : ∀ H' : Heap, H'[b + a]? = some (cell.setSlot f.slot (sv b v)) → H'.size = H.size → (∀ q, q ≠ b + a → H'[q]? = H[q]?) → W p l e R s m args below meth c H' (locs ++ [⟨b + a, f.slot⟩]) kc ks Q (F0 m (pc + 3) ls (st.map (sv b))) := by
    intro H' e1 e2 e3
    refine kk H' _ ls (hp.up ha e2 (hp.2.set (wO_D b cA n h) hg ⟨_, h1, ?_⟩ e3)) (S_put hS e2 e3 (Nat.le_add_right b a)) hl'
    rw [hsl] at e1
    refine t_OB.to (V := updV (vp_V (fs.map (sv b))) k (sv b v)) ⟨_, e1, q2, q3, t_set q4 hap h2 (sv b v)⟩ (fun j _ => ?_)
    rw [vp_updV_set (by simpa using hl), List.map_set]
  rcases h4 with h4 | ⟨h4, -⟩
  · exact W.putFinK C.1 C.2.1 C.2.2.2.1 (C.w h4 rfl args) hi hst hcf (C.2.2.2.2.2.2.2.2.2.trans hmn) (by rw [q2]; exact h6) q1 q3 (by rw [hsl]; exact k2_hasslot (q4 k h2)) rfl rfl hd go
  · cases h4
theorem j_iald (C : Cx p l s m meth c D cA b nL own mn cc ret hh) {t a N : Nat} {f : Nat → Int32} {i v : Int32} (hd : decode cc pc = .ok (.iaload, 1)) (ht : (g_ty cA)[t]? = some (cA t, .int)) (ha : a < n) (hx : h a = .inl (t, N, .inl f)) (hi : vp_in i N) (hv : f i.toNatClampNeg = v) (kk : J p l e R s m args below meth c D cA b nL Q n h kc ks (pc + 1) L (.int v :: st)) : J p l e R s m args below meth c D cA b nL Q n h kc ks pc L (.int i :: .ref a :: st) := by
  intro H locs ls hp hS hl
  subst hv
  exact va_iald C.1 C.2.1 C.2.2.2.2.1.2.1 hp.2 a t (hp.obj ha hx) ht hi hd (kk H locs ls hp hS hl)
theorem j_bald (C : Cx p l s m meth c D cA b nL own mn cc ret hh) {t a N : Nat} {f : Nat → Int32} {i v : Int32} (hd : decode cc pc = .ok (.baload, 1)) (ht : (g_ty cA)[t]? = some (cA t, .byte)) (ha : a < n) (hx : h a = .inl (t, N, .inl f)) (hi : vp_in i N) (hv : f i.toNatClampNeg = v) (kk : J p l e R s m args below meth c D cA b nL Q n h kc ks (pc + 1) L (.int v :: st)) : J p l e R s m args below meth c D cA b nL Q n h kc ks pc L (.int i :: .ref a :: st) := by
  intro H locs ls hp hS hl
  subst hv
  exact va_bald C.1 C.2.1 C.2.2.2.2.1.2.1 hp.2 a t (hp.obj ha hx) ht hi hd (kk H locs ls hp hS hl)
theorem j_zald (C : Cx p l s m meth c D cA b nL own mn cc ret hh) {t a N : Nat} {f : Nat → Int32} {i v : Int32} (hd : decode cc pc = .ok (.baload, 1)) (ht : (g_ty cA)[t]? = some (cA t, .boolean)) (ha : a < n) (hx : h a = .inl (t, N, .inl f)) (hi : vp_in i N) (hv : f i.toNatClampNeg = v) (kk : J p l e R s m args below meth c D cA b nL Q n h kc ks (pc + 1) L (.int v :: st)) : J p l e R s m args below meth c D cA b nL Q n h kc ks pc L (.int i :: .ref a :: st) := by
  intro H locs ls hp hS hl
  subst hv
  exact va_zald C.1 C.2.1 C.2.2.2.2.1.2.1 hp.2 a t (hp.obj ha hx) ht hi hd (kk H locs ls hp hS hl)
theorem j_cald (C : Cx p l s m meth c D cA b nL own mn cc ret hh) {t a N : Nat} {f : Nat → Int32} {i v : Int32} (hd : decode cc pc = .ok (.caload, 1)) (ht : (g_ty cA)[t]? = some (cA t, .char)) (ha : a < n) (hx : h a = .inl (t, N, .inl f)) (hi : vp_in i N) (hv : f i.toNatClampNeg = v) (kk : J p l e R s m args below meth c D cA b nL Q n h kc ks (pc + 1) L (.int v :: st)) : J p l e R s m args below meth c D cA b nL Q n h kc ks pc L (.int i :: .ref a :: st) := by
  intro H locs ls hp hS hl
  subst hv
  exact va_cald C.1 C.2.1 C.2.2.2.2.1.2.1 hp.2 a t (hp.obj ha hx) ht hi hd (kk H locs ls hp hS hl)
theorem j_iast (C : Cx p l s m meth c D cA b nL own mn cc ret hh) {t a N : Nat} {f f' : Nat → Int32} {i x : Int32} (hd : decode cc pc = .ok (.iastore, 1)) (ht : (g_ty cA)[t]? = some (cA t, .int)) (ha : a < n) (hx : h a = .inl (t, N, .inl f)) (hi : vp_in i N) (hf : upd f i.toNatClampNeg x = f') (kk : J p l e R s m args below meth c D cA b nL Q n (hu h a (.inl (t, N, .inl f'))) kc ks (pc + 1) L st) : J p l e R s m args below meth c D cA b nL Q n h kc ks pc L (.int x :: .int i :: .ref a :: st) := by
  intro H locs ls hp hS hl
  subst hf
  have hg := hp.obj ha hx
  refine W.iast C.1 C.2.1 (hp.2 a _ hg) ((C.2.2.2.2.1.2.1.2 t _ ht).1 N (fun j => .int (f j))) (fun q => by cases q) (by show ¬ (i < 0 ∨ (arrV _ _ _).slots.size ≤ _); rw [arrV_size]; exact hi) rfl rfl hd fun H1 e z oq => ?_
  refine kk H1 _ ls (hp.up ha z (hp.2.set (wO_D b cA n h) hg ?_ oq)) (S_put hS z oq (Nat.le_add_right b a)) hl
  show H1[b + a]? = some (vp_cell _ _)
  rw [e]
  show some ((arrV (cA t) N (fun j => .int (f j))).setSlot i.toNatClampNeg _) = some (arrV (cA t) N (fun j => .int (upd f i.toNatClampNeg x j)))
  rw [arrV_store]
  congr 2
  funext q
  by_cases hq : q = i.toNatClampNeg
  · subst hq
    simp [updV, upd, vp_nar]
    try rfl
  · simp [updV, upd, hq]
theorem j_bast (C : Cx p l s m meth c D cA b nL own mn cc ret hh) {t a N : Nat} {f f' : Nat → Int32} {i x : Int32} (hd : decode cc pc = .ok (.bastore, 1)) (ht : (g_ty cA)[t]? = some (cA t, .byte)) (ha : a < n) (hx : h a = .inl (t, N, .inl f)) (hi : vp_in i N) (hf : upd f i.toNatClampNeg (vp_nar .byte x) = f') (kk : J p l e R s m args below meth c D cA b nL Q n (hu h a (.inl (t, N, .inl f'))) kc ks (pc + 1) L st) : J p l e R s m args below meth c D cA b nL Q n h kc ks pc L (.int x :: .int i :: .ref a :: st) := by
  intro H locs ls hp hS hl
  subst hf
  have hg := hp.obj ha hx
  refine W.bast C.1 C.2.1 (hp.2 a _ hg) ((C.2.2.2.2.1.2.1.2 t _ ht).1 N (fun j => .int (f j))) (fun q => by cases q) (by show ¬ (i < 0 ∨ (arrV _ _ _).slots.size ≤ _); rw [arrV_size]; exact hi) rfl rfl hd fun H1 e z oq => ?_
  refine kk H1 _ ls (hp.up ha z (hp.2.set (wO_D b cA n h) hg ?_ oq)) (S_put hS z oq (Nat.le_add_right b a)) hl
  show H1[b + a]? = some (vp_cell _ _)
  rw [e]
  show some ((arrV (cA t) N (fun j => .int (f j))).setSlot i.toNatClampNeg _) = some (arrV (cA t) N (fun j => .int (upd f i.toNatClampNeg (vp_nar .byte x) j)))
  rw [arrV_store]
  congr 2
  funext q
  by_cases hq : q = i.toNatClampNeg
  · subst hq
    simp [updV, upd, vp_nar]
    try rfl
  · simp [updV, upd, hq]
theorem j_zast (C : Cx p l s m meth c D cA b nL own mn cc ret hh) {t a N : Nat} {f f' : Nat → Int32} {i x : Int32} (hd : decode cc pc = .ok (.bastore, 1)) (ht : (g_ty cA)[t]? = some (cA t, .boolean)) (ha : a < n) (hx : h a = .inl (t, N, .inl f)) (hi : vp_in i N) (hf : upd f i.toNatClampNeg (vp_nar .boolean x) = f') (kk : J p l e R s m args below meth c D cA b nL Q n (hu h a (.inl (t, N, .inl f'))) kc ks (pc + 1) L st) : J p l e R s m args below meth c D cA b nL Q n h kc ks pc L (.int x :: .int i :: .ref a :: st) := by
  intro H locs ls hp hS hl
  subst hf
  have hg := hp.obj ha hx
  refine W.zast C.1 C.2.1 (hp.2 a _ hg) ((C.2.2.2.2.1.2.1.2 t _ ht).1 N (fun j => .int (f j))) (fun q => by cases q) (by show ¬ (i < 0 ∨ (arrV _ _ _).slots.size ≤ _); rw [arrV_size]; exact hi) rfl rfl hd fun H1 e z oq => ?_
  refine kk H1 _ ls (hp.up ha z (hp.2.set (wO_D b cA n h) hg ?_ oq)) (S_put hS z oq (Nat.le_add_right b a)) hl
  show H1[b + a]? = some (vp_cell _ _)
  rw [e]
  show some ((arrV (cA t) N (fun j => .int (f j))).setSlot i.toNatClampNeg _) = some (arrV (cA t) N (fun j => .int (upd f i.toNatClampNeg (vp_nar .boolean x) j)))
  rw [arrV_store]
  congr 2
  funext q
  by_cases hq : q = i.toNatClampNeg
  · subst hq
    simp [updV, upd, vp_nar]
    try rfl
  · simp [updV, upd, hq]
theorem j_cast (C : Cx p l s m meth c D cA b nL own mn cc ret hh) {t a N : Nat} {f f' : Nat → Int32} {i x : Int32} (hd : decode cc pc = .ok (.castore, 1)) (ht : (g_ty cA)[t]? = some (cA t, .char)) (ha : a < n) (hx : h a = .inl (t, N, .inl f)) (hi : vp_in i N) (hf : upd f i.toNatClampNeg (vp_nar .char x) = f') (kk : J p l e R s m args below meth c D cA b nL Q n (hu h a (.inl (t, N, .inl f'))) kc ks (pc + 1) L st) : J p l e R s m args below meth c D cA b nL Q n h kc ks pc L (.int x :: .int i :: .ref a :: st) := by
  intro H locs ls hp hS hl
  subst hf
  have hg := hp.obj ha hx
  refine W.cast C.1 C.2.1 (hp.2 a _ hg) ((C.2.2.2.2.1.2.1.2 t _ ht).1 N (fun j => .int (f j))) (fun q => by cases q) (by show ¬ (i < 0 ∨ (arrV _ _ _).slots.size ≤ _); rw [arrV_size]; exact hi) rfl rfl hd fun H1 e z oq => ?_
  refine kk H1 _ ls (hp.up ha z (hp.2.set (wO_D b cA n h) hg ?_ oq)) (S_put hS z oq (Nat.le_add_right b a)) hl
  show H1[b + a]? = some (vp_cell _ _)
  rw [e]
  show some ((arrV (cA t) N (fun j => .int (f j))).setSlot i.toNatClampNeg _) = some (arrV (cA t) N (fun j => .int (upd f i.toNatClampNeg (vp_nar .char x) j)))
  rw [arrV_store]
  congr 2
  funext q
  by_cases hq : q = i.toNatClampNeg
  · subst hq
    simp [updV, upd, vp_nar]
    try rfl
  · simp [updV, upd, hq]
theorem j_alen (C : Cx p l s m meth c D cA b nL own mn cc ret hh) {t a : Nat} {x : vp_A} {ty : FieldType} {v : Int32} (hd : decode cc pc = .ok (.arraylength, 1)) (ht : (g_ty cA)[t]? = some (cA t, ty)) (ha : a < n) (hx : h a = .inl (t, x)) (hv : Int32.ofNat x.1 = v) (kk : J p l e R s m args below meth c D cA b nL Q n h kc ks (pc + 1) L (.int v :: st)) : J p l e R s m args below meth c D cA b nL Q n h kc ks pc L (.ref a :: st) := by
  intro H locs ls hp hS hl
  refine va_alen C.1 C.2.1 C.2.2.2.2.1.2.1 hp.2 a t (hp.obj ha hx) ht ?_ hd (kk H locs ls hp hS hl)
  rw [← hv]
  obtain ⟨N, f | f | f | f | f⟩ := x <;> rfl
end JM
end
section
/-! ===== the fields as each class's entries name them: printed by program ===== -/
theorem fl_1_18 : FL cR1 18 1 0 := ⟨cR1, cT1, 3, rfl, by decide, cw1, Or.inl (g_in (List.mem_of_getElem? (i := 90) (by decide +kernel)) (by decide +kernel))⟩
theorem fp_1_18 : FP cR1 18 1 0 true (.array .byte) := ⟨cR1, cT1, 3, ct1, rfl, by decide, cw1, Or.inl (g_in (List.mem_of_getElem? (i := 90) (by decide +kernel)) (by decide +kernel)), cp1, cn1, rfl, rfl, fun _ => rfl⟩
theorem fl_1_9 : FL cR1 9 1 1 := ⟨cR1, cT1, 3, rfl, by decide, cw1, Or.inl (g_in (List.mem_of_getElem? (i := 91) (by decide +kernel)) (by decide +kernel))⟩
theorem fp_1_9 : FP cR1 9 1 1 false .int := ⟨cR1, cT1, 3, ct1, rfl, by decide, cw1, Or.inl (g_in (List.mem_of_getElem? (i := 91) (by decide +kernel)) (by decide +kernel)), cp1, cn1, rfl, rfl, fun h => by cases h⟩
theorem fl_1_15 : FL cR1 15 1 2 := ⟨cR1, cT1, 3, rfl, by decide, cw1, Or.inl (g_in (List.mem_of_getElem? (i := 92) (by decide +kernel)) (by decide +kernel))⟩
theorem fp_1_15 : FP cR1 15 1 2 false .int := ⟨cR1, cT1, 3, ct1, rfl, by decide, cw1, Or.inl (g_in (List.mem_of_getElem? (i := 92) (by decide +kernel)) (by decide +kernel)), cp1, cn1, rfl, rfl, fun h => by cases h⟩
theorem fl_2_9 : FL cR2 9 2 0 := ⟨cR2, cT2, 7, rfl, by decide, cw2, Or.inl (g_in (List.mem_of_getElem? (i := 108) (by decide +kernel)) (by decide +kernel))⟩
theorem fp_2_9 : FP cR2 9 2 0 false .int := ⟨cR2, cT2, 7, ct2, rfl, by decide, cw2, Or.inl (g_in (List.mem_of_getElem? (i := 108) (by decide +kernel)) (by decide +kernel)), cp2, cn2, rfl, rfl, fun h => by cases h⟩
theorem fl_1_28 : FL cR1 28 2 0 := ⟨cR2, cT2, 7, rfl, by decide, cw2, Or.inr ⟨"ReportChecks2", g_in (List.mem_of_getElem? (i := 109) (by decide +kernel)) (by decide +kernel)⟩⟩
theorem fp_1_28 : FP cR1 28 2 0 false .int := ⟨cR2, cT2, 7, ct2, rfl, by decide, cw2, Or.inr ⟨rfl, "ReportChecks2", g_in (List.mem_of_getElem? (i := 109) (by decide +kernel)) (by decide +kernel)⟩, cp2, cn2, rfl, rfl, fun h => by cases h⟩
theorem fl_0_157 : FL cR0 157 2 0 := ⟨cR2, cT2, 7, rfl, by decide, cw2, Or.inr ⟨"ReportChecks2", g_in (List.mem_of_getElem? (i := 110) (by decide +kernel)) (by decide +kernel)⟩⟩
theorem fp_0_157 : FP cR0 157 2 0 false .int := ⟨cR2, cT2, 7, ct2, rfl, by decide, cw2, Or.inr ⟨rfl, "ReportChecks2", g_in (List.mem_of_getElem? (i := 110) (by decide +kernel)) (by decide +kernel)⟩, cp2, cn2, rfl, rfl, fun h => by cases h⟩
theorem fl_2_15 : FL cR2 15 2 1 := ⟨cR2, cT2, 7, rfl, by decide, cw2, Or.inl (g_in (List.mem_of_getElem? (i := 111) (by decide +kernel)) (by decide +kernel))⟩
theorem fp_2_15 : FP cR2 15 2 1 true (.array .char) := ⟨cR2, cT2, 7, ct2, rfl, by decide, cw2, Or.inl (g_in (List.mem_of_getElem? (i := 111) (by decide +kernel)) (by decide +kernel)), cp2, cn2, rfl, rfl, fun _ => rfl⟩
theorem fl_1_51 : FL cR1 51 2 1 := ⟨cR2, cT2, 7, rfl, by decide, cw2, Or.inr ⟨"ReportChecks2", g_in (List.mem_of_getElem? (i := 112) (by decide +kernel)) (by decide +kernel)⟩⟩
theorem fl_2_19 : FL cR2 19 2 2 := ⟨cR2, cT2, 7, rfl, by decide, cw2, Or.inl (g_in (List.mem_of_getElem? (i := 113) (by decide +kernel)) (by decide +kernel))⟩
theorem fp_2_19 : FP cR2 19 2 2 true (.array .int) := ⟨cR2, cT2, 7, ct2, rfl, by decide, cw2, Or.inl (g_in (List.mem_of_getElem? (i := 113) (by decide +kernel)) (by decide +kernel)), cp2, cn2, rfl, rfl, fun _ => rfl⟩
theorem fl_2_23 : FL cR2 23 2 3 := ⟨cR2, cT2, 7, rfl, by decide, cw2, Or.inl (g_in (List.mem_of_getElem? (i := 114) (by decide +kernel)) (by decide +kernel))⟩
theorem fp_2_23 : FP cR2 23 2 3 true (.array .int) := ⟨cR2, cT2, 7, ct2, rfl, by decide, cw2, Or.inl (g_in (List.mem_of_getElem? (i := 114) (by decide +kernel)) (by decide +kernel)), cp2, cn2, rfl, rfl, fun _ => rfl⟩
theorem fl_2_26 : FL cR2 26 2 4 := ⟨cR2, cT2, 7, rfl, by decide, cw2, Or.inl (g_in (List.mem_of_getElem? (i := 115) (by decide +kernel)) (by decide +kernel))⟩
theorem fp_2_26 : FP cR2 26 2 4 true (.array .int) := ⟨cR2, cT2, 7, ct2, rfl, by decide, cw2, Or.inl (g_in (List.mem_of_getElem? (i := 115) (by decide +kernel)) (by decide +kernel)), cp2, cn2, rfl, rfl, fun _ => rfl⟩
theorem fl_2_29 : FL cR2 29 2 5 := ⟨cR2, cT2, 7, rfl, by decide, cw2, Or.inl (g_in (List.mem_of_getElem? (i := 116) (by decide +kernel)) (by decide +kernel))⟩
theorem fp_2_29 : FP cR2 29 2 5 true (.array .int) := ⟨cR2, cT2, 7, ct2, rfl, by decide, cw2, Or.inl (g_in (List.mem_of_getElem? (i := 116) (by decide +kernel)) (by decide +kernel)), cp2, cn2, rfl, rfl, fun _ => rfl⟩
theorem fl_2_32 : FL cR2 32 2 6 := ⟨cR2, cT2, 7, rfl, by decide, cw2, Or.inl (g_in (List.mem_of_getElem? (i := 117) (by decide +kernel)) (by decide +kernel))⟩
theorem fp_2_32 : FP cR2 32 2 6 true (.array .boolean) := ⟨cR2, cT2, 7, ct2, rfl, by decide, cw2, Or.inl (g_in (List.mem_of_getElem? (i := 117) (by decide +kernel)) (by decide +kernel)), cp2, cn2, rfl, rfl, fun _ => rfl⟩
theorem fl_3_9 : FL cR3 9 3 0 := ⟨cR3, cT3, 3, rfl, by decide, cw3, Or.inl (g_in (List.mem_of_getElem? (i := 141) (by decide +kernel)) (by decide +kernel))⟩
theorem fp_3_9 : FP cR3 9 3 0 true (.array .int) := ⟨cR3, cT3, 3, ct3, rfl, by decide, cw3, Or.inl (g_in (List.mem_of_getElem? (i := 141) (by decide +kernel)) (by decide +kernel)), cp3, cn3, rfl, rfl, fun _ => rfl⟩
theorem fl_0_167 : FL cR0 167 3 0 := ⟨cR3, cT3, 3, rfl, by decide, cw3, Or.inr ⟨"ReportChecks2", g_in (List.mem_of_getElem? (i := 142) (by decide +kernel)) (by decide +kernel)⟩⟩
theorem fl_3_15 : FL cR3 15 3 1 := ⟨cR3, cT3, 3, rfl, by decide, cw3, Or.inl (g_in (List.mem_of_getElem? (i := 143) (by decide +kernel)) (by decide +kernel))⟩
theorem fp_3_15 : FP cR3 15 3 1 true (.array .int) := ⟨cR3, cT3, 3, ct3, rfl, by decide, cw3, Or.inl (g_in (List.mem_of_getElem? (i := 143) (by decide +kernel)) (by decide +kernel)), cp3, cn3, rfl, rfl, fun _ => rfl⟩
theorem fl_0_170 : FL cR0 170 3 1 := ⟨cR3, cT3, 3, rfl, by decide, cw3, Or.inr ⟨"ReportChecks2", g_in (List.mem_of_getElem? (i := 144) (by decide +kernel)) (by decide +kernel)⟩⟩
theorem fl_3_18 : FL cR3 18 3 2 := ⟨cR3, cT3, 3, rfl, by decide, cw3, Or.inl (g_in (List.mem_of_getElem? (i := 145) (by decide +kernel)) (by decide +kernel))⟩
theorem fp_3_18 : FP cR3 18 3 2 false .int := ⟨cR3, cT3, 3, ct3, rfl, by decide, cw3, Or.inl (g_in (List.mem_of_getElem? (i := 145) (by decide +kernel)) (by decide +kernel)), cp3, cn3, rfl, rfl, fun h => by cases h⟩
theorem fl_0_164 : FL cR0 164 3 2 := ⟨cR3, cT3, 3, rfl, by decide, cw3, Or.inr ⟨"ReportChecks2", g_in (List.mem_of_getElem? (i := 146) (by decide +kernel)) (by decide +kernel)⟩⟩
theorem fp_0_164 : FP cR0 164 3 2 false .int := ⟨cR3, cT3, 3, ct3, rfl, by decide, cw3, Or.inr ⟨rfl, "ReportChecks2", g_in (List.mem_of_getElem? (i := 146) (by decide +kernel)) (by decide +kernel)⟩, cp3, cn3, rfl, rfl, fun h => by cases h⟩
theorem fl_4_9 : FL cR4 9 4 0 := ⟨cR4, cT4, 2, rfl, by decide, cw4, Or.inl (g_in (List.mem_of_getElem? (i := 160) (by decide +kernel)) (by decide +kernel))⟩
theorem fp_4_9 : FP cR4 9 4 0 true (.array .byte) := ⟨cR4, cT4, 2, ct4, rfl, by decide, cw4, Or.inl (g_in (List.mem_of_getElem? (i := 160) (by decide +kernel)) (by decide +kernel)), cp4, cn4, rfl, rfl, fun _ => rfl⟩
theorem fl_0_218 : FL cR0 218 4 0 := ⟨cR4, cT4, 2, rfl, by decide, cw4, Or.inr ⟨"ReportChecks2", g_in (List.mem_of_getElem? (i := 161) (by decide +kernel)) (by decide +kernel)⟩⟩
theorem fl_4_15 : FL cR4 15 4 1 := ⟨cR4, cT4, 2, rfl, by decide, cw4, Or.inl (g_in (List.mem_of_getElem? (i := 162) (by decide +kernel)) (by decide +kernel))⟩
theorem fp_4_15 : FP cR4 15 4 1 false .int := ⟨cR4, cT4, 2, ct4, rfl, by decide, cw4, Or.inl (g_in (List.mem_of_getElem? (i := 162) (by decide +kernel)) (by decide +kernel)), cp4, cn4, rfl, rfl, fun h => by cases h⟩
theorem fl_0_213 : FL cR0 213 4 1 := ⟨cR4, cT4, 2, rfl, by decide, cw4, Or.inr ⟨"ReportChecks2", g_in (List.mem_of_getElem? (i := 163) (by decide +kernel)) (by decide +kernel)⟩⟩
theorem fp_0_213 : FP cR0 213 4 1 false .int := ⟨cR4, cT4, 2, ct4, rfl, by decide, cw4, Or.inr ⟨rfl, "ReportChecks2", g_in (List.mem_of_getElem? (i := 163) (by decide +kernel)) (by decide +kernel)⟩, cp4, cn4, rfl, rfl, fun h => by cases h⟩
theorem fl_0_11 : FL cR0 11 0 0 := ⟨cR0, cT0, 14, rfl, by decide, cw0, Or.inl (g_in (List.mem_of_getElem? (i := 169) (by decide +kernel)) (by decide +kernel))⟩
theorem fp_0_11 : FP cR0 11 0 0 true (.array (.object "ReportChecks2$Report")) := ⟨cR0, cT0, 14, ct0, rfl, by decide, cw0, Or.inl (g_in (List.mem_of_getElem? (i := 169) (by decide +kernel)) (by decide +kernel)), cp0, cn0, rfl, rfl, fun _ => rfl⟩
theorem fl_0_15 : FL cR0 15 0 1 := ⟨cR0, cT0, 14, rfl, by decide, cw0, Or.inl (g_in (List.mem_of_getElem? (i := 170) (by decide +kernel)) (by decide +kernel))⟩
theorem fp_0_15 : FP cR0 15 0 1 false .int := ⟨cR0, cT0, 14, ct0, rfl, by decide, cw0, Or.inl (g_in (List.mem_of_getElem? (i := 170) (by decide +kernel)) (by decide +kernel)), cp0, cn0, rfl, rfl, fun h => by cases h⟩
theorem fl_0_19 : FL cR0 19 0 2 := ⟨cR0, cT0, 14, rfl, by decide, cw0, Or.inl (g_in (List.mem_of_getElem? (i := 171) (by decide +kernel)) (by decide +kernel))⟩
theorem fp_0_19 : FP cR0 19 0 2 true (.array .int) := ⟨cR0, cT0, 14, ct0, rfl, by decide, cw0, Or.inl (g_in (List.mem_of_getElem? (i := 171) (by decide +kernel)) (by decide +kernel)), cp0, cn0, rfl, rfl, fun _ => rfl⟩
theorem fl_0_23 : FL cR0 23 0 3 := ⟨cR0, cT0, 14, rfl, by decide, cw0, Or.inl (g_in (List.mem_of_getElem? (i := 172) (by decide +kernel)) (by decide +kernel))⟩
theorem fp_0_23 : FP cR0 23 0 3 true (.array .int) := ⟨cR0, cT0, 14, ct0, rfl, by decide, cw0, Or.inl (g_in (List.mem_of_getElem? (i := 172) (by decide +kernel)) (by decide +kernel)), cp0, cn0, rfl, rfl, fun _ => rfl⟩
theorem fl_0_26 : FL cR0 26 0 4 := ⟨cR0, cT0, 14, rfl, by decide, cw0, Or.inl (g_in (List.mem_of_getElem? (i := 173) (by decide +kernel)) (by decide +kernel))⟩
theorem fp_0_26 : FP cR0 26 0 4 false .int := ⟨cR0, cT0, 14, ct0, rfl, by decide, cw0, Or.inl (g_in (List.mem_of_getElem? (i := 173) (by decide +kernel)) (by decide +kernel)), cp0, cn0, rfl, rfl, fun h => by cases h⟩
theorem fl_0_29 : FL cR0 29 0 5 := ⟨cR0, cT0, 14, rfl, by decide, cw0, Or.inl (g_in (List.mem_of_getElem? (i := 174) (by decide +kernel)) (by decide +kernel))⟩
theorem fp_0_29 : FP cR0 29 0 5 true (.array .byte) := ⟨cR0, cT0, 14, ct0, rfl, by decide, cw0, Or.inl (g_in (List.mem_of_getElem? (i := 174) (by decide +kernel)) (by decide +kernel)), cp0, cn0, rfl, rfl, fun _ => rfl⟩
theorem fl_0_33 : FL cR0 33 0 6 := ⟨cR0, cT0, 14, rfl, by decide, cw0, Or.inl (g_in (List.mem_of_getElem? (i := 175) (by decide +kernel)) (by decide +kernel))⟩
theorem fp_0_33 : FP cR0 33 0 6 false .int := ⟨cR0, cT0, 14, ct0, rfl, by decide, cw0, Or.inl (g_in (List.mem_of_getElem? (i := 175) (by decide +kernel)) (by decide +kernel)), cp0, cn0, rfl, rfl, fun h => by cases h⟩
theorem fl_0_41 : FL cR0 41 0 7 := ⟨cR0, cT0, 14, rfl, by decide, cw0, Or.inl (g_in (List.mem_of_getElem? (i := 176) (by decide +kernel)) (by decide +kernel))⟩
theorem fp_0_41 : FP cR0 41 0 7 true (.object "ReportChecks2$RuleReader") := ⟨cR0, cT0, 14, ct0, rfl, by decide, cw0, Or.inl (g_in (List.mem_of_getElem? (i := 176) (by decide +kernel)) (by decide +kernel)), cp0, cn0, rfl, rfl, fun _ => rfl⟩
theorem fl_0_48 : FL cR0 48 0 8 := ⟨cR0, cT0, 14, rfl, by decide, cw0, Or.inl (g_in (List.mem_of_getElem? (i := 177) (by decide +kernel)) (by decide +kernel))⟩
theorem fp_0_48 : FP cR0 48 0 8 false (.object "ReportChecks2$RuleBook") := ⟨cR0, cT0, 14, ct0, rfl, by decide, cw0, Or.inl (g_in (List.mem_of_getElem? (i := 177) (by decide +kernel)) (by decide +kernel)), cp0, cn0, rfl, rfl, fun h => by cases h⟩
theorem fl_0_52 : FL cR0 52 0 9 := ⟨cR0, cT0, 14, rfl, by decide, cw0, Or.inl (g_in (List.mem_of_getElem? (i := 178) (by decide +kernel)) (by decide +kernel))⟩
theorem fp_0_52 : FP cR0 52 0 9 false (.object "ReportChecks2$RuleBook") := ⟨cR0, cT0, 14, ct0, rfl, by decide, cw0, Or.inl (g_in (List.mem_of_getElem? (i := 178) (by decide +kernel)) (by decide +kernel)), cp0, cn0, rfl, rfl, fun h => by cases h⟩
theorem fl_0_55 : FL cR0 55 0 10 := ⟨cR0, cT0, 14, rfl, by decide, cw0, Or.inl (g_in (List.mem_of_getElem? (i := 179) (by decide +kernel)) (by decide +kernel))⟩
theorem fp_0_55 : FP cR0 55 0 10 false .int := ⟨cR0, cT0, 14, ct0, rfl, by decide, cw0, Or.inl (g_in (List.mem_of_getElem? (i := 179) (by decide +kernel)) (by decide +kernel)), cp0, cn0, rfl, rfl, fun h => by cases h⟩
theorem fl_0_61 : FL cR0 61 0 11 := ⟨cR0, cT0, 14, rfl, by decide, cw0, Or.inl (g_in (List.mem_of_getElem? (i := 180) (by decide +kernel)) (by decide +kernel))⟩
theorem fp_0_61 : FP cR0 61 0 11 true (.object "ReportChecks2$Findings") := ⟨cR0, cT0, 14, ct0, rfl, by decide, cw0, Or.inl (g_in (List.mem_of_getElem? (i := 180) (by decide +kernel)) (by decide +kernel)), cp0, cn0, rfl, rfl, fun _ => rfl⟩
theorem fl_0_65 : FL cR0 65 0 12 := ⟨cR0, cT0, 14, rfl, by decide, cw0, Or.inl (g_in (List.mem_of_getElem? (i := 181) (by decide +kernel)) (by decide +kernel))⟩
theorem fp_0_65 : FP cR0 65 0 12 true (.object "ReportChecks2$Findings") := ⟨cR0, cT0, 14, ct0, rfl, by decide, cw0, Or.inl (g_in (List.mem_of_getElem? (i := 181) (by decide +kernel)) (by decide +kernel)), cp0, cn0, rfl, rfl, fun _ => rfl⟩
theorem fl_0_71 : FL cR0 71 0 13 := ⟨cR0, cT0, 14, rfl, by decide, cw0, Or.inl (g_in (List.mem_of_getElem? (i := 182) (by decide +kernel)) (by decide +kernel))⟩
theorem fp_0_71 : FP cR0 71 0 13 true (.object "ReportChecks2$CodeText") := ⟨cR0, cT0, 14, ct0, rfl, by decide, cw0, Or.inl (g_in (List.mem_of_getElem? (i := 182) (by decide +kernel)) (by decide +kernel)), cp0, cn0, rfl, rfl, fun _ => rfl⟩
theorem fl_5_34 : FL cR5 34 5 0 := ⟨cR5, cT5, 11, rfl, by decide, cw5, Or.inl (g_in (List.mem_of_getElem? (i := 338) (by decide +kernel)) (by decide +kernel))⟩
theorem fp_5_34 : FP cR5 34 5 0 true .int := ⟨cR5, cT5, 11, ct5, rfl, by decide, cw5, Or.inl (g_in (List.mem_of_getElem? (i := 338) (by decide +kernel)) (by decide +kernel)), cp5, cn5, rfl, rfl, fun _ => rfl⟩
theorem fl_4_23 : FL cR4 23 5 0 := ⟨cR5, cT5, 11, rfl, by decide, cw5, Or.inr ⟨"ReportChecks2", g_in (List.mem_of_getElem? (i := 339) (by decide +kernel)) (by decide +kernel)⟩⟩
theorem fl_0_192 : FL cR0 192 5 0 := ⟨cR5, cT5, 11, rfl, by decide, cw5, Or.inr ⟨"ReportChecks2", g_in (List.mem_of_getElem? (i := 340) (by decide +kernel)) (by decide +kernel)⟩⟩
theorem fl_5_37 : FL cR5 37 5 1 := ⟨cR5, cT5, 11, rfl, by decide, cw5, Or.inl (g_in (List.mem_of_getElem? (i := 341) (by decide +kernel)) (by decide +kernel))⟩
theorem fp_5_37 : FP cR5 37 5 1 true .int := ⟨cR5, cT5, 11, ct5, rfl, by decide, cw5, Or.inl (g_in (List.mem_of_getElem? (i := 341) (by decide +kernel)) (by decide +kernel)), cp5, cn5, rfl, rfl, fun _ => rfl⟩
theorem fl_0_195 : FL cR0 195 5 1 := ⟨cR5, cT5, 11, rfl, by decide, cw5, Or.inr ⟨"ReportChecks2", g_in (List.mem_of_getElem? (i := 342) (by decide +kernel)) (by decide +kernel)⟩⟩
theorem fl_5_40 : FL cR5 40 5 2 := ⟨cR5, cT5, 11, rfl, by decide, cw5, Or.inl (g_in (List.mem_of_getElem? (i := 343) (by decide +kernel)) (by decide +kernel))⟩
theorem fp_5_40 : FP cR5 40 5 2 true .int := ⟨cR5, cT5, 11, ct5, rfl, by decide, cw5, Or.inl (g_in (List.mem_of_getElem? (i := 343) (by decide +kernel)) (by decide +kernel)), cp5, cn5, rfl, rfl, fun _ => rfl⟩
theorem fl_0_236 : FL cR0 236 5 2 := ⟨cR5, cT5, 11, rfl, by decide, cw5, Or.inr ⟨"ReportChecks2", g_in (List.mem_of_getElem? (i := 344) (by decide +kernel)) (by decide +kernel)⟩⟩
theorem fl_5_43 : FL cR5 43 5 3 := ⟨cR5, cT5, 11, rfl, by decide, cw5, Or.inl (g_in (List.mem_of_getElem? (i := 345) (by decide +kernel)) (by decide +kernel))⟩
theorem fp_5_43 : FP cR5 43 5 3 true .int := ⟨cR5, cT5, 11, ct5, rfl, by decide, cw5, Or.inl (g_in (List.mem_of_getElem? (i := 345) (by decide +kernel)) (by decide +kernel)), cp5, cn5, rfl, rfl, fun _ => rfl⟩
theorem fl_0_249 : FL cR0 249 5 3 := ⟨cR5, cT5, 11, rfl, by decide, cw5, Or.inr ⟨"ReportChecks2", g_in (List.mem_of_getElem? (i := 346) (by decide +kernel)) (by decide +kernel)⟩⟩
theorem fl_5_9 : FL cR5 9 5 4 := ⟨cR5, cT5, 11, rfl, by decide, cw5, Or.inl (g_in (List.mem_of_getElem? (i := 347) (by decide +kernel)) (by decide +kernel))⟩
theorem fp_5_9 : FP cR5 9 5 4 true (.array .int) := ⟨cR5, cT5, 11, ct5, rfl, by decide, cw5, Or.inl (g_in (List.mem_of_getElem? (i := 347) (by decide +kernel)) (by decide +kernel)), cp5, cn5, rfl, rfl, fun _ => rfl⟩
theorem fl_4_38 : FL cR4 38 5 4 := ⟨cR5, cT5, 11, rfl, by decide, cw5, Or.inr ⟨"ReportChecks2", g_in (List.mem_of_getElem? (i := 348) (by decide +kernel)) (by decide +kernel)⟩⟩
theorem fl_2_49 : FL cR2 49 5 4 := ⟨cR5, cT5, 11, rfl, by decide, cw5, Or.inr ⟨"ReportChecks2", g_in (List.mem_of_getElem? (i := 349) (by decide +kernel)) (by decide +kernel)⟩⟩
theorem fl_0_257 : FL cR0 257 5 4 := ⟨cR5, cT5, 11, rfl, by decide, cw5, Or.inr ⟨"ReportChecks2", g_in (List.mem_of_getElem? (i := 350) (by decide +kernel)) (by decide +kernel)⟩⟩
theorem fl_5_15 : FL cR5 15 5 5 := ⟨cR5, cT5, 11, rfl, by decide, cw5, Or.inl (g_in (List.mem_of_getElem? (i := 351) (by decide +kernel)) (by decide +kernel))⟩
theorem fp_5_15 : FP cR5 15 5 5 false .int := ⟨cR5, cT5, 11, ct5, rfl, by decide, cw5, Or.inl (g_in (List.mem_of_getElem? (i := 351) (by decide +kernel)) (by decide +kernel)), cp5, cn5, rfl, rfl, fun h => by cases h⟩
theorem fl_4_31 : FL cR4 31 5 5 := ⟨cR5, cT5, 11, rfl, by decide, cw5, Or.inr ⟨"ReportChecks2", g_in (List.mem_of_getElem? (i := 352) (by decide +kernel)) (by decide +kernel)⟩⟩
theorem fp_4_31 : FP cR4 31 5 5 false .int := ⟨cR5, cT5, 11, ct5, rfl, by decide, cw5, Or.inr ⟨rfl, "ReportChecks2", g_in (List.mem_of_getElem? (i := 352) (by decide +kernel)) (by decide +kernel)⟩, cp5, cn5, rfl, rfl, fun h => by cases h⟩
theorem fl_2_44 : FL cR2 44 5 5 := ⟨cR5, cT5, 11, rfl, by decide, cw5, Or.inr ⟨"ReportChecks2", g_in (List.mem_of_getElem? (i := 353) (by decide +kernel)) (by decide +kernel)⟩⟩
theorem fp_2_44 : FP cR2 44 5 5 false .int := ⟨cR5, cT5, 11, ct5, rfl, by decide, cw5, Or.inr ⟨rfl, "ReportChecks2", g_in (List.mem_of_getElem? (i := 353) (by decide +kernel)) (by decide +kernel)⟩, cp5, cn5, rfl, rfl, fun h => by cases h⟩
theorem fl_0_252 : FL cR0 252 5 5 := ⟨cR5, cT5, 11, rfl, by decide, cw5, Or.inr ⟨"ReportChecks2", g_in (List.mem_of_getElem? (i := 354) (by decide +kernel)) (by decide +kernel)⟩⟩
theorem fp_0_252 : FP cR0 252 5 5 false .int := ⟨cR5, cT5, 11, ct5, rfl, by decide, cw5, Or.inr ⟨rfl, "ReportChecks2", g_in (List.mem_of_getElem? (i := 354) (by decide +kernel)) (by decide +kernel)⟩, cp5, cn5, rfl, rfl, fun h => by cases h⟩
theorem fl_5_19 : FL cR5 19 5 6 := ⟨cR5, cT5, 11, rfl, by decide, cw5, Or.inl (g_in (List.mem_of_getElem? (i := 355) (by decide +kernel)) (by decide +kernel))⟩
theorem fp_5_19 : FP cR5 19 5 6 false .int := ⟨cR5, cT5, 11, ct5, rfl, by decide, cw5, Or.inl (g_in (List.mem_of_getElem? (i := 355) (by decide +kernel)) (by decide +kernel)), cp5, cn5, rfl, rfl, fun h => by cases h⟩
theorem fl_5_22 : FL cR5 22 5 7 := ⟨cR5, cT5, 11, rfl, by decide, cw5, Or.inl (g_in (List.mem_of_getElem? (i := 356) (by decide +kernel)) (by decide +kernel))⟩
theorem fp_5_22 : FP cR5 22 5 7 false .int := ⟨cR5, cT5, 11, ct5, rfl, by decide, cw5, Or.inl (g_in (List.mem_of_getElem? (i := 356) (by decide +kernel)) (by decide +kernel)), cp5, cn5, rfl, rfl, fun h => by cases h⟩
theorem fl_0_201 : FL cR0 201 5 7 := ⟨cR5, cT5, 11, rfl, by decide, cw5, Or.inr ⟨"ReportChecks2", g_in (List.mem_of_getElem? (i := 357) (by decide +kernel)) (by decide +kernel)⟩⟩
theorem fp_0_201 : FP cR0 201 5 7 false .int := ⟨cR5, cT5, 11, ct5, rfl, by decide, cw5, Or.inr ⟨rfl, "ReportChecks2", g_in (List.mem_of_getElem? (i := 357) (by decide +kernel)) (by decide +kernel)⟩, cp5, cn5, rfl, rfl, fun h => by cases h⟩
theorem fl_5_25 : FL cR5 25 5 8 := ⟨cR5, cT5, 11, rfl, by decide, cw5, Or.inl (g_in (List.mem_of_getElem? (i := 358) (by decide +kernel)) (by decide +kernel))⟩
theorem fp_5_25 : FP cR5 25 5 8 false .int := ⟨cR5, cT5, 11, ct5, rfl, by decide, cw5, Or.inl (g_in (List.mem_of_getElem? (i := 358) (by decide +kernel)) (by decide +kernel)), cp5, cn5, rfl, rfl, fun h => by cases h⟩
theorem fl_0_141 : FL cR0 141 5 8 := ⟨cR5, cT5, 11, rfl, by decide, cw5, Or.inr ⟨"ReportChecks2", g_in (List.mem_of_getElem? (i := 359) (by decide +kernel)) (by decide +kernel)⟩⟩
theorem fp_0_141 : FP cR0 141 5 8 false .int := ⟨cR5, cT5, 11, ct5, rfl, by decide, cw5, Or.inr ⟨rfl, "ReportChecks2", g_in (List.mem_of_getElem? (i := 359) (by decide +kernel)) (by decide +kernel)⟩, cp5, cn5, rfl, rfl, fun h => by cases h⟩
theorem fl_5_28 : FL cR5 28 5 9 := ⟨cR5, cT5, 11, rfl, by decide, cw5, Or.inl (g_in (List.mem_of_getElem? (i := 360) (by decide +kernel)) (by decide +kernel))⟩
theorem fp_5_28 : FP cR5 28 5 9 true (.array .int) := ⟨cR5, cT5, 11, ct5, rfl, by decide, cw5, Or.inl (g_in (List.mem_of_getElem? (i := 360) (by decide +kernel)) (by decide +kernel)), cp5, cn5, rfl, rfl, fun _ => rfl⟩
theorem fl_5_31 : FL cR5 31 5 10 := ⟨cR5, cT5, 11, rfl, by decide, cw5, Or.inl (g_in (List.mem_of_getElem? (i := 361) (by decide +kernel)) (by decide +kernel))⟩
theorem fp_5_31 : FP cR5 31 5 10 false .int := ⟨cR5, cT5, 11, ct5, rfl, by decide, cw5, Or.inl (g_in (List.mem_of_getElem? (i := 361) (by decide +kernel)) (by decide +kernel)), cp5, cn5, rfl, rfl, fun h => by cases h⟩
theorem fl_0_186 : FL cR0 186 5 10 := ⟨cR5, cT5, 11, rfl, by decide, cw5, Or.inr ⟨"ReportChecks2", g_in (List.mem_of_getElem? (i := 362) (by decide +kernel)) (by decide +kernel)⟩⟩
theorem fp_0_186 : FP cR0 186 5 10 false .int := ⟨cR5, cT5, 11, ct5, rfl, by decide, cw5, Or.inr ⟨rfl, "ReportChecks2", g_in (List.mem_of_getElem? (i := 362) (by decide +kernel)) (by decide +kernel)⟩, cp5, cn5, rfl, rfl, fun h => by cases h⟩
theorem fl_6_96 : FL cR6 96 6 0 := ⟨cR6, cT6, 39, rfl, by decide, cw6, Or.inl (g_in (List.mem_of_getElem? (i := 747) (by decide +kernel)) (by decide +kernel))⟩
theorem fp_6_96 : FP cR6 96 6 0 false .int := ⟨cR6, cT6, 39, ct6, rfl, by decide, cw6, Or.inl (g_in (List.mem_of_getElem? (i := 747) (by decide +kernel)) (by decide +kernel)), cp6, cn6, rfl, rfl, fun h => by cases h⟩
theorem fl_6_106 : FL cR6 106 6 1 := ⟨cR6, cT6, 39, rfl, by decide, cw6, Or.inl (g_in (List.mem_of_getElem? (i := 748) (by decide +kernel)) (by decide +kernel))⟩
theorem fp_6_106 : FP cR6 106 6 1 false .int := ⟨cR6, cT6, 39, ct6, rfl, by decide, cw6, Or.inl (g_in (List.mem_of_getElem? (i := 748) (by decide +kernel)) (by decide +kernel)), cp6, cn6, rfl, rfl, fun h => by cases h⟩
theorem fl_6_99 : FL cR6 99 6 2 := ⟨cR6, cT6, 39, rfl, by decide, cw6, Or.inl (g_in (List.mem_of_getElem? (i := 749) (by decide +kernel)) (by decide +kernel))⟩
theorem fp_6_99 : FP cR6 99 6 2 false .int := ⟨cR6, cT6, 39, ct6, rfl, by decide, cw6, Or.inl (g_in (List.mem_of_getElem? (i := 749) (by decide +kernel)) (by decide +kernel)), cp6, cn6, rfl, rfl, fun h => by cases h⟩
theorem fl_6_7 : FL cR6 7 6 3 := ⟨cR6, cT6, 39, rfl, by decide, cw6, Or.inl (g_in (List.mem_of_getElem? (i := 750) (by decide +kernel)) (by decide +kernel))⟩
theorem fp_6_7 : FP cR6 7 6 3 true (.array .int) := ⟨cR6, cT6, 39, ct6, rfl, by decide, cw6, Or.inl (g_in (List.mem_of_getElem? (i := 750) (by decide +kernel)) (by decide +kernel)), cp6, cn6, rfl, rfl, fun _ => rfl⟩
theorem fl_6_13 : FL cR6 13 6 4 := ⟨cR6, cT6, 39, rfl, by decide, cw6, Or.inl (g_in (List.mem_of_getElem? (i := 751) (by decide +kernel)) (by decide +kernel))⟩
theorem fp_6_13 : FP cR6 13 6 4 true (.array .int) := ⟨cR6, cT6, 39, ct6, rfl, by decide, cw6, Or.inl (g_in (List.mem_of_getElem? (i := 751) (by decide +kernel)) (by decide +kernel)), cp6, cn6, rfl, rfl, fun _ => rfl⟩
theorem fl_6_16 : FL cR6 16 6 5 := ⟨cR6, cT6, 39, rfl, by decide, cw6, Or.inl (g_in (List.mem_of_getElem? (i := 752) (by decide +kernel)) (by decide +kernel))⟩
theorem fp_6_16 : FP cR6 16 6 5 true (.array .int) := ⟨cR6, cT6, 39, ct6, rfl, by decide, cw6, Or.inl (g_in (List.mem_of_getElem? (i := 752) (by decide +kernel)) (by decide +kernel)), cp6, cn6, rfl, rfl, fun _ => rfl⟩
theorem fl_6_19 : FL cR6 19 6 6 := ⟨cR6, cT6, 39, rfl, by decide, cw6, Or.inl (g_in (List.mem_of_getElem? (i := 753) (by decide +kernel)) (by decide +kernel))⟩
theorem fp_6_19 : FP cR6 19 6 6 true (.array .int) := ⟨cR6, cT6, 39, ct6, rfl, by decide, cw6, Or.inl (g_in (List.mem_of_getElem? (i := 753) (by decide +kernel)) (by decide +kernel)), cp6, cn6, rfl, rfl, fun _ => rfl⟩
theorem fl_6_22 : FL cR6 22 6 7 := ⟨cR6, cT6, 39, rfl, by decide, cw6, Or.inl (g_in (List.mem_of_getElem? (i := 754) (by decide +kernel)) (by decide +kernel))⟩
theorem fp_6_22 : FP cR6 22 6 7 true (.array .int) := ⟨cR6, cT6, 39, ct6, rfl, by decide, cw6, Or.inl (g_in (List.mem_of_getElem? (i := 754) (by decide +kernel)) (by decide +kernel)), cp6, cn6, rfl, rfl, fun _ => rfl⟩
theorem fl_6_25 : FL cR6 25 6 8 := ⟨cR6, cT6, 39, rfl, by decide, cw6, Or.inl (g_in (List.mem_of_getElem? (i := 755) (by decide +kernel)) (by decide +kernel))⟩
theorem fp_6_25 : FP cR6 25 6 8 true (.array .int) := ⟨cR6, cT6, 39, ct6, rfl, by decide, cw6, Or.inl (g_in (List.mem_of_getElem? (i := 755) (by decide +kernel)) (by decide +kernel)), cp6, cn6, rfl, rfl, fun _ => rfl⟩
theorem fl_6_28 : FL cR6 28 6 9 := ⟨cR6, cT6, 39, rfl, by decide, cw6, Or.inl (g_in (List.mem_of_getElem? (i := 756) (by decide +kernel)) (by decide +kernel))⟩
theorem fp_6_28 : FP cR6 28 6 9 true (.array .int) := ⟨cR6, cT6, 39, ct6, rfl, by decide, cw6, Or.inl (g_in (List.mem_of_getElem? (i := 756) (by decide +kernel)) (by decide +kernel)), cp6, cn6, rfl, rfl, fun _ => rfl⟩
theorem fl_6_31 : FL cR6 31 6 10 := ⟨cR6, cT6, 39, rfl, by decide, cw6, Or.inl (g_in (List.mem_of_getElem? (i := 757) (by decide +kernel)) (by decide +kernel))⟩
theorem fp_6_31 : FP cR6 31 6 10 true (.array .boolean) := ⟨cR6, cT6, 39, ct6, rfl, by decide, cw6, Or.inl (g_in (List.mem_of_getElem? (i := 757) (by decide +kernel)) (by decide +kernel)), cp6, cn6, rfl, rfl, fun _ => rfl⟩
theorem fl_6_35 : FL cR6 35 6 11 := ⟨cR6, cT6, 39, rfl, by decide, cw6, Or.inl (g_in (List.mem_of_getElem? (i := 758) (by decide +kernel)) (by decide +kernel))⟩
theorem fp_6_35 : FP cR6 35 6 11 true (.array .boolean) := ⟨cR6, cT6, 39, ct6, rfl, by decide, cw6, Or.inl (g_in (List.mem_of_getElem? (i := 758) (by decide +kernel)) (by decide +kernel)), cp6, cn6, rfl, rfl, fun _ => rfl⟩
theorem fl_6_38 : FL cR6 38 6 12 := ⟨cR6, cT6, 39, rfl, by decide, cw6, Or.inl (g_in (List.mem_of_getElem? (i := 759) (by decide +kernel)) (by decide +kernel))⟩
theorem fp_6_38 : FP cR6 38 6 12 true (.array .boolean) := ⟨cR6, cT6, 39, ct6, rfl, by decide, cw6, Or.inl (g_in (List.mem_of_getElem? (i := 759) (by decide +kernel)) (by decide +kernel)), cp6, cn6, rfl, rfl, fun _ => rfl⟩
theorem fl_6_41 : FL cR6 41 6 13 := ⟨cR6, cT6, 39, rfl, by decide, cw6, Or.inl (g_in (List.mem_of_getElem? (i := 760) (by decide +kernel)) (by decide +kernel))⟩
theorem fp_6_41 : FP cR6 41 6 13 true (.array .int) := ⟨cR6, cT6, 39, ct6, rfl, by decide, cw6, Or.inl (g_in (List.mem_of_getElem? (i := 760) (by decide +kernel)) (by decide +kernel)), cp6, cn6, rfl, rfl, fun _ => rfl⟩
theorem fl_6_44 : FL cR6 44 6 14 := ⟨cR6, cT6, 39, rfl, by decide, cw6, Or.inl (g_in (List.mem_of_getElem? (i := 761) (by decide +kernel)) (by decide +kernel))⟩
theorem fp_6_44 : FP cR6 44 6 14 true (.array .boolean) := ⟨cR6, cT6, 39, ct6, rfl, by decide, cw6, Or.inl (g_in (List.mem_of_getElem? (i := 761) (by decide +kernel)) (by decide +kernel)), cp6, cn6, rfl, rfl, fun _ => rfl⟩
theorem fl_6_47 : FL cR6 47 6 15 := ⟨cR6, cT6, 39, rfl, by decide, cw6, Or.inl (g_in (List.mem_of_getElem? (i := 762) (by decide +kernel)) (by decide +kernel))⟩
theorem fp_6_47 : FP cR6 47 6 15 true (.array .boolean) := ⟨cR6, cT6, 39, ct6, rfl, by decide, cw6, Or.inl (g_in (List.mem_of_getElem? (i := 762) (by decide +kernel)) (by decide +kernel)), cp6, cn6, rfl, rfl, fun _ => rfl⟩
theorem fl_6_126 : FL cR6 126 6 16 := ⟨cR6, cT6, 39, rfl, by decide, cw6, Or.inl (g_in (List.mem_of_getElem? (i := 763) (by decide +kernel)) (by decide +kernel))⟩
theorem fp_6_126 : FP cR6 126 6 16 false .int := ⟨cR6, cT6, 39, ct6, rfl, by decide, cw6, Or.inl (g_in (List.mem_of_getElem? (i := 763) (by decide +kernel)) (by decide +kernel)), cp6, cn6, rfl, rfl, fun h => by cases h⟩
theorem fl_6_50 : FL cR6 50 6 17 := ⟨cR6, cT6, 39, rfl, by decide, cw6, Or.inl (g_in (List.mem_of_getElem? (i := 764) (by decide +kernel)) (by decide +kernel))⟩
theorem fp_6_50 : FP cR6 50 6 17 true (.array .int) := ⟨cR6, cT6, 39, ct6, rfl, by decide, cw6, Or.inl (g_in (List.mem_of_getElem? (i := 764) (by decide +kernel)) (by decide +kernel)), cp6, cn6, rfl, rfl, fun _ => rfl⟩
theorem fl_6_53 : FL cR6 53 6 18 := ⟨cR6, cT6, 39, rfl, by decide, cw6, Or.inl (g_in (List.mem_of_getElem? (i := 765) (by decide +kernel)) (by decide +kernel))⟩
theorem fp_6_53 : FP cR6 53 6 18 false .int := ⟨cR6, cT6, 39, ct6, rfl, by decide, cw6, Or.inl (g_in (List.mem_of_getElem? (i := 765) (by decide +kernel)) (by decide +kernel)), cp6, cn6, rfl, rfl, fun h => by cases h⟩
theorem fl_6_129 : FL cR6 129 6 19 := ⟨cR6, cT6, 39, rfl, by decide, cw6, Or.inl (g_in (List.mem_of_getElem? (i := 766) (by decide +kernel)) (by decide +kernel))⟩
theorem fp_6_129 : FP cR6 129 6 19 false .int := ⟨cR6, cT6, 39, ct6, rfl, by decide, cw6, Or.inl (g_in (List.mem_of_getElem? (i := 766) (by decide +kernel)) (by decide +kernel)), cp6, cn6, rfl, rfl, fun h => by cases h⟩
theorem fl_6_136 : FL cR6 136 6 20 := ⟨cR6, cT6, 39, rfl, by decide, cw6, Or.inl (g_in (List.mem_of_getElem? (i := 767) (by decide +kernel)) (by decide +kernel))⟩
theorem fp_6_136 : FP cR6 136 6 20 false .int := ⟨cR6, cT6, 39, ct6, rfl, by decide, cw6, Or.inl (g_in (List.mem_of_getElem? (i := 767) (by decide +kernel)) (by decide +kernel)), cp6, cn6, rfl, rfl, fun h => by cases h⟩
theorem fl_6_166 : FL cR6 166 6 21 := ⟨cR6, cT6, 39, rfl, by decide, cw6, Or.inl (g_in (List.mem_of_getElem? (i := 768) (by decide +kernel)) (by decide +kernel))⟩
theorem fp_6_166 : FP cR6 166 6 21 false .int := ⟨cR6, cT6, 39, ct6, rfl, by decide, cw6, Or.inl (g_in (List.mem_of_getElem? (i := 768) (by decide +kernel)) (by decide +kernel)), cp6, cn6, rfl, rfl, fun h => by cases h⟩
theorem fl_6_57 : FL cR6 57 6 22 := ⟨cR6, cT6, 39, rfl, by decide, cw6, Or.inl (g_in (List.mem_of_getElem? (i := 769) (by decide +kernel)) (by decide +kernel))⟩
theorem fp_6_57 : FP cR6 57 6 22 true (.array .int) := ⟨cR6, cT6, 39, ct6, rfl, by decide, cw6, Or.inl (g_in (List.mem_of_getElem? (i := 769) (by decide +kernel)) (by decide +kernel)), cp6, cn6, rfl, rfl, fun _ => rfl⟩
theorem fl_6_60 : FL cR6 60 6 23 := ⟨cR6, cT6, 39, rfl, by decide, cw6, Or.inl (g_in (List.mem_of_getElem? (i := 770) (by decide +kernel)) (by decide +kernel))⟩
theorem fp_6_60 : FP cR6 60 6 23 true (.array .int) := ⟨cR6, cT6, 39, ct6, rfl, by decide, cw6, Or.inl (g_in (List.mem_of_getElem? (i := 770) (by decide +kernel)) (by decide +kernel)), cp6, cn6, rfl, rfl, fun _ => rfl⟩
theorem fl_6_63 : FL cR6 63 6 24 := ⟨cR6, cT6, 39, rfl, by decide, cw6, Or.inl (g_in (List.mem_of_getElem? (i := 771) (by decide +kernel)) (by decide +kernel))⟩
theorem fp_6_63 : FP cR6 63 6 24 true (.array .int) := ⟨cR6, cT6, 39, ct6, rfl, by decide, cw6, Or.inl (g_in (List.mem_of_getElem? (i := 771) (by decide +kernel)) (by decide +kernel)), cp6, cn6, rfl, rfl, fun _ => rfl⟩
theorem fl_6_66 : FL cR6 66 6 25 := ⟨cR6, cT6, 39, rfl, by decide, cw6, Or.inl (g_in (List.mem_of_getElem? (i := 772) (by decide +kernel)) (by decide +kernel))⟩
theorem fp_6_66 : FP cR6 66 6 25 true (.array .int) := ⟨cR6, cT6, 39, ct6, rfl, by decide, cw6, Or.inl (g_in (List.mem_of_getElem? (i := 772) (by decide +kernel)) (by decide +kernel)), cp6, cn6, rfl, rfl, fun _ => rfl⟩
theorem fl_6_69 : FL cR6 69 6 26 := ⟨cR6, cT6, 39, rfl, by decide, cw6, Or.inl (g_in (List.mem_of_getElem? (i := 773) (by decide +kernel)) (by decide +kernel))⟩
theorem fp_6_69 : FP cR6 69 6 26 true (.array .boolean) := ⟨cR6, cT6, 39, ct6, rfl, by decide, cw6, Or.inl (g_in (List.mem_of_getElem? (i := 773) (by decide +kernel)) (by decide +kernel)), cp6, cn6, rfl, rfl, fun _ => rfl⟩
theorem fl_6_157 : FL cR6 157 6 27 := ⟨cR6, cT6, 39, rfl, by decide, cw6, Or.inl (g_in (List.mem_of_getElem? (i := 774) (by decide +kernel)) (by decide +kernel))⟩
theorem fp_6_157 : FP cR6 157 6 27 false .int := ⟨cR6, cT6, 39, ct6, rfl, by decide, cw6, Or.inl (g_in (List.mem_of_getElem? (i := 774) (by decide +kernel)) (by decide +kernel)), cp6, cn6, rfl, rfl, fun h => by cases h⟩
theorem fl_6_72 : FL cR6 72 6 28 := ⟨cR6, cT6, 39, rfl, by decide, cw6, Or.inl (g_in (List.mem_of_getElem? (i := 775) (by decide +kernel)) (by decide +kernel))⟩
theorem fp_6_72 : FP cR6 72 6 28 true (.array .int) := ⟨cR6, cT6, 39, ct6, rfl, by decide, cw6, Or.inl (g_in (List.mem_of_getElem? (i := 775) (by decide +kernel)) (by decide +kernel)), cp6, cn6, rfl, rfl, fun _ => rfl⟩
theorem fl_6_75 : FL cR6 75 6 29 := ⟨cR6, cT6, 39, rfl, by decide, cw6, Or.inl (g_in (List.mem_of_getElem? (i := 776) (by decide +kernel)) (by decide +kernel))⟩
theorem fp_6_75 : FP cR6 75 6 29 true (.array .int) := ⟨cR6, cT6, 39, ct6, rfl, by decide, cw6, Or.inl (g_in (List.mem_of_getElem? (i := 776) (by decide +kernel)) (by decide +kernel)), cp6, cn6, rfl, rfl, fun _ => rfl⟩
theorem fl_6_78 : FL cR6 78 6 30 := ⟨cR6, cT6, 39, rfl, by decide, cw6, Or.inl (g_in (List.mem_of_getElem? (i := 777) (by decide +kernel)) (by decide +kernel))⟩
theorem fp_6_78 : FP cR6 78 6 30 true (.array .int) := ⟨cR6, cT6, 39, ct6, rfl, by decide, cw6, Or.inl (g_in (List.mem_of_getElem? (i := 777) (by decide +kernel)) (by decide +kernel)), cp6, cn6, rfl, rfl, fun _ => rfl⟩
theorem fl_6_81 : FL cR6 81 6 31 := ⟨cR6, cT6, 39, rfl, by decide, cw6, Or.inl (g_in (List.mem_of_getElem? (i := 778) (by decide +kernel)) (by decide +kernel))⟩
theorem fp_6_81 : FP cR6 81 6 31 true (.array .int) := ⟨cR6, cT6, 39, ct6, rfl, by decide, cw6, Or.inl (g_in (List.mem_of_getElem? (i := 778) (by decide +kernel)) (by decide +kernel)), cp6, cn6, rfl, rfl, fun _ => rfl⟩
theorem fl_6_84 : FL cR6 84 6 32 := ⟨cR6, cT6, 39, rfl, by decide, cw6, Or.inl (g_in (List.mem_of_getElem? (i := 779) (by decide +kernel)) (by decide +kernel))⟩
theorem fp_6_84 : FP cR6 84 6 32 true (.array .boolean) := ⟨cR6, cT6, 39, ct6, rfl, by decide, cw6, Or.inl (g_in (List.mem_of_getElem? (i := 779) (by decide +kernel)) (by decide +kernel)), cp6, cn6, rfl, rfl, fun _ => rfl⟩
theorem fl_6_177 : FL cR6 177 6 33 := ⟨cR6, cT6, 39, rfl, by decide, cw6, Or.inl (g_in (List.mem_of_getElem? (i := 780) (by decide +kernel)) (by decide +kernel))⟩
theorem fp_6_177 : FP cR6 177 6 33 false .boolean := ⟨cR6, cT6, 39, ct6, rfl, by decide, cw6, Or.inl (g_in (List.mem_of_getElem? (i := 780) (by decide +kernel)) (by decide +kernel)), cp6, cn6, rfl, rfl, fun h => by cases h⟩
theorem fl_6_187 : FL cR6 187 6 34 := ⟨cR6, cT6, 39, rfl, by decide, cw6, Or.inl (g_in (List.mem_of_getElem? (i := 781) (by decide +kernel)) (by decide +kernel))⟩
theorem fp_6_187 : FP cR6 187 6 34 false .int := ⟨cR6, cT6, 39, ct6, rfl, by decide, cw6, Or.inl (g_in (List.mem_of_getElem? (i := 781) (by decide +kernel)) (by decide +kernel)), cp6, cn6, rfl, rfl, fun h => by cases h⟩
theorem fl_6_87 : FL cR6 87 6 35 := ⟨cR6, cT6, 39, rfl, by decide, cw6, Or.inl (g_in (List.mem_of_getElem? (i := 782) (by decide +kernel)) (by decide +kernel))⟩
theorem fp_6_87 : FP cR6 87 6 35 true (.array .int) := ⟨cR6, cT6, 39, ct6, rfl, by decide, cw6, Or.inl (g_in (List.mem_of_getElem? (i := 782) (by decide +kernel)) (by decide +kernel)), cp6, cn6, rfl, rfl, fun _ => rfl⟩
theorem fl_6_90 : FL cR6 90 6 36 := ⟨cR6, cT6, 39, rfl, by decide, cw6, Or.inl (g_in (List.mem_of_getElem? (i := 783) (by decide +kernel)) (by decide +kernel))⟩
theorem fp_6_90 : FP cR6 90 6 36 true (.array .int) := ⟨cR6, cT6, 39, ct6, rfl, by decide, cw6, Or.inl (g_in (List.mem_of_getElem? (i := 783) (by decide +kernel)) (by decide +kernel)), cp6, cn6, rfl, rfl, fun _ => rfl⟩
theorem fl_6_206 : FL cR6 206 6 37 := ⟨cR6, cT6, 39, rfl, by decide, cw6, Or.inl (g_in (List.mem_of_getElem? (i := 784) (by decide +kernel)) (by decide +kernel))⟩
theorem fp_6_206 : FP cR6 206 6 37 false .int := ⟨cR6, cT6, 39, ct6, rfl, by decide, cw6, Or.inl (g_in (List.mem_of_getElem? (i := 784) (by decide +kernel)) (by decide +kernel)), cp6, cn6, rfl, rfl, fun h => by cases h⟩
theorem fl_6_93 : FL cR6 93 6 38 := ⟨cR6, cT6, 39, rfl, by decide, cw6, Or.inl (g_in (List.mem_of_getElem? (i := 785) (by decide +kernel)) (by decide +kernel))⟩
theorem fp_6_93 : FP cR6 93 6 38 true (.array .int) := ⟨cR6, cT6, 39, ct6, rfl, by decide, cw6, Or.inl (g_in (List.mem_of_getElem? (i := 785) (by decide +kernel)) (by decide +kernel)), cp6, cn6, rfl, rfl, fun _ => rfl⟩
end
section
/-! ===== constants, long arrays, new, switches, ends ===== -/
/-- what 'new' asks of the entry 'index' of the class own, for the class ci; fs: the fields at first -/
def NL (own : String) (index ci : Nat) (fs : List Value) : Prop := ∃ (C : String) (T : u_T) (t0 : Nat → FieldType), g_cl[ci]? = some (C, T, fs.length) ∧ (∀ w ∈ u_ws C T fs.length, w ∈ g_ws) ∧ Cond.classLink own index C ∈ g_ws ∧ Cond.instantiable C fs.length ∈ g_ws ∧ Cond.initialized C ∈ g_ws ∧ (∀ j, j < fs.length → parseFieldDescriptor (T j).2.2.1 = some (t0 j)) ∧ (∀ j, j < fs.length → defaultValue (t0 j) = vp_V fs j)
theorem sv_dv (b : Nat) (ty : FieldType) : sv b (defaultValue ty) = defaultValue ty := by cases ty <;> rfl
theorem sv_vpV (b : Nat) (fs : List Value) (j : Nat) : vp_V (fs.map (sv b)) j = sv b (vp_V fs j) := by
  unfold vp_V
  rw [List.getD_eq_getElem?_getD, List.getD_eq_getElem?_getD, List.getElem?_map]
  cases fs[j]? <;> rfl
section JN
variable {p : Program} {l : Launch} {e : Env} {R : Room} {s : State} {m : MethodId} {args : Array Value} {below : List Frame} {meth : Method} {c : Code} {D : va_G} {cA : Nat → ClassId} {b nL : Nat} {Q : State → Prop} {n : Nat} {h : AH} {kc ks pc : Nat} {L : List (Nat × Value)} {st : List Value} {own mn : String} {cc : ByteArray} {ret : Option FieldType} {hh : List (Nat × Nat × Nat × Nat)}
theorem j_ldc (C : Cx p l s m meth c D cA b nL own mn cc ret hh) {index : Nat} {v : Int32} (hd : decode cc pc = .ok (.ldc index, 2)) (hw : Cond.constant own index v ∈ g_ws) (k : J p l e R s m args below meth c D cA b nL Q n h kc ks (pc + 2) L (.int v :: st)) : J p l e R s m args below meth c D cA b nL Q n h kc ks pc L st :=
  fun H locs ls hp hS hl => lv_ldc C.1 C.2.1 C.2.2.2.1 (C.w hw rfl args) hd (k H locs ls hp hS hl)
theorem j_ldcw (C : Cx p l s m meth c D cA b nL own mn cc ret hh) {index : Nat} {v : Int32} (hd : decode cc pc = .ok (.ldc_w index, 3)) (hw : Cond.constant own index v ∈ g_ws) (k : J p l e R s m args below meth c D cA b nL Q n h kc ks (pc + 3) L (.int v :: st)) : J p l e R s m args below meth c D cA b nL Q n h kc ks pc L st :=
  fun H locs ls hp hS hl => lv_ldcw C.1 C.2.1 C.2.2.2.1 (C.w hw rfl args) hd (k H locs ls hp hS hl)
theorem j_ldc2 (C : Cx p l s m meth c D cA b nL own mn cc ret hh) {index : Nat} {v : Int64} (hd : decode cc pc = .ok (.ldc2_w index, 3)) (hw : Cond.constantLong own index v ∈ g_ws) (k : J p l e R s m args below meth c D cA b nL Q n h kc ks (pc + 3) L (.long v :: st)) : J p l e R s m args below meth c D cA b nL Q n h kc ks pc L st :=
  fun H locs ls hp hS hl => lv_ldc2 C.1 C.2.1 C.2.2.2.1 (C.w hw rfl args) hd (k H locs ls hp hS hl)
theorem j_lcmp (C : Cx p l s m meth c D cA b nL own mn cc ret hh) {x y : Int64} (hd : decode cc pc = .ok (.lcmp, 1))  (k : J p l e R s m args below meth c D cA b nL Q n h kc ks (pc + 1) L (.int (lg_cmp x y) :: st)) : J p l e R s m args below meth c D cA b nL Q n h kc ks pc L (.long y :: .long x :: st) :=
  fun H locs ls hp hS hl => W.lcmp C.1 C.2.1 hd (k H locs ls hp hS hl)
theorem j_lshr (C : Cx p l s m meth c D cA b nL own mn cc ret hh) {x v : Int64} {y : Int32} (hd : decode cc pc = .ok (.lshr, 1)) (hv : x >>> (y.toInt64 &&& 63) = v) (k : J p l e R s m args below meth c D cA b nL Q n h kc ks (pc + 1) L (.long v :: st)) : J p l e R s m args below meth c D cA b nL Q n h kc ks pc L (.int y :: .long x :: st) :=
  fun H locs ls hp hS hl => lv_lshr C.1 C.2.1 hd hv (k H locs ls hp hS hl)
theorem j_lookup (C : Cx p l s m meth c D cA b nL own mn cc ret hh) {dflt : Int} {ps : Array (Int × Int)} {len : Nat} {x : Int32} {off : Int} {tgt : Nat} (hd : decode cc pc = .ok (.lookupswitch dflt ps, len)) (hq : (ps.toList.zip (ps.toList.drop 1)).all (fun (a, next) => a.1 < next.1) = true) (ho : Op.lookupswitch.offset ps.toList dflt x.toInt = off) (ht : (pc : Int) + off = (tgt : Int)) (k : J p l e R s m args below meth c D cA b nL Q n h kc ks tgt L st) : J p l e R s m args below meth c D cA b nL Q n h kc ks pc L (.int x :: st) :=
  fun H locs ls hp hS hl => lv_lookup C.1 C.2.1 hd hq ho ht (k H locs ls hp hS hl)
theorem j_tableOut (C : Cx p l s m meth c D cA b nL own mn cc ret hh) {dflt lo hi : Int} {offs : Array Int} {len : Nat} {x : Int32} {tgt : Nat} (hd : decode cc pc = .ok (.tableswitch dflt lo hi offs, len)) (hx : x.toInt < lo ∨ hi < x.toInt) (ht : (pc : Int) + dflt = (tgt : Int)) (k : J p l e R s m args below meth c D cA b nL Q n h kc ks tgt L st) : J p l e R s m args below meth c D cA b nL Q n h kc ks pc L (.int x :: st) :=
  fun H locs ls hp hS hl => lv_tableOut C.1 C.2.1 hd hx ht (k H locs ls hp hS hl)
theorem j_tableIn (C : Cx p l s m meth c D cA b nL own mn cc ret hh) {dflt lo hi : Int} {offs : Array Int} {len : Nat} {x : Int32} {off : Int} {tgt : Nat} (hd : decode cc pc = .ok (.tableswitch dflt lo hi offs, len)) (h1 : ¬ x.toInt < lo) (h2 : ¬ hi < x.toInt) (ho : offs[(x.toInt - lo).toNat]? = some off) (ht : (pc : Int) + off = (tgt : Int)) (k : J p l e R s m args below meth c D cA b nL Q n h kc ks tgt L st) : J p l e R s m args below meth c D cA b nL Q n h kc ks pc L (.int x :: st) :=
  fun H locs ls hp hS hl => lv_tableIn C.1 C.2.1 hd h1 h2 ho ht (k H locs ls hp hS hl)
theorem Hp.push {H H1 : Heap} (hp : Hp D cA b n h H) {x : AC} (hz : H1.size = H.size + 1) (oq : ∀ q, q < H.size → H1[q]? = H[q]?) (hx : va_at D g_cl (b + n, toE b cA x) H1) : Hp D cA b (n + 1) (hu h n x) H1 := by
  refine ⟨by rw [hz, hp.1]; omega, ?_⟩
  rw [← wO_push x]
  refine va_P.app (hp.2.kept fun k q hq => oq q.1 ((hp.2 k q hq).lt)) (fun k q hq => ?_)
  have hk : k < 1 := (List.getElem?_eq_some_iff.mp hq).1
  rw [show k = 0 by omega] at hq
  cases hq
  exact hx
theorem S_push {H H1 : Heap} {locs : List Loc} (hS : va_S (fun q => b ≤ q) s.heap H locs) (hz : H1.size = H.size + 1) (oq : ∀ q, q < H.size → H1[q]? = H[q]?) : va_S (fun q => b ≤ q) s.heap H1 locs :=
  ⟨by rw [hz]; exact Nat.le_succ_of_le hS.1, fun q h1 h2 => (oq q (Nat.lt_of_lt_of_le h1 hS.1)).trans (hS.2.1 q h1 h2), hS.2.2⟩
theorem j_new (C : Cx p l s m meth c D cA b nL own mn cc ret hh) {index ci : Nat} {fs : List Value} (hF : NL own index ci fs) (hd : decode cc pc = .ok (.new index, 3)) (hc1 : kc + 1 ≤ R.cells) (hc2 : ks + fs.length ≤ R.slots) (kk : J p l e R s m args below meth c D cA b nL Q (n + 1) (hu h n (.inr (ci, fs))) (kc + 1) (ks + fs.length) (pc + 3) L (.ref n :: st)) : J p l e R s m args below meth c D cA b nL Q n h kc ks pc L st := by
  intro H locs ls hp hS hl
  obtain ⟨Cl, T, t0, h1, h2, h3, h4, h5, h6, h7⟩ := hF
  have hK := C.2.2.2.2.1.2.1
  have hKn := hK.1 ci _ h1
  refine W.newcK C.1 C.2.1 C.2.2.2.1 (C.w h3 rfl args) (C.w h4 rfl args) (C.w h5 rfl args) rfl hd hc1 hc2 hKn.2.1 (h := b + n) hp.1 fun H1 kC hkC e1 z1 o1 => ?_
  have z2 : H1.size = H.size + 1 := by rw [z1, hp.1]
  have o2 : ∀ q, q < H.size → H1[q]? = H[q]? := fun q hq => o1 q (by rw [← hp.1]; exact hq)
  refine kk H1 locs ls (hp.push z2 o2 ⟨_, h1, (u_born t0 (C.ws h2 (u_ws_on Cl T fs.length) args) (fun _ q => q) hKn hkC e1 h6).to (fun j hj => ?_)⟩) (S_push hS z2 o2) hl
  rw [sv_vpV, ← h7 j hj, sv_dv]
theorem j_newa (C : Cx p l s m meth c D cA b nL own mn cc ret hh) {atype : ArrayType} {t N : Nat} {i : Int32} {ty : FieldType} {a0 : vp_A} (hd : decode cc pc = .ok (.newarray atype, 2)) (ht : (g_ty cA)[t]? = some (cA t, ty)) (hty : newarray.typeOf atype = ty) (hra : ∀ cX, va_RA s cX ty = (s.vm.findClass ("[" ++ ty.toString) = some cX)) (hw : Cond.arrayClass ty ∈ g_ws) (hi : ¬ i < 0) (hN : i.toNatClampNeg = N) (hb : N * componentBytes ty ≤ 536870912) (ha : ∀ cX : ClassId, vp_cell cX (sa b a0) = arrV cX N (fun _ => defaultValue ty)) (hc1 : kc + 1 ≤ R.cells) (hc2 : ks + N ≤ R.slots) (kk : J p l e R s m args below meth c D cA b nL Q (n + 1) (hu h n (.inl (t, a0))) (kc + 1) (ks + N) (pc + 2) L (.ref n :: st)) : J p l e R s m args below meth c D cA b nL Q n h kc ks pc L (.int i :: st) := by
  intro H locs ls hp hS hl
  subst hty
  refine va_newaK C.1 C.2.1 (word_at (State.WarmedH.refl s) (Or.inr ⟨_, rfl⟩) (C.2.2.2.2.1.1 _ hw)) rfl hd rfl hi hN hb hc1 hc2 (h := b + n) hp.1 fun H1 cX e1 z1 o1 hAr hNm => ?_
  have z2 : H1.size = H.size + 1 := by rw [z1, hp.1]
  have o2 : ∀ q, q < H.size → H1[q]? = H[q]? := fun q hq => o1 q (by rw [← hp.1]; exact hq)
  have hR := (C.2.2.2.2.1.2.1.2 t _ ht).2
  rw [hra] at hR
  cases Option.some.inj (hR.symm.trans hNm)
  refine kk H1 locs ls (hp.push z2 o2 ?_) (S_push hS z2 o2) hl
  show H1[b + n]? = some (vp_cell (cA t) (sa b a0))
  rw [ha]
  exact e1
theorem j_anewa (C : Cx p l s m meth c D cA b nL own mn cc ret hh) {index t N : Nat} {i : Int32} {Cl : String} (hd : decode cc pc = .ok (.anewarray index, 3)) (ht : (g_ty cA)[t]? = some (cA t, .object Cl)) (hw1 : Cond.classLink own index Cl ∈ g_ws) (hw2 : Cond.arrayOver (.object Cl) ∈ g_ws) (hi : ¬ i < 0) (hN : i.toNatClampNeg = N) (hb : N * 4 ≤ 536870912) (hc1 : kc + 1 ≤ R.cells) (hc2 : ks + N ≤ R.slots) (kk : J p l e R s m args below meth c D cA b nL Q (n + 1) (hu h n (.inl (t, N, .inr (.inr (.inr (.inr (fun _ => none))))))) (kc + 1) (ks + N) (pc + 3) L (.ref n :: st)) : J p l e R s m args below meth c D cA b nL Q n h kc ks pc L (.int i :: st) := by
  intro H locs ls hp hS hl
  subst hN
  refine W.anew C.1 C.2.1 C.2.2.2.1 (C.w hw1 rfl args) (va_AO.use (va_AO.of (C.2.2.2.2.1.1 _ hw2))) rfl hd rfl hi hb hc1 hc2 fun cX kA comp f1 f2 f3 f4 => ?_
  obtain ⟨kA', comp', r1, r2, r3, r4⟩ := (C.2.2.2.2.1.2.1.2 t _ ht).2
  cases Option.some.inj (r4.symm.trans f1)
  generalize hH1 : H.push ({ cls := cA t, slots := Array.replicate i.toNatClampNeg .null, vm := .none } : Cell) = H1
  have z1 : H1.size = H.size + 1 := by rw [← hH1, Array.size_push]
  have e1 : H1[H.size]? = some (arrV (cA t) i.toNatClampNeg (fun _ => .null)) := by rw [← hH1, Array.getElem?_push_size, ← arrV_new]
  have o1 : ∀ q : Nat, q < H.size → H1[q]? = H[q]? := fun q hq => by rw [← hH1, Array.getElem?_push, if_neg (Nat.ne_of_lt hq)]
  have hsz : H.size = b + n := hp.1
  have hk := kk H1 locs ls (hp.push z1 o1 (by show H1[b + n]? = some (arrV (cA t) i.toNatClampNeg (fun j => va_rf ((fun _ => none : Nat → Option Nat) j |>.map (fun a => b + a)))); rw [← hsz]; exact e1)) (S_push hS z1 o1) hl
  rw [hsz]
  exact hk
theorem j_aald (C : Cx p l s m meth c D cA b nL own mn cc ret hh) {t a N : Nat} {f : Nat → Option Nat} {i : Int32} {v : Value} {Cl : String} (hd : decode cc pc = .ok (.aaload, 1)) (ht : (g_ty cA)[t]? = some (cA t, .object Cl)) (ha : a < n) (hx : h a = .inl (t, N, .inr (.inr (.inr (.inr f))))) (hi : vp_in i N) (hv : va_rf (f i.toNatClampNeg) = v) (kk : J p l e R s m args below meth c D cA b nL Q n h kc ks (pc + 1) L (v :: st)) : J p l e R s m args below meth c D cA b nL Q n h kc ks pc L (.int i :: .ref a :: st) := by
  intro H locs ls hp hS hl
  subst hv
  refine va_aldq C.1 C.2.1 C.2.2.2.2.1.2.1 hp.2 a t (hp.obj ha hx) ht hi hd ?_
  have hk := kk H locs ls hp hS hl
  have e : va_rf (so b f i.toNatClampNeg) = sv b (va_rf (f i.toNatClampNeg)) := by
    unfold so
    cases f i.toNatClampNeg <;> rfl
  rw [e]
  exact hk
theorem j_lald (C : Cx p l s m meth c D cA b nL own mn cc ret hh) {t a N : Nat} {f : Nat → Int64} {i : Int32} {v : Int64} (hd : decode cc pc = .ok (.laload, 1)) (ht : (g_ty cA)[t]? = some (cA t, .long)) (ha : a < n) (hx : h a = .inl (t, N, .inr (.inl f))) (hi : vp_in i N) (hv : f i.toNatClampNeg = v) (kk : J p l e R s m args below meth c D cA b nL Q n h kc ks (pc + 1) L (.long v :: st)) : J p l e R s m args below meth c D cA b nL Q n h kc ks pc L (.int i :: .ref a :: st) := by
  intro H locs ls hp hS hl
  subst hv
  exact va_lald C.1 C.2.1 C.2.2.2.2.1.2.1 hp.2 a t (hp.obj ha hx) ht hi hd (kk H locs ls hp hS hl)
theorem j_last (C : Cx p l s m meth c D cA b nL own mn cc ret hh) {t a N : Nat} {f f' : Nat → Int64} {i : Int32} {x : Int64} (hd : decode cc pc = .ok (.lastore, 1)) (ht : (g_ty cA)[t]? = some (cA t, .long)) (ha : a < n) (hx : h a = .inl (t, N, .inr (.inl f))) (hi : vp_in i N) (hf : vp_updL f i.toNatClampNeg x = f') (kk : J p l e R s m args below meth c D cA b nL Q n (hu h a (.inl (t, N, .inr (.inl f')))) kc ks (pc + 1) L st) : J p l e R s m args below meth c D cA b nL Q n h kc ks pc L (.long x :: .int i :: .ref a :: st) := by
  intro H locs ls hp hS hl
  subst hf
  have hg := hp.obj ha hx
  refine W.last C.1 C.2.1 (hp.2 a _ hg) ((C.2.2.2.2.1.2.1.2 t _ ht).1 N (fun j => .long (f j))) (fun q => by cases q) (by show ¬ (i < 0 ∨ (arrV _ _ _).slots.size ≤ _); rw [arrV_size]; exact hi) rfl rfl hd fun H1 e z oq => ?_
  refine kk H1 _ ls (hp.up ha z (hp.2.set (wO_D b cA n h) hg ?_ oq)) (S_put hS z oq (Nat.le_add_right b a)) hl
  show H1[b + a]? = some (vp_cell _ _)
  rw [e]
  show some ((arrV (cA t) N (fun j => .long (f j))).setSlot i.toNatClampNeg _) = some (arrV (cA t) N (fun j => .long (vp_updL f i.toNatClampNeg x j)))
  rw [arrV_store]
  congr 2
  funext q
  by_cases hq : q = i.toNatClampNeg
  · subst hq
    simp [updV, vp_updL]
  · simp [updV, vp_updL, hq]
end JN
end
section
/-! ===== a method's ends: it returns, it throws ===== -/
section JE
variable {p : Program} {l : Launch} {e : Env} {R : Room} {s : State} {m : MethodId} {args : Array Value} {below : List Frame} {meth : Method} {c : Code} {D : va_G} {cA : Nat → ClassId} {b nL : Nat} {Q : State → Prop} {n : Nat} {h : AH} {kc ks pc : Nat} {L : List (Nat × Value)} {st : List Value} {own mn : String} {cc : ByteArray} {ret : Option FieldType} {hh : List (Nat × Nat × Nat × Nat)} {Qa : Rz → Nat → AH → Prop} {mc ms : Nat}
theorem S_low {H : Heap} {locs : List Loc} (hb : b ≤ s.heap.size) (hS : va_S (fun q => b ≤ q) s.heap H locs) : ∀ q : Nat, q < b → H[q]? = s.heap[q]? := fun q hq => hS.2.1 q (Nat.lt_of_lt_of_le hq hb) (Nat.not_le.mpr hq)
theorem w_end {H : Heap} {locs : List Loc} {g : JFrame} {r : Option Value} (hb : b ≤ s.heap.size) (hp : Hp D cA b n h H) (hS : va_S (fun q => b ≤ q) s.heap H locs) (hc : kc ≤ mc) (hs : ks ≤ ms) (hq : Qa (.inl r) n h)
    (k : W p l e R s m args below meth c H locs kc ks (MQ below (fun _ _ o t => o = .returned (r.map (sv b)) ∧ t.heap = H) args s kc ks (fun q => b ≤ q)) g) : W p l e R s m args below meth c H locs kc ks (EndQ D cA b s below Qa mc ms) g := by
  intro T hT X
  obtain ⟨t, a1, o, b1, b2, ⟨b3, b4⟩, L9, ⟨-, hW, hsm⟩, hL⟩ := k T hT X
  refine ⟨t, a1, o, b1, b2, hW, ⟨L9, hsm.mono hc hs, hL⟩, ?_, n, h, .inl r, ?_, b3, hq⟩
  · rw [b4]; exact S_low hb hS
  · rw [b4]; exact hp
theorem j_ireturn (C : Cx p l s m meth c D cA b nL own mn cc ret hh) {v : Int32} (hd : decode cc pc = .ok (.ireturn, 1)) (hr : ret = some .int) (hc : kc ≤ mc) (hs : ks ≤ ms) (hq : Qa (.inl (some (.int v))) n h) : J p l e R s m args below meth c D cA b nL (EndQ D cA b s below Qa mc ms) n h kc ks pc L [.int v] :=
  fun _ _ _ hp hS _ => w_end C.2.2.2.2.1.2.2.1 hp hS hc hs hq (W.iret C.1 C.2.1 (C.2.2.2.2.2.2.1.trans hr) (fun _ ht _ => ⟨rfl, ht⟩) hS.2.2 hd C.2.2.2.2.2.1)
theorem j_zreturn (C : Cx p l s m meth c D cA b nL own mn cc ret hh) {v : Int32} {ty : FieldType} (hd : decode cc pc = .ok (.ireturn, 1)) (hr : ret = some ty) (hn : narrow ty (.int v) = .int v) (hc : kc ≤ mc) (hs : ks ≤ ms) (hq : Qa (.inl (some (.int v))) n h) : J p l e R s m args below meth c D cA b nL (EndQ D cA b s below Qa mc ms) n h kc ks pc L [.int v] :=
  fun _ _ _ hp hS _ => w_end C.2.2.2.2.1.2.2.1 hp hS hc hs hq (W.zret C.1 C.2.1 (C.2.2.2.2.2.2.1.trans hr) hn (fun _ ht _ => ⟨rfl, ht⟩) hS.2.2 hd C.2.2.2.2.2.1)
theorem j_vreturn (C : Cx p l s m meth c D cA b nL own mn cc ret hh) (hd : decode cc pc = .ok (.return_, 1)) (hr : ret = none) (hc : kc ≤ mc) (hs : ks ≤ ms) (hq : Qa (.inl none) n h) : J p l e R s m args below meth c D cA b nL (EndQ D cA b s below Qa mc ms) n h kc ks pc L [] :=
  fun _ _ _ hp hS _ => w_end C.2.2.2.2.1.2.2.1 hp hS hc hs hq (W.vret C.1 C.2.1 (C.2.2.2.2.2.2.1.trans hr) (fun _ ht _ => ⟨rfl, ht⟩) hS.2.2 hd C.2.2.2.2.2.1)
theorem j_areturn (C : Cx p l s m meth c D cA b nL own mn cc ret hh) {v : Value} {ty : FieldType} (hd : decode cc pc = .ok (.areturn, 1)) (hr : ret = some ty) (hrt : (∃ k, ty = .object k) ∨ ∃ t, ty = .array t) (hv : v = .null ∨ ∃ a, v = .ref a) (hc : kc ≤ mc) (hs : ks ≤ ms) (hq : Qa (.inl (some v)) n h) : J p l e R s m args below meth c D cA b nL (EndQ D cA b s below Qa mc ms) n h kc ks pc L [v] :=
  fun _ _ _ hp hS _ => w_end C.2.2.2.2.1.2.2.1 hp hS hc hs hq (W.aret C.1 C.2.1 (C.2.2.2.2.2.2.1.trans hr) hrt (by rcases hv with rfl | ⟨a, rfl⟩; exact Or.inl rfl; exact Or.inr ⟨_, rfl⟩) (fun _ ht _ => ⟨rfl, ht⟩) hS.2.2 hd C.2.2.2.2.2.1)
theorem tw_throwS {H : Heap} {locs : List Loc} {cells slots : Nat} {ls : Array Slot} {rest : List Value} {cc : ByteArray} {pc : Nat} (hexec : p.tables.exec = Jvm.exec) (hb : c.code = cc) (hl : l.stackTraces = false) {own cls text : String} {names : List String} {ik is ic sa : Nat} {A : Nat → Prop}
    (hown : s.vm.findClass own = some m.cls) (hcls : Bundle.fit cls = true) (hnames : ∀ n ∈ names, Bundle.fit n = true)
    (hk : (Cond.classLink own ik cls).before args s = true) (hini : (Cond.initialized cls).before args s = true) (hstr : vk_R own is text sa s) (hat : ∀ w ∈ vx_atS own ic cls names, w.before args s = true)
    (hgood : ∀ w ∈ Cond.classLink own ik cls :: Cond.initialized cls :: vx_atS own ic cls names, vx_ot w = true)
    (hU : vx_Zq Bundle.tN "UNASSIGNED_STACK" Bundle.steD A s s.heap) (hN : vx_Zq Bundle.tN "SUPPRESSED_SENTINEL" Bundle.listD A s s.heap) (hS : va_S A s.heap H locs) (hsize : ls.size = c.maxLocals)
    (d0 : decode cc pc = .ok (.new ik, 3)) (d3 : decode cc (pc + 3) = .ok (.dup, 1)) (d4 : decode cc (pc + 4) = .ok (.ldc is, 2)) (d6 : decode cc (pc + 6) = .ok (.invokespecial ic, 3)) (d9 : decode cc (pc + 9) = .ok (.athrow, 1))
    (hout : ∀ x ∈ c.exceptionTable.toList, covers x (pc + 9) = false)
    (hRframes : names.length + 3 < R.frames) (hRlocals : (rest.map fun v => v.category).sum + (13 * (names.length + 1) + 43) ≤ R.locals) (hRcells : cells + 1 ≤ R.cells) (hRslots : slots + 6 ≤ R.slots) (hlocks : meth.locks = false) {T : State} (hT : T.heap = H) (X : Stand p l e R s m args below meth c T locs cells slots) :
    ∃ U : State, Steps p.tables e below (T.setTop (F0 m pc ls rest)) U ∧ U.status = .running ∧ Ended U below (.threw H.size) ∧ s.WarmedH U.vm ∧ s.sameButNew ({ U with vm := s.vm } : State) locs (cells + 1) (slots + 6) ∧ U.heap.size = H.size + 1 ∧ (∀ q : Nat, q < H.size → U.heap[q]? = H[q]?) ∧ ∃ ce : Cell, U.heap[H.size]? = some ce ∧ ce.vm = .none ∧ s.vm.findClass cls = some ce.cls := by
  have htr : e.platform.stackTraces = false := (show e.platform.stackTraces = l.stackTraces by rw [X.admits.platform]).trans hl
  have Y := vx_rebase X (R' := { frames := R.frames, locals := R.locals, cells := 1, slots := 6 }) (Nat.le_refl _) (Nat.le_refl _) hRcells hRslots
  obtain ⟨s', hA⟩ : ∃ z, z = (T.setVm s.vm).setFrames (.invoking m args :: below) := ⟨_, rfl⟩
  rw [← hA] at Y
  have hvm : s'.vm = s.vm := by rw [hA]; rfl
  have hhp : s'.heap = H := by rw [hA]; exact hT
  have hW0 : s.WarmedH s'.vm := by rw [hvm]; exact State.WarmedH.refl s
  have hat' : ∀ w ∈ vx_atS own ic cls names, w.before args s' = true := fun w hw => vx_ot_at hW0 hvm.symm (hgood w (List.mem_cons_of_mem _ (List.mem_cons_of_mem _ hw))) (hat w hw)
  have hk' : (Cond.classLink own ik cls).before args s' = true := vx_ot_at hW0 hvm.symm (hgood _ List.mem_cons_self) hk
  have hini' : (Cond.initialized cls).before args s' = true := vx_ot_at hW0 hvm.symm (hgood _ (List.mem_cons_of_mem _ List.mem_cons_self)) hini
  have hU' : vx_Zq Bundle.tN "UNASSIGNED_STACK" Bundle.steD A s' s'.heap := by rw [hhp]; exact vx_Zq.moved hW0.alike (hU.kept hS.2.1)
  have hN' : vx_Zq Bundle.tN "SUPPRESSED_SENTINEL" Bundle.listD A s' s'.heap := by rw [hhp]; exact vx_Zq.moved hW0.alike (hN.kept hS.2.1)
  have h : ∀ w ∈ Bundle.ownAtoms own ic cls names, w.before args s' = true := vx_own hat' (vx_isRefq hU'.1) (vx_isRefq hN'.1) hU'.2.word hN'.2.word
  have hown' : s'.vm.findClass own = some m.cls := by rw [hvm]; exact hown
  have hins : (Cond.instantiable cls 6).before args s' = true := h _ (by simp [Bundle.ownAtoms])
  obtain ⟨vm₁, cX, kX, hfX, hkX, -, -, X₁, st1⟩ := Y.newCold hexec (own := own) (C := cls) (index := ik) (n := 6) hown' hk' hins hini'
    (g := F0 m pc ls rest) rfl (by rw [hb]; exact d0) (Nat.le_refl _) (Nat.le_refl _)
  generalize hT1 : (T.setVm vm₁).pushCell { cls := cX, slots := kX.instanceTypes.map defaultValue, vm := .none } = T1 at X₁ st1
  have hcat : (Value.ref T.heap.size).category = 1 := rfl
  have hcellA : T1.heap[T.heap.size]? = some (freshCell cX kX) := by rw [← hT1]; exact State.heap_pushCell_size _ _
  have d3' : decode c.code (pc + 3) = .ok (.dup, 1) := by rw [hb]; exact d3
  have d4' : decode c.code (pc + 4) = .ok (.ldc is, 2) := by rw [hb]; exact d4
  have hstr' : vk_R own is text sa s' := vk_R.warm hW0 hstr
  obtain ⟨U, hsteps, hrun, hend, hW, hsame, ce, hce, hO⟩ := X₁.ctorThrowS hexec htr (own := own) (cls := cls) (names := names) (ic := ic) hown' hcls hnames h (fun x hx => nomatch hx) hfX hkX hcellA (by rw [hhp, hT]; exact Nat.le_refl _) (msg := .ref sa) rfl
    (g := { method := m, pc := pc + 6, locals := ls, stack := .ref sa :: .ref T.heap.size :: .ref T.heap.size :: rest, locked := none }) rfl hsize rfl rfl (rest := rest) rfl
    (by rw [hb]; exact d6) (by rw [hb]; exact d9) hout hRframes (by simp only [List.map_cons, List.sum_cons, hcat]; omega) hlocks
  obtain ⟨f1, f2⟩ := vx_frame hsame
  rw [hhp] at f1 f2
  have hWs : s.WarmedH U.vm := State.WarmedH.trans hW0 hW
  have hcl : s.vm.findClass cls = some ce.cls := by
    have h9 := hO.cls
    rw [hvm] at h9
    exact h9
  have hall : s.sameButNew ({ U with vm := s.vm } : State) locs (cells + 1) (slots + 6) := by
    subst hA
    obtain ⟨e1, e2⟩ := hsame
    rw [State.setFrames_setFrames] at e1
    have h2 : (T.setVm s.vm).sameButNew ({ U with vm := s.vm } : State) [] (0 + 1) (0 + 6) := ⟨e1, e2⟩
    have h3 := X.same.trans h2
    rw [List.append_nil] at h3
    exact h3.mono (by omega) (by omega)
  have hz1 : U.heap.size ≤ H.size + 1 := by
    have h9 := hsame.2.2.1
    rw [hhp] at h9
    exact h9
  have hz2 : T.heap.size < U.heap.size := (Array.getElem?_eq_some_iff.mp hce).1
  refine ⟨U, ?_, hrun, by rw [← hT]; exact hend, hWs, hall, by rw [hT] at hz2; omega, fun q hq => f2 q hq (fun z hz => nomatch hz), ce, by rw [← hT]; exact hce, hO.vm, hcl⟩
  refine st1 _ ?_
  show Steps p.tables e below (T1.setTop { method := m, pc := pc + 3, locals := ls, stack := .ref T.heap.size :: rest, locked := none }) _
  jvm_step X₁.here [X₁.here.top, hexec, d3', Value.category]
  exact X₁.ldcString hexec (own := own) (text := text) (index := is) (a := sa) hown' hstr'.1 hstr'.2
    (g := { method := m, pc := pc + 4, locals := ls, stack := .ref T.heap.size :: .ref T.heap.size :: rest, locked := none }) rfl d4' _ hsteps
theorem tw_throwSW {H : Heap} {locs : List Loc} {cells slots : Nat} {ls : Array Slot} {rest : List Value} {cc : ByteArray} {pc : Nat} (hexec : p.tables.exec = Jvm.exec) (hb : c.code = cc) (hl : l.stackTraces = false) {own cls text : String} {names : List String} {ik is ic sa : Nat} {A : Nat → Prop}
    (hown : s.vm.findClass own = some m.cls) (hcls : Bundle.fit cls = true) (hnames : ∀ n ∈ names, Bundle.fit n = true)
    (hk : (Cond.classLink own ik cls).before args s = true) (hini : (Cond.initialized cls).before args s = true) (hstr : vk_R own is text sa s) (hat : ∀ w ∈ vx_atS own ic cls names, w.before args s = true)
    (hgood : ∀ w ∈ Cond.classLink own ik cls :: Cond.initialized cls :: vx_atS own ic cls names, vx_ot w = true)
    (hU : vx_Zq Bundle.tN "UNASSIGNED_STACK" Bundle.steD A s s.heap) (hN : vx_Zq Bundle.tN "SUPPRESSED_SENTINEL" Bundle.listD A s s.heap) (hS : va_S A s.heap H locs) (hsize : ls.size = c.maxLocals)
    (d0 : decode cc pc = .ok (.new ik, 3)) (d3 : decode cc (pc + 3) = .ok (.dup, 1)) (d4 : decode cc (pc + 4) = .ok (.ldc_w is, 3)) (d7 : decode cc (pc + 7) = .ok (.invokespecial ic, 3)) (d10 : decode cc (pc + 10) = .ok (.athrow, 1))
    (hout : ∀ x ∈ c.exceptionTable.toList, covers x (pc + 10) = false)
    (hRframes : names.length + 3 < R.frames) (hRlocals : (rest.map fun v => v.category).sum + (13 * (names.length + 1) + 43) ≤ R.locals) (hRcells : cells + 1 ≤ R.cells) (hRslots : slots + 6 ≤ R.slots) (hlocks : meth.locks = false) {T : State} (hT : T.heap = H) (X : Stand p l e R s m args below meth c T locs cells slots) :
    ∃ U : State, Steps p.tables e below (T.setTop (F0 m pc ls rest)) U ∧ U.status = .running ∧ Ended U below (.threw H.size) ∧ s.WarmedH U.vm ∧ s.sameButNew ({ U with vm := s.vm } : State) locs (cells + 1) (slots + 6) ∧ U.heap.size = H.size + 1 ∧ (∀ q : Nat, q < H.size → U.heap[q]? = H[q]?) ∧ ∃ ce : Cell, U.heap[H.size]? = some ce ∧ ce.vm = .none ∧ s.vm.findClass cls = some ce.cls := by
  have htr : e.platform.stackTraces = false := (show e.platform.stackTraces = l.stackTraces by rw [X.admits.platform]).trans hl
  have Y := vx_rebase X (R' := { frames := R.frames, locals := R.locals, cells := 1, slots := 6 }) (Nat.le_refl _) (Nat.le_refl _) hRcells hRslots
  obtain ⟨s', hA⟩ : ∃ z, z = (T.setVm s.vm).setFrames (.invoking m args :: below) := ⟨_, rfl⟩
  rw [← hA] at Y
  have hvm : s'.vm = s.vm := by rw [hA]; rfl
  have hhp : s'.heap = H := by rw [hA]; exact hT
  have hW0 : s.WarmedH s'.vm := by rw [hvm]; exact State.WarmedH.refl s
  have hat' : ∀ w ∈ vx_atS own ic cls names, w.before args s' = true := fun w hw => vx_ot_at hW0 hvm.symm (hgood w (List.mem_cons_of_mem _ (List.mem_cons_of_mem _ hw))) (hat w hw)
  have hk' : (Cond.classLink own ik cls).before args s' = true := vx_ot_at hW0 hvm.symm (hgood _ List.mem_cons_self) hk
  have hini' : (Cond.initialized cls).before args s' = true := vx_ot_at hW0 hvm.symm (hgood _ (List.mem_cons_of_mem _ List.mem_cons_self)) hini
  have hU' : vx_Zq Bundle.tN "UNASSIGNED_STACK" Bundle.steD A s' s'.heap := by rw [hhp]; exact vx_Zq.moved hW0.alike (hU.kept hS.2.1)
  have hN' : vx_Zq Bundle.tN "SUPPRESSED_SENTINEL" Bundle.listD A s' s'.heap := by rw [hhp]; exact vx_Zq.moved hW0.alike (hN.kept hS.2.1)
  have h : ∀ w ∈ Bundle.ownAtoms own ic cls names, w.before args s' = true := vx_own hat' (vx_isRefq hU'.1) (vx_isRefq hN'.1) hU'.2.word hN'.2.word
  have hown' : s'.vm.findClass own = some m.cls := by rw [hvm]; exact hown
  have hins : (Cond.instantiable cls 6).before args s' = true := h _ (by simp [Bundle.ownAtoms])
  obtain ⟨vm₁, cX, kX, hfX, hkX, -, -, X₁, st1⟩ := Y.newCold hexec (own := own) (C := cls) (index := ik) (n := 6) hown' hk' hins hini'
    (g := F0 m pc ls rest) rfl (by rw [hb]; exact d0) (Nat.le_refl _) (Nat.le_refl _)
  generalize hT1 : (T.setVm vm₁).pushCell { cls := cX, slots := kX.instanceTypes.map defaultValue, vm := .none } = T1 at X₁ st1
  have hcat : (Value.ref T.heap.size).category = 1 := rfl
  have hcellA : T1.heap[T.heap.size]? = some (freshCell cX kX) := by rw [← hT1]; exact State.heap_pushCell_size _ _
  have d3' : decode c.code (pc + 3) = .ok (.dup, 1) := by rw [hb]; exact d3
  have d4' : decode c.code (pc + 4) = .ok (.ldc_w is, 3) := by rw [hb]; exact d4
  have hstr' : vk_R own is text sa s' := vk_R.warm hW0 hstr
  obtain ⟨U, hsteps, hrun, hend, hW, hsame, ce, hce, hO⟩ := X₁.ctorThrowS hexec htr (own := own) (cls := cls) (names := names) (ic := ic) hown' hcls hnames h (fun x hx => nomatch hx) hfX hkX hcellA (by rw [hhp, hT]; exact Nat.le_refl _) (msg := .ref sa) rfl
    (g := { method := m, pc := pc + 7, locals := ls, stack := .ref sa :: .ref T.heap.size :: .ref T.heap.size :: rest, locked := none }) rfl hsize rfl rfl (rest := rest) rfl
    (by rw [hb]; exact d7) (by rw [hb]; exact d10) hout hRframes (by simp only [List.map_cons, List.sum_cons, hcat]; omega) hlocks
  obtain ⟨f1, f2⟩ := vx_frame hsame
  rw [hhp] at f1 f2
  have hWs : s.WarmedH U.vm := State.WarmedH.trans hW0 hW
  have hcl : s.vm.findClass cls = some ce.cls := by
    have h9 := hO.cls
    rw [hvm] at h9
    exact h9
  have hall : s.sameButNew ({ U with vm := s.vm } : State) locs (cells + 1) (slots + 6) := by
    subst hA
    obtain ⟨e1, e2⟩ := hsame
    rw [State.setFrames_setFrames] at e1
    have h2 : (T.setVm s.vm).sameButNew ({ U with vm := s.vm } : State) [] (0 + 1) (0 + 6) := ⟨e1, e2⟩
    have h3 := X.same.trans h2
    rw [List.append_nil] at h3
    exact h3.mono (by omega) (by omega)
  have hz1 : U.heap.size ≤ H.size + 1 := by
    have h9 := hsame.2.2.1
    rw [hhp] at h9
    exact h9
  have hz2 : T.heap.size < U.heap.size := (Array.getElem?_eq_some_iff.mp hce).1
  refine ⟨U, ?_, hrun, by rw [← hT]; exact hend, hWs, hall, by rw [hT] at hz2; omega, fun q hq => f2 q hq (fun z hz => nomatch hz), ce, by rw [← hT]; exact hce, hO.vm, hcl⟩
  refine st1 _ ?_
  show Steps p.tables e below (T1.setTop { method := m, pc := pc + 3, locals := ls, stack := .ref T.heap.size :: rest, locked := none }) _
  jvm_step X₁.here [X₁.here.top, hexec, d3', Value.category]
  exact X₁.ldcStringW hexec (own := own) (text := text) (index := is) (a := sa) hown' hstr'.1 hstr'.2
    (g := { method := m, pc := pc + 4, locals := ls, stack := .ref T.heap.size :: .ref T.heap.size :: rest, locked := none }) rfl d4' _ hsteps
end JE
end
section
/-! ===== throw new X("text"); calls by contracts; what was thrown leaves the method, or is caught ===== -/
/-- what 'new X; dup; ldc; <init>(String); athrow' asks: the entries ik (class), ic (constructor); ci: X's number -/
def TH (own : String) (ik ic ci : Nat) (names : List String) : Prop := ∃ (X : String) (T : u_T), g_cl[ci]? = some (X, T, 0) ∧ Bundle.fit X = true ∧ (∀ k ∈ names, Bundle.fit k = true) ∧ (∀ w ∈ Cond.classLink own ik X :: Cond.initialized X :: vx_atS own ic X names, w ∈ g_ws ∧ vx_ot w = true ∧ w.onTables = true)
/-- a method as a callee: its code's word, how many parameters -/
def MC (y : MethodName) (cd : Cond) (cc : ByteArray) (maxL : Nat) (ret : Option FieldType) (hh : List (Nat × Nat × Nat × Nat)) (k : Nat) : Prop := cd ∈ g_ws ∧ ((cd = Cond.code y cc maxL ret ∧ hh = []) ∨ cd = Cond.codeWith y cc maxL ret hh) ∧ Cond.initialized y.cls ∈ g_ws ∧ (y.cls ≠ "java/lang/invoke/MethodHandle" ∧ y.cls ≠ "java/lang/invoke/VarHandle") ∧ (parseMethodDescriptor y.desc).map (fun d => d.parameters.length) = some k
def ML (own : String) (index : Nat) (y : MethodName) : Prop := Cond.methodLink own index y ∈ g_ws ∨ ∃ host : String, Cond.methodLinkNest own index y host ∈ g_ws
section JC
variable {p : Program} {l : Launch} {e : Env} {R : Room} {s : State} {m : MethodId} {args : Array Value} {below : List Frame} {meth : Method} {c : Code} {D : va_G} {cA : Nat → ClassId} {b nL : Nat} {Q : State → Prop} {n : Nat} {h : AH} {kc ks pc : Nat} {L : List (Nat × Value)} {st : List Value} {own mn : String} {cc : ByteArray} {ret : Option FieldType} {hh : List (Nat × Nat × Nat × Nat)} {Qa : Rz → Nat → AH → Prop} {mc ms : Nat}
theorem th_at {H : Heap} {ci k : Nat} {X : String} {T : u_T} (hK : va_K D g_cl (g_ty cA) s) (hc : g_cl[ci]? = some (X, T, 0)) {ce : Cell} (h1 : H[b + k]? = some ce) (h2 : ce.vm = .none) (h3 : s.vm.findClass X = some ce.cls) : va_at D g_cl (b + k, toE b cA (.inr (ci, []))) H := by
  refine ⟨_, hc, ce, h1, ?_, h2, fun k hk => absurd hk (Nat.not_lt_zero k)⟩
  exact Option.some.inj (h3.symm.trans (hK.1 ci _ hc).2.1)
theorem j_throwS (C : Cx p l s m meth c D cA b nL own mn cc ret hh) {ik is ic ci : Nat} {text : String} {names : List String} (hT : TH own ik ic ci names) (hstr : (own, is, text) ∈ g_str) (hout : hh = [])
    (d0 : decode cc pc = .ok (.new ik, 3)) (d3 : decode cc (pc + 3) = .ok (.dup, 1)) (d4 : decode cc (pc + 4) = .ok (.ldc is, 2)) (d6 : decode cc (pc + 6) = .ok (.invokespecial ic, 3)) (d9 : decode cc (pc + 9) = .ok (.athrow, 1))
    (hR1 : names.length + 3 < R.frames) (hR2 : (st.map fun v => v.category).sum + (13 * (names.length + 1) + 43) ≤ R.locals) (hR3 : kc + 1 ≤ R.cells) (hR4 : ks + 6 ≤ R.slots) (hc : kc + 1 ≤ mc) (hs : ks + 6 ≤ ms) (hq : Qa (.inr ci) (n + 1) (hu h n (.inr (ci, [])))) : J p l e R s m args below meth c D cA b nL (EndQ D cA b s below Qa mc ms) n h kc ks pc L st := by
  intro H locs ls hp hS hl T hTH X
  obtain ⟨Xn, T0, t1, t2, t3, t4⟩ := hT
  obtain ⟨sa, hsa⟩ := C.2.2.2.2.1.2.2.2.2.1 _ hstr
  have hw : ∀ w ∈ Cond.classLink own ik Xn :: Cond.initialized Xn :: vx_atS own ic Xn names, w.before args s = true := fun w hw => C.w (t4 w hw).1 (t4 w hw).2.2 args
  obtain ⟨U, a1, a2, a3, a4, a5, a6, a7, ce, a8, a9, a10⟩ := tw_throwS (A := fun q => b ≤ q) (rest := st.map (sv b)) C.1 C.2.1 C.2.2.2.2.2.2.2.2.1 C.2.2.2.1 t2 t3 (hw _ List.mem_cons_self) (hw _ (List.mem_cons_of_mem _ List.mem_cons_self)) hsa (fun w h9 => hw w (List.mem_cons_of_mem _ (List.mem_cons_of_mem _ h9)))
    (fun w h9 => (t4 w h9).2.1) C.2.2.2.2.1.2.2.2.2.2.1 C.2.2.2.2.1.2.2.2.2.2.2 hS (hl.1.trans C.2.2.1.symm) d0 d3 d4 d6 d9 (by rw [C.2.2.2.2.2.2.2.1, hout]; intro x hx; cases hx)
    hR1 (by rw [List.map_map]; rw [show ((fun v : Value => v.category) ∘ sv b) = (fun v : Value => v.category) from funext (fun v => sv_cat b v)]; exact hR2) hR3 hR4 C.2.2.2.2.2.1 hTH X
  refine ⟨U, a1, _, a2, a3, a4, ⟨locs, a5.mono hc hs, hS.2.2⟩, fun q hq => ?_, n + 1, hu h n (.inr (ci, [])), .inr ci, hp.push a6 a7 (th_at C.2.2.2.2.1.2.1 t1 (by rw [← hp.1]; exact a8) a9 a10), ⟨n, Nat.lt_succ_self n, by rw [hp.1], hu_s _ _ _⟩, hq⟩
  rw [a7 q (Nat.lt_of_lt_of_le hq (by rw [hp.1]; omega))]
  exact S_low C.2.2.2.2.1.2.2.1 hS q hq
theorem j_throwSW (C : Cx p l s m meth c D cA b nL own mn cc ret hh) {ik is ic ci : Nat} {text : String} {names : List String} (hT : TH own ik ic ci names) (hstr : (own, is, text) ∈ g_str) (hout : hh = [])
    (d0 : decode cc pc = .ok (.new ik, 3)) (d3 : decode cc (pc + 3) = .ok (.dup, 1)) (d4 : decode cc (pc + 4) = .ok (.ldc_w is, 3)) (d6 : decode cc (pc + 7) = .ok (.invokespecial ic, 3)) (d9 : decode cc (pc + 10) = .ok (.athrow, 1))
    (hR1 : names.length + 3 < R.frames) (hR2 : (st.map fun v => v.category).sum + (13 * (names.length + 1) + 43) ≤ R.locals) (hR3 : kc + 1 ≤ R.cells) (hR4 : ks + 6 ≤ R.slots) (hc : kc + 1 ≤ mc) (hs : ks + 6 ≤ ms) (hq : Qa (.inr ci) (n + 1) (hu h n (.inr (ci, [])))) : J p l e R s m args below meth c D cA b nL (EndQ D cA b s below Qa mc ms) n h kc ks pc L st := by
  intro H locs ls hp hS hl T hTH X
  obtain ⟨Xn, T0, t1, t2, t3, t4⟩ := hT
  obtain ⟨sa, hsa⟩ := C.2.2.2.2.1.2.2.2.2.1 _ hstr
  have hw : ∀ w ∈ Cond.classLink own ik Xn :: Cond.initialized Xn :: vx_atS own ic Xn names, w.before args s = true := fun w hw => C.w (t4 w hw).1 (t4 w hw).2.2 args
  obtain ⟨U, a1, a2, a3, a4, a5, a6, a7, ce, a8, a9, a10⟩ := tw_throwSW (A := fun q => b ≤ q) (rest := st.map (sv b)) C.1 C.2.1 C.2.2.2.2.2.2.2.2.1 C.2.2.2.1 t2 t3 (hw _ List.mem_cons_self) (hw _ (List.mem_cons_of_mem _ List.mem_cons_self)) hsa (fun w h9 => hw w (List.mem_cons_of_mem _ (List.mem_cons_of_mem _ h9)))
    (fun w h9 => (t4 w h9).2.1) C.2.2.2.2.1.2.2.2.2.2.1 C.2.2.2.2.1.2.2.2.2.2.2 hS (hl.1.trans C.2.2.1.symm) d0 d3 d4 d6 d9 (by rw [C.2.2.2.2.2.2.2.1, hout]; intro x hx; cases hx)
    hR1 (by rw [List.map_map]; rw [show ((fun v : Value => v.category) ∘ sv b) = (fun v : Value => v.category) from funext (fun v => sv_cat b v)]; exact hR2) hR3 hR4 C.2.2.2.2.2.1 hTH X
  refine ⟨U, a1, _, a2, a3, a4, ⟨locs, a5.mono hc hs, hS.2.2⟩, fun q hq => ?_, n + 1, hu h n (.inr (ci, [])), .inr ci, hp.push a6 a7 (th_at C.2.2.2.2.1.2.1 t1 (by rw [← hp.1]; exact a8) a9 a10), ⟨n, Nat.lt_succ_self n, by rw [hp.1], hu_s _ _ _⟩, hq⟩
  rw [a7 q (Nat.lt_of_lt_of_le hq (by rw [hp.1]; omega))]
  exact S_low C.2.2.2.2.1.2.2.1 hS q hq
/-- the call itself, behind the invoking instruction's own step -/
theorem call_core {T : State} {locs : List Loc} {y : MethodName} {cd : Cond} {fr lo mc' ms' maxL len k : Nat} {vs : List Value} {Qc : Rz → Nat → AH → Prop} {cc' : ByteArray} {ret' : Option FieldType} {hh' : List (Nat × Nat × Nat × Nat)} {g : JFrame} {ig : Instr} {mk : MethodId}
    (hG : Gl D cA b s) (X : Stand p l e R s m args below meth c T locs kc ks) (hp : Hp D cA b n h T.heap) (hS : va_S (fun q => b ≤ q) s.heap T.heap locs)
    (hC : Cn l D cA b y cd fr lo mc' ms' vs n h Qc) (hM : MC y cd cc' maxL ret' hh' k) (hg : g.method = m) (hsize : g.locals.size = c.maxLocals) (hdg : decode c.code g.pc = .ok (ig, len)) (hn : T.methodNamed? y = some mk)
    (hR1 : fr + 1 ≤ R.frames) (hR2 : 2 * g.monitorRoom + (g.stack.map fun v => v.category).sum + (maxL + 11) + lo ≤ R.locals) (hR3 : kc + mc' ≤ R.cells) (hR4 : ks + ms' ≤ R.slots) :
    ∃ (n' : Nat) (h' : AH) (r : Rz) (T' : State) (locs' : List Loc), Qc r n' h' ∧ Stand p l e R s m args below meth c T' locs' (kc + mc') (ks + ms') ∧ Hp D cA b n' h' T'.heap ∧ va_S (fun q => b ≤ q) s.heap T'.heap locs' ∧
      match r with
      | .inl v => Steps p.tables e below (doInvoke e (T.setTop g) [] mk (vs.map (sv b)).toArray).1 (T'.setTop { g with pc := g.pc + len, stack := (v.map (sv b)).toList ++ g.stack })
      | .inr ci => ∃ q, q < n' ∧ h' q = .inr (ci, []) ∧ Steps p.tables e below (doInvoke e (T.setTop g) [] mk (vs.map (sv b)).toArray).1 ((T'.setTop g).pushFrame (.throwing (b + q))) := by
  obtain ⟨m1, m2, m3, -, -⟩ := hM
  have hlow := S_low hG.2.2.1 hS
  have hzb : b ≤ T.heap.size := by rw [hp.1]; omega
  have hGT : Gl D cA b T := hG.to X.warmed hzb hlow
  have hGc : Gl D cA b (T.calling g mk (vs.map (sv b)).toArray) := hGT.to (State.WarmedH.refl T) hzb (fun _ _ => rfl)
  have hcdT : ∀ a' : Array Value, cd.before a' T = true := by
    intro a'
    have h1 := hGT.1 cd m1
    rcases m2 with ⟨rfl, -⟩ | rfl <;> exact va_tabs rfl rfl h1
  have hini : (Cond.initialized y.cls).before (vs.map (sv b)).toArray T = true := va_tabs rfl rfl (hGT.1 _ m3)
  have hsp : ∃ methY cY, T.vm.method? mk = some methY ∧ methY.code = some cY ∧ cY.maxLocals = maxL := by
    rcases m2 with ⟨rfl, -⟩ | rfl
    · obtain ⟨methY, cY, hmY, hcY, -, hlY, -⟩ := Cond.code_spec hn (hcdT #[])
      exact ⟨methY, cY, hmY, hcY, hlY⟩
    · obtain ⟨m9, methY, cY, hn9, hmY, hcY, -, hlY, -⟩ := Cond.codeWith_spec (hcdT #[])
      cases Option.some.inj (hn9.symm.trans hn)
      exact ⟨methY, cY, hmY, hcY, hlY⟩
  obtain ⟨methY, cY, hmY, hcY, hlY⟩ := hsp
  obtain ⟨kY, hkY, -⟩ := className_of_methodNamed hn
  have hinitY : kY.init = .initialized := Cond.initialized_spec (findClass_of_methodNamed hn) hkY hini
  have hAt : At T g.method c below := by rw [hg]; exact X.here
  have happ : (headSpec [cd] { frames := fr, cells := mc', slots := ms', locals := lo }).appliesLoose y e.platform (T.calling g mk (vs.map (sv b)).toArray) = true :=
    Spec.appliesLoose_calling (g := g) hAt hdg hn hkY hinitY
      (X.room_calling (g := g) (R' := { frames := fr, cells := mc', slots := ms', locals := lo }) hsize hmY hcY hR1 (by rw [hlY]; exact hR2) hR3 hR4)
      (atoms_intro (fun w hw => by rw [List.mem_singleton] at hw; subst hw; exact hcdT _))
  obtain ⟨mid, hmid⟩ := hAt.above
  have hfr : (T.setTop g).frames = (.java g :: mid) ++ below := by rw [State.frames_setTop' g hAt.top, hmid]; rfl
  obtain ⟨o, s₂, hsteps, -, hend, hq⟩ := Steps.callFree hC p X.admits X.cas X.clock (acts := []) hfr happ ⟨rfl, hGc, hp⟩ trivial
  rw [State.frames_setTop' g hAt.top, X.tail] at hend
  obtain ⟨q1, ⟨L9, q2, q3⟩, q4, n', h', r, q5, q6, q7⟩ : EndO D cA b (T.calling g mk (vs.map (sv b)).toArray) o s₂ Qc mc' ms' := hq
  have fin : ∀ T' : State, T.sameButNew (T'.setVm T.vm) L9 mc' ms' → T'.heap = s₂.heap → Hp D cA b n' h' T'.heap ∧ va_S (fun q => b ≤ q) s.heap T'.heap (locs ++ L9) := by
    intro T' h1 h2
    refine ⟨by rw [h2]; exact q5, Nat.le_trans hS.1 h1.2.1, fun q a1 a2 => ?_, fun z hz => ?_⟩
    · rw [h2]
      exact (q4 q (Nat.not_le.mp a2)).trans (hS.2.1 q a1 a2)
    · rcases List.mem_append.mp hz with h9 | h9
      · exact hS.2.2 z h9
      · exact q3 z h9
  cases r with
  | inl v =>
    have q6' : o = .returned (v.map (sv b)) := q6
    subst q6'
    obtain ⟨T', X', hW', hsm, ht⟩ := X.outOf hg hdg hend q1 q2
    have hheap : T'.heap = s₂.heap := by rw [ht]; rfl
    obtain ⟨f1, f2⟩ := fin T' hsm hheap
    exact ⟨n', h', .inl v, T', locs ++ L9, q7, X', f1, f2, by have h9 := hsteps; rw [ht] at h9; exact h9⟩
  | inr ci =>
    obtain ⟨q, hqn, hqo, hqh⟩ := q6
    subst hqo
    obtain ⟨T', X', hW', hsm, ht⟩ := X.outOfThrown hg hend q1 q2
    have hheap : T'.heap = s₂.heap := by rw [ht]; exact (Stand.throwing_heap T' g (b + q)).symm
    obtain ⟨f1, f2⟩ := fin T' hsm hheap
    exact ⟨n', h', .inr ci, T', locs ++ L9, q7, X', f1, f2, q, hqn, hqh, by have h9 := hsteps; rw [ht] at h9; exact h9⟩
end JC
end
section
/-! ===== the invoking instructions ===== -/
/-- cell q is being thrown, over the frame at pc -/
def JX (p : Program) (l : Launch) (e : Env) (R : Room) (s : State) (m : MethodId) (args : Array Value) (below : List Frame) (meth : Method) (c : Code) (D : va_G) (cA : Nat → ClassId) (b nL : Nat) (Q : State → Prop) (n : Nat) (h : AH) (kc ks pc : Nat) (L : List (Nat × Value)) (q : Nat) : Prop :=
  ∀ (H : Heap) (locs : List Loc) (ls : Array Slot) (rest : List Value) (T : State), Hp D cA b n h H → va_S (fun q => b ≤ q) s.heap H locs → lv_has ls nL (sL b L) → T.heap = H → Stand p l e R s m args below meth c T locs kc ks → ∃ t, Steps p.tables e below ((T.setTop (F0 m pc ls rest)).pushFrame (.throwing (b + q))) t ∧ Q t
/-- where a call leads: on behind it, or up with what was thrown -/
def JK (p : Program) (l : Launch) (e : Env) (R : Room) (s : State) (m : MethodId) (args : Array Value) (below : List Frame) (meth : Method) (c : Code) (D : va_G) (cA : Nat → ClassId) (b nL : Nat) (Q : State → Prop) (kc ks pc : Nat) (L : List (Nat × Value)) (st : List Value) (Qc : Rz → Nat → AH → Prop) : Prop :=
  (∀ (v : Option Value) (n : Nat) (h : AH), Qc (.inl v) n h → J p l e R s m args below meth c D cA b nL Q n h kc ks (pc + 3) L (v.toList ++ st)) ∧ ∀ (ci : Nat) (n : Nat) (h : AH) (q : Nat), Qc (.inr ci) n h → q < n → h q = .inr (ci, []) → JX p l e R s m args below meth c D cA b nL Q n h kc ks pc L q
/-- it returns v, with the heap n1, h1 -/
def Re (v : Option Value) (n1 : Nat) (h1 : AH) : Rz → Nat → AH → Prop := fun r n h => r = .inl v ∧ n = n1 ∧ h = h1
section JI
variable {p : Program} {l : Launch} {e : Env} {R : Room} {s : State} {m : MethodId} {args : Array Value} {below : List Frame} {meth : Method} {c : Code} {D : va_G} {cA : Nat → ClassId} {b nL : Nat} {Q : State → Prop} {n : Nat} {h : AH} {kc ks pc : Nat} {L : List (Nat × Value)} {st : List Value} {own mn : String} {cc : ByteArray} {ret : Option FieldType} {hh : List (Nat × Nat × Nat × Nat)} {Qa : Rz → Nat → AH → Prop} {mc ms : Nat}
theorem jk_e {v : Option Value} {n1 : Nat} {h1 : AH} (k : J p l e R s m args below meth c D cA b nL Q n1 h1 kc ks (pc + 3) L (v.toList ++ st)) : JK p l e R s m args below meth c D cA b nL Q kc ks pc L st (Re v n1 h1) := by
  refine ⟨fun v' n' h' hq => ?_, fun ci n' h' q hq => by cases hq.1⟩
  obtain ⟨e1, rfl, rfl⟩ := hq
  cases e1
  exact k
theorem sv_sum (b : Nat) (st : List Value) : ((st.map (sv b)).map fun v => v.category).sum = (st.map fun v => v.category).sum := by
  rw [List.map_map]
  congr 2
  funext v
  exact sv_cat b v
theorem call_go {T T1 : State} {H : Heap} {locs : List Loc} {ls : Array Slot} {y : MethodName} {cd : Cond} {fr lo mc' ms' maxL k : Nat} {vs : List Value} {Qc : Rz → Nat → AH → Prop} {cc' : ByteArray} {ret' : Option FieldType} {hh' : List (Nat × Nat × Nat × Nat)} {ig : Instr} {mk : MethodId} {stk : List Value}
    (C : Cx p l s m meth c D cA b nL own mn cc ret hh) (X : Stand p l e R s m args below meth c T1 locs kc ks) (hp : Hp D cA b n h H) (hT1 : T1.heap = H) (hS : va_S (fun q => b ≤ q) s.heap H locs) (hl : lv_has ls nL (sL b L))
    (hC : Cn l D cA b y cd fr lo mc' ms' vs n h Qc) (hM : MC y cd cc' maxL ret' hh' k) (hd : decode cc pc = .ok (ig, 3)) (hn : T1.methodNamed? y = some mk)
    (hR1 : fr + 1 ≤ R.frames) (hR2 : (st.map fun v => v.category).sum + (maxL + 11) + lo ≤ R.locals) (hR3 : kc + mc' ≤ R.cells) (hR4 : ks + ms' ≤ R.slots)
    (kk : JK p l e R s m args below meth c D cA b nL Q (kc + mc') (ks + ms') pc L st Qc)
    (hstep : ∀ target, (∀ acts, Steps p.tables e below (doInvoke e (T1.setTop (F0 m pc ls (st.map (sv b)))) acts mk (vs.map (sv b)).toArray).1 target) → Steps p.tables e below (T.setTop (F0 m pc ls stk)) target) : ∃ t, Steps p.tables e below (T.setTop (F0 m pc ls stk)) t ∧ Q t := by
  obtain ⟨n', h', r, T', locs', g1, g2, g3, g4, g5⟩ := call_core C.2.2.2.2.1 X (by rw [hT1]; exact hp) (by rw [hT1]; exact hS) hC hM (g := F0 m pc ls (st.map (sv b))) (ig := ig) (len := 3) (mk := mk) rfl (hl.1.trans C.2.2.1.symm) (by rw [C.2.1]; exact hd) hn hR1 (by show 2 * 0 + ((st.map (sv b)).map fun v => v.category).sum + (maxL + 11) + lo ≤ R.locals; rw [sv_sum]; omega) hR3 hR4
  cases r with
  | inl v =>
    obtain ⟨t, a1, a2⟩ := kk.1 v n' h' g1 T'.heap locs' ls g3 g4 hl T' rfl g2
    refine ⟨t, hstep t (fun acts => ?_), a2⟩
    rw [doInvoke_state]
    refine Steps.trans g5 ?_
    have e1 : (v.map (sv b)).toList ++ st.map (sv b) = (v.toList ++ st).map (sv b) := by cases v <;> simp
    show Steps p.tables e below (T'.setTop (F0 m (pc + 3) ls ((v.map (sv b)).toList ++ st.map (sv b)))) t
    rw [e1]
    exact a1
  | inr ci =>
    obtain ⟨q, hqn, hqh, g6⟩ := g5
    obtain ⟨t, a1, a2⟩ := kk.2 ci n' h' q g1 hqn hqh T'.heap locs' ls (st.map (sv b)) T' g3 g4 hl rfl g2
    refine ⟨t, hstep t (fun acts => ?_), a2⟩
    rw [doInvoke_state]
    exact Steps.trans g6 a1
theorem j_callS (C : Cx p l s m meth c D cA b nL own mn cc ret hh) {index fr lo mc' ms' maxL k : Nat} {y : MethodName} {cd : Cond} {vs rv : List Value} {Qc : Rz → Nat → AH → Prop} {cc' : ByteArray} {ret' : Option FieldType} {hh' : List (Nat × Nat × Nat × Nat)} (hd : decode cc pc = .ok (.invokestatic index, 3)) (hL : ML own index y) (hM : MC y cd cc' maxL ret' hh' k) (hst : Cond.static y ∈ g_ws) (hC : Cn l D cA b y cd fr lo mc' ms' vs n h Qc) (hk : vs.length = k) (hrv : vs.reverse ++ st = rv)
    (hR1 : fr + 1 ≤ R.frames) (hR2 : (st.map fun v => v.category).sum + (maxL + 11) + lo ≤ R.locals) (hR3 : kc + mc' ≤ R.cells) (hR4 : ks + ms' ≤ R.slots) (kk : JK p l e R s m args below meth c D cA b nL Q (kc + mc') (ks + ms') pc L st Qc) : J p l e R s m args below meth c D cA b nL Q n h kc ks pc L rv := by
  intro H locs ls hp hS hl T hT X
  subst hrv
  obtain ⟨m1, m2, m3, m4, m5⟩ := id hM
  have hcd : cd.before args s = true := by
    rcases m2 with ⟨rfl, -⟩ | rfl <;> exact C.w m1 rfl args
  have hsp : ∃ mk methM, s.methodNamed? y = some mk ∧ s.vm.method? mk = some methM ∧ parseMethodDescriptor y.desc = some methM.sig := by
    rcases m2 with ⟨rfl, -⟩ | rfl
    · obtain ⟨mk, hnamed⟩ := Cond.code_named hcd
      obtain ⟨methM, cM, hmethM, -, -, -, -, -, -, hsigM⟩ := Cond.code_spec hnamed hcd
      exact ⟨mk, methM, hnamed, hmethM, hsigM⟩
    · obtain ⟨mk, methM, cM, hnamed, hmethM, -, -, -, -, -, -, hsigM⟩ := Cond.codeWith_spec hcd
      exact ⟨mk, methM, hnamed, hmethM, hsigM⟩
  obtain ⟨mk, methM, hnamed, hmethM, hsigM⟩ := hsp
  have hstatic : methM.isStatic = true := Cond.static_spec hnamed hmethM (C.w hst rfl args)
  obtain ⟨kP, hkP, -⟩ := className_of_methodNamed hnamed
  have hinitP : kP.init = .initialized := Cond.initialized_spec (findClass_of_methodNamed hnamed) hkP (C.w m3 rfl args)
  have hlen : (vs.map (sv b)).length = methM.sig.parameters.length := by
    rw [hsigM] at m5
    rw [List.length_map, hk]
    exact (Option.some.inj m5).symm
  have hstk : (vs.reverse ++ st).map (sv b) = (vs.map (sv b)).reverse ++ st.map (sv b) := by rw [List.map_append, List.map_reverse]
  rw [hstk]
  rcases hL with hL | ⟨host, hL⟩
  · obtain ⟨vm₁, X₁, hstep₁⟩ := X.invokestatic C.1 C.2.2.2.1 (C.w hL rfl args) hnamed hmethM hstatic hkP hinitP m4 (g := F0 m pc ls ((vs.map (sv b)).reverse ++ st.map (sv b))) rfl (argsL := vs.map (sv b)) (rest := st.map (sv b)) hlen rfl (by rw [C.2.1]; exact hd)
    exact call_go C X₁ hp hT hS hl hC hM hd (X₁.named hnamed) hR1 hR2 hR3 hR4 kk hstep₁
  · obtain ⟨vm₁, X₁, hstep₁⟩ := X.invokestaticNest C.1 C.2.2.2.1 (C.w hL rfl args) hnamed hmethM hstatic hkP hinitP m4 (g := F0 m pc ls ((vs.map (sv b)).reverse ++ st.map (sv b))) rfl (argsL := vs.map (sv b)) (rest := st.map (sv b)) hlen rfl (by rw [C.2.1]; exact hd)
    exact call_go C X₁ hp hT hS hl hC hM hd (X₁.named hnamed) hR1 hR2 hR3 hR4 kk hstep₁
theorem j_callV (C : Cx p l s m meth c D cA b nL own mn cc ret hh) {index fr lo mc' ms' maxL k a ci : Nat} {y : MethodName} {cc' : ByteArray} {ret' : Option FieldType} {vs rv fs : List Value} {Qc : Rz → Nat → AH → Prop} {Cl : String} {T0 : u_T} {N0 : Nat} (hd : decode cc pc = .ok (.invokevirtual index, 3)) (hL : ML own index y) (hM : MC y (Cond.code y cc' maxL ret') cc' maxL ret' [] k) (hin : Cond.instanceMethod y ∈ g_ws) (hc : g_cl[ci]? = some (Cl, T0, N0)) (hsel : Cond.selects Cl y y ∈ g_ws) (ha : a < n) (hx : h a = .inr (ci, fs)) (hC : Cn l D cA b y (Cond.code y cc' maxL ret') fr lo mc' ms' (.ref a :: vs) n h Qc) (hk : vs.length = k) (hrv : vs.reverse ++ .ref a :: st = rv)
    (hR1 : fr + 1 ≤ R.frames) (hR2 : (st.map fun v => v.category).sum + (maxL + 11) + lo ≤ R.locals) (hR3 : kc + mc' ≤ R.cells) (hR4 : ks + ms' ≤ R.slots) (kk : JK p l e R s m args below meth c D cA b nL Q (kc + mc') (ks + ms') pc L st Qc) : J p l e R s m args below meth c D cA b nL Q n h kc ks pc L rv := by
  intro H locs ls hp hS hl T hT X
  subst hrv
  obtain ⟨m1, m2, m3, m4, m5⟩ := id hM
  have hcode : (Cond.code y cc' maxL ret').before args s = true := C.w m1 rfl args
  obtain ⟨mk, methM, hnamed, hmethM, hstM, habM⟩ := Cond.instanceMethod_spec (C.w hin rfl args)
  obtain ⟨methM', cM, hmethM', -, -, -, -, -, -, hsigM⟩ := Cond.code_spec hnamed hcode
  cases hmethM.symm.trans hmethM'
  obtain ⟨c2, r2, m2', q1, q2, q3, q4, kP, hkP, hkPi⟩ := Cond.selects_spec (C.w hsel rfl args)
  obtain ⟨cellB, hcB, hoB, hclB⟩ := va_recv C.2.2.2.2.1.2.1 hp.2 hc (hp.obj ha hx)
  cases hclB.symm.trans q1
  cases (State.methodFound?_of_named hnamed m4).symm.trans q2
  cases hnamed.symm.trans q3
  have hselP : selectMethod e.platform s.vm cellB.cls mk = .method mk := by rw [Launch.admits_selectMethod X.admits]; exact q4
  have hlen : (vs.map (sv b)).length = methM.sig.parameters.length := by
    rw [hsigM] at m5
    rw [List.length_map, hk]
    exact (Option.some.inj m5).symm
  have hstk : (vs.reverse ++ .ref a :: st).map (sv b) = (vs.map (sv b)).reverse ++ .ref (b + a) :: st.map (sv b) := by rw [List.map_append, List.map_reverse]; rfl
  rw [hstk]
  have hcell : T.heap[b + a]? = some cellB := by rw [hT]; exact hcB
  rcases hL with hL | ⟨host, hL⟩
  · obtain ⟨vm₁, X₁, hstep₁⟩ := X.invokevirtual C.1 C.2.2.2.1 (C.w hL rfl args) hnamed hmethM hstM hkP hkPi m4 (a := b + a) (cell := cellB) hcell
      (fun z h => by rw [h] at hoB; cases hoB) hselP hmethM habM hkP hkPi (g := F0 m pc ls ((vs.map (sv b)).reverse ++ .ref (b + a) :: st.map (sv b))) rfl (argsL := vs.map (sv b)) (rest := st.map (sv b)) hlen rfl (by rw [C.2.1]; exact hd)
    exact call_go C X₁ hp hT hS hl hC hM hd (X₁.named hnamed) hR1 hR2 hR3 hR4 kk hstep₁
  · obtain ⟨vm₁, X₁, hstep₁⟩ := X.invokevirtualNest C.1 C.2.2.2.1 (C.w hL rfl args) hnamed hmethM hstM hkP hkPi m4 (a := b + a) (cell := cellB) hcell
      (fun z h => by rw [h] at hoB; cases hoB) hselP hmethM habM hkP hkPi (g := F0 m pc ls ((vs.map (sv b)).reverse ++ .ref (b + a) :: st.map (sv b))) rfl (argsL := vs.map (sv b)) (rest := st.map (sv b)) hlen rfl (by rw [C.2.1]; exact hd)
    exact call_go C X₁ hp hT hS hl hC hM hd (X₁.named hnamed) hR1 hR2 hR3 hR4 kk hstep₁
theorem j_callI (C : Cx p l s m meth c D cA b nL own mn cc ret hh) {index fr lo mc' ms' maxL k a : Nat} {y : MethodName} {cc' : ByteArray} {vs rv : List Value} {Qc : Rz → Nat → AH → Prop} (hd : decode cc pc = .ok (.invokespecial index, 3)) (hy1 : y.name = "<init>") (hL : ML own index y) (hM : MC y (Cond.code y cc' maxL none) cc' maxL none [] k) (hin : Cond.instanceMethod y ∈ g_ws) (hC : Cn l D cA b y (Cond.code y cc' maxL none) fr lo mc' ms' (.ref a :: vs) n h Qc) (hk : vs.length = k) (hrv : vs.reverse ++ .ref a :: st = rv)
    (hR1 : fr + 1 ≤ R.frames) (hR2 : (st.map fun v => v.category).sum + (maxL + 11) + lo ≤ R.locals) (hR3 : kc + mc' ≤ R.cells) (hR4 : ks + ms' ≤ R.slots) (kk : JK p l e R s m args below meth c D cA b nL Q (kc + mc') (ks + ms') pc L st Qc) : J p l e R s m args below meth c D cA b nL Q n h kc ks pc L rv := by
  intro H locs ls hp hS hl T hT X
  subst hrv
  obtain ⟨m1, m2, m3, m4, m5⟩ := id hM
  have hcode : (Cond.code y cc' maxL none).before args s = true := C.w m1 rfl args
  have hpl : e.platform.magicAccessors = ({} : Platform).magicAccessors := by rw [X.admits.platform]
  have hlen : ∀ sig, parseMethodDescriptor y.desc = some sig → (vs.map (sv b)).length = sig.parameters.length := by
    intro sig hsig
    rw [hsig] at m5
    rw [List.length_map, hk]
    exact (Option.some.inj m5).symm
  have hstk : (vs.reverse ++ .ref a :: st).map (sv b) = (vs.map (sv b)).reverse ++ .ref (b + a) :: st.map (sv b) := by rw [List.map_append, List.map_reverse]; rfl
  rw [hstk]
  rcases hL with hL | ⟨host, hL⟩
  · obtain ⟨mk, methM, cM, kP, vm₁, hnamed, hmethM, hcodeM, -, hlocalsM, -, hkP, -, hW₁, hstep₁⟩ := Steps.initColdArgs (e := e) X.here C.1 X.warmed hpl C.2.2.2.1 hy1 m4 (C.w hL rfl args) (C.w hin rfl args) hcode (f := F0 m pc ls ((vs.map (sv b)).reverse ++ .ref (b + a) :: st.map (sv b))) rfl (a := b + a) (argsL := vs.map (sv b)) (rest := st.map (sv b)) hlen rfl (by rw [C.2.1]; exact hd)
    have X₁ := X.noted hW₁
    exact call_go C X₁ hp hT hS hl hC hM hd (X₁.named hnamed) hR1 hR2 hR3 hR4 kk hstep₁
  · obtain ⟨mk, methM, cM, kP, vm₁, hnamed, hmethM, hcodeM, -, hlocalsM, -, hkP, -, hW₁, hstep₁⟩ := Steps.initColdArgsNest (e := e) X.here C.1 X.warmed hpl C.2.2.2.1 hy1 m4 (C.w hL rfl args) (C.w hin rfl args) hcode (f := F0 m pc ls ((vs.map (sv b)).reverse ++ .ref (b + a) :: st.map (sv b))) rfl (a := b + a) (argsL := vs.map (sv b)) (rest := st.map (sv b)) hlen rfl (by rw [C.2.1]; exact hd)
    have X₁ := X.noted hW₁
    exact call_go C X₁ hp hT hS hl hC hM hd (X₁.named hnamed) hR1 hR2 hR3 hR4 kk hstep₁
end JI
end
section
/-! ===== what was thrown; Object's constructor; arrays of references; the JDK's members ===== -/
section JZ
variable {p : Program} {l : Launch} {e : Env} {R : Room} {s : State} {m : MethodId} {args : Array Value} {below : List Frame} {meth : Method} {c : Code} {D : va_G} {cA : Nat → ClassId} {b nL : Nat} {Q : State → Prop} {n : Nat} {h : AH} {kc ks pc : Nat} {L : List (Nat × Value)} {st : List Value} {own mn : String} {cc : ByteArray} {ret : Option FieldType} {hh : List (Nat × Nat × Nat × Nat)} {Qa : Rz → Nat → AH → Prop} {mc ms : Nat}
/-- not caught here: it goes on to the caller -/
theorem jx_out (C : Cx p l s m meth c D cA b nL own mn cc ret hh) {ci q : Nat} (hout : ∀ x ∈ tableOf hh, covers x pc = false) (hq : q < n) (hx : h q = .inr (ci, [])) (hc : kc ≤ mc) (hs : ks ≤ ms) (hQ : Qa (.inr ci) n h) : JX p l e R s m args below meth c D cA b nL (EndQ D cA b s below Qa mc ms) n h kc ks pc L q := by
  intro H locs ls rest T hp hS hl hT X
  obtain ⟨st1, hrun, hend, hW, hsm⟩ := X.leaveThrown (b + q) (g := F0 m pc ls rest) rfl rfl rfl (by rw [C.2.2.2.2.2.2.2.1]; exact hout) C.2.2.2.2.2.1
  refine ⟨_, st1, _, hrun, hend, hW, ⟨locs, hsm.mono hc hs, hS.2.2⟩, fun z hz => ?_, n, h, .inr ci, ?_, ⟨q, hq, rfl, hx⟩, hQ⟩
  · show T.heap[z]? = s.heap[z]?
    rw [hT]; exact S_low C.2.2.2.2.1.2.2.1 hS z hz
  · show Hp D cA b n h T.heap
    rw [hT]; exact hp
/-- caught by the row x of the table, behind rows that don't take it -/
theorem jx_catch (C : Cx p l s m meth c D cA b nL own mn cc ret hh) {ci q : Nat} {E name : String} {T0 : u_T} (hE : g_cl[ci]? = some (E, T0, 0)) (pre : List ExceptionTableEntry) (x : ExceptionTableEntry) (suf : List ExceptionTableEntry) (hsplit : tableOf hh = pre ++ x :: suf)
    (hpass : ∀ z ∈ pre, covers z pc = false ∨ (z.catchType ≠ 0 ∧ ∃ nm : String, Cond.classLink own z.catchType nm ∈ g_ws ∧ (E, nm) ∈ g_nc)) (hcv : covers x pc = true) (h0 : x.catchType ≠ 0)
    (hlink : Cond.classLink own x.catchType name ∈ g_ws) (hcast : Cond.castable E name ∈ g_ws) (hq : q < n) (hx : h q = .inr (ci, []))
    (kk : J p l e R s m args below meth c D cA b nL Q n h kc ks x.handlerPc L [.ref q]) : JX p l e R s m args below meth c D cA b nL Q n h kc ks pc L q := by
  intro H locs ls rest T hp hS hl hT X
  have hpl : e.platform.magicAccessors = ({} : Platform).magicAccessors := by rw [X.admits.platform]
  obtain ⟨r9, g1, ce, hcell, hcls, hv, -⟩ := hp.2 q _ (hp.obj hq hx)
  cases Option.some.inj (g1.symm.trans hE)
  have hcl : s.vm.findClass E = some ce.cls := by rw [hcls]; exact (C.2.2.2.2.1.2.1.1 ci _ hE).2.1
  obtain ⟨c3, c4, hc3, hc4, hasg⟩ := Cond.castable_spec (C.w hcast rfl args)
  cases Option.some.inj (hc3.symm.trans hcl)
  obtain ⟨c5, hc5, hcl5⟩ := Cond.classLink_spec C.2.2.2.1 (C.w hlink rfl args) e.platform hpl
  cases Option.some.inj (hc4.symm.trans hc5)
  obtain ⟨vm', X', st⟩ := X.thenCaughtThrough (b + q) (g := F0 m pc ls rest) rfl (Steps.refl _) (by rw [hT]; exact hcell) (by rw [hv]; rfl) (by obtain ⟨k9, h9, -⟩ := Vm.findClass_spec hcl; exact ⟨k9, h9⟩) pre x suf (C.2.2.2.2.2.2.2.1.trans hsplit)
    (fun z hz => by
      rcases hpass z hz with h | ⟨hz0, nm, hl1, hn1⟩
      · exact Or.inl h
      · obtain ⟨c6, hc6, hcl6⟩ := Cond.classLink_spec C.2.2.2.1 (C.w hl1 rfl args) e.platform hpl
        obtain ⟨a8, b8, h1, h2, h3⟩ := C.2.2.2.2.1.2.2.2.1 _ hn1
        cases Option.some.inj (h1.symm.trans hcl)
        cases Option.some.inj (h2.symm.trans hc6)
        exact Or.inr ⟨hz0, _, hcl6, h3⟩) hcv (Or.inr ⟨h0, c4, hcl5, hasg⟩)
  obtain ⟨t, a1, b1⟩ := kk H locs ls hp hS hl (T.setVm vm') hT X'
  exact ⟨t, st.trans a1, b1⟩
theorem j_objInit (C : Cx p l s m meth c D cA b nL own mn cc ret hh) {index a : Nat} (hd : decode cc pc = .ok (.invokespecial index, 3)) (h1 : Cond.methodLink own index Lib.objectInit ∈ g_ws) (h2 : Cond.instanceMethod Lib.objectInit ∈ g_ws) (h3 : Cond.code Lib.objectInit ⟨#[0xb1]⟩ 1 none ∈ g_ws) (hR1 : 1 ≤ R.frames) (hR2 : (st.map fun v => v.category).sum + 12 ≤ R.locals) (kk : J p l e R s m args below meth c D cA b nL Q n h kc ks (pc + 3) L st) : J p l e R s m args below meth c D cA b nL Q n h kc ks pc L (.ref a :: st) :=
  fun H locs ls hp hS hl => W.objInit C.1 C.2.1 C.2.2.2.1 (C.w h1 rfl args) (C.w h2 rfl args) (C.w h3 rfl args) rfl (hl.1.trans C.2.2.1.symm) rfl hd hR1 (by show 2 * 0 + ((st.map (sv b)).map fun v => v.category).sum + 12 ≤ R.locals; rw [sv_sum]; omega) (kk H locs ls hp hS hl)
theorem j_aast (C : Cx p l s m meth c D cA b nL own mn cc ret hh) {t a v N ci : Nat} {f f' : Nat → Option Nat} {fs : List Value} {i : Int32} {Cl : String} {T0 : u_T} {N0 : Nat} (hd : decode cc pc = .ok (.aastore, 1)) (ht : (g_ty cA)[t]? = some (cA t, .object Cl)) (ha : a < n) (hx : h a = .inl (t, N, .inr (.inr (.inr (.inr f))))) (hv : v < n) (hy : h v = .inr (ci, fs)) (hc : g_cl[ci]? = some (Cl, T0, N0)) (hi : vp_in i N) (hf : va_up f i.toNatClampNeg (some v) = f') (kk : J p l e R s m args below meth c D cA b nL Q n (hu h a (.inl (t, N, .inr (.inr (.inr (.inr f')))))) kc ks (pc + 1) L st) : J p l e R s m args below meth c D cA b nL Q n h kc ks pc L (.ref v :: .int i :: .ref a :: st) := by
  intro H locs ls hp hS hl
  subst hf
  have hK := C.2.2.2.2.1.2.1
  have hg := hp.obj ha hx
  have hlt : i.toNatClampNeg < N := Nat.not_le.mp fun q => hi (Or.inr q)
  have h0 : ¬ i < 0 := fun q => hi (Or.inl q)
  obtain ⟨r', hr', cellV, g1, g2, g3, -⟩ := hp.2 v _ (hp.obj hv hy)
  have hcls := (hK.1 ci _ hc).2
  obtain ⟨kA, comp, k1, k2, k3, -⟩ := (hK.2 t _ ht).2
  have hcomp : comp = D.1 ci := Option.some.inj (k3.symm.trans hcls.1)
  subst hcomp
  obtain ⟨kC, hkC, -⟩ := hcls.2
  refine W.aast C.1 C.2.1 (hp.2 a _ hg) (fun q h => by cases h) (fun h => by cases h) k1 k2 rfl hkC ⟨h0, by show _ < (arrV _ _ _).slots.size; rw [arrV_size]; exact hlt⟩ g1 (fun q h => by rw [g3] at h; cases h) (by rw [g2]; exact hkC) (by rw [g2]; exact va_assign hcls) rfl rfl hd fun H1 e z oq => ?_
  refine kk H1 _ ls (hp.up ha z (hp.2.set (wO_D b cA n h) hg ?_ oq)) (S_put hS z oq (Nat.le_add_right b a)) hl
  show H1[b + a]? = some (vp_cell _ _)
  rw [e]
  show some ((arrV (cA t) N (fun j => va_rf (so b f j))).setSlot i.toNatClampNeg _) = some (arrV (cA t) N (fun j => va_rf (so b (va_up f i.toNatClampNeg (some v)) j)))
  rw [arrV_store]
  congr 2
  funext q
  by_cases hq : q = i.toNatClampNeg
  · subst hq
    simp [updV, va_up, so, va_rf]
  · simp [updV, va_up, so, hq]
theorem j_mmin (C : Cx p l s m meth c D cA b nL own mn cc ret hh) {index : Nat} {x y v : Int32} (hd : decode cc pc = .ok (.invokestatic index, 3)) (h1 : Cond.methodLink own index Lib.Math.min.name ∈ g_ws) (h2 : Cond.static Lib.Math.min.name ∈ g_ws) (h3 : Cond.initialized "java/lang/Math" ∈ g_ws) (h4 : Cond.code Lib.Math.min.name Lib.Math.min.code 2 (some .int) ∈ g_ws) (hR1 : 1 ≤ R.frames) (hR2 : (st.map fun v => v.category).sum + 13 ≤ R.locals) (hc : kc ≤ R.cells) (hs : ks ≤ R.slots) (hv : (if y < x then y else x) = v) (kk : J p l e R s m args below meth c D cA b nL Q n h kc ks (pc + 3) L (.int v :: st)) : J p l e R s m args below meth c D cA b nL Q n h kc ks pc L (.int y :: .int x :: st) := by
  subst hv
  exact fun H locs ls hp hS hl => va_mmin C.1 C.2.1 (C.2.2.1.trans hl.1.symm) C.2.2.2.1 (C.w h1 rfl args) (C.w h2 rfl args) (C.w h3 rfl args) (C.w h4 rfl args) hR1 (by rw [sv_sum]; exact hR2) hc hs hd (kk H locs ls hp hS hl)
theorem j_mabs (C : Cx p l s m meth c D cA b nL own mn cc ret hh) {index : Nat} {x v : Int32} (hd : decode cc pc = .ok (.invokestatic index, 3)) (h1 : Cond.methodLink own index Lib.Math.abs.name ∈ g_ws) (h2 : Cond.static Lib.Math.abs.name ∈ g_ws) (h3 : Cond.initialized "java/lang/Math" ∈ g_ws) (h4 : Cond.code Lib.Math.abs.name Lib.Math.abs.code 1 (some .int) ∈ g_ws) (hR1 : 1 ≤ R.frames) (hR2 : (st.map fun v => v.category).sum + 13 ≤ R.locals) (hc : kc ≤ R.cells) (hs : ks ≤ R.slots) (hv : (if 0 ≤ x then x else 0 - x) = v) (kk : J p l e R s m args below meth c D cA b nL Q n h kc ks (pc + 3) L (.int v :: st)) : J p l e R s m args below meth c D cA b nL Q n h kc ks pc L (.int x :: st) := by
  subst hv
  exact fun H locs ls hp hS hl => va_mabs C.1 C.2.1 (C.2.2.1.trans hl.1.symm) C.2.2.2.1 (C.w h1 rfl args) (C.w h2 rfl args) (C.w h3 rfl args) (C.w h4 rfl args) hR1 (by rw [sv_sum]; exact hR2) hc hs hd (kk H locs ls hp hS hl)
theorem j_copyi (C : Cx p l s m meth c D cA b nL own mn cc ret hh) {index a0 a N0 N t : Nat} {f g f' : Nat → Int32} {sp dp k : Int32} (hd : decode cc pc = .ok (.invokestatic index, 3)) (w1 : Cond.methodLink own index arraycopyName ∈ g_ws) (w2 : Cond.native arraycopyName ∈ g_ws) (w3 : Cond.static arraycopyName ∈ g_ws) (w4 : Cond.initialized "java/lang/System" ∈ g_ws)
    (ht : (g_ty cA)[t]? = some (cA t, .int)) (ha0 : a0 < n) (hx0 : h a0 = .inl (t, N0, .inl f)) (ha : a < n) (hx : h a = .inl (t, N, .inl g)) (h1 : ¬ sp < 0) (h2 : ¬ dp < 0) (h3 : ¬ k < 0) (h4 : sp.toNatClampNeg + k.toNatClampNeg ≤ N0) (h5 : dp.toNatClampNeg + k.toNatClampNeg ≤ N)
    (hR1 : 1 ≤ R.frames) (hR2 : (st.map fun v => v.category).sum + (nativeFrameWords "java/lang/System" "arraycopy" 5 + 11) ≤ R.locals) (hf : va_cpy f g sp.toNatClampNeg dp.toNatClampNeg k.toNatClampNeg = f') (kk : J p l e R s m args below meth c D cA b nL Q n (hu h a (.inl (t, N, .inl f'))) kc ks (pc + 3) L st) : J p l e R s m args below meth c D cA b nL Q n h kc ks pc L (.int k :: .int dp :: .ref a :: .int sp :: .ref a0 :: st) := by
  have nn : ∀ z : Int32, ¬ z < 0 → z.toInt = (z.toNatClampNeg : Int) := by
    intro z hz
    have hz0 : (0 : Int) ≤ z.toInt := by
      have := Int32.not_lt.mp hz
      simpa using Int32.le_iff_toInt_le.mp this
    show z.toInt = ((z.toInt.toNat : Nat) : Int)
    omega
  intro H locs ls hp hS hl T hT X
  subst hf
  have hK := C.2.2.2.2.1.2.1
  have hg := hp.obj ha hx
  have hc0 : H[b + a0]? = some (vp_cell (cA t) (N0, .inl f)) := hp.2 a0 _ (hp.obj ha0 hx0)
  have hc1 : H[b + a]? = some (vp_cell (cA t) (N, .inl g)) := hp.2 a _ hg
  obtain ⟨-, k0, hk0, cm0, hkk0⟩ := (hK.2 t _ ht).1 N0 (fun j => .int (f j))
  obtain ⟨-, k1, hk1, cm1, hkk1⟩ := (hK.2 t _ ht).1 N (fun j => .int (g j))
  obtain ⟨vm', X', step⟩ := X.arraycopy C.1 C.2.2.2.1 (C.w w1 rfl args) (C.w w2 rfl args) (C.w w3 rfl args) (C.w w4 rfl args) (src := b + a0) (dst := b + a) (cs := vp_cell (cA t) (N0, .inl f)) (cd := vp_cell (cA t) (N, .inl g)) (srcPos := sp) (destPos := dp) (n := k) (by rw [hT]; exact hc0) (by rw [hT]; exact hc1)
    (fun _ h => by cases h) (fun _ h => by cases h) (fun h => by cases h) (fun h => by cases h) hk0 hk1 hkk0 hkk1 (by simp [refKind]) h1 h2 h3
    (by rw [nn sp h1, nn k h3]; show ¬ _ > ((arrV (cA t) N0 (fun j => .int (f j))).slots.size : Int); rw [arrV_size]; omega)
    (by rw [nn dp h2, nn k h3]; show ¬ _ > ((arrV (cA t) N (fun j => .int (g j))).slots.size : Int); rw [arrV_size]; omega)
    (fun vm₁ _ i hi => by
      have e : (vp_cell (cA t) (N0, .inl f)).slots.getD (sp.toNatClampNeg + i) .null = .int (f (sp.toNatClampNeg + i)) := by
        show (arrV (cA t) N0 (fun j => .int (f j))).slots.getD _ _ = _
        rw [Array.getD_eq_getD_getElem?, arrV_read _ _ (by omega)]
        rfl
      refine ⟨?_, ?_⟩
      · rw [e]
        rfl
      · rw [e]
        exact trivial)
    (g := F0 m pc ls (.int k :: .int dp :: .ref (b + a) :: .int sp :: .ref (b + a0) :: st.map (sv b))) rfl (hl.1.trans C.2.2.1.symm) (rest := st.map (sv b)) rfl (by rw [C.2.1]; exact hd) hR1 (by show 2 * 0 + ((st.map (sv b)).map fun v => v.category).sum + _ ≤ _; rw [sv_sum]; omega)
  have e1 : copied (vp_cell (cA t) (N0, .inl f)) (vp_cell (cA t) (N, .inl g)) sp dp k = vp_cell (cA t) (N, .inl (va_cpy f g sp.toNatClampNeg dp.toNatClampNeg k.toNatClampNeg)) := va_copied (fun z => .int z) (cA t) (cA t) f g h4
  rw [e1] at X' step
  have hlt : b + a < H.size := (Array.getElem?_eq_some_iff.mp hc1).1
  have hheap : ((T.setVm vm').setCell (b + a) (vp_cell (cA t) (N, .inl (va_cpy f g sp.toNatClampNeg dp.toNatClampNeg k.toNatClampNeg)))).heap = H.setIfInBounds (b + a) (vp_cell (cA t) (N, .inl (va_cpy f g sp.toNatClampNeg dp.toNatClampNeg k.toNatClampNeg))) := by rw [← hT]; rfl
  have oq : ∀ q : Nat, q ≠ b + a → (H.setIfInBounds (b + a) (vp_cell (cA t) (N, .inl (va_cpy f g sp.toNatClampNeg dp.toNatClampNeg k.toNatClampNeg))))[q]? = H[q]? := fun q hq => by simp [Array.getElem?_setIfInBounds, Ne.symm hq]
  have hz : (H.setIfInBounds (b + a) (vp_cell (cA t) (N, .inl (va_cpy f g sp.toNatClampNeg dp.toNatClampNeg k.toNatClampNeg)))).size = H.size := by simp
  obtain ⟨t9, a1, b1⟩ := kk _ _ ls (hp.up ha hz (hp.2.set (wO_D b cA n h) hg (show (H.setIfInBounds (b + a) _)[b + a]? = some _ by simp [Array.getElem?_setIfInBounds, hlt]; rfl) oq)) ⟨by rw [hz]; exact hS.1, fun q g1 g2 => by
      rw [oq q (fun e => g2 (by rw [e]; exact Nat.le_add_right b a))]
      exact hS.2.1 q g1 g2, fun q hq => by
      rcases List.mem_append.mp hq with h | h
      · exact hS.2.2 q h
      · obtain ⟨z, -, hz⟩ := List.mem_map.mp h
        rw [← hz]
        exact Nat.le_add_right b a⟩ hl _ hheap X'
  exact ⟨t9, step t9 a1, b1⟩
end JZ
end
section
/-! ===== locals in another order ===== -/
theorem j_pick (ks' : List Nat) {p : Program} {l : Launch} {e : Env} {R : Room} {s : State} {m : MethodId} {args : Array Value} {below : List Frame} {meth : Method} {c : Code} {D : va_G} {cA : Nat → ClassId} {b nL : Nat} {Q : State → Prop} {n : Nat} {h : AH} {kc ks pc : Nat} {L L' : List (Nat × Value)} {st : List Value} (hL : lv_pick L ks' = L') (k : J p l e R s m args below meth c D cA b nL Q n h kc ks pc L' st) : J p l e R s m args below meth c D cA b nL Q n h kc ks pc L st := by
  intro H locs ls hp hS hl
  refine k H locs ls hp hS ⟨hl.1, hl.2.1, fun q hq => hl.2.2 q ?_⟩
  rw [← hL] at hq
  obtain ⟨q0, h1, rfl⟩ := List.mem_map.mp hq
  obtain ⟨i, -, h2⟩ := List.mem_filterMap.mp h1
  exact List.mem_map.mpr ⟨q0, List.mem_of_getElem? h2, rfl⟩
theorem j_widen {p : Program} {l : Launch} {e : Env} {R : Room} {s : State} {m : MethodId} {args : Array Value} {below : List Frame} {meth : Method} {c : Code} {D : va_G} {cA : Nat → ClassId} {b nL : Nat} {Q : State → Prop} {n : Nat} {h : AH} {kc ks kc' ks' pc : Nat} {L : List (Nat × Value)} {st : List Value} (h1 : kc ≤ kc') (h2 : ks ≤ ks') (k : J p l e R s m args below meth c D cA b nL Q n h kc' ks' pc L st) : J p l e R s m args below meth c D cA b nL Q n h kc ks pc L st :=
  fun H locs ls hp hS hl => W.widen h1 h2 (k H locs ls hp hS hl)
end
section
/-! ===== methods of M: printed by program ===== -/
def y_M_init : MethodName := ⟨cR6, "<init>", "()V"⟩
abbrev b_M_init : ByteArray := prog_8_method_1_code
abbrev k_M_init : Cond := .code y_M_init b_M_init 1 none
theorem mc_M_init : MC y_M_init k_M_init b_M_init 1 none [] 0 := ⟨g_in (List.mem_of_getElem? (i := 745) (by decide +kernel)) (by decide +kernel), Or.inl ⟨rfl, rfl⟩, g_in (List.mem_of_getElem? (i := 62) (by decide +kernel)) (by decide +kernel), by decide, by decide +kernel⟩
theorem in_M_init : Cond.instanceMethod y_M_init ∈ g_ws := g_in (List.mem_of_getElem? (i := 744) (by decide +kernel)) (by decide +kernel)
theorem d_M_init_0 : decode b_M_init 0 = .ok (.aload_n 0, 1) := by decide +kernel
theorem d_M_init_1 : decode b_M_init 1 = .ok (.invokespecial 1, 3) := by decide +kernel
theorem d_M_init_4 : decode b_M_init 4 = .ok (.aload_n 0, 1) := by decide +kernel
theorem d_M_init_5 : decode b_M_init 5 = .ok (.bipush 30, 2) := by decide +kernel
theorem d_M_init_7 : decode b_M_init 7 = .ok (.newarray .int, 2) := by decide +kernel
theorem d_M_init_9 : decode b_M_init 9 = .ok (.putfield 7, 3) := by decide +kernel
theorem d_M_init_12 : decode b_M_init 12 = .ok (.aload_n 0, 1) := by decide +kernel
theorem d_M_init_13 : decode b_M_init 13 = .ok (.bipush 30, 2) := by decide +kernel
theorem d_M_init_15 : decode b_M_init 15 = .ok (.newarray .int, 2) := by decide +kernel
theorem d_M_init_17 : decode b_M_init 17 = .ok (.putfield 13, 3) := by decide +kernel
theorem d_M_init_20 : decode b_M_init 20 = .ok (.aload_n 0, 1) := by decide +kernel
theorem d_M_init_21 : decode b_M_init 21 = .ok (.bipush 30, 2) := by decide +kernel
theorem d_M_init_23 : decode b_M_init 23 = .ok (.newarray .int, 2) := by decide +kernel
theorem d_M_init_25 : decode b_M_init 25 = .ok (.putfield 16, 3) := by decide +kernel
theorem d_M_init_28 : decode b_M_init 28 = .ok (.aload_n 0, 1) := by decide +kernel
theorem d_M_init_29 : decode b_M_init 29 = .ok (.bipush 30, 2) := by decide +kernel
theorem d_M_init_31 : decode b_M_init 31 = .ok (.newarray .int, 2) := by decide +kernel
theorem d_M_init_33 : decode b_M_init 33 = .ok (.putfield 19, 3) := by decide +kernel
theorem d_M_init_36 : decode b_M_init 36 = .ok (.aload_n 0, 1) := by decide +kernel
theorem d_M_init_37 : decode b_M_init 37 = .ok (.bipush 30, 2) := by decide +kernel
theorem d_M_init_39 : decode b_M_init 39 = .ok (.newarray .int, 2) := by decide +kernel
theorem d_M_init_41 : decode b_M_init 41 = .ok (.putfield 22, 3) := by decide +kernel
theorem d_M_init_44 : decode b_M_init 44 = .ok (.aload_n 0, 1) := by decide +kernel
theorem d_M_init_45 : decode b_M_init 45 = .ok (.bipush 30, 2) := by decide +kernel
theorem d_M_init_47 : decode b_M_init 47 = .ok (.newarray .int, 2) := by decide +kernel
theorem d_M_init_49 : decode b_M_init 49 = .ok (.putfield 25, 3) := by decide +kernel
theorem d_M_init_52 : decode b_M_init 52 = .ok (.aload_n 0, 1) := by decide +kernel
theorem d_M_init_53 : decode b_M_init 53 = .ok (.bipush 90, 2) := by decide +kernel
theorem d_M_init_55 : decode b_M_init 55 = .ok (.newarray .int, 2) := by decide +kernel
theorem d_M_init_57 : decode b_M_init 57 = .ok (.putfield 28, 3) := by decide +kernel
theorem d_M_init_60 : decode b_M_init 60 = .ok (.aload_n 0, 1) := by decide +kernel
theorem d_M_init_61 : decode b_M_init 61 = .ok (.sipush 600, 3) := by decide +kernel
theorem d_M_init_64 : decode b_M_init 64 = .ok (.newarray .boolean, 2) := by decide +kernel
theorem d_M_init_66 : decode b_M_init 66 = .ok (.putfield 31, 3) := by decide +kernel
theorem d_M_init_69 : decode b_M_init 69 = .ok (.aload_n 0, 1) := by decide +kernel
theorem d_M_init_70 : decode b_M_init 70 = .ok (.sipush 600, 3) := by decide +kernel
theorem d_M_init_73 : decode b_M_init 73 = .ok (.newarray .boolean, 2) := by decide +kernel
theorem d_M_init_75 : decode b_M_init 75 = .ok (.putfield 35, 3) := by decide +kernel
theorem d_M_init_78 : decode b_M_init 78 = .ok (.aload_n 0, 1) := by decide +kernel
theorem d_M_init_79 : decode b_M_init 79 = .ok (.sipush 600, 3) := by decide +kernel
theorem d_M_init_82 : decode b_M_init 82 = .ok (.newarray .boolean, 2) := by decide +kernel
theorem d_M_init_84 : decode b_M_init 84 = .ok (.putfield 38, 3) := by decide +kernel
theorem d_M_init_87 : decode b_M_init 87 = .ok (.aload_n 0, 1) := by decide +kernel
theorem d_M_init_88 : decode b_M_init 88 = .ok (.sipush 600, 3) := by decide +kernel
theorem d_M_init_91 : decode b_M_init 91 = .ok (.newarray .int, 2) := by decide +kernel
theorem d_M_init_93 : decode b_M_init 93 = .ok (.putfield 41, 3) := by decide +kernel
theorem d_M_init_96 : decode b_M_init 96 = .ok (.aload_n 0, 1) := by decide +kernel
theorem d_M_init_97 : decode b_M_init 97 = .ok (.bipush 100, 2) := by decide +kernel
theorem d_M_init_99 : decode b_M_init 99 = .ok (.newarray .boolean, 2) := by decide +kernel
theorem d_M_init_101 : decode b_M_init 101 = .ok (.putfield 44, 3) := by decide +kernel
theorem d_M_init_104 : decode b_M_init 104 = .ok (.aload_n 0, 1) := by decide +kernel
theorem d_M_init_105 : decode b_M_init 105 = .ok (.sipush 400, 3) := by decide +kernel
theorem d_M_init_108 : decode b_M_init 108 = .ok (.newarray .boolean, 2) := by decide +kernel
theorem d_M_init_110 : decode b_M_init 110 = .ok (.putfield 47, 3) := by decide +kernel
theorem d_M_init_113 : decode b_M_init 113 = .ok (.aload_n 0, 1) := by decide +kernel
theorem d_M_init_114 : decode b_M_init 114 = .ok (.sipush 300, 3) := by decide +kernel
theorem d_M_init_117 : decode b_M_init 117 = .ok (.newarray .int, 2) := by decide +kernel
theorem d_M_init_119 : decode b_M_init 119 = .ok (.putfield 50, 3) := by decide +kernel
theorem d_M_init_122 : decode b_M_init 122 = .ok (.aload_n 0, 1) := by decide +kernel
theorem d_M_init_123 : decode b_M_init 123 = .ok (.iconst (-1), 1) := by decide +kernel
theorem d_M_init_124 : decode b_M_init 124 = .ok (.putfield 53, 3) := by decide +kernel
theorem d_M_init_127 : decode b_M_init 127 = .ok (.aload_n 0, 1) := by decide +kernel
theorem d_M_init_128 : decode b_M_init 128 = .ok (.bipush 20, 2) := by decide +kernel
theorem d_M_init_130 : decode b_M_init 130 = .ok (.newarray .int, 2) := by decide +kernel
theorem d_M_init_132 : decode b_M_init 132 = .ok (.putfield 57, 3) := by decide +kernel
theorem d_M_init_135 : decode b_M_init 135 = .ok (.aload_n 0, 1) := by decide +kernel
theorem d_M_init_136 : decode b_M_init 136 = .ok (.sipush 160, 3) := by decide +kernel
theorem d_M_init_139 : decode b_M_init 139 = .ok (.newarray .int, 2) := by decide +kernel
theorem d_M_init_141 : decode b_M_init 141 = .ok (.putfield 60, 3) := by decide +kernel
theorem d_M_init_144 : decode b_M_init 144 = .ok (.aload_n 0, 1) := by decide +kernel
theorem d_M_init_145 : decode b_M_init 145 = .ok (.sipush 160, 3) := by decide +kernel
theorem d_M_init_148 : decode b_M_init 148 = .ok (.newarray .int, 2) := by decide +kernel
theorem d_M_init_150 : decode b_M_init 150 = .ok (.putfield 63, 3) := by decide +kernel
theorem d_M_init_153 : decode b_M_init 153 = .ok (.aload_n 0, 1) := by decide +kernel
theorem d_M_init_154 : decode b_M_init 154 = .ok (.sipush 160, 3) := by decide +kernel
theorem d_M_init_157 : decode b_M_init 157 = .ok (.newarray .int, 2) := by decide +kernel
theorem d_M_init_159 : decode b_M_init 159 = .ok (.putfield 66, 3) := by decide +kernel
theorem d_M_init_162 : decode b_M_init 162 = .ok (.aload_n 0, 1) := by decide +kernel
theorem d_M_init_163 : decode b_M_init 163 = .ok (.sipush 160, 3) := by decide +kernel
theorem d_M_init_166 : decode b_M_init 166 = .ok (.newarray .boolean, 2) := by decide +kernel
theorem d_M_init_168 : decode b_M_init 168 = .ok (.putfield 69, 3) := by decide +kernel
theorem d_M_init_171 : decode b_M_init 171 = .ok (.aload_n 0, 1) := by decide +kernel
theorem d_M_init_172 : decode b_M_init 172 = .ok (.bipush 20, 2) := by decide +kernel
theorem d_M_init_174 : decode b_M_init 174 = .ok (.newarray .int, 2) := by decide +kernel
theorem d_M_init_176 : decode b_M_init 176 = .ok (.putfield 72, 3) := by decide +kernel
theorem d_M_init_179 : decode b_M_init 179 = .ok (.aload_n 0, 1) := by decide +kernel
theorem d_M_init_180 : decode b_M_init 180 = .ok (.sipush 160, 3) := by decide +kernel
theorem d_M_init_183 : decode b_M_init 183 = .ok (.newarray .int, 2) := by decide +kernel
theorem d_M_init_185 : decode b_M_init 185 = .ok (.putfield 75, 3) := by decide +kernel
theorem d_M_init_188 : decode b_M_init 188 = .ok (.aload_n 0, 1) := by decide +kernel
theorem d_M_init_189 : decode b_M_init 189 = .ok (.sipush 160, 3) := by decide +kernel
theorem d_M_init_192 : decode b_M_init 192 = .ok (.newarray .int, 2) := by decide +kernel
theorem d_M_init_194 : decode b_M_init 194 = .ok (.putfield 78, 3) := by decide +kernel
theorem d_M_init_197 : decode b_M_init 197 = .ok (.aload_n 0, 1) := by decide +kernel
theorem d_M_init_198 : decode b_M_init 198 = .ok (.sipush 160, 3) := by decide +kernel
theorem d_M_init_201 : decode b_M_init 201 = .ok (.newarray .int, 2) := by decide +kernel
theorem d_M_init_203 : decode b_M_init 203 = .ok (.putfield 81, 3) := by decide +kernel
theorem d_M_init_206 : decode b_M_init 206 = .ok (.aload_n 0, 1) := by decide +kernel
theorem d_M_init_207 : decode b_M_init 207 = .ok (.sipush 160, 3) := by decide +kernel
theorem d_M_init_210 : decode b_M_init 210 = .ok (.newarray .boolean, 2) := by decide +kernel
theorem d_M_init_212 : decode b_M_init 212 = .ok (.putfield 84, 3) := by decide +kernel
theorem d_M_init_215 : decode b_M_init 215 = .ok (.aload_n 0, 1) := by decide +kernel
theorem d_M_init_216 : decode b_M_init 216 = .ok (.bipush 40, 2) := by decide +kernel
theorem d_M_init_218 : decode b_M_init 218 = .ok (.newarray .int, 2) := by decide +kernel
theorem d_M_init_220 : decode b_M_init 220 = .ok (.putfield 87, 3) := by decide +kernel
theorem d_M_init_223 : decode b_M_init 223 = .ok (.aload_n 0, 1) := by decide +kernel
theorem d_M_init_224 : decode b_M_init 224 = .ok (.bipush 40, 2) := by decide +kernel
theorem d_M_init_226 : decode b_M_init 226 = .ok (.newarray .int, 2) := by decide +kernel
theorem d_M_init_228 : decode b_M_init 228 = .ok (.putfield 90, 3) := by decide +kernel
theorem d_M_init_231 : decode b_M_init 231 = .ok (.aload_n 0, 1) := by decide +kernel
theorem d_M_init_232 : decode b_M_init 232 = .ok (.sipush 300, 3) := by decide +kernel
theorem d_M_init_235 : decode b_M_init 235 = .ok (.newarray .int, 2) := by decide +kernel
theorem d_M_init_237 : decode b_M_init 237 = .ok (.putfield 93, 3) := by decide +kernel
theorem d_M_init_240 : decode b_M_init 240 = .ok (.return_, 1) := by decide +kernel
def y_M_thrown : MethodName := ⟨cR6, "thrown", "()I"⟩
abbrev b_M_thrown : ByteArray := prog_8_method_2_code
abbrev k_M_thrown : Cond := .code y_M_thrown b_M_thrown 1 (some .int)
theorem mc_M_thrown : MC y_M_thrown k_M_thrown b_M_thrown 1 (some .int) [] 0 := ⟨g_in (List.mem_of_getElem? (i := 868) (by decide +kernel)) (by decide +kernel), Or.inl ⟨rfl, rfl⟩, g_in (List.mem_of_getElem? (i := 62) (by decide +kernel)) (by decide +kernel), by decide, by decide +kernel⟩
theorem in_M_thrown : Cond.instanceMethod y_M_thrown ∈ g_ws := g_in (List.mem_of_getElem? (i := 866) (by decide +kernel)) (by decide +kernel)
theorem se_M_thrown : Cond.selects cR6 y_M_thrown y_M_thrown ∈ g_ws := g_in (List.mem_of_getElem? (i := 867) (by decide +kernel)) (by decide +kernel)
theorem d_M_thrown_0 : decode b_M_thrown 0 = .ok (.aload_n 0, 1) := by decide +kernel
theorem d_M_thrown_1 : decode b_M_thrown 1 = .ok (.getfield 96, 3) := by decide +kernel
theorem d_M_thrown_4 : decode b_M_thrown 4 = .ok (.ireturn, 1) := by decide +kernel
def y_M_in : MethodName := ⟨cR6, "in", "(III)Z"⟩
abbrev b_M_in : ByteArray := prog_8_method_3_code
abbrev k_M_in : Cond := .code y_M_in b_M_in 3 (some .boolean)
theorem mc_M_in : MC y_M_in k_M_in b_M_in 3 (some .boolean) [] 3 := ⟨g_in (List.mem_of_getElem? (i := 875) (by decide +kernel)) (by decide +kernel), Or.inl ⟨rfl, rfl⟩, g_in (List.mem_of_getElem? (i := 62) (by decide +kernel)) (by decide +kernel), by decide, by decide +kernel⟩
theorem st_M_in : Cond.static y_M_in ∈ g_ws := g_in (List.mem_of_getElem? (i := 874) (by decide +kernel)) (by decide +kernel)
theorem d_M_in_0 : decode b_M_in 0 = .ok (.iload_n 0, 1) := by decide +kernel
theorem d_M_in_1 : decode b_M_in 1 = .ok (.iload_n 1, 1) := by decide +kernel
theorem d_M_in_2 : decode b_M_in 2 = .ok (.if_icmp .lt 12, 3) := by decide +kernel
theorem d_M_in_5 : decode b_M_in 5 = .ok (.iload_n 0, 1) := by decide +kernel
theorem d_M_in_6 : decode b_M_in 6 = .ok (.iload_n 2, 1) := by decide +kernel
theorem d_M_in_7 : decode b_M_in 7 = .ok (.if_icmp .gt 7, 3) := by decide +kernel
theorem d_M_in_10 : decode b_M_in 10 = .ok (.iconst 1, 1) := by decide +kernel
theorem d_M_in_11 : decode b_M_in 11 = .ok (.goto 4, 3) := by decide +kernel
theorem d_M_in_14 : decode b_M_in 14 = .ok (.iconst 0, 1) := by decide +kernel
theorem d_M_in_15 : decode b_M_in 15 = .ok (.ireturn, 1) := by decide +kernel
def y_M_goes : MethodName := ⟨cR6, "goes", "(ZZZ)Z"⟩
abbrev b_M_goes : ByteArray := prog_8_method_4_code
abbrev k_M_goes : Cond := .code y_M_goes b_M_goes 4 (some .boolean)
theorem mc_M_goes : MC y_M_goes k_M_goes b_M_goes 4 (some .boolean) [] 3 := ⟨g_in (List.mem_of_getElem? (i := 879) (by decide +kernel)) (by decide +kernel), Or.inl ⟨rfl, rfl⟩, g_in (List.mem_of_getElem? (i := 62) (by decide +kernel)) (by decide +kernel), by decide, by decide +kernel⟩
theorem in_M_goes : Cond.instanceMethod y_M_goes ∈ g_ws := g_in (List.mem_of_getElem? (i := 878) (by decide +kernel)) (by decide +kernel)
theorem se_M_goes : Cond.selects cR6 y_M_goes y_M_goes ∈ g_ws := g_in (List.mem_of_getElem? (i := 35) (by decide +kernel)) (by decide +kernel)
theorem d_M_goes_0 : decode b_M_goes 0 = .ok (.aload_n 0, 1) := by decide +kernel
theorem d_M_goes_1 : decode b_M_goes 1 = .ok (.iload_n 1, 1) := by decide +kernel
theorem d_M_goes_2 : decode b_M_goes 2 = .ok (.ifCond .ne 7, 3) := by decide +kernel
theorem d_M_goes_5 : decode b_M_goes 5 = .ok (.iconst 1, 1) := by decide +kernel
theorem d_M_goes_6 : decode b_M_goes 6 = .ok (.goto 20, 3) := by decide +kernel
theorem d_M_goes_9 : decode b_M_goes 9 = .ok (.iload_n 2, 1) := by decide +kernel
theorem d_M_goes_10 : decode b_M_goes 10 = .ok (.ifCond .ne 7, 3) := by decide +kernel
theorem d_M_goes_13 : decode b_M_goes 13 = .ok (.iconst 2, 1) := by decide +kernel
theorem d_M_goes_14 : decode b_M_goes 14 = .ok (.goto 12, 3) := by decide +kernel
theorem d_M_goes_17 : decode b_M_goes 17 = .ok (.iload_n 3, 1) := by decide +kernel
theorem d_M_goes_18 : decode b_M_goes 18 = .ok (.ifCond .ne 7, 3) := by decide +kernel
theorem d_M_goes_21 : decode b_M_goes 21 = .ok (.iconst 3, 1) := by decide +kernel
theorem d_M_goes_22 : decode b_M_goes 22 = .ok (.goto 4, 3) := by decide +kernel
theorem d_M_goes_25 : decode b_M_goes 25 = .ok (.iconst 0, 1) := by decide +kernel
theorem d_M_goes_26 : decode b_M_goes 26 = .ok (.putfield 96, 3) := by decide +kernel
theorem d_M_goes_29 : decode b_M_goes 29 = .ok (.aload_n 0, 1) := by decide +kernel
theorem d_M_goes_30 : decode b_M_goes 30 = .ok (.getfield 96, 3) := by decide +kernel
theorem d_M_goes_33 : decode b_M_goes 33 = .ok (.ifCond .ne 7, 3) := by decide +kernel
theorem d_M_goes_36 : decode b_M_goes 36 = .ok (.iconst 1, 1) := by decide +kernel
theorem d_M_goes_37 : decode b_M_goes 37 = .ok (.goto 4, 3) := by decide +kernel
theorem d_M_goes_40 : decode b_M_goes 40 = .ok (.iconst 0, 1) := by decide +kernel
theorem d_M_goes_41 : decode b_M_goes 41 = .ok (.ireturn, 1) := by decide +kernel
def y_M_isReport : MethodName := ⟨cR6, "isReport", "(I)Z"⟩
abbrev b_M_isReport : ByteArray := prog_8_method_5_code
abbrev k_M_isReport : Cond := .code y_M_isReport b_M_isReport 2 (some .boolean)
theorem mc_M_isReport : MC y_M_isReport k_M_isReport b_M_isReport 2 (some .boolean) [] 1 := ⟨g_in (List.mem_of_getElem? (i := 898) (by decide +kernel)) (by decide +kernel), Or.inl ⟨rfl, rfl⟩, g_in (List.mem_of_getElem? (i := 62) (by decide +kernel)) (by decide +kernel), by decide, by decide +kernel⟩
theorem in_M_isReport : Cond.instanceMethod y_M_isReport ∈ g_ws := g_in (List.mem_of_getElem? (i := 897) (by decide +kernel)) (by decide +kernel)
theorem se_M_isReport : Cond.selects cR6 y_M_isReport y_M_isReport ∈ g_ws := g_in (List.mem_of_getElem? (i := 37) (by decide +kernel)) (by decide +kernel)
theorem d_M_isReport_0 : decode b_M_isReport 0 = .ok (.iload_n 1, 1) := by decide +kernel
theorem d_M_isReport_1 : decode b_M_isReport 1 = .ok (.iconst 0, 1) := by decide +kernel
theorem d_M_isReport_2 : decode b_M_isReport 2 = .ok (.aload_n 0, 1) := by decide +kernel
theorem d_M_isReport_3 : decode b_M_isReport 3 = .ok (.getfield 99, 3) := by decide +kernel
theorem d_M_isReport_6 : decode b_M_isReport 6 = .ok (.iconst 1, 1) := by decide +kernel
theorem d_M_isReport_7 : decode b_M_isReport 7 = .ok (.isub, 1) := by decide +kernel
theorem d_M_isReport_8 : decode b_M_isReport 8 = .ok (.invokestatic 102, 3) := by decide +kernel
theorem d_M_isReport_11 : decode b_M_isReport 11 = .ok (.ireturn, 1) := by decide +kernel
def y_M_isField : MethodName := ⟨cR6, "isField", "(I)Z"⟩
abbrev b_M_isField : ByteArray := prog_8_method_6_code
abbrev k_M_isField : Cond := .code y_M_isField b_M_isField 1 (some .boolean)
theorem mc_M_isField : MC y_M_isField k_M_isField b_M_isField 1 (some .boolean) [] 1 := ⟨g_in (List.mem_of_getElem? (i := 890) (by decide +kernel)) (by decide +kernel), Or.inl ⟨rfl, rfl⟩, g_in (List.mem_of_getElem? (i := 62) (by decide +kernel)) (by decide +kernel), by decide, by decide +kernel⟩
theorem st_M_isField : Cond.static y_M_isField ∈ g_ws := g_in (List.mem_of_getElem? (i := 889) (by decide +kernel)) (by decide +kernel)
theorem d_M_isField_0 : decode b_M_isField 0 = .ok (.iload_n 0, 1) := by decide +kernel
theorem d_M_isField_1 : decode b_M_isField 1 = .ok (.iconst 0, 1) := by decide +kernel
theorem d_M_isField_2 : decode b_M_isField 2 = .ok (.bipush 19, 2) := by decide +kernel
theorem d_M_isField_4 : decode b_M_isField 4 = .ok (.invokestatic 102, 3) := by decide +kernel
theorem d_M_isField_7 : decode b_M_isField 7 = .ok (.ireturn, 1) := by decide +kernel
def y_M_isPerson : MethodName := ⟨cR6, "isPerson", "(I)Z"⟩
abbrev b_M_isPerson : ByteArray := prog_8_method_7_code
abbrev k_M_isPerson : Cond := .code y_M_isPerson b_M_isPerson 1 (some .boolean)
theorem mc_M_isPerson : MC y_M_isPerson k_M_isPerson b_M_isPerson 1 (some .boolean) [] 1 := ⟨g_in (List.mem_of_getElem? (i := 991) (by decide +kernel)) (by decide +kernel), Or.inl ⟨rfl, rfl⟩, g_in (List.mem_of_getElem? (i := 62) (by decide +kernel)) (by decide +kernel), by decide, by decide +kernel⟩
theorem st_M_isPerson : Cond.static y_M_isPerson ∈ g_ws := g_in (List.mem_of_getElem? (i := 990) (by decide +kernel)) (by decide +kernel)
theorem d_M_isPerson_0 : decode b_M_isPerson 0 = .ok (.iload_n 0, 1) := by decide +kernel
theorem d_M_isPerson_1 : decode b_M_isPerson 1 = .ok (.iconst 0, 1) := by decide +kernel
theorem d_M_isPerson_2 : decode b_M_isPerson 2 = .ok (.bipush 19, 2) := by decide +kernel
theorem d_M_isPerson_4 : decode b_M_isPerson 4 = .ok (.invokestatic 102, 3) := by decide +kernel
theorem d_M_isPerson_7 : decode b_M_isPerson 7 = .ok (.ireturn, 1) := by decide +kernel
def y_M_makes : MethodName := ⟨cR6, "makes", "(III)I"⟩
abbrev b_M_makes : ByteArray := prog_8_method_8_code
abbrev k_M_makes : Cond := .code y_M_makes b_M_makes 4 (some .int)
theorem mc_M_makes : MC y_M_makes k_M_makes b_M_makes 4 (some .int) [] 3 := ⟨g_in (List.mem_of_getElem? (i := 883) (by decide +kernel)) (by decide +kernel), Or.inl ⟨rfl, rfl⟩, g_in (List.mem_of_getElem? (i := 62) (by decide +kernel)) (by decide +kernel), by decide, by decide +kernel⟩
theorem in_M_makes : Cond.instanceMethod y_M_makes ∈ g_ws := g_in (List.mem_of_getElem? (i := 882) (by decide +kernel)) (by decide +kernel)
theorem se_M_makes : Cond.selects cR6 y_M_makes y_M_makes ∈ g_ws := g_in (List.mem_of_getElem? (i := 36) (by decide +kernel)) (by decide +kernel)
theorem d_M_makes_0 : decode b_M_makes 0 = .ok (.aload_n 0, 1) := by decide +kernel
theorem d_M_makes_1 : decode b_M_makes 1 = .ok (.getfield 7, 3) := by decide +kernel
theorem d_M_makes_4 : decode b_M_makes 4 = .ok (.aload_n 0, 1) := by decide +kernel
theorem d_M_makes_5 : decode b_M_makes 5 = .ok (.getfield 99, 3) := by decide +kernel
theorem d_M_makes_8 : decode b_M_makes 8 = .ok (.iload_n 1, 1) := by decide +kernel
theorem d_M_makes_9 : decode b_M_makes 9 = .ok (.iastore, 1) := by decide +kernel
theorem d_M_makes_10 : decode b_M_makes 10 = .ok (.aload_n 0, 1) := by decide +kernel
theorem d_M_makes_11 : decode b_M_makes 11 = .ok (.getfield 13, 3) := by decide +kernel
theorem d_M_makes_14 : decode b_M_makes 14 = .ok (.aload_n 0, 1) := by decide +kernel
theorem d_M_makes_15 : decode b_M_makes 15 = .ok (.getfield 99, 3) := by decide +kernel
theorem d_M_makes_18 : decode b_M_makes 18 = .ok (.iload_n 2, 1) := by decide +kernel
theorem d_M_makes_19 : decode b_M_makes 19 = .ok (.iastore, 1) := by decide +kernel
theorem d_M_makes_20 : decode b_M_makes 20 = .ok (.aload_n 0, 1) := by decide +kernel
theorem d_M_makes_21 : decode b_M_makes 21 = .ok (.getfield 16, 3) := by decide +kernel
theorem d_M_makes_24 : decode b_M_makes 24 = .ok (.aload_n 0, 1) := by decide +kernel
theorem d_M_makes_25 : decode b_M_makes 25 = .ok (.getfield 99, 3) := by decide +kernel
theorem d_M_makes_28 : decode b_M_makes 28 = .ok (.aload_n 0, 1) := by decide +kernel
theorem d_M_makes_29 : decode b_M_makes 29 = .ok (.getfield 106, 3) := by decide +kernel
theorem d_M_makes_32 : decode b_M_makes 32 = .ok (.iastore, 1) := by decide +kernel
theorem d_M_makes_33 : decode b_M_makes 33 = .ok (.aload_n 0, 1) := by decide +kernel
theorem d_M_makes_34 : decode b_M_makes 34 = .ok (.getfield 22, 3) := by decide +kernel
theorem d_M_makes_37 : decode b_M_makes 37 = .ok (.aload_n 0, 1) := by decide +kernel
theorem d_M_makes_38 : decode b_M_makes 38 = .ok (.getfield 99, 3) := by decide +kernel
theorem d_M_makes_41 : decode b_M_makes 41 = .ok (.iload_n 3, 1) := by decide +kernel
theorem d_M_makes_42 : decode b_M_makes 42 = .ok (.iastore, 1) := by decide +kernel
theorem d_M_makes_43 : decode b_M_makes 43 = .ok (.aload_n 0, 1) := by decide +kernel
theorem d_M_makes_44 : decode b_M_makes 44 = .ok (.dup, 1) := by decide +kernel
theorem d_M_makes_45 : decode b_M_makes 45 = .ok (.getfield 99, 3) := by decide +kernel
theorem d_M_makes_48 : decode b_M_makes 48 = .ok (.iconst 1, 1) := by decide +kernel
theorem d_M_makes_49 : decode b_M_makes 49 = .ok (.iadd, 1) := by decide +kernel
theorem d_M_makes_50 : decode b_M_makes 50 = .ok (.putfield 99, 3) := by decide +kernel
theorem d_M_makes_53 : decode b_M_makes 53 = .ok (.aload_n 0, 1) := by decide +kernel
theorem d_M_makes_54 : decode b_M_makes 54 = .ok (.getfield 99, 3) := by decide +kernel
theorem d_M_makes_57 : decode b_M_makes 57 = .ok (.iconst 1, 1) := by decide +kernel
theorem d_M_makes_58 : decode b_M_makes 58 = .ok (.isub, 1) := by decide +kernel
theorem d_M_makes_59 : decode b_M_makes 59 = .ok (.ireturn, 1) := by decide +kernel
def y_M_report : MethodName := ⟨cR6, "report", "(II)I"⟩
abbrev b_M_report : ByteArray := prog_8_method_9_code
abbrev k_M_report : Cond := .code y_M_report b_M_report 3 (some .int)
theorem mc_M_report : MC y_M_report k_M_report b_M_report 3 (some .int) [] 2 := ⟨g_in (List.mem_of_getElem? (i := 872) (by decide +kernel)) (by decide +kernel), Or.inl ⟨rfl, rfl⟩, g_in (List.mem_of_getElem? (i := 62) (by decide +kernel)) (by decide +kernel), by decide, by decide +kernel⟩
theorem in_M_report : Cond.instanceMethod y_M_report ∈ g_ws := g_in (List.mem_of_getElem? (i := 870) (by decide +kernel)) (by decide +kernel)
theorem se_M_report : Cond.selects cR6 y_M_report y_M_report ∈ g_ws := g_in (List.mem_of_getElem? (i := 871) (by decide +kernel)) (by decide +kernel)
theorem d_M_report_0 : decode b_M_report 0 = .ok (.aload_n 0, 1) := by decide +kernel
theorem d_M_report_1 : decode b_M_report 1 = .ok (.iload_n 2, 1) := by decide +kernel
theorem d_M_report_2 : decode b_M_report 2 = .ok (.iconst 0, 1) := by decide +kernel
theorem d_M_report_3 : decode b_M_report 3 = .ok (.iconst 4, 1) := by decide +kernel
theorem d_M_report_4 : decode b_M_report 4 = .ok (.invokestatic 102, 3) := by decide +kernel
theorem d_M_report_7 : decode b_M_report 7 = .ok (.iload_n 1, 1) := by decide +kernel
theorem d_M_report_8 : decode b_M_report 8 = .ok (.iconst 0, 1) := by decide +kernel
theorem d_M_report_9 : decode b_M_report 9 = .ok (.sipush 9999, 3) := by decide +kernel
theorem d_M_report_12 : decode b_M_report 12 = .ok (.invokestatic 102, 3) := by decide +kernel
theorem d_M_report_15 : decode b_M_report 15 = .ok (.aload_n 0, 1) := by decide +kernel
theorem d_M_report_16 : decode b_M_report 16 = .ok (.getfield 99, 3) := by decide +kernel
theorem d_M_report_19 : decode b_M_report 19 = .ok (.bipush 30, 2) := by decide +kernel
theorem d_M_report_21 : decode b_M_report 21 = .ok (.if_icmp .ge 7, 3) := by decide +kernel
theorem d_M_report_24 : decode b_M_report 24 = .ok (.iconst 1, 1) := by decide +kernel
theorem d_M_report_25 : decode b_M_report 25 = .ok (.goto 4, 3) := by decide +kernel
theorem d_M_report_28 : decode b_M_report 28 = .ok (.iconst 0, 1) := by decide +kernel
theorem d_M_report_29 : decode b_M_report 29 = .ok (.invokevirtual 109, 3) := by decide +kernel
theorem d_M_report_32 : decode b_M_report 32 = .ok (.ifCond .ne 5, 3) := by decide +kernel
theorem d_M_report_35 : decode b_M_report 35 = .ok (.iconst 0, 1) := by decide +kernel
theorem d_M_report_36 : decode b_M_report 36 = .ok (.ireturn, 1) := by decide +kernel
theorem d_M_report_37 : decode b_M_report 37 = .ok (.aload_n 0, 1) := by decide +kernel
theorem d_M_report_38 : decode b_M_report 38 = .ok (.iload_n 1, 1) := by decide +kernel
theorem d_M_report_39 : decode b_M_report 39 = .ok (.iload_n 2, 1) := by decide +kernel
theorem d_M_report_40 : decode b_M_report 40 = .ok (.iconst (-1), 1) := by decide +kernel
theorem d_M_report_41 : decode b_M_report 41 = .ok (.invokevirtual 113, 3) := by decide +kernel
theorem d_M_report_44 : decode b_M_report 44 = .ok (.ireturn, 1) := by decide +kernel
def y_M_ask : MethodName := ⟨cR6, "ask", "(IIZ)V"⟩
abbrev b_M_ask : ByteArray := prog_8_method_10_code
abbrev k_M_ask : Cond := .code y_M_ask b_M_ask 4 none
theorem mc_M_ask : MC y_M_ask k_M_ask b_M_ask 4 none [] 3 := ⟨g_in (List.mem_of_getElem? (i := 887) (by decide +kernel)) (by decide +kernel), Or.inl ⟨rfl, rfl⟩, g_in (List.mem_of_getElem? (i := 62) (by decide +kernel)) (by decide +kernel), by decide, by decide +kernel⟩
theorem in_M_ask : Cond.instanceMethod y_M_ask ∈ g_ws := g_in (List.mem_of_getElem? (i := 885) (by decide +kernel)) (by decide +kernel)
theorem se_M_ask : Cond.selects cR6 y_M_ask y_M_ask ∈ g_ws := g_in (List.mem_of_getElem? (i := 886) (by decide +kernel)) (by decide +kernel)
theorem d_M_ask_0 : decode b_M_ask 0 = .ok (.aload_n 0, 1) := by decide +kernel
theorem d_M_ask_1 : decode b_M_ask 1 = .ok (.iload_n 1, 1) := by decide +kernel
theorem d_M_ask_2 : decode b_M_ask 2 = .ok (.iconst 0, 1) := by decide +kernel
theorem d_M_ask_3 : decode b_M_ask 3 = .ok (.iconst 4, 1) := by decide +kernel
theorem d_M_ask_4 : decode b_M_ask 4 = .ok (.invokestatic 102, 3) := by decide +kernel
theorem d_M_ask_7 : decode b_M_ask 7 = .ok (.ifCond .eq 14, 3) := by decide +kernel
theorem d_M_ask_10 : decode b_M_ask 10 = .ok (.iload_n 2, 1) := by decide +kernel
theorem d_M_ask_11 : decode b_M_ask 11 = .ok (.invokestatic 117, 3) := by decide +kernel
theorem d_M_ask_14 : decode b_M_ask 14 = .ok (.ifCond .eq 7, 3) := by decide +kernel
theorem d_M_ask_17 : decode b_M_ask 17 = .ok (.iconst 1, 1) := by decide +kernel
theorem d_M_ask_18 : decode b_M_ask 18 = .ok (.goto 4, 3) := by decide +kernel
theorem d_M_ask_21 : decode b_M_ask 21 = .ok (.iconst 0, 1) := by decide +kernel
theorem d_M_ask_22 : decode b_M_ask 22 = .ok (.iconst 1, 1) := by decide +kernel
theorem d_M_ask_23 : decode b_M_ask 23 = .ok (.iconst 1, 1) := by decide +kernel
theorem d_M_ask_24 : decode b_M_ask 24 = .ok (.invokevirtual 109, 3) := by decide +kernel
theorem d_M_ask_27 : decode b_M_ask 27 = .ok (.ifCond .eq 15, 3) := by decide +kernel
theorem d_M_ask_30 : decode b_M_ask 30 = .ok (.aload_n 0, 1) := by decide +kernel
theorem d_M_ask_31 : decode b_M_ask 31 = .ok (.getfield 44, 3) := by decide +kernel
theorem d_M_ask_34 : decode b_M_ask 34 = .ok (.bipush 20, 2) := by decide +kernel
theorem d_M_ask_36 : decode b_M_ask 36 = .ok (.iload_n 1, 1) := by decide +kernel
theorem d_M_ask_37 : decode b_M_ask 37 = .ok (.imul, 1) := by decide +kernel
theorem d_M_ask_38 : decode b_M_ask 38 = .ok (.iload_n 2, 1) := by decide +kernel
theorem d_M_ask_39 : decode b_M_ask 39 = .ok (.iadd, 1) := by decide +kernel
theorem d_M_ask_40 : decode b_M_ask 40 = .ok (.iload_n 3, 1) := by decide +kernel
theorem d_M_ask_41 : decode b_M_ask 41 = .ok (.bastore, 1) := by decide +kernel
theorem d_M_ask_42 : decode b_M_ask 42 = .ok (.return_, 1) := by decide +kernel
def y_M_field : MethodName := ⟨cR6, "field", "(III)V"⟩
abbrev b_M_field : ByteArray := prog_8_method_11_code
abbrev k_M_field : Cond := .code y_M_field b_M_field 5 none
theorem mc_M_field : MC y_M_field k_M_field b_M_field 5 none [] 3 := ⟨g_in (List.mem_of_getElem? (i := 894) (by decide +kernel)) (by decide +kernel), Or.inl ⟨rfl, rfl⟩, g_in (List.mem_of_getElem? (i := 62) (by decide +kernel)) (by decide +kernel), by decide, by decide +kernel⟩
theorem in_M_field : Cond.instanceMethod y_M_field ∈ g_ws := g_in (List.mem_of_getElem? (i := 892) (by decide +kernel)) (by decide +kernel)
theorem se_M_field : Cond.selects cR6 y_M_field y_M_field ∈ g_ws := g_in (List.mem_of_getElem? (i := 893) (by decide +kernel)) (by decide +kernel)
theorem d_M_field_0 : decode b_M_field 0 = .ok (.aload_n 0, 1) := by decide +kernel
theorem d_M_field_1 : decode b_M_field 1 = .ok (.iload_n 1, 1) := by decide +kernel
theorem d_M_field_2 : decode b_M_field 2 = .ok (.invokevirtual 121, 3) := by decide +kernel
theorem d_M_field_5 : decode b_M_field 5 = .ok (.ifCond .eq 14, 3) := by decide +kernel
theorem d_M_field_8 : decode b_M_field 8 = .ok (.iload_n 2, 1) := by decide +kernel
theorem d_M_field_9 : decode b_M_field 9 = .ok (.invokestatic 117, 3) := by decide +kernel
theorem d_M_field_12 : decode b_M_field 12 = .ok (.ifCond .eq 7, 3) := by decide +kernel
theorem d_M_field_15 : decode b_M_field 15 = .ok (.iconst 1, 1) := by decide +kernel
theorem d_M_field_16 : decode b_M_field 16 = .ok (.goto 4, 3) := by decide +kernel
theorem d_M_field_19 : decode b_M_field 19 = .ok (.iconst 0, 1) := by decide +kernel
theorem d_M_field_20 : decode b_M_field 20 = .ok (.istore 4, 2) := by decide +kernel
theorem d_M_field_22 : decode b_M_field 22 = .ok (.aload_n 0, 1) := by decide +kernel
theorem d_M_field_23 : decode b_M_field 23 = .ok (.iload 4, 2) := by decide +kernel
theorem d_M_field_25 : decode b_M_field 25 = .ok (.iload_n 3, 1) := by decide +kernel
theorem d_M_field_26 : decode b_M_field 26 = .ok (.ldc 124, 2) := by decide +kernel
theorem d_M_field_28 : decode b_M_field 28 = .ok (.ldc 125, 2) := by decide +kernel
theorem d_M_field_30 : decode b_M_field 30 = .ok (.invokestatic 102, 3) := by decide +kernel
theorem d_M_field_33 : decode b_M_field 33 = .ok (.iload 4, 2) := by decide +kernel
theorem d_M_field_35 : decode b_M_field 35 = .ok (.ifCond .eq 30, 3) := by decide +kernel
theorem d_M_field_38 : decode b_M_field 38 = .ok (.aload_n 0, 1) := by decide +kernel
theorem d_M_field_39 : decode b_M_field 39 = .ok (.getfield 25, 3) := by decide +kernel
theorem d_M_field_42 : decode b_M_field 42 = .ok (.iload_n 1, 1) := by decide +kernel
theorem d_M_field_43 : decode b_M_field 43 = .ok (.iaload, 1) := by decide +kernel
theorem d_M_field_44 : decode b_M_field 44 = .ok (.ifCond .eq 17, 3) := by decide +kernel
theorem d_M_field_47 : decode b_M_field 47 = .ok (.aload_n 0, 1) := by decide +kernel
theorem d_M_field_48 : decode b_M_field 48 = .ok (.getfield 38, 3) := by decide +kernel
theorem d_M_field_51 : decode b_M_field 51 = .ok (.bipush 20, 2) := by decide +kernel
theorem d_M_field_53 : decode b_M_field 53 = .ok (.iload_n 1, 1) := by decide +kernel
theorem d_M_field_54 : decode b_M_field 54 = .ok (.imul, 1) := by decide +kernel
theorem d_M_field_55 : decode b_M_field 55 = .ok (.iload_n 2, 1) := by decide +kernel
theorem d_M_field_56 : decode b_M_field 56 = .ok (.iadd, 1) := by decide +kernel
theorem d_M_field_57 : decode b_M_field 57 = .ok (.baload, 1) := by decide +kernel
theorem d_M_field_58 : decode b_M_field 58 = .ok (.ifCond .eq 7, 3) := by decide +kernel
theorem d_M_field_61 : decode b_M_field 61 = .ok (.iconst 1, 1) := by decide +kernel
theorem d_M_field_62 : decode b_M_field 62 = .ok (.goto 4, 3) := by decide +kernel
theorem d_M_field_65 : decode b_M_field 65 = .ok (.iconst 0, 1) := by decide +kernel
theorem d_M_field_66 : decode b_M_field 66 = .ok (.invokevirtual 109, 3) := by decide +kernel
theorem d_M_field_69 : decode b_M_field 69 = .ok (.ifCond .ne 4, 3) := by decide +kernel
theorem d_M_field_72 : decode b_M_field 72 = .ok (.return_, 1) := by decide +kernel
theorem d_M_field_73 : decode b_M_field 73 = .ok (.aload_n 0, 1) := by decide +kernel
theorem d_M_field_74 : decode b_M_field 74 = .ok (.getfield 31, 3) := by decide +kernel
theorem d_M_field_77 : decode b_M_field 77 = .ok (.bipush 20, 2) := by decide +kernel
theorem d_M_field_79 : decode b_M_field 79 = .ok (.iload_n 1, 1) := by decide +kernel
theorem d_M_field_80 : decode b_M_field 80 = .ok (.imul, 1) := by decide +kernel
theorem d_M_field_81 : decode b_M_field 81 = .ok (.iload_n 2, 1) := by decide +kernel
theorem d_M_field_82 : decode b_M_field 82 = .ok (.iadd, 1) := by decide +kernel
theorem d_M_field_83 : decode b_M_field 83 = .ok (.iconst 1, 1) := by decide +kernel
theorem d_M_field_84 : decode b_M_field 84 = .ok (.bastore, 1) := by decide +kernel
theorem d_M_field_85 : decode b_M_field 85 = .ok (.aload_n 0, 1) := by decide +kernel
theorem d_M_field_86 : decode b_M_field 86 = .ok (.getfield 35, 3) := by decide +kernel
theorem d_M_field_89 : decode b_M_field 89 = .ok (.bipush 20, 2) := by decide +kernel
theorem d_M_field_91 : decode b_M_field 91 = .ok (.iload_n 1, 1) := by decide +kernel
theorem d_M_field_92 : decode b_M_field 92 = .ok (.imul, 1) := by decide +kernel
theorem d_M_field_93 : decode b_M_field 93 = .ok (.iload_n 2, 1) := by decide +kernel
theorem d_M_field_94 : decode b_M_field 94 = .ok (.iadd, 1) := by decide +kernel
theorem d_M_field_95 : decode b_M_field 95 = .ok (.iconst 0, 1) := by decide +kernel
theorem d_M_field_96 : decode b_M_field 96 = .ok (.bastore, 1) := by decide +kernel
theorem d_M_field_97 : decode b_M_field 97 = .ok (.aload_n 0, 1) := by decide +kernel
theorem d_M_field_98 : decode b_M_field 98 = .ok (.getfield 38, 3) := by decide +kernel
theorem d_M_field_101 : decode b_M_field 101 = .ok (.bipush 20, 2) := by decide +kernel
theorem d_M_field_103 : decode b_M_field 103 = .ok (.iload_n 1, 1) := by decide +kernel
theorem d_M_field_104 : decode b_M_field 104 = .ok (.imul, 1) := by decide +kernel
theorem d_M_field_105 : decode b_M_field 105 = .ok (.iload_n 2, 1) := by decide +kernel
theorem d_M_field_106 : decode b_M_field 106 = .ok (.iadd, 1) := by decide +kernel
theorem d_M_field_107 : decode b_M_field 107 = .ok (.iconst 0, 1) := by decide +kernel
theorem d_M_field_108 : decode b_M_field 108 = .ok (.bastore, 1) := by decide +kernel
theorem d_M_field_109 : decode b_M_field 109 = .ok (.aload_n 0, 1) := by decide +kernel
theorem d_M_field_110 : decode b_M_field 110 = .ok (.getfield 41, 3) := by decide +kernel
theorem d_M_field_113 : decode b_M_field 113 = .ok (.bipush 20, 2) := by decide +kernel
theorem d_M_field_115 : decode b_M_field 115 = .ok (.iload_n 1, 1) := by decide +kernel
theorem d_M_field_116 : decode b_M_field 116 = .ok (.imul, 1) := by decide +kernel
theorem d_M_field_117 : decode b_M_field 117 = .ok (.iload_n 2, 1) := by decide +kernel
theorem d_M_field_118 : decode b_M_field 118 = .ok (.iadd, 1) := by decide +kernel
theorem d_M_field_119 : decode b_M_field 119 = .ok (.iload_n 3, 1) := by decide +kernel
theorem d_M_field_120 : decode b_M_field 120 = .ok (.iastore, 1) := by decide +kernel
theorem d_M_field_121 : decode b_M_field 121 = .ok (.return_, 1) := by decide +kernel
def y_M_act : MethodName := ⟨cR6, "act", "(III)Z"⟩
abbrev b_M_act : ByteArray := prog_8_method_12_code
abbrev k_M_act : Cond := .code y_M_act b_M_act 6 (some .boolean)
theorem mc_M_act : MC y_M_act k_M_act b_M_act 6 (some .boolean) [] 3 := ⟨g_in (List.mem_of_getElem? (i := 904) (by decide +kernel)) (by decide +kernel), Or.inl ⟨rfl, rfl⟩, g_in (List.mem_of_getElem? (i := 62) (by decide +kernel)) (by decide +kernel), by decide, by decide +kernel⟩
theorem in_M_act : Cond.instanceMethod y_M_act ∈ g_ws := g_in (List.mem_of_getElem? (i := 902) (by decide +kernel)) (by decide +kernel)
theorem se_M_act : Cond.selects cR6 y_M_act y_M_act ∈ g_ws := g_in (List.mem_of_getElem? (i := 903) (by decide +kernel)) (by decide +kernel)
theorem d_M_act_0 : decode b_M_act 0 = .ok (.aload_n 0, 1) := by decide +kernel
theorem d_M_act_1 : decode b_M_act 1 = .ok (.iload_n 1, 1) := by decide +kernel
theorem d_M_act_2 : decode b_M_act 2 = .ok (.invokevirtual 121, 3) := by decide +kernel
theorem d_M_act_5 : decode b_M_act 5 = .ok (.ifCond .eq 17, 3) := by decide +kernel
theorem d_M_act_8 : decode b_M_act 8 = .ok (.iload_n 2, 1) := by decide +kernel
theorem d_M_act_9 : decode b_M_act 9 = .ok (.iconst 0, 1) := by decide +kernel
theorem d_M_act_10 : decode b_M_act 10 = .ok (.bipush 9, 2) := by decide +kernel
theorem d_M_act_12 : decode b_M_act 12 = .ok (.invokestatic 102, 3) := by decide +kernel
theorem d_M_act_15 : decode b_M_act 15 = .ok (.ifCond .eq 7, 3) := by decide +kernel
theorem d_M_act_18 : decode b_M_act 18 = .ok (.iconst 1, 1) := by decide +kernel
theorem d_M_act_19 : decode b_M_act 19 = .ok (.goto 4, 3) := by decide +kernel
theorem d_M_act_22 : decode b_M_act 22 = .ok (.iconst 0, 1) := by decide +kernel
theorem d_M_act_23 : decode b_M_act 23 = .ok (.istore 4, 2) := by decide +kernel
theorem d_M_act_25 : decode b_M_act 25 = .ok (.aload_n 0, 1) := by decide +kernel
theorem d_M_act_26 : decode b_M_act 26 = .ok (.iload 4, 2) := by decide +kernel
theorem d_M_act_28 : decode b_M_act 28 = .ok (.iload_n 3, 1) := by decide +kernel
theorem d_M_act_29 : decode b_M_act 29 = .ok (.iconst 0, 1) := by decide +kernel
theorem d_M_act_30 : decode b_M_act 30 = .ok (.aload_n 0, 1) := by decide +kernel
theorem d_M_act_31 : decode b_M_act 31 = .ok (.getfield 106, 3) := by decide +kernel
theorem d_M_act_34 : decode b_M_act 34 = .ok (.invokestatic 102, 3) := by decide +kernel
theorem d_M_act_37 : decode b_M_act 37 = .ok (.iload 4, 2) := by decide +kernel
theorem d_M_act_39 : decode b_M_act 39 = .ok (.ifCond .eq 16, 3) := by decide +kernel
theorem d_M_act_42 : decode b_M_act 42 = .ok (.aload_n 0, 1) := by decide +kernel
theorem d_M_act_43 : decode b_M_act 43 = .ok (.getfield 25, 3) := by decide +kernel
theorem d_M_act_46 : decode b_M_act 46 = .ok (.iload_n 1, 1) := by decide +kernel
theorem d_M_act_47 : decode b_M_act 47 = .ok (.iaload, 1) := by decide +kernel
theorem d_M_act_48 : decode b_M_act 48 = .ok (.ifCond .ne 7, 3) := by decide +kernel
theorem d_M_act_51 : decode b_M_act 51 = .ok (.iconst 1, 1) := by decide +kernel
theorem d_M_act_52 : decode b_M_act 52 = .ok (.goto 4, 3) := by decide +kernel
theorem d_M_act_55 : decode b_M_act 55 = .ok (.iconst 0, 1) := by decide +kernel
theorem d_M_act_56 : decode b_M_act 56 = .ok (.invokevirtual 109, 3) := by decide +kernel
theorem d_M_act_59 : decode b_M_act 59 = .ok (.ifCond .ne 5, 3) := by decide +kernel
theorem d_M_act_62 : decode b_M_act 62 = .ok (.iconst 0, 1) := by decide +kernel
theorem d_M_act_63 : decode b_M_act 63 = .ok (.ireturn, 1) := by decide +kernel
theorem d_M_act_64 : decode b_M_act 64 = .ok (.bipush 20, 2) := by decide +kernel
theorem d_M_act_66 : decode b_M_act 66 = .ok (.iload_n 1, 1) := by decide +kernel
theorem d_M_act_67 : decode b_M_act 67 = .ok (.imul, 1) := by decide +kernel
theorem d_M_act_68 : decode b_M_act 68 = .ok (.iload_n 2, 1) := by decide +kernel
theorem d_M_act_69 : decode b_M_act 69 = .ok (.iadd, 1) := by decide +kernel
theorem d_M_act_70 : decode b_M_act 70 = .ok (.istore 5, 2) := by decide +kernel
theorem d_M_act_72 : decode b_M_act 72 = .ok (.aload_n 0, 1) := by decide +kernel
theorem d_M_act_73 : decode b_M_act 73 = .ok (.getfield 31, 3) := by decide +kernel
theorem d_M_act_76 : decode b_M_act 76 = .ok (.iload 5, 2) := by decide +kernel
theorem d_M_act_78 : decode b_M_act 78 = .ok (.baload, 1) := by decide +kernel
theorem d_M_act_79 : decode b_M_act 79 = .ok (.ifCond .eq 26, 3) := by decide +kernel
theorem d_M_act_82 : decode b_M_act 82 = .ok (.aload_n 0, 1) := by decide +kernel
theorem d_M_act_83 : decode b_M_act 83 = .ok (.getfield 35, 3) := by decide +kernel
theorem d_M_act_86 : decode b_M_act 86 = .ok (.iload 5, 2) := by decide +kernel
theorem d_M_act_88 : decode b_M_act 88 = .ok (.baload, 1) := by decide +kernel
theorem d_M_act_89 : decode b_M_act 89 = .ok (.ifCond .eq 14, 3) := by decide +kernel
theorem d_M_act_92 : decode b_M_act 92 = .ok (.aload_n 0, 1) := by decide +kernel
theorem d_M_act_93 : decode b_M_act 93 = .ok (.getfield 41, 3) := by decide +kernel
theorem d_M_act_96 : decode b_M_act 96 = .ok (.iload 5, 2) := by decide +kernel
theorem d_M_act_98 : decode b_M_act 98 = .ok (.iaload, 1) := by decide +kernel
theorem d_M_act_99 : decode b_M_act 99 = .ok (.iload_n 3, 1) := by decide +kernel
theorem d_M_act_100 : decode b_M_act 100 = .ok (.if_icmp .gt 5, 3) := by decide +kernel
theorem d_M_act_103 : decode b_M_act 103 = .ok (.iconst 0, 1) := by decide +kernel
theorem d_M_act_104 : decode b_M_act 104 = .ok (.ireturn, 1) := by decide +kernel
theorem d_M_act_105 : decode b_M_act 105 = .ok (.aload_n 0, 1) := by decide +kernel
theorem d_M_act_106 : decode b_M_act 106 = .ok (.getfield 31, 3) := by decide +kernel
theorem d_M_act_109 : decode b_M_act 109 = .ok (.iload 5, 2) := by decide +kernel
theorem d_M_act_111 : decode b_M_act 111 = .ok (.iconst 1, 1) := by decide +kernel
theorem d_M_act_112 : decode b_M_act 112 = .ok (.bastore, 1) := by decide +kernel
theorem d_M_act_113 : decode b_M_act 113 = .ok (.aload_n 0, 1) := by decide +kernel
theorem d_M_act_114 : decode b_M_act 114 = .ok (.getfield 35, 3) := by decide +kernel
theorem d_M_act_117 : decode b_M_act 117 = .ok (.iload 5, 2) := by decide +kernel
theorem d_M_act_119 : decode b_M_act 119 = .ok (.iconst 1, 1) := by decide +kernel
theorem d_M_act_120 : decode b_M_act 120 = .ok (.bastore, 1) := by decide +kernel
theorem d_M_act_121 : decode b_M_act 121 = .ok (.aload_n 0, 1) := by decide +kernel
theorem d_M_act_122 : decode b_M_act 122 = .ok (.getfield 41, 3) := by decide +kernel
theorem d_M_act_125 : decode b_M_act 125 = .ok (.iload 5, 2) := by decide +kernel
theorem d_M_act_127 : decode b_M_act 127 = .ok (.iload_n 3, 1) := by decide +kernel
theorem d_M_act_128 : decode b_M_act 128 = .ok (.iastore, 1) := by decide +kernel
theorem d_M_act_129 : decode b_M_act 129 = .ok (.iconst 1, 1) := by decide +kernel
theorem d_M_act_130 : decode b_M_act 130 = .ok (.ireturn, 1) := by decide +kernel
def y_M_inside : MethodName := ⟨cR6, "inside", "(II)V"⟩
abbrev b_M_inside : ByteArray := prog_8_method_13_code
abbrev k_M_inside : Cond := .code y_M_inside b_M_inside 3 none
theorem mc_M_inside : MC y_M_inside k_M_inside b_M_inside 3 none [] 2 := ⟨g_in (List.mem_of_getElem? (i := 908) (by decide +kernel)) (by decide +kernel), Or.inl ⟨rfl, rfl⟩, g_in (List.mem_of_getElem? (i := 62) (by decide +kernel)) (by decide +kernel), by decide, by decide +kernel⟩
theorem in_M_inside : Cond.instanceMethod y_M_inside ∈ g_ws := g_in (List.mem_of_getElem? (i := 906) (by decide +kernel)) (by decide +kernel)
theorem se_M_inside : Cond.selects cR6 y_M_inside y_M_inside ∈ g_ws := g_in (List.mem_of_getElem? (i := 907) (by decide +kernel)) (by decide +kernel)
theorem d_M_inside_0 : decode b_M_inside 0 = .ok (.aload_n 0, 1) := by decide +kernel
theorem d_M_inside_1 : decode b_M_inside 1 = .ok (.aload_n 0, 1) := by decide +kernel
theorem d_M_inside_2 : decode b_M_inside 2 = .ok (.iload_n 1, 1) := by decide +kernel
theorem d_M_inside_3 : decode b_M_inside 3 = .ok (.invokevirtual 121, 3) := by decide +kernel
theorem d_M_inside_6 : decode b_M_inside 6 = .ok (.iload_n 2, 1) := by decide +kernel
theorem d_M_inside_7 : decode b_M_inside 7 = .ok (.iconst 0, 1) := by decide +kernel
theorem d_M_inside_8 : decode b_M_inside 8 = .ok (.bipush 99, 2) := by decide +kernel
theorem d_M_inside_10 : decode b_M_inside 10 = .ok (.invokestatic 102, 3) := by decide +kernel
theorem d_M_inside_13 : decode b_M_inside 13 = .ok (.aload_n 0, 1) := by decide +kernel
theorem d_M_inside_14 : decode b_M_inside 14 = .ok (.iload_n 1, 1) := by decide +kernel
theorem d_M_inside_15 : decode b_M_inside 15 = .ok (.invokevirtual 121, 3) := by decide +kernel
theorem d_M_inside_18 : decode b_M_inside 18 = .ok (.ifCond .eq 16, 3) := by decide +kernel
theorem d_M_inside_21 : decode b_M_inside 21 = .ok (.aload_n 0, 1) := by decide +kernel
theorem d_M_inside_22 : decode b_M_inside 22 = .ok (.getfield 25, 3) := by decide +kernel
theorem d_M_inside_25 : decode b_M_inside 25 = .ok (.iload_n 1, 1) := by decide +kernel
theorem d_M_inside_26 : decode b_M_inside 26 = .ok (.iaload, 1) := by decide +kernel
theorem d_M_inside_27 : decode b_M_inside 27 = .ok (.ifCond .ne 7, 3) := by decide +kernel
theorem d_M_inside_30 : decode b_M_inside 30 = .ok (.iconst 1, 1) := by decide +kernel
theorem d_M_inside_31 : decode b_M_inside 31 = .ok (.goto 4, 3) := by decide +kernel
theorem d_M_inside_34 : decode b_M_inside 34 = .ok (.iconst 0, 1) := by decide +kernel
theorem d_M_inside_35 : decode b_M_inside 35 = .ok (.invokevirtual 109, 3) := by decide +kernel
theorem d_M_inside_38 : decode b_M_inside 38 = .ok (.ifCond .eq 10, 3) := by decide +kernel
theorem d_M_inside_41 : decode b_M_inside 41 = .ok (.aload_n 0, 1) := by decide +kernel
theorem d_M_inside_42 : decode b_M_inside 42 = .ok (.getfield 19, 3) := by decide +kernel
theorem d_M_inside_45 : decode b_M_inside 45 = .ok (.iload_n 1, 1) := by decide +kernel
theorem d_M_inside_46 : decode b_M_inside 46 = .ok (.iload_n 2, 1) := by decide +kernel
theorem d_M_inside_47 : decode b_M_inside 47 = .ok (.iastore, 1) := by decide +kernel
theorem d_M_inside_48 : decode b_M_inside 48 = .ok (.return_, 1) := by decide +kernel
def y_M_sign : MethodName := ⟨cR6, "sign", "(JI)I"⟩
abbrev b_M_sign : ByteArray := prog_8_method_14_code
abbrev k_M_sign : Cond := .code y_M_sign b_M_sign 5 (some .int)
theorem mc_M_sign : MC y_M_sign k_M_sign b_M_sign 5 (some .int) [] 2 := ⟨g_in (List.mem_of_getElem? (i := 912) (by decide +kernel)) (by decide +kernel), Or.inl ⟨rfl, rfl⟩, g_in (List.mem_of_getElem? (i := 62) (by decide +kernel)) (by decide +kernel), by decide, by decide +kernel⟩
theorem in_M_sign : Cond.instanceMethod y_M_sign ∈ g_ws := g_in (List.mem_of_getElem? (i := 910) (by decide +kernel)) (by decide +kernel)
theorem se_M_sign : Cond.selects cR6 y_M_sign y_M_sign ∈ g_ws := g_in (List.mem_of_getElem? (i := 911) (by decide +kernel)) (by decide +kernel)
theorem d_M_sign_0 : decode b_M_sign 0 = .ok (.aload_n 0, 1) := by decide +kernel
theorem d_M_sign_1 : decode b_M_sign 1 = .ok (.iload_n 3, 1) := by decide +kernel
theorem d_M_sign_2 : decode b_M_sign 2 = .ok (.iconst 1, 1) := by decide +kernel
theorem d_M_sign_3 : decode b_M_sign 3 = .ok (.bipush 8, 2) := by decide +kernel
theorem d_M_sign_5 : decode b_M_sign 5 = .ok (.invokestatic 102, 3) := by decide +kernel
theorem d_M_sign_8 : decode b_M_sign 8 = .ok (.aload_n 0, 1) := by decide +kernel
theorem d_M_sign_9 : decode b_M_sign 9 = .ok (.getfield 126, 3) := by decide +kernel
theorem d_M_sign_12 : decode b_M_sign 12 = .ok (.iload_n 3, 1) := by decide +kernel
theorem d_M_sign_13 : decode b_M_sign 13 = .ok (.iadd, 1) := by decide +kernel
theorem d_M_sign_14 : decode b_M_sign 14 = .ok (.sipush 300, 3) := by decide +kernel
theorem d_M_sign_17 : decode b_M_sign 17 = .ok (.if_icmp .gt 7, 3) := by decide +kernel
theorem d_M_sign_20 : decode b_M_sign 20 = .ok (.iconst 1, 1) := by decide +kernel
theorem d_M_sign_21 : decode b_M_sign 21 = .ok (.goto 4, 3) := by decide +kernel
theorem d_M_sign_24 : decode b_M_sign 24 = .ok (.iconst 0, 1) := by decide +kernel
theorem d_M_sign_25 : decode b_M_sign 25 = .ok (.iconst 1, 1) := by decide +kernel
theorem d_M_sign_26 : decode b_M_sign 26 = .ok (.invokevirtual 109, 3) := by decide +kernel
theorem d_M_sign_29 : decode b_M_sign 29 = .ok (.ifCond .ne 5, 3) := by decide +kernel
theorem d_M_sign_32 : decode b_M_sign 32 = .ok (.iconst 0, 1) := by decide +kernel
theorem d_M_sign_33 : decode b_M_sign 33 = .ok (.ireturn, 1) := by decide +kernel
theorem d_M_sign_34 : decode b_M_sign 34 = .ok (.iload_n 3, 1) := by decide +kernel
theorem d_M_sign_35 : decode b_M_sign 35 = .ok (.iconst 1, 1) := by decide +kernel
theorem d_M_sign_36 : decode b_M_sign 36 = .ok (.isub, 1) := by decide +kernel
theorem d_M_sign_37 : decode b_M_sign 37 = .ok (.istore 4, 2) := by decide +kernel
theorem d_M_sign_39 : decode b_M_sign 39 = .ok (.iload 4, 2) := by decide +kernel
theorem d_M_sign_41 : decode b_M_sign 41 = .ok (.ifCond .lt 40, 3) := by decide +kernel
theorem d_M_sign_44 : decode b_M_sign 44 = .ok (.aload_n 0, 1) := by decide +kernel
theorem d_M_sign_45 : decode b_M_sign 45 = .ok (.getfield 50, 3) := by decide +kernel
theorem d_M_sign_48 : decode b_M_sign 48 = .ok (.aload_n 0, 1) := by decide +kernel
theorem d_M_sign_49 : decode b_M_sign 49 = .ok (.getfield 126, 3) := by decide +kernel
theorem d_M_sign_52 : decode b_M_sign 52 = .ok (.lload_n 1, 1) := by decide +kernel
theorem d_M_sign_53 : decode b_M_sign 53 = .ok (.bipush 8, 2) := by decide +kernel
theorem d_M_sign_55 : decode b_M_sign 55 = .ok (.iload 4, 2) := by decide +kernel
theorem d_M_sign_57 : decode b_M_sign 57 = .ok (.imul, 1) := by decide +kernel
theorem d_M_sign_58 : decode b_M_sign 58 = .ok (.lshr, 1) := by decide +kernel
theorem d_M_sign_59 : decode b_M_sign 59 = .ok (.l2i, 1) := by decide +kernel
theorem d_M_sign_60 : decode b_M_sign 60 = .ok (.sipush 255, 3) := by decide +kernel
theorem d_M_sign_63 : decode b_M_sign 63 = .ok (.iand, 1) := by decide +kernel
theorem d_M_sign_64 : decode b_M_sign 64 = .ok (.iastore, 1) := by decide +kernel
theorem d_M_sign_65 : decode b_M_sign 65 = .ok (.aload_n 0, 1) := by decide +kernel
theorem d_M_sign_66 : decode b_M_sign 66 = .ok (.dup, 1) := by decide +kernel
theorem d_M_sign_67 : decode b_M_sign 67 = .ok (.getfield 126, 3) := by decide +kernel
theorem d_M_sign_70 : decode b_M_sign 70 = .ok (.iconst 1, 1) := by decide +kernel
theorem d_M_sign_71 : decode b_M_sign 71 = .ok (.iadd, 1) := by decide +kernel
theorem d_M_sign_72 : decode b_M_sign 72 = .ok (.putfield 126, 3) := by decide +kernel
theorem d_M_sign_75 : decode b_M_sign 75 = .ok (.iinc 4 (-1), 3) := by decide +kernel
theorem d_M_sign_78 : decode b_M_sign 78 = .ok (.goto (-39), 3) := by decide +kernel
theorem d_M_sign_81 : decode b_M_sign 81 = .ok (.aload_n 0, 1) := by decide +kernel
theorem d_M_sign_82 : decode b_M_sign 82 = .ok (.getfield 126, 3) := by decide +kernel
theorem d_M_sign_85 : decode b_M_sign 85 = .ok (.ireturn, 1) := by decide +kernel
def y_M_here : MethodName := ⟨cR6, "here", "()I"⟩
abbrev b_M_here : ByteArray := prog_8_method_15_code
abbrev k_M_here : Cond := .code y_M_here b_M_here 1 (some .int)
theorem mc_M_here : MC y_M_here k_M_here b_M_here 1 (some .int) [] 0 := ⟨g_in (List.mem_of_getElem? (i := 924) (by decide +kernel)) (by decide +kernel), Or.inl ⟨rfl, rfl⟩, g_in (List.mem_of_getElem? (i := 62) (by decide +kernel)) (by decide +kernel), by decide, by decide +kernel⟩
theorem in_M_here : Cond.instanceMethod y_M_here ∈ g_ws := g_in (List.mem_of_getElem? (i := 923) (by decide +kernel)) (by decide +kernel)
theorem se_M_here : Cond.selects cR6 y_M_here y_M_here ∈ g_ws := g_in (List.mem_of_getElem? (i := 39) (by decide +kernel)) (by decide +kernel)
theorem d_M_here_0 : decode b_M_here 0 = .ok (.aload_n 0, 1) := by decide +kernel
theorem d_M_here_1 : decode b_M_here 1 = .ok (.getfield 129, 3) := by decide +kernel
theorem d_M_here_4 : decode b_M_here 4 = .ok (.aload_n 0, 1) := by decide +kernel
theorem d_M_here_5 : decode b_M_here 5 = .ok (.getfield 126, 3) := by decide +kernel
theorem d_M_here_8 : decode b_M_here 8 = .ok (.if_icmp .ge 15, 3) := by decide +kernel
theorem d_M_here_11 : decode b_M_here 11 = .ok (.aload_n 0, 1) := by decide +kernel
theorem d_M_here_12 : decode b_M_here 12 = .ok (.getfield 50, 3) := by decide +kernel
theorem d_M_here_15 : decode b_M_here 15 = .ok (.aload_n 0, 1) := by decide +kernel
theorem d_M_here_16 : decode b_M_here 16 = .ok (.getfield 129, 3) := by decide +kernel
theorem d_M_here_19 : decode b_M_here 19 = .ok (.iaload, 1) := by decide +kernel
theorem d_M_here_20 : decode b_M_here 20 = .ok (.goto 4, 3) := by decide +kernel
theorem d_M_here_23 : decode b_M_here 23 = .ok (.iconst (-1), 1) := by decide +kernel
theorem d_M_here_24 : decode b_M_here 24 = .ok (.ireturn, 1) := by decide +kernel
def y_M_see : MethodName := ⟨cR6, "see", "()I"⟩
abbrev b_M_see : ByteArray := prog_8_method_16_code
abbrev k_M_see : Cond := .code y_M_see b_M_see 1 (some .int)
theorem mc_M_see : MC y_M_see k_M_see b_M_see 1 (some .int) [] 0 := ⟨g_in (List.mem_of_getElem? (i := 920) (by decide +kernel)) (by decide +kernel), Or.inl ⟨rfl, rfl⟩, g_in (List.mem_of_getElem? (i := 62) (by decide +kernel)) (by decide +kernel), by decide, by decide +kernel⟩
theorem in_M_see : Cond.instanceMethod y_M_see ∈ g_ws := g_in (List.mem_of_getElem? (i := 919) (by decide +kernel)) (by decide +kernel)
theorem se_M_see : Cond.selects cR6 y_M_see y_M_see ∈ g_ws := g_in (List.mem_of_getElem? (i := 38) (by decide +kernel)) (by decide +kernel)
theorem d_M_see_0 : decode b_M_see 0 = .ok (.aload_n 0, 1) := by decide +kernel
theorem d_M_see_1 : decode b_M_see 1 = .ok (.invokevirtual 132, 3) := by decide +kernel
theorem d_M_see_4 : decode b_M_see 4 = .ok (.bipush 32, 2) := by decide +kernel
theorem d_M_see_6 : decode b_M_see 6 = .ok (.if_icmp .ne 16, 3) := by decide +kernel
theorem d_M_see_9 : decode b_M_see 9 = .ok (.aload_n 0, 1) := by decide +kernel
theorem d_M_see_10 : decode b_M_see 10 = .ok (.dup, 1) := by decide +kernel
theorem d_M_see_11 : decode b_M_see 11 = .ok (.getfield 129, 3) := by decide +kernel
theorem d_M_see_14 : decode b_M_see 14 = .ok (.iconst 1, 1) := by decide +kernel
theorem d_M_see_15 : decode b_M_see 15 = .ok (.iadd, 1) := by decide +kernel
theorem d_M_see_16 : decode b_M_see 16 = .ok (.putfield 129, 3) := by decide +kernel
theorem d_M_see_19 : decode b_M_see 19 = .ok (.goto (-19), 3) := by decide +kernel
theorem d_M_see_22 : decode b_M_see 22 = .ok (.aload_n 0, 1) := by decide +kernel
theorem d_M_see_23 : decode b_M_see 23 = .ok (.invokevirtual 132, 3) := by decide +kernel
theorem d_M_see_26 : decode b_M_see 26 = .ok (.ireturn, 1) := by decide +kernel
def y_M_fail : MethodName := ⟨cR6, "fail", "(I)V"⟩
abbrev b_M_fail : ByteArray := prog_8_method_17_code
abbrev k_M_fail : Cond := .code y_M_fail b_M_fail 2 none
theorem mc_M_fail : MC y_M_fail k_M_fail b_M_fail 2 none [] 1 := ⟨g_in (List.mem_of_getElem? (i := 932) (by decide +kernel)) (by decide +kernel), Or.inl ⟨rfl, rfl⟩, g_in (List.mem_of_getElem? (i := 62) (by decide +kernel)) (by decide +kernel), by decide, by decide +kernel⟩
theorem in_M_fail : Cond.instanceMethod y_M_fail ∈ g_ws := g_in (List.mem_of_getElem? (i := 931) (by decide +kernel)) (by decide +kernel)
theorem se_M_fail : Cond.selects cR6 y_M_fail y_M_fail ∈ g_ws := g_in (List.mem_of_getElem? (i := 41) (by decide +kernel)) (by decide +kernel)
theorem d_M_fail_0 : decode b_M_fail 0 = .ok (.aload_n 0, 1) := by decide +kernel
theorem d_M_fail_1 : decode b_M_fail 1 = .ok (.getfield 136, 3) := by decide +kernel
theorem d_M_fail_4 : decode b_M_fail 4 = .ok (.ifCond .ge 8, 3) := by decide +kernel
theorem d_M_fail_7 : decode b_M_fail 7 = .ok (.aload_n 0, 1) := by decide +kernel
theorem d_M_fail_8 : decode b_M_fail 8 = .ok (.iload_n 1, 1) := by decide +kernel
theorem d_M_fail_9 : decode b_M_fail 9 = .ok (.putfield 136, 3) := by decide +kernel
theorem d_M_fail_12 : decode b_M_fail 12 = .ok (.return_, 1) := by decide +kernel
def y_M_isDigit : MethodName := ⟨cR6, "isDigit", "()Z"⟩
abbrev b_M_isDigit : ByteArray := prog_8_method_18_code
abbrev k_M_isDigit : Cond := .code y_M_isDigit b_M_isDigit 1 (some .boolean)
theorem mc_M_isDigit : MC y_M_isDigit k_M_isDigit b_M_isDigit 1 (some .boolean) [] 0 := ⟨g_in (List.mem_of_getElem? (i := 948) (by decide +kernel)) (by decide +kernel), Or.inl ⟨rfl, rfl⟩, g_in (List.mem_of_getElem? (i := 62) (by decide +kernel)) (by decide +kernel), by decide, by decide +kernel⟩
theorem in_M_isDigit : Cond.instanceMethod y_M_isDigit ∈ g_ws := g_in (List.mem_of_getElem? (i := 947) (by decide +kernel)) (by decide +kernel)
theorem se_M_isDigit : Cond.selects cR6 y_M_isDigit y_M_isDigit ∈ g_ws := g_in (List.mem_of_getElem? (i := 45) (by decide +kernel)) (by decide +kernel)
theorem d_M_isDigit_0 : decode b_M_isDigit 0 = .ok (.aload_n 0, 1) := by decide +kernel
theorem d_M_isDigit_1 : decode b_M_isDigit 1 = .ok (.invokevirtual 132, 3) := by decide +kernel
theorem d_M_isDigit_4 : decode b_M_isDigit 4 = .ok (.bipush 48, 2) := by decide +kernel
theorem d_M_isDigit_6 : decode b_M_isDigit 6 = .ok (.bipush 57, 2) := by decide +kernel
theorem d_M_isDigit_8 : decode b_M_isDigit 8 = .ok (.invokestatic 102, 3) := by decide +kernel
theorem d_M_isDigit_11 : decode b_M_isDigit 11 = .ok (.ireturn, 1) := by decide +kernel
def y_M_number : MethodName := ⟨cR6, "number", "(I)I"⟩
abbrev b_M_number : ByteArray := prog_8_method_19_code
abbrev k_M_number : Cond := .code y_M_number b_M_number 4 (some .int)
theorem mc_M_number : MC y_M_number k_M_number b_M_number 4 (some .int) [] 1 := ⟨g_in (List.mem_of_getElem? (i := 944) (by decide +kernel)) (by decide +kernel), Or.inl ⟨rfl, rfl⟩, g_in (List.mem_of_getElem? (i := 62) (by decide +kernel)) (by decide +kernel), by decide, by decide +kernel⟩
theorem in_M_number : Cond.instanceMethod y_M_number ∈ g_ws := g_in (List.mem_of_getElem? (i := 943) (by decide +kernel)) (by decide +kernel)
theorem se_M_number : Cond.selects cR6 y_M_number y_M_number ∈ g_ws := g_in (List.mem_of_getElem? (i := 44) (by decide +kernel)) (by decide +kernel)
theorem d_M_number_0 : decode b_M_number 0 = .ok (.aload_n 0, 1) := by decide +kernel
theorem d_M_number_1 : decode b_M_number 1 = .ok (.invokevirtual 139, 3) := by decide +kernel
theorem d_M_number_4 : decode b_M_number 4 = .ok (.pop, 1) := by decide +kernel
theorem d_M_number_5 : decode b_M_number 5 = .ok (.aload_n 0, 1) := by decide +kernel
theorem d_M_number_6 : decode b_M_number 6 = .ok (.invokevirtual 142, 3) := by decide +kernel
theorem d_M_number_9 : decode b_M_number 9 = .ok (.ifCond .ne 11, 3) := by decide +kernel
theorem d_M_number_12 : decode b_M_number 12 = .ok (.aload_n 0, 1) := by decide +kernel
theorem d_M_number_13 : decode b_M_number 13 = .ok (.aload_n 0, 1) := by decide +kernel
theorem d_M_number_14 : decode b_M_number 14 = .ok (.getfield 129, 3) := by decide +kernel
theorem d_M_number_17 : decode b_M_number 17 = .ok (.invokevirtual 146, 3) := by decide +kernel
theorem d_M_number_20 : decode b_M_number 20 = .ok (.iconst 0, 1) := by decide +kernel
theorem d_M_number_21 : decode b_M_number 21 = .ok (.istore_n 2, 1) := by decide +kernel
theorem d_M_number_22 : decode b_M_number 22 = .ok (.iconst 0, 1) := by decide +kernel
theorem d_M_number_23 : decode b_M_number 23 = .ok (.istore_n 3, 1) := by decide +kernel
theorem d_M_number_24 : decode b_M_number 24 = .ok (.aload_n 0, 1) := by decide +kernel
theorem d_M_number_25 : decode b_M_number 25 = .ok (.getfield 136, 3) := by decide +kernel
theorem d_M_number_28 : decode b_M_number 28 = .ok (.ifCond .ge 52, 3) := by decide +kernel
theorem d_M_number_31 : decode b_M_number 31 = .ok (.aload_n 0, 1) := by decide +kernel
theorem d_M_number_32 : decode b_M_number 32 = .ok (.invokevirtual 142, 3) := by decide +kernel
theorem d_M_number_35 : decode b_M_number 35 = .ok (.ifCond .eq 45, 3) := by decide +kernel
theorem d_M_number_38 : decode b_M_number 38 = .ok (.iload_n 3, 1) := by decide +kernel
theorem d_M_number_39 : decode b_M_number 39 = .ok (.iconst 5, 1) := by decide +kernel
theorem d_M_number_40 : decode b_M_number 40 = .ok (.if_icmp .ge 40, 3) := by decide +kernel
theorem d_M_number_43 : decode b_M_number 43 = .ok (.iload_n 3, 1) := by decide +kernel
theorem d_M_number_44 : decode b_M_number 44 = .ok (.ifCond .eq 7, 3) := by decide +kernel
theorem d_M_number_47 : decode b_M_number 47 = .ok (.iload_n 2, 1) := by decide +kernel
theorem d_M_number_48 : decode b_M_number 48 = .ok (.ifCond .le 32, 3) := by decide +kernel
theorem d_M_number_51 : decode b_M_number 51 = .ok (.bipush 10, 2) := by decide +kernel
theorem d_M_number_53 : decode b_M_number 53 = .ok (.iload_n 2, 1) := by decide +kernel
theorem d_M_number_54 : decode b_M_number 54 = .ok (.imul, 1) := by decide +kernel
theorem d_M_number_55 : decode b_M_number 55 = .ok (.aload_n 0, 1) := by decide +kernel
theorem d_M_number_56 : decode b_M_number 56 = .ok (.invokevirtual 132, 3) := by decide +kernel
theorem d_M_number_59 : decode b_M_number 59 = .ok (.iadd, 1) := by decide +kernel
theorem d_M_number_60 : decode b_M_number 60 = .ok (.bipush 48, 2) := by decide +kernel
theorem d_M_number_62 : decode b_M_number 62 = .ok (.isub, 1) := by decide +kernel
theorem d_M_number_63 : decode b_M_number 63 = .ok (.istore_n 2, 1) := by decide +kernel
theorem d_M_number_64 : decode b_M_number 64 = .ok (.iinc 3 1, 3) := by decide +kernel
theorem d_M_number_67 : decode b_M_number 67 = .ok (.aload_n 0, 1) := by decide +kernel
theorem d_M_number_68 : decode b_M_number 68 = .ok (.dup, 1) := by decide +kernel
theorem d_M_number_69 : decode b_M_number 69 = .ok (.getfield 129, 3) := by decide +kernel
theorem d_M_number_72 : decode b_M_number 72 = .ok (.iconst 1, 1) := by decide +kernel
theorem d_M_number_73 : decode b_M_number 73 = .ok (.iadd, 1) := by decide +kernel
theorem d_M_number_74 : decode b_M_number 74 = .ok (.putfield 129, 3) := by decide +kernel
theorem d_M_number_77 : decode b_M_number 77 = .ok (.goto (-53), 3) := by decide +kernel
theorem d_M_number_80 : decode b_M_number 80 = .ok (.iload_n 2, 1) := by decide +kernel
theorem d_M_number_81 : decode b_M_number 81 = .ok (.iload_n 1, 1) := by decide +kernel
theorem d_M_number_82 : decode b_M_number 82 = .ok (.if_icmp .le 13, 3) := by decide +kernel
theorem d_M_number_85 : decode b_M_number 85 = .ok (.aload_n 0, 1) := by decide +kernel
theorem d_M_number_86 : decode b_M_number 86 = .ok (.aload_n 0, 1) := by decide +kernel
theorem d_M_number_87 : decode b_M_number 87 = .ok (.getfield 129, 3) := by decide +kernel
theorem d_M_number_90 : decode b_M_number 90 = .ok (.iconst 1, 1) := by decide +kernel
theorem d_M_number_91 : decode b_M_number 91 = .ok (.isub, 1) := by decide +kernel
theorem d_M_number_92 : decode b_M_number 92 = .ok (.invokevirtual 146, 3) := by decide +kernel
theorem d_M_number_95 : decode b_M_number 95 = .ok (.iload_n 3, 1) := by decide +kernel
theorem d_M_number_96 : decode b_M_number 96 = .ok (.iconst 5, 1) := by decide +kernel
theorem d_M_number_97 : decode b_M_number 97 = .ok (.if_icmp .ne 18, 3) := by decide +kernel
theorem d_M_number_100 : decode b_M_number 100 = .ok (.aload_n 0, 1) := by decide +kernel
theorem d_M_number_101 : decode b_M_number 101 = .ok (.invokevirtual 142, 3) := by decide +kernel
theorem d_M_number_104 : decode b_M_number 104 = .ok (.ifCond .eq 11, 3) := by decide +kernel
theorem d_M_number_107 : decode b_M_number 107 = .ok (.aload_n 0, 1) := by decide +kernel
theorem d_M_number_108 : decode b_M_number 108 = .ok (.aload_n 0, 1) := by decide +kernel
theorem d_M_number_109 : decode b_M_number 109 = .ok (.getfield 129, 3) := by decide +kernel
theorem d_M_number_112 : decode b_M_number 112 = .ok (.invokevirtual 146, 3) := by decide +kernel
theorem d_M_number_115 : decode b_M_number 115 = .ok (.aload_n 0, 1) := by decide +kernel
theorem d_M_number_116 : decode b_M_number 116 = .ok (.getfield 136, 3) := by decide +kernel
theorem d_M_number_119 : decode b_M_number 119 = .ok (.ifCond .ge 7, 3) := by decide +kernel
theorem d_M_number_122 : decode b_M_number 122 = .ok (.iload_n 2, 1) := by decide +kernel
theorem d_M_number_123 : decode b_M_number 123 = .ok (.goto 4, 3) := by decide +kernel
theorem d_M_number_126 : decode b_M_number 126 = .ok (.iconst 0, 1) := by decide +kernel
theorem d_M_number_127 : decode b_M_number 127 = .ok (.ireturn, 1) := by decide +kernel
def y_M_factor : MethodName := ⟨cR6, "factor", "()I"⟩
abbrev b_M_factor : ByteArray := prog_8_method_20_code
abbrev k_M_factor : Cond := .code y_M_factor b_M_factor 1 (some .int)
theorem mc_M_factor : MC y_M_factor k_M_factor b_M_factor 1 (some .int) [] 0 := ⟨g_in (List.mem_of_getElem? (i := 940) (by decide +kernel)) (by decide +kernel), Or.inl ⟨rfl, rfl⟩, g_in (List.mem_of_getElem? (i := 62) (by decide +kernel)) (by decide +kernel), by decide, by decide +kernel⟩
theorem in_M_factor : Cond.instanceMethod y_M_factor ∈ g_ws := g_in (List.mem_of_getElem? (i := 939) (by decide +kernel)) (by decide +kernel)
theorem se_M_factor : Cond.selects cR6 y_M_factor y_M_factor ∈ g_ws := g_in (List.mem_of_getElem? (i := 43) (by decide +kernel)) (by decide +kernel)
theorem d_M_factor_0 : decode b_M_factor 0 = .ok (.aload_n 0, 1) := by decide +kernel
theorem d_M_factor_1 : decode b_M_factor 1 = .ok (.getfield 136, 3) := by decide +kernel
theorem d_M_factor_4 : decode b_M_factor 4 = .ok (.ifCond .lt 5, 3) := by decide +kernel
theorem d_M_factor_7 : decode b_M_factor 7 = .ok (.iconst 0, 1) := by decide +kernel
theorem d_M_factor_8 : decode b_M_factor 8 = .ok (.ireturn, 1) := by decide +kernel
theorem d_M_factor_9 : decode b_M_factor 9 = .ok (.aload_n 0, 1) := by decide +kernel
theorem d_M_factor_10 : decode b_M_factor 10 = .ok (.invokevirtual 139, 3) := by decide +kernel
theorem d_M_factor_13 : decode b_M_factor 13 = .ok (.bipush 102, 2) := by decide +kernel
theorem d_M_factor_15 : decode b_M_factor 15 = .ok (.if_icmp .eq 10, 3) := by decide +kernel
theorem d_M_factor_18 : decode b_M_factor 18 = .ok (.aload_n 0, 1) := by decide +kernel
theorem d_M_factor_19 : decode b_M_factor 19 = .ok (.ldc 125, 2) := by decide +kernel
theorem d_M_factor_21 : decode b_M_factor 21 = .ok (.invokevirtual 150, 3) := by decide +kernel
theorem d_M_factor_24 : decode b_M_factor 24 = .ok (.ireturn, 1) := by decide +kernel
theorem d_M_factor_25 : decode b_M_factor 25 = .ok (.aload_n 0, 1) := by decide +kernel
theorem d_M_factor_26 : decode b_M_factor 26 = .ok (.dup, 1) := by decide +kernel
theorem d_M_factor_27 : decode b_M_factor 27 = .ok (.getfield 129, 3) := by decide +kernel
theorem d_M_factor_30 : decode b_M_factor 30 = .ok (.iconst 1, 1) := by decide +kernel
theorem d_M_factor_31 : decode b_M_factor 31 = .ok (.iadd, 1) := by decide +kernel
theorem d_M_factor_32 : decode b_M_factor 32 = .ok (.putfield 129, 3) := by decide +kernel
theorem d_M_factor_35 : decode b_M_factor 35 = .ok (.iconst (-1), 1) := by decide +kernel
theorem d_M_factor_36 : decode b_M_factor 36 = .ok (.aload_n 0, 1) := by decide +kernel
theorem d_M_factor_37 : decode b_M_factor 37 = .ok (.bipush 19, 2) := by decide +kernel
theorem d_M_factor_39 : decode b_M_factor 39 = .ok (.invokevirtual 150, 3) := by decide +kernel
theorem d_M_factor_42 : decode b_M_factor 42 = .ok (.isub, 1) := by decide +kernel
theorem d_M_factor_43 : decode b_M_factor 43 = .ok (.ireturn, 1) := by decide +kernel
def y_M_sum : MethodName := ⟨cR6, "sum", "(I)V"⟩
abbrev b_M_sum : ByteArray := prog_8_method_21_code
abbrev k_M_sum : Cond := .code y_M_sum b_M_sum 4 none
theorem mc_M_sum : MC y_M_sum k_M_sum b_M_sum 4 none [] 1 := ⟨g_in (List.mem_of_getElem? (i := 936) (by decide +kernel)) (by decide +kernel), Or.inl ⟨rfl, rfl⟩, g_in (List.mem_of_getElem? (i := 62) (by decide +kernel)) (by decide +kernel), by decide, by decide +kernel⟩
theorem in_M_sum : Cond.instanceMethod y_M_sum ∈ g_ws := g_in (List.mem_of_getElem? (i := 935) (by decide +kernel)) (by decide +kernel)
theorem se_M_sum : Cond.selects cR6 y_M_sum y_M_sum ∈ g_ws := g_in (List.mem_of_getElem? (i := 42) (by decide +kernel)) (by decide +kernel)
theorem d_M_sum_0 : decode b_M_sum 0 = .ok (.iconst 1, 1) := by decide +kernel
theorem d_M_sum_1 : decode b_M_sum 1 = .ok (.istore_n 2, 1) := by decide +kernel
theorem d_M_sum_2 : decode b_M_sum 2 = .ok (.iconst 0, 1) := by decide +kernel
theorem d_M_sum_3 : decode b_M_sum 3 = .ok (.istore_n 3, 1) := by decide +kernel
theorem d_M_sum_4 : decode b_M_sum 4 = .ok (.iload_n 3, 1) := by decide +kernel
theorem d_M_sum_5 : decode b_M_sum 5 = .ok (.iconst 4, 1) := by decide +kernel
theorem d_M_sum_6 : decode b_M_sum 6 = .ok (.if_icmp .ge 160, 3) := by decide +kernel
theorem d_M_sum_9 : decode b_M_sum 9 = .ok (.iload_n 2, 1) := by decide +kernel
theorem d_M_sum_10 : decode b_M_sum 10 = .ok (.ifCond .le 156, 3) := by decide +kernel
theorem d_M_sum_13 : decode b_M_sum 13 = .ok (.aload_n 0, 1) := by decide +kernel
theorem d_M_sum_14 : decode b_M_sum 14 = .ok (.getfield 136, 3) := by decide +kernel
theorem d_M_sum_17 : decode b_M_sum 17 = .ok (.ifCond .ge 149, 3) := by decide +kernel
theorem d_M_sum_20 : decode b_M_sum 20 = .ok (.aload_n 0, 1) := by decide +kernel
theorem d_M_sum_21 : decode b_M_sum 21 = .ok (.getfield 78, 3) := by decide +kernel
theorem d_M_sum_24 : decode b_M_sum 24 = .ok (.iload_n 1, 1) := by decide +kernel
theorem d_M_sum_25 : decode b_M_sum 25 = .ok (.iload_n 3, 1) := by decide +kernel
theorem d_M_sum_26 : decode b_M_sum 26 = .ok (.iadd, 1) := by decide +kernel
theorem d_M_sum_27 : decode b_M_sum 27 = .ok (.aload_n 0, 1) := by decide +kernel
theorem d_M_sum_28 : decode b_M_sum 28 = .ok (.invokevirtual 154, 3) := by decide +kernel
theorem d_M_sum_31 : decode b_M_sum 31 = .ok (.iastore, 1) := by decide +kernel
theorem d_M_sum_32 : decode b_M_sum 32 = .ok (.aload_n 0, 1) := by decide +kernel
theorem d_M_sum_33 : decode b_M_sum 33 = .ok (.getfield 84, 3) := by decide +kernel
theorem d_M_sum_36 : decode b_M_sum 36 = .ok (.iload_n 1, 1) := by decide +kernel
theorem d_M_sum_37 : decode b_M_sum 37 = .ok (.iload_n 3, 1) := by decide +kernel
theorem d_M_sum_38 : decode b_M_sum 38 = .ok (.iadd, 1) := by decide +kernel
theorem d_M_sum_39 : decode b_M_sum 39 = .ok (.aload_n 0, 1) := by decide +kernel
theorem d_M_sum_40 : decode b_M_sum 40 = .ok (.getfield 136, 3) := by decide +kernel
theorem d_M_sum_43 : decode b_M_sum 43 = .ok (.ifCond .ge 16, 3) := by decide +kernel
theorem d_M_sum_46 : decode b_M_sum 46 = .ok (.aload_n 0, 1) := by decide +kernel
theorem d_M_sum_47 : decode b_M_sum 47 = .ok (.invokevirtual 139, 3) := by decide +kernel
theorem d_M_sum_50 : decode b_M_sum 50 = .ok (.bipush 47, 2) := by decide +kernel
theorem d_M_sum_52 : decode b_M_sum 52 = .ok (.if_icmp .ne 7, 3) := by decide +kernel
theorem d_M_sum_55 : decode b_M_sum 55 = .ok (.iconst 1, 1) := by decide +kernel
theorem d_M_sum_56 : decode b_M_sum 56 = .ok (.goto 4, 3) := by decide +kernel
theorem d_M_sum_59 : decode b_M_sum 59 = .ok (.iconst 0, 1) := by decide +kernel
theorem d_M_sum_60 : decode b_M_sum 60 = .ok (.bastore, 1) := by decide +kernel
theorem d_M_sum_61 : decode b_M_sum 61 = .ok (.aload_n 0, 1) := by decide +kernel
theorem d_M_sum_62 : decode b_M_sum 62 = .ok (.getfield 84, 3) := by decide +kernel
theorem d_M_sum_65 : decode b_M_sum 65 = .ok (.iload_n 1, 1) := by decide +kernel
theorem d_M_sum_66 : decode b_M_sum 66 = .ok (.iload_n 3, 1) := by decide +kernel
theorem d_M_sum_67 : decode b_M_sum 67 = .ok (.iadd, 1) := by decide +kernel
theorem d_M_sum_68 : decode b_M_sum 68 = .ok (.baload, 1) := by decide +kernel
theorem d_M_sum_69 : decode b_M_sum 69 = .ok (.ifCond .eq 25, 3) := by decide +kernel
theorem d_M_sum_72 : decode b_M_sum 72 = .ok (.aload_n 0, 1) := by decide +kernel
theorem d_M_sum_73 : decode b_M_sum 73 = .ok (.dup, 1) := by decide +kernel
theorem d_M_sum_74 : decode b_M_sum 74 = .ok (.getfield 129, 3) := by decide +kernel
theorem d_M_sum_77 : decode b_M_sum 77 = .ok (.iconst 1, 1) := by decide +kernel
theorem d_M_sum_78 : decode b_M_sum 78 = .ok (.iadd, 1) := by decide +kernel
theorem d_M_sum_79 : decode b_M_sum 79 = .ok (.putfield 129, 3) := by decide +kernel
theorem d_M_sum_82 : decode b_M_sum 82 = .ok (.aload_n 0, 1) := by decide +kernel
theorem d_M_sum_83 : decode b_M_sum 83 = .ok (.getfield 81, 3) := by decide +kernel
theorem d_M_sum_86 : decode b_M_sum 86 = .ok (.iload_n 1, 1) := by decide +kernel
theorem d_M_sum_87 : decode b_M_sum 87 = .ok (.iload_n 3, 1) := by decide +kernel
theorem d_M_sum_88 : decode b_M_sum 88 = .ok (.iadd, 1) := by decide +kernel
theorem d_M_sum_89 : decode b_M_sum 89 = .ok (.aload_n 0, 1) := by decide +kernel
theorem d_M_sum_90 : decode b_M_sum 90 = .ok (.invokevirtual 154, 3) := by decide +kernel
theorem d_M_sum_93 : decode b_M_sum 93 = .ok (.iastore, 1) := by decide +kernel
theorem d_M_sum_94 : decode b_M_sum 94 = .ok (.aload_n 0, 1) := by decide +kernel
theorem d_M_sum_95 : decode b_M_sum 95 = .ok (.getfield 75, 3) := by decide +kernel
theorem d_M_sum_98 : decode b_M_sum 98 = .ok (.iload_n 1, 1) := by decide +kernel
theorem d_M_sum_99 : decode b_M_sum 99 = .ok (.iload_n 3, 1) := by decide +kernel
theorem d_M_sum_100 : decode b_M_sum 100 = .ok (.iadd, 1) := by decide +kernel
theorem d_M_sum_101 : decode b_M_sum 101 = .ok (.iload_n 2, 1) := by decide +kernel
theorem d_M_sum_102 : decode b_M_sum 102 = .ok (.iastore, 1) := by decide +kernel
theorem d_M_sum_103 : decode b_M_sum 103 = .ok (.iconst 0, 1) := by decide +kernel
theorem d_M_sum_104 : decode b_M_sum 104 = .ok (.istore_n 2, 1) := by decide +kernel
theorem d_M_sum_105 : decode b_M_sum 105 = .ok (.aload_n 0, 1) := by decide +kernel
theorem d_M_sum_106 : decode b_M_sum 106 = .ok (.getfield 136, 3) := by decide +kernel
theorem d_M_sum_109 : decode b_M_sum 109 = .ok (.ifCond .ge 51, 3) := by decide +kernel
theorem d_M_sum_112 : decode b_M_sum 112 = .ok (.iload_n 3, 1) := by decide +kernel
theorem d_M_sum_113 : decode b_M_sum 113 = .ok (.iconst 3, 1) := by decide +kernel
theorem d_M_sum_114 : decode b_M_sum 114 = .ok (.if_icmp .ge 46, 3) := by decide +kernel
theorem d_M_sum_117 : decode b_M_sum 117 = .ok (.aload_n 0, 1) := by decide +kernel
theorem d_M_sum_118 : decode b_M_sum 118 = .ok (.invokevirtual 139, 3) := by decide +kernel
theorem d_M_sum_121 : decode b_M_sum 121 = .ok (.bipush 43, 2) := by decide +kernel
theorem d_M_sum_123 : decode b_M_sum 123 = .ok (.if_icmp .eq 12, 3) := by decide +kernel
theorem d_M_sum_126 : decode b_M_sum 126 = .ok (.aload_n 0, 1) := by decide +kernel
theorem d_M_sum_127 : decode b_M_sum 127 = .ok (.invokevirtual 132, 3) := by decide +kernel
theorem d_M_sum_130 : decode b_M_sum 130 = .ok (.bipush 45, 2) := by decide +kernel
theorem d_M_sum_132 : decode b_M_sum 132 = .ok (.if_icmp .ne 28, 3) := by decide +kernel
theorem d_M_sum_135 : decode b_M_sum 135 = .ok (.aload_n 0, 1) := by decide +kernel
theorem d_M_sum_136 : decode b_M_sum 136 = .ok (.invokevirtual 132, 3) := by decide +kernel
theorem d_M_sum_139 : decode b_M_sum 139 = .ok (.bipush 43, 2) := by decide +kernel
theorem d_M_sum_141 : decode b_M_sum 141 = .ok (.if_icmp .ne 7, 3) := by decide +kernel
theorem d_M_sum_144 : decode b_M_sum 144 = .ok (.iconst 1, 1) := by decide +kernel
theorem d_M_sum_145 : decode b_M_sum 145 = .ok (.goto 4, 3) := by decide +kernel
theorem d_M_sum_148 : decode b_M_sum 148 = .ok (.iconst 2, 1) := by decide +kernel
theorem d_M_sum_149 : decode b_M_sum 149 = .ok (.istore_n 2, 1) := by decide +kernel
theorem d_M_sum_150 : decode b_M_sum 150 = .ok (.aload_n 0, 1) := by decide +kernel
theorem d_M_sum_151 : decode b_M_sum 151 = .ok (.dup, 1) := by decide +kernel
theorem d_M_sum_152 : decode b_M_sum 152 = .ok (.getfield 129, 3) := by decide +kernel
theorem d_M_sum_155 : decode b_M_sum 155 = .ok (.iconst 1, 1) := by decide +kernel
theorem d_M_sum_156 : decode b_M_sum 156 = .ok (.iadd, 1) := by decide +kernel
theorem d_M_sum_157 : decode b_M_sum 157 = .ok (.putfield 129, 3) := by decide +kernel
theorem d_M_sum_160 : decode b_M_sum 160 = .ok (.iinc 3 1, 3) := by decide +kernel
theorem d_M_sum_163 : decode b_M_sum 163 = .ok (.goto (-159), 3) := by decide +kernel
theorem d_M_sum_166 : decode b_M_sum 166 = .ok (.return_, 1) := by decide +kernel
def y_M_rule : MethodName := ⟨cR6, "rule", "()V"⟩
abbrev b_M_rule : ByteArray := prog_8_method_22_code
abbrev k_M_rule : Cond := .code y_M_rule b_M_rule 3 none
theorem mc_M_rule : MC y_M_rule k_M_rule b_M_rule 3 none [] 0 := ⟨g_in (List.mem_of_getElem? (i := 928) (by decide +kernel)) (by decide +kernel), Or.inl ⟨rfl, rfl⟩, g_in (List.mem_of_getElem? (i := 62) (by decide +kernel)) (by decide +kernel), by decide, by decide +kernel⟩
theorem in_M_rule : Cond.instanceMethod y_M_rule ∈ g_ws := g_in (List.mem_of_getElem? (i := 927) (by decide +kernel)) (by decide +kernel)
theorem se_M_rule : Cond.selects cR6 y_M_rule y_M_rule ∈ g_ws := g_in (List.mem_of_getElem? (i := 40) (by decide +kernel)) (by decide +kernel)
theorem d_M_rule_0 : decode b_M_rule 0 = .ok (.aload_n 0, 1) := by decide +kernel
theorem d_M_rule_1 : decode b_M_rule 1 = .ok (.getfield 157, 3) := by decide +kernel
theorem d_M_rule_4 : decode b_M_rule 4 = .ok (.bipush 20, 2) := by decide +kernel
theorem d_M_rule_6 : decode b_M_rule 6 = .ok (.if_icmp .ne 12, 3) := by decide +kernel
theorem d_M_rule_9 : decode b_M_rule 9 = .ok (.aload_n 0, 1) := by decide +kernel
theorem d_M_rule_10 : decode b_M_rule 10 = .ok (.aload_n 0, 1) := by decide +kernel
theorem d_M_rule_11 : decode b_M_rule 11 = .ok (.getfield 129, 3) := by decide +kernel
theorem d_M_rule_14 : decode b_M_rule 14 = .ok (.invokevirtual 146, 3) := by decide +kernel
theorem d_M_rule_17 : decode b_M_rule 17 = .ok (.return_, 1) := by decide +kernel
theorem d_M_rule_18 : decode b_M_rule 18 = .ok (.bipush 8, 2) := by decide +kernel
theorem d_M_rule_20 : decode b_M_rule 20 = .ok (.aload_n 0, 1) := by decide +kernel
theorem d_M_rule_21 : decode b_M_rule 21 = .ok (.getfield 157, 3) := by decide +kernel
theorem d_M_rule_24 : decode b_M_rule 24 = .ok (.imul, 1) := by decide +kernel
theorem d_M_rule_25 : decode b_M_rule 25 = .ok (.istore_n 1, 1) := by decide +kernel
theorem d_M_rule_26 : decode b_M_rule 26 = .ok (.iconst 0, 1) := by decide +kernel
theorem d_M_rule_27 : decode b_M_rule 27 = .ok (.istore_n 2, 1) := by decide +kernel
theorem d_M_rule_28 : decode b_M_rule 28 = .ok (.iload_n 2, 1) := by decide +kernel
theorem d_M_rule_29 : decode b_M_rule 29 = .ok (.bipush 8, 2) := by decide +kernel
theorem d_M_rule_31 : decode b_M_rule 31 = .ok (.if_icmp .ge 18, 3) := by decide +kernel
theorem d_M_rule_34 : decode b_M_rule 34 = .ok (.aload_n 0, 1) := by decide +kernel
theorem d_M_rule_35 : decode b_M_rule 35 = .ok (.getfield 75, 3) := by decide +kernel
theorem d_M_rule_38 : decode b_M_rule 38 = .ok (.iload_n 1, 1) := by decide +kernel
theorem d_M_rule_39 : decode b_M_rule 39 = .ok (.iload_n 2, 1) := by decide +kernel
theorem d_M_rule_40 : decode b_M_rule 40 = .ok (.iadd, 1) := by decide +kernel
theorem d_M_rule_41 : decode b_M_rule 41 = .ok (.iconst 0, 1) := by decide +kernel
theorem d_M_rule_42 : decode b_M_rule 42 = .ok (.iastore, 1) := by decide +kernel
theorem d_M_rule_43 : decode b_M_rule 43 = .ok (.iinc 2 1, 3) := by decide +kernel
theorem d_M_rule_46 : decode b_M_rule 46 = .ok (.goto (-18), 3) := by decide +kernel
theorem d_M_rule_49 : decode b_M_rule 49 = .ok (.aload_n 0, 1) := by decide +kernel
theorem d_M_rule_50 : decode b_M_rule 50 = .ok (.iload_n 1, 1) := by decide +kernel
theorem d_M_rule_51 : decode b_M_rule 51 = .ok (.invokevirtual 160, 3) := by decide +kernel
theorem d_M_rule_54 : decode b_M_rule 54 = .ok (.aload_n 0, 1) := by decide +kernel
theorem d_M_rule_55 : decode b_M_rule 55 = .ok (.getfield 136, 3) := by decide +kernel
theorem d_M_rule_58 : decode b_M_rule 58 = .ok (.ifCond .ge 38, 3) := by decide +kernel
theorem d_M_rule_61 : decode b_M_rule 61 = .ok (.aload_n 0, 1) := by decide +kernel
theorem d_M_rule_62 : decode b_M_rule 62 = .ok (.invokevirtual 139, 3) := by decide +kernel
theorem d_M_rule_65 : decode b_M_rule 65 = .ok (.bipush 60, 2) := by decide +kernel
theorem d_M_rule_67 : decode b_M_rule 67 = .ok (.if_icmp .eq 29, 3) := by decide +kernel
theorem d_M_rule_70 : decode b_M_rule 70 = .ok (.aload_n 0, 1) := by decide +kernel
theorem d_M_rule_71 : decode b_M_rule 71 = .ok (.invokevirtual 132, 3) := by decide +kernel
theorem d_M_rule_74 : decode b_M_rule 74 = .ok (.bipush 61, 2) := by decide +kernel
theorem d_M_rule_76 : decode b_M_rule 76 = .ok (.if_icmp .eq 20, 3) := by decide +kernel
theorem d_M_rule_79 : decode b_M_rule 79 = .ok (.aload_n 0, 1) := by decide +kernel
theorem d_M_rule_80 : decode b_M_rule 80 = .ok (.invokevirtual 132, 3) := by decide +kernel
theorem d_M_rule_83 : decode b_M_rule 83 = .ok (.bipush 33, 2) := by decide +kernel
theorem d_M_rule_85 : decode b_M_rule 85 = .ok (.if_icmp .eq 11, 3) := by decide +kernel
theorem d_M_rule_88 : decode b_M_rule 88 = .ok (.aload_n 0, 1) := by decide +kernel
theorem d_M_rule_89 : decode b_M_rule 89 = .ok (.aload_n 0, 1) := by decide +kernel
theorem d_M_rule_90 : decode b_M_rule 90 = .ok (.getfield 129, 3) := by decide +kernel
theorem d_M_rule_93 : decode b_M_rule 93 = .ok (.invokevirtual 146, 3) := by decide +kernel
theorem d_M_rule_96 : decode b_M_rule 96 = .ok (.aload_n 0, 1) := by decide +kernel
theorem d_M_rule_97 : decode b_M_rule 97 = .ok (.getfield 136, 3) := by decide +kernel
theorem d_M_rule_100 : decode b_M_rule 100 = .ok (.ifCond .lt 4, 3) := by decide +kernel
theorem d_M_rule_103 : decode b_M_rule 103 = .ok (.return_, 1) := by decide +kernel
theorem d_M_rule_104 : decode b_M_rule 104 = .ok (.aload_n 0, 1) := by decide +kernel
theorem d_M_rule_105 : decode b_M_rule 105 = .ok (.getfield 72, 3) := by decide +kernel
theorem d_M_rule_108 : decode b_M_rule 108 = .ok (.aload_n 0, 1) := by decide +kernel
theorem d_M_rule_109 : decode b_M_rule 109 = .ok (.getfield 157, 3) := by decide +kernel
theorem d_M_rule_112 : decode b_M_rule 112 = .ok (.aload_n 0, 1) := by decide +kernel
theorem d_M_rule_113 : decode b_M_rule 113 = .ok (.invokevirtual 132, 3) := by decide +kernel
theorem d_M_rule_116 : decode b_M_rule 116 = .ok (.iastore, 1) := by decide +kernel
theorem d_M_rule_117 : decode b_M_rule 117 = .ok (.aload_n 0, 1) := by decide +kernel
theorem d_M_rule_118 : decode b_M_rule 118 = .ok (.dup, 1) := by decide +kernel
theorem d_M_rule_119 : decode b_M_rule 119 = .ok (.getfield 129, 3) := by decide +kernel
theorem d_M_rule_122 : decode b_M_rule 122 = .ok (.iconst 1, 1) := by decide +kernel
theorem d_M_rule_123 : decode b_M_rule 123 = .ok (.iadd, 1) := by decide +kernel
theorem d_M_rule_124 : decode b_M_rule 124 = .ok (.putfield 129, 3) := by decide +kernel
theorem d_M_rule_127 : decode b_M_rule 127 = .ok (.aload_n 0, 1) := by decide +kernel
theorem d_M_rule_128 : decode b_M_rule 128 = .ok (.iload_n 1, 1) := by decide +kernel
theorem d_M_rule_129 : decode b_M_rule 129 = .ok (.iconst 4, 1) := by decide +kernel
theorem d_M_rule_130 : decode b_M_rule 130 = .ok (.iadd, 1) := by decide +kernel
theorem d_M_rule_131 : decode b_M_rule 131 = .ok (.invokevirtual 160, 3) := by decide +kernel
theorem d_M_rule_134 : decode b_M_rule 134 = .ok (.aload_n 0, 1) := by decide +kernel
theorem d_M_rule_135 : decode b_M_rule 135 = .ok (.getfield 136, 3) := by decide +kernel
theorem d_M_rule_138 : decode b_M_rule 138 = .ok (.ifCond .ge 20, 3) := by decide +kernel
theorem d_M_rule_141 : decode b_M_rule 141 = .ok (.aload_n 0, 1) := by decide +kernel
theorem d_M_rule_142 : decode b_M_rule 142 = .ok (.invokevirtual 139, 3) := by decide +kernel
theorem d_M_rule_145 : decode b_M_rule 145 = .ok (.bipush 59, 2) := by decide +kernel
theorem d_M_rule_147 : decode b_M_rule 147 = .ok (.if_icmp .eq 11, 3) := by decide +kernel
theorem d_M_rule_150 : decode b_M_rule 150 = .ok (.aload_n 0, 1) := by decide +kernel
theorem d_M_rule_151 : decode b_M_rule 151 = .ok (.aload_n 0, 1) := by decide +kernel
theorem d_M_rule_152 : decode b_M_rule 152 = .ok (.getfield 129, 3) := by decide +kernel
theorem d_M_rule_155 : decode b_M_rule 155 = .ok (.invokevirtual 146, 3) := by decide +kernel
theorem d_M_rule_158 : decode b_M_rule 158 = .ok (.aload_n 0, 1) := by decide +kernel
theorem d_M_rule_159 : decode b_M_rule 159 = .ok (.getfield 136, 3) := by decide +kernel
theorem d_M_rule_162 : decode b_M_rule 162 = .ok (.ifCond .lt 4, 3) := by decide +kernel
theorem d_M_rule_165 : decode b_M_rule 165 = .ok (.return_, 1) := by decide +kernel
theorem d_M_rule_166 : decode b_M_rule 166 = .ok (.aload_n 0, 1) := by decide +kernel
theorem d_M_rule_167 : decode b_M_rule 167 = .ok (.dup, 1) := by decide +kernel
theorem d_M_rule_168 : decode b_M_rule 168 = .ok (.getfield 129, 3) := by decide +kernel
theorem d_M_rule_171 : decode b_M_rule 171 = .ok (.iconst 1, 1) := by decide +kernel
theorem d_M_rule_172 : decode b_M_rule 172 = .ok (.iadd, 1) := by decide +kernel
theorem d_M_rule_173 : decode b_M_rule 173 = .ok (.putfield 129, 3) := by decide +kernel
theorem d_M_rule_176 : decode b_M_rule 176 = .ok (.aload_n 0, 1) := by decide +kernel
theorem d_M_rule_177 : decode b_M_rule 177 = .ok (.dup, 1) := by decide +kernel
theorem d_M_rule_178 : decode b_M_rule 178 = .ok (.getfield 157, 3) := by decide +kernel
theorem d_M_rule_181 : decode b_M_rule 181 = .ok (.iconst 1, 1) := by decide +kernel
theorem d_M_rule_182 : decode b_M_rule 182 = .ok (.iadd, 1) := by decide +kernel
theorem d_M_rule_183 : decode b_M_rule 183 = .ok (.putfield 157, 3) := by decide +kernel
theorem d_M_rule_186 : decode b_M_rule 186 = .ok (.return_, 1) := by decide +kernel
def y_M_rules : MethodName := ⟨cR6, "rules", "()I"⟩
abbrev b_M_rules : ByteArray := prog_8_method_23_code
abbrev k_M_rules : Cond := .code y_M_rules b_M_rules 2 (some .int)
theorem mc_M_rules : MC y_M_rules k_M_rules b_M_rules 2 (some .int) [] 0 := ⟨g_in (List.mem_of_getElem? (i := 916) (by decide +kernel)) (by decide +kernel), Or.inl ⟨rfl, rfl⟩, g_in (List.mem_of_getElem? (i := 62) (by decide +kernel)) (by decide +kernel), by decide, by decide +kernel⟩
theorem in_M_rules : Cond.instanceMethod y_M_rules ∈ g_ws := g_in (List.mem_of_getElem? (i := 914) (by decide +kernel)) (by decide +kernel)
theorem se_M_rules : Cond.selects cR6 y_M_rules y_M_rules ∈ g_ws := g_in (List.mem_of_getElem? (i := 915) (by decide +kernel)) (by decide +kernel)
theorem d_M_rules_0 : decode b_M_rules 0 = .ok (.aload_n 0, 1) := by decide +kernel
theorem d_M_rules_1 : decode b_M_rules 1 = .ok (.iconst 0, 1) := by decide +kernel
theorem d_M_rules_2 : decode b_M_rules 2 = .ok (.putfield 157, 3) := by decide +kernel
theorem d_M_rules_5 : decode b_M_rules 5 = .ok (.aload_n 0, 1) := by decide +kernel
theorem d_M_rules_6 : decode b_M_rules 6 = .ok (.iconst 0, 1) := by decide +kernel
theorem d_M_rules_7 : decode b_M_rules 7 = .ok (.putfield 129, 3) := by decide +kernel
theorem d_M_rules_10 : decode b_M_rules 10 = .ok (.aload_n 0, 1) := by decide +kernel
theorem d_M_rules_11 : decode b_M_rules 11 = .ok (.iconst (-1), 1) := by decide +kernel
theorem d_M_rules_12 : decode b_M_rules 12 = .ok (.putfield 136, 3) := by decide +kernel
theorem d_M_rules_15 : decode b_M_rules 15 = .ok (.aload_n 0, 1) := by decide +kernel
theorem d_M_rules_16 : decode b_M_rules 16 = .ok (.getfield 136, 3) := by decide +kernel
theorem d_M_rules_19 : decode b_M_rules 19 = .ok (.ifCond .ge 17, 3) := by decide +kernel
theorem d_M_rules_22 : decode b_M_rules 22 = .ok (.aload_n 0, 1) := by decide +kernel
theorem d_M_rules_23 : decode b_M_rules 23 = .ok (.invokevirtual 139, 3) := by decide +kernel
theorem d_M_rules_26 : decode b_M_rules 26 = .ok (.ifCond .lt 10, 3) := by decide +kernel
theorem d_M_rules_29 : decode b_M_rules 29 = .ok (.aload_n 0, 1) := by decide +kernel
theorem d_M_rules_30 : decode b_M_rules 30 = .ok (.invokevirtual 163, 3) := by decide +kernel
theorem d_M_rules_33 : decode b_M_rules 33 = .ok (.goto (-18), 3) := by decide +kernel
theorem d_M_rules_36 : decode b_M_rules 36 = .ok (.aload_n 0, 1) := by decide +kernel
theorem d_M_rules_37 : decode b_M_rules 37 = .ok (.iconst 0, 1) := by decide +kernel
theorem d_M_rules_38 : decode b_M_rules 38 = .ok (.putfield 126, 3) := by decide +kernel
theorem d_M_rules_41 : decode b_M_rules 41 = .ok (.aload_n 0, 1) := by decide +kernel
theorem d_M_rules_42 : decode b_M_rules 42 = .ok (.aload_n 0, 1) := by decide +kernel
theorem d_M_rules_43 : decode b_M_rules 43 = .ok (.getfield 136, 3) := by decide +kernel
theorem d_M_rules_46 : decode b_M_rules 46 = .ok (.putfield 53, 3) := by decide +kernel
theorem d_M_rules_49 : decode b_M_rules 49 = .ok (.aload_n 0, 1) := by decide +kernel
theorem d_M_rules_50 : decode b_M_rules 50 = .ok (.aload_n 0, 1) := by decide +kernel
theorem d_M_rules_51 : decode b_M_rules 51 = .ok (.getfield 136, 3) := by decide +kernel
theorem d_M_rules_54 : decode b_M_rules 54 = .ok (.ifCond .ge 7, 3) := by decide +kernel
theorem d_M_rules_57 : decode b_M_rules 57 = .ok (.iconst 1, 1) := by decide +kernel
theorem d_M_rules_58 : decode b_M_rules 58 = .ok (.goto 4, 3) := by decide +kernel
theorem d_M_rules_61 : decode b_M_rules 61 = .ok (.iconst 0, 1) := by decide +kernel
theorem d_M_rules_62 : decode b_M_rules 62 = .ok (.iconst 1, 1) := by decide +kernel
theorem d_M_rules_63 : decode b_M_rules 63 = .ok (.iconst 1, 1) := by decide +kernel
theorem d_M_rules_64 : decode b_M_rules 64 = .ok (.invokevirtual 109, 3) := by decide +kernel
theorem d_M_rules_67 : decode b_M_rules 67 = .ok (.ifCond .ne 5, 3) := by decide +kernel
theorem d_M_rules_70 : decode b_M_rules 70 = .ok (.iconst 0, 1) := by decide +kernel
theorem d_M_rules_71 : decode b_M_rules 71 = .ok (.ireturn, 1) := by decide +kernel
theorem d_M_rules_72 : decode b_M_rules 72 = .ok (.aload_n 0, 1) := by decide +kernel
theorem d_M_rules_73 : decode b_M_rules 73 = .ok (.aload_n 0, 1) := by decide +kernel
theorem d_M_rules_74 : decode b_M_rules 74 = .ok (.getfield 157, 3) := by decide +kernel
theorem d_M_rules_77 : decode b_M_rules 77 = .ok (.putfield 166, 3) := by decide +kernel
theorem d_M_rules_80 : decode b_M_rules 80 = .ok (.iconst 0, 1) := by decide +kernel
theorem d_M_rules_81 : decode b_M_rules 81 = .ok (.istore_n 1, 1) := by decide +kernel
theorem d_M_rules_82 : decode b_M_rules 82 = .ok (.iload_n 1, 1) := by decide +kernel
theorem d_M_rules_83 : decode b_M_rules 83 = .ok (.bipush 20, 2) := by decide +kernel
theorem d_M_rules_85 : decode b_M_rules 85 = .ok (.if_icmp .ge 21, 3) := by decide +kernel
theorem d_M_rules_88 : decode b_M_rules 88 = .ok (.aload_n 0, 1) := by decide +kernel
theorem d_M_rules_89 : decode b_M_rules 89 = .ok (.getfield 57, 3) := by decide +kernel
theorem d_M_rules_92 : decode b_M_rules 92 = .ok (.iload_n 1, 1) := by decide +kernel
theorem d_M_rules_93 : decode b_M_rules 93 = .ok (.aload_n 0, 1) := by decide +kernel
theorem d_M_rules_94 : decode b_M_rules 94 = .ok (.getfield 72, 3) := by decide +kernel
theorem d_M_rules_97 : decode b_M_rules 97 = .ok (.iload_n 1, 1) := by decide +kernel
theorem d_M_rules_98 : decode b_M_rules 98 = .ok (.iaload, 1) := by decide +kernel
theorem d_M_rules_99 : decode b_M_rules 99 = .ok (.iastore, 1) := by decide +kernel
theorem d_M_rules_100 : decode b_M_rules 100 = .ok (.iinc 1 1, 3) := by decide +kernel
theorem d_M_rules_103 : decode b_M_rules 103 = .ok (.goto (-21), 3) := by decide +kernel
theorem d_M_rules_106 : decode b_M_rules 106 = .ok (.iconst 0, 1) := by decide +kernel
theorem d_M_rules_107 : decode b_M_rules 107 = .ok (.istore_n 1, 1) := by decide +kernel
theorem d_M_rules_108 : decode b_M_rules 108 = .ok (.iload_n 1, 1) := by decide +kernel
theorem d_M_rules_109 : decode b_M_rules 109 = .ok (.sipush 160, 3) := by decide +kernel
theorem d_M_rules_112 : decode b_M_rules 112 = .ok (.if_icmp .ge 57, 3) := by decide +kernel
theorem d_M_rules_115 : decode b_M_rules 115 = .ok (.aload_n 0, 1) := by decide +kernel
theorem d_M_rules_116 : decode b_M_rules 116 = .ok (.getfield 60, 3) := by decide +kernel
theorem d_M_rules_119 : decode b_M_rules 119 = .ok (.iload_n 1, 1) := by decide +kernel
theorem d_M_rules_120 : decode b_M_rules 120 = .ok (.aload_n 0, 1) := by decide +kernel
theorem d_M_rules_121 : decode b_M_rules 121 = .ok (.getfield 75, 3) := by decide +kernel
theorem d_M_rules_124 : decode b_M_rules 124 = .ok (.iload_n 1, 1) := by decide +kernel
theorem d_M_rules_125 : decode b_M_rules 125 = .ok (.iaload, 1) := by decide +kernel
theorem d_M_rules_126 : decode b_M_rules 126 = .ok (.iastore, 1) := by decide +kernel
theorem d_M_rules_127 : decode b_M_rules 127 = .ok (.aload_n 0, 1) := by decide +kernel
theorem d_M_rules_128 : decode b_M_rules 128 = .ok (.getfield 63, 3) := by decide +kernel
theorem d_M_rules_131 : decode b_M_rules 131 = .ok (.iload_n 1, 1) := by decide +kernel
theorem d_M_rules_132 : decode b_M_rules 132 = .ok (.aload_n 0, 1) := by decide +kernel
theorem d_M_rules_133 : decode b_M_rules 133 = .ok (.getfield 78, 3) := by decide +kernel
theorem d_M_rules_136 : decode b_M_rules 136 = .ok (.iload_n 1, 1) := by decide +kernel
theorem d_M_rules_137 : decode b_M_rules 137 = .ok (.iaload, 1) := by decide +kernel
theorem d_M_rules_138 : decode b_M_rules 138 = .ok (.iastore, 1) := by decide +kernel
theorem d_M_rules_139 : decode b_M_rules 139 = .ok (.aload_n 0, 1) := by decide +kernel
theorem d_M_rules_140 : decode b_M_rules 140 = .ok (.getfield 66, 3) := by decide +kernel
theorem d_M_rules_143 : decode b_M_rules 143 = .ok (.iload_n 1, 1) := by decide +kernel
theorem d_M_rules_144 : decode b_M_rules 144 = .ok (.aload_n 0, 1) := by decide +kernel
theorem d_M_rules_145 : decode b_M_rules 145 = .ok (.getfield 81, 3) := by decide +kernel
theorem d_M_rules_148 : decode b_M_rules 148 = .ok (.iload_n 1, 1) := by decide +kernel
theorem d_M_rules_149 : decode b_M_rules 149 = .ok (.iaload, 1) := by decide +kernel
theorem d_M_rules_150 : decode b_M_rules 150 = .ok (.iastore, 1) := by decide +kernel
theorem d_M_rules_151 : decode b_M_rules 151 = .ok (.aload_n 0, 1) := by decide +kernel
theorem d_M_rules_152 : decode b_M_rules 152 = .ok (.getfield 69, 3) := by decide +kernel
theorem d_M_rules_155 : decode b_M_rules 155 = .ok (.iload_n 1, 1) := by decide +kernel
theorem d_M_rules_156 : decode b_M_rules 156 = .ok (.aload_n 0, 1) := by decide +kernel
theorem d_M_rules_157 : decode b_M_rules 157 = .ok (.getfield 84, 3) := by decide +kernel
theorem d_M_rules_160 : decode b_M_rules 160 = .ok (.iload_n 1, 1) := by decide +kernel
theorem d_M_rules_161 : decode b_M_rules 161 = .ok (.baload, 1) := by decide +kernel
theorem d_M_rules_162 : decode b_M_rules 162 = .ok (.bastore, 1) := by decide +kernel
theorem d_M_rules_163 : decode b_M_rules 163 = .ok (.iinc 1 1, 3) := by decide +kernel
theorem d_M_rules_166 : decode b_M_rules 166 = .ok (.goto (-58), 3) := by decide +kernel
theorem d_M_rules_169 : decode b_M_rules 169 = .ok (.aload_n 0, 1) := by decide +kernel
theorem d_M_rules_170 : decode b_M_rules 170 = .ok (.getfield 166, 3) := by decide +kernel
theorem d_M_rules_173 : decode b_M_rules 173 = .ok (.ireturn, 1) := by decide +kernel
def y_M_place : MethodName := ⟨cR6, "place", "()I"⟩
abbrev b_M_place : ByteArray := prog_8_method_24_code
abbrev k_M_place : Cond := .code y_M_place b_M_place 1 (some .int)
theorem mc_M_place : MC y_M_place k_M_place b_M_place 1 (some .int) [] 0 := ⟨g_in (List.mem_of_getElem? (i := 952) (by decide +kernel)) (by decide +kernel), Or.inl ⟨rfl, rfl⟩, g_in (List.mem_of_getElem? (i := 62) (by decide +kernel)) (by decide +kernel), by decide, by decide +kernel⟩
theorem in_M_place : Cond.instanceMethod y_M_place ∈ g_ws := g_in (List.mem_of_getElem? (i := 950) (by decide +kernel)) (by decide +kernel)
theorem se_M_place : Cond.selects cR6 y_M_place y_M_place ∈ g_ws := g_in (List.mem_of_getElem? (i := 951) (by decide +kernel)) (by decide +kernel)
theorem d_M_place_0 : decode b_M_place 0 = .ok (.aload_n 0, 1) := by decide +kernel
theorem d_M_place_1 : decode b_M_place 1 = .ok (.iconst 0, 1) := by decide +kernel
theorem d_M_place_2 : decode b_M_place 2 = .ok (.putfield 96, 3) := by decide +kernel
theorem d_M_place_5 : decode b_M_place 5 = .ok (.aload_n 0, 1) := by decide +kernel
theorem d_M_place_6 : decode b_M_place 6 = .ok (.getfield 53, 3) := by decide +kernel
theorem d_M_place_9 : decode b_M_place 9 = .ok (.ireturn, 1) := by decide +kernel
def y_M_has : MethodName := ⟨cR6, "has", "(II)Z"⟩
abbrev b_M_has : ByteArray := prog_8_method_25_code
abbrev k_M_has : Cond := .code y_M_has b_M_has 3 (some .boolean)
theorem mc_M_has : MC y_M_has k_M_has b_M_has 3 (some .boolean) [] 2 := ⟨g_in (List.mem_of_getElem? (i := 972) (by decide +kernel)) (by decide +kernel), Or.inl ⟨rfl, rfl⟩, g_in (List.mem_of_getElem? (i := 62) (by decide +kernel)) (by decide +kernel), by decide, by decide +kernel⟩
theorem in_M_has : Cond.instanceMethod y_M_has ∈ g_ws := g_in (List.mem_of_getElem? (i := 971) (by decide +kernel)) (by decide +kernel)
theorem se_M_has : Cond.selects cR6 y_M_has y_M_has ∈ g_ws := g_in (List.mem_of_getElem? (i := 49) (by decide +kernel)) (by decide +kernel)
theorem d_M_has_0 : decode b_M_has 0 = .ok (.iload_n 2, 1) := by decide +kernel
theorem d_M_has_1 : decode b_M_has 1 = .ok (.ifCond .ge 19, 3) := by decide +kernel
theorem d_M_has_4 : decode b_M_has 4 = .ok (.aload_n 0, 1) := by decide +kernel
theorem d_M_has_5 : decode b_M_has 5 = .ok (.getfield 31, 3) := by decide +kernel
theorem d_M_has_8 : decode b_M_has 8 = .ok (.bipush 20, 2) := by decide +kernel
theorem d_M_has_10 : decode b_M_has 10 = .ok (.iload_n 1, 1) := by decide +kernel
theorem d_M_has_11 : decode b_M_has 11 = .ok (.imul, 1) := by decide +kernel
theorem d_M_has_12 : decode b_M_has 12 = .ok (.iconst 1, 1) := by decide +kernel
theorem d_M_has_13 : decode b_M_has 13 = .ok (.isub, 1) := by decide +kernel
theorem d_M_has_14 : decode b_M_has 14 = .ok (.iload_n 2, 1) := by decide +kernel
theorem d_M_has_15 : decode b_M_has 15 = .ok (.isub, 1) := by decide +kernel
theorem d_M_has_16 : decode b_M_has 16 = .ok (.baload, 1) := by decide +kernel
theorem d_M_has_17 : decode b_M_has 17 = .ok (.ifCond .eq 7, 3) := by decide +kernel
theorem d_M_has_20 : decode b_M_has 20 = .ok (.iconst 1, 1) := by decide +kernel
theorem d_M_has_21 : decode b_M_has 21 = .ok (.goto 4, 3) := by decide +kernel
theorem d_M_has_24 : decode b_M_has 24 = .ok (.iconst 0, 1) := by decide +kernel
theorem d_M_has_25 : decode b_M_has 25 = .ok (.ireturn, 1) := by decide +kernel
def y_M_of : MethodName := ⟨cR6, "of", "(II)I"⟩
abbrev b_M_of : ByteArray := prog_8_method_26_code
abbrev k_M_of : Cond := .code y_M_of b_M_of 3 (some .int)
theorem mc_M_of : MC y_M_of k_M_of b_M_of 3 (some .int) [] 2 := ⟨g_in (List.mem_of_getElem? (i := 980) (by decide +kernel)) (by decide +kernel), Or.inl ⟨rfl, rfl⟩, g_in (List.mem_of_getElem? (i := 62) (by decide +kernel)) (by decide +kernel), by decide, by decide +kernel⟩
theorem in_M_of : Cond.instanceMethod y_M_of ∈ g_ws := g_in (List.mem_of_getElem? (i := 979) (by decide +kernel)) (by decide +kernel)
theorem se_M_of : Cond.selects cR6 y_M_of y_M_of ∈ g_ws := g_in (List.mem_of_getElem? (i := 51) (by decide +kernel)) (by decide +kernel)
theorem d_M_of_0 : decode b_M_of 0 = .ok (.iload_n 2, 1) := by decide +kernel
theorem d_M_of_1 : decode b_M_of 1 = .ok (.ifCond .lt 7, 3) := by decide +kernel
theorem d_M_of_4 : decode b_M_of 4 = .ok (.iload_n 2, 1) := by decide +kernel
theorem d_M_of_5 : decode b_M_of 5 = .ok (.goto 16, 3) := by decide +kernel
theorem d_M_of_8 : decode b_M_of 8 = .ok (.aload_n 0, 1) := by decide +kernel
theorem d_M_of_9 : decode b_M_of 9 = .ok (.getfield 41, 3) := by decide +kernel
theorem d_M_of_12 : decode b_M_of 12 = .ok (.bipush 20, 2) := by decide +kernel
theorem d_M_of_14 : decode b_M_of 14 = .ok (.iload_n 1, 1) := by decide +kernel
theorem d_M_of_15 : decode b_M_of 15 = .ok (.imul, 1) := by decide +kernel
theorem d_M_of_16 : decode b_M_of 16 = .ok (.iconst 1, 1) := by decide +kernel
theorem d_M_of_17 : decode b_M_of 17 = .ok (.isub, 1) := by decide +kernel
theorem d_M_of_18 : decode b_M_of 18 = .ok (.iload_n 2, 1) := by decide +kernel
theorem d_M_of_19 : decode b_M_of 19 = .ok (.isub, 1) := by decide +kernel
theorem d_M_of_20 : decode b_M_of 20 = .ok (.iaload, 1) := by decide +kernel
theorem d_M_of_21 : decode b_M_of 21 = .ok (.ireturn, 1) := by decide +kernel
def y_M_isAsked : MethodName := ⟨cR6, "isAsked", "(II)Z"⟩
abbrev b_M_isAsked : ByteArray := prog_8_method_27_code
abbrev k_M_isAsked : Cond := .code y_M_isAsked b_M_isAsked 4 (some .boolean)
theorem mc_M_isAsked : MC y_M_isAsked k_M_isAsked b_M_isAsked 4 (some .boolean) [] 2 := ⟨g_in (List.mem_of_getElem? (i := 968) (by decide +kernel)) (by decide +kernel), Or.inl ⟨rfl, rfl⟩, g_in (List.mem_of_getElem? (i := 62) (by decide +kernel)) (by decide +kernel), by decide, by decide +kernel⟩
theorem in_M_isAsked : Cond.instanceMethod y_M_isAsked ∈ g_ws := g_in (List.mem_of_getElem? (i := 967) (by decide +kernel)) (by decide +kernel)
theorem se_M_isAsked : Cond.selects cR6 y_M_isAsked y_M_isAsked ∈ g_ws := g_in (List.mem_of_getElem? (i := 48) (by decide +kernel)) (by decide +kernel)
theorem d_M_isAsked_0 : decode b_M_isAsked 0 = .ok (.bipush 8, 2) := by decide +kernel
theorem d_M_isAsked_2 : decode b_M_isAsked 2 = .ok (.iload_n 2, 1) := by decide +kernel
theorem d_M_isAsked_3 : decode b_M_isAsked 3 = .ok (.imul, 1) := by decide +kernel
theorem d_M_isAsked_4 : decode b_M_isAsked 4 = .ok (.istore_n 3, 1) := by decide +kernel
theorem d_M_isAsked_5 : decode b_M_isAsked 5 = .ok (.iload_n 3, 1) := by decide +kernel
theorem d_M_isAsked_6 : decode b_M_isAsked 6 = .ok (.bipush 8, 2) := by decide +kernel
theorem d_M_isAsked_8 : decode b_M_isAsked 8 = .ok (.iload_n 2, 1) := by decide +kernel
theorem d_M_isAsked_9 : decode b_M_isAsked 9 = .ok (.imul, 1) := by decide +kernel
theorem d_M_isAsked_10 : decode b_M_isAsked 10 = .ok (.bipush 8, 2) := by decide +kernel
theorem d_M_isAsked_12 : decode b_M_isAsked 12 = .ok (.iadd, 1) := by decide +kernel
theorem d_M_isAsked_13 : decode b_M_isAsked 13 = .ok (.if_icmp .ge 57, 3) := by decide +kernel
theorem d_M_isAsked_16 : decode b_M_isAsked 16 = .ok (.aload_n 0, 1) := by decide +kernel
theorem d_M_isAsked_17 : decode b_M_isAsked 17 = .ok (.getfield 60, 3) := by decide +kernel
theorem d_M_isAsked_20 : decode b_M_isAsked 20 = .ok (.iload_n 3, 1) := by decide +kernel
theorem d_M_isAsked_21 : decode b_M_isAsked 21 = .ok (.iaload, 1) := by decide +kernel
theorem d_M_isAsked_22 : decode b_M_isAsked 22 = .ok (.ifCond .le 42, 3) := by decide +kernel
theorem d_M_isAsked_25 : decode b_M_isAsked 25 = .ok (.aload_n 0, 1) := by decide +kernel
theorem d_M_isAsked_26 : decode b_M_isAsked 26 = .ok (.iload_n 1, 1) := by decide +kernel
theorem d_M_isAsked_27 : decode b_M_isAsked 27 = .ok (.aload_n 0, 1) := by decide +kernel
theorem d_M_isAsked_28 : decode b_M_isAsked 28 = .ok (.getfield 63, 3) := by decide +kernel
theorem d_M_isAsked_31 : decode b_M_isAsked 31 = .ok (.iload_n 3, 1) := by decide +kernel
theorem d_M_isAsked_32 : decode b_M_isAsked 32 = .ok (.iaload, 1) := by decide +kernel
theorem d_M_isAsked_33 : decode b_M_isAsked 33 = .ok (.invokevirtual 169, 3) := by decide +kernel
theorem d_M_isAsked_36 : decode b_M_isAsked 36 = .ok (.ifCond .eq 26, 3) := by decide +kernel
theorem d_M_isAsked_39 : decode b_M_isAsked 39 = .ok (.aload_n 0, 1) := by decide +kernel
theorem d_M_isAsked_40 : decode b_M_isAsked 40 = .ok (.getfield 69, 3) := by decide +kernel
theorem d_M_isAsked_43 : decode b_M_isAsked 43 = .ok (.iload_n 3, 1) := by decide +kernel
theorem d_M_isAsked_44 : decode b_M_isAsked 44 = .ok (.baload, 1) := by decide +kernel
theorem d_M_isAsked_45 : decode b_M_isAsked 45 = .ok (.ifCond .eq 19, 3) := by decide +kernel
theorem d_M_isAsked_48 : decode b_M_isAsked 48 = .ok (.aload_n 0, 1) := by decide +kernel
theorem d_M_isAsked_49 : decode b_M_isAsked 49 = .ok (.iload_n 1, 1) := by decide +kernel
theorem d_M_isAsked_50 : decode b_M_isAsked 50 = .ok (.aload_n 0, 1) := by decide +kernel
theorem d_M_isAsked_51 : decode b_M_isAsked 51 = .ok (.getfield 66, 3) := by decide +kernel
theorem d_M_isAsked_54 : decode b_M_isAsked 54 = .ok (.iload_n 3, 1) := by decide +kernel
theorem d_M_isAsked_55 : decode b_M_isAsked 55 = .ok (.iaload, 1) := by decide +kernel
theorem d_M_isAsked_56 : decode b_M_isAsked 56 = .ok (.invokevirtual 169, 3) := by decide +kernel
theorem d_M_isAsked_59 : decode b_M_isAsked 59 = .ok (.ifCond .ne 5, 3) := by decide +kernel
theorem d_M_isAsked_62 : decode b_M_isAsked 62 = .ok (.iconst 0, 1) := by decide +kernel
theorem d_M_isAsked_63 : decode b_M_isAsked 63 = .ok (.ireturn, 1) := by decide +kernel
theorem d_M_isAsked_64 : decode b_M_isAsked 64 = .ok (.iinc 3 1, 3) := by decide +kernel
theorem d_M_isAsked_67 : decode b_M_isAsked 67 = .ok (.goto (-62), 3) := by decide +kernel
theorem d_M_isAsked_70 : decode b_M_isAsked 70 = .ok (.iconst 1, 1) := by decide +kernel
theorem d_M_isAsked_71 : decode b_M_isAsked 71 = .ok (.ireturn, 1) := by decide +kernel
def y_M_reckon : MethodName := ⟨cR6, "reckon", "(II)I"⟩
abbrev b_M_reckon : ByteArray := prog_8_method_28_code
abbrev k_M_reckon : Cond := .code y_M_reckon b_M_reckon 7 (some .int)
theorem mc_M_reckon : MC y_M_reckon k_M_reckon b_M_reckon 7 (some .int) [] 2 := ⟨g_in (List.mem_of_getElem? (i := 976) (by decide +kernel)) (by decide +kernel), Or.inl ⟨rfl, rfl⟩, g_in (List.mem_of_getElem? (i := 62) (by decide +kernel)) (by decide +kernel), by decide, by decide +kernel⟩
theorem in_M_reckon : Cond.instanceMethod y_M_reckon ∈ g_ws := g_in (List.mem_of_getElem? (i := 975) (by decide +kernel)) (by decide +kernel)
theorem se_M_reckon : Cond.selects cR6 y_M_reckon y_M_reckon ∈ g_ws := g_in (List.mem_of_getElem? (i := 50) (by decide +kernel)) (by decide +kernel)
theorem d_M_reckon_0 : decode b_M_reckon 0 = .ok (.iconst 0, 1) := by decide +kernel
theorem d_M_reckon_1 : decode b_M_reckon 1 = .ok (.istore_n 3, 1) := by decide +kernel
theorem d_M_reckon_2 : decode b_M_reckon 2 = .ok (.iload_n 2, 1) := by decide +kernel
theorem d_M_reckon_3 : decode b_M_reckon 3 = .ok (.istore 4, 2) := by decide +kernel
theorem d_M_reckon_5 : decode b_M_reckon 5 = .ok (.iload 4, 2) := by decide +kernel
theorem d_M_reckon_7 : decode b_M_reckon 7 = .ok (.iload_n 2, 1) := by decide +kernel
theorem d_M_reckon_8 : decode b_M_reckon 8 = .ok (.iconst 4, 1) := by decide +kernel
theorem d_M_reckon_9 : decode b_M_reckon 9 = .ok (.iadd, 1) := by decide +kernel
theorem d_M_reckon_10 : decode b_M_reckon 10 = .ok (.if_icmp .ge 120, 3) := by decide +kernel
theorem d_M_reckon_13 : decode b_M_reckon 13 = .ok (.aload_n 0, 1) := by decide +kernel
theorem d_M_reckon_14 : decode b_M_reckon 14 = .ok (.getfield 60, 3) := by decide +kernel
theorem d_M_reckon_17 : decode b_M_reckon 17 = .ok (.iload 4, 2) := by decide +kernel
theorem d_M_reckon_19 : decode b_M_reckon 19 = .ok (.iaload, 1) := by decide +kernel
theorem d_M_reckon_20 : decode b_M_reckon 20 = .ok (.ifCond .ne 6, 3) := by decide +kernel
theorem d_M_reckon_23 : decode b_M_reckon 23 = .ok (.goto 101, 3) := by decide +kernel
theorem d_M_reckon_26 : decode b_M_reckon 26 = .ok (.aload_n 0, 1) := by decide +kernel
theorem d_M_reckon_27 : decode b_M_reckon 27 = .ok (.iload_n 1, 1) := by decide +kernel
theorem d_M_reckon_28 : decode b_M_reckon 28 = .ok (.aload_n 0, 1) := by decide +kernel
theorem d_M_reckon_29 : decode b_M_reckon 29 = .ok (.getfield 63, 3) := by decide +kernel
theorem d_M_reckon_32 : decode b_M_reckon 32 = .ok (.iload 4, 2) := by decide +kernel
theorem d_M_reckon_34 : decode b_M_reckon 34 = .ok (.iaload, 1) := by decide +kernel
theorem d_M_reckon_35 : decode b_M_reckon 35 = .ok (.invokevirtual 173, 3) := by decide +kernel
theorem d_M_reckon_38 : decode b_M_reckon 38 = .ok (.istore 5, 2) := by decide +kernel
theorem d_M_reckon_40 : decode b_M_reckon 40 = .ok (.aload_n 0, 1) := by decide +kernel
theorem d_M_reckon_41 : decode b_M_reckon 41 = .ok (.getfield 69, 3) := by decide +kernel
theorem d_M_reckon_44 : decode b_M_reckon 44 = .ok (.iload 4, 2) := by decide +kernel
theorem d_M_reckon_46 : decode b_M_reckon 46 = .ok (.baload, 1) := by decide +kernel
theorem d_M_reckon_47 : decode b_M_reckon 47 = .ok (.ifCond .eq 54, 3) := by decide +kernel
theorem d_M_reckon_50 : decode b_M_reckon 50 = .ok (.aload_n 0, 1) := by decide +kernel
theorem d_M_reckon_51 : decode b_M_reckon 51 = .ok (.iload_n 1, 1) := by decide +kernel
theorem d_M_reckon_52 : decode b_M_reckon 52 = .ok (.aload_n 0, 1) := by decide +kernel
theorem d_M_reckon_53 : decode b_M_reckon 53 = .ok (.getfield 66, 3) := by decide +kernel
theorem d_M_reckon_56 : decode b_M_reckon 56 = .ok (.iload 4, 2) := by decide +kernel
theorem d_M_reckon_58 : decode b_M_reckon 58 = .ok (.iaload, 1) := by decide +kernel
theorem d_M_reckon_59 : decode b_M_reckon 59 = .ok (.invokevirtual 173, 3) := by decide +kernel
theorem d_M_reckon_62 : decode b_M_reckon 62 = .ok (.istore 6, 2) := by decide +kernel
theorem d_M_reckon_64 : decode b_M_reckon 64 = .ok (.aload_n 0, 1) := by decide +kernel
theorem d_M_reckon_65 : decode b_M_reckon 65 = .ok (.aload_n 0, 1) := by decide +kernel
theorem d_M_reckon_66 : decode b_M_reckon 66 = .ok (.getfield 177, 3) := by decide +kernel
theorem d_M_reckon_69 : decode b_M_reckon 69 = .ok (.ifCond .ne 8, 3) := by decide +kernel
theorem d_M_reckon_72 : decode b_M_reckon 72 = .ok (.iload 6, 2) := by decide +kernel
theorem d_M_reckon_74 : decode b_M_reckon 74 = .ok (.ifCond .ne 7, 3) := by decide +kernel
theorem d_M_reckon_77 : decode b_M_reckon 77 = .ok (.iconst 1, 1) := by decide +kernel
theorem d_M_reckon_78 : decode b_M_reckon 78 = .ok (.goto 4, 3) := by decide +kernel
theorem d_M_reckon_81 : decode b_M_reckon 81 = .ok (.iconst 0, 1) := by decide +kernel
theorem d_M_reckon_82 : decode b_M_reckon 82 = .ok (.putfield 177, 3) := by decide +kernel
theorem d_M_reckon_85 : decode b_M_reckon 85 = .ok (.iload 6, 2) := by decide +kernel
theorem d_M_reckon_87 : decode b_M_reckon 87 = .ok (.ifCond .ne 7, 3) := by decide +kernel
theorem d_M_reckon_90 : decode b_M_reckon 90 = .ok (.iconst 0, 1) := by decide +kernel
theorem d_M_reckon_91 : decode b_M_reckon 91 = .ok (.goto 8, 3) := by decide +kernel
theorem d_M_reckon_94 : decode b_M_reckon 94 = .ok (.iload 5, 2) := by decide +kernel
theorem d_M_reckon_96 : decode b_M_reckon 96 = .ok (.iload 6, 2) := by decide +kernel
theorem d_M_reckon_98 : decode b_M_reckon 98 = .ok (.idiv, 1) := by decide +kernel
theorem d_M_reckon_99 : decode b_M_reckon 99 = .ok (.istore 5, 2) := by decide +kernel
theorem d_M_reckon_101 : decode b_M_reckon 101 = .ok (.aload_n 0, 1) := by decide +kernel
theorem d_M_reckon_102 : decode b_M_reckon 102 = .ok (.getfield 60, 3) := by decide +kernel
theorem d_M_reckon_105 : decode b_M_reckon 105 = .ok (.iload 4, 2) := by decide +kernel
theorem d_M_reckon_107 : decode b_M_reckon 107 = .ok (.iaload, 1) := by decide +kernel
theorem d_M_reckon_108 : decode b_M_reckon 108 = .ok (.iconst 1, 1) := by decide +kernel
theorem d_M_reckon_109 : decode b_M_reckon 109 = .ok (.if_icmp .ne 10, 3) := by decide +kernel
theorem d_M_reckon_112 : decode b_M_reckon 112 = .ok (.iload_n 3, 1) := by decide +kernel
theorem d_M_reckon_113 : decode b_M_reckon 113 = .ok (.iload 5, 2) := by decide +kernel
theorem d_M_reckon_115 : decode b_M_reckon 115 = .ok (.iadd, 1) := by decide +kernel
theorem d_M_reckon_116 : decode b_M_reckon 116 = .ok (.goto 7, 3) := by decide +kernel
theorem d_M_reckon_119 : decode b_M_reckon 119 = .ok (.iload_n 3, 1) := by decide +kernel
theorem d_M_reckon_120 : decode b_M_reckon 120 = .ok (.iload 5, 2) := by decide +kernel
theorem d_M_reckon_122 : decode b_M_reckon 122 = .ok (.isub, 1) := by decide +kernel
theorem d_M_reckon_123 : decode b_M_reckon 123 = .ok (.istore_n 3, 1) := by decide +kernel
theorem d_M_reckon_124 : decode b_M_reckon 124 = .ok (.iinc 4 1, 3) := by decide +kernel
theorem d_M_reckon_127 : decode b_M_reckon 127 = .ok (.goto (-122), 3) := by decide +kernel
theorem d_M_reckon_130 : decode b_M_reckon 130 = .ok (.iload_n 3, 1) := by decide +kernel
theorem d_M_reckon_131 : decode b_M_reckon 131 = .ok (.ireturn, 1) := by decide +kernel
def y_M_verdict : MethodName := ⟨cR6, "verdict", "(II)I"⟩
abbrev b_M_verdict : ByteArray := prog_8_method_29_code
abbrev k_M_verdict : Cond := .code y_M_verdict b_M_verdict 5 (some .int)
theorem mc_M_verdict : MC y_M_verdict k_M_verdict b_M_verdict 5 (some .int) [] 2 := ⟨g_in (List.mem_of_getElem? (i := 964) (by decide +kernel)) (by decide +kernel), Or.inl ⟨rfl, rfl⟩, g_in (List.mem_of_getElem? (i := 62) (by decide +kernel)) (by decide +kernel), by decide, by decide +kernel⟩
theorem in_M_verdict : Cond.instanceMethod y_M_verdict ∈ g_ws := g_in (List.mem_of_getElem? (i := 963) (by decide +kernel)) (by decide +kernel)
theorem se_M_verdict : Cond.selects cR6 y_M_verdict y_M_verdict ∈ g_ws := g_in (List.mem_of_getElem? (i := 47) (by decide +kernel)) (by decide +kernel)
theorem d_M_verdict_0 : decode b_M_verdict 0 = .ok (.aload_n 0, 1) := by decide +kernel
theorem d_M_verdict_1 : decode b_M_verdict 1 = .ok (.iload_n 1, 1) := by decide +kernel
theorem d_M_verdict_2 : decode b_M_verdict 2 = .ok (.iload_n 2, 1) := by decide +kernel
theorem d_M_verdict_3 : decode b_M_verdict 3 = .ok (.invokevirtual 181, 3) := by decide +kernel
theorem d_M_verdict_6 : decode b_M_verdict 6 = .ok (.ifCond .ne 5, 3) := by decide +kernel
theorem d_M_verdict_9 : decode b_M_verdict 9 = .ok (.iconst 0, 1) := by decide +kernel
theorem d_M_verdict_10 : decode b_M_verdict 10 = .ok (.ireturn, 1) := by decide +kernel
theorem d_M_verdict_11 : decode b_M_verdict 11 = .ok (.aload_n 0, 1) := by decide +kernel
theorem d_M_verdict_12 : decode b_M_verdict 12 = .ok (.iconst 0, 1) := by decide +kernel
theorem d_M_verdict_13 : decode b_M_verdict 13 = .ok (.putfield 177, 3) := by decide +kernel
theorem d_M_verdict_16 : decode b_M_verdict 16 = .ok (.aload_n 0, 1) := by decide +kernel
theorem d_M_verdict_17 : decode b_M_verdict 17 = .ok (.iload_n 1, 1) := by decide +kernel
theorem d_M_verdict_18 : decode b_M_verdict 18 = .ok (.bipush 8, 2) := by decide +kernel
theorem d_M_verdict_20 : decode b_M_verdict 20 = .ok (.iload_n 2, 1) := by decide +kernel
theorem d_M_verdict_21 : decode b_M_verdict 21 = .ok (.imul, 1) := by decide +kernel
theorem d_M_verdict_22 : decode b_M_verdict 22 = .ok (.invokevirtual 184, 3) := by decide +kernel
theorem d_M_verdict_25 : decode b_M_verdict 25 = .ok (.istore_n 3, 1) := by decide +kernel
theorem d_M_verdict_26 : decode b_M_verdict 26 = .ok (.aload_n 0, 1) := by decide +kernel
theorem d_M_verdict_27 : decode b_M_verdict 27 = .ok (.iload_n 1, 1) := by decide +kernel
theorem d_M_verdict_28 : decode b_M_verdict 28 = .ok (.bipush 8, 2) := by decide +kernel
theorem d_M_verdict_30 : decode b_M_verdict 30 = .ok (.iload_n 2, 1) := by decide +kernel
theorem d_M_verdict_31 : decode b_M_verdict 31 = .ok (.imul, 1) := by decide +kernel
theorem d_M_verdict_32 : decode b_M_verdict 32 = .ok (.iconst 4, 1) := by decide +kernel
theorem d_M_verdict_33 : decode b_M_verdict 33 = .ok (.iadd, 1) := by decide +kernel
theorem d_M_verdict_34 : decode b_M_verdict 34 = .ok (.invokevirtual 184, 3) := by decide +kernel
theorem d_M_verdict_37 : decode b_M_verdict 37 = .ok (.istore 4, 2) := by decide +kernel
theorem d_M_verdict_39 : decode b_M_verdict 39 = .ok (.aload_n 0, 1) := by decide +kernel
theorem d_M_verdict_40 : decode b_M_verdict 40 = .ok (.getfield 177, 3) := by decide +kernel
theorem d_M_verdict_43 : decode b_M_verdict 43 = .ok (.ifCond .eq 5, 3) := by decide +kernel
theorem d_M_verdict_46 : decode b_M_verdict 46 = .ok (.iconst 3, 1) := by decide +kernel
theorem d_M_verdict_47 : decode b_M_verdict 47 = .ok (.ireturn, 1) := by decide +kernel
theorem d_M_verdict_48 : decode b_M_verdict 48 = .ok (.aload_n 0, 1) := by decide +kernel
theorem d_M_verdict_49 : decode b_M_verdict 49 = .ok (.getfield 57, 3) := by decide +kernel
theorem d_M_verdict_52 : decode b_M_verdict 52 = .ok (.iload_n 2, 1) := by decide +kernel
theorem d_M_verdict_53 : decode b_M_verdict 53 = .ok (.iaload, 1) := by decide +kernel
theorem d_M_verdict_54 : decode b_M_verdict 54 = .ok (.bipush 60, 2) := by decide +kernel
theorem d_M_verdict_56 : decode b_M_verdict 56 = .ok (.if_icmp .ne 12, 3) := by decide +kernel
theorem d_M_verdict_59 : decode b_M_verdict 59 = .ok (.iload_n 3, 1) := by decide +kernel
theorem d_M_verdict_60 : decode b_M_verdict 60 = .ok (.iload 4, 2) := by decide +kernel
theorem d_M_verdict_62 : decode b_M_verdict 62 = .ok (.if_icmp .ge 36, 3) := by decide +kernel
theorem d_M_verdict_65 : decode b_M_verdict 65 = .ok (.goto 29, 3) := by decide +kernel
theorem d_M_verdict_68 : decode b_M_verdict 68 = .ok (.aload_n 0, 1) := by decide +kernel
theorem d_M_verdict_69 : decode b_M_verdict 69 = .ok (.getfield 57, 3) := by decide +kernel
theorem d_M_verdict_72 : decode b_M_verdict 72 = .ok (.iload_n 2, 1) := by decide +kernel
theorem d_M_verdict_73 : decode b_M_verdict 73 = .ok (.iaload, 1) := by decide +kernel
theorem d_M_verdict_74 : decode b_M_verdict 74 = .ok (.bipush 61, 2) := by decide +kernel
theorem d_M_verdict_76 : decode b_M_verdict 76 = .ok (.if_icmp .ne 12, 3) := by decide +kernel
theorem d_M_verdict_79 : decode b_M_verdict 79 = .ok (.iload_n 3, 1) := by decide +kernel
theorem d_M_verdict_80 : decode b_M_verdict 80 = .ok (.iload 4, 2) := by decide +kernel
theorem d_M_verdict_82 : decode b_M_verdict 82 = .ok (.if_icmp .ne 16, 3) := by decide +kernel
theorem d_M_verdict_85 : decode b_M_verdict 85 = .ok (.goto 9, 3) := by decide +kernel
theorem d_M_verdict_88 : decode b_M_verdict 88 = .ok (.iload_n 3, 1) := by decide +kernel
theorem d_M_verdict_89 : decode b_M_verdict 89 = .ok (.iload 4, 2) := by decide +kernel
theorem d_M_verdict_91 : decode b_M_verdict 91 = .ok (.if_icmp .gt 7, 3) := by decide +kernel
theorem d_M_verdict_94 : decode b_M_verdict 94 = .ok (.iconst 0, 1) := by decide +kernel
theorem d_M_verdict_95 : decode b_M_verdict 95 = .ok (.goto 4, 3) := by decide +kernel
theorem d_M_verdict_98 : decode b_M_verdict 98 = .ok (.iconst 2, 1) := by decide +kernel
theorem d_M_verdict_99 : decode b_M_verdict 99 = .ok (.ireturn, 1) := by decide +kernel
def y_M_check : MethodName := ⟨cR6, "check", "(I)I"⟩
abbrev b_M_check : ByteArray := prog_8_method_30_code
abbrev k_M_check : Cond := .code y_M_check b_M_check 3 (some .int)
theorem mc_M_check : MC y_M_check k_M_check b_M_check 3 (some .int) [] 1 := ⟨g_in (List.mem_of_getElem? (i := 956) (by decide +kernel)) (by decide +kernel), Or.inl ⟨rfl, rfl⟩, g_in (List.mem_of_getElem? (i := 62) (by decide +kernel)) (by decide +kernel), by decide, by decide +kernel⟩
theorem in_M_check : Cond.instanceMethod y_M_check ∈ g_ws := g_in (List.mem_of_getElem? (i := 954) (by decide +kernel)) (by decide +kernel)
theorem se_M_check : Cond.selects cR6 y_M_check y_M_check ∈ g_ws := g_in (List.mem_of_getElem? (i := 955) (by decide +kernel)) (by decide +kernel)
theorem d_M_check_0 : decode b_M_check 0 = .ok (.aload_n 0, 1) := by decide +kernel
theorem d_M_check_1 : decode b_M_check 1 = .ok (.aload_n 0, 1) := by decide +kernel
theorem d_M_check_2 : decode b_M_check 2 = .ok (.iload_n 1, 1) := by decide +kernel
theorem d_M_check_3 : decode b_M_check 3 = .ok (.invokevirtual 121, 3) := by decide +kernel
theorem d_M_check_6 : decode b_M_check 6 = .ok (.iconst 1, 1) := by decide +kernel
theorem d_M_check_7 : decode b_M_check 7 = .ok (.iconst 1, 1) := by decide +kernel
theorem d_M_check_8 : decode b_M_check 8 = .ok (.invokevirtual 109, 3) := by decide +kernel
theorem d_M_check_11 : decode b_M_check 11 = .ok (.ifCond .ne 5, 3) := by decide +kernel
theorem d_M_check_14 : decode b_M_check 14 = .ok (.iconst 0, 1) := by decide +kernel
theorem d_M_check_15 : decode b_M_check 15 = .ok (.ireturn, 1) := by decide +kernel
theorem d_M_check_16 : decode b_M_check 16 = .ok (.aload_n 0, 1) := by decide +kernel
theorem d_M_check_17 : decode b_M_check 17 = .ok (.iconst 0, 1) := by decide +kernel
theorem d_M_check_18 : decode b_M_check 18 = .ok (.putfield 187, 3) := by decide +kernel
theorem d_M_check_21 : decode b_M_check 21 = .ok (.iconst 0, 1) := by decide +kernel
theorem d_M_check_22 : decode b_M_check 22 = .ok (.istore_n 2, 1) := by decide +kernel
theorem d_M_check_23 : decode b_M_check 23 = .ok (.iload_n 2, 1) := by decide +kernel
theorem d_M_check_24 : decode b_M_check 24 = .ok (.bipush 20, 2) := by decide +kernel
theorem d_M_check_26 : decode b_M_check 26 = .ok (.if_icmp .ge 48, 3) := by decide +kernel
theorem d_M_check_29 : decode b_M_check 29 = .ok (.aload_n 0, 1) := by decide +kernel
theorem d_M_check_30 : decode b_M_check 30 = .ok (.getfield 44, 3) := by decide +kernel
theorem d_M_check_33 : decode b_M_check 33 = .ok (.bipush 20, 2) := by decide +kernel
theorem d_M_check_35 : decode b_M_check 35 = .ok (.aload_n 0, 1) := by decide +kernel
theorem d_M_check_36 : decode b_M_check 36 = .ok (.getfield 13, 3) := by decide +kernel
theorem d_M_check_39 : decode b_M_check 39 = .ok (.iload_n 1, 1) := by decide +kernel
theorem d_M_check_40 : decode b_M_check 40 = .ok (.iaload, 1) := by decide +kernel
theorem d_M_check_41 : decode b_M_check 41 = .ok (.imul, 1) := by decide +kernel
theorem d_M_check_42 : decode b_M_check 42 = .ok (.iload_n 2, 1) := by decide +kernel
theorem d_M_check_43 : decode b_M_check 43 = .ok (.iadd, 1) := by decide +kernel
theorem d_M_check_44 : decode b_M_check 44 = .ok (.baload, 1) := by decide +kernel
theorem d_M_check_45 : decode b_M_check 45 = .ok (.ifCond .eq 23, 3) := by decide +kernel
theorem d_M_check_48 : decode b_M_check 48 = .ok (.aload_n 0, 1) := by decide +kernel
theorem d_M_check_49 : decode b_M_check 49 = .ok (.getfield 31, 3) := by decide +kernel
theorem d_M_check_52 : decode b_M_check 52 = .ok (.bipush 20, 2) := by decide +kernel
theorem d_M_check_54 : decode b_M_check 54 = .ok (.iload_n 1, 1) := by decide +kernel
theorem d_M_check_55 : decode b_M_check 55 = .ok (.imul, 1) := by decide +kernel
theorem d_M_check_56 : decode b_M_check 56 = .ok (.iload_n 2, 1) := by decide +kernel
theorem d_M_check_57 : decode b_M_check 57 = .ok (.iadd, 1) := by decide +kernel
theorem d_M_check_58 : decode b_M_check 58 = .ok (.baload, 1) := by decide +kernel
theorem d_M_check_59 : decode b_M_check 59 = .ok (.ifCond .ne 9, 3) := by decide +kernel
theorem d_M_check_62 : decode b_M_check 62 = .ok (.aload_n 0, 1) := by decide +kernel
theorem d_M_check_63 : decode b_M_check 63 = .ok (.iconst 1, 1) := by decide +kernel
theorem d_M_check_64 : decode b_M_check 64 = .ok (.iload_n 2, 1) := by decide +kernel
theorem d_M_check_65 : decode b_M_check 65 = .ok (.invokevirtual 190, 3) := by decide +kernel
theorem d_M_check_68 : decode b_M_check 68 = .ok (.iinc 2 1, 3) := by decide +kernel
theorem d_M_check_71 : decode b_M_check 71 = .ok (.goto (-48), 3) := by decide +kernel
theorem d_M_check_74 : decode b_M_check 74 = .ok (.iconst 0, 1) := by decide +kernel
theorem d_M_check_75 : decode b_M_check 75 = .ok (.istore_n 2, 1) := by decide +kernel
theorem d_M_check_76 : decode b_M_check 76 = .ok (.iload_n 2, 1) := by decide +kernel
theorem d_M_check_77 : decode b_M_check 77 = .ok (.aload_n 0, 1) := by decide +kernel
theorem d_M_check_78 : decode b_M_check 78 = .ok (.getfield 166, 3) := by decide +kernel
theorem d_M_check_81 : decode b_M_check 81 = .ok (.if_icmp .ge 29, 3) := by decide +kernel
theorem d_M_check_84 : decode b_M_check 84 = .ok (.aload_n 0, 1) := by decide +kernel
theorem d_M_check_85 : decode b_M_check 85 = .ok (.iload_n 1, 1) := by decide +kernel
theorem d_M_check_86 : decode b_M_check 86 = .ok (.iload_n 2, 1) := by decide +kernel
theorem d_M_check_87 : decode b_M_check 87 = .ok (.invokevirtual 194, 3) := by decide +kernel
theorem d_M_check_90 : decode b_M_check 90 = .ok (.ifCond .le 14, 3) := by decide +kernel
theorem d_M_check_93 : decode b_M_check 93 = .ok (.aload_n 0, 1) := by decide +kernel
theorem d_M_check_94 : decode b_M_check 94 = .ok (.aload_n 0, 1) := by decide +kernel
theorem d_M_check_95 : decode b_M_check 95 = .ok (.iload_n 1, 1) := by decide +kernel
theorem d_M_check_96 : decode b_M_check 96 = .ok (.iload_n 2, 1) := by decide +kernel
theorem d_M_check_97 : decode b_M_check 97 = .ok (.invokevirtual 194, 3) := by decide +kernel
theorem d_M_check_100 : decode b_M_check 100 = .ok (.iload_n 2, 1) := by decide +kernel
theorem d_M_check_101 : decode b_M_check 101 = .ok (.invokevirtual 190, 3) := by decide +kernel
theorem d_M_check_104 : decode b_M_check 104 = .ok (.iinc 2 1, 3) := by decide +kernel
theorem d_M_check_107 : decode b_M_check 107 = .ok (.goto (-31), 3) := by decide +kernel
theorem d_M_check_110 : decode b_M_check 110 = .ok (.aload_n 0, 1) := by decide +kernel
theorem d_M_check_111 : decode b_M_check 111 = .ok (.getfield 187, 3) := by decide +kernel
theorem d_M_check_114 : decode b_M_check 114 = .ok (.ireturn, 1) := by decide +kernel
def y_M_wanted : MethodName := ⟨cR6, "wanted", "(II)V"⟩
abbrev b_M_wanted : ByteArray := prog_8_method_31_code
abbrev k_M_wanted : Cond := .code y_M_wanted b_M_wanted 3 none
theorem mc_M_wanted : MC y_M_wanted k_M_wanted b_M_wanted 3 none [] 2 := ⟨g_in (List.mem_of_getElem? (i := 960) (by decide +kernel)) (by decide +kernel), Or.inl ⟨rfl, rfl⟩, g_in (List.mem_of_getElem? (i := 62) (by decide +kernel)) (by decide +kernel), by decide, by decide +kernel⟩
theorem in_M_wanted : Cond.instanceMethod y_M_wanted ∈ g_ws := g_in (List.mem_of_getElem? (i := 959) (by decide +kernel)) (by decide +kernel)
theorem se_M_wanted : Cond.selects cR6 y_M_wanted y_M_wanted ∈ g_ws := g_in (List.mem_of_getElem? (i := 46) (by decide +kernel)) (by decide +kernel)
theorem d_M_wanted_0 : decode b_M_wanted 0 = .ok (.aload_n 0, 1) := by decide +kernel
theorem d_M_wanted_1 : decode b_M_wanted 1 = .ok (.getfield 87, 3) := by decide +kernel
theorem d_M_wanted_4 : decode b_M_wanted 4 = .ok (.aload_n 0, 1) := by decide +kernel
theorem d_M_wanted_5 : decode b_M_wanted 5 = .ok (.getfield 187, 3) := by decide +kernel
theorem d_M_wanted_8 : decode b_M_wanted 8 = .ok (.iload_n 1, 1) := by decide +kernel
theorem d_M_wanted_9 : decode b_M_wanted 9 = .ok (.iastore, 1) := by decide +kernel
theorem d_M_wanted_10 : decode b_M_wanted 10 = .ok (.aload_n 0, 1) := by decide +kernel
theorem d_M_wanted_11 : decode b_M_wanted 11 = .ok (.getfield 90, 3) := by decide +kernel
theorem d_M_wanted_14 : decode b_M_wanted 14 = .ok (.aload_n 0, 1) := by decide +kernel
theorem d_M_wanted_15 : decode b_M_wanted 15 = .ok (.getfield 187, 3) := by decide +kernel
theorem d_M_wanted_18 : decode b_M_wanted 18 = .ok (.iload_n 2, 1) := by decide +kernel
theorem d_M_wanted_19 : decode b_M_wanted 19 = .ok (.iastore, 1) := by decide +kernel
theorem d_M_wanted_20 : decode b_M_wanted 20 = .ok (.aload_n 0, 1) := by decide +kernel
theorem d_M_wanted_21 : decode b_M_wanted 21 = .ok (.dup, 1) := by decide +kernel
theorem d_M_wanted_22 : decode b_M_wanted 22 = .ok (.getfield 187, 3) := by decide +kernel
theorem d_M_wanted_25 : decode b_M_wanted 25 = .ok (.iconst 1, 1) := by decide +kernel
theorem d_M_wanted_26 : decode b_M_wanted 26 = .ok (.iadd, 1) := by decide +kernel
theorem d_M_wanted_27 : decode b_M_wanted 27 = .ok (.putfield 187, 3) := by decide +kernel
theorem d_M_wanted_30 : decode b_M_wanted 30 = .ok (.return_, 1) := by decide +kernel
def y_M_wanting : MethodName := ⟨cR6, "wanting", "(II)I"⟩
abbrev b_M_wanting : ByteArray := prog_8_method_32_code
abbrev k_M_wanting : Cond := .code y_M_wanting b_M_wanting 3 (some .int)
theorem mc_M_wanting : MC y_M_wanting k_M_wanting b_M_wanting 3 (some .int) [] 2 := ⟨g_in (List.mem_of_getElem? (i := 984) (by decide +kernel)) (by decide +kernel), Or.inl ⟨rfl, rfl⟩, g_in (List.mem_of_getElem? (i := 62) (by decide +kernel)) (by decide +kernel), by decide, by decide +kernel⟩
theorem in_M_wanting : Cond.instanceMethod y_M_wanting ∈ g_ws := g_in (List.mem_of_getElem? (i := 982) (by decide +kernel)) (by decide +kernel)
theorem se_M_wanting : Cond.selects cR6 y_M_wanting y_M_wanting ∈ g_ws := g_in (List.mem_of_getElem? (i := 983) (by decide +kernel)) (by decide +kernel)
theorem d_M_wanting_0 : decode b_M_wanting 0 = .ok (.aload_n 0, 1) := by decide +kernel
theorem d_M_wanting_1 : decode b_M_wanting 1 = .ok (.iload_n 1, 1) := by decide +kernel
theorem d_M_wanting_2 : decode b_M_wanting 2 = .ok (.iconst 0, 1) := by decide +kernel
theorem d_M_wanting_3 : decode b_M_wanting 3 = .ok (.aload_n 0, 1) := by decide +kernel
theorem d_M_wanting_4 : decode b_M_wanting 4 = .ok (.getfield 187, 3) := by decide +kernel
theorem d_M_wanting_7 : decode b_M_wanting 7 = .ok (.iconst 1, 1) := by decide +kernel
theorem d_M_wanting_8 : decode b_M_wanting 8 = .ok (.isub, 1) := by decide +kernel
theorem d_M_wanting_9 : decode b_M_wanting 9 = .ok (.invokestatic 102, 3) := by decide +kernel
theorem d_M_wanting_12 : decode b_M_wanting 12 = .ok (.ifCond .eq 16, 3) := by decide +kernel
theorem d_M_wanting_15 : decode b_M_wanting 15 = .ok (.iload_n 2, 1) := by decide +kernel
theorem d_M_wanting_16 : decode b_M_wanting 16 = .ok (.iconst 0, 1) := by decide +kernel
theorem d_M_wanting_17 : decode b_M_wanting 17 = .ok (.iconst 1, 1) := by decide +kernel
theorem d_M_wanting_18 : decode b_M_wanting 18 = .ok (.invokestatic 102, 3) := by decide +kernel
theorem d_M_wanting_21 : decode b_M_wanting 21 = .ok (.ifCond .eq 7, 3) := by decide +kernel
theorem d_M_wanting_24 : decode b_M_wanting 24 = .ok (.iconst 1, 1) := by decide +kernel
theorem d_M_wanting_25 : decode b_M_wanting 25 = .ok (.goto 4, 3) := by decide +kernel
theorem d_M_wanting_28 : decode b_M_wanting 28 = .ok (.iconst 0, 1) := by decide +kernel
theorem d_M_wanting_29 : decode b_M_wanting 29 = .ok (.iconst 1, 1) := by decide +kernel
theorem d_M_wanting_30 : decode b_M_wanting 30 = .ok (.iconst 1, 1) := by decide +kernel
theorem d_M_wanting_31 : decode b_M_wanting 31 = .ok (.invokevirtual 109, 3) := by decide +kernel
theorem d_M_wanting_34 : decode b_M_wanting 34 = .ok (.ifCond .ne 5, 3) := by decide +kernel
theorem d_M_wanting_37 : decode b_M_wanting 37 = .ok (.iconst 0, 1) := by decide +kernel
theorem d_M_wanting_38 : decode b_M_wanting 38 = .ok (.ireturn, 1) := by decide +kernel
theorem d_M_wanting_39 : decode b_M_wanting 39 = .ok (.iload_n 2, 1) := by decide +kernel
theorem d_M_wanting_40 : decode b_M_wanting 40 = .ok (.ifCond .ne 12, 3) := by decide +kernel
theorem d_M_wanting_43 : decode b_M_wanting 43 = .ok (.aload_n 0, 1) := by decide +kernel
theorem d_M_wanting_44 : decode b_M_wanting 44 = .ok (.getfield 87, 3) := by decide +kernel
theorem d_M_wanting_47 : decode b_M_wanting 47 = .ok (.iload_n 1, 1) := by decide +kernel
theorem d_M_wanting_48 : decode b_M_wanting 48 = .ok (.iaload, 1) := by decide +kernel
theorem d_M_wanting_49 : decode b_M_wanting 49 = .ok (.goto 9, 3) := by decide +kernel
theorem d_M_wanting_52 : decode b_M_wanting 52 = .ok (.aload_n 0, 1) := by decide +kernel
theorem d_M_wanting_53 : decode b_M_wanting 53 = .ok (.getfield 90, 3) := by decide +kernel
theorem d_M_wanting_56 : decode b_M_wanting 56 = .ok (.iload_n 1, 1) := by decide +kernel
theorem d_M_wanting_57 : decode b_M_wanting 57 = .ok (.iaload, 1) := by decide +kernel
theorem d_M_wanting_58 : decode b_M_wanting 58 = .ok (.ireturn, 1) := by decide +kernel
def y_M_opened : MethodName := ⟨cR6, "opened", "(I)I"⟩
abbrev b_M_opened : ByteArray := prog_8_method_33_code
abbrev k_M_opened : Cond := .code y_M_opened b_M_opened 4 (some .int)
theorem mc_M_opened : MC y_M_opened k_M_opened b_M_opened 4 (some .int) [] 1 := ⟨g_in (List.mem_of_getElem? (i := 999) (by decide +kernel)) (by decide +kernel), Or.inl ⟨rfl, rfl⟩, g_in (List.mem_of_getElem? (i := 62) (by decide +kernel)) (by decide +kernel), by decide, by decide +kernel⟩
theorem in_M_opened : Cond.instanceMethod y_M_opened ∈ g_ws := g_in (List.mem_of_getElem? (i := 998) (by decide +kernel)) (by decide +kernel)
theorem se_M_opened : Cond.selects cR6 y_M_opened y_M_opened ∈ g_ws := g_in (List.mem_of_getElem? (i := 53) (by decide +kernel)) (by decide +kernel)
theorem d_M_opened_0 : decode b_M_opened 0 = .ok (.iconst 0, 1) := by decide +kernel
theorem d_M_opened_1 : decode b_M_opened 1 = .ok (.istore_n 2, 1) := by decide +kernel
theorem d_M_opened_2 : decode b_M_opened 2 = .ok (.iconst 0, 1) := by decide +kernel
theorem d_M_opened_3 : decode b_M_opened 3 = .ok (.istore_n 3, 1) := by decide +kernel
theorem d_M_opened_4 : decode b_M_opened 4 = .ok (.iload_n 3, 1) := by decide +kernel
theorem d_M_opened_5 : decode b_M_opened 5 = .ok (.bipush 20, 2) := by decide +kernel
theorem d_M_opened_7 : decode b_M_opened 7 = .ok (.if_icmp .ge 26, 3) := by decide +kernel
theorem d_M_opened_10 : decode b_M_opened 10 = .ok (.aload_n 0, 1) := by decide +kernel
theorem d_M_opened_11 : decode b_M_opened 11 = .ok (.getfield 38, 3) := by decide +kernel
theorem d_M_opened_14 : decode b_M_opened 14 = .ok (.bipush 20, 2) := by decide +kernel
theorem d_M_opened_16 : decode b_M_opened 16 = .ok (.iload_n 1, 1) := by decide +kernel
theorem d_M_opened_17 : decode b_M_opened 17 = .ok (.imul, 1) := by decide +kernel
theorem d_M_opened_18 : decode b_M_opened 18 = .ok (.iload_n 3, 1) := by decide +kernel
theorem d_M_opened_19 : decode b_M_opened 19 = .ok (.iadd, 1) := by decide +kernel
theorem d_M_opened_20 : decode b_M_opened 20 = .ok (.baload, 1) := by decide +kernel
theorem d_M_opened_21 : decode b_M_opened 21 = .ok (.ifCond .eq 6, 3) := by decide +kernel
theorem d_M_opened_24 : decode b_M_opened 24 = .ok (.iinc 2 1, 3) := by decide +kernel
theorem d_M_opened_27 : decode b_M_opened 27 = .ok (.iinc 3 1, 3) := by decide +kernel
theorem d_M_opened_30 : decode b_M_opened 30 = .ok (.goto (-26), 3) := by decide +kernel
theorem d_M_opened_33 : decode b_M_opened 33 = .ok (.iload_n 2, 1) := by decide +kernel
theorem d_M_opened_34 : decode b_M_opened 34 = .ok (.ireturn, 1) := by decide +kernel
def y_M_canSign : MethodName := ⟨cR6, "canSign", "(II)Z"⟩
abbrev b_M_canSign : ByteArray := prog_8_method_34_code
abbrev k_M_canSign : Cond := .code y_M_canSign b_M_canSign 4 (some .boolean)
theorem mc_M_canSign : MC y_M_canSign k_M_canSign b_M_canSign 4 (some .boolean) [] 2 := ⟨g_in (List.mem_of_getElem? (i := 995) (by decide +kernel)) (by decide +kernel), Or.inl ⟨rfl, rfl⟩, g_in (List.mem_of_getElem? (i := 62) (by decide +kernel)) (by decide +kernel), by decide, by decide +kernel⟩
theorem in_M_canSign : Cond.instanceMethod y_M_canSign ∈ g_ws := g_in (List.mem_of_getElem? (i := 994) (by decide +kernel)) (by decide +kernel)
theorem se_M_canSign : Cond.selects cR6 y_M_canSign y_M_canSign ∈ g_ws := g_in (List.mem_of_getElem? (i := 52) (by decide +kernel)) (by decide +kernel)
theorem d_M_canSign_0 : decode b_M_canSign 0 = .ok (.aload_n 0, 1) := by decide +kernel
theorem d_M_canSign_1 : decode b_M_canSign 1 = .ok (.getfield 19, 3) := by decide +kernel
theorem d_M_canSign_4 : decode b_M_canSign 4 = .ok (.iload_n 1, 1) := by decide +kernel
theorem d_M_canSign_5 : decode b_M_canSign 5 = .ok (.iaload, 1) := by decide +kernel
theorem d_M_canSign_6 : decode b_M_canSign 6 = .ok (.ifCond .gt 21, 3) := by decide +kernel
theorem d_M_canSign_9 : decode b_M_canSign 9 = .ok (.aload_n 0, 1) := by decide +kernel
theorem d_M_canSign_10 : decode b_M_canSign 10 = .ok (.iload_n 1, 1) := by decide +kernel
theorem d_M_canSign_11 : decode b_M_canSign 11 = .ok (.invokevirtual 197, 3) := by decide +kernel
theorem d_M_canSign_14 : decode b_M_canSign 14 = .ok (.ifCond .gt 13, 3) := by decide +kernel
theorem d_M_canSign_17 : decode b_M_canSign 17 = .ok (.aload_n 0, 1) := by decide +kernel
theorem d_M_canSign_18 : decode b_M_canSign 18 = .ok (.getfield 25, 3) := by decide +kernel
theorem d_M_canSign_21 : decode b_M_canSign 21 = .ok (.iload_n 1, 1) := by decide +kernel
theorem d_M_canSign_22 : decode b_M_canSign 22 = .ok (.iaload, 1) := by decide +kernel
theorem d_M_canSign_23 : decode b_M_canSign 23 = .ok (.iconst 3, 1) := by decide +kernel
theorem d_M_canSign_24 : decode b_M_canSign 24 = .ok (.if_icmp .ne 5, 3) := by decide +kernel
theorem d_M_canSign_27 : decode b_M_canSign 27 = .ok (.iconst 0, 1) := by decide +kernel
theorem d_M_canSign_28 : decode b_M_canSign 28 = .ok (.ireturn, 1) := by decide +kernel
theorem d_M_canSign_29 : decode b_M_canSign 29 = .ok (.iconst 0, 1) := by decide +kernel
theorem d_M_canSign_30 : decode b_M_canSign 30 = .ok (.istore_n 3, 1) := by decide +kernel
theorem d_M_canSign_31 : decode b_M_canSign 31 = .ok (.iload_n 3, 1) := by decide +kernel
theorem d_M_canSign_32 : decode b_M_canSign 32 = .ok (.aload_n 0, 1) := by decide +kernel
theorem d_M_canSign_33 : decode b_M_canSign 33 = .ok (.getfield 25, 3) := by decide +kernel
theorem d_M_canSign_36 : decode b_M_canSign 36 = .ok (.iload_n 1, 1) := by decide +kernel
theorem d_M_canSign_37 : decode b_M_canSign 37 = .ok (.iaload, 1) := by decide +kernel
theorem d_M_canSign_38 : decode b_M_canSign 38 = .ok (.if_icmp .ge 25, 3) := by decide +kernel
theorem d_M_canSign_41 : decode b_M_canSign 41 = .ok (.aload_n 0, 1) := by decide +kernel
theorem d_M_canSign_42 : decode b_M_canSign 42 = .ok (.getfield 28, 3) := by decide +kernel
theorem d_M_canSign_45 : decode b_M_canSign 45 = .ok (.iconst 3, 1) := by decide +kernel
theorem d_M_canSign_46 : decode b_M_canSign 46 = .ok (.iload_n 1, 1) := by decide +kernel
theorem d_M_canSign_47 : decode b_M_canSign 47 = .ok (.imul, 1) := by decide +kernel
theorem d_M_canSign_48 : decode b_M_canSign 48 = .ok (.iload_n 3, 1) := by decide +kernel
theorem d_M_canSign_49 : decode b_M_canSign 49 = .ok (.iadd, 1) := by decide +kernel
theorem d_M_canSign_50 : decode b_M_canSign 50 = .ok (.iaload, 1) := by decide +kernel
theorem d_M_canSign_51 : decode b_M_canSign 51 = .ok (.iload_n 2, 1) := by decide +kernel
theorem d_M_canSign_52 : decode b_M_canSign 52 = .ok (.if_icmp .ne 5, 3) := by decide +kernel
theorem d_M_canSign_55 : decode b_M_canSign 55 = .ok (.iconst 0, 1) := by decide +kernel
theorem d_M_canSign_56 : decode b_M_canSign 56 = .ok (.ireturn, 1) := by decide +kernel
theorem d_M_canSign_57 : decode b_M_canSign 57 = .ok (.iinc 3 1, 3) := by decide +kernel
theorem d_M_canSign_60 : decode b_M_canSign 60 = .ok (.goto (-29), 3) := by decide +kernel
theorem d_M_canSign_63 : decode b_M_canSign 63 = .ok (.iconst 0, 1) := by decide +kernel
theorem d_M_canSign_64 : decode b_M_canSign 64 = .ok (.istore_n 3, 1) := by decide +kernel
theorem d_M_canSign_65 : decode b_M_canSign 65 = .ok (.iload_n 3, 1) := by decide +kernel
theorem d_M_canSign_66 : decode b_M_canSign 66 = .ok (.bipush 20, 2) := by decide +kernel
theorem d_M_canSign_68 : decode b_M_canSign 68 = .ok (.if_icmp .ge 44, 3) := by decide +kernel
theorem d_M_canSign_71 : decode b_M_canSign 71 = .ok (.aload_n 0, 1) := by decide +kernel
theorem d_M_canSign_72 : decode b_M_canSign 72 = .ok (.getfield 44, 3) := by decide +kernel
theorem d_M_canSign_75 : decode b_M_canSign 75 = .ok (.bipush 20, 2) := by decide +kernel
theorem d_M_canSign_77 : decode b_M_canSign 77 = .ok (.aload_n 0, 1) := by decide +kernel
theorem d_M_canSign_78 : decode b_M_canSign 78 = .ok (.getfield 13, 3) := by decide +kernel
theorem d_M_canSign_81 : decode b_M_canSign 81 = .ok (.iload_n 1, 1) := by decide +kernel
theorem d_M_canSign_82 : decode b_M_canSign 82 = .ok (.iaload, 1) := by decide +kernel
theorem d_M_canSign_83 : decode b_M_canSign 83 = .ok (.imul, 1) := by decide +kernel
theorem d_M_canSign_84 : decode b_M_canSign 84 = .ok (.iload_n 3, 1) := by decide +kernel
theorem d_M_canSign_85 : decode b_M_canSign 85 = .ok (.iadd, 1) := by decide +kernel
theorem d_M_canSign_86 : decode b_M_canSign 86 = .ok (.baload, 1) := by decide +kernel
theorem d_M_canSign_87 : decode b_M_canSign 87 = .ok (.ifCond .eq 19, 3) := by decide +kernel
theorem d_M_canSign_90 : decode b_M_canSign 90 = .ok (.aload_n 0, 1) := by decide +kernel
theorem d_M_canSign_91 : decode b_M_canSign 91 = .ok (.getfield 31, 3) := by decide +kernel
theorem d_M_canSign_94 : decode b_M_canSign 94 = .ok (.bipush 20, 2) := by decide +kernel
theorem d_M_canSign_96 : decode b_M_canSign 96 = .ok (.iload_n 1, 1) := by decide +kernel
theorem d_M_canSign_97 : decode b_M_canSign 97 = .ok (.imul, 1) := by decide +kernel
theorem d_M_canSign_98 : decode b_M_canSign 98 = .ok (.iload_n 3, 1) := by decide +kernel
theorem d_M_canSign_99 : decode b_M_canSign 99 = .ok (.iadd, 1) := by decide +kernel
theorem d_M_canSign_100 : decode b_M_canSign 100 = .ok (.baload, 1) := by decide +kernel
theorem d_M_canSign_101 : decode b_M_canSign 101 = .ok (.ifCond .ne 5, 3) := by decide +kernel
theorem d_M_canSign_104 : decode b_M_canSign 104 = .ok (.iconst 0, 1) := by decide +kernel
theorem d_M_canSign_105 : decode b_M_canSign 105 = .ok (.ireturn, 1) := by decide +kernel
theorem d_M_canSign_106 : decode b_M_canSign 106 = .ok (.iinc 3 1, 3) := by decide +kernel
theorem d_M_canSign_109 : decode b_M_canSign 109 = .ok (.goto (-44), 3) := by decide +kernel
theorem d_M_canSign_112 : decode b_M_canSign 112 = .ok (.iconst 0, 1) := by decide +kernel
theorem d_M_canSign_113 : decode b_M_canSign 113 = .ok (.istore_n 3, 1) := by decide +kernel
theorem d_M_canSign_114 : decode b_M_canSign 114 = .ok (.iload_n 3, 1) := by decide +kernel
theorem d_M_canSign_115 : decode b_M_canSign 115 = .ok (.aload_n 0, 1) := by decide +kernel
theorem d_M_canSign_116 : decode b_M_canSign 116 = .ok (.getfield 166, 3) := by decide +kernel
theorem d_M_canSign_119 : decode b_M_canSign 119 = .ok (.if_icmp .ge 20, 3) := by decide +kernel
theorem d_M_canSign_122 : decode b_M_canSign 122 = .ok (.aload_n 0, 1) := by decide +kernel
theorem d_M_canSign_123 : decode b_M_canSign 123 = .ok (.iload_n 1, 1) := by decide +kernel
theorem d_M_canSign_124 : decode b_M_canSign 124 = .ok (.iload_n 3, 1) := by decide +kernel
theorem d_M_canSign_125 : decode b_M_canSign 125 = .ok (.invokevirtual 194, 3) := by decide +kernel
theorem d_M_canSign_128 : decode b_M_canSign 128 = .ok (.ifCond .le 5, 3) := by decide +kernel
theorem d_M_canSign_131 : decode b_M_canSign 131 = .ok (.iconst 0, 1) := by decide +kernel
theorem d_M_canSign_132 : decode b_M_canSign 132 = .ok (.ireturn, 1) := by decide +kernel
theorem d_M_canSign_133 : decode b_M_canSign 133 = .ok (.iinc 3 1, 3) := by decide +kernel
theorem d_M_canSign_136 : decode b_M_canSign 136 = .ok (.goto (-22), 3) := by decide +kernel
theorem d_M_canSign_139 : decode b_M_canSign 139 = .ok (.iconst 1, 1) := by decide +kernel
theorem d_M_canSign_140 : decode b_M_canSign 140 = .ok (.ireturn, 1) := by decide +kernel
def y_M_put : MethodName := ⟨cR6, "put", "(II)I"⟩
abbrev b_M_put : ByteArray := prog_8_method_35_code
abbrev k_M_put : Cond := .code y_M_put b_M_put 4 (some .int)
theorem mc_M_put : MC y_M_put k_M_put b_M_put 4 (some .int) [] 2 := ⟨g_in (List.mem_of_getElem? (i := 988) (by decide +kernel)) (by decide +kernel), Or.inl ⟨rfl, rfl⟩, g_in (List.mem_of_getElem? (i := 62) (by decide +kernel)) (by decide +kernel), by decide, by decide +kernel⟩
theorem in_M_put : Cond.instanceMethod y_M_put ∈ g_ws := g_in (List.mem_of_getElem? (i := 986) (by decide +kernel)) (by decide +kernel)
theorem se_M_put : Cond.selects cR6 y_M_put y_M_put ∈ g_ws := g_in (List.mem_of_getElem? (i := 987) (by decide +kernel)) (by decide +kernel)
theorem d_M_put_0 : decode b_M_put 0 = .ok (.aload_n 0, 1) := by decide +kernel
theorem d_M_put_1 : decode b_M_put 1 = .ok (.iload_n 1, 1) := by decide +kernel
theorem d_M_put_2 : decode b_M_put 2 = .ok (.invokevirtual 121, 3) := by decide +kernel
theorem d_M_put_5 : decode b_M_put 5 = .ok (.ifCond .eq 14, 3) := by decide +kernel
theorem d_M_put_8 : decode b_M_put 8 = .ok (.iload_n 2, 1) := by decide +kernel
theorem d_M_put_9 : decode b_M_put 9 = .ok (.invokestatic 200, 3) := by decide +kernel
theorem d_M_put_12 : decode b_M_put 12 = .ok (.ifCond .eq 7, 3) := by decide +kernel
theorem d_M_put_15 : decode b_M_put 15 = .ok (.iconst 1, 1) := by decide +kernel
theorem d_M_put_16 : decode b_M_put 16 = .ok (.goto 4, 3) := by decide +kernel
theorem d_M_put_19 : decode b_M_put 19 = .ok (.iconst 0, 1) := by decide +kernel
theorem d_M_put_20 : decode b_M_put 20 = .ok (.istore_n 3, 1) := by decide +kernel
theorem d_M_put_21 : decode b_M_put 21 = .ok (.aload_n 0, 1) := by decide +kernel
theorem d_M_put_22 : decode b_M_put 22 = .ok (.iload_n 3, 1) := by decide +kernel
theorem d_M_put_23 : decode b_M_put 23 = .ok (.iload_n 3, 1) := by decide +kernel
theorem d_M_put_24 : decode b_M_put 24 = .ok (.ifCond .eq 16, 3) := by decide +kernel
theorem d_M_put_27 : decode b_M_put 27 = .ok (.aload_n 0, 1) := by decide +kernel
theorem d_M_put_28 : decode b_M_put 28 = .ok (.iload_n 1, 1) := by decide +kernel
theorem d_M_put_29 : decode b_M_put 29 = .ok (.iload_n 2, 1) := by decide +kernel
theorem d_M_put_30 : decode b_M_put 30 = .ok (.invokevirtual 203, 3) := by decide +kernel
theorem d_M_put_33 : decode b_M_put 33 = .ok (.ifCond .eq 7, 3) := by decide +kernel
theorem d_M_put_36 : decode b_M_put 36 = .ok (.iconst 1, 1) := by decide +kernel
theorem d_M_put_37 : decode b_M_put 37 = .ok (.goto 4, 3) := by decide +kernel
theorem d_M_put_40 : decode b_M_put 40 = .ok (.iconst 0, 1) := by decide +kernel
theorem d_M_put_41 : decode b_M_put 41 = .ok (.iconst 1, 1) := by decide +kernel
theorem d_M_put_42 : decode b_M_put 42 = .ok (.invokevirtual 109, 3) := by decide +kernel
theorem d_M_put_45 : decode b_M_put 45 = .ok (.ifCond .ne 5, 3) := by decide +kernel
theorem d_M_put_48 : decode b_M_put 48 = .ok (.iconst 0, 1) := by decide +kernel
theorem d_M_put_49 : decode b_M_put 49 = .ok (.ireturn, 1) := by decide +kernel
theorem d_M_put_50 : decode b_M_put 50 = .ok (.aload_n 0, 1) := by decide +kernel
theorem d_M_put_51 : decode b_M_put 51 = .ok (.getfield 28, 3) := by decide +kernel
theorem d_M_put_54 : decode b_M_put 54 = .ok (.iconst 3, 1) := by decide +kernel
theorem d_M_put_55 : decode b_M_put 55 = .ok (.iload_n 1, 1) := by decide +kernel
theorem d_M_put_56 : decode b_M_put 56 = .ok (.imul, 1) := by decide +kernel
theorem d_M_put_57 : decode b_M_put 57 = .ok (.aload_n 0, 1) := by decide +kernel
theorem d_M_put_58 : decode b_M_put 58 = .ok (.getfield 25, 3) := by decide +kernel
theorem d_M_put_61 : decode b_M_put 61 = .ok (.iload_n 1, 1) := by decide +kernel
theorem d_M_put_62 : decode b_M_put 62 = .ok (.iaload, 1) := by decide +kernel
theorem d_M_put_63 : decode b_M_put 63 = .ok (.iadd, 1) := by decide +kernel
theorem d_M_put_64 : decode b_M_put 64 = .ok (.iload_n 2, 1) := by decide +kernel
theorem d_M_put_65 : decode b_M_put 65 = .ok (.iastore, 1) := by decide +kernel
theorem d_M_put_66 : decode b_M_put 66 = .ok (.aload_n 0, 1) := by decide +kernel
theorem d_M_put_67 : decode b_M_put 67 = .ok (.getfield 25, 3) := by decide +kernel
theorem d_M_put_70 : decode b_M_put 70 = .ok (.iload_n 1, 1) := by decide +kernel
theorem d_M_put_71 : decode b_M_put 71 = .ok (.dup2, 1) := by decide +kernel
theorem d_M_put_72 : decode b_M_put 72 = .ok (.iaload, 1) := by decide +kernel
theorem d_M_put_73 : decode b_M_put 73 = .ok (.iconst 1, 1) := by decide +kernel
theorem d_M_put_74 : decode b_M_put 74 = .ok (.iadd, 1) := by decide +kernel
theorem d_M_put_75 : decode b_M_put 75 = .ok (.iastore, 1) := by decide +kernel
theorem d_M_put_76 : decode b_M_put 76 = .ok (.aload_n 0, 1) := by decide +kernel
theorem d_M_put_77 : decode b_M_put 77 = .ok (.getfield 25, 3) := by decide +kernel
theorem d_M_put_80 : decode b_M_put 80 = .ok (.iload_n 1, 1) := by decide +kernel
theorem d_M_put_81 : decode b_M_put 81 = .ok (.iaload, 1) := by decide +kernel
theorem d_M_put_82 : decode b_M_put 82 = .ok (.ireturn, 1) := by decide +kernel
def y_M_edition : MethodName := ⟨cR6, "edition", "(I)I"⟩
abbrev b_M_edition : ByteArray := prog_8_method_36_code
abbrev k_M_edition : Cond := .code y_M_edition b_M_edition 4 (some .int)
theorem mc_M_edition : MC y_M_edition k_M_edition b_M_edition 4 (some .int) [] 1 := ⟨g_in (List.mem_of_getElem? (i := 1003) (by decide +kernel)) (by decide +kernel), Or.inl ⟨rfl, rfl⟩, g_in (List.mem_of_getElem? (i := 62) (by decide +kernel)) (by decide +kernel), by decide, by decide +kernel⟩
theorem in_M_edition : Cond.instanceMethod y_M_edition ∈ g_ws := g_in (List.mem_of_getElem? (i := 1001) (by decide +kernel)) (by decide +kernel)
theorem se_M_edition : Cond.selects cR6 y_M_edition y_M_edition ∈ g_ws := g_in (List.mem_of_getElem? (i := 1002) (by decide +kernel)) (by decide +kernel)
theorem d_M_edition_0 : decode b_M_edition 0 = .ok (.aload_n 0, 1) := by decide +kernel
theorem d_M_edition_1 : decode b_M_edition 1 = .ok (.aload_n 0, 1) := by decide +kernel
theorem d_M_edition_2 : decode b_M_edition 2 = .ok (.iload_n 1, 1) := by decide +kernel
theorem d_M_edition_3 : decode b_M_edition 3 = .ok (.invokevirtual 121, 3) := by decide +kernel
theorem d_M_edition_6 : decode b_M_edition 6 = .ok (.aload_n 0, 1) := by decide +kernel
theorem d_M_edition_7 : decode b_M_edition 7 = .ok (.iload_n 1, 1) := by decide +kernel
theorem d_M_edition_8 : decode b_M_edition 8 = .ok (.invokevirtual 121, 3) := by decide +kernel
theorem d_M_edition_11 : decode b_M_edition 11 = .ok (.ifCond .eq 17, 3) := by decide +kernel
theorem d_M_edition_14 : decode b_M_edition 14 = .ok (.aload_n 0, 1) := by decide +kernel
theorem d_M_edition_15 : decode b_M_edition 15 = .ok (.getfield 25, 3) := by decide +kernel
theorem d_M_edition_18 : decode b_M_edition 18 = .ok (.iload_n 1, 1) := by decide +kernel
theorem d_M_edition_19 : decode b_M_edition 19 = .ok (.iaload, 1) := by decide +kernel
theorem d_M_edition_20 : decode b_M_edition 20 = .ok (.iconst 3, 1) := by decide +kernel
theorem d_M_edition_21 : decode b_M_edition 21 = .ok (.if_icmp .ne 7, 3) := by decide +kernel
theorem d_M_edition_24 : decode b_M_edition 24 = .ok (.iconst 1, 1) := by decide +kernel
theorem d_M_edition_25 : decode b_M_edition 25 = .ok (.goto 4, 3) := by decide +kernel
theorem d_M_edition_28 : decode b_M_edition 28 = .ok (.iconst 0, 1) := by decide +kernel
theorem d_M_edition_29 : decode b_M_edition 29 = .ok (.aload_n 0, 1) := by decide +kernel
theorem d_M_edition_30 : decode b_M_edition 30 = .ok (.getfield 99, 3) := by decide +kernel
theorem d_M_edition_33 : decode b_M_edition 33 = .ok (.bipush 30, 2) := by decide +kernel
theorem d_M_edition_35 : decode b_M_edition 35 = .ok (.if_icmp .ge 7, 3) := by decide +kernel
theorem d_M_edition_38 : decode b_M_edition 38 = .ok (.iconst 1, 1) := by decide +kernel
theorem d_M_edition_39 : decode b_M_edition 39 = .ok (.goto 4, 3) := by decide +kernel
theorem d_M_edition_42 : decode b_M_edition 42 = .ok (.iconst 0, 1) := by decide +kernel
theorem d_M_edition_43 : decode b_M_edition 43 = .ok (.invokevirtual 109, 3) := by decide +kernel
theorem d_M_edition_46 : decode b_M_edition 46 = .ok (.ifCond .ne 5, 3) := by decide +kernel
theorem d_M_edition_49 : decode b_M_edition 49 = .ok (.iconst 0, 1) := by decide +kernel
theorem d_M_edition_50 : decode b_M_edition 50 = .ok (.ireturn, 1) := by decide +kernel
theorem d_M_edition_51 : decode b_M_edition 51 = .ok (.aload_n 0, 1) := by decide +kernel
theorem d_M_edition_52 : decode b_M_edition 52 = .ok (.aload_n 0, 1) := by decide +kernel
theorem d_M_edition_53 : decode b_M_edition 53 = .ok (.getfield 7, 3) := by decide +kernel
theorem d_M_edition_56 : decode b_M_edition 56 = .ok (.iload_n 1, 1) := by decide +kernel
theorem d_M_edition_57 : decode b_M_edition 57 = .ok (.iaload, 1) := by decide +kernel
theorem d_M_edition_58 : decode b_M_edition 58 = .ok (.aload_n 0, 1) := by decide +kernel
theorem d_M_edition_59 : decode b_M_edition 59 = .ok (.getfield 13, 3) := by decide +kernel
theorem d_M_edition_62 : decode b_M_edition 62 = .ok (.iload_n 1, 1) := by decide +kernel
theorem d_M_edition_63 : decode b_M_edition 63 = .ok (.iaload, 1) := by decide +kernel
theorem d_M_edition_64 : decode b_M_edition 64 = .ok (.iload_n 1, 1) := by decide +kernel
theorem d_M_edition_65 : decode b_M_edition 65 = .ok (.invokevirtual 113, 3) := by decide +kernel
theorem d_M_edition_68 : decode b_M_edition 68 = .ok (.istore_n 2, 1) := by decide +kernel
theorem d_M_edition_69 : decode b_M_edition 69 = .ok (.iconst 0, 1) := by decide +kernel
theorem d_M_edition_70 : decode b_M_edition 70 = .ok (.istore_n 3, 1) := by decide +kernel
theorem d_M_edition_71 : decode b_M_edition 71 = .ok (.iload_n 3, 1) := by decide +kernel
theorem d_M_edition_72 : decode b_M_edition 72 = .ok (.bipush 20, 2) := by decide +kernel
theorem d_M_edition_74 : decode b_M_edition 74 = .ok (.if_icmp .ge 75, 3) := by decide +kernel
theorem d_M_edition_77 : decode b_M_edition 77 = .ok (.aload_n 0, 1) := by decide +kernel
theorem d_M_edition_78 : decode b_M_edition 78 = .ok (.getfield 31, 3) := by decide +kernel
theorem d_M_edition_81 : decode b_M_edition 81 = .ok (.bipush 20, 2) := by decide +kernel
theorem d_M_edition_83 : decode b_M_edition 83 = .ok (.iload_n 2, 1) := by decide +kernel
theorem d_M_edition_84 : decode b_M_edition 84 = .ok (.imul, 1) := by decide +kernel
theorem d_M_edition_85 : decode b_M_edition 85 = .ok (.iload_n 3, 1) := by decide +kernel
theorem d_M_edition_86 : decode b_M_edition 86 = .ok (.iadd, 1) := by decide +kernel
theorem d_M_edition_87 : decode b_M_edition 87 = .ok (.aload_n 0, 1) := by decide +kernel
theorem d_M_edition_88 : decode b_M_edition 88 = .ok (.getfield 31, 3) := by decide +kernel
theorem d_M_edition_91 : decode b_M_edition 91 = .ok (.bipush 20, 2) := by decide +kernel
theorem d_M_edition_93 : decode b_M_edition 93 = .ok (.iload_n 1, 1) := by decide +kernel
theorem d_M_edition_94 : decode b_M_edition 94 = .ok (.imul, 1) := by decide +kernel
theorem d_M_edition_95 : decode b_M_edition 95 = .ok (.iload_n 3, 1) := by decide +kernel
theorem d_M_edition_96 : decode b_M_edition 96 = .ok (.iadd, 1) := by decide +kernel
theorem d_M_edition_97 : decode b_M_edition 97 = .ok (.baload, 1) := by decide +kernel
theorem d_M_edition_98 : decode b_M_edition 98 = .ok (.bastore, 1) := by decide +kernel
theorem d_M_edition_99 : decode b_M_edition 99 = .ok (.aload_n 0, 1) := by decide +kernel
theorem d_M_edition_100 : decode b_M_edition 100 = .ok (.getfield 35, 3) := by decide +kernel
theorem d_M_edition_103 : decode b_M_edition 103 = .ok (.bipush 20, 2) := by decide +kernel
theorem d_M_edition_105 : decode b_M_edition 105 = .ok (.iload_n 2, 1) := by decide +kernel
theorem d_M_edition_106 : decode b_M_edition 106 = .ok (.imul, 1) := by decide +kernel
theorem d_M_edition_107 : decode b_M_edition 107 = .ok (.iload_n 3, 1) := by decide +kernel
theorem d_M_edition_108 : decode b_M_edition 108 = .ok (.iadd, 1) := by decide +kernel
theorem d_M_edition_109 : decode b_M_edition 109 = .ok (.aload_n 0, 1) := by decide +kernel
theorem d_M_edition_110 : decode b_M_edition 110 = .ok (.getfield 35, 3) := by decide +kernel
theorem d_M_edition_113 : decode b_M_edition 113 = .ok (.bipush 20, 2) := by decide +kernel
theorem d_M_edition_115 : decode b_M_edition 115 = .ok (.iload_n 1, 1) := by decide +kernel
theorem d_M_edition_116 : decode b_M_edition 116 = .ok (.imul, 1) := by decide +kernel
theorem d_M_edition_117 : decode b_M_edition 117 = .ok (.iload_n 3, 1) := by decide +kernel
theorem d_M_edition_118 : decode b_M_edition 118 = .ok (.iadd, 1) := by decide +kernel
theorem d_M_edition_119 : decode b_M_edition 119 = .ok (.baload, 1) := by decide +kernel
theorem d_M_edition_120 : decode b_M_edition 120 = .ok (.bastore, 1) := by decide +kernel
theorem d_M_edition_121 : decode b_M_edition 121 = .ok (.aload_n 0, 1) := by decide +kernel
theorem d_M_edition_122 : decode b_M_edition 122 = .ok (.getfield 41, 3) := by decide +kernel
theorem d_M_edition_125 : decode b_M_edition 125 = .ok (.bipush 20, 2) := by decide +kernel
theorem d_M_edition_127 : decode b_M_edition 127 = .ok (.iload_n 2, 1) := by decide +kernel
theorem d_M_edition_128 : decode b_M_edition 128 = .ok (.imul, 1) := by decide +kernel
theorem d_M_edition_129 : decode b_M_edition 129 = .ok (.iload_n 3, 1) := by decide +kernel
theorem d_M_edition_130 : decode b_M_edition 130 = .ok (.iadd, 1) := by decide +kernel
theorem d_M_edition_131 : decode b_M_edition 131 = .ok (.aload_n 0, 1) := by decide +kernel
theorem d_M_edition_132 : decode b_M_edition 132 = .ok (.getfield 41, 3) := by decide +kernel
theorem d_M_edition_135 : decode b_M_edition 135 = .ok (.bipush 20, 2) := by decide +kernel
theorem d_M_edition_137 : decode b_M_edition 137 = .ok (.iload_n 1, 1) := by decide +kernel
theorem d_M_edition_138 : decode b_M_edition 138 = .ok (.imul, 1) := by decide +kernel
theorem d_M_edition_139 : decode b_M_edition 139 = .ok (.iload_n 3, 1) := by decide +kernel
theorem d_M_edition_140 : decode b_M_edition 140 = .ok (.iadd, 1) := by decide +kernel
theorem d_M_edition_141 : decode b_M_edition 141 = .ok (.iaload, 1) := by decide +kernel
theorem d_M_edition_142 : decode b_M_edition 142 = .ok (.iastore, 1) := by decide +kernel
theorem d_M_edition_143 : decode b_M_edition 143 = .ok (.iinc 3 1, 3) := by decide +kernel
theorem d_M_edition_146 : decode b_M_edition 146 = .ok (.goto (-75), 3) := by decide +kernel
theorem d_M_edition_149 : decode b_M_edition 149 = .ok (.iload_n 2, 1) := by decide +kernel
theorem d_M_edition_150 : decode b_M_edition 150 = .ok (.ireturn, 1) := by decide +kernel
def y_M_fault : MethodName := ⟨cR6, "fault", "(II)V"⟩
abbrev b_M_fault : ByteArray := prog_8_method_37_code
abbrev k_M_fault : Cond := .code y_M_fault b_M_fault 4 none
theorem mc_M_fault : MC y_M_fault k_M_fault b_M_fault 4 none [] 2 := ⟨g_in (List.mem_of_getElem? (i := 1007) (by decide +kernel)) (by decide +kernel), Or.inl ⟨rfl, rfl⟩, g_in (List.mem_of_getElem? (i := 62) (by decide +kernel)) (by decide +kernel), by decide, by decide +kernel⟩
theorem in_M_fault : Cond.instanceMethod y_M_fault ∈ g_ws := g_in (List.mem_of_getElem? (i := 1005) (by decide +kernel)) (by decide +kernel)
theorem se_M_fault : Cond.selects cR6 y_M_fault y_M_fault ∈ g_ws := g_in (List.mem_of_getElem? (i := 1006) (by decide +kernel)) (by decide +kernel)
theorem d_M_fault_0 : decode b_M_fault 0 = .ok (.aload_n 0, 1) := by decide +kernel
theorem d_M_fault_1 : decode b_M_fault 1 = .ok (.iload_n 1, 1) := by decide +kernel
theorem d_M_fault_2 : decode b_M_fault 2 = .ok (.invokevirtual 121, 3) := by decide +kernel
theorem d_M_fault_5 : decode b_M_fault 5 = .ok (.ifCond .eq 14, 3) := by decide +kernel
theorem d_M_fault_8 : decode b_M_fault 8 = .ok (.iload_n 2, 1) := by decide +kernel
theorem d_M_fault_9 : decode b_M_fault 9 = .ok (.invokestatic 117, 3) := by decide +kernel
theorem d_M_fault_12 : decode b_M_fault 12 = .ok (.ifCond .eq 7, 3) := by decide +kernel
theorem d_M_fault_15 : decode b_M_fault 15 = .ok (.iconst 1, 1) := by decide +kernel
theorem d_M_fault_16 : decode b_M_fault 16 = .ok (.goto 4, 3) := by decide +kernel
theorem d_M_fault_19 : decode b_M_fault 19 = .ok (.iconst 0, 1) := by decide +kernel
theorem d_M_fault_20 : decode b_M_fault 20 = .ok (.istore_n 3, 1) := by decide +kernel
theorem d_M_fault_21 : decode b_M_fault 21 = .ok (.aload_n 0, 1) := by decide +kernel
theorem d_M_fault_22 : decode b_M_fault 22 = .ok (.iload_n 3, 1) := by decide +kernel
theorem d_M_fault_23 : decode b_M_fault 23 = .ok (.iload_n 3, 1) := by decide +kernel
theorem d_M_fault_24 : decode b_M_fault 24 = .ok (.ifCond .eq 31, 3) := by decide +kernel
theorem d_M_fault_27 : decode b_M_fault 27 = .ok (.aload_n 0, 1) := by decide +kernel
theorem d_M_fault_28 : decode b_M_fault 28 = .ok (.getfield 25, 3) := by decide +kernel
theorem d_M_fault_31 : decode b_M_fault 31 = .ok (.iload_n 1, 1) := by decide +kernel
theorem d_M_fault_32 : decode b_M_fault 32 = .ok (.iaload, 1) := by decide +kernel
theorem d_M_fault_33 : decode b_M_fault 33 = .ok (.iconst 3, 1) := by decide +kernel
theorem d_M_fault_34 : decode b_M_fault 34 = .ok (.if_icmp .ne 21, 3) := by decide +kernel
theorem d_M_fault_37 : decode b_M_fault 37 = .ok (.aload_n 0, 1) := by decide +kernel
theorem d_M_fault_38 : decode b_M_fault 38 = .ok (.getfield 38, 3) := by decide +kernel
theorem d_M_fault_41 : decode b_M_fault 41 = .ok (.bipush 20, 2) := by decide +kernel
theorem d_M_fault_43 : decode b_M_fault 43 = .ok (.iload_n 1, 1) := by decide +kernel
theorem d_M_fault_44 : decode b_M_fault 44 = .ok (.imul, 1) := by decide +kernel
theorem d_M_fault_45 : decode b_M_fault 45 = .ok (.iload_n 2, 1) := by decide +kernel
theorem d_M_fault_46 : decode b_M_fault 46 = .ok (.iadd, 1) := by decide +kernel
theorem d_M_fault_47 : decode b_M_fault 47 = .ok (.baload, 1) := by decide +kernel
theorem d_M_fault_48 : decode b_M_fault 48 = .ok (.ifCond .ne 7, 3) := by decide +kernel
theorem d_M_fault_51 : decode b_M_fault 51 = .ok (.iconst 1, 1) := by decide +kernel
theorem d_M_fault_52 : decode b_M_fault 52 = .ok (.goto 4, 3) := by decide +kernel
theorem d_M_fault_55 : decode b_M_fault 55 = .ok (.iconst 0, 1) := by decide +kernel
theorem d_M_fault_56 : decode b_M_fault 56 = .ok (.iconst 1, 1) := by decide +kernel
theorem d_M_fault_57 : decode b_M_fault 57 = .ok (.invokevirtual 109, 3) := by decide +kernel
theorem d_M_fault_60 : decode b_M_fault 60 = .ok (.ifCond .eq 15, 3) := by decide +kernel
theorem d_M_fault_63 : decode b_M_fault 63 = .ok (.aload_n 0, 1) := by decide +kernel
theorem d_M_fault_64 : decode b_M_fault 64 = .ok (.getfield 38, 3) := by decide +kernel
theorem d_M_fault_67 : decode b_M_fault 67 = .ok (.bipush 20, 2) := by decide +kernel
theorem d_M_fault_69 : decode b_M_fault 69 = .ok (.iload_n 1, 1) := by decide +kernel
theorem d_M_fault_70 : decode b_M_fault 70 = .ok (.imul, 1) := by decide +kernel
theorem d_M_fault_71 : decode b_M_fault 71 = .ok (.iload_n 2, 1) := by decide +kernel
theorem d_M_fault_72 : decode b_M_fault 72 = .ok (.iadd, 1) := by decide +kernel
theorem d_M_fault_73 : decode b_M_fault 73 = .ok (.iconst 1, 1) := by decide +kernel
theorem d_M_fault_74 : decode b_M_fault 74 = .ok (.bastore, 1) := by decide +kernel
theorem d_M_fault_75 : decode b_M_fault 75 = .ok (.return_, 1) := by decide +kernel
def y_M_hide : MethodName := ⟨cR6, "hide", "(IIZ)V"⟩
abbrev b_M_hide : ByteArray := prog_8_method_38_code
abbrev k_M_hide : Cond := .code y_M_hide b_M_hide 4 none
theorem mc_M_hide : MC y_M_hide k_M_hide b_M_hide 4 none [] 3 := ⟨g_in (List.mem_of_getElem? (i := 1011) (by decide +kernel)) (by decide +kernel), Or.inl ⟨rfl, rfl⟩, g_in (List.mem_of_getElem? (i := 62) (by decide +kernel)) (by decide +kernel), by decide, by decide +kernel⟩
theorem in_M_hide : Cond.instanceMethod y_M_hide ∈ g_ws := g_in (List.mem_of_getElem? (i := 1009) (by decide +kernel)) (by decide +kernel)
theorem se_M_hide : Cond.selects cR6 y_M_hide y_M_hide ∈ g_ws := g_in (List.mem_of_getElem? (i := 1010) (by decide +kernel)) (by decide +kernel)
theorem d_M_hide_0 : decode b_M_hide 0 = .ok (.aload_n 0, 1) := by decide +kernel
theorem d_M_hide_1 : decode b_M_hide 1 = .ok (.iload_n 1, 1) := by decide +kernel
theorem d_M_hide_2 : decode b_M_hide 2 = .ok (.invokestatic 117, 3) := by decide +kernel
theorem d_M_hide_5 : decode b_M_hide 5 = .ok (.ifCond .eq 14, 3) := by decide +kernel
theorem d_M_hide_8 : decode b_M_hide 8 = .ok (.iload_n 2, 1) := by decide +kernel
theorem d_M_hide_9 : decode b_M_hide 9 = .ok (.invokestatic 200, 3) := by decide +kernel
theorem d_M_hide_12 : decode b_M_hide 12 = .ok (.ifCond .eq 7, 3) := by decide +kernel
theorem d_M_hide_15 : decode b_M_hide 15 = .ok (.iconst 1, 1) := by decide +kernel
theorem d_M_hide_16 : decode b_M_hide 16 = .ok (.goto 4, 3) := by decide +kernel
theorem d_M_hide_19 : decode b_M_hide 19 = .ok (.iconst 0, 1) := by decide +kernel
theorem d_M_hide_20 : decode b_M_hide 20 = .ok (.iconst 1, 1) := by decide +kernel
theorem d_M_hide_21 : decode b_M_hide 21 = .ok (.iconst 1, 1) := by decide +kernel
theorem d_M_hide_22 : decode b_M_hide 22 = .ok (.invokevirtual 109, 3) := by decide +kernel
theorem d_M_hide_25 : decode b_M_hide 25 = .ok (.ifCond .eq 15, 3) := by decide +kernel
theorem d_M_hide_28 : decode b_M_hide 28 = .ok (.aload_n 0, 1) := by decide +kernel
theorem d_M_hide_29 : decode b_M_hide 29 = .ok (.getfield 47, 3) := by decide +kernel
theorem d_M_hide_32 : decode b_M_hide 32 = .ok (.bipush 20, 2) := by decide +kernel
theorem d_M_hide_34 : decode b_M_hide 34 = .ok (.iload_n 1, 1) := by decide +kernel
theorem d_M_hide_35 : decode b_M_hide 35 = .ok (.imul, 1) := by decide +kernel
theorem d_M_hide_36 : decode b_M_hide 36 = .ok (.iload_n 2, 1) := by decide +kernel
theorem d_M_hide_37 : decode b_M_hide 37 = .ok (.iadd, 1) := by decide +kernel
theorem d_M_hide_38 : decode b_M_hide 38 = .ok (.iload_n 3, 1) := by decide +kernel
theorem d_M_hide_39 : decode b_M_hide 39 = .ok (.bastore, 1) := by decide +kernel
theorem d_M_hide_40 : decode b_M_hide 40 = .ok (.return_, 1) := by decide +kernel
def y_M_write : MethodName := ⟨cR6, "write", "(I)V"⟩
abbrev b_M_write : ByteArray := prog_8_method_39_code
abbrev k_M_write : Cond := .code y_M_write b_M_write 2 none
theorem mc_M_write : MC y_M_write k_M_write b_M_write 2 none [] 1 := ⟨g_in (List.mem_of_getElem? (i := 1019) (by decide +kernel)) (by decide +kernel), Or.inl ⟨rfl, rfl⟩, g_in (List.mem_of_getElem? (i := 62) (by decide +kernel)) (by decide +kernel), by decide, by decide +kernel⟩
theorem in_M_write : Cond.instanceMethod y_M_write ∈ g_ws := g_in (List.mem_of_getElem? (i := 1018) (by decide +kernel)) (by decide +kernel)
theorem se_M_write : Cond.selects cR6 y_M_write y_M_write ∈ g_ws := g_in (List.mem_of_getElem? (i := 54) (by decide +kernel)) (by decide +kernel)
theorem d_M_write_0 : decode b_M_write 0 = .ok (.aload_n 0, 1) := by decide +kernel
theorem d_M_write_1 : decode b_M_write 1 = .ok (.getfield 93, 3) := by decide +kernel
theorem d_M_write_4 : decode b_M_write 4 = .ok (.aload_n 0, 1) := by decide +kernel
theorem d_M_write_5 : decode b_M_write 5 = .ok (.getfield 206, 3) := by decide +kernel
theorem d_M_write_8 : decode b_M_write 8 = .ok (.iload_n 1, 1) := by decide +kernel
theorem d_M_write_9 : decode b_M_write 9 = .ok (.iastore, 1) := by decide +kernel
theorem d_M_write_10 : decode b_M_write 10 = .ok (.aload_n 0, 1) := by decide +kernel
theorem d_M_write_11 : decode b_M_write 11 = .ok (.dup, 1) := by decide +kernel
theorem d_M_write_12 : decode b_M_write 12 = .ok (.getfield 206, 3) := by decide +kernel
theorem d_M_write_15 : decode b_M_write 15 = .ok (.iconst 1, 1) := by decide +kernel
theorem d_M_write_16 : decode b_M_write 16 = .ok (.iadd, 1) := by decide +kernel
theorem d_M_write_17 : decode b_M_write 17 = .ok (.putfield 206, 3) := by decide +kernel
theorem d_M_write_20 : decode b_M_write 20 = .ok (.return_, 1) := by decide +kernel
def y_M_number0 : MethodName := ⟨cR6, "number0", "(I)V"⟩
abbrev b_M_number0 : ByteArray := prog_8_method_40_code
abbrev k_M_number0 : Cond := .code y_M_number0 b_M_number0 4 none
theorem mc_M_number0 : MC y_M_number0 k_M_number0 b_M_number0 4 none [] 1 := ⟨g_in (List.mem_of_getElem? (i := 1023) (by decide +kernel)) (by decide +kernel), Or.inl ⟨rfl, rfl⟩, g_in (List.mem_of_getElem? (i := 62) (by decide +kernel)) (by decide +kernel), by decide, by decide +kernel⟩
theorem in_M_number0 : Cond.instanceMethod y_M_number0 ∈ g_ws := g_in (List.mem_of_getElem? (i := 1022) (by decide +kernel)) (by decide +kernel)
theorem se_M_number0 : Cond.selects cR6 y_M_number0 y_M_number0 ∈ g_ws := g_in (List.mem_of_getElem? (i := 55) (by decide +kernel)) (by decide +kernel)
theorem d_M_number0_0 : decode b_M_number0 0 = .ok (.iload_n 1, 1) := by decide +kernel
theorem d_M_number0_1 : decode b_M_number0 1 = .ok (.ifCond .ge 9, 3) := by decide +kernel
theorem d_M_number0_4 : decode b_M_number0 4 = .ok (.aload_n 0, 1) := by decide +kernel
theorem d_M_number0_5 : decode b_M_number0 5 = .ok (.bipush 45, 2) := by decide +kernel
theorem d_M_number0_7 : decode b_M_number0 7 = .ok (.invokevirtual 209, 3) := by decide +kernel
theorem d_M_number0_10 : decode b_M_number0 10 = .ok (.iload_n 1, 1) := by decide +kernel
theorem d_M_number0_11 : decode b_M_number0 11 = .ok (.ifCond .ge 8, 3) := by decide +kernel
theorem d_M_number0_14 : decode b_M_number0 14 = .ok (.iload_n 1, 1) := by decide +kernel
theorem d_M_number0_15 : decode b_M_number0 15 = .ok (.ineg, 1) := by decide +kernel
theorem d_M_number0_16 : decode b_M_number0 16 = .ok (.goto 4, 3) := by decide +kernel
theorem d_M_number0_19 : decode b_M_number0 19 = .ok (.iload_n 1, 1) := by decide +kernel
theorem d_M_number0_20 : decode b_M_number0 20 = .ok (.istore_n 2, 1) := by decide +kernel
theorem d_M_number0_21 : decode b_M_number0 21 = .ok (.iconst 1, 1) := by decide +kernel
theorem d_M_number0_22 : decode b_M_number0 22 = .ok (.istore_n 3, 1) := by decide +kernel
theorem d_M_number0_23 : decode b_M_number0 23 = .ok (.iload_n 2, 1) := by decide +kernel
theorem d_M_number0_24 : decode b_M_number0 24 = .ok (.iload_n 3, 1) := by decide +kernel
theorem d_M_number0_25 : decode b_M_number0 25 = .ok (.idiv, 1) := by decide +kernel
theorem d_M_number0_26 : decode b_M_number0 26 = .ok (.bipush 9, 2) := by decide +kernel
theorem d_M_number0_28 : decode b_M_number0 28 = .ok (.if_icmp .le 11, 3) := by decide +kernel
theorem d_M_number0_31 : decode b_M_number0 31 = .ok (.bipush 10, 2) := by decide +kernel
theorem d_M_number0_33 : decode b_M_number0 33 = .ok (.iload_n 3, 1) := by decide +kernel
theorem d_M_number0_34 : decode b_M_number0 34 = .ok (.imul, 1) := by decide +kernel
theorem d_M_number0_35 : decode b_M_number0 35 = .ok (.istore_n 3, 1) := by decide +kernel
theorem d_M_number0_36 : decode b_M_number0 36 = .ok (.goto (-13), 3) := by decide +kernel
theorem d_M_number0_39 : decode b_M_number0 39 = .ok (.iload_n 3, 1) := by decide +kernel
theorem d_M_number0_40 : decode b_M_number0 40 = .ok (.ifCond .le 24, 3) := by decide +kernel
theorem d_M_number0_43 : decode b_M_number0 43 = .ok (.aload_n 0, 1) := by decide +kernel
theorem d_M_number0_44 : decode b_M_number0 44 = .ok (.bipush 48, 2) := by decide +kernel
theorem d_M_number0_46 : decode b_M_number0 46 = .ok (.iload_n 2, 1) := by decide +kernel
theorem d_M_number0_47 : decode b_M_number0 47 = .ok (.iload_n 3, 1) := by decide +kernel
theorem d_M_number0_48 : decode b_M_number0 48 = .ok (.idiv, 1) := by decide +kernel
theorem d_M_number0_49 : decode b_M_number0 49 = .ok (.bipush 10, 2) := by decide +kernel
theorem d_M_number0_51 : decode b_M_number0 51 = .ok (.irem, 1) := by decide +kernel
theorem d_M_number0_52 : decode b_M_number0 52 = .ok (.iadd, 1) := by decide +kernel
theorem d_M_number0_53 : decode b_M_number0 53 = .ok (.invokevirtual 209, 3) := by decide +kernel
theorem d_M_number0_56 : decode b_M_number0 56 = .ok (.iload_n 3, 1) := by decide +kernel
theorem d_M_number0_57 : decode b_M_number0 57 = .ok (.bipush 10, 2) := by decide +kernel
theorem d_M_number0_59 : decode b_M_number0 59 = .ok (.idiv, 1) := by decide +kernel
theorem d_M_number0_60 : decode b_M_number0 60 = .ok (.istore_n 3, 1) := by decide +kernel
theorem d_M_number0_61 : decode b_M_number0 61 = .ok (.goto (-22), 3) := by decide +kernel
theorem d_M_number0_64 : decode b_M_number0 64 = .ok (.return_, 1) := by decide +kernel
def y_M_code : MethodName := ⟨cR6, "code", "(II)I"⟩
abbrev b_M_code : ByteArray := prog_8_method_41_code
abbrev k_M_code : Cond := .code y_M_code b_M_code 4 (some .int)
theorem mc_M_code : MC y_M_code k_M_code b_M_code 4 (some .int) [] 2 := ⟨g_in (List.mem_of_getElem? (i := 1015) (by decide +kernel)) (by decide +kernel), Or.inl ⟨rfl, rfl⟩, g_in (List.mem_of_getElem? (i := 62) (by decide +kernel)) (by decide +kernel), by decide, by decide +kernel⟩
theorem in_M_code : Cond.instanceMethod y_M_code ∈ g_ws := g_in (List.mem_of_getElem? (i := 1013) (by decide +kernel)) (by decide +kernel)
theorem se_M_code : Cond.selects cR6 y_M_code y_M_code ∈ g_ws := g_in (List.mem_of_getElem? (i := 1014) (by decide +kernel)) (by decide +kernel)
theorem d_M_code_0 : decode b_M_code 0 = .ok (.aload_n 0, 1) := by decide +kernel
theorem d_M_code_1 : decode b_M_code 1 = .ok (.aload_n 0, 1) := by decide +kernel
theorem d_M_code_2 : decode b_M_code 2 = .ok (.iload_n 1, 1) := by decide +kernel
theorem d_M_code_3 : decode b_M_code 3 = .ok (.invokevirtual 121, 3) := by decide +kernel
theorem d_M_code_6 : decode b_M_code 6 = .ok (.ifCond .eq 14, 3) := by decide +kernel
theorem d_M_code_9 : decode b_M_code 9 = .ok (.iload_n 2, 1) := by decide +kernel
theorem d_M_code_10 : decode b_M_code 10 = .ok (.invokestatic 200, 3) := by decide +kernel
theorem d_M_code_13 : decode b_M_code 13 = .ok (.ifCond .eq 7, 3) := by decide +kernel
theorem d_M_code_16 : decode b_M_code 16 = .ok (.iconst 1, 1) := by decide +kernel
theorem d_M_code_17 : decode b_M_code 17 = .ok (.goto 4, 3) := by decide +kernel
theorem d_M_code_20 : decode b_M_code 20 = .ok (.iconst 0, 1) := by decide +kernel
theorem d_M_code_21 : decode b_M_code 21 = .ok (.iconst 1, 1) := by decide +kernel
theorem d_M_code_22 : decode b_M_code 22 = .ok (.iconst 1, 1) := by decide +kernel
theorem d_M_code_23 : decode b_M_code 23 = .ok (.invokevirtual 109, 3) := by decide +kernel
theorem d_M_code_26 : decode b_M_code 26 = .ok (.ifCond .ne 5, 3) := by decide +kernel
theorem d_M_code_29 : decode b_M_code 29 = .ok (.iconst 0, 1) := by decide +kernel
theorem d_M_code_30 : decode b_M_code 30 = .ok (.ireturn, 1) := by decide +kernel
theorem d_M_code_31 : decode b_M_code 31 = .ok (.aload_n 0, 1) := by decide +kernel
theorem d_M_code_32 : decode b_M_code 32 = .ok (.iconst 0, 1) := by decide +kernel
theorem d_M_code_33 : decode b_M_code 33 = .ok (.putfield 206, 3) := by decide +kernel
theorem d_M_code_36 : decode b_M_code 36 = .ok (.aload_n 0, 1) := by decide +kernel
theorem d_M_code_37 : decode b_M_code 37 = .ok (.bipush 82, 2) := by decide +kernel
theorem d_M_code_39 : decode b_M_code 39 = .ok (.invokevirtual 209, 3) := by decide +kernel
theorem d_M_code_42 : decode b_M_code 42 = .ok (.aload_n 0, 1) := by decide +kernel
theorem d_M_code_43 : decode b_M_code 43 = .ok (.aload_n 0, 1) := by decide +kernel
theorem d_M_code_44 : decode b_M_code 44 = .ok (.getfield 7, 3) := by decide +kernel
theorem d_M_code_47 : decode b_M_code 47 = .ok (.iload_n 1, 1) := by decide +kernel
theorem d_M_code_48 : decode b_M_code 48 = .ok (.iaload, 1) := by decide +kernel
theorem d_M_code_49 : decode b_M_code 49 = .ok (.invokevirtual 212, 3) := by decide +kernel
theorem d_M_code_52 : decode b_M_code 52 = .ok (.aload_n 0, 1) := by decide +kernel
theorem d_M_code_53 : decode b_M_code 53 = .ok (.bipush 44, 2) := by decide +kernel
theorem d_M_code_55 : decode b_M_code 55 = .ok (.invokevirtual 209, 3) := by decide +kernel
theorem d_M_code_58 : decode b_M_code 58 = .ok (.iconst 0, 1) := by decide +kernel
theorem d_M_code_59 : decode b_M_code 59 = .ok (.istore_n 3, 1) := by decide +kernel
theorem d_M_code_60 : decode b_M_code 60 = .ok (.iload_n 3, 1) := by decide +kernel
theorem d_M_code_61 : decode b_M_code 61 = .ok (.bipush 20, 2) := by decide +kernel
theorem d_M_code_63 : decode b_M_code 63 = .ok (.if_icmp .ge 81, 3) := by decide +kernel
theorem d_M_code_66 : decode b_M_code 66 = .ok (.aload_n 0, 1) := by decide +kernel
theorem d_M_code_67 : decode b_M_code 67 = .ok (.getfield 31, 3) := by decide +kernel
theorem d_M_code_70 : decode b_M_code 70 = .ok (.bipush 20, 2) := by decide +kernel
theorem d_M_code_72 : decode b_M_code 72 = .ok (.iload_n 1, 1) := by decide +kernel
theorem d_M_code_73 : decode b_M_code 73 = .ok (.imul, 1) := by decide +kernel
theorem d_M_code_74 : decode b_M_code 74 = .ok (.iload_n 3, 1) := by decide +kernel
theorem d_M_code_75 : decode b_M_code 75 = .ok (.iadd, 1) := by decide +kernel
theorem d_M_code_76 : decode b_M_code 76 = .ok (.baload, 1) := by decide +kernel
theorem d_M_code_77 : decode b_M_code 77 = .ok (.ifCond .ne 6, 3) := by decide +kernel
theorem d_M_code_80 : decode b_M_code 80 = .ok (.goto 58, 3) := by decide +kernel
theorem d_M_code_83 : decode b_M_code 83 = .ok (.aload_n 0, 1) := by decide +kernel
theorem d_M_code_84 : decode b_M_code 84 = .ok (.iload_n 3, 1) := by decide +kernel
theorem d_M_code_85 : decode b_M_code 85 = .ok (.invokevirtual 212, 3) := by decide +kernel
theorem d_M_code_88 : decode b_M_code 88 = .ok (.aload_n 0, 1) := by decide +kernel
theorem d_M_code_89 : decode b_M_code 89 = .ok (.bipush 58, 2) := by decide +kernel
theorem d_M_code_91 : decode b_M_code 91 = .ok (.invokevirtual 209, 3) := by decide +kernel
theorem d_M_code_94 : decode b_M_code 94 = .ok (.aload_n 0, 1) := by decide +kernel
theorem d_M_code_95 : decode b_M_code 95 = .ok (.getfield 47, 3) := by decide +kernel
theorem d_M_code_98 : decode b_M_code 98 = .ok (.bipush 20, 2) := by decide +kernel
theorem d_M_code_100 : decode b_M_code 100 = .ok (.iload_n 3, 1) := by decide +kernel
theorem d_M_code_101 : decode b_M_code 101 = .ok (.imul, 1) := by decide +kernel
theorem d_M_code_102 : decode b_M_code 102 = .ok (.iload_n 2, 1) := by decide +kernel
theorem d_M_code_103 : decode b_M_code 103 = .ok (.iadd, 1) := by decide +kernel
theorem d_M_code_104 : decode b_M_code 104 = .ok (.baload, 1) := by decide +kernel
theorem d_M_code_105 : decode b_M_code 105 = .ok (.ifCond .eq 12, 3) := by decide +kernel
theorem d_M_code_108 : decode b_M_code 108 = .ok (.aload_n 0, 1) := by decide +kernel
theorem d_M_code_109 : decode b_M_code 109 = .ok (.bipush 42, 2) := by decide +kernel
theorem d_M_code_111 : decode b_M_code 111 = .ok (.invokevirtual 209, 3) := by decide +kernel
theorem d_M_code_114 : decode b_M_code 114 = .ok (.goto 18, 3) := by decide +kernel
theorem d_M_code_117 : decode b_M_code 117 = .ok (.aload_n 0, 1) := by decide +kernel
theorem d_M_code_118 : decode b_M_code 118 = .ok (.aload_n 0, 1) := by decide +kernel
theorem d_M_code_119 : decode b_M_code 119 = .ok (.getfield 41, 3) := by decide +kernel
theorem d_M_code_122 : decode b_M_code 122 = .ok (.bipush 20, 2) := by decide +kernel
theorem d_M_code_124 : decode b_M_code 124 = .ok (.iload_n 1, 1) := by decide +kernel
theorem d_M_code_125 : decode b_M_code 125 = .ok (.imul, 1) := by decide +kernel
theorem d_M_code_126 : decode b_M_code 126 = .ok (.iload_n 3, 1) := by decide +kernel
theorem d_M_code_127 : decode b_M_code 127 = .ok (.iadd, 1) := by decide +kernel
theorem d_M_code_128 : decode b_M_code 128 = .ok (.iaload, 1) := by decide +kernel
theorem d_M_code_129 : decode b_M_code 129 = .ok (.invokevirtual 212, 3) := by decide +kernel
theorem d_M_code_132 : decode b_M_code 132 = .ok (.aload_n 0, 1) := by decide +kernel
theorem d_M_code_133 : decode b_M_code 133 = .ok (.bipush 59, 2) := by decide +kernel
theorem d_M_code_135 : decode b_M_code 135 = .ok (.invokevirtual 209, 3) := by decide +kernel
theorem d_M_code_138 : decode b_M_code 138 = .ok (.iinc 3 1, 3) := by decide +kernel
theorem d_M_code_141 : decode b_M_code 141 = .ok (.goto (-81), 3) := by decide +kernel
theorem d_M_code_144 : decode b_M_code 144 = .ok (.aload_n 0, 1) := by decide +kernel
theorem d_M_code_145 : decode b_M_code 145 = .ok (.getfield 206, 3) := by decide +kernel
theorem d_M_code_148 : decode b_M_code 148 = .ok (.ireturn, 1) := by decide +kernel
def y_M_at : MethodName := ⟨cR6, "at", "(I)I"⟩
abbrev b_M_at : ByteArray := prog_8_method_42_code
abbrev k_M_at : Cond := .code y_M_at b_M_at 2 (some .int)
theorem mc_M_at : MC y_M_at k_M_at b_M_at 2 (some .int) [] 1 := ⟨g_in (List.mem_of_getElem? (i := 1027) (by decide +kernel)) (by decide +kernel), Or.inl ⟨rfl, rfl⟩, g_in (List.mem_of_getElem? (i := 62) (by decide +kernel)) (by decide +kernel), by decide, by decide +kernel⟩
theorem in_M_at : Cond.instanceMethod y_M_at ∈ g_ws := g_in (List.mem_of_getElem? (i := 1025) (by decide +kernel)) (by decide +kernel)
theorem se_M_at : Cond.selects cR6 y_M_at y_M_at ∈ g_ws := g_in (List.mem_of_getElem? (i := 1026) (by decide +kernel)) (by decide +kernel)
theorem d_M_at_0 : decode b_M_at 0 = .ok (.aload_n 0, 1) := by decide +kernel
theorem d_M_at_1 : decode b_M_at 1 = .ok (.iload_n 1, 1) := by decide +kernel
theorem d_M_at_2 : decode b_M_at 2 = .ok (.ifCond .lt 7, 3) := by decide +kernel
theorem d_M_at_5 : decode b_M_at 5 = .ok (.iconst 1, 1) := by decide +kernel
theorem d_M_at_6 : decode b_M_at 6 = .ok (.goto 4, 3) := by decide +kernel
theorem d_M_at_9 : decode b_M_at 9 = .ok (.iconst 0, 1) := by decide +kernel
theorem d_M_at_10 : decode b_M_at 10 = .ok (.iconst 1, 1) := by decide +kernel
theorem d_M_at_11 : decode b_M_at 11 = .ok (.iconst 1, 1) := by decide +kernel
theorem d_M_at_12 : decode b_M_at 12 = .ok (.invokevirtual 109, 3) := by decide +kernel
theorem d_M_at_15 : decode b_M_at 15 = .ok (.ifCond .ne 5, 3) := by decide +kernel
theorem d_M_at_18 : decode b_M_at 18 = .ok (.iconst 0, 1) := by decide +kernel
theorem d_M_at_19 : decode b_M_at 19 = .ok (.ireturn, 1) := by decide +kernel
theorem d_M_at_20 : decode b_M_at 20 = .ok (.iload_n 1, 1) := by decide +kernel
theorem d_M_at_21 : decode b_M_at 21 = .ok (.aload_n 0, 1) := by decide +kernel
theorem d_M_at_22 : decode b_M_at 22 = .ok (.getfield 206, 3) := by decide +kernel
theorem d_M_at_25 : decode b_M_at 25 = .ok (.if_icmp .ge 12, 3) := by decide +kernel
theorem d_M_at_28 : decode b_M_at 28 = .ok (.aload_n 0, 1) := by decide +kernel
theorem d_M_at_29 : decode b_M_at 29 = .ok (.getfield 93, 3) := by decide +kernel
theorem d_M_at_32 : decode b_M_at 32 = .ok (.iload_n 1, 1) := by decide +kernel
theorem d_M_at_33 : decode b_M_at 33 = .ok (.iaload, 1) := by decide +kernel
theorem d_M_at_34 : decode b_M_at 34 = .ok (.goto 4, 3) := by decide +kernel
theorem d_M_at_37 : decode b_M_at 37 = .ok (.iconst (-1), 1) := by decide +kernel
theorem d_M_at_38 : decode b_M_at 38 = .ok (.ireturn, 1) := by decide +kernel
def y_M_late : MethodName := ⟨cR6, "late", "(II)I"⟩
abbrev b_M_late : ByteArray := prog_8_method_43_code
abbrev k_M_late : Cond := .code y_M_late b_M_late 5 (some .int)
theorem mc_M_late : MC y_M_late k_M_late b_M_late 5 (some .int) [] 2 := ⟨g_in (List.mem_of_getElem? (i := 1031) (by decide +kernel)) (by decide +kernel), Or.inl ⟨rfl, rfl⟩, g_in (List.mem_of_getElem? (i := 62) (by decide +kernel)) (by decide +kernel), by decide, by decide +kernel⟩
theorem in_M_late : Cond.instanceMethod y_M_late ∈ g_ws := g_in (List.mem_of_getElem? (i := 1029) (by decide +kernel)) (by decide +kernel)
theorem se_M_late : Cond.selects cR6 y_M_late y_M_late ∈ g_ws := g_in (List.mem_of_getElem? (i := 1030) (by decide +kernel)) (by decide +kernel)
theorem d_M_late_0 : decode b_M_late 0 = .ok (.aload_n 0, 1) := by decide +kernel
theorem d_M_late_1 : decode b_M_late 1 = .ok (.iload_n 1, 1) := by decide +kernel
theorem d_M_late_2 : decode b_M_late 2 = .ok (.iconst 0, 1) := by decide +kernel
theorem d_M_late_3 : decode b_M_late 3 = .ok (.ldc 125, 2) := by decide +kernel
theorem d_M_late_5 : decode b_M_late 5 = .ok (.invokestatic 102, 3) := by decide +kernel
theorem d_M_late_8 : decode b_M_late 8 = .ok (.ifCond .eq 11, 3) := by decide +kernel
theorem d_M_late_11 : decode b_M_late 11 = .ok (.iload_n 2, 1) := by decide +kernel
theorem d_M_late_12 : decode b_M_late 12 = .ok (.ifCond .lt 7, 3) := by decide +kernel
theorem d_M_late_15 : decode b_M_late 15 = .ok (.iconst 1, 1) := by decide +kernel
theorem d_M_late_16 : decode b_M_late 16 = .ok (.goto 4, 3) := by decide +kernel
theorem d_M_late_19 : decode b_M_late 19 = .ok (.iconst 0, 1) := by decide +kernel
theorem d_M_late_20 : decode b_M_late 20 = .ok (.iconst 1, 1) := by decide +kernel
theorem d_M_late_21 : decode b_M_late 21 = .ok (.iconst 1, 1) := by decide +kernel
theorem d_M_late_22 : decode b_M_late 22 = .ok (.invokevirtual 109, 3) := by decide +kernel
theorem d_M_late_25 : decode b_M_late 25 = .ok (.ifCond .ne 5, 3) := by decide +kernel
theorem d_M_late_28 : decode b_M_late 28 = .ok (.iconst 0, 1) := by decide +kernel
theorem d_M_late_29 : decode b_M_late 29 = .ok (.ireturn, 1) := by decide +kernel
theorem d_M_late_30 : decode b_M_late 30 = .ok (.iload_n 2, 1) := by decide +kernel
theorem d_M_late_31 : decode b_M_late 31 = .ok (.istore_n 3, 1) := by decide +kernel
theorem d_M_late_32 : decode b_M_late 32 = .ok (.iconst 0, 1) := by decide +kernel
theorem d_M_late_33 : decode b_M_late 33 = .ok (.istore 4, 2) := by decide +kernel
theorem d_M_late_35 : decode b_M_late 35 = .ok (.iload 4, 2) := by decide +kernel
theorem d_M_late_37 : decode b_M_late 37 = .ok (.aload_n 0, 1) := by decide +kernel
theorem d_M_late_38 : decode b_M_late 38 = .ok (.getfield 99, 3) := by decide +kernel
theorem d_M_late_41 : decode b_M_late 41 = .ok (.if_icmp .ge 49, 3) := by decide +kernel
theorem d_M_late_44 : decode b_M_late 44 = .ok (.aload_n 0, 1) := by decide +kernel
theorem d_M_late_45 : decode b_M_late 45 = .ok (.getfield 25, 3) := by decide +kernel
theorem d_M_late_48 : decode b_M_late 48 = .ok (.iload 4, 2) := by decide +kernel
theorem d_M_late_50 : decode b_M_late 50 = .ok (.iaload, 1) := by decide +kernel
theorem d_M_late_51 : decode b_M_late 51 = .ok (.iconst 3, 1) := by decide +kernel
theorem d_M_late_52 : decode b_M_late 52 = .ok (.if_icmp .eq 32, 3) := by decide +kernel
theorem d_M_late_55 : decode b_M_late 55 = .ok (.aload_n 0, 1) := by decide +kernel
theorem d_M_late_56 : decode b_M_late 56 = .ok (.getfield 106, 3) := by decide +kernel
theorem d_M_late_59 : decode b_M_late 59 = .ok (.aload_n 0, 1) := by decide +kernel
theorem d_M_late_60 : decode b_M_late 60 = .ok (.getfield 16, 3) := by decide +kernel
theorem d_M_late_63 : decode b_M_late 63 = .ok (.iload 4, 2) := by decide +kernel
theorem d_M_late_65 : decode b_M_late 65 = .ok (.iaload, 1) := by decide +kernel
theorem d_M_late_66 : decode b_M_late 66 = .ok (.isub, 1) := by decide +kernel
theorem d_M_late_67 : decode b_M_late 67 = .ok (.iload_n 1, 1) := by decide +kernel
theorem d_M_late_68 : decode b_M_late 68 = .ok (.if_icmp .gt 6, 3) := by decide +kernel
theorem d_M_late_71 : decode b_M_late 71 = .ok (.goto 13, 3) := by decide +kernel
theorem d_M_late_74 : decode b_M_late 74 = .ok (.iload_n 3, 1) := by decide +kernel
theorem d_M_late_75 : decode b_M_late 75 = .ok (.ifCond .ne 6, 3) := by decide +kernel
theorem d_M_late_78 : decode b_M_late 78 = .ok (.iload 4, 2) := by decide +kernel
theorem d_M_late_80 : decode b_M_late 80 = .ok (.ireturn, 1) := by decide +kernel
theorem d_M_late_81 : decode b_M_late 81 = .ok (.iinc 3 (-1), 3) := by decide +kernel
theorem d_M_late_84 : decode b_M_late 84 = .ok (.iinc 4 1, 3) := by decide +kernel
theorem d_M_late_87 : decode b_M_late 87 = .ok (.goto (-52), 3) := by decide +kernel
theorem d_M_late_90 : decode b_M_late 90 = .ok (.iconst (-1), 1) := by decide +kernel
theorem d_M_late_91 : decode b_M_late 91 = .ok (.ireturn, 1) := by decide +kernel
def y_M_count : MethodName := ⟨cR6, "count", "(III)I"⟩
abbrev b_M_count : ByteArray := prog_8_method_44_code
abbrev k_M_count : Cond := .code y_M_count b_M_count 6 (some .int)
theorem mc_M_count : MC y_M_count k_M_count b_M_count 6 (some .int) [] 3 := ⟨g_in (List.mem_of_getElem? (i := 1035) (by decide +kernel)) (by decide +kernel), Or.inl ⟨rfl, rfl⟩, g_in (List.mem_of_getElem? (i := 62) (by decide +kernel)) (by decide +kernel), by decide, by decide +kernel⟩
theorem in_M_count : Cond.instanceMethod y_M_count ∈ g_ws := g_in (List.mem_of_getElem? (i := 1033) (by decide +kernel)) (by decide +kernel)
theorem se_M_count : Cond.selects cR6 y_M_count y_M_count ∈ g_ws := g_in (List.mem_of_getElem? (i := 1034) (by decide +kernel)) (by decide +kernel)
theorem d_M_count_0 : decode b_M_count 0 = .ok (.aload_n 0, 1) := by decide +kernel
theorem d_M_count_1 : decode b_M_count 1 = .ok (.iload_n 1, 1) := by decide +kernel
theorem d_M_count_2 : decode b_M_count 2 = .ok (.invokestatic 117, 3) := by decide +kernel
theorem d_M_count_5 : decode b_M_count 5 = .ok (.iload_n 2, 1) := by decide +kernel
theorem d_M_count_6 : decode b_M_count 6 = .ok (.iload_n 3, 1) := by decide +kernel
theorem d_M_count_7 : decode b_M_count 7 = .ok (.if_icmp .gt 7, 3) := by decide +kernel
theorem d_M_count_10 : decode b_M_count 10 = .ok (.iconst 1, 1) := by decide +kernel
theorem d_M_count_11 : decode b_M_count 11 = .ok (.goto 4, 3) := by decide +kernel
theorem d_M_count_14 : decode b_M_count 14 = .ok (.iconst 0, 1) := by decide +kernel
theorem d_M_count_15 : decode b_M_count 15 = .ok (.iconst 1, 1) := by decide +kernel
theorem d_M_count_16 : decode b_M_count 16 = .ok (.invokevirtual 109, 3) := by decide +kernel
theorem d_M_count_19 : decode b_M_count 19 = .ok (.ifCond .ne 5, 3) := by decide +kernel
theorem d_M_count_22 : decode b_M_count 22 = .ok (.iconst 0, 1) := by decide +kernel
theorem d_M_count_23 : decode b_M_count 23 = .ok (.ireturn, 1) := by decide +kernel
theorem d_M_count_24 : decode b_M_count 24 = .ok (.iconst 0, 1) := by decide +kernel
theorem d_M_count_25 : decode b_M_count 25 = .ok (.istore 4, 2) := by decide +kernel
theorem d_M_count_27 : decode b_M_count 27 = .ok (.iconst 0, 1) := by decide +kernel
theorem d_M_count_28 : decode b_M_count 28 = .ok (.istore 5, 2) := by decide +kernel
theorem d_M_count_30 : decode b_M_count 30 = .ok (.iload 5, 2) := by decide +kernel
theorem d_M_count_32 : decode b_M_count 32 = .ok (.aload_n 0, 1) := by decide +kernel
theorem d_M_count_33 : decode b_M_count 33 = .ok (.getfield 99, 3) := by decide +kernel
theorem d_M_count_36 : decode b_M_count 36 = .ok (.if_icmp .ge 67, 3) := by decide +kernel
theorem d_M_count_39 : decode b_M_count 39 = .ok (.aload_n 0, 1) := by decide +kernel
theorem d_M_count_40 : decode b_M_count 40 = .ok (.getfield 25, 3) := by decide +kernel
theorem d_M_count_43 : decode b_M_count 43 = .ok (.iload 5, 2) := by decide +kernel
theorem d_M_count_45 : decode b_M_count 45 = .ok (.iaload, 1) := by decide +kernel
theorem d_M_count_46 : decode b_M_count 46 = .ok (.iconst 3, 1) := by decide +kernel
theorem d_M_count_47 : decode b_M_count 47 = .ok (.if_icmp .ne 50, 3) := by decide +kernel
theorem d_M_count_50 : decode b_M_count 50 = .ok (.aload_n 0, 1) := by decide +kernel
theorem d_M_count_51 : decode b_M_count 51 = .ok (.iload 5, 2) := by decide +kernel
theorem d_M_count_53 : decode b_M_count 53 = .ok (.invokevirtual 197, 3) := by decide +kernel
theorem d_M_count_56 : decode b_M_count 56 = .ok (.ifCond .ne 41, 3) := by decide +kernel
theorem d_M_count_59 : decode b_M_count 59 = .ok (.aload_n 0, 1) := by decide +kernel
theorem d_M_count_60 : decode b_M_count 60 = .ok (.getfield 31, 3) := by decide +kernel
theorem d_M_count_63 : decode b_M_count 63 = .ok (.bipush 20, 2) := by decide +kernel
theorem d_M_count_65 : decode b_M_count 65 = .ok (.iload 5, 2) := by decide +kernel
theorem d_M_count_67 : decode b_M_count 67 = .ok (.imul, 1) := by decide +kernel
theorem d_M_count_68 : decode b_M_count 68 = .ok (.iload_n 1, 1) := by decide +kernel
theorem d_M_count_69 : decode b_M_count 69 = .ok (.iadd, 1) := by decide +kernel
theorem d_M_count_70 : decode b_M_count 70 = .ok (.baload, 1) := by decide +kernel
theorem d_M_count_71 : decode b_M_count 71 = .ok (.ifCond .eq 26, 3) := by decide +kernel
theorem d_M_count_74 : decode b_M_count 74 = .ok (.aload_n 0, 1) := by decide +kernel
theorem d_M_count_75 : decode b_M_count 75 = .ok (.getfield 41, 3) := by decide +kernel
theorem d_M_count_78 : decode b_M_count 78 = .ok (.bipush 20, 2) := by decide +kernel
theorem d_M_count_80 : decode b_M_count 80 = .ok (.iload 5, 2) := by decide +kernel
theorem d_M_count_82 : decode b_M_count 82 = .ok (.imul, 1) := by decide +kernel
theorem d_M_count_83 : decode b_M_count 83 = .ok (.iload_n 1, 1) := by decide +kernel
theorem d_M_count_84 : decode b_M_count 84 = .ok (.iadd, 1) := by decide +kernel
theorem d_M_count_85 : decode b_M_count 85 = .ok (.iaload, 1) := by decide +kernel
theorem d_M_count_86 : decode b_M_count 86 = .ok (.iload_n 2, 1) := by decide +kernel
theorem d_M_count_87 : decode b_M_count 87 = .ok (.iload_n 3, 1) := by decide +kernel
theorem d_M_count_88 : decode b_M_count 88 = .ok (.invokestatic 102, 3) := by decide +kernel
theorem d_M_count_91 : decode b_M_count 91 = .ok (.ifCond .eq 6, 3) := by decide +kernel
theorem d_M_count_94 : decode b_M_count 94 = .ok (.iinc 4 1, 3) := by decide +kernel
theorem d_M_count_97 : decode b_M_count 97 = .ok (.iinc 5 1, 3) := by decide +kernel
theorem d_M_count_100 : decode b_M_count 100 = .ok (.goto (-70), 3) := by decide +kernel
theorem d_M_count_103 : decode b_M_count 103 = .ok (.iload 4, 2) := by decide +kernel
theorem d_M_count_105 : decode b_M_count 105 = .ok (.ireturn, 1) := by decide +kernel
def y_M_reportAt : MethodName := ⟨cR6, "reportAt", "(II)I"⟩
abbrev b_M_reportAt : ByteArray := prog_8_method_45_code
abbrev k_M_reportAt : Cond := .code y_M_reportAt b_M_reportAt 3 (some .int)
theorem mc_M_reportAt : MC y_M_reportAt k_M_reportAt b_M_reportAt 3 (some .int) [] 2 := ⟨g_in (List.mem_of_getElem? (i := 1039) (by decide +kernel)) (by decide +kernel), Or.inl ⟨rfl, rfl⟩, g_in (List.mem_of_getElem? (i := 62) (by decide +kernel)) (by decide +kernel), by decide, by decide +kernel⟩
theorem in_M_reportAt : Cond.instanceMethod y_M_reportAt ∈ g_ws := g_in (List.mem_of_getElem? (i := 1037) (by decide +kernel)) (by decide +kernel)
theorem se_M_reportAt : Cond.selects cR6 y_M_reportAt y_M_reportAt ∈ g_ws := g_in (List.mem_of_getElem? (i := 1038) (by decide +kernel)) (by decide +kernel)
theorem d_M_reportAt_0 : decode b_M_reportAt 0 = .ok (.aload_n 0, 1) := by decide +kernel
theorem d_M_reportAt_1 : decode b_M_reportAt 1 = .ok (.aload_n 0, 1) := by decide +kernel
theorem d_M_reportAt_2 : decode b_M_reportAt 2 = .ok (.iload_n 1, 1) := by decide +kernel
theorem d_M_reportAt_3 : decode b_M_reportAt 3 = .ok (.invokevirtual 121, 3) := by decide +kernel
theorem d_M_reportAt_6 : decode b_M_reportAt 6 = .ok (.ifCond .eq 17, 3) := by decide +kernel
theorem d_M_reportAt_9 : decode b_M_reportAt 9 = .ok (.iload_n 2, 1) := by decide +kernel
theorem d_M_reportAt_10 : decode b_M_reportAt 10 = .ok (.iconst 0, 1) := by decide +kernel
theorem d_M_reportAt_11 : decode b_M_reportAt 11 = .ok (.bipush 7, 2) := by decide +kernel
theorem d_M_reportAt_13 : decode b_M_reportAt 13 = .ok (.invokestatic 102, 3) := by decide +kernel
theorem d_M_reportAt_16 : decode b_M_reportAt 16 = .ok (.ifCond .eq 7, 3) := by decide +kernel
theorem d_M_reportAt_19 : decode b_M_reportAt 19 = .ok (.iconst 1, 1) := by decide +kernel
theorem d_M_reportAt_20 : decode b_M_reportAt 20 = .ok (.goto 4, 3) := by decide +kernel
theorem d_M_reportAt_23 : decode b_M_reportAt 23 = .ok (.iconst 0, 1) := by decide +kernel
theorem d_M_reportAt_24 : decode b_M_reportAt 24 = .ok (.iconst 1, 1) := by decide +kernel
theorem d_M_reportAt_25 : decode b_M_reportAt 25 = .ok (.iconst 1, 1) := by decide +kernel
theorem d_M_reportAt_26 : decode b_M_reportAt 26 = .ok (.invokevirtual 109, 3) := by decide +kernel
theorem d_M_reportAt_29 : decode b_M_reportAt 29 = .ok (.ifCond .ne 5, 3) := by decide +kernel
theorem d_M_reportAt_32 : decode b_M_reportAt 32 = .ok (.iconst 0, 1) := by decide +kernel
theorem d_M_reportAt_33 : decode b_M_reportAt 33 = .ok (.ireturn, 1) := by decide +kernel
theorem d_M_reportAt_34 : decode b_M_reportAt 34 = .ok (.iload_n 2, 1) := by decide +kernel
theorem d_M_reportAt_35 : decode b_M_reportAt 35 = .ok (.iconst 4, 1) := by decide +kernel
theorem d_M_reportAt_36 : decode b_M_reportAt 36 = .ok (.if_icmp .ne 34, 3) := by decide +kernel
theorem d_M_reportAt_39 : decode b_M_reportAt 39 = .ok (.aload_n 0, 1) := by decide +kernel
theorem d_M_reportAt_40 : decode b_M_reportAt 40 = .ok (.getfield 25, 3) := by decide +kernel
theorem d_M_reportAt_43 : decode b_M_reportAt 43 = .ok (.iload_n 1, 1) := by decide +kernel
theorem d_M_reportAt_44 : decode b_M_reportAt 44 = .ok (.iaload, 1) := by decide +kernel
theorem d_M_reportAt_45 : decode b_M_reportAt 45 = .ok (.ifCond .ne 7, 3) := by decide +kernel
theorem d_M_reportAt_48 : decode b_M_reportAt 48 = .ok (.iconst (-1), 1) := by decide +kernel
theorem d_M_reportAt_49 : decode b_M_reportAt 49 = .ok (.goto 20, 3) := by decide +kernel
theorem d_M_reportAt_52 : decode b_M_reportAt 52 = .ok (.aload_n 0, 1) := by decide +kernel
theorem d_M_reportAt_53 : decode b_M_reportAt 53 = .ok (.getfield 28, 3) := by decide +kernel
theorem d_M_reportAt_56 : decode b_M_reportAt 56 = .ok (.iconst 3, 1) := by decide +kernel
theorem d_M_reportAt_57 : decode b_M_reportAt 57 = .ok (.iload_n 1, 1) := by decide +kernel
theorem d_M_reportAt_58 : decode b_M_reportAt 58 = .ok (.imul, 1) := by decide +kernel
theorem d_M_reportAt_59 : decode b_M_reportAt 59 = .ok (.aload_n 0, 1) := by decide +kernel
theorem d_M_reportAt_60 : decode b_M_reportAt 60 = .ok (.getfield 25, 3) := by decide +kernel
theorem d_M_reportAt_63 : decode b_M_reportAt 63 = .ok (.iload_n 1, 1) := by decide +kernel
theorem d_M_reportAt_64 : decode b_M_reportAt 64 = .ok (.iaload, 1) := by decide +kernel
theorem d_M_reportAt_65 : decode b_M_reportAt 65 = .ok (.iadd, 1) := by decide +kernel
theorem d_M_reportAt_66 : decode b_M_reportAt 66 = .ok (.iconst 1, 1) := by decide +kernel
theorem d_M_reportAt_67 : decode b_M_reportAt 67 = .ok (.isub, 1) := by decide +kernel
theorem d_M_reportAt_68 : decode b_M_reportAt 68 = .ok (.iaload, 1) := by decide +kernel
theorem d_M_reportAt_69 : decode b_M_reportAt 69 = .ok (.ireturn, 1) := by decide +kernel
theorem d_M_reportAt_70 : decode b_M_reportAt 70 = .ok (.iload_n 2, 1) := by decide +kernel
theorem d_M_reportAt_71 : decode b_M_reportAt 71 = .ok (.ifCond .ne 12, 3) := by decide +kernel
theorem d_M_reportAt_74 : decode b_M_reportAt 74 = .ok (.aload_n 0, 1) := by decide +kernel
theorem d_M_reportAt_75 : decode b_M_reportAt 75 = .ok (.getfield 7, 3) := by decide +kernel
theorem d_M_reportAt_78 : decode b_M_reportAt 78 = .ok (.iload_n 1, 1) := by decide +kernel
theorem d_M_reportAt_79 : decode b_M_reportAt 79 = .ok (.iaload, 1) := by decide +kernel
theorem d_M_reportAt_80 : decode b_M_reportAt 80 = .ok (.goto 79, 3) := by decide +kernel
theorem d_M_reportAt_83 : decode b_M_reportAt 83 = .ok (.iload_n 2, 1) := by decide +kernel
theorem d_M_reportAt_84 : decode b_M_reportAt 84 = .ok (.iconst 1, 1) := by decide +kernel
theorem d_M_reportAt_85 : decode b_M_reportAt 85 = .ok (.if_icmp .ne 12, 3) := by decide +kernel
theorem d_M_reportAt_88 : decode b_M_reportAt 88 = .ok (.aload_n 0, 1) := by decide +kernel
theorem d_M_reportAt_89 : decode b_M_reportAt 89 = .ok (.getfield 13, 3) := by decide +kernel
theorem d_M_reportAt_92 : decode b_M_reportAt 92 = .ok (.iload_n 1, 1) := by decide +kernel
theorem d_M_reportAt_93 : decode b_M_reportAt 93 = .ok (.iaload, 1) := by decide +kernel
theorem d_M_reportAt_94 : decode b_M_reportAt 94 = .ok (.goto 65, 3) := by decide +kernel
theorem d_M_reportAt_97 : decode b_M_reportAt 97 = .ok (.iload_n 2, 1) := by decide +kernel
theorem d_M_reportAt_98 : decode b_M_reportAt 98 = .ok (.iconst 2, 1) := by decide +kernel
theorem d_M_reportAt_99 : decode b_M_reportAt 99 = .ok (.if_icmp .ne 12, 3) := by decide +kernel
theorem d_M_reportAt_102 : decode b_M_reportAt 102 = .ok (.aload_n 0, 1) := by decide +kernel
theorem d_M_reportAt_103 : decode b_M_reportAt 103 = .ok (.getfield 16, 3) := by decide +kernel
theorem d_M_reportAt_106 : decode b_M_reportAt 106 = .ok (.iload_n 1, 1) := by decide +kernel
theorem d_M_reportAt_107 : decode b_M_reportAt 107 = .ok (.iaload, 1) := by decide +kernel
theorem d_M_reportAt_108 : decode b_M_reportAt 108 = .ok (.goto 51, 3) := by decide +kernel
theorem d_M_reportAt_111 : decode b_M_reportAt 111 = .ok (.iload_n 2, 1) := by decide +kernel
theorem d_M_reportAt_112 : decode b_M_reportAt 112 = .ok (.iconst 3, 1) := by decide +kernel
theorem d_M_reportAt_113 : decode b_M_reportAt 113 = .ok (.if_icmp .ne 12, 3) := by decide +kernel
theorem d_M_reportAt_116 : decode b_M_reportAt 116 = .ok (.aload_n 0, 1) := by decide +kernel
theorem d_M_reportAt_117 : decode b_M_reportAt 117 = .ok (.getfield 25, 3) := by decide +kernel
theorem d_M_reportAt_120 : decode b_M_reportAt 120 = .ok (.iload_n 1, 1) := by decide +kernel
theorem d_M_reportAt_121 : decode b_M_reportAt 121 = .ok (.iaload, 1) := by decide +kernel
theorem d_M_reportAt_122 : decode b_M_reportAt 122 = .ok (.goto 37, 3) := by decide +kernel
theorem d_M_reportAt_125 : decode b_M_reportAt 125 = .ok (.iload_n 2, 1) := by decide +kernel
theorem d_M_reportAt_126 : decode b_M_reportAt 126 = .ok (.iconst 5, 1) := by decide +kernel
theorem d_M_reportAt_127 : decode b_M_reportAt 127 = .ok (.if_icmp .ne 12, 3) := by decide +kernel
theorem d_M_reportAt_130 : decode b_M_reportAt 130 = .ok (.aload_n 0, 1) := by decide +kernel
theorem d_M_reportAt_131 : decode b_M_reportAt 131 = .ok (.getfield 19, 3) := by decide +kernel
theorem d_M_reportAt_134 : decode b_M_reportAt 134 = .ok (.iload_n 1, 1) := by decide +kernel
theorem d_M_reportAt_135 : decode b_M_reportAt 135 = .ok (.iaload, 1) := by decide +kernel
theorem d_M_reportAt_136 : decode b_M_reportAt 136 = .ok (.goto 23, 3) := by decide +kernel
theorem d_M_reportAt_139 : decode b_M_reportAt 139 = .ok (.iload_n 2, 1) := by decide +kernel
theorem d_M_reportAt_140 : decode b_M_reportAt 140 = .ok (.bipush 6, 2) := by decide +kernel
theorem d_M_reportAt_142 : decode b_M_reportAt 142 = .ok (.if_icmp .ne 11, 3) := by decide +kernel
theorem d_M_reportAt_145 : decode b_M_reportAt 145 = .ok (.aload_n 0, 1) := by decide +kernel
theorem d_M_reportAt_146 : decode b_M_reportAt 146 = .ok (.iload_n 1, 1) := by decide +kernel
theorem d_M_reportAt_147 : decode b_M_reportAt 147 = .ok (.invokevirtual 197, 3) := by decide +kernel
theorem d_M_reportAt_150 : decode b_M_reportAt 150 = .ok (.goto 9, 3) := by decide +kernel
theorem d_M_reportAt_153 : decode b_M_reportAt 153 = .ok (.aload_n 0, 1) := by decide +kernel
theorem d_M_reportAt_154 : decode b_M_reportAt 154 = .ok (.getfield 22, 3) := by decide +kernel
theorem d_M_reportAt_157 : decode b_M_reportAt 157 = .ok (.iload_n 1, 1) := by decide +kernel
theorem d_M_reportAt_158 : decode b_M_reportAt 158 = .ok (.iaload, 1) := by decide +kernel
theorem d_M_reportAt_159 : decode b_M_reportAt 159 = .ok (.ireturn, 1) := by decide +kernel
def y_M_value : MethodName := ⟨cR6, "value", "(II)I"⟩
abbrev b_M_value : ByteArray := prog_8_method_46_code
abbrev k_M_value : Cond := .code y_M_value b_M_value 4 (some .int)
theorem mc_M_value : MC y_M_value k_M_value b_M_value 4 (some .int) [] 2 := ⟨g_in (List.mem_of_getElem? (i := 1043) (by decide +kernel)) (by decide +kernel), Or.inl ⟨rfl, rfl⟩, g_in (List.mem_of_getElem? (i := 62) (by decide +kernel)) (by decide +kernel), by decide, by decide +kernel⟩
theorem in_M_value : Cond.instanceMethod y_M_value ∈ g_ws := g_in (List.mem_of_getElem? (i := 1041) (by decide +kernel)) (by decide +kernel)
theorem se_M_value : Cond.selects cR6 y_M_value y_M_value ∈ g_ws := g_in (List.mem_of_getElem? (i := 1042) (by decide +kernel)) (by decide +kernel)
theorem d_M_value_0 : decode b_M_value 0 = .ok (.aload_n 0, 1) := by decide +kernel
theorem d_M_value_1 : decode b_M_value 1 = .ok (.iload_n 1, 1) := by decide +kernel
theorem d_M_value_2 : decode b_M_value 2 = .ok (.invokevirtual 121, 3) := by decide +kernel
theorem d_M_value_5 : decode b_M_value 5 = .ok (.ifCond .eq 14, 3) := by decide +kernel
theorem d_M_value_8 : decode b_M_value 8 = .ok (.iload_n 2, 1) := by decide +kernel
theorem d_M_value_9 : decode b_M_value 9 = .ok (.invokestatic 117, 3) := by decide +kernel
theorem d_M_value_12 : decode b_M_value 12 = .ok (.ifCond .eq 7, 3) := by decide +kernel
theorem d_M_value_15 : decode b_M_value 15 = .ok (.iconst 1, 1) := by decide +kernel
theorem d_M_value_16 : decode b_M_value 16 = .ok (.goto 4, 3) := by decide +kernel
theorem d_M_value_19 : decode b_M_value 19 = .ok (.iconst 0, 1) := by decide +kernel
theorem d_M_value_20 : decode b_M_value 20 = .ok (.istore_n 3, 1) := by decide +kernel
theorem d_M_value_21 : decode b_M_value 21 = .ok (.aload_n 0, 1) := by decide +kernel
theorem d_M_value_22 : decode b_M_value 22 = .ok (.iload_n 3, 1) := by decide +kernel
theorem d_M_value_23 : decode b_M_value 23 = .ok (.iload_n 3, 1) := by decide +kernel
theorem d_M_value_24 : decode b_M_value 24 = .ok (.ifCond .eq 21, 3) := by decide +kernel
theorem d_M_value_27 : decode b_M_value 27 = .ok (.aload_n 0, 1) := by decide +kernel
theorem d_M_value_28 : decode b_M_value 28 = .ok (.getfield 31, 3) := by decide +kernel
theorem d_M_value_31 : decode b_M_value 31 = .ok (.bipush 20, 2) := by decide +kernel
theorem d_M_value_33 : decode b_M_value 33 = .ok (.iload_n 1, 1) := by decide +kernel
theorem d_M_value_34 : decode b_M_value 34 = .ok (.imul, 1) := by decide +kernel
theorem d_M_value_35 : decode b_M_value 35 = .ok (.iload_n 2, 1) := by decide +kernel
theorem d_M_value_36 : decode b_M_value 36 = .ok (.iadd, 1) := by decide +kernel
theorem d_M_value_37 : decode b_M_value 37 = .ok (.baload, 1) := by decide +kernel
theorem d_M_value_38 : decode b_M_value 38 = .ok (.ifCond .eq 7, 3) := by decide +kernel
theorem d_M_value_41 : decode b_M_value 41 = .ok (.iconst 1, 1) := by decide +kernel
theorem d_M_value_42 : decode b_M_value 42 = .ok (.goto 4, 3) := by decide +kernel
theorem d_M_value_45 : decode b_M_value 45 = .ok (.iconst 0, 1) := by decide +kernel
theorem d_M_value_46 : decode b_M_value 46 = .ok (.iconst 1, 1) := by decide +kernel
theorem d_M_value_47 : decode b_M_value 47 = .ok (.invokevirtual 109, 3) := by decide +kernel
theorem d_M_value_50 : decode b_M_value 50 = .ok (.ifCond .ne 5, 3) := by decide +kernel
theorem d_M_value_53 : decode b_M_value 53 = .ok (.iconst 0, 1) := by decide +kernel
theorem d_M_value_54 : decode b_M_value 54 = .ok (.ireturn, 1) := by decide +kernel
theorem d_M_value_55 : decode b_M_value 55 = .ok (.aload_n 0, 1) := by decide +kernel
theorem d_M_value_56 : decode b_M_value 56 = .ok (.getfield 41, 3) := by decide +kernel
theorem d_M_value_59 : decode b_M_value 59 = .ok (.bipush 20, 2) := by decide +kernel
theorem d_M_value_61 : decode b_M_value 61 = .ok (.iload_n 1, 1) := by decide +kernel
theorem d_M_value_62 : decode b_M_value 62 = .ok (.imul, 1) := by decide +kernel
theorem d_M_value_63 : decode b_M_value 63 = .ok (.iload_n 2, 1) := by decide +kernel
theorem d_M_value_64 : decode b_M_value 64 = .ok (.iadd, 1) := by decide +kernel
theorem d_M_value_65 : decode b_M_value 65 = .ok (.iaload, 1) := by decide +kernel
theorem d_M_value_66 : decode b_M_value 66 = .ok (.ireturn, 1) := by decide +kernel
def y_M_tick : MethodName := ⟨cR6, "tick", "(I)I"⟩
abbrev b_M_tick : ByteArray := prog_8_method_47_code
abbrev k_M_tick : Cond := .code y_M_tick b_M_tick 2 (some .int)
theorem mc_M_tick : MC y_M_tick k_M_tick b_M_tick 2 (some .int) [] 1 := ⟨g_in (List.mem_of_getElem? (i := 1047) (by decide +kernel)) (by decide +kernel), Or.inl ⟨rfl, rfl⟩, g_in (List.mem_of_getElem? (i := 62) (by decide +kernel)) (by decide +kernel), by decide, by decide +kernel⟩
theorem in_M_tick : Cond.instanceMethod y_M_tick ∈ g_ws := g_in (List.mem_of_getElem? (i := 1045) (by decide +kernel)) (by decide +kernel)
theorem se_M_tick : Cond.selects cR6 y_M_tick y_M_tick ∈ g_ws := g_in (List.mem_of_getElem? (i := 1046) (by decide +kernel)) (by decide +kernel)
theorem d_M_tick_0 : decode b_M_tick 0 = .ok (.aload_n 0, 1) := by decide +kernel
theorem d_M_tick_1 : decode b_M_tick 1 = .ok (.iload_n 1, 1) := by decide +kernel
theorem d_M_tick_2 : decode b_M_tick 2 = .ok (.iconst 1, 1) := by decide +kernel
theorem d_M_tick_3 : decode b_M_tick 3 = .ok (.sipush 5000, 3) := by decide +kernel
theorem d_M_tick_6 : decode b_M_tick 6 = .ok (.invokestatic 102, 3) := by decide +kernel
theorem d_M_tick_9 : decode b_M_tick 9 = .ok (.ifCond .eq 18, 3) := by decide +kernel
theorem d_M_tick_12 : decode b_M_tick 12 = .ok (.iload_n 1, 1) := by decide +kernel
theorem d_M_tick_13 : decode b_M_tick 13 = .ok (.ldc 125, 2) := by decide +kernel
theorem d_M_tick_15 : decode b_M_tick 15 = .ok (.aload_n 0, 1) := by decide +kernel
theorem d_M_tick_16 : decode b_M_tick 16 = .ok (.getfield 106, 3) := by decide +kernel
theorem d_M_tick_19 : decode b_M_tick 19 = .ok (.isub, 1) := by decide +kernel
theorem d_M_tick_20 : decode b_M_tick 20 = .ok (.if_icmp .gt 7, 3) := by decide +kernel
theorem d_M_tick_23 : decode b_M_tick 23 = .ok (.iconst 1, 1) := by decide +kernel
theorem d_M_tick_24 : decode b_M_tick 24 = .ok (.goto 4, 3) := by decide +kernel
theorem d_M_tick_27 : decode b_M_tick 27 = .ok (.iconst 0, 1) := by decide +kernel
theorem d_M_tick_28 : decode b_M_tick 28 = .ok (.iconst 1, 1) := by decide +kernel
theorem d_M_tick_29 : decode b_M_tick 29 = .ok (.iconst 1, 1) := by decide +kernel
theorem d_M_tick_30 : decode b_M_tick 30 = .ok (.invokevirtual 109, 3) := by decide +kernel
theorem d_M_tick_33 : decode b_M_tick 33 = .ok (.ifCond .ne 5, 3) := by decide +kernel
theorem d_M_tick_36 : decode b_M_tick 36 = .ok (.iconst 0, 1) := by decide +kernel
theorem d_M_tick_37 : decode b_M_tick 37 = .ok (.ireturn, 1) := by decide +kernel
theorem d_M_tick_38 : decode b_M_tick 38 = .ok (.aload_n 0, 1) := by decide +kernel
theorem d_M_tick_39 : decode b_M_tick 39 = .ok (.aload_n 0, 1) := by decide +kernel
theorem d_M_tick_40 : decode b_M_tick 40 = .ok (.getfield 106, 3) := by decide +kernel
theorem d_M_tick_43 : decode b_M_tick 43 = .ok (.iload_n 1, 1) := by decide +kernel
theorem d_M_tick_44 : decode b_M_tick 44 = .ok (.iadd, 1) := by decide +kernel
theorem d_M_tick_45 : decode b_M_tick 45 = .ok (.putfield 106, 3) := by decide +kernel
theorem d_M_tick_48 : decode b_M_tick 48 = .ok (.aload_n 0, 1) := by decide +kernel
theorem d_M_tick_49 : decode b_M_tick 49 = .ok (.getfield 106, 3) := by decide +kernel
theorem d_M_tick_52 : decode b_M_tick 52 = .ok (.ireturn, 1) := by decide +kernel
end
section
/-! ===== methods of X: printed by program ===== -/
def y_X_init : MethodName := ⟨cR0, "<init>", "()V"⟩
abbrev b_X_init : ByteArray := prog_1_method_1_code
abbrev k_X_init : Cond := .code y_X_init b_X_init 1 none
theorem mc_X_init : MC y_X_init k_X_init b_X_init 1 none [] 0 := ⟨g_in (List.mem_of_getElem? (i := 78) (by decide +kernel)) (by decide +kernel), Or.inl ⟨rfl, rfl⟩, g_in (List.mem_of_getElem? (i := 57) (by decide +kernel)) (by decide +kernel), by decide, by decide +kernel⟩
theorem in_X_init : Cond.instanceMethod y_X_init ∈ g_ws := g_in (List.mem_of_getElem? (i := 77) (by decide +kernel)) (by decide +kernel)
theorem d_X_init_0 : decode b_X_init 0 = .ok (.aload_n 0, 1) := by decide +kernel
theorem d_X_init_1 : decode b_X_init 1 = .ok (.invokespecial 1, 3) := by decide +kernel
theorem d_X_init_4 : decode b_X_init 4 = .ok (.aload_n 0, 1) := by decide +kernel
theorem d_X_init_5 : decode b_X_init 5 = .ok (.bipush 30, 2) := by decide +kernel
theorem d_X_init_7 : decode b_X_init 7 = .ok (.anewarray 9, 3) := by decide +kernel
theorem d_X_init_10 : decode b_X_init 10 = .ok (.putfield 11, 3) := by decide +kernel
theorem d_X_init_13 : decode b_X_init 13 = .ok (.aload_n 0, 1) := by decide +kernel
theorem d_X_init_14 : decode b_X_init 14 = .ok (.iconst 0, 1) := by decide +kernel
theorem d_X_init_15 : decode b_X_init 15 = .ok (.putfield 15, 3) := by decide +kernel
theorem d_X_init_18 : decode b_X_init 18 = .ok (.aload_n 0, 1) := by decide +kernel
theorem d_X_init_19 : decode b_X_init 19 = .ok (.iconst 5, 1) := by decide +kernel
theorem d_X_init_20 : decode b_X_init 20 = .ok (.newarray .int, 2) := by decide +kernel
theorem d_X_init_22 : decode b_X_init 22 = .ok (.putfield 19, 3) := by decide +kernel
theorem d_X_init_25 : decode b_X_init 25 = .ok (.aload_n 0, 1) := by decide +kernel
theorem d_X_init_26 : decode b_X_init 26 = .ok (.bipush 20, 2) := by decide +kernel
theorem d_X_init_28 : decode b_X_init 28 = .ok (.newarray .int, 2) := by decide +kernel
theorem d_X_init_30 : decode b_X_init 30 = .ok (.putfield 23, 3) := by decide +kernel
theorem d_X_init_33 : decode b_X_init 33 = .ok (.aload_n 0, 1) := by decide +kernel
theorem d_X_init_34 : decode b_X_init 34 = .ok (.iconst 0, 1) := by decide +kernel
theorem d_X_init_35 : decode b_X_init 35 = .ok (.putfield 26, 3) := by decide +kernel
theorem d_X_init_38 : decode b_X_init 38 = .ok (.aload_n 0, 1) := by decide +kernel
theorem d_X_init_39 : decode b_X_init 39 = .ok (.sipush 300, 3) := by decide +kernel
theorem d_X_init_42 : decode b_X_init 42 = .ok (.newarray .byte, 2) := by decide +kernel
theorem d_X_init_44 : decode b_X_init 44 = .ok (.putfield 29, 3) := by decide +kernel
theorem d_X_init_47 : decode b_X_init 47 = .ok (.aload_n 0, 1) := by decide +kernel
theorem d_X_init_48 : decode b_X_init 48 = .ok (.iconst 0, 1) := by decide +kernel
theorem d_X_init_49 : decode b_X_init 49 = .ok (.putfield 33, 3) := by decide +kernel
theorem d_X_init_52 : decode b_X_init 52 = .ok (.aload_n 0, 1) := by decide +kernel
theorem d_X_init_53 : decode b_X_init 53 = .ok (.new 36, 3) := by decide +kernel
theorem d_X_init_56 : decode b_X_init 56 = .ok (.dup, 1) := by decide +kernel
theorem d_X_init_57 : decode b_X_init 57 = .ok (.aload_n 0, 1) := by decide +kernel
theorem d_X_init_58 : decode b_X_init 58 = .ok (.getfield 29, 3) := by decide +kernel
theorem d_X_init_61 : decode b_X_init 61 = .ok (.invokespecial 38, 3) := by decide +kernel
theorem d_X_init_64 : decode b_X_init 64 = .ok (.putfield 41, 3) := by decide +kernel
theorem d_X_init_67 : decode b_X_init 67 = .ok (.aload_n 0, 1) := by decide +kernel
theorem d_X_init_68 : decode b_X_init 68 = .ok (.new 45, 3) := by decide +kernel
theorem d_X_init_71 : decode b_X_init 71 = .ok (.dup, 1) := by decide +kernel
theorem d_X_init_72 : decode b_X_init 72 = .ok (.invokespecial 47, 3) := by decide +kernel
theorem d_X_init_75 : decode b_X_init 75 = .ok (.putfield 48, 3) := by decide +kernel
theorem d_X_init_78 : decode b_X_init 78 = .ok (.aload_n 0, 1) := by decide +kernel
theorem d_X_init_79 : decode b_X_init 79 = .ok (.new 45, 3) := by decide +kernel
theorem d_X_init_82 : decode b_X_init 82 = .ok (.dup, 1) := by decide +kernel
theorem d_X_init_83 : decode b_X_init 83 = .ok (.invokespecial 47, 3) := by decide +kernel
theorem d_X_init_86 : decode b_X_init 86 = .ok (.putfield 52, 3) := by decide +kernel
theorem d_X_init_89 : decode b_X_init 89 = .ok (.aload_n 0, 1) := by decide +kernel
theorem d_X_init_90 : decode b_X_init 90 = .ok (.iconst (-1), 1) := by decide +kernel
theorem d_X_init_91 : decode b_X_init 91 = .ok (.putfield 55, 3) := by decide +kernel
theorem d_X_init_94 : decode b_X_init 94 = .ok (.aload_n 0, 1) := by decide +kernel
theorem d_X_init_95 : decode b_X_init 95 = .ok (.new 58, 3) := by decide +kernel
theorem d_X_init_98 : decode b_X_init 98 = .ok (.dup, 1) := by decide +kernel
theorem d_X_init_99 : decode b_X_init 99 = .ok (.invokespecial 60, 3) := by decide +kernel
theorem d_X_init_102 : decode b_X_init 102 = .ok (.putfield 61, 3) := by decide +kernel
theorem d_X_init_105 : decode b_X_init 105 = .ok (.aload_n 0, 1) := by decide +kernel
theorem d_X_init_106 : decode b_X_init 106 = .ok (.new 58, 3) := by decide +kernel
theorem d_X_init_109 : decode b_X_init 109 = .ok (.dup, 1) := by decide +kernel
theorem d_X_init_110 : decode b_X_init 110 = .ok (.invokespecial 60, 3) := by decide +kernel
theorem d_X_init_113 : decode b_X_init 113 = .ok (.putfield 65, 3) := by decide +kernel
theorem d_X_init_116 : decode b_X_init 116 = .ok (.aload_n 0, 1) := by decide +kernel
theorem d_X_init_117 : decode b_X_init 117 = .ok (.new 68, 3) := by decide +kernel
theorem d_X_init_120 : decode b_X_init 120 = .ok (.dup, 1) := by decide +kernel
theorem d_X_init_121 : decode b_X_init 121 = .ok (.invokespecial 70, 3) := by decide +kernel
theorem d_X_init_124 : decode b_X_init 124 = .ok (.putfield 71, 3) := by decide +kernel
theorem d_X_init_127 : decode b_X_init 127 = .ok (.return_, 1) := by decide +kernel
def y_X_report : MethodName := ⟨cR0, "report", "(II)I"⟩
abbrev b_X_report : ByteArray := prog_1_method_2_code
abbrev k_X_report : Cond := .code y_X_report b_X_report 3 (some .int)
theorem mc_X_report : MC y_X_report k_X_report b_X_report 3 (some .int) [] 2 := ⟨g_in (List.mem_of_getElem? (i := 225) (by decide +kernel)) (by decide +kernel), Or.inl ⟨rfl, rfl⟩, g_in (List.mem_of_getElem? (i := 57) (by decide +kernel)) (by decide +kernel), by decide, by decide +kernel⟩
theorem in_X_report : Cond.instanceMethod y_X_report ∈ g_ws := g_in (List.mem_of_getElem? (i := 223) (by decide +kernel)) (by decide +kernel)
theorem se_X_report : Cond.selects cR0 y_X_report y_X_report ∈ g_ws := g_in (List.mem_of_getElem? (i := 224) (by decide +kernel)) (by decide +kernel)
theorem d_X_report_0 : decode b_X_report 0 = .ok (.iload_n 2, 1) := by decide +kernel
theorem d_X_report_1 : decode b_X_report 1 = .ok (.invokestatic 75, 3) := by decide +kernel
theorem d_X_report_4 : decode b_X_report 4 = .ok (.iload_n 1, 1) := by decide +kernel
theorem d_X_report_5 : decode b_X_report 5 = .ok (.ifCond .lt 10, 3) := by decide +kernel
theorem d_X_report_8 : decode b_X_report 8 = .ok (.iload_n 1, 1) := by decide +kernel
theorem d_X_report_9 : decode b_X_report 9 = .ok (.sipush 9999, 3) := by decide +kernel
theorem d_X_report_12 : decode b_X_report 12 = .ok (.if_icmp .le 13, 3) := by decide +kernel
theorem d_X_report_15 : decode b_X_report 15 = .ok (.new 79, 3) := by decide +kernel
theorem d_X_report_18 : decode b_X_report 18 = .ok (.dup, 1) := by decide +kernel
theorem d_X_report_19 : decode b_X_report 19 = .ok (.ldc 81, 2) := by decide +kernel
theorem d_X_report_21 : decode b_X_report 21 = .ok (.invokespecial 83, 3) := by decide +kernel
theorem d_X_report_24 : decode b_X_report 24 = .ok (.athrow, 1) := by decide +kernel
theorem d_X_report_25 : decode b_X_report 25 = .ok (.aload_n 0, 1) := by decide +kernel
theorem d_X_report_26 : decode b_X_report 26 = .ok (.invokevirtual 86, 3) := by decide +kernel
theorem d_X_report_29 : decode b_X_report 29 = .ok (.aload_n 0, 1) := by decide +kernel
theorem d_X_report_30 : decode b_X_report 30 = .ok (.new 9, 3) := by decide +kernel
theorem d_X_report_33 : decode b_X_report 33 = .ok (.dup, 1) := by decide +kernel
theorem d_X_report_34 : decode b_X_report 34 = .ok (.iload_n 1, 1) := by decide +kernel
theorem d_X_report_35 : decode b_X_report 35 = .ok (.iload_n 2, 1) := by decide +kernel
theorem d_X_report_36 : decode b_X_report 36 = .ok (.aload_n 0, 1) := by decide +kernel
theorem d_X_report_37 : decode b_X_report 37 = .ok (.getfield 26, 3) := by decide +kernel
theorem d_X_report_40 : decode b_X_report 40 = .ok (.iconst (-1), 1) := by decide +kernel
theorem d_X_report_41 : decode b_X_report 41 = .ok (.invokespecial 89, 3) := by decide +kernel
theorem d_X_report_44 : decode b_X_report 44 = .ok (.invokevirtual 92, 3) := by decide +kernel
theorem d_X_report_47 : decode b_X_report 47 = .ok (.ireturn, 1) := by decide +kernel
def y_X_ask : MethodName := ⟨cR0, "ask", "(IIZ)V"⟩
abbrev b_X_ask : ByteArray := prog_1_method_3_code
abbrev k_X_ask : Cond := .code y_X_ask b_X_ask 4 none
theorem mc_X_ask : MC y_X_ask k_X_ask b_X_ask 4 none [] 3 := ⟨g_in (List.mem_of_getElem? (i := 396) (by decide +kernel)) (by decide +kernel), Or.inl ⟨rfl, rfl⟩, g_in (List.mem_of_getElem? (i := 57) (by decide +kernel)) (by decide +kernel), by decide, by decide +kernel⟩
theorem in_X_ask : Cond.instanceMethod y_X_ask ∈ g_ws := g_in (List.mem_of_getElem? (i := 394) (by decide +kernel)) (by decide +kernel)
theorem se_X_ask : Cond.selects cR0 y_X_ask y_X_ask ∈ g_ws := g_in (List.mem_of_getElem? (i := 395) (by decide +kernel)) (by decide +kernel)
theorem d_X_ask_0 : decode b_X_ask 0 = .ok (.iload_n 1, 1) := by decide +kernel
theorem d_X_ask_1 : decode b_X_ask 1 = .ok (.invokestatic 75, 3) := by decide +kernel
theorem d_X_ask_4 : decode b_X_ask 4 = .ok (.iload_n 2, 1) := by decide +kernel
theorem d_X_ask_5 : decode b_X_ask 5 = .ok (.invokestatic 96, 3) := by decide +kernel
theorem d_X_ask_8 : decode b_X_ask 8 = .ok (.aload_n 0, 1) := by decide +kernel
theorem d_X_ask_9 : decode b_X_ask 9 = .ok (.getfield 19, 3) := by decide +kernel
theorem d_X_ask_12 : decode b_X_ask 12 = .ok (.iload_n 1, 1) := by decide +kernel
theorem d_X_ask_13 : decode b_X_ask 13 = .ok (.aload_n 0, 1) := by decide +kernel
theorem d_X_ask_14 : decode b_X_ask 14 = .ok (.getfield 19, 3) := by decide +kernel
theorem d_X_ask_17 : decode b_X_ask 17 = .ok (.iload_n 1, 1) := by decide +kernel
theorem d_X_ask_18 : decode b_X_ask 18 = .ok (.iaload, 1) := by decide +kernel
theorem d_X_ask_19 : decode b_X_ask 19 = .ok (.iload_n 2, 1) := by decide +kernel
theorem d_X_ask_20 : decode b_X_ask 20 = .ok (.iload_n 3, 1) := by decide +kernel
theorem d_X_ask_21 : decode b_X_ask 21 = .ok (.invokestatic 99, 3) := by decide +kernel
theorem d_X_ask_24 : decode b_X_ask 24 = .ok (.iastore, 1) := by decide +kernel
theorem d_X_ask_25 : decode b_X_ask 25 = .ok (.return_, 1) := by decide +kernel
def y_X_field : MethodName := ⟨cR0, "field", "(III)V"⟩
abbrev b_X_field : ByteArray := prog_1_method_4_code
abbrev k_X_field : Cond := .code y_X_field b_X_field 5 none
theorem mc_X_field : MC y_X_field k_X_field b_X_field 5 none [] 3 := ⟨g_in (List.mem_of_getElem? (i := 411) (by decide +kernel)) (by decide +kernel), Or.inl ⟨rfl, rfl⟩, g_in (List.mem_of_getElem? (i := 57) (by decide +kernel)) (by decide +kernel), by decide, by decide +kernel⟩
theorem in_X_field : Cond.instanceMethod y_X_field ∈ g_ws := g_in (List.mem_of_getElem? (i := 409) (by decide +kernel)) (by decide +kernel)
theorem se_X_field : Cond.selects cR0 y_X_field y_X_field ∈ g_ws := g_in (List.mem_of_getElem? (i := 410) (by decide +kernel)) (by decide +kernel)
theorem d_X_field_0 : decode b_X_field 0 = .ok (.aload_n 0, 1) := by decide +kernel
theorem d_X_field_1 : decode b_X_field 1 = .ok (.iload_n 1, 1) := by decide +kernel
theorem d_X_field_2 : decode b_X_field 2 = .ok (.invokevirtual 103, 3) := by decide +kernel
theorem d_X_field_5 : decode b_X_field 5 = .ok (.astore 4, 2) := by decide +kernel
theorem d_X_field_7 : decode b_X_field 7 = .ok (.iload_n 2, 1) := by decide +kernel
theorem d_X_field_8 : decode b_X_field 8 = .ok (.invokestatic 96, 3) := by decide +kernel
theorem d_X_field_11 : decode b_X_field 11 = .ok (.iload_n 3, 1) := by decide +kernel
theorem d_X_field_12 : decode b_X_field 12 = .ok (.ldc 107, 2) := by decide +kernel
theorem d_X_field_14 : decode b_X_field 14 = .ok (.if_icmp .lt 9, 3) := by decide +kernel
theorem d_X_field_17 : decode b_X_field 17 = .ok (.iload_n 3, 1) := by decide +kernel
theorem d_X_field_18 : decode b_X_field 18 = .ok (.ldc 108, 2) := by decide +kernel
theorem d_X_field_20 : decode b_X_field 20 = .ok (.if_icmp .le 13, 3) := by decide +kernel
theorem d_X_field_23 : decode b_X_field 23 = .ok (.new 79, 3) := by decide +kernel
theorem d_X_field_26 : decode b_X_field 26 = .ok (.dup, 1) := by decide +kernel
theorem d_X_field_27 : decode b_X_field 27 = .ok (.ldc 109, 2) := by decide +kernel
theorem d_X_field_29 : decode b_X_field 29 = .ok (.invokespecial 83, 3) := by decide +kernel
theorem d_X_field_32 : decode b_X_field 32 = .ok (.athrow, 1) := by decide +kernel
theorem d_X_field_33 : decode b_X_field 33 = .ok (.aload 4, 2) := by decide +kernel
theorem d_X_field_35 : decode b_X_field 35 = .ok (.iload_n 2, 1) := by decide +kernel
theorem d_X_field_36 : decode b_X_field 36 = .ok (.invokevirtual 111, 3) := by decide +kernel
theorem d_X_field_39 : decode b_X_field 39 = .ok (.ifCond .ne 13, 3) := by decide +kernel
theorem d_X_field_42 : decode b_X_field 42 = .ok (.new 115, 3) := by decide +kernel
theorem d_X_field_45 : decode b_X_field 45 = .ok (.dup, 1) := by decide +kernel
theorem d_X_field_46 : decode b_X_field 46 = .ok (.ldc 117, 2) := by decide +kernel
theorem d_X_field_48 : decode b_X_field 48 = .ok (.invokespecial 119, 3) := by decide +kernel
theorem d_X_field_51 : decode b_X_field 51 = .ok (.athrow, 1) := by decide +kernel
theorem d_X_field_52 : decode b_X_field 52 = .ok (.aload 4, 2) := by decide +kernel
theorem d_X_field_54 : decode b_X_field 54 = .ok (.iload_n 2, 1) := by decide +kernel
theorem d_X_field_55 : decode b_X_field 55 = .ok (.iload_n 3, 1) := by decide +kernel
theorem d_X_field_56 : decode b_X_field 56 = .ok (.invokevirtual 120, 3) := by decide +kernel
theorem d_X_field_59 : decode b_X_field 59 = .ok (.return_, 1) := by decide +kernel
def y_X_act : MethodName := ⟨cR0, "act", "(III)Z"⟩
abbrev b_X_act : ByteArray := prog_1_method_5_code
abbrev k_X_act : Cond := .code y_X_act b_X_act 5 (some .boolean)
theorem mc_X_act : MC y_X_act k_X_act b_X_act 5 (some .boolean) [] 3 := ⟨g_in (List.mem_of_getElem? (i := 454) (by decide +kernel)) (by decide +kernel), Or.inl ⟨rfl, rfl⟩, g_in (List.mem_of_getElem? (i := 57) (by decide +kernel)) (by decide +kernel), by decide, by decide +kernel⟩
theorem in_X_act : Cond.instanceMethod y_X_act ∈ g_ws := g_in (List.mem_of_getElem? (i := 452) (by decide +kernel)) (by decide +kernel)
theorem se_X_act : Cond.selects cR0 y_X_act y_X_act ∈ g_ws := g_in (List.mem_of_getElem? (i := 453) (by decide +kernel)) (by decide +kernel)
theorem d_X_act_0 : decode b_X_act 0 = .ok (.aload_n 0, 1) := by decide +kernel
theorem d_X_act_1 : decode b_X_act 1 = .ok (.iload_n 1, 1) := by decide +kernel
theorem d_X_act_2 : decode b_X_act 2 = .ok (.invokevirtual 103, 3) := by decide +kernel
theorem d_X_act_5 : decode b_X_act 5 = .ok (.astore 4, 2) := by decide +kernel
theorem d_X_act_7 : decode b_X_act 7 = .ok (.iload_n 2, 1) := by decide +kernel
theorem d_X_act_8 : decode b_X_act 8 = .ok (.ifCond .lt 9, 3) := by decide +kernel
theorem d_X_act_11 : decode b_X_act 11 = .ok (.iload_n 2, 1) := by decide +kernel
theorem d_X_act_12 : decode b_X_act 12 = .ok (.bipush 10, 2) := by decide +kernel
theorem d_X_act_14 : decode b_X_act 14 = .ok (.if_icmp .lt 13, 3) := by decide +kernel
theorem d_X_act_17 : decode b_X_act 17 = .ok (.new 124, 3) := by decide +kernel
theorem d_X_act_20 : decode b_X_act 20 = .ok (.dup, 1) := by decide +kernel
theorem d_X_act_21 : decode b_X_act 21 = .ok (.ldc 126, 2) := by decide +kernel
theorem d_X_act_23 : decode b_X_act 23 = .ok (.invokespecial 128, 3) := by decide +kernel
theorem d_X_act_26 : decode b_X_act 26 = .ok (.athrow, 1) := by decide +kernel
theorem d_X_act_27 : decode b_X_act 27 = .ok (.iload_n 3, 1) := by decide +kernel
theorem d_X_act_28 : decode b_X_act 28 = .ok (.ifCond .lt 11, 3) := by decide +kernel
theorem d_X_act_31 : decode b_X_act 31 = .ok (.iload_n 3, 1) := by decide +kernel
theorem d_X_act_32 : decode b_X_act 32 = .ok (.aload_n 0, 1) := by decide +kernel
theorem d_X_act_33 : decode b_X_act 33 = .ok (.getfield 26, 3) := by decide +kernel
theorem d_X_act_36 : decode b_X_act 36 = .ok (.if_icmp .le 13, 3) := by decide +kernel
theorem d_X_act_39 : decode b_X_act 39 = .ok (.new 79, 3) := by decide +kernel
theorem d_X_act_42 : decode b_X_act 42 = .ok (.dup, 1) := by decide +kernel
theorem d_X_act_43 : decode b_X_act 43 = .ok (.ldc 129, 2) := by decide +kernel
theorem d_X_act_45 : decode b_X_act 45 = .ok (.invokespecial 83, 3) := by decide +kernel
theorem d_X_act_48 : decode b_X_act 48 = .ok (.athrow, 1) := by decide +kernel
theorem d_X_act_49 : decode b_X_act 49 = .ok (.aload 4, 2) := by decide +kernel
theorem d_X_act_51 : decode b_X_act 51 = .ok (.invokestatic 131, 3) := by decide +kernel
theorem d_X_act_54 : decode b_X_act 54 = .ok (.aload 4, 2) := by decide +kernel
theorem d_X_act_56 : decode b_X_act 56 = .ok (.iload_n 2, 1) := by decide +kernel
theorem d_X_act_57 : decode b_X_act 57 = .ok (.iload_n 3, 1) := by decide +kernel
theorem d_X_act_58 : decode b_X_act 58 = .ok (.invokevirtual 135, 3) := by decide +kernel
theorem d_X_act_61 : decode b_X_act 61 = .ok (.ireturn, 1) := by decide +kernel
def y_X_inside : MethodName := ⟨cR0, "inside", "(II)V"⟩
abbrev b_X_inside : ByteArray := prog_1_method_6_code
abbrev k_X_inside : Cond := .code y_X_inside b_X_inside 4 none
theorem mc_X_inside : MC y_X_inside k_X_inside b_X_inside 4 none [] 2 := ⟨g_in (List.mem_of_getElem? (i := 471) (by decide +kernel)) (by decide +kernel), Or.inl ⟨rfl, rfl⟩, g_in (List.mem_of_getElem? (i := 57) (by decide +kernel)) (by decide +kernel), by decide, by decide +kernel⟩
theorem in_X_inside : Cond.instanceMethod y_X_inside ∈ g_ws := g_in (List.mem_of_getElem? (i := 469) (by decide +kernel)) (by decide +kernel)
theorem se_X_inside : Cond.selects cR0 y_X_inside y_X_inside ∈ g_ws := g_in (List.mem_of_getElem? (i := 470) (by decide +kernel)) (by decide +kernel)
theorem d_X_inside_0 : decode b_X_inside 0 = .ok (.aload_n 0, 1) := by decide +kernel
theorem d_X_inside_1 : decode b_X_inside 1 = .ok (.iload_n 1, 1) := by decide +kernel
theorem d_X_inside_2 : decode b_X_inside 2 = .ok (.invokevirtual 103, 3) := by decide +kernel
theorem d_X_inside_5 : decode b_X_inside 5 = .ok (.astore_n 3, 1) := by decide +kernel
theorem d_X_inside_6 : decode b_X_inside 6 = .ok (.iload_n 2, 1) := by decide +kernel
theorem d_X_inside_7 : decode b_X_inside 7 = .ok (.ifCond .lt 9, 3) := by decide +kernel
theorem d_X_inside_10 : decode b_X_inside 10 = .ok (.iload_n 2, 1) := by decide +kernel
theorem d_X_inside_11 : decode b_X_inside 11 = .ok (.bipush 99, 2) := by decide +kernel
theorem d_X_inside_13 : decode b_X_inside 13 = .ok (.if_icmp .le 13, 3) := by decide +kernel
theorem d_X_inside_16 : decode b_X_inside 16 = .ok (.new 79, 3) := by decide +kernel
theorem d_X_inside_19 : decode b_X_inside 19 = .ok (.dup, 1) := by decide +kernel
theorem d_X_inside_20 : decode b_X_inside 20 = .ok (.ldc 139, 2) := by decide +kernel
theorem d_X_inside_22 : decode b_X_inside 22 = .ok (.invokespecial 83, 3) := by decide +kernel
theorem d_X_inside_25 : decode b_X_inside 25 = .ok (.athrow, 1) := by decide +kernel
theorem d_X_inside_26 : decode b_X_inside 26 = .ok (.aload_n 3, 1) := by decide +kernel
theorem d_X_inside_27 : decode b_X_inside 27 = .ok (.invokestatic 131, 3) := by decide +kernel
theorem d_X_inside_30 : decode b_X_inside 30 = .ok (.aload_n 3, 1) := by decide +kernel
theorem d_X_inside_31 : decode b_X_inside 31 = .ok (.iload_n 2, 1) := by decide +kernel
theorem d_X_inside_32 : decode b_X_inside 32 = .ok (.putfield 141, 3) := by decide +kernel
theorem d_X_inside_35 : decode b_X_inside 35 = .ok (.return_, 1) := by decide +kernel
def y_X_sign : MethodName := ⟨cR0, "sign", "(JI)I"⟩
abbrev b_X_sign : ByteArray := prog_1_method_7_code
abbrev k_X_sign : Cond := .code y_X_sign b_X_sign 5 (some .int)
theorem mc_X_sign : MC y_X_sign k_X_sign b_X_sign 5 (some .int) [] 2 := ⟨g_in (List.mem_of_getElem? (i := 479) (by decide +kernel)) (by decide +kernel), Or.inl ⟨rfl, rfl⟩, g_in (List.mem_of_getElem? (i := 57) (by decide +kernel)) (by decide +kernel), by decide, by decide +kernel⟩
theorem in_X_sign : Cond.instanceMethod y_X_sign ∈ g_ws := g_in (List.mem_of_getElem? (i := 477) (by decide +kernel)) (by decide +kernel)
theorem se_X_sign : Cond.selects cR0 y_X_sign y_X_sign ∈ g_ws := g_in (List.mem_of_getElem? (i := 478) (by decide +kernel)) (by decide +kernel)
theorem d_X_sign_0 : decode b_X_sign 0 = .ok (.iload_n 3, 1) := by decide +kernel
theorem d_X_sign_1 : decode b_X_sign 1 = .ok (.iconst 1, 1) := by decide +kernel
theorem d_X_sign_2 : decode b_X_sign 2 = .ok (.if_icmp .lt 9, 3) := by decide +kernel
theorem d_X_sign_5 : decode b_X_sign 5 = .ok (.iload_n 3, 1) := by decide +kernel
theorem d_X_sign_6 : decode b_X_sign 6 = .ok (.bipush 8, 2) := by decide +kernel
theorem d_X_sign_8 : decode b_X_sign 8 = .ok (.if_icmp .le 13, 3) := by decide +kernel
theorem d_X_sign_11 : decode b_X_sign 11 = .ok (.new 79, 3) := by decide +kernel
theorem d_X_sign_14 : decode b_X_sign 14 = .ok (.dup, 1) := by decide +kernel
theorem d_X_sign_15 : decode b_X_sign 15 = .ok (.ldc 144, 2) := by decide +kernel
theorem d_X_sign_17 : decode b_X_sign 17 = .ok (.invokespecial 83, 3) := by decide +kernel
theorem d_X_sign_20 : decode b_X_sign 20 = .ok (.athrow, 1) := by decide +kernel
theorem d_X_sign_21 : decode b_X_sign 21 = .ok (.aload_n 0, 1) := by decide +kernel
theorem d_X_sign_22 : decode b_X_sign 22 = .ok (.getfield 33, 3) := by decide +kernel
theorem d_X_sign_25 : decode b_X_sign 25 = .ok (.iload_n 3, 1) := by decide +kernel
theorem d_X_sign_26 : decode b_X_sign 26 = .ok (.iadd, 1) := by decide +kernel
theorem d_X_sign_27 : decode b_X_sign 27 = .ok (.sipush 300, 3) := by decide +kernel
theorem d_X_sign_30 : decode b_X_sign 30 = .ok (.if_icmp .le 13, 3) := by decide +kernel
theorem d_X_sign_33 : decode b_X_sign 33 = .ok (.new 146, 3) := by decide +kernel
theorem d_X_sign_36 : decode b_X_sign 36 = .ok (.dup, 1) := by decide +kernel
theorem d_X_sign_37 : decode b_X_sign 37 = .ok (.ldc 148, 2) := by decide +kernel
theorem d_X_sign_39 : decode b_X_sign 39 = .ok (.invokespecial 150, 3) := by decide +kernel
theorem d_X_sign_42 : decode b_X_sign 42 = .ok (.athrow, 1) := by decide +kernel
theorem d_X_sign_43 : decode b_X_sign 43 = .ok (.iload_n 3, 1) := by decide +kernel
theorem d_X_sign_44 : decode b_X_sign 44 = .ok (.iconst 1, 1) := by decide +kernel
theorem d_X_sign_45 : decode b_X_sign 45 = .ok (.isub, 1) := by decide +kernel
theorem d_X_sign_46 : decode b_X_sign 46 = .ok (.istore 4, 2) := by decide +kernel
theorem d_X_sign_48 : decode b_X_sign 48 = .ok (.iload 4, 2) := by decide +kernel
theorem d_X_sign_50 : decode b_X_sign 50 = .ok (.ifCond .lt 37, 3) := by decide +kernel
theorem d_X_sign_53 : decode b_X_sign 53 = .ok (.aload_n 0, 1) := by decide +kernel
theorem d_X_sign_54 : decode b_X_sign 54 = .ok (.getfield 29, 3) := by decide +kernel
theorem d_X_sign_57 : decode b_X_sign 57 = .ok (.aload_n 0, 1) := by decide +kernel
theorem d_X_sign_58 : decode b_X_sign 58 = .ok (.getfield 33, 3) := by decide +kernel
theorem d_X_sign_61 : decode b_X_sign 61 = .ok (.lload_n 1, 1) := by decide +kernel
theorem d_X_sign_62 : decode b_X_sign 62 = .ok (.bipush 8, 2) := by decide +kernel
theorem d_X_sign_64 : decode b_X_sign 64 = .ok (.iload 4, 2) := by decide +kernel
theorem d_X_sign_66 : decode b_X_sign 66 = .ok (.imul, 1) := by decide +kernel
theorem d_X_sign_67 : decode b_X_sign 67 = .ok (.lushr, 1) := by decide +kernel
theorem d_X_sign_68 : decode b_X_sign 68 = .ok (.l2i, 1) := by decide +kernel
theorem d_X_sign_69 : decode b_X_sign 69 = .ok (.i2b, 1) := by decide +kernel
theorem d_X_sign_70 : decode b_X_sign 70 = .ok (.bastore, 1) := by decide +kernel
theorem d_X_sign_71 : decode b_X_sign 71 = .ok (.aload_n 0, 1) := by decide +kernel
theorem d_X_sign_72 : decode b_X_sign 72 = .ok (.dup, 1) := by decide +kernel
theorem d_X_sign_73 : decode b_X_sign 73 = .ok (.getfield 33, 3) := by decide +kernel
theorem d_X_sign_76 : decode b_X_sign 76 = .ok (.iconst 1, 1) := by decide +kernel
theorem d_X_sign_77 : decode b_X_sign 77 = .ok (.iadd, 1) := by decide +kernel
theorem d_X_sign_78 : decode b_X_sign 78 = .ok (.putfield 33, 3) := by decide +kernel
theorem d_X_sign_81 : decode b_X_sign 81 = .ok (.iinc 4 (-1), 3) := by decide +kernel
theorem d_X_sign_84 : decode b_X_sign 84 = .ok (.goto (-36), 3) := by decide +kernel
theorem d_X_sign_87 : decode b_X_sign 87 = .ok (.aload_n 0, 1) := by decide +kernel
theorem d_X_sign_88 : decode b_X_sign 88 = .ok (.getfield 33, 3) := by decide +kernel
theorem d_X_sign_91 : decode b_X_sign 91 = .ok (.ireturn, 1) := by decide +kernel
def y_X_rules : MethodName := ⟨cR0, "rules", "()I"⟩
abbrev b_X_rules : ByteArray := prog_1_method_8_code
abbrev k_X_rules : Cond := .code y_X_rules b_X_rules 2 (some .int)
theorem mc_X_rules : MC y_X_rules k_X_rules b_X_rules 2 (some .int) [] 0 := ⟨g_in (List.mem_of_getElem? (i := 488) (by decide +kernel)) (by decide +kernel), Or.inl ⟨rfl, rfl⟩, g_in (List.mem_of_getElem? (i := 57) (by decide +kernel)) (by decide +kernel), by decide, by decide +kernel⟩
theorem in_X_rules : Cond.instanceMethod y_X_rules ∈ g_ws := g_in (List.mem_of_getElem? (i := 486) (by decide +kernel)) (by decide +kernel)
theorem se_X_rules : Cond.selects cR0 y_X_rules y_X_rules ∈ g_ws := g_in (List.mem_of_getElem? (i := 487) (by decide +kernel)) (by decide +kernel)
theorem d_X_rules_0 : decode b_X_rules 0 = .ok (.aload_n 0, 1) := by decide +kernel
theorem d_X_rules_1 : decode b_X_rules 1 = .ok (.aload_n 0, 1) := by decide +kernel
theorem d_X_rules_2 : decode b_X_rules 2 = .ok (.getfield 41, 3) := by decide +kernel
theorem d_X_rules_5 : decode b_X_rules 5 = .ok (.aload_n 0, 1) := by decide +kernel
theorem d_X_rules_6 : decode b_X_rules 6 = .ok (.getfield 52, 3) := by decide +kernel
theorem d_X_rules_9 : decode b_X_rules 9 = .ok (.aload_n 0, 1) := by decide +kernel
theorem d_X_rules_10 : decode b_X_rules 10 = .ok (.getfield 33, 3) := by decide +kernel
theorem d_X_rules_13 : decode b_X_rules 13 = .ok (.invokevirtual 151, 3) := by decide +kernel
theorem d_X_rules_16 : decode b_X_rules 16 = .ok (.putfield 55, 3) := by decide +kernel
theorem d_X_rules_19 : decode b_X_rules 19 = .ok (.aload_n 0, 1) := by decide +kernel
theorem d_X_rules_20 : decode b_X_rules 20 = .ok (.iconst 0, 1) := by decide +kernel
theorem d_X_rules_21 : decode b_X_rules 21 = .ok (.putfield 33, 3) := by decide +kernel
theorem d_X_rules_24 : decode b_X_rules 24 = .ok (.aload_n 0, 1) := by decide +kernel
theorem d_X_rules_25 : decode b_X_rules 25 = .ok (.getfield 55, 3) := by decide +kernel
theorem d_X_rules_28 : decode b_X_rules 28 = .ok (.iconst (-1), 1) := by decide +kernel
theorem d_X_rules_29 : decode b_X_rules 29 = .ok (.if_icmp .eq 13, 3) := by decide +kernel
theorem d_X_rules_32 : decode b_X_rules 32 = .ok (.new 115, 3) := by decide +kernel
theorem d_X_rules_35 : decode b_X_rules 35 = .ok (.dup, 1) := by decide +kernel
theorem d_X_rules_36 : decode b_X_rules 36 = .ok (.ldc 155, 2) := by decide +kernel
theorem d_X_rules_38 : decode b_X_rules 38 = .ok (.invokespecial 119, 3) := by decide +kernel
theorem d_X_rules_41 : decode b_X_rules 41 = .ok (.athrow, 1) := by decide +kernel
theorem d_X_rules_42 : decode b_X_rules 42 = .ok (.aload_n 0, 1) := by decide +kernel
theorem d_X_rules_43 : decode b_X_rules 43 = .ok (.getfield 48, 3) := by decide +kernel
theorem d_X_rules_46 : decode b_X_rules 46 = .ok (.astore_n 1, 1) := by decide +kernel
theorem d_X_rules_47 : decode b_X_rules 47 = .ok (.aload_n 0, 1) := by decide +kernel
theorem d_X_rules_48 : decode b_X_rules 48 = .ok (.aload_n 0, 1) := by decide +kernel
theorem d_X_rules_49 : decode b_X_rules 49 = .ok (.getfield 52, 3) := by decide +kernel
theorem d_X_rules_52 : decode b_X_rules 52 = .ok (.putfield 48, 3) := by decide +kernel
theorem d_X_rules_55 : decode b_X_rules 55 = .ok (.aload_n 0, 1) := by decide +kernel
theorem d_X_rules_56 : decode b_X_rules 56 = .ok (.aload_n 1, 1) := by decide +kernel
theorem d_X_rules_57 : decode b_X_rules 57 = .ok (.putfield 52, 3) := by decide +kernel
theorem d_X_rules_60 : decode b_X_rules 60 = .ok (.aload_n 0, 1) := by decide +kernel
theorem d_X_rules_61 : decode b_X_rules 61 = .ok (.getfield 48, 3) := by decide +kernel
theorem d_X_rules_64 : decode b_X_rules 64 = .ok (.getfield 157, 3) := by decide +kernel
theorem d_X_rules_67 : decode b_X_rules 67 = .ok (.ireturn, 1) := by decide +kernel
def y_X_place : MethodName := ⟨cR0, "place", "()I"⟩
abbrev b_X_place : ByteArray := prog_1_method_9_code
abbrev k_X_place : Cond := .code y_X_place b_X_place 1 (some .int)
theorem mc_X_place : MC y_X_place k_X_place b_X_place 1 (some .int) [] 0 := ⟨g_in (List.mem_of_getElem? (i := 215) (by decide +kernel)) (by decide +kernel), Or.inl ⟨rfl, rfl⟩, g_in (List.mem_of_getElem? (i := 57) (by decide +kernel)) (by decide +kernel), by decide, by decide +kernel⟩
theorem in_X_place : Cond.instanceMethod y_X_place ∈ g_ws := g_in (List.mem_of_getElem? (i := 213) (by decide +kernel)) (by decide +kernel)
theorem se_X_place : Cond.selects cR0 y_X_place y_X_place ∈ g_ws := g_in (List.mem_of_getElem? (i := 214) (by decide +kernel)) (by decide +kernel)
theorem d_X_place_0 : decode b_X_place 0 = .ok (.aload_n 0, 1) := by decide +kernel
theorem d_X_place_1 : decode b_X_place 1 = .ok (.getfield 55, 3) := by decide +kernel
theorem d_X_place_4 : decode b_X_place 4 = .ok (.ireturn, 1) := by decide +kernel
def y_X_check : MethodName := ⟨cR0, "check", "(I)I"⟩
abbrev b_X_check : ByteArray := prog_1_method_10_code
abbrev k_X_check : Cond := .code y_X_check b_X_check 2 (some .int)
theorem mc_X_check : MC y_X_check k_X_check b_X_check 2 (some .int) [] 1 := ⟨g_in (List.mem_of_getElem? (i := 549) (by decide +kernel)) (by decide +kernel), Or.inl ⟨rfl, rfl⟩, g_in (List.mem_of_getElem? (i := 57) (by decide +kernel)) (by decide +kernel), by decide, by decide +kernel⟩
theorem in_X_check : Cond.instanceMethod y_X_check ∈ g_ws := g_in (List.mem_of_getElem? (i := 547) (by decide +kernel)) (by decide +kernel)
theorem se_X_check : Cond.selects cR0 y_X_check y_X_check ∈ g_ws := g_in (List.mem_of_getElem? (i := 548) (by decide +kernel)) (by decide +kernel)
theorem d_X_check_0 : decode b_X_check 0 = .ok (.aload_n 0, 1) := by decide +kernel
theorem d_X_check_1 : decode b_X_check 1 = .ok (.aload_n 0, 1) := by decide +kernel
theorem d_X_check_2 : decode b_X_check 2 = .ok (.iload_n 1, 1) := by decide +kernel
theorem d_X_check_3 : decode b_X_check 3 = .ok (.invokevirtual 103, 3) := by decide +kernel
theorem d_X_check_6 : decode b_X_check 6 = .ok (.aload_n 0, 1) := by decide +kernel
theorem d_X_check_7 : decode b_X_check 7 = .ok (.getfield 61, 3) := by decide +kernel
theorem d_X_check_10 : decode b_X_check 10 = .ok (.invokevirtual 160, 3) := by decide +kernel
theorem d_X_check_13 : decode b_X_check 13 = .ok (.aload_n 0, 1) := by decide +kernel
theorem d_X_check_14 : decode b_X_check 14 = .ok (.getfield 61, 3) := by decide +kernel
theorem d_X_check_17 : decode b_X_check 17 = .ok (.getfield 164, 3) := by decide +kernel
theorem d_X_check_20 : decode b_X_check 20 = .ok (.ireturn, 1) := by decide +kernel
def y_X_wanting : MethodName := ⟨cR0, "wanting", "(II)I"⟩
abbrev b_X_wanting : ByteArray := prog_1_method_11_code
abbrev k_X_wanting : Cond := .code y_X_wanting b_X_wanting 3 (some .int)
theorem mc_X_wanting : MC y_X_wanting k_X_wanting b_X_wanting 3 (some .int) [] 2 := ⟨g_in (List.mem_of_getElem? (i := 580) (by decide +kernel)) (by decide +kernel), Or.inl ⟨rfl, rfl⟩, g_in (List.mem_of_getElem? (i := 57) (by decide +kernel)) (by decide +kernel), by decide, by decide +kernel⟩
theorem in_X_wanting : Cond.instanceMethod y_X_wanting ∈ g_ws := g_in (List.mem_of_getElem? (i := 578) (by decide +kernel)) (by decide +kernel)
theorem se_X_wanting : Cond.selects cR0 y_X_wanting y_X_wanting ∈ g_ws := g_in (List.mem_of_getElem? (i := 579) (by decide +kernel)) (by decide +kernel)
theorem d_X_wanting_0 : decode b_X_wanting 0 = .ok (.iload_n 1, 1) := by decide +kernel
theorem d_X_wanting_1 : decode b_X_wanting 1 = .ok (.ifCond .lt 14, 3) := by decide +kernel
theorem d_X_wanting_4 : decode b_X_wanting 4 = .ok (.iload_n 1, 1) := by decide +kernel
theorem d_X_wanting_5 : decode b_X_wanting 5 = .ok (.aload_n 0, 1) := by decide +kernel
theorem d_X_wanting_6 : decode b_X_wanting 6 = .ok (.getfield 61, 3) := by decide +kernel
theorem d_X_wanting_9 : decode b_X_wanting 9 = .ok (.getfield 164, 3) := by decide +kernel
theorem d_X_wanting_12 : decode b_X_wanting 12 = .ok (.if_icmp .lt 13, 3) := by decide +kernel
theorem d_X_wanting_15 : decode b_X_wanting 15 = .ok (.new 124, 3) := by decide +kernel
theorem d_X_wanting_18 : decode b_X_wanting 18 = .ok (.dup, 1) := by decide +kernel
theorem d_X_wanting_19 : decode b_X_wanting 19 = .ok (.ldc 165, 2) := by decide +kernel
theorem d_X_wanting_21 : decode b_X_wanting 21 = .ok (.invokespecial 128, 3) := by decide +kernel
theorem d_X_wanting_24 : decode b_X_wanting 24 = .ok (.athrow, 1) := by decide +kernel
theorem d_X_wanting_25 : decode b_X_wanting 25 = .ok (.iload_n 2, 1) := by decide +kernel
theorem d_X_wanting_26 : decode b_X_wanting 26 = .ok (.lookupswitch 46 #[(0, 26), (1, 36)], 26) := by decide +kernel
theorem d_X_wanting_52 : decode b_X_wanting 52 = .ok (.aload_n 0, 1) := by decide +kernel
theorem d_X_wanting_53 : decode b_X_wanting 53 = .ok (.getfield 61, 3) := by decide +kernel
theorem d_X_wanting_56 : decode b_X_wanting 56 = .ok (.getfield 167, 3) := by decide +kernel
theorem d_X_wanting_59 : decode b_X_wanting 59 = .ok (.iload_n 1, 1) := by decide +kernel
theorem d_X_wanting_60 : decode b_X_wanting 60 = .ok (.iaload, 1) := by decide +kernel
theorem d_X_wanting_61 : decode b_X_wanting 61 = .ok (.ireturn, 1) := by decide +kernel
theorem d_X_wanting_62 : decode b_X_wanting 62 = .ok (.aload_n 0, 1) := by decide +kernel
theorem d_X_wanting_63 : decode b_X_wanting 63 = .ok (.getfield 61, 3) := by decide +kernel
theorem d_X_wanting_66 : decode b_X_wanting 66 = .ok (.getfield 170, 3) := by decide +kernel
theorem d_X_wanting_69 : decode b_X_wanting 69 = .ok (.iload_n 1, 1) := by decide +kernel
theorem d_X_wanting_70 : decode b_X_wanting 70 = .ok (.iaload, 1) := by decide +kernel
theorem d_X_wanting_71 : decode b_X_wanting 71 = .ok (.ireturn, 1) := by decide +kernel
theorem d_X_wanting_72 : decode b_X_wanting 72 = .ok (.new 124, 3) := by decide +kernel
theorem d_X_wanting_75 : decode b_X_wanting 75 = .ok (.dup, 1) := by decide +kernel
theorem d_X_wanting_76 : decode b_X_wanting 76 = .ok (.ldc 173, 2) := by decide +kernel
theorem d_X_wanting_78 : decode b_X_wanting 78 = .ok (.invokespecial 128, 3) := by decide +kernel
theorem d_X_wanting_81 : decode b_X_wanting 81 = .ok (.athrow, 1) := by decide +kernel
def y_X_put : MethodName := ⟨cR0, "put", "(II)I"⟩
abbrev b_X_put : ByteArray := prog_1_method_12_code
abbrev k_X_put : Cond := .code y_X_put b_X_put 4 (some .int)
theorem mc_X_put : MC y_X_put k_X_put b_X_put 4 (some .int) [] 2 := ⟨g_in (List.mem_of_getElem? (i := 589) (by decide +kernel)) (by decide +kernel), Or.inl ⟨rfl, rfl⟩, g_in (List.mem_of_getElem? (i := 57) (by decide +kernel)) (by decide +kernel), by decide, by decide +kernel⟩
theorem in_X_put : Cond.instanceMethod y_X_put ∈ g_ws := g_in (List.mem_of_getElem? (i := 587) (by decide +kernel)) (by decide +kernel)
theorem se_X_put : Cond.selects cR0 y_X_put y_X_put ∈ g_ws := g_in (List.mem_of_getElem? (i := 588) (by decide +kernel)) (by decide +kernel)
theorem d_X_put_0 : decode b_X_put 0 = .ok (.aload_n 0, 1) := by decide +kernel
theorem d_X_put_1 : decode b_X_put 1 = .ok (.iload_n 1, 1) := by decide +kernel
theorem d_X_put_2 : decode b_X_put 2 = .ok (.invokevirtual 103, 3) := by decide +kernel
theorem d_X_put_5 : decode b_X_put 5 = .ok (.astore_n 3, 1) := by decide +kernel
theorem d_X_put_6 : decode b_X_put 6 = .ok (.iload_n 2, 1) := by decide +kernel
theorem d_X_put_7 : decode b_X_put 7 = .ok (.invokestatic 175, 3) := by decide +kernel
theorem d_X_put_10 : decode b_X_put 10 = .ok (.aload_n 0, 1) := by decide +kernel
theorem d_X_put_11 : decode b_X_put 11 = .ok (.aload_n 3, 1) := by decide +kernel
theorem d_X_put_12 : decode b_X_put 12 = .ok (.aload_n 0, 1) := by decide +kernel
theorem d_X_put_13 : decode b_X_put 13 = .ok (.getfield 65, 3) := by decide +kernel
theorem d_X_put_16 : decode b_X_put 16 = .ok (.invokevirtual 160, 3) := by decide +kernel
theorem d_X_put_19 : decode b_X_put 19 = .ok (.aload_n 0, 1) := by decide +kernel
theorem d_X_put_20 : decode b_X_put 20 = .ok (.getfield 65, 3) := by decide +kernel
theorem d_X_put_23 : decode b_X_put 23 = .ok (.getfield 164, 3) := by decide +kernel
theorem d_X_put_26 : decode b_X_put 26 = .ok (.ifCond .gt 11, 3) := by decide +kernel
theorem d_X_put_29 : decode b_X_put 29 = .ok (.aload_n 3, 1) := by decide +kernel
theorem d_X_put_30 : decode b_X_put 30 = .ok (.iload_n 2, 1) := by decide +kernel
theorem d_X_put_31 : decode b_X_put 31 = .ok (.invokevirtual 178, 3) := by decide +kernel
theorem d_X_put_34 : decode b_X_put 34 = .ok (.ifCond .ne 13, 3) := by decide +kernel
theorem d_X_put_37 : decode b_X_put 37 = .ok (.new 115, 3) := by decide +kernel
theorem d_X_put_40 : decode b_X_put 40 = .ok (.dup, 1) := by decide +kernel
theorem d_X_put_41 : decode b_X_put 41 = .ok (.ldc 181, 2) := by decide +kernel
theorem d_X_put_43 : decode b_X_put 43 = .ok (.invokespecial 119, 3) := by decide +kernel
theorem d_X_put_46 : decode b_X_put 46 = .ok (.athrow, 1) := by decide +kernel
theorem d_X_put_47 : decode b_X_put 47 = .ok (.aload_n 3, 1) := by decide +kernel
theorem d_X_put_48 : decode b_X_put 48 = .ok (.iload_n 2, 1) := by decide +kernel
theorem d_X_put_49 : decode b_X_put 49 = .ok (.invokevirtual 183, 3) := by decide +kernel
theorem d_X_put_52 : decode b_X_put 52 = .ok (.aload_n 3, 1) := by decide +kernel
theorem d_X_put_53 : decode b_X_put 53 = .ok (.getfield 186, 3) := by decide +kernel
theorem d_X_put_56 : decode b_X_put 56 = .ok (.ireturn, 1) := by decide +kernel
def y_X_edition : MethodName := ⟨cR0, "edition", "(I)I"⟩
abbrev b_X_edition : ByteArray := prog_1_method_13_code
abbrev k_X_edition : Cond := .code y_X_edition b_X_edition 4 (some .int)
theorem mc_X_edition : MC y_X_edition k_X_edition b_X_edition 4 (some .int) [] 1 := ⟨g_in (List.mem_of_getElem? (i := 617) (by decide +kernel)) (by decide +kernel), Or.inl ⟨rfl, rfl⟩, g_in (List.mem_of_getElem? (i := 57) (by decide +kernel)) (by decide +kernel), by decide, by decide +kernel⟩
theorem in_X_edition : Cond.instanceMethod y_X_edition ∈ g_ws := g_in (List.mem_of_getElem? (i := 615) (by decide +kernel)) (by decide +kernel)
theorem se_X_edition : Cond.selects cR0 y_X_edition y_X_edition ∈ g_ws := g_in (List.mem_of_getElem? (i := 616) (by decide +kernel)) (by decide +kernel)
theorem d_X_edition_0 : decode b_X_edition 0 = .ok (.aload_n 0, 1) := by decide +kernel
theorem d_X_edition_1 : decode b_X_edition 1 = .ok (.iload_n 1, 1) := by decide +kernel
theorem d_X_edition_2 : decode b_X_edition 2 = .ok (.invokevirtual 103, 3) := by decide +kernel
theorem d_X_edition_5 : decode b_X_edition 5 = .ok (.astore_n 2, 1) := by decide +kernel
theorem d_X_edition_6 : decode b_X_edition 6 = .ok (.aload_n 2, 1) := by decide +kernel
theorem d_X_edition_7 : decode b_X_edition 7 = .ok (.invokestatic 189, 3) := by decide +kernel
theorem d_X_edition_10 : decode b_X_edition 10 = .ok (.aload_n 0, 1) := by decide +kernel
theorem d_X_edition_11 : decode b_X_edition 11 = .ok (.invokevirtual 86, 3) := by decide +kernel
theorem d_X_edition_14 : decode b_X_edition 14 = .ok (.new 9, 3) := by decide +kernel
theorem d_X_edition_17 : decode b_X_edition 17 = .ok (.dup, 1) := by decide +kernel
theorem d_X_edition_18 : decode b_X_edition 18 = .ok (.aload_n 2, 1) := by decide +kernel
theorem d_X_edition_19 : decode b_X_edition 19 = .ok (.getfield 192, 3) := by decide +kernel
theorem d_X_edition_22 : decode b_X_edition 22 = .ok (.aload_n 2, 1) := by decide +kernel
theorem d_X_edition_23 : decode b_X_edition 23 = .ok (.getfield 195, 3) := by decide +kernel
theorem d_X_edition_26 : decode b_X_edition 26 = .ok (.aload_n 0, 1) := by decide +kernel
theorem d_X_edition_27 : decode b_X_edition 27 = .ok (.getfield 26, 3) := by decide +kernel
theorem d_X_edition_30 : decode b_X_edition 30 = .ok (.iload_n 1, 1) := by decide +kernel
theorem d_X_edition_31 : decode b_X_edition 31 = .ok (.invokespecial 89, 3) := by decide +kernel
theorem d_X_edition_34 : decode b_X_edition 34 = .ok (.astore_n 3, 1) := by decide +kernel
theorem d_X_edition_35 : decode b_X_edition 35 = .ok (.aload_n 3, 1) := by decide +kernel
theorem d_X_edition_36 : decode b_X_edition 36 = .ok (.aload_n 2, 1) := by decide +kernel
theorem d_X_edition_37 : decode b_X_edition 37 = .ok (.invokevirtual 198, 3) := by decide +kernel
theorem d_X_edition_40 : decode b_X_edition 40 = .ok (.aload_n 0, 1) := by decide +kernel
theorem d_X_edition_41 : decode b_X_edition 41 = .ok (.aload_n 3, 1) := by decide +kernel
theorem d_X_edition_42 : decode b_X_edition 42 = .ok (.invokevirtual 92, 3) := by decide +kernel
theorem d_X_edition_45 : decode b_X_edition 45 = .ok (.ireturn, 1) := by decide +kernel
def y_X_fault : MethodName := ⟨cR0, "fault", "(II)V"⟩
abbrev b_X_fault : ByteArray := prog_1_method_14_code
abbrev k_X_fault : Cond := .code y_X_fault b_X_fault 4 none
theorem mc_X_fault : MC y_X_fault k_X_fault b_X_fault 4 none [] 2 := ⟨g_in (List.mem_of_getElem? (i := 636) (by decide +kernel)) (by decide +kernel), Or.inl ⟨rfl, rfl⟩, g_in (List.mem_of_getElem? (i := 57) (by decide +kernel)) (by decide +kernel), by decide, by decide +kernel⟩
theorem in_X_fault : Cond.instanceMethod y_X_fault ∈ g_ws := g_in (List.mem_of_getElem? (i := 634) (by decide +kernel)) (by decide +kernel)
theorem se_X_fault : Cond.selects cR0 y_X_fault y_X_fault ∈ g_ws := g_in (List.mem_of_getElem? (i := 635) (by decide +kernel)) (by decide +kernel)
theorem d_X_fault_0 : decode b_X_fault 0 = .ok (.aload_n 0, 1) := by decide +kernel
theorem d_X_fault_1 : decode b_X_fault 1 = .ok (.iload_n 1, 1) := by decide +kernel
theorem d_X_fault_2 : decode b_X_fault 2 = .ok (.invokevirtual 103, 3) := by decide +kernel
theorem d_X_fault_5 : decode b_X_fault 5 = .ok (.astore_n 3, 1) := by decide +kernel
theorem d_X_fault_6 : decode b_X_fault 6 = .ok (.iload_n 2, 1) := by decide +kernel
theorem d_X_fault_7 : decode b_X_fault 7 = .ok (.invokestatic 96, 3) := by decide +kernel
theorem d_X_fault_10 : decode b_X_fault 10 = .ok (.aload_n 3, 1) := by decide +kernel
theorem d_X_fault_11 : decode b_X_fault 11 = .ok (.invokestatic 189, 3) := by decide +kernel
theorem d_X_fault_14 : decode b_X_fault 14 = .ok (.aload_n 3, 1) := by decide +kernel
theorem d_X_fault_15 : decode b_X_fault 15 = .ok (.getfield 201, 3) := by decide +kernel
theorem d_X_fault_18 : decode b_X_fault 18 = .ok (.iload_n 2, 1) := by decide +kernel
theorem d_X_fault_19 : decode b_X_fault 19 = .ok (.invokestatic 204, 3) := by decide +kernel
theorem d_X_fault_22 : decode b_X_fault 22 = .ok (.ifCond .eq 13, 3) := by decide +kernel
theorem d_X_fault_25 : decode b_X_fault 25 = .ok (.new 115, 3) := by decide +kernel
theorem d_X_fault_28 : decode b_X_fault 28 = .ok (.dup, 1) := by decide +kernel
theorem d_X_fault_29 : decode b_X_fault 29 = .ok (.ldc 207, 2) := by decide +kernel
theorem d_X_fault_31 : decode b_X_fault 31 = .ok (.invokespecial 119, 3) := by decide +kernel
theorem d_X_fault_34 : decode b_X_fault 34 = .ok (.athrow, 1) := by decide +kernel
theorem d_X_fault_35 : decode b_X_fault 35 = .ok (.aload_n 3, 1) := by decide +kernel
theorem d_X_fault_36 : decode b_X_fault 36 = .ok (.aload_n 3, 1) := by decide +kernel
theorem d_X_fault_37 : decode b_X_fault 37 = .ok (.getfield 201, 3) := by decide +kernel
theorem d_X_fault_40 : decode b_X_fault 40 = .ok (.iload_n 2, 1) := by decide +kernel
theorem d_X_fault_41 : decode b_X_fault 41 = .ok (.iconst 1, 1) := by decide +kernel
theorem d_X_fault_42 : decode b_X_fault 42 = .ok (.invokestatic 99, 3) := by decide +kernel
theorem d_X_fault_45 : decode b_X_fault 45 = .ok (.putfield 201, 3) := by decide +kernel
theorem d_X_fault_48 : decode b_X_fault 48 = .ok (.return_, 1) := by decide +kernel
def y_X_hide : MethodName := ⟨cR0, "hide", "(IIZ)V"⟩
abbrev b_X_hide : ByteArray := prog_1_method_15_code
abbrev k_X_hide : Cond := .code y_X_hide b_X_hide 4 none
theorem mc_X_hide : MC y_X_hide k_X_hide b_X_hide 4 none [] 3 := ⟨g_in (List.mem_of_getElem? (i := 644) (by decide +kernel)) (by decide +kernel), Or.inl ⟨rfl, rfl⟩, g_in (List.mem_of_getElem? (i := 57) (by decide +kernel)) (by decide +kernel), by decide, by decide +kernel⟩
theorem in_X_hide : Cond.instanceMethod y_X_hide ∈ g_ws := g_in (List.mem_of_getElem? (i := 642) (by decide +kernel)) (by decide +kernel)
theorem se_X_hide : Cond.selects cR0 y_X_hide y_X_hide ∈ g_ws := g_in (List.mem_of_getElem? (i := 643) (by decide +kernel)) (by decide +kernel)
theorem d_X_hide_0 : decode b_X_hide 0 = .ok (.iload_n 1, 1) := by decide +kernel
theorem d_X_hide_1 : decode b_X_hide 1 = .ok (.invokestatic 96, 3) := by decide +kernel
theorem d_X_hide_4 : decode b_X_hide 4 = .ok (.iload_n 2, 1) := by decide +kernel
theorem d_X_hide_5 : decode b_X_hide 5 = .ok (.invokestatic 175, 3) := by decide +kernel
theorem d_X_hide_8 : decode b_X_hide 8 = .ok (.aload_n 0, 1) := by decide +kernel
theorem d_X_hide_9 : decode b_X_hide 9 = .ok (.getfield 23, 3) := by decide +kernel
theorem d_X_hide_12 : decode b_X_hide 12 = .ok (.iload_n 2, 1) := by decide +kernel
theorem d_X_hide_13 : decode b_X_hide 13 = .ok (.aload_n 0, 1) := by decide +kernel
theorem d_X_hide_14 : decode b_X_hide 14 = .ok (.getfield 23, 3) := by decide +kernel
theorem d_X_hide_17 : decode b_X_hide 17 = .ok (.iload_n 2, 1) := by decide +kernel
theorem d_X_hide_18 : decode b_X_hide 18 = .ok (.iaload, 1) := by decide +kernel
theorem d_X_hide_19 : decode b_X_hide 19 = .ok (.iload_n 1, 1) := by decide +kernel
theorem d_X_hide_20 : decode b_X_hide 20 = .ok (.iload_n 3, 1) := by decide +kernel
theorem d_X_hide_21 : decode b_X_hide 21 = .ok (.invokestatic 99, 3) := by decide +kernel
theorem d_X_hide_24 : decode b_X_hide 24 = .ok (.iastore, 1) := by decide +kernel
theorem d_X_hide_25 : decode b_X_hide 25 = .ok (.return_, 1) := by decide +kernel
def y_X_code : MethodName := ⟨cR0, "code", "(II)I"⟩
abbrev b_X_code : ByteArray := prog_1_method_16_code
abbrev k_X_code : Cond := .code y_X_code b_X_code 4 (some .int)
theorem mc_X_code : MC y_X_code k_X_code b_X_code 4 (some .int) [] 2 := ⟨g_in (List.mem_of_getElem? (i := 651) (by decide +kernel)) (by decide +kernel), Or.inl ⟨rfl, rfl⟩, g_in (List.mem_of_getElem? (i := 57) (by decide +kernel)) (by decide +kernel), by decide, by decide +kernel⟩
theorem in_X_code : Cond.instanceMethod y_X_code ∈ g_ws := g_in (List.mem_of_getElem? (i := 649) (by decide +kernel)) (by decide +kernel)
theorem se_X_code : Cond.selects cR0 y_X_code y_X_code ∈ g_ws := g_in (List.mem_of_getElem? (i := 650) (by decide +kernel)) (by decide +kernel)
theorem d_X_code_0 : decode b_X_code 0 = .ok (.aload_n 0, 1) := by decide +kernel
theorem d_X_code_1 : decode b_X_code 1 = .ok (.iload_n 1, 1) := by decide +kernel
theorem d_X_code_2 : decode b_X_code 2 = .ok (.invokevirtual 103, 3) := by decide +kernel
theorem d_X_code_5 : decode b_X_code 5 = .ok (.astore_n 3, 1) := by decide +kernel
theorem d_X_code_6 : decode b_X_code 6 = .ok (.iload_n 2, 1) := by decide +kernel
theorem d_X_code_7 : decode b_X_code 7 = .ok (.invokestatic 175, 3) := by decide +kernel
theorem d_X_code_10 : decode b_X_code 10 = .ok (.aload_n 0, 1) := by decide +kernel
theorem d_X_code_11 : decode b_X_code 11 = .ok (.getfield 71, 3) := by decide +kernel
theorem d_X_code_14 : decode b_X_code 14 = .ok (.aload_n 3, 1) := by decide +kernel
theorem d_X_code_15 : decode b_X_code 15 = .ok (.aload_n 0, 1) := by decide +kernel
theorem d_X_code_16 : decode b_X_code 16 = .ok (.getfield 23, 3) := by decide +kernel
theorem d_X_code_19 : decode b_X_code 19 = .ok (.iload_n 2, 1) := by decide +kernel
theorem d_X_code_20 : decode b_X_code 20 = .ok (.iaload, 1) := by decide +kernel
theorem d_X_code_21 : decode b_X_code 21 = .ok (.invokevirtual 209, 3) := by decide +kernel
theorem d_X_code_24 : decode b_X_code 24 = .ok (.aload_n 0, 1) := by decide +kernel
theorem d_X_code_25 : decode b_X_code 25 = .ok (.getfield 71, 3) := by decide +kernel
theorem d_X_code_28 : decode b_X_code 28 = .ok (.getfield 213, 3) := by decide +kernel
theorem d_X_code_31 : decode b_X_code 31 = .ok (.ireturn, 1) := by decide +kernel
def y_X_at : MethodName := ⟨cR0, "at", "(I)I"⟩
abbrev b_X_at : ByteArray := prog_1_method_17_code
abbrev k_X_at : Cond := .code y_X_at b_X_at 2 (some .int)
theorem mc_X_at : MC y_X_at k_X_at b_X_at 2 (some .int) [] 1 := ⟨g_in (List.mem_of_getElem? (i := 678) (by decide +kernel)) (by decide +kernel), Or.inl ⟨rfl, rfl⟩, g_in (List.mem_of_getElem? (i := 57) (by decide +kernel)) (by decide +kernel), by decide, by decide +kernel⟩
theorem in_X_at : Cond.instanceMethod y_X_at ∈ g_ws := g_in (List.mem_of_getElem? (i := 676) (by decide +kernel)) (by decide +kernel)
theorem se_X_at : Cond.selects cR0 y_X_at y_X_at ∈ g_ws := g_in (List.mem_of_getElem? (i := 677) (by decide +kernel)) (by decide +kernel)
theorem d_X_at_0 : decode b_X_at 0 = .ok (.iload_n 1, 1) := by decide +kernel
theorem d_X_at_1 : decode b_X_at 1 = .ok (.ifCond .ge 13, 3) := by decide +kernel
theorem d_X_at_4 : decode b_X_at 4 = .ok (.new 79, 3) := by decide +kernel
theorem d_X_at_7 : decode b_X_at 7 = .ok (.dup, 1) := by decide +kernel
theorem d_X_at_8 : decode b_X_at 8 = .ok (.ldc 216, 2) := by decide +kernel
theorem d_X_at_10 : decode b_X_at 10 = .ok (.invokespecial 83, 3) := by decide +kernel
theorem d_X_at_13 : decode b_X_at 13 = .ok (.athrow, 1) := by decide +kernel
theorem d_X_at_14 : decode b_X_at 14 = .ok (.iload_n 1, 1) := by decide +kernel
theorem d_X_at_15 : decode b_X_at 15 = .ok (.aload_n 0, 1) := by decide +kernel
theorem d_X_at_16 : decode b_X_at 16 = .ok (.getfield 71, 3) := by decide +kernel
theorem d_X_at_19 : decode b_X_at 19 = .ok (.getfield 213, 3) := by decide +kernel
theorem d_X_at_22 : decode b_X_at 22 = .ok (.if_icmp .ge 15, 3) := by decide +kernel
theorem d_X_at_25 : decode b_X_at 25 = .ok (.aload_n 0, 1) := by decide +kernel
theorem d_X_at_26 : decode b_X_at 26 = .ok (.getfield 71, 3) := by decide +kernel
theorem d_X_at_29 : decode b_X_at 29 = .ok (.getfield 218, 3) := by decide +kernel
theorem d_X_at_32 : decode b_X_at 32 = .ok (.iload_n 1, 1) := by decide +kernel
theorem d_X_at_33 : decode b_X_at 33 = .ok (.baload, 1) := by decide +kernel
theorem d_X_at_34 : decode b_X_at 34 = .ok (.goto 4, 3) := by decide +kernel
theorem d_X_at_37 : decode b_X_at 37 = .ok (.iconst (-1), 1) := by decide +kernel
theorem d_X_at_38 : decode b_X_at 38 = .ok (.ireturn, 1) := by decide +kernel
def y_X_late : MethodName := ⟨cR0, "late", "(II)I"⟩
abbrev b_X_late : ByteArray := prog_1_method_18_code
abbrev k_X_late : Cond := .code y_X_late b_X_late 6 (some .int)
theorem mc_X_late : MC y_X_late k_X_late b_X_late 6 (some .int) [] 2 := ⟨g_in (List.mem_of_getElem? (i := 686) (by decide +kernel)) (by decide +kernel), Or.inl ⟨rfl, rfl⟩, g_in (List.mem_of_getElem? (i := 57) (by decide +kernel)) (by decide +kernel), by decide, by decide +kernel⟩
theorem in_X_late : Cond.instanceMethod y_X_late ∈ g_ws := g_in (List.mem_of_getElem? (i := 684) (by decide +kernel)) (by decide +kernel)
theorem se_X_late : Cond.selects cR0 y_X_late y_X_late ∈ g_ws := g_in (List.mem_of_getElem? (i := 685) (by decide +kernel)) (by decide +kernel)
theorem d_X_late_0 : decode b_X_late 0 = .ok (.iload_n 1, 1) := by decide +kernel
theorem d_X_late_1 : decode b_X_late 1 = .ok (.ifCond .lt 13, 3) := by decide +kernel
theorem d_X_late_4 : decode b_X_late 4 = .ok (.iload_n 1, 1) := by decide +kernel
theorem d_X_late_5 : decode b_X_late 5 = .ok (.ldc 108, 2) := by decide +kernel
theorem d_X_late_7 : decode b_X_late 7 = .ok (.if_icmp .gt 7, 3) := by decide +kernel
theorem d_X_late_10 : decode b_X_late 10 = .ok (.iload_n 2, 1) := by decide +kernel
theorem d_X_late_11 : decode b_X_late 11 = .ok (.ifCond .ge 13, 3) := by decide +kernel
theorem d_X_late_14 : decode b_X_late 14 = .ok (.new 79, 3) := by decide +kernel
theorem d_X_late_17 : decode b_X_late 17 = .ok (.dup, 1) := by decide +kernel
theorem d_X_late_18 : decode b_X_late 18 = .ok (.ldc 221, 2) := by decide +kernel
theorem d_X_late_20 : decode b_X_late 20 = .ok (.invokespecial 83, 3) := by decide +kernel
theorem d_X_late_23 : decode b_X_late 23 = .ok (.athrow, 1) := by decide +kernel
theorem d_X_late_24 : decode b_X_late 24 = .ok (.iconst 0, 1) := by decide +kernel
theorem d_X_late_25 : decode b_X_late 25 = .ok (.istore_n 3, 1) := by decide +kernel
theorem d_X_late_26 : decode b_X_late 26 = .ok (.iconst 0, 1) := by decide +kernel
theorem d_X_late_27 : decode b_X_late 27 = .ok (.istore 4, 2) := by decide +kernel
theorem d_X_late_29 : decode b_X_late 29 = .ok (.iload 4, 2) := by decide +kernel
theorem d_X_late_31 : decode b_X_late 31 = .ok (.aload_n 0, 1) := by decide +kernel
theorem d_X_late_32 : decode b_X_late 32 = .ok (.getfield 15, 3) := by decide +kernel
theorem d_X_late_35 : decode b_X_late 35 = .ok (.if_icmp .ge 47, 3) := by decide +kernel
theorem d_X_late_38 : decode b_X_late 38 = .ok (.aload_n 0, 1) := by decide +kernel
theorem d_X_late_39 : decode b_X_late 39 = .ok (.getfield 11, 3) := by decide +kernel
theorem d_X_late_42 : decode b_X_late 42 = .ok (.iload 4, 2) := by decide +kernel
theorem d_X_late_44 : decode b_X_late 44 = .ok (.aaload, 1) := by decide +kernel
theorem d_X_late_45 : decode b_X_late 45 = .ok (.astore 5, 2) := by decide +kernel
theorem d_X_late_47 : decode b_X_late 47 = .ok (.aload 5, 2) := by decide +kernel
theorem d_X_late_49 : decode b_X_late 49 = .ok (.ifnull 27, 3) := by decide +kernel
theorem d_X_late_52 : decode b_X_late 52 = .ok (.aload 5, 2) := by decide +kernel
theorem d_X_late_54 : decode b_X_late 54 = .ok (.aload_n 0, 1) := by decide +kernel
theorem d_X_late_55 : decode b_X_late 55 = .ok (.getfield 26, 3) := by decide +kernel
theorem d_X_late_58 : decode b_X_late 58 = .ok (.iload_n 1, 1) := by decide +kernel
theorem d_X_late_59 : decode b_X_late 59 = .ok (.invokevirtual 223, 3) := by decide +kernel
theorem d_X_late_62 : decode b_X_late 62 = .ok (.ifCond .eq 14, 3) := by decide +kernel
theorem d_X_late_65 : decode b_X_late 65 = .ok (.iload_n 3, 1) := by decide +kernel
theorem d_X_late_66 : decode b_X_late 66 = .ok (.iload_n 2, 1) := by decide +kernel
theorem d_X_late_67 : decode b_X_late 67 = .ok (.if_icmp .ne 6, 3) := by decide +kernel
theorem d_X_late_70 : decode b_X_late 70 = .ok (.iload 4, 2) := by decide +kernel
theorem d_X_late_72 : decode b_X_late 72 = .ok (.ireturn, 1) := by decide +kernel
theorem d_X_late_73 : decode b_X_late 73 = .ok (.iinc 3 1, 3) := by decide +kernel
theorem d_X_late_76 : decode b_X_late 76 = .ok (.iinc 4 1, 3) := by decide +kernel
theorem d_X_late_79 : decode b_X_late 79 = .ok (.goto (-50), 3) := by decide +kernel
theorem d_X_late_82 : decode b_X_late 82 = .ok (.iconst (-1), 1) := by decide +kernel
theorem d_X_late_83 : decode b_X_late 83 = .ok (.ireturn, 1) := by decide +kernel
def y_X_count : MethodName := ⟨cR0, "count", "(III)I"⟩
abbrev b_X_count : ByteArray := prog_1_method_19_code
abbrev k_X_count : Cond := .code y_X_count b_X_count 7 (some .int)
theorem mc_X_count : MC y_X_count k_X_count b_X_count 7 (some .int) [] 3 := ⟨g_in (List.mem_of_getElem? (i := 698) (by decide +kernel)) (by decide +kernel), Or.inl ⟨rfl, rfl⟩, g_in (List.mem_of_getElem? (i := 57) (by decide +kernel)) (by decide +kernel), by decide, by decide +kernel⟩
theorem in_X_count : Cond.instanceMethod y_X_count ∈ g_ws := g_in (List.mem_of_getElem? (i := 696) (by decide +kernel)) (by decide +kernel)
theorem se_X_count : Cond.selects cR0 y_X_count y_X_count ∈ g_ws := g_in (List.mem_of_getElem? (i := 697) (by decide +kernel)) (by decide +kernel)
theorem d_X_count_0 : decode b_X_count 0 = .ok (.iload_n 1, 1) := by decide +kernel
theorem d_X_count_1 : decode b_X_count 1 = .ok (.invokestatic 96, 3) := by decide +kernel
theorem d_X_count_4 : decode b_X_count 4 = .ok (.iload_n 2, 1) := by decide +kernel
theorem d_X_count_5 : decode b_X_count 5 = .ok (.iload_n 3, 1) := by decide +kernel
theorem d_X_count_6 : decode b_X_count 6 = .ok (.if_icmp .le 13, 3) := by decide +kernel
theorem d_X_count_9 : decode b_X_count 9 = .ok (.new 79, 3) := by decide +kernel
theorem d_X_count_12 : decode b_X_count 12 = .ok (.dup, 1) := by decide +kernel
theorem d_X_count_13 : decode b_X_count 13 = .ok (.ldc 226, 2) := by decide +kernel
theorem d_X_count_15 : decode b_X_count 15 = .ok (.invokespecial 83, 3) := by decide +kernel
theorem d_X_count_18 : decode b_X_count 18 = .ok (.athrow, 1) := by decide +kernel
theorem d_X_count_19 : decode b_X_count 19 = .ok (.iconst 0, 1) := by decide +kernel
theorem d_X_count_20 : decode b_X_count 20 = .ok (.istore 4, 2) := by decide +kernel
theorem d_X_count_22 : decode b_X_count 22 = .ok (.iconst 0, 1) := by decide +kernel
theorem d_X_count_23 : decode b_X_count 23 = .ok (.istore 5, 2) := by decide +kernel
theorem d_X_count_25 : decode b_X_count 25 = .ok (.iload 5, 2) := by decide +kernel
theorem d_X_count_27 : decode b_X_count 27 = .ok (.aload_n 0, 1) := by decide +kernel
theorem d_X_count_28 : decode b_X_count 28 = .ok (.getfield 15, 3) := by decide +kernel
theorem d_X_count_31 : decode b_X_count 31 = .ok (.if_icmp .ge 45, 3) := by decide +kernel
theorem d_X_count_34 : decode b_X_count 34 = .ok (.aload_n 0, 1) := by decide +kernel
theorem d_X_count_35 : decode b_X_count 35 = .ok (.getfield 11, 3) := by decide +kernel
theorem d_X_count_38 : decode b_X_count 38 = .ok (.iload 5, 2) := by decide +kernel
theorem d_X_count_40 : decode b_X_count 40 = .ok (.aaload, 1) := by decide +kernel
theorem d_X_count_41 : decode b_X_count 41 = .ok (.astore 6, 2) := by decide +kernel
theorem d_X_count_43 : decode b_X_count 43 = .ok (.aload 6, 2) := by decide +kernel
theorem d_X_count_45 : decode b_X_count 45 = .ok (.ifnull 25, 3) := by decide +kernel
theorem d_X_count_48 : decode b_X_count 48 = .ok (.aload 6, 2) := by decide +kernel
theorem d_X_count_50 : decode b_X_count 50 = .ok (.invokevirtual 228, 3) := by decide +kernel
theorem d_X_count_53 : decode b_X_count 53 = .ok (.ifCond .eq 17, 3) := by decide +kernel
theorem d_X_count_56 : decode b_X_count 56 = .ok (.aload 6, 2) := by decide +kernel
theorem d_X_count_58 : decode b_X_count 58 = .ok (.iload_n 1, 1) := by decide +kernel
theorem d_X_count_59 : decode b_X_count 59 = .ok (.iload_n 2, 1) := by decide +kernel
theorem d_X_count_60 : decode b_X_count 60 = .ok (.iload_n 3, 1) := by decide +kernel
theorem d_X_count_61 : decode b_X_count 61 = .ok (.invokevirtual 232, 3) := by decide +kernel
theorem d_X_count_64 : decode b_X_count 64 = .ok (.ifCond .eq 6, 3) := by decide +kernel
theorem d_X_count_67 : decode b_X_count 67 = .ok (.iinc 4 1, 3) := by decide +kernel
theorem d_X_count_70 : decode b_X_count 70 = .ok (.iinc 5 1, 3) := by decide +kernel
theorem d_X_count_73 : decode b_X_count 73 = .ok (.goto (-48), 3) := by decide +kernel
theorem d_X_count_76 : decode b_X_count 76 = .ok (.iload 4, 2) := by decide +kernel
theorem d_X_count_78 : decode b_X_count 78 = .ok (.ireturn, 1) := by decide +kernel
def y_X_reportAt : MethodName := ⟨cR0, "reportAt", "(II)I"⟩
abbrev b_X_reportAt : ByteArray := prog_1_method_20_code
abbrev k_X_reportAt : Cond := .code y_X_reportAt b_X_reportAt 4 (some .int)
theorem mc_X_reportAt : MC y_X_reportAt k_X_reportAt b_X_reportAt 4 (some .int) [] 2 := ⟨g_in (List.mem_of_getElem? (i := 714) (by decide +kernel)) (by decide +kernel), Or.inl ⟨rfl, rfl⟩, g_in (List.mem_of_getElem? (i := 57) (by decide +kernel)) (by decide +kernel), by decide, by decide +kernel⟩
theorem in_X_reportAt : Cond.instanceMethod y_X_reportAt ∈ g_ws := g_in (List.mem_of_getElem? (i := 712) (by decide +kernel)) (by decide +kernel)
theorem se_X_reportAt : Cond.selects cR0 y_X_reportAt y_X_reportAt ∈ g_ws := g_in (List.mem_of_getElem? (i := 713) (by decide +kernel)) (by decide +kernel)
theorem d_X_reportAt_0 : decode b_X_reportAt 0 = .ok (.aload_n 0, 1) := by decide +kernel
theorem d_X_reportAt_1 : decode b_X_reportAt 1 = .ok (.iload_n 1, 1) := by decide +kernel
theorem d_X_reportAt_2 : decode b_X_reportAt 2 = .ok (.invokevirtual 103, 3) := by decide +kernel
theorem d_X_reportAt_5 : decode b_X_reportAt 5 = .ok (.astore_n 3, 1) := by decide +kernel
theorem d_X_reportAt_6 : decode b_X_reportAt 6 = .ok (.iload_n 2, 1) := by decide +kernel
theorem d_X_reportAt_7 : decode b_X_reportAt 7 = .ok (.tableswitch 88 0 7 #[45, 50, 55, 60, 65, 70, 75, 83], 45) := by decide +kernel
theorem d_X_reportAt_52 : decode b_X_reportAt 52 = .ok (.aload_n 3, 1) := by decide +kernel
theorem d_X_reportAt_53 : decode b_X_reportAt 53 = .ok (.getfield 192, 3) := by decide +kernel
theorem d_X_reportAt_56 : decode b_X_reportAt 56 = .ok (.ireturn, 1) := by decide +kernel
theorem d_X_reportAt_57 : decode b_X_reportAt 57 = .ok (.aload_n 3, 1) := by decide +kernel
theorem d_X_reportAt_58 : decode b_X_reportAt 58 = .ok (.getfield 195, 3) := by decide +kernel
theorem d_X_reportAt_61 : decode b_X_reportAt 61 = .ok (.ireturn, 1) := by decide +kernel
theorem d_X_reportAt_62 : decode b_X_reportAt 62 = .ok (.aload_n 3, 1) := by decide +kernel
theorem d_X_reportAt_63 : decode b_X_reportAt 63 = .ok (.getfield 236, 3) := by decide +kernel
theorem d_X_reportAt_66 : decode b_X_reportAt 66 = .ok (.ireturn, 1) := by decide +kernel
theorem d_X_reportAt_67 : decode b_X_reportAt 67 = .ok (.aload_n 3, 1) := by decide +kernel
theorem d_X_reportAt_68 : decode b_X_reportAt 68 = .ok (.getfield 186, 3) := by decide +kernel
theorem d_X_reportAt_71 : decode b_X_reportAt 71 = .ok (.ireturn, 1) := by decide +kernel
theorem d_X_reportAt_72 : decode b_X_reportAt 72 = .ok (.aload_n 3, 1) := by decide +kernel
theorem d_X_reportAt_73 : decode b_X_reportAt 73 = .ok (.invokevirtual 239, 3) := by decide +kernel
theorem d_X_reportAt_76 : decode b_X_reportAt 76 = .ok (.ireturn, 1) := by decide +kernel
theorem d_X_reportAt_77 : decode b_X_reportAt 77 = .ok (.aload_n 3, 1) := by decide +kernel
theorem d_X_reportAt_78 : decode b_X_reportAt 78 = .ok (.getfield 141, 3) := by decide +kernel
theorem d_X_reportAt_81 : decode b_X_reportAt 81 = .ok (.ireturn, 1) := by decide +kernel
theorem d_X_reportAt_82 : decode b_X_reportAt 82 = .ok (.aload_n 3, 1) := by decide +kernel
theorem d_X_reportAt_83 : decode b_X_reportAt 83 = .ok (.getfield 201, 3) := by decide +kernel
theorem d_X_reportAt_86 : decode b_X_reportAt 86 = .ok (.invokestatic 243, 3) := by decide +kernel
theorem d_X_reportAt_89 : decode b_X_reportAt 89 = .ok (.ireturn, 1) := by decide +kernel
theorem d_X_reportAt_90 : decode b_X_reportAt 90 = .ok (.aload_n 3, 1) := by decide +kernel
theorem d_X_reportAt_91 : decode b_X_reportAt 91 = .ok (.getfield 249, 3) := by decide +kernel
theorem d_X_reportAt_94 : decode b_X_reportAt 94 = .ok (.ireturn, 1) := by decide +kernel
theorem d_X_reportAt_95 : decode b_X_reportAt 95 = .ok (.new 124, 3) := by decide +kernel
theorem d_X_reportAt_98 : decode b_X_reportAt 98 = .ok (.dup, 1) := by decide +kernel
theorem d_X_reportAt_99 : decode b_X_reportAt 99 = .ok (.ldc 173, 2) := by decide +kernel
theorem d_X_reportAt_101 : decode b_X_reportAt 101 = .ok (.invokespecial 128, 3) := by decide +kernel
theorem d_X_reportAt_104 : decode b_X_reportAt 104 = .ok (.athrow, 1) := by decide +kernel
def y_X_value : MethodName := ⟨cR0, "value", "(II)I"⟩
abbrev b_X_value : ByteArray := prog_1_method_21_code
abbrev k_X_value : Cond := .code y_X_value b_X_value 4 (some .int)
theorem mc_X_value : MC y_X_value k_X_value b_X_value 4 (some .int) [] 2 := ⟨g_in (List.mem_of_getElem? (i := 731) (by decide +kernel)) (by decide +kernel), Or.inl ⟨rfl, rfl⟩, g_in (List.mem_of_getElem? (i := 57) (by decide +kernel)) (by decide +kernel), by decide, by decide +kernel⟩
theorem in_X_value : Cond.instanceMethod y_X_value ∈ g_ws := g_in (List.mem_of_getElem? (i := 729) (by decide +kernel)) (by decide +kernel)
theorem se_X_value : Cond.selects cR0 y_X_value y_X_value ∈ g_ws := g_in (List.mem_of_getElem? (i := 730) (by decide +kernel)) (by decide +kernel)
theorem d_X_value_0 : decode b_X_value 0 = .ok (.aload_n 0, 1) := by decide +kernel
theorem d_X_value_1 : decode b_X_value 1 = .ok (.iload_n 1, 1) := by decide +kernel
theorem d_X_value_2 : decode b_X_value 2 = .ok (.invokevirtual 103, 3) := by decide +kernel
theorem d_X_value_5 : decode b_X_value 5 = .ok (.astore_n 3, 1) := by decide +kernel
theorem d_X_value_6 : decode b_X_value 6 = .ok (.iload_n 2, 1) := by decide +kernel
theorem d_X_value_7 : decode b_X_value 7 = .ok (.invokestatic 96, 3) := by decide +kernel
theorem d_X_value_10 : decode b_X_value 10 = .ok (.aload_n 3, 1) := by decide +kernel
theorem d_X_value_11 : decode b_X_value 11 = .ok (.getfield 252, 3) := by decide +kernel
theorem d_X_value_14 : decode b_X_value 14 = .ok (.iload_n 2, 1) := by decide +kernel
theorem d_X_value_15 : decode b_X_value 15 = .ok (.invokestatic 204, 3) := by decide +kernel
theorem d_X_value_18 : decode b_X_value 18 = .ok (.ifCond .ne 13, 3) := by decide +kernel
theorem d_X_value_21 : decode b_X_value 21 = .ok (.new 115, 3) := by decide +kernel
theorem d_X_value_24 : decode b_X_value 24 = .ok (.dup, 1) := by decide +kernel
theorem d_X_value_25 : decode b_X_value 25 = .ok (.ldc 255, 2) := by decide +kernel
theorem d_X_value_27 : decode b_X_value 27 = .ok (.invokespecial 119, 3) := by decide +kernel
theorem d_X_value_30 : decode b_X_value 30 = .ok (.athrow, 1) := by decide +kernel
theorem d_X_value_31 : decode b_X_value 31 = .ok (.aload_n 3, 1) := by decide +kernel
theorem d_X_value_32 : decode b_X_value 32 = .ok (.getfield 257, 3) := by decide +kernel
theorem d_X_value_35 : decode b_X_value 35 = .ok (.iload_n 2, 1) := by decide +kernel
theorem d_X_value_36 : decode b_X_value 36 = .ok (.iaload, 1) := by decide +kernel
theorem d_X_value_37 : decode b_X_value 37 = .ok (.ireturn, 1) := by decide +kernel
def y_X_tick : MethodName := ⟨cR0, "tick", "(I)I"⟩
abbrev b_X_tick : ByteArray := prog_1_method_22_code
abbrev k_X_tick : Cond := .code y_X_tick b_X_tick 2 (some .int)
theorem mc_X_tick : MC y_X_tick k_X_tick b_X_tick 2 (some .int) [] 1 := ⟨g_in (List.mem_of_getElem? (i := 739) (by decide +kernel)) (by decide +kernel), Or.inl ⟨rfl, rfl⟩, g_in (List.mem_of_getElem? (i := 57) (by decide +kernel)) (by decide +kernel), by decide, by decide +kernel⟩
theorem in_X_tick : Cond.instanceMethod y_X_tick ∈ g_ws := g_in (List.mem_of_getElem? (i := 737) (by decide +kernel)) (by decide +kernel)
theorem se_X_tick : Cond.selects cR0 y_X_tick y_X_tick ∈ g_ws := g_in (List.mem_of_getElem? (i := 738) (by decide +kernel)) (by decide +kernel)
theorem d_X_tick_0 : decode b_X_tick 0 = .ok (.iload_n 1, 1) := by decide +kernel
theorem d_X_tick_1 : decode b_X_tick 1 = .ok (.iconst 1, 1) := by decide +kernel
theorem d_X_tick_2 : decode b_X_tick 2 = .ok (.if_icmp .lt 21, 3) := by decide +kernel
theorem d_X_tick_5 : decode b_X_tick 5 = .ok (.iload_n 1, 1) := by decide +kernel
theorem d_X_tick_6 : decode b_X_tick 6 = .ok (.sipush 5000, 3) := by decide +kernel
theorem d_X_tick_9 : decode b_X_tick 9 = .ok (.if_icmp .gt 14, 3) := by decide +kernel
theorem d_X_tick_12 : decode b_X_tick 12 = .ok (.aload_n 0, 1) := by decide +kernel
theorem d_X_tick_13 : decode b_X_tick 13 = .ok (.getfield 26, 3) := by decide +kernel
theorem d_X_tick_16 : decode b_X_tick 16 = .ok (.iload_n 1, 1) := by decide +kernel
theorem d_X_tick_17 : decode b_X_tick 17 = .ok (.iadd, 1) := by decide +kernel
theorem d_X_tick_18 : decode b_X_tick 18 = .ok (.ldc 108, 2) := by decide +kernel
theorem d_X_tick_20 : decode b_X_tick 20 = .ok (.if_icmp .le 14, 3) := by decide +kernel
theorem d_X_tick_23 : decode b_X_tick 23 = .ok (.new 79, 3) := by decide +kernel
theorem d_X_tick_26 : decode b_X_tick 26 = .ok (.dup, 1) := by decide +kernel
theorem d_X_tick_27 : decode b_X_tick 27 = .ok (.ldc_w 260, 3) := by decide +kernel
theorem d_X_tick_30 : decode b_X_tick 30 = .ok (.invokespecial 83, 3) := by decide +kernel
theorem d_X_tick_33 : decode b_X_tick 33 = .ok (.athrow, 1) := by decide +kernel
theorem d_X_tick_34 : decode b_X_tick 34 = .ok (.aload_n 0, 1) := by decide +kernel
theorem d_X_tick_35 : decode b_X_tick 35 = .ok (.dup, 1) := by decide +kernel
theorem d_X_tick_36 : decode b_X_tick 36 = .ok (.getfield 26, 3) := by decide +kernel
theorem d_X_tick_39 : decode b_X_tick 39 = .ok (.iload_n 1, 1) := by decide +kernel
theorem d_X_tick_40 : decode b_X_tick 40 = .ok (.iadd, 1) := by decide +kernel
theorem d_X_tick_41 : decode b_X_tick 41 = .ok (.putfield 26, 3) := by decide +kernel
theorem d_X_tick_44 : decode b_X_tick 44 = .ok (.aload_n 0, 1) := by decide +kernel
theorem d_X_tick_45 : decode b_X_tick 45 = .ok (.getfield 26, 3) := by decide +kernel
theorem d_X_tick_48 : decode b_X_tick 48 = .ok (.ireturn, 1) := by decide +kernel
def y_X_known : MethodName := ⟨cR0, "known", "(I)LReportChecks2$Report;"⟩
abbrev b_X_known : ByteArray := prog_1_method_23_code
abbrev k_X_known : Cond := .code y_X_known b_X_known 3 (some (.object "ReportChecks2$Report"))
theorem mc_X_known : MC y_X_known k_X_known b_X_known 3 (some (.object "ReportChecks2$Report")) [] 1 := ⟨g_in (List.mem_of_getElem? (i := 415) (by decide +kernel)) (by decide +kernel), Or.inl ⟨rfl, rfl⟩, g_in (List.mem_of_getElem? (i := 57) (by decide +kernel)) (by decide +kernel), by decide, by decide +kernel⟩
theorem in_X_known : Cond.instanceMethod y_X_known ∈ g_ws := g_in (List.mem_of_getElem? (i := 414) (by decide +kernel)) (by decide +kernel)
theorem se_X_known : Cond.selects cR0 y_X_known y_X_known ∈ g_ws := g_in (List.mem_of_getElem? (i := 3) (by decide +kernel)) (by decide +kernel)
theorem d_X_known_0 : decode b_X_known 0 = .ok (.iload_n 1, 1) := by decide +kernel
theorem d_X_known_1 : decode b_X_known 1 = .ok (.ifCond .lt 11, 3) := by decide +kernel
theorem d_X_known_4 : decode b_X_known 4 = .ok (.iload_n 1, 1) := by decide +kernel
theorem d_X_known_5 : decode b_X_known 5 = .ok (.aload_n 0, 1) := by decide +kernel
theorem d_X_known_6 : decode b_X_known 6 = .ok (.getfield 15, 3) := by decide +kernel
theorem d_X_known_9 : decode b_X_known 9 = .ok (.if_icmp .lt 14, 3) := by decide +kernel
theorem d_X_known_12 : decode b_X_known 12 = .ok (.new 124, 3) := by decide +kernel
theorem d_X_known_15 : decode b_X_known 15 = .ok (.dup, 1) := by decide +kernel
theorem d_X_known_16 : decode b_X_known 16 = .ok (.ldc_w 262, 3) := by decide +kernel
theorem d_X_known_19 : decode b_X_known 19 = .ok (.invokespecial 128, 3) := by decide +kernel
theorem d_X_known_22 : decode b_X_known 22 = .ok (.athrow, 1) := by decide +kernel
theorem d_X_known_23 : decode b_X_known 23 = .ok (.aload_n 0, 1) := by decide +kernel
theorem d_X_known_24 : decode b_X_known 24 = .ok (.getfield 11, 3) := by decide +kernel
theorem d_X_known_27 : decode b_X_known 27 = .ok (.iload_n 1, 1) := by decide +kernel
theorem d_X_known_28 : decode b_X_known 28 = .ok (.aaload, 1) := by decide +kernel
theorem d_X_known_29 : decode b_X_known 29 = .ok (.astore_n 2, 1) := by decide +kernel
theorem d_X_known_30 : decode b_X_known 30 = .ok (.aload_n 2, 1) := by decide +kernel
theorem d_X_known_31 : decode b_X_known 31 = .ok (.ifnonnull 14, 3) := by decide +kernel
theorem d_X_known_34 : decode b_X_known 34 = .ok (.new 124, 3) := by decide +kernel
theorem d_X_known_37 : decode b_X_known 37 = .ok (.dup, 1) := by decide +kernel
theorem d_X_known_38 : decode b_X_known 38 = .ok (.ldc_w 262, 3) := by decide +kernel
theorem d_X_known_41 : decode b_X_known 41 = .ok (.invokespecial 128, 3) := by decide +kernel
theorem d_X_known_44 : decode b_X_known 44 = .ok (.athrow, 1) := by decide +kernel
theorem d_X_known_45 : decode b_X_known 45 = .ok (.aload_n 2, 1) := by decide +kernel
theorem d_X_known_46 : decode b_X_known 46 = .ok (.areturn, 1) := by decide +kernel
def y_X_requireKind : MethodName := ⟨cR0, "requireKind", "(I)V"⟩
abbrev b_X_requireKind : ByteArray := prog_1_method_24_code
abbrev k_X_requireKind : Cond := .code y_X_requireKind b_X_requireKind 1 none
theorem mc_X_requireKind : MC y_X_requireKind k_X_requireKind b_X_requireKind 1 none [] 1 := ⟨g_in (List.mem_of_getElem? (i := 228) (by decide +kernel)) (by decide +kernel), Or.inl ⟨rfl, rfl⟩, g_in (List.mem_of_getElem? (i := 57) (by decide +kernel)) (by decide +kernel), by decide, by decide +kernel⟩
theorem st_X_requireKind : Cond.static y_X_requireKind ∈ g_ws := g_in (List.mem_of_getElem? (i := 227) (by decide +kernel)) (by decide +kernel)
theorem d_X_requireKind_0 : decode b_X_requireKind 0 = .ok (.iload_n 0, 1) := by decide +kernel
theorem d_X_requireKind_1 : decode b_X_requireKind 1 = .ok (.ifCond .lt 8, 3) := by decide +kernel
theorem d_X_requireKind_4 : decode b_X_requireKind 4 = .ok (.iload_n 0, 1) := by decide +kernel
theorem d_X_requireKind_5 : decode b_X_requireKind 5 = .ok (.iconst 5, 1) := by decide +kernel
theorem d_X_requireKind_6 : decode b_X_requireKind 6 = .ok (.if_icmp .lt 14, 3) := by decide +kernel
theorem d_X_requireKind_9 : decode b_X_requireKind 9 = .ok (.new 124, 3) := by decide +kernel
theorem d_X_requireKind_12 : decode b_X_requireKind 12 = .ok (.dup, 1) := by decide +kernel
theorem d_X_requireKind_13 : decode b_X_requireKind 13 = .ok (.ldc_w 264, 3) := by decide +kernel
theorem d_X_requireKind_16 : decode b_X_requireKind 16 = .ok (.invokespecial 128, 3) := by decide +kernel
theorem d_X_requireKind_19 : decode b_X_requireKind 19 = .ok (.athrow, 1) := by decide +kernel
theorem d_X_requireKind_20 : decode b_X_requireKind 20 = .ok (.return_, 1) := by decide +kernel
def y_X_requireField : MethodName := ⟨cR0, "requireField", "(I)V"⟩
abbrev b_X_requireField : ByteArray := prog_1_method_25_code
abbrev k_X_requireField : Cond := .code y_X_requireField b_X_requireField 1 none
theorem mc_X_requireField : MC y_X_requireField k_X_requireField b_X_requireField 1 none [] 1 := ⟨g_in (List.mem_of_getElem? (i := 399) (by decide +kernel)) (by decide +kernel), Or.inl ⟨rfl, rfl⟩, g_in (List.mem_of_getElem? (i := 57) (by decide +kernel)) (by decide +kernel), by decide, by decide +kernel⟩
theorem st_X_requireField : Cond.static y_X_requireField ∈ g_ws := g_in (List.mem_of_getElem? (i := 398) (by decide +kernel)) (by decide +kernel)
theorem d_X_requireField_0 : decode b_X_requireField 0 = .ok (.iload_n 0, 1) := by decide +kernel
theorem d_X_requireField_1 : decode b_X_requireField 1 = .ok (.ifCond .lt 9, 3) := by decide +kernel
theorem d_X_requireField_4 : decode b_X_requireField 4 = .ok (.iload_n 0, 1) := by decide +kernel
theorem d_X_requireField_5 : decode b_X_requireField 5 = .ok (.bipush 20, 2) := by decide +kernel
theorem d_X_requireField_7 : decode b_X_requireField 7 = .ok (.if_icmp .lt 14, 3) := by decide +kernel
theorem d_X_requireField_10 : decode b_X_requireField 10 = .ok (.new 124, 3) := by decide +kernel
theorem d_X_requireField_13 : decode b_X_requireField 13 = .ok (.dup, 1) := by decide +kernel
theorem d_X_requireField_14 : decode b_X_requireField 14 = .ok (.ldc_w 266, 3) := by decide +kernel
theorem d_X_requireField_17 : decode b_X_requireField 17 = .ok (.invokespecial 128, 3) := by decide +kernel
theorem d_X_requireField_20 : decode b_X_requireField 20 = .ok (.athrow, 1) := by decide +kernel
theorem d_X_requireField_21 : decode b_X_requireField 21 = .ok (.return_, 1) := by decide +kernel
def y_X_requirePerson : MethodName := ⟨cR0, "requirePerson", "(I)V"⟩
abbrev b_X_requirePerson : ByteArray := prog_1_method_26_code
abbrev k_X_requirePerson : Cond := .code y_X_requirePerson b_X_requirePerson 1 none
theorem mc_X_requirePerson : MC y_X_requirePerson k_X_requirePerson b_X_requirePerson 1 none [] 1 := ⟨g_in (List.mem_of_getElem? (i := 592) (by decide +kernel)) (by decide +kernel), Or.inl ⟨rfl, rfl⟩, g_in (List.mem_of_getElem? (i := 57) (by decide +kernel)) (by decide +kernel), by decide, by decide +kernel⟩
theorem st_X_requirePerson : Cond.static y_X_requirePerson ∈ g_ws := g_in (List.mem_of_getElem? (i := 591) (by decide +kernel)) (by decide +kernel)
theorem d_X_requirePerson_0 : decode b_X_requirePerson 0 = .ok (.iload_n 0, 1) := by decide +kernel
theorem d_X_requirePerson_1 : decode b_X_requirePerson 1 = .ok (.ifCond .lt 9, 3) := by decide +kernel
theorem d_X_requirePerson_4 : decode b_X_requirePerson 4 = .ok (.iload_n 0, 1) := by decide +kernel
theorem d_X_requirePerson_5 : decode b_X_requirePerson 5 = .ok (.bipush 20, 2) := by decide +kernel
theorem d_X_requirePerson_7 : decode b_X_requirePerson 7 = .ok (.if_icmp .lt 14, 3) := by decide +kernel
theorem d_X_requirePerson_10 : decode b_X_requirePerson 10 = .ok (.new 124, 3) := by decide +kernel
theorem d_X_requirePerson_13 : decode b_X_requirePerson 13 = .ok (.dup, 1) := by decide +kernel
theorem d_X_requirePerson_14 : decode b_X_requirePerson 14 = .ok (.ldc_w 268, 3) := by decide +kernel
theorem d_X_requirePerson_17 : decode b_X_requirePerson 17 = .ok (.invokespecial 128, 3) := by decide +kernel
theorem d_X_requirePerson_20 : decode b_X_requirePerson 20 = .ok (.athrow, 1) := by decide +kernel
theorem d_X_requirePerson_21 : decode b_X_requirePerson 21 = .ok (.return_, 1) := by decide +kernel
def y_X_requireUnsigned : MethodName := ⟨cR0, "requireUnsigned", "(LReportChecks2$Report;)V"⟩
abbrev b_X_requireUnsigned : ByteArray := prog_1_method_27_code
abbrev k_X_requireUnsigned : Cond := .code y_X_requireUnsigned b_X_requireUnsigned 1 none
theorem mc_X_requireUnsigned : MC y_X_requireUnsigned k_X_requireUnsigned b_X_requireUnsigned 1 none [] 1 := ⟨g_in (List.mem_of_getElem? (i := 459) (by decide +kernel)) (by decide +kernel), Or.inl ⟨rfl, rfl⟩, g_in (List.mem_of_getElem? (i := 57) (by decide +kernel)) (by decide +kernel), by decide, by decide +kernel⟩
theorem st_X_requireUnsigned : Cond.static y_X_requireUnsigned ∈ g_ws := g_in (List.mem_of_getElem? (i := 458) (by decide +kernel)) (by decide +kernel)
theorem d_X_requireUnsigned_0 : decode b_X_requireUnsigned 0 = .ok (.aload_n 0, 1) := by decide +kernel
theorem d_X_requireUnsigned_1 : decode b_X_requireUnsigned 1 = .ok (.getfield 186, 3) := by decide +kernel
theorem d_X_requireUnsigned_4 : decode b_X_requireUnsigned 4 = .ok (.ifCond .le 14, 3) := by decide +kernel
theorem d_X_requireUnsigned_7 : decode b_X_requireUnsigned 7 = .ok (.new 115, 3) := by decide +kernel
theorem d_X_requireUnsigned_10 : decode b_X_requireUnsigned 10 = .ok (.dup, 1) := by decide +kernel
theorem d_X_requireUnsigned_11 : decode b_X_requireUnsigned 11 = .ok (.ldc_w 270, 3) := by decide +kernel
theorem d_X_requireUnsigned_14 : decode b_X_requireUnsigned 14 = .ok (.invokespecial 119, 3) := by decide +kernel
theorem d_X_requireUnsigned_17 : decode b_X_requireUnsigned 17 = .ok (.athrow, 1) := by decide +kernel
theorem d_X_requireUnsigned_18 : decode b_X_requireUnsigned 18 = .ok (.return_, 1) := by decide +kernel
def y_X_requireClosed : MethodName := ⟨cR0, "requireClosed", "(LReportChecks2$Report;)V"⟩
abbrev b_X_requireClosed : ByteArray := prog_1_method_28_code
abbrev k_X_requireClosed : Cond := .code y_X_requireClosed b_X_requireClosed 1 none
theorem mc_X_requireClosed : MC y_X_requireClosed k_X_requireClosed b_X_requireClosed 1 none [] 1 := ⟨g_in (List.mem_of_getElem? (i := 620) (by decide +kernel)) (by decide +kernel), Or.inl ⟨rfl, rfl⟩, g_in (List.mem_of_getElem? (i := 57) (by decide +kernel)) (by decide +kernel), by decide, by decide +kernel⟩
theorem st_X_requireClosed : Cond.static y_X_requireClosed ∈ g_ws := g_in (List.mem_of_getElem? (i := 619) (by decide +kernel)) (by decide +kernel)
theorem d_X_requireClosed_0 : decode b_X_requireClosed 0 = .ok (.aload_n 0, 1) := by decide +kernel
theorem d_X_requireClosed_1 : decode b_X_requireClosed 1 = .ok (.invokevirtual 272, 3) := by decide +kernel
theorem d_X_requireClosed_4 : decode b_X_requireClosed 4 = .ok (.ifCond .ne 14, 3) := by decide +kernel
theorem d_X_requireClosed_7 : decode b_X_requireClosed 7 = .ok (.new 115, 3) := by decide +kernel
theorem d_X_requireClosed_10 : decode b_X_requireClosed 10 = .ok (.dup, 1) := by decide +kernel
theorem d_X_requireClosed_11 : decode b_X_requireClosed 11 = .ok (.ldc_w 275, 3) := by decide +kernel
theorem d_X_requireClosed_14 : decode b_X_requireClosed 14 = .ok (.invokespecial 119, 3) := by decide +kernel
theorem d_X_requireClosed_17 : decode b_X_requireClosed 17 = .ok (.athrow, 1) := by decide +kernel
theorem d_X_requireClosed_18 : decode b_X_requireClosed 18 = .ok (.return_, 1) := by decide +kernel
def y_X_requireRoomForReport : MethodName := ⟨cR0, "requireRoomForReport", "()V"⟩
abbrev b_X_requireRoomForReport : ByteArray := prog_1_method_29_code
abbrev k_X_requireRoomForReport : Cond := .code y_X_requireRoomForReport b_X_requireRoomForReport 1 none
theorem mc_X_requireRoomForReport : MC y_X_requireRoomForReport k_X_requireRoomForReport b_X_requireRoomForReport 1 none [] 0 := ⟨g_in (List.mem_of_getElem? (i := 316) (by decide +kernel)) (by decide +kernel), Or.inl ⟨rfl, rfl⟩, g_in (List.mem_of_getElem? (i := 57) (by decide +kernel)) (by decide +kernel), by decide, by decide +kernel⟩
theorem in_X_requireRoomForReport : Cond.instanceMethod y_X_requireRoomForReport ∈ g_ws := g_in (List.mem_of_getElem? (i := 315) (by decide +kernel)) (by decide +kernel)
theorem se_X_requireRoomForReport : Cond.selects cR0 y_X_requireRoomForReport y_X_requireRoomForReport ∈ g_ws := g_in (List.mem_of_getElem? (i := 1) (by decide +kernel)) (by decide +kernel)
theorem d_X_requireRoomForReport_0 : decode b_X_requireRoomForReport 0 = .ok (.aload_n 0, 1) := by decide +kernel
theorem d_X_requireRoomForReport_1 : decode b_X_requireRoomForReport 1 = .ok (.getfield 15, 3) := by decide +kernel
theorem d_X_requireRoomForReport_4 : decode b_X_requireRoomForReport 4 = .ok (.bipush 30, 2) := by decide +kernel
theorem d_X_requireRoomForReport_6 : decode b_X_requireRoomForReport 6 = .ok (.if_icmp .lt 14, 3) := by decide +kernel
theorem d_X_requireRoomForReport_9 : decode b_X_requireRoomForReport 9 = .ok (.new 146, 3) := by decide +kernel
theorem d_X_requireRoomForReport_12 : decode b_X_requireRoomForReport 12 = .ok (.dup, 1) := by decide +kernel
theorem d_X_requireRoomForReport_13 : decode b_X_requireRoomForReport 13 = .ok (.ldc_w 277, 3) := by decide +kernel
theorem d_X_requireRoomForReport_16 : decode b_X_requireRoomForReport 16 = .ok (.invokespecial 150, 3) := by decide +kernel
theorem d_X_requireRoomForReport_19 : decode b_X_requireRoomForReport 19 = .ok (.athrow, 1) := by decide +kernel
theorem d_X_requireRoomForReport_20 : decode b_X_requireRoomForReport 20 = .ok (.return_, 1) := by decide +kernel
def y_X_keep : MethodName := ⟨cR0, "keep", "(LReportChecks2$Report;)I"⟩
abbrev b_X_keep : ByteArray := prog_1_method_30_code
abbrev k_X_keep : Cond := .code y_X_keep b_X_keep 3 (some .int)
theorem mc_X_keep : MC y_X_keep k_X_keep b_X_keep 3 (some .int) [] 1 := ⟨g_in (List.mem_of_getElem? (i := 389) (by decide +kernel)) (by decide +kernel), Or.inl ⟨rfl, rfl⟩, g_in (List.mem_of_getElem? (i := 57) (by decide +kernel)) (by decide +kernel), by decide, by decide +kernel⟩
theorem in_X_keep : Cond.instanceMethod y_X_keep ∈ g_ws := g_in (List.mem_of_getElem? (i := 388) (by decide +kernel)) (by decide +kernel)
theorem se_X_keep : Cond.selects cR0 y_X_keep y_X_keep ∈ g_ws := g_in (List.mem_of_getElem? (i := 2) (by decide +kernel)) (by decide +kernel)
theorem d_X_keep_0 : decode b_X_keep 0 = .ok (.aload_n 0, 1) := by decide +kernel
theorem d_X_keep_1 : decode b_X_keep 1 = .ok (.getfield 15, 3) := by decide +kernel
theorem d_X_keep_4 : decode b_X_keep 4 = .ok (.istore_n 2, 1) := by decide +kernel
theorem d_X_keep_5 : decode b_X_keep 5 = .ok (.aload_n 0, 1) := by decide +kernel
theorem d_X_keep_6 : decode b_X_keep 6 = .ok (.getfield 11, 3) := by decide +kernel
theorem d_X_keep_9 : decode b_X_keep 9 = .ok (.iload_n 2, 1) := by decide +kernel
theorem d_X_keep_10 : decode b_X_keep 10 = .ok (.aload_n 1, 1) := by decide +kernel
theorem d_X_keep_11 : decode b_X_keep 11 = .ok (.aastore, 1) := by decide +kernel
theorem d_X_keep_12 : decode b_X_keep 12 = .ok (.aload_n 0, 1) := by decide +kernel
theorem d_X_keep_13 : decode b_X_keep 13 = .ok (.dup, 1) := by decide +kernel
theorem d_X_keep_14 : decode b_X_keep 14 = .ok (.getfield 15, 3) := by decide +kernel
theorem d_X_keep_17 : decode b_X_keep 17 = .ok (.iconst 1, 1) := by decide +kernel
theorem d_X_keep_18 : decode b_X_keep 18 = .ok (.iadd, 1) := by decide +kernel
theorem d_X_keep_19 : decode b_X_keep 19 = .ok (.putfield 15, 3) := by decide +kernel
theorem d_X_keep_22 : decode b_X_keep 22 = .ok (.iload_n 2, 1) := by decide +kernel
theorem d_X_keep_23 : decode b_X_keep 23 = .ok (.ireturn, 1) := by decide +kernel
def y_X_findWanting : MethodName := ⟨cR0, "findWanting", "(LReportChecks2$Report;LReportChecks2$Findings;)V"⟩
abbrev b_X_findWanting : ByteArray := prog_1_method_31_code
abbrev k_X_findWanting : Cond := .code y_X_findWanting b_X_findWanting 6 none
theorem mc_X_findWanting : MC y_X_findWanting k_X_findWanting b_X_findWanting 6 none [] 2 := ⟨g_in (List.mem_of_getElem? (i := 553) (by decide +kernel)) (by decide +kernel), Or.inl ⟨rfl, rfl⟩, g_in (List.mem_of_getElem? (i := 57) (by decide +kernel)) (by decide +kernel), by decide, by decide +kernel⟩
theorem in_X_findWanting : Cond.instanceMethod y_X_findWanting ∈ g_ws := g_in (List.mem_of_getElem? (i := 552) (by decide +kernel)) (by decide +kernel)
theorem se_X_findWanting : Cond.selects cR0 y_X_findWanting y_X_findWanting ∈ g_ws := g_in (List.mem_of_getElem? (i := 18) (by decide +kernel)) (by decide +kernel)
theorem d_X_findWanting_0 : decode b_X_findWanting 0 = .ok (.aload_n 2, 1) := by decide +kernel
theorem d_X_findWanting_1 : decode b_X_findWanting 1 = .ok (.iconst 0, 1) := by decide +kernel
theorem d_X_findWanting_2 : decode b_X_findWanting 2 = .ok (.putfield 164, 3) := by decide +kernel
theorem d_X_findWanting_5 : decode b_X_findWanting 5 = .ok (.aload_n 0, 1) := by decide +kernel
theorem d_X_findWanting_6 : decode b_X_findWanting 6 = .ok (.getfield 19, 3) := by decide +kernel
theorem d_X_findWanting_9 : decode b_X_findWanting 9 = .ok (.aload_n 1, 1) := by decide +kernel
theorem d_X_findWanting_10 : decode b_X_findWanting 10 = .ok (.getfield 195, 3) := by decide +kernel
theorem d_X_findWanting_13 : decode b_X_findWanting 13 = .ok (.iaload, 1) := by decide +kernel
theorem d_X_findWanting_14 : decode b_X_findWanting 14 = .ok (.aload_n 1, 1) := by decide +kernel
theorem d_X_findWanting_15 : decode b_X_findWanting 15 = .ok (.getfield 252, 3) := by decide +kernel
theorem d_X_findWanting_18 : decode b_X_findWanting 18 = .ok (.iconst (-1), 1) := by decide +kernel
theorem d_X_findWanting_19 : decode b_X_findWanting 19 = .ok (.ixor, 1) := by decide +kernel
theorem d_X_findWanting_20 : decode b_X_findWanting 20 = .ok (.iand, 1) := by decide +kernel
theorem d_X_findWanting_21 : decode b_X_findWanting 21 = .ok (.istore_n 3, 1) := by decide +kernel
theorem d_X_findWanting_22 : decode b_X_findWanting 22 = .ok (.iconst 0, 1) := by decide +kernel
theorem d_X_findWanting_23 : decode b_X_findWanting 23 = .ok (.istore 4, 2) := by decide +kernel
theorem d_X_findWanting_25 : decode b_X_findWanting 25 = .ok (.iload 4, 2) := by decide +kernel
theorem d_X_findWanting_27 : decode b_X_findWanting 27 = .ok (.bipush 20, 2) := by decide +kernel
theorem d_X_findWanting_29 : decode b_X_findWanting 29 = .ok (.if_icmp .ge 25, 3) := by decide +kernel
theorem d_X_findWanting_32 : decode b_X_findWanting 32 = .ok (.iload_n 3, 1) := by decide +kernel
theorem d_X_findWanting_33 : decode b_X_findWanting 33 = .ok (.iload 4, 2) := by decide +kernel
theorem d_X_findWanting_35 : decode b_X_findWanting 35 = .ok (.invokestatic 204, 3) := by decide +kernel
theorem d_X_findWanting_38 : decode b_X_findWanting 38 = .ok (.ifCond .eq 10, 3) := by decide +kernel
theorem d_X_findWanting_41 : decode b_X_findWanting 41 = .ok (.aload_n 2, 1) := by decide +kernel
theorem d_X_findWanting_42 : decode b_X_findWanting 42 = .ok (.iconst 1, 1) := by decide +kernel
theorem d_X_findWanting_43 : decode b_X_findWanting 43 = .ok (.iload 4, 2) := by decide +kernel
theorem d_X_findWanting_45 : decode b_X_findWanting 45 = .ok (.invokevirtual 279, 3) := by decide +kernel
theorem d_X_findWanting_48 : decode b_X_findWanting 48 = .ok (.iinc 4 1, 3) := by decide +kernel
theorem d_X_findWanting_51 : decode b_X_findWanting 51 = .ok (.goto (-26), 3) := by decide +kernel
theorem d_X_findWanting_54 : decode b_X_findWanting 54 = .ok (.iconst 0, 1) := by decide +kernel
theorem d_X_findWanting_55 : decode b_X_findWanting 55 = .ok (.istore 4, 2) := by decide +kernel
theorem d_X_findWanting_57 : decode b_X_findWanting 57 = .ok (.iload 4, 2) := by decide +kernel
theorem d_X_findWanting_59 : decode b_X_findWanting 59 = .ok (.aload_n 0, 1) := by decide +kernel
theorem d_X_findWanting_60 : decode b_X_findWanting 60 = .ok (.getfield 48, 3) := by decide +kernel
theorem d_X_findWanting_63 : decode b_X_findWanting 63 = .ok (.getfield 157, 3) := by decide +kernel
theorem d_X_findWanting_66 : decode b_X_findWanting 66 = .ok (.if_icmp .ge 35, 3) := by decide +kernel
theorem d_X_findWanting_69 : decode b_X_findWanting 69 = .ok (.aload_n 0, 1) := by decide +kernel
theorem d_X_findWanting_70 : decode b_X_findWanting 70 = .ok (.getfield 48, 3) := by decide +kernel
theorem d_X_findWanting_73 : decode b_X_findWanting 73 = .ok (.iload 4, 2) := by decide +kernel
theorem d_X_findWanting_75 : decode b_X_findWanting 75 = .ok (.aload_n 1, 1) := by decide +kernel
theorem d_X_findWanting_76 : decode b_X_findWanting 76 = .ok (.invokevirtual 282, 3) := by decide +kernel
theorem d_X_findWanting_79 : decode b_X_findWanting 79 = .ok (.istore 5, 2) := by decide +kernel
theorem d_X_findWanting_81 : decode b_X_findWanting 81 = .ok (.iload 5, 2) := by decide +kernel
theorem d_X_findWanting_83 : decode b_X_findWanting 83 = .ok (.iconst (-1), 1) := by decide +kernel
theorem d_X_findWanting_84 : decode b_X_findWanting 84 = .ok (.if_icmp .eq 11, 3) := by decide +kernel
theorem d_X_findWanting_87 : decode b_X_findWanting 87 = .ok (.aload_n 2, 1) := by decide +kernel
theorem d_X_findWanting_88 : decode b_X_findWanting 88 = .ok (.iload 5, 2) := by decide +kernel
theorem d_X_findWanting_90 : decode b_X_findWanting 90 = .ok (.iload 4, 2) := by decide +kernel
theorem d_X_findWanting_92 : decode b_X_findWanting 92 = .ok (.invokevirtual 279, 3) := by decide +kernel
theorem d_X_findWanting_95 : decode b_X_findWanting 95 = .ok (.iinc 4 1, 3) := by decide +kernel
theorem d_X_findWanting_98 : decode b_X_findWanting 98 = .ok (.goto (-41), 3) := by decide +kernel
theorem d_X_findWanting_101 : decode b_X_findWanting 101 = .ok (.return_, 1) := by decide +kernel
def y_X_has : MethodName := ⟨cR0, "has", "(II)Z"⟩
abbrev b_X_has : ByteArray := prog_1_method_32_code
abbrev k_X_has : Cond := .code y_X_has b_X_has 2 (some .boolean)
theorem mc_X_has : MC y_X_has k_X_has b_X_has 2 (some .boolean) [] 2 := ⟨g_in (List.mem_of_getElem? (i := 426) (by decide +kernel)) (by decide +kernel), Or.inl ⟨rfl, rfl⟩, g_in (List.mem_of_getElem? (i := 57) (by decide +kernel)) (by decide +kernel), by decide, by decide +kernel⟩
theorem st_X_has : Cond.static y_X_has ∈ g_ws := g_in (List.mem_of_getElem? (i := 425) (by decide +kernel)) (by decide +kernel)
theorem d_X_has_0 : decode b_X_has 0 = .ok (.iload_n 0, 1) := by decide +kernel
theorem d_X_has_1 : decode b_X_has 1 = .ok (.iload_n 1, 1) := by decide +kernel
theorem d_X_has_2 : decode b_X_has 2 = .ok (.iushr, 1) := by decide +kernel
theorem d_X_has_3 : decode b_X_has 3 = .ok (.iconst 1, 1) := by decide +kernel
theorem d_X_has_4 : decode b_X_has 4 = .ok (.iand, 1) := by decide +kernel
theorem d_X_has_5 : decode b_X_has 5 = .ok (.iconst 1, 1) := by decide +kernel
theorem d_X_has_6 : decode b_X_has 6 = .ok (.if_icmp .ne 7, 3) := by decide +kernel
theorem d_X_has_9 : decode b_X_has 9 = .ok (.iconst 1, 1) := by decide +kernel
theorem d_X_has_10 : decode b_X_has 10 = .ok (.goto 4, 3) := by decide +kernel
theorem d_X_has_13 : decode b_X_has 13 = .ok (.iconst 0, 1) := by decide +kernel
theorem d_X_has_14 : decode b_X_has 14 = .ok (.ireturn, 1) := by decide +kernel
def y_X_changed : MethodName := ⟨cR0, "changed", "(IIZ)I"⟩
abbrev b_X_changed : ByteArray := prog_1_method_33_code
abbrev k_X_changed : Cond := .code y_X_changed b_X_changed 3 (some .int)
theorem mc_X_changed : MC y_X_changed k_X_changed b_X_changed 3 (some .int) [] 3 := ⟨g_in (List.mem_of_getElem? (i := 403) (by decide +kernel)) (by decide +kernel), Or.inl ⟨rfl, rfl⟩, g_in (List.mem_of_getElem? (i := 57) (by decide +kernel)) (by decide +kernel), by decide, by decide +kernel⟩
theorem st_X_changed : Cond.static y_X_changed ∈ g_ws := g_in (List.mem_of_getElem? (i := 402) (by decide +kernel)) (by decide +kernel)
theorem d_X_changed_0 : decode b_X_changed 0 = .ok (.iload_n 2, 1) := by decide +kernel
theorem d_X_changed_1 : decode b_X_changed 1 = .ok (.ifCond .eq 11, 3) := by decide +kernel
theorem d_X_changed_4 : decode b_X_changed 4 = .ok (.iload_n 0, 1) := by decide +kernel
theorem d_X_changed_5 : decode b_X_changed 5 = .ok (.iconst 1, 1) := by decide +kernel
theorem d_X_changed_6 : decode b_X_changed 6 = .ok (.iload_n 1, 1) := by decide +kernel
theorem d_X_changed_7 : decode b_X_changed 7 = .ok (.ishl, 1) := by decide +kernel
theorem d_X_changed_8 : decode b_X_changed 8 = .ok (.ior, 1) := by decide +kernel
theorem d_X_changed_9 : decode b_X_changed 9 = .ok (.goto 10, 3) := by decide +kernel
theorem d_X_changed_12 : decode b_X_changed 12 = .ok (.iload_n 0, 1) := by decide +kernel
theorem d_X_changed_13 : decode b_X_changed 13 = .ok (.iconst 1, 1) := by decide +kernel
theorem d_X_changed_14 : decode b_X_changed 14 = .ok (.iload_n 1, 1) := by decide +kernel
theorem d_X_changed_15 : decode b_X_changed 15 = .ok (.ishl, 1) := by decide +kernel
theorem d_X_changed_16 : decode b_X_changed 16 = .ok (.iconst (-1), 1) := by decide +kernel
theorem d_X_changed_17 : decode b_X_changed 17 = .ok (.ixor, 1) := by decide +kernel
theorem d_X_changed_18 : decode b_X_changed 18 = .ok (.iand, 1) := by decide +kernel
theorem d_X_changed_19 : decode b_X_changed 19 = .ok (.ireturn, 1) := by decide +kernel
end
section
/-! ===== methods of RR: printed by program ===== -/
def y_RR_init : MethodName := ⟨cR1, "<init>", "([B)V"⟩
abbrev b_RR_init : ByteArray := prog_6_method_1_code
abbrev k_RR_init : Cond := .code y_RR_init b_RR_init 2 none
theorem mc_RR_init : MC y_RR_init k_RR_init b_RR_init 2 none [] 1 := ⟨g_in (List.mem_of_getElem? (i := 88) (by decide +kernel)) (by decide +kernel), Or.inl ⟨rfl, rfl⟩, g_in (List.mem_of_getElem? (i := 58) (by decide +kernel)) (by decide +kernel), by decide, by decide +kernel⟩
theorem in_RR_init : Cond.instanceMethod y_RR_init ∈ g_ws := g_in (List.mem_of_getElem? (i := 87) (by decide +kernel)) (by decide +kernel)
theorem d_RR_init_0 : decode b_RR_init 0 = .ok (.aload_n 0, 1) := by decide +kernel
theorem d_RR_init_1 : decode b_RR_init 1 = .ok (.invokespecial 3, 3) := by decide +kernel
theorem d_RR_init_4 : decode b_RR_init 4 = .ok (.aload_n 0, 1) := by decide +kernel
theorem d_RR_init_5 : decode b_RR_init 5 = .ok (.iconst 0, 1) := by decide +kernel
theorem d_RR_init_6 : decode b_RR_init 6 = .ok (.putfield 9, 3) := by decide +kernel
theorem d_RR_init_9 : decode b_RR_init 9 = .ok (.aload_n 0, 1) := by decide +kernel
theorem d_RR_init_10 : decode b_RR_init 10 = .ok (.iconst 0, 1) := by decide +kernel
theorem d_RR_init_11 : decode b_RR_init 11 = .ok (.putfield 15, 3) := by decide +kernel
theorem d_RR_init_14 : decode b_RR_init 14 = .ok (.aload_n 0, 1) := by decide +kernel
theorem d_RR_init_15 : decode b_RR_init 15 = .ok (.aload_n 1, 1) := by decide +kernel
theorem d_RR_init_16 : decode b_RR_init 16 = .ok (.putfield 18, 3) := by decide +kernel
theorem d_RR_init_19 : decode b_RR_init 19 = .ok (.return_, 1) := by decide +kernel
def y_RR_readInto : MethodName := ⟨cR1, "readInto", "(LReportChecks2$RuleBook;I)I"⟩
abbrev b_RR_readInto : ByteArray := prog_6_method_2_code
abbrev k_RR_readInto : Cond := .code y_RR_readInto b_RR_readInto 4 (some .int)
theorem mc_RR_readInto : MC y_RR_readInto k_RR_readInto b_RR_readInto 4 (some .int) [] 2 := ⟨g_in (List.mem_of_getElem? (i := 492) (by decide +kernel)) (by decide +kernel), Or.inl ⟨rfl, rfl⟩, g_in (List.mem_of_getElem? (i := 58) (by decide +kernel)) (by decide +kernel), by decide, by decide +kernel⟩
theorem in_RR_readInto : Cond.instanceMethod y_RR_readInto ∈ g_ws := g_in (List.mem_of_getElem? (i := 491) (by decide +kernel)) (by decide +kernel)
theorem se_RR_readInto : Cond.selects cR1 y_RR_readInto y_RR_readInto ∈ g_ws := g_in (List.mem_of_getElem? (i := 7) (by decide +kernel)) (by decide +kernel)
theorem d_RR_readInto_0 : decode b_RR_readInto 0 = .ok (.aload_n 0, 1) := by decide +kernel
theorem d_RR_readInto_1 : decode b_RR_readInto 1 = .ok (.iload_n 2, 1) := by decide +kernel
theorem d_RR_readInto_2 : decode b_RR_readInto 2 = .ok (.aload_n 0, 1) := by decide +kernel
theorem d_RR_readInto_3 : decode b_RR_readInto 3 = .ok (.getfield 18, 3) := by decide +kernel
theorem d_RR_readInto_6 : decode b_RR_readInto 6 = .ok (.arraylength, 1) := by decide +kernel
theorem d_RR_readInto_7 : decode b_RR_readInto 7 = .ok (.invokestatic 22, 3) := by decide +kernel
theorem d_RR_readInto_10 : decode b_RR_readInto 10 = .ok (.putfield 9, 3) := by decide +kernel
theorem d_RR_readInto_13 : decode b_RR_readInto 13 = .ok (.aload_n 0, 1) := by decide +kernel
theorem d_RR_readInto_14 : decode b_RR_readInto 14 = .ok (.iconst 0, 1) := by decide +kernel
theorem d_RR_readInto_15 : decode b_RR_readInto 15 = .ok (.putfield 15, 3) := by decide +kernel
theorem d_RR_readInto_18 : decode b_RR_readInto 18 = .ok (.aload_n 1, 1) := by decide +kernel
theorem d_RR_readInto_19 : decode b_RR_readInto 19 = .ok (.iconst 0, 1) := by decide +kernel
theorem d_RR_readInto_20 : decode b_RR_readInto 20 = .ok (.putfield 28, 3) := by decide +kernel
theorem d_RR_readInto_23 : decode b_RR_readInto 23 = .ok (.aload_n 0, 1) := by decide +kernel
theorem d_RR_readInto_24 : decode b_RR_readInto 24 = .ok (.invokevirtual 33, 3) := by decide +kernel
theorem d_RR_readInto_27 : decode b_RR_readInto 27 = .ok (.iconst 0, 1) := by decide +kernel
theorem d_RR_readInto_28 : decode b_RR_readInto 28 = .ok (.istore_n 3, 1) := by decide +kernel
theorem d_RR_readInto_29 : decode b_RR_readInto 29 = .ok (.aload_n 0, 1) := by decide +kernel
theorem d_RR_readInto_30 : decode b_RR_readInto 30 = .ok (.getfield 15, 3) := by decide +kernel
theorem d_RR_readInto_33 : decode b_RR_readInto 33 = .ok (.aload_n 0, 1) := by decide +kernel
theorem d_RR_readInto_34 : decode b_RR_readInto 34 = .ok (.getfield 9, 3) := by decide +kernel
theorem d_RR_readInto_37 : decode b_RR_readInto 37 = .ok (.if_icmp .ge 83, 3) := by decide +kernel
theorem d_RR_readInto_40 : decode b_RR_readInto 40 = .ok (.iload_n 3, 1) := by decide +kernel
theorem d_RR_readInto_41 : decode b_RR_readInto 41 = .ok (.bipush 20, 2) := by decide +kernel
theorem d_RR_readInto_43 : decode b_RR_readInto 43 = .ok (.if_icmp .lt 8, 3) := by decide +kernel
theorem d_RR_readInto_46 : decode b_RR_readInto 46 = .ok (.aload_n 0, 1) := by decide +kernel
theorem d_RR_readInto_47 : decode b_RR_readInto 47 = .ok (.getfield 15, 3) := by decide +kernel
theorem d_RR_readInto_50 : decode b_RR_readInto 50 = .ok (.ireturn, 1) := by decide +kernel
theorem d_RR_readInto_51 : decode b_RR_readInto 51 = .ok (.aload_n 1, 1) := by decide +kernel
theorem d_RR_readInto_52 : decode b_RR_readInto 52 = .ok (.iload_n 3, 1) := by decide +kernel
theorem d_RR_readInto_53 : decode b_RR_readInto 53 = .ok (.invokevirtual 36, 3) := by decide +kernel
theorem d_RR_readInto_56 : decode b_RR_readInto 56 = .ok (.aload_n 0, 1) := by decide +kernel
theorem d_RR_readInto_57 : decode b_RR_readInto 57 = .ok (.aload_n 1, 1) := by decide +kernel
theorem d_RR_readInto_58 : decode b_RR_readInto 58 = .ok (.iconst 2, 1) := by decide +kernel
theorem d_RR_readInto_59 : decode b_RR_readInto 59 = .ok (.iload_n 3, 1) := by decide +kernel
theorem d_RR_readInto_60 : decode b_RR_readInto 60 = .ok (.imul, 1) := by decide +kernel
theorem d_RR_readInto_61 : decode b_RR_readInto 61 = .ok (.invokevirtual 40, 3) := by decide +kernel
theorem d_RR_readInto_64 : decode b_RR_readInto 64 = .ok (.ifCond .eq 34, 3) := by decide +kernel
theorem d_RR_readInto_67 : decode b_RR_readInto 67 = .ok (.aload_n 0, 1) := by decide +kernel
theorem d_RR_readInto_68 : decode b_RR_readInto 68 = .ok (.aload_n 1, 1) := by decide +kernel
theorem d_RR_readInto_69 : decode b_RR_readInto 69 = .ok (.iload_n 3, 1) := by decide +kernel
theorem d_RR_readInto_70 : decode b_RR_readInto 70 = .ok (.invokevirtual 44, 3) := by decide +kernel
theorem d_RR_readInto_73 : decode b_RR_readInto 73 = .ok (.ifCond .eq 25, 3) := by decide +kernel
theorem d_RR_readInto_76 : decode b_RR_readInto 76 = .ok (.aload_n 0, 1) := by decide +kernel
theorem d_RR_readInto_77 : decode b_RR_readInto 77 = .ok (.aload_n 1, 1) := by decide +kernel
theorem d_RR_readInto_78 : decode b_RR_readInto 78 = .ok (.iconst 2, 1) := by decide +kernel
theorem d_RR_readInto_79 : decode b_RR_readInto 79 = .ok (.iload_n 3, 1) := by decide +kernel
theorem d_RR_readInto_80 : decode b_RR_readInto 80 = .ok (.imul, 1) := by decide +kernel
theorem d_RR_readInto_81 : decode b_RR_readInto 81 = .ok (.iconst 1, 1) := by decide +kernel
theorem d_RR_readInto_82 : decode b_RR_readInto 82 = .ok (.iadd, 1) := by decide +kernel
theorem d_RR_readInto_83 : decode b_RR_readInto 83 = .ok (.invokevirtual 40, 3) := by decide +kernel
theorem d_RR_readInto_86 : decode b_RR_readInto 86 = .ok (.ifCond .eq 12, 3) := by decide +kernel
theorem d_RR_readInto_89 : decode b_RR_readInto 89 = .ok (.aload_n 0, 1) := by decide +kernel
theorem d_RR_readInto_90 : decode b_RR_readInto 90 = .ok (.bipush 59, 2) := by decide +kernel
theorem d_RR_readInto_92 : decode b_RR_readInto 92 = .ok (.invokevirtual 47, 3) := by decide +kernel
theorem d_RR_readInto_95 : decode b_RR_readInto 95 = .ok (.ifCond .ne 8, 3) := by decide +kernel
theorem d_RR_readInto_98 : decode b_RR_readInto 98 = .ok (.aload_n 0, 1) := by decide +kernel
theorem d_RR_readInto_99 : decode b_RR_readInto 99 = .ok (.getfield 15, 3) := by decide +kernel
theorem d_RR_readInto_102 : decode b_RR_readInto 102 = .ok (.ireturn, 1) := by decide +kernel
theorem d_RR_readInto_103 : decode b_RR_readInto 103 = .ok (.aload_n 1, 1) := by decide +kernel
theorem d_RR_readInto_104 : decode b_RR_readInto 104 = .ok (.iload_n 3, 1) := by decide +kernel
theorem d_RR_readInto_105 : decode b_RR_readInto 105 = .ok (.iconst 1, 1) := by decide +kernel
theorem d_RR_readInto_106 : decode b_RR_readInto 106 = .ok (.iadd, 1) := by decide +kernel
theorem d_RR_readInto_107 : decode b_RR_readInto 107 = .ok (.putfield 28, 3) := by decide +kernel
theorem d_RR_readInto_110 : decode b_RR_readInto 110 = .ok (.aload_n 0, 1) := by decide +kernel
theorem d_RR_readInto_111 : decode b_RR_readInto 111 = .ok (.invokevirtual 33, 3) := by decide +kernel
theorem d_RR_readInto_114 : decode b_RR_readInto 114 = .ok (.iinc 3 1, 3) := by decide +kernel
theorem d_RR_readInto_117 : decode b_RR_readInto 117 = .ok (.goto (-88), 3) := by decide +kernel
theorem d_RR_readInto_120 : decode b_RR_readInto 120 = .ok (.iconst (-1), 1) := by decide +kernel
theorem d_RR_readInto_121 : decode b_RR_readInto 121 = .ok (.ireturn, 1) := by decide +kernel
def y_RR_readComparison : MethodName := ⟨cR1, "readComparison", "(LReportChecks2$RuleBook;I)Z"⟩
abbrev b_RR_readComparison : ByteArray := prog_6_method_3_code
abbrev k_RR_readComparison : Cond := .code y_RR_readComparison b_RR_readComparison 3 (some .boolean)
theorem mc_RR_readComparison : MC y_RR_readComparison k_RR_readComparison b_RR_readComparison 3 (some .boolean) [] 2 := ⟨g_in (List.mem_of_getElem? (i := 541) (by decide +kernel)) (by decide +kernel), Or.inl ⟨rfl, rfl⟩, g_in (List.mem_of_getElem? (i := 58) (by decide +kernel)) (by decide +kernel), by decide, by decide +kernel⟩
theorem in_RR_readComparison : Cond.instanceMethod y_RR_readComparison ∈ g_ws := g_in (List.mem_of_getElem? (i := 540) (by decide +kernel)) (by decide +kernel)
theorem se_RR_readComparison : Cond.selects cR1 y_RR_readComparison y_RR_readComparison ∈ g_ws := g_in (List.mem_of_getElem? (i := 17) (by decide +kernel)) (by decide +kernel)
theorem d_RR_readComparison_0 : decode b_RR_readComparison 0 = .ok (.aload_n 0, 1) := by decide +kernel
theorem d_RR_readComparison_1 : decode b_RR_readComparison 1 = .ok (.bipush 60, 2) := by decide +kernel
theorem d_RR_readComparison_3 : decode b_RR_readComparison 3 = .ok (.invokevirtual 47, 3) := by decide +kernel
theorem d_RR_readComparison_6 : decode b_RR_readComparison 6 = .ok (.ifCond .eq 14, 3) := by decide +kernel
theorem d_RR_readComparison_9 : decode b_RR_readComparison 9 = .ok (.aload_n 1, 1) := by decide +kernel
theorem d_RR_readComparison_10 : decode b_RR_readComparison 10 = .ok (.getfield 51, 3) := by decide +kernel
theorem d_RR_readComparison_13 : decode b_RR_readComparison 13 = .ok (.iload_n 2, 1) := by decide +kernel
theorem d_RR_readComparison_14 : decode b_RR_readComparison 14 = .ok (.bipush 60, 2) := by decide +kernel
theorem d_RR_readComparison_16 : decode b_RR_readComparison 16 = .ok (.castore, 1) := by decide +kernel
theorem d_RR_readComparison_17 : decode b_RR_readComparison 17 = .ok (.goto 45, 3) := by decide +kernel
theorem d_RR_readComparison_20 : decode b_RR_readComparison 20 = .ok (.aload_n 0, 1) := by decide +kernel
theorem d_RR_readComparison_21 : decode b_RR_readComparison 21 = .ok (.bipush 61, 2) := by decide +kernel
theorem d_RR_readComparison_23 : decode b_RR_readComparison 23 = .ok (.invokevirtual 47, 3) := by decide +kernel
theorem d_RR_readComparison_26 : decode b_RR_readComparison 26 = .ok (.ifCond .eq 14, 3) := by decide +kernel
theorem d_RR_readComparison_29 : decode b_RR_readComparison 29 = .ok (.aload_n 1, 1) := by decide +kernel
theorem d_RR_readComparison_30 : decode b_RR_readComparison 30 = .ok (.getfield 51, 3) := by decide +kernel
theorem d_RR_readComparison_33 : decode b_RR_readComparison 33 = .ok (.iload_n 2, 1) := by decide +kernel
theorem d_RR_readComparison_34 : decode b_RR_readComparison 34 = .ok (.bipush 61, 2) := by decide +kernel
theorem d_RR_readComparison_36 : decode b_RR_readComparison 36 = .ok (.castore, 1) := by decide +kernel
theorem d_RR_readComparison_37 : decode b_RR_readComparison 37 = .ok (.goto 25, 3) := by decide +kernel
theorem d_RR_readComparison_40 : decode b_RR_readComparison 40 = .ok (.aload_n 0, 1) := by decide +kernel
theorem d_RR_readComparison_41 : decode b_RR_readComparison 41 = .ok (.bipush 33, 2) := by decide +kernel
theorem d_RR_readComparison_43 : decode b_RR_readComparison 43 = .ok (.invokevirtual 47, 3) := by decide +kernel
theorem d_RR_readComparison_46 : decode b_RR_readComparison 46 = .ok (.ifCond .eq 14, 3) := by decide +kernel
theorem d_RR_readComparison_49 : decode b_RR_readComparison 49 = .ok (.aload_n 1, 1) := by decide +kernel
theorem d_RR_readComparison_50 : decode b_RR_readComparison 50 = .ok (.getfield 51, 3) := by decide +kernel
theorem d_RR_readComparison_53 : decode b_RR_readComparison 53 = .ok (.iload_n 2, 1) := by decide +kernel
theorem d_RR_readComparison_54 : decode b_RR_readComparison 54 = .ok (.bipush 33, 2) := by decide +kernel
theorem d_RR_readComparison_56 : decode b_RR_readComparison 56 = .ok (.castore, 1) := by decide +kernel
theorem d_RR_readComparison_57 : decode b_RR_readComparison 57 = .ok (.goto 5, 3) := by decide +kernel
theorem d_RR_readComparison_60 : decode b_RR_readComparison 60 = .ok (.iconst 0, 1) := by decide +kernel
theorem d_RR_readComparison_61 : decode b_RR_readComparison 61 = .ok (.ireturn, 1) := by decide +kernel
theorem d_RR_readComparison_62 : decode b_RR_readComparison 62 = .ok (.iconst 1, 1) := by decide +kernel
theorem d_RR_readComparison_63 : decode b_RR_readComparison 63 = .ok (.ireturn, 1) := by decide +kernel
def y_RR_readSum : MethodName := ⟨cR1, "readSum", "(LReportChecks2$RuleBook;I)Z"⟩
abbrev b_RR_readSum : ByteArray := prog_6_method_4_code
abbrev k_RR_readSum : Cond := .code y_RR_readSum b_RR_readSum 5 (some .boolean)
theorem mc_RR_readSum : MC y_RR_readSum k_RR_readSum b_RR_readSum 5 (some .boolean) [] 2 := ⟨g_in (List.mem_of_getElem? (i := 507) (by decide +kernel)) (by decide +kernel), Or.inl ⟨rfl, rfl⟩, g_in (List.mem_of_getElem? (i := 58) (by decide +kernel)) (by decide +kernel), by decide, by decide +kernel⟩
theorem in_RR_readSum : Cond.instanceMethod y_RR_readSum ∈ g_ws := g_in (List.mem_of_getElem? (i := 506) (by decide +kernel)) (by decide +kernel)
theorem se_RR_readSum : Cond.selects cR1 y_RR_readSum y_RR_readSum ∈ g_ws := g_in (List.mem_of_getElem? (i := 10) (by decide +kernel)) (by decide +kernel)
theorem d_RR_readSum_0 : decode b_RR_readSum 0 = .ok (.iconst 0, 1) := by decide +kernel
theorem d_RR_readSum_1 : decode b_RR_readSum 1 = .ok (.istore_n 3, 1) := by decide +kernel
theorem d_RR_readSum_2 : decode b_RR_readSum 2 = .ok (.iconst 1, 1) := by decide +kernel
theorem d_RR_readSum_3 : decode b_RR_readSum 3 = .ok (.istore 4, 2) := by decide +kernel
theorem d_RR_readSum_5 : decode b_RR_readSum 5 = .ok (.iload 4, 2) := by decide +kernel
theorem d_RR_readSum_7 : decode b_RR_readSum 7 = .ok (.iconst 4, 1) := by decide +kernel
theorem d_RR_readSum_8 : decode b_RR_readSum 8 = .ok (.if_icmp .gt 49, 3) := by decide +kernel
theorem d_RR_readSum_11 : decode b_RR_readSum 11 = .ok (.aload_n 0, 1) := by decide +kernel
theorem d_RR_readSum_12 : decode b_RR_readSum 12 = .ok (.aload_n 1, 1) := by decide +kernel
theorem d_RR_readSum_13 : decode b_RR_readSum 13 = .ok (.iload_n 2, 1) := by decide +kernel
theorem d_RR_readSum_14 : decode b_RR_readSum 14 = .ok (.iload_n 3, 1) := by decide +kernel
theorem d_RR_readSum_15 : decode b_RR_readSum 15 = .ok (.invokevirtual 55, 3) := by decide +kernel
theorem d_RR_readSum_18 : decode b_RR_readSum 18 = .ok (.ifCond .ne 5, 3) := by decide +kernel
theorem d_RR_readSum_21 : decode b_RR_readSum 21 = .ok (.iconst 0, 1) := by decide +kernel
theorem d_RR_readSum_22 : decode b_RR_readSum 22 = .ok (.ireturn, 1) := by decide +kernel
theorem d_RR_readSum_23 : decode b_RR_readSum 23 = .ok (.iload 4, 2) := by decide +kernel
theorem d_RR_readSum_25 : decode b_RR_readSum 25 = .ok (.iconst 4, 1) := by decide +kernel
theorem d_RR_readSum_26 : decode b_RR_readSum 26 = .ok (.if_icmp .ge 25, 3) := by decide +kernel
theorem d_RR_readSum_29 : decode b_RR_readSum 29 = .ok (.aload_n 0, 1) := by decide +kernel
theorem d_RR_readSum_30 : decode b_RR_readSum 30 = .ok (.bipush 45, 2) := by decide +kernel
theorem d_RR_readSum_32 : decode b_RR_readSum 32 = .ok (.invokevirtual 47, 3) := by decide +kernel
theorem d_RR_readSum_35 : decode b_RR_readSum 35 = .ok (.istore_n 3, 1) := by decide +kernel
theorem d_RR_readSum_36 : decode b_RR_readSum 36 = .ok (.iload_n 3, 1) := by decide +kernel
theorem d_RR_readSum_37 : decode b_RR_readSum 37 = .ok (.ifCond .ne 14, 3) := by decide +kernel
theorem d_RR_readSum_40 : decode b_RR_readSum 40 = .ok (.aload_n 0, 1) := by decide +kernel
theorem d_RR_readSum_41 : decode b_RR_readSum 41 = .ok (.bipush 43, 2) := by decide +kernel
theorem d_RR_readSum_43 : decode b_RR_readSum 43 = .ok (.invokevirtual 47, 3) := by decide +kernel
theorem d_RR_readSum_46 : decode b_RR_readSum 46 = .ok (.ifCond .ne 5, 3) := by decide +kernel
theorem d_RR_readSum_49 : decode b_RR_readSum 49 = .ok (.iconst 1, 1) := by decide +kernel
theorem d_RR_readSum_50 : decode b_RR_readSum 50 = .ok (.ireturn, 1) := by decide +kernel
theorem d_RR_readSum_51 : decode b_RR_readSum 51 = .ok (.iinc 4 1, 3) := by decide +kernel
theorem d_RR_readSum_54 : decode b_RR_readSum 54 = .ok (.goto (-49), 3) := by decide +kernel
theorem d_RR_readSum_57 : decode b_RR_readSum 57 = .ok (.iconst 1, 1) := by decide +kernel
theorem d_RR_readSum_58 : decode b_RR_readSum 58 = .ok (.ireturn, 1) := by decide +kernel
def y_RR_readTerm : MethodName := ⟨cR1, "readTerm", "(LReportChecks2$RuleBook;IZ)Z"⟩
abbrev b_RR_readTerm : ByteArray := prog_6_method_5_code
abbrev k_RR_readTerm : Cond := .code y_RR_readTerm b_RR_readTerm 6 (some .boolean)
theorem mc_RR_readTerm : MC y_RR_readTerm k_RR_readTerm b_RR_readTerm 6 (some .boolean) [] 3 := ⟨g_in (List.mem_of_getElem? (i := 511) (by decide +kernel)) (by decide +kernel), Or.inl ⟨rfl, rfl⟩, g_in (List.mem_of_getElem? (i := 58) (by decide +kernel)) (by decide +kernel), by decide, by decide +kernel⟩
theorem in_RR_readTerm : Cond.instanceMethod y_RR_readTerm ∈ g_ws := g_in (List.mem_of_getElem? (i := 510) (by decide +kernel)) (by decide +kernel)
theorem se_RR_readTerm : Cond.selects cR1 y_RR_readTerm y_RR_readTerm ∈ g_ws := g_in (List.mem_of_getElem? (i := 11) (by decide +kernel)) (by decide +kernel)
theorem d_RR_readTerm_0 : decode b_RR_readTerm 0 = .ok (.aload_n 0, 1) := by decide +kernel
theorem d_RR_readTerm_1 : decode b_RR_readTerm 1 = .ok (.invokevirtual 59, 3) := by decide +kernel
theorem d_RR_readTerm_4 : decode b_RR_readTerm 4 = .ok (.istore 4, 2) := by decide +kernel
theorem d_RR_readTerm_6 : decode b_RR_readTerm 6 = .ok (.iload 4, 2) := by decide +kernel
theorem d_RR_readTerm_8 : decode b_RR_readTerm 8 = .ok (.ldc 63, 2) := by decide +kernel
theorem d_RR_readTerm_10 : decode b_RR_readTerm 10 = .ok (.if_icmp .ne 5, 3) := by decide +kernel
theorem d_RR_readTerm_13 : decode b_RR_readTerm 13 = .ok (.iconst 0, 1) := by decide +kernel
theorem d_RR_readTerm_14 : decode b_RR_readTerm 14 = .ok (.ireturn, 1) := by decide +kernel
theorem d_RR_readTerm_15 : decode b_RR_readTerm 15 = .ok (.aload_n 0, 1) := by decide +kernel
theorem d_RR_readTerm_16 : decode b_RR_readTerm 16 = .ok (.bipush 47, 2) := by decide +kernel
theorem d_RR_readTerm_18 : decode b_RR_readTerm 18 = .ok (.invokevirtual 47, 3) := by decide +kernel
theorem d_RR_readTerm_21 : decode b_RR_readTerm 21 = .ok (.ifCond .eq 10, 3) := by decide +kernel
theorem d_RR_readTerm_24 : decode b_RR_readTerm 24 = .ok (.aload_n 0, 1) := by decide +kernel
theorem d_RR_readTerm_25 : decode b_RR_readTerm 25 = .ok (.invokevirtual 59, 3) := by decide +kernel
theorem d_RR_readTerm_28 : decode b_RR_readTerm 28 = .ok (.goto 4, 3) := by decide +kernel
theorem d_RR_readTerm_31 : decode b_RR_readTerm 31 = .ok (.iconst 1, 1) := by decide +kernel
theorem d_RR_readTerm_32 : decode b_RR_readTerm 32 = .ok (.istore 5, 2) := by decide +kernel
theorem d_RR_readTerm_34 : decode b_RR_readTerm 34 = .ok (.iload 5, 2) := by decide +kernel
theorem d_RR_readTerm_36 : decode b_RR_readTerm 36 = .ok (.ldc 63, 2) := by decide +kernel
theorem d_RR_readTerm_38 : decode b_RR_readTerm 38 = .ok (.if_icmp .ne 5, 3) := by decide +kernel
theorem d_RR_readTerm_41 : decode b_RR_readTerm 41 = .ok (.iconst 0, 1) := by decide +kernel
theorem d_RR_readTerm_42 : decode b_RR_readTerm 42 = .ok (.ireturn, 1) := by decide +kernel
theorem d_RR_readTerm_43 : decode b_RR_readTerm 43 = .ok (.aload_n 1, 1) := by decide +kernel
theorem d_RR_readTerm_44 : decode b_RR_readTerm 44 = .ok (.iload_n 2, 1) := by decide +kernel
theorem d_RR_readTerm_45 : decode b_RR_readTerm 45 = .ok (.iload 4, 2) := by decide +kernel
theorem d_RR_readTerm_47 : decode b_RR_readTerm 47 = .ok (.iload 5, 2) := by decide +kernel
theorem d_RR_readTerm_49 : decode b_RR_readTerm 49 = .ok (.iload_n 3, 1) := by decide +kernel
theorem d_RR_readTerm_50 : decode b_RR_readTerm 50 = .ok (.invokevirtual 64, 3) := by decide +kernel
theorem d_RR_readTerm_53 : decode b_RR_readTerm 53 = .ok (.iconst 1, 1) := by decide +kernel
theorem d_RR_readTerm_54 : decode b_RR_readTerm 54 = .ok (.ireturn, 1) := by decide +kernel
def y_RR_readFactor : MethodName := ⟨cR1, "readFactor", "()I"⟩
abbrev b_RR_readFactor : ByteArray := prog_6_method_6_code
abbrev k_RR_readFactor : Cond := .code y_RR_readFactor b_RR_readFactor 3 (some .int)
theorem mc_RR_readFactor : MC y_RR_readFactor k_RR_readFactor b_RR_readFactor 3 (some .int) [] 0 := ⟨g_in (List.mem_of_getElem? (i := 515) (by decide +kernel)) (by decide +kernel), Or.inl ⟨rfl, rfl⟩, g_in (List.mem_of_getElem? (i := 58) (by decide +kernel)) (by decide +kernel), by decide, by decide +kernel⟩
theorem in_RR_readFactor : Cond.instanceMethod y_RR_readFactor ∈ g_ws := g_in (List.mem_of_getElem? (i := 514) (by decide +kernel)) (by decide +kernel)
theorem se_RR_readFactor : Cond.selects cR1 y_RR_readFactor y_RR_readFactor ∈ g_ws := g_in (List.mem_of_getElem? (i := 12) (by decide +kernel)) (by decide +kernel)
theorem d_RR_readFactor_0 : decode b_RR_readFactor 0 = .ok (.aload_n 0, 1) := by decide +kernel
theorem d_RR_readFactor_1 : decode b_RR_readFactor 1 = .ok (.bipush 102, 2) := by decide +kernel
theorem d_RR_readFactor_3 : decode b_RR_readFactor 3 = .ok (.invokevirtual 47, 3) := by decide +kernel
theorem d_RR_readFactor_6 : decode b_RR_readFactor 6 = .ok (.istore_n 1, 1) := by decide +kernel
theorem d_RR_readFactor_7 : decode b_RR_readFactor 7 = .ok (.aload_n 0, 1) := by decide +kernel
theorem d_RR_readFactor_8 : decode b_RR_readFactor 8 = .ok (.invokevirtual 33, 3) := by decide +kernel
theorem d_RR_readFactor_11 : decode b_RR_readFactor 11 = .ok (.aload_n 0, 1) := by decide +kernel
theorem d_RR_readFactor_12 : decode b_RR_readFactor 12 = .ok (.iload_n 1, 1) := by decide +kernel
theorem d_RR_readFactor_13 : decode b_RR_readFactor 13 = .ok (.ifCond .eq 8, 3) := by decide +kernel
theorem d_RR_readFactor_16 : decode b_RR_readFactor 16 = .ok (.bipush 19, 2) := by decide +kernel
theorem d_RR_readFactor_18 : decode b_RR_readFactor 18 = .ok (.goto 5, 3) := by decide +kernel
theorem d_RR_readFactor_21 : decode b_RR_readFactor 21 = .ok (.ldc 68, 2) := by decide +kernel
theorem d_RR_readFactor_23 : decode b_RR_readFactor 23 = .ok (.invokevirtual 69, 3) := by decide +kernel
theorem d_RR_readFactor_26 : decode b_RR_readFactor 26 = .ok (.istore_n 2, 1) := by decide +kernel
theorem d_RR_readFactor_27 : decode b_RR_readFactor 27 = .ok (.iload_n 1, 1) := by decide +kernel
theorem d_RR_readFactor_28 : decode b_RR_readFactor 28 = .ok (.ifCond .eq 16, 3) := by decide +kernel
theorem d_RR_readFactor_31 : decode b_RR_readFactor 31 = .ok (.iload_n 2, 1) := by decide +kernel
theorem d_RR_readFactor_32 : decode b_RR_readFactor 32 = .ok (.ldc 63, 2) := by decide +kernel
theorem d_RR_readFactor_34 : decode b_RR_readFactor 34 = .ok (.if_icmp .eq 10, 3) := by decide +kernel
theorem d_RR_readFactor_37 : decode b_RR_readFactor 37 = .ok (.iload_n 2, 1) := by decide +kernel
theorem d_RR_readFactor_38 : decode b_RR_readFactor 38 = .ok (.invokestatic 73, 3) := by decide +kernel
theorem d_RR_readFactor_41 : decode b_RR_readFactor 41 = .ok (.goto 4, 3) := by decide +kernel
theorem d_RR_readFactor_44 : decode b_RR_readFactor 44 = .ok (.iload_n 2, 1) := by decide +kernel
theorem d_RR_readFactor_45 : decode b_RR_readFactor 45 = .ok (.ireturn, 1) := by decide +kernel
def y_RR_readNumber : MethodName := ⟨cR1, "readNumber", "(I)I"⟩
abbrev b_RR_readNumber : ByteArray := prog_6_method_7_code
abbrev k_RR_readNumber : Cond := .code y_RR_readNumber b_RR_readNumber 5 (some .int)
theorem mc_RR_readNumber : MC y_RR_readNumber k_RR_readNumber b_RR_readNumber 5 (some .int) [] 1 := ⟨g_in (List.mem_of_getElem? (i := 524) (by decide +kernel)) (by decide +kernel), Or.inl ⟨rfl, rfl⟩, g_in (List.mem_of_getElem? (i := 58) (by decide +kernel)) (by decide +kernel), by decide, by decide +kernel⟩
theorem in_RR_readNumber : Cond.instanceMethod y_RR_readNumber ∈ g_ws := g_in (List.mem_of_getElem? (i := 523) (by decide +kernel)) (by decide +kernel)
theorem se_RR_readNumber : Cond.selects cR1 y_RR_readNumber y_RR_readNumber ∈ g_ws := g_in (List.mem_of_getElem? (i := 14) (by decide +kernel)) (by decide +kernel)
theorem d_RR_readNumber_0 : decode b_RR_readNumber 0 = .ok (.ldc 63, 2) := by decide +kernel
theorem d_RR_readNumber_2 : decode b_RR_readNumber 2 = .ok (.istore_n 2, 1) := by decide +kernel
theorem d_RR_readNumber_3 : decode b_RR_readNumber 3 = .ok (.aload_n 0, 1) := by decide +kernel
theorem d_RR_readNumber_4 : decode b_RR_readNumber 4 = .ok (.getfield 15, 3) := by decide +kernel
theorem d_RR_readNumber_7 : decode b_RR_readNumber 7 = .ok (.aload_n 0, 1) := by decide +kernel
theorem d_RR_readNumber_8 : decode b_RR_readNumber 8 = .ok (.getfield 9, 3) := by decide +kernel
theorem d_RR_readNumber_11 : decode b_RR_readNumber 11 = .ok (.if_icmp .ge 75, 3) := by decide +kernel
theorem d_RR_readNumber_14 : decode b_RR_readNumber 14 = .ok (.aload_n 0, 1) := by decide +kernel
theorem d_RR_readNumber_15 : decode b_RR_readNumber 15 = .ok (.getfield 18, 3) := by decide +kernel
theorem d_RR_readNumber_18 : decode b_RR_readNumber 18 = .ok (.aload_n 0, 1) := by decide +kernel
theorem d_RR_readNumber_19 : decode b_RR_readNumber 19 = .ok (.getfield 15, 3) := by decide +kernel
theorem d_RR_readNumber_22 : decode b_RR_readNumber 22 = .ok (.baload, 1) := by decide +kernel
theorem d_RR_readNumber_23 : decode b_RR_readNumber 23 = .ok (.bipush 48, 2) := by decide +kernel
theorem d_RR_readNumber_25 : decode b_RR_readNumber 25 = .ok (.isub, 1) := by decide +kernel
theorem d_RR_readNumber_26 : decode b_RR_readNumber 26 = .ok (.istore_n 3, 1) := by decide +kernel
theorem d_RR_readNumber_27 : decode b_RR_readNumber 27 = .ok (.iload_n 3, 1) := by decide +kernel
theorem d_RR_readNumber_28 : decode b_RR_readNumber 28 = .ok (.ifCond .lt 9, 3) := by decide +kernel
theorem d_RR_readNumber_31 : decode b_RR_readNumber 31 = .ok (.iload_n 3, 1) := by decide +kernel
theorem d_RR_readNumber_32 : decode b_RR_readNumber 32 = .ok (.bipush 9, 2) := by decide +kernel
theorem d_RR_readNumber_34 : decode b_RR_readNumber 34 = .ok (.if_icmp .le 5, 3) := by decide +kernel
theorem d_RR_readNumber_37 : decode b_RR_readNumber 37 = .ok (.iload_n 2, 1) := by decide +kernel
theorem d_RR_readNumber_38 : decode b_RR_readNumber 38 = .ok (.ireturn, 1) := by decide +kernel
theorem d_RR_readNumber_39 : decode b_RR_readNumber 39 = .ok (.iload_n 2, 1) := by decide +kernel
theorem d_RR_readNumber_40 : decode b_RR_readNumber 40 = .ok (.ldc 63, 2) := by decide +kernel
theorem d_RR_readNumber_42 : decode b_RR_readNumber 42 = .ok (.if_icmp .ne 7, 3) := by decide +kernel
theorem d_RR_readNumber_45 : decode b_RR_readNumber 45 = .ok (.iload_n 3, 1) := by decide +kernel
theorem d_RR_readNumber_46 : decode b_RR_readNumber 46 = .ok (.goto 9, 3) := by decide +kernel
theorem d_RR_readNumber_49 : decode b_RR_readNumber 49 = .ok (.bipush 10, 2) := by decide +kernel
theorem d_RR_readNumber_51 : decode b_RR_readNumber 51 = .ok (.iload_n 2, 1) := by decide +kernel
theorem d_RR_readNumber_52 : decode b_RR_readNumber 52 = .ok (.imul, 1) := by decide +kernel
theorem d_RR_readNumber_53 : decode b_RR_readNumber 53 = .ok (.iload_n 3, 1) := by decide +kernel
theorem d_RR_readNumber_54 : decode b_RR_readNumber 54 = .ok (.iadd, 1) := by decide +kernel
theorem d_RR_readNumber_55 : decode b_RR_readNumber 55 = .ok (.istore 4, 2) := by decide +kernel
theorem d_RR_readNumber_57 : decode b_RR_readNumber 57 = .ok (.iload_n 2, 1) := by decide +kernel
theorem d_RR_readNumber_58 : decode b_RR_readNumber 58 = .ok (.ifCond .eq 9, 3) := by decide +kernel
theorem d_RR_readNumber_61 : decode b_RR_readNumber 61 = .ok (.iload 4, 2) := by decide +kernel
theorem d_RR_readNumber_63 : decode b_RR_readNumber 63 = .ok (.iload_n 1, 1) := by decide +kernel
theorem d_RR_readNumber_64 : decode b_RR_readNumber 64 = .ok (.if_icmp .le 6, 3) := by decide +kernel
theorem d_RR_readNumber_67 : decode b_RR_readNumber 67 = .ok (.ldc 63, 2) := by decide +kernel
theorem d_RR_readNumber_69 : decode b_RR_readNumber 69 = .ok (.ireturn, 1) := by decide +kernel
theorem d_RR_readNumber_70 : decode b_RR_readNumber 70 = .ok (.iload 4, 2) := by decide +kernel
theorem d_RR_readNumber_72 : decode b_RR_readNumber 72 = .ok (.istore_n 2, 1) := by decide +kernel
theorem d_RR_readNumber_73 : decode b_RR_readNumber 73 = .ok (.aload_n 0, 1) := by decide +kernel
theorem d_RR_readNumber_74 : decode b_RR_readNumber 74 = .ok (.dup, 1) := by decide +kernel
theorem d_RR_readNumber_75 : decode b_RR_readNumber 75 = .ok (.getfield 15, 3) := by decide +kernel
theorem d_RR_readNumber_78 : decode b_RR_readNumber 78 = .ok (.iconst 1, 1) := by decide +kernel
theorem d_RR_readNumber_79 : decode b_RR_readNumber 79 = .ok (.iadd, 1) := by decide +kernel
theorem d_RR_readNumber_80 : decode b_RR_readNumber 80 = .ok (.putfield 15, 3) := by decide +kernel
theorem d_RR_readNumber_83 : decode b_RR_readNumber 83 = .ok (.goto (-80), 3) := by decide +kernel
theorem d_RR_readNumber_86 : decode b_RR_readNumber 86 = .ok (.iload_n 2, 1) := by decide +kernel
theorem d_RR_readNumber_87 : decode b_RR_readNumber 87 = .ok (.ireturn, 1) := by decide +kernel
def y_RR_passes : MethodName := ⟨cR1, "passes", "(C)Z"⟩
abbrev b_RR_passes : ByteArray := prog_6_method_8_code
abbrev k_RR_passes : Cond := .code y_RR_passes b_RR_passes 2 (some .boolean)
theorem mc_RR_passes : MC y_RR_passes k_RR_passes b_RR_passes 2 (some .boolean) [] 1 := ⟨g_in (List.mem_of_getElem? (i := 519) (by decide +kernel)) (by decide +kernel), Or.inl ⟨rfl, rfl⟩, g_in (List.mem_of_getElem? (i := 58) (by decide +kernel)) (by decide +kernel), by decide, by decide +kernel⟩
theorem in_RR_passes : Cond.instanceMethod y_RR_passes ∈ g_ws := g_in (List.mem_of_getElem? (i := 518) (by decide +kernel)) (by decide +kernel)
theorem se_RR_passes : Cond.selects cR1 y_RR_passes y_RR_passes ∈ g_ws := g_in (List.mem_of_getElem? (i := 13) (by decide +kernel)) (by decide +kernel)
theorem d_RR_passes_0 : decode b_RR_passes 0 = .ok (.aload_n 0, 1) := by decide +kernel
theorem d_RR_passes_1 : decode b_RR_passes 1 = .ok (.invokevirtual 33, 3) := by decide +kernel
theorem d_RR_passes_4 : decode b_RR_passes 4 = .ok (.aload_n 0, 1) := by decide +kernel
theorem d_RR_passes_5 : decode b_RR_passes 5 = .ok (.getfield 15, 3) := by decide +kernel
theorem d_RR_passes_8 : decode b_RR_passes 8 = .ok (.aload_n 0, 1) := by decide +kernel
theorem d_RR_passes_9 : decode b_RR_passes 9 = .ok (.getfield 9, 3) := by decide +kernel
theorem d_RR_passes_12 : decode b_RR_passes 12 = .ok (.if_icmp .ge 16, 3) := by decide +kernel
theorem d_RR_passes_15 : decode b_RR_passes 15 = .ok (.aload_n 0, 1) := by decide +kernel
theorem d_RR_passes_16 : decode b_RR_passes 16 = .ok (.getfield 18, 3) := by decide +kernel
theorem d_RR_passes_19 : decode b_RR_passes 19 = .ok (.aload_n 0, 1) := by decide +kernel
theorem d_RR_passes_20 : decode b_RR_passes 20 = .ok (.getfield 15, 3) := by decide +kernel
theorem d_RR_passes_23 : decode b_RR_passes 23 = .ok (.baload, 1) := by decide +kernel
theorem d_RR_passes_24 : decode b_RR_passes 24 = .ok (.iload_n 1, 1) := by decide +kernel
theorem d_RR_passes_25 : decode b_RR_passes 25 = .ok (.if_icmp .eq 5, 3) := by decide +kernel
theorem d_RR_passes_28 : decode b_RR_passes 28 = .ok (.iconst 0, 1) := by decide +kernel
theorem d_RR_passes_29 : decode b_RR_passes 29 = .ok (.ireturn, 1) := by decide +kernel
theorem d_RR_passes_30 : decode b_RR_passes 30 = .ok (.aload_n 0, 1) := by decide +kernel
theorem d_RR_passes_31 : decode b_RR_passes 31 = .ok (.dup, 1) := by decide +kernel
theorem d_RR_passes_32 : decode b_RR_passes 32 = .ok (.getfield 15, 3) := by decide +kernel
theorem d_RR_passes_35 : decode b_RR_passes 35 = .ok (.iconst 1, 1) := by decide +kernel
theorem d_RR_passes_36 : decode b_RR_passes 36 = .ok (.iadd, 1) := by decide +kernel
theorem d_RR_passes_37 : decode b_RR_passes 37 = .ok (.putfield 15, 3) := by decide +kernel
theorem d_RR_passes_40 : decode b_RR_passes 40 = .ok (.iconst 1, 1) := by decide +kernel
theorem d_RR_passes_41 : decode b_RR_passes 41 = .ok (.ireturn, 1) := by decide +kernel
def y_RR_skipBlanks : MethodName := ⟨cR1, "skipBlanks", "()V"⟩
abbrev b_RR_skipBlanks : ByteArray := prog_6_method_9_code
abbrev k_RR_skipBlanks : Cond := .code y_RR_skipBlanks b_RR_skipBlanks 1 none
theorem mc_RR_skipBlanks : MC y_RR_skipBlanks k_RR_skipBlanks b_RR_skipBlanks 1 none [] 0 := ⟨g_in (List.mem_of_getElem? (i := 499) (by decide +kernel)) (by decide +kernel), Or.inl ⟨rfl, rfl⟩, g_in (List.mem_of_getElem? (i := 58) (by decide +kernel)) (by decide +kernel), by decide, by decide +kernel⟩
theorem in_RR_skipBlanks : Cond.instanceMethod y_RR_skipBlanks ∈ g_ws := g_in (List.mem_of_getElem? (i := 498) (by decide +kernel)) (by decide +kernel)
theorem se_RR_skipBlanks : Cond.selects cR1 y_RR_skipBlanks y_RR_skipBlanks ∈ g_ws := g_in (List.mem_of_getElem? (i := 8) (by decide +kernel)) (by decide +kernel)
theorem d_RR_skipBlanks_0 : decode b_RR_skipBlanks 0 = .ok (.aload_n 0, 1) := by decide +kernel
theorem d_RR_skipBlanks_1 : decode b_RR_skipBlanks 1 = .ok (.getfield 15, 3) := by decide +kernel
theorem d_RR_skipBlanks_4 : decode b_RR_skipBlanks 4 = .ok (.aload_n 0, 1) := by decide +kernel
theorem d_RR_skipBlanks_5 : decode b_RR_skipBlanks 5 = .ok (.getfield 9, 3) := by decide +kernel
theorem d_RR_skipBlanks_8 : decode b_RR_skipBlanks 8 = .ok (.if_icmp .ge 30, 3) := by decide +kernel
theorem d_RR_skipBlanks_11 : decode b_RR_skipBlanks 11 = .ok (.aload_n 0, 1) := by decide +kernel
theorem d_RR_skipBlanks_12 : decode b_RR_skipBlanks 12 = .ok (.getfield 18, 3) := by decide +kernel
theorem d_RR_skipBlanks_15 : decode b_RR_skipBlanks 15 = .ok (.aload_n 0, 1) := by decide +kernel
theorem d_RR_skipBlanks_16 : decode b_RR_skipBlanks 16 = .ok (.getfield 15, 3) := by decide +kernel
theorem d_RR_skipBlanks_19 : decode b_RR_skipBlanks 19 = .ok (.baload, 1) := by decide +kernel
theorem d_RR_skipBlanks_20 : decode b_RR_skipBlanks 20 = .ok (.bipush 32, 2) := by decide +kernel
theorem d_RR_skipBlanks_22 : decode b_RR_skipBlanks 22 = .ok (.if_icmp .ne 16, 3) := by decide +kernel
theorem d_RR_skipBlanks_25 : decode b_RR_skipBlanks 25 = .ok (.aload_n 0, 1) := by decide +kernel
theorem d_RR_skipBlanks_26 : decode b_RR_skipBlanks 26 = .ok (.dup, 1) := by decide +kernel
theorem d_RR_skipBlanks_27 : decode b_RR_skipBlanks 27 = .ok (.getfield 15, 3) := by decide +kernel
theorem d_RR_skipBlanks_30 : decode b_RR_skipBlanks 30 = .ok (.iconst 1, 1) := by decide +kernel
theorem d_RR_skipBlanks_31 : decode b_RR_skipBlanks 31 = .ok (.iadd, 1) := by decide +kernel
theorem d_RR_skipBlanks_32 : decode b_RR_skipBlanks 32 = .ok (.putfield 15, 3) := by decide +kernel
theorem d_RR_skipBlanks_35 : decode b_RR_skipBlanks 35 = .ok (.goto (-35), 3) := by decide +kernel
theorem d_RR_skipBlanks_38 : decode b_RR_skipBlanks 38 = .ok (.return_, 1) := by decide +kernel
end
section
/-! ===== methods of RB: printed by program ===== -/
def y_RB_init : MethodName := ⟨cR2, "<init>", "()V"⟩
abbrev b_RB_init : ByteArray := prog_5_method_1_code
abbrev k_RB_init : Cond := .code y_RB_init b_RB_init 1 none
theorem mc_RB_init : MC y_RB_init k_RB_init b_RB_init 1 none [] 0 := ⟨g_in (List.mem_of_getElem? (i := 106) (by decide +kernel)) (by decide +kernel), Or.inl ⟨rfl, rfl⟩, g_in (List.mem_of_getElem? (i := 59) (by decide +kernel)) (by decide +kernel), by decide, by decide +kernel⟩
theorem in_RB_init : Cond.instanceMethod y_RB_init ∈ g_ws := g_in (List.mem_of_getElem? (i := 105) (by decide +kernel)) (by decide +kernel)
theorem d_RB_init_0 : decode b_RB_init 0 = .ok (.aload_n 0, 1) := by decide +kernel
theorem d_RB_init_1 : decode b_RB_init 1 = .ok (.invokespecial 3, 3) := by decide +kernel
theorem d_RB_init_4 : decode b_RB_init 4 = .ok (.aload_n 0, 1) := by decide +kernel
theorem d_RB_init_5 : decode b_RB_init 5 = .ok (.iconst 0, 1) := by decide +kernel
theorem d_RB_init_6 : decode b_RB_init 6 = .ok (.putfield 9, 3) := by decide +kernel
theorem d_RB_init_9 : decode b_RB_init 9 = .ok (.aload_n 0, 1) := by decide +kernel
theorem d_RB_init_10 : decode b_RB_init 10 = .ok (.bipush 20, 2) := by decide +kernel
theorem d_RB_init_12 : decode b_RB_init 12 = .ok (.newarray .char, 2) := by decide +kernel
theorem d_RB_init_14 : decode b_RB_init 14 = .ok (.putfield 15, 3) := by decide +kernel
theorem d_RB_init_17 : decode b_RB_init 17 = .ok (.aload_n 0, 1) := by decide +kernel
theorem d_RB_init_18 : decode b_RB_init 18 = .ok (.bipush 20, 2) := by decide +kernel
theorem d_RB_init_20 : decode b_RB_init 20 = .ok (.newarray .int, 2) := by decide +kernel
theorem d_RB_init_22 : decode b_RB_init 22 = .ok (.putfield 19, 3) := by decide +kernel
theorem d_RB_init_25 : decode b_RB_init 25 = .ok (.aload_n 0, 1) := by decide +kernel
theorem d_RB_init_26 : decode b_RB_init 26 = .ok (.bipush 40, 2) := by decide +kernel
theorem d_RB_init_28 : decode b_RB_init 28 = .ok (.newarray .int, 2) := by decide +kernel
theorem d_RB_init_30 : decode b_RB_init 30 = .ok (.putfield 23, 3) := by decide +kernel
theorem d_RB_init_33 : decode b_RB_init 33 = .ok (.aload_n 0, 1) := by decide +kernel
theorem d_RB_init_34 : decode b_RB_init 34 = .ok (.sipush 160, 3) := by decide +kernel
theorem d_RB_init_37 : decode b_RB_init 37 = .ok (.newarray .int, 2) := by decide +kernel
theorem d_RB_init_39 : decode b_RB_init 39 = .ok (.putfield 26, 3) := by decide +kernel
theorem d_RB_init_42 : decode b_RB_init 42 = .ok (.aload_n 0, 1) := by decide +kernel
theorem d_RB_init_43 : decode b_RB_init 43 = .ok (.sipush 160, 3) := by decide +kernel
theorem d_RB_init_46 : decode b_RB_init 46 = .ok (.newarray .int, 2) := by decide +kernel
theorem d_RB_init_48 : decode b_RB_init 48 = .ok (.putfield 29, 3) := by decide +kernel
theorem d_RB_init_51 : decode b_RB_init 51 = .ok (.aload_n 0, 1) := by decide +kernel
theorem d_RB_init_52 : decode b_RB_init 52 = .ok (.sipush 160, 3) := by decide +kernel
theorem d_RB_init_55 : decode b_RB_init 55 = .ok (.newarray .boolean, 2) := by decide +kernel
theorem d_RB_init_57 : decode b_RB_init 57 = .ok (.putfield 32, 3) := by decide +kernel
theorem d_RB_init_60 : decode b_RB_init 60 = .ok (.return_, 1) := by decide +kernel
def y_RB_factorOfField : MethodName := ⟨cR2, "factorOfField", "(I)I"⟩
abbrev b_RB_factorOfField : ByteArray := prog_5_method_2_code
abbrev k_RB_factorOfField : Cond := .code y_RB_factorOfField b_RB_factorOfField 1 (some .int)
theorem mc_RB_factorOfField : MC y_RB_factorOfField k_RB_factorOfField b_RB_factorOfField 1 (some .int) [] 1 := ⟨g_in (List.mem_of_getElem? (i := 528) (by decide +kernel)) (by decide +kernel), Or.inl ⟨rfl, rfl⟩, g_in (List.mem_of_getElem? (i := 59) (by decide +kernel)) (by decide +kernel), by decide, by decide +kernel⟩
theorem st_RB_factorOfField : Cond.static y_RB_factorOfField ∈ g_ws := g_in (List.mem_of_getElem? (i := 527) (by decide +kernel)) (by decide +kernel)
theorem d_RB_factorOfField_0 : decode b_RB_factorOfField 0 = .ok (.iconst (-1), 1) := by decide +kernel
theorem d_RB_factorOfField_1 : decode b_RB_factorOfField 1 = .ok (.iload_n 0, 1) := by decide +kernel
theorem d_RB_factorOfField_2 : decode b_RB_factorOfField 2 = .ok (.isub, 1) := by decide +kernel
theorem d_RB_factorOfField_3 : decode b_RB_factorOfField 3 = .ok (.ireturn, 1) := by decide +kernel
def y_RB_startRule : MethodName := ⟨cR2, "startRule", "(I)V"⟩
abbrev b_RB_startRule : ByteArray := prog_5_method_3_code
abbrev k_RB_startRule : Cond := .code y_RB_startRule b_RB_startRule 2 none
theorem mc_RB_startRule : MC y_RB_startRule k_RB_startRule b_RB_startRule 2 none [] 1 := ⟨g_in (List.mem_of_getElem? (i := 503) (by decide +kernel)) (by decide +kernel), Or.inl ⟨rfl, rfl⟩, g_in (List.mem_of_getElem? (i := 59) (by decide +kernel)) (by decide +kernel), by decide, by decide +kernel⟩
theorem in_RB_startRule : Cond.instanceMethod y_RB_startRule ∈ g_ws := g_in (List.mem_of_getElem? (i := 502) (by decide +kernel)) (by decide +kernel)
theorem se_RB_startRule : Cond.selects cR2 y_RB_startRule y_RB_startRule ∈ g_ws := g_in (List.mem_of_getElem? (i := 9) (by decide +kernel)) (by decide +kernel)
theorem d_RB_startRule_0 : decode b_RB_startRule 0 = .ok (.aload_n 0, 1) := by decide +kernel
theorem d_RB_startRule_1 : decode b_RB_startRule 1 = .ok (.getfield 19, 3) := by decide +kernel
theorem d_RB_startRule_4 : decode b_RB_startRule 4 = .ok (.iload_n 1, 1) := by decide +kernel
theorem d_RB_startRule_5 : decode b_RB_startRule 5 = .ok (.iconst 0, 1) := by decide +kernel
theorem d_RB_startRule_6 : decode b_RB_startRule 6 = .ok (.iastore, 1) := by decide +kernel
theorem d_RB_startRule_7 : decode b_RB_startRule 7 = .ok (.aload_n 0, 1) := by decide +kernel
theorem d_RB_startRule_8 : decode b_RB_startRule 8 = .ok (.getfield 23, 3) := by decide +kernel
theorem d_RB_startRule_11 : decode b_RB_startRule 11 = .ok (.iconst 2, 1) := by decide +kernel
theorem d_RB_startRule_12 : decode b_RB_startRule 12 = .ok (.iload_n 1, 1) := by decide +kernel
theorem d_RB_startRule_13 : decode b_RB_startRule 13 = .ok (.imul, 1) := by decide +kernel
theorem d_RB_startRule_14 : decode b_RB_startRule 14 = .ok (.iconst 0, 1) := by decide +kernel
theorem d_RB_startRule_15 : decode b_RB_startRule 15 = .ok (.iastore, 1) := by decide +kernel
theorem d_RB_startRule_16 : decode b_RB_startRule 16 = .ok (.aload_n 0, 1) := by decide +kernel
theorem d_RB_startRule_17 : decode b_RB_startRule 17 = .ok (.getfield 23, 3) := by decide +kernel
theorem d_RB_startRule_20 : decode b_RB_startRule 20 = .ok (.iconst 2, 1) := by decide +kernel
theorem d_RB_startRule_21 : decode b_RB_startRule 21 = .ok (.iload_n 1, 1) := by decide +kernel
theorem d_RB_startRule_22 : decode b_RB_startRule 22 = .ok (.imul, 1) := by decide +kernel
theorem d_RB_startRule_23 : decode b_RB_startRule 23 = .ok (.iconst 1, 1) := by decide +kernel
theorem d_RB_startRule_24 : decode b_RB_startRule 24 = .ok (.iadd, 1) := by decide +kernel
theorem d_RB_startRule_25 : decode b_RB_startRule 25 = .ok (.iconst 0, 1) := by decide +kernel
theorem d_RB_startRule_26 : decode b_RB_startRule 26 = .ok (.iastore, 1) := by decide +kernel
theorem d_RB_startRule_27 : decode b_RB_startRule 27 = .ok (.return_, 1) := by decide +kernel
def y_RB_addTerm : MethodName := ⟨cR2, "addTerm", "(IIIZ)V"⟩
abbrev b_RB_addTerm : ByteArray := prog_5_method_4_code
abbrev k_RB_addTerm : Cond := .code y_RB_addTerm b_RB_addTerm 7 none
theorem mc_RB_addTerm : MC y_RB_addTerm k_RB_addTerm b_RB_addTerm 7 none [] 4 := ⟨g_in (List.mem_of_getElem? (i := 532) (by decide +kernel)) (by decide +kernel), Or.inl ⟨rfl, rfl⟩, g_in (List.mem_of_getElem? (i := 59) (by decide +kernel)) (by decide +kernel), by decide, by decide +kernel⟩
theorem in_RB_addTerm : Cond.instanceMethod y_RB_addTerm ∈ g_ws := g_in (List.mem_of_getElem? (i := 531) (by decide +kernel)) (by decide +kernel)
theorem se_RB_addTerm : Cond.selects cR2 y_RB_addTerm y_RB_addTerm ∈ g_ws := g_in (List.mem_of_getElem? (i := 15) (by decide +kernel)) (by decide +kernel)
theorem d_RB_addTerm_0 : decode b_RB_addTerm 0 = .ok (.aload_n 0, 1) := by decide +kernel
theorem d_RB_addTerm_1 : decode b_RB_addTerm 1 = .ok (.getfield 23, 3) := by decide +kernel
theorem d_RB_addTerm_4 : decode b_RB_addTerm 4 = .ok (.iload_n 1, 1) := by decide +kernel
theorem d_RB_addTerm_5 : decode b_RB_addTerm 5 = .ok (.iaload, 1) := by decide +kernel
theorem d_RB_addTerm_6 : decode b_RB_addTerm 6 = .ok (.istore 5, 2) := by decide +kernel
theorem d_RB_addTerm_8 : decode b_RB_addTerm 8 = .ok (.iload 5, 2) := by decide +kernel
theorem d_RB_addTerm_10 : decode b_RB_addTerm 10 = .ok (.iconst 4, 1) := by decide +kernel
theorem d_RB_addTerm_11 : decode b_RB_addTerm 11 = .ok (.if_icmp .lt 4, 3) := by decide +kernel
theorem d_RB_addTerm_14 : decode b_RB_addTerm 14 = .ok (.return_, 1) := by decide +kernel
theorem d_RB_addTerm_15 : decode b_RB_addTerm 15 = .ok (.iload_n 1, 1) := by decide +kernel
theorem d_RB_addTerm_16 : decode b_RB_addTerm 16 = .ok (.iconst 4, 1) := by decide +kernel
theorem d_RB_addTerm_17 : decode b_RB_addTerm 17 = .ok (.imul, 1) := by decide +kernel
theorem d_RB_addTerm_18 : decode b_RB_addTerm 18 = .ok (.iload 5, 2) := by decide +kernel
theorem d_RB_addTerm_20 : decode b_RB_addTerm 20 = .ok (.iadd, 1) := by decide +kernel
theorem d_RB_addTerm_21 : decode b_RB_addTerm 21 = .ok (.istore 6, 2) := by decide +kernel
theorem d_RB_addTerm_23 : decode b_RB_addTerm 23 = .ok (.aload_n 0, 1) := by decide +kernel
theorem d_RB_addTerm_24 : decode b_RB_addTerm 24 = .ok (.getfield 26, 3) := by decide +kernel
theorem d_RB_addTerm_27 : decode b_RB_addTerm 27 = .ok (.iload 6, 2) := by decide +kernel
theorem d_RB_addTerm_29 : decode b_RB_addTerm 29 = .ok (.iload_n 2, 1) := by decide +kernel
theorem d_RB_addTerm_30 : decode b_RB_addTerm 30 = .ok (.iastore, 1) := by decide +kernel
theorem d_RB_addTerm_31 : decode b_RB_addTerm 31 = .ok (.aload_n 0, 1) := by decide +kernel
theorem d_RB_addTerm_32 : decode b_RB_addTerm 32 = .ok (.getfield 29, 3) := by decide +kernel
theorem d_RB_addTerm_35 : decode b_RB_addTerm 35 = .ok (.iload 6, 2) := by decide +kernel
theorem d_RB_addTerm_37 : decode b_RB_addTerm 37 = .ok (.iload_n 3, 1) := by decide +kernel
theorem d_RB_addTerm_38 : decode b_RB_addTerm 38 = .ok (.iastore, 1) := by decide +kernel
theorem d_RB_addTerm_39 : decode b_RB_addTerm 39 = .ok (.aload_n 0, 1) := by decide +kernel
theorem d_RB_addTerm_40 : decode b_RB_addTerm 40 = .ok (.getfield 32, 3) := by decide +kernel
theorem d_RB_addTerm_43 : decode b_RB_addTerm 43 = .ok (.iload 6, 2) := by decide +kernel
theorem d_RB_addTerm_45 : decode b_RB_addTerm 45 = .ok (.iload 4, 2) := by decide +kernel
theorem d_RB_addTerm_47 : decode b_RB_addTerm 47 = .ok (.bastore, 1) := by decide +kernel
theorem d_RB_addTerm_48 : decode b_RB_addTerm 48 = .ok (.aload_n 0, 1) := by decide +kernel
theorem d_RB_addTerm_49 : decode b_RB_addTerm 49 = .ok (.getfield 23, 3) := by decide +kernel
theorem d_RB_addTerm_52 : decode b_RB_addTerm 52 = .ok (.iload_n 1, 1) := by decide +kernel
theorem d_RB_addTerm_53 : decode b_RB_addTerm 53 = .ok (.iload 5, 2) := by decide +kernel
theorem d_RB_addTerm_55 : decode b_RB_addTerm 55 = .ok (.iconst 1, 1) := by decide +kernel
theorem d_RB_addTerm_56 : decode b_RB_addTerm 56 = .ok (.iadd, 1) := by decide +kernel
theorem d_RB_addTerm_57 : decode b_RB_addTerm 57 = .ok (.iastore, 1) := by decide +kernel
theorem d_RB_addTerm_58 : decode b_RB_addTerm 58 = .ok (.aload_n 0, 1) := by decide +kernel
theorem d_RB_addTerm_59 : decode b_RB_addTerm 59 = .ok (.iload_n 1, 1) := by decide +kernel
theorem d_RB_addTerm_60 : decode b_RB_addTerm 60 = .ok (.iconst 2, 1) := by decide +kernel
theorem d_RB_addTerm_61 : decode b_RB_addTerm 61 = .ok (.idiv, 1) := by decide +kernel
theorem d_RB_addTerm_62 : decode b_RB_addTerm 62 = .ok (.iload_n 2, 1) := by decide +kernel
theorem d_RB_addTerm_63 : decode b_RB_addTerm 63 = .ok (.invokevirtual 36, 3) := by decide +kernel
theorem d_RB_addTerm_66 : decode b_RB_addTerm 66 = .ok (.aload_n 0, 1) := by decide +kernel
theorem d_RB_addTerm_67 : decode b_RB_addTerm 67 = .ok (.iload_n 1, 1) := by decide +kernel
theorem d_RB_addTerm_68 : decode b_RB_addTerm 68 = .ok (.iconst 2, 1) := by decide +kernel
theorem d_RB_addTerm_69 : decode b_RB_addTerm 69 = .ok (.idiv, 1) := by decide +kernel
theorem d_RB_addTerm_70 : decode b_RB_addTerm 70 = .ok (.iload_n 3, 1) := by decide +kernel
theorem d_RB_addTerm_71 : decode b_RB_addTerm 71 = .ok (.invokevirtual 36, 3) := by decide +kernel
theorem d_RB_addTerm_74 : decode b_RB_addTerm 74 = .ok (.return_, 1) := by decide +kernel
def y_RB_noteField : MethodName := ⟨cR2, "noteField", "(II)V"⟩
abbrev b_RB_noteField : ByteArray := prog_5_method_5_code
abbrev k_RB_noteField : Cond := .code y_RB_noteField b_RB_noteField 3 none
theorem mc_RB_noteField : MC y_RB_noteField k_RB_noteField b_RB_noteField 3 none [] 2 := ⟨g_in (List.mem_of_getElem? (i := 536) (by decide +kernel)) (by decide +kernel), Or.inl ⟨rfl, rfl⟩, g_in (List.mem_of_getElem? (i := 59) (by decide +kernel)) (by decide +kernel), by decide, by decide +kernel⟩
theorem in_RB_noteField : Cond.instanceMethod y_RB_noteField ∈ g_ws := g_in (List.mem_of_getElem? (i := 535) (by decide +kernel)) (by decide +kernel)
theorem se_RB_noteField : Cond.selects cR2 y_RB_noteField y_RB_noteField ∈ g_ws := g_in (List.mem_of_getElem? (i := 16) (by decide +kernel)) (by decide +kernel)
theorem d_RB_noteField_0 : decode b_RB_noteField 0 = .ok (.iload_n 2, 1) := by decide +kernel
theorem d_RB_noteField_1 : decode b_RB_noteField 1 = .ok (.ifCond .ge 22, 3) := by decide +kernel
theorem d_RB_noteField_4 : decode b_RB_noteField 4 = .ok (.aload_n 0, 1) := by decide +kernel
theorem d_RB_noteField_5 : decode b_RB_noteField 5 = .ok (.getfield 19, 3) := by decide +kernel
theorem d_RB_noteField_8 : decode b_RB_noteField 8 = .ok (.iload_n 1, 1) := by decide +kernel
theorem d_RB_noteField_9 : decode b_RB_noteField 9 = .ok (.aload_n 0, 1) := by decide +kernel
theorem d_RB_noteField_10 : decode b_RB_noteField 10 = .ok (.getfield 19, 3) := by decide +kernel
theorem d_RB_noteField_13 : decode b_RB_noteField 13 = .ok (.iload_n 1, 1) := by decide +kernel
theorem d_RB_noteField_14 : decode b_RB_noteField 14 = .ok (.iaload, 1) := by decide +kernel
theorem d_RB_noteField_15 : decode b_RB_noteField 15 = .ok (.iconst (-1), 1) := by decide +kernel
theorem d_RB_noteField_16 : decode b_RB_noteField 16 = .ok (.iload_n 2, 1) := by decide +kernel
theorem d_RB_noteField_17 : decode b_RB_noteField 17 = .ok (.isub, 1) := by decide +kernel
theorem d_RB_noteField_18 : decode b_RB_noteField 18 = .ok (.iconst 1, 1) := by decide +kernel
theorem d_RB_noteField_19 : decode b_RB_noteField 19 = .ok (.invokestatic 40, 3) := by decide +kernel
theorem d_RB_noteField_22 : decode b_RB_noteField 22 = .ok (.iastore, 1) := by decide +kernel
theorem d_RB_noteField_23 : decode b_RB_noteField 23 = .ok (.return_, 1) := by decide +kernel
def y_RB_faultOf : MethodName := ⟨cR2, "faultOf", "(ILReportChecks2$Report;)I"⟩
abbrev b_RB_faultOf : ByteArray := prog_5_method_6_code
abbrev k_RB_faultOf : Cond := .code y_RB_faultOf b_RB_faultOf 5 (some .int)
theorem mc_RB_faultOf : MC y_RB_faultOf k_RB_faultOf b_RB_faultOf 5 (some .int) [] 2 := ⟨g_in (List.mem_of_getElem? (i := 562) (by decide +kernel)) (by decide +kernel), Or.inl ⟨rfl, rfl⟩, g_in (List.mem_of_getElem? (i := 59) (by decide +kernel)) (by decide +kernel), by decide, by decide +kernel⟩
theorem in_RB_faultOf : Cond.instanceMethod y_RB_faultOf ∈ g_ws := g_in (List.mem_of_getElem? (i := 561) (by decide +kernel)) (by decide +kernel)
theorem se_RB_faultOf : Cond.selects cR2 y_RB_faultOf y_RB_faultOf ∈ g_ws := g_in (List.mem_of_getElem? (i := 20) (by decide +kernel)) (by decide +kernel)
theorem d_RB_faultOf_0 : decode b_RB_faultOf 0 = .ok (.aload_n 0, 1) := by decide +kernel
theorem d_RB_faultOf_1 : decode b_RB_faultOf 1 = .ok (.getfield 19, 3) := by decide +kernel
theorem d_RB_faultOf_4 : decode b_RB_faultOf 4 = .ok (.iload_n 1, 1) := by decide +kernel
theorem d_RB_faultOf_5 : decode b_RB_faultOf 5 = .ok (.iaload, 1) := by decide +kernel
theorem d_RB_faultOf_6 : decode b_RB_faultOf 6 = .ok (.aload_n 2, 1) := by decide +kernel
theorem d_RB_faultOf_7 : decode b_RB_faultOf 7 = .ok (.getfield 44, 3) := by decide +kernel
theorem d_RB_faultOf_10 : decode b_RB_faultOf 10 = .ok (.iconst (-1), 1) := by decide +kernel
theorem d_RB_faultOf_11 : decode b_RB_faultOf 11 = .ok (.ixor, 1) := by decide +kernel
theorem d_RB_faultOf_12 : decode b_RB_faultOf 12 = .ok (.iand, 1) := by decide +kernel
theorem d_RB_faultOf_13 : decode b_RB_faultOf 13 = .ok (.ifCond .eq 5, 3) := by decide +kernel
theorem d_RB_faultOf_16 : decode b_RB_faultOf 16 = .ok (.iconst (-1), 1) := by decide +kernel
theorem d_RB_faultOf_17 : decode b_RB_faultOf 17 = .ok (.ireturn, 1) := by decide +kernel
theorem d_RB_faultOf_18 : decode b_RB_faultOf 18 = .ok (.aload_n 0, 1) := by decide +kernel
theorem d_RB_faultOf_19 : decode b_RB_faultOf 19 = .ok (.iconst 2, 1) := by decide +kernel
theorem d_RB_faultOf_20 : decode b_RB_faultOf 20 = .ok (.iload_n 1, 1) := by decide +kernel
theorem d_RB_faultOf_21 : decode b_RB_faultOf 21 = .ok (.imul, 1) := by decide +kernel
theorem d_RB_faultOf_22 : decode b_RB_faultOf 22 = .ok (.aload_n 2, 1) := by decide +kernel
theorem d_RB_faultOf_23 : decode b_RB_faultOf 23 = .ok (.getfield 49, 3) := by decide +kernel
theorem d_RB_faultOf_26 : decode b_RB_faultOf 26 = .ok (.invokevirtual 52, 3) := by decide +kernel
theorem d_RB_faultOf_29 : decode b_RB_faultOf 29 = .ok (.istore_n 3, 1) := by decide +kernel
theorem d_RB_faultOf_30 : decode b_RB_faultOf 30 = .ok (.aload_n 0, 1) := by decide +kernel
theorem d_RB_faultOf_31 : decode b_RB_faultOf 31 = .ok (.iconst 2, 1) := by decide +kernel
theorem d_RB_faultOf_32 : decode b_RB_faultOf 32 = .ok (.iload_n 1, 1) := by decide +kernel
theorem d_RB_faultOf_33 : decode b_RB_faultOf 33 = .ok (.imul, 1) := by decide +kernel
theorem d_RB_faultOf_34 : decode b_RB_faultOf 34 = .ok (.iconst 1, 1) := by decide +kernel
theorem d_RB_faultOf_35 : decode b_RB_faultOf 35 = .ok (.iadd, 1) := by decide +kernel
theorem d_RB_faultOf_36 : decode b_RB_faultOf 36 = .ok (.aload_n 2, 1) := by decide +kernel
theorem d_RB_faultOf_37 : decode b_RB_faultOf 37 = .ok (.getfield 49, 3) := by decide +kernel
theorem d_RB_faultOf_40 : decode b_RB_faultOf 40 = .ok (.invokevirtual 52, 3) := by decide +kernel
theorem d_RB_faultOf_43 : decode b_RB_faultOf 43 = .ok (.istore 4, 2) := by decide +kernel
theorem d_RB_faultOf_45 : decode b_RB_faultOf 45 = .ok (.iload_n 3, 1) := by decide +kernel
theorem d_RB_faultOf_46 : decode b_RB_faultOf 46 = .ok (.ldc 56, 2) := by decide +kernel
theorem d_RB_faultOf_48 : decode b_RB_faultOf 48 = .ok (.if_icmp .eq 10, 3) := by decide +kernel
theorem d_RB_faultOf_51 : decode b_RB_faultOf 51 = .ok (.iload 4, 2) := by decide +kernel
theorem d_RB_faultOf_53 : decode b_RB_faultOf 53 = .ok (.ldc 56, 2) := by decide +kernel
theorem d_RB_faultOf_55 : decode b_RB_faultOf 55 = .ok (.if_icmp .ne 5, 3) := by decide +kernel
theorem d_RB_faultOf_58 : decode b_RB_faultOf 58 = .ok (.iconst 3, 1) := by decide +kernel
theorem d_RB_faultOf_59 : decode b_RB_faultOf 59 = .ok (.ireturn, 1) := by decide +kernel
theorem d_RB_faultOf_60 : decode b_RB_faultOf 60 = .ok (.aload_n 0, 1) := by decide +kernel
theorem d_RB_faultOf_61 : decode b_RB_faultOf 61 = .ok (.getfield 15, 3) := by decide +kernel
theorem d_RB_faultOf_64 : decode b_RB_faultOf 64 = .ok (.iload_n 1, 1) := by decide +kernel
theorem d_RB_faultOf_65 : decode b_RB_faultOf 65 = .ok (.caload, 1) := by decide +kernel
theorem d_RB_faultOf_66 : decode b_RB_faultOf 66 = .ok (.iload_n 3, 1) := by decide +kernel
theorem d_RB_faultOf_67 : decode b_RB_faultOf 67 = .ok (.iload 4, 2) := by decide +kernel
theorem d_RB_faultOf_69 : decode b_RB_faultOf 69 = .ok (.invokestatic 57, 3) := by decide +kernel
theorem d_RB_faultOf_72 : decode b_RB_faultOf 72 = .ok (.ifCond .eq 7, 3) := by decide +kernel
theorem d_RB_faultOf_75 : decode b_RB_faultOf 75 = .ok (.iconst (-1), 1) := by decide +kernel
theorem d_RB_faultOf_76 : decode b_RB_faultOf 76 = .ok (.goto 4, 3) := by decide +kernel
theorem d_RB_faultOf_79 : decode b_RB_faultOf 79 = .ok (.iconst 2, 1) := by decide +kernel
theorem d_RB_faultOf_80 : decode b_RB_faultOf 80 = .ok (.ireturn, 1) := by decide +kernel
def y_RB_sumOf : MethodName := ⟨cR2, "sumOf", "(I[I)I"⟩
abbrev b_RB_sumOf : ByteArray := prog_5_method_7_code
abbrev k_RB_sumOf : Cond := .code y_RB_sumOf b_RB_sumOf 8 (some .int)
theorem mc_RB_sumOf : MC y_RB_sumOf k_RB_sumOf b_RB_sumOf 8 (some .int) [] 2 := ⟨g_in (List.mem_of_getElem? (i := 566) (by decide +kernel)) (by decide +kernel), Or.inl ⟨rfl, rfl⟩, g_in (List.mem_of_getElem? (i := 59) (by decide +kernel)) (by decide +kernel), by decide, by decide +kernel⟩
theorem in_RB_sumOf : Cond.instanceMethod y_RB_sumOf ∈ g_ws := g_in (List.mem_of_getElem? (i := 565) (by decide +kernel)) (by decide +kernel)
theorem se_RB_sumOf : Cond.selects cR2 y_RB_sumOf y_RB_sumOf ∈ g_ws := g_in (List.mem_of_getElem? (i := 21) (by decide +kernel)) (by decide +kernel)
theorem d_RB_sumOf_0 : decode b_RB_sumOf 0 = .ok (.iconst 0, 1) := by decide +kernel
theorem d_RB_sumOf_1 : decode b_RB_sumOf 1 = .ok (.istore_n 3, 1) := by decide +kernel
theorem d_RB_sumOf_2 : decode b_RB_sumOf 2 = .ok (.iconst 0, 1) := by decide +kernel
theorem d_RB_sumOf_3 : decode b_RB_sumOf 3 = .ok (.istore 4, 2) := by decide +kernel
theorem d_RB_sumOf_5 : decode b_RB_sumOf 5 = .ok (.iload 4, 2) := by decide +kernel
theorem d_RB_sumOf_7 : decode b_RB_sumOf 7 = .ok (.aload_n 0, 1) := by decide +kernel
theorem d_RB_sumOf_8 : decode b_RB_sumOf 8 = .ok (.getfield 23, 3) := by decide +kernel
theorem d_RB_sumOf_11 : decode b_RB_sumOf 11 = .ok (.iload_n 1, 1) := by decide +kernel
theorem d_RB_sumOf_12 : decode b_RB_sumOf 12 = .ok (.iaload, 1) := by decide +kernel
theorem d_RB_sumOf_13 : decode b_RB_sumOf 13 = .ok (.if_icmp .ge 75, 3) := by decide +kernel
theorem d_RB_sumOf_16 : decode b_RB_sumOf 16 = .ok (.iload_n 1, 1) := by decide +kernel
theorem d_RB_sumOf_17 : decode b_RB_sumOf 17 = .ok (.iconst 4, 1) := by decide +kernel
theorem d_RB_sumOf_18 : decode b_RB_sumOf 18 = .ok (.imul, 1) := by decide +kernel
theorem d_RB_sumOf_19 : decode b_RB_sumOf 19 = .ok (.iload 4, 2) := by decide +kernel
theorem d_RB_sumOf_21 : decode b_RB_sumOf 21 = .ok (.iadd, 1) := by decide +kernel
theorem d_RB_sumOf_22 : decode b_RB_sumOf 22 = .ok (.istore 5, 2) := by decide +kernel
theorem d_RB_sumOf_24 : decode b_RB_sumOf 24 = .ok (.aload_n 0, 1) := by decide +kernel
theorem d_RB_sumOf_25 : decode b_RB_sumOf 25 = .ok (.getfield 29, 3) := by decide +kernel
theorem d_RB_sumOf_28 : decode b_RB_sumOf 28 = .ok (.iload 5, 2) := by decide +kernel
theorem d_RB_sumOf_30 : decode b_RB_sumOf 30 = .ok (.iaload, 1) := by decide +kernel
theorem d_RB_sumOf_31 : decode b_RB_sumOf 31 = .ok (.aload_n 2, 1) := by decide +kernel
theorem d_RB_sumOf_32 : decode b_RB_sumOf 32 = .ok (.invokestatic 61, 3) := by decide +kernel
theorem d_RB_sumOf_35 : decode b_RB_sumOf 35 = .ok (.istore 6, 2) := by decide +kernel
theorem d_RB_sumOf_37 : decode b_RB_sumOf 37 = .ok (.iload 6, 2) := by decide +kernel
theorem d_RB_sumOf_39 : decode b_RB_sumOf 39 = .ok (.ifCond .ne 6, 3) := by decide +kernel
theorem d_RB_sumOf_42 : decode b_RB_sumOf 42 = .ok (.ldc 56, 2) := by decide +kernel
theorem d_RB_sumOf_44 : decode b_RB_sumOf 44 = .ok (.ireturn, 1) := by decide +kernel
theorem d_RB_sumOf_45 : decode b_RB_sumOf 45 = .ok (.aload_n 0, 1) := by decide +kernel
theorem d_RB_sumOf_46 : decode b_RB_sumOf 46 = .ok (.getfield 26, 3) := by decide +kernel
theorem d_RB_sumOf_49 : decode b_RB_sumOf 49 = .ok (.iload 5, 2) := by decide +kernel
theorem d_RB_sumOf_51 : decode b_RB_sumOf 51 = .ok (.iaload, 1) := by decide +kernel
theorem d_RB_sumOf_52 : decode b_RB_sumOf 52 = .ok (.aload_n 2, 1) := by decide +kernel
theorem d_RB_sumOf_53 : decode b_RB_sumOf 53 = .ok (.invokestatic 61, 3) := by decide +kernel
theorem d_RB_sumOf_56 : decode b_RB_sumOf 56 = .ok (.iload 6, 2) := by decide +kernel
theorem d_RB_sumOf_58 : decode b_RB_sumOf 58 = .ok (.idiv, 1) := by decide +kernel
theorem d_RB_sumOf_59 : decode b_RB_sumOf 59 = .ok (.istore 7, 2) := by decide +kernel
theorem d_RB_sumOf_61 : decode b_RB_sumOf 61 = .ok (.iload_n 3, 1) := by decide +kernel
theorem d_RB_sumOf_62 : decode b_RB_sumOf 62 = .ok (.aload_n 0, 1) := by decide +kernel
theorem d_RB_sumOf_63 : decode b_RB_sumOf 63 = .ok (.getfield 32, 3) := by decide +kernel
theorem d_RB_sumOf_66 : decode b_RB_sumOf 66 = .ok (.iload 5, 2) := by decide +kernel
theorem d_RB_sumOf_68 : decode b_RB_sumOf 68 = .ok (.baload, 1) := by decide +kernel
theorem d_RB_sumOf_69 : decode b_RB_sumOf 69 = .ok (.ifCond .eq 9, 3) := by decide +kernel
theorem d_RB_sumOf_72 : decode b_RB_sumOf 72 = .ok (.iload 7, 2) := by decide +kernel
theorem d_RB_sumOf_74 : decode b_RB_sumOf 74 = .ok (.ineg, 1) := by decide +kernel
theorem d_RB_sumOf_75 : decode b_RB_sumOf 75 = .ok (.goto 5, 3) := by decide +kernel
theorem d_RB_sumOf_78 : decode b_RB_sumOf 78 = .ok (.iload 7, 2) := by decide +kernel
theorem d_RB_sumOf_80 : decode b_RB_sumOf 80 = .ok (.iadd, 1) := by decide +kernel
theorem d_RB_sumOf_81 : decode b_RB_sumOf 81 = .ok (.istore_n 3, 1) := by decide +kernel
theorem d_RB_sumOf_82 : decode b_RB_sumOf 82 = .ok (.iinc 4 1, 3) := by decide +kernel
theorem d_RB_sumOf_85 : decode b_RB_sumOf 85 = .ok (.goto (-80), 3) := by decide +kernel
theorem d_RB_sumOf_88 : decode b_RB_sumOf 88 = .ok (.iload_n 3, 1) := by decide +kernel
theorem d_RB_sumOf_89 : decode b_RB_sumOf 89 = .ok (.ireturn, 1) := by decide +kernel
def y_RB_factorOf : MethodName := ⟨cR2, "factorOf", "(I[I)I"⟩
abbrev b_RB_factorOf : ByteArray := prog_5_method_8_code
abbrev k_RB_factorOf : Cond := .code y_RB_factorOf b_RB_factorOf 3 (some .int)
theorem mc_RB_factorOf : MC y_RB_factorOf k_RB_factorOf b_RB_factorOf 3 (some .int) [] 2 := ⟨g_in (List.mem_of_getElem? (i := 569) (by decide +kernel)) (by decide +kernel), Or.inl ⟨rfl, rfl⟩, g_in (List.mem_of_getElem? (i := 59) (by decide +kernel)) (by decide +kernel), by decide, by decide +kernel⟩
theorem st_RB_factorOf : Cond.static y_RB_factorOf ∈ g_ws := g_in (List.mem_of_getElem? (i := 568) (by decide +kernel)) (by decide +kernel)
theorem d_RB_factorOf_0 : decode b_RB_factorOf 0 = .ok (.iconst (-1), 1) := by decide +kernel
theorem d_RB_factorOf_1 : decode b_RB_factorOf 1 = .ok (.iload_n 0, 1) := by decide +kernel
theorem d_RB_factorOf_2 : decode b_RB_factorOf 2 = .ok (.isub, 1) := by decide +kernel
theorem d_RB_factorOf_3 : decode b_RB_factorOf 3 = .ok (.istore_n 2, 1) := by decide +kernel
theorem d_RB_factorOf_4 : decode b_RB_factorOf 4 = .ok (.iload_n 2, 1) := by decide +kernel
theorem d_RB_factorOf_5 : decode b_RB_factorOf 5 = .ok (.ifCond .lt 15, 3) := by decide +kernel
theorem d_RB_factorOf_8 : decode b_RB_factorOf 8 = .ok (.iload_n 2, 1) := by decide +kernel
theorem d_RB_factorOf_9 : decode b_RB_factorOf 9 = .ok (.aload_n 1, 1) := by decide +kernel
theorem d_RB_factorOf_10 : decode b_RB_factorOf 10 = .ok (.arraylength, 1) := by decide +kernel
theorem d_RB_factorOf_11 : decode b_RB_factorOf 11 = .ok (.if_icmp .ge 9, 3) := by decide +kernel
theorem d_RB_factorOf_14 : decode b_RB_factorOf 14 = .ok (.aload_n 1, 1) := by decide +kernel
theorem d_RB_factorOf_15 : decode b_RB_factorOf 15 = .ok (.iload_n 2, 1) := by decide +kernel
theorem d_RB_factorOf_16 : decode b_RB_factorOf 16 = .ok (.iaload, 1) := by decide +kernel
theorem d_RB_factorOf_17 : decode b_RB_factorOf 17 = .ok (.goto 4, 3) := by decide +kernel
theorem d_RB_factorOf_20 : decode b_RB_factorOf 20 = .ok (.iload_n 0, 1) := by decide +kernel
theorem d_RB_factorOf_21 : decode b_RB_factorOf 21 = .ok (.ireturn, 1) := by decide +kernel
def y_RB_holds : MethodName := ⟨cR2, "holds", "(CII)Z"⟩
abbrev b_RB_holds : ByteArray := prog_5_method_9_code
abbrev k_RB_holds : Cond := .code y_RB_holds b_RB_holds 3 (some .boolean)
theorem mc_RB_holds : MC y_RB_holds k_RB_holds b_RB_holds 3 (some .boolean) [] 3 := ⟨g_in (List.mem_of_getElem? (i := 573) (by decide +kernel)) (by decide +kernel), Or.inl ⟨rfl, rfl⟩, g_in (List.mem_of_getElem? (i := 59) (by decide +kernel)) (by decide +kernel), by decide, by decide +kernel⟩
theorem st_RB_holds : Cond.static y_RB_holds ∈ g_ws := g_in (List.mem_of_getElem? (i := 572) (by decide +kernel)) (by decide +kernel)
theorem d_RB_holds_0 : decode b_RB_holds 0 = .ok (.iload_n 0, 1) := by decide +kernel
theorem d_RB_holds_1 : decode b_RB_holds 1 = .ok (.lookupswitch 49 #[(60, 27), (61, 38)], 27) := by decide +kernel
theorem d_RB_holds_28 : decode b_RB_holds 28 = .ok (.iload_n 1, 1) := by decide +kernel
theorem d_RB_holds_29 : decode b_RB_holds 29 = .ok (.iload_n 2, 1) := by decide +kernel
theorem d_RB_holds_30 : decode b_RB_holds 30 = .ok (.if_icmp .ge 7, 3) := by decide +kernel
theorem d_RB_holds_33 : decode b_RB_holds 33 = .ok (.iconst 1, 1) := by decide +kernel
theorem d_RB_holds_34 : decode b_RB_holds 34 = .ok (.goto 4, 3) := by decide +kernel
theorem d_RB_holds_37 : decode b_RB_holds 37 = .ok (.iconst 0, 1) := by decide +kernel
theorem d_RB_holds_38 : decode b_RB_holds 38 = .ok (.ireturn, 1) := by decide +kernel
theorem d_RB_holds_39 : decode b_RB_holds 39 = .ok (.iload_n 1, 1) := by decide +kernel
theorem d_RB_holds_40 : decode b_RB_holds 40 = .ok (.iload_n 2, 1) := by decide +kernel
theorem d_RB_holds_41 : decode b_RB_holds 41 = .ok (.if_icmp .ne 7, 3) := by decide +kernel
theorem d_RB_holds_44 : decode b_RB_holds 44 = .ok (.iconst 1, 1) := by decide +kernel
theorem d_RB_holds_45 : decode b_RB_holds 45 = .ok (.goto 4, 3) := by decide +kernel
theorem d_RB_holds_48 : decode b_RB_holds 48 = .ok (.iconst 0, 1) := by decide +kernel
theorem d_RB_holds_49 : decode b_RB_holds 49 = .ok (.ireturn, 1) := by decide +kernel
theorem d_RB_holds_50 : decode b_RB_holds 50 = .ok (.iload_n 1, 1) := by decide +kernel
theorem d_RB_holds_51 : decode b_RB_holds 51 = .ok (.iload_n 2, 1) := by decide +kernel
theorem d_RB_holds_52 : decode b_RB_holds 52 = .ok (.if_icmp .gt 7, 3) := by decide +kernel
theorem d_RB_holds_55 : decode b_RB_holds 55 = .ok (.iconst 1, 1) := by decide +kernel
theorem d_RB_holds_56 : decode b_RB_holds 56 = .ok (.goto 4, 3) := by decide +kernel
theorem d_RB_holds_59 : decode b_RB_holds 59 = .ok (.iconst 0, 1) := by decide +kernel
theorem d_RB_holds_60 : decode b_RB_holds 60 = .ok (.ireturn, 1) := by decide +kernel
end
section
/-! ===== methods of FN: printed by program ===== -/
def y_FN_init : MethodName := ⟨cR3, "<init>", "()V"⟩
abbrev b_FN_init : ByteArray := prog_3_method_1_code
abbrev k_FN_init : Cond := .code y_FN_init b_FN_init 1 none
theorem mc_FN_init : MC y_FN_init k_FN_init b_FN_init 1 none [] 0 := ⟨g_in (List.mem_of_getElem? (i := 139) (by decide +kernel)) (by decide +kernel), Or.inl ⟨rfl, rfl⟩, g_in (List.mem_of_getElem? (i := 60) (by decide +kernel)) (by decide +kernel), by decide, by decide +kernel⟩
theorem in_FN_init : Cond.instanceMethod y_FN_init ∈ g_ws := g_in (List.mem_of_getElem? (i := 138) (by decide +kernel)) (by decide +kernel)
theorem d_FN_init_0 : decode b_FN_init 0 = .ok (.aload_n 0, 1) := by decide +kernel
theorem d_FN_init_1 : decode b_FN_init 1 = .ok (.invokespecial 3, 3) := by decide +kernel
theorem d_FN_init_4 : decode b_FN_init 4 = .ok (.aload_n 0, 1) := by decide +kernel
theorem d_FN_init_5 : decode b_FN_init 5 = .ok (.bipush 40, 2) := by decide +kernel
theorem d_FN_init_7 : decode b_FN_init 7 = .ok (.newarray .int, 2) := by decide +kernel
theorem d_FN_init_9 : decode b_FN_init 9 = .ok (.putfield 9, 3) := by decide +kernel
theorem d_FN_init_12 : decode b_FN_init 12 = .ok (.aload_n 0, 1) := by decide +kernel
theorem d_FN_init_13 : decode b_FN_init 13 = .ok (.bipush 40, 2) := by decide +kernel
theorem d_FN_init_15 : decode b_FN_init 15 = .ok (.newarray .int, 2) := by decide +kernel
theorem d_FN_init_17 : decode b_FN_init 17 = .ok (.putfield 15, 3) := by decide +kernel
theorem d_FN_init_20 : decode b_FN_init 20 = .ok (.aload_n 0, 1) := by decide +kernel
theorem d_FN_init_21 : decode b_FN_init 21 = .ok (.iconst 0, 1) := by decide +kernel
theorem d_FN_init_22 : decode b_FN_init 22 = .ok (.putfield 18, 3) := by decide +kernel
theorem d_FN_init_25 : decode b_FN_init 25 = .ok (.return_, 1) := by decide +kernel
def y_FN_add : MethodName := ⟨cR3, "add", "(II)V"⟩
abbrev b_FN_add : ByteArray := prog_3_method_2_code
abbrev k_FN_add : Cond := .code y_FN_add b_FN_add 3 none
theorem mc_FN_add : MC y_FN_add k_FN_add b_FN_add 3 none [] 2 := ⟨g_in (List.mem_of_getElem? (i := 558) (by decide +kernel)) (by decide +kernel), Or.inl ⟨rfl, rfl⟩, g_in (List.mem_of_getElem? (i := 60) (by decide +kernel)) (by decide +kernel), by decide, by decide +kernel⟩
theorem in_FN_add : Cond.instanceMethod y_FN_add ∈ g_ws := g_in (List.mem_of_getElem? (i := 557) (by decide +kernel)) (by decide +kernel)
theorem se_FN_add : Cond.selects cR3 y_FN_add y_FN_add ∈ g_ws := g_in (List.mem_of_getElem? (i := 19) (by decide +kernel)) (by decide +kernel)
theorem d_FN_add_0 : decode b_FN_add 0 = .ok (.aload_n 0, 1) := by decide +kernel
theorem d_FN_add_1 : decode b_FN_add 1 = .ok (.getfield 18, 3) := by decide +kernel
theorem d_FN_add_4 : decode b_FN_add 4 = .ok (.aload_n 0, 1) := by decide +kernel
theorem d_FN_add_5 : decode b_FN_add 5 = .ok (.getfield 9, 3) := by decide +kernel
theorem d_FN_add_8 : decode b_FN_add 8 = .ok (.arraylength, 1) := by decide +kernel
theorem d_FN_add_9 : decode b_FN_add 9 = .ok (.if_icmp .ge 45, 3) := by decide +kernel
theorem d_FN_add_12 : decode b_FN_add 12 = .ok (.aload_n 0, 1) := by decide +kernel
theorem d_FN_add_13 : decode b_FN_add 13 = .ok (.getfield 18, 3) := by decide +kernel
theorem d_FN_add_16 : decode b_FN_add 16 = .ok (.aload_n 0, 1) := by decide +kernel
theorem d_FN_add_17 : decode b_FN_add 17 = .ok (.getfield 15, 3) := by decide +kernel
theorem d_FN_add_20 : decode b_FN_add 20 = .ok (.arraylength, 1) := by decide +kernel
theorem d_FN_add_21 : decode b_FN_add 21 = .ok (.if_icmp .ge 33, 3) := by decide +kernel
theorem d_FN_add_24 : decode b_FN_add 24 = .ok (.aload_n 0, 1) := by decide +kernel
theorem d_FN_add_25 : decode b_FN_add 25 = .ok (.getfield 9, 3) := by decide +kernel
theorem d_FN_add_28 : decode b_FN_add 28 = .ok (.aload_n 0, 1) := by decide +kernel
theorem d_FN_add_29 : decode b_FN_add 29 = .ok (.getfield 18, 3) := by decide +kernel
theorem d_FN_add_32 : decode b_FN_add 32 = .ok (.iload_n 1, 1) := by decide +kernel
theorem d_FN_add_33 : decode b_FN_add 33 = .ok (.iastore, 1) := by decide +kernel
theorem d_FN_add_34 : decode b_FN_add 34 = .ok (.aload_n 0, 1) := by decide +kernel
theorem d_FN_add_35 : decode b_FN_add 35 = .ok (.getfield 15, 3) := by decide +kernel
theorem d_FN_add_38 : decode b_FN_add 38 = .ok (.aload_n 0, 1) := by decide +kernel
theorem d_FN_add_39 : decode b_FN_add 39 = .ok (.getfield 18, 3) := by decide +kernel
theorem d_FN_add_42 : decode b_FN_add 42 = .ok (.iload_n 2, 1) := by decide +kernel
theorem d_FN_add_43 : decode b_FN_add 43 = .ok (.iastore, 1) := by decide +kernel
theorem d_FN_add_44 : decode b_FN_add 44 = .ok (.aload_n 0, 1) := by decide +kernel
theorem d_FN_add_45 : decode b_FN_add 45 = .ok (.dup, 1) := by decide +kernel
theorem d_FN_add_46 : decode b_FN_add 46 = .ok (.getfield 18, 3) := by decide +kernel
theorem d_FN_add_49 : decode b_FN_add 49 = .ok (.iconst 1, 1) := by decide +kernel
theorem d_FN_add_50 : decode b_FN_add 50 = .ok (.iadd, 1) := by decide +kernel
theorem d_FN_add_51 : decode b_FN_add 51 = .ok (.putfield 18, 3) := by decide +kernel
theorem d_FN_add_54 : decode b_FN_add 54 = .ok (.return_, 1) := by decide +kernel
end
section
/-! ===== methods of CT: printed by program ===== -/
def y_CT_init : MethodName := ⟨cR4, "<init>", "()V"⟩
abbrev b_CT_init : ByteArray := prog_2_method_1_code
abbrev k_CT_init : Cond := .code y_CT_init b_CT_init 1 none
theorem mc_CT_init : MC y_CT_init k_CT_init b_CT_init 1 none [] 0 := ⟨g_in (List.mem_of_getElem? (i := 158) (by decide +kernel)) (by decide +kernel), Or.inl ⟨rfl, rfl⟩, g_in (List.mem_of_getElem? (i := 61) (by decide +kernel)) (by decide +kernel), by decide, by decide +kernel⟩
theorem in_CT_init : Cond.instanceMethod y_CT_init ∈ g_ws := g_in (List.mem_of_getElem? (i := 157) (by decide +kernel)) (by decide +kernel)
theorem d_CT_init_0 : decode b_CT_init 0 = .ok (.aload_n 0, 1) := by decide +kernel
theorem d_CT_init_1 : decode b_CT_init 1 = .ok (.invokespecial 3, 3) := by decide +kernel
theorem d_CT_init_4 : decode b_CT_init 4 = .ok (.aload_n 0, 1) := by decide +kernel
theorem d_CT_init_5 : decode b_CT_init 5 = .ok (.sipush 206, 3) := by decide +kernel
theorem d_CT_init_8 : decode b_CT_init 8 = .ok (.newarray .byte, 2) := by decide +kernel
theorem d_CT_init_10 : decode b_CT_init 10 = .ok (.putfield 9, 3) := by decide +kernel
theorem d_CT_init_13 : decode b_CT_init 13 = .ok (.aload_n 0, 1) := by decide +kernel
theorem d_CT_init_14 : decode b_CT_init 14 = .ok (.iconst 0, 1) := by decide +kernel
theorem d_CT_init_15 : decode b_CT_init 15 = .ok (.putfield 15, 3) := by decide +kernel
theorem d_CT_init_18 : decode b_CT_init 18 = .ok (.return_, 1) := by decide +kernel
def y_CT_write : MethodName := ⟨cR4, "write", "(LReportChecks2$Report;I)V"⟩
abbrev b_CT_write : ByteArray := prog_2_method_2_code
abbrev k_CT_write : Cond := .code y_CT_write b_CT_write 4 none
theorem mc_CT_write : MC y_CT_write k_CT_write b_CT_write 4 none [] 2 := ⟨g_in (List.mem_of_getElem? (i := 655) (by decide +kernel)) (by decide +kernel), Or.inl ⟨rfl, rfl⟩, g_in (List.mem_of_getElem? (i := 61) (by decide +kernel)) (by decide +kernel), by decide, by decide +kernel⟩
theorem in_CT_write : Cond.instanceMethod y_CT_write ∈ g_ws := g_in (List.mem_of_getElem? (i := 654) (by decide +kernel)) (by decide +kernel)
theorem se_CT_write : Cond.selects cR4 y_CT_write y_CT_write ∈ g_ws := g_in (List.mem_of_getElem? (i := 27) (by decide +kernel)) (by decide +kernel)
theorem d_CT_write_0 : decode b_CT_write 0 = .ok (.aload_n 0, 1) := by decide +kernel
theorem d_CT_write_1 : decode b_CT_write 1 = .ok (.iconst 0, 1) := by decide +kernel
theorem d_CT_write_2 : decode b_CT_write 2 = .ok (.putfield 15, 3) := by decide +kernel
theorem d_CT_write_5 : decode b_CT_write 5 = .ok (.aload_n 0, 1) := by decide +kernel
theorem d_CT_write_6 : decode b_CT_write 6 = .ok (.bipush 82, 2) := by decide +kernel
theorem d_CT_write_8 : decode b_CT_write 8 = .ok (.invokevirtual 19, 3) := by decide +kernel
theorem d_CT_write_11 : decode b_CT_write 11 = .ok (.aload_n 0, 1) := by decide +kernel
theorem d_CT_write_12 : decode b_CT_write 12 = .ok (.aload_n 1, 1) := by decide +kernel
theorem d_CT_write_13 : decode b_CT_write 13 = .ok (.getfield 23, 3) := by decide +kernel
theorem d_CT_write_16 : decode b_CT_write 16 = .ok (.invokevirtual 28, 3) := by decide +kernel
theorem d_CT_write_19 : decode b_CT_write 19 = .ok (.aload_n 0, 1) := by decide +kernel
theorem d_CT_write_20 : decode b_CT_write 20 = .ok (.bipush 44, 2) := by decide +kernel
theorem d_CT_write_22 : decode b_CT_write 22 = .ok (.invokevirtual 19, 3) := by decide +kernel
theorem d_CT_write_25 : decode b_CT_write 25 = .ok (.iconst 0, 1) := by decide +kernel
theorem d_CT_write_26 : decode b_CT_write 26 = .ok (.istore_n 3, 1) := by decide +kernel
theorem d_CT_write_27 : decode b_CT_write 27 = .ok (.iload_n 3, 1) := by decide +kernel
theorem d_CT_write_28 : decode b_CT_write 28 = .ok (.bipush 20, 2) := by decide +kernel
theorem d_CT_write_30 : decode b_CT_write 30 = .ok (.if_icmp .ge 36, 3) := by decide +kernel
theorem d_CT_write_33 : decode b_CT_write 33 = .ok (.aload_n 1, 1) := by decide +kernel
theorem d_CT_write_34 : decode b_CT_write 34 = .ok (.getfield 31, 3) := by decide +kernel
theorem d_CT_write_37 : decode b_CT_write 37 = .ok (.iload_n 3, 1) := by decide +kernel
theorem d_CT_write_38 : decode b_CT_write 38 = .ok (.invokestatic 34, 3) := by decide +kernel
theorem d_CT_write_41 : decode b_CT_write 41 = .ok (.ifCond .eq 19, 3) := by decide +kernel
theorem d_CT_write_44 : decode b_CT_write 44 = .ok (.aload_n 0, 1) := by decide +kernel
theorem d_CT_write_45 : decode b_CT_write 45 = .ok (.iload_n 3, 1) := by decide +kernel
theorem d_CT_write_46 : decode b_CT_write 46 = .ok (.aload_n 1, 1) := by decide +kernel
theorem d_CT_write_47 : decode b_CT_write 47 = .ok (.getfield 38, 3) := by decide +kernel
theorem d_CT_write_50 : decode b_CT_write 50 = .ok (.iload_n 3, 1) := by decide +kernel
theorem d_CT_write_51 : decode b_CT_write 51 = .ok (.iaload, 1) := by decide +kernel
theorem d_CT_write_52 : decode b_CT_write 52 = .ok (.iload_n 2, 1) := by decide +kernel
theorem d_CT_write_53 : decode b_CT_write 53 = .ok (.iload_n 3, 1) := by decide +kernel
theorem d_CT_write_54 : decode b_CT_write 54 = .ok (.invokestatic 34, 3) := by decide +kernel
theorem d_CT_write_57 : decode b_CT_write 57 = .ok (.invokevirtual 42, 3) := by decide +kernel
theorem d_CT_write_60 : decode b_CT_write 60 = .ok (.iinc 3 1, 3) := by decide +kernel
theorem d_CT_write_63 : decode b_CT_write 63 = .ok (.goto (-36), 3) := by decide +kernel
theorem d_CT_write_66 : decode b_CT_write 66 = .ok (.return_, 1) := by decide +kernel
def y_CT_addField : MethodName := ⟨cR4, "addField", "(IIZ)V"⟩
abbrev b_CT_addField : ByteArray := prog_2_method_3_code
abbrev k_CT_addField : Cond := .code y_CT_addField b_CT_addField 4 none
theorem mc_CT_addField : MC y_CT_addField k_CT_addField b_CT_addField 4 none [] 3 := ⟨g_in (List.mem_of_getElem? (i := 671) (by decide +kernel)) (by decide +kernel), Or.inl ⟨rfl, rfl⟩, g_in (List.mem_of_getElem? (i := 61) (by decide +kernel)) (by decide +kernel), by decide, by decide +kernel⟩
theorem in_CT_addField : Cond.instanceMethod y_CT_addField ∈ g_ws := g_in (List.mem_of_getElem? (i := 670) (by decide +kernel)) (by decide +kernel)
theorem se_CT_addField : Cond.selects cR4 y_CT_addField y_CT_addField ∈ g_ws := g_in (List.mem_of_getElem? (i := 30) (by decide +kernel)) (by decide +kernel)
theorem d_CT_addField_0 : decode b_CT_addField 0 = .ok (.aload_n 0, 1) := by decide +kernel
theorem d_CT_addField_1 : decode b_CT_addField 1 = .ok (.iload_n 1, 1) := by decide +kernel
theorem d_CT_addField_2 : decode b_CT_addField 2 = .ok (.invokevirtual 28, 3) := by decide +kernel
theorem d_CT_addField_5 : decode b_CT_addField 5 = .ok (.aload_n 0, 1) := by decide +kernel
theorem d_CT_addField_6 : decode b_CT_addField 6 = .ok (.bipush 58, 2) := by decide +kernel
theorem d_CT_addField_8 : decode b_CT_addField 8 = .ok (.invokevirtual 19, 3) := by decide +kernel
theorem d_CT_addField_11 : decode b_CT_addField 11 = .ok (.iload_n 3, 1) := by decide +kernel
theorem d_CT_addField_12 : decode b_CT_addField 12 = .ok (.ifCond .eq 12, 3) := by decide +kernel
theorem d_CT_addField_15 : decode b_CT_addField 15 = .ok (.aload_n 0, 1) := by decide +kernel
theorem d_CT_addField_16 : decode b_CT_addField 16 = .ok (.bipush 42, 2) := by decide +kernel
theorem d_CT_addField_18 : decode b_CT_addField 18 = .ok (.invokevirtual 19, 3) := by decide +kernel
theorem d_CT_addField_21 : decode b_CT_addField 21 = .ok (.goto 8, 3) := by decide +kernel
theorem d_CT_addField_24 : decode b_CT_addField 24 = .ok (.aload_n 0, 1) := by decide +kernel
theorem d_CT_addField_25 : decode b_CT_addField 25 = .ok (.iload_n 2, 1) := by decide +kernel
theorem d_CT_addField_26 : decode b_CT_addField 26 = .ok (.invokevirtual 28, 3) := by decide +kernel
theorem d_CT_addField_29 : decode b_CT_addField 29 = .ok (.aload_n 0, 1) := by decide +kernel
theorem d_CT_addField_30 : decode b_CT_addField 30 = .ok (.bipush 59, 2) := by decide +kernel
theorem d_CT_addField_32 : decode b_CT_addField 32 = .ok (.invokevirtual 19, 3) := by decide +kernel
theorem d_CT_addField_35 : decode b_CT_addField 35 = .ok (.return_, 1) := by decide +kernel
def y_CT_addNumber : MethodName := ⟨cR4, "addNumber", "(I)V"⟩
abbrev b_CT_addNumber : ByteArray := prog_2_method_4_code
abbrev k_CT_addNumber : Cond := .code y_CT_addNumber b_CT_addNumber 4 none
theorem mc_CT_addNumber : MC y_CT_addNumber k_CT_addNumber b_CT_addNumber 4 none [] 1 := ⟨g_in (List.mem_of_getElem? (i := 663) (by decide +kernel)) (by decide +kernel), Or.inl ⟨rfl, rfl⟩, g_in (List.mem_of_getElem? (i := 61) (by decide +kernel)) (by decide +kernel), by decide, by decide +kernel⟩
theorem in_CT_addNumber : Cond.instanceMethod y_CT_addNumber ∈ g_ws := g_in (List.mem_of_getElem? (i := 662) (by decide +kernel)) (by decide +kernel)
theorem se_CT_addNumber : Cond.selects cR4 y_CT_addNumber y_CT_addNumber ∈ g_ws := g_in (List.mem_of_getElem? (i := 29) (by decide +kernel)) (by decide +kernel)
theorem d_CT_addNumber_0 : decode b_CT_addNumber 0 = .ok (.iload_n 1, 1) := by decide +kernel
theorem d_CT_addNumber_1 : decode b_CT_addNumber 1 = .ok (.ifCond .ge 9, 3) := by decide +kernel
theorem d_CT_addNumber_4 : decode b_CT_addNumber 4 = .ok (.aload_n 0, 1) := by decide +kernel
theorem d_CT_addNumber_5 : decode b_CT_addNumber 5 = .ok (.bipush 45, 2) := by decide +kernel
theorem d_CT_addNumber_7 : decode b_CT_addNumber 7 = .ok (.invokevirtual 19, 3) := by decide +kernel
theorem d_CT_addNumber_10 : decode b_CT_addNumber 10 = .ok (.iload_n 1, 1) := by decide +kernel
theorem d_CT_addNumber_11 : decode b_CT_addNumber 11 = .ok (.invokestatic 46, 3) := by decide +kernel
theorem d_CT_addNumber_14 : decode b_CT_addNumber 14 = .ok (.istore_n 2, 1) := by decide +kernel
theorem d_CT_addNumber_15 : decode b_CT_addNumber 15 = .ok (.sipush 10000, 3) := by decide +kernel
theorem d_CT_addNumber_18 : decode b_CT_addNumber 18 = .ok (.istore_n 3, 1) := by decide +kernel
theorem d_CT_addNumber_19 : decode b_CT_addNumber 19 = .ok (.iload_n 3, 1) := by decide +kernel
theorem d_CT_addNumber_20 : decode b_CT_addNumber 20 = .ok (.ifCond .le 34, 3) := by decide +kernel
theorem d_CT_addNumber_23 : decode b_CT_addNumber 23 = .ok (.iload_n 2, 1) := by decide +kernel
theorem d_CT_addNumber_24 : decode b_CT_addNumber 24 = .ok (.iload_n 3, 1) := by decide +kernel
theorem d_CT_addNumber_25 : decode b_CT_addNumber 25 = .ok (.if_icmp .ge 8, 3) := by decide +kernel
theorem d_CT_addNumber_28 : decode b_CT_addNumber 28 = .ok (.iload_n 3, 1) := by decide +kernel
theorem d_CT_addNumber_29 : decode b_CT_addNumber 29 = .ok (.iconst 1, 1) := by decide +kernel
theorem d_CT_addNumber_30 : decode b_CT_addNumber 30 = .ok (.if_icmp .ne 16, 3) := by decide +kernel
theorem d_CT_addNumber_33 : decode b_CT_addNumber 33 = .ok (.aload_n 0, 1) := by decide +kernel
theorem d_CT_addNumber_34 : decode b_CT_addNumber 34 = .ok (.bipush 48, 2) := by decide +kernel
theorem d_CT_addNumber_36 : decode b_CT_addNumber 36 = .ok (.iload_n 2, 1) := by decide +kernel
theorem d_CT_addNumber_37 : decode b_CT_addNumber 37 = .ok (.iload_n 3, 1) := by decide +kernel
theorem d_CT_addNumber_38 : decode b_CT_addNumber 38 = .ok (.idiv, 1) := by decide +kernel
theorem d_CT_addNumber_39 : decode b_CT_addNumber 39 = .ok (.bipush 10, 2) := by decide +kernel
theorem d_CT_addNumber_41 : decode b_CT_addNumber 41 = .ok (.irem, 1) := by decide +kernel
theorem d_CT_addNumber_42 : decode b_CT_addNumber 42 = .ok (.iadd, 1) := by decide +kernel
theorem d_CT_addNumber_43 : decode b_CT_addNumber 43 = .ok (.invokevirtual 19, 3) := by decide +kernel
theorem d_CT_addNumber_46 : decode b_CT_addNumber 46 = .ok (.iload_n 3, 1) := by decide +kernel
theorem d_CT_addNumber_47 : decode b_CT_addNumber 47 = .ok (.bipush 10, 2) := by decide +kernel
theorem d_CT_addNumber_49 : decode b_CT_addNumber 49 = .ok (.idiv, 1) := by decide +kernel
theorem d_CT_addNumber_50 : decode b_CT_addNumber 50 = .ok (.istore_n 3, 1) := by decide +kernel
theorem d_CT_addNumber_51 : decode b_CT_addNumber 51 = .ok (.goto (-32), 3) := by decide +kernel
theorem d_CT_addNumber_54 : decode b_CT_addNumber 54 = .ok (.return_, 1) := by decide +kernel
def y_CT_addByte : MethodName := ⟨cR4, "addByte", "(I)V"⟩
abbrev b_CT_addByte : ByteArray := prog_2_method_5_code
abbrev k_CT_addByte : Cond := .code y_CT_addByte b_CT_addByte 2 none
theorem mc_CT_addByte : MC y_CT_addByte k_CT_addByte b_CT_addByte 2 none [] 1 := ⟨g_in (List.mem_of_getElem? (i := 659) (by decide +kernel)) (by decide +kernel), Or.inl ⟨rfl, rfl⟩, g_in (List.mem_of_getElem? (i := 61) (by decide +kernel)) (by decide +kernel), by decide, by decide +kernel⟩
theorem in_CT_addByte : Cond.instanceMethod y_CT_addByte ∈ g_ws := g_in (List.mem_of_getElem? (i := 658) (by decide +kernel)) (by decide +kernel)
theorem se_CT_addByte : Cond.selects cR4 y_CT_addByte y_CT_addByte ∈ g_ws := g_in (List.mem_of_getElem? (i := 28) (by decide +kernel)) (by decide +kernel)
theorem d_CT_addByte_0 : decode b_CT_addByte 0 = .ok (.aload_n 0, 1) := by decide +kernel
theorem d_CT_addByte_1 : decode b_CT_addByte 1 = .ok (.getfield 15, 3) := by decide +kernel
theorem d_CT_addByte_4 : decode b_CT_addByte 4 = .ok (.aload_n 0, 1) := by decide +kernel
theorem d_CT_addByte_5 : decode b_CT_addByte 5 = .ok (.getfield 9, 3) := by decide +kernel
theorem d_CT_addByte_8 : decode b_CT_addByte 8 = .ok (.arraylength, 1) := by decide +kernel
theorem d_CT_addByte_9 : decode b_CT_addByte 9 = .ok (.if_icmp .ge 24, 3) := by decide +kernel
theorem d_CT_addByte_12 : decode b_CT_addByte 12 = .ok (.aload_n 0, 1) := by decide +kernel
theorem d_CT_addByte_13 : decode b_CT_addByte 13 = .ok (.getfield 9, 3) := by decide +kernel
theorem d_CT_addByte_16 : decode b_CT_addByte 16 = .ok (.aload_n 0, 1) := by decide +kernel
theorem d_CT_addByte_17 : decode b_CT_addByte 17 = .ok (.getfield 15, 3) := by decide +kernel
theorem d_CT_addByte_20 : decode b_CT_addByte 20 = .ok (.iload_n 1, 1) := by decide +kernel
theorem d_CT_addByte_21 : decode b_CT_addByte 21 = .ok (.i2b, 1) := by decide +kernel
theorem d_CT_addByte_22 : decode b_CT_addByte 22 = .ok (.bastore, 1) := by decide +kernel
theorem d_CT_addByte_23 : decode b_CT_addByte 23 = .ok (.aload_n 0, 1) := by decide +kernel
theorem d_CT_addByte_24 : decode b_CT_addByte 24 = .ok (.dup, 1) := by decide +kernel
theorem d_CT_addByte_25 : decode b_CT_addByte 25 = .ok (.getfield 15, 3) := by decide +kernel
theorem d_CT_addByte_28 : decode b_CT_addByte 28 = .ok (.iconst 1, 1) := by decide +kernel
theorem d_CT_addByte_29 : decode b_CT_addByte 29 = .ok (.iadd, 1) := by decide +kernel
theorem d_CT_addByte_30 : decode b_CT_addByte 30 = .ok (.putfield 15, 3) := by decide +kernel
theorem d_CT_addByte_33 : decode b_CT_addByte 33 = .ok (.return_, 1) := by decide +kernel
end
section
/-! ===== methods of RP: printed by program ===== -/
def y_RP_init : MethodName := ⟨cR5, "<init>", "(IIII)V"⟩
abbrev b_RP_init : ByteArray := prog_4_method_1_code
abbrev k_RP_init : Cond := .code y_RP_init b_RP_init 5 none
theorem mc_RP_init : MC y_RP_init k_RP_init b_RP_init 5 none [] 4 := ⟨g_in (List.mem_of_getElem? (i := 336) (by decide +kernel)) (by decide +kernel), Or.inl ⟨rfl, rfl⟩, g_in (List.mem_of_getElem? (i := 69) (by decide +kernel)) (by decide +kernel), by decide, by decide +kernel⟩
theorem in_RP_init : Cond.instanceMethod y_RP_init ∈ g_ws := g_in (List.mem_of_getElem? (i := 335) (by decide +kernel)) (by decide +kernel)
theorem d_RP_init_0 : decode b_RP_init 0 = .ok (.aload_n 0, 1) := by decide +kernel
theorem d_RP_init_1 : decode b_RP_init 1 = .ok (.invokespecial 3, 3) := by decide +kernel
theorem d_RP_init_4 : decode b_RP_init 4 = .ok (.aload_n 0, 1) := by decide +kernel
theorem d_RP_init_5 : decode b_RP_init 5 = .ok (.bipush 20, 2) := by decide +kernel
theorem d_RP_init_7 : decode b_RP_init 7 = .ok (.newarray .int, 2) := by decide +kernel
theorem d_RP_init_9 : decode b_RP_init 9 = .ok (.putfield 9, 3) := by decide +kernel
theorem d_RP_init_12 : decode b_RP_init 12 = .ok (.aload_n 0, 1) := by decide +kernel
theorem d_RP_init_13 : decode b_RP_init 13 = .ok (.iconst 0, 1) := by decide +kernel
theorem d_RP_init_14 : decode b_RP_init 14 = .ok (.putfield 15, 3) := by decide +kernel
theorem d_RP_init_17 : decode b_RP_init 17 = .ok (.aload_n 0, 1) := by decide +kernel
theorem d_RP_init_18 : decode b_RP_init 18 = .ok (.iconst 0, 1) := by decide +kernel
theorem d_RP_init_19 : decode b_RP_init 19 = .ok (.putfield 19, 3) := by decide +kernel
theorem d_RP_init_22 : decode b_RP_init 22 = .ok (.aload_n 0, 1) := by decide +kernel
theorem d_RP_init_23 : decode b_RP_init 23 = .ok (.iconst 0, 1) := by decide +kernel
theorem d_RP_init_24 : decode b_RP_init 24 = .ok (.putfield 22, 3) := by decide +kernel
theorem d_RP_init_27 : decode b_RP_init 27 = .ok (.aload_n 0, 1) := by decide +kernel
theorem d_RP_init_28 : decode b_RP_init 28 = .ok (.iconst 0, 1) := by decide +kernel
theorem d_RP_init_29 : decode b_RP_init 29 = .ok (.putfield 25, 3) := by decide +kernel
theorem d_RP_init_32 : decode b_RP_init 32 = .ok (.aload_n 0, 1) := by decide +kernel
theorem d_RP_init_33 : decode b_RP_init 33 = .ok (.iconst 3, 1) := by decide +kernel
theorem d_RP_init_34 : decode b_RP_init 34 = .ok (.newarray .int, 2) := by decide +kernel
theorem d_RP_init_36 : decode b_RP_init 36 = .ok (.putfield 28, 3) := by decide +kernel
theorem d_RP_init_39 : decode b_RP_init 39 = .ok (.aload_n 0, 1) := by decide +kernel
theorem d_RP_init_40 : decode b_RP_init 40 = .ok (.iconst 0, 1) := by decide +kernel
theorem d_RP_init_41 : decode b_RP_init 41 = .ok (.putfield 31, 3) := by decide +kernel
theorem d_RP_init_44 : decode b_RP_init 44 = .ok (.aload_n 0, 1) := by decide +kernel
theorem d_RP_init_45 : decode b_RP_init 45 = .ok (.iload_n 1, 1) := by decide +kernel
theorem d_RP_init_46 : decode b_RP_init 46 = .ok (.putfield 34, 3) := by decide +kernel
theorem d_RP_init_49 : decode b_RP_init 49 = .ok (.aload_n 0, 1) := by decide +kernel
theorem d_RP_init_50 : decode b_RP_init 50 = .ok (.iload_n 2, 1) := by decide +kernel
theorem d_RP_init_51 : decode b_RP_init 51 = .ok (.putfield 37, 3) := by decide +kernel
theorem d_RP_init_54 : decode b_RP_init 54 = .ok (.aload_n 0, 1) := by decide +kernel
theorem d_RP_init_55 : decode b_RP_init 55 = .ok (.iload_n 3, 1) := by decide +kernel
theorem d_RP_init_56 : decode b_RP_init 56 = .ok (.putfield 40, 3) := by decide +kernel
theorem d_RP_init_59 : decode b_RP_init 59 = .ok (.aload_n 0, 1) := by decide +kernel
theorem d_RP_init_60 : decode b_RP_init 60 = .ok (.iload 4, 2) := by decide +kernel
theorem d_RP_init_62 : decode b_RP_init 62 = .ok (.putfield 43, 3) := by decide +kernel
theorem d_RP_init_65 : decode b_RP_init 65 = .ok (.return_, 1) := by decide +kernel
def y_RP_canBeTold : MethodName := ⟨cR5, "canBeTold", "(I)Z"⟩
abbrev b_RP_canBeTold : ByteArray := prog_4_method_2_code
abbrev k_RP_canBeTold : Cond := .code y_RP_canBeTold b_RP_canBeTold 2 (some .boolean)
theorem mc_RP_canBeTold : MC y_RP_canBeTold k_RP_canBeTold b_RP_canBeTold 2 (some .boolean) [] 1 := ⟨g_in (List.mem_of_getElem? (i := 423) (by decide +kernel)) (by decide +kernel), Or.inl ⟨rfl, rfl⟩, g_in (List.mem_of_getElem? (i := 69) (by decide +kernel)) (by decide +kernel), by decide, by decide +kernel⟩
theorem in_RP_canBeTold : Cond.instanceMethod y_RP_canBeTold ∈ g_ws := g_in (List.mem_of_getElem? (i := 422) (by decide +kernel)) (by decide +kernel)
theorem se_RP_canBeTold : Cond.selects cR5 y_RP_canBeTold y_RP_canBeTold ∈ g_ws := g_in (List.mem_of_getElem? (i := 4) (by decide +kernel)) (by decide +kernel)
theorem d_RP_canBeTold_0 : decode b_RP_canBeTold 0 = .ok (.aload_n 0, 1) := by decide +kernel
theorem d_RP_canBeTold_1 : decode b_RP_canBeTold 1 = .ok (.getfield 31, 3) := by decide +kernel
theorem d_RP_canBeTold_4 : decode b_RP_canBeTold 4 = .ok (.ifCond .eq 14, 3) := by decide +kernel
theorem d_RP_canBeTold_7 : decode b_RP_canBeTold 7 = .ok (.aload_n 0, 1) := by decide +kernel
theorem d_RP_canBeTold_8 : decode b_RP_canBeTold 8 = .ok (.getfield 22, 3) := by decide +kernel
theorem d_RP_canBeTold_11 : decode b_RP_canBeTold 11 = .ok (.iload_n 1, 1) := by decide +kernel
theorem d_RP_canBeTold_12 : decode b_RP_canBeTold 12 = .ok (.invokestatic 46, 3) := by decide +kernel
theorem d_RP_canBeTold_15 : decode b_RP_canBeTold 15 = .ok (.ifCond .eq 7, 3) := by decide +kernel
theorem d_RP_canBeTold_18 : decode b_RP_canBeTold 18 = .ok (.iconst 1, 1) := by decide +kernel
theorem d_RP_canBeTold_19 : decode b_RP_canBeTold 19 = .ok (.goto 4, 3) := by decide +kernel
theorem d_RP_canBeTold_22 : decode b_RP_canBeTold 22 = .ok (.iconst 0, 1) := by decide +kernel
theorem d_RP_canBeTold_23 : decode b_RP_canBeTold 23 = .ok (.ireturn, 1) := by decide +kernel
def y_RP_tell : MethodName := ⟨cR5, "tell", "(II)V"⟩
abbrev b_RP_tell : ByteArray := prog_4_method_3_code
abbrev k_RP_tell : Cond := .code y_RP_tell b_RP_tell 3 none
theorem mc_RP_tell : MC y_RP_tell k_RP_tell b_RP_tell 3 none [] 2 := ⟨g_in (List.mem_of_getElem? (i := 446) (by decide +kernel)) (by decide +kernel), Or.inl ⟨rfl, rfl⟩, g_in (List.mem_of_getElem? (i := 69) (by decide +kernel)) (by decide +kernel), by decide, by decide +kernel⟩
theorem in_RP_tell : Cond.instanceMethod y_RP_tell ∈ g_ws := g_in (List.mem_of_getElem? (i := 445) (by decide +kernel)) (by decide +kernel)
theorem se_RP_tell : Cond.selects cR5 y_RP_tell y_RP_tell ∈ g_ws := g_in (List.mem_of_getElem? (i := 5) (by decide +kernel)) (by decide +kernel)
theorem d_RP_tell_0 : decode b_RP_tell 0 = .ok (.aload_n 0, 1) := by decide +kernel
theorem d_RP_tell_1 : decode b_RP_tell 1 = .ok (.getfield 9, 3) := by decide +kernel
theorem d_RP_tell_4 : decode b_RP_tell 4 = .ok (.iload_n 1, 1) := by decide +kernel
theorem d_RP_tell_5 : decode b_RP_tell 5 = .ok (.iload_n 2, 1) := by decide +kernel
theorem d_RP_tell_6 : decode b_RP_tell 6 = .ok (.iastore, 1) := by decide +kernel
theorem d_RP_tell_7 : decode b_RP_tell 7 = .ok (.aload_n 0, 1) := by decide +kernel
theorem d_RP_tell_8 : decode b_RP_tell 8 = .ok (.aload_n 0, 1) := by decide +kernel
theorem d_RP_tell_9 : decode b_RP_tell 9 = .ok (.getfield 15, 3) := by decide +kernel
theorem d_RP_tell_12 : decode b_RP_tell 12 = .ok (.iload_n 1, 1) := by decide +kernel
theorem d_RP_tell_13 : decode b_RP_tell 13 = .ok (.iconst 1, 1) := by decide +kernel
theorem d_RP_tell_14 : decode b_RP_tell 14 = .ok (.invokestatic 50, 3) := by decide +kernel
theorem d_RP_tell_17 : decode b_RP_tell 17 = .ok (.putfield 15, 3) := by decide +kernel
theorem d_RP_tell_20 : decode b_RP_tell 20 = .ok (.aload_n 0, 1) := by decide +kernel
theorem d_RP_tell_21 : decode b_RP_tell 21 = .ok (.aload_n 0, 1) := by decide +kernel
theorem d_RP_tell_22 : decode b_RP_tell 22 = .ok (.getfield 19, 3) := by decide +kernel
theorem d_RP_tell_25 : decode b_RP_tell 25 = .ok (.iload_n 1, 1) := by decide +kernel
theorem d_RP_tell_26 : decode b_RP_tell 26 = .ok (.iconst 0, 1) := by decide +kernel
theorem d_RP_tell_27 : decode b_RP_tell 27 = .ok (.invokestatic 50, 3) := by decide +kernel
theorem d_RP_tell_30 : decode b_RP_tell 30 = .ok (.putfield 19, 3) := by decide +kernel
theorem d_RP_tell_33 : decode b_RP_tell 33 = .ok (.aload_n 0, 1) := by decide +kernel
theorem d_RP_tell_34 : decode b_RP_tell 34 = .ok (.aload_n 0, 1) := by decide +kernel
theorem d_RP_tell_35 : decode b_RP_tell 35 = .ok (.getfield 22, 3) := by decide +kernel
theorem d_RP_tell_38 : decode b_RP_tell 38 = .ok (.iload_n 1, 1) := by decide +kernel
theorem d_RP_tell_39 : decode b_RP_tell 39 = .ok (.iconst 0, 1) := by decide +kernel
theorem d_RP_tell_40 : decode b_RP_tell 40 = .ok (.invokestatic 50, 3) := by decide +kernel
theorem d_RP_tell_43 : decode b_RP_tell 43 = .ok (.putfield 22, 3) := by decide +kernel
theorem d_RP_tell_46 : decode b_RP_tell 46 = .ok (.return_, 1) := by decide +kernel
def y_RP_fillByAct : MethodName := ⟨cR5, "fillByAct", "(II)Z"⟩
abbrev b_RP_fillByAct : ByteArray := prog_4_method_4_code
abbrev k_RP_fillByAct : Cond := .code y_RP_fillByAct b_RP_fillByAct 5 (some .boolean)
theorem mc_RP_fillByAct : MC y_RP_fillByAct k_RP_fillByAct b_RP_fillByAct 5 (some .boolean) [] 2 := ⟨g_in (List.mem_of_getElem? (i := 464) (by decide +kernel)) (by decide +kernel), Or.inl ⟨rfl, rfl⟩, g_in (List.mem_of_getElem? (i := 69) (by decide +kernel)) (by decide +kernel), by decide, by decide +kernel⟩
theorem in_RP_fillByAct : Cond.instanceMethod y_RP_fillByAct ∈ g_ws := g_in (List.mem_of_getElem? (i := 463) (by decide +kernel)) (by decide +kernel)
theorem se_RP_fillByAct : Cond.selects cR5 y_RP_fillByAct y_RP_fillByAct ∈ g_ws := g_in (List.mem_of_getElem? (i := 6) (by decide +kernel)) (by decide +kernel)
theorem d_RP_fillByAct_0 : decode b_RP_fillByAct 0 = .ok (.aload_n 0, 1) := by decide +kernel
theorem d_RP_fillByAct_1 : decode b_RP_fillByAct 1 = .ok (.getfield 15, 3) := by decide +kernel
theorem d_RP_fillByAct_4 : decode b_RP_fillByAct 4 = .ok (.iload_n 1, 1) := by decide +kernel
theorem d_RP_fillByAct_5 : decode b_RP_fillByAct 5 = .ok (.invokestatic 46, 3) := by decide +kernel
theorem d_RP_fillByAct_8 : decode b_RP_fillByAct 8 = .ok (.ifCond .ne 7, 3) := by decide +kernel
theorem d_RP_fillByAct_11 : decode b_RP_fillByAct 11 = .ok (.iconst 1, 1) := by decide +kernel
theorem d_RP_fillByAct_12 : decode b_RP_fillByAct 12 = .ok (.goto 4, 3) := by decide +kernel
theorem d_RP_fillByAct_15 : decode b_RP_fillByAct 15 = .ok (.iconst 0, 1) := by decide +kernel
theorem d_RP_fillByAct_16 : decode b_RP_fillByAct 16 = .ok (.istore_n 3, 1) := by decide +kernel
theorem d_RP_fillByAct_17 : decode b_RP_fillByAct 17 = .ok (.aload_n 0, 1) := by decide +kernel
theorem d_RP_fillByAct_18 : decode b_RP_fillByAct 18 = .ok (.getfield 19, 3) := by decide +kernel
theorem d_RP_fillByAct_21 : decode b_RP_fillByAct 21 = .ok (.iload_n 1, 1) := by decide +kernel
theorem d_RP_fillByAct_22 : decode b_RP_fillByAct 22 = .ok (.invokestatic 46, 3) := by decide +kernel
theorem d_RP_fillByAct_25 : decode b_RP_fillByAct 25 = .ok (.ifCond .eq 17, 3) := by decide +kernel
theorem d_RP_fillByAct_28 : decode b_RP_fillByAct 28 = .ok (.iload_n 2, 1) := by decide +kernel
theorem d_RP_fillByAct_29 : decode b_RP_fillByAct 29 = .ok (.aload_n 0, 1) := by decide +kernel
theorem d_RP_fillByAct_30 : decode b_RP_fillByAct 30 = .ok (.getfield 9, 3) := by decide +kernel
theorem d_RP_fillByAct_33 : decode b_RP_fillByAct 33 = .ok (.iload_n 1, 1) := by decide +kernel
theorem d_RP_fillByAct_34 : decode b_RP_fillByAct 34 = .ok (.iaload, 1) := by decide +kernel
theorem d_RP_fillByAct_35 : decode b_RP_fillByAct 35 = .ok (.if_icmp .ge 7, 3) := by decide +kernel
theorem d_RP_fillByAct_38 : decode b_RP_fillByAct 38 = .ok (.iconst 1, 1) := by decide +kernel
theorem d_RP_fillByAct_39 : decode b_RP_fillByAct 39 = .ok (.goto 4, 3) := by decide +kernel
theorem d_RP_fillByAct_42 : decode b_RP_fillByAct 42 = .ok (.iconst 0, 1) := by decide +kernel
theorem d_RP_fillByAct_43 : decode b_RP_fillByAct 43 = .ok (.istore 4, 2) := by decide +kernel
theorem d_RP_fillByAct_45 : decode b_RP_fillByAct 45 = .ok (.iload_n 3, 1) := by decide +kernel
theorem d_RP_fillByAct_46 : decode b_RP_fillByAct 46 = .ok (.ifCond .ne 10, 3) := by decide +kernel
theorem d_RP_fillByAct_49 : decode b_RP_fillByAct 49 = .ok (.iload 4, 2) := by decide +kernel
theorem d_RP_fillByAct_51 : decode b_RP_fillByAct 51 = .ok (.ifCond .ne 5, 3) := by decide +kernel
theorem d_RP_fillByAct_54 : decode b_RP_fillByAct 54 = .ok (.iconst 0, 1) := by decide +kernel
theorem d_RP_fillByAct_55 : decode b_RP_fillByAct 55 = .ok (.ireturn, 1) := by decide +kernel
theorem d_RP_fillByAct_56 : decode b_RP_fillByAct 56 = .ok (.aload_n 0, 1) := by decide +kernel
theorem d_RP_fillByAct_57 : decode b_RP_fillByAct 57 = .ok (.getfield 9, 3) := by decide +kernel
theorem d_RP_fillByAct_60 : decode b_RP_fillByAct 60 = .ok (.iload_n 1, 1) := by decide +kernel
theorem d_RP_fillByAct_61 : decode b_RP_fillByAct 61 = .ok (.iload_n 2, 1) := by decide +kernel
theorem d_RP_fillByAct_62 : decode b_RP_fillByAct 62 = .ok (.iastore, 1) := by decide +kernel
theorem d_RP_fillByAct_63 : decode b_RP_fillByAct 63 = .ok (.aload_n 0, 1) := by decide +kernel
theorem d_RP_fillByAct_64 : decode b_RP_fillByAct 64 = .ok (.aload_n 0, 1) := by decide +kernel
theorem d_RP_fillByAct_65 : decode b_RP_fillByAct 65 = .ok (.getfield 15, 3) := by decide +kernel
theorem d_RP_fillByAct_68 : decode b_RP_fillByAct 68 = .ok (.iload_n 1, 1) := by decide +kernel
theorem d_RP_fillByAct_69 : decode b_RP_fillByAct 69 = .ok (.iconst 1, 1) := by decide +kernel
theorem d_RP_fillByAct_70 : decode b_RP_fillByAct 70 = .ok (.invokestatic 50, 3) := by decide +kernel
theorem d_RP_fillByAct_73 : decode b_RP_fillByAct 73 = .ok (.putfield 15, 3) := by decide +kernel
theorem d_RP_fillByAct_76 : decode b_RP_fillByAct 76 = .ok (.aload_n 0, 1) := by decide +kernel
theorem d_RP_fillByAct_77 : decode b_RP_fillByAct 77 = .ok (.aload_n 0, 1) := by decide +kernel
theorem d_RP_fillByAct_78 : decode b_RP_fillByAct 78 = .ok (.getfield 19, 3) := by decide +kernel
theorem d_RP_fillByAct_81 : decode b_RP_fillByAct 81 = .ok (.iload_n 1, 1) := by decide +kernel
theorem d_RP_fillByAct_82 : decode b_RP_fillByAct 82 = .ok (.iconst 1, 1) := by decide +kernel
theorem d_RP_fillByAct_83 : decode b_RP_fillByAct 83 = .ok (.invokestatic 50, 3) := by decide +kernel
theorem d_RP_fillByAct_86 : decode b_RP_fillByAct 86 = .ok (.putfield 19, 3) := by decide +kernel
theorem d_RP_fillByAct_89 : decode b_RP_fillByAct 89 = .ok (.iconst 1, 1) := by decide +kernel
theorem d_RP_fillByAct_90 : decode b_RP_fillByAct 90 = .ok (.ireturn, 1) := by decide +kernel
def y_RP_copyValues : MethodName := ⟨cR5, "copyValues", "(LReportChecks2$Report;)V"⟩
abbrev b_RP_copyValues : ByteArray := prog_4_method_5_code
abbrev k_RP_copyValues : Cond := .code y_RP_copyValues b_RP_copyValues 2 none
theorem mc_RP_copyValues : MC y_RP_copyValues k_RP_copyValues b_RP_copyValues 2 none [] 1 := ⟨g_in (List.mem_of_getElem? (i := 626) (by decide +kernel)) (by decide +kernel), Or.inl ⟨rfl, rfl⟩, g_in (List.mem_of_getElem? (i := 69) (by decide +kernel)) (by decide +kernel), by decide, by decide +kernel⟩
theorem in_RP_copyValues : Cond.instanceMethod y_RP_copyValues ∈ g_ws := g_in (List.mem_of_getElem? (i := 625) (by decide +kernel)) (by decide +kernel)
theorem se_RP_copyValues : Cond.selects cR5 y_RP_copyValues y_RP_copyValues ∈ g_ws := g_in (List.mem_of_getElem? (i := 26) (by decide +kernel)) (by decide +kernel)
theorem d_RP_copyValues_0 : decode b_RP_copyValues 0 = .ok (.aload_n 1, 1) := by decide +kernel
theorem d_RP_copyValues_1 : decode b_RP_copyValues 1 = .ok (.getfield 9, 3) := by decide +kernel
theorem d_RP_copyValues_4 : decode b_RP_copyValues 4 = .ok (.iconst 0, 1) := by decide +kernel
theorem d_RP_copyValues_5 : decode b_RP_copyValues 5 = .ok (.aload_n 0, 1) := by decide +kernel
theorem d_RP_copyValues_6 : decode b_RP_copyValues 6 = .ok (.getfield 9, 3) := by decide +kernel
theorem d_RP_copyValues_9 : decode b_RP_copyValues 9 = .ok (.iconst 0, 1) := by decide +kernel
theorem d_RP_copyValues_10 : decode b_RP_copyValues 10 = .ok (.bipush 20, 2) := by decide +kernel
theorem d_RP_copyValues_12 : decode b_RP_copyValues 12 = .ok (.invokestatic 54, 3) := by decide +kernel
theorem d_RP_copyValues_15 : decode b_RP_copyValues 15 = .ok (.aload_n 0, 1) := by decide +kernel
theorem d_RP_copyValues_16 : decode b_RP_copyValues 16 = .ok (.aload_n 1, 1) := by decide +kernel
theorem d_RP_copyValues_17 : decode b_RP_copyValues 17 = .ok (.getfield 15, 3) := by decide +kernel
theorem d_RP_copyValues_20 : decode b_RP_copyValues 20 = .ok (.putfield 15, 3) := by decide +kernel
theorem d_RP_copyValues_23 : decode b_RP_copyValues 23 = .ok (.aload_n 0, 1) := by decide +kernel
theorem d_RP_copyValues_24 : decode b_RP_copyValues 24 = .ok (.aload_n 1, 1) := by decide +kernel
theorem d_RP_copyValues_25 : decode b_RP_copyValues 25 = .ok (.getfield 19, 3) := by decide +kernel
theorem d_RP_copyValues_28 : decode b_RP_copyValues 28 = .ok (.putfield 19, 3) := by decide +kernel
theorem d_RP_copyValues_31 : decode b_RP_copyValues 31 = .ok (.return_, 1) := by decide +kernel
def y_RP_isClosed : MethodName := ⟨cR5, "isClosed", "()Z"⟩
abbrev b_RP_isClosed : ByteArray := prog_4_method_6_code
abbrev k_RP_isClosed : Cond := .code y_RP_isClosed b_RP_isClosed 1 (some .boolean)
theorem mc_RP_isClosed : MC y_RP_isClosed k_RP_isClosed b_RP_isClosed 1 (some .boolean) [] 0 := ⟨g_in (List.mem_of_getElem? (i := 601) (by decide +kernel)) (by decide +kernel), Or.inl ⟨rfl, rfl⟩, g_in (List.mem_of_getElem? (i := 69) (by decide +kernel)) (by decide +kernel), by decide, by decide +kernel⟩
theorem in_RP_isClosed : Cond.instanceMethod y_RP_isClosed ∈ g_ws := g_in (List.mem_of_getElem? (i := 600) (by decide +kernel)) (by decide +kernel)
theorem se_RP_isClosed : Cond.selects cR5 y_RP_isClosed y_RP_isClosed ∈ g_ws := g_in (List.mem_of_getElem? (i := 23) (by decide +kernel)) (by decide +kernel)
theorem d_RP_isClosed_0 : decode b_RP_isClosed 0 = .ok (.aload_n 0, 1) := by decide +kernel
theorem d_RP_isClosed_1 : decode b_RP_isClosed 1 = .ok (.getfield 31, 3) := by decide +kernel
theorem d_RP_isClosed_4 : decode b_RP_isClosed 4 = .ok (.iconst 3, 1) := by decide +kernel
theorem d_RP_isClosed_5 : decode b_RP_isClosed 5 = .ok (.if_icmp .lt 7, 3) := by decide +kernel
theorem d_RP_isClosed_8 : decode b_RP_isClosed 8 = .ok (.iconst 1, 1) := by decide +kernel
theorem d_RP_isClosed_9 : decode b_RP_isClosed 9 = .ok (.goto 4, 3) := by decide +kernel
theorem d_RP_isClosed_12 : decode b_RP_isClosed 12 = .ok (.iconst 0, 1) := by decide +kernel
theorem d_RP_isClosed_13 : decode b_RP_isClosed 13 = .ok (.ireturn, 1) := by decide +kernel
def y_RP_isReadyFor : MethodName := ⟨cR5, "isReadyFor", "(I)Z"⟩
abbrev b_RP_isReadyFor : ByteArray := prog_4_method_7_code
abbrev k_RP_isReadyFor : Cond := .code y_RP_isReadyFor b_RP_isReadyFor 2 (some .boolean)
theorem mc_RP_isReadyFor : MC y_RP_isReadyFor k_RP_isReadyFor b_RP_isReadyFor 2 (some .boolean) [] 1 := ⟨g_in (List.mem_of_getElem? (i := 597) (by decide +kernel)) (by decide +kernel), Or.inl ⟨rfl, rfl⟩, g_in (List.mem_of_getElem? (i := 69) (by decide +kernel)) (by decide +kernel), by decide, by decide +kernel⟩
theorem in_RP_isReadyFor : Cond.instanceMethod y_RP_isReadyFor ∈ g_ws := g_in (List.mem_of_getElem? (i := 596) (by decide +kernel)) (by decide +kernel)
theorem se_RP_isReadyFor : Cond.selects cR5 y_RP_isReadyFor y_RP_isReadyFor ∈ g_ws := g_in (List.mem_of_getElem? (i := 22) (by decide +kernel)) (by decide +kernel)
theorem d_RP_isReadyFor_0 : decode b_RP_isReadyFor 0 = .ok (.aload_n 0, 1) := by decide +kernel
theorem d_RP_isReadyFor_1 : decode b_RP_isReadyFor 1 = .ok (.getfield 25, 3) := by decide +kernel
theorem d_RP_isReadyFor_4 : decode b_RP_isReadyFor 4 = .ok (.ifCond .ne 29, 3) := by decide +kernel
theorem d_RP_isReadyFor_7 : decode b_RP_isReadyFor 7 = .ok (.aload_n 0, 1) := by decide +kernel
theorem d_RP_isReadyFor_8 : decode b_RP_isReadyFor 8 = .ok (.getfield 22, 3) := by decide +kernel
theorem d_RP_isReadyFor_11 : decode b_RP_isReadyFor 11 = .ok (.ifCond .ne 22, 3) := by decide +kernel
theorem d_RP_isReadyFor_14 : decode b_RP_isReadyFor 14 = .ok (.aload_n 0, 1) := by decide +kernel
theorem d_RP_isReadyFor_15 : decode b_RP_isReadyFor 15 = .ok (.invokevirtual 60, 3) := by decide +kernel
theorem d_RP_isReadyFor_18 : decode b_RP_isReadyFor 18 = .ok (.ifCond .ne 15, 3) := by decide +kernel
theorem d_RP_isReadyFor_21 : decode b_RP_isReadyFor 21 = .ok (.aload_n 0, 1) := by decide +kernel
theorem d_RP_isReadyFor_22 : decode b_RP_isReadyFor 22 = .ok (.iload_n 1, 1) := by decide +kernel
theorem d_RP_isReadyFor_23 : decode b_RP_isReadyFor 23 = .ok (.invokevirtual 64, 3) := by decide +kernel
theorem d_RP_isReadyFor_26 : decode b_RP_isReadyFor 26 = .ok (.ifCond .ne 7, 3) := by decide +kernel
theorem d_RP_isReadyFor_29 : decode b_RP_isReadyFor 29 = .ok (.iconst 1, 1) := by decide +kernel
theorem d_RP_isReadyFor_30 : decode b_RP_isReadyFor 30 = .ok (.goto 4, 3) := by decide +kernel
theorem d_RP_isReadyFor_33 : decode b_RP_isReadyFor 33 = .ok (.iconst 0, 1) := by decide +kernel
theorem d_RP_isReadyFor_34 : decode b_RP_isReadyFor 34 = .ok (.ireturn, 1) := by decide +kernel
def y_RP_hasSigner : MethodName := ⟨cR5, "hasSigner", "(I)Z"⟩
abbrev b_RP_hasSigner : ByteArray := prog_4_method_8_code
abbrev k_RP_hasSigner : Cond := .code y_RP_hasSigner b_RP_hasSigner 3 (some .boolean)
theorem mc_RP_hasSigner : MC y_RP_hasSigner k_RP_hasSigner b_RP_hasSigner 3 (some .boolean) [] 1 := ⟨g_in (List.mem_of_getElem? (i := 605) (by decide +kernel)) (by decide +kernel), Or.inl ⟨rfl, rfl⟩, g_in (List.mem_of_getElem? (i := 69) (by decide +kernel)) (by decide +kernel), by decide, by decide +kernel⟩
theorem in_RP_hasSigner : Cond.instanceMethod y_RP_hasSigner ∈ g_ws := g_in (List.mem_of_getElem? (i := 604) (by decide +kernel)) (by decide +kernel)
theorem se_RP_hasSigner : Cond.selects cR5 y_RP_hasSigner y_RP_hasSigner ∈ g_ws := g_in (List.mem_of_getElem? (i := 24) (by decide +kernel)) (by decide +kernel)
theorem d_RP_hasSigner_0 : decode b_RP_hasSigner 0 = .ok (.iconst 0, 1) := by decide +kernel
theorem d_RP_hasSigner_1 : decode b_RP_hasSigner 1 = .ok (.istore_n 2, 1) := by decide +kernel
theorem d_RP_hasSigner_2 : decode b_RP_hasSigner 2 = .ok (.iload_n 2, 1) := by decide +kernel
theorem d_RP_hasSigner_3 : decode b_RP_hasSigner 3 = .ok (.aload_n 0, 1) := by decide +kernel
theorem d_RP_hasSigner_4 : decode b_RP_hasSigner 4 = .ok (.getfield 31, 3) := by decide +kernel
theorem d_RP_hasSigner_7 : decode b_RP_hasSigner 7 = .ok (.if_icmp .ge 26, 3) := by decide +kernel
theorem d_RP_hasSigner_10 : decode b_RP_hasSigner 10 = .ok (.iload_n 2, 1) := by decide +kernel
theorem d_RP_hasSigner_11 : decode b_RP_hasSigner 11 = .ok (.iconst 3, 1) := by decide +kernel
theorem d_RP_hasSigner_12 : decode b_RP_hasSigner 12 = .ok (.if_icmp .ge 21, 3) := by decide +kernel
theorem d_RP_hasSigner_15 : decode b_RP_hasSigner 15 = .ok (.aload_n 0, 1) := by decide +kernel
theorem d_RP_hasSigner_16 : decode b_RP_hasSigner 16 = .ok (.getfield 28, 3) := by decide +kernel
theorem d_RP_hasSigner_19 : decode b_RP_hasSigner 19 = .ok (.iload_n 2, 1) := by decide +kernel
theorem d_RP_hasSigner_20 : decode b_RP_hasSigner 20 = .ok (.iaload, 1) := by decide +kernel
theorem d_RP_hasSigner_21 : decode b_RP_hasSigner 21 = .ok (.iload_n 1, 1) := by decide +kernel
theorem d_RP_hasSigner_22 : decode b_RP_hasSigner 22 = .ok (.if_icmp .ne 5, 3) := by decide +kernel
theorem d_RP_hasSigner_25 : decode b_RP_hasSigner 25 = .ok (.iconst 1, 1) := by decide +kernel
theorem d_RP_hasSigner_26 : decode b_RP_hasSigner 26 = .ok (.ireturn, 1) := by decide +kernel
theorem d_RP_hasSigner_27 : decode b_RP_hasSigner 27 = .ok (.iinc 2 1, 3) := by decide +kernel
theorem d_RP_hasSigner_30 : decode b_RP_hasSigner 30 = .ok (.goto (-28), 3) := by decide +kernel
theorem d_RP_hasSigner_33 : decode b_RP_hasSigner 33 = .ok (.iconst 0, 1) := by decide +kernel
theorem d_RP_hasSigner_34 : decode b_RP_hasSigner 34 = .ok (.ireturn, 1) := by decide +kernel
def y_RP_addSignature : MethodName := ⟨cR5, "addSignature", "(I)V"⟩
abbrev b_RP_addSignature : ByteArray := prog_4_method_9_code
abbrev k_RP_addSignature : Cond := .code y_RP_addSignature b_RP_addSignature 2 none
theorem mc_RP_addSignature : MC y_RP_addSignature k_RP_addSignature b_RP_addSignature 2 none [] 1 := ⟨g_in (List.mem_of_getElem? (i := 610) (by decide +kernel)) (by decide +kernel), Or.inl ⟨rfl, rfl⟩, g_in (List.mem_of_getElem? (i := 69) (by decide +kernel)) (by decide +kernel), by decide, by decide +kernel⟩
theorem in_RP_addSignature : Cond.instanceMethod y_RP_addSignature ∈ g_ws := g_in (List.mem_of_getElem? (i := 609) (by decide +kernel)) (by decide +kernel)
theorem se_RP_addSignature : Cond.selects cR5 y_RP_addSignature y_RP_addSignature ∈ g_ws := g_in (List.mem_of_getElem? (i := 25) (by decide +kernel)) (by decide +kernel)
theorem d_RP_addSignature_0 : decode b_RP_addSignature 0 = .ok (.aload_n 0, 1) := by decide +kernel
theorem d_RP_addSignature_1 : decode b_RP_addSignature 1 = .ok (.getfield 31, 3) := by decide +kernel
theorem d_RP_addSignature_4 : decode b_RP_addSignature 4 = .ok (.iconst 3, 1) := by decide +kernel
theorem d_RP_addSignature_5 : decode b_RP_addSignature 5 = .ok (.if_icmp .ge 23, 3) := by decide +kernel
theorem d_RP_addSignature_8 : decode b_RP_addSignature 8 = .ok (.aload_n 0, 1) := by decide +kernel
theorem d_RP_addSignature_9 : decode b_RP_addSignature 9 = .ok (.getfield 28, 3) := by decide +kernel
theorem d_RP_addSignature_12 : decode b_RP_addSignature 12 = .ok (.aload_n 0, 1) := by decide +kernel
theorem d_RP_addSignature_13 : decode b_RP_addSignature 13 = .ok (.getfield 31, 3) := by decide +kernel
theorem d_RP_addSignature_16 : decode b_RP_addSignature 16 = .ok (.iload_n 1, 1) := by decide +kernel
theorem d_RP_addSignature_17 : decode b_RP_addSignature 17 = .ok (.iastore, 1) := by decide +kernel
theorem d_RP_addSignature_18 : decode b_RP_addSignature 18 = .ok (.aload_n 0, 1) := by decide +kernel
theorem d_RP_addSignature_19 : decode b_RP_addSignature 19 = .ok (.dup, 1) := by decide +kernel
theorem d_RP_addSignature_20 : decode b_RP_addSignature 20 = .ok (.getfield 31, 3) := by decide +kernel
theorem d_RP_addSignature_23 : decode b_RP_addSignature 23 = .ok (.iconst 1, 1) := by decide +kernel
theorem d_RP_addSignature_24 : decode b_RP_addSignature 24 = .ok (.iadd, 1) := by decide +kernel
theorem d_RP_addSignature_25 : decode b_RP_addSignature 25 = .ok (.putfield 31, 3) := by decide +kernel
theorem d_RP_addSignature_28 : decode b_RP_addSignature 28 = .ok (.return_, 1) := by decide +kernel
def y_RP_lastSigner : MethodName := ⟨cR5, "lastSigner", "()I"⟩
abbrev b_RP_lastSigner : ByteArray := prog_4_method_10_code
abbrev k_RP_lastSigner : Cond := .code y_RP_lastSigner b_RP_lastSigner 1 (some .int)
theorem mc_RP_lastSigner : MC y_RP_lastSigner k_RP_lastSigner b_RP_lastSigner 1 (some .int) [] 0 := ⟨g_in (List.mem_of_getElem? (i := 718) (by decide +kernel)) (by decide +kernel), Or.inl ⟨rfl, rfl⟩, g_in (List.mem_of_getElem? (i := 69) (by decide +kernel)) (by decide +kernel), by decide, by decide +kernel⟩
theorem in_RP_lastSigner : Cond.instanceMethod y_RP_lastSigner ∈ g_ws := g_in (List.mem_of_getElem? (i := 717) (by decide +kernel)) (by decide +kernel)
theorem se_RP_lastSigner : Cond.selects cR5 y_RP_lastSigner y_RP_lastSigner ∈ g_ws := g_in (List.mem_of_getElem? (i := 34) (by decide +kernel)) (by decide +kernel)
theorem d_RP_lastSigner_0 : decode b_RP_lastSigner 0 = .ok (.aload_n 0, 1) := by decide +kernel
theorem d_RP_lastSigner_1 : decode b_RP_lastSigner 1 = .ok (.getfield 31, 3) := by decide +kernel
theorem d_RP_lastSigner_4 : decode b_RP_lastSigner 4 = .ok (.ifCond .le 17, 3) := by decide +kernel
theorem d_RP_lastSigner_7 : decode b_RP_lastSigner 7 = .ok (.aload_n 0, 1) := by decide +kernel
theorem d_RP_lastSigner_8 : decode b_RP_lastSigner 8 = .ok (.getfield 28, 3) := by decide +kernel
theorem d_RP_lastSigner_11 : decode b_RP_lastSigner 11 = .ok (.aload_n 0, 1) := by decide +kernel
theorem d_RP_lastSigner_12 : decode b_RP_lastSigner 12 = .ok (.getfield 31, 3) := by decide +kernel
theorem d_RP_lastSigner_15 : decode b_RP_lastSigner 15 = .ok (.iconst 1, 1) := by decide +kernel
theorem d_RP_lastSigner_16 : decode b_RP_lastSigner 16 = .ok (.isub, 1) := by decide +kernel
theorem d_RP_lastSigner_17 : decode b_RP_lastSigner 17 = .ok (.iaload, 1) := by decide +kernel
theorem d_RP_lastSigner_18 : decode b_RP_lastSigner 18 = .ok (.goto 4, 3) := by decide +kernel
theorem d_RP_lastSigner_21 : decode b_RP_lastSigner 21 = .ok (.iconst (-1), 1) := by decide +kernel
theorem d_RP_lastSigner_22 : decode b_RP_lastSigner 22 = .ok (.ireturn, 1) := by decide +kernel
def y_RP_isLate : MethodName := ⟨cR5, "isLate", "(II)Z"⟩
abbrev b_RP_isLate : ByteArray := prog_4_method_11_code
abbrev k_RP_isLate : Cond := .code y_RP_isLate b_RP_isLate 3 (some .boolean)
theorem mc_RP_isLate : MC y_RP_isLate k_RP_isLate b_RP_isLate 3 (some .boolean) [] 2 := ⟨g_in (List.mem_of_getElem? (i := 691) (by decide +kernel)) (by decide +kernel), Or.inl ⟨rfl, rfl⟩, g_in (List.mem_of_getElem? (i := 69) (by decide +kernel)) (by decide +kernel), by decide, by decide +kernel⟩
theorem in_RP_isLate : Cond.instanceMethod y_RP_isLate ∈ g_ws := g_in (List.mem_of_getElem? (i := 690) (by decide +kernel)) (by decide +kernel)
theorem se_RP_isLate : Cond.selects cR5 y_RP_isLate y_RP_isLate ∈ g_ws := g_in (List.mem_of_getElem? (i := 31) (by decide +kernel)) (by decide +kernel)
theorem d_RP_isLate_0 : decode b_RP_isLate 0 = .ok (.aload_n 0, 1) := by decide +kernel
theorem d_RP_isLate_1 : decode b_RP_isLate 1 = .ok (.invokevirtual 60, 3) := by decide +kernel
theorem d_RP_isLate_4 : decode b_RP_isLate 4 = .ok (.ifCond .ne 17, 3) := by decide +kernel
theorem d_RP_isLate_7 : decode b_RP_isLate 7 = .ok (.iload_n 1, 1) := by decide +kernel
theorem d_RP_isLate_8 : decode b_RP_isLate 8 = .ok (.aload_n 0, 1) := by decide +kernel
theorem d_RP_isLate_9 : decode b_RP_isLate 9 = .ok (.getfield 40, 3) := by decide +kernel
theorem d_RP_isLate_12 : decode b_RP_isLate 12 = .ok (.isub, 1) := by decide +kernel
theorem d_RP_isLate_13 : decode b_RP_isLate 13 = .ok (.iload_n 2, 1) := by decide +kernel
theorem d_RP_isLate_14 : decode b_RP_isLate 14 = .ok (.if_icmp .le 7, 3) := by decide +kernel
theorem d_RP_isLate_17 : decode b_RP_isLate 17 = .ok (.iconst 1, 1) := by decide +kernel
theorem d_RP_isLate_18 : decode b_RP_isLate 18 = .ok (.goto 4, 3) := by decide +kernel
theorem d_RP_isLate_21 : decode b_RP_isLate 21 = .ok (.iconst 0, 1) := by decide +kernel
theorem d_RP_isLate_22 : decode b_RP_isLate 22 = .ok (.ireturn, 1) := by decide +kernel
def y_RP_isSettled : MethodName := ⟨cR5, "isSettled", "()Z"⟩
abbrev b_RP_isSettled : ByteArray := prog_4_method_12_code
abbrev k_RP_isSettled : Cond := .code y_RP_isSettled b_RP_isSettled 1 (some .boolean)
theorem mc_RP_isSettled : MC y_RP_isSettled k_RP_isSettled b_RP_isSettled 1 (some .boolean) [] 0 := ⟨g_in (List.mem_of_getElem? (i := 703) (by decide +kernel)) (by decide +kernel), Or.inl ⟨rfl, rfl⟩, g_in (List.mem_of_getElem? (i := 69) (by decide +kernel)) (by decide +kernel), by decide, by decide +kernel⟩
theorem in_RP_isSettled : Cond.instanceMethod y_RP_isSettled ∈ g_ws := g_in (List.mem_of_getElem? (i := 702) (by decide +kernel)) (by decide +kernel)
theorem se_RP_isSettled : Cond.selects cR5 y_RP_isSettled y_RP_isSettled ∈ g_ws := g_in (List.mem_of_getElem? (i := 32) (by decide +kernel)) (by decide +kernel)
theorem d_RP_isSettled_0 : decode b_RP_isSettled 0 = .ok (.aload_n 0, 1) := by decide +kernel
theorem d_RP_isSettled_1 : decode b_RP_isSettled 1 = .ok (.invokevirtual 60, 3) := by decide +kernel
theorem d_RP_isSettled_4 : decode b_RP_isSettled 4 = .ok (.ifCond .eq 14, 3) := by decide +kernel
theorem d_RP_isSettled_7 : decode b_RP_isSettled 7 = .ok (.aload_n 0, 1) := by decide +kernel
theorem d_RP_isSettled_8 : decode b_RP_isSettled 8 = .ok (.getfield 22, 3) := by decide +kernel
theorem d_RP_isSettled_11 : decode b_RP_isSettled 11 = .ok (.ifCond .ne 7, 3) := by decide +kernel
theorem d_RP_isSettled_14 : decode b_RP_isSettled 14 = .ok (.iconst 1, 1) := by decide +kernel
theorem d_RP_isSettled_15 : decode b_RP_isSettled 15 = .ok (.goto 4, 3) := by decide +kernel
theorem d_RP_isSettled_18 : decode b_RP_isSettled 18 = .ok (.iconst 0, 1) := by decide +kernel
theorem d_RP_isSettled_19 : decode b_RP_isSettled 19 = .ok (.ireturn, 1) := by decide +kernel
def y_RP_isBetween : MethodName := ⟨cR5, "isBetween", "(III)Z"⟩
abbrev b_RP_isBetween : ByteArray := prog_4_method_13_code
abbrev k_RP_isBetween : Cond := .code y_RP_isBetween b_RP_isBetween 4 (some .boolean)
theorem mc_RP_isBetween : MC y_RP_isBetween k_RP_isBetween b_RP_isBetween 4 (some .boolean) [] 3 := ⟨g_in (List.mem_of_getElem? (i := 707) (by decide +kernel)) (by decide +kernel), Or.inl ⟨rfl, rfl⟩, g_in (List.mem_of_getElem? (i := 69) (by decide +kernel)) (by decide +kernel), by decide, by decide +kernel⟩
theorem in_RP_isBetween : Cond.instanceMethod y_RP_isBetween ∈ g_ws := g_in (List.mem_of_getElem? (i := 706) (by decide +kernel)) (by decide +kernel)
theorem se_RP_isBetween : Cond.selects cR5 y_RP_isBetween y_RP_isBetween ∈ g_ws := g_in (List.mem_of_getElem? (i := 33) (by decide +kernel)) (by decide +kernel)
theorem d_RP_isBetween_0 : decode b_RP_isBetween 0 = .ok (.aload_n 0, 1) := by decide +kernel
theorem d_RP_isBetween_1 : decode b_RP_isBetween 1 = .ok (.getfield 15, 3) := by decide +kernel
theorem d_RP_isBetween_4 : decode b_RP_isBetween 4 = .ok (.iload_n 1, 1) := by decide +kernel
theorem d_RP_isBetween_5 : decode b_RP_isBetween 5 = .ok (.invokestatic 46, 3) := by decide +kernel
theorem d_RP_isBetween_8 : decode b_RP_isBetween 8 = .ok (.ifCond .eq 27, 3) := by decide +kernel
theorem d_RP_isBetween_11 : decode b_RP_isBetween 11 = .ok (.aload_n 0, 1) := by decide +kernel
theorem d_RP_isBetween_12 : decode b_RP_isBetween 12 = .ok (.getfield 9, 3) := by decide +kernel
theorem d_RP_isBetween_15 : decode b_RP_isBetween 15 = .ok (.iload_n 1, 1) := by decide +kernel
theorem d_RP_isBetween_16 : decode b_RP_isBetween 16 = .ok (.iaload, 1) := by decide +kernel
theorem d_RP_isBetween_17 : decode b_RP_isBetween 17 = .ok (.iload_n 2, 1) := by decide +kernel
theorem d_RP_isBetween_18 : decode b_RP_isBetween 18 = .ok (.if_icmp .lt 17, 3) := by decide +kernel
theorem d_RP_isBetween_21 : decode b_RP_isBetween 21 = .ok (.aload_n 0, 1) := by decide +kernel
theorem d_RP_isBetween_22 : decode b_RP_isBetween 22 = .ok (.getfield 9, 3) := by decide +kernel
theorem d_RP_isBetween_25 : decode b_RP_isBetween 25 = .ok (.iload_n 1, 1) := by decide +kernel
theorem d_RP_isBetween_26 : decode b_RP_isBetween 26 = .ok (.iaload, 1) := by decide +kernel
theorem d_RP_isBetween_27 : decode b_RP_isBetween 27 = .ok (.iload_n 3, 1) := by decide +kernel
theorem d_RP_isBetween_28 : decode b_RP_isBetween 28 = .ok (.if_icmp .gt 7, 3) := by decide +kernel
theorem d_RP_isBetween_31 : decode b_RP_isBetween 31 = .ok (.iconst 1, 1) := by decide +kernel
theorem d_RP_isBetween_32 : decode b_RP_isBetween 32 = .ok (.goto 4, 3) := by decide +kernel
theorem d_RP_isBetween_35 : decode b_RP_isBetween 35 = .ok (.iconst 0, 1) := by decide +kernel
theorem d_RP_isBetween_36 : decode b_RP_isBetween 36 = .ok (.ireturn, 1) := by decide +kernel
end
section
/-! ===== methods of L: printed by program ===== -/
def y_L_report : MethodName := ⟨"ReportChecks2Law", "report", "(LReportChecks2;II[J)I"⟩
abbrev b_L_report : ByteArray := method_3_code
abbrev k_L_report : Cond := .codeWith y_L_report b_L_report 5 (some .int) [(0, 10, 13, 13), (0, 10, 17, 15), (0, 10, 21, 17)]
theorem mc_L_report : MC y_L_report k_L_report b_L_report 5 (some .int) [(0, 10, 13, 13), (0, 10, 17, 15), (0, 10, 21, 17)] 4 := ⟨g_in (List.mem_of_getElem? (i := 218) (by decide +kernel)) (by decide +kernel), Or.inr rfl, g_in (List.mem_of_getElem? (i := 56) (by decide +kernel)) (by decide +kernel), by decide, by decide +kernel⟩
theorem st_L_report : Cond.static y_L_report ∈ g_ws := g_in (List.mem_of_getElem? (i := 217) (by decide +kernel)) (by decide +kernel)
theorem d_L_report_0 : decode b_L_report 0 = .ok (.aload_n 3, 1) := by decide +kernel
theorem d_L_report_1 : decode b_L_report 1 = .ok (.iconst 0, 1) := by decide +kernel
theorem d_L_report_2 : decode b_L_report 2 = .ok (.aload_n 0, 1) := by decide +kernel
theorem d_L_report_3 : decode b_L_report 3 = .ok (.iload_n 1, 1) := by decide +kernel
theorem d_L_report_4 : decode b_L_report 4 = .ok (.iload_n 2, 1) := by decide +kernel
theorem d_L_report_5 : decode b_L_report 5 = .ok (.invokevirtual 7, 3) := by decide +kernel
theorem d_L_report_8 : decode b_L_report 8 = .ok (.i2l, 1) := by decide +kernel
theorem d_L_report_9 : decode b_L_report 9 = .ok (.lastore, 1) := by decide +kernel
theorem d_L_report_10 : decode b_L_report 10 = .ok (.goto 15, 3) := by decide +kernel
theorem d_L_report_13 : decode b_L_report 13 = .ok (.astore 4, 2) := by decide +kernel
theorem d_L_report_15 : decode b_L_report 15 = .ok (.iconst 1, 1) := by decide +kernel
theorem d_L_report_16 : decode b_L_report 16 = .ok (.ireturn, 1) := by decide +kernel
theorem d_L_report_17 : decode b_L_report 17 = .ok (.astore 4, 2) := by decide +kernel
theorem d_L_report_19 : decode b_L_report 19 = .ok (.iconst 2, 1) := by decide +kernel
theorem d_L_report_20 : decode b_L_report 20 = .ok (.ireturn, 1) := by decide +kernel
theorem d_L_report_21 : decode b_L_report 21 = .ok (.astore 4, 2) := by decide +kernel
theorem d_L_report_23 : decode b_L_report 23 = .ok (.iconst 3, 1) := by decide +kernel
theorem d_L_report_24 : decode b_L_report 24 = .ok (.ireturn, 1) := by decide +kernel
theorem d_L_report_25 : decode b_L_report 25 = .ok (.iconst 0, 1) := by decide +kernel
theorem d_L_report_26 : decode b_L_report 26 = .ok (.ireturn, 1) := by decide +kernel
def y_L_ask : MethodName := ⟨"ReportChecks2Law", "ask", "(LReportChecks2;IIZ)I"⟩
abbrev b_L_ask : ByteArray := method_4_code
abbrev k_L_ask : Cond := .codeWith y_L_ask b_L_ask 5 (some .int) [(0, 7, 10, 13)]
theorem mc_L_ask : MC y_L_ask k_L_ask b_L_ask 5 (some .int) [(0, 7, 10, 13)] 4 := ⟨g_in (List.mem_of_getElem? (i := 392) (by decide +kernel)) (by decide +kernel), Or.inr rfl, g_in (List.mem_of_getElem? (i := 56) (by decide +kernel)) (by decide +kernel), by decide, by decide +kernel⟩
theorem st_L_ask : Cond.static y_L_ask ∈ g_ws := g_in (List.mem_of_getElem? (i := 391) (by decide +kernel)) (by decide +kernel)
theorem d_L_ask_0 : decode b_L_ask 0 = .ok (.aload_n 0, 1) := by decide +kernel
theorem d_L_ask_1 : decode b_L_ask 1 = .ok (.iload_n 1, 1) := by decide +kernel
theorem d_L_ask_2 : decode b_L_ask 2 = .ok (.iload_n 2, 1) := by decide +kernel
theorem d_L_ask_3 : decode b_L_ask 3 = .ok (.iload_n 3, 1) := by decide +kernel
theorem d_L_ask_4 : decode b_L_ask 4 = .ok (.invokevirtual 19, 3) := by decide +kernel
theorem d_L_ask_7 : decode b_L_ask 7 = .ok (.goto 7, 3) := by decide +kernel
theorem d_L_ask_10 : decode b_L_ask 10 = .ok (.astore 4, 2) := by decide +kernel
theorem d_L_ask_12 : decode b_L_ask 12 = .ok (.iconst 1, 1) := by decide +kernel
theorem d_L_ask_13 : decode b_L_ask 13 = .ok (.ireturn, 1) := by decide +kernel
theorem d_L_ask_14 : decode b_L_ask 14 = .ok (.iconst 0, 1) := by decide +kernel
theorem d_L_ask_15 : decode b_L_ask 15 = .ok (.ireturn, 1) := by decide +kernel
def y_L_field : MethodName := ⟨"ReportChecks2Law", "field", "(LReportChecks2;III)I"⟩
abbrev b_L_field : ByteArray := method_5_code
abbrev k_L_field : Cond := .codeWith y_L_field b_L_field 5 (some .int) [(0, 7, 10, 13), (0, 7, 14, 15), (0, 7, 18, 27)]
theorem mc_L_field : MC y_L_field k_L_field b_L_field 5 (some .int) [(0, 7, 10, 13), (0, 7, 14, 15), (0, 7, 18, 27)] 4 := ⟨g_in (List.mem_of_getElem? (i := 406) (by decide +kernel)) (by decide +kernel), Or.inr rfl, g_in (List.mem_of_getElem? (i := 56) (by decide +kernel)) (by decide +kernel), by decide, by decide +kernel⟩
theorem st_L_field : Cond.static y_L_field ∈ g_ws := g_in (List.mem_of_getElem? (i := 405) (by decide +kernel)) (by decide +kernel)
theorem d_L_field_0 : decode b_L_field 0 = .ok (.aload_n 0, 1) := by decide +kernel
theorem d_L_field_1 : decode b_L_field 1 = .ok (.iload_n 1, 1) := by decide +kernel
theorem d_L_field_2 : decode b_L_field 2 = .ok (.iload_n 2, 1) := by decide +kernel
theorem d_L_field_3 : decode b_L_field 3 = .ok (.iload_n 3, 1) := by decide +kernel
theorem d_L_field_4 : decode b_L_field 4 = .ok (.invokevirtual 23, 3) := by decide +kernel
theorem d_L_field_7 : decode b_L_field 7 = .ok (.goto 15, 3) := by decide +kernel
theorem d_L_field_10 : decode b_L_field 10 = .ok (.astore 4, 2) := by decide +kernel
theorem d_L_field_12 : decode b_L_field 12 = .ok (.iconst 1, 1) := by decide +kernel
theorem d_L_field_13 : decode b_L_field 13 = .ok (.ireturn, 1) := by decide +kernel
theorem d_L_field_14 : decode b_L_field 14 = .ok (.astore 4, 2) := by decide +kernel
theorem d_L_field_16 : decode b_L_field 16 = .ok (.iconst 2, 1) := by decide +kernel
theorem d_L_field_17 : decode b_L_field 17 = .ok (.ireturn, 1) := by decide +kernel
theorem d_L_field_18 : decode b_L_field 18 = .ok (.astore 4, 2) := by decide +kernel
theorem d_L_field_20 : decode b_L_field 20 = .ok (.iconst 3, 1) := by decide +kernel
theorem d_L_field_21 : decode b_L_field 21 = .ok (.ireturn, 1) := by decide +kernel
theorem d_L_field_22 : decode b_L_field 22 = .ok (.iconst 0, 1) := by decide +kernel
theorem d_L_field_23 : decode b_L_field 23 = .ok (.ireturn, 1) := by decide +kernel
def y_L_act : MethodName := ⟨"ReportChecks2Law", "act", "(LReportChecks2;III[J)I"⟩
abbrev b_L_act : ByteArray := method_6_code
abbrev k_L_act : Cond := .codeWith y_L_act b_L_act 6 (some .int) [(0, 19, 22, 13), (0, 19, 26, 15), (0, 19, 30, 27)]
theorem mc_L_act : MC y_L_act k_L_act b_L_act 6 (some .int) [(0, 19, 22, 13), (0, 19, 26, 15), (0, 19, 30, 27)] 5 := ⟨g_in (List.mem_of_getElem? (i := 450) (by decide +kernel)) (by decide +kernel), Or.inr rfl, g_in (List.mem_of_getElem? (i := 56) (by decide +kernel)) (by decide +kernel), by decide, by decide +kernel⟩
theorem st_L_act : Cond.static y_L_act ∈ g_ws := g_in (List.mem_of_getElem? (i := 449) (by decide +kernel)) (by decide +kernel)
theorem d_L_act_0 : decode b_L_act 0 = .ok (.aload 4, 2) := by decide +kernel
theorem d_L_act_2 : decode b_L_act 2 = .ok (.iconst 0, 1) := by decide +kernel
theorem d_L_act_3 : decode b_L_act 3 = .ok (.aload_n 0, 1) := by decide +kernel
theorem d_L_act_4 : decode b_L_act 4 = .ok (.iload_n 1, 1) := by decide +kernel
theorem d_L_act_5 : decode b_L_act 5 = .ok (.iload_n 2, 1) := by decide +kernel
theorem d_L_act_6 : decode b_L_act 6 = .ok (.iload_n 3, 1) := by decide +kernel
theorem d_L_act_7 : decode b_L_act 7 = .ok (.invokevirtual 29, 3) := by decide +kernel
theorem d_L_act_10 : decode b_L_act 10 = .ok (.ifCond .eq 7, 3) := by decide +kernel
theorem d_L_act_13 : decode b_L_act 13 = .ok (.lconst 1, 1) := by decide +kernel
theorem d_L_act_14 : decode b_L_act 14 = .ok (.goto 4, 3) := by decide +kernel
theorem d_L_act_17 : decode b_L_act 17 = .ok (.lconst 0, 1) := by decide +kernel
theorem d_L_act_18 : decode b_L_act 18 = .ok (.lastore, 1) := by decide +kernel
theorem d_L_act_19 : decode b_L_act 19 = .ok (.goto 15, 3) := by decide +kernel
theorem d_L_act_22 : decode b_L_act 22 = .ok (.astore 5, 2) := by decide +kernel
theorem d_L_act_24 : decode b_L_act 24 = .ok (.iconst 1, 1) := by decide +kernel
theorem d_L_act_25 : decode b_L_act 25 = .ok (.ireturn, 1) := by decide +kernel
theorem d_L_act_26 : decode b_L_act 26 = .ok (.astore 5, 2) := by decide +kernel
theorem d_L_act_28 : decode b_L_act 28 = .ok (.iconst 2, 1) := by decide +kernel
theorem d_L_act_29 : decode b_L_act 29 = .ok (.ireturn, 1) := by decide +kernel
theorem d_L_act_30 : decode b_L_act 30 = .ok (.astore 5, 2) := by decide +kernel
theorem d_L_act_32 : decode b_L_act 32 = .ok (.iconst 3, 1) := by decide +kernel
theorem d_L_act_33 : decode b_L_act 33 = .ok (.ireturn, 1) := by decide +kernel
theorem d_L_act_34 : decode b_L_act 34 = .ok (.iconst 0, 1) := by decide +kernel
theorem d_L_act_35 : decode b_L_act 35 = .ok (.ireturn, 1) := by decide +kernel
def y_L_inside : MethodName := ⟨"ReportChecks2Law", "inside", "(LReportChecks2;II)I"⟩
abbrev b_L_inside : ByteArray := method_7_code
abbrev k_L_inside : Cond := .codeWith y_L_inside b_L_inside 4 (some .int) [(0, 6, 9, 13), (0, 6, 12, 15), (0, 6, 15, 27)]
theorem mc_L_inside : MC y_L_inside k_L_inside b_L_inside 4 (some .int) [(0, 6, 9, 13), (0, 6, 12, 15), (0, 6, 15, 27)] 3 := ⟨g_in (List.mem_of_getElem? (i := 467) (by decide +kernel)) (by decide +kernel), Or.inr rfl, g_in (List.mem_of_getElem? (i := 56) (by decide +kernel)) (by decide +kernel), by decide, by decide +kernel⟩
theorem st_L_inside : Cond.static y_L_inside ∈ g_ws := g_in (List.mem_of_getElem? (i := 466) (by decide +kernel)) (by decide +kernel)
theorem d_L_inside_0 : decode b_L_inside 0 = .ok (.aload_n 0, 1) := by decide +kernel
theorem d_L_inside_1 : decode b_L_inside 1 = .ok (.iload_n 1, 1) := by decide +kernel
theorem d_L_inside_2 : decode b_L_inside 2 = .ok (.iload_n 2, 1) := by decide +kernel
theorem d_L_inside_3 : decode b_L_inside 3 = .ok (.invokevirtual 33, 3) := by decide +kernel
theorem d_L_inside_6 : decode b_L_inside 6 = .ok (.goto 12, 3) := by decide +kernel
theorem d_L_inside_9 : decode b_L_inside 9 = .ok (.astore_n 3, 1) := by decide +kernel
theorem d_L_inside_10 : decode b_L_inside 10 = .ok (.iconst 1, 1) := by decide +kernel
theorem d_L_inside_11 : decode b_L_inside 11 = .ok (.ireturn, 1) := by decide +kernel
theorem d_L_inside_12 : decode b_L_inside 12 = .ok (.astore_n 3, 1) := by decide +kernel
theorem d_L_inside_13 : decode b_L_inside 13 = .ok (.iconst 2, 1) := by decide +kernel
theorem d_L_inside_14 : decode b_L_inside 14 = .ok (.ireturn, 1) := by decide +kernel
theorem d_L_inside_15 : decode b_L_inside 15 = .ok (.astore_n 3, 1) := by decide +kernel
theorem d_L_inside_16 : decode b_L_inside 16 = .ok (.iconst 3, 1) := by decide +kernel
theorem d_L_inside_17 : decode b_L_inside 17 = .ok (.ireturn, 1) := by decide +kernel
theorem d_L_inside_18 : decode b_L_inside 18 = .ok (.iconst 0, 1) := by decide +kernel
theorem d_L_inside_19 : decode b_L_inside 19 = .ok (.ireturn, 1) := by decide +kernel
def y_L_sign : MethodName := ⟨"ReportChecks2Law", "sign", "(LReportChecks2;JI[J)I"⟩
abbrev b_L_sign : ByteArray := method_8_code
abbrev k_L_sign : Cond := .codeWith y_L_sign b_L_sign 6 (some .int) [(0, 11, 14, 15), (0, 11, 18, 17)]
theorem mc_L_sign : MC y_L_sign k_L_sign b_L_sign 6 (some .int) [(0, 11, 14, 15), (0, 11, 18, 17)] 4 := ⟨g_in (List.mem_of_getElem? (i := 475) (by decide +kernel)) (by decide +kernel), Or.inr rfl, g_in (List.mem_of_getElem? (i := 56) (by decide +kernel)) (by decide +kernel), by decide, by decide +kernel⟩
theorem st_L_sign : Cond.static y_L_sign ∈ g_ws := g_in (List.mem_of_getElem? (i := 474) (by decide +kernel)) (by decide +kernel)
theorem d_L_sign_0 : decode b_L_sign 0 = .ok (.aload 4, 2) := by decide +kernel
theorem d_L_sign_2 : decode b_L_sign 2 = .ok (.iconst 0, 1) := by decide +kernel
theorem d_L_sign_3 : decode b_L_sign 3 = .ok (.aload_n 0, 1) := by decide +kernel
theorem d_L_sign_4 : decode b_L_sign 4 = .ok (.lload_n 1, 1) := by decide +kernel
theorem d_L_sign_5 : decode b_L_sign 5 = .ok (.iload_n 3, 1) := by decide +kernel
theorem d_L_sign_6 : decode b_L_sign 6 = .ok (.invokevirtual 37, 3) := by decide +kernel
theorem d_L_sign_9 : decode b_L_sign 9 = .ok (.i2l, 1) := by decide +kernel
theorem d_L_sign_10 : decode b_L_sign 10 = .ok (.lastore, 1) := by decide +kernel
theorem d_L_sign_11 : decode b_L_sign 11 = .ok (.goto 11, 3) := by decide +kernel
theorem d_L_sign_14 : decode b_L_sign 14 = .ok (.astore 5, 2) := by decide +kernel
theorem d_L_sign_16 : decode b_L_sign 16 = .ok (.iconst 1, 1) := by decide +kernel
theorem d_L_sign_17 : decode b_L_sign 17 = .ok (.ireturn, 1) := by decide +kernel
theorem d_L_sign_18 : decode b_L_sign 18 = .ok (.astore 5, 2) := by decide +kernel
theorem d_L_sign_20 : decode b_L_sign 20 = .ok (.iconst 2, 1) := by decide +kernel
theorem d_L_sign_21 : decode b_L_sign 21 = .ok (.ireturn, 1) := by decide +kernel
theorem d_L_sign_22 : decode b_L_sign 22 = .ok (.iconst 0, 1) := by decide +kernel
theorem d_L_sign_23 : decode b_L_sign 23 = .ok (.ireturn, 1) := by decide +kernel
def y_L_rules : MethodName := ⟨"ReportChecks2Law", "rules", "(LReportChecks2;[J)I"⟩
abbrev b_L_rules : ByteArray := method_9_code
abbrev k_L_rules : Cond := .codeWith y_L_rules b_L_rules 3 (some .int) [(0, 8, 11, 27)]
theorem mc_L_rules : MC y_L_rules k_L_rules b_L_rules 3 (some .int) [(0, 8, 11, 27)] 2 := ⟨g_in (List.mem_of_getElem? (i := 484) (by decide +kernel)) (by decide +kernel), Or.inr rfl, g_in (List.mem_of_getElem? (i := 56) (by decide +kernel)) (by decide +kernel), by decide, by decide +kernel⟩
theorem st_L_rules : Cond.static y_L_rules ∈ g_ws := g_in (List.mem_of_getElem? (i := 483) (by decide +kernel)) (by decide +kernel)
theorem d_L_rules_0 : decode b_L_rules 0 = .ok (.aload_n 1, 1) := by decide +kernel
theorem d_L_rules_1 : decode b_L_rules 1 = .ok (.iconst 0, 1) := by decide +kernel
theorem d_L_rules_2 : decode b_L_rules 2 = .ok (.aload_n 0, 1) := by decide +kernel
theorem d_L_rules_3 : decode b_L_rules 3 = .ok (.invokevirtual 41, 3) := by decide +kernel
theorem d_L_rules_6 : decode b_L_rules 6 = .ok (.i2l, 1) := by decide +kernel
theorem d_L_rules_7 : decode b_L_rules 7 = .ok (.lastore, 1) := by decide +kernel
theorem d_L_rules_8 : decode b_L_rules 8 = .ok (.goto 6, 3) := by decide +kernel
theorem d_L_rules_11 : decode b_L_rules 11 = .ok (.astore_n 2, 1) := by decide +kernel
theorem d_L_rules_12 : decode b_L_rules 12 = .ok (.iconst 1, 1) := by decide +kernel
theorem d_L_rules_13 : decode b_L_rules 13 = .ok (.ireturn, 1) := by decide +kernel
theorem d_L_rules_14 : decode b_L_rules 14 = .ok (.iconst 0, 1) := by decide +kernel
theorem d_L_rules_15 : decode b_L_rules 15 = .ok (.ireturn, 1) := by decide +kernel
def y_L_check : MethodName := ⟨"ReportChecks2Law", "check", "(LReportChecks2;I[J)I"⟩
abbrev b_L_check : ByteArray := method_10_code
abbrev k_L_check : Cond := .codeWith y_L_check b_L_check 4 (some .int) [(0, 9, 12, 13)]
theorem mc_L_check : MC y_L_check k_L_check b_L_check 4 (some .int) [(0, 9, 12, 13)] 3 := ⟨g_in (List.mem_of_getElem? (i := 545) (by decide +kernel)) (by decide +kernel), Or.inr rfl, g_in (List.mem_of_getElem? (i := 56) (by decide +kernel)) (by decide +kernel), by decide, by decide +kernel⟩
theorem st_L_check : Cond.static y_L_check ∈ g_ws := g_in (List.mem_of_getElem? (i := 544) (by decide +kernel)) (by decide +kernel)
theorem d_L_check_0 : decode b_L_check 0 = .ok (.aload_n 2, 1) := by decide +kernel
theorem d_L_check_1 : decode b_L_check 1 = .ok (.iconst 0, 1) := by decide +kernel
theorem d_L_check_2 : decode b_L_check 2 = .ok (.aload_n 0, 1) := by decide +kernel
theorem d_L_check_3 : decode b_L_check 3 = .ok (.iload_n 1, 1) := by decide +kernel
theorem d_L_check_4 : decode b_L_check 4 = .ok (.invokevirtual 45, 3) := by decide +kernel
theorem d_L_check_7 : decode b_L_check 7 = .ok (.i2l, 1) := by decide +kernel
theorem d_L_check_8 : decode b_L_check 8 = .ok (.lastore, 1) := by decide +kernel
theorem d_L_check_9 : decode b_L_check 9 = .ok (.goto 6, 3) := by decide +kernel
theorem d_L_check_12 : decode b_L_check 12 = .ok (.astore_n 3, 1) := by decide +kernel
theorem d_L_check_13 : decode b_L_check 13 = .ok (.iconst 1, 1) := by decide +kernel
theorem d_L_check_14 : decode b_L_check 14 = .ok (.ireturn, 1) := by decide +kernel
theorem d_L_check_15 : decode b_L_check 15 = .ok (.iconst 0, 1) := by decide +kernel
theorem d_L_check_16 : decode b_L_check 16 = .ok (.ireturn, 1) := by decide +kernel
def y_L_wanting : MethodName := ⟨"ReportChecks2Law", "wanting", "(LReportChecks2;II[J)I"⟩
abbrev b_L_wanting : ByteArray := method_11_code
abbrev k_L_wanting : Cond := .codeWith y_L_wanting b_L_wanting 5 (some .int) [(0, 10, 13, 13)]
theorem mc_L_wanting : MC y_L_wanting k_L_wanting b_L_wanting 5 (some .int) [(0, 10, 13, 13)] 4 := ⟨g_in (List.mem_of_getElem? (i := 576) (by decide +kernel)) (by decide +kernel), Or.inr rfl, g_in (List.mem_of_getElem? (i := 56) (by decide +kernel)) (by decide +kernel), by decide, by decide +kernel⟩
theorem st_L_wanting : Cond.static y_L_wanting ∈ g_ws := g_in (List.mem_of_getElem? (i := 575) (by decide +kernel)) (by decide +kernel)
theorem d_L_wanting_0 : decode b_L_wanting 0 = .ok (.aload_n 3, 1) := by decide +kernel
theorem d_L_wanting_1 : decode b_L_wanting 1 = .ok (.iconst 0, 1) := by decide +kernel
theorem d_L_wanting_2 : decode b_L_wanting 2 = .ok (.aload_n 0, 1) := by decide +kernel
theorem d_L_wanting_3 : decode b_L_wanting 3 = .ok (.iload_n 1, 1) := by decide +kernel
theorem d_L_wanting_4 : decode b_L_wanting 4 = .ok (.iload_n 2, 1) := by decide +kernel
theorem d_L_wanting_5 : decode b_L_wanting 5 = .ok (.invokevirtual 49, 3) := by decide +kernel
theorem d_L_wanting_8 : decode b_L_wanting 8 = .ok (.i2l, 1) := by decide +kernel
theorem d_L_wanting_9 : decode b_L_wanting 9 = .ok (.lastore, 1) := by decide +kernel
theorem d_L_wanting_10 : decode b_L_wanting 10 = .ok (.goto 7, 3) := by decide +kernel
theorem d_L_wanting_13 : decode b_L_wanting 13 = .ok (.astore 4, 2) := by decide +kernel
theorem d_L_wanting_15 : decode b_L_wanting 15 = .ok (.iconst 1, 1) := by decide +kernel
theorem d_L_wanting_16 : decode b_L_wanting 16 = .ok (.ireturn, 1) := by decide +kernel
theorem d_L_wanting_17 : decode b_L_wanting 17 = .ok (.iconst 0, 1) := by decide +kernel
theorem d_L_wanting_18 : decode b_L_wanting 18 = .ok (.ireturn, 1) := by decide +kernel
def y_L_put : MethodName := ⟨"ReportChecks2Law", "put", "(LReportChecks2;II[J)I"⟩
abbrev b_L_put : ByteArray := method_12_code
abbrev k_L_put : Cond := .codeWith y_L_put b_L_put 5 (some .int) [(0, 10, 13, 13), (0, 10, 17, 27)]
theorem mc_L_put : MC y_L_put k_L_put b_L_put 5 (some .int) [(0, 10, 13, 13), (0, 10, 17, 27)] 4 := ⟨g_in (List.mem_of_getElem? (i := 585) (by decide +kernel)) (by decide +kernel), Or.inr rfl, g_in (List.mem_of_getElem? (i := 56) (by decide +kernel)) (by decide +kernel), by decide, by decide +kernel⟩
theorem st_L_put : Cond.static y_L_put ∈ g_ws := g_in (List.mem_of_getElem? (i := 584) (by decide +kernel)) (by decide +kernel)
theorem d_L_put_0 : decode b_L_put 0 = .ok (.aload_n 3, 1) := by decide +kernel
theorem d_L_put_1 : decode b_L_put 1 = .ok (.iconst 0, 1) := by decide +kernel
theorem d_L_put_2 : decode b_L_put 2 = .ok (.aload_n 0, 1) := by decide +kernel
theorem d_L_put_3 : decode b_L_put 3 = .ok (.iload_n 1, 1) := by decide +kernel
theorem d_L_put_4 : decode b_L_put 4 = .ok (.iload_n 2, 1) := by decide +kernel
theorem d_L_put_5 : decode b_L_put 5 = .ok (.invokevirtual 52, 3) := by decide +kernel
theorem d_L_put_8 : decode b_L_put 8 = .ok (.i2l, 1) := by decide +kernel
theorem d_L_put_9 : decode b_L_put 9 = .ok (.lastore, 1) := by decide +kernel
theorem d_L_put_10 : decode b_L_put 10 = .ok (.goto 11, 3) := by decide +kernel
theorem d_L_put_13 : decode b_L_put 13 = .ok (.astore 4, 2) := by decide +kernel
theorem d_L_put_15 : decode b_L_put 15 = .ok (.iconst 1, 1) := by decide +kernel
theorem d_L_put_16 : decode b_L_put 16 = .ok (.ireturn, 1) := by decide +kernel
theorem d_L_put_17 : decode b_L_put 17 = .ok (.astore 4, 2) := by decide +kernel
theorem d_L_put_19 : decode b_L_put 19 = .ok (.iconst 2, 1) := by decide +kernel
theorem d_L_put_20 : decode b_L_put 20 = .ok (.ireturn, 1) := by decide +kernel
theorem d_L_put_21 : decode b_L_put 21 = .ok (.iconst 0, 1) := by decide +kernel
theorem d_L_put_22 : decode b_L_put 22 = .ok (.ireturn, 1) := by decide +kernel
def y_L_edition : MethodName := ⟨"ReportChecks2Law", "edition", "(LReportChecks2;I[J)I"⟩
abbrev b_L_edition : ByteArray := method_13_code
abbrev k_L_edition : Cond := .codeWith y_L_edition b_L_edition 4 (some .int) [(0, 9, 12, 13), (0, 9, 15, 27), (0, 9, 18, 17)]
theorem mc_L_edition : MC y_L_edition k_L_edition b_L_edition 4 (some .int) [(0, 9, 12, 13), (0, 9, 15, 27), (0, 9, 18, 17)] 3 := ⟨g_in (List.mem_of_getElem? (i := 613) (by decide +kernel)) (by decide +kernel), Or.inr rfl, g_in (List.mem_of_getElem? (i := 56) (by decide +kernel)) (by decide +kernel), by decide, by decide +kernel⟩
theorem st_L_edition : Cond.static y_L_edition ∈ g_ws := g_in (List.mem_of_getElem? (i := 612) (by decide +kernel)) (by decide +kernel)
theorem d_L_edition_0 : decode b_L_edition 0 = .ok (.aload_n 2, 1) := by decide +kernel
theorem d_L_edition_1 : decode b_L_edition 1 = .ok (.iconst 0, 1) := by decide +kernel
theorem d_L_edition_2 : decode b_L_edition 2 = .ok (.aload_n 0, 1) := by decide +kernel
theorem d_L_edition_3 : decode b_L_edition 3 = .ok (.iload_n 1, 1) := by decide +kernel
theorem d_L_edition_4 : decode b_L_edition 4 = .ok (.invokevirtual 55, 3) := by decide +kernel
theorem d_L_edition_7 : decode b_L_edition 7 = .ok (.i2l, 1) := by decide +kernel
theorem d_L_edition_8 : decode b_L_edition 8 = .ok (.lastore, 1) := by decide +kernel
theorem d_L_edition_9 : decode b_L_edition 9 = .ok (.goto 12, 3) := by decide +kernel
theorem d_L_edition_12 : decode b_L_edition 12 = .ok (.astore_n 3, 1) := by decide +kernel
theorem d_L_edition_13 : decode b_L_edition 13 = .ok (.iconst 1, 1) := by decide +kernel
theorem d_L_edition_14 : decode b_L_edition 14 = .ok (.ireturn, 1) := by decide +kernel
theorem d_L_edition_15 : decode b_L_edition 15 = .ok (.astore_n 3, 1) := by decide +kernel
theorem d_L_edition_16 : decode b_L_edition 16 = .ok (.iconst 2, 1) := by decide +kernel
theorem d_L_edition_17 : decode b_L_edition 17 = .ok (.ireturn, 1) := by decide +kernel
theorem d_L_edition_18 : decode b_L_edition 18 = .ok (.astore_n 3, 1) := by decide +kernel
theorem d_L_edition_19 : decode b_L_edition 19 = .ok (.iconst 3, 1) := by decide +kernel
theorem d_L_edition_20 : decode b_L_edition 20 = .ok (.ireturn, 1) := by decide +kernel
theorem d_L_edition_21 : decode b_L_edition 21 = .ok (.iconst 0, 1) := by decide +kernel
theorem d_L_edition_22 : decode b_L_edition 22 = .ok (.ireturn, 1) := by decide +kernel
def y_L_fault : MethodName := ⟨"ReportChecks2Law", "fault", "(LReportChecks2;II)I"⟩
abbrev b_L_fault : ByteArray := method_14_code
abbrev k_L_fault : Cond := .codeWith y_L_fault b_L_fault 4 (some .int) [(0, 6, 9, 13), (0, 6, 12, 27)]
theorem mc_L_fault : MC y_L_fault k_L_fault b_L_fault 4 (some .int) [(0, 6, 9, 13), (0, 6, 12, 27)] 3 := ⟨g_in (List.mem_of_getElem? (i := 632) (by decide +kernel)) (by decide +kernel), Or.inr rfl, g_in (List.mem_of_getElem? (i := 56) (by decide +kernel)) (by decide +kernel), by decide, by decide +kernel⟩
theorem st_L_fault : Cond.static y_L_fault ∈ g_ws := g_in (List.mem_of_getElem? (i := 631) (by decide +kernel)) (by decide +kernel)
theorem d_L_fault_0 : decode b_L_fault 0 = .ok (.aload_n 0, 1) := by decide +kernel
theorem d_L_fault_1 : decode b_L_fault 1 = .ok (.iload_n 1, 1) := by decide +kernel
theorem d_L_fault_2 : decode b_L_fault 2 = .ok (.iload_n 2, 1) := by decide +kernel
theorem d_L_fault_3 : decode b_L_fault 3 = .ok (.invokevirtual 58, 3) := by decide +kernel
theorem d_L_fault_6 : decode b_L_fault 6 = .ok (.goto 9, 3) := by decide +kernel
theorem d_L_fault_9 : decode b_L_fault 9 = .ok (.astore_n 3, 1) := by decide +kernel
theorem d_L_fault_10 : decode b_L_fault 10 = .ok (.iconst 1, 1) := by decide +kernel
theorem d_L_fault_11 : decode b_L_fault 11 = .ok (.ireturn, 1) := by decide +kernel
theorem d_L_fault_12 : decode b_L_fault 12 = .ok (.astore_n 3, 1) := by decide +kernel
theorem d_L_fault_13 : decode b_L_fault 13 = .ok (.iconst 2, 1) := by decide +kernel
theorem d_L_fault_14 : decode b_L_fault 14 = .ok (.ireturn, 1) := by decide +kernel
theorem d_L_fault_15 : decode b_L_fault 15 = .ok (.iconst 0, 1) := by decide +kernel
theorem d_L_fault_16 : decode b_L_fault 16 = .ok (.ireturn, 1) := by decide +kernel
def y_L_hide : MethodName := ⟨"ReportChecks2Law", "hide", "(LReportChecks2;IIZ)I"⟩
abbrev b_L_hide : ByteArray := method_15_code
abbrev k_L_hide : Cond := .codeWith y_L_hide b_L_hide 5 (some .int) [(0, 7, 10, 13)]
theorem mc_L_hide : MC y_L_hide k_L_hide b_L_hide 5 (some .int) [(0, 7, 10, 13)] 4 := ⟨g_in (List.mem_of_getElem? (i := 640) (by decide +kernel)) (by decide +kernel), Or.inr rfl, g_in (List.mem_of_getElem? (i := 56) (by decide +kernel)) (by decide +kernel), by decide, by decide +kernel⟩
theorem st_L_hide : Cond.static y_L_hide ∈ g_ws := g_in (List.mem_of_getElem? (i := 639) (by decide +kernel)) (by decide +kernel)
theorem d_L_hide_0 : decode b_L_hide 0 = .ok (.aload_n 0, 1) := by decide +kernel
theorem d_L_hide_1 : decode b_L_hide 1 = .ok (.iload_n 1, 1) := by decide +kernel
theorem d_L_hide_2 : decode b_L_hide 2 = .ok (.iload_n 2, 1) := by decide +kernel
theorem d_L_hide_3 : decode b_L_hide 3 = .ok (.iload_n 3, 1) := by decide +kernel
theorem d_L_hide_4 : decode b_L_hide 4 = .ok (.invokevirtual 61, 3) := by decide +kernel
theorem d_L_hide_7 : decode b_L_hide 7 = .ok (.goto 7, 3) := by decide +kernel
theorem d_L_hide_10 : decode b_L_hide 10 = .ok (.astore 4, 2) := by decide +kernel
theorem d_L_hide_12 : decode b_L_hide 12 = .ok (.iconst 1, 1) := by decide +kernel
theorem d_L_hide_13 : decode b_L_hide 13 = .ok (.ireturn, 1) := by decide +kernel
theorem d_L_hide_14 : decode b_L_hide 14 = .ok (.iconst 0, 1) := by decide +kernel
theorem d_L_hide_15 : decode b_L_hide 15 = .ok (.ireturn, 1) := by decide +kernel
def y_L_code : MethodName := ⟨"ReportChecks2Law", "code", "(LReportChecks2;II[J)I"⟩
abbrev b_L_code : ByteArray := method_16_code
abbrev k_L_code : Cond := .codeWith y_L_code b_L_code 5 (some .int) [(0, 10, 13, 13)]
theorem mc_L_code : MC y_L_code k_L_code b_L_code 5 (some .int) [(0, 10, 13, 13)] 4 := ⟨g_in (List.mem_of_getElem? (i := 647) (by decide +kernel)) (by decide +kernel), Or.inr rfl, g_in (List.mem_of_getElem? (i := 56) (by decide +kernel)) (by decide +kernel), by decide, by decide +kernel⟩
theorem st_L_code : Cond.static y_L_code ∈ g_ws := g_in (List.mem_of_getElem? (i := 646) (by decide +kernel)) (by decide +kernel)
theorem d_L_code_0 : decode b_L_code 0 = .ok (.aload_n 3, 1) := by decide +kernel
theorem d_L_code_1 : decode b_L_code 1 = .ok (.iconst 0, 1) := by decide +kernel
theorem d_L_code_2 : decode b_L_code 2 = .ok (.aload_n 0, 1) := by decide +kernel
theorem d_L_code_3 : decode b_L_code 3 = .ok (.iload_n 1, 1) := by decide +kernel
theorem d_L_code_4 : decode b_L_code 4 = .ok (.iload_n 2, 1) := by decide +kernel
theorem d_L_code_5 : decode b_L_code 5 = .ok (.invokevirtual 64, 3) := by decide +kernel
theorem d_L_code_8 : decode b_L_code 8 = .ok (.i2l, 1) := by decide +kernel
theorem d_L_code_9 : decode b_L_code 9 = .ok (.lastore, 1) := by decide +kernel
theorem d_L_code_10 : decode b_L_code 10 = .ok (.goto 7, 3) := by decide +kernel
theorem d_L_code_13 : decode b_L_code 13 = .ok (.astore 4, 2) := by decide +kernel
theorem d_L_code_15 : decode b_L_code 15 = .ok (.iconst 1, 1) := by decide +kernel
theorem d_L_code_16 : decode b_L_code 16 = .ok (.ireturn, 1) := by decide +kernel
theorem d_L_code_17 : decode b_L_code 17 = .ok (.iconst 0, 1) := by decide +kernel
theorem d_L_code_18 : decode b_L_code 18 = .ok (.ireturn, 1) := by decide +kernel
def y_L_at : MethodName := ⟨"ReportChecks2Law", "at", "(LReportChecks2;I[J)I"⟩
abbrev b_L_at : ByteArray := method_17_code
abbrev k_L_at : Cond := .codeWith y_L_at b_L_at 4 (some .int) [(0, 9, 12, 15)]
theorem mc_L_at : MC y_L_at k_L_at b_L_at 4 (some .int) [(0, 9, 12, 15)] 3 := ⟨g_in (List.mem_of_getElem? (i := 674) (by decide +kernel)) (by decide +kernel), Or.inr rfl, g_in (List.mem_of_getElem? (i := 56) (by decide +kernel)) (by decide +kernel), by decide, by decide +kernel⟩
theorem st_L_at : Cond.static y_L_at ∈ g_ws := g_in (List.mem_of_getElem? (i := 673) (by decide +kernel)) (by decide +kernel)
theorem d_L_at_0 : decode b_L_at 0 = .ok (.aload_n 2, 1) := by decide +kernel
theorem d_L_at_1 : decode b_L_at 1 = .ok (.iconst 0, 1) := by decide +kernel
theorem d_L_at_2 : decode b_L_at 2 = .ok (.aload_n 0, 1) := by decide +kernel
theorem d_L_at_3 : decode b_L_at 3 = .ok (.iload_n 1, 1) := by decide +kernel
theorem d_L_at_4 : decode b_L_at 4 = .ok (.invokevirtual 67, 3) := by decide +kernel
theorem d_L_at_7 : decode b_L_at 7 = .ok (.i2l, 1) := by decide +kernel
theorem d_L_at_8 : decode b_L_at 8 = .ok (.lastore, 1) := by decide +kernel
theorem d_L_at_9 : decode b_L_at 9 = .ok (.goto 6, 3) := by decide +kernel
theorem d_L_at_12 : decode b_L_at 12 = .ok (.astore_n 3, 1) := by decide +kernel
theorem d_L_at_13 : decode b_L_at 13 = .ok (.iconst 1, 1) := by decide +kernel
theorem d_L_at_14 : decode b_L_at 14 = .ok (.ireturn, 1) := by decide +kernel
theorem d_L_at_15 : decode b_L_at 15 = .ok (.iconst 0, 1) := by decide +kernel
theorem d_L_at_16 : decode b_L_at 16 = .ok (.ireturn, 1) := by decide +kernel
def y_L_late : MethodName := ⟨"ReportChecks2Law", "late", "(LReportChecks2;II[J)I"⟩
abbrev b_L_late : ByteArray := method_18_code
abbrev k_L_late : Cond := .codeWith y_L_late b_L_late 5 (some .int) [(0, 10, 13, 15)]
theorem mc_L_late : MC y_L_late k_L_late b_L_late 5 (some .int) [(0, 10, 13, 15)] 4 := ⟨g_in (List.mem_of_getElem? (i := 682) (by decide +kernel)) (by decide +kernel), Or.inr rfl, g_in (List.mem_of_getElem? (i := 56) (by decide +kernel)) (by decide +kernel), by decide, by decide +kernel⟩
theorem st_L_late : Cond.static y_L_late ∈ g_ws := g_in (List.mem_of_getElem? (i := 681) (by decide +kernel)) (by decide +kernel)
theorem d_L_late_0 : decode b_L_late 0 = .ok (.aload_n 3, 1) := by decide +kernel
theorem d_L_late_1 : decode b_L_late 1 = .ok (.iconst 0, 1) := by decide +kernel
theorem d_L_late_2 : decode b_L_late 2 = .ok (.aload_n 0, 1) := by decide +kernel
theorem d_L_late_3 : decode b_L_late 3 = .ok (.iload_n 1, 1) := by decide +kernel
theorem d_L_late_4 : decode b_L_late 4 = .ok (.iload_n 2, 1) := by decide +kernel
theorem d_L_late_5 : decode b_L_late 5 = .ok (.invokevirtual 70, 3) := by decide +kernel
theorem d_L_late_8 : decode b_L_late 8 = .ok (.i2l, 1) := by decide +kernel
theorem d_L_late_9 : decode b_L_late 9 = .ok (.lastore, 1) := by decide +kernel
theorem d_L_late_10 : decode b_L_late 10 = .ok (.goto 7, 3) := by decide +kernel
theorem d_L_late_13 : decode b_L_late 13 = .ok (.astore 4, 2) := by decide +kernel
theorem d_L_late_15 : decode b_L_late 15 = .ok (.iconst 1, 1) := by decide +kernel
theorem d_L_late_16 : decode b_L_late 16 = .ok (.ireturn, 1) := by decide +kernel
theorem d_L_late_17 : decode b_L_late 17 = .ok (.iconst 0, 1) := by decide +kernel
theorem d_L_late_18 : decode b_L_late 18 = .ok (.ireturn, 1) := by decide +kernel
def y_L_count : MethodName := ⟨"ReportChecks2Law", "count", "(LReportChecks2;III[J)I"⟩
abbrev b_L_count : ByteArray := method_19_code
abbrev k_L_count : Cond := .codeWith y_L_count b_L_count 6 (some .int) [(0, 12, 15, 13), (0, 12, 19, 15)]
theorem mc_L_count : MC y_L_count k_L_count b_L_count 6 (some .int) [(0, 12, 15, 13), (0, 12, 19, 15)] 5 := ⟨g_in (List.mem_of_getElem? (i := 694) (by decide +kernel)) (by decide +kernel), Or.inr rfl, g_in (List.mem_of_getElem? (i := 56) (by decide +kernel)) (by decide +kernel), by decide, by decide +kernel⟩
theorem st_L_count : Cond.static y_L_count ∈ g_ws := g_in (List.mem_of_getElem? (i := 693) (by decide +kernel)) (by decide +kernel)
theorem d_L_count_0 : decode b_L_count 0 = .ok (.aload 4, 2) := by decide +kernel
theorem d_L_count_2 : decode b_L_count 2 = .ok (.iconst 0, 1) := by decide +kernel
theorem d_L_count_3 : decode b_L_count 3 = .ok (.aload_n 0, 1) := by decide +kernel
theorem d_L_count_4 : decode b_L_count 4 = .ok (.iload_n 1, 1) := by decide +kernel
theorem d_L_count_5 : decode b_L_count 5 = .ok (.iload_n 2, 1) := by decide +kernel
theorem d_L_count_6 : decode b_L_count 6 = .ok (.iload_n 3, 1) := by decide +kernel
theorem d_L_count_7 : decode b_L_count 7 = .ok (.invokevirtual 73, 3) := by decide +kernel
theorem d_L_count_10 : decode b_L_count 10 = .ok (.i2l, 1) := by decide +kernel
theorem d_L_count_11 : decode b_L_count 11 = .ok (.lastore, 1) := by decide +kernel
theorem d_L_count_12 : decode b_L_count 12 = .ok (.goto 11, 3) := by decide +kernel
theorem d_L_count_15 : decode b_L_count 15 = .ok (.astore 5, 2) := by decide +kernel
theorem d_L_count_17 : decode b_L_count 17 = .ok (.iconst 1, 1) := by decide +kernel
theorem d_L_count_18 : decode b_L_count 18 = .ok (.ireturn, 1) := by decide +kernel
theorem d_L_count_19 : decode b_L_count 19 = .ok (.astore 5, 2) := by decide +kernel
theorem d_L_count_21 : decode b_L_count 21 = .ok (.iconst 2, 1) := by decide +kernel
theorem d_L_count_22 : decode b_L_count 22 = .ok (.ireturn, 1) := by decide +kernel
theorem d_L_count_23 : decode b_L_count 23 = .ok (.iconst 0, 1) := by decide +kernel
theorem d_L_count_24 : decode b_L_count 24 = .ok (.ireturn, 1) := by decide +kernel
def y_L_reportAt : MethodName := ⟨"ReportChecks2Law", "reportAt", "(LReportChecks2;II[J)I"⟩
abbrev b_L_reportAt : ByteArray := method_20_code
abbrev k_L_reportAt : Cond := .codeWith y_L_reportAt b_L_reportAt 5 (some .int) [(0, 10, 13, 13)]
theorem mc_L_reportAt : MC y_L_reportAt k_L_reportAt b_L_reportAt 5 (some .int) [(0, 10, 13, 13)] 4 := ⟨g_in (List.mem_of_getElem? (i := 710) (by decide +kernel)) (by decide +kernel), Or.inr rfl, g_in (List.mem_of_getElem? (i := 56) (by decide +kernel)) (by decide +kernel), by decide, by decide +kernel⟩
theorem st_L_reportAt : Cond.static y_L_reportAt ∈ g_ws := g_in (List.mem_of_getElem? (i := 709) (by decide +kernel)) (by decide +kernel)
theorem d_L_reportAt_0 : decode b_L_reportAt 0 = .ok (.aload_n 3, 1) := by decide +kernel
theorem d_L_reportAt_1 : decode b_L_reportAt 1 = .ok (.iconst 0, 1) := by decide +kernel
theorem d_L_reportAt_2 : decode b_L_reportAt 2 = .ok (.aload_n 0, 1) := by decide +kernel
theorem d_L_reportAt_3 : decode b_L_reportAt 3 = .ok (.iload_n 1, 1) := by decide +kernel
theorem d_L_reportAt_4 : decode b_L_reportAt 4 = .ok (.iload_n 2, 1) := by decide +kernel
theorem d_L_reportAt_5 : decode b_L_reportAt 5 = .ok (.invokevirtual 77, 3) := by decide +kernel
theorem d_L_reportAt_8 : decode b_L_reportAt 8 = .ok (.i2l, 1) := by decide +kernel
theorem d_L_reportAt_9 : decode b_L_reportAt 9 = .ok (.lastore, 1) := by decide +kernel
theorem d_L_reportAt_10 : decode b_L_reportAt 10 = .ok (.goto 7, 3) := by decide +kernel
theorem d_L_reportAt_13 : decode b_L_reportAt 13 = .ok (.astore 4, 2) := by decide +kernel
theorem d_L_reportAt_15 : decode b_L_reportAt 15 = .ok (.iconst 1, 1) := by decide +kernel
theorem d_L_reportAt_16 : decode b_L_reportAt 16 = .ok (.ireturn, 1) := by decide +kernel
theorem d_L_reportAt_17 : decode b_L_reportAt 17 = .ok (.iconst 0, 1) := by decide +kernel
theorem d_L_reportAt_18 : decode b_L_reportAt 18 = .ok (.ireturn, 1) := by decide +kernel
def y_L_value : MethodName := ⟨"ReportChecks2Law", "value", "(LReportChecks2;II[J)I"⟩
abbrev b_L_value : ByteArray := method_21_code
abbrev k_L_value : Cond := .codeWith y_L_value b_L_value 5 (some .int) [(0, 10, 13, 13), (0, 10, 17, 27)]
theorem mc_L_value : MC y_L_value k_L_value b_L_value 5 (some .int) [(0, 10, 13, 13), (0, 10, 17, 27)] 4 := ⟨g_in (List.mem_of_getElem? (i := 727) (by decide +kernel)) (by decide +kernel), Or.inr rfl, g_in (List.mem_of_getElem? (i := 56) (by decide +kernel)) (by decide +kernel), by decide, by decide +kernel⟩
theorem st_L_value : Cond.static y_L_value ∈ g_ws := g_in (List.mem_of_getElem? (i := 726) (by decide +kernel)) (by decide +kernel)
theorem d_L_value_0 : decode b_L_value 0 = .ok (.aload_n 3, 1) := by decide +kernel
theorem d_L_value_1 : decode b_L_value 1 = .ok (.iconst 0, 1) := by decide +kernel
theorem d_L_value_2 : decode b_L_value 2 = .ok (.aload_n 0, 1) := by decide +kernel
theorem d_L_value_3 : decode b_L_value 3 = .ok (.iload_n 1, 1) := by decide +kernel
theorem d_L_value_4 : decode b_L_value 4 = .ok (.iload_n 2, 1) := by decide +kernel
theorem d_L_value_5 : decode b_L_value 5 = .ok (.invokevirtual 80, 3) := by decide +kernel
theorem d_L_value_8 : decode b_L_value 8 = .ok (.i2l, 1) := by decide +kernel
theorem d_L_value_9 : decode b_L_value 9 = .ok (.lastore, 1) := by decide +kernel
theorem d_L_value_10 : decode b_L_value 10 = .ok (.goto 11, 3) := by decide +kernel
theorem d_L_value_13 : decode b_L_value 13 = .ok (.astore 4, 2) := by decide +kernel
theorem d_L_value_15 : decode b_L_value 15 = .ok (.iconst 1, 1) := by decide +kernel
theorem d_L_value_16 : decode b_L_value 16 = .ok (.ireturn, 1) := by decide +kernel
theorem d_L_value_17 : decode b_L_value 17 = .ok (.astore 4, 2) := by decide +kernel
theorem d_L_value_19 : decode b_L_value 19 = .ok (.iconst 2, 1) := by decide +kernel
theorem d_L_value_20 : decode b_L_value 20 = .ok (.ireturn, 1) := by decide +kernel
theorem d_L_value_21 : decode b_L_value 21 = .ok (.iconst 0, 1) := by decide +kernel
theorem d_L_value_22 : decode b_L_value 22 = .ok (.ireturn, 1) := by decide +kernel
def y_L_tick : MethodName := ⟨"ReportChecks2Law", "tick", "(LReportChecks2;I[J)I"⟩
abbrev b_L_tick : ByteArray := method_22_code
abbrev k_L_tick : Cond := .codeWith y_L_tick b_L_tick 4 (some .int) [(0, 9, 12, 15)]
theorem mc_L_tick : MC y_L_tick k_L_tick b_L_tick 4 (some .int) [(0, 9, 12, 15)] 3 := ⟨g_in (List.mem_of_getElem? (i := 735) (by decide +kernel)) (by decide +kernel), Or.inr rfl, g_in (List.mem_of_getElem? (i := 56) (by decide +kernel)) (by decide +kernel), by decide, by decide +kernel⟩
theorem st_L_tick : Cond.static y_L_tick ∈ g_ws := g_in (List.mem_of_getElem? (i := 734) (by decide +kernel)) (by decide +kernel)
theorem d_L_tick_0 : decode b_L_tick 0 = .ok (.aload_n 2, 1) := by decide +kernel
theorem d_L_tick_1 : decode b_L_tick 1 = .ok (.iconst 0, 1) := by decide +kernel
theorem d_L_tick_2 : decode b_L_tick 2 = .ok (.aload_n 0, 1) := by decide +kernel
theorem d_L_tick_3 : decode b_L_tick 3 = .ok (.iload_n 1, 1) := by decide +kernel
theorem d_L_tick_4 : decode b_L_tick 4 = .ok (.invokevirtual 83, 3) := by decide +kernel
theorem d_L_tick_7 : decode b_L_tick 7 = .ok (.i2l, 1) := by decide +kernel
theorem d_L_tick_8 : decode b_L_tick 8 = .ok (.lastore, 1) := by decide +kernel
theorem d_L_tick_9 : decode b_L_tick 9 = .ok (.goto 6, 3) := by decide +kernel
theorem d_L_tick_12 : decode b_L_tick 12 = .ok (.astore_n 3, 1) := by decide +kernel
theorem d_L_tick_13 : decode b_L_tick 13 = .ok (.iconst 1, 1) := by decide +kernel
theorem d_L_tick_14 : decode b_L_tick 14 = .ok (.ireturn, 1) := by decide +kernel
theorem d_L_tick_15 : decode b_L_tick 15 = .ok (.iconst 0, 1) := by decide +kernel
theorem d_L_tick_16 : decode b_L_tick 16 = .ok (.ireturn, 1) := by decide +kernel
end
section
/-! ===== methods of links: printed by program ===== -/
theorem ml_L_86 : ML "ReportChecks2Law" 86 y_X_init := Or.inl (g_in (List.mem_of_getElem? (i := 76) (by decide +kernel)) (by decide +kernel))
theorem ml_X_38 : ML cR0 38 y_RR_init := Or.inr ⟨"ReportChecks2", g_in (List.mem_of_getElem? (i := 86) (by decide +kernel)) (by decide +kernel)⟩
theorem ml_X_47 : ML cR0 47 y_RB_init := Or.inr ⟨"ReportChecks2", g_in (List.mem_of_getElem? (i := 104) (by decide +kernel)) (by decide +kernel)⟩
theorem ml_X_60 : ML cR0 60 y_FN_init := Or.inr ⟨"ReportChecks2", g_in (List.mem_of_getElem? (i := 137) (by decide +kernel)) (by decide +kernel)⟩
theorem ml_X_70 : ML cR0 70 y_CT_init := Or.inr ⟨"ReportChecks2", g_in (List.mem_of_getElem? (i := 156) (by decide +kernel)) (by decide +kernel)⟩
theorem ml_L_125 : ML "ReportChecks2Law" 125 y_X_place := Or.inl (g_in (List.mem_of_getElem? (i := 212) (by decide +kernel)) (by decide +kernel))
theorem ml_L_90 : ML "ReportChecks2Law" 90 y_L_report := Or.inl (g_in (List.mem_of_getElem? (i := 216) (by decide +kernel)) (by decide +kernel))
theorem ml_L_7 : ML "ReportChecks2Law" 7 y_X_report := Or.inl (g_in (List.mem_of_getElem? (i := 222) (by decide +kernel)) (by decide +kernel))
theorem ml_X_75 : ML cR0 75 y_X_requireKind := Or.inl (g_in (List.mem_of_getElem? (i := 226) (by decide +kernel)) (by decide +kernel))
theorem ml_X_86 : ML cR0 86 y_X_requireRoomForReport := Or.inl (g_in (List.mem_of_getElem? (i := 313) (by decide +kernel)) (by decide +kernel))
theorem ml_X_89 : ML cR0 89 y_RP_init := Or.inr ⟨"ReportChecks2", g_in (List.mem_of_getElem? (i := 334) (by decide +kernel)) (by decide +kernel)⟩
theorem ml_X_92 : ML cR0 92 y_X_keep := Or.inl (g_in (List.mem_of_getElem? (i := 386) (by decide +kernel)) (by decide +kernel))
theorem ml_L_99 : ML "ReportChecks2Law" 99 y_L_ask := Or.inl (g_in (List.mem_of_getElem? (i := 390) (by decide +kernel)) (by decide +kernel))
theorem ml_L_19 : ML "ReportChecks2Law" 19 y_X_ask := Or.inl (g_in (List.mem_of_getElem? (i := 393) (by decide +kernel)) (by decide +kernel))
theorem ml_X_96 : ML cR0 96 y_X_requireField := Or.inl (g_in (List.mem_of_getElem? (i := 397) (by decide +kernel)) (by decide +kernel))
theorem ml_X_99 : ML cR0 99 y_X_changed := Or.inl (g_in (List.mem_of_getElem? (i := 401) (by decide +kernel)) (by decide +kernel))
theorem ml_L_103 : ML "ReportChecks2Law" 103 y_L_field := Or.inl (g_in (List.mem_of_getElem? (i := 404) (by decide +kernel)) (by decide +kernel))
theorem ml_L_23 : ML "ReportChecks2Law" 23 y_X_field := Or.inl (g_in (List.mem_of_getElem? (i := 408) (by decide +kernel)) (by decide +kernel))
theorem ml_X_103 : ML cR0 103 y_X_known := Or.inl (g_in (List.mem_of_getElem? (i := 412) (by decide +kernel)) (by decide +kernel))
theorem ml_X_111 : ML cR0 111 y_RP_canBeTold := Or.inr ⟨"ReportChecks2", g_in (List.mem_of_getElem? (i := 420) (by decide +kernel)) (by decide +kernel)⟩
theorem ml_RP_46 : ML cR5 46 y_X_has := Or.inr ⟨"ReportChecks2", g_in (List.mem_of_getElem? (i := 424) (by decide +kernel)) (by decide +kernel)⟩
theorem ml_X_120 : ML cR0 120 y_RP_tell := Or.inr ⟨"ReportChecks2", g_in (List.mem_of_getElem? (i := 443) (by decide +kernel)) (by decide +kernel)⟩
theorem ml_RP_50 : ML cR5 50 y_X_changed := Or.inr ⟨"ReportChecks2", g_in (List.mem_of_getElem? (i := 447) (by decide +kernel)) (by decide +kernel)⟩
theorem ml_L_107 : ML "ReportChecks2Law" 107 y_L_act := Or.inl (g_in (List.mem_of_getElem? (i := 448) (by decide +kernel)) (by decide +kernel))
theorem ml_L_29 : ML "ReportChecks2Law" 29 y_X_act := Or.inl (g_in (List.mem_of_getElem? (i := 451) (by decide +kernel)) (by decide +kernel))
theorem ml_X_131 : ML cR0 131 y_X_requireUnsigned := Or.inl (g_in (List.mem_of_getElem? (i := 457) (by decide +kernel)) (by decide +kernel))
theorem ml_X_135 : ML cR0 135 y_RP_fillByAct := Or.inr ⟨"ReportChecks2", g_in (List.mem_of_getElem? (i := 461) (by decide +kernel)) (by decide +kernel)⟩
theorem ml_L_111 : ML "ReportChecks2Law" 111 y_L_inside := Or.inl (g_in (List.mem_of_getElem? (i := 465) (by decide +kernel)) (by decide +kernel))
theorem ml_L_33 : ML "ReportChecks2Law" 33 y_X_inside := Or.inl (g_in (List.mem_of_getElem? (i := 468) (by decide +kernel)) (by decide +kernel))
theorem ml_L_117 : ML "ReportChecks2Law" 117 y_L_sign := Or.inl (g_in (List.mem_of_getElem? (i := 473) (by decide +kernel)) (by decide +kernel))
theorem ml_L_37 : ML "ReportChecks2Law" 37 y_X_sign := Or.inl (g_in (List.mem_of_getElem? (i := 476) (by decide +kernel)) (by decide +kernel))
theorem ml_L_121 : ML "ReportChecks2Law" 121 y_L_rules := Or.inl (g_in (List.mem_of_getElem? (i := 482) (by decide +kernel)) (by decide +kernel))
theorem ml_L_41 : ML "ReportChecks2Law" 41 y_X_rules := Or.inl (g_in (List.mem_of_getElem? (i := 485) (by decide +kernel)) (by decide +kernel))
theorem ml_X_151 : ML cR0 151 y_RR_readInto := Or.inr ⟨"ReportChecks2", g_in (List.mem_of_getElem? (i := 489) (by decide +kernel)) (by decide +kernel)⟩
theorem ml_RR_33 : ML cR1 33 y_RR_skipBlanks := Or.inl (g_in (List.mem_of_getElem? (i := 496) (by decide +kernel)) (by decide +kernel))
theorem ml_RR_36 : ML cR1 36 y_RB_startRule := Or.inr ⟨"ReportChecks2", g_in (List.mem_of_getElem? (i := 500) (by decide +kernel)) (by decide +kernel)⟩
theorem ml_RR_40 : ML cR1 40 y_RR_readSum := Or.inl (g_in (List.mem_of_getElem? (i := 504) (by decide +kernel)) (by decide +kernel))
theorem ml_RR_55 : ML cR1 55 y_RR_readTerm := Or.inl (g_in (List.mem_of_getElem? (i := 508) (by decide +kernel)) (by decide +kernel))
theorem ml_RR_59 : ML cR1 59 y_RR_readFactor := Or.inl (g_in (List.mem_of_getElem? (i := 512) (by decide +kernel)) (by decide +kernel))
theorem ml_RR_47 : ML cR1 47 y_RR_passes := Or.inl (g_in (List.mem_of_getElem? (i := 516) (by decide +kernel)) (by decide +kernel))
theorem ml_RR_69 : ML cR1 69 y_RR_readNumber := Or.inl (g_in (List.mem_of_getElem? (i := 521) (by decide +kernel)) (by decide +kernel))
theorem ml_RR_73 : ML cR1 73 y_RB_factorOfField := Or.inr ⟨"ReportChecks2", g_in (List.mem_of_getElem? (i := 526) (by decide +kernel)) (by decide +kernel)⟩
theorem ml_RR_64 : ML cR1 64 y_RB_addTerm := Or.inr ⟨"ReportChecks2", g_in (List.mem_of_getElem? (i := 529) (by decide +kernel)) (by decide +kernel)⟩
theorem ml_RB_36 : ML cR2 36 y_RB_noteField := Or.inl (g_in (List.mem_of_getElem? (i := 533) (by decide +kernel)) (by decide +kernel))
theorem ml_RB_40 : ML cR2 40 y_X_changed := Or.inr ⟨"ReportChecks2", g_in (List.mem_of_getElem? (i := 537) (by decide +kernel)) (by decide +kernel)⟩
theorem ml_RR_44 : ML cR1 44 y_RR_readComparison := Or.inl (g_in (List.mem_of_getElem? (i := 538) (by decide +kernel)) (by decide +kernel))
theorem ml_L_129 : ML "ReportChecks2Law" 129 y_L_check := Or.inl (g_in (List.mem_of_getElem? (i := 543) (by decide +kernel)) (by decide +kernel))
theorem ml_L_45 : ML "ReportChecks2Law" 45 y_X_check := Or.inl (g_in (List.mem_of_getElem? (i := 546) (by decide +kernel)) (by decide +kernel))
theorem ml_X_160 : ML cR0 160 y_X_findWanting := Or.inl (g_in (List.mem_of_getElem? (i := 550) (by decide +kernel)) (by decide +kernel))
theorem ml_X_204 : ML cR0 204 y_X_has := Or.inl (g_in (List.mem_of_getElem? (i := 554) (by decide +kernel)) (by decide +kernel))
theorem ml_X_279 : ML cR0 279 y_FN_add := Or.inr ⟨"ReportChecks2", g_in (List.mem_of_getElem? (i := 555) (by decide +kernel)) (by decide +kernel)⟩
theorem ml_X_282 : ML cR0 282 y_RB_faultOf := Or.inr ⟨"ReportChecks2", g_in (List.mem_of_getElem? (i := 559) (by decide +kernel)) (by decide +kernel)⟩
theorem ml_RB_52 : ML cR2 52 y_RB_sumOf := Or.inl (g_in (List.mem_of_getElem? (i := 563) (by decide +kernel)) (by decide +kernel))
theorem ml_RB_61 : ML cR2 61 y_RB_factorOf := Or.inl (g_in (List.mem_of_getElem? (i := 567) (by decide +kernel)) (by decide +kernel))
theorem ml_RB_57 : ML cR2 57 y_RB_holds := Or.inl (g_in (List.mem_of_getElem? (i := 571) (by decide +kernel)) (by decide +kernel))
theorem ml_L_133 : ML "ReportChecks2Law" 133 y_L_wanting := Or.inl (g_in (List.mem_of_getElem? (i := 574) (by decide +kernel)) (by decide +kernel))
theorem ml_L_49 : ML "ReportChecks2Law" 49 y_X_wanting := Or.inl (g_in (List.mem_of_getElem? (i := 577) (by decide +kernel)) (by decide +kernel))
theorem ml_L_136 : ML "ReportChecks2Law" 136 y_L_put := Or.inl (g_in (List.mem_of_getElem? (i := 583) (by decide +kernel)) (by decide +kernel))
theorem ml_L_52 : ML "ReportChecks2Law" 52 y_X_put := Or.inl (g_in (List.mem_of_getElem? (i := 586) (by decide +kernel)) (by decide +kernel))
theorem ml_X_175 : ML cR0 175 y_X_requirePerson := Or.inl (g_in (List.mem_of_getElem? (i := 590) (by decide +kernel)) (by decide +kernel))
theorem ml_X_178 : ML cR0 178 y_RP_isReadyFor := Or.inr ⟨"ReportChecks2", g_in (List.mem_of_getElem? (i := 594) (by decide +kernel)) (by decide +kernel)⟩
theorem ml_RP_60 : ML cR5 60 y_RP_isClosed := Or.inl (g_in (List.mem_of_getElem? (i := 598) (by decide +kernel)) (by decide +kernel))
theorem ml_RP_64 : ML cR5 64 y_RP_hasSigner := Or.inl (g_in (List.mem_of_getElem? (i := 602) (by decide +kernel)) (by decide +kernel))
theorem ml_X_183 : ML cR0 183 y_RP_addSignature := Or.inr ⟨"ReportChecks2", g_in (List.mem_of_getElem? (i := 607) (by decide +kernel)) (by decide +kernel)⟩
theorem ml_L_139 : ML "ReportChecks2Law" 139 y_L_edition := Or.inl (g_in (List.mem_of_getElem? (i := 611) (by decide +kernel)) (by decide +kernel))
theorem ml_L_55 : ML "ReportChecks2Law" 55 y_X_edition := Or.inl (g_in (List.mem_of_getElem? (i := 614) (by decide +kernel)) (by decide +kernel))
theorem ml_X_189 : ML cR0 189 y_X_requireClosed := Or.inl (g_in (List.mem_of_getElem? (i := 618) (by decide +kernel)) (by decide +kernel))
theorem ml_X_272 : ML cR0 272 y_RP_isClosed := Or.inr ⟨"ReportChecks2", g_in (List.mem_of_getElem? (i := 621) (by decide +kernel)) (by decide +kernel)⟩
theorem ml_X_198 : ML cR0 198 y_RP_copyValues := Or.inr ⟨"ReportChecks2", g_in (List.mem_of_getElem? (i := 623) (by decide +kernel)) (by decide +kernel)⟩
theorem ml_L_142 : ML "ReportChecks2Law" 142 y_L_fault := Or.inl (g_in (List.mem_of_getElem? (i := 630) (by decide +kernel)) (by decide +kernel))
theorem ml_L_58 : ML "ReportChecks2Law" 58 y_X_fault := Or.inl (g_in (List.mem_of_getElem? (i := 633) (by decide +kernel)) (by decide +kernel))
theorem ml_L_145 : ML "ReportChecks2Law" 145 y_L_hide := Or.inl (g_in (List.mem_of_getElem? (i := 638) (by decide +kernel)) (by decide +kernel))
theorem ml_L_61 : ML "ReportChecks2Law" 61 y_X_hide := Or.inl (g_in (List.mem_of_getElem? (i := 641) (by decide +kernel)) (by decide +kernel))
theorem ml_L_148 : ML "ReportChecks2Law" 148 y_L_code := Or.inl (g_in (List.mem_of_getElem? (i := 645) (by decide +kernel)) (by decide +kernel))
theorem ml_L_64 : ML "ReportChecks2Law" 64 y_X_code := Or.inl (g_in (List.mem_of_getElem? (i := 648) (by decide +kernel)) (by decide +kernel))
theorem ml_X_209 : ML cR0 209 y_CT_write := Or.inr ⟨"ReportChecks2", g_in (List.mem_of_getElem? (i := 652) (by decide +kernel)) (by decide +kernel)⟩
theorem ml_CT_19 : ML cR4 19 y_CT_addByte := Or.inl (g_in (List.mem_of_getElem? (i := 656) (by decide +kernel)) (by decide +kernel))
theorem ml_CT_28 : ML cR4 28 y_CT_addNumber := Or.inl (g_in (List.mem_of_getElem? (i := 660) (by decide +kernel)) (by decide +kernel))
theorem ml_CT_34 : ML cR4 34 y_X_has := Or.inr ⟨"ReportChecks2", g_in (List.mem_of_getElem? (i := 667) (by decide +kernel)) (by decide +kernel)⟩
theorem ml_CT_42 : ML cR4 42 y_CT_addField := Or.inl (g_in (List.mem_of_getElem? (i := 668) (by decide +kernel)) (by decide +kernel))
theorem ml_L_151 : ML "ReportChecks2Law" 151 y_L_at := Or.inl (g_in (List.mem_of_getElem? (i := 672) (by decide +kernel)) (by decide +kernel))
theorem ml_L_67 : ML "ReportChecks2Law" 67 y_X_at := Or.inl (g_in (List.mem_of_getElem? (i := 675) (by decide +kernel)) (by decide +kernel))
theorem ml_L_154 : ML "ReportChecks2Law" 154 y_L_late := Or.inl (g_in (List.mem_of_getElem? (i := 680) (by decide +kernel)) (by decide +kernel))
theorem ml_L_70 : ML "ReportChecks2Law" 70 y_X_late := Or.inl (g_in (List.mem_of_getElem? (i := 683) (by decide +kernel)) (by decide +kernel))
theorem ml_X_223 : ML cR0 223 y_RP_isLate := Or.inr ⟨"ReportChecks2", g_in (List.mem_of_getElem? (i := 688) (by decide +kernel)) (by decide +kernel)⟩
theorem ml_L_157 : ML "ReportChecks2Law" 157 y_L_count := Or.inl (g_in (List.mem_of_getElem? (i := 692) (by decide +kernel)) (by decide +kernel))
theorem ml_L_73 : ML "ReportChecks2Law" 73 y_X_count := Or.inl (g_in (List.mem_of_getElem? (i := 695) (by decide +kernel)) (by decide +kernel))
theorem ml_X_228 : ML cR0 228 y_RP_isSettled := Or.inr ⟨"ReportChecks2", g_in (List.mem_of_getElem? (i := 700) (by decide +kernel)) (by decide +kernel)⟩
theorem ml_X_232 : ML cR0 232 y_RP_isBetween := Or.inr ⟨"ReportChecks2", g_in (List.mem_of_getElem? (i := 704) (by decide +kernel)) (by decide +kernel)⟩
theorem ml_L_160 : ML "ReportChecks2Law" 160 y_L_reportAt := Or.inl (g_in (List.mem_of_getElem? (i := 708) (by decide +kernel)) (by decide +kernel))
theorem ml_L_77 : ML "ReportChecks2Law" 77 y_X_reportAt := Or.inl (g_in (List.mem_of_getElem? (i := 711) (by decide +kernel)) (by decide +kernel))
theorem ml_X_239 : ML cR0 239 y_RP_lastSigner := Or.inr ⟨"ReportChecks2", g_in (List.mem_of_getElem? (i := 715) (by decide +kernel)) (by decide +kernel)⟩
theorem ml_L_163 : ML "ReportChecks2Law" 163 y_L_value := Or.inl (g_in (List.mem_of_getElem? (i := 725) (by decide +kernel)) (by decide +kernel))
theorem ml_L_80 : ML "ReportChecks2Law" 80 y_X_value := Or.inl (g_in (List.mem_of_getElem? (i := 728) (by decide +kernel)) (by decide +kernel))
theorem ml_L_166 : ML "ReportChecks2Law" 166 y_L_tick := Or.inl (g_in (List.mem_of_getElem? (i := 733) (by decide +kernel)) (by decide +kernel))
theorem ml_L_83 : ML "ReportChecks2Law" 83 y_X_tick := Or.inl (g_in (List.mem_of_getElem? (i := 736) (by decide +kernel)) (by decide +kernel))
theorem ml_L_89 : ML "ReportChecks2Law" 89 y_M_init := Or.inl (g_in (List.mem_of_getElem? (i := 743) (by decide +kernel)) (by decide +kernel))
theorem ml_L_96 : ML "ReportChecks2Law" 96 y_M_thrown := Or.inl (g_in (List.mem_of_getElem? (i := 865) (by decide +kernel)) (by decide +kernel))
theorem ml_L_95 : ML "ReportChecks2Law" 95 y_M_report := Or.inl (g_in (List.mem_of_getElem? (i := 869) (by decide +kernel)) (by decide +kernel))
theorem ml_M_102 : ML cR6 102 y_M_in := Or.inl (g_in (List.mem_of_getElem? (i := 873) (by decide +kernel)) (by decide +kernel))
theorem ml_M_109 : ML cR6 109 y_M_goes := Or.inl (g_in (List.mem_of_getElem? (i := 876) (by decide +kernel)) (by decide +kernel))
theorem ml_M_113 : ML cR6 113 y_M_makes := Or.inl (g_in (List.mem_of_getElem? (i := 880) (by decide +kernel)) (by decide +kernel))
theorem ml_L_102 : ML "ReportChecks2Law" 102 y_M_ask := Or.inl (g_in (List.mem_of_getElem? (i := 884) (by decide +kernel)) (by decide +kernel))
theorem ml_M_117 : ML cR6 117 y_M_isField := Or.inl (g_in (List.mem_of_getElem? (i := 888) (by decide +kernel)) (by decide +kernel))
theorem ml_L_106 : ML "ReportChecks2Law" 106 y_M_field := Or.inl (g_in (List.mem_of_getElem? (i := 891) (by decide +kernel)) (by decide +kernel))
theorem ml_M_121 : ML cR6 121 y_M_isReport := Or.inl (g_in (List.mem_of_getElem? (i := 895) (by decide +kernel)) (by decide +kernel))
theorem ml_L_110 : ML "ReportChecks2Law" 110 y_M_act := Or.inl (g_in (List.mem_of_getElem? (i := 901) (by decide +kernel)) (by decide +kernel))
theorem ml_L_114 : ML "ReportChecks2Law" 114 y_M_inside := Or.inl (g_in (List.mem_of_getElem? (i := 905) (by decide +kernel)) (by decide +kernel))
theorem ml_L_120 : ML "ReportChecks2Law" 120 y_M_sign := Or.inl (g_in (List.mem_of_getElem? (i := 909) (by decide +kernel)) (by decide +kernel))
theorem ml_L_124 : ML "ReportChecks2Law" 124 y_M_rules := Or.inl (g_in (List.mem_of_getElem? (i := 913) (by decide +kernel)) (by decide +kernel))
theorem ml_M_139 : ML cR6 139 y_M_see := Or.inl (g_in (List.mem_of_getElem? (i := 917) (by decide +kernel)) (by decide +kernel))
theorem ml_M_132 : ML cR6 132 y_M_here := Or.inl (g_in (List.mem_of_getElem? (i := 921) (by decide +kernel)) (by decide +kernel))
theorem ml_M_163 : ML cR6 163 y_M_rule := Or.inl (g_in (List.mem_of_getElem? (i := 925) (by decide +kernel)) (by decide +kernel))
theorem ml_M_146 : ML cR6 146 y_M_fail := Or.inl (g_in (List.mem_of_getElem? (i := 929) (by decide +kernel)) (by decide +kernel))
theorem ml_M_160 : ML cR6 160 y_M_sum := Or.inl (g_in (List.mem_of_getElem? (i := 933) (by decide +kernel)) (by decide +kernel))
theorem ml_M_154 : ML cR6 154 y_M_factor := Or.inl (g_in (List.mem_of_getElem? (i := 937) (by decide +kernel)) (by decide +kernel))
theorem ml_M_150 : ML cR6 150 y_M_number := Or.inl (g_in (List.mem_of_getElem? (i := 941) (by decide +kernel)) (by decide +kernel))
theorem ml_M_142 : ML cR6 142 y_M_isDigit := Or.inl (g_in (List.mem_of_getElem? (i := 945) (by decide +kernel)) (by decide +kernel))
theorem ml_L_128 : ML "ReportChecks2Law" 128 y_M_place := Or.inl (g_in (List.mem_of_getElem? (i := 949) (by decide +kernel)) (by decide +kernel))
theorem ml_L_132 : ML "ReportChecks2Law" 132 y_M_check := Or.inl (g_in (List.mem_of_getElem? (i := 953) (by decide +kernel)) (by decide +kernel))
theorem ml_M_190 : ML cR6 190 y_M_wanted := Or.inl (g_in (List.mem_of_getElem? (i := 957) (by decide +kernel)) (by decide +kernel))
theorem ml_M_194 : ML cR6 194 y_M_verdict := Or.inl (g_in (List.mem_of_getElem? (i := 961) (by decide +kernel)) (by decide +kernel))
theorem ml_M_181 : ML cR6 181 y_M_isAsked := Or.inl (g_in (List.mem_of_getElem? (i := 965) (by decide +kernel)) (by decide +kernel))
theorem ml_M_169 : ML cR6 169 y_M_has := Or.inl (g_in (List.mem_of_getElem? (i := 969) (by decide +kernel)) (by decide +kernel))
theorem ml_M_184 : ML cR6 184 y_M_reckon := Or.inl (g_in (List.mem_of_getElem? (i := 973) (by decide +kernel)) (by decide +kernel))
theorem ml_M_173 : ML cR6 173 y_M_of := Or.inl (g_in (List.mem_of_getElem? (i := 977) (by decide +kernel)) (by decide +kernel))
theorem ml_L_135 : ML "ReportChecks2Law" 135 y_M_wanting := Or.inl (g_in (List.mem_of_getElem? (i := 981) (by decide +kernel)) (by decide +kernel))
theorem ml_L_138 : ML "ReportChecks2Law" 138 y_M_put := Or.inl (g_in (List.mem_of_getElem? (i := 985) (by decide +kernel)) (by decide +kernel))
theorem ml_M_200 : ML cR6 200 y_M_isPerson := Or.inl (g_in (List.mem_of_getElem? (i := 989) (by decide +kernel)) (by decide +kernel))
theorem ml_M_203 : ML cR6 203 y_M_canSign := Or.inl (g_in (List.mem_of_getElem? (i := 992) (by decide +kernel)) (by decide +kernel))
theorem ml_M_197 : ML cR6 197 y_M_opened := Or.inl (g_in (List.mem_of_getElem? (i := 996) (by decide +kernel)) (by decide +kernel))
theorem ml_L_141 : ML "ReportChecks2Law" 141 y_M_edition := Or.inl (g_in (List.mem_of_getElem? (i := 1000) (by decide +kernel)) (by decide +kernel))
theorem ml_L_144 : ML "ReportChecks2Law" 144 y_M_fault := Or.inl (g_in (List.mem_of_getElem? (i := 1004) (by decide +kernel)) (by decide +kernel))
theorem ml_L_147 : ML "ReportChecks2Law" 147 y_M_hide := Or.inl (g_in (List.mem_of_getElem? (i := 1008) (by decide +kernel)) (by decide +kernel))
theorem ml_L_150 : ML "ReportChecks2Law" 150 y_M_code := Or.inl (g_in (List.mem_of_getElem? (i := 1012) (by decide +kernel)) (by decide +kernel))
theorem ml_M_209 : ML cR6 209 y_M_write := Or.inl (g_in (List.mem_of_getElem? (i := 1016) (by decide +kernel)) (by decide +kernel))
theorem ml_M_212 : ML cR6 212 y_M_number0 := Or.inl (g_in (List.mem_of_getElem? (i := 1020) (by decide +kernel)) (by decide +kernel))
theorem ml_L_153 : ML "ReportChecks2Law" 153 y_M_at := Or.inl (g_in (List.mem_of_getElem? (i := 1024) (by decide +kernel)) (by decide +kernel))
theorem ml_L_156 : ML "ReportChecks2Law" 156 y_M_late := Or.inl (g_in (List.mem_of_getElem? (i := 1028) (by decide +kernel)) (by decide +kernel))
theorem ml_L_159 : ML "ReportChecks2Law" 159 y_M_count := Or.inl (g_in (List.mem_of_getElem? (i := 1032) (by decide +kernel)) (by decide +kernel))
theorem ml_L_162 : ML "ReportChecks2Law" 162 y_M_reportAt := Or.inl (g_in (List.mem_of_getElem? (i := 1036) (by decide +kernel)) (by decide +kernel))
theorem ml_L_165 : ML "ReportChecks2Law" 165 y_M_value := Or.inl (g_in (List.mem_of_getElem? (i := 1040) (by decide +kernel)) (by decide +kernel))
theorem ml_L_168 : ML "ReportChecks2Law" 168 y_M_tick := Or.inl (g_in (List.mem_of_getElem? (i := 1044) (by decide +kernel)) (by decide +kernel))
end
section
/-! ===== the reference's object at mo, its arrays behind it: numbers σ by field, contents α by field: printed by program ===== -/
def mfs (mo : Nat) (σ : Nat → Int32) : List Value := [.int (σ 0), .int (σ 1), .int (σ 2), .ref (mo + 1), .ref (mo + 2), .ref (mo + 3), .ref (mo + 4), .ref (mo + 5), .ref (mo + 6), .ref (mo + 7), .ref (mo + 8), .ref (mo + 9), .ref (mo + 10), .ref (mo + 11), .ref (mo + 12), .ref (mo + 13), .int (σ 16), .ref (mo + 14), .int (σ 18), .int (σ 19), .int (σ 20), .int (σ 21), .ref (mo + 15), .ref (mo + 16), .ref (mo + 17), .ref (mo + 18), .ref (mo + 19), .int (σ 27), .ref (mo + 20), .ref (mo + 21), .ref (mo + 22), .ref (mo + 23), .ref (mo + 24), .int (σ 33), .int (σ 34), .ref (mo + 25), .ref (mo + 26), .int (σ 37), .ref (mo + 27)]
def mar (α : Nat → Nat → Int32) : List AC := [.inl (0, 30, .inl (α 3)), .inl (0, 30, .inl (α 4)), .inl (0, 30, .inl (α 5)), .inl (0, 30, .inl (α 6)), .inl (0, 30, .inl (α 7)), .inl (0, 30, .inl (α 8)), .inl (0, 90, .inl (α 9)), .inl (2, 600, .inl (α 10)), .inl (2, 600, .inl (α 11)), .inl (2, 600, .inl (α 12)), .inl (0, 600, .inl (α 13)), .inl (2, 100, .inl (α 14)), .inl (2, 400, .inl (α 15)), .inl (0, 300, .inl (α 17)), .inl (0, 20, .inl (α 22)), .inl (0, 160, .inl (α 23)), .inl (0, 160, .inl (α 24)), .inl (0, 160, .inl (α 25)), .inl (2, 160, .inl (α 26)), .inl (0, 20, .inl (α 28)), .inl (0, 160, .inl (α 29)), .inl (0, 160, .inl (α 30)), .inl (0, 160, .inl (α 31)), .inl (2, 160, .inl (α 32)), .inl (0, 40, .inl (α 35)), .inl (0, 40, .inl (α 36)), .inl (0, 300, .inl (α 38))]
def upa (α : Nat → Nat → Int32) (k : Nat) (f : Nat → Int32) : Nat → Nat → Int32 := fun j => if j = k then f else α j
def ovM (mo : Nat) (σ : Nat → Int32) (α : Nat → Nat → Int32) (h : AH) : AH := fun j => if j = mo then .inr (6, mfs mo σ) else if mo < j ∧ j ≤ mo + 27 then (mar α).getD (j - mo - 1) (.inr (0, [])) else h j
theorem ovM_o (mo : Nat) (σ : Nat → Int32) (α : Nat → Nat → Int32) (h : AH) : ovM mo σ α h mo = .inr (6, mfs mo σ) := if_pos rfl
theorem ovM_a {mo : Nat} {σ : Nat → Int32} {α : Nat → Nat → Int32} {h : AH} {o : Nat} {x : AC} (ho : o < 27) (hx : (mar α)[o]? = some x) : ovM mo σ α h (mo + (o + 1)) = x := by
  unfold ovM
  rw [if_neg (by omega), if_pos (by omega), show mo + (o + 1) - mo - 1 = o by omega, List.getD_eq_getElem?_getD, hx]
  rfl
theorem ovM_n {mo : Nat} {σ : Nat → Int32} {α : Nat → Nat → Int32} {h : AH} {j : Nat} (hj : j < mo ∨ mo + 27 < j) : ovM mo σ α h j = h j := by
  unfold ovM
  rw [if_neg (by omega), if_neg (by omega)]
theorem ovM_put {mo : Nat} {σ σ' : Nat → Int32} {α : Nat → Nat → Int32} {h : AH} : hu (ovM mo σ α h) mo (.inr (6, mfs mo σ')) = ovM mo σ' α h := by
  funext j
  unfold hu ovM
  by_cases e : j = mo
  · rw [if_pos e, if_pos e]
  · rw [if_neg e, if_neg e, if_neg e]
theorem ovM_ast {mo : Nat} {σ : Nat → Int32} {α α' : Nat → Nat → Int32} {h : AH} {o : Nat} {x : AC} (ho : o < 27) (hx : (mar α).set o x = mar α') : hu (ovM mo σ α h) (mo + (o + 1)) x = ovM mo σ α' h := by
  funext j
  unfold hu ovM
  rw [← hx]
  by_cases e : j = mo + (o + 1)
  · subst e
    rw [if_pos rfl, if_neg (by omega), if_pos (by omega), show mo + (o + 1) - mo - 1 = o by omega, List.getD_eq_getElem?_getD, List.getElem?_set_self (by exact ho)]
    rfl
  · rw [if_neg e]
    by_cases e2 : j = mo
    · rw [if_pos e2, if_pos e2]
    · rw [if_neg e2, if_neg e2]
      by_cases e3 : mo < j ∧ j ≤ mo + 27
      · rw [if_pos e3, if_pos e3, List.getD_eq_getElem?_getD, List.getD_eq_getElem?_getD, List.getElem?_set_ne (by omega)]
      · rw [if_neg e3, if_neg e3]
section JRe
variable {p : Program} {l : Launch} {e : Env} {R : Room} {s : State} {m : MethodId} {args : Array Value} {below : List Frame} {meth : Method} {c : Code} {D : va_G} {cA : Nat → ClassId} {b nL : Nat} {Q : State → Prop} {n : Nat} {h : AH} {kc ks pc : Nat} {L : List (Nat × Value)} {st : List Value} {mn : String} {cc : ByteArray} {ret : Option FieldType} {hh : List (Nat × Nat × Nat × Nat)} 
theorem jk_r {x : Value} (k : J p l e R s m args below meth c D cA b nL Q n h kc ks (pc + 3) L (x :: st)) : JK p l e R s m args below meth c D cA b nL Q kc ks pc L st (Re (some x) n h) := jk_e k
theorem jk_v (k : J p l e R s m args below meth c D cA b nL Q n h kc ks (pc + 3) L st) : JK p l e R s m args below meth c D cA b nL Q kc ks pc L st (Re none n h) := jk_e k
end JRe
section JMo
variable {p : Program} {l : Launch} {e : Env} {R : Room} {s : State} {m : MethodId} {args : Array Value} {below : List Frame} {meth : Method} {c : Code} {D : va_G} {cA : Nat → ClassId} {b nL : Nat} {Q : State → Prop} {n : Nat} {h : AH} {kc ks pc : Nat} {L : List (Nat × Value)} {st : List Value} {mn : String} {cc : ByteArray} {ret : Option FieldType} {hh : List (Nat × Nat × Nat × Nat)} {mo : Nat} {σ σ' : Nat → Int32} {α α' : Nat → Nat → Int32}
theorem jm_get (C : Cx p l s m meth c D cA b nL cR6 mn cc ret hh) {index k : Nat} {v : Value} (hF : FL cR6 index 6 k) (hd : decode cc pc = .ok (.getfield index, 3)) (hmo : mo + 27 < n) (hv : (mfs mo σ)[k]? = some v) (kk : J p l e R s m args below meth c D cA b nL Q n (ovM mo σ α h) kc ks (pc + 3) L (v :: st)) : J p l e R s m args below meth c D cA b nL Q n (ovM mo σ α h) kc ks pc L (.ref mo :: st) :=
  j_get C hF hd (by omega) (ovM_o mo σ α h) hv kk
theorem jm_put (C : Cx p l s m meth c D cA b nL cR6 mn cc ret hh) {index k : Nat} {ty : FieldType} {v : Value} (hF : FP cR6 index 6 k false ty) (hd : decode cc pc = .ok (.putfield index, 3)) (hmo : mo + 27 < n) (hl : k < 39) (hn : narrow ty v = v) (hf : fits ty v = true) (hv : (mfs mo σ).set k v = mfs mo σ') (kk : J p l e R s m args below meth c D cA b nL Q n (ovM mo σ' α h) kc ks (pc + 3) L st) : J p l e R s m args below meth c D cA b nL Q n (ovM mo σ α h) kc ks pc L (v :: .ref mo :: st) :=
  j_put C hF hd (by omega) (ovM_o mo σ α h) hl hn hf hv (by rw [ovM_put]; exact kk)
theorem jm_iald (C : Cx p l s m meth c D cA b nL cR6 mn cc ret hh) (o : Nat) {N : Nat} {f : Nat → Int32} {i v : Int32} (hd : decode cc pc = .ok (.iaload, 1)) (ho : o < 27) (hx : (mar α)[o]? = some (.inl (0, N, .inl f))) (hmo : mo + 27 < n) (hi : vp_in i N) (hv : f i.toNatClampNeg = v) (kk : J p l e R s m args below meth c D cA b nL Q n (ovM mo σ α h) kc ks (pc + 1) L (.int v :: st)) : J p l e R s m args below meth c D cA b nL Q n (ovM mo σ α h) kc ks pc L (.int i :: .ref (mo + (o + 1)) :: st) :=
  j_iald C hd rfl (by omega) (ovM_a ho hx) hi hv kk
theorem jm_zald (C : Cx p l s m meth c D cA b nL cR6 mn cc ret hh) (o : Nat) {N : Nat} {f : Nat → Int32} {i v : Int32} (hd : decode cc pc = .ok (.baload, 1)) (ho : o < 27) (hx : (mar α)[o]? = some (.inl (2, N, .inl f))) (hmo : mo + 27 < n) (hi : vp_in i N) (hv : f i.toNatClampNeg = v) (kk : J p l e R s m args below meth c D cA b nL Q n (ovM mo σ α h) kc ks (pc + 1) L (.int v :: st)) : J p l e R s m args below meth c D cA b nL Q n (ovM mo σ α h) kc ks pc L (.int i :: .ref (mo + (o + 1)) :: st) :=
  j_zald C hd rfl (by omega) (ovM_a ho hx) hi hv kk
theorem jm_iast (C : Cx p l s m meth c D cA b nL cR6 mn cc ret hh) (o : Nat) {N : Nat} {f f' : Nat → Int32} {i x : Int32} (hd : decode cc pc = .ok (.iastore, 1)) (ho : o < 27) (hx : (mar α)[o]? = some (.inl (0, N, .inl f))) (hmo : mo + 27 < n) (hi : vp_in i N) (hf : upd f i.toNatClampNeg x = f') (hα : (mar α).set o (.inl (0, N, .inl f')) = mar α') (kk : J p l e R s m args below meth c D cA b nL Q n (ovM mo σ α' h) kc ks (pc + 1) L st) : J p l e R s m args below meth c D cA b nL Q n (ovM mo σ α h) kc ks pc L (.int x :: .int i :: .ref (mo + (o + 1)) :: st) :=
  j_iast C hd rfl (by omega) (ovM_a ho hx) hi hf (by rw [ovM_ast ho hα]; exact kk)
theorem jm_zast (C : Cx p l s m meth c D cA b nL cR6 mn cc ret hh) (o : Nat) {N : Nat} {f f' : Nat → Int32} {i x : Int32} (hd : decode cc pc = .ok (.bastore, 1)) (ho : o < 27) (hx : (mar α)[o]? = some (.inl (2, N, .inl f))) (hmo : mo + 27 < n) (hi : vp_in i N) (hf : upd f i.toNatClampNeg (vp_nar .boolean x) = f') (hα : (mar α).set o (.inl (2, N, .inl f')) = mar α') (kk : J p l e R s m args below meth c D cA b nL Q n (ovM mo σ α' h) kc ks (pc + 1) L st) : J p l e R s m args below meth c D cA b nL Q n (ovM mo σ α h) kc ks pc L (.int x :: .int i :: .ref (mo + (o + 1)) :: st) :=
  j_zast C hd rfl (by omega) (ovM_a ho hx) hi hf (by rw [ovM_ast ho hα]; exact kk)
theorem jm_puti (k : Nat) (C : Cx p l s m meth c D cA b nL cR6 mn cc ret hh) {index : Nat} {ty : FieldType} {x : Int32} (hF : FP cR6 index 6 k false ty) (hd : decode cc pc = .ok (.putfield index, 3)) (hmo : mo + 27 < n) (hl : k < 39) (hn : narrow ty (.int x) = .int x) (hf : fits ty (.int x) = true) (hv : (mfs mo σ).set k (.int x) = mfs mo (upd σ k x)) (kk : J p l e R s m args below meth c D cA b nL Q n (ovM mo (upd σ k x) α h) kc ks (pc + 3) L st) : J p l e R s m args below meth c D cA b nL Q n (ovM mo σ α h) kc ks pc L (.int x :: .ref mo :: st) :=
  jm_put C hF hd hmo hl hn hf hv kk
theorem jm_iasti (C : Cx p l s m meth c D cA b nL cR6 mn cc ret hh) (o k : Nat) {N : Nat} {i x : Int32} (hd : decode cc pc = .ok (.iastore, 1)) (ho : o < 27) (hx : (mar α)[o]? = some (.inl (0, N, .inl (α k)))) (hmo : mo + 27 < n) (hi : vp_in i N) (hα : (mar α).set o (.inl (0, N, .inl (upd (α k) i.toNatClampNeg x))) = mar (upa α k (upd (α k) i.toNatClampNeg x))) (kk : J p l e R s m args below meth c D cA b nL Q n (ovM mo σ (upa α k (upd (α k) i.toNatClampNeg x)) h) kc ks (pc + 1) L st) : J p l e R s m args below meth c D cA b nL Q n (ovM mo σ α h) kc ks pc L (.int x :: .int i :: .ref (mo + (o + 1)) :: st) :=
  jm_iast C o hd ho hx hmo hi rfl hα kk
theorem jm_zasti (C : Cx p l s m meth c D cA b nL cR6 mn cc ret hh) (o k : Nat) {N : Nat} {i x : Int32} (hd : decode cc pc = .ok (.bastore, 1)) (ho : o < 27) (hx : (mar α)[o]? = some (.inl (2, N, .inl (α k)))) (hmo : mo + 27 < n) (hi : vp_in i N) (hα : (mar α).set o (.inl (2, N, .inl (upd (α k) i.toNatClampNeg (vp_nar .boolean x)))) = mar (upa α k (upd (α k) i.toNatClampNeg (vp_nar .boolean x)))) (kk : J p l e R s m args below meth c D cA b nL Q n (ovM mo σ (upa α k (upd (α k) i.toNatClampNeg (vp_nar .boolean x))) h) kc ks (pc + 1) L st) : J p l e R s m args below meth c D cA b nL Q n (ovM mo σ α h) kc ks pc L (.int x :: .int i :: .ref (mo + (o + 1)) :: st) :=
  jm_zast C o hd ho hx hmo hi rfl hα kk
end JMo
theorem lc_X_107 : Cond.constant cR0 107 (-99999) ∈ g_ws := g_in (List.mem_of_getElem? (i := 417) (by decide +kernel)) (by decide +kernel)
theorem lc_X_108 : Cond.constant cR0 108 (99999) ∈ g_ws := g_in (List.mem_of_getElem? (i := 418) (by decide +kernel)) (by decide +kernel)
theorem lc_RR_68 : Cond.constant cR1 68 (99999) ∈ g_ws := g_in (List.mem_of_getElem? (i := 520) (by decide +kernel)) (by decide +kernel)
theorem lc_RR_63 : Cond.constant cR1 63 (-1000000000) ∈ g_ws := g_in (List.mem_of_getElem? (i := 525) (by decide +kernel)) (by decide +kernel)
theorem lc_RB_56 : Cond.constant cR2 56 (-1000000000) ∈ g_ws := g_in (List.mem_of_getElem? (i := 570) (by decide +kernel)) (by decide +kernel)
theorem lc_M_124 : Cond.constant cR6 124 (-99999) ∈ g_ws := g_in (List.mem_of_getElem? (i := 899) (by decide +kernel)) (by decide +kernel)
theorem lc_M_125 : Cond.constant cR6 125 (99999) ∈ g_ws := g_in (List.mem_of_getElem? (i := 900) (by decide +kernel)) (by decide +kernel)
end
section
/-! ===== contracts of the reference's small methods ===== -/
def inI (x a b : Int32) : Int32 := if x < a then 0 else if b < x then 0 else 1
def gsI (x y z : Int32) : Int32 := if ¬ x = 0 then (if ¬ y = 0 then (if ¬ z = 0 then 0 else 3) else 2) else 1
def bz (x : Int32) : Int32 := if x = 0 then 1 else 0
set_option maxHeartbeats 4000000 in
set_option maxRecDepth 100000 in
theorem c_M_thrown {l : Launch} (hl : l.stackTraces = false) {D : va_G} {cA : Nat → ClassId} {b n mo : Nat} (σ : Nat → Int32) (α : Nat → Nat → Int32) (h : AH) (hmo : mo + 27 < n) : Cn l D cA b y_M_thrown k_M_thrown 0 0 0 0 [.ref mo] n (ovM mo σ α h) (Re (some (.int (σ 0))) n (ovM mo σ α h)) := by
  refine Cn.of (cc := b_M_thrown) (maxL := 1) (ret := (some .int)) (hh := []) (by decide +kernel) hl (Or.inl ⟨rfl, rfl⟩) (Nat.le_of_ble_eq_true rfl) ?_
  intro p e s m args below meth c C
  refine j_aload_n C d_M_thrown_0 rfl rfl ?_
  refine jm_get C fl_6_96 d_M_thrown_1 hmo rfl ?_
  exact j_ireturn C d_M_thrown_4 rfl (by decide) (by decide) ⟨rfl, rfl, rfl⟩

set_option maxHeartbeats 4000000 in
set_option maxRecDepth 100000 in
theorem c_M_in {l : Launch} (hl : l.stackTraces = false) {D : va_G} {cA : Nat → ClassId} {b n : Nat} (x a z : Int32) (h : AH) : Cn l D cA b y_M_in k_M_in 0 0 0 0 [.int x, .int a, .int z] n h (Re (some (.int (inI x a z))) n h) := by
  refine Cn.of (cc := b_M_in) (maxL := 3) (ret := (some .boolean)) (hh := []) (by decide +kernel) hl (Or.inl ⟨rfl, rfl⟩) (Nat.le_of_ble_eq_true rfl) ?_
  intro p e s m args below meth c C
  refine j_iload_n C d_M_in_0 rfl rfl ?_
  refine j_iload_n C d_M_in_1 rfl rfl ?_
  refine j_icmp_lt (tgt := 14) C d_M_in_2 (by decide) (fun c2 => ?_) (fun c2 => ?_)
  · refine j_iconst (v := 0) C d_M_in_14 (by decide) ?_
    exact j_zreturn C d_M_in_15 rfl (by decide) (by decide) (by decide) ⟨by simp [inI, *], rfl, rfl⟩
  · refine j_iload_n C d_M_in_5 rfl rfl ?_
    refine j_iload_n C d_M_in_6 rfl rfl ?_
    refine j_icmp_gt (tgt := 14) C d_M_in_7 (by decide) (fun c7 => ?_) (fun c7 => ?_)
    · refine j_iconst (v := 0) C d_M_in_14 (by decide) ?_
      exact j_zreturn C d_M_in_15 rfl (by decide) (by decide) (by decide) ⟨by simp [inI, *], rfl, rfl⟩
    · refine j_iconst (v := 1) C d_M_in_10 (by decide) ?_
      refine j_goto (tgt := 15) C d_M_in_11 (by decide) ?_
      exact j_zreturn C d_M_in_15 rfl (by decide) (by decide) (by decide) ⟨by simp [inI, *], rfl, rfl⟩

set_option maxHeartbeats 4000000 in
set_option maxRecDepth 100000 in
theorem c_M_isField {l : Launch} (hl : l.stackTraces = false) {D : va_G} {cA : Nat → ClassId} {b n : Nat} (x : Int32) (h : AH) : Cn l D cA b y_M_isField k_M_isField 1 14 0 0 [.int x] n h (Re (some (.int (inI x 0 19))) n h) := by
  refine Cn.of (cc := b_M_isField) (maxL := 1) (ret := (some .boolean)) (hh := []) (by decide +kernel) hl (Or.inl ⟨rfl, rfl⟩) (Nat.le_of_ble_eq_true rfl) ?_
  intro p e s m args below meth c C
  refine j_iload_n C d_M_isField_0 rfl rfl ?_
  refine j_iconst (v := 0) C d_M_isField_1 (by decide) ?_
  refine j_bipush (v := 19) C d_M_isField_2 (by decide) ?_
  refine j_callS C d_M_isField_4 ml_M_102 mc_M_in st_M_in (c_M_in hl _ _ _ _) rfl rfl (Nat.le_of_ble_eq_true rfl) (Nat.le_of_ble_eq_true rfl) (Nat.le_of_ble_eq_true rfl) (Nat.le_of_ble_eq_true rfl) (jk_r ?_)
  exact j_zreturn C d_M_isField_7 rfl (by unfold inI; split <;> (try split) <;> decide) (by decide) (by decide) ⟨rfl, rfl, rfl⟩

set_option maxHeartbeats 4000000 in
set_option maxRecDepth 100000 in
theorem c_M_isPerson {l : Launch} (hl : l.stackTraces = false) {D : va_G} {cA : Nat → ClassId} {b n : Nat} (x : Int32) (h : AH) : Cn l D cA b y_M_isPerson k_M_isPerson 1 14 0 0 [.int x] n h (Re (some (.int (inI x 0 19))) n h) := by
  refine Cn.of (cc := b_M_isPerson) (maxL := 1) (ret := (some .boolean)) (hh := []) (by decide +kernel) hl (Or.inl ⟨rfl, rfl⟩) (Nat.le_of_ble_eq_true rfl) ?_
  intro p e s m args below meth c C
  refine j_iload_n C d_M_isPerson_0 rfl rfl ?_
  refine j_iconst (v := 0) C d_M_isPerson_1 (by decide) ?_
  refine j_bipush (v := 19) C d_M_isPerson_2 (by decide) ?_
  refine j_callS C d_M_isPerson_4 ml_M_102 mc_M_in st_M_in (c_M_in hl _ _ _ _) rfl rfl (Nat.le_of_ble_eq_true rfl) (Nat.le_of_ble_eq_true rfl) (Nat.le_of_ble_eq_true rfl) (Nat.le_of_ble_eq_true rfl) (jk_r ?_)
  exact j_zreturn C d_M_isPerson_7 rfl (by unfold inI; split <;> (try split) <;> decide) (by decide) (by decide) ⟨rfl, rfl, rfl⟩

set_option maxHeartbeats 4000000 in
set_option maxRecDepth 100000 in
theorem c_M_isReport {l : Launch} (hl : l.stackTraces = false) {D : va_G} {cA : Nat → ClassId} {b n mo : Nat} (x : Int32) (σ : Nat → Int32) (α : Nat → Nat → Int32) (h : AH) (hmo : mo + 27 < n) : Cn l D cA b y_M_isReport k_M_isReport 1 14 0 0 [.ref mo, .int x] n (ovM mo σ α h) (Re (some (.int (inI x 0 (σ 2 - 1)))) n (ovM mo σ α h)) := by
  refine Cn.of (cc := b_M_isReport) (maxL := 2) (ret := (some .boolean)) (hh := []) (by decide +kernel) hl (Or.inl ⟨rfl, rfl⟩) (Nat.le_of_ble_eq_true rfl) ?_
  intro p e s m args below meth c C
  refine j_iload_n C d_M_isReport_0 rfl rfl ?_
  refine j_iconst (v := 0) C d_M_isReport_1 (by decide) ?_
  refine j_aload_n C d_M_isReport_2 rfl rfl ?_
  refine jm_get C fl_6_99 d_M_isReport_3 hmo rfl ?_
  refine j_iconst (v := 1) C d_M_isReport_6 (by decide) ?_
  refine j_isub C d_M_isReport_7 ?_
  refine j_callS C d_M_isReport_8 ml_M_102 mc_M_in st_M_in (c_M_in hl _ _ _ _) rfl rfl (Nat.le_of_ble_eq_true rfl) (Nat.le_of_ble_eq_true rfl) (Nat.le_of_ble_eq_true rfl) (Nat.le_of_ble_eq_true rfl) (jk_r ?_)
  exact j_zreturn C d_M_isReport_11 rfl (by unfold inI; split <;> (try split) <;> decide) (by decide) (by decide) ⟨rfl, rfl, rfl⟩

set_option maxHeartbeats 4000000 in
set_option maxRecDepth 100000 in
theorem c_M_goes {l : Launch} (hl : l.stackTraces = false) {D : va_G} {cA : Nat → ClassId} {b n mo : Nat} (x y z : Int32) (σ : Nat → Int32) (α : Nat → Nat → Int32) (h : AH) (hmo : mo + 27 < n) : Cn l D cA b y_M_goes k_M_goes 0 0 0 0 [.ref mo, .int x, .int y, .int z] n (ovM mo σ α h) (Re (some (.int (bz (gsI x y z)))) n (ovM mo (upd σ 0 (gsI x y z)) α h)) := by
  refine Cn.of (cc := b_M_goes) (maxL := 4) (ret := (some .boolean)) (hh := []) (by decide +kernel) hl (Or.inl ⟨rfl, rfl⟩) (Nat.le_of_ble_eq_true rfl) ?_
  intro p e s m args below meth c C
  refine j_aload_n C d_M_goes_0 rfl rfl ?_
  refine j_iload_n C d_M_goes_1 rfl rfl ?_
  refine j_if_ne (tgt := 9) C d_M_goes_2 (by decide) (fun c2 => ?_) (fun c2 => ?_)
  · refine j_iload_n C d_M_goes_9 rfl rfl ?_
    refine j_if_ne (tgt := 17) C d_M_goes_10 (by decide) (fun c10 => ?_) (fun c10 => ?_)
    · refine j_iload_n C d_M_goes_17 rfl rfl ?_
      refine j_if_ne (tgt := 25) C d_M_goes_18 (by decide) (fun c18 => ?_) (fun c18 => ?_)
      · refine j_iconst (v := 0) C d_M_goes_25 (by decide) ?_
        refine jm_puti 0 C fp_6_96 d_M_goes_26 hmo (by decide) (by first | rfl | assumption) rfl rfl ?_
        refine j_aload_n C d_M_goes_29 rfl rfl ?_
        refine jm_get C fl_6_96 d_M_goes_30 hmo rfl ?_
        refine j_if_ne (tgt := 40) C d_M_goes_33 (by decide) (fun c33 => ?_) (fun c33 => ?_)
        · refine j_iconst (v := 0) C d_M_goes_40 (by decide) ?_
          exact j_zreturn C d_M_goes_41 rfl (by decide) (by decide) (by decide) ⟨by first | (simp [upd] at c33; done) | (simp [gsI, bz, *]; done), rfl, by simp [gsI, *]⟩
        · refine j_iconst (v := 1) C d_M_goes_36 (by decide) ?_
          refine j_goto (tgt := 41) C d_M_goes_37 (by decide) ?_
          exact j_zreturn C d_M_goes_41 rfl (by decide) (by decide) (by decide) ⟨by first | (simp [upd] at c33; done) | (simp [gsI, bz, *]; done), rfl, by simp [gsI, *]⟩
      · refine j_iconst (v := 3) C d_M_goes_21 (by decide) ?_
        refine j_goto (tgt := 26) C d_M_goes_22 (by decide) ?_
        refine jm_puti 0 C fp_6_96 d_M_goes_26 hmo (by decide) (by first | rfl | assumption) rfl rfl ?_
        refine j_aload_n C d_M_goes_29 rfl rfl ?_
        refine jm_get C fl_6_96 d_M_goes_30 hmo rfl ?_
        refine j_if_ne (tgt := 40) C d_M_goes_33 (by decide) (fun c33 => ?_) (fun c33 => ?_)
        · refine j_iconst (v := 0) C d_M_goes_40 (by decide) ?_
          exact j_zreturn C d_M_goes_41 rfl (by decide) (by decide) (by decide) ⟨by first | (simp [upd] at c33; done) | (simp [gsI, bz, *]; done), rfl, by simp [gsI, *]⟩
        · refine j_iconst (v := 1) C d_M_goes_36 (by decide) ?_
          refine j_goto (tgt := 41) C d_M_goes_37 (by decide) ?_
          exact j_zreturn C d_M_goes_41 rfl (by decide) (by decide) (by decide) ⟨by first | (simp [upd] at c33; done) | (simp [gsI, bz, *]; done), rfl, by simp [gsI, *]⟩
    · refine j_iconst (v := 2) C d_M_goes_13 (by decide) ?_
      refine j_goto (tgt := 26) C d_M_goes_14 (by decide) ?_
      refine jm_puti 0 C fp_6_96 d_M_goes_26 hmo (by decide) (by first | rfl | assumption) rfl rfl ?_
      refine j_aload_n C d_M_goes_29 rfl rfl ?_
      refine jm_get C fl_6_96 d_M_goes_30 hmo rfl ?_
      refine j_if_ne (tgt := 40) C d_M_goes_33 (by decide) (fun c33 => ?_) (fun c33 => ?_)
      · refine j_iconst (v := 0) C d_M_goes_40 (by decide) ?_
        exact j_zreturn C d_M_goes_41 rfl (by decide) (by decide) (by decide) ⟨by first | (simp [upd] at c33; done) | (simp [gsI, bz, *]; done), rfl, by simp [gsI, *]⟩
      · refine j_iconst (v := 1) C d_M_goes_36 (by decide) ?_
        refine j_goto (tgt := 41) C d_M_goes_37 (by decide) ?_
        exact j_zreturn C d_M_goes_41 rfl (by decide) (by decide) (by decide) ⟨by first | (simp [upd] at c33; done) | (simp [gsI, bz, *]; done), rfl, by simp [gsI, *]⟩
  · refine j_iconst (v := 1) C d_M_goes_5 (by decide) ?_
    refine j_goto (tgt := 26) C d_M_goes_6 (by decide) ?_
    refine jm_puti 0 C fp_6_96 d_M_goes_26 hmo (by decide) (by first | rfl | assumption) rfl rfl ?_
    refine j_aload_n C d_M_goes_29 rfl rfl ?_
    refine jm_get C fl_6_96 d_M_goes_30 hmo rfl ?_
    refine j_if_ne (tgt := 40) C d_M_goes_33 (by decide) (fun c33 => ?_) (fun c33 => ?_)
    · refine j_iconst (v := 0) C d_M_goes_40 (by decide) ?_
      exact j_zreturn C d_M_goes_41 rfl (by decide) (by decide) (by decide) ⟨by first | (simp [upd] at c33; done) | (simp [gsI, bz, *]; done), rfl, by simp [gsI, *]⟩
    · refine j_iconst (v := 1) C d_M_goes_36 (by decide) ?_
      refine j_goto (tgt := 41) C d_M_goes_37 (by decide) ?_
      exact j_zreturn C d_M_goes_41 rfl (by decide) (by decide) (by decide) ⟨by first | (simp [upd] at c33; done) | (simp [gsI, bz, *]; done), rfl, by simp [gsI, *]⟩

set_option maxHeartbeats 4000000 in
set_option maxRecDepth 100000 in
theorem c_M_place {l : Launch} (hl : l.stackTraces = false) {D : va_G} {cA : Nat → ClassId} {b n mo : Nat} (σ : Nat → Int32) (α : Nat → Nat → Int32) (h : AH) (hmo : mo + 27 < n) : Cn l D cA b y_M_place k_M_place 0 0 0 0 [.ref mo] n (ovM mo σ α h) (Re (some (.int (σ 18))) n (ovM mo (upd σ 0 0) α h)) := by
  refine Cn.of (cc := b_M_place) (maxL := 1) (ret := (some .int)) (hh := []) (by decide +kernel) hl (Or.inl ⟨rfl, rfl⟩) (Nat.le_of_ble_eq_true rfl) ?_
  intro p e s m args below meth c C
  refine j_aload_n C d_M_place_0 rfl rfl ?_
  refine j_iconst (v := 0) C d_M_place_1 (by decide) ?_
  refine jm_puti 0 C fp_6_96 d_M_place_2 hmo (by decide) (by first | rfl | assumption) rfl rfl ?_
  refine j_aload_n C d_M_place_5 rfl rfl ?_
  refine jm_get C fl_6_53 d_M_place_6 hmo rfl ?_
  exact j_ireturn C d_M_place_9 rfl (by decide) (by decide) ⟨rfl, rfl, rfl⟩

set_option maxHeartbeats 4000000 in
set_option maxRecDepth 100000 in
theorem c_M_fail {l : Launch} (hl : l.stackTraces = false) {D : va_G} {cA : Nat → ClassId} {b n mo : Nat} (x : Int32) (σ : Nat → Int32) (α : Nat → Nat → Int32) (h : AH) (hmo : mo + 27 < n) : Cn l D cA b y_M_fail k_M_fail 0 0 0 0 [.ref mo, .int x] n (ovM mo σ α h) (Re none n (ovM mo (if 0 ≤ σ 20 then σ else upd σ 20 x) α h)) := by
  refine Cn.of (cc := b_M_fail) (maxL := 2) (ret := none) (hh := []) (by decide +kernel) hl (Or.inl ⟨rfl, rfl⟩) (Nat.le_of_ble_eq_true rfl) ?_
  intro p e s m args below meth c C
  refine j_aload_n C d_M_fail_0 rfl rfl ?_
  refine jm_get C fl_6_136 d_M_fail_1 hmo rfl ?_
  refine j_if_ge (tgt := 12) C d_M_fail_4 (by decide) (fun c4 => ?_) (fun c4 => ?_)
  · exact j_vreturn C d_M_fail_12 rfl (by decide) (by decide) ⟨rfl, rfl, by simp [*]⟩
  · refine j_aload_n C d_M_fail_7 rfl rfl ?_
    refine j_iload_n C d_M_fail_8 rfl rfl ?_
    refine jm_puti 20 C fp_6_136 d_M_fail_9 hmo (by decide) (by first | rfl | assumption) rfl rfl ?_
    exact j_vreturn C d_M_fail_12 rfl (by decide) (by decide) ⟨rfl, rfl, by simp [*]⟩

set_option maxHeartbeats 4000000 in
set_option maxRecDepth 100000 in
theorem c_M_here {l : Launch} (hl : l.stackTraces = false) {D : va_G} {cA : Nat → ClassId} {b n mo : Nat} (σ : Nat → Int32) (α : Nat → Nat → Int32) (h : AH) (hmo : mo + 27 < n) (hat : ¬ σ 16 ≤ σ 19 → vp_in (σ 19) 300) : Cn l D cA b y_M_here k_M_here 0 0 0 0 [.ref mo] n (ovM mo σ α h) (Re (some (.int (if σ 16 ≤ σ 19 then -1 else α 17 (σ 19).toNatClampNeg))) n (ovM mo σ α h)) := by
  refine Cn.of (cc := b_M_here) (maxL := 1) (ret := (some .int)) (hh := []) (by decide +kernel) hl (Or.inl ⟨rfl, rfl⟩) (Nat.le_of_ble_eq_true rfl) ?_
  intro p e s m args below meth c C
  refine j_aload_n C d_M_here_0 rfl rfl ?_
  refine jm_get C fl_6_129 d_M_here_1 hmo rfl ?_
  refine j_aload_n C d_M_here_4 rfl rfl ?_
  refine jm_get C fl_6_126 d_M_here_5 hmo rfl ?_
  refine j_icmp_ge (tgt := 23) C d_M_here_8 (by decide) (fun c8 => ?_) (fun c8 => ?_)
  · refine j_iconst (v := (-1)) C d_M_here_23 (by decide) ?_
    exact j_ireturn C d_M_here_24 rfl (by decide) (by decide) ⟨by simp [*], rfl, rfl⟩
  · refine j_aload_n C d_M_here_11 rfl rfl ?_
    refine jm_get C fl_6_50 d_M_here_12 hmo rfl ?_
    refine j_aload_n C d_M_here_15 rfl rfl ?_
    refine jm_get C fl_6_129 d_M_here_16 hmo rfl ?_
    refine jm_iald C 13 d_M_here_19 (by decide) rfl hmo (hat c8) rfl ?_
    refine j_goto (tgt := 24) C d_M_here_20 (by decide) ?_
    exact j_ireturn C d_M_here_24 rfl (by decide) (by decide) ⟨by simp [*], rfl, rfl⟩
end
section
/-! ===== contracts of the reference's public methods without loops ===== -/
theorem upd_s (f : Nat → Int32) (k : Nat) (x : Int32) : upd f k x k = x := pk_us
theorem upd_uu (f : Nat → Int32) (k : Nat) (x y : Int32) : upd (upd f k x) k y = upd f k y := by
  funext j
  by_cases hj : j = k
  · subst hj; rw [pk_us, pk_us]
  · rw [pk_un hj, pk_un hj, pk_un hj]
def mtick (σ : Nat → Int32) (x : Int32) : Int32 × (Nat → Int32) := if inI x 1 5000 = 0 then (0, upd σ 0 1) else if 99999 - σ 1 < x then (0, upd σ 0 1) else (σ 1 + x, upd (upd σ 0 0) 1 (σ 1 + x))
set_option maxHeartbeats 4000000 in
set_option maxRecDepth 100000 in
theorem c_M_tick {l : Launch} (hl : l.stackTraces = false) {D : va_G} {cA : Nat → ClassId} {b n mo : Nat} (x : Int32) (σ : Nat → Int32) (α : Nat → Nat → Int32) (h : AH) (hmo : mo + 27 < n) : Cn l D cA b y_M_tick k_M_tick 1 15 0 0 [.ref mo, .int x] n (ovM mo σ α h) (Re (some (.int (mtick σ x).1)) n (ovM mo (mtick σ x).2 α h)) := by
  refine Cn.of (cc := b_M_tick) (maxL := 2) (ret := (some .int)) (hh := []) (by decide +kernel) hl (Or.inl ⟨rfl, rfl⟩) (Nat.le_of_ble_eq_true rfl) ?_
  intro p e s m args below meth c C
  refine j_aload_n C d_M_tick_0 rfl rfl ?_
  refine j_iload_n C d_M_tick_1 rfl rfl ?_
  refine j_iconst (v := 1) C d_M_tick_2 (by decide) ?_
  refine j_sipush (v := 5000) C d_M_tick_3 (by decide) ?_
  refine j_callS C d_M_tick_6 ml_M_102 mc_M_in st_M_in (c_M_in hl _ _ _ _) rfl rfl (Nat.le_of_ble_eq_true rfl) (Nat.le_of_ble_eq_true rfl) (Nat.le_of_ble_eq_true rfl) (Nat.le_of_ble_eq_true rfl) (jk_r ?_)
  refine j_if_eq (tgt := 27) C d_M_tick_9 (by decide) (fun c9 => ?_) (fun c9 => ?_)
  · refine j_iconst (v := 0) C d_M_tick_27 (by decide) ?_
    refine j_iconst (v := 1) C d_M_tick_28 (by decide) ?_
    refine j_iconst (v := 1) C d_M_tick_29 (by decide) ?_
    refine j_callV C d_M_tick_30 ml_M_109 mc_M_goes in_M_goes rfl se_M_goes (by omega) (ovM_o _ _ _ _) (c_M_goes hl _ _ _ _ _ _ hmo) rfl rfl (Nat.le_of_ble_eq_true rfl) (Nat.le_of_ble_eq_true rfl) (Nat.le_of_ble_eq_true rfl) (Nat.le_of_ble_eq_true rfl) (jk_r ?_)
    refine j_if_ne (tgt := 38) C d_M_tick_33 (by decide) (fun c33 => ?_) (fun c33 => ?_)
    · refine j_aload_n C d_M_tick_38 rfl rfl ?_
      refine j_aload_n C d_M_tick_39 rfl rfl ?_
      refine jm_get C fl_6_106 d_M_tick_40 hmo rfl ?_
      refine j_iload_n C d_M_tick_43 rfl rfl ?_
      refine j_iadd C d_M_tick_44 ?_
      refine jm_puti 1 C fp_6_106 d_M_tick_45 hmo (by decide) (by first | rfl | assumption) rfl rfl ?_
      refine j_aload_n C d_M_tick_48 rfl rfl ?_
      refine jm_get C fl_6_106 d_M_tick_49 hmo rfl ?_
      exact j_ireturn C d_M_tick_52 rfl (by decide) (by decide) ⟨by first | (simp [mtick, upd, gsI, *]; done) | (exfalso; simp_all (decide := true) [upd, gsI, bz]; done), rfl, by first | (simp [mtick, upd, gsI, *]; done) | (exfalso; simp_all (decide := true) [upd, gsI, bz]; done)⟩
    · refine j_iconst (v := 0) C d_M_tick_36 (by decide) ?_
      exact j_ireturn C d_M_tick_37 rfl (by decide) (by decide) ⟨by first | (simp [mtick, upd, gsI, *]; done) | (exfalso; simp_all (decide := true) [upd, gsI, bz]; done), rfl, by first | (simp [mtick, upd, gsI, *]; done) | (exfalso; simp_all (decide := true) [upd, gsI, bz]; done)⟩
  · refine j_iload_n C d_M_tick_12 rfl rfl ?_
    refine j_ldc (v := 99999) C d_M_tick_13 lc_M_125 ?_
    refine j_aload_n C d_M_tick_15 rfl rfl ?_
    refine jm_get C fl_6_106 d_M_tick_16 hmo rfl ?_
    refine j_isub C d_M_tick_19 ?_
    refine j_icmp_gt (tgt := 27) C d_M_tick_20 (by decide) (fun c20 => ?_) (fun c20 => ?_)
    · refine j_iconst (v := 0) C d_M_tick_27 (by decide) ?_
      refine j_iconst (v := 1) C d_M_tick_28 (by decide) ?_
      refine j_iconst (v := 1) C d_M_tick_29 (by decide) ?_
      refine j_callV C d_M_tick_30 ml_M_109 mc_M_goes in_M_goes rfl se_M_goes (by omega) (ovM_o _ _ _ _) (c_M_goes hl _ _ _ _ _ _ hmo) rfl rfl (Nat.le_of_ble_eq_true rfl) (Nat.le_of_ble_eq_true rfl) (Nat.le_of_ble_eq_true rfl) (Nat.le_of_ble_eq_true rfl) (jk_r ?_)
      refine j_if_ne (tgt := 38) C d_M_tick_33 (by decide) (fun c33 => ?_) (fun c33 => ?_)
      · refine j_aload_n C d_M_tick_38 rfl rfl ?_
        refine j_aload_n C d_M_tick_39 rfl rfl ?_
        refine jm_get C fl_6_106 d_M_tick_40 hmo rfl ?_
        refine j_iload_n C d_M_tick_43 rfl rfl ?_
        refine j_iadd C d_M_tick_44 ?_
        refine jm_puti 1 C fp_6_106 d_M_tick_45 hmo (by decide) (by first | rfl | assumption) rfl rfl ?_
        refine j_aload_n C d_M_tick_48 rfl rfl ?_
        refine jm_get C fl_6_106 d_M_tick_49 hmo rfl ?_
        exact j_ireturn C d_M_tick_52 rfl (by decide) (by decide) ⟨by first | (simp [mtick, upd, gsI, *]; done) | (exfalso; simp_all (decide := true) [upd, gsI, bz]; done), rfl, by first | (simp [mtick, upd, gsI, *]; done) | (exfalso; simp_all (decide := true) [upd, gsI, bz]; done)⟩
      · refine j_iconst (v := 0) C d_M_tick_36 (by decide) ?_
        exact j_ireturn C d_M_tick_37 rfl (by decide) (by decide) ⟨by first | (simp [mtick, upd, gsI, *]; done) | (exfalso; simp_all (decide := true) [upd, gsI, bz]; done), rfl, by first | (simp [mtick, upd, gsI, *]; done) | (exfalso; simp_all (decide := true) [upd, gsI, bz]; done)⟩
    · refine j_iconst (v := 1) C d_M_tick_23 (by decide) ?_
      refine j_goto (tgt := 28) C d_M_tick_24 (by decide) ?_
      refine j_iconst (v := 1) C d_M_tick_28 (by decide) ?_
      refine j_iconst (v := 1) C d_M_tick_29 (by decide) ?_
      refine j_callV C d_M_tick_30 ml_M_109 mc_M_goes in_M_goes rfl se_M_goes (by omega) (ovM_o _ _ _ _) (c_M_goes hl _ _ _ _ _ _ hmo) rfl rfl (Nat.le_of_ble_eq_true rfl) (Nat.le_of_ble_eq_true rfl) (Nat.le_of_ble_eq_true rfl) (Nat.le_of_ble_eq_true rfl) (jk_r ?_)
      refine j_if_ne (tgt := 38) C d_M_tick_33 (by decide) (fun c33 => ?_) (fun c33 => ?_)
      · refine j_aload_n C d_M_tick_38 rfl rfl ?_
        refine j_aload_n C d_M_tick_39 rfl rfl ?_
        refine jm_get C fl_6_106 d_M_tick_40 hmo rfl ?_
        refine j_iload_n C d_M_tick_43 rfl rfl ?_
        refine j_iadd C d_M_tick_44 ?_
        refine jm_puti 1 C fp_6_106 d_M_tick_45 hmo (by decide) (by first | rfl | assumption) rfl rfl ?_
        refine j_aload_n C d_M_tick_48 rfl rfl ?_
        refine jm_get C fl_6_106 d_M_tick_49 hmo rfl ?_
        exact j_ireturn C d_M_tick_52 rfl (by decide) (by decide) ⟨by first | (simp [mtick, upd, gsI, *]; done) | (exfalso; simp_all (decide := true) [upd, gsI, bz]; done), rfl, by first | (simp [mtick, upd, gsI, *]; done) | (exfalso; simp_all (decide := true) [upd, gsI, bz]; done)⟩
      · refine j_iconst (v := 0) C d_M_tick_36 (by decide) ?_
        exact j_ireturn C d_M_tick_37 rfl (by decide) (by decide) ⟨by first | (simp [mtick, upd, gsI, *]; done) | (exfalso; simp_all (decide := true) [upd, gsI, bz]; done), rfl, by first | (simp [mtick, upd, gsI, *]; done) | (exfalso; simp_all (decide := true) [upd, gsI, bz]; done)⟩

theorem in_of {x : Int32} {k : Nat} (hk : k < 2 ^ 31) (h : ¬ inI x 0 (nI k) = 0) : ∃ j : Nat, j ≤ k ∧ x = nI j := by
  unfold inI at h
  by_cases h1 : x < 0
  · rw [if_pos h1] at h; exact absurd rfl h
  · rw [if_neg h1] at h
    by_cases h2 : nI k < x
    · rw [if_pos h2] at h; exact absurd rfl h
    · exact nI_of2 (nI_toInt hk) h1 (Int32.not_lt.mp h2)
theorem rep_of {x t : Int32} {nr : Nat} (hnr : t = nI nr) (hle : nr ≤ 30) (h : ¬ inI x 0 (t - 1) = 0) : ∃ j : Nat, j < nr ∧ x = nI j := by
  subst hnr
  cases nr with
  | zero =>
    exfalso
    apply h
    unfold inI
    by_cases h1 : x < 0
    · rw [if_pos h1]
    · rw [if_neg h1, if_pos]
      exact Int32.lt_of_lt_of_le (by decide : nI 0 - 1 < (0 : Int32)) (Int32.not_lt.mp h1)
  | succ k =>
    rw [nI_pred] at h
    obtain ⟨j, hj, e⟩ := in_of (by omega) h
    exact ⟨j, by omega, e⟩
theorem vp_mono {i : Int32} {m N : Nat} (h : vp_in i m) (hm : m ≤ N) : vp_in i N := fun q => h (q.elim Or.inl (fun q => Or.inr (Nat.le_trans hm q)))
theorem e20 (a c : Nat) : (20 : Int32) * nI a + nI c = nI (20 * a + c) := by
  rw [show (20 : Int32) = nI 20 from rfl, pk_mul, nI_add]
theorem ix20 {x f : Int32} {ka N : Nat} (hk : ka ≤ 1000) (hN : 20 * ka + 20 ≤ N) (hN2 : N < 2 ^ 31) (hx : ¬ inI x 0 (nI ka) = 0) (hf : ¬ inI f 0 19 = 0) : vp_in (20 * x + f) N := by
  obtain ⟨a, ha, rfl⟩ := in_of (by omega) hx
  obtain ⟨c, hc, rfl⟩ := in_of (k := 19) (by omega) hf
  rw [e20]
  exact vp_in_nI (by omega) hN2
theorem ix_rf {t r f : Int32} {nr : Nat} (hnr : t = nI nr) (hle : nr ≤ 30) (hr : ¬ inI r 0 (t - 1) = 0) (hf : ¬ inI f 0 19 = 0) : vp_in (20 * r + f) 600 := by
  obtain ⟨a, ha, rfl⟩ := rep_of hnr hle hr
  obtain ⟨c, hc, rfl⟩ := in_of (k := 19) (by omega) hf
  rw [e20]
  exact vp_in_nI (by omega) (by omega)
theorem ix_rk {t r f : Int32} {nr : Nat} (hnr : t = nI nr) (hle : nr ≤ 30) (hr : ¬ inI r 0 (t - 1) = 0) (hf : ¬ inI f 0 9 = 0) : vp_in (20 * r + f) 600 := by
  obtain ⟨a, ha, rfl⟩ := rep_of hnr hle hr
  obtain ⟨c, hc, rfl⟩ := in_of (k := 9) (by omega) hf
  rw [e20]
  exact vp_in_nI (by omega) (by omega)
theorem ix_r {t r : Int32} {nr N : Nat} (hnr : t = nI nr) (hle : nr ≤ 30) (hN : 30 ≤ N) (hN2 : N < 2 ^ 31) (hr : ¬ inI r 0 (t - 1) = 0) : vp_in r N := by
  obtain ⟨a, ha, rfl⟩ := rep_of hnr hle hr
  exact vp_in_nI (by omega) hN2
theorem gs_ok {x y z : Int32} (h : ¬ bz (gsI x y z) = 0) : ¬ x = 0 ∧ ¬ y = 0 ∧ ¬ z = 0 := by
  unfold gsI bz at h
  refine ⟨fun q => ?_, fun q => ?_, fun q => ?_⟩ <;> simp [q] at h
  · split at h <;> simp at h
  · split at h <;> (try split at h) <;> simp at h
def kn2 (a c : Int32) : Int32 := if a = 0 then 0 else if c = 0 then 0 else 1
def mmakes (σ : Nat → Int32) (α : Nat → Nat → Int32) (i k w : Int32) : (Nat → Int32) × (Nat → Nat → Int32) :=
  let r := (σ 2).toNatClampNeg
  (upd σ 2 (σ 2 + 1), upa (upa (upa (upa α 3 (upd (α 3) r i)) 4 (upd (α 4) r k)) 5 (upd (α 5) r (σ 1))) 7 (upd (α 7) r w))
set_option maxHeartbeats 4000000 in
set_option maxRecDepth 100000 in
theorem c_M_makes {l : Launch} (hl : l.stackTraces = false) {D : va_G} {cA : Nat → ClassId} {b n mo : Nat} (i k w : Int32) (σ : Nat → Int32) (α : Nat → Nat → Int32) (h : AH) (hmo : mo + 27 < n) (hrm : vp_in (σ 2) 30) : Cn l D cA b y_M_makes k_M_makes 0 0 0 0 [.ref mo, .int i, .int k, .int w] n (ovM mo σ α h) (Re (some (.int (σ 2 + 1 - 1))) n (ovM mo (mmakes σ α i k w).1 (mmakes σ α i k w).2 h)) := by
  refine Cn.of (cc := b_M_makes) (maxL := 4) (ret := (some .int)) (hh := []) (by decide +kernel) hl (Or.inl ⟨rfl, rfl⟩) (Nat.le_of_ble_eq_true rfl) ?_
  intro p e s m args below meth c C
  refine j_aload_n C d_M_makes_0 rfl rfl ?_
  refine jm_get C fl_6_7 d_M_makes_1 hmo rfl ?_
  refine j_aload_n C d_M_makes_4 rfl rfl ?_
  refine jm_get C fl_6_99 d_M_makes_5 hmo rfl ?_
  refine j_iload_n C d_M_makes_8 rfl rfl ?_
  refine jm_iasti C 0 3 d_M_makes_9 (by decide) rfl hmo (by assumption) rfl ?_
  refine j_aload_n C d_M_makes_10 rfl rfl ?_
  refine jm_get C fl_6_13 d_M_makes_11 hmo rfl ?_
  refine j_aload_n C d_M_makes_14 rfl rfl ?_
  refine jm_get C fl_6_99 d_M_makes_15 hmo rfl ?_
  refine j_iload_n C d_M_makes_18 rfl rfl ?_
  refine jm_iasti C 1 4 d_M_makes_19 (by decide) rfl hmo (by assumption) rfl ?_
  refine j_aload_n C d_M_makes_20 rfl rfl ?_
  refine jm_get C fl_6_16 d_M_makes_21 hmo rfl ?_
  refine j_aload_n C d_M_makes_24 rfl rfl ?_
  refine jm_get C fl_6_99 d_M_makes_25 hmo rfl ?_
  refine j_aload_n C d_M_makes_28 rfl rfl ?_
  refine jm_get C fl_6_106 d_M_makes_29 hmo rfl ?_
  refine jm_iasti C 2 5 d_M_makes_32 (by decide) rfl hmo (by assumption) rfl ?_
  refine j_aload_n C d_M_makes_33 rfl rfl ?_
  refine jm_get C fl_6_22 d_M_makes_34 hmo rfl ?_
  refine j_aload_n C d_M_makes_37 rfl rfl ?_
  refine jm_get C fl_6_99 d_M_makes_38 hmo rfl ?_
  refine j_iload_n C d_M_makes_41 rfl rfl ?_
  refine jm_iasti C 4 7 d_M_makes_42 (by decide) rfl hmo (by assumption) rfl ?_
  refine j_aload_n C d_M_makes_43 rfl rfl ?_
  refine j_dup C d_M_makes_44 rfl ?_
  refine jm_get C fl_6_99 d_M_makes_45 hmo rfl ?_
  refine j_iconst (v := 1) C d_M_makes_48 (by decide) ?_
  refine j_iadd C d_M_makes_49 ?_
  refine jm_puti 2 C fp_6_99 d_M_makes_50 hmo (by decide) (by first | rfl | assumption) rfl rfl ?_
  refine j_aload_n C d_M_makes_53 rfl rfl ?_
  refine jm_get C fl_6_99 d_M_makes_54 hmo rfl ?_
  refine j_iconst (v := 1) C d_M_makes_57 (by decide) ?_
  refine j_isub C d_M_makes_58 ?_
  exact j_ireturn C d_M_makes_59 rfl (by decide) (by decide) ⟨rfl, rfl, rfl⟩

def mreport (σ : Nat → Int32) (α : Nat → Nat → Int32) (i k : Int32) : Int32 × (Nat → Int32) × (Nat → Nat → Int32) :=
  let t := gsI (inI k 0 4) (inI i 0 9999) (if 30 ≤ σ 2 then 0 else 1)
  if bz t = 0 then (0, upd σ 0 t, α) else (σ 2 + 1 - 1, mmakes (upd σ 0 t) α i k (-1))
set_option maxHeartbeats 4000000 in
set_option maxRecDepth 100000 in
theorem c_M_report {l : Launch} (hl : l.stackTraces = false) {D : va_G} {cA : Nat → ClassId} {b n mo : Nat} (i k : Int32) (σ : Nat → Int32) (α : Nat → Nat → Int32) (h : AH) (hmo : mo + 27 < n) (hrm : ¬ 30 ≤ σ 2 → vp_in (σ 2) 30) : Cn l D cA b y_M_report k_M_report 1 16 0 0 [.ref mo, .int i, .int k] n (ovM mo σ α h) (Re (some (.int (mreport σ α i k).1)) n (ovM mo (mreport σ α i k).2.1 (mreport σ α i k).2.2 h)) := by
  refine Cn.of (cc := b_M_report) (maxL := 3) (ret := (some .int)) (hh := []) (by decide +kernel) hl (Or.inl ⟨rfl, rfl⟩) (Nat.le_of_ble_eq_true rfl) ?_
  intro p e s m args below meth c C
  refine j_aload_n C d_M_report_0 rfl rfl ?_
  refine j_iload_n C d_M_report_1 rfl rfl ?_
  refine j_iconst (v := 0) C d_M_report_2 (by decide) ?_
  refine j_iconst (v := 4) C d_M_report_3 (by decide) ?_
  refine j_callS C d_M_report_4 ml_M_102 mc_M_in st_M_in (c_M_in hl _ _ _ _) rfl rfl (Nat.le_of_ble_eq_true rfl) (Nat.le_of_ble_eq_true rfl) (Nat.le_of_ble_eq_true rfl) (Nat.le_of_ble_eq_true rfl) (jk_r ?_)
  refine j_iload_n C d_M_report_7 rfl rfl ?_
  refine j_iconst (v := 0) C d_M_report_8 (by decide) ?_
  refine j_sipush (v := 9999) C d_M_report_9 (by decide) ?_
  refine j_callS C d_M_report_12 ml_M_102 mc_M_in st_M_in (c_M_in hl _ _ _ _) rfl rfl (Nat.le_of_ble_eq_true rfl) (Nat.le_of_ble_eq_true rfl) (Nat.le_of_ble_eq_true rfl) (Nat.le_of_ble_eq_true rfl) (jk_r ?_)
  refine j_aload_n C d_M_report_15 rfl rfl ?_
  refine jm_get C fl_6_99 d_M_report_16 hmo rfl ?_
  refine j_bipush (v := 30) C d_M_report_19 (by decide) ?_
  refine j_icmp_ge (tgt := 28) C d_M_report_21 (by decide) (fun c21 => ?_) (fun c21 => ?_)
  · refine j_iconst (v := 0) C d_M_report_28 (by decide) ?_
    refine j_callV C d_M_report_29 ml_M_109 mc_M_goes in_M_goes rfl se_M_goes (by omega) (ovM_o _ _ _ _) (c_M_goes hl _ _ _ _ _ _ hmo) rfl rfl (Nat.le_of_ble_eq_true rfl) (Nat.le_of_ble_eq_true rfl) (Nat.le_of_ble_eq_true rfl) (Nat.le_of_ble_eq_true rfl) (jk_r ?_)
    refine j_if_ne (tgt := 37) C d_M_report_32 (by decide) (fun c32 => ?_) (fun c32 => ?_)
    · refine j_aload_n C d_M_report_37 rfl rfl ?_
      refine j_iload_n C d_M_report_38 rfl rfl ?_
      refine j_iload_n C d_M_report_39 rfl rfl ?_
      refine j_iconst (v := (-1)) C d_M_report_40 (by decide) ?_
      refine j_callV C d_M_report_41 ml_M_113 mc_M_makes in_M_makes rfl se_M_makes (by omega) (ovM_o _ _ _ _) (c_M_makes hl _ _ _ _ _ _ hmo (by first | exact hrm c21 | exact absurd rfl (gs_ok c32).2.2)) rfl rfl (Nat.le_of_ble_eq_true rfl) (Nat.le_of_ble_eq_true rfl) (Nat.le_of_ble_eq_true rfl) (Nat.le_of_ble_eq_true rfl) (jk_r ?_)
      exact j_ireturn C d_M_report_44 rfl (by decide) (by decide) ⟨by simp [mreport, *] <;> rfl, rfl, by simp [mreport, *]⟩
    · refine j_iconst (v := 0) C d_M_report_35 (by decide) ?_
      exact j_ireturn C d_M_report_36 rfl (by decide) (by decide) ⟨by simp [mreport, *] <;> rfl, rfl, by simp [mreport, *]⟩
  · refine j_iconst (v := 1) C d_M_report_24 (by decide) ?_
    refine j_goto (tgt := 29) C d_M_report_25 (by decide) ?_
    refine j_callV C d_M_report_29 ml_M_109 mc_M_goes in_M_goes rfl se_M_goes (by omega) (ovM_o _ _ _ _) (c_M_goes hl _ _ _ _ _ _ hmo) rfl rfl (Nat.le_of_ble_eq_true rfl) (Nat.le_of_ble_eq_true rfl) (Nat.le_of_ble_eq_true rfl) (Nat.le_of_ble_eq_true rfl) (jk_r ?_)
    refine j_if_ne (tgt := 37) C d_M_report_32 (by decide) (fun c32 => ?_) (fun c32 => ?_)
    · refine j_aload_n C d_M_report_37 rfl rfl ?_
      refine j_iload_n C d_M_report_38 rfl rfl ?_
      refine j_iload_n C d_M_report_39 rfl rfl ?_
      refine j_iconst (v := (-1)) C d_M_report_40 (by decide) ?_
      refine j_callV C d_M_report_41 ml_M_113 mc_M_makes in_M_makes rfl se_M_makes (by omega) (ovM_o _ _ _ _) (c_M_makes hl _ _ _ _ _ _ hmo (by first | exact hrm c21 | exact absurd rfl (gs_ok c32).2.2)) rfl rfl (Nat.le_of_ble_eq_true rfl) (Nat.le_of_ble_eq_true rfl) (Nat.le_of_ble_eq_true rfl) (Nat.le_of_ble_eq_true rfl) (jk_r ?_)
      exact j_ireturn C d_M_report_44 rfl (by decide) (by decide) ⟨by simp [mreport, *] <;> rfl, rfl, by simp [mreport, *]⟩
    · refine j_iconst (v := 0) C d_M_report_35 (by decide) ?_
      exact j_ireturn C d_M_report_36 rfl (by decide) (by decide) ⟨by simp [mreport, *] <;> rfl, rfl, by simp [mreport, *]⟩

def mask (σ : Nat → Int32) (α : Nat → Nat → Int32) (k f on : Int32) : (Nat → Int32) × (Nat → Nat → Int32) := if kn2 (inI k 0 4) (inI f 0 19) = 0 then (upd σ 0 1, α) else (upd σ 0 0, upa α 14 (upd (α 14) (20 * k + f).toNatClampNeg (vp_nar .boolean on)))
def mhide (σ : Nat → Int32) (α : Nat → Nat → Int32) (f q on : Int32) : (Nat → Int32) × (Nat → Nat → Int32) := if kn2 (inI f 0 19) (inI q 0 19) = 0 then (upd σ 0 1, α) else (upd σ 0 0, upa α 15 (upd (α 15) (20 * f + q).toNatClampNeg (vp_nar .boolean on)))
set_option maxHeartbeats 4000000 in
set_option maxRecDepth 100000 in
theorem c_M_ask {l : Launch} (hl : l.stackTraces = false) {D : va_G} {cA : Nat → ClassId} {b n mo : Nat} (k f on : Int32) (σ : Nat → Int32) (α : Nat → Nat → Int32) (h : AH) (hmo : mo + 27 < n) : Cn l D cA b y_M_ask k_M_ask 2 27 0 0 [.ref mo, .int k, .int f, .int on] n (ovM mo σ α h) (Re none n (ovM mo (mask σ α k f on).1 (mask σ α k f on).2 h)) := by
  refine Cn.of (cc := b_M_ask) (maxL := 4) (ret := none) (hh := []) (by decide +kernel) hl (Or.inl ⟨rfl, rfl⟩) (Nat.le_of_ble_eq_true rfl) ?_
  intro p e s m args below meth c C
  refine j_aload_n C d_M_ask_0 rfl rfl ?_
  refine j_iload_n C d_M_ask_1 rfl rfl ?_
  refine j_iconst (v := 0) C d_M_ask_2 (by decide) ?_
  refine j_iconst (v := 4) C d_M_ask_3 (by decide) ?_
  refine j_callS C d_M_ask_4 ml_M_102 mc_M_in st_M_in (c_M_in hl _ _ _ _) rfl rfl (Nat.le_of_ble_eq_true rfl) (Nat.le_of_ble_eq_true rfl) (Nat.le_of_ble_eq_true rfl) (Nat.le_of_ble_eq_true rfl) (jk_r ?_)
  refine j_if_eq (tgt := 21) C d_M_ask_7 (by decide) (fun c7 => ?_) (fun c7 => ?_)
  · refine j_iconst (v := 0) C d_M_ask_21 (by decide) ?_
    refine j_iconst (v := 1) C d_M_ask_22 (by decide) ?_
    refine j_iconst (v := 1) C d_M_ask_23 (by decide) ?_
    refine j_callV C d_M_ask_24 ml_M_109 mc_M_goes in_M_goes rfl se_M_goes (by omega) (ovM_o _ _ _ _) (c_M_goes hl _ _ _ _ _ _ hmo) rfl rfl (Nat.le_of_ble_eq_true rfl) (Nat.le_of_ble_eq_true rfl) (Nat.le_of_ble_eq_true rfl) (Nat.le_of_ble_eq_true rfl) (jk_r ?_)
    refine j_if_eq (tgt := 42) C d_M_ask_27 (by decide) (fun c27 => ?_) (fun c27 => ?_)
    · exact j_vreturn C d_M_ask_42 rfl (by decide) (by decide) ⟨rfl, rfl, by first | (simp [mask, kn2, *]; done) | (simp [mask, kn2, gsI, *]; done) | exact absurd (by decide) c27 | exact absurd c27 (by decide)⟩
    · refine j_aload_n C d_M_ask_30 rfl rfl ?_
      refine jm_get C fl_6_44 d_M_ask_31 hmo rfl ?_
      refine j_bipush (v := 20) C d_M_ask_34 (by decide) ?_
      refine j_iload_n C d_M_ask_36 rfl rfl ?_
      refine j_imul C d_M_ask_37 ?_
      refine j_iload_n C d_M_ask_38 rfl rfl ?_
      refine j_iadd C d_M_ask_39 ?_
      refine j_iload_n C d_M_ask_40 rfl rfl ?_
      refine jm_zasti C 11 14 d_M_ask_41 (by decide) rfl hmo (by first | exact ix20 (ka := 4) (by omega) (by omega) (by omega) c7 c14 | exact absurd (by decide) c27) rfl ?_
      exact j_vreturn C d_M_ask_42 rfl (by decide) (by decide) ⟨rfl, rfl, by first | (simp [mask, kn2, *]; done) | (simp [mask, kn2, gsI, *]; done) | exact absurd (by decide) c27 | exact absurd c27 (by decide)⟩
  · refine j_iload_n C d_M_ask_10 rfl rfl ?_
    refine j_callS C d_M_ask_11 ml_M_117 mc_M_isField st_M_isField (c_M_isField hl _ _) rfl rfl (Nat.le_of_ble_eq_true rfl) (Nat.le_of_ble_eq_true rfl) (Nat.le_of_ble_eq_true rfl) (Nat.le_of_ble_eq_true rfl) (jk_r ?_)
    refine j_if_eq (tgt := 21) C d_M_ask_14 (by decide) (fun c14 => ?_) (fun c14 => ?_)
    · refine j_iconst (v := 0) C d_M_ask_21 (by decide) ?_
      refine j_iconst (v := 1) C d_M_ask_22 (by decide) ?_
      refine j_iconst (v := 1) C d_M_ask_23 (by decide) ?_
      refine j_callV C d_M_ask_24 ml_M_109 mc_M_goes in_M_goes rfl se_M_goes (by omega) (ovM_o _ _ _ _) (c_M_goes hl _ _ _ _ _ _ hmo) rfl rfl (Nat.le_of_ble_eq_true rfl) (Nat.le_of_ble_eq_true rfl) (Nat.le_of_ble_eq_true rfl) (Nat.le_of_ble_eq_true rfl) (jk_r ?_)
      refine j_if_eq (tgt := 42) C d_M_ask_27 (by decide) (fun c27 => ?_) (fun c27 => ?_)
      · exact j_vreturn C d_M_ask_42 rfl (by decide) (by decide) ⟨rfl, rfl, by first | (simp [mask, kn2, *]; done) | (simp [mask, kn2, gsI, *]; done) | exact absurd (by decide) c27 | exact absurd c27 (by decide)⟩
      · refine j_aload_n C d_M_ask_30 rfl rfl ?_
        refine jm_get C fl_6_44 d_M_ask_31 hmo rfl ?_
        refine j_bipush (v := 20) C d_M_ask_34 (by decide) ?_
        refine j_iload_n C d_M_ask_36 rfl rfl ?_
        refine j_imul C d_M_ask_37 ?_
        refine j_iload_n C d_M_ask_38 rfl rfl ?_
        refine j_iadd C d_M_ask_39 ?_
        refine j_iload_n C d_M_ask_40 rfl rfl ?_
        refine jm_zasti C 11 14 d_M_ask_41 (by decide) rfl hmo (by first | exact ix20 (ka := 4) (by omega) (by omega) (by omega) c7 c14 | exact absurd (by decide) c27) rfl ?_
        exact j_vreturn C d_M_ask_42 rfl (by decide) (by decide) ⟨rfl, rfl, by first | (simp [mask, kn2, *]; done) | (simp [mask, kn2, gsI, *]; done) | exact absurd (by decide) c27 | exact absurd c27 (by decide)⟩
    · refine j_iconst (v := 1) C d_M_ask_17 (by decide) ?_
      refine j_goto (tgt := 22) C d_M_ask_18 (by decide) ?_
      refine j_iconst (v := 1) C d_M_ask_22 (by decide) ?_
      refine j_iconst (v := 1) C d_M_ask_23 (by decide) ?_
      refine j_callV C d_M_ask_24 ml_M_109 mc_M_goes in_M_goes rfl se_M_goes (by omega) (ovM_o _ _ _ _) (c_M_goes hl _ _ _ _ _ _ hmo) rfl rfl (Nat.le_of_ble_eq_true rfl) (Nat.le_of_ble_eq_true rfl) (Nat.le_of_ble_eq_true rfl) (Nat.le_of_ble_eq_true rfl) (jk_r ?_)
      refine j_if_eq (tgt := 42) C d_M_ask_27 (by decide) (fun c27 => ?_) (fun c27 => ?_)
      · exact j_vreturn C d_M_ask_42 rfl (by decide) (by decide) ⟨rfl, rfl, by first | (simp [mask, kn2, *]; done) | (simp [mask, kn2, gsI, *]; done) | exact absurd (by decide) c27 | exact absurd c27 (by decide)⟩
      · refine j_aload_n C d_M_ask_30 rfl rfl ?_
        refine jm_get C fl_6_44 d_M_ask_31 hmo rfl ?_
        refine j_bipush (v := 20) C d_M_ask_34 (by decide) ?_
        refine j_iload_n C d_M_ask_36 rfl rfl ?_
        refine j_imul C d_M_ask_37 ?_
        refine j_iload_n C d_M_ask_38 rfl rfl ?_
        refine j_iadd C d_M_ask_39 ?_
        refine j_iload_n C d_M_ask_40 rfl rfl ?_
        refine jm_zasti C 11 14 d_M_ask_41 (by decide) rfl hmo (by first | exact ix20 (ka := 4) (by omega) (by omega) (by omega) c7 c14 | exact absurd (by decide) c27) rfl ?_
        exact j_vreturn C d_M_ask_42 rfl (by decide) (by decide) ⟨rfl, rfl, by first | (simp [mask, kn2, *]; done) | (simp [mask, kn2, gsI, *]; done) | exact absurd (by decide) c27 | exact absurd c27 (by decide)⟩

set_option maxHeartbeats 4000000 in
set_option maxRecDepth 100000 in
theorem c_M_hide {l : Launch} (hl : l.stackTraces = false) {D : va_G} {cA : Nat → ClassId} {b n mo : Nat} (f q on : Int32) (σ : Nat → Int32) (α : Nat → Nat → Int32) (h : AH) (hmo : mo + 27 < n) : Cn l D cA b y_M_hide k_M_hide 2 27 0 0 [.ref mo, .int f, .int q, .int on] n (ovM mo σ α h) (Re none n (ovM mo (mhide σ α f q on).1 (mhide σ α f q on).2 h)) := by
  refine Cn.of (cc := b_M_hide) (maxL := 4) (ret := none) (hh := []) (by decide +kernel) hl (Or.inl ⟨rfl, rfl⟩) (Nat.le_of_ble_eq_true rfl) ?_
  intro p e s m args below meth c C
  refine j_aload_n C d_M_hide_0 rfl rfl ?_
  refine j_iload_n C d_M_hide_1 rfl rfl ?_
  refine j_callS C d_M_hide_2 ml_M_117 mc_M_isField st_M_isField (c_M_isField hl _ _) rfl rfl (Nat.le_of_ble_eq_true rfl) (Nat.le_of_ble_eq_true rfl) (Nat.le_of_ble_eq_true rfl) (Nat.le_of_ble_eq_true rfl) (jk_r ?_)
  refine j_if_eq (tgt := 19) C d_M_hide_5 (by decide) (fun c5 => ?_) (fun c5 => ?_)
  · refine j_iconst (v := 0) C d_M_hide_19 (by decide) ?_
    refine j_iconst (v := 1) C d_M_hide_20 (by decide) ?_
    refine j_iconst (v := 1) C d_M_hide_21 (by decide) ?_
    refine j_callV C d_M_hide_22 ml_M_109 mc_M_goes in_M_goes rfl se_M_goes (by omega) (ovM_o _ _ _ _) (c_M_goes hl _ _ _ _ _ _ hmo) rfl rfl (Nat.le_of_ble_eq_true rfl) (Nat.le_of_ble_eq_true rfl) (Nat.le_of_ble_eq_true rfl) (Nat.le_of_ble_eq_true rfl) (jk_r ?_)
    refine j_if_eq (tgt := 40) C d_M_hide_25 (by decide) (fun c25 => ?_) (fun c25 => ?_)
    · exact j_vreturn C d_M_hide_40 rfl (by decide) (by decide) ⟨rfl, rfl, by first | (simp [mhide, kn2, *]; done) | (simp [mhide, kn2, gsI, *]; done) | exact absurd (by decide) c25 | exact absurd c25 (by decide)⟩
    · refine j_aload_n C d_M_hide_28 rfl rfl ?_
      refine jm_get C fl_6_47 d_M_hide_29 hmo rfl ?_
      refine j_bipush (v := 20) C d_M_hide_32 (by decide) ?_
      refine j_iload_n C d_M_hide_34 rfl rfl ?_
      refine j_imul C d_M_hide_35 ?_
      refine j_iload_n C d_M_hide_36 rfl rfl ?_
      refine j_iadd C d_M_hide_37 ?_
      refine j_iload_n C d_M_hide_38 rfl rfl ?_
      refine jm_zasti C 12 15 d_M_hide_39 (by decide) rfl hmo (by first | exact ix20 (ka := 19) (by omega) (by omega) (by omega) c5 c12 | exact absurd (by decide) c25) rfl ?_
      exact j_vreturn C d_M_hide_40 rfl (by decide) (by decide) ⟨rfl, rfl, by first | (simp [mhide, kn2, *]; done) | (simp [mhide, kn2, gsI, *]; done) | exact absurd (by decide) c25 | exact absurd c25 (by decide)⟩
  · refine j_iload_n C d_M_hide_8 rfl rfl ?_
    refine j_callS C d_M_hide_9 ml_M_200 mc_M_isPerson st_M_isPerson (c_M_isPerson hl _ _) rfl rfl (Nat.le_of_ble_eq_true rfl) (Nat.le_of_ble_eq_true rfl) (Nat.le_of_ble_eq_true rfl) (Nat.le_of_ble_eq_true rfl) (jk_r ?_)
    refine j_if_eq (tgt := 19) C d_M_hide_12 (by decide) (fun c12 => ?_) (fun c12 => ?_)
    · refine j_iconst (v := 0) C d_M_hide_19 (by decide) ?_
      refine j_iconst (v := 1) C d_M_hide_20 (by decide) ?_
      refine j_iconst (v := 1) C d_M_hide_21 (by decide) ?_
      refine j_callV C d_M_hide_22 ml_M_109 mc_M_goes in_M_goes rfl se_M_goes (by omega) (ovM_o _ _ _ _) (c_M_goes hl _ _ _ _ _ _ hmo) rfl rfl (Nat.le_of_ble_eq_true rfl) (Nat.le_of_ble_eq_true rfl) (Nat.le_of_ble_eq_true rfl) (Nat.le_of_ble_eq_true rfl) (jk_r ?_)
      refine j_if_eq (tgt := 40) C d_M_hide_25 (by decide) (fun c25 => ?_) (fun c25 => ?_)
      · exact j_vreturn C d_M_hide_40 rfl (by decide) (by decide) ⟨rfl, rfl, by first | (simp [mhide, kn2, *]; done) | (simp [mhide, kn2, gsI, *]; done) | exact absurd (by decide) c25 | exact absurd c25 (by decide)⟩
      · refine j_aload_n C d_M_hide_28 rfl rfl ?_
        refine jm_get C fl_6_47 d_M_hide_29 hmo rfl ?_
        refine j_bipush (v := 20) C d_M_hide_32 (by decide) ?_
        refine j_iload_n C d_M_hide_34 rfl rfl ?_
        refine j_imul C d_M_hide_35 ?_
        refine j_iload_n C d_M_hide_36 rfl rfl ?_
        refine j_iadd C d_M_hide_37 ?_
        refine j_iload_n C d_M_hide_38 rfl rfl ?_
        refine jm_zasti C 12 15 d_M_hide_39 (by decide) rfl hmo (by first | exact ix20 (ka := 19) (by omega) (by omega) (by omega) c5 c12 | exact absurd (by decide) c25) rfl ?_
        exact j_vreturn C d_M_hide_40 rfl (by decide) (by decide) ⟨rfl, rfl, by first | (simp [mhide, kn2, *]; done) | (simp [mhide, kn2, gsI, *]; done) | exact absurd (by decide) c25 | exact absurd c25 (by decide)⟩
    · refine j_iconst (v := 1) C d_M_hide_15 (by decide) ?_
      refine j_goto (tgt := 20) C d_M_hide_16 (by decide) ?_
      refine j_iconst (v := 1) C d_M_hide_20 (by decide) ?_
      refine j_iconst (v := 1) C d_M_hide_21 (by decide) ?_
      refine j_callV C d_M_hide_22 ml_M_109 mc_M_goes in_M_goes rfl se_M_goes (by omega) (ovM_o _ _ _ _) (c_M_goes hl _ _ _ _ _ _ hmo) rfl rfl (Nat.le_of_ble_eq_true rfl) (Nat.le_of_ble_eq_true rfl) (Nat.le_of_ble_eq_true rfl) (Nat.le_of_ble_eq_true rfl) (jk_r ?_)
      refine j_if_eq (tgt := 40) C d_M_hide_25 (by decide) (fun c25 => ?_) (fun c25 => ?_)
      · exact j_vreturn C d_M_hide_40 rfl (by decide) (by decide) ⟨rfl, rfl, by first | (simp [mhide, kn2, *]; done) | (simp [mhide, kn2, gsI, *]; done) | exact absurd (by decide) c25 | exact absurd c25 (by decide)⟩
      · refine j_aload_n C d_M_hide_28 rfl rfl ?_
        refine jm_get C fl_6_47 d_M_hide_29 hmo rfl ?_
        refine j_bipush (v := 20) C d_M_hide_32 (by decide) ?_
        refine j_iload_n C d_M_hide_34 rfl rfl ?_
        refine j_imul C d_M_hide_35 ?_
        refine j_iload_n C d_M_hide_36 rfl rfl ?_
        refine j_iadd C d_M_hide_37 ?_
        refine j_iload_n C d_M_hide_38 rfl rfl ?_
        refine jm_zasti C 12 15 d_M_hide_39 (by decide) rfl hmo (by first | exact ix20 (ka := 19) (by omega) (by omega) (by omega) c5 c12 | exact absurd (by decide) c25) rfl ?_
        exact j_vreturn C d_M_hide_40 rfl (by decide) (by decide) ⟨rfl, rfl, by first | (simp [mhide, kn2, *]; done) | (simp [mhide, kn2, gsI, *]; done) | exact absurd (by decide) c25 | exact absurd c25 (by decide)⟩
end
section
/-! ===== contracts of the reference: opened ===== -/
/-- how many of g's places b, b + 1, .. (k of them) aren't 0, from c on -/
def opn (g : Nat → Int32) (b : Nat) : Nat → Nat → Int32 → Int32
  | 0, _, c => c
  | k + 1, i, c => opn g b k (i + 1) (if g (b + i) = 0 then c else c + 1)
theorem nI_inc (i : Nat) : nI i + Int32.ofInt 1 = nI (i + 1) := nI_1 i
theorem nI_nle20 {i N : Nat} (h : i < N) (hN : N < 2 ^ 31 := by omega) : ¬ nI N ≤ nI i := nI_ge h hN
set_option maxHeartbeats 4000000 in
set_option maxRecDepth 100000 in
theorem c_M_opened {l : Launch} (hl : l.stackTraces = false) {D : va_G} {cA : Nat → ClassId} {b n mo : Nat} (r : Nat) (σ : Nat → Int32) (α : Nat → Nat → Int32) (h : AH) (hmo : mo + 27 < n) (hrl : r < 30) : Cn l D cA b y_M_opened k_M_opened 0 0 0 0 [.ref mo, .int (nI r)] n (ovM mo σ α h) (Re (some (.int (opn (α 12) (20 * r) 20 0 0))) n (ovM mo σ α h)) := by
  refine Cn.of (cc := b_M_opened) (maxL := 4) (ret := (some .int)) (hh := []) (by decide +kernel) hl (Or.inl ⟨rfl, rfl⟩) (Nat.le_of_ble_eq_true rfl) ?_
  intro p e s m args below meth c C
  have loop : ∀ (k i : Nat) (cnt : Int32), i + k = 20 → opn (α 12) (20 * r) k i cnt = opn (α 12) (20 * r) 20 0 0 → J p l e { frames := 0, cells := 0, slots := 0, locals := 0 } s m args below meth c D cA b 4 (EndQ D cA b s below (Re (some (.int (opn (α 12) (20 * r) 20 0 0))) n (ovM mo σ α h)) 0 0) n (ovM mo σ α h) 0 0 4 [(3, .int (nI i)), (2, .int cnt), (0, .ref mo), (1, .int (nI r))] [] := by
    intro k
    induction k with
    | zero =>
      intro i cnt hi hv
      obtain rfl : i = 20 := by omega
      refine j_iload_n C d_M_opened_4 rfl rfl ?_
      refine j_bipush (v := 20) C d_M_opened_5 (by decide) ?_
      refine j_icmp_ge (tgt := 33) C d_M_opened_7 (by decide) (fun c7 => ?_) (fun c7 => absurd (by decide) c7)
      refine j_iload_n C d_M_opened_33 rfl rfl ?_
      exact j_ireturn C d_M_opened_34 rfl (by decide) (by decide) ⟨by rw [← hv]; rfl, rfl, rfl⟩
    | succ k ih =>
      intro i cnt hi hv
      have hin : vp_in (20 * nI r + nI i) 600 := by rw [e20]; exact vp_in_nI (by omega) (by omega)
      have hcl : (20 * nI r + nI i).toNatClampNeg = 20 * r + i := by rw [e20]; exact nI_clamp (by omega)
      refine j_iload_n C d_M_opened_4 rfl rfl ?_
      refine j_bipush (v := 20) C d_M_opened_5 (by decide) ?_
      refine j_icmp_ge (tgt := 33) C d_M_opened_7 (by decide) (fun c7 => ?_) (fun c7 => ?_)
      · exact absurd c7 (nI_nle20 (N := 20) (by omega))
      · refine j_aload_n C d_M_opened_10 rfl rfl ?_
        refine jm_get C fl_6_38 d_M_opened_11 hmo rfl ?_
        refine j_bipush (v := 20) C d_M_opened_14 (by decide) ?_
        refine j_iload_n C d_M_opened_16 rfl rfl ?_
        refine j_imul C d_M_opened_17 ?_
        refine j_iload_n C d_M_opened_18 rfl rfl ?_
        refine j_iadd C d_M_opened_19 ?_
        refine jm_zald C 9 d_M_opened_20 (by decide) rfl hmo hin rfl ?_
        refine j_if_eq (tgt := 27) C d_M_opened_21 (by decide) (fun c21 => ?_) (fun c21 => ?_)
        · refine j_iinc (v := nI (i + 1)) C d_M_opened_27 rfl (nI_inc i) (by decide) rfl ?_
          refine j_goto (tgt := 4) C d_M_opened_30 (by decide) ?_
          first
            | exact j_pick [0, 1, 2, 3] rfl (ih (i + 1) (cnt + 1) (by omega) (by rw [← hv]; show _ = opn (α 12) (20 * r) k (i + 1) (if _ = 0 then cnt else cnt + 1); rw [← hcl, if_neg c21]))
            | exact j_pick [0, 1, 2, 3] rfl (ih (i + 1) cnt (by omega) (by rw [← hv]; show _ = opn (α 12) (20 * r) k (i + 1) (if _ = 0 then cnt else cnt + 1); rw [← hcl, if_pos c21]))
        · refine j_iinc (v := cnt + 1) C d_M_opened_24 rfl rfl (by decide) rfl ?_
          refine j_iinc (v := nI (i + 1)) C d_M_opened_27 rfl (nI_inc i) (by decide) rfl ?_
          refine j_goto (tgt := 4) C d_M_opened_30 (by decide) ?_
          first
            | exact j_pick [0, 1, 2, 3] rfl (ih (i + 1) (cnt + 1) (by omega) (by rw [← hv]; show _ = opn (α 12) (20 * r) k (i + 1) (if _ = 0 then cnt else cnt + 1); rw [← hcl, if_neg c21]))
            | exact j_pick [0, 1, 2, 3] rfl (ih (i + 1) cnt (by omega) (by rw [← hv]; show _ = opn (α 12) (20 * r) k (i + 1) (if _ = 0 then cnt else cnt + 1); rw [← hcl, if_pos c21]))
  refine j_iconst (v := 0) C d_M_opened_0 (by decide) ?_
  refine j_istore_n C d_M_opened_1 rfl (by decide) rfl ?_
  refine j_iconst (v := 0) C d_M_opened_2 (by decide) ?_
  refine j_istore_n C d_M_opened_3 rfl (by decide) rfl ?_
  exact j_pick [0, 1, 2, 3] rfl (loop 20 0 0 rfl rfl)
end
section
/-! ===== contracts of the reference: further public methods ===== -/
def mat (σ : Nat → Int32) (α : Nat → Nat → Int32) (i : Int32) : Int32 × (Nat → Int32) := if i < 0 then (0, upd σ 0 1) else (if σ 37 ≤ i then -1 else α 38 i.toNatClampNeg, upd σ 0 0)
def minside (σ : Nat → Int32) (α : Nat → Nat → Int32) (r k : Int32) : (Nat → Int32) × (Nat → Nat → Int32) :=
  let t := gsI (inI r 0 (σ 2 - 1)) (inI k 0 99) (if inI r 0 (σ 2 - 1) = 0 then 0 else if α 8 r.toNatClampNeg = 0 then 1 else 0)
  if bz t = 0 then (upd σ 0 t, α) else (upd σ 0 t, upa α 6 (upd (α 6) r.toNatClampNeg k))
def mkn (σ : Nat → Int32) (r f : Int32) : Int32 := kn2 (inI r 0 (σ 2 - 1)) (inI f 0 19)
def mvalue (σ : Nat → Int32) (α : Nat → Nat → Int32) (r f : Int32) : Int32 × (Nat → Int32) :=
  let t := gsI (mkn σ r f) (if mkn σ r f = 0 then 0 else if α 10 (20 * r + f).toNatClampNeg = 0 then 0 else 1) 1
  if bz t = 0 then (0, upd σ 0 t) else (α 13 (20 * r + f).toNatClampNeg, upd σ 0 t)
def mtell (α : Nat → Nat → Int32) (j : Nat) (v : Int32) : Nat → Nat → Int32 := upa (upa (upa (upa α 10 (upd (α 10) j 1)) 11 (upd (α 11) j 0)) 12 (upd (α 12) j 0)) 13 (upd (α 13) j v)
def mfield (σ : Nat → Int32) (α : Nat → Nat → Int32) (r f v : Int32) : (Nat → Int32) × (Nat → Nat → Int32) :=
  let t := gsI (mkn σ r f) (inI v (-99999) 99999) (if mkn σ r f = 0 then 0 else if α 8 r.toNatClampNeg = 0 then 1 else if α 12 (20 * r + f).toNatClampNeg = 0 then 0 else 1)
  if bz t = 0 then (upd σ 0 t, α) else (upd σ 0 t, mtell α (20 * r + f).toNatClampNeg v)
def mfault (σ : Nat → Int32) (α : Nat → Nat → Int32) (r f : Int32) : (Nat → Int32) × (Nat → Nat → Int32) :=
  let t := gsI (mkn σ r f) (if mkn σ r f = 0 then 0 else if α 8 r.toNatClampNeg = 3 then (if α 12 (20 * r + f).toNatClampNeg = 0 then 1 else 0) else 0) 1
  if bz t = 0 then (upd σ 0 t, α) else (upd σ 0 t, upa α 12 (upd (α 12) (20 * r + f).toNatClampNeg 1))
def mact (σ : Nat → Int32) (α : Nat → Nat → Int32) (r k t : Int32) : Int32 × (Nat → Int32) × (Nat → Nat → Int32) :=
  let kn := kn2 (inI r 0 (σ 2 - 1)) (inI k 0 9)
  let g := gsI kn (inI t 0 (σ 1)) (if kn = 0 then 0 else if α 8 r.toNatClampNeg = 0 then 1 else 0)
  let j := (20 * r + k).toNatClampNeg
  if bz g = 0 then (0, upd σ 0 g, α) else
  if α 10 j = 0 ∨ (¬ α 11 j = 0 ∧ t < α 13 j) then (1, upd σ 0 g, upa (upa (upa α 10 (upd (α 10) j 1)) 11 (upd (α 11) j 1)) 13 (upd (α 13) j t)) else (0, upd σ 0 g, α)
def mwanting (σ : Nat → Int32) (α : Nat → Nat → Int32) (i w : Int32) : Int32 × (Nat → Int32) :=
  if kn2 (inI i 0 (σ 34 - 1)) (inI w 0 1) = 0 then (0, upd σ 0 1) else (if w = 0 then α 35 i.toNatClampNeg else α 36 i.toNatClampNeg, upd σ 0 0)
theorem upa_n {α : Nat → Nat → Int32} {k j : Nat} {f : Nat → Int32} (hj : j ≠ k) : upa α k f j = α j := if_neg hj
theorem nar1 : vp_nar .boolean 1 = 1 := rfl
theorem nar0 : vp_nar .boolean 0 = 0 := rfl
set_option maxHeartbeats 4000000 in
set_option maxRecDepth 100000 in
theorem c_M_at {l : Launch} (hl : l.stackTraces = false) {D : va_G} {cA : Nat → ClassId} {b n mo : Nat} (i : Int32) (σ : Nat → Int32) (α : Nat → Nat → Int32) (h : AH) (hmo : mo + 27 < n) (hcd : ¬ i < 0 → ¬ σ 37 ≤ i → vp_in i 300) : Cn l D cA b y_M_at k_M_at 1 15 0 0 [.ref mo, .int i] n (ovM mo σ α h) (Re (some (.int (mat σ α i).1)) n (ovM mo (mat σ α i).2 α h)) := by
  refine Cn.of (cc := b_M_at) (maxL := 2) (ret := (some .int)) (hh := []) (by decide +kernel) hl (Or.inl ⟨rfl, rfl⟩) (Nat.le_of_ble_eq_true rfl) ?_
  intro p e s m args below meth c C
  refine j_aload_n C d_M_at_0 rfl rfl ?_
  refine j_iload_n C d_M_at_1 rfl rfl ?_
  refine j_if_lt (tgt := 9) C d_M_at_2 (by decide) (fun c2 => ?_) (fun c2 => ?_)
  · refine j_iconst (v := 0) C d_M_at_9 (by decide) ?_
    refine j_iconst (v := 1) C d_M_at_10 (by decide) ?_
    refine j_iconst (v := 1) C d_M_at_11 (by decide) ?_
    refine j_callV C d_M_at_12 ml_M_109 mc_M_goes in_M_goes rfl se_M_goes (by omega) (ovM_o _ _ _ _) (c_M_goes hl _ _ _ _ _ _ hmo) rfl rfl (Nat.le_of_ble_eq_true rfl) (Nat.le_of_ble_eq_true rfl) (Nat.le_of_ble_eq_true rfl) (Nat.le_of_ble_eq_true rfl) (jk_r ?_)
    refine j_if_ne (tgt := 20) C d_M_at_15 (by decide) (fun c15 => ?_) (fun c15 => ?_)
    · refine j_iload_n C d_M_at_20 rfl rfl ?_
      refine j_aload_n C d_M_at_21 rfl rfl ?_
      refine jm_get C fl_6_206 d_M_at_22 hmo rfl ?_
      refine j_icmp_ge (tgt := 37) C d_M_at_25 (by decide) (fun c25 => ?_) (fun c25 => ?_)
      · refine j_iconst (v := (-1)) C d_M_at_37 (by decide) ?_
        exact j_ireturn C d_M_at_38 rfl (by decide) (by decide) ⟨by first | (simp [mat, mkn, kn2, nar1, nar0, pk_un, upa_n, c2, c15, c25]; done) | (simp [mat, mkn, kn2, gsI, bz, nar1, nar0, pk_un, upa_n, c2, c15, c25]; done) | exact absurd c15 (by decide) | exact absurd rfl (gs_ok c15).1 | exact absurd rfl (gs_ok c15).2.1 | exact absurd rfl (gs_ok c15).2.2 | (rw [show upd σ 0 (gsI 1 1 1) 37 = σ 37 from rfl] at c25; simp [mat, c2, c25]; done), rfl, by first | (simp [mat, mkn, kn2, nar1, nar0, pk_un, upa_n, c2, c15, c25]; done) | (simp [mat, mkn, kn2, gsI, bz, nar1, nar0, pk_un, upa_n, c2, c15, c25]; done) | exact absurd c15 (by decide) | exact absurd rfl (gs_ok c15).1 | exact absurd rfl (gs_ok c15).2.1 | exact absurd rfl (gs_ok c15).2.2⟩
      · refine j_aload_n C d_M_at_28 rfl rfl ?_
        refine jm_get C fl_6_93 d_M_at_29 hmo rfl ?_
        refine j_iload_n C d_M_at_32 rfl rfl ?_
        refine jm_iald C 26 d_M_at_33 (by decide) rfl hmo (by first | exact hcd c2 c25 | exact absurd rfl (gs_ok c15).1) rfl ?_
        refine j_goto (tgt := 38) C d_M_at_34 (by decide) ?_
        exact j_ireturn C d_M_at_38 rfl (by decide) (by decide) ⟨by first | (simp [mat, mkn, kn2, nar1, nar0, pk_un, upa_n, c2, c15, c25]; done) | (simp [mat, mkn, kn2, gsI, bz, nar1, nar0, pk_un, upa_n, c2, c15, c25]; done) | exact absurd c15 (by decide) | exact absurd rfl (gs_ok c15).1 | exact absurd rfl (gs_ok c15).2.1 | exact absurd rfl (gs_ok c15).2.2 | (rw [show upd σ 0 (gsI 1 1 1) 37 = σ 37 from rfl] at c25; simp [mat, c2, c25]; done), rfl, by first | (simp [mat, mkn, kn2, nar1, nar0, pk_un, upa_n, c2, c15, c25]; done) | (simp [mat, mkn, kn2, gsI, bz, nar1, nar0, pk_un, upa_n, c2, c15, c25]; done) | exact absurd c15 (by decide) | exact absurd rfl (gs_ok c15).1 | exact absurd rfl (gs_ok c15).2.1 | exact absurd rfl (gs_ok c15).2.2⟩
    · refine j_iconst (v := 0) C d_M_at_18 (by decide) ?_
      exact j_ireturn C d_M_at_19 rfl (by decide) (by decide) ⟨by first | (simp [mat, mkn, kn2, nar1, nar0, pk_un, upa_n, c2, c15]; done) | (simp [mat, mkn, kn2, gsI, bz, nar1, nar0, pk_un, upa_n, c2, c15]; done) | exact absurd c15 (by decide) | exact absurd rfl (gs_ok c15).1 | exact absurd rfl (gs_ok c15).2.1 | exact absurd rfl (gs_ok c15).2.2 | (rw [show upd σ 0 (gsI 1 1 1) 37 = σ 37 from rfl] at c25; simp [mat, c2, c25]; done), rfl, by first | (simp [mat, mkn, kn2, nar1, nar0, pk_un, upa_n, c2, c15]; done) | (simp [mat, mkn, kn2, gsI, bz, nar1, nar0, pk_un, upa_n, c2, c15]; done) | exact absurd c15 (by decide) | exact absurd rfl (gs_ok c15).1 | exact absurd rfl (gs_ok c15).2.1 | exact absurd rfl (gs_ok c15).2.2⟩
  · refine j_iconst (v := 1) C d_M_at_5 (by decide) ?_
    refine j_goto (tgt := 10) C d_M_at_6 (by decide) ?_
    refine j_iconst (v := 1) C d_M_at_10 (by decide) ?_
    refine j_iconst (v := 1) C d_M_at_11 (by decide) ?_
    refine j_callV C d_M_at_12 ml_M_109 mc_M_goes in_M_goes rfl se_M_goes (by omega) (ovM_o _ _ _ _) (c_M_goes hl _ _ _ _ _ _ hmo) rfl rfl (Nat.le_of_ble_eq_true rfl) (Nat.le_of_ble_eq_true rfl) (Nat.le_of_ble_eq_true rfl) (Nat.le_of_ble_eq_true rfl) (jk_r ?_)
    refine j_if_ne (tgt := 20) C d_M_at_15 (by decide) (fun c15 => ?_) (fun c15 => ?_)
    · refine j_iload_n C d_M_at_20 rfl rfl ?_
      refine j_aload_n C d_M_at_21 rfl rfl ?_
      refine jm_get C fl_6_206 d_M_at_22 hmo rfl ?_
      refine j_icmp_ge (tgt := 37) C d_M_at_25 (by decide) (fun c25 => ?_) (fun c25 => ?_)
      · refine j_iconst (v := (-1)) C d_M_at_37 (by decide) ?_
        exact j_ireturn C d_M_at_38 rfl (by decide) (by decide) ⟨by first | (simp [mat, mkn, kn2, nar1, nar0, pk_un, upa_n, c2, c15, c25]; done) | (simp [mat, mkn, kn2, gsI, bz, nar1, nar0, pk_un, upa_n, c2, c15, c25]; done) | exact absurd c15 (by decide) | exact absurd rfl (gs_ok c15).1 | exact absurd rfl (gs_ok c15).2.1 | exact absurd rfl (gs_ok c15).2.2 | (rw [show upd σ 0 (gsI 1 1 1) 37 = σ 37 from rfl] at c25; simp [mat, c2, c25]; done), rfl, by first | (simp [mat, mkn, kn2, nar1, nar0, pk_un, upa_n, c2, c15, c25]; done) | (simp [mat, mkn, kn2, gsI, bz, nar1, nar0, pk_un, upa_n, c2, c15, c25]; done) | exact absurd c15 (by decide) | exact absurd rfl (gs_ok c15).1 | exact absurd rfl (gs_ok c15).2.1 | exact absurd rfl (gs_ok c15).2.2⟩
      · refine j_aload_n C d_M_at_28 rfl rfl ?_
        refine jm_get C fl_6_93 d_M_at_29 hmo rfl ?_
        refine j_iload_n C d_M_at_32 rfl rfl ?_
        refine jm_iald C 26 d_M_at_33 (by decide) rfl hmo (by first | exact hcd c2 c25 | exact absurd rfl (gs_ok c15).1) rfl ?_
        refine j_goto (tgt := 38) C d_M_at_34 (by decide) ?_
        exact j_ireturn C d_M_at_38 rfl (by decide) (by decide) ⟨by first | (simp [mat, mkn, kn2, nar1, nar0, pk_un, upa_n, c2, c15, c25]; done) | (simp [mat, mkn, kn2, gsI, bz, nar1, nar0, pk_un, upa_n, c2, c15, c25]; done) | exact absurd c15 (by decide) | exact absurd rfl (gs_ok c15).1 | exact absurd rfl (gs_ok c15).2.1 | exact absurd rfl (gs_ok c15).2.2 | (rw [show upd σ 0 (gsI 1 1 1) 37 = σ 37 from rfl] at c25; simp [mat, c2, c25]; done), rfl, by first | (simp [mat, mkn, kn2, nar1, nar0, pk_un, upa_n, c2, c15, c25]; done) | (simp [mat, mkn, kn2, gsI, bz, nar1, nar0, pk_un, upa_n, c2, c15, c25]; done) | exact absurd c15 (by decide) | exact absurd rfl (gs_ok c15).1 | exact absurd rfl (gs_ok c15).2.1 | exact absurd rfl (gs_ok c15).2.2⟩
    · refine j_iconst (v := 0) C d_M_at_18 (by decide) ?_
      exact j_ireturn C d_M_at_19 rfl (by decide) (by decide) ⟨by first | (simp [mat, mkn, kn2, nar1, nar0, pk_un, upa_n, c2, c15]; done) | (simp [mat, mkn, kn2, gsI, bz, nar1, nar0, pk_un, upa_n, c2, c15]; done) | exact absurd c15 (by decide) | exact absurd rfl (gs_ok c15).1 | exact absurd rfl (gs_ok c15).2.1 | exact absurd rfl (gs_ok c15).2.2 | (rw [show upd σ 0 (gsI 1 1 1) 37 = σ 37 from rfl] at c25; simp [mat, c2, c25]; done), rfl, by first | (simp [mat, mkn, kn2, nar1, nar0, pk_un, upa_n, c2, c15]; done) | (simp [mat, mkn, kn2, gsI, bz, nar1, nar0, pk_un, upa_n, c2, c15]; done) | exact absurd c15 (by decide) | exact absurd rfl (gs_ok c15).1 | exact absurd rfl (gs_ok c15).2.1 | exact absurd rfl (gs_ok c15).2.2⟩

set_option maxHeartbeats 4000000 in
set_option maxRecDepth 100000 in
theorem c_M_inside {l : Launch} (hl : l.stackTraces = false) {D : va_G} {cA : Nat → ClassId} {b n mo : Nat} (r k : Int32) (σ : Nat → Int32) (α : Nat → Nat → Int32) (h : AH) (hmo : mo + 27 < n) (nr : Nat) (hnr : σ 2 = nI nr) (hle : nr ≤ 30) : Cn l D cA b y_M_inside k_M_inside 2 30 0 0 [.ref mo, .int r, .int k] n (ovM mo σ α h) (Re none n (ovM mo (minside σ α r k).1 (minside σ α r k).2 h)) := by
  refine Cn.of (cc := b_M_inside) (maxL := 3) (ret := none) (hh := []) (by decide +kernel) hl (Or.inl ⟨rfl, rfl⟩) (Nat.le_of_ble_eq_true rfl) ?_
  intro p e s m args below meth c C
  refine j_aload_n C d_M_inside_0 rfl rfl ?_
  refine j_aload_n C d_M_inside_1 rfl rfl ?_
  refine j_iload_n C d_M_inside_2 rfl rfl ?_
  refine j_callV C d_M_inside_3 ml_M_121 mc_M_isReport in_M_isReport rfl se_M_isReport (by omega) (ovM_o _ _ _ _) (c_M_isReport hl _ _ _ _ hmo) rfl rfl (Nat.le_of_ble_eq_true rfl) (Nat.le_of_ble_eq_true rfl) (Nat.le_of_ble_eq_true rfl) (Nat.le_of_ble_eq_true rfl) (jk_r ?_)
  refine j_iload_n C d_M_inside_6 rfl rfl ?_
  refine j_iconst (v := 0) C d_M_inside_7 (by decide) ?_
  refine j_bipush (v := 99) C d_M_inside_8 (by decide) ?_
  refine j_callS C d_M_inside_10 ml_M_102 mc_M_in st_M_in (c_M_in hl _ _ _ _) rfl rfl (Nat.le_of_ble_eq_true rfl) (Nat.le_of_ble_eq_true rfl) (Nat.le_of_ble_eq_true rfl) (Nat.le_of_ble_eq_true rfl) (jk_r ?_)
  refine j_aload_n C d_M_inside_13 rfl rfl ?_
  refine j_iload_n C d_M_inside_14 rfl rfl ?_
  refine j_callV C d_M_inside_15 ml_M_121 mc_M_isReport in_M_isReport rfl se_M_isReport (by omega) (ovM_o _ _ _ _) (c_M_isReport hl _ _ _ _ hmo) rfl rfl (Nat.le_of_ble_eq_true rfl) (Nat.le_of_ble_eq_true rfl) (Nat.le_of_ble_eq_true rfl) (Nat.le_of_ble_eq_true rfl) (jk_r ?_)
  refine j_if_eq (tgt := 34) C d_M_inside_18 (by decide) (fun c18 => ?_) (fun c18 => ?_)
  · refine j_iconst (v := 0) C d_M_inside_34 (by decide) ?_
    refine j_callV C d_M_inside_35 ml_M_109 mc_M_goes in_M_goes rfl se_M_goes (by omega) (ovM_o _ _ _ _) (c_M_goes hl _ _ _ _ _ _ hmo) rfl rfl (Nat.le_of_ble_eq_true rfl) (Nat.le_of_ble_eq_true rfl) (Nat.le_of_ble_eq_true rfl) (Nat.le_of_ble_eq_true rfl) (jk_r ?_)
    refine j_if_eq (tgt := 48) C d_M_inside_38 (by decide) (fun c38 => ?_) (fun c38 => ?_)
    · exact j_vreturn C d_M_inside_48 rfl (by decide) (by decide) ⟨rfl, rfl, by first | (simp [minside, mkn, kn2, nar1, nar0, pk_un, upa_n, c18, c38]; done) | (simp [minside, mkn, kn2, gsI, bz, nar1, nar0, pk_un, upa_n, c18, c38]; done) | exact absurd c38 (by decide) | exact absurd rfl (gs_ok c38).1 | exact absurd rfl (gs_ok c38).2.1 | exact absurd rfl (gs_ok c38).2.2⟩
    · refine j_aload_n C d_M_inside_41 rfl rfl ?_
      refine jm_get C fl_6_19 d_M_inside_42 hmo rfl ?_
      refine j_iload_n C d_M_inside_45 rfl rfl ?_
      refine j_iload_n C d_M_inside_46 rfl rfl ?_
      refine jm_iasti C 3 6 d_M_inside_47 (by decide) rfl hmo (by first | exact ix_r hnr hle (by omega) (by omega) (by assumption) | exact absurd rfl (gs_ok c38).1 | exact absurd rfl (gs_ok c38).2.1 | exact absurd rfl (gs_ok c38).2.2) rfl ?_
      exact j_vreturn C d_M_inside_48 rfl (by decide) (by decide) ⟨rfl, rfl, by first | (simp [minside, mkn, kn2, nar1, nar0, pk_un, upa_n, c18, c38]; done) | (simp [minside, mkn, kn2, gsI, bz, nar1, nar0, pk_un, upa_n, c18, c38]; done) | exact absurd c38 (by decide) | exact absurd rfl (gs_ok c38).1 | exact absurd rfl (gs_ok c38).2.1 | exact absurd rfl (gs_ok c38).2.2⟩
  · refine j_aload_n C d_M_inside_21 rfl rfl ?_
    refine jm_get C fl_6_25 d_M_inside_22 hmo rfl ?_
    refine j_iload_n C d_M_inside_25 rfl rfl ?_
    refine jm_iald C 5 d_M_inside_26 (by decide) rfl hmo (by first | exact ix_r hnr hle (by omega) (by omega) (by assumption) | exact absurd rfl (gs_ok (show ¬ bz (gsI 1 1 1) = 0 by decide)).1 | exact absurd rfl (gs_ok (show ¬ bz (gsI 1 1 1) = 0 by decide)).2.1 | exact absurd rfl (gs_ok (show ¬ bz (gsI 1 1 1) = 0 by decide)).2.2) rfl ?_
    refine j_if_ne (tgt := 34) C d_M_inside_27 (by decide) (fun c27 => ?_) (fun c27 => ?_)
    · refine j_iconst (v := 0) C d_M_inside_34 (by decide) ?_
      refine j_callV C d_M_inside_35 ml_M_109 mc_M_goes in_M_goes rfl se_M_goes (by omega) (ovM_o _ _ _ _) (c_M_goes hl _ _ _ _ _ _ hmo) rfl rfl (Nat.le_of_ble_eq_true rfl) (Nat.le_of_ble_eq_true rfl) (Nat.le_of_ble_eq_true rfl) (Nat.le_of_ble_eq_true rfl) (jk_r ?_)
      refine j_if_eq (tgt := 48) C d_M_inside_38 (by decide) (fun c38 => ?_) (fun c38 => ?_)
      · exact j_vreturn C d_M_inside_48 rfl (by decide) (by decide) ⟨rfl, rfl, by first | (simp [minside, mkn, kn2, nar1, nar0, pk_un, upa_n, c18, c27, c38]; done) | (simp [minside, mkn, kn2, gsI, bz, nar1, nar0, pk_un, upa_n, c18, c27, c38]; done) | exact absurd c38 (by decide) | exact absurd rfl (gs_ok c38).1 | exact absurd rfl (gs_ok c38).2.1 | exact absurd rfl (gs_ok c38).2.2⟩
      · refine j_aload_n C d_M_inside_41 rfl rfl ?_
        refine jm_get C fl_6_19 d_M_inside_42 hmo rfl ?_
        refine j_iload_n C d_M_inside_45 rfl rfl ?_
        refine j_iload_n C d_M_inside_46 rfl rfl ?_
        refine jm_iasti C 3 6 d_M_inside_47 (by decide) rfl hmo (by first | exact ix_r hnr hle (by omega) (by omega) (by assumption) | exact absurd rfl (gs_ok c38).1 | exact absurd rfl (gs_ok c38).2.1 | exact absurd rfl (gs_ok c38).2.2) rfl ?_
        exact j_vreturn C d_M_inside_48 rfl (by decide) (by decide) ⟨rfl, rfl, by first | (simp [minside, mkn, kn2, nar1, nar0, pk_un, upa_n, c18, c27, c38]; done) | (simp [minside, mkn, kn2, gsI, bz, nar1, nar0, pk_un, upa_n, c18, c27, c38]; done) | exact absurd c38 (by decide) | exact absurd rfl (gs_ok c38).1 | exact absurd rfl (gs_ok c38).2.1 | exact absurd rfl (gs_ok c38).2.2⟩
    · refine j_iconst (v := 1) C d_M_inside_30 (by decide) ?_
      refine j_goto (tgt := 35) C d_M_inside_31 (by decide) ?_
      refine j_callV C d_M_inside_35 ml_M_109 mc_M_goes in_M_goes rfl se_M_goes (by omega) (ovM_o _ _ _ _) (c_M_goes hl _ _ _ _ _ _ hmo) rfl rfl (Nat.le_of_ble_eq_true rfl) (Nat.le_of_ble_eq_true rfl) (Nat.le_of_ble_eq_true rfl) (Nat.le_of_ble_eq_true rfl) (jk_r ?_)
      refine j_if_eq (tgt := 48) C d_M_inside_38 (by decide) (fun c38 => ?_) (fun c38 => ?_)
      · exact j_vreturn C d_M_inside_48 rfl (by decide) (by decide) ⟨rfl, rfl, by first | (simp [minside, mkn, kn2, nar1, nar0, pk_un, upa_n, c18, c27, c38]; done) | (simp [minside, mkn, kn2, gsI, bz, nar1, nar0, pk_un, upa_n, c18, c27, c38]; done) | exact absurd c38 (by decide) | exact absurd rfl (gs_ok c38).1 | exact absurd rfl (gs_ok c38).2.1 | exact absurd rfl (gs_ok c38).2.2⟩
      · refine j_aload_n C d_M_inside_41 rfl rfl ?_
        refine jm_get C fl_6_19 d_M_inside_42 hmo rfl ?_
        refine j_iload_n C d_M_inside_45 rfl rfl ?_
        refine j_iload_n C d_M_inside_46 rfl rfl ?_
        refine jm_iasti C 3 6 d_M_inside_47 (by decide) rfl hmo (by first | exact ix_r hnr hle (by omega) (by omega) (by assumption) | exact absurd rfl (gs_ok c38).1 | exact absurd rfl (gs_ok c38).2.1 | exact absurd rfl (gs_ok c38).2.2) rfl ?_
        exact j_vreturn C d_M_inside_48 rfl (by decide) (by decide) ⟨rfl, rfl, by first | (simp [minside, mkn, kn2, nar1, nar0, pk_un, upa_n, c18, c27, c38]; done) | (simp [minside, mkn, kn2, gsI, bz, nar1, nar0, pk_un, upa_n, c18, c27, c38]; done) | exact absurd c38 (by decide) | exact absurd rfl (gs_ok c38).1 | exact absurd rfl (gs_ok c38).2.1 | exact absurd rfl (gs_ok c38).2.2⟩

set_option maxHeartbeats 4000000 in
set_option maxRecDepth 100000 in
theorem c_M_value {l : Launch} (hl : l.stackTraces = false) {D : va_G} {cA : Nat → ClassId} {b n mo : Nat} (r f : Int32) (σ : Nat → Int32) (α : Nat → Nat → Int32) (h : AH) (hmo : mo + 27 < n) (nr : Nat) (hnr : σ 2 = nI nr) (hle : nr ≤ 30) : Cn l D cA b y_M_value k_M_value 2 27 0 0 [.ref mo, .int r, .int f] n (ovM mo σ α h) (Re (some (.int (mvalue σ α r f).1)) n (ovM mo (mvalue σ α r f).2 α h)) := by
  refine Cn.of (cc := b_M_value) (maxL := 4) (ret := (some .int)) (hh := []) (by decide +kernel) hl (Or.inl ⟨rfl, rfl⟩) (Nat.le_of_ble_eq_true rfl) ?_
  intro p e s m args below meth c C
  refine j_aload_n C d_M_value_0 rfl rfl ?_
  refine j_iload_n C d_M_value_1 rfl rfl ?_
  refine j_callV C d_M_value_2 ml_M_121 mc_M_isReport in_M_isReport rfl se_M_isReport (by omega) (ovM_o _ _ _ _) (c_M_isReport hl _ _ _ _ hmo) rfl rfl (Nat.le_of_ble_eq_true rfl) (Nat.le_of_ble_eq_true rfl) (Nat.le_of_ble_eq_true rfl) (Nat.le_of_ble_eq_true rfl) (jk_r ?_)
  refine j_if_eq (tgt := 19) C d_M_value_5 (by decide) (fun c5 => ?_) (fun c5 => ?_)
  · refine j_iconst (v := 0) C d_M_value_19 (by decide) ?_
    refine j_istore_n C d_M_value_20 rfl (by decide) rfl ?_
    refine j_aload_n C d_M_value_21 rfl rfl ?_
    refine j_iload_n C d_M_value_22 rfl rfl ?_
    refine j_iload_n C d_M_value_23 rfl rfl ?_
    refine j_if_eq (tgt := 45) C d_M_value_24 (by decide) (fun c24 => ?_) (fun c24 => ?_)
    · refine j_iconst (v := 0) C d_M_value_45 (by decide) ?_
      refine j_iconst (v := 1) C d_M_value_46 (by decide) ?_
      refine j_callV C d_M_value_47 ml_M_109 mc_M_goes in_M_goes rfl se_M_goes (by omega) (ovM_o _ _ _ _) (c_M_goes hl _ _ _ _ _ _ hmo) rfl rfl (Nat.le_of_ble_eq_true rfl) (Nat.le_of_ble_eq_true rfl) (Nat.le_of_ble_eq_true rfl) (Nat.le_of_ble_eq_true rfl) (jk_r ?_)
      refine j_if_ne (tgt := 55) C d_M_value_50 (by decide) (fun c50 => ?_) (fun c50 => ?_)
      · refine j_aload_n C d_M_value_55 rfl rfl ?_
        refine jm_get C fl_6_41 d_M_value_56 hmo rfl ?_
        refine j_bipush (v := 20) C d_M_value_59 (by decide) ?_
        refine j_iload_n C d_M_value_61 rfl rfl ?_
        refine j_imul C d_M_value_62 ?_
        refine j_iload_n C d_M_value_63 rfl rfl ?_
        refine j_iadd C d_M_value_64 ?_
        refine jm_iald C 10 d_M_value_65 (by decide) rfl hmo (by first | exact ix_rf hnr hle (by assumption) (by assumption) | exact ix_rk hnr hle (by assumption) (by assumption) | exact ix_r hnr hle (by omega) (by omega) (by assumption) | exact absurd rfl (gs_ok c50).1 | exact absurd rfl (gs_ok c50).2.1 | exact absurd rfl (gs_ok c50).2.2) rfl ?_
        exact j_ireturn C d_M_value_66 rfl (by decide) (by decide) ⟨by first | (simp [mvalue, mkn, kn2, nar1, nar0, pk_un, upa_n, c5, c24, c50]; done) | (simp [mvalue, mkn, kn2, gsI, bz, nar1, nar0, pk_un, upa_n, c5, c24, c50]; done) | exact absurd c50 (by decide) | exact absurd rfl (gs_ok c50).1 | exact absurd rfl (gs_ok c50).2.1 | exact absurd rfl (gs_ok c50).2.2, rfl, by first | (simp [mvalue, mkn, kn2, nar1, nar0, pk_un, upa_n, c5, c24, c50]; done) | (simp [mvalue, mkn, kn2, gsI, bz, nar1, nar0, pk_un, upa_n, c5, c24, c50]; done) | exact absurd c50 (by decide) | exact absurd rfl (gs_ok c50).1 | exact absurd rfl (gs_ok c50).2.1 | exact absurd rfl (gs_ok c50).2.2⟩
      · refine j_iconst (v := 0) C d_M_value_53 (by decide) ?_
        exact j_ireturn C d_M_value_54 rfl (by decide) (by decide) ⟨by first | (simp [mvalue, mkn, kn2, nar1, nar0, pk_un, upa_n, c5, c24, c50]; done) | (simp [mvalue, mkn, kn2, gsI, bz, nar1, nar0, pk_un, upa_n, c5, c24, c50]; done) | exact absurd c50 (by decide) | exact absurd rfl (gs_ok c50).1 | exact absurd rfl (gs_ok c50).2.1 | exact absurd rfl (gs_ok c50).2.2, rfl, by first | (simp [mvalue, mkn, kn2, nar1, nar0, pk_un, upa_n, c5, c24, c50]; done) | (simp [mvalue, mkn, kn2, gsI, bz, nar1, nar0, pk_un, upa_n, c5, c24, c50]; done) | exact absurd c50 (by decide) | exact absurd rfl (gs_ok c50).1 | exact absurd rfl (gs_ok c50).2.1 | exact absurd rfl (gs_ok c50).2.2⟩
    · refine j_aload_n C d_M_value_27 rfl rfl ?_
      refine jm_get C fl_6_31 d_M_value_28 hmo rfl ?_
      refine j_bipush (v := 20) C d_M_value_31 (by decide) ?_
      refine j_iload_n C d_M_value_33 rfl rfl ?_
      refine j_imul C d_M_value_34 ?_
      refine j_iload_n C d_M_value_35 rfl rfl ?_
      refine j_iadd C d_M_value_36 ?_
      refine jm_zald C 7 d_M_value_37 (by decide) rfl hmo (by first | exact ix_rf hnr hle (by assumption) (by assumption) | exact absurd rfl c24) rfl ?_
      refine j_if_eq (tgt := 45) C d_M_value_38 (by decide) (fun c38 => ?_) (fun c38 => ?_)
      · refine j_iconst (v := 0) C d_M_value_45 (by decide) ?_
        refine j_iconst (v := 1) C d_M_value_46 (by decide) ?_
        refine j_callV C d_M_value_47 ml_M_109 mc_M_goes in_M_goes rfl se_M_goes (by omega) (ovM_o _ _ _ _) (c_M_goes hl _ _ _ _ _ _ hmo) rfl rfl (Nat.le_of_ble_eq_true rfl) (Nat.le_of_ble_eq_true rfl) (Nat.le_of_ble_eq_true rfl) (Nat.le_of_ble_eq_true rfl) (jk_r ?_)
        refine j_if_ne (tgt := 55) C d_M_value_50 (by decide) (fun c50 => ?_) (fun c50 => ?_)
        · refine j_aload_n C d_M_value_55 rfl rfl ?_
          refine jm_get C fl_6_41 d_M_value_56 hmo rfl ?_
          refine j_bipush (v := 20) C d_M_value_59 (by decide) ?_
          refine j_iload_n C d_M_value_61 rfl rfl ?_
          refine j_imul C d_M_value_62 ?_
          refine j_iload_n C d_M_value_63 rfl rfl ?_
          refine j_iadd C d_M_value_64 ?_
          refine jm_iald C 10 d_M_value_65 (by decide) rfl hmo (by first | exact ix_rf hnr hle (by assumption) (by assumption) | exact ix_rk hnr hle (by assumption) (by assumption) | exact ix_r hnr hle (by omega) (by omega) (by assumption) | exact absurd rfl (gs_ok c50).1 | exact absurd rfl (gs_ok c50).2.1 | exact absurd rfl (gs_ok c50).2.2) rfl ?_
          exact j_ireturn C d_M_value_66 rfl (by decide) (by decide) ⟨by first | (simp [mvalue, mkn, kn2, nar1, nar0, pk_un, upa_n, c5, c24, c38, c50]; done) | (simp [mvalue, mkn, kn2, gsI, bz, nar1, nar0, pk_un, upa_n, c5, c24, c38, c50]; done) | exact absurd c50 (by decide) | exact absurd rfl (gs_ok c50).1 | exact absurd rfl (gs_ok c50).2.1 | exact absurd rfl (gs_ok c50).2.2, rfl, by first | (simp [mvalue, mkn, kn2, nar1, nar0, pk_un, upa_n, c5, c24, c38, c50]; done) | (simp [mvalue, mkn, kn2, gsI, bz, nar1, nar0, pk_un, upa_n, c5, c24, c38, c50]; done) | exact absurd c50 (by decide) | exact absurd rfl (gs_ok c50).1 | exact absurd rfl (gs_ok c50).2.1 | exact absurd rfl (gs_ok c50).2.2⟩
        · refine j_iconst (v := 0) C d_M_value_53 (by decide) ?_
          exact j_ireturn C d_M_value_54 rfl (by decide) (by decide) ⟨by first | (simp [mvalue, mkn, kn2, nar1, nar0, pk_un, upa_n, c5, c24, c38, c50]; done) | (simp [mvalue, mkn, kn2, gsI, bz, nar1, nar0, pk_un, upa_n, c5, c24, c38, c50]; done) | exact absurd c50 (by decide) | exact absurd rfl (gs_ok c50).1 | exact absurd rfl (gs_ok c50).2.1 | exact absurd rfl (gs_ok c50).2.2, rfl, by first | (simp [mvalue, mkn, kn2, nar1, nar0, pk_un, upa_n, c5, c24, c38, c50]; done) | (simp [mvalue, mkn, kn2, gsI, bz, nar1, nar0, pk_un, upa_n, c5, c24, c38, c50]; done) | exact absurd c50 (by decide) | exact absurd rfl (gs_ok c50).1 | exact absurd rfl (gs_ok c50).2.1 | exact absurd rfl (gs_ok c50).2.2⟩
      · refine j_iconst (v := 1) C d_M_value_41 (by decide) ?_
        refine j_goto (tgt := 46) C d_M_value_42 (by decide) ?_
        refine j_iconst (v := 1) C d_M_value_46 (by decide) ?_
        refine j_callV C d_M_value_47 ml_M_109 mc_M_goes in_M_goes rfl se_M_goes (by omega) (ovM_o _ _ _ _) (c_M_goes hl _ _ _ _ _ _ hmo) rfl rfl (Nat.le_of_ble_eq_true rfl) (Nat.le_of_ble_eq_true rfl) (Nat.le_of_ble_eq_true rfl) (Nat.le_of_ble_eq_true rfl) (jk_r ?_)
        refine j_if_ne (tgt := 55) C d_M_value_50 (by decide) (fun c50 => ?_) (fun c50 => ?_)
        · refine j_aload_n C d_M_value_55 rfl rfl ?_
          refine jm_get C fl_6_41 d_M_value_56 hmo rfl ?_
          refine j_bipush (v := 20) C d_M_value_59 (by decide) ?_
          refine j_iload_n C d_M_value_61 rfl rfl ?_
          refine j_imul C d_M_value_62 ?_
          refine j_iload_n C d_M_value_63 rfl rfl ?_
          refine j_iadd C d_M_value_64 ?_
          refine jm_iald C 10 d_M_value_65 (by decide) rfl hmo (by first | exact ix_rf hnr hle (by assumption) (by assumption) | exact ix_rk hnr hle (by assumption) (by assumption) | exact ix_r hnr hle (by omega) (by omega) (by assumption) | exact absurd rfl (gs_ok c50).1 | exact absurd rfl (gs_ok c50).2.1 | exact absurd rfl (gs_ok c50).2.2) rfl ?_
          exact j_ireturn C d_M_value_66 rfl (by decide) (by decide) ⟨by first | (simp [mvalue, mkn, kn2, nar1, nar0, pk_un, upa_n, c5, c24, c38, c50]; done) | (simp [mvalue, mkn, kn2, gsI, bz, nar1, nar0, pk_un, upa_n, c5, c24, c38, c50]; done) | exact absurd c50 (by decide) | exact absurd rfl (gs_ok c50).1 | exact absurd rfl (gs_ok c50).2.1 | exact absurd rfl (gs_ok c50).2.2, rfl, by first | (simp [mvalue, mkn, kn2, nar1, nar0, pk_un, upa_n, c5, c24, c38, c50]; done) | (simp [mvalue, mkn, kn2, gsI, bz, nar1, nar0, pk_un, upa_n, c5, c24, c38, c50]; done) | exact absurd c50 (by decide) | exact absurd rfl (gs_ok c50).1 | exact absurd rfl (gs_ok c50).2.1 | exact absurd rfl (gs_ok c50).2.2⟩
        · refine j_iconst (v := 0) C d_M_value_53 (by decide) ?_
          exact j_ireturn C d_M_value_54 rfl (by decide) (by decide) ⟨by first | (simp [mvalue, mkn, kn2, nar1, nar0, pk_un, upa_n, c5, c24, c38, c50]; done) | (simp [mvalue, mkn, kn2, gsI, bz, nar1, nar0, pk_un, upa_n, c5, c24, c38, c50]; done) | exact absurd c50 (by decide) | exact absurd rfl (gs_ok c50).1 | exact absurd rfl (gs_ok c50).2.1 | exact absurd rfl (gs_ok c50).2.2, rfl, by first | (simp [mvalue, mkn, kn2, nar1, nar0, pk_un, upa_n, c5, c24, c38, c50]; done) | (simp [mvalue, mkn, kn2, gsI, bz, nar1, nar0, pk_un, upa_n, c5, c24, c38, c50]; done) | exact absurd c50 (by decide) | exact absurd rfl (gs_ok c50).1 | exact absurd rfl (gs_ok c50).2.1 | exact absurd rfl (gs_ok c50).2.2⟩
  · refine j_iload_n C d_M_value_8 rfl rfl ?_
    refine j_callS C d_M_value_9 ml_M_117 mc_M_isField st_M_isField (c_M_isField hl _ _) rfl rfl (Nat.le_of_ble_eq_true rfl) (Nat.le_of_ble_eq_true rfl) (Nat.le_of_ble_eq_true rfl) (Nat.le_of_ble_eq_true rfl) (jk_r ?_)
    refine j_if_eq (tgt := 19) C d_M_value_12 (by decide) (fun c12 => ?_) (fun c12 => ?_)
    · refine j_iconst (v := 0) C d_M_value_19 (by decide) ?_
      refine j_istore_n C d_M_value_20 rfl (by decide) rfl ?_
      refine j_aload_n C d_M_value_21 rfl rfl ?_
      refine j_iload_n C d_M_value_22 rfl rfl ?_
      refine j_iload_n C d_M_value_23 rfl rfl ?_
      refine j_if_eq (tgt := 45) C d_M_value_24 (by decide) (fun c24 => ?_) (fun c24 => ?_)
      · refine j_iconst (v := 0) C d_M_value_45 (by decide) ?_
        refine j_iconst (v := 1) C d_M_value_46 (by decide) ?_
        refine j_callV C d_M_value_47 ml_M_109 mc_M_goes in_M_goes rfl se_M_goes (by omega) (ovM_o _ _ _ _) (c_M_goes hl _ _ _ _ _ _ hmo) rfl rfl (Nat.le_of_ble_eq_true rfl) (Nat.le_of_ble_eq_true rfl) (Nat.le_of_ble_eq_true rfl) (Nat.le_of_ble_eq_true rfl) (jk_r ?_)
        refine j_if_ne (tgt := 55) C d_M_value_50 (by decide) (fun c50 => ?_) (fun c50 => ?_)
        · refine j_aload_n C d_M_value_55 rfl rfl ?_
          refine jm_get C fl_6_41 d_M_value_56 hmo rfl ?_
          refine j_bipush (v := 20) C d_M_value_59 (by decide) ?_
          refine j_iload_n C d_M_value_61 rfl rfl ?_
          refine j_imul C d_M_value_62 ?_
          refine j_iload_n C d_M_value_63 rfl rfl ?_
          refine j_iadd C d_M_value_64 ?_
          refine jm_iald C 10 d_M_value_65 (by decide) rfl hmo (by first | exact ix_rf hnr hle (by assumption) (by assumption) | exact ix_rk hnr hle (by assumption) (by assumption) | exact ix_r hnr hle (by omega) (by omega) (by assumption) | exact absurd rfl (gs_ok c50).1 | exact absurd rfl (gs_ok c50).2.1 | exact absurd rfl (gs_ok c50).2.2) rfl ?_
          exact j_ireturn C d_M_value_66 rfl (by decide) (by decide) ⟨by first | (simp [mvalue, mkn, kn2, nar1, nar0, pk_un, upa_n, c5, c12, c24, c50]; done) | (simp [mvalue, mkn, kn2, gsI, bz, nar1, nar0, pk_un, upa_n, c5, c12, c24, c50]; done) | exact absurd c50 (by decide) | exact absurd rfl (gs_ok c50).1 | exact absurd rfl (gs_ok c50).2.1 | exact absurd rfl (gs_ok c50).2.2, rfl, by first | (simp [mvalue, mkn, kn2, nar1, nar0, pk_un, upa_n, c5, c12, c24, c50]; done) | (simp [mvalue, mkn, kn2, gsI, bz, nar1, nar0, pk_un, upa_n, c5, c12, c24, c50]; done) | exact absurd c50 (by decide) | exact absurd rfl (gs_ok c50).1 | exact absurd rfl (gs_ok c50).2.1 | exact absurd rfl (gs_ok c50).2.2⟩
        · refine j_iconst (v := 0) C d_M_value_53 (by decide) ?_
          exact j_ireturn C d_M_value_54 rfl (by decide) (by decide) ⟨by first | (simp [mvalue, mkn, kn2, nar1, nar0, pk_un, upa_n, c5, c12, c24, c50]; done) | (simp [mvalue, mkn, kn2, gsI, bz, nar1, nar0, pk_un, upa_n, c5, c12, c24, c50]; done) | exact absurd c50 (by decide) | exact absurd rfl (gs_ok c50).1 | exact absurd rfl (gs_ok c50).2.1 | exact absurd rfl (gs_ok c50).2.2, rfl, by first | (simp [mvalue, mkn, kn2, nar1, nar0, pk_un, upa_n, c5, c12, c24, c50]; done) | (simp [mvalue, mkn, kn2, gsI, bz, nar1, nar0, pk_un, upa_n, c5, c12, c24, c50]; done) | exact absurd c50 (by decide) | exact absurd rfl (gs_ok c50).1 | exact absurd rfl (gs_ok c50).2.1 | exact absurd rfl (gs_ok c50).2.2⟩
      · refine j_aload_n C d_M_value_27 rfl rfl ?_
        refine jm_get C fl_6_31 d_M_value_28 hmo rfl ?_
        refine j_bipush (v := 20) C d_M_value_31 (by decide) ?_
        refine j_iload_n C d_M_value_33 rfl rfl ?_
        refine j_imul C d_M_value_34 ?_
        refine j_iload_n C d_M_value_35 rfl rfl ?_
        refine j_iadd C d_M_value_36 ?_
        refine jm_zald C 7 d_M_value_37 (by decide) rfl hmo (by first | exact ix_rf hnr hle (by assumption) (by assumption) | exact absurd rfl c24) rfl ?_
        refine j_if_eq (tgt := 45) C d_M_value_38 (by decide) (fun c38 => ?_) (fun c38 => ?_)
        · refine j_iconst (v := 0) C d_M_value_45 (by decide) ?_
          refine j_iconst (v := 1) C d_M_value_46 (by decide) ?_
          refine j_callV C d_M_value_47 ml_M_109 mc_M_goes in_M_goes rfl se_M_goes (by omega) (ovM_o _ _ _ _) (c_M_goes hl _ _ _ _ _ _ hmo) rfl rfl (Nat.le_of_ble_eq_true rfl) (Nat.le_of_ble_eq_true rfl) (Nat.le_of_ble_eq_true rfl) (Nat.le_of_ble_eq_true rfl) (jk_r ?_)
          refine j_if_ne (tgt := 55) C d_M_value_50 (by decide) (fun c50 => ?_) (fun c50 => ?_)
          · refine j_aload_n C d_M_value_55 rfl rfl ?_
            refine jm_get C fl_6_41 d_M_value_56 hmo rfl ?_
            refine j_bipush (v := 20) C d_M_value_59 (by decide) ?_
            refine j_iload_n C d_M_value_61 rfl rfl ?_
            refine j_imul C d_M_value_62 ?_
            refine j_iload_n C d_M_value_63 rfl rfl ?_
            refine j_iadd C d_M_value_64 ?_
            refine jm_iald C 10 d_M_value_65 (by decide) rfl hmo (by first | exact ix_rf hnr hle (by assumption) (by assumption) | exact ix_rk hnr hle (by assumption) (by assumption) | exact ix_r hnr hle (by omega) (by omega) (by assumption) | exact absurd rfl (gs_ok c50).1 | exact absurd rfl (gs_ok c50).2.1 | exact absurd rfl (gs_ok c50).2.2) rfl ?_
            exact j_ireturn C d_M_value_66 rfl (by decide) (by decide) ⟨by first | (simp [mvalue, mkn, kn2, nar1, nar0, pk_un, upa_n, c5, c12, c24, c38, c50]; done) | (simp [mvalue, mkn, kn2, gsI, bz, nar1, nar0, pk_un, upa_n, c5, c12, c24, c38, c50]; done) | exact absurd c50 (by decide) | exact absurd rfl (gs_ok c50).1 | exact absurd rfl (gs_ok c50).2.1 | exact absurd rfl (gs_ok c50).2.2, rfl, by first | (simp [mvalue, mkn, kn2, nar1, nar0, pk_un, upa_n, c5, c12, c24, c38, c50]; done) | (simp [mvalue, mkn, kn2, gsI, bz, nar1, nar0, pk_un, upa_n, c5, c12, c24, c38, c50]; done) | exact absurd c50 (by decide) | exact absurd rfl (gs_ok c50).1 | exact absurd rfl (gs_ok c50).2.1 | exact absurd rfl (gs_ok c50).2.2⟩
          · refine j_iconst (v := 0) C d_M_value_53 (by decide) ?_
            exact j_ireturn C d_M_value_54 rfl (by decide) (by decide) ⟨by first | (simp [mvalue, mkn, kn2, nar1, nar0, pk_un, upa_n, c5, c12, c24, c38, c50]; done) | (simp [mvalue, mkn, kn2, gsI, bz, nar1, nar0, pk_un, upa_n, c5, c12, c24, c38, c50]; done) | exact absurd c50 (by decide) | exact absurd rfl (gs_ok c50).1 | exact absurd rfl (gs_ok c50).2.1 | exact absurd rfl (gs_ok c50).2.2, rfl, by first | (simp [mvalue, mkn, kn2, nar1, nar0, pk_un, upa_n, c5, c12, c24, c38, c50]; done) | (simp [mvalue, mkn, kn2, gsI, bz, nar1, nar0, pk_un, upa_n, c5, c12, c24, c38, c50]; done) | exact absurd c50 (by decide) | exact absurd rfl (gs_ok c50).1 | exact absurd rfl (gs_ok c50).2.1 | exact absurd rfl (gs_ok c50).2.2⟩
        · refine j_iconst (v := 1) C d_M_value_41 (by decide) ?_
          refine j_goto (tgt := 46) C d_M_value_42 (by decide) ?_
          refine j_iconst (v := 1) C d_M_value_46 (by decide) ?_
          refine j_callV C d_M_value_47 ml_M_109 mc_M_goes in_M_goes rfl se_M_goes (by omega) (ovM_o _ _ _ _) (c_M_goes hl _ _ _ _ _ _ hmo) rfl rfl (Nat.le_of_ble_eq_true rfl) (Nat.le_of_ble_eq_true rfl) (Nat.le_of_ble_eq_true rfl) (Nat.le_of_ble_eq_true rfl) (jk_r ?_)
          refine j_if_ne (tgt := 55) C d_M_value_50 (by decide) (fun c50 => ?_) (fun c50 => ?_)
          · refine j_aload_n C d_M_value_55 rfl rfl ?_
            refine jm_get C fl_6_41 d_M_value_56 hmo rfl ?_
            refine j_bipush (v := 20) C d_M_value_59 (by decide) ?_
            refine j_iload_n C d_M_value_61 rfl rfl ?_
            refine j_imul C d_M_value_62 ?_
            refine j_iload_n C d_M_value_63 rfl rfl ?_
            refine j_iadd C d_M_value_64 ?_
            refine jm_iald C 10 d_M_value_65 (by decide) rfl hmo (by first | exact ix_rf hnr hle (by assumption) (by assumption) | exact ix_rk hnr hle (by assumption) (by assumption) | exact ix_r hnr hle (by omega) (by omega) (by assumption) | exact absurd rfl (gs_ok c50).1 | exact absurd rfl (gs_ok c50).2.1 | exact absurd rfl (gs_ok c50).2.2) rfl ?_
            exact j_ireturn C d_M_value_66 rfl (by decide) (by decide) ⟨by first | (simp [mvalue, mkn, kn2, nar1, nar0, pk_un, upa_n, c5, c12, c24, c38, c50]; done) | (simp [mvalue, mkn, kn2, gsI, bz, nar1, nar0, pk_un, upa_n, c5, c12, c24, c38, c50]; done) | exact absurd c50 (by decide) | exact absurd rfl (gs_ok c50).1 | exact absurd rfl (gs_ok c50).2.1 | exact absurd rfl (gs_ok c50).2.2, rfl, by first | (simp [mvalue, mkn, kn2, nar1, nar0, pk_un, upa_n, c5, c12, c24, c38, c50]; done) | (simp [mvalue, mkn, kn2, gsI, bz, nar1, nar0, pk_un, upa_n, c5, c12, c24, c38, c50]; done) | exact absurd c50 (by decide) | exact absurd rfl (gs_ok c50).1 | exact absurd rfl (gs_ok c50).2.1 | exact absurd rfl (gs_ok c50).2.2⟩
          · refine j_iconst (v := 0) C d_M_value_53 (by decide) ?_
            exact j_ireturn C d_M_value_54 rfl (by decide) (by decide) ⟨by first | (simp [mvalue, mkn, kn2, nar1, nar0, pk_un, upa_n, c5, c12, c24, c38, c50]; done) | (simp [mvalue, mkn, kn2, gsI, bz, nar1, nar0, pk_un, upa_n, c5, c12, c24, c38, c50]; done) | exact absurd c50 (by decide) | exact absurd rfl (gs_ok c50).1 | exact absurd rfl (gs_ok c50).2.1 | exact absurd rfl (gs_ok c50).2.2, rfl, by first | (simp [mvalue, mkn, kn2, nar1, nar0, pk_un, upa_n, c5, c12, c24, c38, c50]; done) | (simp [mvalue, mkn, kn2, gsI, bz, nar1, nar0, pk_un, upa_n, c5, c12, c24, c38, c50]; done) | exact absurd c50 (by decide) | exact absurd rfl (gs_ok c50).1 | exact absurd rfl (gs_ok c50).2.1 | exact absurd rfl (gs_ok c50).2.2⟩
    · refine j_iconst (v := 1) C d_M_value_15 (by decide) ?_
      refine j_goto (tgt := 20) C d_M_value_16 (by decide) ?_
      refine j_istore_n C d_M_value_20 rfl (by decide) rfl ?_
      refine j_aload_n C d_M_value_21 rfl rfl ?_
      refine j_iload_n C d_M_value_22 rfl rfl ?_
      refine j_iload_n C d_M_value_23 rfl rfl ?_
      refine j_if_eq (tgt := 45) C d_M_value_24 (by decide) (fun c24 => ?_) (fun c24 => ?_)
      · refine j_iconst (v := 0) C d_M_value_45 (by decide) ?_
        refine j_iconst (v := 1) C d_M_value_46 (by decide) ?_
        refine j_callV C d_M_value_47 ml_M_109 mc_M_goes in_M_goes rfl se_M_goes (by omega) (ovM_o _ _ _ _) (c_M_goes hl _ _ _ _ _ _ hmo) rfl rfl (Nat.le_of_ble_eq_true rfl) (Nat.le_of_ble_eq_true rfl) (Nat.le_of_ble_eq_true rfl) (Nat.le_of_ble_eq_true rfl) (jk_r ?_)
        refine j_if_ne (tgt := 55) C d_M_value_50 (by decide) (fun c50 => ?_) (fun c50 => ?_)
        · refine j_aload_n C d_M_value_55 rfl rfl ?_
          refine jm_get C fl_6_41 d_M_value_56 hmo rfl ?_
          refine j_bipush (v := 20) C d_M_value_59 (by decide) ?_
          refine j_iload_n C d_M_value_61 rfl rfl ?_
          refine j_imul C d_M_value_62 ?_
          refine j_iload_n C d_M_value_63 rfl rfl ?_
          refine j_iadd C d_M_value_64 ?_
          refine jm_iald C 10 d_M_value_65 (by decide) rfl hmo (by first | exact ix_rf hnr hle (by assumption) (by assumption) | exact ix_rk hnr hle (by assumption) (by assumption) | exact ix_r hnr hle (by omega) (by omega) (by assumption) | exact absurd rfl (gs_ok c50).1 | exact absurd rfl (gs_ok c50).2.1 | exact absurd rfl (gs_ok c50).2.2) rfl ?_
          exact j_ireturn C d_M_value_66 rfl (by decide) (by decide) ⟨by first | (simp [mvalue, mkn, kn2, nar1, nar0, pk_un, upa_n, c5, c12, c24, c50]; done) | (simp [mvalue, mkn, kn2, gsI, bz, nar1, nar0, pk_un, upa_n, c5, c12, c24, c50]; done) | exact absurd c50 (by decide) | exact absurd rfl (gs_ok c50).1 | exact absurd rfl (gs_ok c50).2.1 | exact absurd rfl (gs_ok c50).2.2, rfl, by first | (simp [mvalue, mkn, kn2, nar1, nar0, pk_un, upa_n, c5, c12, c24, c50]; done) | (simp [mvalue, mkn, kn2, gsI, bz, nar1, nar0, pk_un, upa_n, c5, c12, c24, c50]; done) | exact absurd c50 (by decide) | exact absurd rfl (gs_ok c50).1 | exact absurd rfl (gs_ok c50).2.1 | exact absurd rfl (gs_ok c50).2.2⟩
        · refine j_iconst (v := 0) C d_M_value_53 (by decide) ?_
          exact j_ireturn C d_M_value_54 rfl (by decide) (by decide) ⟨by first | (simp [mvalue, mkn, kn2, nar1, nar0, pk_un, upa_n, c5, c12, c24, c50]; done) | (simp [mvalue, mkn, kn2, gsI, bz, nar1, nar0, pk_un, upa_n, c5, c12, c24, c50]; done) | exact absurd c50 (by decide) | exact absurd rfl (gs_ok c50).1 | exact absurd rfl (gs_ok c50).2.1 | exact absurd rfl (gs_ok c50).2.2, rfl, by first | (simp [mvalue, mkn, kn2, nar1, nar0, pk_un, upa_n, c5, c12, c24, c50]; done) | (simp [mvalue, mkn, kn2, gsI, bz, nar1, nar0, pk_un, upa_n, c5, c12, c24, c50]; done) | exact absurd c50 (by decide) | exact absurd rfl (gs_ok c50).1 | exact absurd rfl (gs_ok c50).2.1 | exact absurd rfl (gs_ok c50).2.2⟩
      · refine j_aload_n C d_M_value_27 rfl rfl ?_
        refine jm_get C fl_6_31 d_M_value_28 hmo rfl ?_
        refine j_bipush (v := 20) C d_M_value_31 (by decide) ?_
        refine j_iload_n C d_M_value_33 rfl rfl ?_
        refine j_imul C d_M_value_34 ?_
        refine j_iload_n C d_M_value_35 rfl rfl ?_
        refine j_iadd C d_M_value_36 ?_
        refine jm_zald C 7 d_M_value_37 (by decide) rfl hmo (by first | exact ix_rf hnr hle (by assumption) (by assumption) | exact absurd rfl c24) rfl ?_
        refine j_if_eq (tgt := 45) C d_M_value_38 (by decide) (fun c38 => ?_) (fun c38 => ?_)
        · refine j_iconst (v := 0) C d_M_value_45 (by decide) ?_
          refine j_iconst (v := 1) C d_M_value_46 (by decide) ?_
          refine j_callV C d_M_value_47 ml_M_109 mc_M_goes in_M_goes rfl se_M_goes (by omega) (ovM_o _ _ _ _) (c_M_goes hl _ _ _ _ _ _ hmo) rfl rfl (Nat.le_of_ble_eq_true rfl) (Nat.le_of_ble_eq_true rfl) (Nat.le_of_ble_eq_true rfl) (Nat.le_of_ble_eq_true rfl) (jk_r ?_)
          refine j_if_ne (tgt := 55) C d_M_value_50 (by decide) (fun c50 => ?_) (fun c50 => ?_)
          · refine j_aload_n C d_M_value_55 rfl rfl ?_
            refine jm_get C fl_6_41 d_M_value_56 hmo rfl ?_
            refine j_bipush (v := 20) C d_M_value_59 (by decide) ?_
            refine j_iload_n C d_M_value_61 rfl rfl ?_
            refine j_imul C d_M_value_62 ?_
            refine j_iload_n C d_M_value_63 rfl rfl ?_
            refine j_iadd C d_M_value_64 ?_
            refine jm_iald C 10 d_M_value_65 (by decide) rfl hmo (by first | exact ix_rf hnr hle (by assumption) (by assumption) | exact ix_rk hnr hle (by assumption) (by assumption) | exact ix_r hnr hle (by omega) (by omega) (by assumption) | exact absurd rfl (gs_ok c50).1 | exact absurd rfl (gs_ok c50).2.1 | exact absurd rfl (gs_ok c50).2.2) rfl ?_
            exact j_ireturn C d_M_value_66 rfl (by decide) (by decide) ⟨by first | (simp [mvalue, mkn, kn2, nar1, nar0, pk_un, upa_n, c5, c12, c24, c38, c50]; done) | (simp [mvalue, mkn, kn2, gsI, bz, nar1, nar0, pk_un, upa_n, c5, c12, c24, c38, c50]; done) | exact absurd c50 (by decide) | exact absurd rfl (gs_ok c50).1 | exact absurd rfl (gs_ok c50).2.1 | exact absurd rfl (gs_ok c50).2.2, rfl, by first | (simp [mvalue, mkn, kn2, nar1, nar0, pk_un, upa_n, c5, c12, c24, c38, c50]; done) | (simp [mvalue, mkn, kn2, gsI, bz, nar1, nar0, pk_un, upa_n, c5, c12, c24, c38, c50]; done) | exact absurd c50 (by decide) | exact absurd rfl (gs_ok c50).1 | exact absurd rfl (gs_ok c50).2.1 | exact absurd rfl (gs_ok c50).2.2⟩
          · refine j_iconst (v := 0) C d_M_value_53 (by decide) ?_
            exact j_ireturn C d_M_value_54 rfl (by decide) (by decide) ⟨by first | (simp [mvalue, mkn, kn2, nar1, nar0, pk_un, upa_n, c5, c12, c24, c38, c50]; done) | (simp [mvalue, mkn, kn2, gsI, bz, nar1, nar0, pk_un, upa_n, c5, c12, c24, c38, c50]; done) | exact absurd c50 (by decide) | exact absurd rfl (gs_ok c50).1 | exact absurd rfl (gs_ok c50).2.1 | exact absurd rfl (gs_ok c50).2.2, rfl, by first | (simp [mvalue, mkn, kn2, nar1, nar0, pk_un, upa_n, c5, c12, c24, c38, c50]; done) | (simp [mvalue, mkn, kn2, gsI, bz, nar1, nar0, pk_un, upa_n, c5, c12, c24, c38, c50]; done) | exact absurd c50 (by decide) | exact absurd rfl (gs_ok c50).1 | exact absurd rfl (gs_ok c50).2.1 | exact absurd rfl (gs_ok c50).2.2⟩
        · refine j_iconst (v := 1) C d_M_value_41 (by decide) ?_
          refine j_goto (tgt := 46) C d_M_value_42 (by decide) ?_
          refine j_iconst (v := 1) C d_M_value_46 (by decide) ?_
          refine j_callV C d_M_value_47 ml_M_109 mc_M_goes in_M_goes rfl se_M_goes (by omega) (ovM_o _ _ _ _) (c_M_goes hl _ _ _ _ _ _ hmo) rfl rfl (Nat.le_of_ble_eq_true rfl) (Nat.le_of_ble_eq_true rfl) (Nat.le_of_ble_eq_true rfl) (Nat.le_of_ble_eq_true rfl) (jk_r ?_)
          refine j_if_ne (tgt := 55) C d_M_value_50 (by decide) (fun c50 => ?_) (fun c50 => ?_)
          · refine j_aload_n C d_M_value_55 rfl rfl ?_
            refine jm_get C fl_6_41 d_M_value_56 hmo rfl ?_
            refine j_bipush (v := 20) C d_M_value_59 (by decide) ?_
            refine j_iload_n C d_M_value_61 rfl rfl ?_
            refine j_imul C d_M_value_62 ?_
            refine j_iload_n C d_M_value_63 rfl rfl ?_
            refine j_iadd C d_M_value_64 ?_
            refine jm_iald C 10 d_M_value_65 (by decide) rfl hmo (by first | exact ix_rf hnr hle (by assumption) (by assumption) | exact ix_rk hnr hle (by assumption) (by assumption) | exact ix_r hnr hle (by omega) (by omega) (by assumption) | exact absurd rfl (gs_ok c50).1 | exact absurd rfl (gs_ok c50).2.1 | exact absurd rfl (gs_ok c50).2.2) rfl ?_
            exact j_ireturn C d_M_value_66 rfl (by decide) (by decide) ⟨by first | (simp [mvalue, mkn, kn2, nar1, nar0, pk_un, upa_n, c5, c12, c24, c38, c50]; done) | (simp [mvalue, mkn, kn2, gsI, bz, nar1, nar0, pk_un, upa_n, c5, c12, c24, c38, c50]; done) | exact absurd c50 (by decide) | exact absurd rfl (gs_ok c50).1 | exact absurd rfl (gs_ok c50).2.1 | exact absurd rfl (gs_ok c50).2.2, rfl, by first | (simp [mvalue, mkn, kn2, nar1, nar0, pk_un, upa_n, c5, c12, c24, c38, c50]; done) | (simp [mvalue, mkn, kn2, gsI, bz, nar1, nar0, pk_un, upa_n, c5, c12, c24, c38, c50]; done) | exact absurd c50 (by decide) | exact absurd rfl (gs_ok c50).1 | exact absurd rfl (gs_ok c50).2.1 | exact absurd rfl (gs_ok c50).2.2⟩
          · refine j_iconst (v := 0) C d_M_value_53 (by decide) ?_
            exact j_ireturn C d_M_value_54 rfl (by decide) (by decide) ⟨by first | (simp [mvalue, mkn, kn2, nar1, nar0, pk_un, upa_n, c5, c12, c24, c38, c50]; done) | (simp [mvalue, mkn, kn2, gsI, bz, nar1, nar0, pk_un, upa_n, c5, c12, c24, c38, c50]; done) | exact absurd c50 (by decide) | exact absurd rfl (gs_ok c50).1 | exact absurd rfl (gs_ok c50).2.1 | exact absurd rfl (gs_ok c50).2.2, rfl, by first | (simp [mvalue, mkn, kn2, nar1, nar0, pk_un, upa_n, c5, c12, c24, c38, c50]; done) | (simp [mvalue, mkn, kn2, gsI, bz, nar1, nar0, pk_un, upa_n, c5, c12, c24, c38, c50]; done) | exact absurd c50 (by decide) | exact absurd rfl (gs_ok c50).1 | exact absurd rfl (gs_ok c50).2.1 | exact absurd rfl (gs_ok c50).2.2⟩

set_option maxHeartbeats 4000000 in
set_option maxRecDepth 100000 in
theorem c_M_field {l : Launch} (hl : l.stackTraces = false) {D : va_G} {cA : Nat → ClassId} {b n mo : Nat} (r f v : Int32) (σ : Nat → Int32) (α : Nat → Nat → Int32) (h : AH) (hmo : mo + 27 < n) (nr : Nat) (hnr : σ 2 = nI nr) (hle : nr ≤ 30) : Cn l D cA b y_M_field k_M_field 2 27 0 0 [.ref mo, .int r, .int f, .int v] n (ovM mo σ α h) (Re none n (ovM mo (mfield σ α r f v).1 (mfield σ α r f v).2 h)) := by
  refine Cn.of (cc := b_M_field) (maxL := 5) (ret := none) (hh := []) (by decide +kernel) hl (Or.inl ⟨rfl, rfl⟩) (Nat.le_of_ble_eq_true rfl) ?_
  intro p e s m args below meth c C
  refine j_aload_n C d_M_field_0 rfl rfl ?_
  refine j_iload_n C d_M_field_1 rfl rfl ?_
  refine j_callV C d_M_field_2 ml_M_121 mc_M_isReport in_M_isReport rfl se_M_isReport (by omega) (ovM_o _ _ _ _) (c_M_isReport hl _ _ _ _ hmo) rfl rfl (Nat.le_of_ble_eq_true rfl) (Nat.le_of_ble_eq_true rfl) (Nat.le_of_ble_eq_true rfl) (Nat.le_of_ble_eq_true rfl) (jk_r ?_)
  refine j_if_eq (tgt := 19) C d_M_field_5 (by decide) (fun c5 => ?_) (fun c5 => ?_)
  · refine j_iconst (v := 0) C d_M_field_19 (by decide) ?_
    refine j_istore C d_M_field_20 (by decide) rfl ?_
    refine j_aload_n C d_M_field_22 rfl rfl ?_
    refine j_iload C d_M_field_23 rfl ?_
    refine j_iload_n C d_M_field_25 rfl rfl ?_
    refine j_ldc (v := (-99999)) C d_M_field_26 lc_M_124 ?_
    refine j_ldc (v := 99999) C d_M_field_28 lc_M_125 ?_
    refine j_callS C d_M_field_30 ml_M_102 mc_M_in st_M_in (c_M_in hl _ _ _ _) rfl rfl (Nat.le_of_ble_eq_true rfl) (Nat.le_of_ble_eq_true rfl) (Nat.le_of_ble_eq_true rfl) (Nat.le_of_ble_eq_true rfl) (jk_r ?_)
    refine j_iload C d_M_field_33 rfl ?_
    refine j_if_eq (tgt := 65) C d_M_field_35 (by decide) (fun c35 => ?_) (fun c35 => ?_)
    · refine j_iconst (v := 0) C d_M_field_65 (by decide) ?_
      refine j_callV C d_M_field_66 ml_M_109 mc_M_goes in_M_goes rfl se_M_goes (by omega) (ovM_o _ _ _ _) (c_M_goes hl _ _ _ _ _ _ hmo) rfl rfl (Nat.le_of_ble_eq_true rfl) (Nat.le_of_ble_eq_true rfl) (Nat.le_of_ble_eq_true rfl) (Nat.le_of_ble_eq_true rfl) (jk_r ?_)
      refine j_if_ne (tgt := 73) C d_M_field_69 (by decide) (fun c69 => ?_) (fun c69 => ?_)
      · refine j_aload_n C d_M_field_73 rfl rfl ?_
        refine jm_get C fl_6_31 d_M_field_74 hmo rfl ?_
        refine j_bipush (v := 20) C d_M_field_77 (by decide) ?_
        refine j_iload_n C d_M_field_79 rfl rfl ?_
        refine j_imul C d_M_field_80 ?_
        refine j_iload_n C d_M_field_81 rfl rfl ?_
        refine j_iadd C d_M_field_82 ?_
        refine j_iconst (v := 1) C d_M_field_83 (by decide) ?_
        refine jm_zasti C 7 10 d_M_field_84 (by decide) rfl hmo (by first | exact ix_rf hnr hle (by assumption) (by assumption) | exact ix_rk hnr hle (by assumption) (by assumption) | exact ix_r hnr hle (by omega) (by omega) (by assumption) | exact absurd rfl (gs_ok c69).1 | exact absurd rfl (gs_ok c69).2.1 | exact absurd rfl (gs_ok c69).2.2) rfl ?_
        refine j_aload_n C d_M_field_85 rfl rfl ?_
        refine jm_get C fl_6_35 d_M_field_86 hmo rfl ?_
        refine j_bipush (v := 20) C d_M_field_89 (by decide) ?_
        refine j_iload_n C d_M_field_91 rfl rfl ?_
        refine j_imul C d_M_field_92 ?_
        refine j_iload_n C d_M_field_93 rfl rfl ?_
        refine j_iadd C d_M_field_94 ?_
        refine j_iconst (v := 0) C d_M_field_95 (by decide) ?_
        refine jm_zasti C 8 11 d_M_field_96 (by decide) rfl hmo (by first | exact ix_rf hnr hle (by assumption) (by assumption) | exact ix_rk hnr hle (by assumption) (by assumption) | exact ix_r hnr hle (by omega) (by omega) (by assumption) | exact absurd rfl (gs_ok c69).1 | exact absurd rfl (gs_ok c69).2.1 | exact absurd rfl (gs_ok c69).2.2) rfl ?_
        refine j_aload_n C d_M_field_97 rfl rfl ?_
        refine jm_get C fl_6_38 d_M_field_98 hmo rfl ?_
        refine j_bipush (v := 20) C d_M_field_101 (by decide) ?_
        refine j_iload_n C d_M_field_103 rfl rfl ?_
        refine j_imul C d_M_field_104 ?_
        refine j_iload_n C d_M_field_105 rfl rfl ?_
        refine j_iadd C d_M_field_106 ?_
        refine j_iconst (v := 0) C d_M_field_107 (by decide) ?_
        refine jm_zasti C 9 12 d_M_field_108 (by decide) rfl hmo (by first | exact ix_rf hnr hle (by assumption) (by assumption) | exact ix_rk hnr hle (by assumption) (by assumption) | exact ix_r hnr hle (by omega) (by omega) (by assumption) | exact absurd rfl (gs_ok c69).1 | exact absurd rfl (gs_ok c69).2.1 | exact absurd rfl (gs_ok c69).2.2) rfl ?_
        refine j_aload_n C d_M_field_109 rfl rfl ?_
        refine jm_get C fl_6_41 d_M_field_110 hmo rfl ?_
        refine j_bipush (v := 20) C d_M_field_113 (by decide) ?_
        refine j_iload_n C d_M_field_115 rfl rfl ?_
        refine j_imul C d_M_field_116 ?_
        refine j_iload_n C d_M_field_117 rfl rfl ?_
        refine j_iadd C d_M_field_118 ?_
        refine j_iload_n C d_M_field_119 rfl rfl ?_
        refine jm_iasti C 10 13 d_M_field_120 (by decide) rfl hmo (by first | exact ix_rf hnr hle (by assumption) (by assumption) | exact ix_rk hnr hle (by assumption) (by assumption) | exact ix_r hnr hle (by omega) (by omega) (by assumption) | exact absurd rfl (gs_ok c69).1 | exact absurd rfl (gs_ok c69).2.1 | exact absurd rfl (gs_ok c69).2.2) rfl ?_
        exact j_vreturn C d_M_field_121 rfl (by decide) (by decide) ⟨rfl, rfl, by first | (simp [mfield, mtell, mkn, kn2, nar1, nar0, pk_un, upa_n, c5, c35, c69]; done) | (simp [mfield, mtell, mkn, kn2, gsI, bz, nar1, nar0, pk_un, upa_n, c5, c35, c69]; done) | exact absurd c69 (by decide) | exact absurd rfl (gs_ok c69).1 | exact absurd rfl (gs_ok c69).2.1 | exact absurd rfl (gs_ok c69).2.2⟩
      · exact j_vreturn C d_M_field_72 rfl (by decide) (by decide) ⟨rfl, rfl, by first | (simp [mfield, mtell, mkn, kn2, nar1, nar0, pk_un, upa_n, c5, c35, c69]; done) | (simp [mfield, mtell, mkn, kn2, gsI, bz, nar1, nar0, pk_un, upa_n, c5, c35, c69]; done) | exact absurd c69 (by decide) | exact absurd rfl (gs_ok c69).1 | exact absurd rfl (gs_ok c69).2.1 | exact absurd rfl (gs_ok c69).2.2⟩
    · refine j_aload_n C d_M_field_38 rfl rfl ?_
      refine jm_get C fl_6_25 d_M_field_39 hmo rfl ?_
      refine j_iload_n C d_M_field_42 rfl rfl ?_
      refine jm_iald C 5 d_M_field_43 (by decide) rfl hmo (by first | exact ix_r hnr hle (by omega) (by omega) (by assumption) | exact absurd rfl c35) rfl ?_
      refine j_if_eq (tgt := 61) C d_M_field_44 (by decide) (fun c44 => ?_) (fun c44 => ?_)
      · refine j_iconst (v := 1) C d_M_field_61 (by decide) ?_
        refine j_goto (tgt := 66) C d_M_field_62 (by decide) ?_
        refine j_callV C d_M_field_66 ml_M_109 mc_M_goes in_M_goes rfl se_M_goes (by omega) (ovM_o _ _ _ _) (c_M_goes hl _ _ _ _ _ _ hmo) rfl rfl (Nat.le_of_ble_eq_true rfl) (Nat.le_of_ble_eq_true rfl) (Nat.le_of_ble_eq_true rfl) (Nat.le_of_ble_eq_true rfl) (jk_r ?_)
        refine j_if_ne (tgt := 73) C d_M_field_69 (by decide) (fun c69 => ?_) (fun c69 => ?_)
        · refine j_aload_n C d_M_field_73 rfl rfl ?_
          refine jm_get C fl_6_31 d_M_field_74 hmo rfl ?_
          refine j_bipush (v := 20) C d_M_field_77 (by decide) ?_
          refine j_iload_n C d_M_field_79 rfl rfl ?_
          refine j_imul C d_M_field_80 ?_
          refine j_iload_n C d_M_field_81 rfl rfl ?_
          refine j_iadd C d_M_field_82 ?_
          refine j_iconst (v := 1) C d_M_field_83 (by decide) ?_
          refine jm_zasti C 7 10 d_M_field_84 (by decide) rfl hmo (by first | exact ix_rf hnr hle (by assumption) (by assumption) | exact ix_rk hnr hle (by assumption) (by assumption) | exact ix_r hnr hle (by omega) (by omega) (by assumption) | exact absurd rfl (gs_ok c69).1 | exact absurd rfl (gs_ok c69).2.1 | exact absurd rfl (gs_ok c69).2.2) rfl ?_
          refine j_aload_n C d_M_field_85 rfl rfl ?_
          refine jm_get C fl_6_35 d_M_field_86 hmo rfl ?_
          refine j_bipush (v := 20) C d_M_field_89 (by decide) ?_
          refine j_iload_n C d_M_field_91 rfl rfl ?_
          refine j_imul C d_M_field_92 ?_
          refine j_iload_n C d_M_field_93 rfl rfl ?_
          refine j_iadd C d_M_field_94 ?_
          refine j_iconst (v := 0) C d_M_field_95 (by decide) ?_
          refine jm_zasti C 8 11 d_M_field_96 (by decide) rfl hmo (by first | exact ix_rf hnr hle (by assumption) (by assumption) | exact ix_rk hnr hle (by assumption) (by assumption) | exact ix_r hnr hle (by omega) (by omega) (by assumption) | exact absurd rfl (gs_ok c69).1 | exact absurd rfl (gs_ok c69).2.1 | exact absurd rfl (gs_ok c69).2.2) rfl ?_
          refine j_aload_n C d_M_field_97 rfl rfl ?_
          refine jm_get C fl_6_38 d_M_field_98 hmo rfl ?_
          refine j_bipush (v := 20) C d_M_field_101 (by decide) ?_
          refine j_iload_n C d_M_field_103 rfl rfl ?_
          refine j_imul C d_M_field_104 ?_
          refine j_iload_n C d_M_field_105 rfl rfl ?_
          refine j_iadd C d_M_field_106 ?_
          refine j_iconst (v := 0) C d_M_field_107 (by decide) ?_
          refine jm_zasti C 9 12 d_M_field_108 (by decide) rfl hmo (by first | exact ix_rf hnr hle (by assumption) (by assumption) | exact ix_rk hnr hle (by assumption) (by assumption) | exact ix_r hnr hle (by omega) (by omega) (by assumption) | exact absurd rfl (gs_ok c69).1 | exact absurd rfl (gs_ok c69).2.1 | exact absurd rfl (gs_ok c69).2.2) rfl ?_
          refine j_aload_n C d_M_field_109 rfl rfl ?_
          refine jm_get C fl_6_41 d_M_field_110 hmo rfl ?_
          refine j_bipush (v := 20) C d_M_field_113 (by decide) ?_
          refine j_iload_n C d_M_field_115 rfl rfl ?_
          refine j_imul C d_M_field_116 ?_
          refine j_iload_n C d_M_field_117 rfl rfl ?_
          refine j_iadd C d_M_field_118 ?_
          refine j_iload_n C d_M_field_119 rfl rfl ?_
          refine jm_iasti C 10 13 d_M_field_120 (by decide) rfl hmo (by first | exact ix_rf hnr hle (by assumption) (by assumption) | exact ix_rk hnr hle (by assumption) (by assumption) | exact ix_r hnr hle (by omega) (by omega) (by assumption) | exact absurd rfl (gs_ok c69).1 | exact absurd rfl (gs_ok c69).2.1 | exact absurd rfl (gs_ok c69).2.2) rfl ?_
          exact j_vreturn C d_M_field_121 rfl (by decide) (by decide) ⟨rfl, rfl, by first | (simp [mfield, mtell, mkn, kn2, nar1, nar0, pk_un, upa_n, c5, c35, c44, c69]; done) | (simp [mfield, mtell, mkn, kn2, gsI, bz, nar1, nar0, pk_un, upa_n, c5, c35, c44, c69]; done) | exact absurd c69 (by decide) | exact absurd rfl (gs_ok c69).1 | exact absurd rfl (gs_ok c69).2.1 | exact absurd rfl (gs_ok c69).2.2⟩
        · exact j_vreturn C d_M_field_72 rfl (by decide) (by decide) ⟨rfl, rfl, by first | (simp [mfield, mtell, mkn, kn2, nar1, nar0, pk_un, upa_n, c5, c35, c44, c69]; done) | (simp [mfield, mtell, mkn, kn2, gsI, bz, nar1, nar0, pk_un, upa_n, c5, c35, c44, c69]; done) | exact absurd c69 (by decide) | exact absurd rfl (gs_ok c69).1 | exact absurd rfl (gs_ok c69).2.1 | exact absurd rfl (gs_ok c69).2.2⟩
      · refine j_aload_n C d_M_field_47 rfl rfl ?_
        refine jm_get C fl_6_38 d_M_field_48 hmo rfl ?_
        refine j_bipush (v := 20) C d_M_field_51 (by decide) ?_
        refine j_iload_n C d_M_field_53 rfl rfl ?_
        refine j_imul C d_M_field_54 ?_
        refine j_iload_n C d_M_field_55 rfl rfl ?_
        refine j_iadd C d_M_field_56 ?_
        refine jm_zald C 9 d_M_field_57 (by decide) rfl hmo (by first | exact ix_rf hnr hle (by assumption) (by assumption) | exact absurd rfl c35) rfl ?_
        refine j_if_eq (tgt := 65) C d_M_field_58 (by decide) (fun c58 => ?_) (fun c58 => ?_)
        · refine j_iconst (v := 0) C d_M_field_65 (by decide) ?_
          refine j_callV C d_M_field_66 ml_M_109 mc_M_goes in_M_goes rfl se_M_goes (by omega) (ovM_o _ _ _ _) (c_M_goes hl _ _ _ _ _ _ hmo) rfl rfl (Nat.le_of_ble_eq_true rfl) (Nat.le_of_ble_eq_true rfl) (Nat.le_of_ble_eq_true rfl) (Nat.le_of_ble_eq_true rfl) (jk_r ?_)
          refine j_if_ne (tgt := 73) C d_M_field_69 (by decide) (fun c69 => ?_) (fun c69 => ?_)
          · refine j_aload_n C d_M_field_73 rfl rfl ?_
            refine jm_get C fl_6_31 d_M_field_74 hmo rfl ?_
            refine j_bipush (v := 20) C d_M_field_77 (by decide) ?_
            refine j_iload_n C d_M_field_79 rfl rfl ?_
            refine j_imul C d_M_field_80 ?_
            refine j_iload_n C d_M_field_81 rfl rfl ?_
            refine j_iadd C d_M_field_82 ?_
            refine j_iconst (v := 1) C d_M_field_83 (by decide) ?_
            refine jm_zasti C 7 10 d_M_field_84 (by decide) rfl hmo (by first | exact ix_rf hnr hle (by assumption) (by assumption) | exact ix_rk hnr hle (by assumption) (by assumption) | exact ix_r hnr hle (by omega) (by omega) (by assumption) | exact absurd rfl (gs_ok c69).1 | exact absurd rfl (gs_ok c69).2.1 | exact absurd rfl (gs_ok c69).2.2) rfl ?_
            refine j_aload_n C d_M_field_85 rfl rfl ?_
            refine jm_get C fl_6_35 d_M_field_86 hmo rfl ?_
            refine j_bipush (v := 20) C d_M_field_89 (by decide) ?_
            refine j_iload_n C d_M_field_91 rfl rfl ?_
            refine j_imul C d_M_field_92 ?_
            refine j_iload_n C d_M_field_93 rfl rfl ?_
            refine j_iadd C d_M_field_94 ?_
            refine j_iconst (v := 0) C d_M_field_95 (by decide) ?_
            refine jm_zasti C 8 11 d_M_field_96 (by decide) rfl hmo (by first | exact ix_rf hnr hle (by assumption) (by assumption) | exact ix_rk hnr hle (by assumption) (by assumption) | exact ix_r hnr hle (by omega) (by omega) (by assumption) | exact absurd rfl (gs_ok c69).1 | exact absurd rfl (gs_ok c69).2.1 | exact absurd rfl (gs_ok c69).2.2) rfl ?_
            refine j_aload_n C d_M_field_97 rfl rfl ?_
            refine jm_get C fl_6_38 d_M_field_98 hmo rfl ?_
            refine j_bipush (v := 20) C d_M_field_101 (by decide) ?_
            refine j_iload_n C d_M_field_103 rfl rfl ?_
            refine j_imul C d_M_field_104 ?_
            refine j_iload_n C d_M_field_105 rfl rfl ?_
            refine j_iadd C d_M_field_106 ?_
            refine j_iconst (v := 0) C d_M_field_107 (by decide) ?_
            refine jm_zasti C 9 12 d_M_field_108 (by decide) rfl hmo (by first | exact ix_rf hnr hle (by assumption) (by assumption) | exact ix_rk hnr hle (by assumption) (by assumption) | exact ix_r hnr hle (by omega) (by omega) (by assumption) | exact absurd rfl (gs_ok c69).1 | exact absurd rfl (gs_ok c69).2.1 | exact absurd rfl (gs_ok c69).2.2) rfl ?_
            refine j_aload_n C d_M_field_109 rfl rfl ?_
            refine jm_get C fl_6_41 d_M_field_110 hmo rfl ?_
            refine j_bipush (v := 20) C d_M_field_113 (by decide) ?_
            refine j_iload_n C d_M_field_115 rfl rfl ?_
            refine j_imul C d_M_field_116 ?_
            refine j_iload_n C d_M_field_117 rfl rfl ?_
            refine j_iadd C d_M_field_118 ?_
            refine j_iload_n C d_M_field_119 rfl rfl ?_
            refine jm_iasti C 10 13 d_M_field_120 (by decide) rfl hmo (by first | exact ix_rf hnr hle (by assumption) (by assumption) | exact ix_rk hnr hle (by assumption) (by assumption) | exact ix_r hnr hle (by omega) (by omega) (by assumption) | exact absurd rfl (gs_ok c69).1 | exact absurd rfl (gs_ok c69).2.1 | exact absurd rfl (gs_ok c69).2.2) rfl ?_
            exact j_vreturn C d_M_field_121 rfl (by decide) (by decide) ⟨rfl, rfl, by first | (simp [mfield, mtell, mkn, kn2, nar1, nar0, pk_un, upa_n, c5, c35, c44, c58, c69]; done) | (simp [mfield, mtell, mkn, kn2, gsI, bz, nar1, nar0, pk_un, upa_n, c5, c35, c44, c58, c69]; done) | exact absurd c69 (by decide) | exact absurd rfl (gs_ok c69).1 | exact absurd rfl (gs_ok c69).2.1 | exact absurd rfl (gs_ok c69).2.2⟩
          · exact j_vreturn C d_M_field_72 rfl (by decide) (by decide) ⟨rfl, rfl, by first | (simp [mfield, mtell, mkn, kn2, nar1, nar0, pk_un, upa_n, c5, c35, c44, c58, c69]; done) | (simp [mfield, mtell, mkn, kn2, gsI, bz, nar1, nar0, pk_un, upa_n, c5, c35, c44, c58, c69]; done) | exact absurd c69 (by decide) | exact absurd rfl (gs_ok c69).1 | exact absurd rfl (gs_ok c69).2.1 | exact absurd rfl (gs_ok c69).2.2⟩
        · refine j_iconst (v := 1) C d_M_field_61 (by decide) ?_
          refine j_goto (tgt := 66) C d_M_field_62 (by decide) ?_
          refine j_callV C d_M_field_66 ml_M_109 mc_M_goes in_M_goes rfl se_M_goes (by omega) (ovM_o _ _ _ _) (c_M_goes hl _ _ _ _ _ _ hmo) rfl rfl (Nat.le_of_ble_eq_true rfl) (Nat.le_of_ble_eq_true rfl) (Nat.le_of_ble_eq_true rfl) (Nat.le_of_ble_eq_true rfl) (jk_r ?_)
          refine j_if_ne (tgt := 73) C d_M_field_69 (by decide) (fun c69 => ?_) (fun c69 => ?_)
          · refine j_aload_n C d_M_field_73 rfl rfl ?_
            refine jm_get C fl_6_31 d_M_field_74 hmo rfl ?_
            refine j_bipush (v := 20) C d_M_field_77 (by decide) ?_
            refine j_iload_n C d_M_field_79 rfl rfl ?_
            refine j_imul C d_M_field_80 ?_
            refine j_iload_n C d_M_field_81 rfl rfl ?_
            refine j_iadd C d_M_field_82 ?_
            refine j_iconst (v := 1) C d_M_field_83 (by decide) ?_
            refine jm_zasti C 7 10 d_M_field_84 (by decide) rfl hmo (by first | exact ix_rf hnr hle (by assumption) (by assumption) | exact ix_rk hnr hle (by assumption) (by assumption) | exact ix_r hnr hle (by omega) (by omega) (by assumption) | exact absurd rfl (gs_ok c69).1 | exact absurd rfl (gs_ok c69).2.1 | exact absurd rfl (gs_ok c69).2.2) rfl ?_
            refine j_aload_n C d_M_field_85 rfl rfl ?_
            refine jm_get C fl_6_35 d_M_field_86 hmo rfl ?_
            refine j_bipush (v := 20) C d_M_field_89 (by decide) ?_
            refine j_iload_n C d_M_field_91 rfl rfl ?_
            refine j_imul C d_M_field_92 ?_
            refine j_iload_n C d_M_field_93 rfl rfl ?_
            refine j_iadd C d_M_field_94 ?_
            refine j_iconst (v := 0) C d_M_field_95 (by decide) ?_
            refine jm_zasti C 8 11 d_M_field_96 (by decide) rfl hmo (by first | exact ix_rf hnr hle (by assumption) (by assumption) | exact ix_rk hnr hle (by assumption) (by assumption) | exact ix_r hnr hle (by omega) (by omega) (by assumption) | exact absurd rfl (gs_ok c69).1 | exact absurd rfl (gs_ok c69).2.1 | exact absurd rfl (gs_ok c69).2.2) rfl ?_
            refine j_aload_n C d_M_field_97 rfl rfl ?_
            refine jm_get C fl_6_38 d_M_field_98 hmo rfl ?_
            refine j_bipush (v := 20) C d_M_field_101 (by decide) ?_
            refine j_iload_n C d_M_field_103 rfl rfl ?_
            refine j_imul C d_M_field_104 ?_
            refine j_iload_n C d_M_field_105 rfl rfl ?_
            refine j_iadd C d_M_field_106 ?_
            refine j_iconst (v := 0) C d_M_field_107 (by decide) ?_
            refine jm_zasti C 9 12 d_M_field_108 (by decide) rfl hmo (by first | exact ix_rf hnr hle (by assumption) (by assumption) | exact ix_rk hnr hle (by assumption) (by assumption) | exact ix_r hnr hle (by omega) (by omega) (by assumption) | exact absurd rfl (gs_ok c69).1 | exact absurd rfl (gs_ok c69).2.1 | exact absurd rfl (gs_ok c69).2.2) rfl ?_
            refine j_aload_n C d_M_field_109 rfl rfl ?_
            refine jm_get C fl_6_41 d_M_field_110 hmo rfl ?_
            refine j_bipush (v := 20) C d_M_field_113 (by decide) ?_
            refine j_iload_n C d_M_field_115 rfl rfl ?_
            refine j_imul C d_M_field_116 ?_
            refine j_iload_n C d_M_field_117 rfl rfl ?_
            refine j_iadd C d_M_field_118 ?_
            refine j_iload_n C d_M_field_119 rfl rfl ?_
            refine jm_iasti C 10 13 d_M_field_120 (by decide) rfl hmo (by first | exact ix_rf hnr hle (by assumption) (by assumption) | exact ix_rk hnr hle (by assumption) (by assumption) | exact ix_r hnr hle (by omega) (by omega) (by assumption) | exact absurd rfl (gs_ok c69).1 | exact absurd rfl (gs_ok c69).2.1 | exact absurd rfl (gs_ok c69).2.2) rfl ?_
            exact j_vreturn C d_M_field_121 rfl (by decide) (by decide) ⟨rfl, rfl, by first | (simp [mfield, mtell, mkn, kn2, nar1, nar0, pk_un, upa_n, c5, c35, c44, c58, c69]; done) | (simp [mfield, mtell, mkn, kn2, gsI, bz, nar1, nar0, pk_un, upa_n, c5, c35, c44, c58, c69]; done) | exact absurd c69 (by decide) | exact absurd rfl (gs_ok c69).1 | exact absurd rfl (gs_ok c69).2.1 | exact absurd rfl (gs_ok c69).2.2⟩
          · exact j_vreturn C d_M_field_72 rfl (by decide) (by decide) ⟨rfl, rfl, by first | (simp [mfield, mtell, mkn, kn2, nar1, nar0, pk_un, upa_n, c5, c35, c44, c58, c69]; done) | (simp [mfield, mtell, mkn, kn2, gsI, bz, nar1, nar0, pk_un, upa_n, c5, c35, c44, c58, c69]; done) | exact absurd c69 (by decide) | exact absurd rfl (gs_ok c69).1 | exact absurd rfl (gs_ok c69).2.1 | exact absurd rfl (gs_ok c69).2.2⟩
  · refine j_iload_n C d_M_field_8 rfl rfl ?_
    refine j_callS C d_M_field_9 ml_M_117 mc_M_isField st_M_isField (c_M_isField hl _ _) rfl rfl (Nat.le_of_ble_eq_true rfl) (Nat.le_of_ble_eq_true rfl) (Nat.le_of_ble_eq_true rfl) (Nat.le_of_ble_eq_true rfl) (jk_r ?_)
    refine j_if_eq (tgt := 19) C d_M_field_12 (by decide) (fun c12 => ?_) (fun c12 => ?_)
    · refine j_iconst (v := 0) C d_M_field_19 (by decide) ?_
      refine j_istore C d_M_field_20 (by decide) rfl ?_
      refine j_aload_n C d_M_field_22 rfl rfl ?_
      refine j_iload C d_M_field_23 rfl ?_
      refine j_iload_n C d_M_field_25 rfl rfl ?_
      refine j_ldc (v := (-99999)) C d_M_field_26 lc_M_124 ?_
      refine j_ldc (v := 99999) C d_M_field_28 lc_M_125 ?_
      refine j_callS C d_M_field_30 ml_M_102 mc_M_in st_M_in (c_M_in hl _ _ _ _) rfl rfl (Nat.le_of_ble_eq_true rfl) (Nat.le_of_ble_eq_true rfl) (Nat.le_of_ble_eq_true rfl) (Nat.le_of_ble_eq_true rfl) (jk_r ?_)
      refine j_iload C d_M_field_33 rfl ?_
      refine j_if_eq (tgt := 65) C d_M_field_35 (by decide) (fun c35 => ?_) (fun c35 => ?_)
      · refine j_iconst (v := 0) C d_M_field_65 (by decide) ?_
        refine j_callV C d_M_field_66 ml_M_109 mc_M_goes in_M_goes rfl se_M_goes (by omega) (ovM_o _ _ _ _) (c_M_goes hl _ _ _ _ _ _ hmo) rfl rfl (Nat.le_of_ble_eq_true rfl) (Nat.le_of_ble_eq_true rfl) (Nat.le_of_ble_eq_true rfl) (Nat.le_of_ble_eq_true rfl) (jk_r ?_)
        refine j_if_ne (tgt := 73) C d_M_field_69 (by decide) (fun c69 => ?_) (fun c69 => ?_)
        · refine j_aload_n C d_M_field_73 rfl rfl ?_
          refine jm_get C fl_6_31 d_M_field_74 hmo rfl ?_
          refine j_bipush (v := 20) C d_M_field_77 (by decide) ?_
          refine j_iload_n C d_M_field_79 rfl rfl ?_
          refine j_imul C d_M_field_80 ?_
          refine j_iload_n C d_M_field_81 rfl rfl ?_
          refine j_iadd C d_M_field_82 ?_
          refine j_iconst (v := 1) C d_M_field_83 (by decide) ?_
          refine jm_zasti C 7 10 d_M_field_84 (by decide) rfl hmo (by first | exact ix_rf hnr hle (by assumption) (by assumption) | exact ix_rk hnr hle (by assumption) (by assumption) | exact ix_r hnr hle (by omega) (by omega) (by assumption) | exact absurd rfl (gs_ok c69).1 | exact absurd rfl (gs_ok c69).2.1 | exact absurd rfl (gs_ok c69).2.2) rfl ?_
          refine j_aload_n C d_M_field_85 rfl rfl ?_
          refine jm_get C fl_6_35 d_M_field_86 hmo rfl ?_
          refine j_bipush (v := 20) C d_M_field_89 (by decide) ?_
          refine j_iload_n C d_M_field_91 rfl rfl ?_
          refine j_imul C d_M_field_92 ?_
          refine j_iload_n C d_M_field_93 rfl rfl ?_
          refine j_iadd C d_M_field_94 ?_
          refine j_iconst (v := 0) C d_M_field_95 (by decide) ?_
          refine jm_zasti C 8 11 d_M_field_96 (by decide) rfl hmo (by first | exact ix_rf hnr hle (by assumption) (by assumption) | exact ix_rk hnr hle (by assumption) (by assumption) | exact ix_r hnr hle (by omega) (by omega) (by assumption) | exact absurd rfl (gs_ok c69).1 | exact absurd rfl (gs_ok c69).2.1 | exact absurd rfl (gs_ok c69).2.2) rfl ?_
          refine j_aload_n C d_M_field_97 rfl rfl ?_
          refine jm_get C fl_6_38 d_M_field_98 hmo rfl ?_
          refine j_bipush (v := 20) C d_M_field_101 (by decide) ?_
          refine j_iload_n C d_M_field_103 rfl rfl ?_
          refine j_imul C d_M_field_104 ?_
          refine j_iload_n C d_M_field_105 rfl rfl ?_
          refine j_iadd C d_M_field_106 ?_
          refine j_iconst (v := 0) C d_M_field_107 (by decide) ?_
          refine jm_zasti C 9 12 d_M_field_108 (by decide) rfl hmo (by first | exact ix_rf hnr hle (by assumption) (by assumption) | exact ix_rk hnr hle (by assumption) (by assumption) | exact ix_r hnr hle (by omega) (by omega) (by assumption) | exact absurd rfl (gs_ok c69).1 | exact absurd rfl (gs_ok c69).2.1 | exact absurd rfl (gs_ok c69).2.2) rfl ?_
          refine j_aload_n C d_M_field_109 rfl rfl ?_
          refine jm_get C fl_6_41 d_M_field_110 hmo rfl ?_
          refine j_bipush (v := 20) C d_M_field_113 (by decide) ?_
          refine j_iload_n C d_M_field_115 rfl rfl ?_
          refine j_imul C d_M_field_116 ?_
          refine j_iload_n C d_M_field_117 rfl rfl ?_
          refine j_iadd C d_M_field_118 ?_
          refine j_iload_n C d_M_field_119 rfl rfl ?_
          refine jm_iasti C 10 13 d_M_field_120 (by decide) rfl hmo (by first | exact ix_rf hnr hle (by assumption) (by assumption) | exact ix_rk hnr hle (by assumption) (by assumption) | exact ix_r hnr hle (by omega) (by omega) (by assumption) | exact absurd rfl (gs_ok c69).1 | exact absurd rfl (gs_ok c69).2.1 | exact absurd rfl (gs_ok c69).2.2) rfl ?_
          exact j_vreturn C d_M_field_121 rfl (by decide) (by decide) ⟨rfl, rfl, by first | (simp [mfield, mtell, mkn, kn2, nar1, nar0, pk_un, upa_n, c5, c12, c35, c69]; done) | (simp [mfield, mtell, mkn, kn2, gsI, bz, nar1, nar0, pk_un, upa_n, c5, c12, c35, c69]; done) | exact absurd c69 (by decide) | exact absurd rfl (gs_ok c69).1 | exact absurd rfl (gs_ok c69).2.1 | exact absurd rfl (gs_ok c69).2.2⟩
        · exact j_vreturn C d_M_field_72 rfl (by decide) (by decide) ⟨rfl, rfl, by first | (simp [mfield, mtell, mkn, kn2, nar1, nar0, pk_un, upa_n, c5, c12, c35, c69]; done) | (simp [mfield, mtell, mkn, kn2, gsI, bz, nar1, nar0, pk_un, upa_n, c5, c12, c35, c69]; done) | exact absurd c69 (by decide) | exact absurd rfl (gs_ok c69).1 | exact absurd rfl (gs_ok c69).2.1 | exact absurd rfl (gs_ok c69).2.2⟩
      · refine j_aload_n C d_M_field_38 rfl rfl ?_
        refine jm_get C fl_6_25 d_M_field_39 hmo rfl ?_
        refine j_iload_n C d_M_field_42 rfl rfl ?_
        refine jm_iald C 5 d_M_field_43 (by decide) rfl hmo (by first | exact ix_r hnr hle (by omega) (by omega) (by assumption) | exact absurd rfl c35) rfl ?_
        refine j_if_eq (tgt := 61) C d_M_field_44 (by decide) (fun c44 => ?_) (fun c44 => ?_)
        · refine j_iconst (v := 1) C d_M_field_61 (by decide) ?_
          refine j_goto (tgt := 66) C d_M_field_62 (by decide) ?_
          refine j_callV C d_M_field_66 ml_M_109 mc_M_goes in_M_goes rfl se_M_goes (by omega) (ovM_o _ _ _ _) (c_M_goes hl _ _ _ _ _ _ hmo) rfl rfl (Nat.le_of_ble_eq_true rfl) (Nat.le_of_ble_eq_true rfl) (Nat.le_of_ble_eq_true rfl) (Nat.le_of_ble_eq_true rfl) (jk_r ?_)
          refine j_if_ne (tgt := 73) C d_M_field_69 (by decide) (fun c69 => ?_) (fun c69 => ?_)
          · refine j_aload_n C d_M_field_73 rfl rfl ?_
            refine jm_get C fl_6_31 d_M_field_74 hmo rfl ?_
            refine j_bipush (v := 20) C d_M_field_77 (by decide) ?_
            refine j_iload_n C d_M_field_79 rfl rfl ?_
            refine j_imul C d_M_field_80 ?_
            refine j_iload_n C d_M_field_81 rfl rfl ?_
            refine j_iadd C d_M_field_82 ?_
            refine j_iconst (v := 1) C d_M_field_83 (by decide) ?_
            refine jm_zasti C 7 10 d_M_field_84 (by decide) rfl hmo (by first | exact ix_rf hnr hle (by assumption) (by assumption) | exact ix_rk hnr hle (by assumption) (by assumption) | exact ix_r hnr hle (by omega) (by omega) (by assumption) | exact absurd rfl (gs_ok c69).1 | exact absurd rfl (gs_ok c69).2.1 | exact absurd rfl (gs_ok c69).2.2) rfl ?_
            refine j_aload_n C d_M_field_85 rfl rfl ?_
            refine jm_get C fl_6_35 d_M_field_86 hmo rfl ?_
            refine j_bipush (v := 20) C d_M_field_89 (by decide) ?_
            refine j_iload_n C d_M_field_91 rfl rfl ?_
            refine j_imul C d_M_field_92 ?_
            refine j_iload_n C d_M_field_93 rfl rfl ?_
            refine j_iadd C d_M_field_94 ?_
            refine j_iconst (v := 0) C d_M_field_95 (by decide) ?_
            refine jm_zasti C 8 11 d_M_field_96 (by decide) rfl hmo (by first | exact ix_rf hnr hle (by assumption) (by assumption) | exact ix_rk hnr hle (by assumption) (by assumption) | exact ix_r hnr hle (by omega) (by omega) (by assumption) | exact absurd rfl (gs_ok c69).1 | exact absurd rfl (gs_ok c69).2.1 | exact absurd rfl (gs_ok c69).2.2) rfl ?_
            refine j_aload_n C d_M_field_97 rfl rfl ?_
            refine jm_get C fl_6_38 d_M_field_98 hmo rfl ?_
            refine j_bipush (v := 20) C d_M_field_101 (by decide) ?_
            refine j_iload_n C d_M_field_103 rfl rfl ?_
            refine j_imul C d_M_field_104 ?_
            refine j_iload_n C d_M_field_105 rfl rfl ?_
            refine j_iadd C d_M_field_106 ?_
            refine j_iconst (v := 0) C d_M_field_107 (by decide) ?_
            refine jm_zasti C 9 12 d_M_field_108 (by decide) rfl hmo (by first | exact ix_rf hnr hle (by assumption) (by assumption) | exact ix_rk hnr hle (by assumption) (by assumption) | exact ix_r hnr hle (by omega) (by omega) (by assumption) | exact absurd rfl (gs_ok c69).1 | exact absurd rfl (gs_ok c69).2.1 | exact absurd rfl (gs_ok c69).2.2) rfl ?_
            refine j_aload_n C d_M_field_109 rfl rfl ?_
            refine jm_get C fl_6_41 d_M_field_110 hmo rfl ?_
            refine j_bipush (v := 20) C d_M_field_113 (by decide) ?_
            refine j_iload_n C d_M_field_115 rfl rfl ?_
            refine j_imul C d_M_field_116 ?_
            refine j_iload_n C d_M_field_117 rfl rfl ?_
            refine j_iadd C d_M_field_118 ?_
            refine j_iload_n C d_M_field_119 rfl rfl ?_
            refine jm_iasti C 10 13 d_M_field_120 (by decide) rfl hmo (by first | exact ix_rf hnr hle (by assumption) (by assumption) | exact ix_rk hnr hle (by assumption) (by assumption) | exact ix_r hnr hle (by omega) (by omega) (by assumption) | exact absurd rfl (gs_ok c69).1 | exact absurd rfl (gs_ok c69).2.1 | exact absurd rfl (gs_ok c69).2.2) rfl ?_
            exact j_vreturn C d_M_field_121 rfl (by decide) (by decide) ⟨rfl, rfl, by first | (simp [mfield, mtell, mkn, kn2, nar1, nar0, pk_un, upa_n, c5, c12, c35, c44, c69]; done) | (simp [mfield, mtell, mkn, kn2, gsI, bz, nar1, nar0, pk_un, upa_n, c5, c12, c35, c44, c69]; done) | exact absurd c69 (by decide) | exact absurd rfl (gs_ok c69).1 | exact absurd rfl (gs_ok c69).2.1 | exact absurd rfl (gs_ok c69).2.2⟩
          · exact j_vreturn C d_M_field_72 rfl (by decide) (by decide) ⟨rfl, rfl, by first | (simp [mfield, mtell, mkn, kn2, nar1, nar0, pk_un, upa_n, c5, c12, c35, c44, c69]; done) | (simp [mfield, mtell, mkn, kn2, gsI, bz, nar1, nar0, pk_un, upa_n, c5, c12, c35, c44, c69]; done) | exact absurd c69 (by decide) | exact absurd rfl (gs_ok c69).1 | exact absurd rfl (gs_ok c69).2.1 | exact absurd rfl (gs_ok c69).2.2⟩
        · refine j_aload_n C d_M_field_47 rfl rfl ?_
          refine jm_get C fl_6_38 d_M_field_48 hmo rfl ?_
          refine j_bipush (v := 20) C d_M_field_51 (by decide) ?_
          refine j_iload_n C d_M_field_53 rfl rfl ?_
          refine j_imul C d_M_field_54 ?_
          refine j_iload_n C d_M_field_55 rfl rfl ?_
          refine j_iadd C d_M_field_56 ?_
          refine jm_zald C 9 d_M_field_57 (by decide) rfl hmo (by first | exact ix_rf hnr hle (by assumption) (by assumption) | exact absurd rfl c35) rfl ?_
          refine j_if_eq (tgt := 65) C d_M_field_58 (by decide) (fun c58 => ?_) (fun c58 => ?_)
          · refine j_iconst (v := 0) C d_M_field_65 (by decide) ?_
            refine j_callV C d_M_field_66 ml_M_109 mc_M_goes in_M_goes rfl se_M_goes (by omega) (ovM_o _ _ _ _) (c_M_goes hl _ _ _ _ _ _ hmo) rfl rfl (Nat.le_of_ble_eq_true rfl) (Nat.le_of_ble_eq_true rfl) (Nat.le_of_ble_eq_true rfl) (Nat.le_of_ble_eq_true rfl) (jk_r ?_)
            refine j_if_ne (tgt := 73) C d_M_field_69 (by decide) (fun c69 => ?_) (fun c69 => ?_)
            · refine j_aload_n C d_M_field_73 rfl rfl ?_
              refine jm_get C fl_6_31 d_M_field_74 hmo rfl ?_
              refine j_bipush (v := 20) C d_M_field_77 (by decide) ?_
              refine j_iload_n C d_M_field_79 rfl rfl ?_
              refine j_imul C d_M_field_80 ?_
              refine j_iload_n C d_M_field_81 rfl rfl ?_
              refine j_iadd C d_M_field_82 ?_
              refine j_iconst (v := 1) C d_M_field_83 (by decide) ?_
              refine jm_zasti C 7 10 d_M_field_84 (by decide) rfl hmo (by first | exact ix_rf hnr hle (by assumption) (by assumption) | exact ix_rk hnr hle (by assumption) (by assumption) | exact ix_r hnr hle (by omega) (by omega) (by assumption) | exact absurd rfl (gs_ok c69).1 | exact absurd rfl (gs_ok c69).2.1 | exact absurd rfl (gs_ok c69).2.2) rfl ?_
              refine j_aload_n C d_M_field_85 rfl rfl ?_
              refine jm_get C fl_6_35 d_M_field_86 hmo rfl ?_
              refine j_bipush (v := 20) C d_M_field_89 (by decide) ?_
              refine j_iload_n C d_M_field_91 rfl rfl ?_
              refine j_imul C d_M_field_92 ?_
              refine j_iload_n C d_M_field_93 rfl rfl ?_
              refine j_iadd C d_M_field_94 ?_
              refine j_iconst (v := 0) C d_M_field_95 (by decide) ?_
              refine jm_zasti C 8 11 d_M_field_96 (by decide) rfl hmo (by first | exact ix_rf hnr hle (by assumption) (by assumption) | exact ix_rk hnr hle (by assumption) (by assumption) | exact ix_r hnr hle (by omega) (by omega) (by assumption) | exact absurd rfl (gs_ok c69).1 | exact absurd rfl (gs_ok c69).2.1 | exact absurd rfl (gs_ok c69).2.2) rfl ?_
              refine j_aload_n C d_M_field_97 rfl rfl ?_
              refine jm_get C fl_6_38 d_M_field_98 hmo rfl ?_
              refine j_bipush (v := 20) C d_M_field_101 (by decide) ?_
              refine j_iload_n C d_M_field_103 rfl rfl ?_
              refine j_imul C d_M_field_104 ?_
              refine j_iload_n C d_M_field_105 rfl rfl ?_
              refine j_iadd C d_M_field_106 ?_
              refine j_iconst (v := 0) C d_M_field_107 (by decide) ?_
              refine jm_zasti C 9 12 d_M_field_108 (by decide) rfl hmo (by first | exact ix_rf hnr hle (by assumption) (by assumption) | exact ix_rk hnr hle (by assumption) (by assumption) | exact ix_r hnr hle (by omega) (by omega) (by assumption) | exact absurd rfl (gs_ok c69).1 | exact absurd rfl (gs_ok c69).2.1 | exact absurd rfl (gs_ok c69).2.2) rfl ?_
              refine j_aload_n C d_M_field_109 rfl rfl ?_
              refine jm_get C fl_6_41 d_M_field_110 hmo rfl ?_
              refine j_bipush (v := 20) C d_M_field_113 (by decide) ?_
              refine j_iload_n C d_M_field_115 rfl rfl ?_
              refine j_imul C d_M_field_116 ?_
              refine j_iload_n C d_M_field_117 rfl rfl ?_
              refine j_iadd C d_M_field_118 ?_
              refine j_iload_n C d_M_field_119 rfl rfl ?_
              refine jm_iasti C 10 13 d_M_field_120 (by decide) rfl hmo (by first | exact ix_rf hnr hle (by assumption) (by assumption) | exact ix_rk hnr hle (by assumption) (by assumption) | exact ix_r hnr hle (by omega) (by omega) (by assumption) | exact absurd rfl (gs_ok c69).1 | exact absurd rfl (gs_ok c69).2.1 | exact absurd rfl (gs_ok c69).2.2) rfl ?_
              exact j_vreturn C d_M_field_121 rfl (by decide) (by decide) ⟨rfl, rfl, by first | (simp [mfield, mtell, mkn, kn2, nar1, nar0, pk_un, upa_n, c5, c12, c35, c44, c58, c69]; done) | (simp [mfield, mtell, mkn, kn2, gsI, bz, nar1, nar0, pk_un, upa_n, c5, c12, c35, c44, c58, c69]; done) | exact absurd c69 (by decide) | exact absurd rfl (gs_ok c69).1 | exact absurd rfl (gs_ok c69).2.1 | exact absurd rfl (gs_ok c69).2.2⟩
            · exact j_vreturn C d_M_field_72 rfl (by decide) (by decide) ⟨rfl, rfl, by first | (simp [mfield, mtell, mkn, kn2, nar1, nar0, pk_un, upa_n, c5, c12, c35, c44, c58, c69]; done) | (simp [mfield, mtell, mkn, kn2, gsI, bz, nar1, nar0, pk_un, upa_n, c5, c12, c35, c44, c58, c69]; done) | exact absurd c69 (by decide) | exact absurd rfl (gs_ok c69).1 | exact absurd rfl (gs_ok c69).2.1 | exact absurd rfl (gs_ok c69).2.2⟩
          · refine j_iconst (v := 1) C d_M_field_61 (by decide) ?_
            refine j_goto (tgt := 66) C d_M_field_62 (by decide) ?_
            refine j_callV C d_M_field_66 ml_M_109 mc_M_goes in_M_goes rfl se_M_goes (by omega) (ovM_o _ _ _ _) (c_M_goes hl _ _ _ _ _ _ hmo) rfl rfl (Nat.le_of_ble_eq_true rfl) (Nat.le_of_ble_eq_true rfl) (Nat.le_of_ble_eq_true rfl) (Nat.le_of_ble_eq_true rfl) (jk_r ?_)
            refine j_if_ne (tgt := 73) C d_M_field_69 (by decide) (fun c69 => ?_) (fun c69 => ?_)
            · refine j_aload_n C d_M_field_73 rfl rfl ?_
              refine jm_get C fl_6_31 d_M_field_74 hmo rfl ?_
              refine j_bipush (v := 20) C d_M_field_77 (by decide) ?_
              refine j_iload_n C d_M_field_79 rfl rfl ?_
              refine j_imul C d_M_field_80 ?_
              refine j_iload_n C d_M_field_81 rfl rfl ?_
              refine j_iadd C d_M_field_82 ?_
              refine j_iconst (v := 1) C d_M_field_83 (by decide) ?_
              refine jm_zasti C 7 10 d_M_field_84 (by decide) rfl hmo (by first | exact ix_rf hnr hle (by assumption) (by assumption) | exact ix_rk hnr hle (by assumption) (by assumption) | exact ix_r hnr hle (by omega) (by omega) (by assumption) | exact absurd rfl (gs_ok c69).1 | exact absurd rfl (gs_ok c69).2.1 | exact absurd rfl (gs_ok c69).2.2) rfl ?_
              refine j_aload_n C d_M_field_85 rfl rfl ?_
              refine jm_get C fl_6_35 d_M_field_86 hmo rfl ?_
              refine j_bipush (v := 20) C d_M_field_89 (by decide) ?_
              refine j_iload_n C d_M_field_91 rfl rfl ?_
              refine j_imul C d_M_field_92 ?_
              refine j_iload_n C d_M_field_93 rfl rfl ?_
              refine j_iadd C d_M_field_94 ?_
              refine j_iconst (v := 0) C d_M_field_95 (by decide) ?_
              refine jm_zasti C 8 11 d_M_field_96 (by decide) rfl hmo (by first | exact ix_rf hnr hle (by assumption) (by assumption) | exact ix_rk hnr hle (by assumption) (by assumption) | exact ix_r hnr hle (by omega) (by omega) (by assumption) | exact absurd rfl (gs_ok c69).1 | exact absurd rfl (gs_ok c69).2.1 | exact absurd rfl (gs_ok c69).2.2) rfl ?_
              refine j_aload_n C d_M_field_97 rfl rfl ?_
              refine jm_get C fl_6_38 d_M_field_98 hmo rfl ?_
              refine j_bipush (v := 20) C d_M_field_101 (by decide) ?_
              refine j_iload_n C d_M_field_103 rfl rfl ?_
              refine j_imul C d_M_field_104 ?_
              refine j_iload_n C d_M_field_105 rfl rfl ?_
              refine j_iadd C d_M_field_106 ?_
              refine j_iconst (v := 0) C d_M_field_107 (by decide) ?_
              refine jm_zasti C 9 12 d_M_field_108 (by decide) rfl hmo (by first | exact ix_rf hnr hle (by assumption) (by assumption) | exact ix_rk hnr hle (by assumption) (by assumption) | exact ix_r hnr hle (by omega) (by omega) (by assumption) | exact absurd rfl (gs_ok c69).1 | exact absurd rfl (gs_ok c69).2.1 | exact absurd rfl (gs_ok c69).2.2) rfl ?_
              refine j_aload_n C d_M_field_109 rfl rfl ?_
              refine jm_get C fl_6_41 d_M_field_110 hmo rfl ?_
              refine j_bipush (v := 20) C d_M_field_113 (by decide) ?_
              refine j_iload_n C d_M_field_115 rfl rfl ?_
              refine j_imul C d_M_field_116 ?_
              refine j_iload_n C d_M_field_117 rfl rfl ?_
              refine j_iadd C d_M_field_118 ?_
              refine j_iload_n C d_M_field_119 rfl rfl ?_
              refine jm_iasti C 10 13 d_M_field_120 (by decide) rfl hmo (by first | exact ix_rf hnr hle (by assumption) (by assumption) | exact ix_rk hnr hle (by assumption) (by assumption) | exact ix_r hnr hle (by omega) (by omega) (by assumption) | exact absurd rfl (gs_ok c69).1 | exact absurd rfl (gs_ok c69).2.1 | exact absurd rfl (gs_ok c69).2.2) rfl ?_
              exact j_vreturn C d_M_field_121 rfl (by decide) (by decide) ⟨rfl, rfl, by first | (simp [mfield, mtell, mkn, kn2, nar1, nar0, pk_un, upa_n, c5, c12, c35, c44, c58, c69]; done) | (simp [mfield, mtell, mkn, kn2, gsI, bz, nar1, nar0, pk_un, upa_n, c5, c12, c35, c44, c58, c69]; done) | exact absurd c69 (by decide) | exact absurd rfl (gs_ok c69).1 | exact absurd rfl (gs_ok c69).2.1 | exact absurd rfl (gs_ok c69).2.2⟩
            · exact j_vreturn C d_M_field_72 rfl (by decide) (by decide) ⟨rfl, rfl, by first | (simp [mfield, mtell, mkn, kn2, nar1, nar0, pk_un, upa_n, c5, c12, c35, c44, c58, c69]; done) | (simp [mfield, mtell, mkn, kn2, gsI, bz, nar1, nar0, pk_un, upa_n, c5, c12, c35, c44, c58, c69]; done) | exact absurd c69 (by decide) | exact absurd rfl (gs_ok c69).1 | exact absurd rfl (gs_ok c69).2.1 | exact absurd rfl (gs_ok c69).2.2⟩
    · refine j_iconst (v := 1) C d_M_field_15 (by decide) ?_
      refine j_goto (tgt := 20) C d_M_field_16 (by decide) ?_
      refine j_istore C d_M_field_20 (by decide) rfl ?_
      refine j_aload_n C d_M_field_22 rfl rfl ?_
      refine j_iload C d_M_field_23 rfl ?_
      refine j_iload_n C d_M_field_25 rfl rfl ?_
      refine j_ldc (v := (-99999)) C d_M_field_26 lc_M_124 ?_
      refine j_ldc (v := 99999) C d_M_field_28 lc_M_125 ?_
      refine j_callS C d_M_field_30 ml_M_102 mc_M_in st_M_in (c_M_in hl _ _ _ _) rfl rfl (Nat.le_of_ble_eq_true rfl) (Nat.le_of_ble_eq_true rfl) (Nat.le_of_ble_eq_true rfl) (Nat.le_of_ble_eq_true rfl) (jk_r ?_)
      refine j_iload C d_M_field_33 rfl ?_
      refine j_if_eq (tgt := 65) C d_M_field_35 (by decide) (fun c35 => ?_) (fun c35 => ?_)
      · refine j_iconst (v := 0) C d_M_field_65 (by decide) ?_
        refine j_callV C d_M_field_66 ml_M_109 mc_M_goes in_M_goes rfl se_M_goes (by omega) (ovM_o _ _ _ _) (c_M_goes hl _ _ _ _ _ _ hmo) rfl rfl (Nat.le_of_ble_eq_true rfl) (Nat.le_of_ble_eq_true rfl) (Nat.le_of_ble_eq_true rfl) (Nat.le_of_ble_eq_true rfl) (jk_r ?_)
        refine j_if_ne (tgt := 73) C d_M_field_69 (by decide) (fun c69 => ?_) (fun c69 => ?_)
        · refine j_aload_n C d_M_field_73 rfl rfl ?_
          refine jm_get C fl_6_31 d_M_field_74 hmo rfl ?_
          refine j_bipush (v := 20) C d_M_field_77 (by decide) ?_
          refine j_iload_n C d_M_field_79 rfl rfl ?_
          refine j_imul C d_M_field_80 ?_
          refine j_iload_n C d_M_field_81 rfl rfl ?_
          refine j_iadd C d_M_field_82 ?_
          refine j_iconst (v := 1) C d_M_field_83 (by decide) ?_
          refine jm_zasti C 7 10 d_M_field_84 (by decide) rfl hmo (by first | exact ix_rf hnr hle (by assumption) (by assumption) | exact ix_rk hnr hle (by assumption) (by assumption) | exact ix_r hnr hle (by omega) (by omega) (by assumption) | exact absurd rfl (gs_ok c69).1 | exact absurd rfl (gs_ok c69).2.1 | exact absurd rfl (gs_ok c69).2.2) rfl ?_
          refine j_aload_n C d_M_field_85 rfl rfl ?_
          refine jm_get C fl_6_35 d_M_field_86 hmo rfl ?_
          refine j_bipush (v := 20) C d_M_field_89 (by decide) ?_
          refine j_iload_n C d_M_field_91 rfl rfl ?_
          refine j_imul C d_M_field_92 ?_
          refine j_iload_n C d_M_field_93 rfl rfl ?_
          refine j_iadd C d_M_field_94 ?_
          refine j_iconst (v := 0) C d_M_field_95 (by decide) ?_
          refine jm_zasti C 8 11 d_M_field_96 (by decide) rfl hmo (by first | exact ix_rf hnr hle (by assumption) (by assumption) | exact ix_rk hnr hle (by assumption) (by assumption) | exact ix_r hnr hle (by omega) (by omega) (by assumption) | exact absurd rfl (gs_ok c69).1 | exact absurd rfl (gs_ok c69).2.1 | exact absurd rfl (gs_ok c69).2.2) rfl ?_
          refine j_aload_n C d_M_field_97 rfl rfl ?_
          refine jm_get C fl_6_38 d_M_field_98 hmo rfl ?_
          refine j_bipush (v := 20) C d_M_field_101 (by decide) ?_
          refine j_iload_n C d_M_field_103 rfl rfl ?_
          refine j_imul C d_M_field_104 ?_
          refine j_iload_n C d_M_field_105 rfl rfl ?_
          refine j_iadd C d_M_field_106 ?_
          refine j_iconst (v := 0) C d_M_field_107 (by decide) ?_
          refine jm_zasti C 9 12 d_M_field_108 (by decide) rfl hmo (by first | exact ix_rf hnr hle (by assumption) (by assumption) | exact ix_rk hnr hle (by assumption) (by assumption) | exact ix_r hnr hle (by omega) (by omega) (by assumption) | exact absurd rfl (gs_ok c69).1 | exact absurd rfl (gs_ok c69).2.1 | exact absurd rfl (gs_ok c69).2.2) rfl ?_
          refine j_aload_n C d_M_field_109 rfl rfl ?_
          refine jm_get C fl_6_41 d_M_field_110 hmo rfl ?_
          refine j_bipush (v := 20) C d_M_field_113 (by decide) ?_
          refine j_iload_n C d_M_field_115 rfl rfl ?_
          refine j_imul C d_M_field_116 ?_
          refine j_iload_n C d_M_field_117 rfl rfl ?_
          refine j_iadd C d_M_field_118 ?_
          refine j_iload_n C d_M_field_119 rfl rfl ?_
          refine jm_iasti C 10 13 d_M_field_120 (by decide) rfl hmo (by first | exact ix_rf hnr hle (by assumption) (by assumption) | exact ix_rk hnr hle (by assumption) (by assumption) | exact ix_r hnr hle (by omega) (by omega) (by assumption) | exact absurd rfl (gs_ok c69).1 | exact absurd rfl (gs_ok c69).2.1 | exact absurd rfl (gs_ok c69).2.2) rfl ?_
          exact j_vreturn C d_M_field_121 rfl (by decide) (by decide) ⟨rfl, rfl, by first | (simp [mfield, mtell, mkn, kn2, nar1, nar0, pk_un, upa_n, c5, c12, c35, c69]; done) | (simp [mfield, mtell, mkn, kn2, gsI, bz, nar1, nar0, pk_un, upa_n, c5, c12, c35, c69]; done) | exact absurd c69 (by decide) | exact absurd rfl (gs_ok c69).1 | exact absurd rfl (gs_ok c69).2.1 | exact absurd rfl (gs_ok c69).2.2⟩
        · exact j_vreturn C d_M_field_72 rfl (by decide) (by decide) ⟨rfl, rfl, by first | (simp [mfield, mtell, mkn, kn2, nar1, nar0, pk_un, upa_n, c5, c12, c35, c69]; done) | (simp [mfield, mtell, mkn, kn2, gsI, bz, nar1, nar0, pk_un, upa_n, c5, c12, c35, c69]; done) | exact absurd c69 (by decide) | exact absurd rfl (gs_ok c69).1 | exact absurd rfl (gs_ok c69).2.1 | exact absurd rfl (gs_ok c69).2.2⟩
      · refine j_aload_n C d_M_field_38 rfl rfl ?_
        refine jm_get C fl_6_25 d_M_field_39 hmo rfl ?_
        refine j_iload_n C d_M_field_42 rfl rfl ?_
        refine jm_iald C 5 d_M_field_43 (by decide) rfl hmo (by first | exact ix_r hnr hle (by omega) (by omega) (by assumption) | exact absurd rfl c35) rfl ?_
        refine j_if_eq (tgt := 61) C d_M_field_44 (by decide) (fun c44 => ?_) (fun c44 => ?_)
        · refine j_iconst (v := 1) C d_M_field_61 (by decide) ?_
          refine j_goto (tgt := 66) C d_M_field_62 (by decide) ?_
          refine j_callV C d_M_field_66 ml_M_109 mc_M_goes in_M_goes rfl se_M_goes (by omega) (ovM_o _ _ _ _) (c_M_goes hl _ _ _ _ _ _ hmo) rfl rfl (Nat.le_of_ble_eq_true rfl) (Nat.le_of_ble_eq_true rfl) (Nat.le_of_ble_eq_true rfl) (Nat.le_of_ble_eq_true rfl) (jk_r ?_)
          refine j_if_ne (tgt := 73) C d_M_field_69 (by decide) (fun c69 => ?_) (fun c69 => ?_)
          · refine j_aload_n C d_M_field_73 rfl rfl ?_
            refine jm_get C fl_6_31 d_M_field_74 hmo rfl ?_
            refine j_bipush (v := 20) C d_M_field_77 (by decide) ?_
            refine j_iload_n C d_M_field_79 rfl rfl ?_
            refine j_imul C d_M_field_80 ?_
            refine j_iload_n C d_M_field_81 rfl rfl ?_
            refine j_iadd C d_M_field_82 ?_
            refine j_iconst (v := 1) C d_M_field_83 (by decide) ?_
            refine jm_zasti C 7 10 d_M_field_84 (by decide) rfl hmo (by first | exact ix_rf hnr hle (by assumption) (by assumption) | exact ix_rk hnr hle (by assumption) (by assumption) | exact ix_r hnr hle (by omega) (by omega) (by assumption) | exact absurd rfl (gs_ok c69).1 | exact absurd rfl (gs_ok c69).2.1 | exact absurd rfl (gs_ok c69).2.2) rfl ?_
            refine j_aload_n C d_M_field_85 rfl rfl ?_
            refine jm_get C fl_6_35 d_M_field_86 hmo rfl ?_
            refine j_bipush (v := 20) C d_M_field_89 (by decide) ?_
            refine j_iload_n C d_M_field_91 rfl rfl ?_
            refine j_imul C d_M_field_92 ?_
            refine j_iload_n C d_M_field_93 rfl rfl ?_
            refine j_iadd C d_M_field_94 ?_
            refine j_iconst (v := 0) C d_M_field_95 (by decide) ?_
            refine jm_zasti C 8 11 d_M_field_96 (by decide) rfl hmo (by first | exact ix_rf hnr hle (by assumption) (by assumption) | exact ix_rk hnr hle (by assumption) (by assumption) | exact ix_r hnr hle (by omega) (by omega) (by assumption) | exact absurd rfl (gs_ok c69).1 | exact absurd rfl (gs_ok c69).2.1 | exact absurd rfl (gs_ok c69).2.2) rfl ?_
            refine j_aload_n C d_M_field_97 rfl rfl ?_
            refine jm_get C fl_6_38 d_M_field_98 hmo rfl ?_
            refine j_bipush (v := 20) C d_M_field_101 (by decide) ?_
            refine j_iload_n C d_M_field_103 rfl rfl ?_
            refine j_imul C d_M_field_104 ?_
            refine j_iload_n C d_M_field_105 rfl rfl ?_
            refine j_iadd C d_M_field_106 ?_
            refine j_iconst (v := 0) C d_M_field_107 (by decide) ?_
            refine jm_zasti C 9 12 d_M_field_108 (by decide) rfl hmo (by first | exact ix_rf hnr hle (by assumption) (by assumption) | exact ix_rk hnr hle (by assumption) (by assumption) | exact ix_r hnr hle (by omega) (by omega) (by assumption) | exact absurd rfl (gs_ok c69).1 | exact absurd rfl (gs_ok c69).2.1 | exact absurd rfl (gs_ok c69).2.2) rfl ?_
            refine j_aload_n C d_M_field_109 rfl rfl ?_
            refine jm_get C fl_6_41 d_M_field_110 hmo rfl ?_
            refine j_bipush (v := 20) C d_M_field_113 (by decide) ?_
            refine j_iload_n C d_M_field_115 rfl rfl ?_
            refine j_imul C d_M_field_116 ?_
            refine j_iload_n C d_M_field_117 rfl rfl ?_
            refine j_iadd C d_M_field_118 ?_
            refine j_iload_n C d_M_field_119 rfl rfl ?_
            refine jm_iasti C 10 13 d_M_field_120 (by decide) rfl hmo (by first | exact ix_rf hnr hle (by assumption) (by assumption) | exact ix_rk hnr hle (by assumption) (by assumption) | exact ix_r hnr hle (by omega) (by omega) (by assumption) | exact absurd rfl (gs_ok c69).1 | exact absurd rfl (gs_ok c69).2.1 | exact absurd rfl (gs_ok c69).2.2) rfl ?_
            exact j_vreturn C d_M_field_121 rfl (by decide) (by decide) ⟨rfl, rfl, by first | (simp [mfield, mtell, mkn, kn2, nar1, nar0, pk_un, upa_n, c5, c12, c35, c44, c69]; done) | (simp [mfield, mtell, mkn, kn2, gsI, bz, nar1, nar0, pk_un, upa_n, c5, c12, c35, c44, c69]; done) | exact absurd c69 (by decide) | exact absurd rfl (gs_ok c69).1 | exact absurd rfl (gs_ok c69).2.1 | exact absurd rfl (gs_ok c69).2.2⟩
          · exact j_vreturn C d_M_field_72 rfl (by decide) (by decide) ⟨rfl, rfl, by first | (simp [mfield, mtell, mkn, kn2, nar1, nar0, pk_un, upa_n, c5, c12, c35, c44, c69]; done) | (simp [mfield, mtell, mkn, kn2, gsI, bz, nar1, nar0, pk_un, upa_n, c5, c12, c35, c44, c69]; done) | exact absurd c69 (by decide) | exact absurd rfl (gs_ok c69).1 | exact absurd rfl (gs_ok c69).2.1 | exact absurd rfl (gs_ok c69).2.2⟩
        · refine j_aload_n C d_M_field_47 rfl rfl ?_
          refine jm_get C fl_6_38 d_M_field_48 hmo rfl ?_
          refine j_bipush (v := 20) C d_M_field_51 (by decide) ?_
          refine j_iload_n C d_M_field_53 rfl rfl ?_
          refine j_imul C d_M_field_54 ?_
          refine j_iload_n C d_M_field_55 rfl rfl ?_
          refine j_iadd C d_M_field_56 ?_
          refine jm_zald C 9 d_M_field_57 (by decide) rfl hmo (by first | exact ix_rf hnr hle (by assumption) (by assumption) | exact absurd rfl c35) rfl ?_
          refine j_if_eq (tgt := 65) C d_M_field_58 (by decide) (fun c58 => ?_) (fun c58 => ?_)
          · refine j_iconst (v := 0) C d_M_field_65 (by decide) ?_
            refine j_callV C d_M_field_66 ml_M_109 mc_M_goes in_M_goes rfl se_M_goes (by omega) (ovM_o _ _ _ _) (c_M_goes hl _ _ _ _ _ _ hmo) rfl rfl (Nat.le_of_ble_eq_true rfl) (Nat.le_of_ble_eq_true rfl) (Nat.le_of_ble_eq_true rfl) (Nat.le_of_ble_eq_true rfl) (jk_r ?_)
            refine j_if_ne (tgt := 73) C d_M_field_69 (by decide) (fun c69 => ?_) (fun c69 => ?_)
            · refine j_aload_n C d_M_field_73 rfl rfl ?_
              refine jm_get C fl_6_31 d_M_field_74 hmo rfl ?_
              refine j_bipush (v := 20) C d_M_field_77 (by decide) ?_
              refine j_iload_n C d_M_field_79 rfl rfl ?_
              refine j_imul C d_M_field_80 ?_
              refine j_iload_n C d_M_field_81 rfl rfl ?_
              refine j_iadd C d_M_field_82 ?_
              refine j_iconst (v := 1) C d_M_field_83 (by decide) ?_
              refine jm_zasti C 7 10 d_M_field_84 (by decide) rfl hmo (by first | exact ix_rf hnr hle (by assumption) (by assumption) | exact ix_rk hnr hle (by assumption) (by assumption) | exact ix_r hnr hle (by omega) (by omega) (by assumption) | exact absurd rfl (gs_ok c69).1 | exact absurd rfl (gs_ok c69).2.1 | exact absurd rfl (gs_ok c69).2.2) rfl ?_
              refine j_aload_n C d_M_field_85 rfl rfl ?_
              refine jm_get C fl_6_35 d_M_field_86 hmo rfl ?_
              refine j_bipush (v := 20) C d_M_field_89 (by decide) ?_
              refine j_iload_n C d_M_field_91 rfl rfl ?_
              refine j_imul C d_M_field_92 ?_
              refine j_iload_n C d_M_field_93 rfl rfl ?_
              refine j_iadd C d_M_field_94 ?_
              refine j_iconst (v := 0) C d_M_field_95 (by decide) ?_
              refine jm_zasti C 8 11 d_M_field_96 (by decide) rfl hmo (by first | exact ix_rf hnr hle (by assumption) (by assumption) | exact ix_rk hnr hle (by assumption) (by assumption) | exact ix_r hnr hle (by omega) (by omega) (by assumption) | exact absurd rfl (gs_ok c69).1 | exact absurd rfl (gs_ok c69).2.1 | exact absurd rfl (gs_ok c69).2.2) rfl ?_
              refine j_aload_n C d_M_field_97 rfl rfl ?_
              refine jm_get C fl_6_38 d_M_field_98 hmo rfl ?_
              refine j_bipush (v := 20) C d_M_field_101 (by decide) ?_
              refine j_iload_n C d_M_field_103 rfl rfl ?_
              refine j_imul C d_M_field_104 ?_
              refine j_iload_n C d_M_field_105 rfl rfl ?_
              refine j_iadd C d_M_field_106 ?_
              refine j_iconst (v := 0) C d_M_field_107 (by decide) ?_
              refine jm_zasti C 9 12 d_M_field_108 (by decide) rfl hmo (by first | exact ix_rf hnr hle (by assumption) (by assumption) | exact ix_rk hnr hle (by assumption) (by assumption) | exact ix_r hnr hle (by omega) (by omega) (by assumption) | exact absurd rfl (gs_ok c69).1 | exact absurd rfl (gs_ok c69).2.1 | exact absurd rfl (gs_ok c69).2.2) rfl ?_
              refine j_aload_n C d_M_field_109 rfl rfl ?_
              refine jm_get C fl_6_41 d_M_field_110 hmo rfl ?_
              refine j_bipush (v := 20) C d_M_field_113 (by decide) ?_
              refine j_iload_n C d_M_field_115 rfl rfl ?_
              refine j_imul C d_M_field_116 ?_
              refine j_iload_n C d_M_field_117 rfl rfl ?_
              refine j_iadd C d_M_field_118 ?_
              refine j_iload_n C d_M_field_119 rfl rfl ?_
              refine jm_iasti C 10 13 d_M_field_120 (by decide) rfl hmo (by first | exact ix_rf hnr hle (by assumption) (by assumption) | exact ix_rk hnr hle (by assumption) (by assumption) | exact ix_r hnr hle (by omega) (by omega) (by assumption) | exact absurd rfl (gs_ok c69).1 | exact absurd rfl (gs_ok c69).2.1 | exact absurd rfl (gs_ok c69).2.2) rfl ?_
              exact j_vreturn C d_M_field_121 rfl (by decide) (by decide) ⟨rfl, rfl, by first | (simp [mfield, mtell, mkn, kn2, nar1, nar0, pk_un, upa_n, c5, c12, c35, c44, c58, c69]; done) | (simp [mfield, mtell, mkn, kn2, gsI, bz, nar1, nar0, pk_un, upa_n, c5, c12, c35, c44, c58, c69]; done) | exact absurd c69 (by decide) | exact absurd rfl (gs_ok c69).1 | exact absurd rfl (gs_ok c69).2.1 | exact absurd rfl (gs_ok c69).2.2⟩
            · exact j_vreturn C d_M_field_72 rfl (by decide) (by decide) ⟨rfl, rfl, by first | (simp [mfield, mtell, mkn, kn2, nar1, nar0, pk_un, upa_n, c5, c12, c35, c44, c58, c69]; done) | (simp [mfield, mtell, mkn, kn2, gsI, bz, nar1, nar0, pk_un, upa_n, c5, c12, c35, c44, c58, c69]; done) | exact absurd c69 (by decide) | exact absurd rfl (gs_ok c69).1 | exact absurd rfl (gs_ok c69).2.1 | exact absurd rfl (gs_ok c69).2.2⟩
          · refine j_iconst (v := 1) C d_M_field_61 (by decide) ?_
            refine j_goto (tgt := 66) C d_M_field_62 (by decide) ?_
            refine j_callV C d_M_field_66 ml_M_109 mc_M_goes in_M_goes rfl se_M_goes (by omega) (ovM_o _ _ _ _) (c_M_goes hl _ _ _ _ _ _ hmo) rfl rfl (Nat.le_of_ble_eq_true rfl) (Nat.le_of_ble_eq_true rfl) (Nat.le_of_ble_eq_true rfl) (Nat.le_of_ble_eq_true rfl) (jk_r ?_)
            refine j_if_ne (tgt := 73) C d_M_field_69 (by decide) (fun c69 => ?_) (fun c69 => ?_)
            · refine j_aload_n C d_M_field_73 rfl rfl ?_
              refine jm_get C fl_6_31 d_M_field_74 hmo rfl ?_
              refine j_bipush (v := 20) C d_M_field_77 (by decide) ?_
              refine j_iload_n C d_M_field_79 rfl rfl ?_
              refine j_imul C d_M_field_80 ?_
              refine j_iload_n C d_M_field_81 rfl rfl ?_
              refine j_iadd C d_M_field_82 ?_
              refine j_iconst (v := 1) C d_M_field_83 (by decide) ?_
              refine jm_zasti C 7 10 d_M_field_84 (by decide) rfl hmo (by first | exact ix_rf hnr hle (by assumption) (by assumption) | exact ix_rk hnr hle (by assumption) (by assumption) | exact ix_r hnr hle (by omega) (by omega) (by assumption) | exact absurd rfl (gs_ok c69).1 | exact absurd rfl (gs_ok c69).2.1 | exact absurd rfl (gs_ok c69).2.2) rfl ?_
              refine j_aload_n C d_M_field_85 rfl rfl ?_
              refine jm_get C fl_6_35 d_M_field_86 hmo rfl ?_
              refine j_bipush (v := 20) C d_M_field_89 (by decide) ?_
              refine j_iload_n C d_M_field_91 rfl rfl ?_
              refine j_imul C d_M_field_92 ?_
              refine j_iload_n C d_M_field_93 rfl rfl ?_
              refine j_iadd C d_M_field_94 ?_
              refine j_iconst (v := 0) C d_M_field_95 (by decide) ?_
              refine jm_zasti C 8 11 d_M_field_96 (by decide) rfl hmo (by first | exact ix_rf hnr hle (by assumption) (by assumption) | exact ix_rk hnr hle (by assumption) (by assumption) | exact ix_r hnr hle (by omega) (by omega) (by assumption) | exact absurd rfl (gs_ok c69).1 | exact absurd rfl (gs_ok c69).2.1 | exact absurd rfl (gs_ok c69).2.2) rfl ?_
              refine j_aload_n C d_M_field_97 rfl rfl ?_
              refine jm_get C fl_6_38 d_M_field_98 hmo rfl ?_
              refine j_bipush (v := 20) C d_M_field_101 (by decide) ?_
              refine j_iload_n C d_M_field_103 rfl rfl ?_
              refine j_imul C d_M_field_104 ?_
              refine j_iload_n C d_M_field_105 rfl rfl ?_
              refine j_iadd C d_M_field_106 ?_
              refine j_iconst (v := 0) C d_M_field_107 (by decide) ?_
              refine jm_zasti C 9 12 d_M_field_108 (by decide) rfl hmo (by first | exact ix_rf hnr hle (by assumption) (by assumption) | exact ix_rk hnr hle (by assumption) (by assumption) | exact ix_r hnr hle (by omega) (by omega) (by assumption) | exact absurd rfl (gs_ok c69).1 | exact absurd rfl (gs_ok c69).2.1 | exact absurd rfl (gs_ok c69).2.2) rfl ?_
              refine j_aload_n C d_M_field_109 rfl rfl ?_
              refine jm_get C fl_6_41 d_M_field_110 hmo rfl ?_
              refine j_bipush (v := 20) C d_M_field_113 (by decide) ?_
              refine j_iload_n C d_M_field_115 rfl rfl ?_
              refine j_imul C d_M_field_116 ?_
              refine j_iload_n C d_M_field_117 rfl rfl ?_
              refine j_iadd C d_M_field_118 ?_
              refine j_iload_n C d_M_field_119 rfl rfl ?_
              refine jm_iasti C 10 13 d_M_field_120 (by decide) rfl hmo (by first | exact ix_rf hnr hle (by assumption) (by assumption) | exact ix_rk hnr hle (by assumption) (by assumption) | exact ix_r hnr hle (by omega) (by omega) (by assumption) | exact absurd rfl (gs_ok c69).1 | exact absurd rfl (gs_ok c69).2.1 | exact absurd rfl (gs_ok c69).2.2) rfl ?_
              exact j_vreturn C d_M_field_121 rfl (by decide) (by decide) ⟨rfl, rfl, by first | (simp [mfield, mtell, mkn, kn2, nar1, nar0, pk_un, upa_n, c5, c12, c35, c44, c58, c69]; done) | (simp [mfield, mtell, mkn, kn2, gsI, bz, nar1, nar0, pk_un, upa_n, c5, c12, c35, c44, c58, c69]; done) | exact absurd c69 (by decide) | exact absurd rfl (gs_ok c69).1 | exact absurd rfl (gs_ok c69).2.1 | exact absurd rfl (gs_ok c69).2.2⟩
            · exact j_vreturn C d_M_field_72 rfl (by decide) (by decide) ⟨rfl, rfl, by first | (simp [mfield, mtell, mkn, kn2, nar1, nar0, pk_un, upa_n, c5, c12, c35, c44, c58, c69]; done) | (simp [mfield, mtell, mkn, kn2, gsI, bz, nar1, nar0, pk_un, upa_n, c5, c12, c35, c44, c58, c69]; done) | exact absurd c69 (by decide) | exact absurd rfl (gs_ok c69).1 | exact absurd rfl (gs_ok c69).2.1 | exact absurd rfl (gs_ok c69).2.2⟩

set_option maxHeartbeats 4000000 in
set_option maxRecDepth 100000 in
theorem c_M_fault {l : Launch} (hl : l.stackTraces = false) {D : va_G} {cA : Nat → ClassId} {b n mo : Nat} (r f : Int32) (σ : Nat → Int32) (α : Nat → Nat → Int32) (h : AH) (hmo : mo + 27 < n) (nr : Nat) (hnr : σ 2 = nI nr) (hle : nr ≤ 30) : Cn l D cA b y_M_fault k_M_fault 2 27 0 0 [.ref mo, .int r, .int f] n (ovM mo σ α h) (Re none n (ovM mo (mfault σ α r f).1 (mfault σ α r f).2 h)) := by
  refine Cn.of (cc := b_M_fault) (maxL := 4) (ret := none) (hh := []) (by decide +kernel) hl (Or.inl ⟨rfl, rfl⟩) (Nat.le_of_ble_eq_true rfl) ?_
  intro p e s m args below meth c C
  refine j_aload_n C d_M_fault_0 rfl rfl ?_
  refine j_iload_n C d_M_fault_1 rfl rfl ?_
  refine j_callV C d_M_fault_2 ml_M_121 mc_M_isReport in_M_isReport rfl se_M_isReport (by omega) (ovM_o _ _ _ _) (c_M_isReport hl _ _ _ _ hmo) rfl rfl (Nat.le_of_ble_eq_true rfl) (Nat.le_of_ble_eq_true rfl) (Nat.le_of_ble_eq_true rfl) (Nat.le_of_ble_eq_true rfl) (jk_r ?_)
  refine j_if_eq (tgt := 19) C d_M_fault_5 (by decide) (fun c5 => ?_) (fun c5 => ?_)
  · refine j_iconst (v := 0) C d_M_fault_19 (by decide) ?_
    refine j_istore_n C d_M_fault_20 rfl (by decide) rfl ?_
    refine j_aload_n C d_M_fault_21 rfl rfl ?_
    refine j_iload_n C d_M_fault_22 rfl rfl ?_
    refine j_iload_n C d_M_fault_23 rfl rfl ?_
    refine j_if_eq (tgt := 55) C d_M_fault_24 (by decide) (fun c24 => ?_) (fun c24 => ?_)
    · refine j_iconst (v := 0) C d_M_fault_55 (by decide) ?_
      refine j_iconst (v := 1) C d_M_fault_56 (by decide) ?_
      refine j_callV C d_M_fault_57 ml_M_109 mc_M_goes in_M_goes rfl se_M_goes (by omega) (ovM_o _ _ _ _) (c_M_goes hl _ _ _ _ _ _ hmo) rfl rfl (Nat.le_of_ble_eq_true rfl) (Nat.le_of_ble_eq_true rfl) (Nat.le_of_ble_eq_true rfl) (Nat.le_of_ble_eq_true rfl) (jk_r ?_)
      refine j_if_eq (tgt := 75) C d_M_fault_60 (by decide) (fun c60 => ?_) (fun c60 => ?_)
      · exact j_vreturn C d_M_fault_75 rfl (by decide) (by decide) ⟨rfl, rfl, by first | (simp [mfault, mkn, kn2, nar1, nar0, pk_un, upa_n, c5, c24, c60]; done) | (simp [mfault, mkn, kn2, gsI, bz, nar1, nar0, pk_un, upa_n, c5, c24, c60]; done) | exact absurd c60 (by decide) | exact absurd rfl (gs_ok c60).1 | exact absurd rfl (gs_ok c60).2.1 | exact absurd rfl (gs_ok c60).2.2⟩
      · refine j_aload_n C d_M_fault_63 rfl rfl ?_
        refine jm_get C fl_6_38 d_M_fault_64 hmo rfl ?_
        refine j_bipush (v := 20) C d_M_fault_67 (by decide) ?_
        refine j_iload_n C d_M_fault_69 rfl rfl ?_
        refine j_imul C d_M_fault_70 ?_
        refine j_iload_n C d_M_fault_71 rfl rfl ?_
        refine j_iadd C d_M_fault_72 ?_
        refine j_iconst (v := 1) C d_M_fault_73 (by decide) ?_
        refine jm_zasti C 9 12 d_M_fault_74 (by decide) rfl hmo (by first | exact ix_rf hnr hle (by assumption) (by assumption) | exact ix_rk hnr hle (by assumption) (by assumption) | exact ix_r hnr hle (by omega) (by omega) (by assumption) | exact absurd rfl (gs_ok c60).1 | exact absurd rfl (gs_ok c60).2.1 | exact absurd rfl (gs_ok c60).2.2) rfl ?_
        exact j_vreturn C d_M_fault_75 rfl (by decide) (by decide) ⟨rfl, rfl, by first | (simp [mfault, mkn, kn2, nar1, nar0, pk_un, upa_n, c5, c24, c60]; done) | (simp [mfault, mkn, kn2, gsI, bz, nar1, nar0, pk_un, upa_n, c5, c24, c60]; done) | exact absurd c60 (by decide) | exact absurd rfl (gs_ok c60).1 | exact absurd rfl (gs_ok c60).2.1 | exact absurd rfl (gs_ok c60).2.2⟩
    · refine j_aload_n C d_M_fault_27 rfl rfl ?_
      refine jm_get C fl_6_25 d_M_fault_28 hmo rfl ?_
      refine j_iload_n C d_M_fault_31 rfl rfl ?_
      refine jm_iald C 5 d_M_fault_32 (by decide) rfl hmo (by first | exact ix_r hnr hle (by omega) (by omega) (by assumption) | exact absurd rfl c24) rfl ?_
      refine j_iconst (v := 3) C d_M_fault_33 (by decide) ?_
      refine j_icmp_ne (tgt := 55) C d_M_fault_34 (by decide) (fun c34 => ?_) (fun c34 => ?_)
      · refine j_iconst (v := 0) C d_M_fault_55 (by decide) ?_
        refine j_iconst (v := 1) C d_M_fault_56 (by decide) ?_
        refine j_callV C d_M_fault_57 ml_M_109 mc_M_goes in_M_goes rfl se_M_goes (by omega) (ovM_o _ _ _ _) (c_M_goes hl _ _ _ _ _ _ hmo) rfl rfl (Nat.le_of_ble_eq_true rfl) (Nat.le_of_ble_eq_true rfl) (Nat.le_of_ble_eq_true rfl) (Nat.le_of_ble_eq_true rfl) (jk_r ?_)
        refine j_if_eq (tgt := 75) C d_M_fault_60 (by decide) (fun c60 => ?_) (fun c60 => ?_)
        · exact j_vreturn C d_M_fault_75 rfl (by decide) (by decide) ⟨rfl, rfl, by first | (simp [mfault, mkn, kn2, nar1, nar0, pk_un, upa_n, c5, c24, c34, c60]; done) | (simp [mfault, mkn, kn2, gsI, bz, nar1, nar0, pk_un, upa_n, c5, c24, c34, c60]; done) | exact absurd c60 (by decide) | exact absurd rfl (gs_ok c60).1 | exact absurd rfl (gs_ok c60).2.1 | exact absurd rfl (gs_ok c60).2.2⟩
        · refine j_aload_n C d_M_fault_63 rfl rfl ?_
          refine jm_get C fl_6_38 d_M_fault_64 hmo rfl ?_
          refine j_bipush (v := 20) C d_M_fault_67 (by decide) ?_
          refine j_iload_n C d_M_fault_69 rfl rfl ?_
          refine j_imul C d_M_fault_70 ?_
          refine j_iload_n C d_M_fault_71 rfl rfl ?_
          refine j_iadd C d_M_fault_72 ?_
          refine j_iconst (v := 1) C d_M_fault_73 (by decide) ?_
          refine jm_zasti C 9 12 d_M_fault_74 (by decide) rfl hmo (by first | exact ix_rf hnr hle (by assumption) (by assumption) | exact ix_rk hnr hle (by assumption) (by assumption) | exact ix_r hnr hle (by omega) (by omega) (by assumption) | exact absurd rfl (gs_ok c60).1 | exact absurd rfl (gs_ok c60).2.1 | exact absurd rfl (gs_ok c60).2.2) rfl ?_
          exact j_vreturn C d_M_fault_75 rfl (by decide) (by decide) ⟨rfl, rfl, by first | (simp [mfault, mkn, kn2, nar1, nar0, pk_un, upa_n, c5, c24, c34, c60]; done) | (simp [mfault, mkn, kn2, gsI, bz, nar1, nar0, pk_un, upa_n, c5, c24, c34, c60]; done) | exact absurd c60 (by decide) | exact absurd rfl (gs_ok c60).1 | exact absurd rfl (gs_ok c60).2.1 | exact absurd rfl (gs_ok c60).2.2⟩
      · refine j_aload_n C d_M_fault_37 rfl rfl ?_
        refine jm_get C fl_6_38 d_M_fault_38 hmo rfl ?_
        refine j_bipush (v := 20) C d_M_fault_41 (by decide) ?_
        refine j_iload_n C d_M_fault_43 rfl rfl ?_
        refine j_imul C d_M_fault_44 ?_
        refine j_iload_n C d_M_fault_45 rfl rfl ?_
        refine j_iadd C d_M_fault_46 ?_
        refine jm_zald C 9 d_M_fault_47 (by decide) rfl hmo (by first | exact ix_rf hnr hle (by assumption) (by assumption) | exact absurd rfl c24) rfl ?_
        refine j_if_ne (tgt := 55) C d_M_fault_48 (by decide) (fun c48 => ?_) (fun c48 => ?_)
        · refine j_iconst (v := 0) C d_M_fault_55 (by decide) ?_
          refine j_iconst (v := 1) C d_M_fault_56 (by decide) ?_
          refine j_callV C d_M_fault_57 ml_M_109 mc_M_goes in_M_goes rfl se_M_goes (by omega) (ovM_o _ _ _ _) (c_M_goes hl _ _ _ _ _ _ hmo) rfl rfl (Nat.le_of_ble_eq_true rfl) (Nat.le_of_ble_eq_true rfl) (Nat.le_of_ble_eq_true rfl) (Nat.le_of_ble_eq_true rfl) (jk_r ?_)
          refine j_if_eq (tgt := 75) C d_M_fault_60 (by decide) (fun c60 => ?_) (fun c60 => ?_)
          · exact j_vreturn C d_M_fault_75 rfl (by decide) (by decide) ⟨rfl, rfl, by first | (simp [mfault, mkn, kn2, nar1, nar0, pk_un, upa_n, c5, c24, c34, c48, c60]; done) | (simp [mfault, mkn, kn2, gsI, bz, nar1, nar0, pk_un, upa_n, c5, c24, c34, c48, c60]; done) | exact absurd c60 (by decide) | exact absurd rfl (gs_ok c60).1 | exact absurd rfl (gs_ok c60).2.1 | exact absurd rfl (gs_ok c60).2.2⟩
          · refine j_aload_n C d_M_fault_63 rfl rfl ?_
            refine jm_get C fl_6_38 d_M_fault_64 hmo rfl ?_
            refine j_bipush (v := 20) C d_M_fault_67 (by decide) ?_
            refine j_iload_n C d_M_fault_69 rfl rfl ?_
            refine j_imul C d_M_fault_70 ?_
            refine j_iload_n C d_M_fault_71 rfl rfl ?_
            refine j_iadd C d_M_fault_72 ?_
            refine j_iconst (v := 1) C d_M_fault_73 (by decide) ?_
            refine jm_zasti C 9 12 d_M_fault_74 (by decide) rfl hmo (by first | exact ix_rf hnr hle (by assumption) (by assumption) | exact ix_rk hnr hle (by assumption) (by assumption) | exact ix_r hnr hle (by omega) (by omega) (by assumption) | exact absurd rfl (gs_ok c60).1 | exact absurd rfl (gs_ok c60).2.1 | exact absurd rfl (gs_ok c60).2.2) rfl ?_
            exact j_vreturn C d_M_fault_75 rfl (by decide) (by decide) ⟨rfl, rfl, by first | (simp [mfault, mkn, kn2, nar1, nar0, pk_un, upa_n, c5, c24, c34, c48, c60]; done) | (simp [mfault, mkn, kn2, gsI, bz, nar1, nar0, pk_un, upa_n, c5, c24, c34, c48, c60]; done) | exact absurd c60 (by decide) | exact absurd rfl (gs_ok c60).1 | exact absurd rfl (gs_ok c60).2.1 | exact absurd rfl (gs_ok c60).2.2⟩
        · refine j_iconst (v := 1) C d_M_fault_51 (by decide) ?_
          refine j_goto (tgt := 56) C d_M_fault_52 (by decide) ?_
          refine j_iconst (v := 1) C d_M_fault_56 (by decide) ?_
          refine j_callV C d_M_fault_57 ml_M_109 mc_M_goes in_M_goes rfl se_M_goes (by omega) (ovM_o _ _ _ _) (c_M_goes hl _ _ _ _ _ _ hmo) rfl rfl (Nat.le_of_ble_eq_true rfl) (Nat.le_of_ble_eq_true rfl) (Nat.le_of_ble_eq_true rfl) (Nat.le_of_ble_eq_true rfl) (jk_r ?_)
          refine j_if_eq (tgt := 75) C d_M_fault_60 (by decide) (fun c60 => ?_) (fun c60 => ?_)
          · exact j_vreturn C d_M_fault_75 rfl (by decide) (by decide) ⟨rfl, rfl, by first | (simp [mfault, mkn, kn2, nar1, nar0, pk_un, upa_n, c5, c24, c34, c48, c60]; done) | (simp [mfault, mkn, kn2, gsI, bz, nar1, nar0, pk_un, upa_n, c5, c24, c34, c48, c60]; done) | exact absurd c60 (by decide) | exact absurd rfl (gs_ok c60).1 | exact absurd rfl (gs_ok c60).2.1 | exact absurd rfl (gs_ok c60).2.2⟩
          · refine j_aload_n C d_M_fault_63 rfl rfl ?_
            refine jm_get C fl_6_38 d_M_fault_64 hmo rfl ?_
            refine j_bipush (v := 20) C d_M_fault_67 (by decide) ?_
            refine j_iload_n C d_M_fault_69 rfl rfl ?_
            refine j_imul C d_M_fault_70 ?_
            refine j_iload_n C d_M_fault_71 rfl rfl ?_
            refine j_iadd C d_M_fault_72 ?_
            refine j_iconst (v := 1) C d_M_fault_73 (by decide) ?_
            refine jm_zasti C 9 12 d_M_fault_74 (by decide) rfl hmo (by first | exact ix_rf hnr hle (by assumption) (by assumption) | exact ix_rk hnr hle (by assumption) (by assumption) | exact ix_r hnr hle (by omega) (by omega) (by assumption) | exact absurd rfl (gs_ok c60).1 | exact absurd rfl (gs_ok c60).2.1 | exact absurd rfl (gs_ok c60).2.2) rfl ?_
            exact j_vreturn C d_M_fault_75 rfl (by decide) (by decide) ⟨rfl, rfl, by first | (simp [mfault, mkn, kn2, nar1, nar0, pk_un, upa_n, c5, c24, c34, c48, c60]; done) | (simp [mfault, mkn, kn2, gsI, bz, nar1, nar0, pk_un, upa_n, c5, c24, c34, c48, c60]; done) | exact absurd c60 (by decide) | exact absurd rfl (gs_ok c60).1 | exact absurd rfl (gs_ok c60).2.1 | exact absurd rfl (gs_ok c60).2.2⟩
  · refine j_iload_n C d_M_fault_8 rfl rfl ?_
    refine j_callS C d_M_fault_9 ml_M_117 mc_M_isField st_M_isField (c_M_isField hl _ _) rfl rfl (Nat.le_of_ble_eq_true rfl) (Nat.le_of_ble_eq_true rfl) (Nat.le_of_ble_eq_true rfl) (Nat.le_of_ble_eq_true rfl) (jk_r ?_)
    refine j_if_eq (tgt := 19) C d_M_fault_12 (by decide) (fun c12 => ?_) (fun c12 => ?_)
    · refine j_iconst (v := 0) C d_M_fault_19 (by decide) ?_
      refine j_istore_n C d_M_fault_20 rfl (by decide) rfl ?_
      refine j_aload_n C d_M_fault_21 rfl rfl ?_
      refine j_iload_n C d_M_fault_22 rfl rfl ?_
      refine j_iload_n C d_M_fault_23 rfl rfl ?_
      refine j_if_eq (tgt := 55) C d_M_fault_24 (by decide) (fun c24 => ?_) (fun c24 => ?_)
      · refine j_iconst (v := 0) C d_M_fault_55 (by decide) ?_
        refine j_iconst (v := 1) C d_M_fault_56 (by decide) ?_
        refine j_callV C d_M_fault_57 ml_M_109 mc_M_goes in_M_goes rfl se_M_goes (by omega) (ovM_o _ _ _ _) (c_M_goes hl _ _ _ _ _ _ hmo) rfl rfl (Nat.le_of_ble_eq_true rfl) (Nat.le_of_ble_eq_true rfl) (Nat.le_of_ble_eq_true rfl) (Nat.le_of_ble_eq_true rfl) (jk_r ?_)
        refine j_if_eq (tgt := 75) C d_M_fault_60 (by decide) (fun c60 => ?_) (fun c60 => ?_)
        · exact j_vreturn C d_M_fault_75 rfl (by decide) (by decide) ⟨rfl, rfl, by first | (simp [mfault, mkn, kn2, nar1, nar0, pk_un, upa_n, c5, c12, c24, c60]; done) | (simp [mfault, mkn, kn2, gsI, bz, nar1, nar0, pk_un, upa_n, c5, c12, c24, c60]; done) | exact absurd c60 (by decide) | exact absurd rfl (gs_ok c60).1 | exact absurd rfl (gs_ok c60).2.1 | exact absurd rfl (gs_ok c60).2.2⟩
        · refine j_aload_n C d_M_fault_63 rfl rfl ?_
          refine jm_get C fl_6_38 d_M_fault_64 hmo rfl ?_
          refine j_bipush (v := 20) C d_M_fault_67 (by decide) ?_
          refine j_iload_n C d_M_fault_69 rfl rfl ?_
          refine j_imul C d_M_fault_70 ?_
          refine j_iload_n C d_M_fault_71 rfl rfl ?_
          refine j_iadd C d_M_fault_72 ?_
          refine j_iconst (v := 1) C d_M_fault_73 (by decide) ?_
          refine jm_zasti C 9 12 d_M_fault_74 (by decide) rfl hmo (by first | exact ix_rf hnr hle (by assumption) (by assumption) | exact ix_rk hnr hle (by assumption) (by assumption) | exact ix_r hnr hle (by omega) (by omega) (by assumption) | exact absurd rfl (gs_ok c60).1 | exact absurd rfl (gs_ok c60).2.1 | exact absurd rfl (gs_ok c60).2.2) rfl ?_
          exact j_vreturn C d_M_fault_75 rfl (by decide) (by decide) ⟨rfl, rfl, by first | (simp [mfault, mkn, kn2, nar1, nar0, pk_un, upa_n, c5, c12, c24, c60]; done) | (simp [mfault, mkn, kn2, gsI, bz, nar1, nar0, pk_un, upa_n, c5, c12, c24, c60]; done) | exact absurd c60 (by decide) | exact absurd rfl (gs_ok c60).1 | exact absurd rfl (gs_ok c60).2.1 | exact absurd rfl (gs_ok c60).2.2⟩
      · refine j_aload_n C d_M_fault_27 rfl rfl ?_
        refine jm_get C fl_6_25 d_M_fault_28 hmo rfl ?_
        refine j_iload_n C d_M_fault_31 rfl rfl ?_
        refine jm_iald C 5 d_M_fault_32 (by decide) rfl hmo (by first | exact ix_r hnr hle (by omega) (by omega) (by assumption) | exact absurd rfl c24) rfl ?_
        refine j_iconst (v := 3) C d_M_fault_33 (by decide) ?_
        refine j_icmp_ne (tgt := 55) C d_M_fault_34 (by decide) (fun c34 => ?_) (fun c34 => ?_)
        · refine j_iconst (v := 0) C d_M_fault_55 (by decide) ?_
          refine j_iconst (v := 1) C d_M_fault_56 (by decide) ?_
          refine j_callV C d_M_fault_57 ml_M_109 mc_M_goes in_M_goes rfl se_M_goes (by omega) (ovM_o _ _ _ _) (c_M_goes hl _ _ _ _ _ _ hmo) rfl rfl (Nat.le_of_ble_eq_true rfl) (Nat.le_of_ble_eq_true rfl) (Nat.le_of_ble_eq_true rfl) (Nat.le_of_ble_eq_true rfl) (jk_r ?_)
          refine j_if_eq (tgt := 75) C d_M_fault_60 (by decide) (fun c60 => ?_) (fun c60 => ?_)
          · exact j_vreturn C d_M_fault_75 rfl (by decide) (by decide) ⟨rfl, rfl, by first | (simp [mfault, mkn, kn2, nar1, nar0, pk_un, upa_n, c5, c12, c24, c34, c60]; done) | (simp [mfault, mkn, kn2, gsI, bz, nar1, nar0, pk_un, upa_n, c5, c12, c24, c34, c60]; done) | exact absurd c60 (by decide) | exact absurd rfl (gs_ok c60).1 | exact absurd rfl (gs_ok c60).2.1 | exact absurd rfl (gs_ok c60).2.2⟩
          · refine j_aload_n C d_M_fault_63 rfl rfl ?_
            refine jm_get C fl_6_38 d_M_fault_64 hmo rfl ?_
            refine j_bipush (v := 20) C d_M_fault_67 (by decide) ?_
            refine j_iload_n C d_M_fault_69 rfl rfl ?_
            refine j_imul C d_M_fault_70 ?_
            refine j_iload_n C d_M_fault_71 rfl rfl ?_
            refine j_iadd C d_M_fault_72 ?_
            refine j_iconst (v := 1) C d_M_fault_73 (by decide) ?_
            refine jm_zasti C 9 12 d_M_fault_74 (by decide) rfl hmo (by first | exact ix_rf hnr hle (by assumption) (by assumption) | exact ix_rk hnr hle (by assumption) (by assumption) | exact ix_r hnr hle (by omega) (by omega) (by assumption) | exact absurd rfl (gs_ok c60).1 | exact absurd rfl (gs_ok c60).2.1 | exact absurd rfl (gs_ok c60).2.2) rfl ?_
            exact j_vreturn C d_M_fault_75 rfl (by decide) (by decide) ⟨rfl, rfl, by first | (simp [mfault, mkn, kn2, nar1, nar0, pk_un, upa_n, c5, c12, c24, c34, c60]; done) | (simp [mfault, mkn, kn2, gsI, bz, nar1, nar0, pk_un, upa_n, c5, c12, c24, c34, c60]; done) | exact absurd c60 (by decide) | exact absurd rfl (gs_ok c60).1 | exact absurd rfl (gs_ok c60).2.1 | exact absurd rfl (gs_ok c60).2.2⟩
        · refine j_aload_n C d_M_fault_37 rfl rfl ?_
          refine jm_get C fl_6_38 d_M_fault_38 hmo rfl ?_
          refine j_bipush (v := 20) C d_M_fault_41 (by decide) ?_
          refine j_iload_n C d_M_fault_43 rfl rfl ?_
          refine j_imul C d_M_fault_44 ?_
          refine j_iload_n C d_M_fault_45 rfl rfl ?_
          refine j_iadd C d_M_fault_46 ?_
          refine jm_zald C 9 d_M_fault_47 (by decide) rfl hmo (by first | exact ix_rf hnr hle (by assumption) (by assumption) | exact absurd rfl c24) rfl ?_
          refine j_if_ne (tgt := 55) C d_M_fault_48 (by decide) (fun c48 => ?_) (fun c48 => ?_)
          · refine j_iconst (v := 0) C d_M_fault_55 (by decide) ?_
            refine j_iconst (v := 1) C d_M_fault_56 (by decide) ?_
            refine j_callV C d_M_fault_57 ml_M_109 mc_M_goes in_M_goes rfl se_M_goes (by omega) (ovM_o _ _ _ _) (c_M_goes hl _ _ _ _ _ _ hmo) rfl rfl (Nat.le_of_ble_eq_true rfl) (Nat.le_of_ble_eq_true rfl) (Nat.le_of_ble_eq_true rfl) (Nat.le_of_ble_eq_true rfl) (jk_r ?_)
            refine j_if_eq (tgt := 75) C d_M_fault_60 (by decide) (fun c60 => ?_) (fun c60 => ?_)
            · exact j_vreturn C d_M_fault_75 rfl (by decide) (by decide) ⟨rfl, rfl, by first | (simp [mfault, mkn, kn2, nar1, nar0, pk_un, upa_n, c5, c12, c24, c34, c48, c60]; done) | (simp [mfault, mkn, kn2, gsI, bz, nar1, nar0, pk_un, upa_n, c5, c12, c24, c34, c48, c60]; done) | exact absurd c60 (by decide) | exact absurd rfl (gs_ok c60).1 | exact absurd rfl (gs_ok c60).2.1 | exact absurd rfl (gs_ok c60).2.2⟩
            · refine j_aload_n C d_M_fault_63 rfl rfl ?_
              refine jm_get C fl_6_38 d_M_fault_64 hmo rfl ?_
              refine j_bipush (v := 20) C d_M_fault_67 (by decide) ?_
              refine j_iload_n C d_M_fault_69 rfl rfl ?_
              refine j_imul C d_M_fault_70 ?_
              refine j_iload_n C d_M_fault_71 rfl rfl ?_
              refine j_iadd C d_M_fault_72 ?_
              refine j_iconst (v := 1) C d_M_fault_73 (by decide) ?_
              refine jm_zasti C 9 12 d_M_fault_74 (by decide) rfl hmo (by first | exact ix_rf hnr hle (by assumption) (by assumption) | exact ix_rk hnr hle (by assumption) (by assumption) | exact ix_r hnr hle (by omega) (by omega) (by assumption) | exact absurd rfl (gs_ok c60).1 | exact absurd rfl (gs_ok c60).2.1 | exact absurd rfl (gs_ok c60).2.2) rfl ?_
              exact j_vreturn C d_M_fault_75 rfl (by decide) (by decide) ⟨rfl, rfl, by first | (simp [mfault, mkn, kn2, nar1, nar0, pk_un, upa_n, c5, c12, c24, c34, c48, c60]; done) | (simp [mfault, mkn, kn2, gsI, bz, nar1, nar0, pk_un, upa_n, c5, c12, c24, c34, c48, c60]; done) | exact absurd c60 (by decide) | exact absurd rfl (gs_ok c60).1 | exact absurd rfl (gs_ok c60).2.1 | exact absurd rfl (gs_ok c60).2.2⟩
          · refine j_iconst (v := 1) C d_M_fault_51 (by decide) ?_
            refine j_goto (tgt := 56) C d_M_fault_52 (by decide) ?_
            refine j_iconst (v := 1) C d_M_fault_56 (by decide) ?_
            refine j_callV C d_M_fault_57 ml_M_109 mc_M_goes in_M_goes rfl se_M_goes (by omega) (ovM_o _ _ _ _) (c_M_goes hl _ _ _ _ _ _ hmo) rfl rfl (Nat.le_of_ble_eq_true rfl) (Nat.le_of_ble_eq_true rfl) (Nat.le_of_ble_eq_true rfl) (Nat.le_of_ble_eq_true rfl) (jk_r ?_)
            refine j_if_eq (tgt := 75) C d_M_fault_60 (by decide) (fun c60 => ?_) (fun c60 => ?_)
            · exact j_vreturn C d_M_fault_75 rfl (by decide) (by decide) ⟨rfl, rfl, by first | (simp [mfault, mkn, kn2, nar1, nar0, pk_un, upa_n, c5, c12, c24, c34, c48, c60]; done) | (simp [mfault, mkn, kn2, gsI, bz, nar1, nar0, pk_un, upa_n, c5, c12, c24, c34, c48, c60]; done) | exact absurd c60 (by decide) | exact absurd rfl (gs_ok c60).1 | exact absurd rfl (gs_ok c60).2.1 | exact absurd rfl (gs_ok c60).2.2⟩
            · refine j_aload_n C d_M_fault_63 rfl rfl ?_
              refine jm_get C fl_6_38 d_M_fault_64 hmo rfl ?_
              refine j_bipush (v := 20) C d_M_fault_67 (by decide) ?_
              refine j_iload_n C d_M_fault_69 rfl rfl ?_
              refine j_imul C d_M_fault_70 ?_
              refine j_iload_n C d_M_fault_71 rfl rfl ?_
              refine j_iadd C d_M_fault_72 ?_
              refine j_iconst (v := 1) C d_M_fault_73 (by decide) ?_
              refine jm_zasti C 9 12 d_M_fault_74 (by decide) rfl hmo (by first | exact ix_rf hnr hle (by assumption) (by assumption) | exact ix_rk hnr hle (by assumption) (by assumption) | exact ix_r hnr hle (by omega) (by omega) (by assumption) | exact absurd rfl (gs_ok c60).1 | exact absurd rfl (gs_ok c60).2.1 | exact absurd rfl (gs_ok c60).2.2) rfl ?_
              exact j_vreturn C d_M_fault_75 rfl (by decide) (by decide) ⟨rfl, rfl, by first | (simp [mfault, mkn, kn2, nar1, nar0, pk_un, upa_n, c5, c12, c24, c34, c48, c60]; done) | (simp [mfault, mkn, kn2, gsI, bz, nar1, nar0, pk_un, upa_n, c5, c12, c24, c34, c48, c60]; done) | exact absurd c60 (by decide) | exact absurd rfl (gs_ok c60).1 | exact absurd rfl (gs_ok c60).2.1 | exact absurd rfl (gs_ok c60).2.2⟩
    · refine j_iconst (v := 1) C d_M_fault_15 (by decide) ?_
      refine j_goto (tgt := 20) C d_M_fault_16 (by decide) ?_
      refine j_istore_n C d_M_fault_20 rfl (by decide) rfl ?_
      refine j_aload_n C d_M_fault_21 rfl rfl ?_
      refine j_iload_n C d_M_fault_22 rfl rfl ?_
      refine j_iload_n C d_M_fault_23 rfl rfl ?_
      refine j_if_eq (tgt := 55) C d_M_fault_24 (by decide) (fun c24 => ?_) (fun c24 => ?_)
      · refine j_iconst (v := 0) C d_M_fault_55 (by decide) ?_
        refine j_iconst (v := 1) C d_M_fault_56 (by decide) ?_
        refine j_callV C d_M_fault_57 ml_M_109 mc_M_goes in_M_goes rfl se_M_goes (by omega) (ovM_o _ _ _ _) (c_M_goes hl _ _ _ _ _ _ hmo) rfl rfl (Nat.le_of_ble_eq_true rfl) (Nat.le_of_ble_eq_true rfl) (Nat.le_of_ble_eq_true rfl) (Nat.le_of_ble_eq_true rfl) (jk_r ?_)
        refine j_if_eq (tgt := 75) C d_M_fault_60 (by decide) (fun c60 => ?_) (fun c60 => ?_)
        · exact j_vreturn C d_M_fault_75 rfl (by decide) (by decide) ⟨rfl, rfl, by first | (simp [mfault, mkn, kn2, nar1, nar0, pk_un, upa_n, c5, c12, c24, c60]; done) | (simp [mfault, mkn, kn2, gsI, bz, nar1, nar0, pk_un, upa_n, c5, c12, c24, c60]; done) | exact absurd c60 (by decide) | exact absurd rfl (gs_ok c60).1 | exact absurd rfl (gs_ok c60).2.1 | exact absurd rfl (gs_ok c60).2.2⟩
        · refine j_aload_n C d_M_fault_63 rfl rfl ?_
          refine jm_get C fl_6_38 d_M_fault_64 hmo rfl ?_
          refine j_bipush (v := 20) C d_M_fault_67 (by decide) ?_
          refine j_iload_n C d_M_fault_69 rfl rfl ?_
          refine j_imul C d_M_fault_70 ?_
          refine j_iload_n C d_M_fault_71 rfl rfl ?_
          refine j_iadd C d_M_fault_72 ?_
          refine j_iconst (v := 1) C d_M_fault_73 (by decide) ?_
          refine jm_zasti C 9 12 d_M_fault_74 (by decide) rfl hmo (by first | exact ix_rf hnr hle (by assumption) (by assumption) | exact ix_rk hnr hle (by assumption) (by assumption) | exact ix_r hnr hle (by omega) (by omega) (by assumption) | exact absurd rfl (gs_ok c60).1 | exact absurd rfl (gs_ok c60).2.1 | exact absurd rfl (gs_ok c60).2.2) rfl ?_
          exact j_vreturn C d_M_fault_75 rfl (by decide) (by decide) ⟨rfl, rfl, by first | (simp [mfault, mkn, kn2, nar1, nar0, pk_un, upa_n, c5, c12, c24, c60]; done) | (simp [mfault, mkn, kn2, gsI, bz, nar1, nar0, pk_un, upa_n, c5, c12, c24, c60]; done) | exact absurd c60 (by decide) | exact absurd rfl (gs_ok c60).1 | exact absurd rfl (gs_ok c60).2.1 | exact absurd rfl (gs_ok c60).2.2⟩
      · refine j_aload_n C d_M_fault_27 rfl rfl ?_
        refine jm_get C fl_6_25 d_M_fault_28 hmo rfl ?_
        refine j_iload_n C d_M_fault_31 rfl rfl ?_
        refine jm_iald C 5 d_M_fault_32 (by decide) rfl hmo (by first | exact ix_r hnr hle (by omega) (by omega) (by assumption) | exact absurd rfl c24) rfl ?_
        refine j_iconst (v := 3) C d_M_fault_33 (by decide) ?_
        refine j_icmp_ne (tgt := 55) C d_M_fault_34 (by decide) (fun c34 => ?_) (fun c34 => ?_)
        · refine j_iconst (v := 0) C d_M_fault_55 (by decide) ?_
          refine j_iconst (v := 1) C d_M_fault_56 (by decide) ?_
          refine j_callV C d_M_fault_57 ml_M_109 mc_M_goes in_M_goes rfl se_M_goes (by omega) (ovM_o _ _ _ _) (c_M_goes hl _ _ _ _ _ _ hmo) rfl rfl (Nat.le_of_ble_eq_true rfl) (Nat.le_of_ble_eq_true rfl) (Nat.le_of_ble_eq_true rfl) (Nat.le_of_ble_eq_true rfl) (jk_r ?_)
          refine j_if_eq (tgt := 75) C d_M_fault_60 (by decide) (fun c60 => ?_) (fun c60 => ?_)
          · exact j_vreturn C d_M_fault_75 rfl (by decide) (by decide) ⟨rfl, rfl, by first | (simp [mfault, mkn, kn2, nar1, nar0, pk_un, upa_n, c5, c12, c24, c34, c60]; done) | (simp [mfault, mkn, kn2, gsI, bz, nar1, nar0, pk_un, upa_n, c5, c12, c24, c34, c60]; done) | exact absurd c60 (by decide) | exact absurd rfl (gs_ok c60).1 | exact absurd rfl (gs_ok c60).2.1 | exact absurd rfl (gs_ok c60).2.2⟩
          · refine j_aload_n C d_M_fault_63 rfl rfl ?_
            refine jm_get C fl_6_38 d_M_fault_64 hmo rfl ?_
            refine j_bipush (v := 20) C d_M_fault_67 (by decide) ?_
            refine j_iload_n C d_M_fault_69 rfl rfl ?_
            refine j_imul C d_M_fault_70 ?_
            refine j_iload_n C d_M_fault_71 rfl rfl ?_
            refine j_iadd C d_M_fault_72 ?_
            refine j_iconst (v := 1) C d_M_fault_73 (by decide) ?_
            refine jm_zasti C 9 12 d_M_fault_74 (by decide) rfl hmo (by first | exact ix_rf hnr hle (by assumption) (by assumption) | exact ix_rk hnr hle (by assumption) (by assumption) | exact ix_r hnr hle (by omega) (by omega) (by assumption) | exact absurd rfl (gs_ok c60).1 | exact absurd rfl (gs_ok c60).2.1 | exact absurd rfl (gs_ok c60).2.2) rfl ?_
            exact j_vreturn C d_M_fault_75 rfl (by decide) (by decide) ⟨rfl, rfl, by first | (simp [mfault, mkn, kn2, nar1, nar0, pk_un, upa_n, c5, c12, c24, c34, c60]; done) | (simp [mfault, mkn, kn2, gsI, bz, nar1, nar0, pk_un, upa_n, c5, c12, c24, c34, c60]; done) | exact absurd c60 (by decide) | exact absurd rfl (gs_ok c60).1 | exact absurd rfl (gs_ok c60).2.1 | exact absurd rfl (gs_ok c60).2.2⟩
        · refine j_aload_n C d_M_fault_37 rfl rfl ?_
          refine jm_get C fl_6_38 d_M_fault_38 hmo rfl ?_
          refine j_bipush (v := 20) C d_M_fault_41 (by decide) ?_
          refine j_iload_n C d_M_fault_43 rfl rfl ?_
          refine j_imul C d_M_fault_44 ?_
          refine j_iload_n C d_M_fault_45 rfl rfl ?_
          refine j_iadd C d_M_fault_46 ?_
          refine jm_zald C 9 d_M_fault_47 (by decide) rfl hmo (by first | exact ix_rf hnr hle (by assumption) (by assumption) | exact absurd rfl c24) rfl ?_
          refine j_if_ne (tgt := 55) C d_M_fault_48 (by decide) (fun c48 => ?_) (fun c48 => ?_)
          · refine j_iconst (v := 0) C d_M_fault_55 (by decide) ?_
            refine j_iconst (v := 1) C d_M_fault_56 (by decide) ?_
            refine j_callV C d_M_fault_57 ml_M_109 mc_M_goes in_M_goes rfl se_M_goes (by omega) (ovM_o _ _ _ _) (c_M_goes hl _ _ _ _ _ _ hmo) rfl rfl (Nat.le_of_ble_eq_true rfl) (Nat.le_of_ble_eq_true rfl) (Nat.le_of_ble_eq_true rfl) (Nat.le_of_ble_eq_true rfl) (jk_r ?_)
            refine j_if_eq (tgt := 75) C d_M_fault_60 (by decide) (fun c60 => ?_) (fun c60 => ?_)
            · exact j_vreturn C d_M_fault_75 rfl (by decide) (by decide) ⟨rfl, rfl, by first | (simp [mfault, mkn, kn2, nar1, nar0, pk_un, upa_n, c5, c12, c24, c34, c48, c60]; done) | (simp [mfault, mkn, kn2, gsI, bz, nar1, nar0, pk_un, upa_n, c5, c12, c24, c34, c48, c60]; done) | exact absurd c60 (by decide) | exact absurd rfl (gs_ok c60).1 | exact absurd rfl (gs_ok c60).2.1 | exact absurd rfl (gs_ok c60).2.2⟩
            · refine j_aload_n C d_M_fault_63 rfl rfl ?_
              refine jm_get C fl_6_38 d_M_fault_64 hmo rfl ?_
              refine j_bipush (v := 20) C d_M_fault_67 (by decide) ?_
              refine j_iload_n C d_M_fault_69 rfl rfl ?_
              refine j_imul C d_M_fault_70 ?_
              refine j_iload_n C d_M_fault_71 rfl rfl ?_
              refine j_iadd C d_M_fault_72 ?_
              refine j_iconst (v := 1) C d_M_fault_73 (by decide) ?_
              refine jm_zasti C 9 12 d_M_fault_74 (by decide) rfl hmo (by first | exact ix_rf hnr hle (by assumption) (by assumption) | exact ix_rk hnr hle (by assumption) (by assumption) | exact ix_r hnr hle (by omega) (by omega) (by assumption) | exact absurd rfl (gs_ok c60).1 | exact absurd rfl (gs_ok c60).2.1 | exact absurd rfl (gs_ok c60).2.2) rfl ?_
              exact j_vreturn C d_M_fault_75 rfl (by decide) (by decide) ⟨rfl, rfl, by first | (simp [mfault, mkn, kn2, nar1, nar0, pk_un, upa_n, c5, c12, c24, c34, c48, c60]; done) | (simp [mfault, mkn, kn2, gsI, bz, nar1, nar0, pk_un, upa_n, c5, c12, c24, c34, c48, c60]; done) | exact absurd c60 (by decide) | exact absurd rfl (gs_ok c60).1 | exact absurd rfl (gs_ok c60).2.1 | exact absurd rfl (gs_ok c60).2.2⟩
          · refine j_iconst (v := 1) C d_M_fault_51 (by decide) ?_
            refine j_goto (tgt := 56) C d_M_fault_52 (by decide) ?_
            refine j_iconst (v := 1) C d_M_fault_56 (by decide) ?_
            refine j_callV C d_M_fault_57 ml_M_109 mc_M_goes in_M_goes rfl se_M_goes (by omega) (ovM_o _ _ _ _) (c_M_goes hl _ _ _ _ _ _ hmo) rfl rfl (Nat.le_of_ble_eq_true rfl) (Nat.le_of_ble_eq_true rfl) (Nat.le_of_ble_eq_true rfl) (Nat.le_of_ble_eq_true rfl) (jk_r ?_)
            refine j_if_eq (tgt := 75) C d_M_fault_60 (by decide) (fun c60 => ?_) (fun c60 => ?_)
            · exact j_vreturn C d_M_fault_75 rfl (by decide) (by decide) ⟨rfl, rfl, by first | (simp [mfault, mkn, kn2, nar1, nar0, pk_un, upa_n, c5, c12, c24, c34, c48, c60]; done) | (simp [mfault, mkn, kn2, gsI, bz, nar1, nar0, pk_un, upa_n, c5, c12, c24, c34, c48, c60]; done) | exact absurd c60 (by decide) | exact absurd rfl (gs_ok c60).1 | exact absurd rfl (gs_ok c60).2.1 | exact absurd rfl (gs_ok c60).2.2⟩
            · refine j_aload_n C d_M_fault_63 rfl rfl ?_
              refine jm_get C fl_6_38 d_M_fault_64 hmo rfl ?_
              refine j_bipush (v := 20) C d_M_fault_67 (by decide) ?_
              refine j_iload_n C d_M_fault_69 rfl rfl ?_
              refine j_imul C d_M_fault_70 ?_
              refine j_iload_n C d_M_fault_71 rfl rfl ?_
              refine j_iadd C d_M_fault_72 ?_
              refine j_iconst (v := 1) C d_M_fault_73 (by decide) ?_
              refine jm_zasti C 9 12 d_M_fault_74 (by decide) rfl hmo (by first | exact ix_rf hnr hle (by assumption) (by assumption) | exact ix_rk hnr hle (by assumption) (by assumption) | exact ix_r hnr hle (by omega) (by omega) (by assumption) | exact absurd rfl (gs_ok c60).1 | exact absurd rfl (gs_ok c60).2.1 | exact absurd rfl (gs_ok c60).2.2) rfl ?_
              exact j_vreturn C d_M_fault_75 rfl (by decide) (by decide) ⟨rfl, rfl, by first | (simp [mfault, mkn, kn2, nar1, nar0, pk_un, upa_n, c5, c12, c24, c34, c48, c60]; done) | (simp [mfault, mkn, kn2, gsI, bz, nar1, nar0, pk_un, upa_n, c5, c12, c24, c34, c48, c60]; done) | exact absurd c60 (by decide) | exact absurd rfl (gs_ok c60).1 | exact absurd rfl (gs_ok c60).2.1 | exact absurd rfl (gs_ok c60).2.2⟩
end
section
/-! ===== contracts of the reference: act, wanting, write, wanted ===== -/
set_option maxHeartbeats 4000000 in
set_option maxRecDepth 100000 in
theorem c_M_act {l : Launch} (hl : l.stackTraces = false) {D : va_G} {cA : Nat → ClassId} {b n mo : Nat} (r k t : Int32) (σ : Nat → Int32) (α : Nat → Nat → Int32) (h : AH) (hmo : mo + 27 < n) (nr : Nat) (hnr : σ 2 = nI nr) (hle : nr ≤ 30) : Cn l D cA b y_M_act k_M_act 2 27 0 0 [.ref mo, .int r, .int k, .int t] n (ovM mo σ α h) (Re (some (.int (mact σ α r k t).1)) n (ovM mo (mact σ α r k t).2.1 (mact σ α r k t).2.2 h)) := by
  refine Cn.of (cc := b_M_act) (maxL := 6) (ret := (some .boolean)) (hh := []) (by decide +kernel) hl (Or.inl ⟨rfl, rfl⟩) (Nat.le_of_ble_eq_true rfl) ?_
  intro p e s m args below meth c C
  refine j_aload_n C d_M_act_0 rfl rfl ?_
  refine j_iload_n C d_M_act_1 rfl rfl ?_
  refine j_callV C d_M_act_2 ml_M_121 mc_M_isReport in_M_isReport rfl se_M_isReport (by omega) (ovM_o _ _ _ _) (c_M_isReport hl _ _ _ _ hmo) rfl rfl (Nat.le_of_ble_eq_true rfl) (Nat.le_of_ble_eq_true rfl) (Nat.le_of_ble_eq_true rfl) (Nat.le_of_ble_eq_true rfl) (jk_r ?_)
  refine j_if_eq (tgt := 22) C d_M_act_5 (by decide) (fun c5 => ?_) (fun c5 => ?_)
  · refine j_iconst (v := 0) C d_M_act_22 (by decide) ?_
    refine j_istore C d_M_act_23 (by decide) rfl ?_
    refine j_aload_n C d_M_act_25 rfl rfl ?_
    refine j_iload C d_M_act_26 rfl ?_
    refine j_iload_n C d_M_act_28 rfl rfl ?_
    refine j_iconst (v := 0) C d_M_act_29 (by decide) ?_
    refine j_aload_n C d_M_act_30 rfl rfl ?_
    refine jm_get C fl_6_106 d_M_act_31 hmo rfl ?_
    refine j_callS C d_M_act_34 ml_M_102 mc_M_in st_M_in (c_M_in hl _ _ _ _) rfl rfl (Nat.le_of_ble_eq_true rfl) (Nat.le_of_ble_eq_true rfl) (Nat.le_of_ble_eq_true rfl) (Nat.le_of_ble_eq_true rfl) (jk_r ?_)
    refine j_iload C d_M_act_37 rfl ?_
    refine j_if_eq (tgt := 55) C d_M_act_39 (by decide) (fun c39 => ?_) (fun c39 => ?_)
    · refine j_iconst (v := 0) C d_M_act_55 (by decide) ?_
      refine j_callV C d_M_act_56 ml_M_109 mc_M_goes in_M_goes rfl se_M_goes (by omega) (ovM_o _ _ _ _) (c_M_goes hl _ _ _ _ _ _ hmo) rfl rfl (Nat.le_of_ble_eq_true rfl) (Nat.le_of_ble_eq_true rfl) (Nat.le_of_ble_eq_true rfl) (Nat.le_of_ble_eq_true rfl) (jk_r ?_)
      refine j_if_ne (tgt := 64) C d_M_act_59 (by decide) (fun c59 => ?_) (fun c59 => ?_)
      · refine j_bipush (v := 20) C d_M_act_64 (by decide) ?_
        refine j_iload_n C d_M_act_66 rfl rfl ?_
        refine j_imul C d_M_act_67 ?_
        refine j_iload_n C d_M_act_68 rfl rfl ?_
        refine j_iadd C d_M_act_69 ?_
        refine j_istore C d_M_act_70 (by decide) rfl ?_
        refine j_aload_n C d_M_act_72 rfl rfl ?_
        refine jm_get C fl_6_31 d_M_act_73 hmo rfl ?_
        refine j_iload C d_M_act_76 rfl ?_
        refine jm_zald C 7 d_M_act_78 (by decide) rfl hmo (by first | exact ix_rf hnr hle (by assumption) (by assumption) | exact ix_rk hnr hle (by assumption) (by assumption) | exact ix_r hnr hle (by omega) (by omega) (by assumption) | exact absurd rfl (gs_ok c59).1 | exact absurd rfl (gs_ok c59).2.1 | exact absurd rfl (gs_ok c59).2.2) rfl ?_
        refine j_if_eq (tgt := 105) C d_M_act_79 (by decide) (fun c79 => ?_) (fun c79 => ?_)
        · refine j_aload_n C d_M_act_105 rfl rfl ?_
          refine jm_get C fl_6_31 d_M_act_106 hmo rfl ?_
          refine j_iload C d_M_act_109 rfl ?_
          refine j_iconst (v := 1) C d_M_act_111 (by decide) ?_
          refine jm_zasti C 7 10 d_M_act_112 (by decide) rfl hmo (by first | exact ix_rf hnr hle (by assumption) (by assumption) | exact ix_rk hnr hle (by assumption) (by assumption) | exact ix_r hnr hle (by omega) (by omega) (by assumption) | exact absurd rfl (gs_ok c59).1 | exact absurd rfl (gs_ok c59).2.1 | exact absurd rfl (gs_ok c59).2.2) rfl ?_
          refine j_aload_n C d_M_act_113 rfl rfl ?_
          refine jm_get C fl_6_35 d_M_act_114 hmo rfl ?_
          refine j_iload C d_M_act_117 rfl ?_
          refine j_iconst (v := 1) C d_M_act_119 (by decide) ?_
          refine jm_zasti C 8 11 d_M_act_120 (by decide) rfl hmo (by first | exact ix_rf hnr hle (by assumption) (by assumption) | exact ix_rk hnr hle (by assumption) (by assumption) | exact ix_r hnr hle (by omega) (by omega) (by assumption) | exact absurd rfl (gs_ok c59).1 | exact absurd rfl (gs_ok c59).2.1 | exact absurd rfl (gs_ok c59).2.2) rfl ?_
          refine j_aload_n C d_M_act_121 rfl rfl ?_
          refine jm_get C fl_6_41 d_M_act_122 hmo rfl ?_
          refine j_iload C d_M_act_125 rfl ?_
          refine j_iload_n C d_M_act_127 rfl rfl ?_
          refine jm_iasti C 10 13 d_M_act_128 (by decide) rfl hmo (by first | exact ix_rf hnr hle (by assumption) (by assumption) | exact ix_rk hnr hle (by assumption) (by assumption) | exact ix_r hnr hle (by omega) (by omega) (by assumption) | exact absurd rfl (gs_ok c59).1 | exact absurd rfl (gs_ok c59).2.1 | exact absurd rfl (gs_ok c59).2.2) rfl ?_
          refine j_iconst (v := 1) C d_M_act_129 (by decide) ?_
          exact j_zreturn C d_M_act_130 rfl (by decide) (by decide) (by decide) ⟨by first | (simp [mact, mkn, kn2, nar1, nar0, pk_un, upa_n, c5, c39, c59, c79]; done) | (simp [mact, mkn, kn2, gsI, bz, nar1, nar0, pk_un, upa_n, c5, c39, c59, c79]; done) | exact absurd c59 (by decide) | exact absurd rfl (gs_ok c59).1 | exact absurd rfl (gs_ok c59).2.1 | exact absurd rfl (gs_ok c59).2.2, rfl, by first | (simp [mact, mkn, kn2, nar1, nar0, pk_un, upa_n, c5, c39, c59, c79]; done) | (simp [mact, mkn, kn2, gsI, bz, nar1, nar0, pk_un, upa_n, c5, c39, c59, c79]; done) | exact absurd c59 (by decide) | exact absurd rfl (gs_ok c59).1 | exact absurd rfl (gs_ok c59).2.1 | exact absurd rfl (gs_ok c59).2.2⟩
        · refine j_aload_n C d_M_act_82 rfl rfl ?_
          refine jm_get C fl_6_35 d_M_act_83 hmo rfl ?_
          refine j_iload C d_M_act_86 rfl ?_
          refine jm_zald C 8 d_M_act_88 (by decide) rfl hmo (by first | exact ix_rf hnr hle (by assumption) (by assumption) | exact ix_rk hnr hle (by assumption) (by assumption) | exact ix_r hnr hle (by omega) (by omega) (by assumption) | exact absurd rfl (gs_ok c59).1 | exact absurd rfl (gs_ok c59).2.1 | exact absurd rfl (gs_ok c59).2.2) rfl ?_
          refine j_if_eq (tgt := 103) C d_M_act_89 (by decide) (fun c89 => ?_) (fun c89 => ?_)
          · refine j_iconst (v := 0) C d_M_act_103 (by decide) ?_
            exact j_zreturn C d_M_act_104 rfl (by decide) (by decide) (by decide) ⟨by first | (simp [mact, mkn, kn2, nar1, nar0, pk_un, upa_n, c5, c39, c59, c79, c89]; done) | (simp [mact, mkn, kn2, gsI, bz, nar1, nar0, pk_un, upa_n, c5, c39, c59, c79, c89]; done) | exact absurd c59 (by decide) | exact absurd rfl (gs_ok c59).1 | exact absurd rfl (gs_ok c59).2.1 | exact absurd rfl (gs_ok c59).2.2, rfl, by first | (simp [mact, mkn, kn2, nar1, nar0, pk_un, upa_n, c5, c39, c59, c79, c89]; done) | (simp [mact, mkn, kn2, gsI, bz, nar1, nar0, pk_un, upa_n, c5, c39, c59, c79, c89]; done) | exact absurd c59 (by decide) | exact absurd rfl (gs_ok c59).1 | exact absurd rfl (gs_ok c59).2.1 | exact absurd rfl (gs_ok c59).2.2⟩
          · refine j_aload_n C d_M_act_92 rfl rfl ?_
            refine jm_get C fl_6_41 d_M_act_93 hmo rfl ?_
            refine j_iload C d_M_act_96 rfl ?_
            refine jm_iald C 10 d_M_act_98 (by decide) rfl hmo (by first | exact ix_rf hnr hle (by assumption) (by assumption) | exact ix_rk hnr hle (by assumption) (by assumption) | exact ix_r hnr hle (by omega) (by omega) (by assumption) | exact absurd rfl (gs_ok c59).1 | exact absurd rfl (gs_ok c59).2.1 | exact absurd rfl (gs_ok c59).2.2) rfl ?_
            refine j_iload_n C d_M_act_99 rfl rfl ?_
            refine j_icmp_gt (tgt := 105) C d_M_act_100 (by decide) (fun c100 => ?_) (fun c100 => ?_)
            · refine j_aload_n C d_M_act_105 rfl rfl ?_
              refine jm_get C fl_6_31 d_M_act_106 hmo rfl ?_
              refine j_iload C d_M_act_109 rfl ?_
              refine j_iconst (v := 1) C d_M_act_111 (by decide) ?_
              refine jm_zasti C 7 10 d_M_act_112 (by decide) rfl hmo (by first | exact ix_rf hnr hle (by assumption) (by assumption) | exact ix_rk hnr hle (by assumption) (by assumption) | exact ix_r hnr hle (by omega) (by omega) (by assumption) | exact absurd rfl (gs_ok c59).1 | exact absurd rfl (gs_ok c59).2.1 | exact absurd rfl (gs_ok c59).2.2) rfl ?_
              refine j_aload_n C d_M_act_113 rfl rfl ?_
              refine jm_get C fl_6_35 d_M_act_114 hmo rfl ?_
              refine j_iload C d_M_act_117 rfl ?_
              refine j_iconst (v := 1) C d_M_act_119 (by decide) ?_
              refine jm_zasti C 8 11 d_M_act_120 (by decide) rfl hmo (by first | exact ix_rf hnr hle (by assumption) (by assumption) | exact ix_rk hnr hle (by assumption) (by assumption) | exact ix_r hnr hle (by omega) (by omega) (by assumption) | exact absurd rfl (gs_ok c59).1 | exact absurd rfl (gs_ok c59).2.1 | exact absurd rfl (gs_ok c59).2.2) rfl ?_
              refine j_aload_n C d_M_act_121 rfl rfl ?_
              refine jm_get C fl_6_41 d_M_act_122 hmo rfl ?_
              refine j_iload C d_M_act_125 rfl ?_
              refine j_iload_n C d_M_act_127 rfl rfl ?_
              refine jm_iasti C 10 13 d_M_act_128 (by decide) rfl hmo (by first | exact ix_rf hnr hle (by assumption) (by assumption) | exact ix_rk hnr hle (by assumption) (by assumption) | exact ix_r hnr hle (by omega) (by omega) (by assumption) | exact absurd rfl (gs_ok c59).1 | exact absurd rfl (gs_ok c59).2.1 | exact absurd rfl (gs_ok c59).2.2) rfl ?_
              refine j_iconst (v := 1) C d_M_act_129 (by decide) ?_
              exact j_zreturn C d_M_act_130 rfl (by decide) (by decide) (by decide) ⟨by first | (simp [mact, mkn, kn2, nar1, nar0, pk_un, upa_n, c5, c39, c59, c79, c89, c100]; done) | (simp [mact, mkn, kn2, gsI, bz, nar1, nar0, pk_un, upa_n, c5, c39, c59, c79, c89, c100]; done) | exact absurd c59 (by decide) | exact absurd rfl (gs_ok c59).1 | exact absurd rfl (gs_ok c59).2.1 | exact absurd rfl (gs_ok c59).2.2, rfl, by first | (simp [mact, mkn, kn2, nar1, nar0, pk_un, upa_n, c5, c39, c59, c79, c89, c100]; done) | (simp [mact, mkn, kn2, gsI, bz, nar1, nar0, pk_un, upa_n, c5, c39, c59, c79, c89, c100]; done) | exact absurd c59 (by decide) | exact absurd rfl (gs_ok c59).1 | exact absurd rfl (gs_ok c59).2.1 | exact absurd rfl (gs_ok c59).2.2⟩
            · refine j_iconst (v := 0) C d_M_act_103 (by decide) ?_
              exact j_zreturn C d_M_act_104 rfl (by decide) (by decide) (by decide) ⟨by first | (simp [mact, mkn, kn2, nar1, nar0, pk_un, upa_n, c5, c39, c59, c79, c89, c100]; done) | (simp [mact, mkn, kn2, gsI, bz, nar1, nar0, pk_un, upa_n, c5, c39, c59, c79, c89, c100]; done) | exact absurd c59 (by decide) | exact absurd rfl (gs_ok c59).1 | exact absurd rfl (gs_ok c59).2.1 | exact absurd rfl (gs_ok c59).2.2, rfl, by first | (simp [mact, mkn, kn2, nar1, nar0, pk_un, upa_n, c5, c39, c59, c79, c89, c100]; done) | (simp [mact, mkn, kn2, gsI, bz, nar1, nar0, pk_un, upa_n, c5, c39, c59, c79, c89, c100]; done) | exact absurd c59 (by decide) | exact absurd rfl (gs_ok c59).1 | exact absurd rfl (gs_ok c59).2.1 | exact absurd rfl (gs_ok c59).2.2⟩
      · refine j_iconst (v := 0) C d_M_act_62 (by decide) ?_
        exact j_zreturn C d_M_act_63 rfl (by decide) (by decide) (by decide) ⟨by first | (simp [mact, mkn, kn2, nar1, nar0, pk_un, upa_n, c5, c39, c59]; done) | (simp [mact, mkn, kn2, gsI, bz, nar1, nar0, pk_un, upa_n, c5, c39, c59]; done) | exact absurd c59 (by decide) | exact absurd rfl (gs_ok c59).1 | exact absurd rfl (gs_ok c59).2.1 | exact absurd rfl (gs_ok c59).2.2, rfl, by first | (simp [mact, mkn, kn2, nar1, nar0, pk_un, upa_n, c5, c39, c59]; done) | (simp [mact, mkn, kn2, gsI, bz, nar1, nar0, pk_un, upa_n, c5, c39, c59]; done) | exact absurd c59 (by decide) | exact absurd rfl (gs_ok c59).1 | exact absurd rfl (gs_ok c59).2.1 | exact absurd rfl (gs_ok c59).2.2⟩
    · refine j_aload_n C d_M_act_42 rfl rfl ?_
      refine jm_get C fl_6_25 d_M_act_43 hmo rfl ?_
      refine j_iload_n C d_M_act_46 rfl rfl ?_
      refine jm_iald C 5 d_M_act_47 (by decide) rfl hmo (by first | exact ix_r hnr hle (by omega) (by omega) (by assumption) | exact absurd rfl c39) rfl ?_
      refine j_if_ne (tgt := 55) C d_M_act_48 (by decide) (fun c48 => ?_) (fun c48 => ?_)
      · refine j_iconst (v := 0) C d_M_act_55 (by decide) ?_
        refine j_callV C d_M_act_56 ml_M_109 mc_M_goes in_M_goes rfl se_M_goes (by omega) (ovM_o _ _ _ _) (c_M_goes hl _ _ _ _ _ _ hmo) rfl rfl (Nat.le_of_ble_eq_true rfl) (Nat.le_of_ble_eq_true rfl) (Nat.le_of_ble_eq_true rfl) (Nat.le_of_ble_eq_true rfl) (jk_r ?_)
        refine j_if_ne (tgt := 64) C d_M_act_59 (by decide) (fun c59 => ?_) (fun c59 => ?_)
        · refine j_bipush (v := 20) C d_M_act_64 (by decide) ?_
          refine j_iload_n C d_M_act_66 rfl rfl ?_
          refine j_imul C d_M_act_67 ?_
          refine j_iload_n C d_M_act_68 rfl rfl ?_
          refine j_iadd C d_M_act_69 ?_
          refine j_istore C d_M_act_70 (by decide) rfl ?_
          refine j_aload_n C d_M_act_72 rfl rfl ?_
          refine jm_get C fl_6_31 d_M_act_73 hmo rfl ?_
          refine j_iload C d_M_act_76 rfl ?_
          refine jm_zald C 7 d_M_act_78 (by decide) rfl hmo (by first | exact ix_rf hnr hle (by assumption) (by assumption) | exact ix_rk hnr hle (by assumption) (by assumption) | exact ix_r hnr hle (by omega) (by omega) (by assumption) | exact absurd rfl (gs_ok c59).1 | exact absurd rfl (gs_ok c59).2.1 | exact absurd rfl (gs_ok c59).2.2) rfl ?_
          refine j_if_eq (tgt := 105) C d_M_act_79 (by decide) (fun c79 => ?_) (fun c79 => ?_)
          · refine j_aload_n C d_M_act_105 rfl rfl ?_
            refine jm_get C fl_6_31 d_M_act_106 hmo rfl ?_
            refine j_iload C d_M_act_109 rfl ?_
            refine j_iconst (v := 1) C d_M_act_111 (by decide) ?_
            refine jm_zasti C 7 10 d_M_act_112 (by decide) rfl hmo (by first | exact ix_rf hnr hle (by assumption) (by assumption) | exact ix_rk hnr hle (by assumption) (by assumption) | exact ix_r hnr hle (by omega) (by omega) (by assumption) | exact absurd rfl (gs_ok c59).1 | exact absurd rfl (gs_ok c59).2.1 | exact absurd rfl (gs_ok c59).2.2) rfl ?_
            refine j_aload_n C d_M_act_113 rfl rfl ?_
            refine jm_get C fl_6_35 d_M_act_114 hmo rfl ?_
            refine j_iload C d_M_act_117 rfl ?_
            refine j_iconst (v := 1) C d_M_act_119 (by decide) ?_
            refine jm_zasti C 8 11 d_M_act_120 (by decide) rfl hmo (by first | exact ix_rf hnr hle (by assumption) (by assumption) | exact ix_rk hnr hle (by assumption) (by assumption) | exact ix_r hnr hle (by omega) (by omega) (by assumption) | exact absurd rfl (gs_ok c59).1 | exact absurd rfl (gs_ok c59).2.1 | exact absurd rfl (gs_ok c59).2.2) rfl ?_
            refine j_aload_n C d_M_act_121 rfl rfl ?_
            refine jm_get C fl_6_41 d_M_act_122 hmo rfl ?_
            refine j_iload C d_M_act_125 rfl ?_
            refine j_iload_n C d_M_act_127 rfl rfl ?_
            refine jm_iasti C 10 13 d_M_act_128 (by decide) rfl hmo (by first | exact ix_rf hnr hle (by assumption) (by assumption) | exact ix_rk hnr hle (by assumption) (by assumption) | exact ix_r hnr hle (by omega) (by omega) (by assumption) | exact absurd rfl (gs_ok c59).1 | exact absurd rfl (gs_ok c59).2.1 | exact absurd rfl (gs_ok c59).2.2) rfl ?_
            refine j_iconst (v := 1) C d_M_act_129 (by decide) ?_
            exact j_zreturn C d_M_act_130 rfl (by decide) (by decide) (by decide) ⟨by first | (simp [mact, mkn, kn2, nar1, nar0, pk_un, upa_n, c5, c39, c48, c59, c79]; done) | (simp [mact, mkn, kn2, gsI, bz, nar1, nar0, pk_un, upa_n, c5, c39, c48, c59, c79]; done) | exact absurd c59 (by decide) | exact absurd rfl (gs_ok c59).1 | exact absurd rfl (gs_ok c59).2.1 | exact absurd rfl (gs_ok c59).2.2, rfl, by first | (simp [mact, mkn, kn2, nar1, nar0, pk_un, upa_n, c5, c39, c48, c59, c79]; done) | (simp [mact, mkn, kn2, gsI, bz, nar1, nar0, pk_un, upa_n, c5, c39, c48, c59, c79]; done) | exact absurd c59 (by decide) | exact absurd rfl (gs_ok c59).1 | exact absurd rfl (gs_ok c59).2.1 | exact absurd rfl (gs_ok c59).2.2⟩
          · refine j_aload_n C d_M_act_82 rfl rfl ?_
            refine jm_get C fl_6_35 d_M_act_83 hmo rfl ?_
            refine j_iload C d_M_act_86 rfl ?_
            refine jm_zald C 8 d_M_act_88 (by decide) rfl hmo (by first | exact ix_rf hnr hle (by assumption) (by assumption) | exact ix_rk hnr hle (by assumption) (by assumption) | exact ix_r hnr hle (by omega) (by omega) (by assumption) | exact absurd rfl (gs_ok c59).1 | exact absurd rfl (gs_ok c59).2.1 | exact absurd rfl (gs_ok c59).2.2) rfl ?_
            refine j_if_eq (tgt := 103) C d_M_act_89 (by decide) (fun c89 => ?_) (fun c89 => ?_)
            · refine j_iconst (v := 0) C d_M_act_103 (by decide) ?_
              exact j_zreturn C d_M_act_104 rfl (by decide) (by decide) (by decide) ⟨by first | (simp [mact, mkn, kn2, nar1, nar0, pk_un, upa_n, c5, c39, c48, c59, c79, c89]; done) | (simp [mact, mkn, kn2, gsI, bz, nar1, nar0, pk_un, upa_n, c5, c39, c48, c59, c79, c89]; done) | exact absurd c59 (by decide) | exact absurd rfl (gs_ok c59).1 | exact absurd rfl (gs_ok c59).2.1 | exact absurd rfl (gs_ok c59).2.2, rfl, by first | (simp [mact, mkn, kn2, nar1, nar0, pk_un, upa_n, c5, c39, c48, c59, c79, c89]; done) | (simp [mact, mkn, kn2, gsI, bz, nar1, nar0, pk_un, upa_n, c5, c39, c48, c59, c79, c89]; done) | exact absurd c59 (by decide) | exact absurd rfl (gs_ok c59).1 | exact absurd rfl (gs_ok c59).2.1 | exact absurd rfl (gs_ok c59).2.2⟩
            · refine j_aload_n C d_M_act_92 rfl rfl ?_
              refine jm_get C fl_6_41 d_M_act_93 hmo rfl ?_
              refine j_iload C d_M_act_96 rfl ?_
              refine jm_iald C 10 d_M_act_98 (by decide) rfl hmo (by first | exact ix_rf hnr hle (by assumption) (by assumption) | exact ix_rk hnr hle (by assumption) (by assumption) | exact ix_r hnr hle (by omega) (by omega) (by assumption) | exact absurd rfl (gs_ok c59).1 | exact absurd rfl (gs_ok c59).2.1 | exact absurd rfl (gs_ok c59).2.2) rfl ?_
              refine j_iload_n C d_M_act_99 rfl rfl ?_
              refine j_icmp_gt (tgt := 105) C d_M_act_100 (by decide) (fun c100 => ?_) (fun c100 => ?_)
              · refine j_aload_n C d_M_act_105 rfl rfl ?_
                refine jm_get C fl_6_31 d_M_act_106 hmo rfl ?_
                refine j_iload C d_M_act_109 rfl ?_
                refine j_iconst (v := 1) C d_M_act_111 (by decide) ?_
                refine jm_zasti C 7 10 d_M_act_112 (by decide) rfl hmo (by first | exact ix_rf hnr hle (by assumption) (by assumption) | exact ix_rk hnr hle (by assumption) (by assumption) | exact ix_r hnr hle (by omega) (by omega) (by assumption) | exact absurd rfl (gs_ok c59).1 | exact absurd rfl (gs_ok c59).2.1 | exact absurd rfl (gs_ok c59).2.2) rfl ?_
                refine j_aload_n C d_M_act_113 rfl rfl ?_
                refine jm_get C fl_6_35 d_M_act_114 hmo rfl ?_
                refine j_iload C d_M_act_117 rfl ?_
                refine j_iconst (v := 1) C d_M_act_119 (by decide) ?_
                refine jm_zasti C 8 11 d_M_act_120 (by decide) rfl hmo (by first | exact ix_rf hnr hle (by assumption) (by assumption) | exact ix_rk hnr hle (by assumption) (by assumption) | exact ix_r hnr hle (by omega) (by omega) (by assumption) | exact absurd rfl (gs_ok c59).1 | exact absurd rfl (gs_ok c59).2.1 | exact absurd rfl (gs_ok c59).2.2) rfl ?_
                refine j_aload_n C d_M_act_121 rfl rfl ?_
                refine jm_get C fl_6_41 d_M_act_122 hmo rfl ?_
                refine j_iload C d_M_act_125 rfl ?_
                refine j_iload_n C d_M_act_127 rfl rfl ?_
                refine jm_iasti C 10 13 d_M_act_128 (by decide) rfl hmo (by first | exact ix_rf hnr hle (by assumption) (by assumption) | exact ix_rk hnr hle (by assumption) (by assumption) | exact ix_r hnr hle (by omega) (by omega) (by assumption) | exact absurd rfl (gs_ok c59).1 | exact absurd rfl (gs_ok c59).2.1 | exact absurd rfl (gs_ok c59).2.2) rfl ?_
                refine j_iconst (v := 1) C d_M_act_129 (by decide) ?_
                exact j_zreturn C d_M_act_130 rfl (by decide) (by decide) (by decide) ⟨by first | (simp [mact, mkn, kn2, nar1, nar0, pk_un, upa_n, c5, c39, c48, c59, c79, c89, c100]; done) | (simp [mact, mkn, kn2, gsI, bz, nar1, nar0, pk_un, upa_n, c5, c39, c48, c59, c79, c89, c100]; done) | exact absurd c59 (by decide) | exact absurd rfl (gs_ok c59).1 | exact absurd rfl (gs_ok c59).2.1 | exact absurd rfl (gs_ok c59).2.2, rfl, by first | (simp [mact, mkn, kn2, nar1, nar0, pk_un, upa_n, c5, c39, c48, c59, c79, c89, c100]; done) | (simp [mact, mkn, kn2, gsI, bz, nar1, nar0, pk_un, upa_n, c5, c39, c48, c59, c79, c89, c100]; done) | exact absurd c59 (by decide) | exact absurd rfl (gs_ok c59).1 | exact absurd rfl (gs_ok c59).2.1 | exact absurd rfl (gs_ok c59).2.2⟩
              · refine j_iconst (v := 0) C d_M_act_103 (by decide) ?_
                exact j_zreturn C d_M_act_104 rfl (by decide) (by decide) (by decide) ⟨by first | (simp [mact, mkn, kn2, nar1, nar0, pk_un, upa_n, c5, c39, c48, c59, c79, c89, c100]; done) | (simp [mact, mkn, kn2, gsI, bz, nar1, nar0, pk_un, upa_n, c5, c39, c48, c59, c79, c89, c100]; done) | exact absurd c59 (by decide) | exact absurd rfl (gs_ok c59).1 | exact absurd rfl (gs_ok c59).2.1 | exact absurd rfl (gs_ok c59).2.2, rfl, by first | (simp [mact, mkn, kn2, nar1, nar0, pk_un, upa_n, c5, c39, c48, c59, c79, c89, c100]; done) | (simp [mact, mkn, kn2, gsI, bz, nar1, nar0, pk_un, upa_n, c5, c39, c48, c59, c79, c89, c100]; done) | exact absurd c59 (by decide) | exact absurd rfl (gs_ok c59).1 | exact absurd rfl (gs_ok c59).2.1 | exact absurd rfl (gs_ok c59).2.2⟩
        · refine j_iconst (v := 0) C d_M_act_62 (by decide) ?_
          exact j_zreturn C d_M_act_63 rfl (by decide) (by decide) (by decide) ⟨by first | (simp [mact, mkn, kn2, nar1, nar0, pk_un, upa_n, c5, c39, c48, c59]; done) | (simp [mact, mkn, kn2, gsI, bz, nar1, nar0, pk_un, upa_n, c5, c39, c48, c59]; done) | exact absurd c59 (by decide) | exact absurd rfl (gs_ok c59).1 | exact absurd rfl (gs_ok c59).2.1 | exact absurd rfl (gs_ok c59).2.2, rfl, by first | (simp [mact, mkn, kn2, nar1, nar0, pk_un, upa_n, c5, c39, c48, c59]; done) | (simp [mact, mkn, kn2, gsI, bz, nar1, nar0, pk_un, upa_n, c5, c39, c48, c59]; done) | exact absurd c59 (by decide) | exact absurd rfl (gs_ok c59).1 | exact absurd rfl (gs_ok c59).2.1 | exact absurd rfl (gs_ok c59).2.2⟩
      · refine j_iconst (v := 1) C d_M_act_51 (by decide) ?_
        refine j_goto (tgt := 56) C d_M_act_52 (by decide) ?_
        refine j_callV C d_M_act_56 ml_M_109 mc_M_goes in_M_goes rfl se_M_goes (by omega) (ovM_o _ _ _ _) (c_M_goes hl _ _ _ _ _ _ hmo) rfl rfl (Nat.le_of_ble_eq_true rfl) (Nat.le_of_ble_eq_true rfl) (Nat.le_of_ble_eq_true rfl) (Nat.le_of_ble_eq_true rfl) (jk_r ?_)
        refine j_if_ne (tgt := 64) C d_M_act_59 (by decide) (fun c59 => ?_) (fun c59 => ?_)
        · refine j_bipush (v := 20) C d_M_act_64 (by decide) ?_
          refine j_iload_n C d_M_act_66 rfl rfl ?_
          refine j_imul C d_M_act_67 ?_
          refine j_iload_n C d_M_act_68 rfl rfl ?_
          refine j_iadd C d_M_act_69 ?_
          refine j_istore C d_M_act_70 (by decide) rfl ?_
          refine j_aload_n C d_M_act_72 rfl rfl ?_
          refine jm_get C fl_6_31 d_M_act_73 hmo rfl ?_
          refine j_iload C d_M_act_76 rfl ?_
          refine jm_zald C 7 d_M_act_78 (by decide) rfl hmo (by first | exact ix_rf hnr hle (by assumption) (by assumption) | exact ix_rk hnr hle (by assumption) (by assumption) | exact ix_r hnr hle (by omega) (by omega) (by assumption) | exact absurd rfl (gs_ok c59).1 | exact absurd rfl (gs_ok c59).2.1 | exact absurd rfl (gs_ok c59).2.2) rfl ?_
          refine j_if_eq (tgt := 105) C d_M_act_79 (by decide) (fun c79 => ?_) (fun c79 => ?_)
          · refine j_aload_n C d_M_act_105 rfl rfl ?_
            refine jm_get C fl_6_31 d_M_act_106 hmo rfl ?_
            refine j_iload C d_M_act_109 rfl ?_
            refine j_iconst (v := 1) C d_M_act_111 (by decide) ?_
            refine jm_zasti C 7 10 d_M_act_112 (by decide) rfl hmo (by first | exact ix_rf hnr hle (by assumption) (by assumption) | exact ix_rk hnr hle (by assumption) (by assumption) | exact ix_r hnr hle (by omega) (by omega) (by assumption) | exact absurd rfl (gs_ok c59).1 | exact absurd rfl (gs_ok c59).2.1 | exact absurd rfl (gs_ok c59).2.2) rfl ?_
            refine j_aload_n C d_M_act_113 rfl rfl ?_
            refine jm_get C fl_6_35 d_M_act_114 hmo rfl ?_
            refine j_iload C d_M_act_117 rfl ?_
            refine j_iconst (v := 1) C d_M_act_119 (by decide) ?_
            refine jm_zasti C 8 11 d_M_act_120 (by decide) rfl hmo (by first | exact ix_rf hnr hle (by assumption) (by assumption) | exact ix_rk hnr hle (by assumption) (by assumption) | exact ix_r hnr hle (by omega) (by omega) (by assumption) | exact absurd rfl (gs_ok c59).1 | exact absurd rfl (gs_ok c59).2.1 | exact absurd rfl (gs_ok c59).2.2) rfl ?_
            refine j_aload_n C d_M_act_121 rfl rfl ?_
            refine jm_get C fl_6_41 d_M_act_122 hmo rfl ?_
            refine j_iload C d_M_act_125 rfl ?_
            refine j_iload_n C d_M_act_127 rfl rfl ?_
            refine jm_iasti C 10 13 d_M_act_128 (by decide) rfl hmo (by first | exact ix_rf hnr hle (by assumption) (by assumption) | exact ix_rk hnr hle (by assumption) (by assumption) | exact ix_r hnr hle (by omega) (by omega) (by assumption) | exact absurd rfl (gs_ok c59).1 | exact absurd rfl (gs_ok c59).2.1 | exact absurd rfl (gs_ok c59).2.2) rfl ?_
            refine j_iconst (v := 1) C d_M_act_129 (by decide) ?_
            exact j_zreturn C d_M_act_130 rfl (by decide) (by decide) (by decide) ⟨by first | (simp [mact, mkn, kn2, nar1, nar0, pk_un, upa_n, c5, c39, c48, c59, c79]; done) | (simp [mact, mkn, kn2, gsI, bz, nar1, nar0, pk_un, upa_n, c5, c39, c48, c59, c79]; done) | exact absurd c59 (by decide) | exact absurd rfl (gs_ok c59).1 | exact absurd rfl (gs_ok c59).2.1 | exact absurd rfl (gs_ok c59).2.2, rfl, by first | (simp [mact, mkn, kn2, nar1, nar0, pk_un, upa_n, c5, c39, c48, c59, c79]; done) | (simp [mact, mkn, kn2, gsI, bz, nar1, nar0, pk_un, upa_n, c5, c39, c48, c59, c79]; done) | exact absurd c59 (by decide) | exact absurd rfl (gs_ok c59).1 | exact absurd rfl (gs_ok c59).2.1 | exact absurd rfl (gs_ok c59).2.2⟩
          · refine j_aload_n C d_M_act_82 rfl rfl ?_
            refine jm_get C fl_6_35 d_M_act_83 hmo rfl ?_
            refine j_iload C d_M_act_86 rfl ?_
            refine jm_zald C 8 d_M_act_88 (by decide) rfl hmo (by first | exact ix_rf hnr hle (by assumption) (by assumption) | exact ix_rk hnr hle (by assumption) (by assumption) | exact ix_r hnr hle (by omega) (by omega) (by assumption) | exact absurd rfl (gs_ok c59).1 | exact absurd rfl (gs_ok c59).2.1 | exact absurd rfl (gs_ok c59).2.2) rfl ?_
            refine j_if_eq (tgt := 103) C d_M_act_89 (by decide) (fun c89 => ?_) (fun c89 => ?_)
            · refine j_iconst (v := 0) C d_M_act_103 (by decide) ?_
              exact j_zreturn C d_M_act_104 rfl (by decide) (by decide) (by decide) ⟨by first | (simp [mact, mkn, kn2, nar1, nar0, pk_un, upa_n, c5, c39, c48, c59, c79, c89]; done) | (simp [mact, mkn, kn2, gsI, bz, nar1, nar0, pk_un, upa_n, c5, c39, c48, c59, c79, c89]; done) | exact absurd c59 (by decide) | exact absurd rfl (gs_ok c59).1 | exact absurd rfl (gs_ok c59).2.1 | exact absurd rfl (gs_ok c59).2.2, rfl, by first | (simp [mact, mkn, kn2, nar1, nar0, pk_un, upa_n, c5, c39, c48, c59, c79, c89]; done) | (simp [mact, mkn, kn2, gsI, bz, nar1, nar0, pk_un, upa_n, c5, c39, c48, c59, c79, c89]; done) | exact absurd c59 (by decide) | exact absurd rfl (gs_ok c59).1 | exact absurd rfl (gs_ok c59).2.1 | exact absurd rfl (gs_ok c59).2.2⟩
            · refine j_aload_n C d_M_act_92 rfl rfl ?_
              refine jm_get C fl_6_41 d_M_act_93 hmo rfl ?_
              refine j_iload C d_M_act_96 rfl ?_
              refine jm_iald C 10 d_M_act_98 (by decide) rfl hmo (by first | exact ix_rf hnr hle (by assumption) (by assumption) | exact ix_rk hnr hle (by assumption) (by assumption) | exact ix_r hnr hle (by omega) (by omega) (by assumption) | exact absurd rfl (gs_ok c59).1 | exact absurd rfl (gs_ok c59).2.1 | exact absurd rfl (gs_ok c59).2.2) rfl ?_
              refine j_iload_n C d_M_act_99 rfl rfl ?_
              refine j_icmp_gt (tgt := 105) C d_M_act_100 (by decide) (fun c100 => ?_) (fun c100 => ?_)
              · refine j_aload_n C d_M_act_105 rfl rfl ?_
                refine jm_get C fl_6_31 d_M_act_106 hmo rfl ?_
                refine j_iload C d_M_act_109 rfl ?_
                refine j_iconst (v := 1) C d_M_act_111 (by decide) ?_
                refine jm_zasti C 7 10 d_M_act_112 (by decide) rfl hmo (by first | exact ix_rf hnr hle (by assumption) (by assumption) | exact ix_rk hnr hle (by assumption) (by assumption) | exact ix_r hnr hle (by omega) (by omega) (by assumption) | exact absurd rfl (gs_ok c59).1 | exact absurd rfl (gs_ok c59).2.1 | exact absurd rfl (gs_ok c59).2.2) rfl ?_
                refine j_aload_n C d_M_act_113 rfl rfl ?_
                refine jm_get C fl_6_35 d_M_act_114 hmo rfl ?_
                refine j_iload C d_M_act_117 rfl ?_
                refine j_iconst (v := 1) C d_M_act_119 (by decide) ?_
                refine jm_zasti C 8 11 d_M_act_120 (by decide) rfl hmo (by first | exact ix_rf hnr hle (by assumption) (by assumption) | exact ix_rk hnr hle (by assumption) (by assumption) | exact ix_r hnr hle (by omega) (by omega) (by assumption) | exact absurd rfl (gs_ok c59).1 | exact absurd rfl (gs_ok c59).2.1 | exact absurd rfl (gs_ok c59).2.2) rfl ?_
                refine j_aload_n C d_M_act_121 rfl rfl ?_
                refine jm_get C fl_6_41 d_M_act_122 hmo rfl ?_
                refine j_iload C d_M_act_125 rfl ?_
                refine j_iload_n C d_M_act_127 rfl rfl ?_
                refine jm_iasti C 10 13 d_M_act_128 (by decide) rfl hmo (by first | exact ix_rf hnr hle (by assumption) (by assumption) | exact ix_rk hnr hle (by assumption) (by assumption) | exact ix_r hnr hle (by omega) (by omega) (by assumption) | exact absurd rfl (gs_ok c59).1 | exact absurd rfl (gs_ok c59).2.1 | exact absurd rfl (gs_ok c59).2.2) rfl ?_
                refine j_iconst (v := 1) C d_M_act_129 (by decide) ?_
                exact j_zreturn C d_M_act_130 rfl (by decide) (by decide) (by decide) ⟨by first | (simp [mact, mkn, kn2, nar1, nar0, pk_un, upa_n, c5, c39, c48, c59, c79, c89, c100]; done) | (simp [mact, mkn, kn2, gsI, bz, nar1, nar0, pk_un, upa_n, c5, c39, c48, c59, c79, c89, c100]; done) | exact absurd c59 (by decide) | exact absurd rfl (gs_ok c59).1 | exact absurd rfl (gs_ok c59).2.1 | exact absurd rfl (gs_ok c59).2.2, rfl, by first | (simp [mact, mkn, kn2, nar1, nar0, pk_un, upa_n, c5, c39, c48, c59, c79, c89, c100]; done) | (simp [mact, mkn, kn2, gsI, bz, nar1, nar0, pk_un, upa_n, c5, c39, c48, c59, c79, c89, c100]; done) | exact absurd c59 (by decide) | exact absurd rfl (gs_ok c59).1 | exact absurd rfl (gs_ok c59).2.1 | exact absurd rfl (gs_ok c59).2.2⟩
              · refine j_iconst (v := 0) C d_M_act_103 (by decide) ?_
                exact j_zreturn C d_M_act_104 rfl (by decide) (by decide) (by decide) ⟨by first | (simp [mact, mkn, kn2, nar1, nar0, pk_un, upa_n, c5, c39, c48, c59, c79, c89, c100]; done) | (simp [mact, mkn, kn2, gsI, bz, nar1, nar0, pk_un, upa_n, c5, c39, c48, c59, c79, c89, c100]; done) | exact absurd c59 (by decide) | exact absurd rfl (gs_ok c59).1 | exact absurd rfl (gs_ok c59).2.1 | exact absurd rfl (gs_ok c59).2.2, rfl, by first | (simp [mact, mkn, kn2, nar1, nar0, pk_un, upa_n, c5, c39, c48, c59, c79, c89, c100]; done) | (simp [mact, mkn, kn2, gsI, bz, nar1, nar0, pk_un, upa_n, c5, c39, c48, c59, c79, c89, c100]; done) | exact absurd c59 (by decide) | exact absurd rfl (gs_ok c59).1 | exact absurd rfl (gs_ok c59).2.1 | exact absurd rfl (gs_ok c59).2.2⟩
        · refine j_iconst (v := 0) C d_M_act_62 (by decide) ?_
          exact j_zreturn C d_M_act_63 rfl (by decide) (by decide) (by decide) ⟨by first | (simp [mact, mkn, kn2, nar1, nar0, pk_un, upa_n, c5, c39, c48, c59]; done) | (simp [mact, mkn, kn2, gsI, bz, nar1, nar0, pk_un, upa_n, c5, c39, c48, c59]; done) | exact absurd c59 (by decide) | exact absurd rfl (gs_ok c59).1 | exact absurd rfl (gs_ok c59).2.1 | exact absurd rfl (gs_ok c59).2.2, rfl, by first | (simp [mact, mkn, kn2, nar1, nar0, pk_un, upa_n, c5, c39, c48, c59]; done) | (simp [mact, mkn, kn2, gsI, bz, nar1, nar0, pk_un, upa_n, c5, c39, c48, c59]; done) | exact absurd c59 (by decide) | exact absurd rfl (gs_ok c59).1 | exact absurd rfl (gs_ok c59).2.1 | exact absurd rfl (gs_ok c59).2.2⟩
  · refine j_iload_n C d_M_act_8 rfl rfl ?_
    refine j_iconst (v := 0) C d_M_act_9 (by decide) ?_
    refine j_bipush (v := 9) C d_M_act_10 (by decide) ?_
    refine j_callS C d_M_act_12 ml_M_102 mc_M_in st_M_in (c_M_in hl _ _ _ _) rfl rfl (Nat.le_of_ble_eq_true rfl) (Nat.le_of_ble_eq_true rfl) (Nat.le_of_ble_eq_true rfl) (Nat.le_of_ble_eq_true rfl) (jk_r ?_)
    refine j_if_eq (tgt := 22) C d_M_act_15 (by decide) (fun c15 => ?_) (fun c15 => ?_)
    · refine j_iconst (v := 0) C d_M_act_22 (by decide) ?_
      refine j_istore C d_M_act_23 (by decide) rfl ?_
      refine j_aload_n C d_M_act_25 rfl rfl ?_
      refine j_iload C d_M_act_26 rfl ?_
      refine j_iload_n C d_M_act_28 rfl rfl ?_
      refine j_iconst (v := 0) C d_M_act_29 (by decide) ?_
      refine j_aload_n C d_M_act_30 rfl rfl ?_
      refine jm_get C fl_6_106 d_M_act_31 hmo rfl ?_
      refine j_callS C d_M_act_34 ml_M_102 mc_M_in st_M_in (c_M_in hl _ _ _ _) rfl rfl (Nat.le_of_ble_eq_true rfl) (Nat.le_of_ble_eq_true rfl) (Nat.le_of_ble_eq_true rfl) (Nat.le_of_ble_eq_true rfl) (jk_r ?_)
      refine j_iload C d_M_act_37 rfl ?_
      refine j_if_eq (tgt := 55) C d_M_act_39 (by decide) (fun c39 => ?_) (fun c39 => ?_)
      · refine j_iconst (v := 0) C d_M_act_55 (by decide) ?_
        refine j_callV C d_M_act_56 ml_M_109 mc_M_goes in_M_goes rfl se_M_goes (by omega) (ovM_o _ _ _ _) (c_M_goes hl _ _ _ _ _ _ hmo) rfl rfl (Nat.le_of_ble_eq_true rfl) (Nat.le_of_ble_eq_true rfl) (Nat.le_of_ble_eq_true rfl) (Nat.le_of_ble_eq_true rfl) (jk_r ?_)
        refine j_if_ne (tgt := 64) C d_M_act_59 (by decide) (fun c59 => ?_) (fun c59 => ?_)
        · refine j_bipush (v := 20) C d_M_act_64 (by decide) ?_
          refine j_iload_n C d_M_act_66 rfl rfl ?_
          refine j_imul C d_M_act_67 ?_
          refine j_iload_n C d_M_act_68 rfl rfl ?_
          refine j_iadd C d_M_act_69 ?_
          refine j_istore C d_M_act_70 (by decide) rfl ?_
          refine j_aload_n C d_M_act_72 rfl rfl ?_
          refine jm_get C fl_6_31 d_M_act_73 hmo rfl ?_
          refine j_iload C d_M_act_76 rfl ?_
          refine jm_zald C 7 d_M_act_78 (by decide) rfl hmo (by first | exact ix_rf hnr hle (by assumption) (by assumption) | exact ix_rk hnr hle (by assumption) (by assumption) | exact ix_r hnr hle (by omega) (by omega) (by assumption) | exact absurd rfl (gs_ok c59).1 | exact absurd rfl (gs_ok c59).2.1 | exact absurd rfl (gs_ok c59).2.2) rfl ?_
          refine j_if_eq (tgt := 105) C d_M_act_79 (by decide) (fun c79 => ?_) (fun c79 => ?_)
          · refine j_aload_n C d_M_act_105 rfl rfl ?_
            refine jm_get C fl_6_31 d_M_act_106 hmo rfl ?_
            refine j_iload C d_M_act_109 rfl ?_
            refine j_iconst (v := 1) C d_M_act_111 (by decide) ?_
            refine jm_zasti C 7 10 d_M_act_112 (by decide) rfl hmo (by first | exact ix_rf hnr hle (by assumption) (by assumption) | exact ix_rk hnr hle (by assumption) (by assumption) | exact ix_r hnr hle (by omega) (by omega) (by assumption) | exact absurd rfl (gs_ok c59).1 | exact absurd rfl (gs_ok c59).2.1 | exact absurd rfl (gs_ok c59).2.2) rfl ?_
            refine j_aload_n C d_M_act_113 rfl rfl ?_
            refine jm_get C fl_6_35 d_M_act_114 hmo rfl ?_
            refine j_iload C d_M_act_117 rfl ?_
            refine j_iconst (v := 1) C d_M_act_119 (by decide) ?_
            refine jm_zasti C 8 11 d_M_act_120 (by decide) rfl hmo (by first | exact ix_rf hnr hle (by assumption) (by assumption) | exact ix_rk hnr hle (by assumption) (by assumption) | exact ix_r hnr hle (by omega) (by omega) (by assumption) | exact absurd rfl (gs_ok c59).1 | exact absurd rfl (gs_ok c59).2.1 | exact absurd rfl (gs_ok c59).2.2) rfl ?_
            refine j_aload_n C d_M_act_121 rfl rfl ?_
            refine jm_get C fl_6_41 d_M_act_122 hmo rfl ?_
            refine j_iload C d_M_act_125 rfl ?_
            refine j_iload_n C d_M_act_127 rfl rfl ?_
            refine jm_iasti C 10 13 d_M_act_128 (by decide) rfl hmo (by first | exact ix_rf hnr hle (by assumption) (by assumption) | exact ix_rk hnr hle (by assumption) (by assumption) | exact ix_r hnr hle (by omega) (by omega) (by assumption) | exact absurd rfl (gs_ok c59).1 | exact absurd rfl (gs_ok c59).2.1 | exact absurd rfl (gs_ok c59).2.2) rfl ?_
            refine j_iconst (v := 1) C d_M_act_129 (by decide) ?_
            exact j_zreturn C d_M_act_130 rfl (by decide) (by decide) (by decide) ⟨by first | (simp [mact, mkn, kn2, nar1, nar0, pk_un, upa_n, c5, c15, c39, c59, c79]; done) | (simp [mact, mkn, kn2, gsI, bz, nar1, nar0, pk_un, upa_n, c5, c15, c39, c59, c79]; done) | exact absurd c59 (by decide) | exact absurd rfl (gs_ok c59).1 | exact absurd rfl (gs_ok c59).2.1 | exact absurd rfl (gs_ok c59).2.2, rfl, by first | (simp [mact, mkn, kn2, nar1, nar0, pk_un, upa_n, c5, c15, c39, c59, c79]; done) | (simp [mact, mkn, kn2, gsI, bz, nar1, nar0, pk_un, upa_n, c5, c15, c39, c59, c79]; done) | exact absurd c59 (by decide) | exact absurd rfl (gs_ok c59).1 | exact absurd rfl (gs_ok c59).2.1 | exact absurd rfl (gs_ok c59).2.2⟩
          · refine j_aload_n C d_M_act_82 rfl rfl ?_
            refine jm_get C fl_6_35 d_M_act_83 hmo rfl ?_
            refine j_iload C d_M_act_86 rfl ?_
            refine jm_zald C 8 d_M_act_88 (by decide) rfl hmo (by first | exact ix_rf hnr hle (by assumption) (by assumption) | exact ix_rk hnr hle (by assumption) (by assumption) | exact ix_r hnr hle (by omega) (by omega) (by assumption) | exact absurd rfl (gs_ok c59).1 | exact absurd rfl (gs_ok c59).2.1 | exact absurd rfl (gs_ok c59).2.2) rfl ?_
            refine j_if_eq (tgt := 103) C d_M_act_89 (by decide) (fun c89 => ?_) (fun c89 => ?_)
            · refine j_iconst (v := 0) C d_M_act_103 (by decide) ?_
              exact j_zreturn C d_M_act_104 rfl (by decide) (by decide) (by decide) ⟨by first | (simp [mact, mkn, kn2, nar1, nar0, pk_un, upa_n, c5, c15, c39, c59, c79, c89]; done) | (simp [mact, mkn, kn2, gsI, bz, nar1, nar0, pk_un, upa_n, c5, c15, c39, c59, c79, c89]; done) | exact absurd c59 (by decide) | exact absurd rfl (gs_ok c59).1 | exact absurd rfl (gs_ok c59).2.1 | exact absurd rfl (gs_ok c59).2.2, rfl, by first | (simp [mact, mkn, kn2, nar1, nar0, pk_un, upa_n, c5, c15, c39, c59, c79, c89]; done) | (simp [mact, mkn, kn2, gsI, bz, nar1, nar0, pk_un, upa_n, c5, c15, c39, c59, c79, c89]; done) | exact absurd c59 (by decide) | exact absurd rfl (gs_ok c59).1 | exact absurd rfl (gs_ok c59).2.1 | exact absurd rfl (gs_ok c59).2.2⟩
            · refine j_aload_n C d_M_act_92 rfl rfl ?_
              refine jm_get C fl_6_41 d_M_act_93 hmo rfl ?_
              refine j_iload C d_M_act_96 rfl ?_
              refine jm_iald C 10 d_M_act_98 (by decide) rfl hmo (by first | exact ix_rf hnr hle (by assumption) (by assumption) | exact ix_rk hnr hle (by assumption) (by assumption) | exact ix_r hnr hle (by omega) (by omega) (by assumption) | exact absurd rfl (gs_ok c59).1 | exact absurd rfl (gs_ok c59).2.1 | exact absurd rfl (gs_ok c59).2.2) rfl ?_
              refine j_iload_n C d_M_act_99 rfl rfl ?_
              refine j_icmp_gt (tgt := 105) C d_M_act_100 (by decide) (fun c100 => ?_) (fun c100 => ?_)
              · refine j_aload_n C d_M_act_105 rfl rfl ?_
                refine jm_get C fl_6_31 d_M_act_106 hmo rfl ?_
                refine j_iload C d_M_act_109 rfl ?_
                refine j_iconst (v := 1) C d_M_act_111 (by decide) ?_
                refine jm_zasti C 7 10 d_M_act_112 (by decide) rfl hmo (by first | exact ix_rf hnr hle (by assumption) (by assumption) | exact ix_rk hnr hle (by assumption) (by assumption) | exact ix_r hnr hle (by omega) (by omega) (by assumption) | exact absurd rfl (gs_ok c59).1 | exact absurd rfl (gs_ok c59).2.1 | exact absurd rfl (gs_ok c59).2.2) rfl ?_
                refine j_aload_n C d_M_act_113 rfl rfl ?_
                refine jm_get C fl_6_35 d_M_act_114 hmo rfl ?_
                refine j_iload C d_M_act_117 rfl ?_
                refine j_iconst (v := 1) C d_M_act_119 (by decide) ?_
                refine jm_zasti C 8 11 d_M_act_120 (by decide) rfl hmo (by first | exact ix_rf hnr hle (by assumption) (by assumption) | exact ix_rk hnr hle (by assumption) (by assumption) | exact ix_r hnr hle (by omega) (by omega) (by assumption) | exact absurd rfl (gs_ok c59).1 | exact absurd rfl (gs_ok c59).2.1 | exact absurd rfl (gs_ok c59).2.2) rfl ?_
                refine j_aload_n C d_M_act_121 rfl rfl ?_
                refine jm_get C fl_6_41 d_M_act_122 hmo rfl ?_
                refine j_iload C d_M_act_125 rfl ?_
                refine j_iload_n C d_M_act_127 rfl rfl ?_
                refine jm_iasti C 10 13 d_M_act_128 (by decide) rfl hmo (by first | exact ix_rf hnr hle (by assumption) (by assumption) | exact ix_rk hnr hle (by assumption) (by assumption) | exact ix_r hnr hle (by omega) (by omega) (by assumption) | exact absurd rfl (gs_ok c59).1 | exact absurd rfl (gs_ok c59).2.1 | exact absurd rfl (gs_ok c59).2.2) rfl ?_
                refine j_iconst (v := 1) C d_M_act_129 (by decide) ?_
                exact j_zreturn C d_M_act_130 rfl (by decide) (by decide) (by decide) ⟨by first | (simp [mact, mkn, kn2, nar1, nar0, pk_un, upa_n, c5, c15, c39, c59, c79, c89, c100]; done) | (simp [mact, mkn, kn2, gsI, bz, nar1, nar0, pk_un, upa_n, c5, c15, c39, c59, c79, c89, c100]; done) | exact absurd c59 (by decide) | exact absurd rfl (gs_ok c59).1 | exact absurd rfl (gs_ok c59).2.1 | exact absurd rfl (gs_ok c59).2.2, rfl, by first | (simp [mact, mkn, kn2, nar1, nar0, pk_un, upa_n, c5, c15, c39, c59, c79, c89, c100]; done) | (simp [mact, mkn, kn2, gsI, bz, nar1, nar0, pk_un, upa_n, c5, c15, c39, c59, c79, c89, c100]; done) | exact absurd c59 (by decide) | exact absurd rfl (gs_ok c59).1 | exact absurd rfl (gs_ok c59).2.1 | exact absurd rfl (gs_ok c59).2.2⟩
              · refine j_iconst (v := 0) C d_M_act_103 (by decide) ?_
                exact j_zreturn C d_M_act_104 rfl (by decide) (by decide) (by decide) ⟨by first | (simp [mact, mkn, kn2, nar1, nar0, pk_un, upa_n, c5, c15, c39, c59, c79, c89, c100]; done) | (simp [mact, mkn, kn2, gsI, bz, nar1, nar0, pk_un, upa_n, c5, c15, c39, c59, c79, c89, c100]; done) | exact absurd c59 (by decide) | exact absurd rfl (gs_ok c59).1 | exact absurd rfl (gs_ok c59).2.1 | exact absurd rfl (gs_ok c59).2.2, rfl, by first | (simp [mact, mkn, kn2, nar1, nar0, pk_un, upa_n, c5, c15, c39, c59, c79, c89, c100]; done) | (simp [mact, mkn, kn2, gsI, bz, nar1, nar0, pk_un, upa_n, c5, c15, c39, c59, c79, c89, c100]; done) | exact absurd c59 (by decide) | exact absurd rfl (gs_ok c59).1 | exact absurd rfl (gs_ok c59).2.1 | exact absurd rfl (gs_ok c59).2.2⟩
        · refine j_iconst (v := 0) C d_M_act_62 (by decide) ?_
          exact j_zreturn C d_M_act_63 rfl (by decide) (by decide) (by decide) ⟨by first | (simp [mact, mkn, kn2, nar1, nar0, pk_un, upa_n, c5, c15, c39, c59]; done) | (simp [mact, mkn, kn2, gsI, bz, nar1, nar0, pk_un, upa_n, c5, c15, c39, c59]; done) | exact absurd c59 (by decide) | exact absurd rfl (gs_ok c59).1 | exact absurd rfl (gs_ok c59).2.1 | exact absurd rfl (gs_ok c59).2.2, rfl, by first | (simp [mact, mkn, kn2, nar1, nar0, pk_un, upa_n, c5, c15, c39, c59]; done) | (simp [mact, mkn, kn2, gsI, bz, nar1, nar0, pk_un, upa_n, c5, c15, c39, c59]; done) | exact absurd c59 (by decide) | exact absurd rfl (gs_ok c59).1 | exact absurd rfl (gs_ok c59).2.1 | exact absurd rfl (gs_ok c59).2.2⟩
      · refine j_aload_n C d_M_act_42 rfl rfl ?_
        refine jm_get C fl_6_25 d_M_act_43 hmo rfl ?_
        refine j_iload_n C d_M_act_46 rfl rfl ?_
        refine jm_iald C 5 d_M_act_47 (by decide) rfl hmo (by first | exact ix_r hnr hle (by omega) (by omega) (by assumption) | exact absurd rfl c39) rfl ?_
        refine j_if_ne (tgt := 55) C d_M_act_48 (by decide) (fun c48 => ?_) (fun c48 => ?_)
        · refine j_iconst (v := 0) C d_M_act_55 (by decide) ?_
          refine j_callV C d_M_act_56 ml_M_109 mc_M_goes in_M_goes rfl se_M_goes (by omega) (ovM_o _ _ _ _) (c_M_goes hl _ _ _ _ _ _ hmo) rfl rfl (Nat.le_of_ble_eq_true rfl) (Nat.le_of_ble_eq_true rfl) (Nat.le_of_ble_eq_true rfl) (Nat.le_of_ble_eq_true rfl) (jk_r ?_)
          refine j_if_ne (tgt := 64) C d_M_act_59 (by decide) (fun c59 => ?_) (fun c59 => ?_)
          · refine j_bipush (v := 20) C d_M_act_64 (by decide) ?_
            refine j_iload_n C d_M_act_66 rfl rfl ?_
            refine j_imul C d_M_act_67 ?_
            refine j_iload_n C d_M_act_68 rfl rfl ?_
            refine j_iadd C d_M_act_69 ?_
            refine j_istore C d_M_act_70 (by decide) rfl ?_
            refine j_aload_n C d_M_act_72 rfl rfl ?_
            refine jm_get C fl_6_31 d_M_act_73 hmo rfl ?_
            refine j_iload C d_M_act_76 rfl ?_
            refine jm_zald C 7 d_M_act_78 (by decide) rfl hmo (by first | exact ix_rf hnr hle (by assumption) (by assumption) | exact ix_rk hnr hle (by assumption) (by assumption) | exact ix_r hnr hle (by omega) (by omega) (by assumption) | exact absurd rfl (gs_ok c59).1 | exact absurd rfl (gs_ok c59).2.1 | exact absurd rfl (gs_ok c59).2.2) rfl ?_
            refine j_if_eq (tgt := 105) C d_M_act_79 (by decide) (fun c79 => ?_) (fun c79 => ?_)
            · refine j_aload_n C d_M_act_105 rfl rfl ?_
              refine jm_get C fl_6_31 d_M_act_106 hmo rfl ?_
              refine j_iload C d_M_act_109 rfl ?_
              refine j_iconst (v := 1) C d_M_act_111 (by decide) ?_
              refine jm_zasti C 7 10 d_M_act_112 (by decide) rfl hmo (by first | exact ix_rf hnr hle (by assumption) (by assumption) | exact ix_rk hnr hle (by assumption) (by assumption) | exact ix_r hnr hle (by omega) (by omega) (by assumption) | exact absurd rfl (gs_ok c59).1 | exact absurd rfl (gs_ok c59).2.1 | exact absurd rfl (gs_ok c59).2.2) rfl ?_
              refine j_aload_n C d_M_act_113 rfl rfl ?_
              refine jm_get C fl_6_35 d_M_act_114 hmo rfl ?_
              refine j_iload C d_M_act_117 rfl ?_
              refine j_iconst (v := 1) C d_M_act_119 (by decide) ?_
              refine jm_zasti C 8 11 d_M_act_120 (by decide) rfl hmo (by first | exact ix_rf hnr hle (by assumption) (by assumption) | exact ix_rk hnr hle (by assumption) (by assumption) | exact ix_r hnr hle (by omega) (by omega) (by assumption) | exact absurd rfl (gs_ok c59).1 | exact absurd rfl (gs_ok c59).2.1 | exact absurd rfl (gs_ok c59).2.2) rfl ?_
              refine j_aload_n C d_M_act_121 rfl rfl ?_
              refine jm_get C fl_6_41 d_M_act_122 hmo rfl ?_
              refine j_iload C d_M_act_125 rfl ?_
              refine j_iload_n C d_M_act_127 rfl rfl ?_
              refine jm_iasti C 10 13 d_M_act_128 (by decide) rfl hmo (by first | exact ix_rf hnr hle (by assumption) (by assumption) | exact ix_rk hnr hle (by assumption) (by assumption) | exact ix_r hnr hle (by omega) (by omega) (by assumption) | exact absurd rfl (gs_ok c59).1 | exact absurd rfl (gs_ok c59).2.1 | exact absurd rfl (gs_ok c59).2.2) rfl ?_
              refine j_iconst (v := 1) C d_M_act_129 (by decide) ?_
              exact j_zreturn C d_M_act_130 rfl (by decide) (by decide) (by decide) ⟨by first | (simp [mact, mkn, kn2, nar1, nar0, pk_un, upa_n, c5, c15, c39, c48, c59, c79]; done) | (simp [mact, mkn, kn2, gsI, bz, nar1, nar0, pk_un, upa_n, c5, c15, c39, c48, c59, c79]; done) | exact absurd c59 (by decide) | exact absurd rfl (gs_ok c59).1 | exact absurd rfl (gs_ok c59).2.1 | exact absurd rfl (gs_ok c59).2.2, rfl, by first | (simp [mact, mkn, kn2, nar1, nar0, pk_un, upa_n, c5, c15, c39, c48, c59, c79]; done) | (simp [mact, mkn, kn2, gsI, bz, nar1, nar0, pk_un, upa_n, c5, c15, c39, c48, c59, c79]; done) | exact absurd c59 (by decide) | exact absurd rfl (gs_ok c59).1 | exact absurd rfl (gs_ok c59).2.1 | exact absurd rfl (gs_ok c59).2.2⟩
            · refine j_aload_n C d_M_act_82 rfl rfl ?_
              refine jm_get C fl_6_35 d_M_act_83 hmo rfl ?_
              refine j_iload C d_M_act_86 rfl ?_
              refine jm_zald C 8 d_M_act_88 (by decide) rfl hmo (by first | exact ix_rf hnr hle (by assumption) (by assumption) | exact ix_rk hnr hle (by assumption) (by assumption) | exact ix_r hnr hle (by omega) (by omega) (by assumption) | exact absurd rfl (gs_ok c59).1 | exact absurd rfl (gs_ok c59).2.1 | exact absurd rfl (gs_ok c59).2.2) rfl ?_
              refine j_if_eq (tgt := 103) C d_M_act_89 (by decide) (fun c89 => ?_) (fun c89 => ?_)
              · refine j_iconst (v := 0) C d_M_act_103 (by decide) ?_
                exact j_zreturn C d_M_act_104 rfl (by decide) (by decide) (by decide) ⟨by first | (simp [mact, mkn, kn2, nar1, nar0, pk_un, upa_n, c5, c15, c39, c48, c59, c79, c89]; done) | (simp [mact, mkn, kn2, gsI, bz, nar1, nar0, pk_un, upa_n, c5, c15, c39, c48, c59, c79, c89]; done) | exact absurd c59 (by decide) | exact absurd rfl (gs_ok c59).1 | exact absurd rfl (gs_ok c59).2.1 | exact absurd rfl (gs_ok c59).2.2, rfl, by first | (simp [mact, mkn, kn2, nar1, nar0, pk_un, upa_n, c5, c15, c39, c48, c59, c79, c89]; done) | (simp [mact, mkn, kn2, gsI, bz, nar1, nar0, pk_un, upa_n, c5, c15, c39, c48, c59, c79, c89]; done) | exact absurd c59 (by decide) | exact absurd rfl (gs_ok c59).1 | exact absurd rfl (gs_ok c59).2.1 | exact absurd rfl (gs_ok c59).2.2⟩
              · refine j_aload_n C d_M_act_92 rfl rfl ?_
                refine jm_get C fl_6_41 d_M_act_93 hmo rfl ?_
                refine j_iload C d_M_act_96 rfl ?_
                refine jm_iald C 10 d_M_act_98 (by decide) rfl hmo (by first | exact ix_rf hnr hle (by assumption) (by assumption) | exact ix_rk hnr hle (by assumption) (by assumption) | exact ix_r hnr hle (by omega) (by omega) (by assumption) | exact absurd rfl (gs_ok c59).1 | exact absurd rfl (gs_ok c59).2.1 | exact absurd rfl (gs_ok c59).2.2) rfl ?_
                refine j_iload_n C d_M_act_99 rfl rfl ?_
                refine j_icmp_gt (tgt := 105) C d_M_act_100 (by decide) (fun c100 => ?_) (fun c100 => ?_)
                · refine j_aload_n C d_M_act_105 rfl rfl ?_
                  refine jm_get C fl_6_31 d_M_act_106 hmo rfl ?_
                  refine j_iload C d_M_act_109 rfl ?_
                  refine j_iconst (v := 1) C d_M_act_111 (by decide) ?_
                  refine jm_zasti C 7 10 d_M_act_112 (by decide) rfl hmo (by first | exact ix_rf hnr hle (by assumption) (by assumption) | exact ix_rk hnr hle (by assumption) (by assumption) | exact ix_r hnr hle (by omega) (by omega) (by assumption) | exact absurd rfl (gs_ok c59).1 | exact absurd rfl (gs_ok c59).2.1 | exact absurd rfl (gs_ok c59).2.2) rfl ?_
                  refine j_aload_n C d_M_act_113 rfl rfl ?_
                  refine jm_get C fl_6_35 d_M_act_114 hmo rfl ?_
                  refine j_iload C d_M_act_117 rfl ?_
                  refine j_iconst (v := 1) C d_M_act_119 (by decide) ?_
                  refine jm_zasti C 8 11 d_M_act_120 (by decide) rfl hmo (by first | exact ix_rf hnr hle (by assumption) (by assumption) | exact ix_rk hnr hle (by assumption) (by assumption) | exact ix_r hnr hle (by omega) (by omega) (by assumption) | exact absurd rfl (gs_ok c59).1 | exact absurd rfl (gs_ok c59).2.1 | exact absurd rfl (gs_ok c59).2.2) rfl ?_
                  refine j_aload_n C d_M_act_121 rfl rfl ?_
                  refine jm_get C fl_6_41 d_M_act_122 hmo rfl ?_
                  refine j_iload C d_M_act_125 rfl ?_
                  refine j_iload_n C d_M_act_127 rfl rfl ?_
                  refine jm_iasti C 10 13 d_M_act_128 (by decide) rfl hmo (by first | exact ix_rf hnr hle (by assumption) (by assumption) | exact ix_rk hnr hle (by assumption) (by assumption) | exact ix_r hnr hle (by omega) (by omega) (by assumption) | exact absurd rfl (gs_ok c59).1 | exact absurd rfl (gs_ok c59).2.1 | exact absurd rfl (gs_ok c59).2.2) rfl ?_
                  refine j_iconst (v := 1) C d_M_act_129 (by decide) ?_
                  exact j_zreturn C d_M_act_130 rfl (by decide) (by decide) (by decide) ⟨by first | (simp [mact, mkn, kn2, nar1, nar0, pk_un, upa_n, c5, c15, c39, c48, c59, c79, c89, c100]; done) | (simp [mact, mkn, kn2, gsI, bz, nar1, nar0, pk_un, upa_n, c5, c15, c39, c48, c59, c79, c89, c100]; done) | exact absurd c59 (by decide) | exact absurd rfl (gs_ok c59).1 | exact absurd rfl (gs_ok c59).2.1 | exact absurd rfl (gs_ok c59).2.2, rfl, by first | (simp [mact, mkn, kn2, nar1, nar0, pk_un, upa_n, c5, c15, c39, c48, c59, c79, c89, c100]; done) | (simp [mact, mkn, kn2, gsI, bz, nar1, nar0, pk_un, upa_n, c5, c15, c39, c48, c59, c79, c89, c100]; done) | exact absurd c59 (by decide) | exact absurd rfl (gs_ok c59).1 | exact absurd rfl (gs_ok c59).2.1 | exact absurd rfl (gs_ok c59).2.2⟩
                · refine j_iconst (v := 0) C d_M_act_103 (by decide) ?_
                  exact j_zreturn C d_M_act_104 rfl (by decide) (by decide) (by decide) ⟨by first | (simp [mact, mkn, kn2, nar1, nar0, pk_un, upa_n, c5, c15, c39, c48, c59, c79, c89, c100]; done) | (simp [mact, mkn, kn2, gsI, bz, nar1, nar0, pk_un, upa_n, c5, c15, c39, c48, c59, c79, c89, c100]; done) | exact absurd c59 (by decide) | exact absurd rfl (gs_ok c59).1 | exact absurd rfl (gs_ok c59).2.1 | exact absurd rfl (gs_ok c59).2.2, rfl, by first | (simp [mact, mkn, kn2, nar1, nar0, pk_un, upa_n, c5, c15, c39, c48, c59, c79, c89, c100]; done) | (simp [mact, mkn, kn2, gsI, bz, nar1, nar0, pk_un, upa_n, c5, c15, c39, c48, c59, c79, c89, c100]; done) | exact absurd c59 (by decide) | exact absurd rfl (gs_ok c59).1 | exact absurd rfl (gs_ok c59).2.1 | exact absurd rfl (gs_ok c59).2.2⟩
          · refine j_iconst (v := 0) C d_M_act_62 (by decide) ?_
            exact j_zreturn C d_M_act_63 rfl (by decide) (by decide) (by decide) ⟨by first | (simp [mact, mkn, kn2, nar1, nar0, pk_un, upa_n, c5, c15, c39, c48, c59]; done) | (simp [mact, mkn, kn2, gsI, bz, nar1, nar0, pk_un, upa_n, c5, c15, c39, c48, c59]; done) | exact absurd c59 (by decide) | exact absurd rfl (gs_ok c59).1 | exact absurd rfl (gs_ok c59).2.1 | exact absurd rfl (gs_ok c59).2.2, rfl, by first | (simp [mact, mkn, kn2, nar1, nar0, pk_un, upa_n, c5, c15, c39, c48, c59]; done) | (simp [mact, mkn, kn2, gsI, bz, nar1, nar0, pk_un, upa_n, c5, c15, c39, c48, c59]; done) | exact absurd c59 (by decide) | exact absurd rfl (gs_ok c59).1 | exact absurd rfl (gs_ok c59).2.1 | exact absurd rfl (gs_ok c59).2.2⟩
        · refine j_iconst (v := 1) C d_M_act_51 (by decide) ?_
          refine j_goto (tgt := 56) C d_M_act_52 (by decide) ?_
          refine j_callV C d_M_act_56 ml_M_109 mc_M_goes in_M_goes rfl se_M_goes (by omega) (ovM_o _ _ _ _) (c_M_goes hl _ _ _ _ _ _ hmo) rfl rfl (Nat.le_of_ble_eq_true rfl) (Nat.le_of_ble_eq_true rfl) (Nat.le_of_ble_eq_true rfl) (Nat.le_of_ble_eq_true rfl) (jk_r ?_)
          refine j_if_ne (tgt := 64) C d_M_act_59 (by decide) (fun c59 => ?_) (fun c59 => ?_)
          · refine j_bipush (v := 20) C d_M_act_64 (by decide) ?_
            refine j_iload_n C d_M_act_66 rfl rfl ?_
            refine j_imul C d_M_act_67 ?_
            refine j_iload_n C d_M_act_68 rfl rfl ?_
            refine j_iadd C d_M_act_69 ?_
            refine j_istore C d_M_act_70 (by decide) rfl ?_
            refine j_aload_n C d_M_act_72 rfl rfl ?_
            refine jm_get C fl_6_31 d_M_act_73 hmo rfl ?_
            refine j_iload C d_M_act_76 rfl ?_
            refine jm_zald C 7 d_M_act_78 (by decide) rfl hmo (by first | exact ix_rf hnr hle (by assumption) (by assumption) | exact ix_rk hnr hle (by assumption) (by assumption) | exact ix_r hnr hle (by omega) (by omega) (by assumption) | exact absurd rfl (gs_ok c59).1 | exact absurd rfl (gs_ok c59).2.1 | exact absurd rfl (gs_ok c59).2.2) rfl ?_
            refine j_if_eq (tgt := 105) C d_M_act_79 (by decide) (fun c79 => ?_) (fun c79 => ?_)
            · refine j_aload_n C d_M_act_105 rfl rfl ?_
              refine jm_get C fl_6_31 d_M_act_106 hmo rfl ?_
              refine j_iload C d_M_act_109 rfl ?_
              refine j_iconst (v := 1) C d_M_act_111 (by decide) ?_
              refine jm_zasti C 7 10 d_M_act_112 (by decide) rfl hmo (by first | exact ix_rf hnr hle (by assumption) (by assumption) | exact ix_rk hnr hle (by assumption) (by assumption) | exact ix_r hnr hle (by omega) (by omega) (by assumption) | exact absurd rfl (gs_ok c59).1 | exact absurd rfl (gs_ok c59).2.1 | exact absurd rfl (gs_ok c59).2.2) rfl ?_
              refine j_aload_n C d_M_act_113 rfl rfl ?_
              refine jm_get C fl_6_35 d_M_act_114 hmo rfl ?_
              refine j_iload C d_M_act_117 rfl ?_
              refine j_iconst (v := 1) C d_M_act_119 (by decide) ?_
              refine jm_zasti C 8 11 d_M_act_120 (by decide) rfl hmo (by first | exact ix_rf hnr hle (by assumption) (by assumption) | exact ix_rk hnr hle (by assumption) (by assumption) | exact ix_r hnr hle (by omega) (by omega) (by assumption) | exact absurd rfl (gs_ok c59).1 | exact absurd rfl (gs_ok c59).2.1 | exact absurd rfl (gs_ok c59).2.2) rfl ?_
              refine j_aload_n C d_M_act_121 rfl rfl ?_
              refine jm_get C fl_6_41 d_M_act_122 hmo rfl ?_
              refine j_iload C d_M_act_125 rfl ?_
              refine j_iload_n C d_M_act_127 rfl rfl ?_
              refine jm_iasti C 10 13 d_M_act_128 (by decide) rfl hmo (by first | exact ix_rf hnr hle (by assumption) (by assumption) | exact ix_rk hnr hle (by assumption) (by assumption) | exact ix_r hnr hle (by omega) (by omega) (by assumption) | exact absurd rfl (gs_ok c59).1 | exact absurd rfl (gs_ok c59).2.1 | exact absurd rfl (gs_ok c59).2.2) rfl ?_
              refine j_iconst (v := 1) C d_M_act_129 (by decide) ?_
              exact j_zreturn C d_M_act_130 rfl (by decide) (by decide) (by decide) ⟨by first | (simp [mact, mkn, kn2, nar1, nar0, pk_un, upa_n, c5, c15, c39, c48, c59, c79]; done) | (simp [mact, mkn, kn2, gsI, bz, nar1, nar0, pk_un, upa_n, c5, c15, c39, c48, c59, c79]; done) | exact absurd c59 (by decide) | exact absurd rfl (gs_ok c59).1 | exact absurd rfl (gs_ok c59).2.1 | exact absurd rfl (gs_ok c59).2.2, rfl, by first | (simp [mact, mkn, kn2, nar1, nar0, pk_un, upa_n, c5, c15, c39, c48, c59, c79]; done) | (simp [mact, mkn, kn2, gsI, bz, nar1, nar0, pk_un, upa_n, c5, c15, c39, c48, c59, c79]; done) | exact absurd c59 (by decide) | exact absurd rfl (gs_ok c59).1 | exact absurd rfl (gs_ok c59).2.1 | exact absurd rfl (gs_ok c59).2.2⟩
            · refine j_aload_n C d_M_act_82 rfl rfl ?_
              refine jm_get C fl_6_35 d_M_act_83 hmo rfl ?_
              refine j_iload C d_M_act_86 rfl ?_
              refine jm_zald C 8 d_M_act_88 (by decide) rfl hmo (by first | exact ix_rf hnr hle (by assumption) (by assumption) | exact ix_rk hnr hle (by assumption) (by assumption) | exact ix_r hnr hle (by omega) (by omega) (by assumption) | exact absurd rfl (gs_ok c59).1 | exact absurd rfl (gs_ok c59).2.1 | exact absurd rfl (gs_ok c59).2.2) rfl ?_
              refine j_if_eq (tgt := 103) C d_M_act_89 (by decide) (fun c89 => ?_) (fun c89 => ?_)
              · refine j_iconst (v := 0) C d_M_act_103 (by decide) ?_
                exact j_zreturn C d_M_act_104 rfl (by decide) (by decide) (by decide) ⟨by first | (simp [mact, mkn, kn2, nar1, nar0, pk_un, upa_n, c5, c15, c39, c48, c59, c79, c89]; done) | (simp [mact, mkn, kn2, gsI, bz, nar1, nar0, pk_un, upa_n, c5, c15, c39, c48, c59, c79, c89]; done) | exact absurd c59 (by decide) | exact absurd rfl (gs_ok c59).1 | exact absurd rfl (gs_ok c59).2.1 | exact absurd rfl (gs_ok c59).2.2, rfl, by first | (simp [mact, mkn, kn2, nar1, nar0, pk_un, upa_n, c5, c15, c39, c48, c59, c79, c89]; done) | (simp [mact, mkn, kn2, gsI, bz, nar1, nar0, pk_un, upa_n, c5, c15, c39, c48, c59, c79, c89]; done) | exact absurd c59 (by decide) | exact absurd rfl (gs_ok c59).1 | exact absurd rfl (gs_ok c59).2.1 | exact absurd rfl (gs_ok c59).2.2⟩
              · refine j_aload_n C d_M_act_92 rfl rfl ?_
                refine jm_get C fl_6_41 d_M_act_93 hmo rfl ?_
                refine j_iload C d_M_act_96 rfl ?_
                refine jm_iald C 10 d_M_act_98 (by decide) rfl hmo (by first | exact ix_rf hnr hle (by assumption) (by assumption) | exact ix_rk hnr hle (by assumption) (by assumption) | exact ix_r hnr hle (by omega) (by omega) (by assumption) | exact absurd rfl (gs_ok c59).1 | exact absurd rfl (gs_ok c59).2.1 | exact absurd rfl (gs_ok c59).2.2) rfl ?_
                refine j_iload_n C d_M_act_99 rfl rfl ?_
                refine j_icmp_gt (tgt := 105) C d_M_act_100 (by decide) (fun c100 => ?_) (fun c100 => ?_)
                · refine j_aload_n C d_M_act_105 rfl rfl ?_
                  refine jm_get C fl_6_31 d_M_act_106 hmo rfl ?_
                  refine j_iload C d_M_act_109 rfl ?_
                  refine j_iconst (v := 1) C d_M_act_111 (by decide) ?_
                  refine jm_zasti C 7 10 d_M_act_112 (by decide) rfl hmo (by first | exact ix_rf hnr hle (by assumption) (by assumption) | exact ix_rk hnr hle (by assumption) (by assumption) | exact ix_r hnr hle (by omega) (by omega) (by assumption) | exact absurd rfl (gs_ok c59).1 | exact absurd rfl (gs_ok c59).2.1 | exact absurd rfl (gs_ok c59).2.2) rfl ?_
                  refine j_aload_n C d_M_act_113 rfl rfl ?_
                  refine jm_get C fl_6_35 d_M_act_114 hmo rfl ?_
                  refine j_iload C d_M_act_117 rfl ?_
                  refine j_iconst (v := 1) C d_M_act_119 (by decide) ?_
                  refine jm_zasti C 8 11 d_M_act_120 (by decide) rfl hmo (by first | exact ix_rf hnr hle (by assumption) (by assumption) | exact ix_rk hnr hle (by assumption) (by assumption) | exact ix_r hnr hle (by omega) (by omega) (by assumption) | exact absurd rfl (gs_ok c59).1 | exact absurd rfl (gs_ok c59).2.1 | exact absurd rfl (gs_ok c59).2.2) rfl ?_
                  refine j_aload_n C d_M_act_121 rfl rfl ?_
                  refine jm_get C fl_6_41 d_M_act_122 hmo rfl ?_
                  refine j_iload C d_M_act_125 rfl ?_
                  refine j_iload_n C d_M_act_127 rfl rfl ?_
                  refine jm_iasti C 10 13 d_M_act_128 (by decide) rfl hmo (by first | exact ix_rf hnr hle (by assumption) (by assumption) | exact ix_rk hnr hle (by assumption) (by assumption) | exact ix_r hnr hle (by omega) (by omega) (by assumption) | exact absurd rfl (gs_ok c59).1 | exact absurd rfl (gs_ok c59).2.1 | exact absurd rfl (gs_ok c59).2.2) rfl ?_
                  refine j_iconst (v := 1) C d_M_act_129 (by decide) ?_
                  exact j_zreturn C d_M_act_130 rfl (by decide) (by decide) (by decide) ⟨by first | (simp [mact, mkn, kn2, nar1, nar0, pk_un, upa_n, c5, c15, c39, c48, c59, c79, c89, c100]; done) | (simp [mact, mkn, kn2, gsI, bz, nar1, nar0, pk_un, upa_n, c5, c15, c39, c48, c59, c79, c89, c100]; done) | exact absurd c59 (by decide) | exact absurd rfl (gs_ok c59).1 | exact absurd rfl (gs_ok c59).2.1 | exact absurd rfl (gs_ok c59).2.2, rfl, by first | (simp [mact, mkn, kn2, nar1, nar0, pk_un, upa_n, c5, c15, c39, c48, c59, c79, c89, c100]; done) | (simp [mact, mkn, kn2, gsI, bz, nar1, nar0, pk_un, upa_n, c5, c15, c39, c48, c59, c79, c89, c100]; done) | exact absurd c59 (by decide) | exact absurd rfl (gs_ok c59).1 | exact absurd rfl (gs_ok c59).2.1 | exact absurd rfl (gs_ok c59).2.2⟩
                · refine j_iconst (v := 0) C d_M_act_103 (by decide) ?_
                  exact j_zreturn C d_M_act_104 rfl (by decide) (by decide) (by decide) ⟨by first | (simp [mact, mkn, kn2, nar1, nar0, pk_un, upa_n, c5, c15, c39, c48, c59, c79, c89, c100]; done) | (simp [mact, mkn, kn2, gsI, bz, nar1, nar0, pk_un, upa_n, c5, c15, c39, c48, c59, c79, c89, c100]; done) | exact absurd c59 (by decide) | exact absurd rfl (gs_ok c59).1 | exact absurd rfl (gs_ok c59).2.1 | exact absurd rfl (gs_ok c59).2.2, rfl, by first | (simp [mact, mkn, kn2, nar1, nar0, pk_un, upa_n, c5, c15, c39, c48, c59, c79, c89, c100]; done) | (simp [mact, mkn, kn2, gsI, bz, nar1, nar0, pk_un, upa_n, c5, c15, c39, c48, c59, c79, c89, c100]; done) | exact absurd c59 (by decide) | exact absurd rfl (gs_ok c59).1 | exact absurd rfl (gs_ok c59).2.1 | exact absurd rfl (gs_ok c59).2.2⟩
          · refine j_iconst (v := 0) C d_M_act_62 (by decide) ?_
            exact j_zreturn C d_M_act_63 rfl (by decide) (by decide) (by decide) ⟨by first | (simp [mact, mkn, kn2, nar1, nar0, pk_un, upa_n, c5, c15, c39, c48, c59]; done) | (simp [mact, mkn, kn2, gsI, bz, nar1, nar0, pk_un, upa_n, c5, c15, c39, c48, c59]; done) | exact absurd c59 (by decide) | exact absurd rfl (gs_ok c59).1 | exact absurd rfl (gs_ok c59).2.1 | exact absurd rfl (gs_ok c59).2.2, rfl, by first | (simp [mact, mkn, kn2, nar1, nar0, pk_un, upa_n, c5, c15, c39, c48, c59]; done) | (simp [mact, mkn, kn2, gsI, bz, nar1, nar0, pk_un, upa_n, c5, c15, c39, c48, c59]; done) | exact absurd c59 (by decide) | exact absurd rfl (gs_ok c59).1 | exact absurd rfl (gs_ok c59).2.1 | exact absurd rfl (gs_ok c59).2.2⟩
    · refine j_iconst (v := 1) C d_M_act_18 (by decide) ?_
      refine j_goto (tgt := 23) C d_M_act_19 (by decide) ?_
      refine j_istore C d_M_act_23 (by decide) rfl ?_
      refine j_aload_n C d_M_act_25 rfl rfl ?_
      refine j_iload C d_M_act_26 rfl ?_
      refine j_iload_n C d_M_act_28 rfl rfl ?_
      refine j_iconst (v := 0) C d_M_act_29 (by decide) ?_
      refine j_aload_n C d_M_act_30 rfl rfl ?_
      refine jm_get C fl_6_106 d_M_act_31 hmo rfl ?_
      refine j_callS C d_M_act_34 ml_M_102 mc_M_in st_M_in (c_M_in hl _ _ _ _) rfl rfl (Nat.le_of_ble_eq_true rfl) (Nat.le_of_ble_eq_true rfl) (Nat.le_of_ble_eq_true rfl) (Nat.le_of_ble_eq_true rfl) (jk_r ?_)
      refine j_iload C d_M_act_37 rfl ?_
      refine j_if_eq (tgt := 55) C d_M_act_39 (by decide) (fun c39 => ?_) (fun c39 => ?_)
      · refine j_iconst (v := 0) C d_M_act_55 (by decide) ?_
        refine j_callV C d_M_act_56 ml_M_109 mc_M_goes in_M_goes rfl se_M_goes (by omega) (ovM_o _ _ _ _) (c_M_goes hl _ _ _ _ _ _ hmo) rfl rfl (Nat.le_of_ble_eq_true rfl) (Nat.le_of_ble_eq_true rfl) (Nat.le_of_ble_eq_true rfl) (Nat.le_of_ble_eq_true rfl) (jk_r ?_)
        refine j_if_ne (tgt := 64) C d_M_act_59 (by decide) (fun c59 => ?_) (fun c59 => ?_)
        · refine j_bipush (v := 20) C d_M_act_64 (by decide) ?_
          refine j_iload_n C d_M_act_66 rfl rfl ?_
          refine j_imul C d_M_act_67 ?_
          refine j_iload_n C d_M_act_68 rfl rfl ?_
          refine j_iadd C d_M_act_69 ?_
          refine j_istore C d_M_act_70 (by decide) rfl ?_
          refine j_aload_n C d_M_act_72 rfl rfl ?_
          refine jm_get C fl_6_31 d_M_act_73 hmo rfl ?_
          refine j_iload C d_M_act_76 rfl ?_
          refine jm_zald C 7 d_M_act_78 (by decide) rfl hmo (by first | exact ix_rf hnr hle (by assumption) (by assumption) | exact ix_rk hnr hle (by assumption) (by assumption) | exact ix_r hnr hle (by omega) (by omega) (by assumption) | exact absurd rfl (gs_ok c59).1 | exact absurd rfl (gs_ok c59).2.1 | exact absurd rfl (gs_ok c59).2.2) rfl ?_
          refine j_if_eq (tgt := 105) C d_M_act_79 (by decide) (fun c79 => ?_) (fun c79 => ?_)
          · refine j_aload_n C d_M_act_105 rfl rfl ?_
            refine jm_get C fl_6_31 d_M_act_106 hmo rfl ?_
            refine j_iload C d_M_act_109 rfl ?_
            refine j_iconst (v := 1) C d_M_act_111 (by decide) ?_
            refine jm_zasti C 7 10 d_M_act_112 (by decide) rfl hmo (by first | exact ix_rf hnr hle (by assumption) (by assumption) | exact ix_rk hnr hle (by assumption) (by assumption) | exact ix_r hnr hle (by omega) (by omega) (by assumption) | exact absurd rfl (gs_ok c59).1 | exact absurd rfl (gs_ok c59).2.1 | exact absurd rfl (gs_ok c59).2.2) rfl ?_
            refine j_aload_n C d_M_act_113 rfl rfl ?_
            refine jm_get C fl_6_35 d_M_act_114 hmo rfl ?_
            refine j_iload C d_M_act_117 rfl ?_
            refine j_iconst (v := 1) C d_M_act_119 (by decide) ?_
            refine jm_zasti C 8 11 d_M_act_120 (by decide) rfl hmo (by first | exact ix_rf hnr hle (by assumption) (by assumption) | exact ix_rk hnr hle (by assumption) (by assumption) | exact ix_r hnr hle (by omega) (by omega) (by assumption) | exact absurd rfl (gs_ok c59).1 | exact absurd rfl (gs_ok c59).2.1 | exact absurd rfl (gs_ok c59).2.2) rfl ?_
            refine j_aload_n C d_M_act_121 rfl rfl ?_
            refine jm_get C fl_6_41 d_M_act_122 hmo rfl ?_
            refine j_iload C d_M_act_125 rfl ?_
            refine j_iload_n C d_M_act_127 rfl rfl ?_
            refine jm_iasti C 10 13 d_M_act_128 (by decide) rfl hmo (by first | exact ix_rf hnr hle (by assumption) (by assumption) | exact ix_rk hnr hle (by assumption) (by assumption) | exact ix_r hnr hle (by omega) (by omega) (by assumption) | exact absurd rfl (gs_ok c59).1 | exact absurd rfl (gs_ok c59).2.1 | exact absurd rfl (gs_ok c59).2.2) rfl ?_
            refine j_iconst (v := 1) C d_M_act_129 (by decide) ?_
            exact j_zreturn C d_M_act_130 rfl (by decide) (by decide) (by decide) ⟨by first | (simp [mact, mkn, kn2, nar1, nar0, pk_un, upa_n, c5, c15, c39, c59, c79]; done) | (simp [mact, mkn, kn2, gsI, bz, nar1, nar0, pk_un, upa_n, c5, c15, c39, c59, c79]; done) | exact absurd c59 (by decide) | exact absurd rfl (gs_ok c59).1 | exact absurd rfl (gs_ok c59).2.1 | exact absurd rfl (gs_ok c59).2.2, rfl, by first | (simp [mact, mkn, kn2, nar1, nar0, pk_un, upa_n, c5, c15, c39, c59, c79]; done) | (simp [mact, mkn, kn2, gsI, bz, nar1, nar0, pk_un, upa_n, c5, c15, c39, c59, c79]; done) | exact absurd c59 (by decide) | exact absurd rfl (gs_ok c59).1 | exact absurd rfl (gs_ok c59).2.1 | exact absurd rfl (gs_ok c59).2.2⟩
          · refine j_aload_n C d_M_act_82 rfl rfl ?_
            refine jm_get C fl_6_35 d_M_act_83 hmo rfl ?_
            refine j_iload C d_M_act_86 rfl ?_
            refine jm_zald C 8 d_M_act_88 (by decide) rfl hmo (by first | exact ix_rf hnr hle (by assumption) (by assumption) | exact ix_rk hnr hle (by assumption) (by assumption) | exact ix_r hnr hle (by omega) (by omega) (by assumption) | exact absurd rfl (gs_ok c59).1 | exact absurd rfl (gs_ok c59).2.1 | exact absurd rfl (gs_ok c59).2.2) rfl ?_
            refine j_if_eq (tgt := 103) C d_M_act_89 (by decide) (fun c89 => ?_) (fun c89 => ?_)
            · refine j_iconst (v := 0) C d_M_act_103 (by decide) ?_
              exact j_zreturn C d_M_act_104 rfl (by decide) (by decide) (by decide) ⟨by first | (simp [mact, mkn, kn2, nar1, nar0, pk_un, upa_n, c5, c15, c39, c59, c79, c89]; done) | (simp [mact, mkn, kn2, gsI, bz, nar1, nar0, pk_un, upa_n, c5, c15, c39, c59, c79, c89]; done) | exact absurd c59 (by decide) | exact absurd rfl (gs_ok c59).1 | exact absurd rfl (gs_ok c59).2.1 | exact absurd rfl (gs_ok c59).2.2, rfl, by first | (simp [mact, mkn, kn2, nar1, nar0, pk_un, upa_n, c5, c15, c39, c59, c79, c89]; done) | (simp [mact, mkn, kn2, gsI, bz, nar1, nar0, pk_un, upa_n, c5, c15, c39, c59, c79, c89]; done) | exact absurd c59 (by decide) | exact absurd rfl (gs_ok c59).1 | exact absurd rfl (gs_ok c59).2.1 | exact absurd rfl (gs_ok c59).2.2⟩
            · refine j_aload_n C d_M_act_92 rfl rfl ?_
              refine jm_get C fl_6_41 d_M_act_93 hmo rfl ?_
              refine j_iload C d_M_act_96 rfl ?_
              refine jm_iald C 10 d_M_act_98 (by decide) rfl hmo (by first | exact ix_rf hnr hle (by assumption) (by assumption) | exact ix_rk hnr hle (by assumption) (by assumption) | exact ix_r hnr hle (by omega) (by omega) (by assumption) | exact absurd rfl (gs_ok c59).1 | exact absurd rfl (gs_ok c59).2.1 | exact absurd rfl (gs_ok c59).2.2) rfl ?_
              refine j_iload_n C d_M_act_99 rfl rfl ?_
              refine j_icmp_gt (tgt := 105) C d_M_act_100 (by decide) (fun c100 => ?_) (fun c100 => ?_)
              · refine j_aload_n C d_M_act_105 rfl rfl ?_
                refine jm_get C fl_6_31 d_M_act_106 hmo rfl ?_
                refine j_iload C d_M_act_109 rfl ?_
                refine j_iconst (v := 1) C d_M_act_111 (by decide) ?_
                refine jm_zasti C 7 10 d_M_act_112 (by decide) rfl hmo (by first | exact ix_rf hnr hle (by assumption) (by assumption) | exact ix_rk hnr hle (by assumption) (by assumption) | exact ix_r hnr hle (by omega) (by omega) (by assumption) | exact absurd rfl (gs_ok c59).1 | exact absurd rfl (gs_ok c59).2.1 | exact absurd rfl (gs_ok c59).2.2) rfl ?_
                refine j_aload_n C d_M_act_113 rfl rfl ?_
                refine jm_get C fl_6_35 d_M_act_114 hmo rfl ?_
                refine j_iload C d_M_act_117 rfl ?_
                refine j_iconst (v := 1) C d_M_act_119 (by decide) ?_
                refine jm_zasti C 8 11 d_M_act_120 (by decide) rfl hmo (by first | exact ix_rf hnr hle (by assumption) (by assumption) | exact ix_rk hnr hle (by assumption) (by assumption) | exact ix_r hnr hle (by omega) (by omega) (by assumption) | exact absurd rfl (gs_ok c59).1 | exact absurd rfl (gs_ok c59).2.1 | exact absurd rfl (gs_ok c59).2.2) rfl ?_
                refine j_aload_n C d_M_act_121 rfl rfl ?_
                refine jm_get C fl_6_41 d_M_act_122 hmo rfl ?_
                refine j_iload C d_M_act_125 rfl ?_
                refine j_iload_n C d_M_act_127 rfl rfl ?_
                refine jm_iasti C 10 13 d_M_act_128 (by decide) rfl hmo (by first | exact ix_rf hnr hle (by assumption) (by assumption) | exact ix_rk hnr hle (by assumption) (by assumption) | exact ix_r hnr hle (by omega) (by omega) (by assumption) | exact absurd rfl (gs_ok c59).1 | exact absurd rfl (gs_ok c59).2.1 | exact absurd rfl (gs_ok c59).2.2) rfl ?_
                refine j_iconst (v := 1) C d_M_act_129 (by decide) ?_
                exact j_zreturn C d_M_act_130 rfl (by decide) (by decide) (by decide) ⟨by first | (simp [mact, mkn, kn2, nar1, nar0, pk_un, upa_n, c5, c15, c39, c59, c79, c89, c100]; done) | (simp [mact, mkn, kn2, gsI, bz, nar1, nar0, pk_un, upa_n, c5, c15, c39, c59, c79, c89, c100]; done) | exact absurd c59 (by decide) | exact absurd rfl (gs_ok c59).1 | exact absurd rfl (gs_ok c59).2.1 | exact absurd rfl (gs_ok c59).2.2, rfl, by first | (simp [mact, mkn, kn2, nar1, nar0, pk_un, upa_n, c5, c15, c39, c59, c79, c89, c100]; done) | (simp [mact, mkn, kn2, gsI, bz, nar1, nar0, pk_un, upa_n, c5, c15, c39, c59, c79, c89, c100]; done) | exact absurd c59 (by decide) | exact absurd rfl (gs_ok c59).1 | exact absurd rfl (gs_ok c59).2.1 | exact absurd rfl (gs_ok c59).2.2⟩
              · refine j_iconst (v := 0) C d_M_act_103 (by decide) ?_
                exact j_zreturn C d_M_act_104 rfl (by decide) (by decide) (by decide) ⟨by first | (simp [mact, mkn, kn2, nar1, nar0, pk_un, upa_n, c5, c15, c39, c59, c79, c89, c100]; done) | (simp [mact, mkn, kn2, gsI, bz, nar1, nar0, pk_un, upa_n, c5, c15, c39, c59, c79, c89, c100]; done) | exact absurd c59 (by decide) | exact absurd rfl (gs_ok c59).1 | exact absurd rfl (gs_ok c59).2.1 | exact absurd rfl (gs_ok c59).2.2, rfl, by first | (simp [mact, mkn, kn2, nar1, nar0, pk_un, upa_n, c5, c15, c39, c59, c79, c89, c100]; done) | (simp [mact, mkn, kn2, gsI, bz, nar1, nar0, pk_un, upa_n, c5, c15, c39, c59, c79, c89, c100]; done) | exact absurd c59 (by decide) | exact absurd rfl (gs_ok c59).1 | exact absurd rfl (gs_ok c59).2.1 | exact absurd rfl (gs_ok c59).2.2⟩
        · refine j_iconst (v := 0) C d_M_act_62 (by decide) ?_
          exact j_zreturn C d_M_act_63 rfl (by decide) (by decide) (by decide) ⟨by first | (simp [mact, mkn, kn2, nar1, nar0, pk_un, upa_n, c5, c15, c39, c59]; done) | (simp [mact, mkn, kn2, gsI, bz, nar1, nar0, pk_un, upa_n, c5, c15, c39, c59]; done) | exact absurd c59 (by decide) | exact absurd rfl (gs_ok c59).1 | exact absurd rfl (gs_ok c59).2.1 | exact absurd rfl (gs_ok c59).2.2, rfl, by first | (simp [mact, mkn, kn2, nar1, nar0, pk_un, upa_n, c5, c15, c39, c59]; done) | (simp [mact, mkn, kn2, gsI, bz, nar1, nar0, pk_un, upa_n, c5, c15, c39, c59]; done) | exact absurd c59 (by decide) | exact absurd rfl (gs_ok c59).1 | exact absurd rfl (gs_ok c59).2.1 | exact absurd rfl (gs_ok c59).2.2⟩
      · refine j_aload_n C d_M_act_42 rfl rfl ?_
        refine jm_get C fl_6_25 d_M_act_43 hmo rfl ?_
        refine j_iload_n C d_M_act_46 rfl rfl ?_
        refine jm_iald C 5 d_M_act_47 (by decide) rfl hmo (by first | exact ix_r hnr hle (by omega) (by omega) (by assumption) | exact absurd rfl c39) rfl ?_
        refine j_if_ne (tgt := 55) C d_M_act_48 (by decide) (fun c48 => ?_) (fun c48 => ?_)
        · refine j_iconst (v := 0) C d_M_act_55 (by decide) ?_
          refine j_callV C d_M_act_56 ml_M_109 mc_M_goes in_M_goes rfl se_M_goes (by omega) (ovM_o _ _ _ _) (c_M_goes hl _ _ _ _ _ _ hmo) rfl rfl (Nat.le_of_ble_eq_true rfl) (Nat.le_of_ble_eq_true rfl) (Nat.le_of_ble_eq_true rfl) (Nat.le_of_ble_eq_true rfl) (jk_r ?_)
          refine j_if_ne (tgt := 64) C d_M_act_59 (by decide) (fun c59 => ?_) (fun c59 => ?_)
          · refine j_bipush (v := 20) C d_M_act_64 (by decide) ?_
            refine j_iload_n C d_M_act_66 rfl rfl ?_
            refine j_imul C d_M_act_67 ?_
            refine j_iload_n C d_M_act_68 rfl rfl ?_
            refine j_iadd C d_M_act_69 ?_
            refine j_istore C d_M_act_70 (by decide) rfl ?_
            refine j_aload_n C d_M_act_72 rfl rfl ?_
            refine jm_get C fl_6_31 d_M_act_73 hmo rfl ?_
            refine j_iload C d_M_act_76 rfl ?_
            refine jm_zald C 7 d_M_act_78 (by decide) rfl hmo (by first | exact ix_rf hnr hle (by assumption) (by assumption) | exact ix_rk hnr hle (by assumption) (by assumption) | exact ix_r hnr hle (by omega) (by omega) (by assumption) | exact absurd rfl (gs_ok c59).1 | exact absurd rfl (gs_ok c59).2.1 | exact absurd rfl (gs_ok c59).2.2) rfl ?_
            refine j_if_eq (tgt := 105) C d_M_act_79 (by decide) (fun c79 => ?_) (fun c79 => ?_)
            · refine j_aload_n C d_M_act_105 rfl rfl ?_
              refine jm_get C fl_6_31 d_M_act_106 hmo rfl ?_
              refine j_iload C d_M_act_109 rfl ?_
              refine j_iconst (v := 1) C d_M_act_111 (by decide) ?_
              refine jm_zasti C 7 10 d_M_act_112 (by decide) rfl hmo (by first | exact ix_rf hnr hle (by assumption) (by assumption) | exact ix_rk hnr hle (by assumption) (by assumption) | exact ix_r hnr hle (by omega) (by omega) (by assumption) | exact absurd rfl (gs_ok c59).1 | exact absurd rfl (gs_ok c59).2.1 | exact absurd rfl (gs_ok c59).2.2) rfl ?_
              refine j_aload_n C d_M_act_113 rfl rfl ?_
              refine jm_get C fl_6_35 d_M_act_114 hmo rfl ?_
              refine j_iload C d_M_act_117 rfl ?_
              refine j_iconst (v := 1) C d_M_act_119 (by decide) ?_
              refine jm_zasti C 8 11 d_M_act_120 (by decide) rfl hmo (by first | exact ix_rf hnr hle (by assumption) (by assumption) | exact ix_rk hnr hle (by assumption) (by assumption) | exact ix_r hnr hle (by omega) (by omega) (by assumption) | exact absurd rfl (gs_ok c59).1 | exact absurd rfl (gs_ok c59).2.1 | exact absurd rfl (gs_ok c59).2.2) rfl ?_
              refine j_aload_n C d_M_act_121 rfl rfl ?_
              refine jm_get C fl_6_41 d_M_act_122 hmo rfl ?_
              refine j_iload C d_M_act_125 rfl ?_
              refine j_iload_n C d_M_act_127 rfl rfl ?_
              refine jm_iasti C 10 13 d_M_act_128 (by decide) rfl hmo (by first | exact ix_rf hnr hle (by assumption) (by assumption) | exact ix_rk hnr hle (by assumption) (by assumption) | exact ix_r hnr hle (by omega) (by omega) (by assumption) | exact absurd rfl (gs_ok c59).1 | exact absurd rfl (gs_ok c59).2.1 | exact absurd rfl (gs_ok c59).2.2) rfl ?_
              refine j_iconst (v := 1) C d_M_act_129 (by decide) ?_
              exact j_zreturn C d_M_act_130 rfl (by decide) (by decide) (by decide) ⟨by first | (simp [mact, mkn, kn2, nar1, nar0, pk_un, upa_n, c5, c15, c39, c48, c59, c79]; done) | (simp [mact, mkn, kn2, gsI, bz, nar1, nar0, pk_un, upa_n, c5, c15, c39, c48, c59, c79]; done) | exact absurd c59 (by decide) | exact absurd rfl (gs_ok c59).1 | exact absurd rfl (gs_ok c59).2.1 | exact absurd rfl (gs_ok c59).2.2, rfl, by first | (simp [mact, mkn, kn2, nar1, nar0, pk_un, upa_n, c5, c15, c39, c48, c59, c79]; done) | (simp [mact, mkn, kn2, gsI, bz, nar1, nar0, pk_un, upa_n, c5, c15, c39, c48, c59, c79]; done) | exact absurd c59 (by decide) | exact absurd rfl (gs_ok c59).1 | exact absurd rfl (gs_ok c59).2.1 | exact absurd rfl (gs_ok c59).2.2⟩
            · refine j_aload_n C d_M_act_82 rfl rfl ?_
              refine jm_get C fl_6_35 d_M_act_83 hmo rfl ?_
              refine j_iload C d_M_act_86 rfl ?_
              refine jm_zald C 8 d_M_act_88 (by decide) rfl hmo (by first | exact ix_rf hnr hle (by assumption) (by assumption) | exact ix_rk hnr hle (by assumption) (by assumption) | exact ix_r hnr hle (by omega) (by omega) (by assumption) | exact absurd rfl (gs_ok c59).1 | exact absurd rfl (gs_ok c59).2.1 | exact absurd rfl (gs_ok c59).2.2) rfl ?_
              refine j_if_eq (tgt := 103) C d_M_act_89 (by decide) (fun c89 => ?_) (fun c89 => ?_)
              · refine j_iconst (v := 0) C d_M_act_103 (by decide) ?_
                exact j_zreturn C d_M_act_104 rfl (by decide) (by decide) (by decide) ⟨by first | (simp [mact, mkn, kn2, nar1, nar0, pk_un, upa_n, c5, c15, c39, c48, c59, c79, c89]; done) | (simp [mact, mkn, kn2, gsI, bz, nar1, nar0, pk_un, upa_n, c5, c15, c39, c48, c59, c79, c89]; done) | exact absurd c59 (by decide) | exact absurd rfl (gs_ok c59).1 | exact absurd rfl (gs_ok c59).2.1 | exact absurd rfl (gs_ok c59).2.2, rfl, by first | (simp [mact, mkn, kn2, nar1, nar0, pk_un, upa_n, c5, c15, c39, c48, c59, c79, c89]; done) | (simp [mact, mkn, kn2, gsI, bz, nar1, nar0, pk_un, upa_n, c5, c15, c39, c48, c59, c79, c89]; done) | exact absurd c59 (by decide) | exact absurd rfl (gs_ok c59).1 | exact absurd rfl (gs_ok c59).2.1 | exact absurd rfl (gs_ok c59).2.2⟩
              · refine j_aload_n C d_M_act_92 rfl rfl ?_
                refine jm_get C fl_6_41 d_M_act_93 hmo rfl ?_
                refine j_iload C d_M_act_96 rfl ?_
                refine jm_iald C 10 d_M_act_98 (by decide) rfl hmo (by first | exact ix_rf hnr hle (by assumption) (by assumption) | exact ix_rk hnr hle (by assumption) (by assumption) | exact ix_r hnr hle (by omega) (by omega) (by assumption) | exact absurd rfl (gs_ok c59).1 | exact absurd rfl (gs_ok c59).2.1 | exact absurd rfl (gs_ok c59).2.2) rfl ?_
                refine j_iload_n C d_M_act_99 rfl rfl ?_
                refine j_icmp_gt (tgt := 105) C d_M_act_100 (by decide) (fun c100 => ?_) (fun c100 => ?_)
                · refine j_aload_n C d_M_act_105 rfl rfl ?_
                  refine jm_get C fl_6_31 d_M_act_106 hmo rfl ?_
                  refine j_iload C d_M_act_109 rfl ?_
                  refine j_iconst (v := 1) C d_M_act_111 (by decide) ?_
                  refine jm_zasti C 7 10 d_M_act_112 (by decide) rfl hmo (by first | exact ix_rf hnr hle (by assumption) (by assumption) | exact ix_rk hnr hle (by assumption) (by assumption) | exact ix_r hnr hle (by omega) (by omega) (by assumption) | exact absurd rfl (gs_ok c59).1 | exact absurd rfl (gs_ok c59).2.1 | exact absurd rfl (gs_ok c59).2.2) rfl ?_
                  refine j_aload_n C d_M_act_113 rfl rfl ?_
                  refine jm_get C fl_6_35 d_M_act_114 hmo rfl ?_
                  refine j_iload C d_M_act_117 rfl ?_
                  refine j_iconst (v := 1) C d_M_act_119 (by decide) ?_
                  refine jm_zasti C 8 11 d_M_act_120 (by decide) rfl hmo (by first | exact ix_rf hnr hle (by assumption) (by assumption) | exact ix_rk hnr hle (by assumption) (by assumption) | exact ix_r hnr hle (by omega) (by omega) (by assumption) | exact absurd rfl (gs_ok c59).1 | exact absurd rfl (gs_ok c59).2.1 | exact absurd rfl (gs_ok c59).2.2) rfl ?_
                  refine j_aload_n C d_M_act_121 rfl rfl ?_
                  refine jm_get C fl_6_41 d_M_act_122 hmo rfl ?_
                  refine j_iload C d_M_act_125 rfl ?_
                  refine j_iload_n C d_M_act_127 rfl rfl ?_
                  refine jm_iasti C 10 13 d_M_act_128 (by decide) rfl hmo (by first | exact ix_rf hnr hle (by assumption) (by assumption) | exact ix_rk hnr hle (by assumption) (by assumption) | exact ix_r hnr hle (by omega) (by omega) (by assumption) | exact absurd rfl (gs_ok c59).1 | exact absurd rfl (gs_ok c59).2.1 | exact absurd rfl (gs_ok c59).2.2) rfl ?_
                  refine j_iconst (v := 1) C d_M_act_129 (by decide) ?_
                  exact j_zreturn C d_M_act_130 rfl (by decide) (by decide) (by decide) ⟨by first | (simp [mact, mkn, kn2, nar1, nar0, pk_un, upa_n, c5, c15, c39, c48, c59, c79, c89, c100]; done) | (simp [mact, mkn, kn2, gsI, bz, nar1, nar0, pk_un, upa_n, c5, c15, c39, c48, c59, c79, c89, c100]; done) | exact absurd c59 (by decide) | exact absurd rfl (gs_ok c59).1 | exact absurd rfl (gs_ok c59).2.1 | exact absurd rfl (gs_ok c59).2.2, rfl, by first | (simp [mact, mkn, kn2, nar1, nar0, pk_un, upa_n, c5, c15, c39, c48, c59, c79, c89, c100]; done) | (simp [mact, mkn, kn2, gsI, bz, nar1, nar0, pk_un, upa_n, c5, c15, c39, c48, c59, c79, c89, c100]; done) | exact absurd c59 (by decide) | exact absurd rfl (gs_ok c59).1 | exact absurd rfl (gs_ok c59).2.1 | exact absurd rfl (gs_ok c59).2.2⟩
                · refine j_iconst (v := 0) C d_M_act_103 (by decide) ?_
                  exact j_zreturn C d_M_act_104 rfl (by decide) (by decide) (by decide) ⟨by first | (simp [mact, mkn, kn2, nar1, nar0, pk_un, upa_n, c5, c15, c39, c48, c59, c79, c89, c100]; done) | (simp [mact, mkn, kn2, gsI, bz, nar1, nar0, pk_un, upa_n, c5, c15, c39, c48, c59, c79, c89, c100]; done) | exact absurd c59 (by decide) | exact absurd rfl (gs_ok c59).1 | exact absurd rfl (gs_ok c59).2.1 | exact absurd rfl (gs_ok c59).2.2, rfl, by first | (simp [mact, mkn, kn2, nar1, nar0, pk_un, upa_n, c5, c15, c39, c48, c59, c79, c89, c100]; done) | (simp [mact, mkn, kn2, gsI, bz, nar1, nar0, pk_un, upa_n, c5, c15, c39, c48, c59, c79, c89, c100]; done) | exact absurd c59 (by decide) | exact absurd rfl (gs_ok c59).1 | exact absurd rfl (gs_ok c59).2.1 | exact absurd rfl (gs_ok c59).2.2⟩
          · refine j_iconst (v := 0) C d_M_act_62 (by decide) ?_
            exact j_zreturn C d_M_act_63 rfl (by decide) (by decide) (by decide) ⟨by first | (simp [mact, mkn, kn2, nar1, nar0, pk_un, upa_n, c5, c15, c39, c48, c59]; done) | (simp [mact, mkn, kn2, gsI, bz, nar1, nar0, pk_un, upa_n, c5, c15, c39, c48, c59]; done) | exact absurd c59 (by decide) | exact absurd rfl (gs_ok c59).1 | exact absurd rfl (gs_ok c59).2.1 | exact absurd rfl (gs_ok c59).2.2, rfl, by first | (simp [mact, mkn, kn2, nar1, nar0, pk_un, upa_n, c5, c15, c39, c48, c59]; done) | (simp [mact, mkn, kn2, gsI, bz, nar1, nar0, pk_un, upa_n, c5, c15, c39, c48, c59]; done) | exact absurd c59 (by decide) | exact absurd rfl (gs_ok c59).1 | exact absurd rfl (gs_ok c59).2.1 | exact absurd rfl (gs_ok c59).2.2⟩
        · refine j_iconst (v := 1) C d_M_act_51 (by decide) ?_
          refine j_goto (tgt := 56) C d_M_act_52 (by decide) ?_
          refine j_callV C d_M_act_56 ml_M_109 mc_M_goes in_M_goes rfl se_M_goes (by omega) (ovM_o _ _ _ _) (c_M_goes hl _ _ _ _ _ _ hmo) rfl rfl (Nat.le_of_ble_eq_true rfl) (Nat.le_of_ble_eq_true rfl) (Nat.le_of_ble_eq_true rfl) (Nat.le_of_ble_eq_true rfl) (jk_r ?_)
          refine j_if_ne (tgt := 64) C d_M_act_59 (by decide) (fun c59 => ?_) (fun c59 => ?_)
          · refine j_bipush (v := 20) C d_M_act_64 (by decide) ?_
            refine j_iload_n C d_M_act_66 rfl rfl ?_
            refine j_imul C d_M_act_67 ?_
            refine j_iload_n C d_M_act_68 rfl rfl ?_
            refine j_iadd C d_M_act_69 ?_
            refine j_istore C d_M_act_70 (by decide) rfl ?_
            refine j_aload_n C d_M_act_72 rfl rfl ?_
            refine jm_get C fl_6_31 d_M_act_73 hmo rfl ?_
            refine j_iload C d_M_act_76 rfl ?_
            refine jm_zald C 7 d_M_act_78 (by decide) rfl hmo (by first | exact ix_rf hnr hle (by assumption) (by assumption) | exact ix_rk hnr hle (by assumption) (by assumption) | exact ix_r hnr hle (by omega) (by omega) (by assumption) | exact absurd rfl (gs_ok c59).1 | exact absurd rfl (gs_ok c59).2.1 | exact absurd rfl (gs_ok c59).2.2) rfl ?_
            refine j_if_eq (tgt := 105) C d_M_act_79 (by decide) (fun c79 => ?_) (fun c79 => ?_)
            · refine j_aload_n C d_M_act_105 rfl rfl ?_
              refine jm_get C fl_6_31 d_M_act_106 hmo rfl ?_
              refine j_iload C d_M_act_109 rfl ?_
              refine j_iconst (v := 1) C d_M_act_111 (by decide) ?_
              refine jm_zasti C 7 10 d_M_act_112 (by decide) rfl hmo (by first | exact ix_rf hnr hle (by assumption) (by assumption) | exact ix_rk hnr hle (by assumption) (by assumption) | exact ix_r hnr hle (by omega) (by omega) (by assumption) | exact absurd rfl (gs_ok c59).1 | exact absurd rfl (gs_ok c59).2.1 | exact absurd rfl (gs_ok c59).2.2) rfl ?_
              refine j_aload_n C d_M_act_113 rfl rfl ?_
              refine jm_get C fl_6_35 d_M_act_114 hmo rfl ?_
              refine j_iload C d_M_act_117 rfl ?_
              refine j_iconst (v := 1) C d_M_act_119 (by decide) ?_
              refine jm_zasti C 8 11 d_M_act_120 (by decide) rfl hmo (by first | exact ix_rf hnr hle (by assumption) (by assumption) | exact ix_rk hnr hle (by assumption) (by assumption) | exact ix_r hnr hle (by omega) (by omega) (by assumption) | exact absurd rfl (gs_ok c59).1 | exact absurd rfl (gs_ok c59).2.1 | exact absurd rfl (gs_ok c59).2.2) rfl ?_
              refine j_aload_n C d_M_act_121 rfl rfl ?_
              refine jm_get C fl_6_41 d_M_act_122 hmo rfl ?_
              refine j_iload C d_M_act_125 rfl ?_
              refine j_iload_n C d_M_act_127 rfl rfl ?_
              refine jm_iasti C 10 13 d_M_act_128 (by decide) rfl hmo (by first | exact ix_rf hnr hle (by assumption) (by assumption) | exact ix_rk hnr hle (by assumption) (by assumption) | exact ix_r hnr hle (by omega) (by omega) (by assumption) | exact absurd rfl (gs_ok c59).1 | exact absurd rfl (gs_ok c59).2.1 | exact absurd rfl (gs_ok c59).2.2) rfl ?_
              refine j_iconst (v := 1) C d_M_act_129 (by decide) ?_
              exact j_zreturn C d_M_act_130 rfl (by decide) (by decide) (by decide) ⟨by first | (simp [mact, mkn, kn2, nar1, nar0, pk_un, upa_n, c5, c15, c39, c48, c59, c79]; done) | (simp [mact, mkn, kn2, gsI, bz, nar1, nar0, pk_un, upa_n, c5, c15, c39, c48, c59, c79]; done) | exact absurd c59 (by decide) | exact absurd rfl (gs_ok c59).1 | exact absurd rfl (gs_ok c59).2.1 | exact absurd rfl (gs_ok c59).2.2, rfl, by first | (simp [mact, mkn, kn2, nar1, nar0, pk_un, upa_n, c5, c15, c39, c48, c59, c79]; done) | (simp [mact, mkn, kn2, gsI, bz, nar1, nar0, pk_un, upa_n, c5, c15, c39, c48, c59, c79]; done) | exact absurd c59 (by decide) | exact absurd rfl (gs_ok c59).1 | exact absurd rfl (gs_ok c59).2.1 | exact absurd rfl (gs_ok c59).2.2⟩
            · refine j_aload_n C d_M_act_82 rfl rfl ?_
              refine jm_get C fl_6_35 d_M_act_83 hmo rfl ?_
              refine j_iload C d_M_act_86 rfl ?_
              refine jm_zald C 8 d_M_act_88 (by decide) rfl hmo (by first | exact ix_rf hnr hle (by assumption) (by assumption) | exact ix_rk hnr hle (by assumption) (by assumption) | exact ix_r hnr hle (by omega) (by omega) (by assumption) | exact absurd rfl (gs_ok c59).1 | exact absurd rfl (gs_ok c59).2.1 | exact absurd rfl (gs_ok c59).2.2) rfl ?_
              refine j_if_eq (tgt := 103) C d_M_act_89 (by decide) (fun c89 => ?_) (fun c89 => ?_)
              · refine j_iconst (v := 0) C d_M_act_103 (by decide) ?_
                exact j_zreturn C d_M_act_104 rfl (by decide) (by decide) (by decide) ⟨by first | (simp [mact, mkn, kn2, nar1, nar0, pk_un, upa_n, c5, c15, c39, c48, c59, c79, c89]; done) | (simp [mact, mkn, kn2, gsI, bz, nar1, nar0, pk_un, upa_n, c5, c15, c39, c48, c59, c79, c89]; done) | exact absurd c59 (by decide) | exact absurd rfl (gs_ok c59).1 | exact absurd rfl (gs_ok c59).2.1 | exact absurd rfl (gs_ok c59).2.2, rfl, by first | (simp [mact, mkn, kn2, nar1, nar0, pk_un, upa_n, c5, c15, c39, c48, c59, c79, c89]; done) | (simp [mact, mkn, kn2, gsI, bz, nar1, nar0, pk_un, upa_n, c5, c15, c39, c48, c59, c79, c89]; done) | exact absurd c59 (by decide) | exact absurd rfl (gs_ok c59).1 | exact absurd rfl (gs_ok c59).2.1 | exact absurd rfl (gs_ok c59).2.2⟩
              · refine j_aload_n C d_M_act_92 rfl rfl ?_
                refine jm_get C fl_6_41 d_M_act_93 hmo rfl ?_
                refine j_iload C d_M_act_96 rfl ?_
                refine jm_iald C 10 d_M_act_98 (by decide) rfl hmo (by first | exact ix_rf hnr hle (by assumption) (by assumption) | exact ix_rk hnr hle (by assumption) (by assumption) | exact ix_r hnr hle (by omega) (by omega) (by assumption) | exact absurd rfl (gs_ok c59).1 | exact absurd rfl (gs_ok c59).2.1 | exact absurd rfl (gs_ok c59).2.2) rfl ?_
                refine j_iload_n C d_M_act_99 rfl rfl ?_
                refine j_icmp_gt (tgt := 105) C d_M_act_100 (by decide) (fun c100 => ?_) (fun c100 => ?_)
                · refine j_aload_n C d_M_act_105 rfl rfl ?_
                  refine jm_get C fl_6_31 d_M_act_106 hmo rfl ?_
                  refine j_iload C d_M_act_109 rfl ?_
                  refine j_iconst (v := 1) C d_M_act_111 (by decide) ?_
                  refine jm_zasti C 7 10 d_M_act_112 (by decide) rfl hmo (by first | exact ix_rf hnr hle (by assumption) (by assumption) | exact ix_rk hnr hle (by assumption) (by assumption) | exact ix_r hnr hle (by omega) (by omega) (by assumption) | exact absurd rfl (gs_ok c59).1 | exact absurd rfl (gs_ok c59).2.1 | exact absurd rfl (gs_ok c59).2.2) rfl ?_
                  refine j_aload_n C d_M_act_113 rfl rfl ?_
                  refine jm_get C fl_6_35 d_M_act_114 hmo rfl ?_
                  refine j_iload C d_M_act_117 rfl ?_
                  refine j_iconst (v := 1) C d_M_act_119 (by decide) ?_
                  refine jm_zasti C 8 11 d_M_act_120 (by decide) rfl hmo (by first | exact ix_rf hnr hle (by assumption) (by assumption) | exact ix_rk hnr hle (by assumption) (by assumption) | exact ix_r hnr hle (by omega) (by omega) (by assumption) | exact absurd rfl (gs_ok c59).1 | exact absurd rfl (gs_ok c59).2.1 | exact absurd rfl (gs_ok c59).2.2) rfl ?_
                  refine j_aload_n C d_M_act_121 rfl rfl ?_
                  refine jm_get C fl_6_41 d_M_act_122 hmo rfl ?_
                  refine j_iload C d_M_act_125 rfl ?_
                  refine j_iload_n C d_M_act_127 rfl rfl ?_
                  refine jm_iasti C 10 13 d_M_act_128 (by decide) rfl hmo (by first | exact ix_rf hnr hle (by assumption) (by assumption) | exact ix_rk hnr hle (by assumption) (by assumption) | exact ix_r hnr hle (by omega) (by omega) (by assumption) | exact absurd rfl (gs_ok c59).1 | exact absurd rfl (gs_ok c59).2.1 | exact absurd rfl (gs_ok c59).2.2) rfl ?_
                  refine j_iconst (v := 1) C d_M_act_129 (by decide) ?_
                  exact j_zreturn C d_M_act_130 rfl (by decide) (by decide) (by decide) ⟨by first | (simp [mact, mkn, kn2, nar1, nar0, pk_un, upa_n, c5, c15, c39, c48, c59, c79, c89, c100]; done) | (simp [mact, mkn, kn2, gsI, bz, nar1, nar0, pk_un, upa_n, c5, c15, c39, c48, c59, c79, c89, c100]; done) | exact absurd c59 (by decide) | exact absurd rfl (gs_ok c59).1 | exact absurd rfl (gs_ok c59).2.1 | exact absurd rfl (gs_ok c59).2.2, rfl, by first | (simp [mact, mkn, kn2, nar1, nar0, pk_un, upa_n, c5, c15, c39, c48, c59, c79, c89, c100]; done) | (simp [mact, mkn, kn2, gsI, bz, nar1, nar0, pk_un, upa_n, c5, c15, c39, c48, c59, c79, c89, c100]; done) | exact absurd c59 (by decide) | exact absurd rfl (gs_ok c59).1 | exact absurd rfl (gs_ok c59).2.1 | exact absurd rfl (gs_ok c59).2.2⟩
                · refine j_iconst (v := 0) C d_M_act_103 (by decide) ?_
                  exact j_zreturn C d_M_act_104 rfl (by decide) (by decide) (by decide) ⟨by first | (simp [mact, mkn, kn2, nar1, nar0, pk_un, upa_n, c5, c15, c39, c48, c59, c79, c89, c100]; done) | (simp [mact, mkn, kn2, gsI, bz, nar1, nar0, pk_un, upa_n, c5, c15, c39, c48, c59, c79, c89, c100]; done) | exact absurd c59 (by decide) | exact absurd rfl (gs_ok c59).1 | exact absurd rfl (gs_ok c59).2.1 | exact absurd rfl (gs_ok c59).2.2, rfl, by first | (simp [mact, mkn, kn2, nar1, nar0, pk_un, upa_n, c5, c15, c39, c48, c59, c79, c89, c100]; done) | (simp [mact, mkn, kn2, gsI, bz, nar1, nar0, pk_un, upa_n, c5, c15, c39, c48, c59, c79, c89, c100]; done) | exact absurd c59 (by decide) | exact absurd rfl (gs_ok c59).1 | exact absurd rfl (gs_ok c59).2.1 | exact absurd rfl (gs_ok c59).2.2⟩
          · refine j_iconst (v := 0) C d_M_act_62 (by decide) ?_
            exact j_zreturn C d_M_act_63 rfl (by decide) (by decide) (by decide) ⟨by first | (simp [mact, mkn, kn2, nar1, nar0, pk_un, upa_n, c5, c15, c39, c48, c59]; done) | (simp [mact, mkn, kn2, gsI, bz, nar1, nar0, pk_un, upa_n, c5, c15, c39, c48, c59]; done) | exact absurd c59 (by decide) | exact absurd rfl (gs_ok c59).1 | exact absurd rfl (gs_ok c59).2.1 | exact absurd rfl (gs_ok c59).2.2, rfl, by first | (simp [mact, mkn, kn2, nar1, nar0, pk_un, upa_n, c5, c15, c39, c48, c59]; done) | (simp [mact, mkn, kn2, gsI, bz, nar1, nar0, pk_un, upa_n, c5, c15, c39, c48, c59]; done) | exact absurd c59 (by decide) | exact absurd rfl (gs_ok c59).1 | exact absurd rfl (gs_ok c59).2.1 | exact absurd rfl (gs_ok c59).2.2⟩

def mwrite (σ : Nat → Int32) (α : Nat → Nat → Int32) (x : Int32) : (Nat → Int32) × (Nat → Nat → Int32) := (upd σ 37 (σ 37 + 1), upa α 38 (upd (α 38) (σ 37).toNatClampNeg x))
def mwanted (σ : Nat → Int32) (α : Nat → Nat → Int32) (x y : Int32) : (Nat → Int32) × (Nat → Nat → Int32) := (upd σ 34 (σ 34 + 1), upa (upa α 35 (upd (α 35) (σ 34).toNatClampNeg x)) 36 (upd (α 36) (σ 34).toNatClampNeg y))
set_option maxHeartbeats 4000000 in
set_option maxRecDepth 100000 in
theorem c_M_write {l : Launch} (hl : l.stackTraces = false) {D : va_G} {cA : Nat → ClassId} {b n mo : Nat} (x : Int32) (σ : Nat → Int32) (α : Nat → Nat → Int32) (h : AH) (hmo : mo + 27 < n) (hin : vp_in (σ 37) 300) : Cn l D cA b y_M_write k_M_write 0 0 0 0 [.ref mo, .int x] n (ovM mo σ α h) (Re none n (ovM mo (mwrite σ α x).1 (mwrite σ α x).2 h)) := by
  refine Cn.of (cc := b_M_write) (maxL := 2) (ret := none) (hh := []) (by decide +kernel) hl (Or.inl ⟨rfl, rfl⟩) (Nat.le_of_ble_eq_true rfl) ?_
  intro p e s m args below meth c C
  refine j_aload_n C d_M_write_0 rfl rfl ?_
  refine jm_get C fl_6_93 d_M_write_1 hmo rfl ?_
  refine j_aload_n C d_M_write_4 rfl rfl ?_
  refine jm_get C fl_6_206 d_M_write_5 hmo rfl ?_
  refine j_iload_n C d_M_write_8 rfl rfl ?_
  refine jm_iasti C 26 38 d_M_write_9 (by decide) rfl hmo (by assumption) rfl ?_
  refine j_aload_n C d_M_write_10 rfl rfl ?_
  refine j_dup C d_M_write_11 rfl ?_
  refine jm_get C fl_6_206 d_M_write_12 hmo rfl ?_
  refine j_iconst (v := 1) C d_M_write_15 (by decide) ?_
  refine j_iadd C d_M_write_16 ?_
  refine jm_puti 37 C fp_6_206 d_M_write_17 hmo (by decide) (by first | rfl | assumption) rfl rfl ?_
  exact j_vreturn C d_M_write_20 rfl (by decide) (by decide) ⟨rfl, rfl, rfl⟩

set_option maxHeartbeats 4000000 in
set_option maxRecDepth 100000 in
theorem c_M_wanted {l : Launch} (hl : l.stackTraces = false) {D : va_G} {cA : Nat → ClassId} {b n mo : Nat} (x y : Int32) (σ : Nat → Int32) (α : Nat → Nat → Int32) (h : AH) (hmo : mo + 27 < n) (hin : vp_in (σ 34) 40) : Cn l D cA b y_M_wanted k_M_wanted 0 0 0 0 [.ref mo, .int x, .int y] n (ovM mo σ α h) (Re none n (ovM mo (mwanted σ α x y).1 (mwanted σ α x y).2 h)) := by
  refine Cn.of (cc := b_M_wanted) (maxL := 3) (ret := none) (hh := []) (by decide +kernel) hl (Or.inl ⟨rfl, rfl⟩) (Nat.le_of_ble_eq_true rfl) ?_
  intro p e s m args below meth c C
  refine j_aload_n C d_M_wanted_0 rfl rfl ?_
  refine jm_get C fl_6_87 d_M_wanted_1 hmo rfl ?_
  refine j_aload_n C d_M_wanted_4 rfl rfl ?_
  refine jm_get C fl_6_187 d_M_wanted_5 hmo rfl ?_
  refine j_iload_n C d_M_wanted_8 rfl rfl ?_
  refine jm_iasti C 24 35 d_M_wanted_9 (by decide) rfl hmo (by assumption) rfl ?_
  refine j_aload_n C d_M_wanted_10 rfl rfl ?_
  refine jm_get C fl_6_90 d_M_wanted_11 hmo rfl ?_
  refine j_aload_n C d_M_wanted_14 rfl rfl ?_
  refine jm_get C fl_6_187 d_M_wanted_15 hmo rfl ?_
  refine j_iload_n C d_M_wanted_18 rfl rfl ?_
  refine jm_iasti C 25 36 d_M_wanted_19 (by decide) rfl hmo (by assumption) rfl ?_
  refine j_aload_n C d_M_wanted_20 rfl rfl ?_
  refine j_dup C d_M_wanted_21 rfl ?_
  refine jm_get C fl_6_187 d_M_wanted_22 hmo rfl ?_
  refine j_iconst (v := 1) C d_M_wanted_25 (by decide) ?_
  refine j_iadd C d_M_wanted_26 ?_
  refine jm_puti 34 C fp_6_187 d_M_wanted_27 hmo (by decide) (by first | rfl | assumption) rfl rfl ?_
  exact j_vreturn C d_M_wanted_30 rfl (by decide) (by decide) ⟨rfl, rfl, rfl⟩
end
