section
-- ===== PART A: goes FIRST, ahead of the names: the tables' words, and 'selects' of the private methods out of them =====
/-- a private method of a class that the tables say can be made, by its rows of tables_1 -/
def lw_okq (q : MethodName × Nat) : Prop := (q.1.cls ≠ "java/lang/invoke/MethodHandle" ∧ q.1.cls ≠ "java/lang/invoke/VarHandle") ∧ Cond.instantiable q.1.cls q.2 ∈ tables_1 ∧ Cond.privateMethod q.1 ∈ tables_1 ∧ Cond.instanceMethod q.1 ∈ tables_1
theorem lw_p0 : lw_okq (⟨"java/lang/Throwable", "fillInStackTrace", "(I)Ljava/lang/Throwable;"⟩, 6) := ⟨⟨by decide +kernel, by decide +kernel⟩, List.mem_of_getElem? (i := 213) (by decide +kernel), List.mem_of_getElem? (i := 211) (by decide +kernel), List.mem_of_getElem? (i := 212) (by decide +kernel)⟩
theorem lw_p1 : lw_okq (⟨"ReportChecks2", "requireRoomForReport", "()V"⟩, 14) := ⟨⟨by decide +kernel, by decide +kernel⟩, List.mem_of_getElem? (i := 19) (by decide +kernel), List.mem_of_getElem? (i := 258) (by decide +kernel), List.mem_of_getElem? (i := 259) (by decide +kernel)⟩
theorem lw_p2 : lw_okq (⟨"ReportChecks2", "keep", "(LReportChecks2$Report;)I"⟩, 14) := ⟨⟨by decide +kernel, by decide +kernel⟩, List.mem_of_getElem? (i := 19) (by decide +kernel), List.mem_of_getElem? (i := 331) (by decide +kernel), List.mem_of_getElem? (i := 332) (by decide +kernel)⟩
theorem lw_p3 : lw_okq (⟨"ReportChecks2", "known", "(I)LReportChecks2$Report;"⟩, 14) := ⟨⟨by decide +kernel, by decide +kernel⟩, List.mem_of_getElem? (i := 19) (by decide +kernel), List.mem_of_getElem? (i := 357) (by decide +kernel), List.mem_of_getElem? (i := 358) (by decide +kernel)⟩
theorem lw_p4 : lw_okq (⟨"ReportChecks2$Report", "canBeTold", "(I)Z"⟩, 11) := ⟨⟨by decide +kernel, by decide +kernel⟩, List.mem_of_getElem? (i := 277) (by decide +kernel), List.mem_of_getElem? (i := 365) (by decide +kernel), List.mem_of_getElem? (i := 366) (by decide +kernel)⟩
theorem lw_p5 : lw_okq (⟨"ReportChecks2$Report", "tell", "(II)V"⟩, 11) := ⟨⟨by decide +kernel, by decide +kernel⟩, List.mem_of_getElem? (i := 277) (by decide +kernel), List.mem_of_getElem? (i := 388) (by decide +kernel), List.mem_of_getElem? (i := 389) (by decide +kernel)⟩
theorem lw_p6 : lw_okq (⟨"ReportChecks2$Report", "fillByAct", "(II)Z"⟩, 11) := ⟨⟨by decide +kernel, by decide +kernel⟩, List.mem_of_getElem? (i := 277) (by decide +kernel), List.mem_of_getElem? (i := 406) (by decide +kernel), List.mem_of_getElem? (i := 407) (by decide +kernel)⟩
theorem lw_p7 : lw_okq (⟨"ReportChecks2$RuleReader", "readInto", "(LReportChecks2$RuleBook;I)I"⟩, 3) := ⟨⟨by decide +kernel, by decide +kernel⟩, List.mem_of_getElem? (i := 29) (by decide +kernel), List.mem_of_getElem? (i := 434) (by decide +kernel), List.mem_of_getElem? (i := 435) (by decide +kernel)⟩
theorem lw_p8 : lw_okq (⟨"ReportChecks2$RuleReader", "skipBlanks", "()V"⟩, 3) := ⟨⟨by decide +kernel, by decide +kernel⟩, List.mem_of_getElem? (i := 29) (by decide +kernel), List.mem_of_getElem? (i := 441) (by decide +kernel), List.mem_of_getElem? (i := 442) (by decide +kernel)⟩
theorem lw_p9 : lw_okq (⟨"ReportChecks2$RuleBook", "startRule", "(I)V"⟩, 7) := ⟨⟨by decide +kernel, by decide +kernel⟩, List.mem_of_getElem? (i := 47) (by decide +kernel), List.mem_of_getElem? (i := 445) (by decide +kernel), List.mem_of_getElem? (i := 446) (by decide +kernel)⟩
theorem lw_p10 : lw_okq (⟨"ReportChecks2$RuleReader", "readSum", "(LReportChecks2$RuleBook;I)Z"⟩, 3) := ⟨⟨by decide +kernel, by decide +kernel⟩, List.mem_of_getElem? (i := 29) (by decide +kernel), List.mem_of_getElem? (i := 449) (by decide +kernel), List.mem_of_getElem? (i := 450) (by decide +kernel)⟩
theorem lw_p11 : lw_okq (⟨"ReportChecks2$RuleReader", "readTerm", "(LReportChecks2$RuleBook;IZ)Z"⟩, 3) := ⟨⟨by decide +kernel, by decide +kernel⟩, List.mem_of_getElem? (i := 29) (by decide +kernel), List.mem_of_getElem? (i := 453) (by decide +kernel), List.mem_of_getElem? (i := 454) (by decide +kernel)⟩
theorem lw_p12 : lw_okq (⟨"ReportChecks2$RuleReader", "readFactor", "()I"⟩, 3) := ⟨⟨by decide +kernel, by decide +kernel⟩, List.mem_of_getElem? (i := 29) (by decide +kernel), List.mem_of_getElem? (i := 457) (by decide +kernel), List.mem_of_getElem? (i := 458) (by decide +kernel)⟩
theorem lw_p13 : lw_okq (⟨"ReportChecks2$RuleReader", "passes", "(C)Z"⟩, 3) := ⟨⟨by decide +kernel, by decide +kernel⟩, List.mem_of_getElem? (i := 29) (by decide +kernel), List.mem_of_getElem? (i := 461) (by decide +kernel), List.mem_of_getElem? (i := 462) (by decide +kernel)⟩
theorem lw_p14 : lw_okq (⟨"ReportChecks2$RuleReader", "readNumber", "(I)I"⟩, 3) := ⟨⟨by decide +kernel, by decide +kernel⟩, List.mem_of_getElem? (i := 29) (by decide +kernel), List.mem_of_getElem? (i := 466) (by decide +kernel), List.mem_of_getElem? (i := 467) (by decide +kernel)⟩
theorem lw_p15 : lw_okq (⟨"ReportChecks2$RuleBook", "addTerm", "(IIIZ)V"⟩, 7) := ⟨⟨by decide +kernel, by decide +kernel⟩, List.mem_of_getElem? (i := 47) (by decide +kernel), List.mem_of_getElem? (i := 474) (by decide +kernel), List.mem_of_getElem? (i := 475) (by decide +kernel)⟩
def lw_privs_1 : List (MethodName × Nat) := [(⟨"java/lang/Throwable", "fillInStackTrace", "(I)Ljava/lang/Throwable;"⟩, 6), (⟨"ReportChecks2", "requireRoomForReport", "()V"⟩, 14), (⟨"ReportChecks2", "keep", "(LReportChecks2$Report;)I"⟩, 14), (⟨"ReportChecks2", "known", "(I)LReportChecks2$Report;"⟩, 14), (⟨"ReportChecks2$Report", "canBeTold", "(I)Z"⟩, 11), (⟨"ReportChecks2$Report", "tell", "(II)V"⟩, 11), (⟨"ReportChecks2$Report", "fillByAct", "(II)Z"⟩, 11), (⟨"ReportChecks2$RuleReader", "readInto", "(LReportChecks2$RuleBook;I)I"⟩, 3), (⟨"ReportChecks2$RuleReader", "skipBlanks", "()V"⟩, 3), (⟨"ReportChecks2$RuleBook", "startRule", "(I)V"⟩, 7), (⟨"ReportChecks2$RuleReader", "readSum", "(LReportChecks2$RuleBook;I)Z"⟩, 3), (⟨"ReportChecks2$RuleReader", "readTerm", "(LReportChecks2$RuleBook;IZ)Z"⟩, 3), (⟨"ReportChecks2$RuleReader", "readFactor", "()I"⟩, 3), (⟨"ReportChecks2$RuleReader", "passes", "(C)Z"⟩, 3), (⟨"ReportChecks2$RuleReader", "readNumber", "(I)I"⟩, 3), (⟨"ReportChecks2$RuleBook", "addTerm", "(IIIZ)V"⟩, 7)]
theorem lw_r1 : ∀ q ∈ lw_privs_1, lw_okq q := List.forall_mem_cons.mpr ⟨lw_p0, List.forall_mem_cons.mpr ⟨lw_p1, List.forall_mem_cons.mpr ⟨lw_p2, List.forall_mem_cons.mpr ⟨lw_p3, List.forall_mem_cons.mpr ⟨lw_p4, List.forall_mem_cons.mpr ⟨lw_p5, List.forall_mem_cons.mpr ⟨lw_p6, List.forall_mem_cons.mpr ⟨lw_p7, List.forall_mem_cons.mpr ⟨lw_p8, List.forall_mem_cons.mpr ⟨lw_p9, List.forall_mem_cons.mpr ⟨lw_p10, List.forall_mem_cons.mpr ⟨lw_p11, List.forall_mem_cons.mpr ⟨lw_p12, List.forall_mem_cons.mpr ⟨lw_p13, List.forall_mem_cons.mpr ⟨lw_p14, List.forall_mem_cons.mpr ⟨lw_p15, fun _ h => absurd h List.not_mem_nil⟩⟩⟩⟩⟩⟩⟩⟩⟩⟩⟩⟩⟩⟩⟩⟩
theorem lw_p16 : lw_okq (⟨"ReportChecks2$RuleBook", "noteField", "(II)V"⟩, 7) := ⟨⟨by decide +kernel, by decide +kernel⟩, List.mem_of_getElem? (i := 47) (by decide +kernel), List.mem_of_getElem? (i := 478) (by decide +kernel), List.mem_of_getElem? (i := 479) (by decide +kernel)⟩
theorem lw_p17 : lw_okq (⟨"ReportChecks2$RuleReader", "readComparison", "(LReportChecks2$RuleBook;I)Z"⟩, 3) := ⟨⟨by decide +kernel, by decide +kernel⟩, List.mem_of_getElem? (i := 29) (by decide +kernel), List.mem_of_getElem? (i := 483) (by decide +kernel), List.mem_of_getElem? (i := 484) (by decide +kernel)⟩
theorem lw_p18 : lw_okq (⟨"ReportChecks2", "findWanting", "(LReportChecks2$Report;LReportChecks2$Findings;)V"⟩, 14) := ⟨⟨by decide +kernel, by decide +kernel⟩, List.mem_of_getElem? (i := 19) (by decide +kernel), List.mem_of_getElem? (i := 495) (by decide +kernel), List.mem_of_getElem? (i := 496) (by decide +kernel)⟩
theorem lw_p19 : lw_okq (⟨"ReportChecks2$Findings", "add", "(II)V"⟩, 3) := ⟨⟨by decide +kernel, by decide +kernel⟩, List.mem_of_getElem? (i := 80) (by decide +kernel), List.mem_of_getElem? (i := 500) (by decide +kernel), List.mem_of_getElem? (i := 501) (by decide +kernel)⟩
theorem lw_p20 : lw_okq (⟨"ReportChecks2$RuleBook", "faultOf", "(ILReportChecks2$Report;)I"⟩, 7) := ⟨⟨by decide +kernel, by decide +kernel⟩, List.mem_of_getElem? (i := 47) (by decide +kernel), List.mem_of_getElem? (i := 504) (by decide +kernel), List.mem_of_getElem? (i := 505) (by decide +kernel)⟩
theorem lw_p21 : lw_okq (⟨"ReportChecks2$RuleBook", "sumOf", "(I[I)I"⟩, 7) := ⟨⟨by decide +kernel, by decide +kernel⟩, List.mem_of_getElem? (i := 47) (by decide +kernel), List.mem_of_getElem? (i := 508) (by decide +kernel), List.mem_of_getElem? (i := 509) (by decide +kernel)⟩
theorem lw_p22 : lw_okq (⟨"ReportChecks2$Report", "isReadyFor", "(I)Z"⟩, 11) := ⟨⟨by decide +kernel, by decide +kernel⟩, List.mem_of_getElem? (i := 277) (by decide +kernel), List.mem_of_getElem? (i := 539) (by decide +kernel), List.mem_of_getElem? (i := 540) (by decide +kernel)⟩
theorem lw_p23 : lw_okq (⟨"ReportChecks2$Report", "isClosed", "()Z"⟩, 11) := ⟨⟨by decide +kernel, by decide +kernel⟩, List.mem_of_getElem? (i := 277) (by decide +kernel), List.mem_of_getElem? (i := 543) (by decide +kernel), List.mem_of_getElem? (i := 544) (by decide +kernel)⟩
theorem lw_p24 : lw_okq (⟨"ReportChecks2$Report", "hasSigner", "(I)Z"⟩, 11) := ⟨⟨by decide +kernel, by decide +kernel⟩, List.mem_of_getElem? (i := 277) (by decide +kernel), List.mem_of_getElem? (i := 547) (by decide +kernel), List.mem_of_getElem? (i := 548) (by decide +kernel)⟩
theorem lw_p25 : lw_okq (⟨"ReportChecks2$Report", "addSignature", "(I)V"⟩, 11) := ⟨⟨by decide +kernel, by decide +kernel⟩, List.mem_of_getElem? (i := 277) (by decide +kernel), List.mem_of_getElem? (i := 552) (by decide +kernel), List.mem_of_getElem? (i := 553) (by decide +kernel)⟩
theorem lw_p26 : lw_okq (⟨"ReportChecks2$Report", "copyValues", "(LReportChecks2$Report;)V"⟩, 11) := ⟨⟨by decide +kernel, by decide +kernel⟩, List.mem_of_getElem? (i := 277) (by decide +kernel), List.mem_of_getElem? (i := 568) (by decide +kernel), List.mem_of_getElem? (i := 569) (by decide +kernel)⟩
theorem lw_p27 : lw_okq (⟨"ReportChecks2$CodeText", "write", "(LReportChecks2$Report;I)V"⟩, 2) := ⟨⟨by decide +kernel, by decide +kernel⟩, List.mem_of_getElem? (i := 99) (by decide +kernel), List.mem_of_getElem? (i := 597) (by decide +kernel), List.mem_of_getElem? (i := 598) (by decide +kernel)⟩
theorem lw_p28 : lw_okq (⟨"ReportChecks2$CodeText", "addByte", "(I)V"⟩, 2) := ⟨⟨by decide +kernel, by decide +kernel⟩, List.mem_of_getElem? (i := 99) (by decide +kernel), List.mem_of_getElem? (i := 601) (by decide +kernel), List.mem_of_getElem? (i := 602) (by decide +kernel)⟩
theorem lw_p29 : lw_okq (⟨"ReportChecks2$CodeText", "addNumber", "(I)V"⟩, 2) := ⟨⟨by decide +kernel, by decide +kernel⟩, List.mem_of_getElem? (i := 99) (by decide +kernel), List.mem_of_getElem? (i := 605) (by decide +kernel), List.mem_of_getElem? (i := 606) (by decide +kernel)⟩
theorem lw_p30 : lw_okq (⟨"ReportChecks2$CodeText", "addField", "(IIZ)V"⟩, 2) := ⟨⟨by decide +kernel, by decide +kernel⟩, List.mem_of_getElem? (i := 99) (by decide +kernel), List.mem_of_getElem? (i := 613) (by decide +kernel), List.mem_of_getElem? (i := 614) (by decide +kernel)⟩
theorem lw_p31 : lw_okq (⟨"ReportChecks2$Report", "isLate", "(II)Z"⟩, 11) := ⟨⟨by decide +kernel, by decide +kernel⟩, List.mem_of_getElem? (i := 277) (by decide +kernel), List.mem_of_getElem? (i := 633) (by decide +kernel), List.mem_of_getElem? (i := 634) (by decide +kernel)⟩
def lw_privs_2 : List (MethodName × Nat) := [(⟨"ReportChecks2$RuleBook", "noteField", "(II)V"⟩, 7), (⟨"ReportChecks2$RuleReader", "readComparison", "(LReportChecks2$RuleBook;I)Z"⟩, 3), (⟨"ReportChecks2", "findWanting", "(LReportChecks2$Report;LReportChecks2$Findings;)V"⟩, 14), (⟨"ReportChecks2$Findings", "add", "(II)V"⟩, 3), (⟨"ReportChecks2$RuleBook", "faultOf", "(ILReportChecks2$Report;)I"⟩, 7), (⟨"ReportChecks2$RuleBook", "sumOf", "(I[I)I"⟩, 7), (⟨"ReportChecks2$Report", "isReadyFor", "(I)Z"⟩, 11), (⟨"ReportChecks2$Report", "isClosed", "()Z"⟩, 11), (⟨"ReportChecks2$Report", "hasSigner", "(I)Z"⟩, 11), (⟨"ReportChecks2$Report", "addSignature", "(I)V"⟩, 11), (⟨"ReportChecks2$Report", "copyValues", "(LReportChecks2$Report;)V"⟩, 11), (⟨"ReportChecks2$CodeText", "write", "(LReportChecks2$Report;I)V"⟩, 2), (⟨"ReportChecks2$CodeText", "addByte", "(I)V"⟩, 2), (⟨"ReportChecks2$CodeText", "addNumber", "(I)V"⟩, 2), (⟨"ReportChecks2$CodeText", "addField", "(IIZ)V"⟩, 2), (⟨"ReportChecks2$Report", "isLate", "(II)Z"⟩, 11)]
theorem lw_r2 : ∀ q ∈ lw_privs_2, lw_okq q := List.forall_mem_cons.mpr ⟨lw_p16, List.forall_mem_cons.mpr ⟨lw_p17, List.forall_mem_cons.mpr ⟨lw_p18, List.forall_mem_cons.mpr ⟨lw_p19, List.forall_mem_cons.mpr ⟨lw_p20, List.forall_mem_cons.mpr ⟨lw_p21, List.forall_mem_cons.mpr ⟨lw_p22, List.forall_mem_cons.mpr ⟨lw_p23, List.forall_mem_cons.mpr ⟨lw_p24, List.forall_mem_cons.mpr ⟨lw_p25, List.forall_mem_cons.mpr ⟨lw_p26, List.forall_mem_cons.mpr ⟨lw_p27, List.forall_mem_cons.mpr ⟨lw_p28, List.forall_mem_cons.mpr ⟨lw_p29, List.forall_mem_cons.mpr ⟨lw_p30, List.forall_mem_cons.mpr ⟨lw_p31, fun _ h => absurd h List.not_mem_nil⟩⟩⟩⟩⟩⟩⟩⟩⟩⟩⟩⟩⟩⟩⟩⟩
theorem lw_p32 : lw_okq (⟨"ReportChecks2$Report", "isSettled", "()Z"⟩, 11) := ⟨⟨by decide +kernel, by decide +kernel⟩, List.mem_of_getElem? (i := 277) (by decide +kernel), List.mem_of_getElem? (i := 645) (by decide +kernel), List.mem_of_getElem? (i := 646) (by decide +kernel)⟩
theorem lw_p33 : lw_okq (⟨"ReportChecks2$Report", "isBetween", "(III)Z"⟩, 11) := ⟨⟨by decide +kernel, by decide +kernel⟩, List.mem_of_getElem? (i := 277) (by decide +kernel), List.mem_of_getElem? (i := 649) (by decide +kernel), List.mem_of_getElem? (i := 650) (by decide +kernel)⟩
theorem lw_p34 : lw_okq (⟨"ReportChecks2$Report", "lastSigner", "()I"⟩, 11) := ⟨⟨by decide +kernel, by decide +kernel⟩, List.mem_of_getElem? (i := 277) (by decide +kernel), List.mem_of_getElem? (i := 660) (by decide +kernel), List.mem_of_getElem? (i := 661) (by decide +kernel)⟩
theorem lw_p35 : lw_okq (⟨"ReportChecks2Model", "goes", "(ZZZ)Z"⟩, 39) := ⟨⟨by decide +kernel, by decide +kernel⟩, List.mem_of_getElem? (i := 686) (by decide +kernel), List.mem_of_getElem? (i := 821) (by decide +kernel), List.mem_of_getElem? (i := 822) (by decide +kernel)⟩
theorem lw_p36 : lw_okq (⟨"ReportChecks2Model", "makes", "(III)I"⟩, 39) := ⟨⟨by decide +kernel, by decide +kernel⟩, List.mem_of_getElem? (i := 686) (by decide +kernel), List.mem_of_getElem? (i := 825) (by decide +kernel), List.mem_of_getElem? (i := 826) (by decide +kernel)⟩
theorem lw_p37 : lw_okq (⟨"ReportChecks2Model", "isReport", "(I)Z"⟩, 39) := ⟨⟨by decide +kernel, by decide +kernel⟩, List.mem_of_getElem? (i := 686) (by decide +kernel), List.mem_of_getElem? (i := 840) (by decide +kernel), List.mem_of_getElem? (i := 841) (by decide +kernel)⟩
theorem lw_p38 : lw_okq (⟨"ReportChecks2Model", "see", "()I"⟩, 39) := ⟨⟨by decide +kernel, by decide +kernel⟩, List.mem_of_getElem? (i := 686) (by decide +kernel), List.mem_of_getElem? (i := 862) (by decide +kernel), List.mem_of_getElem? (i := 863) (by decide +kernel)⟩
theorem lw_p39 : lw_okq (⟨"ReportChecks2Model", "here", "()I"⟩, 39) := ⟨⟨by decide +kernel, by decide +kernel⟩, List.mem_of_getElem? (i := 686) (by decide +kernel), List.mem_of_getElem? (i := 866) (by decide +kernel), List.mem_of_getElem? (i := 867) (by decide +kernel)⟩
theorem lw_p40 : lw_okq (⟨"ReportChecks2Model", "rule", "()V"⟩, 39) := ⟨⟨by decide +kernel, by decide +kernel⟩, List.mem_of_getElem? (i := 686) (by decide +kernel), List.mem_of_getElem? (i := 870) (by decide +kernel), List.mem_of_getElem? (i := 871) (by decide +kernel)⟩
theorem lw_p41 : lw_okq (⟨"ReportChecks2Model", "fail", "(I)V"⟩, 39) := ⟨⟨by decide +kernel, by decide +kernel⟩, List.mem_of_getElem? (i := 686) (by decide +kernel), List.mem_of_getElem? (i := 874) (by decide +kernel), List.mem_of_getElem? (i := 875) (by decide +kernel)⟩
theorem lw_p42 : lw_okq (⟨"ReportChecks2Model", "sum", "(I)V"⟩, 39) := ⟨⟨by decide +kernel, by decide +kernel⟩, List.mem_of_getElem? (i := 686) (by decide +kernel), List.mem_of_getElem? (i := 878) (by decide +kernel), List.mem_of_getElem? (i := 879) (by decide +kernel)⟩
theorem lw_p43 : lw_okq (⟨"ReportChecks2Model", "factor", "()I"⟩, 39) := ⟨⟨by decide +kernel, by decide +kernel⟩, List.mem_of_getElem? (i := 686) (by decide +kernel), List.mem_of_getElem? (i := 882) (by decide +kernel), List.mem_of_getElem? (i := 883) (by decide +kernel)⟩
theorem lw_p44 : lw_okq (⟨"ReportChecks2Model", "number", "(I)I"⟩, 39) := ⟨⟨by decide +kernel, by decide +kernel⟩, List.mem_of_getElem? (i := 686) (by decide +kernel), List.mem_of_getElem? (i := 886) (by decide +kernel), List.mem_of_getElem? (i := 887) (by decide +kernel)⟩
theorem lw_p45 : lw_okq (⟨"ReportChecks2Model", "isDigit", "()Z"⟩, 39) := ⟨⟨by decide +kernel, by decide +kernel⟩, List.mem_of_getElem? (i := 686) (by decide +kernel), List.mem_of_getElem? (i := 890) (by decide +kernel), List.mem_of_getElem? (i := 891) (by decide +kernel)⟩
theorem lw_p46 : lw_okq (⟨"ReportChecks2Model", "wanted", "(II)V"⟩, 39) := ⟨⟨by decide +kernel, by decide +kernel⟩, List.mem_of_getElem? (i := 686) (by decide +kernel), List.mem_of_getElem? (i := 902) (by decide +kernel), List.mem_of_getElem? (i := 903) (by decide +kernel)⟩
theorem lw_p47 : lw_okq (⟨"ReportChecks2Model", "verdict", "(II)I"⟩, 39) := ⟨⟨by decide +kernel, by decide +kernel⟩, List.mem_of_getElem? (i := 686) (by decide +kernel), List.mem_of_getElem? (i := 906) (by decide +kernel), List.mem_of_getElem? (i := 907) (by decide +kernel)⟩
def lw_privs_3 : List (MethodName × Nat) := [(⟨"ReportChecks2$Report", "isSettled", "()Z"⟩, 11), (⟨"ReportChecks2$Report", "isBetween", "(III)Z"⟩, 11), (⟨"ReportChecks2$Report", "lastSigner", "()I"⟩, 11), (⟨"ReportChecks2Model", "goes", "(ZZZ)Z"⟩, 39), (⟨"ReportChecks2Model", "makes", "(III)I"⟩, 39), (⟨"ReportChecks2Model", "isReport", "(I)Z"⟩, 39), (⟨"ReportChecks2Model", "see", "()I"⟩, 39), (⟨"ReportChecks2Model", "here", "()I"⟩, 39), (⟨"ReportChecks2Model", "rule", "()V"⟩, 39), (⟨"ReportChecks2Model", "fail", "(I)V"⟩, 39), (⟨"ReportChecks2Model", "sum", "(I)V"⟩, 39), (⟨"ReportChecks2Model", "factor", "()I"⟩, 39), (⟨"ReportChecks2Model", "number", "(I)I"⟩, 39), (⟨"ReportChecks2Model", "isDigit", "()Z"⟩, 39), (⟨"ReportChecks2Model", "wanted", "(II)V"⟩, 39), (⟨"ReportChecks2Model", "verdict", "(II)I"⟩, 39)]
theorem lw_r3 : ∀ q ∈ lw_privs_3, lw_okq q := List.forall_mem_cons.mpr ⟨lw_p32, List.forall_mem_cons.mpr ⟨lw_p33, List.forall_mem_cons.mpr ⟨lw_p34, List.forall_mem_cons.mpr ⟨lw_p35, List.forall_mem_cons.mpr ⟨lw_p36, List.forall_mem_cons.mpr ⟨lw_p37, List.forall_mem_cons.mpr ⟨lw_p38, List.forall_mem_cons.mpr ⟨lw_p39, List.forall_mem_cons.mpr ⟨lw_p40, List.forall_mem_cons.mpr ⟨lw_p41, List.forall_mem_cons.mpr ⟨lw_p42, List.forall_mem_cons.mpr ⟨lw_p43, List.forall_mem_cons.mpr ⟨lw_p44, List.forall_mem_cons.mpr ⟨lw_p45, List.forall_mem_cons.mpr ⟨lw_p46, List.forall_mem_cons.mpr ⟨lw_p47, fun _ h => absurd h List.not_mem_nil⟩⟩⟩⟩⟩⟩⟩⟩⟩⟩⟩⟩⟩⟩⟩⟩
theorem lw_p48 : lw_okq (⟨"ReportChecks2Model", "isAsked", "(II)Z"⟩, 39) := ⟨⟨by decide +kernel, by decide +kernel⟩, List.mem_of_getElem? (i := 686) (by decide +kernel), List.mem_of_getElem? (i := 910) (by decide +kernel), List.mem_of_getElem? (i := 911) (by decide +kernel)⟩
theorem lw_p49 : lw_okq (⟨"ReportChecks2Model", "has", "(II)Z"⟩, 39) := ⟨⟨by decide +kernel, by decide +kernel⟩, List.mem_of_getElem? (i := 686) (by decide +kernel), List.mem_of_getElem? (i := 914) (by decide +kernel), List.mem_of_getElem? (i := 915) (by decide +kernel)⟩
theorem lw_p50 : lw_okq (⟨"ReportChecks2Model", "reckon", "(II)I"⟩, 39) := ⟨⟨by decide +kernel, by decide +kernel⟩, List.mem_of_getElem? (i := 686) (by decide +kernel), List.mem_of_getElem? (i := 918) (by decide +kernel), List.mem_of_getElem? (i := 919) (by decide +kernel)⟩
theorem lw_p51 : lw_okq (⟨"ReportChecks2Model", "of", "(II)I"⟩, 39) := ⟨⟨by decide +kernel, by decide +kernel⟩, List.mem_of_getElem? (i := 686) (by decide +kernel), List.mem_of_getElem? (i := 922) (by decide +kernel), List.mem_of_getElem? (i := 923) (by decide +kernel)⟩
theorem lw_p52 : lw_okq (⟨"ReportChecks2Model", "canSign", "(II)Z"⟩, 39) := ⟨⟨by decide +kernel, by decide +kernel⟩, List.mem_of_getElem? (i := 686) (by decide +kernel), List.mem_of_getElem? (i := 937) (by decide +kernel), List.mem_of_getElem? (i := 938) (by decide +kernel)⟩
theorem lw_p53 : lw_okq (⟨"ReportChecks2Model", "opened", "(I)I"⟩, 39) := ⟨⟨by decide +kernel, by decide +kernel⟩, List.mem_of_getElem? (i := 686) (by decide +kernel), List.mem_of_getElem? (i := 941) (by decide +kernel), List.mem_of_getElem? (i := 942) (by decide +kernel)⟩
theorem lw_p54 : lw_okq (⟨"ReportChecks2Model", "write", "(I)V"⟩, 39) := ⟨⟨by decide +kernel, by decide +kernel⟩, List.mem_of_getElem? (i := 686) (by decide +kernel), List.mem_of_getElem? (i := 961) (by decide +kernel), List.mem_of_getElem? (i := 962) (by decide +kernel)⟩
theorem lw_p55 : lw_okq (⟨"ReportChecks2Model", "number0", "(I)V"⟩, 39) := ⟨⟨by decide +kernel, by decide +kernel⟩, List.mem_of_getElem? (i := 686) (by decide +kernel), List.mem_of_getElem? (i := 965) (by decide +kernel), List.mem_of_getElem? (i := 966) (by decide +kernel)⟩
def lw_privs_4 : List (MethodName × Nat) := [(⟨"ReportChecks2Model", "isAsked", "(II)Z"⟩, 39), (⟨"ReportChecks2Model", "has", "(II)Z"⟩, 39), (⟨"ReportChecks2Model", "reckon", "(II)I"⟩, 39), (⟨"ReportChecks2Model", "of", "(II)I"⟩, 39), (⟨"ReportChecks2Model", "canSign", "(II)Z"⟩, 39), (⟨"ReportChecks2Model", "opened", "(I)I"⟩, 39), (⟨"ReportChecks2Model", "write", "(I)V"⟩, 39), (⟨"ReportChecks2Model", "number0", "(I)V"⟩, 39)]
theorem lw_r4 : ∀ q ∈ lw_privs_4, lw_okq q := List.forall_mem_cons.mpr ⟨lw_p48, List.forall_mem_cons.mpr ⟨lw_p49, List.forall_mem_cons.mpr ⟨lw_p50, List.forall_mem_cons.mpr ⟨lw_p51, List.forall_mem_cons.mpr ⟨lw_p52, List.forall_mem_cons.mpr ⟨lw_p53, List.forall_mem_cons.mpr ⟨lw_p54, List.forall_mem_cons.mpr ⟨lw_p55, fun _ h => absurd h List.not_mem_nil⟩⟩⟩⟩⟩⟩⟩⟩
def lw_privs : List (MethodName × Nat) := lw_privs_1 ++ (lw_privs_2 ++ (lw_privs_3 ++ (lw_privs_4)))
def lw_tbl : List Cond := k2_sels lw_privs ++ tables_1
theorem lw_privs_ok : ∀ q ∈ lw_privs, lw_okq q := by
  show ∀ q ∈ lw_privs_1 ++ (lw_privs_2 ++ (lw_privs_3 ++ (lw_privs_4))), lw_okq q
  exact List.forall_mem_append.mpr ⟨lw_r1, List.forall_mem_append.mpr ⟨lw_r2, List.forall_mem_append.mpr ⟨lw_r3, lw_r4⟩⟩⟩
-- ===== end of PART A; then your names; then what follows =====
end
section
/-! ===== the words that every method of this claim may use, and that stay under warmer tables ===== -/
def g_ok (w : Cond) : Bool := match w with
  | .arrayClass _ => true
  | .arrayOver (.object _) => true
  | .fieldLinkNest .. => true
  | .methodLinkNest .. => true
  | v => v.onTables && v.keepsFace
theorem g_warm {s U : State} {w : Cond} (hg : g_ok w = true) (hW : s.WarmedH U.vm) (h : w.before #[] s = true) : w.before #[] U = true := by
  by_cases h1 : (w.onTables && w.keepsFace) = true
  · simp only [Bool.and_eq_true] at h1
    have h2 : w.before #[] (s.setVm U.vm) = true := Cond.before_shiftedFace (State.Shifted.of_warmed hW) w h1.2 h
    exact va_tabs (u := s.setVm U.vm) (U := U) h1.1 rfl h2
  · unfold g_ok at hg
    split at hg
    · exact word_at hW (Or.inr ⟨_, rfl⟩) h
    · exact (va_AO.moved hW.alike (va_AO.of h) : va_AO _ U)
    · exact va_Nw.warmF hW h
    · exact va_Nw.warmM hW h
    · exact absurd hg h1
def g_ws : List Cond := lw_tbl.filter g_ok
theorem g_in {w : Cond} (h : w ∈ lw_tbl) (hg : g_ok w = true) : w ∈ g_ws := List.mem_filter.mpr ⟨h, hg⟩
theorem g_okw {w : Cond} (h : w ∈ g_ws) : g_ok w = true := (List.mem_filter.mp h).2
end
section
/-! ===== classes by number, their fields, array types: printed by program ===== -/
def cR0 : String := "ReportChecks2"
def cT0 : u_T := fun k => match k with
  | 0 => ("ReportChecks2", "reports", "[LReportChecks2$Report;", true)
  | 1 => ("ReportChecks2", "reportCount", "I", false)
  | 2 => ("ReportChecks2", "askedByKind", "[I", true)
  | 3 => ("ReportChecks2", "hiddenFromPerson", "[I", true)
  | 4 => ("ReportChecks2", "minute", "I", false)
  | 5 => ("ReportChecks2", "tape", "[B", true)
  | 6 => ("ReportChecks2", "tapeLength", "I", false)
  | 7 => ("ReportChecks2", "reader", "LReportChecks2$RuleReader;", true)
  | 8 => ("ReportChecks2", "book", "LReportChecks2$RuleBook;", false)
  | 9 => ("ReportChecks2", "spareBook", "LReportChecks2$RuleBook;", false)
  | 10 => ("ReportChecks2", "wrongPlace", "I", false)
  | 11 => ("ReportChecks2", "latestCheck", "LReportChecks2$Findings;", true)
  | 12 => ("ReportChecks2", "signingCheck", "LReportChecks2$Findings;", true)
  | _ => ("ReportChecks2", "latestCode", "LReportChecks2$CodeText;", true)
def ct0 : Nat → FieldType := fun k => match k with
  | 0 => (.array (.object "ReportChecks2$Report"))
  | 1 => .int
  | 2 => (.array .int)
  | 3 => (.array .int)
  | 4 => .int
  | 5 => (.array .byte)
  | 6 => .int
  | 7 => (.object "ReportChecks2$RuleReader")
  | 8 => (.object "ReportChecks2$RuleBook")
  | 9 => (.object "ReportChecks2$RuleBook")
  | 10 => .int
  | 11 => (.object "ReportChecks2$Findings")
  | 12 => (.object "ReportChecks2$Findings")
  | _ => (.object "ReportChecks2$CodeText")
def cR1 : String := "ReportChecks2$RuleReader"
def cT1 : u_T := fun k => match k with
  | 0 => ("ReportChecks2$RuleReader", "text", "[B", true)
  | 1 => ("ReportChecks2$RuleReader", "length", "I", false)
  | _ => ("ReportChecks2$RuleReader", "position", "I", false)
def ct1 : Nat → FieldType := fun k => match k with
  | 0 => (.array .byte)
  | 1 => .int
  | _ => .int
def cR2 : String := "ReportChecks2$RuleBook"
def cT2 : u_T := fun k => match k with
  | 0 => ("ReportChecks2$RuleBook", "size", "I", false)
  | 1 => ("ReportChecks2$RuleBook", "comparisons", "[C", true)
  | 2 => ("ReportChecks2$RuleBook", "fieldsTold", "[I", true)
  | 3 => ("ReportChecks2$RuleBook", "termCounts", "[I", true)
  | 4 => ("ReportChecks2$RuleBook", "dividends", "[I", true)
  | 5 => ("ReportChecks2$RuleBook", "divisors", "[I", true)
  | _ => ("ReportChecks2$RuleBook", "subtracted", "[Z", true)
def ct2 : Nat → FieldType := fun k => match k with
  | 0 => .int
  | 1 => (.array .char)
  | 2 => (.array .int)
  | 3 => (.array .int)
  | 4 => (.array .int)
  | 5 => (.array .int)
  | _ => (.array .boolean)
def cR3 : String := "ReportChecks2$Findings"
def cT3 : u_T := fun k => match k with
  | 0 => ("ReportChecks2$Findings", "sorts", "[I", true)
  | 1 => ("ReportChecks2$Findings", "numbers", "[I", true)
  | _ => ("ReportChecks2$Findings", "size", "I", false)
def ct3 : Nat → FieldType := fun k => match k with
  | 0 => (.array .int)
  | 1 => (.array .int)
  | _ => .int
def cR4 : String := "ReportChecks2$CodeText"
def cT4 : u_T := fun k => match k with
  | 0 => ("ReportChecks2$CodeText", "bytes", "[B", true)
  | _ => ("ReportChecks2$CodeText", "length", "I", false)
def ct4 : Nat → FieldType := fun k => match k with
  | 0 => (.array .byte)
  | _ => .int
def cR5 : String := "ReportChecks2$Report"
def cT5 : u_T := fun k => match k with
  | 0 => ("ReportChecks2$Report", "incident", "I", true)
  | 1 => ("ReportChecks2$Report", "kind", "I", true)
  | 2 => ("ReportChecks2$Report", "madeAt", "I", true)
  | 3 => ("ReportChecks2$Report", "former", "I", true)
  | 4 => ("ReportChecks2$Report", "values", "[I", true)
  | 5 => ("ReportChecks2$Report", "filledFields", "I", false)
  | 6 => ("ReportChecks2$Report", "fieldsByActs", "I", false)
  | 7 => ("ReportChecks2$Report", "openFields", "I", false)
  | 8 => ("ReportChecks2$Report", "personsInside", "I", false)
  | 9 => ("ReportChecks2$Report", "signers", "[I", true)
  | _ => ("ReportChecks2$Report", "signatures", "I", false)
def ct5 : Nat → FieldType := fun k => match k with
  | 0 => .int
  | 1 => .int
  | 2 => .int
  | 3 => .int
  | 4 => (.array .int)
  | 5 => .int
  | 6 => .int
  | 7 => .int
  | 8 => .int
  | 9 => (.array .int)
  | _ => .int
def cR6 : String := "ReportChecks2Model"
def cT6 : u_T := fun k => match k with
  | 0 => ("ReportChecks2Model", "thrown", "I", false)
  | 1 => ("ReportChecks2Model", "now", "I", false)
  | 2 => ("ReportChecks2Model", "reports", "I", false)
  | 3 => ("ReportChecks2Model", "incident", "[I", true)
  | 4 => ("ReportChecks2Model", "kind", "[I", true)
  | 5 => ("ReportChecks2Model", "made", "[I", true)
  | 6 => ("ReportChecks2Model", "within", "[I", true)
  | 7 => ("ReportChecks2Model", "from", "[I", true)
  | 8 => ("ReportChecks2Model", "signed", "[I", true)
  | 9 => ("ReportChecks2Model", "by", "[I", true)
  | 10 => ("ReportChecks2Model", "full", "[Z", true)
  | 11 => ("ReportChecks2Model", "acts", "[Z", true)
  | 12 => ("ReportChecks2Model", "open", "[Z", true)
  | 13 => ("ReportChecks2Model", "value", "[I", true)
  | 14 => ("ReportChecks2Model", "asks", "[Z", true)
  | 15 => ("ReportChecks2Model", "hidden", "[Z", true)
  | 16 => ("ReportChecks2Model", "taped", "I", false)
  | 17 => ("ReportChecks2Model", "tape", "[I", true)
  | 18 => ("ReportChecks2Model", "place", "I", false)
  | 19 => ("ReportChecks2Model", "at", "I", false)
  | 20 => ("ReportChecks2Model", "wrong", "I", false)
  | 21 => ("ReportChecks2Model", "rules", "I", false)
  | 22 => ("ReportChecks2Model", "sign", "[I", true)
  | 23 => ("ReportChecks2Model", "term", "[I", true)
  | 24 => ("ReportChecks2Model", "first", "[I", true)
  | 25 => ("ReportChecks2Model", "second", "[I", true)
  | 26 => ("ReportChecks2Model", "divided", "[Z", true)
  | 27 => ("ReportChecks2Model", "newRules", "I", false)
  | 28 => ("ReportChecks2Model", "newSign", "[I", true)
  | 29 => ("ReportChecks2Model", "newTerm", "[I", true)
  | 30 => ("ReportChecks2Model", "newFirst", "[I", true)
  | 31 => ("ReportChecks2Model", "newSecond", "[I", true)
  | 32 => ("ReportChecks2Model", "newDivided", "[Z", true)
  | 33 => ("ReportChecks2Model", "broke", "Z", false)
  | 34 => ("ReportChecks2Model", "wants", "I", false)
  | 35 => ("ReportChecks2Model", "wantIs", "[I", true)
  | 36 => ("ReportChecks2Model", "wantOf", "[I", true)
  | 37 => ("ReportChecks2Model", "coded", "I", false)
  | _ => ("ReportChecks2Model", "out", "[I", true)
def ct6 : Nat → FieldType := fun k => match k with
  | 0 => .int
  | 1 => .int
  | 2 => .int
  | 3 => (.array .int)
  | 4 => (.array .int)
  | 5 => (.array .int)
  | 6 => (.array .int)
  | 7 => (.array .int)
  | 8 => (.array .int)
  | 9 => (.array .int)
  | 10 => (.array .boolean)
  | 11 => (.array .boolean)
  | 12 => (.array .boolean)
  | 13 => (.array .int)
  | 14 => (.array .boolean)
  | 15 => (.array .boolean)
  | 16 => .int
  | 17 => (.array .int)
  | 18 => .int
  | 19 => .int
  | 20 => .int
  | 21 => .int
  | 22 => (.array .int)
  | 23 => (.array .int)
  | 24 => (.array .int)
  | 25 => (.array .int)
  | 26 => (.array .boolean)
  | 27 => .int
  | 28 => (.array .int)
  | 29 => (.array .int)
  | 30 => (.array .int)
  | 31 => (.array .int)
  | 32 => (.array .boolean)
  | 33 => .boolean
  | 34 => .int
  | 35 => (.array .int)
  | 36 => (.array .int)
  | 37 => .int
  | _ => (.array .int)
def cR7 : String := "java/lang/IllegalArgumentException"
def cT7 : u_T := fun _ => ("", "", "", false)
def cR8 : String := "java/lang/IndexOutOfBoundsException"
def cT8 : u_T := fun _ => ("", "", "", false)
def cR9 : String := "java/lang/IllegalStateException"
def cT9 : u_T := fun _ => ("", "", "", false)
def cR10 : String := "java/lang/UnsupportedOperationException"
def cT10 : u_T := fun _ => ("", "", "", false)
def g_cl : List vw_C := [(cR0, cT0, 14), (cR1, cT1, 3), (cR2, cT2, 7), (cR3, cT3, 3), (cR4, cT4, 2), (cR5, cT5, 11), (cR6, cT6, 39), (cR7, cT7, 0), (cR8, cT8, 0), (cR9, cT9, 0), (cR10, cT10, 0)]
def g_ty (cA : Nat → ClassId) : List (ClassId × FieldType) := [(cA 0, .int), (cA 1, .byte), (cA 2, .boolean), (cA 3, .char), (cA 4, .long), (cA 5, (.object "ReportChecks2$Report"))]
theorem cw0 : ∀ w ∈ u_ws cR0 cT0 14, w ∈ g_ws := fun w h => g_in ((show ∀ w ∈ u_ws cR0 cT0 14, w ∈ lw_tbl by decide +kernel) w h) ((show ∀ w ∈ u_ws cR0 cT0 14, g_ok w = true by decide +kernel) w h)
theorem cp0 : ∀ j, j < 14 → parseFieldDescriptor (cT0 j).2.2.1 = some (ct0 j) := by decide +kernel
theorem cn0 : ∀ i, i < 14 → ∀ j, j < 14 → i ≠ j → (cT0 i).2.1 ≠ (cT0 j).2.1 := by decide +kernel
theorem cw1 : ∀ w ∈ u_ws cR1 cT1 3, w ∈ g_ws := fun w h => g_in ((show ∀ w ∈ u_ws cR1 cT1 3, w ∈ lw_tbl by decide +kernel) w h) ((show ∀ w ∈ u_ws cR1 cT1 3, g_ok w = true by decide +kernel) w h)
theorem cp1 : ∀ j, j < 3 → parseFieldDescriptor (cT1 j).2.2.1 = some (ct1 j) := by decide +kernel
theorem cn1 : ∀ i, i < 3 → ∀ j, j < 3 → i ≠ j → (cT1 i).2.1 ≠ (cT1 j).2.1 := by decide +kernel
theorem cw2 : ∀ w ∈ u_ws cR2 cT2 7, w ∈ g_ws := fun w h => g_in ((show ∀ w ∈ u_ws cR2 cT2 7, w ∈ lw_tbl by decide +kernel) w h) ((show ∀ w ∈ u_ws cR2 cT2 7, g_ok w = true by decide +kernel) w h)
theorem cp2 : ∀ j, j < 7 → parseFieldDescriptor (cT2 j).2.2.1 = some (ct2 j) := by decide +kernel
theorem cn2 : ∀ i, i < 7 → ∀ j, j < 7 → i ≠ j → (cT2 i).2.1 ≠ (cT2 j).2.1 := by decide +kernel
theorem cw3 : ∀ w ∈ u_ws cR3 cT3 3, w ∈ g_ws := fun w h => g_in ((show ∀ w ∈ u_ws cR3 cT3 3, w ∈ lw_tbl by decide +kernel) w h) ((show ∀ w ∈ u_ws cR3 cT3 3, g_ok w = true by decide +kernel) w h)
theorem cp3 : ∀ j, j < 3 → parseFieldDescriptor (cT3 j).2.2.1 = some (ct3 j) := by decide +kernel
theorem cn3 : ∀ i, i < 3 → ∀ j, j < 3 → i ≠ j → (cT3 i).2.1 ≠ (cT3 j).2.1 := by decide +kernel
theorem cw4 : ∀ w ∈ u_ws cR4 cT4 2, w ∈ g_ws := fun w h => g_in ((show ∀ w ∈ u_ws cR4 cT4 2, w ∈ lw_tbl by decide +kernel) w h) ((show ∀ w ∈ u_ws cR4 cT4 2, g_ok w = true by decide +kernel) w h)
theorem cp4 : ∀ j, j < 2 → parseFieldDescriptor (cT4 j).2.2.1 = some (ct4 j) := by decide +kernel
theorem cn4 : ∀ i, i < 2 → ∀ j, j < 2 → i ≠ j → (cT4 i).2.1 ≠ (cT4 j).2.1 := by decide +kernel
theorem cw5 : ∀ w ∈ u_ws cR5 cT5 11, w ∈ g_ws := fun w h => g_in ((show ∀ w ∈ u_ws cR5 cT5 11, w ∈ lw_tbl by decide +kernel) w h) ((show ∀ w ∈ u_ws cR5 cT5 11, g_ok w = true by decide +kernel) w h)
theorem cp5 : ∀ j, j < 11 → parseFieldDescriptor (cT5 j).2.2.1 = some (ct5 j) := by decide +kernel
theorem cn5 : ∀ i, i < 11 → ∀ j, j < 11 → i ≠ j → (cT5 i).2.1 ≠ (cT5 j).2.1 := by decide +kernel
theorem cw6 : ∀ w ∈ u_ws cR6 cT6 39, w ∈ g_ws := fun w h => g_in ((show ∀ w ∈ u_ws cR6 cT6 39, w ∈ lw_tbl by decide +kernel) w h) ((show ∀ w ∈ u_ws cR6 cT6 39, g_ok w = true by decide +kernel) w h)
theorem cp6 : ∀ j, j < 39 → parseFieldDescriptor (cT6 j).2.2.1 = some (ct6 j) := by decide +kernel
theorem cn6 : ∀ i, i < 39 → ∀ j, j < 39 → i ≠ j → (cT6 i).2.1 ≠ (cT6 j).2.1 := by decide +kernel
end
section
/-! ===== throwing: rows that began as claim/NAMES.whole.lean.txt's (its section VXA), names spelt out ===== -/
section VXA
variable {p : Program} {l : Launch} {e : Env} {R : Room} {s : State} {m : MethodId} {args : Array Value} {below : List Frame} {meth : Method} {c : Code} {H : Heap} {locs : List Loc} {cells slots : Nat} {Q : State → Prop}
variable {mc ms : Nat} {free : Addr → Prop} {A0 A1 : Nat → Prop} {H0 : Heap} {a : Array Value} {ls : Array Slot} {st0 rest : List Value}
theorem vx_frame {U : State} {k n : Nat} (h : s.sameButNew ({ U with vm := s.vm } : State) locs k n) : s.heap.size ≤ U.heap.size ∧ ∀ q : Nat, q < s.heap.size → (∀ z ∈ locs, z.base ≠ q) → U.heap[q]? = s.heap[q]? := by
  obtain ⟨-, h2, -, -, -, h6⟩ := h
  refine ⟨h2, fun q hq hz => ?_⟩
  obtain ⟨c9, e1, e2, e3, e4⟩ := h6 q _ (Array.getElem?_eq_getElem hq)
  have hs : c9.slots = (s.heap[q]).slots := Array.ext_getElem? fun i => e4 i fun hm => hz _ hm rfl
  have h9 : c9 = s.heap[q] := by
    rw [hs] at e2
    exact e2
  have e5 : U.heap[q]? = some c9 := e1
  rw [e5, h9, Array.getElem?_eq_getElem hq]
/-- the words of a throw but the four that speak of the heap -/
def vx_no (w : Cond) : Bool := decide (w ≠ .isRef (.static Bundle.tN "UNASSIGNED_STACK" Bundle.steD)) && decide (w ≠ .isRef (.static Bundle.tN "SUPPRESSED_SENTINEL" Bundle.listD)) && decide (w ≠ .laysStatic Bundle.tN "UNASSIGNED_STACK" Bundle.steD) && decide (w ≠ .laysStatic Bundle.tN "SUPPRESSED_SENTINEL" Bundle.listD)
def vx_at0 (own : String) (ic : Nat) (X : String) (names : List String) : List Cond := (Bundle.ownAtoms0 own ic X names).filter vx_no
def vx_atS (own : String) (ic : Nat) (X : String) (names : List String) : List Cond := (Bundle.ownAtoms own ic X names).filter vx_no
/-- a word that the tables alone decide, or a good one -/
def vx_ot (w : Cond) : Bool := w.onTables || goodWord w
theorem vx_ot_at {args a' : Array Value} {s U : State} {w : Cond} (hW : s.WarmedH U.vm) (hvm : s.vm = U.vm) (hg : vx_ot w = true) (h : w.before args s = true) : w.before a' U = true := by
  simp only [vx_ot, Bool.or_eq_true] at hg
  rcases hg with hg | hg
  · exact va_tabs hg hvm h
  · exact word_at hW (good_of_word hg) h
/-- a list's words: the good ones out of the method's own list, the others by premises of their own -/
theorem vx_hat {args : Array Value} {s : State} {L B : List Cond} (h1 : ∀ w ∈ L.filter goodWord, w.before args s = true) (h2 : ∀ w ∈ L.filter (fun w => !goodWord w), w ∈ B) (h3 : ∀ w ∈ B, w.before args s = true) : ∀ w ∈ L, w.before args s = true := by
  intro w hw
  by_cases g : goodWord w = true
  · exact h1 w (List.mem_filter.mpr ⟨hw, g⟩)
  · refine h3 w (h2 w (List.mem_filter.mpr ⟨hw, ?_⟩))
    show (!goodWord w) = true
    cases hgw : goodWord w
    · rfl
    · exact absurd hgw g
theorem vx_c {args : Array Value} {s : State} {w : Cond} {B : List Cond} (h : w.before args s = true) (t : ∀ w ∈ B, w.before args s = true) : ∀ w' ∈ w :: B, w'.before args s = true := fun w' h' => (List.mem_cons.mp h').elim (fun e => by rw [e]; exact h) (t w')
theorem vx_n {args : Array Value} {s : State} : ∀ w ∈ ([] : List Cond), w.before args s = true := fun _ h => nomatch h
theorem vx_own {args : Array Value} {s : State} {L : List Cond} (h1 : ∀ w ∈ L.filter vx_no, w.before args s = true)
    (hU : (Cond.isRef (.static Bundle.tN "UNASSIGNED_STACK" Bundle.steD)).before args s = true) (hN : (Cond.isRef (.static Bundle.tN "SUPPRESSED_SENTINEL" Bundle.listD)).before args s = true)
    (lU : (Cond.laysStatic Bundle.tN "UNASSIGNED_STACK" Bundle.steD).before args s = true) (lN : (Cond.laysStatic Bundle.tN "SUPPRESSED_SENTINEL" Bundle.listD).before args s = true) : ∀ w ∈ L, w.before args s = true := by
  intro w hw
  by_cases e1 : w = .isRef (.static Bundle.tN "UNASSIGNED_STACK" Bundle.steD)
  · rw [e1]; exact hU
  · by_cases e2 : w = .isRef (.static Bundle.tN "SUPPRESSED_SENTINEL" Bundle.listD)
    · rw [e2]; exact hN
    · by_cases e3 : w = .laysStatic Bundle.tN "UNASSIGNED_STACK" Bundle.steD
      · rw [e3]; exact lU
      · by_cases e4 : w = .laysStatic Bundle.tN "SUPPRESSED_SENTINEL" Bundle.listD
        · rw [e4]; exact lN
        · exact h1 w (List.mem_filter.mpr ⟨hw, by unfold vx_no; rw [decide_eq_true e1, decide_eq_true e2, decide_eq_true e3, decide_eq_true e4]; rfl⟩)
/-- where a static field lies, its class's statics cell in H -/
def vx_L (C n d : String) (A : Nat → Prop) (U : State) (H : Heap) : Prop := ∃ (c : ClassId) (k : Class) (i : Nat) (f : Field) (a : Nat) (cell : Cell), U.vm.findClass C = some c ∧ U.fieldFound? C n d = some (c, k, i, f) ∧ f.isStatic = true ∧ k.statics = some a ∧ H[a]? = some cell ∧ cell.vm.isStatics = true ∧ cell.cls = c ∧ f.slot < cell.slots.size ∧ k.staticTypes[f.slot]? = some f.type ∧ ¬ A a
theorem vx_L.moved {C n d : String} {A : Nat → Prop} {u U : State} {H : Heap} (hvm : u.vm.Alike U.vm) (h : vx_L C n d A u H) : vx_L C n d A U H := by
  obtain ⟨c, k, i, f, a, cell, h1, h2, h3, h4, h5, h6, h7, h8, h9, h10⟩ := h
  obtain ⟨k', hi', he⟩ := State.fieldFound?_setVm hvm h2
  exact ⟨c, k', i, f, a, cell, by rw [hvm.findClass]; exact h1, hi', h3, by rw [he]; exact h4, h5, h6, h7, h8, by rw [he]; exact h9, h10⟩
theorem vx_L.kept {C n d : String} {A : Nat → Prop} {U : State} {H H1 : Heap} (h : vx_L C n d A U H) (hq : ∀ a : Nat, a < H.size → ¬ A a → H1[a]? = H[a]?) : vx_L C n d A U H1 := by
  obtain ⟨c, k, i, f, a, cell, h1, h2, h3, h4, h5, h6, h7, h8, h9, h10⟩ := h
  exact ⟨c, k, i, f, a, cell, h1, h2, h3, h4, by rw [hq a (Array.getElem?_eq_some_iff.mp h5).1 h10]; exact h5, h6, h7, h8, h9, h10⟩
theorem vx_L.narrow {C n d : String} {A B : Nat → Prop} {U : State} {H : Heap} (h : vx_L C n d A U H) (hAB : ∀ q, B q → A q) : vx_L C n d B U H := by
  obtain ⟨c, k, i, f, a, cell, h1, h2, h3, h4, h5, h6, h7, h8, h9, h10⟩ := h
  exact ⟨c, k, i, f, a, cell, h1, h2, h3, h4, h5, h6, h7, h8, h9, fun z => h10 (hAB _ z)⟩
theorem vx_L.word {C n d : String} {A : Nat → Prop} {s : State} {args : Array Value} (h : vx_L C n d A s s.heap) : (Cond.laysStatic C n d).before args s = true := by
  obtain ⟨c, k, i, f, a, cell, h1, h2, h3, h4, h5, h6, h7, h8, h9, -⟩ := h
  show (Cond.laysStatic C n d).holds args s none s [] = true
  exact Cond.laysStatic_of h1 h2 h3 h4 h5 h6 h7 h8 h9
/-- .. and what it holds: null or some reference -/
def vx_Zq (C n d : String) (A : Nat → Prop) (U : State) (H : Heap) : Prop := va_Zq C n d A U H ∧ vx_L C n d A U H
theorem vx_Zq.moved {C n d : String} {A : Nat → Prop} {u U : State} {H : Heap} (hvm : u.vm.Alike U.vm) (h : vx_Zq C n d A u H) : vx_Zq C n d A U H := ⟨va_Zq.moved hvm h.1, vx_L.moved hvm h.2⟩
theorem vx_Zq.kept {C n d : String} {A : Nat → Prop} {U : State} {H H1 : Heap} (h : vx_Zq C n d A U H) (hq : ∀ a : Nat, a < H.size → ¬ A a → H1[a]? = H[a]?) : vx_Zq C n d A U H1 := ⟨va_Zq.kept h.1 hq, vx_L.kept h.2 hq⟩
theorem vx_Zq.narrow {C n d : String} {A B : Nat → Prop} {U : State} {H : Heap} (h : vx_Zq C n d A U H) (hAB : ∀ q, B q → A q) : vx_Zq C n d B U H := ⟨va_Zq.narrow h.1 hAB, vx_L.narrow h.2 hAB⟩
theorem vx_Zqof {args : Array Value} {s : State} {C n d : String} {A : Nat → Prop} (hl : (Cond.laysStatic C n d).before args s = true) (hini : (Cond.initialized C).before args s = true) (h : (Cond.isRef (.static C n d)).before args s = true) (hA : ∀ a : Nat, a < s.heap.size → ¬ A a) : vx_Zq C n d A s s.heap := by
  refine ⟨va_Zqof hl hini h hA, ?_⟩
  obtain ⟨c, k, i, f, a, cell, h1, h2, h3, h4, h5, h6, h7, h8, h9⟩ := Cond.laysStatic_spec hl
  exact ⟨c, k, i, f, a, cell, h1, h2, h3, h4, h5, h6, h7, h8, h9, hA a (Array.getElem?_eq_some_iff.mp h5).1⟩
theorem vx_isRef {C n d : String} {v : Value} {A : Nat → Prop} {s : State} {args : Array Value} (h : va_Z C n d v A s s.heap) (hv : v.isRef = true) : (Cond.isRef (.static C n d)).before args s = true := by
  obtain ⟨cf, kf, fi, f, a, cell, h1, h2, h3, h4, h5, h6, h7, -⟩ := h
  have he : (Term.static C n d).eval args s none [] s = some v := by
    simp [Term.eval, State.fieldNamed?, h1, h2, h4, h5, h6, h7]
  simp only [Cond.before, Cond.holds, Cond.value, he]
  cases v <;> simp_all [Value.isRef]
theorem vx_isRefq {C n d : String} {A : Nat → Prop} {s : State} {args : Array Value} (h : va_Zq C n d A s s.heap) : (Cond.isRef (.static C n d)).before args s = true := by
  rcases h with h | ⟨t, h⟩
  · exact vx_isRef h rfl
  · exact vx_isRef h rfl
/-- the same frame, seen from here: as if the method were called anew in this heap -/
theorem vx_rebase {T : State} (X : Stand p l e R s m args below meth c T locs cells slots) {R' : Room} (hf : R'.frames ≤ R.frames) (hl : R'.locals ≤ R.locals) (hc : cells + R'.cells ≤ R.cells) (hs : slots + R'.slots ≤ R.slots) :
    Stand p l e R' ((T.setVm s.vm).setFrames (.invoking m args :: below)) m args below meth c T [] 0 0 := by
  have htop : (T.setVm s.vm).topJava?.isSome := X.here.top
  have hF : ((T.setVm s.vm).setFrames (.invoking m args :: below)).frames = .invoking m args :: below := State.frames_setFrames _ (State.cur_lt_of_top htop)
  obtain ⟨g₀, hg0⟩ := Option.isSome_iff_exists.mp htop
  obtain ⟨r, hr⟩ := State.topJava?_eq_some.mp hg0
  have hl9 : e.platform.stackLimits (T.setVm s.vm).me = e.platform.stackLimits s.me := X.limits
  have hb9 : (T.setVm s.vm).me.stackBytes = s.me.stackBytes := X.bytes
  refine ⟨X.admits, X.cas, X.clock, hF, ?_, X.hears, X.method, X.code, X.here, X.tail, X.warmed, ?_, ?_, ?_⟩
  · have h := X.room
    have hU : ((T.setVm s.vm).setFrames (.invoking m args :: below)).localsInUse = s.localsInUse := by
      rw [State.localsInUse_invoking hF (meth := meth) (c := c) X.method X.code, State.localsInUse_invoking X.frames X.method X.code]
    simp only [State.hasRoom, Bool.and_eq_true, decide_eq_true_eq] at h ⊢
    obtain ⟨⟨⟨⟨h1, h2, h3, h4, h5, h6⟩, h7⟩, h8⟩, h9⟩ := h
    rw [X.frames, List.length_cons] at h2 h3
    have q1 := X.heapSize
    have q2 := X.used
    simp only [hF, hU, List.length_cons, State.stackLimits_setFrames, State.stackBytes_setFrames, hl9, hb9]
    refine ⟨⟨⟨⟨by omega, by omega, by omega, by omega, by omega, h6⟩, ?_⟩, ?_⟩, X.book⟩
    · show T.heap.size + R'.cells ≤ e.platform.maxCells
      omega
    · show T.slotsUsed + R'.slots ≤ e.platform.maxSlots
      omega
  · rw [State.stackLimits_setFrames]; rfl
  · rw [State.stackBytes_setFrames]; rfl
  · refine ⟨?_, Nat.le_refl _, Nat.le_refl _, ?_, ?_, fun a c9 h9 => ⟨c9, h9, rfl, rfl, fun _ _ => rfl⟩⟩
    · obtain ⟨t, ht, -⟩ := State.frames_cons hr
      show T.setVm s.vm = { ((T.setVm s.vm).setFrames (.invoking m args :: below)).setFrames (T.setVm s.vm).frames with heap := T.heap, slotsUsed := T.slotsUsed }
      rw [State.setFrames_setFrames, State.setFrames_self ht]
      rfl
    · show T.slotsUsed = T.slotsUsed + ((T.heap.toList.drop T.heap.size).map (·.slots.size)).sum
      rw [List.drop_eq_nil_of_le (Nat.le_of_eq Array.length_toList)]
      rfl
    · show ((T.heap.toList.drop T.heap.size).map (·.slots.size)).sum ≤ 0
      rw [List.drop_eq_nil_of_le (Nat.le_of_eq Array.length_toList)]
      exact Nat.le_refl _
end VXA
end
section
/-! ===== the abstract heap: cells numbered from 0 on, at the addresses b, b + 1, .. ===== -/
abbrev AC : Type := (Nat × vp_A) ⊕ (Nat × List Value)
abbrev AH : Type := Nat → AC
def hu (h : AH) (k : Nat) (x : AC) : AH := fun j => if j = k then x else h j
theorem hu_s (h : AH) (k : Nat) (x : AC) : hu h k x k = x := if_pos rfl
theorem hu_n {h : AH} {k j : Nat} {x : AC} (hj : j ≠ k) : hu h k x j = h j := if_neg hj
theorem hu_self {h : AH} {k : Nat} {x : AC} (hk : h k = x) : hu h k x = h := by
  funext j
  unfold hu
  split
  · rename_i e; rw [e, hk]
  · rfl
def sv (b : Nat) (v : Value) : Value := match v with
  | .ref a => .ref (b + a)
  | w => w
def so (b : Nat) (f : Nat → Option Nat) : Nat → Option Nat := fun j => (f j).map (fun a => b + a)
def sa (b : Nat) (a : vp_A) : vp_A := match a with
  | (n, .inl f) => (n, .inl f)
  | (n, .inr (.inl f)) => (n, .inr (.inl f))
  | (n, .inr (.inr (.inl f))) => (n, .inr (.inr (.inl f)))
  | (n, .inr (.inr (.inr (.inl f)))) => (n, .inr (.inr (.inr (.inl f))))
  | (n, .inr (.inr (.inr (.inr f)))) => (n, .inr (.inr (.inr (.inr (so b f)))))
def toE (b : Nat) (cA : Nat → ClassId) (x : AC) : va_E := match x with
  | .inl y => .inl (cA y.1, sa b y.2)
  | .inr o => .inr (o.1, o.2.map (sv b))
def wO (b : Nat) (cA : Nat → ClassId) (n : Nat) (h : AH) : va_W := (List.range n).map (fun k => (b + k, toE b cA (h k)))
theorem wO_len (b : Nat) (cA : Nat → ClassId) (n : Nat) (h : AH) : (wO b cA n h).length = n := by simp [wO]
theorem wO_get {b : Nat} {cA : Nat → ClassId} {n : Nat} {h : AH} {k : Nat} (hk : k < n) : (wO b cA n h)[k]? = some (b + k, toE b cA (h k)) := by
  simp [wO, hk]
theorem wO_inv {b : Nat} {cA : Nat → ClassId} {n : Nat} {h : AH} {k : Nat} {q : Nat × va_E} (hq : (wO b cA n h)[k]? = some q) : k < n ∧ q = (b + k, toE b cA (h k)) := by
  have hk : k < n := by
    have := (List.getElem?_eq_some_iff.mp hq).1
    rwa [wO_len] at this
  rw [wO_get hk] at hq
  exact ⟨hk, (Option.some.inj hq).symm⟩
theorem wO_set {b : Nat} {cA : Nat → ClassId} {n : Nat} {h : AH} {k : Nat} (hk : k < n) (x : AC) : (wO b cA n h).set k (b + k, toE b cA x) = wO b cA n (hu h k x) := by
  apply List.ext_getElem?
  intro j
  by_cases hj : j < n
  · rw [wO_get hj]
    by_cases e : k = j
    · subst e
      rw [List.getElem?_set_self (by rw [wO_len]; exact hk), hu_s]
    · rw [List.getElem?_set_ne e, wO_get hj, hu_n (fun q => e q.symm)]
  · rw [List.getElem?_eq_none (by rw [List.length_set, wO_len]; omega), List.getElem?_eq_none (by rw [wO_len]; omega)]
theorem wO_push {b : Nat} {cA : Nat → ClassId} {n : Nat} {h : AH} (x : AC) : wO b cA n h ++ [(b + n, toE b cA x)] = wO b cA (n + 1) (hu h n x) := by
  apply List.ext_getElem?
  intro j
  by_cases hj : j < n
  · rw [List.getElem?_append_left (by rw [wO_len]; exact hj), wO_get hj, wO_get (by omega), hu_n (by omega)]
  · by_cases e : j = n
    · subst e
      rw [List.getElem?_append_right (by rw [wO_len]; exact Nat.le_refl _), wO_len, Nat.sub_self, wO_get (by omega), hu_s]
      rfl
    · rw [List.getElem?_eq_none (by simp [wO_len]; omega), List.getElem?_eq_none (by rw [wO_len]; omega)]
theorem wO_D (b : Nat) (cA : Nat → ClassId) (n : Nat) (h : AH) : va_D (fun q => b ≤ q) (wO b cA n h) := by
  refine ⟨fun i j x y hi hj he => ?_, fun k q hq => ?_⟩
  · obtain ⟨-, rfl⟩ := wO_inv hi
    obtain ⟨-, rfl⟩ := wO_inv hj
    have : b + i = b + j := he
    omega
  · obtain ⟨-, rfl⟩ := wO_inv hq
    exact Nat.le_add_right _ _
theorem sv_cat (b : Nat) (v : Value) : (sv b v).category = v.category := by cases v <;> rfl
theorem sv_args (b : Nat) : ∀ (i : Nat) (vs : List Value), lv_args i (vs.map (sv b)) = (lv_args i vs).map (fun q => (q.1, sv b q.2))
  | _, [] => rfl
  | i, v :: vs => by
    show (i, sv b v) :: lv_args (if (sv b v).category = 2 then i + 2 else i + 1) (vs.map (sv b)) = (i, sv b v) :: (lv_args (if v.category = 2 then i + 2 else i + 1) vs).map (fun q => (q.1, sv b q.2))
    rw [sv_cat, sv_args b _ vs]
theorem lk_mem {L : List (Nat × Value)} {i : Nat} {v : Value} (h : List.lookup i L = some v) : (i, v) ∈ L := by
  induction L with
  | nil => cases h
  | cons q L ih =>
    obtain ⟨j, w⟩ := q
    by_cases e : i = j
    · subst e
      simp at h
      subst h
      exact List.mem_cons_self
    · rw [List.lookup_cons] at h
      have : (i == j) = false := by simpa using e
      rw [this] at h
      exact List.mem_cons_of_mem _ (ih h)
def sL (b : Nat) (L : List (Nat × Value)) : List (Nat × Value) := L.map (fun q => (q.1, sv b q.2))
theorem sL_at {b nL : Nat} {ls : Array Slot} {L : List (Nat × Value)} (hl : lv_has ls nL (sL b L)) {i : Nat} {v : Value} (h : List.lookup i L = some v) : ls[i]? = some (.val (sv b v)) :=
  hl.2.2 (i, sv b v) (List.mem_map.mpr ⟨(i, v), lk_mem h, rfl⟩)
/-- the locals behind a store -/
def sT (L : List (Nat × Value)) (i : Nat) (v : Value) : List (Nat × Value) := (i, v) :: L.filter (fun q => !(q.1 == i) && !(q.1 + 1 == i && q.2.category == 2))
def sT2 (L : List (Nat × Value)) (i : Nat) (v : Value) : List (Nat × Value) := (i, v) :: L.filter (fun q => !(q.1 == i) && (!(q.1 == i + 1) && !(q.1 + 1 == i && q.2.category == 2)))
theorem sL_sT (b : Nat) (L : List (Nat × Value)) (i : Nat) (v : Value) : (i, sv b v) :: (sL b L).filter (fun q => !(q.1 == i) && !(q.1 + 1 == i && q.2.category == 2)) = sL b (sT L i v) := by
  unfold sL sT
  rw [List.map_cons, List.filter_map]
  congr 2
  apply List.filter_congr
  intro q _
  simp [sv_cat]
theorem sL_sT2 (b : Nat) (L : List (Nat × Value)) (i : Nat) (v : Value) : (i, sv b v) :: (sL b L).filter (fun q => !(q.1 == i) && (!(q.1 == i + 1) && !(q.1 + 1 == i && q.2.category == 2))) = sL b (sT2 L i v) := by
  unfold sL sT2
  rw [List.map_cons, List.filter_map]
  congr 2
  apply List.filter_congr
  intro q _
  simp [sv_cat]
end
section
/-! ===== what holds at the entry of every method; the judgement J; contracts ===== -/
/-- exceptions that are none of another's class -/
def g_nc : List (String × String) := [("java/lang/IllegalArgumentException", "java/lang/IndexOutOfBoundsException"), ("java/lang/IllegalArgumentException", "java/lang/IllegalStateException"), ("java/lang/IllegalArgumentException", "java/lang/UnsupportedOperationException"), ("java/lang/IndexOutOfBoundsException", "java/lang/IllegalArgumentException"), ("java/lang/IndexOutOfBoundsException", "java/lang/IllegalStateException"), ("java/lang/IndexOutOfBoundsException", "java/lang/UnsupportedOperationException"), ("java/lang/IllegalStateException", "java/lang/IllegalArgumentException"), ("java/lang/IllegalStateException", "java/lang/IndexOutOfBoundsException"), ("java/lang/IllegalStateException", "java/lang/UnsupportedOperationException"), ("java/lang/UnsupportedOperationException", "java/lang/IllegalArgumentException"), ("java/lang/UnsupportedOperationException", "java/lang/IndexOutOfBoundsException"), ("java/lang/UnsupportedOperationException", "java/lang/IllegalStateException")]
/-- the texts of the exceptions -/
def g_str : List (String × Nat × String) := [("ReportChecks2", 264, "no such kind"), ("ReportChecks2", 81, "the incident is not 0 .. 9,999"), ("ReportChecks2", 277, "there are 30 reports"), ("ReportChecks2", 266, "no such field"), ("ReportChecks2", 262, "no such report"), ("ReportChecks2", 109, "the value is not -99,999 .. 99,999"), ("ReportChecks2", 117, "the field can't be told"), ("ReportChecks2", 126, "no such kind of acts"), ("ReportChecks2", 129, "the minute is to come, or below 0"), ("ReportChecks2", 270, "the report has a signature"), ("ReportChecks2", 139, "the persons inside are not 0 .. 99"), ("ReportChecks2", 144, "the bytes are not 1 .. 8"), ("ReportChecks2", 148, "there would be more than 300 bytes"), ("ReportChecks2", 155, "the text is wrong"), ("ReportChecks2", 165, "the latest check told no such thing"), ("ReportChecks2", 173, "no such what"), ("ReportChecks2", 268, "no such person"), ("ReportChecks2", 181, "the report can't be signed by that person"), ("ReportChecks2", 275, "the report is not closed"), ("ReportChecks2", 207, "the field is open"), ("ReportChecks2", 216, "the byte's number is below 0"), ("ReportChecks2", 221, "the minutes, or the number is below 0"), ("ReportChecks2", 226, "low is above high"), ("ReportChecks2", 255, "the field is empty"), ("ReportChecks2", 260, "the minutes are not 1 .. 5,000, or go beyond 99,999")]
/-- the words, the classes, the texts, the statics that a Throwable's constructor reads -/
def Gl (D : va_G) (cA : Nat → ClassId) (b : Nat) (U : State) : Prop :=
  (∀ w ∈ g_ws, w.before #[] U = true) ∧ va_K D g_cl (g_ty cA) U ∧ b ≤ U.heap.size ∧ (∀ q ∈ g_nc, va_Nc q.1 q.2 U) ∧ (∀ q ∈ g_str, ∃ a, vk_R q.1 q.2.1 q.2.2 a U) ∧
  vx_Zq Bundle.tN "UNASSIGNED_STACK" Bundle.steD (fun q => b ≤ q) U U.heap ∧ vx_Zq Bundle.tN "SUPPRESSED_SENTINEL" Bundle.listD (fun q => b ≤ q) U U.heap
theorem Gl.to {D : va_G} {cA : Nat → ClassId} {b : Nat} {s U : State} (h : Gl D cA b s) (hW : s.WarmedH U.vm) (hz : b ≤ U.heap.size) (hk : ∀ q : Nat, q < b → U.heap[q]? = s.heap[q]?) : Gl D cA b U := by
  obtain ⟨h1, h2, h3, h4, h5, h6, h7⟩ := h
  refine ⟨fun w hw => g_warm (g_okw hw) hW (h1 w hw), va_K.moved hW.alike h2, hz, fun q hq => va_Nc.moved hW.alike (h4 q hq), fun q hq => ?_, ?_, ?_⟩
  · obtain ⟨a, ha⟩ := h5 q hq
    exact ⟨a, vk_R.warm hW ha⟩
  · exact vx_Zq.moved hW.alike (h6.kept (fun a _ ha => hk a (Nat.not_le.mp ha)))
  · exact vx_Zq.moved hW.alike (h7.kept (fun a _ ha => hk a (Nat.not_le.mp ha)))
/-- the heap holds the abstract one -/
def Hp (D : va_G) (cA : Nat → ClassId) (b n : Nat) (h : AH) (H : Heap) : Prop := H.size = b + n ∧ va_P D g_cl (wO b cA n h) H
/-- an answer: returned, or thrown (the number of the exception's class) -/
abbrev Rz : Type := Option Value ⊕ Nat
def Ou (b n : Nat) (h : AH) (r : Rz) (o : Outcome) : Prop := match r with
  | .inl v => o = .returned (v.map (sv b))
  | .inr ci => ∃ k, k < n ∧ o = .threw (b + k) ∧ h k = .inr (ci, [])
def EndO (D : va_G) (cA : Nat → ClassId) (b : Nat) (s : State) (o : Outcome) (t : State) (Qa : Rz → Nat → AH → Prop) (mc ms : Nat) : Prop :=
  s.WarmedH t.vm ∧ (∃ L : List Loc, s.sameButNew ({ t with vm := s.vm } : State) L mc ms ∧ ∀ q ∈ L, b ≤ q.base) ∧ (∀ q : Nat, q < b → t.heap[q]? = s.heap[q]?) ∧ ∃ (n : Nat) (h : AH) (r : Rz), Hp D cA b n h t.heap ∧ Ou b n h r o ∧ Qa r n h
def EndQ (D : va_G) (cA : Nat → ClassId) (b : Nat) (s : State) (below : List Frame) (Qa : Rz → Nat → AH → Prop) (mc ms : Nat) : State → Prop := fun t =>
  ∃ o, t.status = .running ∧ Ended t below o ∧ EndO D cA b s o t Qa mc ms
/-- a contract: called with the values vs on the abstract heap n, h the method ends so that Qa; it makes at most mc cells of ms slots, it nests fr frames of lo words -/
def Cn (l : Launch) (D : va_G) (cA : Nat → ClassId) (b : Nat) (y : MethodName) (cd : Cond) (fr lo mc ms : Nat) (vs : List Value) (n : Nat) (h : AH) (Qa : Rz → Nat → AH → Prop) : Prop :=
  MetFree l y (headSpec [cd] { frames := fr, cells := mc, slots := ms, locals := lo }) (fun a U => a = (vs.map (sv b)).toArray ∧ Gl D cA b U ∧ Hp D cA b n h U.heap) (fun _ _ _ _ _ => True) (fun _ st o t => EndO D cA b st o t Qa mc ms)
/-- what stays the same all over a method's body -/
def Cx (p : Program) (l : Launch) (s : State) (m : MethodId) (meth : Method) (c : Code) (D : va_G) (cA : Nat → ClassId) (b nL : Nat) (own : String) (mn : String) (cc : ByteArray) (ret : Option FieldType) (hh : List (Nat × Nat × Nat × Nat)) : Prop :=
  p.tables.exec = Jvm.exec ∧ c.code = cc ∧ c.maxLocals = nL ∧ s.vm.findClass own = some m.cls ∧ Gl D cA b s ∧ meth.locks = false ∧ meth.sig.returnType = ret ∧ c.exceptionTable.toList = tableOf hh ∧ l.stackTraces = false ∧ meth.name = mn
def J (p : Program) (l : Launch) (e : Env) (R : Room) (s : State) (m : MethodId) (args : Array Value) (below : List Frame) (meth : Method) (c : Code) (D : va_G) (cA : Nat → ClassId) (b nL : Nat) (Q : State → Prop) (n : Nat) (h : AH) (kc ks pc : Nat) (L : List (Nat × Value)) (st : List Value) : Prop :=
  ∀ (H : Heap) (locs : List Loc) (ls : Array Slot), Hp D cA b n h H → va_S (fun q => b ≤ q) s.heap H locs → lv_has ls nL (sL b L) → W p l e R s m args below meth c H locs kc ks Q (F0 m pc ls (st.map (sv b)))
theorem sv_len (b : Nat) (vs : List Value) : (lg_sl (vs.map (sv b))).length = (lg_sl vs).length := by
  induction vs with
  | nil => rfl
  | cons v vs ih =>
    have h1 : lg_sl (v :: vs) = lg_sl [v] ++ lg_sl vs := by simp [lg_sl]
    have h2 : lg_sl ((v :: vs).map (sv b)) = lg_sl [sv b v] ++ lg_sl (vs.map (sv b)) := by simp [lg_sl]
    rw [h1, h2, List.length_append, List.length_append, ih]
    cases v <;> rfl
/-- a contract out of the body's walk -/
theorem Cn.of {l : Launch} {D : va_G} {cA : Nat → ClassId} {b : Nat} {y : MethodName} {cd : Cond} {fr lo mc ms : Nat} {vs : List Value} {n : Nat} {h : AH} {Qa : Rz → Nat → AH → Prop} {cc : ByteArray} {maxL : Nat} {ret : Option FieldType} {hh : List (Nat × Nat × Nat × Nat)}
    (hy : plainName y.cls = true) (hl : l.stackTraces = false) (hcd : (cd = Cond.code y cc maxL ret ∧ hh = []) ∨ cd = Cond.codeWith y cc maxL ret hh) (hn : (lg_sl vs).length ≤ maxL)
    (body : ∀ (p : Program) (e : Env) (s : State) (m : MethodId) (args : Array Value) (below : List Frame) (meth : Method) (c : Code), Cx p l s m meth c D cA b maxL y.cls y.name cc ret hh →
      J p l e { frames := fr, cells := mc, slots := ms, locals := lo } s m args below meth c D cA b maxL (EndQ D cA b s below Qa mc ms) n h 0 0 0 (lv_args 0 vs) []) : Cn l D cA b y cd fr lo mc ms vs n h Qa := by
  have hspec : ∀ (args : Array Value) (s : State) (m : MethodId), cd.before args s = true → s.methodNamed? y = some m → ∃ meth c, s.vm.method? m = some meth ∧ meth.code = some c ∧ c.code = cc ∧ c.maxLocals = maxL ∧ meth.sig.returnType = ret ∧ meth.locks = false ∧ c.exceptionTable.toList = tableOf hh := by
    intro args s m hb hm
    rcases hcd with ⟨rfl, rfl⟩ | rfl
    · obtain ⟨meth, c, h1, h2, h3, h4, h5, h6, h7, -⟩ := Cond.code_spec hm hb
      exact ⟨meth, c, h1, h2, h3, h4, h5, h6, by rw [Array.isEmpty_iff.mp h7]; rfl⟩
    · obtain ⟨m9, meth, c, hn9, h1, h2, h3, h4, h6, h5, h7, -⟩ := Cond.codeWith_spec hb
      cases hm.symm.trans hn9
      exact ⟨meth, c, h1, h2, h3, h4, h5, h7, by rw [← h6, table_eq]⟩
  refine MetFree.of_bodyS (code := cc) (maxLocals := maxL) (ret := ret) hy ?_ ?_
  · intro args s m hp hm
    obtain ⟨meth, c, h1, h2, h3, h4, h5, h6, -⟩ := hspec args s m (atoms_spec (ws := [cd]) hp cd List.mem_cons_self) hm
    exact ⟨meth, c, h1, h2, h3, h4, h5, h6⟩
  · intro p e s m args below meth c s₁ B hml hP _
    obtain ⟨rfl, hG, hH⟩ := hP
    have hh0 : s₁.heap = s.heap := by rw [B.state]; rfl
    obtain ⟨meth9, c9, g1, g2, -, -, -, -, g7⟩ := hspec _ s m (atoms_spec (ws := [cd]) B.pre cd List.mem_cons_self) B.named
    cases Option.some.inj (g1.symm.trans B.method)
    cases Option.some.inj (g2.symm.trans (Stand.of_body B).code)
    have hown : s.vm.findClass y.cls = some m.cls := findClass_of_methodNamed B.named
    have K := body p e s m (vs.map (sv b)).toArray below meth c ⟨B.exec, B.bytes, hml, hown, hG, B.notSynchronized, B.returns, g7, hl, (name_of_methodNamed B.named B.method).1⟩
    have hl0 := lv_entry (vs.map (sv b)) (n := maxL) (by rw [sv_len]; exact hn)
    rw [sv_args] at hl0
    have K2 := K s.heap [] _ hH va_S.rf hl0
    have K3 : W p l e { frames := fr, cells := mc, slots := ms, locals := lo } s m (vs.map (sv b)).toArray below meth c s.heap [] 0 0 (EndQ D cA b s below Qa mc ms) (entryFrame m (vs.map (sv b)).toArray maxL) := by
      rw [lg_entry_eq]
      exact K2
    obtain ⟨t, a1, o, b1, b2, b3⟩ := K3 s₁ hh0 (Stand.of_body B)
    exact ⟨t, o, a1, b1, b2, b3⟩
end
section
section JR
variable {p : Program} {l : Launch} {e : Env} {R : Room} {s : State} {m : MethodId} {args : Array Value} {below : List Frame} {meth : Method} {c : Code} {D : va_G} {cA : Nat → ClassId} {b nL : Nat} {Q : State → Prop} {n : Nat} {h : AH} {kc ks pc : Nat} {L : List (Nat × Value)} {st : List Value} {own mn : String} {cc : ByteArray} {ret : Option FieldType} {hh : List (Nat × Nat × Nat × Nat)}
theorem j_iconst (C : Cx p l s m meth c D cA b nL own mn cc ret hh) {z : Int} {v : Int32} (hd : decode cc pc = .ok (.iconst z, 1)) (hv : Int32.ofInt z = v) (k : J p l e R s m args below meth c D cA b nL Q n h kc ks (pc + 1) L (.int v :: st)) : J p l e R s m args below meth c D cA b nL Q n h kc ks pc L st :=
  fun H locs ls hp hS hl => lv_iconst C.1 C.2.1 hd hv (k H locs ls hp hS hl)
theorem j_bipush (C : Cx p l s m meth c D cA b nL own mn cc ret hh) {z : Int} {v : Int32} (hd : decode cc pc = .ok (.bipush z, 2)) (hv : (Int8.ofInt z).toInt32 = v) (k : J p l e R s m args below meth c D cA b nL Q n h kc ks (pc + 2) L (.int v :: st)) : J p l e R s m args below meth c D cA b nL Q n h kc ks pc L st :=
  fun H locs ls hp hS hl => lv_bipush C.1 C.2.1 hd hv (k H locs ls hp hS hl)
theorem j_sipush (C : Cx p l s m meth c D cA b nL own mn cc ret hh) {z : Int} {v : Int32} (hd : decode cc pc = .ok (.sipush z, 3)) (hv : (Int16.ofInt z).toInt32 = v) (k : J p l e R s m args below meth c D cA b nL Q n h kc ks (pc + 3) L (.int v :: st)) : J p l e R s m args below meth c D cA b nL Q n h kc ks pc L st :=
  fun H locs ls hp hS hl => lv_sipush C.1 C.2.1 hd hv (k H locs ls hp hS hl)
theorem j_lconst (C : Cx p l s m meth c D cA b nL own mn cc ret hh) {z : Fin 2} {v : Int64} (hd : decode cc pc = .ok (.lconst z, 1)) (hv : Int64.ofNat (z : Nat) = v) (k : J p l e R s m args below meth c D cA b nL Q n h kc ks (pc + 1) L (.long v :: st)) : J p l e R s m args below meth c D cA b nL Q n h kc ks pc L st :=
  fun H locs ls hp hS hl => lv_lconst C.1 C.2.1 hd hv (k H locs ls hp hS hl)
theorem j_null (C : Cx p l s m meth c D cA b nL own mn cc ret hh)  (hd : decode cc pc = .ok (.aconst_null, 1))  (k : J p l e R s m args below meth c D cA b nL Q n h kc ks (pc + 1) L (.null :: st)) : J p l e R s m args below meth c D cA b nL Q n h kc ks pc L st :=
  fun H locs ls hp hS hl => lv_null C.1 C.2.1 hd (k H locs ls hp hS hl)
theorem j_iload_n (C : Cx p l s m meth c D cA b nL own mn cc ret hh) {i : Fin 4} {j : Nat} {x : Int32} (hd : decode cc pc = .ok (.iload_n i, 1)) (hi : (i : Nat) = j) (hx : List.lookup j L = some (.int x)) (k : J p l e R s m args below meth c D cA b nL Q n h kc ks (pc + 1) L (.int x :: st)) : J p l e R s m args below meth c D cA b nL Q n h kc ks pc L st :=
  fun H locs ls hp hS hl => lv_iload_n C.1 C.2.1 hd hi (sL_at hl hx) (k H locs ls hp hS hl)
theorem j_iload (C : Cx p l s m meth c D cA b nL own mn cc ret hh) {i : Nat} {x : Int32} (hd : decode cc pc = .ok (.iload i, 2)) (hx : List.lookup i L = some (.int x)) (k : J p l e R s m args below meth c D cA b nL Q n h kc ks (pc + 2) L (.int x :: st)) : J p l e R s m args below meth c D cA b nL Q n h kc ks pc L st :=
  fun H locs ls hp hS hl => lv_iload C.1 C.2.1 hd (sL_at hl hx) (k H locs ls hp hS hl)
theorem j_lload_n (C : Cx p l s m meth c D cA b nL own mn cc ret hh) {i : Fin 4} {j : Nat} {x : Int64} (hd : decode cc pc = .ok (.lload_n i, 1)) (hi : (i : Nat) = j) (hx : List.lookup j L = some (.long x)) (k : J p l e R s m args below meth c D cA b nL Q n h kc ks (pc + 1) L (.long x :: st)) : J p l e R s m args below meth c D cA b nL Q n h kc ks pc L st :=
  fun H locs ls hp hS hl => lv_lload_n C.1 C.2.1 hd hi (sL_at hl hx) (k H locs ls hp hS hl)
theorem j_lload (C : Cx p l s m meth c D cA b nL own mn cc ret hh) {i : Nat} {x : Int64} (hd : decode cc pc = .ok (.lload i, 2)) (hx : List.lookup i L = some (.long x)) (k : J p l e R s m args below meth c D cA b nL Q n h kc ks (pc + 2) L (.long x :: st)) : J p l e R s m args below meth c D cA b nL Q n h kc ks pc L st :=
  fun H locs ls hp hS hl => lv_lload C.1 C.2.1 hd (sL_at hl hx) (k H locs ls hp hS hl)
theorem j_aload_n (C : Cx p l s m meth c D cA b nL own mn cc ret hh) {i : Fin 4} {j : Nat} {x : Nat} (hd : decode cc pc = .ok (.aload_n i, 1)) (hi : (i : Nat) = j) (hx : List.lookup j L = some (.ref x)) (k : J p l e R s m args below meth c D cA b nL Q n h kc ks (pc + 1) L (.ref x :: st)) : J p l e R s m args below meth c D cA b nL Q n h kc ks pc L st :=
  fun H locs ls hp hS hl => lv_aload_n C.1 C.2.1 hd hi (sL_at hl hx) (k H locs ls hp hS hl)
theorem j_aload (C : Cx p l s m meth c D cA b nL own mn cc ret hh) {i : Nat} {x : Nat} (hd : decode cc pc = .ok (.aload i, 2)) (hx : List.lookup i L = some (.ref x)) (k : J p l e R s m args below meth c D cA b nL Q n h kc ks (pc + 2) L (.ref x :: st)) : J p l e R s m args below meth c D cA b nL Q n h kc ks pc L st :=
  fun H locs ls hp hS hl => lv_aload C.1 C.2.1 hd (sL_at hl hx) (k H locs ls hp hS hl)
theorem j_istore_n (C : Cx p l s m meth c D cA b nL own mn cc ret hh) {i : Fin 4} {j : Nat} {x : Int32} {L' : List (Nat × Value)} (hd : decode cc pc = .ok (.istore_n i, 1)) (hi : (i : Nat) = j) (hn : j < nL) (hL : sT L j (.int x) = L') (k : J p l e R s m args below meth c D cA b nL Q n h kc ks (pc + 1) L' st) : J p l e R s m args below meth c D cA b nL Q n h kc ks pc L (.int x :: st) := by
  intro H locs ls hp hS hl
  subst hL
  exact lv_istore_n C.1 C.2.1 hd hi hl hn (sL_sT b L j (.int x)) (fun ls hl => k H locs ls hp hS hl)
theorem j_istore (C : Cx p l s m meth c D cA b nL own mn cc ret hh) {i : Nat} {x : Int32} {L' : List (Nat × Value)} (hd : decode cc pc = .ok (.istore i, 2)) (hn : i < nL) (hL : sT L i (.int x) = L') (k : J p l e R s m args below meth c D cA b nL Q n h kc ks (pc + 2) L' st) : J p l e R s m args below meth c D cA b nL Q n h kc ks pc L (.int x :: st) := by
  intro H locs ls hp hS hl
  subst hL
  exact lv_istore C.1 C.2.1 hd hl hn (sL_sT b L i (.int x)) (fun ls hl => k H locs ls hp hS hl)
theorem j_astore_n (C : Cx p l s m meth c D cA b nL own mn cc ret hh) {i : Fin 4} {j : Nat} {x : Nat} {L' : List (Nat × Value)} (hd : decode cc pc = .ok (.astore_n i, 1)) (hi : (i : Nat) = j) (hn : j < nL) (hL : sT L j (.ref x) = L') (k : J p l e R s m args below meth c D cA b nL Q n h kc ks (pc + 1) L' st) : J p l e R s m args below meth c D cA b nL Q n h kc ks pc L (.ref x :: st) := by
  intro H locs ls hp hS hl
  subst hL
  exact lv_astore_n C.1 C.2.1 hd hi hl hn (sL_sT b L j (.ref x)) (fun ls hl => k H locs ls hp hS hl)
theorem j_astore (C : Cx p l s m meth c D cA b nL own mn cc ret hh) {i : Nat} {x : Nat} {L' : List (Nat × Value)} (hd : decode cc pc = .ok (.astore i, 2)) (hn : i < nL) (hL : sT L i (.ref x) = L') (k : J p l e R s m args below meth c D cA b nL Q n h kc ks (pc + 2) L' st) : J p l e R s m args below meth c D cA b nL Q n h kc ks pc L (.ref x :: st) := by
  intro H locs ls hp hS hl
  subst hL
  exact lv_astore C.1 C.2.1 hd hl hn (sL_sT b L i (.ref x)) (fun ls hl => k H locs ls hp hS hl)
theorem j_lstore_n (C : Cx p l s m meth c D cA b nL own mn cc ret hh) {i : Fin 4} {j : Nat} {x : Int64} {L' : List (Nat × Value)} (hd : decode cc pc = .ok (.lstore_n i, 1)) (hi : (i : Nat) = j) (hn : j + 1 < nL) (hL : sT2 L j (.long x) = L') (k : J p l e R s m args below meth c D cA b nL Q n h kc ks (pc + 1) L' st) : J p l e R s m args below meth c D cA b nL Q n h kc ks pc L (.long x :: st) := by
  intro H locs ls hp hS hl
  subst hL
  exact lv_lstore_n C.1 C.2.1 hd hi hl hn (sL_sT2 b L j (.long x)) (fun ls hl => k H locs ls hp hS hl)
theorem j_lstore (C : Cx p l s m meth c D cA b nL own mn cc ret hh) {i : Nat} {x : Int64} {L' : List (Nat × Value)} (hd : decode cc pc = .ok (.lstore i, 2)) (hn : i + 1 < nL) (hL : sT2 L i (.long x) = L') (k : J p l e R s m args below meth c D cA b nL Q n h kc ks (pc + 2) L' st) : J p l e R s m args below meth c D cA b nL Q n h kc ks pc L (.long x :: st) := by
  intro H locs ls hp hS hl
  subst hL
  exact lv_lstore C.1 C.2.1 hd hl hn (sL_sT2 b L i (.long x)) (fun ls hl => k H locs ls hp hS hl)
theorem j_iinc (C : Cx p l s m meth c D cA b nL own mn cc ret hh) {i : Nat} {z : Int} {x v : Int32} {L' : List (Nat × Value)} (hd : decode cc pc = .ok (.iinc i z, 3)) (hx : List.lookup i L = some (.int x)) (hv : x + Int32.ofInt z = v) (hn : i < nL) (hL : sT L i (.int v) = L') (k : J p l e R s m args below meth c D cA b nL Q n h kc ks (pc + 3) L' st) : J p l e R s m args below meth c D cA b nL Q n h kc ks pc L st := by
  intro H locs ls hp hS hl
  subst hL
  obtain ⟨q, hq⟩ := List.getElem?_of_mem (show (i, Value.int x) ∈ sL b L from List.mem_map.mpr ⟨(i, .int x), lk_mem hx, rfl⟩)
  exact lv_iinc C.1 C.2.1 hd hl hq hv hn (sL_sT b L i (.int v)) (fun ls hl => k H locs ls hp hS hl)
theorem j_iadd (C : Cx p l s m meth c D cA b nL own mn cc ret hh) {x y : Int32} (hd : decode cc pc = .ok (.iadd, 1))  (k : J p l e R s m args below meth c D cA b nL Q n h kc ks (pc + 1) L (.int (x + y) :: st)) : J p l e R s m args below meth c D cA b nL Q n h kc ks pc L (.int y :: .int x :: st) :=
  fun H locs ls hp hS hl => lv_iadd C.1 C.2.1 hd (k H locs ls hp hS hl)
theorem j_isub (C : Cx p l s m meth c D cA b nL own mn cc ret hh) {x y : Int32} (hd : decode cc pc = .ok (.isub, 1))  (k : J p l e R s m args below meth c D cA b nL Q n h kc ks (pc + 1) L (.int (x - y) :: st)) : J p l e R s m args below meth c D cA b nL Q n h kc ks pc L (.int y :: .int x :: st) :=
  fun H locs ls hp hS hl => lv_isub C.1 C.2.1 hd (k H locs ls hp hS hl)
theorem j_imul (C : Cx p l s m meth c D cA b nL own mn cc ret hh) {x y : Int32} (hd : decode cc pc = .ok (.imul, 1))  (k : J p l e R s m args below meth c D cA b nL Q n h kc ks (pc + 1) L (.int (x * y) :: st)) : J p l e R s m args below meth c D cA b nL Q n h kc ks pc L (.int y :: .int x :: st) :=
  fun H locs ls hp hS hl => lv_imul C.1 C.2.1 hd (k H locs ls hp hS hl)
theorem j_iand (C : Cx p l s m meth c D cA b nL own mn cc ret hh) {x y : Int32} (hd : decode cc pc = .ok (.iand, 1))  (k : J p l e R s m args below meth c D cA b nL Q n h kc ks (pc + 1) L (.int (x &&& y) :: st)) : J p l e R s m args below meth c D cA b nL Q n h kc ks pc L (.int y :: .int x :: st) :=
  fun H locs ls hp hS hl => lv_iand C.1 C.2.1 hd (k H locs ls hp hS hl)
theorem j_ior (C : Cx p l s m meth c D cA b nL own mn cc ret hh) {x y : Int32} (hd : decode cc pc = .ok (.ior, 1))  (k : J p l e R s m args below meth c D cA b nL Q n h kc ks (pc + 1) L (.int (x ||| y) :: st)) : J p l e R s m args below meth c D cA b nL Q n h kc ks pc L (.int y :: .int x :: st) :=
  fun H locs ls hp hS hl => lv_ior C.1 C.2.1 hd (k H locs ls hp hS hl)
theorem j_ixor (C : Cx p l s m meth c D cA b nL own mn cc ret hh) {x y : Int32} (hd : decode cc pc = .ok (.ixor, 1))  (k : J p l e R s m args below meth c D cA b nL Q n h kc ks (pc + 1) L (.int (x ^^^ y) :: st)) : J p l e R s m args below meth c D cA b nL Q n h kc ks pc L (.int y :: .int x :: st) :=
  fun H locs ls hp hS hl => lv_ixor C.1 C.2.1 hd (k H locs ls hp hS hl)
theorem j_ladd (C : Cx p l s m meth c D cA b nL own mn cc ret hh) {x y : Int64} (hd : decode cc pc = .ok (.ladd, 1))  (k : J p l e R s m args below meth c D cA b nL Q n h kc ks (pc + 1) L (.long (x + y) :: st)) : J p l e R s m args below meth c D cA b nL Q n h kc ks pc L (.long y :: .long x :: st) :=
  fun H locs ls hp hS hl => lv_ladd C.1 C.2.1 hd (k H locs ls hp hS hl)
theorem j_lsub (C : Cx p l s m meth c D cA b nL own mn cc ret hh) {x y : Int64} (hd : decode cc pc = .ok (.lsub, 1))  (k : J p l e R s m args below meth c D cA b nL Q n h kc ks (pc + 1) L (.long (x - y) :: st)) : J p l e R s m args below meth c D cA b nL Q n h kc ks pc L (.long y :: .long x :: st) :=
  fun H locs ls hp hS hl => lv_lsub C.1 C.2.1 hd (k H locs ls hp hS hl)
theorem j_lmul (C : Cx p l s m meth c D cA b nL own mn cc ret hh) {x y : Int64} (hd : decode cc pc = .ok (.lmul, 1))  (k : J p l e R s m args below meth c D cA b nL Q n h kc ks (pc + 1) L (.long (x * y) :: st)) : J p l e R s m args below meth c D cA b nL Q n h kc ks pc L (.long y :: .long x :: st) :=
  fun H locs ls hp hS hl => lv_lmul C.1 C.2.1 hd (k H locs ls hp hS hl)
theorem j_land (C : Cx p l s m meth c D cA b nL own mn cc ret hh) {x y : Int64} (hd : decode cc pc = .ok (.land, 1))  (k : J p l e R s m args below meth c D cA b nL Q n h kc ks (pc + 1) L (.long (x &&& y) :: st)) : J p l e R s m args below meth c D cA b nL Q n h kc ks pc L (.long y :: .long x :: st) :=
  fun H locs ls hp hS hl => lv_land C.1 C.2.1 hd (k H locs ls hp hS hl)
theorem j_lor (C : Cx p l s m meth c D cA b nL own mn cc ret hh) {x y : Int64} (hd : decode cc pc = .ok (.lor, 1))  (k : J p l e R s m args below meth c D cA b nL Q n h kc ks (pc + 1) L (.long (x ||| y) :: st)) : J p l e R s m args below meth c D cA b nL Q n h kc ks pc L (.long y :: .long x :: st) :=
  fun H locs ls hp hS hl => lv_lor C.1 C.2.1 hd (k H locs ls hp hS hl)
theorem j_lxor (C : Cx p l s m meth c D cA b nL own mn cc ret hh) {x y : Int64} (hd : decode cc pc = .ok (.lxor, 1))  (k : J p l e R s m args below meth c D cA b nL Q n h kc ks (pc + 1) L (.long (x ^^^ y) :: st)) : J p l e R s m args below meth c D cA b nL Q n h kc ks pc L (.long y :: .long x :: st) :=
  fun H locs ls hp hS hl => lv_lxor C.1 C.2.1 hd (k H locs ls hp hS hl)
theorem j_idiv (C : Cx p l s m meth c D cA b nL own mn cc ret hh) {x y : Int32} (hd : decode cc pc = .ok (.idiv, 1)) (hne : ¬ y = 0) (k : J p l e R s m args below meth c D cA b nL Q n h kc ks (pc + 1) L (.int (x / y) :: st)) : J p l e R s m args below meth c D cA b nL Q n h kc ks pc L (.int y :: .int x :: st) :=
  fun H locs ls hp hS hl => lv_idiv C.1 C.2.1 hd hne (k H locs ls hp hS hl)
theorem j_irem (C : Cx p l s m meth c D cA b nL own mn cc ret hh) {x y : Int32} (hd : decode cc pc = .ok (.irem, 1)) (hne : ¬ y = 0) (k : J p l e R s m args below meth c D cA b nL Q n h kc ks (pc + 1) L (.int (x - x / y * y) :: st)) : J p l e R s m args below meth c D cA b nL Q n h kc ks pc L (.int y :: .int x :: st) :=
  fun H locs ls hp hS hl => lv_irem C.1 C.2.1 hd hne (k H locs ls hp hS hl)
theorem j_ineg (C : Cx p l s m meth c D cA b nL own mn cc ret hh) {x : Int32} (hd : decode cc pc = .ok (.ineg, 1))  (k : J p l e R s m args below meth c D cA b nL Q n h kc ks (pc + 1) L (.int (-x) :: st)) : J p l e R s m args below meth c D cA b nL Q n h kc ks pc L (.int x :: st) :=
  fun H locs ls hp hS hl => lv_ineg C.1 C.2.1 hd (k H locs ls hp hS hl)
theorem j_ishl (C : Cx p l s m meth c D cA b nL own mn cc ret hh) {x y : Int32} (hd : decode cc pc = .ok (.ishl, 1))  (k : J p l e R s m args below meth c D cA b nL Q n h kc ks (pc + 1) L (.int (x <<< (y &&& 31)) :: st)) : J p l e R s m args below meth c D cA b nL Q n h kc ks pc L (.int y :: .int x :: st) :=
  fun H locs ls hp hS hl => lv_ishl C.1 C.2.1 hd (k H locs ls hp hS hl)
theorem j_ishr (C : Cx p l s m meth c D cA b nL own mn cc ret hh) {x y : Int32} (hd : decode cc pc = .ok (.ishr, 1))  (k : J p l e R s m args below meth c D cA b nL Q n h kc ks (pc + 1) L (.int (x >>> (y &&& 31)) :: st)) : J p l e R s m args below meth c D cA b nL Q n h kc ks pc L (.int y :: .int x :: st) :=
  fun H locs ls hp hS hl => lv_ishr C.1 C.2.1 hd (k H locs ls hp hS hl)
theorem j_iushr (C : Cx p l s m meth c D cA b nL own mn cc ret hh) {x y v : Int32} (hd : decode cc pc = .ok (.iushr, 1)) (hv : (x.toUInt32 >>> (y.toUInt32 &&& Int32.toUInt32 31)).toInt32 = v) (k : J p l e R s m args below meth c D cA b nL Q n h kc ks (pc + 1) L (.int v :: st)) : J p l e R s m args below meth c D cA b nL Q n h kc ks pc L (.int y :: .int x :: st) :=
  fun H locs ls hp hS hl => lv_iushr C.1 C.2.1 hd hv (k H locs ls hp hS hl)
theorem j_lushr (C : Cx p l s m meth c D cA b nL own mn cc ret hh) {x v : Int64} {y : Int32} (hd : decode cc pc = .ok (.lushr, 1)) (hv : (x.toUInt64 >>> (y.toInt64.toUInt64 &&& Int64.toUInt64 63)).toInt64 = v) (k : J p l e R s m args below meth c D cA b nL Q n h kc ks (pc + 1) L (.long v :: st)) : J p l e R s m args below meth c D cA b nL Q n h kc ks pc L (.int y :: .long x :: st) :=
  fun H locs ls hp hS hl => lv_lushr C.1 C.2.1 hd hv (k H locs ls hp hS hl)
theorem j_lshl (C : Cx p l s m meth c D cA b nL own mn cc ret hh) {x v : Int64} {y : Int32} (hd : decode cc pc = .ok (.lshl, 1)) (hv : x <<< (y.toInt64 &&& 63) = v) (k : J p l e R s m args below meth c D cA b nL Q n h kc ks (pc + 1) L (.long v :: st)) : J p l e R s m args below meth c D cA b nL Q n h kc ks pc L (.int y :: .long x :: st) :=
  fun H locs ls hp hS hl => lv_lshl C.1 C.2.1 hd hv (k H locs ls hp hS hl)
theorem j_i2l (C : Cx p l s m meth c D cA b nL own mn cc ret hh) {x : Int32} {v : Int64} (hd : decode cc pc = .ok (.i2l, 1)) (hv : x.toInt64 = v) (k : J p l e R s m args below meth c D cA b nL Q n h kc ks (pc + 1) L (.long v :: st)) : J p l e R s m args below meth c D cA b nL Q n h kc ks pc L (.int x :: st) :=
  fun H locs ls hp hS hl => lv_i2l C.1 C.2.1 hd hv (k H locs ls hp hS hl)
theorem j_l2i (C : Cx p l s m meth c D cA b nL own mn cc ret hh) {x : Int64} {v : Int32} (hd : decode cc pc = .ok (.l2i, 1)) (hv : x.toInt32 = v) (k : J p l e R s m args below meth c D cA b nL Q n h kc ks (pc + 1) L (.int v :: st)) : J p l e R s m args below meth c D cA b nL Q n h kc ks pc L (.long x :: st) :=
  fun H locs ls hp hS hl => lv_l2i C.1 C.2.1 hd hv (k H locs ls hp hS hl)
theorem j_i2b (C : Cx p l s m meth c D cA b nL own mn cc ret hh) {x v : Int32} (hd : decode cc pc = .ok (.i2b, 1)) (hv : x.toInt8.toInt32 = v) (k : J p l e R s m args below meth c D cA b nL Q n h kc ks (pc + 1) L (.int v :: st)) : J p l e R s m args below meth c D cA b nL Q n h kc ks pc L (.int x :: st) :=
  fun H locs ls hp hS hl => lv_i2b C.1 C.2.1 hd hv (k H locs ls hp hS hl)
theorem j_i2c (C : Cx p l s m meth c D cA b nL own mn cc ret hh) {x v : Int32} (hd : decode cc pc = .ok (.i2c, 1)) (hv : (x.toUInt32 % 65536).toInt32 = v) (k : J p l e R s m args below meth c D cA b nL Q n h kc ks (pc + 1) L (.int v :: st)) : J p l e R s m args below meth c D cA b nL Q n h kc ks pc L (.int x :: st) :=
  fun H locs ls hp hS hl => lv_i2c C.1 C.2.1 hd hv (k H locs ls hp hS hl)
theorem j_dup (C : Cx p l s m meth c D cA b nL own mn cc ret hh) {v : Value} (hd : decode cc pc = .ok (.dup, 1)) (hv : v.category = 1) (k : J p l e R s m args below meth c D cA b nL Q n h kc ks (pc + 1) L (v :: v :: st)) : J p l e R s m args below meth c D cA b nL Q n h kc ks pc L (v :: st) :=
  fun H locs ls hp hS hl => lv_dup C.1 C.2.1 hd ((sv_cat b v).trans hv) (k H locs ls hp hS hl)
theorem j_pop (C : Cx p l s m meth c D cA b nL own mn cc ret hh) {v : Value} (hd : decode cc pc = .ok (.pop, 1)) (hv : v.category = 1) (k : J p l e R s m args below meth c D cA b nL Q n h kc ks (pc + 1) L st) : J p l e R s m args below meth c D cA b nL Q n h kc ks pc L (v :: st) :=
  fun H locs ls hp hS hl => lv_pop C.1 C.2.1 hd ((sv_cat b v).trans hv) (k H locs ls hp hS hl)
theorem j_dup_x1 (C : Cx p l s m meth c D cA b nL own mn cc ret hh) {v w : Value} (hd : decode cc pc = .ok (.dup_x1, 1)) (hv : v.category = 1) (hw : w.category = 1) (k : J p l e R s m args below meth c D cA b nL Q n h kc ks (pc + 1) L (v :: w :: v :: st)) : J p l e R s m args below meth c D cA b nL Q n h kc ks pc L (v :: w :: st) :=
  fun H locs ls hp hS hl => lv_dup_x1 C.1 C.2.1 hd ((sv_cat b v).trans hv) ((sv_cat b w).trans hw) (k H locs ls hp hS hl)
theorem j_dup_x2 (C : Cx p l s m meth c D cA b nL own mn cc ret hh) {v w z : Value} (hd : decode cc pc = .ok (.dup_x2, 1)) (hv : v.category = 1) (hw : w.category = 1) (hz : z.category = 1) (k : J p l e R s m args below meth c D cA b nL Q n h kc ks (pc + 1) L (v :: w :: z :: v :: st)) : J p l e R s m args below meth c D cA b nL Q n h kc ks pc L (v :: w :: z :: st) :=
  fun H locs ls hp hS hl => lv_dup_x2 C.1 C.2.1 hd ((sv_cat b v).trans hv) ((sv_cat b w).trans hw) ((sv_cat b z).trans hz) (k H locs ls hp hS hl)
theorem j_dup2 (C : Cx p l s m meth c D cA b nL own mn cc ret hh) {v w : Value} (hd : decode cc pc = .ok (.dup2, 1)) (hv : v.category = 1) (hw : w.category = 1) (k : J p l e R s m args below meth c D cA b nL Q n h kc ks (pc + 1) L (v :: w :: v :: w :: st)) : J p l e R s m args below meth c D cA b nL Q n h kc ks pc L (v :: w :: st) :=
  fun H locs ls hp hS hl => lv_dup2_11 C.1 C.2.1 hd ((sv_cat b v).trans hv) ((sv_cat b w).trans hw) (k H locs ls hp hS hl)
theorem j_goto (C : Cx p l s m meth c D cA b nL own mn cc ret hh) {z : Int} {tgt : Nat} (hd : decode cc pc = .ok (.goto z, 3)) (ht : (pc : Int) + z = (tgt : Int)) (k : J p l e R s m args below meth c D cA b nL Q n h kc ks tgt L st) : J p l e R s m args below meth c D cA b nL Q n h kc ks pc L st :=
  fun H locs ls hp hS hl => lv_goto C.1 C.2.1 hd ht (k H locs ls hp hS hl)
theorem j_if_eq (C : Cx p l s m meth c D cA b nL own mn cc ret hh) {x : Int32} {z : Int} {tgt : Nat} (hd : decode cc pc = .ok (.ifCond .eq z, 3)) (ht : (pc : Int) + z = (tgt : Int)) (k1 : x = 0 → J p l e R s m args below meth c D cA b nL Q n h kc ks tgt L st) (k2 : ¬ x = 0 → J p l e R s m args below meth c D cA b nL Q n h kc ks (pc + 3) L st) : J p l e R s m args below meth c D cA b nL Q n h kc ks pc L (.int x :: st) :=
  fun H locs ls hp hS hl => lv_if_eq C.1 C.2.1 hd ht (fun q => k1 q H locs ls hp hS hl) (fun q => k2 q H locs ls hp hS hl)
theorem j_icmp_eq (C : Cx p l s m meth c D cA b nL own mn cc ret hh) {x y : Int32} {z : Int} {tgt : Nat} (hd : decode cc pc = .ok (.if_icmp .eq z, 3)) (ht : (pc : Int) + z = (tgt : Int)) (k1 : x = y → J p l e R s m args below meth c D cA b nL Q n h kc ks tgt L st) (k2 : ¬ x = y → J p l e R s m args below meth c D cA b nL Q n h kc ks (pc + 3) L st) : J p l e R s m args below meth c D cA b nL Q n h kc ks pc L (.int y :: .int x :: st) :=
  fun H locs ls hp hS hl => lv_icmp_eq C.1 C.2.1 hd ht (fun q => k1 q H locs ls hp hS hl) (fun q => k2 q H locs ls hp hS hl)
theorem j_if_ne (C : Cx p l s m meth c D cA b nL own mn cc ret hh) {x : Int32} {z : Int} {tgt : Nat} (hd : decode cc pc = .ok (.ifCond .ne z, 3)) (ht : (pc : Int) + z = (tgt : Int)) (k1 : ¬ x = 0 → J p l e R s m args below meth c D cA b nL Q n h kc ks tgt L st) (k2 : x = 0 → J p l e R s m args below meth c D cA b nL Q n h kc ks (pc + 3) L st) : J p l e R s m args below meth c D cA b nL Q n h kc ks pc L (.int x :: st) :=
  fun H locs ls hp hS hl => lv_if_ne C.1 C.2.1 hd ht (fun q => k1 q H locs ls hp hS hl) (fun q => k2 q H locs ls hp hS hl)
theorem j_icmp_ne (C : Cx p l s m meth c D cA b nL own mn cc ret hh) {x y : Int32} {z : Int} {tgt : Nat} (hd : decode cc pc = .ok (.if_icmp .ne z, 3)) (ht : (pc : Int) + z = (tgt : Int)) (k1 : ¬ x = y → J p l e R s m args below meth c D cA b nL Q n h kc ks tgt L st) (k2 : x = y → J p l e R s m args below meth c D cA b nL Q n h kc ks (pc + 3) L st) : J p l e R s m args below meth c D cA b nL Q n h kc ks pc L (.int y :: .int x :: st) :=
  fun H locs ls hp hS hl => lv_icmp_ne C.1 C.2.1 hd ht (fun q => k1 q H locs ls hp hS hl) (fun q => k2 q H locs ls hp hS hl)
theorem j_if_lt (C : Cx p l s m meth c D cA b nL own mn cc ret hh) {x : Int32} {z : Int} {tgt : Nat} (hd : decode cc pc = .ok (.ifCond .lt z, 3)) (ht : (pc : Int) + z = (tgt : Int)) (k1 : x < 0 → J p l e R s m args below meth c D cA b nL Q n h kc ks tgt L st) (k2 : ¬ x < 0 → J p l e R s m args below meth c D cA b nL Q n h kc ks (pc + 3) L st) : J p l e R s m args below meth c D cA b nL Q n h kc ks pc L (.int x :: st) :=
  fun H locs ls hp hS hl => lv_if_lt C.1 C.2.1 hd ht (fun q => k1 q H locs ls hp hS hl) (fun q => k2 q H locs ls hp hS hl)
theorem j_icmp_lt (C : Cx p l s m meth c D cA b nL own mn cc ret hh) {x y : Int32} {z : Int} {tgt : Nat} (hd : decode cc pc = .ok (.if_icmp .lt z, 3)) (ht : (pc : Int) + z = (tgt : Int)) (k1 : x < y → J p l e R s m args below meth c D cA b nL Q n h kc ks tgt L st) (k2 : ¬ x < y → J p l e R s m args below meth c D cA b nL Q n h kc ks (pc + 3) L st) : J p l e R s m args below meth c D cA b nL Q n h kc ks pc L (.int y :: .int x :: st) :=
  fun H locs ls hp hS hl => lv_icmp_lt C.1 C.2.1 hd ht (fun q => k1 q H locs ls hp hS hl) (fun q => k2 q H locs ls hp hS hl)
theorem j_if_ge (C : Cx p l s m meth c D cA b nL own mn cc ret hh) {x : Int32} {z : Int} {tgt : Nat} (hd : decode cc pc = .ok (.ifCond .ge z, 3)) (ht : (pc : Int) + z = (tgt : Int)) (k1 : 0 ≤ x → J p l e R s m args below meth c D cA b nL Q n h kc ks tgt L st) (k2 : ¬ 0 ≤ x → J p l e R s m args below meth c D cA b nL Q n h kc ks (pc + 3) L st) : J p l e R s m args below meth c D cA b nL Q n h kc ks pc L (.int x :: st) :=
  fun H locs ls hp hS hl => lv_if_ge C.1 C.2.1 hd ht (fun q => k1 q H locs ls hp hS hl) (fun q => k2 q H locs ls hp hS hl)
theorem j_icmp_ge (C : Cx p l s m meth c D cA b nL own mn cc ret hh) {x y : Int32} {z : Int} {tgt : Nat} (hd : decode cc pc = .ok (.if_icmp .ge z, 3)) (ht : (pc : Int) + z = (tgt : Int)) (k1 : y ≤ x → J p l e R s m args below meth c D cA b nL Q n h kc ks tgt L st) (k2 : ¬ y ≤ x → J p l e R s m args below meth c D cA b nL Q n h kc ks (pc + 3) L st) : J p l e R s m args below meth c D cA b nL Q n h kc ks pc L (.int y :: .int x :: st) :=
  fun H locs ls hp hS hl => lv_icmp_ge C.1 C.2.1 hd ht (fun q => k1 q H locs ls hp hS hl) (fun q => k2 q H locs ls hp hS hl)
theorem j_if_gt (C : Cx p l s m meth c D cA b nL own mn cc ret hh) {x : Int32} {z : Int} {tgt : Nat} (hd : decode cc pc = .ok (.ifCond .gt z, 3)) (ht : (pc : Int) + z = (tgt : Int)) (k1 : 0 < x → J p l e R s m args below meth c D cA b nL Q n h kc ks tgt L st) (k2 : ¬ 0 < x → J p l e R s m args below meth c D cA b nL Q n h kc ks (pc + 3) L st) : J p l e R s m args below meth c D cA b nL Q n h kc ks pc L (.int x :: st) :=
  fun H locs ls hp hS hl => lv_if_gt C.1 C.2.1 hd ht (fun q => k1 q H locs ls hp hS hl) (fun q => k2 q H locs ls hp hS hl)
theorem j_icmp_gt (C : Cx p l s m meth c D cA b nL own mn cc ret hh) {x y : Int32} {z : Int} {tgt : Nat} (hd : decode cc pc = .ok (.if_icmp .gt z, 3)) (ht : (pc : Int) + z = (tgt : Int)) (k1 : y < x → J p l e R s m args below meth c D cA b nL Q n h kc ks tgt L st) (k2 : ¬ y < x → J p l e R s m args below meth c D cA b nL Q n h kc ks (pc + 3) L st) : J p l e R s m args below meth c D cA b nL Q n h kc ks pc L (.int y :: .int x :: st) :=
  fun H locs ls hp hS hl => lv_icmp_gt C.1 C.2.1 hd ht (fun q => k1 q H locs ls hp hS hl) (fun q => k2 q H locs ls hp hS hl)
theorem j_if_le (C : Cx p l s m meth c D cA b nL own mn cc ret hh) {x : Int32} {z : Int} {tgt : Nat} (hd : decode cc pc = .ok (.ifCond .le z, 3)) (ht : (pc : Int) + z = (tgt : Int)) (k1 : x ≤ 0 → J p l e R s m args below meth c D cA b nL Q n h kc ks tgt L st) (k2 : ¬ x ≤ 0 → J p l e R s m args below meth c D cA b nL Q n h kc ks (pc + 3) L st) : J p l e R s m args below meth c D cA b nL Q n h kc ks pc L (.int x :: st) :=
  fun H locs ls hp hS hl => lv_if_le C.1 C.2.1 hd ht (fun q => k1 q H locs ls hp hS hl) (fun q => k2 q H locs ls hp hS hl)
theorem j_icmp_le (C : Cx p l s m meth c D cA b nL own mn cc ret hh) {x y : Int32} {z : Int} {tgt : Nat} (hd : decode cc pc = .ok (.if_icmp .le z, 3)) (ht : (pc : Int) + z = (tgt : Int)) (k1 : x ≤ y → J p l e R s m args below meth c D cA b nL Q n h kc ks tgt L st) (k2 : ¬ x ≤ y → J p l e R s m args below meth c D cA b nL Q n h kc ks (pc + 3) L st) : J p l e R s m args below meth c D cA b nL Q n h kc ks pc L (.int y :: .int x :: st) :=
  fun H locs ls hp hS hl => lv_icmp_le C.1 C.2.1 hd ht (fun q => k1 q H locs ls hp hS hl) (fun q => k2 q H locs ls hp hS hl)
theorem j_ifnonnull (C : Cx p l s m meth c D cA b nL own mn cc ret hh) {x : Nat} {z : Int} {tgt : Nat} (hd : decode cc pc = .ok (.ifnonnull z, 3)) (ht : (pc : Int) + z = (tgt : Int)) (k : J p l e R s m args below meth c D cA b nL Q n h kc ks tgt L st) : J p l e R s m args below meth c D cA b nL Q n h kc ks pc L (.ref x :: st) :=
  fun H locs ls hp hS hl => lv_ifnonnull C.1 C.2.1 hd ht (k H locs ls hp hS hl)
theorem j_ifnullN (C : Cx p l s m meth c D cA b nL own mn cc ret hh)  {z : Int} {tgt : Nat} (hd : decode cc pc = .ok (.ifnull z, 3)) (ht : (pc : Int) + z = (tgt : Int)) (k : J p l e R s m args below meth c D cA b nL Q n h kc ks tgt L st) : J p l e R s m args below meth c D cA b nL Q n h kc ks pc L (.null :: st) :=
  fun H locs ls hp hS hl => lv_ifnullN C.1 C.2.1 hd ht (k H locs ls hp hS hl)
theorem j_ifnull (C : Cx p l s m meth c D cA b nL own mn cc ret hh) {x : Nat} {z : Int} (hd : decode cc pc = .ok (.ifnull z, 3)) (k : J p l e R s m args below meth c D cA b nL Q n h kc ks (pc + 3) L st) : J p l e R s m args below meth c D cA b nL Q n h kc ks pc L (.ref x :: st) :=
  fun H locs ls hp hS hl => lv_ifnull C.1 C.2.1 hd (k H locs ls hp hS hl)
theorem j_ifnonnullN (C : Cx p l s m meth c D cA b nL own mn cc ret hh)  {z : Int} (hd : decode cc pc = .ok (.ifnonnull z, 3)) (k : J p l e R s m args below meth c D cA b nL Q n h kc ks (pc + 3) L st) : J p l e R s m args below meth c D cA b nL Q n h kc ks pc L (.null :: st) :=
  fun H locs ls hp hS hl => lv_ifnonnullN C.1 C.2.1 hd (k H locs ls hp hS hl)
end JR
end
section
/-! ===== fields, arrays, new ===== -/
/-- field k of class ci, as the entry 'index' of the class 'own' names it -/
def FL (own : String) (index ci k : Nat) : Prop := ∃ (C : String) (T : u_T) (N : Nat), g_cl[ci]? = some (C, T, N) ∧ k < N ∧ (∀ w ∈ u_ws C T N, w ∈ g_ws) ∧ (Cond.fieldLink own index (T k).1 (T k).2.1 (T k).2.2.1 ∈ g_ws ∨ ∃ host : String, Cond.fieldLinkNest own index (T k).1 (T k).2.1 (T k).2.2.1 host ∈ g_ws)
/-- .. and what may be stored there -/
def FP (own : String) (index ci k : Nat) (fin : Bool) (ty : FieldType) : Prop := ∃ (C : String) (T : u_T) (N : Nat) (t0 : Nat → FieldType), g_cl[ci]? = some (C, T, N) ∧ k < N ∧ (∀ w ∈ u_ws C T N, w ∈ g_ws) ∧ (Cond.fieldLink own index (T k).1 (T k).2.1 (T k).2.2.1 ∈ g_ws ∨ (fin = false ∧ ∃ host : String, Cond.fieldLinkNest own index (T k).1 (T k).2.1 (T k).2.2.1 host ∈ g_ws)) ∧ (∀ j, j < N → parseFieldDescriptor (T j).2.2.1 = some (t0 j)) ∧ (∀ i, i < N → ∀ j, j < N → i ≠ j → (T i).2.1 ≠ (T j).2.1) ∧ (T k).2.2.2 = fin ∧ t0 k = ty ∧ (fin = true → (T k).1 = own)
theorem sv_narrow {b : Nat} {ty : FieldType} {v : Value} (h : narrow ty v = v) : narrow ty (sv b v) = sv b v := by
  cases v with
  | ref a => cases ty <;> first | rfl | (simp [narrow] at h)
  | _ => exact h
theorem sv_fits {b : Nat} {ty : FieldType} {v : Value} (h : fits ty v = true) : fits ty (sv b v) = true := by
  cases v with
  | ref a => cases ty <;> first | rfl | (simp [fits] at h)
  | _ => exact h
section JM
variable {p : Program} {l : Launch} {e : Env} {R : Room} {s : State} {m : MethodId} {args : Array Value} {below : List Frame} {meth : Method} {c : Code} {D : va_G} {cA : Nat → ClassId} {b nL : Nat} {Q : State → Prop} {n : Nat} {h : AH} {kc ks pc : Nat} {L : List (Nat × Value)} {st : List Value} {own mn : String} {cc : ByteArray} {ret : Option FieldType} {hh : List (Nat × Nat × Nat × Nat)}
theorem Cx.w (C : Cx p l s m meth c D cA b nL own mn cc ret hh) {w : Cond} (hw : w ∈ g_ws) (ho : w.onTables = true) (a : Array Value) : w.before a s = true := va_tabs ho rfl (C.2.2.2.2.1.1 w hw)
theorem Cx.ws (C : Cx p l s m meth c D cA b nL own mn cc ret hh) {ws : List Cond} (hw : ∀ w ∈ ws, w ∈ g_ws) (ho : ∀ w ∈ ws, w.onTables = true) (a : Array Value) : ∀ w ∈ ws, w.before a s = true := fun w h => C.w (hw w h) (ho w h) a
theorem u_ws_on (C : String) (T : u_T) (N : Nat) : ∀ w ∈ u_ws C T N, w.onTables = true := by
  intro w hw
  obtain ⟨k, -, rfl⟩ := List.mem_map.mp hw
  unfold u_lay
  split <;> rfl
theorem Hp.obj {H : Heap} (hp : Hp D cA b n h H) {a : Nat} (ha : a < n) {x : AC} (hx : h a = x) : (wO b cA n h)[a]? = some (b + a, toE b cA x) := by rw [← hx]; exact wO_get ha
theorem Hp.up {H H1 : Heap} (hp : Hp D cA b n h H) {a : Nat} (ha : a < n) {x : AC} (hz : H1.size = H.size) (hP : va_P D g_cl ((wO b cA n h).set a (b + a, toE b cA x)) H1) : Hp D cA b n (hu h a x) H1 := ⟨hz.trans hp.1, by rw [← wO_set ha x]; exact hP⟩
theorem j_get (C : Cx p l s m meth c D cA b nL own mn cc ret hh) {index ci k a : Nat} {fs : List Value} {v : Value} (hF : FL own index ci k) (hd : decode cc pc = .ok (.getfield index, 3)) (ha : a < n) (hx : h a = .inr (ci, fs)) (hv : fs[k]? = some v) (kk : J p l e R s m args below meth c D cA b nL Q n h kc ks (pc + 3) L (v :: st)) : J p l e R s m args below meth c D cA b nL Q n h kc ks pc L (.ref a :: st) := by
  intro H locs ls hp hS hl
  obtain ⟨Cl, T, N, h1, h2, h3, h4⟩ := hF
  have hts := C.ws h3 (u_ws_on Cl T N) args
  have hg := hp.obj ha hx
  have hv' : (fs.map (sv b))[k]? = some (sv b v) := by rw [List.getElem?_map, hv]; rfl
  rcases h4 with h4 | ⟨host, h4⟩
  · exact va_get C.1 C.2.1 hts (fun _ q => q) C.2.2.2.1 C.2.2.2.2.1.2.1 hp.2 a hg h1 k h2 (C.w h4 rfl args) (fun _ q => q) hv' hd (kk H locs ls hp hS hl)
  · exact va_getN C.1 C.2.1 hts (fun _ q => q) C.2.2.2.1 C.2.2.2.2.1.2.1 hp.2 a hg h1 k h2 (C.w h4 rfl args) (fun _ q => q) hv' hd (kk H locs ls hp hS hl)
theorem S_put {H H1 : Heap} {locs : List Loc} {x : Loc} (hS : va_S (fun q => b ≤ q) s.heap H locs) (hz : H1.size = H.size) (oq : ∀ q, q ≠ x.base → H1[q]? = H[q]?) (hx : b ≤ x.base) : va_S (fun q => b ≤ q) s.heap H1 (locs ++ [x]) := by
  refine ⟨by rw [hz]; exact hS.1, fun q h1 h2 => ?_, fun y hy => ?_⟩
  · rw [oq q (fun e => h2 (by rw [e]; exact hx))]; exact hS.2.1 q h1 h2
  · rcases List.mem_append.mp hy with h | h
    · exact hS.2.2 y h
    · rw [List.mem_singleton] at h; subst h; exact hx
theorem j_put (C : Cx p l s m meth c D cA b nL own mn cc ret hh) {index ci k a : Nat} {ty : FieldType} {fs fs' : List Value} {v : Value} (hF : FP own index ci k false ty) (hd : decode cc pc = .ok (.putfield index, 3)) (ha : a < n) (hx : h a = .inr (ci, fs)) (hl : k < fs.length) (hn : narrow ty v = v) (hf : fits ty v = true) (hfs : fs.set k v = fs') (kk : J p l e R s m args below meth c D cA b nL Q n (hu h a (.inr (ci, fs'))) kc ks (pc + 3) L st) : J p l e R s m args below meth c D cA b nL Q n h kc ks pc L (v :: .ref a :: st) := by
  intro H locs ls hp hS hl'
  subst hfs
  obtain ⟨Cl, T, N, t0, h1, h2, h3, h4, hty, hnm, hfin, rfl, -⟩ := hF
  have hts := C.ws h3 (u_ws_on Cl T N) args
  have hg := hp.obj ha hx
  have hK := C.2.2.2.2.1.2.1
  have hap := va_apart (own := own) hts (fun _ q => q) t0 hty hnm hK h1
  obtain ⟨r, g1, cell, q1, q2, q3, q4⟩ := hp.2 a _ hg
  cases Option.some.inj (g1.symm.trans h1)
  obtain ⟨hSl, hfc, kC, hkC, hkind⟩ := hK.1 ci _ h1
  obtain ⟨cf, kf, fi, f, hi, hsl⟩ := hSl k h2
  have hlay := hts _ (u_in_lay h2)
  unfold u_lay at hlay
  rw [if_neg (by rw [hfin]; decide)] at hlay
  have hst := (u_facts hfc hkC (u_lays hts (fun _ q => q) h2) hi).1
  have h6 := u_store hfc hkC hkind hlay hi (hty k h2) (sv_narrow (b := b) hn) (sv_fits (b := b) hf)
  have go : ∀ H' : Heap, H'[b + a]? = some (cell.setSlot f.slot (sv b v)) → H'.size = H.size → (∀ q, q ≠ b + a → H'[q]? = H[q]?) → W p l e R s m args below meth c H' (locs ++ [⟨b + a, f.slot⟩]) kc ks Q (F0 m (pc + 3) ls (st.map (sv b))) := by
    intro H' e1 e2 e3
    refine kk H' _ ls (hp.up ha e2 (hp.2.set (wO_D b cA n h) hg ⟨_, h1, ?_⟩ e3)) (S_put hS e2 e3 (Nat.le_add_right b a)) hl'
    rw [hsl] at e1
    refine t_OB.to (V := updV (vp_V (fs.map (sv b))) k (sv b v)) ⟨_, e1, q2, q3, t_set q4 hap h2 (sv b v)⟩ (fun j _ => ?_)
    rw [vp_updV_set (by simpa using hl), List.map_set]
  rcases h4 with h4 | ⟨-, host, h4⟩
  · exact W.putK C.1 C.2.1 (f := f) ⟨C.2.2.2.1, C.w h4 rfl args, ⟨_, _, _, hi⟩, hst⟩ (by rw [q2]; exact h6) q1 q3 (by rw [hsl]; exact k2_hasslot (q4 k h2)) rfl rfl hd go
  · exact va_WputK C.1 C.2.1 (f := f) C.2.2.2.1 (C.w h4 rfl args) hi hst (by rw [q2]; exact h6) q1 q3 (by rw [hsl]; exact k2_hasslot (q4 k h2)) rfl rfl hd go
theorem j_putF (C : Cx p l s m meth c D cA b nL own mn cc ret hh) {index ci k a : Nat} {ty : FieldType} {fs fs' : List Value} {v : Value} (hF : FP own index ci k true ty) (hmn : mn = "<init>") (hd : decode cc pc = .ok (.putfield index, 3)) (ha : a < n) (hx : h a = .inr (ci, fs)) (hl : k < fs.length) (hn : narrow ty v = v) (hf : fits ty v = true) (hfs : fs.set k v = fs') (kk : J p l e R s m args below meth c D cA b nL Q n (hu h a (.inr (ci, fs'))) kc ks (pc + 3) L st) : J p l e R s m args below meth c D cA b nL Q n h kc ks pc L (v :: .ref a :: st) := by
  intro H locs ls hp hS hl'
  subst hfs
  obtain ⟨Cl, T, N, t0, h1, h2, h3, h4, hty, hnm, hfin, rfl, hdecl⟩ := hF
  have hts := C.ws h3 (u_ws_on Cl T N) args
  have hg := hp.obj ha hx
  have hK := C.2.2.2.2.1.2.1
  have hap := va_apart (own := own) hts (fun _ q => q) t0 hty hnm hK h1
  obtain ⟨r, g1, cell, q1, q2, q3, q4⟩ := hp.2 a _ hg
  cases Option.some.inj (g1.symm.trans h1)
  obtain ⟨hSl, hfc, kC, hkC, hkind⟩ := hK.1 ci _ h1
  obtain ⟨cf, kf, fi, f, hi, hsl⟩ := hSl k h2
  have hlay := hts _ (u_in_lay h2)
  unfold u_lay at hlay
  rw [if_pos hfin] at hlay
  have hst := (u_facts hfc hkC (u_lays hts (fun _ q => q) h2) hi).1
  have hcf : m.cls = cf := by
    obtain ⟨_, _, c', _, _, _, -, -, hf', -, -, -, hown2, -⟩ := Cond.laysFinal_spec hlay
    have e1 : c' = cf := by have := hi.symm.trans hf'; simp at this; exact this.1.symm
    rw [hdecl rfl] at hown2
    rw [← e1]; exact Option.some.inj (C.2.2.2.1.symm.trans hown2)
  have h6 := u_fits hfc hkC hkind (Or.inr hlay) hi (hty k h2) (sv_narrow (b := b) hn) (sv_fits (b := b) hf)
  have go : ∀ H' : Heap, H'[b + a]? = some (cell.setSlot f.slot (sv b v)) → H'.size = H.size → (∀ q, q ≠ b + a → H'[q]? = H[q]?) → W p l e R s m args below meth c H' (locs ++ [⟨b + a, f.slot⟩]) kc ks Q (F0 m (pc + 3) ls (st.map (sv b))) := by
    intro H' e1 e2 e3
    refine kk H' _ ls (hp.up ha e2 (hp.2.set (wO_D b cA n h) hg ⟨_, h1, ?_⟩ e3)) (S_put hS e2 e3 (Nat.le_add_right b a)) hl'
    rw [hsl] at e1
    refine t_OB.to (V := updV (vp_V (fs.map (sv b))) k (sv b v)) ⟨_, e1, q2, q3, t_set q4 hap h2 (sv b v)⟩ (fun j _ => ?_)
    rw [vp_updV_set (by simpa using hl), List.map_set]
  rcases h4 with h4 | ⟨h4, -⟩
  · exact W.putFinK C.1 C.2.1 C.2.2.2.1 (C.w h4 rfl args) hi hst hcf (C.2.2.2.2.2.2.2.2.2.trans hmn) (by rw [q2]; exact h6) q1 q3 (by rw [hsl]; exact k2_hasslot (q4 k h2)) rfl rfl hd go
  · cases h4
theorem j_iald (C : Cx p l s m meth c D cA b nL own mn cc ret hh) {t a N : Nat} {f : Nat → Int32} {i v : Int32} (hd : decode cc pc = .ok (.iaload, 1)) (ht : (g_ty cA)[t]? = some (cA t, .int)) (ha : a < n) (hx : h a = .inl (t, N, .inl f)) (hi : vp_in i N) (hv : f i.toNatClampNeg = v) (kk : J p l e R s m args below meth c D cA b nL Q n h kc ks (pc + 1) L (.int v :: st)) : J p l e R s m args below meth c D cA b nL Q n h kc ks pc L (.int i :: .ref a :: st) := by
  intro H locs ls hp hS hl
  subst hv
  exact va_iald C.1 C.2.1 C.2.2.2.2.1.2.1 hp.2 a t (hp.obj ha hx) ht hi hd (kk H locs ls hp hS hl)
theorem j_bald (C : Cx p l s m meth c D cA b nL own mn cc ret hh) {t a N : Nat} {f : Nat → Int32} {i v : Int32} (hd : decode cc pc = .ok (.baload, 1)) (ht : (g_ty cA)[t]? = some (cA t, .byte)) (ha : a < n) (hx : h a = .inl (t, N, .inl f)) (hi : vp_in i N) (hv : f i.toNatClampNeg = v) (kk : J p l e R s m args below meth c D cA b nL Q n h kc ks (pc + 1) L (.int v :: st)) : J p l e R s m args below meth c D cA b nL Q n h kc ks pc L (.int i :: .ref a :: st) := by
  intro H locs ls hp hS hl
  subst hv
  exact va_bald C.1 C.2.1 C.2.2.2.2.1.2.1 hp.2 a t (hp.obj ha hx) ht hi hd (kk H locs ls hp hS hl)
theorem j_zald (C : Cx p l s m meth c D cA b nL own mn cc ret hh) {t a N : Nat} {f : Nat → Int32} {i v : Int32} (hd : decode cc pc = .ok (.baload, 1)) (ht : (g_ty cA)[t]? = some (cA t, .boolean)) (ha : a < n) (hx : h a = .inl (t, N, .inl f)) (hi : vp_in i N) (hv : f i.toNatClampNeg = v) (kk : J p l e R s m args below meth c D cA b nL Q n h kc ks (pc + 1) L (.int v :: st)) : J p l e R s m args below meth c D cA b nL Q n h kc ks pc L (.int i :: .ref a :: st) := by
  intro H locs ls hp hS hl
  subst hv
  exact va_zald C.1 C.2.1 C.2.2.2.2.1.2.1 hp.2 a t (hp.obj ha hx) ht hi hd (kk H locs ls hp hS hl)
theorem j_cald (C : Cx p l s m meth c D cA b nL own mn cc ret hh) {t a N : Nat} {f : Nat → Int32} {i v : Int32} (hd : decode cc pc = .ok (.caload, 1)) (ht : (g_ty cA)[t]? = some (cA t, .char)) (ha : a < n) (hx : h a = .inl (t, N, .inl f)) (hi : vp_in i N) (hv : f i.toNatClampNeg = v) (kk : J p l e R s m args below meth c D cA b nL Q n h kc ks (pc + 1) L (.int v :: st)) : J p l e R s m args below meth c D cA b nL Q n h kc ks pc L (.int i :: .ref a :: st) := by
  intro H locs ls hp hS hl
  subst hv
  exact va_cald C.1 C.2.1 C.2.2.2.2.1.2.1 hp.2 a t (hp.obj ha hx) ht hi hd (kk H locs ls hp hS hl)
theorem j_iast (C : Cx p l s m meth c D cA b nL own mn cc ret hh) {t a N : Nat} {f f' : Nat → Int32} {i x : Int32} (hd : decode cc pc = .ok (.iastore, 1)) (ht : (g_ty cA)[t]? = some (cA t, .int)) (ha : a < n) (hx : h a = .inl (t, N, .inl f)) (hi : vp_in i N) (hf : upd f i.toNatClampNeg x = f') (kk : J p l e R s m args below meth c D cA b nL Q n (hu h a (.inl (t, N, .inl f'))) kc ks (pc + 1) L st) : J p l e R s m args below meth c D cA b nL Q n h kc ks pc L (.int x :: .int i :: .ref a :: st) := by
  intro H locs ls hp hS hl
  subst hf
  have hg := hp.obj ha hx
  refine W.iast C.1 C.2.1 (hp.2 a _ hg) ((C.2.2.2.2.1.2.1.2 t _ ht).1 N (fun j => .int (f j))) (fun q => by cases q) (by show ¬ (i < 0 ∨ (arrV _ _ _).slots.size ≤ _); rw [arrV_size]; exact hi) rfl rfl hd fun H1 e z oq => ?_
  refine kk H1 _ ls (hp.up ha z (hp.2.set (wO_D b cA n h) hg ?_ oq)) (S_put hS z oq (Nat.le_add_right b a)) hl
  show H1[b + a]? = some (vp_cell _ _)
  rw [e]
  show some ((arrV (cA t) N (fun j => .int (f j))).setSlot i.toNatClampNeg _) = some (arrV (cA t) N (fun j => .int (upd f i.toNatClampNeg x j)))
  rw [arrV_store]
  congr 2
  funext q
  by_cases hq : q = i.toNatClampNeg
  · subst hq
    simp [updV, upd, vp_nar]
    try rfl
  · simp [updV, upd, hq]
theorem j_bast (C : Cx p l s m meth c D cA b nL own mn cc ret hh) {t a N : Nat} {f f' : Nat → Int32} {i x : Int32} (hd : decode cc pc = .ok (.bastore, 1)) (ht : (g_ty cA)[t]? = some (cA t, .byte)) (ha : a < n) (hx : h a = .inl (t, N, .inl f)) (hi : vp_in i N) (hf : upd f i.toNatClampNeg (vp_nar .byte x) = f') (kk : J p l e R s m args below meth c D cA b nL Q n (hu h a (.inl (t, N, .inl f'))) kc ks (pc + 1) L st) : J p l e R s m args below meth c D cA b nL Q n h kc ks pc L (.int x :: .int i :: .ref a :: st) := by
  intro H locs ls hp hS hl
  subst hf
  have hg := hp.obj ha hx
  refine W.bast C.1 C.2.1 (hp.2 a _ hg) ((C.2.2.2.2.1.2.1.2 t _ ht).1 N (fun j => .int (f j))) (fun q => by cases q) (by show ¬ (i < 0 ∨ (arrV _ _ _).slots.size ≤ _); rw [arrV_size]; exact hi) rfl rfl hd fun H1 e z oq => ?_
  refine kk H1 _ ls (hp.up ha z (hp.2.set (wO_D b cA n h) hg ?_ oq)) (S_put hS z oq (Nat.le_add_right b a)) hl
  show H1[b + a]? = some (vp_cell _ _)
  rw [e]
  show some ((arrV (cA t) N (fun j => .int (f j))).setSlot i.toNatClampNeg _) = some (arrV (cA t) N (fun j => .int (upd f i.toNatClampNeg (vp_nar .byte x) j)))
  rw [arrV_store]
  congr 2
  funext q
  by_cases hq : q = i.toNatClampNeg
  · subst hq
    simp [updV, upd, vp_nar]
    try rfl
  · simp [updV, upd, hq]
theorem j_zast (C : Cx p l s m meth c D cA b nL own mn cc ret hh) {t a N : Nat} {f f' : Nat → Int32} {i x : Int32} (hd : decode cc pc = .ok (.bastore, 1)) (ht : (g_ty cA)[t]? = some (cA t, .boolean)) (ha : a < n) (hx : h a = .inl (t, N, .inl f)) (hi : vp_in i N) (hf : upd f i.toNatClampNeg (vp_nar .boolean x) = f') (kk : J p l e R s m args below meth c D cA b nL Q n (hu h a (.inl (t, N, .inl f'))) kc ks (pc + 1) L st) : J p l e R s m args below meth c D cA b nL Q n h kc ks pc L (.int x :: .int i :: .ref a :: st) := by
  intro H locs ls hp hS hl
  subst hf
  have hg := hp.obj ha hx
  refine W.zast C.1 C.2.1 (hp.2 a _ hg) ((C.2.2.2.2.1.2.1.2 t _ ht).1 N (fun j => .int (f j))) (fun q => by cases q) (by show ¬ (i < 0 ∨ (arrV _ _ _).slots.size ≤ _); rw [arrV_size]; exact hi) rfl rfl hd fun H1 e z oq => ?_
  refine kk H1 _ ls (hp.up ha z (hp.2.set (wO_D b cA n h) hg ?_ oq)) (S_put hS z oq (Nat.le_add_right b a)) hl
  show H1[b + a]? = some (vp_cell _ _)
  rw [e]
  show some ((arrV (cA t) N (fun j => .int (f j))).setSlot i.toNatClampNeg _) = some (arrV (cA t) N (fun j => .int (upd f i.toNatClampNeg (vp_nar .boolean x) j)))
  rw [arrV_store]
  congr 2
  funext q
  by_cases hq : q = i.toNatClampNeg
  · subst hq
    simp [updV, upd, vp_nar]
    try rfl
  · simp [updV, upd, hq]
theorem j_cast (C : Cx p l s m meth c D cA b nL own mn cc ret hh) {t a N : Nat} {f f' : Nat → Int32} {i x : Int32} (hd : decode cc pc = .ok (.castore, 1)) (ht : (g_ty cA)[t]? = some (cA t, .char)) (ha : a < n) (hx : h a = .inl (t, N, .inl f)) (hi : vp_in i N) (hf : upd f i.toNatClampNeg (vp_nar .char x) = f') (kk : J p l e R s m args below meth c D cA b nL Q n (hu h a (.inl (t, N, .inl f'))) kc ks (pc + 1) L st) : J p l e R s m args below meth c D cA b nL Q n h kc ks pc L (.int x :: .int i :: .ref a :: st) := by
  intro H locs ls hp hS hl
  subst hf
  have hg := hp.obj ha hx
  refine W.cast C.1 C.2.1 (hp.2 a _ hg) ((C.2.2.2.2.1.2.1.2 t _ ht).1 N (fun j => .int (f j))) (fun q => by cases q) (by show ¬ (i < 0 ∨ (arrV _ _ _).slots.size ≤ _); rw [arrV_size]; exact hi) rfl rfl hd fun H1 e z oq => ?_
  refine kk H1 _ ls (hp.up ha z (hp.2.set (wO_D b cA n h) hg ?_ oq)) (S_put hS z oq (Nat.le_add_right b a)) hl
  show H1[b + a]? = some (vp_cell _ _)
  rw [e]
  show some ((arrV (cA t) N (fun j => .int (f j))).setSlot i.toNatClampNeg _) = some (arrV (cA t) N (fun j => .int (upd f i.toNatClampNeg (vp_nar .char x) j)))
  rw [arrV_store]
  congr 2
  funext q
  by_cases hq : q = i.toNatClampNeg
  · subst hq
    simp [updV, upd, vp_nar]
    try rfl
  · simp [updV, upd, hq]
theorem j_alen (C : Cx p l s m meth c D cA b nL own mn cc ret hh) {t a : Nat} {x : vp_A} {ty : FieldType} {v : Int32} (hd : decode cc pc = .ok (.arraylength, 1)) (ht : (g_ty cA)[t]? = some (cA t, ty)) (ha : a < n) (hx : h a = .inl (t, x)) (hv : Int32.ofNat x.1 = v) (kk : J p l e R s m args below meth c D cA b nL Q n h kc ks (pc + 1) L (.int v :: st)) : J p l e R s m args below meth c D cA b nL Q n h kc ks pc L (.ref a :: st) := by
  intro H locs ls hp hS hl
  refine va_alen C.1 C.2.1 C.2.2.2.2.1.2.1 hp.2 a t (hp.obj ha hx) ht ?_ hd (kk H locs ls hp hS hl)
  rw [← hv]
  obtain ⟨N, f | f | f | f | f⟩ := x <;> rfl
end JM
end
section
/-! ===== the fields as each class's entries name them: printed by program ===== -/
theorem fl_1_18 : FL cR1 18 1 0 := ⟨cR1, cT1, 3, rfl, by decide, cw1, Or.inl (g_in (List.mem_of_getElem? (i := 90) (by decide +kernel)) (by decide +kernel))⟩
theorem fp_1_18 : FP cR1 18 1 0 true (.array .byte) := ⟨cR1, cT1, 3, ct1, rfl, by decide, cw1, Or.inl (g_in (List.mem_of_getElem? (i := 90) (by decide +kernel)) (by decide +kernel)), cp1, cn1, rfl, rfl, fun _ => rfl⟩
theorem fl_1_9 : FL cR1 9 1 1 := ⟨cR1, cT1, 3, rfl, by decide, cw1, Or.inl (g_in (List.mem_of_getElem? (i := 91) (by decide +kernel)) (by decide +kernel))⟩
theorem fp_1_9 : FP cR1 9 1 1 false .int := ⟨cR1, cT1, 3, ct1, rfl, by decide, cw1, Or.inl (g_in (List.mem_of_getElem? (i := 91) (by decide +kernel)) (by decide +kernel)), cp1, cn1, rfl, rfl, fun h => by cases h⟩
theorem fl_1_15 : FL cR1 15 1 2 := ⟨cR1, cT1, 3, rfl, by decide, cw1, Or.inl (g_in (List.mem_of_getElem? (i := 92) (by decide +kernel)) (by decide +kernel))⟩
theorem fp_1_15 : FP cR1 15 1 2 false .int := ⟨cR1, cT1, 3, ct1, rfl, by decide, cw1, Or.inl (g_in (List.mem_of_getElem? (i := 92) (by decide +kernel)) (by decide +kernel)), cp1, cn1, rfl, rfl, fun h => by cases h⟩
theorem fl_2_9 : FL cR2 9 2 0 := ⟨cR2, cT2, 7, rfl, by decide, cw2, Or.inl (g_in (List.mem_of_getElem? (i := 108) (by decide +kernel)) (by decide +kernel))⟩
theorem fp_2_9 : FP cR2 9 2 0 false .int := ⟨cR2, cT2, 7, ct2, rfl, by decide, cw2, Or.inl (g_in (List.mem_of_getElem? (i := 108) (by decide +kernel)) (by decide +kernel)), cp2, cn2, rfl, rfl, fun h => by cases h⟩
theorem fl_1_28 : FL cR1 28 2 0 := ⟨cR2, cT2, 7, rfl, by decide, cw2, Or.inr ⟨"ReportChecks2", g_in (List.mem_of_getElem? (i := 109) (by decide +kernel)) (by decide +kernel)⟩⟩
theorem fp_1_28 : FP cR1 28 2 0 false .int := ⟨cR2, cT2, 7, ct2, rfl, by decide, cw2, Or.inr ⟨rfl, "ReportChecks2", g_in (List.mem_of_getElem? (i := 109) (by decide +kernel)) (by decide +kernel)⟩, cp2, cn2, rfl, rfl, fun h => by cases h⟩
theorem fl_0_157 : FL cR0 157 2 0 := ⟨cR2, cT2, 7, rfl, by decide, cw2, Or.inr ⟨"ReportChecks2", g_in (List.mem_of_getElem? (i := 110) (by decide +kernel)) (by decide +kernel)⟩⟩
theorem fp_0_157 : FP cR0 157 2 0 false .int := ⟨cR2, cT2, 7, ct2, rfl, by decide, cw2, Or.inr ⟨rfl, "ReportChecks2", g_in (List.mem_of_getElem? (i := 110) (by decide +kernel)) (by decide +kernel)⟩, cp2, cn2, rfl, rfl, fun h => by cases h⟩
theorem fl_2_15 : FL cR2 15 2 1 := ⟨cR2, cT2, 7, rfl, by decide, cw2, Or.inl (g_in (List.mem_of_getElem? (i := 111) (by decide +kernel)) (by decide +kernel))⟩
theorem fp_2_15 : FP cR2 15 2 1 true (.array .char) := ⟨cR2, cT2, 7, ct2, rfl, by decide, cw2, Or.inl (g_in (List.mem_of_getElem? (i := 111) (by decide +kernel)) (by decide +kernel)), cp2, cn2, rfl, rfl, fun _ => rfl⟩
theorem fl_1_51 : FL cR1 51 2 1 := ⟨cR2, cT2, 7, rfl, by decide, cw2, Or.inr ⟨"ReportChecks2", g_in (List.mem_of_getElem? (i := 112) (by decide +kernel)) (by decide +kernel)⟩⟩
theorem fl_2_19 : FL cR2 19 2 2 := ⟨cR2, cT2, 7, rfl, by decide, cw2, Or.inl (g_in (List.mem_of_getElem? (i := 113) (by decide +kernel)) (by decide +kernel))⟩
theorem fp_2_19 : FP cR2 19 2 2 true (.array .int) := ⟨cR2, cT2, 7, ct2, rfl, by decide, cw2, Or.inl (g_in (List.mem_of_getElem? (i := 113) (by decide +kernel)) (by decide +kernel)), cp2, cn2, rfl, rfl, fun _ => rfl⟩
theorem fl_2_23 : FL cR2 23 2 3 := ⟨cR2, cT2, 7, rfl, by decide, cw2, Or.inl (g_in (List.mem_of_getElem? (i := 114) (by decide +kernel)) (by decide +kernel))⟩
theorem fp_2_23 : FP cR2 23 2 3 true (.array .int) := ⟨cR2, cT2, 7, ct2, rfl, by decide, cw2, Or.inl (g_in (List.mem_of_getElem? (i := 114) (by decide +kernel)) (by decide +kernel)), cp2, cn2, rfl, rfl, fun _ => rfl⟩
theorem fl_2_26 : FL cR2 26 2 4 := ⟨cR2, cT2, 7, rfl, by decide, cw2, Or.inl (g_in (List.mem_of_getElem? (i := 115) (by decide +kernel)) (by decide +kernel))⟩
theorem fp_2_26 : FP cR2 26 2 4 true (.array .int) := ⟨cR2, cT2, 7, ct2, rfl, by decide, cw2, Or.inl (g_in (List.mem_of_getElem? (i := 115) (by decide +kernel)) (by decide +kernel)), cp2, cn2, rfl, rfl, fun _ => rfl⟩
theorem fl_2_29 : FL cR2 29 2 5 := ⟨cR2, cT2, 7, rfl, by decide, cw2, Or.inl (g_in (List.mem_of_getElem? (i := 116) (by decide +kernel)) (by decide +kernel))⟩
theorem fp_2_29 : FP cR2 29 2 5 true (.array .int) := ⟨cR2, cT2, 7, ct2, rfl, by decide, cw2, Or.inl (g_in (List.mem_of_getElem? (i := 116) (by decide +kernel)) (by decide +kernel)), cp2, cn2, rfl, rfl, fun _ => rfl⟩
theorem fl_2_32 : FL cR2 32 2 6 := ⟨cR2, cT2, 7, rfl, by decide, cw2, Or.inl (g_in (List.mem_of_getElem? (i := 117) (by decide +kernel)) (by decide +kernel))⟩
theorem fp_2_32 : FP cR2 32 2 6 true (.array .boolean) := ⟨cR2, cT2, 7, ct2, rfl, by decide, cw2, Or.inl (g_in (List.mem_of_getElem? (i := 117) (by decide +kernel)) (by decide +kernel)), cp2, cn2, rfl, rfl, fun _ => rfl⟩
theorem fl_3_9 : FL cR3 9 3 0 := ⟨cR3, cT3, 3, rfl, by decide, cw3, Or.inl (g_in (List.mem_of_getElem? (i := 141) (by decide +kernel)) (by decide +kernel))⟩
theorem fp_3_9 : FP cR3 9 3 0 true (.array .int) := ⟨cR3, cT3, 3, ct3, rfl, by decide, cw3, Or.inl (g_in (List.mem_of_getElem? (i := 141) (by decide +kernel)) (by decide +kernel)), cp3, cn3, rfl, rfl, fun _ => rfl⟩
theorem fl_0_167 : FL cR0 167 3 0 := ⟨cR3, cT3, 3, rfl, by decide, cw3, Or.inr ⟨"ReportChecks2", g_in (List.mem_of_getElem? (i := 142) (by decide +kernel)) (by decide +kernel)⟩⟩
theorem fl_3_15 : FL cR3 15 3 1 := ⟨cR3, cT3, 3, rfl, by decide, cw3, Or.inl (g_in (List.mem_of_getElem? (i := 143) (by decide +kernel)) (by decide +kernel))⟩
theorem fp_3_15 : FP cR3 15 3 1 true (.array .int) := ⟨cR3, cT3, 3, ct3, rfl, by decide, cw3, Or.inl (g_in (List.mem_of_getElem? (i := 143) (by decide +kernel)) (by decide +kernel)), cp3, cn3, rfl, rfl, fun _ => rfl⟩
theorem fl_0_170 : FL cR0 170 3 1 := ⟨cR3, cT3, 3, rfl, by decide, cw3, Or.inr ⟨"ReportChecks2", g_in (List.mem_of_getElem? (i := 144) (by decide +kernel)) (by decide +kernel)⟩⟩
theorem fl_3_18 : FL cR3 18 3 2 := ⟨cR3, cT3, 3, rfl, by decide, cw3, Or.inl (g_in (List.mem_of_getElem? (i := 145) (by decide +kernel)) (by decide +kernel))⟩
theorem fp_3_18 : FP cR3 18 3 2 false .int := ⟨cR3, cT3, 3, ct3, rfl, by decide, cw3, Or.inl (g_in (List.mem_of_getElem? (i := 145) (by decide +kernel)) (by decide +kernel)), cp3, cn3, rfl, rfl, fun h => by cases h⟩
theorem fl_0_164 : FL cR0 164 3 2 := ⟨cR3, cT3, 3, rfl, by decide, cw3, Or.inr ⟨"ReportChecks2", g_in (List.mem_of_getElem? (i := 146) (by decide +kernel)) (by decide +kernel)⟩⟩
theorem fp_0_164 : FP cR0 164 3 2 false .int := ⟨cR3, cT3, 3, ct3, rfl, by decide, cw3, Or.inr ⟨rfl, "ReportChecks2", g_in (List.mem_of_getElem? (i := 146) (by decide +kernel)) (by decide +kernel)⟩, cp3, cn3, rfl, rfl, fun h => by cases h⟩
theorem fl_4_9 : FL cR4 9 4 0 := ⟨cR4, cT4, 2, rfl, by decide, cw4, Or.inl (g_in (List.mem_of_getElem? (i := 160) (by decide +kernel)) (by decide +kernel))⟩
theorem fp_4_9 : FP cR4 9 4 0 true (.array .byte) := ⟨cR4, cT4, 2, ct4, rfl, by decide, cw4, Or.inl (g_in (List.mem_of_getElem? (i := 160) (by decide +kernel)) (by decide +kernel)), cp4, cn4, rfl, rfl, fun _ => rfl⟩
theorem fl_0_218 : FL cR0 218 4 0 := ⟨cR4, cT4, 2, rfl, by decide, cw4, Or.inr ⟨"ReportChecks2", g_in (List.mem_of_getElem? (i := 161) (by decide +kernel)) (by decide +kernel)⟩⟩
theorem fl_4_15 : FL cR4 15 4 1 := ⟨cR4, cT4, 2, rfl, by decide, cw4, Or.inl (g_in (List.mem_of_getElem? (i := 162) (by decide +kernel)) (by decide +kernel))⟩
theorem fp_4_15 : FP cR4 15 4 1 false .int := ⟨cR4, cT4, 2, ct4, rfl, by decide, cw4, Or.inl (g_in (List.mem_of_getElem? (i := 162) (by decide +kernel)) (by decide +kernel)), cp4, cn4, rfl, rfl, fun h => by cases h⟩
theorem fl_0_213 : FL cR0 213 4 1 := ⟨cR4, cT4, 2, rfl, by decide, cw4, Or.inr ⟨"ReportChecks2", g_in (List.mem_of_getElem? (i := 163) (by decide +kernel)) (by decide +kernel)⟩⟩
theorem fp_0_213 : FP cR0 213 4 1 false .int := ⟨cR4, cT4, 2, ct4, rfl, by decide, cw4, Or.inr ⟨rfl, "ReportChecks2", g_in (List.mem_of_getElem? (i := 163) (by decide +kernel)) (by decide +kernel)⟩, cp4, cn4, rfl, rfl, fun h => by cases h⟩
theorem fl_0_11 : FL cR0 11 0 0 := ⟨cR0, cT0, 14, rfl, by decide, cw0, Or.inl (g_in (List.mem_of_getElem? (i := 169) (by decide +kernel)) (by decide +kernel))⟩
theorem fp_0_11 : FP cR0 11 0 0 true (.array (.object "ReportChecks2$Report")) := ⟨cR0, cT0, 14, ct0, rfl, by decide, cw0, Or.inl (g_in (List.mem_of_getElem? (i := 169) (by decide +kernel)) (by decide +kernel)), cp0, cn0, rfl, rfl, fun _ => rfl⟩
theorem fl_0_15 : FL cR0 15 0 1 := ⟨cR0, cT0, 14, rfl, by decide, cw0, Or.inl (g_in (List.mem_of_getElem? (i := 170) (by decide +kernel)) (by decide +kernel))⟩
theorem fp_0_15 : FP cR0 15 0 1 false .int := ⟨cR0, cT0, 14, ct0, rfl, by decide, cw0, Or.inl (g_in (List.mem_of_getElem? (i := 170) (by decide +kernel)) (by decide +kernel)), cp0, cn0, rfl, rfl, fun h => by cases h⟩
theorem fl_0_19 : FL cR0 19 0 2 := ⟨cR0, cT0, 14, rfl, by decide, cw0, Or.inl (g_in (List.mem_of_getElem? (i := 171) (by decide +kernel)) (by decide +kernel))⟩
theorem fp_0_19 : FP cR0 19 0 2 true (.array .int) := ⟨cR0, cT0, 14, ct0, rfl, by decide, cw0, Or.inl (g_in (List.mem_of_getElem? (i := 171) (by decide +kernel)) (by decide +kernel)), cp0, cn0, rfl, rfl, fun _ => rfl⟩
theorem fl_0_23 : FL cR0 23 0 3 := ⟨cR0, cT0, 14, rfl, by decide, cw0, Or.inl (g_in (List.mem_of_getElem? (i := 172) (by decide +kernel)) (by decide +kernel))⟩
theorem fp_0_23 : FP cR0 23 0 3 true (.array .int) := ⟨cR0, cT0, 14, ct0, rfl, by decide, cw0, Or.inl (g_in (List.mem_of_getElem? (i := 172) (by decide +kernel)) (by decide +kernel)), cp0, cn0, rfl, rfl, fun _ => rfl⟩
theorem fl_0_26 : FL cR0 26 0 4 := ⟨cR0, cT0, 14, rfl, by decide, cw0, Or.inl (g_in (List.mem_of_getElem? (i := 173) (by decide +kernel)) (by decide +kernel))⟩
theorem fp_0_26 : FP cR0 26 0 4 false .int := ⟨cR0, cT0, 14, ct0, rfl, by decide, cw0, Or.inl (g_in (List.mem_of_getElem? (i := 173) (by decide +kernel)) (by decide +kernel)), cp0, cn0, rfl, rfl, fun h => by cases h⟩
theorem fl_0_29 : FL cR0 29 0 5 := ⟨cR0, cT0, 14, rfl, by decide, cw0, Or.inl (g_in (List.mem_of_getElem? (i := 174) (by decide +kernel)) (by decide +kernel))⟩
theorem fp_0_29 : FP cR0 29 0 5 true (.array .byte) := ⟨cR0, cT0, 14, ct0, rfl, by decide, cw0, Or.inl (g_in (List.mem_of_getElem? (i := 174) (by decide +kernel)) (by decide +kernel)), cp0, cn0, rfl, rfl, fun _ => rfl⟩
theorem fl_0_33 : FL cR0 33 0 6 := ⟨cR0, cT0, 14, rfl, by decide, cw0, Or.inl (g_in (List.mem_of_getElem? (i := 175) (by decide +kernel)) (by decide +kernel))⟩
theorem fp_0_33 : FP cR0 33 0 6 false .int := ⟨cR0, cT0, 14, ct0, rfl, by decide, cw0, Or.inl (g_in (List.mem_of_getElem? (i := 175) (by decide +kernel)) (by decide +kernel)), cp0, cn0, rfl, rfl, fun h => by cases h⟩
theorem fl_0_41 : FL cR0 41 0 7 := ⟨cR0, cT0, 14, rfl, by decide, cw0, Or.inl (g_in (List.mem_of_getElem? (i := 176) (by decide +kernel)) (by decide +kernel))⟩
theorem fp_0_41 : FP cR0 41 0 7 true (.object "ReportChecks2$RuleReader") := ⟨cR0, cT0, 14, ct0, rfl, by decide, cw0, Or.inl (g_in (List.mem_of_getElem? (i := 176) (by decide +kernel)) (by decide +kernel)), cp0, cn0, rfl, rfl, fun _ => rfl⟩
theorem fl_0_48 : FL cR0 48 0 8 := ⟨cR0, cT0, 14, rfl, by decide, cw0, Or.inl (g_in (List.mem_of_getElem? (i := 177) (by decide +kernel)) (by decide +kernel))⟩
theorem fp_0_48 : FP cR0 48 0 8 false (.object "ReportChecks2$RuleBook") := ⟨cR0, cT0, 14, ct0, rfl, by decide, cw0, Or.inl (g_in (List.mem_of_getElem? (i := 177) (by decide +kernel)) (by decide +kernel)), cp0, cn0, rfl, rfl, fun h => by cases h⟩
theorem fl_0_52 : FL cR0 52 0 9 := ⟨cR0, cT0, 14, rfl, by decide, cw0, Or.inl (g_in (List.mem_of_getElem? (i := 178) (by decide +kernel)) (by decide +kernel))⟩
theorem fp_0_52 : FP cR0 52 0 9 false (.object "ReportChecks2$RuleBook") := ⟨cR0, cT0, 14, ct0, rfl, by decide, cw0, Or.inl (g_in (List.mem_of_getElem? (i := 178) (by decide +kernel)) (by decide +kernel)), cp0, cn0, rfl, rfl, fun h => by cases h⟩
theorem fl_0_55 : FL cR0 55 0 10 := ⟨cR0, cT0, 14, rfl, by decide, cw0, Or.inl (g_in (List.mem_of_getElem? (i := 179) (by decide +kernel)) (by decide +kernel))⟩
theorem fp_0_55 : FP cR0 55 0 10 false .int := ⟨cR0, cT0, 14, ct0, rfl, by decide, cw0, Or.inl (g_in (List.mem_of_getElem? (i := 179) (by decide +kernel)) (by decide +kernel)), cp0, cn0, rfl, rfl, fun h => by cases h⟩
theorem fl_0_61 : FL cR0 61 0 11 := ⟨cR0, cT0, 14, rfl, by decide, cw0, Or.inl (g_in (List.mem_of_getElem? (i := 180) (by decide +kernel)) (by decide +kernel))⟩
theorem fp_0_61 : FP cR0 61 0 11 true (.object "ReportChecks2$Findings") := ⟨cR0, cT0, 14, ct0, rfl, by decide, cw0, Or.inl (g_in (List.mem_of_getElem? (i := 180) (by decide +kernel)) (by decide +kernel)), cp0, cn0, rfl, rfl, fun _ => rfl⟩
theorem fl_0_65 : FL cR0 65 0 12 := ⟨cR0, cT0, 14, rfl, by decide, cw0, Or.inl (g_in (List.mem_of_getElem? (i := 181) (by decide +kernel)) (by decide +kernel))⟩
theorem fp_0_65 : FP cR0 65 0 12 true (.object "ReportChecks2$Findings") := ⟨cR0, cT0, 14, ct0, rfl, by decide, cw0, Or.inl (g_in (List.mem_of_getElem? (i := 181) (by decide +kernel)) (by decide +kernel)), cp0, cn0, rfl, rfl, fun _ => rfl⟩
theorem fl_0_71 : FL cR0 71 0 13 := ⟨cR0, cT0, 14, rfl, by decide, cw0, Or.inl (g_in (List.mem_of_getElem? (i := 182) (by decide +kernel)) (by decide +kernel))⟩
theorem fp_0_71 : FP cR0 71 0 13 true (.object "ReportChecks2$CodeText") := ⟨cR0, cT0, 14, ct0, rfl, by decide, cw0, Or.inl (g_in (List.mem_of_getElem? (i := 182) (by decide +kernel)) (by decide +kernel)), cp0, cn0, rfl, rfl, fun _ => rfl⟩
theorem fl_5_34 : FL cR5 34 5 0 := ⟨cR5, cT5, 11, rfl, by decide, cw5, Or.inl (g_in (List.mem_of_getElem? (i := 338) (by decide +kernel)) (by decide +kernel))⟩
theorem fp_5_34 : FP cR5 34 5 0 true .int := ⟨cR5, cT5, 11, ct5, rfl, by decide, cw5, Or.inl (g_in (List.mem_of_getElem? (i := 338) (by decide +kernel)) (by decide +kernel)), cp5, cn5, rfl, rfl, fun _ => rfl⟩
theorem fl_4_23 : FL cR4 23 5 0 := ⟨cR5, cT5, 11, rfl, by decide, cw5, Or.inr ⟨"ReportChecks2", g_in (List.mem_of_getElem? (i := 339) (by decide +kernel)) (by decide +kernel)⟩⟩
theorem fl_0_192 : FL cR0 192 5 0 := ⟨cR5, cT5, 11, rfl, by decide, cw5, Or.inr ⟨"ReportChecks2", g_in (List.mem_of_getElem? (i := 340) (by decide +kernel)) (by decide +kernel)⟩⟩
theorem fl_5_37 : FL cR5 37 5 1 := ⟨cR5, cT5, 11, rfl, by decide, cw5, Or.inl (g_in (List.mem_of_getElem? (i := 341) (by decide +kernel)) (by decide +kernel))⟩
theorem fp_5_37 : FP cR5 37 5 1 true .int := ⟨cR5, cT5, 11, ct5, rfl, by decide, cw5, Or.inl (g_in (List.mem_of_getElem? (i := 341) (by decide +kernel)) (by decide +kernel)), cp5, cn5, rfl, rfl, fun _ => rfl⟩
theorem fl_0_195 : FL cR0 195 5 1 := ⟨cR5, cT5, 11, rfl, by decide, cw5, Or.inr ⟨"ReportChecks2", g_in (List.mem_of_getElem? (i := 342) (by decide +kernel)) (by decide +kernel)⟩⟩
theorem fl_5_40 : FL cR5 40 5 2 := ⟨cR5, cT5, 11, rfl, by decide, cw5, Or.inl (g_in (List.mem_of_getElem? (i := 343) (by decide +kernel)) (by decide +kernel))⟩
theorem fp_5_40 : FP cR5 40 5 2 true .int := ⟨cR5, cT5, 11, ct5, rfl, by decide, cw5, Or.inl (g_in (List.mem_of_getElem? (i := 343) (by decide +kernel)) (by decide +kernel)), cp5, cn5, rfl, rfl, fun _ => rfl⟩
theorem fl_0_236 : FL cR0 236 5 2 := ⟨cR5, cT5, 11, rfl, by decide, cw5, Or.inr ⟨"ReportChecks2", g_in (List.mem_of_getElem? (i := 344) (by decide +kernel)) (by decide +kernel)⟩⟩
theorem fl_5_43 : FL cR5 43 5 3 := ⟨cR5, cT5, 11, rfl, by decide, cw5, Or.inl (g_in (List.mem_of_getElem? (i := 345) (by decide +kernel)) (by decide +kernel))⟩
theorem fp_5_43 : FP cR5 43 5 3 true .int := ⟨cR5, cT5, 11, ct5, rfl, by decide, cw5, Or.inl (g_in (List.mem_of_getElem? (i := 345) (by decide +kernel)) (by decide +kernel)), cp5, cn5, rfl, rfl, fun _ => rfl⟩
theorem fl_0_249 : FL cR0 249 5 3 := ⟨cR5, cT5, 11, rfl, by decide, cw5, Or.inr ⟨"ReportChecks2", g_in (List.mem_of_getElem? (i := 346) (by decide +kernel)) (by decide +kernel)⟩⟩
theorem fl_5_9 : FL cR5 9 5 4 := ⟨cR5, cT5, 11, rfl, by decide, cw5, Or.inl (g_in (List.mem_of_getElem? (i := 347) (by decide +kernel)) (by decide +kernel))⟩
theorem fp_5_9 : FP cR5 9 5 4 true (.array .int) := ⟨cR5, cT5, 11, ct5, rfl, by decide, cw5, Or.inl (g_in (List.mem_of_getElem? (i := 347) (by decide +kernel)) (by decide +kernel)), cp5, cn5, rfl, rfl, fun _ => rfl⟩
theorem fl_4_38 : FL cR4 38 5 4 := ⟨cR5, cT5, 11, rfl, by decide, cw5, Or.inr ⟨"ReportChecks2", g_in (List.mem_of_getElem? (i := 348) (by decide +kernel)) (by decide +kernel)⟩⟩
theorem fl_2_49 : FL cR2 49 5 4 := ⟨cR5, cT5, 11, rfl, by decide, cw5, Or.inr ⟨"ReportChecks2", g_in (List.mem_of_getElem? (i := 349) (by decide +kernel)) (by decide +kernel)⟩⟩
theorem fl_0_257 : FL cR0 257 5 4 := ⟨cR5, cT5, 11, rfl, by decide, cw5, Or.inr ⟨"ReportChecks2", g_in (List.mem_of_getElem? (i := 350) (by decide +kernel)) (by decide +kernel)⟩⟩
theorem fl_5_15 : FL cR5 15 5 5 := ⟨cR5, cT5, 11, rfl, by decide, cw5, Or.inl (g_in (List.mem_of_getElem? (i := 351) (by decide +kernel)) (by decide +kernel))⟩
theorem fp_5_15 : FP cR5 15 5 5 false .int := ⟨cR5, cT5, 11, ct5, rfl, by decide, cw5, Or.inl (g_in (List.mem_of_getElem? (i := 351) (by decide +kernel)) (by decide +kernel)), cp5, cn5, rfl, rfl, fun h => by cases h⟩
theorem fl_4_31 : FL cR4 31 5 5 := ⟨cR5, cT5, 11, rfl, by decide, cw5, Or.inr ⟨"ReportChecks2", g_in (List.mem_of_getElem? (i := 352) (by decide +kernel)) (by decide +kernel)⟩⟩
theorem fp_4_31 : FP cR4 31 5 5 false .int := ⟨cR5, cT5, 11, ct5, rfl, by decide, cw5, Or.inr ⟨rfl, "ReportChecks2", g_in (List.mem_of_getElem? (i := 352) (by decide +kernel)) (by decide +kernel)⟩, cp5, cn5, rfl, rfl, fun h => by cases h⟩
theorem fl_2_44 : FL cR2 44 5 5 := ⟨cR5, cT5, 11, rfl, by decide, cw5, Or.inr ⟨"ReportChecks2", g_in (List.mem_of_getElem? (i := 353) (by decide +kernel)) (by decide +kernel)⟩⟩
theorem fp_2_44 : FP cR2 44 5 5 false .int := ⟨cR5, cT5, 11, ct5, rfl, by decide, cw5, Or.inr ⟨rfl, "ReportChecks2", g_in (List.mem_of_getElem? (i := 353) (by decide +kernel)) (by decide +kernel)⟩, cp5, cn5, rfl, rfl, fun h => by cases h⟩
theorem fl_0_252 : FL cR0 252 5 5 := ⟨cR5, cT5, 11, rfl, by decide, cw5, Or.inr ⟨"ReportChecks2", g_in (List.mem_of_getElem? (i := 354) (by decide +kernel)) (by decide +kernel)⟩⟩
theorem fp_0_252 : FP cR0 252 5 5 false .int := ⟨cR5, cT5, 11, ct5, rfl, by decide, cw5, Or.inr ⟨rfl, "ReportChecks2", g_in (List.mem_of_getElem? (i := 354) (by decide +kernel)) (by decide +kernel)⟩, cp5, cn5, rfl, rfl, fun h => by cases h⟩
theorem fl_5_19 : FL cR5 19 5 6 := ⟨cR5, cT5, 11, rfl, by decide, cw5, Or.inl (g_in (List.mem_of_getElem? (i := 355) (by decide +kernel)) (by decide +kernel))⟩
theorem fp_5_19 : FP cR5 19 5 6 false .int := ⟨cR5, cT5, 11, ct5, rfl, by decide, cw5, Or.inl (g_in (List.mem_of_getElem? (i := 355) (by decide +kernel)) (by decide +kernel)), cp5, cn5, rfl, rfl, fun h => by cases h⟩
theorem fl_5_22 : FL cR5 22 5 7 := ⟨cR5, cT5, 11, rfl, by decide, cw5, Or.inl (g_in (List.mem_of_getElem? (i := 356) (by decide +kernel)) (by decide +kernel))⟩
theorem fp_5_22 : FP cR5 22 5 7 false .int := ⟨cR5, cT5, 11, ct5, rfl, by decide, cw5, Or.inl (g_in (List.mem_of_getElem? (i := 356) (by decide +kernel)) (by decide +kernel)), cp5, cn5, rfl, rfl, fun h => by cases h⟩
theorem fl_0_201 : FL cR0 201 5 7 := ⟨cR5, cT5, 11, rfl, by decide, cw5, Or.inr ⟨"ReportChecks2", g_in (List.mem_of_getElem? (i := 357) (by decide +kernel)) (by decide +kernel)⟩⟩
theorem fp_0_201 : FP cR0 201 5 7 false .int := ⟨cR5, cT5, 11, ct5, rfl, by decide, cw5, Or.inr ⟨rfl, "ReportChecks2", g_in (List.mem_of_getElem? (i := 357) (by decide +kernel)) (by decide +kernel)⟩, cp5, cn5, rfl, rfl, fun h => by cases h⟩
theorem fl_5_25 : FL cR5 25 5 8 := ⟨cR5, cT5, 11, rfl, by decide, cw5, Or.inl (g_in (List.mem_of_getElem? (i := 358) (by decide +kernel)) (by decide +kernel))⟩
theorem fp_5_25 : FP cR5 25 5 8 false .int := ⟨cR5, cT5, 11, ct5, rfl, by decide, cw5, Or.inl (g_in (List.mem_of_getElem? (i := 358) (by decide +kernel)) (by decide +kernel)), cp5, cn5, rfl, rfl, fun h => by cases h⟩
theorem fl_0_141 : FL cR0 141 5 8 := ⟨cR5, cT5, 11, rfl, by decide, cw5, Or.inr ⟨"ReportChecks2", g_in (List.mem_of_getElem? (i := 359) (by decide +kernel)) (by decide +kernel)⟩⟩
theorem fp_0_141 : FP cR0 141 5 8 false .int := ⟨cR5, cT5, 11, ct5, rfl, by decide, cw5, Or.inr ⟨rfl, "ReportChecks2", g_in (List.mem_of_getElem? (i := 359) (by decide +kernel)) (by decide +kernel)⟩, cp5, cn5, rfl, rfl, fun h => by cases h⟩
theorem fl_5_28 : FL cR5 28 5 9 := ⟨cR5, cT5, 11, rfl, by decide, cw5, Or.inl (g_in (List.mem_of_getElem? (i := 360) (by decide +kernel)) (by decide +kernel))⟩
theorem fp_5_28 : FP cR5 28 5 9 true (.array .int) := ⟨cR5, cT5, 11, ct5, rfl, by decide, cw5, Or.inl (g_in (List.mem_of_getElem? (i := 360) (by decide +kernel)) (by decide +kernel)), cp5, cn5, rfl, rfl, fun _ => rfl⟩
theorem fl_5_31 : FL cR5 31 5 10 := ⟨cR5, cT5, 11, rfl, by decide, cw5, Or.inl (g_in (List.mem_of_getElem? (i := 361) (by decide +kernel)) (by decide +kernel))⟩
theorem fp_5_31 : FP cR5 31 5 10 false .int := ⟨cR5, cT5, 11, ct5, rfl, by decide, cw5, Or.inl (g_in (List.mem_of_getElem? (i := 361) (by decide +kernel)) (by decide +kernel)), cp5, cn5, rfl, rfl, fun h => by cases h⟩
theorem fl_0_186 : FL cR0 186 5 10 := ⟨cR5, cT5, 11, rfl, by decide, cw5, Or.inr ⟨"ReportChecks2", g_in (List.mem_of_getElem? (i := 362) (by decide +kernel)) (by decide +kernel)⟩⟩
theorem fp_0_186 : FP cR0 186 5 10 false .int := ⟨cR5, cT5, 11, ct5, rfl, by decide, cw5, Or.inr ⟨rfl, "ReportChecks2", g_in (List.mem_of_getElem? (i := 362) (by decide +kernel)) (by decide +kernel)⟩, cp5, cn5, rfl, rfl, fun h => by cases h⟩
theorem fl_6_96 : FL cR6 96 6 0 := ⟨cR6, cT6, 39, rfl, by decide, cw6, Or.inl (g_in (List.mem_of_getElem? (i := 747) (by decide +kernel)) (by decide +kernel))⟩
theorem fp_6_96 : FP cR6 96 6 0 false .int := ⟨cR6, cT6, 39, ct6, rfl, by decide, cw6, Or.inl (g_in (List.mem_of_getElem? (i := 747) (by decide +kernel)) (by decide +kernel)), cp6, cn6, rfl, rfl, fun h => by cases h⟩
theorem fl_6_106 : FL cR6 106 6 1 := ⟨cR6, cT6, 39, rfl, by decide, cw6, Or.inl (g_in (List.mem_of_getElem? (i := 748) (by decide +kernel)) (by decide +kernel))⟩
theorem fp_6_106 : FP cR6 106 6 1 false .int := ⟨cR6, cT6, 39, ct6, rfl, by decide, cw6, Or.inl (g_in (List.mem_of_getElem? (i := 748) (by decide +kernel)) (by decide +kernel)), cp6, cn6, rfl, rfl, fun h => by cases h⟩
theorem fl_6_99 : FL cR6 99 6 2 := ⟨cR6, cT6, 39, rfl, by decide, cw6, Or.inl (g_in (List.mem_of_getElem? (i := 749) (by decide +kernel)) (by decide +kernel))⟩
theorem fp_6_99 : FP cR6 99 6 2 false .int := ⟨cR6, cT6, 39, ct6, rfl, by decide, cw6, Or.inl (g_in (List.mem_of_getElem? (i := 749) (by decide +kernel)) (by decide +kernel)), cp6, cn6, rfl, rfl, fun h => by cases h⟩
theorem fl_6_7 : FL cR6 7 6 3 := ⟨cR6, cT6, 39, rfl, by decide, cw6, Or.inl (g_in (List.mem_of_getElem? (i := 750) (by decide +kernel)) (by decide +kernel))⟩
theorem fp_6_7 : FP cR6 7 6 3 true (.array .int) := ⟨cR6, cT6, 39, ct6, rfl, by decide, cw6, Or.inl (g_in (List.mem_of_getElem? (i := 750) (by decide +kernel)) (by decide +kernel)), cp6, cn6, rfl, rfl, fun _ => rfl⟩
theorem fl_6_13 : FL cR6 13 6 4 := ⟨cR6, cT6, 39, rfl, by decide, cw6, Or.inl (g_in (List.mem_of_getElem? (i := 751) (by decide +kernel)) (by decide +kernel))⟩
theorem fp_6_13 : FP cR6 13 6 4 true (.array .int) := ⟨cR6, cT6, 39, ct6, rfl, by decide, cw6, Or.inl (g_in (List.mem_of_getElem? (i := 751) (by decide +kernel)) (by decide +kernel)), cp6, cn6, rfl, rfl, fun _ => rfl⟩
theorem fl_6_16 : FL cR6 16 6 5 := ⟨cR6, cT6, 39, rfl, by decide, cw6, Or.inl (g_in (List.mem_of_getElem? (i := 752) (by decide +kernel)) (by decide +kernel))⟩
theorem fp_6_16 : FP cR6 16 6 5 true (.array .int) := ⟨cR6, cT6, 39, ct6, rfl, by decide, cw6, Or.inl (g_in (List.mem_of_getElem? (i := 752) (by decide +kernel)) (by decide +kernel)), cp6, cn6, rfl, rfl, fun _ => rfl⟩
theorem fl_6_19 : FL cR6 19 6 6 := ⟨cR6, cT6, 39, rfl, by decide, cw6, Or.inl (g_in (List.mem_of_getElem? (i := 753) (by decide +kernel)) (by decide +kernel))⟩
theorem fp_6_19 : FP cR6 19 6 6 true (.array .int) := ⟨cR6, cT6, 39, ct6, rfl, by decide, cw6, Or.inl (g_in (List.mem_of_getElem? (i := 753) (by decide +kernel)) (by decide +kernel)), cp6, cn6, rfl, rfl, fun _ => rfl⟩
theorem fl_6_22 : FL cR6 22 6 7 := ⟨cR6, cT6, 39, rfl, by decide, cw6, Or.inl (g_in (List.mem_of_getElem? (i := 754) (by decide +kernel)) (by decide +kernel))⟩
theorem fp_6_22 : FP cR6 22 6 7 true (.array .int) := ⟨cR6, cT6, 39, ct6, rfl, by decide, cw6, Or.inl (g_in (List.mem_of_getElem? (i := 754) (by decide +kernel)) (by decide +kernel)), cp6, cn6, rfl, rfl, fun _ => rfl⟩
theorem fl_6_25 : FL cR6 25 6 8 := ⟨cR6, cT6, 39, rfl, by decide, cw6, Or.inl (g_in (List.mem_of_getElem? (i := 755) (by decide +kernel)) (by decide +kernel))⟩
theorem fp_6_25 : FP cR6 25 6 8 true (.array .int) := ⟨cR6, cT6, 39, ct6, rfl, by decide, cw6, Or.inl (g_in (List.mem_of_getElem? (i := 755) (by decide +kernel)) (by decide +kernel)), cp6, cn6, rfl, rfl, fun _ => rfl⟩
theorem fl_6_28 : FL cR6 28 6 9 := ⟨cR6, cT6, 39, rfl, by decide, cw6, Or.inl (g_in (List.mem_of_getElem? (i := 756) (by decide +kernel)) (by decide +kernel))⟩
theorem fp_6_28 : FP cR6 28 6 9 true (.array .int) := ⟨cR6, cT6, 39, ct6, rfl, by decide, cw6, Or.inl (g_in (List.mem_of_getElem? (i := 756) (by decide +kernel)) (by decide +kernel)), cp6, cn6, rfl, rfl, fun _ => rfl⟩
theorem fl_6_31 : FL cR6 31 6 10 := ⟨cR6, cT6, 39, rfl, by decide, cw6, Or.inl (g_in (List.mem_of_getElem? (i := 757) (by decide +kernel)) (by decide +kernel))⟩
theorem fp_6_31 : FP cR6 31 6 10 true (.array .boolean) := ⟨cR6, cT6, 39, ct6, rfl, by decide, cw6, Or.inl (g_in (List.mem_of_getElem? (i := 757) (by decide +kernel)) (by decide +kernel)), cp6, cn6, rfl, rfl, fun _ => rfl⟩
theorem fl_6_35 : FL cR6 35 6 11 := ⟨cR6, cT6, 39, rfl, by decide, cw6, Or.inl (g_in (List.mem_of_getElem? (i := 758) (by decide +kernel)) (by decide +kernel))⟩
theorem fp_6_35 : FP cR6 35 6 11 true (.array .boolean) := ⟨cR6, cT6, 39, ct6, rfl, by decide, cw6, Or.inl (g_in (List.mem_of_getElem? (i := 758) (by decide +kernel)) (by decide +kernel)), cp6, cn6, rfl, rfl, fun _ => rfl⟩
theorem fl_6_38 : FL cR6 38 6 12 := ⟨cR6, cT6, 39, rfl, by decide, cw6, Or.inl (g_in (List.mem_of_getElem? (i := 759) (by decide +kernel)) (by decide +kernel))⟩
theorem fp_6_38 : FP cR6 38 6 12 true (.array .boolean) := ⟨cR6, cT6, 39, ct6, rfl, by decide, cw6, Or.inl (g_in (List.mem_of_getElem? (i := 759) (by decide +kernel)) (by decide +kernel)), cp6, cn6, rfl, rfl, fun _ => rfl⟩
theorem fl_6_41 : FL cR6 41 6 13 := ⟨cR6, cT6, 39, rfl, by decide, cw6, Or.inl (g_in (List.mem_of_getElem? (i := 760) (by decide +kernel)) (by decide +kernel))⟩
theorem fp_6_41 : FP cR6 41 6 13 true (.array .int) := ⟨cR6, cT6, 39, ct6, rfl, by decide, cw6, Or.inl (g_in (List.mem_of_getElem? (i := 760) (by decide +kernel)) (by decide +kernel)), cp6, cn6, rfl, rfl, fun _ => rfl⟩
theorem fl_6_44 : FL cR6 44 6 14 := ⟨cR6, cT6, 39, rfl, by decide, cw6, Or.inl (g_in (List.mem_of_getElem? (i := 761) (by decide +kernel)) (by decide +kernel))⟩
theorem fp_6_44 : FP cR6 44 6 14 true (.array .boolean) := ⟨cR6, cT6, 39, ct6, rfl, by decide, cw6, Or.inl (g_in (List.mem_of_getElem? (i := 761) (by decide +kernel)) (by decide +kernel)), cp6, cn6, rfl, rfl, fun _ => rfl⟩
theorem fl_6_47 : FL cR6 47 6 15 := ⟨cR6, cT6, 39, rfl, by decide, cw6, Or.inl (g_in (List.mem_of_getElem? (i := 762) (by decide +kernel)) (by decide +kernel))⟩
theorem fp_6_47 : FP cR6 47 6 15 true (.array .boolean) := ⟨cR6, cT6, 39, ct6, rfl, by decide, cw6, Or.inl (g_in (List.mem_of_getElem? (i := 762) (by decide +kernel)) (by decide +kernel)), cp6, cn6, rfl, rfl, fun _ => rfl⟩
theorem fl_6_126 : FL cR6 126 6 16 := ⟨cR6, cT6, 39, rfl, by decide, cw6, Or.inl (g_in (List.mem_of_getElem? (i := 763) (by decide +kernel)) (by decide +kernel))⟩
theorem fp_6_126 : FP cR6 126 6 16 false .int := ⟨cR6, cT6, 39, ct6, rfl, by decide, cw6, Or.inl (g_in (List.mem_of_getElem? (i := 763) (by decide +kernel)) (by decide +kernel)), cp6, cn6, rfl, rfl, fun h => by cases h⟩
theorem fl_6_50 : FL cR6 50 6 17 := ⟨cR6, cT6, 39, rfl, by decide, cw6, Or.inl (g_in (List.mem_of_getElem? (i := 764) (by decide +kernel)) (by decide +kernel))⟩
theorem fp_6_50 : FP cR6 50 6 17 true (.array .int) := ⟨cR6, cT6, 39, ct6, rfl, by decide, cw6, Or.inl (g_in (List.mem_of_getElem? (i := 764) (by decide +kernel)) (by decide +kernel)), cp6, cn6, rfl, rfl, fun _ => rfl⟩
theorem fl_6_53 : FL cR6 53 6 18 := ⟨cR6, cT6, 39, rfl, by decide, cw6, Or.inl (g_in (List.mem_of_getElem? (i := 765) (by decide +kernel)) (by decide +kernel))⟩
theorem fp_6_53 : FP cR6 53 6 18 false .int := ⟨cR6, cT6, 39, ct6, rfl, by decide, cw6, Or.inl (g_in (List.mem_of_getElem? (i := 765) (by decide +kernel)) (by decide +kernel)), cp6, cn6, rfl, rfl, fun h => by cases h⟩
theorem fl_6_129 : FL cR6 129 6 19 := ⟨cR6, cT6, 39, rfl, by decide, cw6, Or.inl (g_in (List.mem_of_getElem? (i := 766) (by decide +kernel)) (by decide +kernel))⟩
theorem fp_6_129 : FP cR6 129 6 19 false .int := ⟨cR6, cT6, 39, ct6, rfl, by decide, cw6, Or.inl (g_in (List.mem_of_getElem? (i := 766) (by decide +kernel)) (by decide +kernel)), cp6, cn6, rfl, rfl, fun h => by cases h⟩
theorem fl_6_136 : FL cR6 136 6 20 := ⟨cR6, cT6, 39, rfl, by decide, cw6, Or.inl (g_in (List.mem_of_getElem? (i := 767) (by decide +kernel)) (by decide +kernel))⟩
theorem fp_6_136 : FP cR6 136 6 20 false .int := ⟨cR6, cT6, 39, ct6, rfl, by decide, cw6, Or.inl (g_in (List.mem_of_getElem? (i := 767) (by decide +kernel)) (by decide +kernel)), cp6, cn6, rfl, rfl, fun h => by cases h⟩
theorem fl_6_166 : FL cR6 166 6 21 := ⟨cR6, cT6, 39, rfl, by decide, cw6, Or.inl (g_in (List.mem_of_getElem? (i := 768) (by decide +kernel)) (by decide +kernel))⟩
theorem fp_6_166 : FP cR6 166 6 21 false .int := ⟨cR6, cT6, 39, ct6, rfl, by decide, cw6, Or.inl (g_in (List.mem_of_getElem? (i := 768) (by decide +kernel)) (by decide +kernel)), cp6, cn6, rfl, rfl, fun h => by cases h⟩
theorem fl_6_57 : FL cR6 57 6 22 := ⟨cR6, cT6, 39, rfl, by decide, cw6, Or.inl (g_in (List.mem_of_getElem? (i := 769) (by decide +kernel)) (by decide +kernel))⟩
theorem fp_6_57 : FP cR6 57 6 22 true (.array .int) := ⟨cR6, cT6, 39, ct6, rfl, by decide, cw6, Or.inl (g_in (List.mem_of_getElem? (i := 769) (by decide +kernel)) (by decide +kernel)), cp6, cn6, rfl, rfl, fun _ => rfl⟩
theorem fl_6_60 : FL cR6 60 6 23 := ⟨cR6, cT6, 39, rfl, by decide, cw6, Or.inl (g_in (List.mem_of_getElem? (i := 770) (by decide +kernel)) (by decide +kernel))⟩
theorem fp_6_60 : FP cR6 60 6 23 true (.array .int) := ⟨cR6, cT6, 39, ct6, rfl, by decide, cw6, Or.inl (g_in (List.mem_of_getElem? (i := 770) (by decide +kernel)) (by decide +kernel)), cp6, cn6, rfl, rfl, fun _ => rfl⟩
theorem fl_6_63 : FL cR6 63 6 24 := ⟨cR6, cT6, 39, rfl, by decide, cw6, Or.inl (g_in (List.mem_of_getElem? (i := 771) (by decide +kernel)) (by decide +kernel))⟩
theorem fp_6_63 : FP cR6 63 6 24 true (.array .int) := ⟨cR6, cT6, 39, ct6, rfl, by decide, cw6, Or.inl (g_in (List.mem_of_getElem? (i := 771) (by decide +kernel)) (by decide +kernel)), cp6, cn6, rfl, rfl, fun _ => rfl⟩
theorem fl_6_66 : FL cR6 66 6 25 := ⟨cR6, cT6, 39, rfl, by decide, cw6, Or.inl (g_in (List.mem_of_getElem? (i := 772) (by decide +kernel)) (by decide +kernel))⟩
theorem fp_6_66 : FP cR6 66 6 25 true (.array .int) := ⟨cR6, cT6, 39, ct6, rfl, by decide, cw6, Or.inl (g_in (List.mem_of_getElem? (i := 772) (by decide +kernel)) (by decide +kernel)), cp6, cn6, rfl, rfl, fun _ => rfl⟩
theorem fl_6_69 : FL cR6 69 6 26 := ⟨cR6, cT6, 39, rfl, by decide, cw6, Or.inl (g_in (List.mem_of_getElem? (i := 773) (by decide +kernel)) (by decide +kernel))⟩
theorem fp_6_69 : FP cR6 69 6 26 true (.array .boolean) := ⟨cR6, cT6, 39, ct6, rfl, by decide, cw6, Or.inl (g_in (List.mem_of_getElem? (i := 773) (by decide +kernel)) (by decide +kernel)), cp6, cn6, rfl, rfl, fun _ => rfl⟩
theorem fl_6_157 : FL cR6 157 6 27 := ⟨cR6, cT6, 39, rfl, by decide, cw6, Or.inl (g_in (List.mem_of_getElem? (i := 774) (by decide +kernel)) (by decide +kernel))⟩
theorem fp_6_157 : FP cR6 157 6 27 false .int := ⟨cR6, cT6, 39, ct6, rfl, by decide, cw6, Or.inl (g_in (List.mem_of_getElem? (i := 774) (by decide +kernel)) (by decide +kernel)), cp6, cn6, rfl, rfl, fun h => by cases h⟩
theorem fl_6_72 : FL cR6 72 6 28 := ⟨cR6, cT6, 39, rfl, by decide, cw6, Or.inl (g_in (List.mem_of_getElem? (i := 775) (by decide +kernel)) (by decide +kernel))⟩
theorem fp_6_72 : FP cR6 72 6 28 true (.array .int) := ⟨cR6, cT6, 39, ct6, rfl, by decide, cw6, Or.inl (g_in (List.mem_of_getElem? (i := 775) (by decide +kernel)) (by decide +kernel)), cp6, cn6, rfl, rfl, fun _ => rfl⟩
theorem fl_6_75 : FL cR6 75 6 29 := ⟨cR6, cT6, 39, rfl, by decide, cw6, Or.inl (g_in (List.mem_of_getElem? (i := 776) (by decide +kernel)) (by decide +kernel))⟩
theorem fp_6_75 : FP cR6 75 6 29 true (.array .int) := ⟨cR6, cT6, 39, ct6, rfl, by decide, cw6, Or.inl (g_in (List.mem_of_getElem? (i := 776) (by decide +kernel)) (by decide +kernel)), cp6, cn6, rfl, rfl, fun _ => rfl⟩
theorem fl_6_78 : FL cR6 78 6 30 := ⟨cR6, cT6, 39, rfl, by decide, cw6, Or.inl (g_in (List.mem_of_getElem? (i := 777) (by decide +kernel)) (by decide +kernel))⟩
theorem fp_6_78 : FP cR6 78 6 30 true (.array .int) := ⟨cR6, cT6, 39, ct6, rfl, by decide, cw6, Or.inl (g_in (List.mem_of_getElem? (i := 777) (by decide +kernel)) (by decide +kernel)), cp6, cn6, rfl, rfl, fun _ => rfl⟩
theorem fl_6_81 : FL cR6 81 6 31 := ⟨cR6, cT6, 39, rfl, by decide, cw6, Or.inl (g_in (List.mem_of_getElem? (i := 778) (by decide +kernel)) (by decide +kernel))⟩
theorem fp_6_81 : FP cR6 81 6 31 true (.array .int) := ⟨cR6, cT6, 39, ct6, rfl, by decide, cw6, Or.inl (g_in (List.mem_of_getElem? (i := 778) (by decide +kernel)) (by decide +kernel)), cp6, cn6, rfl, rfl, fun _ => rfl⟩
theorem fl_6_84 : FL cR6 84 6 32 := ⟨cR6, cT6, 39, rfl, by decide, cw6, Or.inl (g_in (List.mem_of_getElem? (i := 779) (by decide +kernel)) (by decide +kernel))⟩
theorem fp_6_84 : FP cR6 84 6 32 true (.array .boolean) := ⟨cR6, cT6, 39, ct6, rfl, by decide, cw6, Or.inl (g_in (List.mem_of_getElem? (i := 779) (by decide +kernel)) (by decide +kernel)), cp6, cn6, rfl, rfl, fun _ => rfl⟩
theorem fl_6_177 : FL cR6 177 6 33 := ⟨cR6, cT6, 39, rfl, by decide, cw6, Or.inl (g_in (List.mem_of_getElem? (i := 780) (by decide +kernel)) (by decide +kernel))⟩
theorem fp_6_177 : FP cR6 177 6 33 false .boolean := ⟨cR6, cT6, 39, ct6, rfl, by decide, cw6, Or.inl (g_in (List.mem_of_getElem? (i := 780) (by decide +kernel)) (by decide +kernel)), cp6, cn6, rfl, rfl, fun h => by cases h⟩
theorem fl_6_187 : FL cR6 187 6 34 := ⟨cR6, cT6, 39, rfl, by decide, cw6, Or.inl (g_in (List.mem_of_getElem? (i := 781) (by decide +kernel)) (by decide +kernel))⟩
theorem fp_6_187 : FP cR6 187 6 34 false .int := ⟨cR6, cT6, 39, ct6, rfl, by decide, cw6, Or.inl (g_in (List.mem_of_getElem? (i := 781) (by decide +kernel)) (by decide +kernel)), cp6, cn6, rfl, rfl, fun h => by cases h⟩
theorem fl_6_87 : FL cR6 87 6 35 := ⟨cR6, cT6, 39, rfl, by decide, cw6, Or.inl (g_in (List.mem_of_getElem? (i := 782) (by decide +kernel)) (by decide +kernel))⟩
theorem fp_6_87 : FP cR6 87 6 35 true (.array .int) := ⟨cR6, cT6, 39, ct6, rfl, by decide, cw6, Or.inl (g_in (List.mem_of_getElem? (i := 782) (by decide +kernel)) (by decide +kernel)), cp6, cn6, rfl, rfl, fun _ => rfl⟩
theorem fl_6_90 : FL cR6 90 6 36 := ⟨cR6, cT6, 39, rfl, by decide, cw6, Or.inl (g_in (List.mem_of_getElem? (i := 783) (by decide +kernel)) (by decide +kernel))⟩
theorem fp_6_90 : FP cR6 90 6 36 true (.array .int) := ⟨cR6, cT6, 39, ct6, rfl, by decide, cw6, Or.inl (g_in (List.mem_of_getElem? (i := 783) (by decide +kernel)) (by decide +kernel)), cp6, cn6, rfl, rfl, fun _ => rfl⟩
theorem fl_6_206 : FL cR6 206 6 37 := ⟨cR6, cT6, 39, rfl, by decide, cw6, Or.inl (g_in (List.mem_of_getElem? (i := 784) (by decide +kernel)) (by decide +kernel))⟩
theorem fp_6_206 : FP cR6 206 6 37 false .int := ⟨cR6, cT6, 39, ct6, rfl, by decide, cw6, Or.inl (g_in (List.mem_of_getElem? (i := 784) (by decide +kernel)) (by decide +kernel)), cp6, cn6, rfl, rfl, fun h => by cases h⟩
theorem fl_6_93 : FL cR6 93 6 38 := ⟨cR6, cT6, 39, rfl, by decide, cw6, Or.inl (g_in (List.mem_of_getElem? (i := 785) (by decide +kernel)) (by decide +kernel))⟩
theorem fp_6_93 : FP cR6 93 6 38 true (.array .int) := ⟨cR6, cT6, 39, ct6, rfl, by decide, cw6, Or.inl (g_in (List.mem_of_getElem? (i := 785) (by decide +kernel)) (by decide +kernel)), cp6, cn6, rfl, rfl, fun _ => rfl⟩
end
section
/-! ===== constants, long arrays, new, switches, ends ===== -/
/-- what 'new' asks of the entry 'index' of the class own, for the class ci; fs: the fields at first -/
def NL (own : String) (index ci : Nat) (fs : List Value) : Prop := ∃ (C : String) (T : u_T) (t0 : Nat → FieldType), g_cl[ci]? = some (C, T, fs.length) ∧ (∀ w ∈ u_ws C T fs.length, w ∈ g_ws) ∧ Cond.classLink own index C ∈ g_ws ∧ Cond.instantiable C fs.length ∈ g_ws ∧ Cond.initialized C ∈ g_ws ∧ (∀ j, j < fs.length → parseFieldDescriptor (T j).2.2.1 = some (t0 j)) ∧ (∀ j, j < fs.length → defaultValue (t0 j) = vp_V fs j)
theorem sv_dv (b : Nat) (ty : FieldType) : sv b (defaultValue ty) = defaultValue ty := by cases ty <;> rfl
theorem sv_vpV (b : Nat) (fs : List Value) (j : Nat) : vp_V (fs.map (sv b)) j = sv b (vp_V fs j) := by
  unfold vp_V
  rw [List.getD_eq_getElem?_getD, List.getD_eq_getElem?_getD, List.getElem?_map]
  cases fs[j]? <;> rfl
section JN
variable {p : Program} {l : Launch} {e : Env} {R : Room} {s : State} {m : MethodId} {args : Array Value} {below : List Frame} {meth : Method} {c : Code} {D : va_G} {cA : Nat → ClassId} {b nL : Nat} {Q : State → Prop} {n : Nat} {h : AH} {kc ks pc : Nat} {L : List (Nat × Value)} {st : List Value} {own mn : String} {cc : ByteArray} {ret : Option FieldType} {hh : List (Nat × Nat × Nat × Nat)}
theorem j_ldc (C : Cx p l s m meth c D cA b nL own mn cc ret hh) {index : Nat} {v : Int32} (hd : decode cc pc = .ok (.ldc index, 2)) (hw : Cond.constant own index v ∈ g_ws) (k : J p l e R s m args below meth c D cA b nL Q n h kc ks (pc + 2) L (.int v :: st)) : J p l e R s m args below meth c D cA b nL Q n h kc ks pc L st :=
  fun H locs ls hp hS hl => lv_ldc C.1 C.2.1 C.2.2.2.1 (C.w hw rfl args) hd (k H locs ls hp hS hl)
theorem j_ldcw (C : Cx p l s m meth c D cA b nL own mn cc ret hh) {index : Nat} {v : Int32} (hd : decode cc pc = .ok (.ldc_w index, 3)) (hw : Cond.constant own index v ∈ g_ws) (k : J p l e R s m args below meth c D cA b nL Q n h kc ks (pc + 3) L (.int v :: st)) : J p l e R s m args below meth c D cA b nL Q n h kc ks pc L st :=
  fun H locs ls hp hS hl => lv_ldcw C.1 C.2.1 C.2.2.2.1 (C.w hw rfl args) hd (k H locs ls hp hS hl)
theorem j_ldc2 (C : Cx p l s m meth c D cA b nL own mn cc ret hh) {index : Nat} {v : Int64} (hd : decode cc pc = .ok (.ldc2_w index, 3)) (hw : Cond.constantLong own index v ∈ g_ws) (k : J p l e R s m args below meth c D cA b nL Q n h kc ks (pc + 3) L (.long v :: st)) : J p l e R s m args below meth c D cA b nL Q n h kc ks pc L st :=
  fun H locs ls hp hS hl => lv_ldc2 C.1 C.2.1 C.2.2.2.1 (C.w hw rfl args) hd (k H locs ls hp hS hl)
theorem j_lcmp (C : Cx p l s m meth c D cA b nL own mn cc ret hh) {x y : Int64} (hd : decode cc pc = .ok (.lcmp, 1))  (k : J p l e R s m args below meth c D cA b nL Q n h kc ks (pc + 1) L (.int (lg_cmp x y) :: st)) : J p l e R s m args below meth c D cA b nL Q n h kc ks pc L (.long y :: .long x :: st) :=
  fun H locs ls hp hS hl => W.lcmp C.1 C.2.1 hd (k H locs ls hp hS hl)
theorem j_lshr (C : Cx p l s m meth c D cA b nL own mn cc ret hh) {x v : Int64} {y : Int32} (hd : decode cc pc = .ok (.lshr, 1)) (hv : x >>> (y.toInt64 &&& 63) = v) (k : J p l e R s m args below meth c D cA b nL Q n h kc ks (pc + 1) L (.long v :: st)) : J p l e R s m args below meth c D cA b nL Q n h kc ks pc L (.int y :: .long x :: st) :=
  fun H locs ls hp hS hl => lv_lshr C.1 C.2.1 hd hv (k H locs ls hp hS hl)
theorem j_lookup (C : Cx p l s m meth c D cA b nL own mn cc ret hh) {dflt : Int} {ps : Array (Int × Int)} {len : Nat} {x : Int32} {off : Int} {tgt : Nat} (hd : decode cc pc = .ok (.lookupswitch dflt ps, len)) (hq : (ps.toList.zip (ps.toList.drop 1)).all (fun (a, next) => a.1 < next.1) = true) (ho : Op.lookupswitch.offset ps.toList dflt x.toInt = off) (ht : (pc : Int) + off = (tgt : Int)) (k : J p l e R s m args below meth c D cA b nL Q n h kc ks tgt L st) : J p l e R s m args below meth c D cA b nL Q n h kc ks pc L (.int x :: st) :=
  fun H locs ls hp hS hl => lv_lookup C.1 C.2.1 hd hq ho ht (k H locs ls hp hS hl)
theorem j_tableOut (C : Cx p l s m meth c D cA b nL own mn cc ret hh) {dflt lo hi : Int} {offs : Array Int} {len : Nat} {x : Int32} {tgt : Nat} (hd : decode cc pc = .ok (.tableswitch dflt lo hi offs, len)) (hx : x.toInt < lo ∨ hi < x.toInt) (ht : (pc : Int) + dflt = (tgt : Int)) (k : J p l e R s m args below meth c D cA b nL Q n h kc ks tgt L st) : J p l e R s m args below meth c D cA b nL Q n h kc ks pc L (.int x :: st) :=
  fun H locs ls hp hS hl => lv_tableOut C.1 C.2.1 hd hx ht (k H locs ls hp hS hl)
theorem j_tableIn (C : Cx p l s m meth c D cA b nL own mn cc ret hh) {dflt lo hi : Int} {offs : Array Int} {len : Nat} {x : Int32} {off : Int} {tgt : Nat} (hd : decode cc pc = .ok (.tableswitch dflt lo hi offs, len)) (h1 : ¬ x.toInt < lo) (h2 : ¬ hi < x.toInt) (ho : offs[(x.toInt - lo).toNat]? = some off) (ht : (pc : Int) + off = (tgt : Int)) (k : J p l e R s m args below meth c D cA b nL Q n h kc ks tgt L st) : J p l e R s m args below meth c D cA b nL Q n h kc ks pc L (.int x :: st) :=
  fun H locs ls hp hS hl => lv_tableIn C.1 C.2.1 hd h1 h2 ho ht (k H locs ls hp hS hl)
theorem Hp.push {H H1 : Heap} (hp : Hp D cA b n h H) {x : AC} (hz : H1.size = H.size + 1) (oq : ∀ q, q < H.size → H1[q]? = H[q]?) (hx : va_at D g_cl (b + n, toE b cA x) H1) : Hp D cA b (n + 1) (hu h n x) H1 := by
  refine ⟨by rw [hz, hp.1]; omega, ?_⟩
  rw [← wO_push x]
  refine va_P.app (hp.2.kept fun k q hq => oq q.1 ((hp.2 k q hq).lt)) (fun k q hq => ?_)
  have hk : k < 1 := (List.getElem?_eq_some_iff.mp hq).1
  rw [show k = 0 by omega] at hq
  cases hq
  exact hx
theorem S_push {H H1 : Heap} {locs : List Loc} (hS : va_S (fun q => b ≤ q) s.heap H locs) (hz : H1.size = H.size + 1) (oq : ∀ q, q < H.size → H1[q]? = H[q]?) : va_S (fun q => b ≤ q) s.heap H1 locs :=
  ⟨by rw [hz]; exact Nat.le_succ_of_le hS.1, fun q h1 h2 => (oq q (Nat.lt_of_lt_of_le h1 hS.1)).trans (hS.2.1 q h1 h2), hS.2.2⟩
theorem j_new (C : Cx p l s m meth c D cA b nL own mn cc ret hh) {index ci : Nat} {fs : List Value} (hF : NL own index ci fs) (hd : decode cc pc = .ok (.new index, 3)) (hc1 : kc + 1 ≤ R.cells) (hc2 : ks + fs.length ≤ R.slots) (kk : J p l e R s m args below meth c D cA b nL Q (n + 1) (hu h n (.inr (ci, fs))) (kc + 1) (ks + fs.length) (pc + 3) L (.ref n :: st)) : J p l e R s m args below meth c D cA b nL Q n h kc ks pc L st := by
  intro H locs ls hp hS hl
  obtain ⟨Cl, T, t0, h1, h2, h3, h4, h5, h6, h7⟩ := hF
  have hK := C.2.2.2.2.1.2.1
  have hKn := hK.1 ci _ h1
  refine W.newcK C.1 C.2.1 C.2.2.2.1 (C.w h3 rfl args) (C.w h4 rfl args) (C.w h5 rfl args) rfl hd hc1 hc2 hKn.2.1 (h := b + n) hp.1 fun H1 kC hkC e1 z1 o1 => ?_
  have z2 : H1.size = H.size + 1 := by rw [z1, hp.1]
  have o2 : ∀ q, q < H.size → H1[q]? = H[q]? := fun q hq => o1 q (by rw [← hp.1]; exact hq)
  refine kk H1 locs ls (hp.push z2 o2 ⟨_, h1, (u_born t0 (C.ws h2 (u_ws_on Cl T fs.length) args) (fun _ q => q) hKn hkC e1 h6).to (fun j hj => ?_)⟩) (S_push hS z2 o2) hl
  rw [sv_vpV, ← h7 j hj, sv_dv]
theorem j_newa (C : Cx p l s m meth c D cA b nL own mn cc ret hh) {atype : ArrayType} {t N : Nat} {i : Int32} {ty : FieldType} {a0 : vp_A} (hd : decode cc pc = .ok (.newarray atype, 2)) (ht : (g_ty cA)[t]? = some (cA t, ty)) (hty : newarray.typeOf atype = ty) (hra : ∀ cX, va_RA s cX ty = (s.vm.findClass ("[" ++ ty.toString) = some cX)) (hw : Cond.arrayClass ty ∈ g_ws) (hi : ¬ i < 0) (hN : i.toNatClampNeg = N) (hb : N * componentBytes ty ≤ 536870912) (ha : ∀ cX : ClassId, vp_cell cX (sa b a0) = arrV cX N (fun _ => defaultValue ty)) (hc1 : kc + 1 ≤ R.cells) (hc2 : ks + N ≤ R.slots) (kk : J p l e R s m args below meth c D cA b nL Q (n + 1) (hu h n (.inl (t, a0))) (kc + 1) (ks + N) (pc + 2) L (.ref n :: st)) : J p l e R s m args below meth c D cA b nL Q n h kc ks pc L (.int i :: st) := by
  intro H locs ls hp hS hl
  subst hty
  refine va_newaK C.1 C.2.1 (word_at (State.WarmedH.refl s) (Or.inr ⟨_, rfl⟩) (C.2.2.2.2.1.1 _ hw)) rfl hd rfl hi hN hb hc1 hc2 (h := b + n) hp.1 fun H1 cX e1 z1 o1 hAr hNm => ?_
  have z2 : H1.size = H.size + 1 := by rw [z1, hp.1]
  have o2 : ∀ q, q < H.size → H1[q]? = H[q]? := fun q hq => o1 q (by rw [← hp.1]; exact hq)
  have hR := (C.2.2.2.2.1.2.1.2 t _ ht).2
  rw [hra] at hR
  cases Option.some.inj (hR.symm.trans hNm)
  refine kk H1 locs ls (hp.push z2 o2 ?_) (S_push hS z2 o2) hl
  show H1[b + n]? = some (vp_cell (cA t) (sa b a0))
  rw [ha]
  exact e1
theorem j_anewa (C : Cx p l s m meth c D cA b nL own mn cc ret hh) {index t N : Nat} {i : Int32} {Cl : String} (hd : decode cc pc = .ok (.anewarray index, 3)) (ht : (g_ty cA)[t]? = some (cA t, .object Cl)) (hw1 : Cond.classLink own index Cl ∈ g_ws) (hw2 : Cond.arrayOver (.object Cl) ∈ g_ws) (hi : ¬ i < 0) (hN : i.toNatClampNeg = N) (hb : N * 4 ≤ 536870912) (hc1 : kc + 1 ≤ R.cells) (hc2 : ks + N ≤ R.slots) (kk : J p l e R s m args below meth c D cA b nL Q (n + 1) (hu h n (.inl (t, N, .inr (.inr (.inr (.inr (fun _ => none))))))) (kc + 1) (ks + N) (pc + 3) L (.ref n :: st)) : J p l e R s m args below meth c D cA b nL Q n h kc ks pc L (.int i :: st) := by
  intro H locs ls hp hS hl
  subst hN
  refine W.anew C.1 C.2.1 C.2.2.2.1 (C.w hw1 rfl args) (va_AO.use (va_AO.of (C.2.2.2.2.1.1 _ hw2))) rfl hd rfl hi hb hc1 hc2 fun cX kA comp f1 f2 f3 f4 => ?_
  obtain ⟨kA', comp', r1, r2, r3, r4⟩ := (C.2.2.2.2.1.2.1.2 t _ ht).2
  cases Option.some.inj (r4.symm.trans f1)
  generalize hH1 : H.push ({ cls := cA t, slots := Array.replicate i.toNatClampNeg .null, vm := .none } : Cell) = H1
  have z1 : H1.size = H.size + 1 := by rw [← hH1, Array.size_push]
  have e1 : H1[H.size]? = some (arrV (cA t) i.toNatClampNeg (fun _ => .null)) := by rw [← hH1, Array.getElem?_push_size, ← arrV_new]
  have o1 : ∀ q : Nat, q < H.size → H1[q]? = H[q]? := fun q hq => by rw [← hH1, Array.getElem?_push, if_neg (Nat.ne_of_lt hq)]
  have hsz : H.size = b + n := hp.1
  have hk := kk H1 locs ls (hp.push z1 o1 (by show H1[b + n]? = some (arrV (cA t) i.toNatClampNeg (fun j => va_rf ((fun _ => none : Nat → Option Nat) j |>.map (fun a => b + a)))); rw [← hsz]; exact e1)) (S_push hS z1 o1) hl
  rw [hsz]
  exact hk
theorem j_aald (C : Cx p l s m meth c D cA b nL own mn cc ret hh) {t a N : Nat} {f : Nat → Option Nat} {i : Int32} {v : Value} {Cl : String} (hd : decode cc pc = .ok (.aaload, 1)) (ht : (g_ty cA)[t]? = some (cA t, .object Cl)) (ha : a < n) (hx : h a = .inl (t, N, .inr (.inr (.inr (.inr f))))) (hi : vp_in i N) (hv : va_rf (f i.toNatClampNeg) = v) (kk : J p l e R s m args below meth c D cA b nL Q n h kc ks (pc + 1) L (v :: st)) : J p l e R s m args below meth c D cA b nL Q n h kc ks pc L (.int i :: .ref a :: st) := by
  intro H locs ls hp hS hl
  subst hv
  refine va_aldq C.1 C.2.1 C.2.2.2.2.1.2.1 hp.2 a t (hp.obj ha hx) ht hi hd ?_
  have hk := kk H locs ls hp hS hl
  have e : va_rf (so b f i.toNatClampNeg) = sv b (va_rf (f i.toNatClampNeg)) := by
    unfold so
    cases f i.toNatClampNeg <;> rfl
  rw [e]
  exact hk
theorem j_lald (C : Cx p l s m meth c D cA b nL own mn cc ret hh) {t a N : Nat} {f : Nat → Int64} {i : Int32} {v : Int64} (hd : decode cc pc = .ok (.laload, 1)) (ht : (g_ty cA)[t]? = some (cA t, .long)) (ha : a < n) (hx : h a = .inl (t, N, .inr (.inl f))) (hi : vp_in i N) (hv : f i.toNatClampNeg = v) (kk : J p l e R s m args below meth c D cA b nL Q n h kc ks (pc + 1) L (.long v :: st)) : J p l e R s m args below meth c D cA b nL Q n h kc ks pc L (.int i :: .ref a :: st) := by
  intro H locs ls hp hS hl
  subst hv
  exact va_lald C.1 C.2.1 C.2.2.2.2.1.2.1 hp.2 a t (hp.obj ha hx) ht hi hd (kk H locs ls hp hS hl)
theorem j_last (C : Cx p l s m meth c D cA b nL own mn cc ret hh) {t a N : Nat} {f f' : Nat → Int64} {i : Int32} {x : Int64} (hd : decode cc pc = .ok (.lastore, 1)) (ht : (g_ty cA)[t]? = some (cA t, .long)) (ha : a < n) (hx : h a = .inl (t, N, .inr (.inl f))) (hi : vp_in i N) (hf : vp_updL f i.toNatClampNeg x = f') (kk : J p l e R s m args below meth c D cA b nL Q n (hu h a (.inl (t, N, .inr (.inl f')))) kc ks (pc + 1) L st) : J p l e R s m args below meth c D cA b nL Q n h kc ks pc L (.long x :: .int i :: .ref a :: st) := by
  intro H locs ls hp hS hl
  subst hf
  have hg := hp.obj ha hx
  refine W.last C.1 C.2.1 (hp.2 a _ hg) ((C.2.2.2.2.1.2.1.2 t _ ht).1 N (fun j => .long (f j))) (fun q => by cases q) (by show ¬ (i < 0 ∨ (arrV _ _ _).slots.size ≤ _); rw [arrV_size]; exact hi) rfl rfl hd fun H1 e z oq => ?_
  refine kk H1 _ ls (hp.up ha z (hp.2.set (wO_D b cA n h) hg ?_ oq)) (S_put hS z oq (Nat.le_add_right b a)) hl
  show H1[b + a]? = some (vp_cell _ _)
  rw [e]
  show some ((arrV (cA t) N (fun j => .long (f j))).setSlot i.toNatClampNeg _) = some (arrV (cA t) N (fun j => .long (vp_updL f i.toNatClampNeg x j)))
  rw [arrV_store]
  congr 2
  funext q
  by_cases hq : q = i.toNatClampNeg
  · subst hq
    simp [updV, vp_updL]
  · simp [updV, vp_updL, hq]
end JN
end
section
/-! ===== a method's ends: it returns, it throws ===== -/
section JE
variable {p : Program} {l : Launch} {e : Env} {R : Room} {s : State} {m : MethodId} {args : Array Value} {below : List Frame} {meth : Method} {c : Code} {D : va_G} {cA : Nat → ClassId} {b nL : Nat} {Q : State → Prop} {n : Nat} {h : AH} {kc ks pc : Nat} {L : List (Nat × Value)} {st : List Value} {own mn : String} {cc : ByteArray} {ret : Option FieldType} {hh : List (Nat × Nat × Nat × Nat)} {Qa : Rz → Nat → AH → Prop} {mc ms : Nat}
theorem S_low {H : Heap} {locs : List Loc} (hb : b ≤ s.heap.size) (hS : va_S (fun q => b ≤ q) s.heap H locs) : ∀ q : Nat, q < b → H[q]? = s.heap[q]? := fun q hq => hS.2.1 q (Nat.lt_of_lt_of_le hq hb) (Nat.not_le.mpr hq)
theorem w_end {H : Heap} {locs : List Loc} {g : JFrame} {r : Option Value} (hb : b ≤ s.heap.size) (hp : Hp D cA b n h H) (hS : va_S (fun q => b ≤ q) s.heap H locs) (hc : kc ≤ mc) (hs : ks ≤ ms) (hq : Qa (.inl r) n h)
    (k : W p l e R s m args below meth c H locs kc ks (MQ below (fun _ _ o t => o = .returned (r.map (sv b)) ∧ t.heap = H) args s kc ks (fun q => b ≤ q)) g) : W p l e R s m args below meth c H locs kc ks (EndQ D cA b s below Qa mc ms) g := by
  intro T hT X
  obtain ⟨t, a1, o, b1, b2, ⟨b3, b4⟩, L9, ⟨-, hW, hsm⟩, hL⟩ := k T hT X
  refine ⟨t, a1, o, b1, b2, hW, ⟨L9, hsm.mono hc hs, hL⟩, ?_, n, h, .inl r, ?_, b3, hq⟩
  · rw [b4]; exact S_low hb hS
  · rw [b4]; exact hp
theorem j_ireturn (C : Cx p l s m meth c D cA b nL own mn cc ret hh) {v : Int32} (hd : decode cc pc = .ok (.ireturn, 1)) (hr : ret = some .int) (hc : kc ≤ mc) (hs : ks ≤ ms) (hq : Qa (.inl (some (.int v))) n h) : J p l e R s m args below meth c D cA b nL (EndQ D cA b s below Qa mc ms) n h kc ks pc L [.int v] :=
  fun _ _ _ hp hS _ => w_end C.2.2.2.2.1.2.2.1 hp hS hc hs hq (W.iret C.1 C.2.1 (C.2.2.2.2.2.2.1.trans hr) (fun _ ht _ => ⟨rfl, ht⟩) hS.2.2 hd C.2.2.2.2.2.1)
theorem j_zreturn (C : Cx p l s m meth c D cA b nL own mn cc ret hh) {v : Int32} {ty : FieldType} (hd : decode cc pc = .ok (.ireturn, 1)) (hr : ret = some ty) (hn : narrow ty (.int v) = .int v) (hc : kc ≤ mc) (hs : ks ≤ ms) (hq : Qa (.inl (some (.int v))) n h) : J p l e R s m args below meth c D cA b nL (EndQ D cA b s below Qa mc ms) n h kc ks pc L [.int v] :=
  fun _ _ _ hp hS _ => w_end C.2.2.2.2.1.2.2.1 hp hS hc hs hq (W.zret C.1 C.2.1 (C.2.2.2.2.2.2.1.trans hr) hn (fun _ ht _ => ⟨rfl, ht⟩) hS.2.2 hd C.2.2.2.2.2.1)
theorem j_vreturn (C : Cx p l s m meth c D cA b nL own mn cc ret hh) (hd : decode cc pc = .ok (.return_, 1)) (hr : ret = none) (hc : kc ≤ mc) (hs : ks ≤ ms) (hq : Qa (.inl none) n h) : J p l e R s m args below meth c D cA b nL (EndQ D cA b s below Qa mc ms) n h kc ks pc L [] :=
  fun _ _ _ hp hS _ => w_end C.2.2.2.2.1.2.2.1 hp hS hc hs hq (W.vret C.1 C.2.1 (C.2.2.2.2.2.2.1.trans hr) (fun _ ht _ => ⟨rfl, ht⟩) hS.2.2 hd C.2.2.2.2.2.1)
theorem j_areturn (C : Cx p l s m meth c D cA b nL own mn cc ret hh) {v : Value} {ty : FieldType} (hd : decode cc pc = .ok (.areturn, 1)) (hr : ret = some ty) (hrt : (∃ k, ty = .object k) ∨ ∃ t, ty = .array t) (hv : v = .null ∨ ∃ a, v = .ref a) (hc : kc ≤ mc) (hs : ks ≤ ms) (hq : Qa (.inl (some v)) n h) : J p l e R s m args below meth c D cA b nL (EndQ D cA b s below Qa mc ms) n h kc ks pc L [v] :=
  fun _ _ _ hp hS _ => w_end C.2.2.2.2.1.2.2.1 hp hS hc hs hq (W.aret C.1 C.2.1 (C.2.2.2.2.2.2.1.trans hr) hrt (by rcases hv with rfl | ⟨a, rfl⟩; exact Or.inl rfl; exact Or.inr ⟨_, rfl⟩) (fun _ ht _ => ⟨rfl, ht⟩) hS.2.2 hd C.2.2.2.2.2.1)
theorem tw_throwS {H : Heap} {locs : List Loc} {cells slots : Nat} {ls : Array Slot} {rest : List Value} {cc : ByteArray} {pc : Nat} (hexec : p.tables.exec = Jvm.exec) (hb : c.code = cc) (hl : l.stackTraces = false) {own cls text : String} {names : List String} {ik is ic sa : Nat} {A : Nat → Prop}
    (hown : s.vm.findClass own = some m.cls) (hcls : Bundle.fit cls = true) (hnames : ∀ n ∈ names, Bundle.fit n = true)
    (hk : (Cond.classLink own ik cls).before args s = true) (hini : (Cond.initialized cls).before args s = true) (hstr : vk_R own is text sa s) (hat : ∀ w ∈ vx_atS own ic cls names, w.before args s = true)
    (hgood : ∀ w ∈ Cond.classLink own ik cls :: Cond.initialized cls :: vx_atS own ic cls names, vx_ot w = true)
    (hU : vx_Zq Bundle.tN "UNASSIGNED_STACK" Bundle.steD A s s.heap) (hN : vx_Zq Bundle.tN "SUPPRESSED_SENTINEL" Bundle.listD A s s.heap) (hS : va_S A s.heap H locs) (hsize : ls.size = c.maxLocals)
    (d0 : decode cc pc = .ok (.new ik, 3)) (d3 : decode cc (pc + 3) = .ok (.dup, 1)) (d4 : decode cc (pc + 4) = .ok (.ldc is, 2)) (d6 : decode cc (pc + 6) = .ok (.invokespecial ic, 3)) (d9 : decode cc (pc + 9) = .ok (.athrow, 1))
    (hout : ∀ x ∈ c.exceptionTable.toList, covers x (pc + 9) = false)
    (hRframes : names.length + 3 < R.frames) (hRlocals : (rest.map fun v => v.category).sum + (13 * (names.length + 1) + 43) ≤ R.locals) (hRcells : cells + 1 ≤ R.cells) (hRslots : slots + 6 ≤ R.slots) (hlocks : meth.locks = false) {T : State} (hT : T.heap = H) (X : Stand p l e R s m args below meth c T locs cells slots) :
    ∃ U : State, Steps p.tables e below (T.setTop (F0 m pc ls rest)) U ∧ U.status = .running ∧ Ended U below (.threw H.size) ∧ s.WarmedH U.vm ∧ s.sameButNew ({ U with vm := s.vm } : State) locs (cells + 1) (slots + 6) ∧ U.heap.size = H.size + 1 ∧ (∀ q : Nat, q < H.size → U.heap[q]? = H[q]?) ∧ ∃ ce : Cell, U.heap[H.size]? = some ce ∧ ce.vm = .none ∧ s.vm.findClass cls = some ce.cls := by
  have htr : e.platform.stackTraces = false := (show e.platform.stackTraces = l.stackTraces by rw [X.admits.platform]).trans hl
  have Y := vx_rebase X (R' := { frames := R.frames, locals := R.locals, cells := 1, slots := 6 }) (Nat.le_refl _) (Nat.le_refl _) hRcells hRslots
  obtain ⟨s', hA⟩ : ∃ z, z = (T.setVm s.vm).setFrames (.invoking m args :: below) := ⟨_, rfl⟩
  rw [← hA] at Y
  have hvm : s'.vm = s.vm := by rw [hA]; rfl
  have hhp : s'.heap = H := by rw [hA]; exact hT
  have hW0 : s.WarmedH s'.vm := by rw [hvm]; exact State.WarmedH.refl s
  have hat' : ∀ w ∈ vx_atS own ic cls names, w.before args s' = true := fun w hw => vx_ot_at hW0 hvm.symm (hgood w (List.mem_cons_of_mem _ (List.mem_cons_of_mem _ hw))) (hat w hw)
  have hk' : (Cond.classLink own ik cls).before args s' = true := vx_ot_at hW0 hvm.symm (hgood _ List.mem_cons_self) hk
  have hini' : (Cond.initialized cls).before args s' = true := vx_ot_at hW0 hvm.symm (hgood _ (List.mem_cons_of_mem _ List.mem_cons_self)) hini
  have hU' : vx_Zq Bundle.tN "UNASSIGNED_STACK" Bundle.steD A s' s'.heap := by rw [hhp]; exact vx_Zq.moved hW0.alike (hU.kept hS.2.1)
  have hN' : vx_Zq Bundle.tN "SUPPRESSED_SENTINEL" Bundle.listD A s' s'.heap := by rw [hhp]; exact vx_Zq.moved hW0.alike (hN.kept hS.2.1)
  have h : ∀ w ∈ Bundle.ownAtoms own ic cls names, w.before args s' = true := vx_own hat' (vx_isRefq hU'.1) (vx_isRefq hN'.1) hU'.2.word hN'.2.word
  have hown' : s'.vm.findClass own = some m.cls := by rw [hvm]; exact hown
  have hins : (Cond.instantiable cls 6).before args s' = true := h _ (by simp [Bundle.ownAtoms])
  obtain ⟨vm₁, cX, kX, hfX, hkX, -, -, X₁, st1⟩ := Y.newCold hexec (own := own) (C := cls) (index := ik) (n := 6) hown' hk' hins hini'
    (g := F0 m pc ls rest) rfl (by rw [hb]; exact d0) (Nat.le_refl _) (Nat.le_refl _)
  generalize hT1 : (T.setVm vm₁).pushCell { cls := cX, slots := kX.instanceTypes.map defaultValue, vm := .none } = T1 at X₁ st1
  have hcat : (Value.ref T.heap.size).category = 1 := rfl
  have hcellA : T1.heap[T.heap.size]? = some (freshCell cX kX) := by rw [← hT1]; exact State.heap_pushCell_size _ _
  have d3' : decode c.code (pc + 3) = .ok (.dup, 1) := by rw [hb]; exact d3
  have d4' : decode c.code (pc + 4) = .ok (.ldc is, 2) := by rw [hb]; exact d4
  have hstr' : vk_R own is text sa s' := vk_R.warm hW0 hstr
  obtain ⟨U, hsteps, hrun, hend, hW, hsame, ce, hce, hO⟩ := X₁.ctorThrowS hexec htr (own := own) (cls := cls) (names := names) (ic := ic) hown' hcls hnames h (fun x hx => nomatch hx) hfX hkX hcellA (by rw [hhp, hT]; exact Nat.le_refl _) (msg := .ref sa) rfl
    (g := { method := m, pc := pc + 6, locals := ls, stack := .ref sa :: .ref T.heap.size :: .ref T.heap.size :: rest, locked := none }) rfl hsize rfl rfl (rest := rest) rfl
    (by rw [hb]; exact d6) (by rw [hb]; exact d9) hout hRframes (by simp only [List.map_cons, List.sum_cons, hcat]; omega) hlocks
  obtain ⟨f1, f2⟩ := vx_frame hsame
  rw [hhp] at f1 f2
  have hWs : s.WarmedH U.vm := State.WarmedH.trans hW0 hW
  have hcl : s.vm.findClass cls = some ce.cls := by
    have h9 := hO.cls
    rw [hvm] at h9
    exact h9
  have hall : s.sameButNew ({ U with vm := s.vm } : State) locs (cells + 1) (slots + 6) := by
    subst hA
    obtain ⟨e1, e2⟩ := hsame
    rw [State.setFrames_setFrames] at e1
    have h2 : (T.setVm s.vm).sameButNew ({ U with vm := s.vm } : State) [] (0 + 1) (0 + 6) := ⟨e1, e2⟩
    have h3 := X.same.trans h2
    rw [List.append_nil] at h3
    exact h3.mono (by omega) (by omega)
  have hz1 : U.heap.size ≤ H.size + 1 := by
    have h9 := hsame.2.2.1
    rw [hhp] at h9
    exact h9
  have hz2 : T.heap.size < U.heap.size := (Array.getElem?_eq_some_iff.mp hce).1
  refine ⟨U, ?_, hrun, by rw [← hT]; exact hend, hWs, hall, by rw [hT] at hz2; omega, fun q hq => f2 q hq (fun z hz => nomatch hz), ce, by rw [← hT]; exact hce, hO.vm, hcl⟩
  refine st1 _ ?_
  show Steps p.tables e below (T1.setTop { method := m, pc := pc + 3, locals := ls, stack := .ref T.heap.size :: rest, locked := none }) _
  jvm_step X₁.here [X₁.here.top, hexec, d3', Value.category]
  exact X₁.ldcString hexec (own := own) (text := text) (index := is) (a := sa) hown' hstr'.1 hstr'.2
    (g := { method := m, pc := pc + 4, locals := ls, stack := .ref T.heap.size :: .ref T.heap.size :: rest, locked := none }) rfl d4' _ hsteps
theorem tw_throwSW {H : Heap} {locs : List Loc} {cells slots : Nat} {ls : Array Slot} {rest : List Value} {cc : ByteArray} {pc : Nat} (hexec : p.tables.exec = Jvm.exec) (hb : c.code = cc) (hl : l.stackTraces = false) {own cls text : String} {names : List String} {ik is ic sa : Nat} {A : Nat → Prop}
    (hown : s.vm.findClass own = some m.cls) (hcls : Bundle.fit cls = true) (hnames : ∀ n ∈ names, Bundle.fit n = true)
    (hk : (Cond.classLink own ik cls).before args s = true) (hini : (Cond.initialized cls).before args s = true) (hstr : vk_R own is text sa s) (hat : ∀ w ∈ vx_atS own ic cls names, w.before args s = true)
    (hgood : ∀ w ∈ Cond.classLink own ik cls :: Cond.initialized cls :: vx_atS own ic cls names, vx_ot w = true)
    (hU : vx_Zq Bundle.tN "UNASSIGNED_STACK" Bundle.steD A s s.heap) (hN : vx_Zq Bundle.tN "SUPPRESSED_SENTINEL" Bundle.listD A s s.heap) (hS : va_S A s.heap H locs) (hsize : ls.size = c.maxLocals)
    (d0 : decode cc pc = .ok (.new ik, 3)) (d3 : decode cc (pc + 3) = .ok (.dup, 1)) (d4 : decode cc (pc + 4) = .ok (.ldc_w is, 3)) (d7 : decode cc (pc + 7) = .ok (.invokespecial ic, 3)) (d10 : decode cc (pc + 10) = .ok (.athrow, 1))
    (hout : ∀ x ∈ c.exceptionTable.toList, covers x (pc + 10) = false)
    (hRframes : names.length + 3 < R.frames) (hRlocals : (rest.map fun v => v.category).sum + (13 * (names.length + 1) + 43) ≤ R.locals) (hRcells : cells + 1 ≤ R.cells) (hRslots : slots + 6 ≤ R.slots) (hlocks : meth.locks = false) {T : State} (hT : T.heap = H) (X : Stand p l e R s m args below meth c T locs cells slots) :
    ∃ U : State, Steps p.tables e below (T.setTop (F0 m pc ls rest)) U ∧ U.status = .running ∧ Ended U below (.threw H.size) ∧ s.WarmedH U.vm ∧ s.sameButNew ({ U with vm := s.vm } : State) locs (cells + 1) (slots + 6) ∧ U.heap.size = H.size + 1 ∧ (∀ q : Nat, q < H.size → U.heap[q]? = H[q]?) ∧ ∃ ce : Cell, U.heap[H.size]? = some ce ∧ ce.vm = .none ∧ s.vm.findClass cls = some ce.cls := by
  have htr : e.platform.stackTraces = false := (show e.platform.stackTraces = l.stackTraces by rw [X.admits.platform]).trans hl
  have Y := vx_rebase X (R' := { frames := R.frames, locals := R.locals, cells := 1, slots := 6 }) (Nat.le_refl _) (Nat.le_refl _) hRcells hRslots
  obtain ⟨s', hA⟩ : ∃ z, z = (T.setVm s.vm).setFrames (.invoking m args :: below) := ⟨_, rfl⟩
  rw [← hA] at Y
  have hvm : s'.vm = s.vm := by rw [hA]; rfl
  have hhp : s'.heap = H := by rw [hA]; exact hT
  have hW0 : s.WarmedH s'.vm := by rw [hvm]; exact State.WarmedH.refl s
  have hat' : ∀ w ∈ vx_atS own ic cls names, w.before args s' = true := fun w hw => vx_ot_at hW0 hvm.symm (hgood w (List.mem_cons_of_mem _ (List.mem_cons_of_mem _ hw))) (hat w hw)
  have hk' : (Cond.classLink own ik cls).before args s' = true := vx_ot_at hW0 hvm.symm (hgood _ List.mem_cons_self) hk
  have hini' : (Cond.initialized cls).before args s' = true := vx_ot_at hW0 hvm.symm (hgood _ (List.mem_cons_of_mem _ List.mem_cons_self)) hini
  have hU' : vx_Zq Bundle.tN "UNASSIGNED_STACK" Bundle.steD A s' s'.heap := by rw [hhp]; exact vx_Zq.moved hW0.alike (hU.kept hS.2.1)
  have hN' : vx_Zq Bundle.tN "SUPPRESSED_SENTINEL" Bundle.listD A s' s'.heap := by rw [hhp]; exact vx_Zq.moved hW0.alike (hN.kept hS.2.1)
  have h : ∀ w ∈ Bundle.ownAtoms own ic cls names, w.before args s' = true := vx_own hat' (vx_isRefq hU'.1) (vx_isRefq hN'.1) hU'.2.word hN'.2.word
  have hown' : s'.vm.findClass own = some m.cls := by rw [hvm]; exact hown
  have hins : (Cond.instantiable cls 6).before args s' = true := h _ (by simp [Bundle.ownAtoms])
  obtain ⟨vm₁, cX, kX, hfX, hkX, -, -, X₁, st1⟩ := Y.newCold hexec (own := own) (C := cls) (index := ik) (n := 6) hown' hk' hins hini'
    (g := F0 m pc ls rest) rfl (by rw [hb]; exact d0) (Nat.le_refl _) (Nat.le_refl _)
  generalize hT1 : (T.setVm vm₁).pushCell { cls := cX, slots := kX.instanceTypes.map defaultValue, vm := .none } = T1 at X₁ st1
  have hcat : (Value.ref T.heap.size).category = 1 := rfl
  have hcellA : T1.heap[T.heap.size]? = some (freshCell cX kX) := by rw [← hT1]; exact State.heap_pushCell_size _ _
  have d3' : decode c.code (pc + 3) = .ok (.dup, 1) := by rw [hb]; exact d3
  have d4' : decode c.code (pc + 4) = .ok (.ldc_w is, 3) := by rw [hb]; exact d4
  have hstr' : vk_R own is text sa s' := vk_R.warm hW0 hstr
  obtain ⟨U, hsteps, hrun, hend, hW, hsame, ce, hce, hO⟩ := X₁.ctorThrowS hexec htr (own := own) (cls := cls) (names := names) (ic := ic) hown' hcls hnames h (fun x hx => nomatch hx) hfX hkX hcellA (by rw [hhp, hT]; exact Nat.le_refl _) (msg := .ref sa) rfl
    (g := { method := m, pc := pc + 7, locals := ls, stack := .ref sa :: .ref T.heap.size :: .ref T.heap.size :: rest, locked := none }) rfl hsize rfl rfl (rest := rest) rfl
    (by rw [hb]; exact d7) (by rw [hb]; exact d10) hout hRframes (by simp only [List.map_cons, List.sum_cons, hcat]; omega) hlocks
  obtain ⟨f1, f2⟩ := vx_frame hsame
  rw [hhp] at f1 f2
  have hWs : s.WarmedH U.vm := State.WarmedH.trans hW0 hW
  have hcl : s.vm.findClass cls = some ce.cls := by
    have h9 := hO.cls
    rw [hvm] at h9
    exact h9
  have hall : s.sameButNew ({ U with vm := s.vm } : State) locs (cells + 1) (slots + 6) := by
    subst hA
    obtain ⟨e1, e2⟩ := hsame
    rw [State.setFrames_setFrames] at e1
    have h2 : (T.setVm s.vm).sameButNew ({ U with vm := s.vm } : State) [] (0 + 1) (0 + 6) := ⟨e1, e2⟩
    have h3 := X.same.trans h2
    rw [List.append_nil] at h3
    exact h3.mono (by omega) (by omega)
  have hz1 : U.heap.size ≤ H.size + 1 := by
    have h9 := hsame.2.2.1
    rw [hhp] at h9
    exact h9
  have hz2 : T.heap.size < U.heap.size := (Array.getElem?_eq_some_iff.mp hce).1
  refine ⟨U, ?_, hrun, by rw [← hT]; exact hend, hWs, hall, by rw [hT] at hz2; omega, fun q hq => f2 q hq (fun z hz => nomatch hz), ce, by rw [← hT]; exact hce, hO.vm, hcl⟩
  refine st1 _ ?_
  show Steps p.tables e below (T1.setTop { method := m, pc := pc + 3, locals := ls, stack := .ref T.heap.size :: rest, locked := none }) _
  jvm_step X₁.here [X₁.here.top, hexec, d3', Value.category]
  exact X₁.ldcStringW hexec (own := own) (text := text) (index := is) (a := sa) hown' hstr'.1 hstr'.2
    (g := { method := m, pc := pc + 4, locals := ls, stack := .ref T.heap.size :: .ref T.heap.size :: rest, locked := none }) rfl d4' _ hsteps
end JE
end
section
/-! ===== throw new X("text"); calls by contracts; what was thrown leaves the method, or is caught ===== -/
/-- what 'new X; dup; ldc; <init>(String); athrow' asks: the entries ik (class), ic (constructor); ci: X's number -/
def TH (own : String) (ik ic ci : Nat) (names : List String) : Prop := ∃ (X : String) (T : u_T), g_cl[ci]? = some (X, T, 0) ∧ Bundle.fit X = true ∧ (∀ k ∈ names, Bundle.fit k = true) ∧ (∀ w ∈ Cond.classLink own ik X :: Cond.initialized X :: vx_atS own ic X names, w ∈ g_ws ∧ vx_ot w = true ∧ w.onTables = true)
/-- a method as a callee: its code's word, how many parameters -/
def MC (y : MethodName) (cd : Cond) (cc : ByteArray) (maxL : Nat) (ret : Option FieldType) (hh : List (Nat × Nat × Nat × Nat)) (k : Nat) : Prop := cd ∈ g_ws ∧ ((cd = Cond.code y cc maxL ret ∧ hh = []) ∨ cd = Cond.codeWith y cc maxL ret hh) ∧ Cond.initialized y.cls ∈ g_ws ∧ (y.cls ≠ "java/lang/invoke/MethodHandle" ∧ y.cls ≠ "java/lang/invoke/VarHandle") ∧ (parseMethodDescriptor y.desc).map (fun d => d.parameters.length) = some k
def ML (own : String) (index : Nat) (y : MethodName) : Prop := Cond.methodLink own index y ∈ g_ws ∨ ∃ host : String, Cond.methodLinkNest own index y host ∈ g_ws
section JC
variable {p : Program} {l : Launch} {e : Env} {R : Room} {s : State} {m : MethodId} {args : Array Value} {below : List Frame} {meth : Method} {c : Code} {D : va_G} {cA : Nat → ClassId} {b nL : Nat} {Q : State → Prop} {n : Nat} {h : AH} {kc ks pc : Nat} {L : List (Nat × Value)} {st : List Value} {own mn : String} {cc : ByteArray} {ret : Option FieldType} {hh : List (Nat × Nat × Nat × Nat)} {Qa : Rz → Nat → AH → Prop} {mc ms : Nat}
theorem th_at {H : Heap} {ci k : Nat} {X : String} {T : u_T} (hK : va_K D g_cl (g_ty cA) s) (hc : g_cl[ci]? = some (X, T, 0)) {ce : Cell} (h1 : H[b + k]? = some ce) (h2 : ce.vm = .none) (h3 : s.vm.findClass X = some ce.cls) : va_at D g_cl (b + k, toE b cA (.inr (ci, []))) H := by
  refine ⟨_, hc, ce, h1, ?_, h2, fun k hk => absurd hk (Nat.not_lt_zero k)⟩
  exact Option.some.inj (h3.symm.trans (hK.1 ci _ hc).2.1)
theorem j_throwS (C : Cx p l s m meth c D cA b nL own mn cc ret hh) {ik is ic ci : Nat} {text : String} {names : List String} (hT : TH own ik ic ci names) (hstr : (own, is, text) ∈ g_str) (hout : hh = [])
    (d0 : decode cc pc = .ok (.new ik, 3)) (d3 : decode cc (pc + 3) = .ok (.dup, 1)) (d4 : decode cc (pc + 4) = .ok (.ldc is, 2)) (d6 : decode cc (pc + 6) = .ok (.invokespecial ic, 3)) (d9 : decode cc (pc + 9) = .ok (.athrow, 1))
    (hR1 : names.length + 3 < R.frames) (hR2 : (st.map fun v => v.category).sum + (13 * (names.length + 1) + 43) ≤ R.locals) (hR3 : kc + 1 ≤ R.cells) (hR4 : ks + 6 ≤ R.slots) (hc : kc + 1 ≤ mc) (hs : ks + 6 ≤ ms) (hq : Qa (.inr ci) (n + 1) (hu h n (.inr (ci, [])))) : J p l e R s m args below meth c D cA b nL (EndQ D cA b s below Qa mc ms) n h kc ks pc L st := by
  intro H locs ls hp hS hl T hTH X
  obtain ⟨Xn, T0, t1, t2, t3, t4⟩ := hT
  obtain ⟨sa, hsa⟩ := C.2.2.2.2.1.2.2.2.2.1 _ hstr
  have hw : ∀ w ∈ Cond.classLink own ik Xn :: Cond.initialized Xn :: vx_atS own ic Xn names, w.before args s = true := fun w hw => C.w (t4 w hw).1 (t4 w hw).2.2 args
  obtain ⟨U, a1, a2, a3, a4, a5, a6, a7, ce, a8, a9, a10⟩ := tw_throwS (A := fun q => b ≤ q) (rest := st.map (sv b)) C.1 C.2.1 C.2.2.2.2.2.2.2.2.1 C.2.2.2.1 t2 t3 (hw _ List.mem_cons_self) (hw _ (List.mem_cons_of_mem _ List.mem_cons_self)) hsa (fun w h9 => hw w (List.mem_cons_of_mem _ (List.mem_cons_of_mem _ h9)))
    (fun w h9 => (t4 w h9).2.1) C.2.2.2.2.1.2.2.2.2.2.1 C.2.2.2.2.1.2.2.2.2.2.2 hS (hl.1.trans C.2.2.1.symm) d0 d3 d4 d6 d9 (by rw [C.2.2.2.2.2.2.2.1, hout]; intro x hx; cases hx)
    hR1 (by rw [List.map_map]; rw [show ((fun v : Value => v.category) ∘ sv b) = (fun v : Value => v.category) from funext (fun v => sv_cat b v)]; exact hR2) hR3 hR4 C.2.2.2.2.2.1 hTH X
  refine ⟨U, a1, _, a2, a3, a4, ⟨locs, a5.mono hc hs, hS.2.2⟩, fun q hq => ?_, n + 1, hu h n (.inr (ci, [])), .inr ci, hp.push a6 a7 (th_at C.2.2.2.2.1.2.1 t1 (by rw [← hp.1]; exact a8) a9 a10), ⟨n, Nat.lt_succ_self n, by rw [hp.1], hu_s _ _ _⟩, hq⟩
  rw [a7 q (Nat.lt_of_lt_of_le hq (by rw [hp.1]; omega))]
  exact S_low C.2.2.2.2.1.2.2.1 hS q hq
theorem j_throwSW (C : Cx p l s m meth c D cA b nL own mn cc ret hh) {ik is ic ci : Nat} {text : String} {names : List String} (hT : TH own ik ic ci names) (hstr : (own, is, text) ∈ g_str) (hout : hh = [])
    (d0 : decode cc pc = .ok (.new ik, 3)) (d3 : decode cc (pc + 3) = .ok (.dup, 1)) (d4 : decode cc (pc + 4) = .ok (.ldc_w is, 3)) (d6 : decode cc (pc + 7) = .ok (.invokespecial ic, 3)) (d9 : decode cc (pc + 10) = .ok (.athrow, 1))
    (hR1 : names.length + 3 < R.frames) (hR2 : (st.map fun v => v.category).sum + (13 * (names.length + 1) + 43) ≤ R.locals) (hR3 : kc + 1 ≤ R.cells) (hR4 : ks + 6 ≤ R.slots) (hc : kc + 1 ≤ mc) (hs : ks + 6 ≤ ms) (hq : Qa (.inr ci) (n + 1) (hu h n (.inr (ci, [])))) : J p l e R s m args below meth c D cA b nL (EndQ D cA b s below Qa mc ms) n h kc ks pc L st := by
  intro H locs ls hp hS hl T hTH X
  obtain ⟨Xn, T0, t1, t2, t3, t4⟩ := hT
  obtain ⟨sa, hsa⟩ := C.2.2.2.2.1.2.2.2.2.1 _ hstr
  have hw : ∀ w ∈ Cond.classLink own ik Xn :: Cond.initialized Xn :: vx_atS own ic Xn names, w.before args s = true := fun w hw => C.w (t4 w hw).1 (t4 w hw).2.2 args
  obtain ⟨U, a1, a2, a3, a4, a5, a6, a7, ce, a8, a9, a10⟩ := tw_throwSW (A := fun q => b ≤ q) (rest := st.map (sv b)) C.1 C.2.1 C.2.2.2.2.2.2.2.2.1 C.2.2.2.1 t2 t3 (hw _ List.mem_cons_self) (hw _ (List.mem_cons_of_mem _ List.mem_cons_self)) hsa (fun w h9 => hw w (List.mem_cons_of_mem _ (List.mem_cons_of_mem _ h9)))
    (fun w h9 => (t4 w h9).2.1) C.2.2.2.2.1.2.2.2.2.2.1 C.2.2.2.2.1.2.2.2.2.2.2 hS (hl.1.trans C.2.2.1.symm) d0 d3 d4 d6 d9 (by rw [C.2.2.2.2.2.2.2.1, hout]; intro x hx; cases hx)
    hR1 (by rw [List.map_map]; rw [show ((fun v : Value => v.category) ∘ sv b) = (fun v : Value => v.category) from funext (fun v => sv_cat b v)]; exact hR2) hR3 hR4 C.2.2.2.2.2.1 hTH X
  refine ⟨U, a1, _, a2, a3, a4, ⟨locs, a5.mono hc hs, hS.2.2⟩, fun q hq => ?_, n + 1, hu h n (.inr (ci, [])), .inr ci, hp.push a6 a7 (th_at C.2.2.2.2.1.2.1 t1 (by rw [← hp.1]; exact a8) a9 a10), ⟨n, Nat.lt_succ_self n, by rw [hp.1], hu_s _ _ _⟩, hq⟩
  rw [a7 q (Nat.lt_of_lt_of_le hq (by rw [hp.1]; omega))]
  exact S_low C.2.2.2.2.1.2.2.1 hS q hq
/-- the call itself, behind the invoking instruction's own step -/
theorem call_core {T : State} {locs : List Loc} {y : MethodName} {cd : Cond} {fr lo mc' ms' maxL len k : Nat} {vs : List Value} {Qc : Rz → Nat → AH → Prop} {cc' : ByteArray} {ret' : Option FieldType} {hh' : List (Nat × Nat × Nat × Nat)} {g : JFrame} {ig : Instr} {mk : MethodId}
    (hG : Gl D cA b s) (X : Stand p l e R s m args below meth c T locs kc ks) (hp : Hp D cA b n h T.heap) (hS : va_S (fun q => b ≤ q) s.heap T.heap locs)
    (hC : Cn l D cA b y cd fr lo mc' ms' vs n h Qc) (hM : MC y cd cc' maxL ret' hh' k) (hg : g.method = m) (hsize : g.locals.size = c.maxLocals) (hdg : decode c.code g.pc = .ok (ig, len)) (hn : T.methodNamed? y = some mk)
    (hR1 : fr + 1 ≤ R.frames) (hR2 : 2 * g.monitorRoom + (g.stack.map fun v => v.category).sum + (maxL + 11) + lo ≤ R.locals) (hR3 : kc + mc' ≤ R.cells) (hR4 : ks + ms' ≤ R.slots) :
    ∃ (n' : Nat) (h' : AH) (r : Rz) (T' : State) (locs' : List Loc), Qc r n' h' ∧ Stand p l e R s m args below meth c T' locs' (kc + mc') (ks + ms') ∧ Hp D cA b n' h' T'.heap ∧ va_S (fun q => b ≤ q) s.heap T'.heap locs' ∧
      match r with
      | .inl v => Steps p.tables e below (doInvoke e (T.setTop g) [] mk (vs.map (sv b)).toArray).1 (T'.setTop { g with pc := g.pc + len, stack := (v.map (sv b)).toList ++ g.stack })
      | .inr ci => ∃ q, q < n' ∧ h' q = .inr (ci, []) ∧ Steps p.tables e below (doInvoke e (T.setTop g) [] mk (vs.map (sv b)).toArray).1 ((T'.setTop g).pushFrame (.throwing (b + q))) := by
  obtain ⟨m1, m2, m3, -, -⟩ := hM
  have hlow := S_low hG.2.2.1 hS
  have hzb : b ≤ T.heap.size := by rw [hp.1]; omega
  have hGT : Gl D cA b T := hG.to X.warmed hzb hlow
  have hGc : Gl D cA b (T.calling g mk (vs.map (sv b)).toArray) := hGT.to (State.WarmedH.refl T) hzb (fun _ _ => rfl)
  have hcdT : ∀ a' : Array Value, cd.before a' T = true := by
    intro a'
    have h1 := hGT.1 cd m1
    rcases m2 with ⟨rfl, -⟩ | rfl <;> exact va_tabs rfl rfl h1
  have hini : (Cond.initialized y.cls).before (vs.map (sv b)).toArray T = true := va_tabs rfl rfl (hGT.1 _ m3)
  have hsp : ∃ methY cY, T.vm.method? mk = some methY ∧ methY.code = some cY ∧ cY.maxLocals = maxL := by
    rcases m2 with ⟨rfl, -⟩ | rfl
    · obtain ⟨methY, cY, hmY, hcY, -, hlY, -⟩ := Cond.code_spec hn (hcdT #[])
      exact ⟨methY, cY, hmY, hcY, hlY⟩
    · obtain ⟨m9, methY, cY, hn9, hmY, hcY, -, hlY, -⟩ := Cond.codeWith_spec (hcdT #[])
      cases Option.some.inj (hn9.symm.trans hn)
      exact ⟨methY, cY, hmY, hcY, hlY⟩
  obtain ⟨methY, cY, hmY, hcY, hlY⟩ := hsp
  obtain ⟨kY, hkY, -⟩ := className_of_methodNamed hn
  have hinitY : kY.init = .initialized := Cond.initialized_spec (findClass_of_methodNamed hn) hkY hini
  have hAt : At T g.method c below := by rw [hg]; exact X.here
  have happ : (headSpec [cd] { frames := fr, cells := mc', slots := ms', locals := lo }).appliesLoose y e.platform (T.calling g mk (vs.map (sv b)).toArray) = true :=
    Spec.appliesLoose_calling (g := g) hAt hdg hn hkY hinitY
      (X.room_calling (g := g) (R' := { frames := fr, cells := mc', slots := ms', locals := lo }) hsize hmY hcY hR1 (by rw [hlY]; exact hR2) hR3 hR4)
      (atoms_intro (fun w hw => by rw [List.mem_singleton] at hw; subst hw; exact hcdT _))
  obtain ⟨mid, hmid⟩ := hAt.above
  have hfr : (T.setTop g).frames = (.java g :: mid) ++ below := by rw [State.frames_setTop' g hAt.top, hmid]; rfl
  obtain ⟨o, s₂, hsteps, -, hend, hq⟩ := Steps.callFree hC p X.admits X.cas X.clock (acts := []) hfr happ ⟨rfl, hGc, hp⟩ trivial
  rw [State.frames_setTop' g hAt.top, X.tail] at hend
  obtain ⟨q1, ⟨L9, q2, q3⟩, q4, n', h', r, q5, q6, q7⟩ : EndO D cA b (T.calling g mk (vs.map (sv b)).toArray) o s₂ Qc mc' ms' := hq
  have fin : ∀ T' : State, T.sameButNew (T'.setVm T.vm) L9 mc' ms' → T'.heap = s₂.heap → Hp D cA b n' h' T'.heap ∧ va_S (fun q => b ≤ q) s.heap T'.heap (locs ++ L9) := by
    intro T' h1 h2
    refine ⟨by rw [h2]; exact q5, Nat.le_trans hS.1 h1.2.1, fun q a1 a2 => ?_, fun z hz => ?_⟩
    · rw [h2]
      exact (q4 q (Nat.not_le.mp a2)).trans (hS.2.1 q a1 a2)
    · rcases List.mem_append.mp hz with h9 | h9
      · exact hS.2.2 z h9
      · exact q3 z h9
  cases r with
  | inl v =>
    have q6' : o = .returned (v.map (sv b)) := q6
    subst q6'
    obtain ⟨T', X', hW', hsm, ht⟩ := X.outOf hg hdg hend q1 q2
    have hheap : T'.heap = s₂.heap := by rw [ht]; rfl
    obtain ⟨f1, f2⟩ := fin T' hsm hheap
    exact ⟨n', h', .inl v, T', locs ++ L9, q7, X', f1, f2, by have h9 := hsteps; rw [ht] at h9; exact h9⟩
  | inr ci =>
    obtain ⟨q, hqn, hqo, hqh⟩ := q6
    subst hqo
    obtain ⟨T', X', hW', hsm, ht⟩ := X.outOfThrown hg hend q1 q2
    have hheap : T'.heap = s₂.heap := by rw [ht]; exact (Stand.throwing_heap T' g (b + q)).symm
    obtain ⟨f1, f2⟩ := fin T' hsm hheap
    exact ⟨n', h', .inr ci, T', locs ++ L9, q7, X', f1, f2, q, hqn, hqh, by have h9 := hsteps; rw [ht] at h9; exact h9⟩
end JC
end
section
/-! ===== the invoking instructions ===== -/
/-- cell q is being thrown, over the frame at pc -/
def JX (p : Program) (l : Launch) (e : Env) (R : Room) (s : State) (m : MethodId) (args : Array Value) (below : List Frame) (meth : Method) (c : Code) (D : va_G) (cA : Nat → ClassId) (b nL : Nat) (Q : State → Prop) (n : Nat) (h : AH) (kc ks pc : Nat) (L : List (Nat × Value)) (q : Nat) : Prop :=
  ∀ (H : Heap) (locs : List Loc) (ls : Array Slot) (rest : List Value) (T : State), Hp D cA b n h H → va_S (fun q => b ≤ q) s.heap H locs → lv_has ls nL (sL b L) → T.heap = H → Stand p l e R s m args below meth c T locs kc ks → ∃ t, Steps p.tables e below ((T.setTop (F0 m pc ls rest)).pushFrame (.throwing (b + q))) t ∧ Q t
/-- where a call leads: on behind it, or up with what was thrown -/
def JK (p : Program) (l : Launch) (e : Env) (R : Room) (s : State) (m : MethodId) (args : Array Value) (below : List Frame) (meth : Method) (c : Code) (D : va_G) (cA : Nat → ClassId) (b nL : Nat) (Q : State → Prop) (kc ks pc : Nat) (L : List (Nat × Value)) (st : List Value) (Qc : Rz → Nat → AH → Prop) : Prop :=
  (∀ (v : Option Value) (n : Nat) (h : AH), Qc (.inl v) n h → J p l e R s m args below meth c D cA b nL Q n h kc ks (pc + 3) L (v.toList ++ st)) ∧ ∀ (ci : Nat) (n : Nat) (h : AH) (q : Nat), Qc (.inr ci) n h → q < n → h q = .inr (ci, []) → JX p l e R s m args below meth c D cA b nL Q n h kc ks pc L q
/-- it returns v, with the heap n1, h1 -/
def Re (v : Option Value) (n1 : Nat) (h1 : AH) : Rz → Nat → AH → Prop := fun r n h => r = .inl v ∧ n = n1 ∧ h = h1
section JI
variable {p : Program} {l : Launch} {e : Env} {R : Room} {s : State} {m : MethodId} {args : Array Value} {below : List Frame} {meth : Method} {c : Code} {D : va_G} {cA : Nat → ClassId} {b nL : Nat} {Q : State → Prop} {n : Nat} {h : AH} {kc ks pc : Nat} {L : List (Nat × Value)} {st : List Value} {own mn : String} {cc : ByteArray} {ret : Option FieldType} {hh : List (Nat × Nat × Nat × Nat)} {Qa : Rz → Nat → AH → Prop} {mc ms : Nat}
theorem jk_e {v : Option Value} {n1 : Nat} {h1 : AH} (k : J p l e R s m args below meth c D cA b nL Q n1 h1 kc ks (pc + 3) L (v.toList ++ st)) : JK p l e R s m args below meth c D cA b nL Q kc ks pc L st (Re v n1 h1) := by
  refine ⟨fun v' n' h' hq => ?_, fun ci n' h' q hq => by cases hq.1⟩
  obtain ⟨e1, rfl, rfl⟩ := hq
  cases e1
  exact k
theorem sv_sum (b : Nat) (st : List Value) : ((st.map (sv b)).map fun v => v.category).sum = (st.map fun v => v.category).sum := by
  rw [List.map_map]
  congr 2
  funext v
  exact sv_cat b v
theorem call_go {T T1 : State} {H : Heap} {locs : List Loc} {ls : Array Slot} {y : MethodName} {cd : Cond} {fr lo mc' ms' maxL k : Nat} {vs : List Value} {Qc : Rz → Nat → AH → Prop} {cc' : ByteArray} {ret' : Option FieldType} {hh' : List (Nat × Nat × Nat × Nat)} {ig : Instr} {mk : MethodId} {stk : List Value}
    (C : Cx p l s m meth c D cA b nL own mn cc ret hh) (X : Stand p l e R s m args below meth c T1 locs kc ks) (hp : Hp D cA b n h H) (hT1 : T1.heap = H) (hS : va_S (fun q => b ≤ q) s.heap H locs) (hl : lv_has ls nL (sL b L))
    (hC : Cn l D cA b y cd fr lo mc' ms' vs n h Qc) (hM : MC y cd cc' maxL ret' hh' k) (hd : decode cc pc = .ok (ig, 3)) (hn : T1.methodNamed? y = some mk)
    (hR1 : fr + 1 ≤ R.frames) (hR2 : (st.map fun v => v.category).sum + (maxL + 11) + lo ≤ R.locals) (hR3 : kc + mc' ≤ R.cells) (hR4 : ks + ms' ≤ R.slots)
    (kk : JK p l e R s m args below meth c D cA b nL Q (kc + mc') (ks + ms') pc L st Qc)
    (hstep : ∀ target, (∀ acts, Steps p.tables e below (doInvoke e (T1.setTop (F0 m pc ls (st.map (sv b)))) acts mk (vs.map (sv b)).toArray).1 target) → Steps p.tables e below (T.setTop (F0 m pc ls stk)) target) : ∃ t, Steps p.tables e below (T.setTop (F0 m pc ls stk)) t ∧ Q t := by
  obtain ⟨n', h', r, T', locs', g1, g2, g3, g4, g5⟩ := call_core C.2.2.2.2.1 X (by rw [hT1]; exact hp) (by rw [hT1]; exact hS) hC hM (g := F0 m pc ls (st.map (sv b))) (ig := ig) (len := 3) (mk := mk) rfl (hl.1.trans C.2.2.1.symm) (by rw [C.2.1]; exact hd) hn hR1 (by show 2 * 0 + ((st.map (sv b)).map fun v => v.category).sum + (maxL + 11) + lo ≤ R.locals; rw [sv_sum]; omega) hR3 hR4
  cases r with
  | inl v =>
    obtain ⟨t, a1, a2⟩ := kk.1 v n' h' g1 T'.heap locs' ls g3 g4 hl T' rfl g2
    refine ⟨t, hstep t (fun acts => ?_), a2⟩
    rw [doInvoke_state]
    refine Steps.trans g5 ?_
    have e1 : (v.map (sv b)).toList ++ st.map (sv b) = (v.toList ++ st).map (sv b) := by cases v <;> simp
    show Steps p.tables e below (T'.setTop (F0 m (pc + 3) ls ((v.map (sv b)).toList ++ st.map (sv b)))) t
    rw [e1]
    exact a1
  | inr ci =>
    obtain ⟨q, hqn, hqh, g6⟩ := g5
    obtain ⟨t, a1, a2⟩ := kk.2 ci n' h' q g1 hqn hqh T'.heap locs' ls (st.map (sv b)) T' g3 g4 hl rfl g2
    refine ⟨t, hstep t (fun acts => ?_), a2⟩
    rw [doInvoke_state]
    exact Steps.trans g6 a1
theorem j_callS (C : Cx p l s m meth c D cA b nL own mn cc ret hh) {index fr lo mc' ms' maxL k : Nat} {y : MethodName} {cd : Cond} {vs rv : List Value} {Qc : Rz → Nat → AH → Prop} {cc' : ByteArray} {ret' : Option FieldType} {hh' : List (Nat × Nat × Nat × Nat)} (hd : decode cc pc = .ok (.invokestatic index, 3)) (hL : ML own index y) (hM : MC y cd cc' maxL ret' hh' k) (hst : Cond.static y ∈ g_ws) (hC : Cn l D cA b y cd fr lo mc' ms' vs n h Qc) (hk : vs.length = k) (hrv : vs.reverse ++ st = rv)
    (hR1 : fr + 1 ≤ R.frames) (hR2 : (st.map fun v => v.category).sum + (maxL + 11) + lo ≤ R.locals) (hR3 : kc + mc' ≤ R.cells) (hR4 : ks + ms' ≤ R.slots) (kk : JK p l e R s m args below meth c D cA b nL Q (kc + mc') (ks + ms') pc L st Qc) : J p l e R s m args below meth c D cA b nL Q n h kc ks pc L rv := by
  intro H locs ls hp hS hl T hT X
  subst hrv
  obtain ⟨m1, m2, m3, m4, m5⟩ := id hM
  have hcd : cd.before args s = true := by
    rcases m2 with ⟨rfl, -⟩ | rfl <;> exact C.w m1 rfl args
  have hsp : ∃ mk methM, s.methodNamed? y = some mk ∧ s.vm.method? mk = some methM ∧ parseMethodDescriptor y.desc = some methM.sig := by
    rcases m2 with ⟨rfl, -⟩ | rfl
    · obtain ⟨mk, hnamed⟩ := Cond.code_named hcd
      obtain ⟨methM, cM, hmethM, -, -, -, -, -, -, hsigM⟩ := Cond.code_spec hnamed hcd
      exact ⟨mk, methM, hnamed, hmethM, hsigM⟩
    · obtain ⟨mk, methM, cM, hnamed, hmethM, -, -, -, -, -, -, hsigM⟩ := Cond.codeWith_spec hcd
      exact ⟨mk, methM, hnamed, hmethM, hsigM⟩
  obtain ⟨mk, methM, hnamed, hmethM, hsigM⟩ := hsp
  have hstatic : methM.isStatic = true := Cond.static_spec hnamed hmethM (C.w hst rfl args)
  obtain ⟨kP, hkP, -⟩ := className_of_methodNamed hnamed
  have hinitP : kP.init = .initialized := Cond.initialized_spec (findClass_of_methodNamed hnamed) hkP (C.w m3 rfl args)
  have hlen : (vs.map (sv b)).length = methM.sig.parameters.length := by
    rw [hsigM] at m5
    rw [List.length_map, hk]
    exact (Option.some.inj m5).symm
  have hstk : (vs.reverse ++ st).map (sv b) = (vs.map (sv b)).reverse ++ st.map (sv b) := by rw [List.map_append, List.map_reverse]
  rw [hstk]
  rcases hL with hL | ⟨host, hL⟩
  · obtain ⟨vm₁, X₁, hstep₁⟩ := X.invokestatic C.1 C.2.2.2.1 (C.w hL rfl args) hnamed hmethM hstatic hkP hinitP m4 (g := F0 m pc ls ((vs.map (sv b)).reverse ++ st.map (sv b))) rfl (argsL := vs.map (sv b)) (rest := st.map (sv b)) hlen rfl (by rw [C.2.1]; exact hd)
    exact call_go C X₁ hp hT hS hl hC hM hd (X₁.named hnamed) hR1 hR2 hR3 hR4 kk hstep₁
  · obtain ⟨vm₁, X₁, hstep₁⟩ := X.invokestaticNest C.1 C.2.2.2.1 (C.w hL rfl args) hnamed hmethM hstatic hkP hinitP m4 (g := F0 m pc ls ((vs.map (sv b)).reverse ++ st.map (sv b))) rfl (argsL := vs.map (sv b)) (rest := st.map (sv b)) hlen rfl (by rw [C.2.1]; exact hd)
    exact call_go C X₁ hp hT hS hl hC hM hd (X₁.named hnamed) hR1 hR2 hR3 hR4 kk hstep₁
theorem j_callV (C : Cx p l s m meth c D cA b nL own mn cc ret hh) {index fr lo mc' ms' maxL k a ci : Nat} {y : MethodName} {cc' : ByteArray} {ret' : Option FieldType} {vs rv fs : List Value} {Qc : Rz → Nat → AH → Prop} {Cl : String} {T0 : u_T} {N0 : Nat} (hd : decode cc pc = .ok (.invokevirtual index, 3)) (hL : ML own index y) (hM : MC y (Cond.code y cc' maxL ret') cc' maxL ret' [] k) (hin : Cond.instanceMethod y ∈ g_ws) (hc : g_cl[ci]? = some (Cl, T0, N0)) (hsel : Cond.selects Cl y y ∈ g_ws) (ha : a < n) (hx : h a = .inr (ci, fs)) (hC : Cn l D cA b y (Cond.code y cc' maxL ret') fr lo mc' ms' (.ref a :: vs) n h Qc) (hk : vs.length = k) (hrv : vs.reverse ++ .ref a :: st = rv)
    (hR1 : fr + 1 ≤ R.frames) (hR2 : (st.map fun v => v.category).sum + (maxL + 11) + lo ≤ R.locals) (hR3 : kc + mc' ≤ R.cells) (hR4 : ks + ms' ≤ R.slots) (kk : JK p l e R s m args below meth c D cA b nL Q (kc + mc') (ks + ms') pc L st Qc) : J p l e R s m args below meth c D cA b nL Q n h kc ks pc L rv := by
  intro H locs ls hp hS hl T hT X
  subst hrv
  obtain ⟨m1, m2, m3, m4, m5⟩ := id hM
  have hcode : (Cond.code y cc' maxL ret').before args s = true := C.w m1 rfl args
  obtain ⟨mk, methM, hnamed, hmethM, hstM, habM⟩ := Cond.instanceMethod_spec (C.w hin rfl args)
  obtain ⟨methM', cM, hmethM', -, -, -, -, -, -, hsigM⟩ := Cond.code_spec hnamed hcode
  cases hmethM.symm.trans hmethM'
  obtain ⟨c2, r2, m2', q1, q2, q3, q4, kP, hkP, hkPi⟩ := Cond.selects_spec (C.w hsel rfl args)
  obtain ⟨cellB, hcB, hoB, hclB⟩ := va_recv C.2.2.2.2.1.2.1 hp.2 hc (hp.obj ha hx)
  cases hclB.symm.trans q1
  cases (State.methodFound?_of_named hnamed m4).symm.trans q2
  cases hnamed.symm.trans q3
  have hselP : selectMethod e.platform s.vm cellB.cls mk = .method mk := by rw [Launch.admits_selectMethod X.admits]; exact q4
  have hlen : (vs.map (sv b)).length = methM.sig.parameters.length := by
    rw [hsigM] at m5
    rw [List.length_map, hk]
    exact (Option.some.inj m5).symm
  have hstk : (vs.reverse ++ .ref a :: st).map (sv b) = (vs.map (sv b)).reverse ++ .ref (b + a) :: st.map (sv b) := by rw [List.map_append, List.map_reverse]; rfl
  rw [hstk]
  have hcell : T.heap[b + a]? = some cellB := by rw [hT]; exact hcB
  rcases hL with hL | ⟨host, hL⟩
  · obtain ⟨vm₁, X₁, hstep₁⟩ := X.invokevirtual C.1 C.2.2.2.1 (C.w hL rfl args) hnamed hmethM hstM hkP hkPi m4 (a := b + a) (cell := cellB) hcell
      (fun z h => by rw [h] at hoB; cases hoB) hselP hmethM habM hkP hkPi (g := F0 m pc ls ((vs.map (sv b)).reverse ++ .ref (b + a) :: st.map (sv b))) rfl (argsL := vs.map (sv b)) (rest := st.map (sv b)) hlen rfl (by rw [C.2.1]; exact hd)
    exact call_go C X₁ hp hT hS hl hC hM hd (X₁.named hnamed) hR1 hR2 hR3 hR4 kk hstep₁
  · obtain ⟨vm₁, X₁, hstep₁⟩ := X.invokevirtualNest C.1 C.2.2.2.1 (C.w hL rfl args) hnamed hmethM hstM hkP hkPi m4 (a := b + a) (cell := cellB) hcell
      (fun z h => by rw [h] at hoB; cases hoB) hselP hmethM habM hkP hkPi (g := F0 m pc ls ((vs.map (sv b)).reverse ++ .ref (b + a) :: st.map (sv b))) rfl (argsL := vs.map (sv b)) (rest := st.map (sv b)) hlen rfl (by rw [C.2.1]; exact hd)
    exact call_go C X₁ hp hT hS hl hC hM hd (X₁.named hnamed) hR1 hR2 hR3 hR4 kk hstep₁
theorem j_callI (C : Cx p l s m meth c D cA b nL own mn cc ret hh) {index fr lo mc' ms' maxL k a : Nat} {y : MethodName} {cc' : ByteArray} {vs rv : List Value} {Qc : Rz → Nat → AH → Prop} (hd : decode cc pc = .ok (.invokespecial index, 3)) (hy1 : y.name = "<init>") (hL : ML own index y) (hM : MC y (Cond.code y cc' maxL none) cc' maxL none [] k) (hin : Cond.instanceMethod y ∈ g_ws) (hC : Cn l D cA b y (Cond.code y cc' maxL none) fr lo mc' ms' (.ref a :: vs) n h Qc) (hk : vs.length = k) (hrv : vs.reverse ++ .ref a :: st = rv)
    (hR1 : fr + 1 ≤ R.frames) (hR2 : (st.map fun v => v.category).sum + (maxL + 11) + lo ≤ R.locals) (hR3 : kc + mc' ≤ R.cells) (hR4 : ks + ms' ≤ R.slots) (kk : JK p l e R s m args below meth c D cA b nL Q (kc + mc') (ks + ms') pc L st Qc) : J p l e R s m args below meth c D cA b nL Q n h kc ks pc L rv := by
  intro H locs ls hp hS hl T hT X
  subst hrv
  obtain ⟨m1, m2, m3, m4, m5⟩ := id hM
  have hcode : (Cond.code y cc' maxL none).before args s = true := C.w m1 rfl args
  have hpl : e.platform.magicAccessors = ({} : Platform).magicAccessors := by rw [X.admits.platform]
  have hlen : ∀ sig, parseMethodDescriptor y.desc = some sig → (vs.map (sv b)).length = sig.parameters.length := by
    intro sig hsig
    rw [hsig] at m5
    rw [List.length_map, hk]
    exact (Option.some.inj m5).symm
  have hstk : (vs.reverse ++ .ref a :: st).map (sv b) = (vs.map (sv b)).reverse ++ .ref (b + a) :: st.map (sv b) := by rw [List.map_append, List.map_reverse]; rfl
  rw [hstk]
  rcases hL with hL | ⟨host, hL⟩
  · obtain ⟨mk, methM, cM, kP, vm₁, hnamed, hmethM, hcodeM, -, hlocalsM, -, hkP, -, hW₁, hstep₁⟩ := Steps.initColdArgs (e := e) X.here C.1 X.warmed hpl C.2.2.2.1 hy1 m4 (C.w hL rfl args) (C.w hin rfl args) hcode (f := F0 m pc ls ((vs.map (sv b)).reverse ++ .ref (b + a) :: st.map (sv b))) rfl (a := b + a) (argsL := vs.map (sv b)) (rest := st.map (sv b)) hlen rfl (by rw [C.2.1]; exact hd)
    have X₁ := X.noted hW₁
    exact call_go C X₁ hp hT hS hl hC hM hd (X₁.named hnamed) hR1 hR2 hR3 hR4 kk hstep₁
  · obtain ⟨mk, methM, cM, kP, vm₁, hnamed, hmethM, hcodeM, -, hlocalsM, -, hkP, -, hW₁, hstep₁⟩ := Steps.initColdArgsNest (e := e) X.here C.1 X.warmed hpl C.2.2.2.1 hy1 m4 (C.w hL rfl args) (C.w hin rfl args) hcode (f := F0 m pc ls ((vs.map (sv b)).reverse ++ .ref (b + a) :: st.map (sv b))) rfl (a := b + a) (argsL := vs.map (sv b)) (rest := st.map (sv b)) hlen rfl (by rw [C.2.1]; exact hd)
    have X₁ := X.noted hW₁
    exact call_go C X₁ hp hT hS hl hC hM hd (X₁.named hnamed) hR1 hR2 hR3 hR4 kk hstep₁
end JI
end
section
/-! ===== what was thrown; Object's constructor; arrays of references; the JDK's members ===== -/
section JZ
variable {p : Program} {l : Launch} {e : Env} {R : Room} {s : State} {m : MethodId} {args : Array Value} {below : List Frame} {meth : Method} {c : Code} {D : va_G} {cA : Nat → ClassId} {b nL : Nat} {Q : State → Prop} {n : Nat} {h : AH} {kc ks pc : Nat} {L : List (Nat × Value)} {st : List Value} {own mn : String} {cc : ByteArray} {ret : Option FieldType} {hh : List (Nat × Nat × Nat × Nat)} {Qa : Rz → Nat → AH → Prop} {mc ms : Nat}
/-- not caught here: it goes on to the caller -/
theorem jx_out (C : Cx p l s m meth c D cA b nL own mn cc ret hh) {ci q : Nat} (hout : ∀ x ∈ tableOf hh, covers x pc = false) (hq : q < n) (hx : h q = .inr (ci, [])) (hc : kc ≤ mc) (hs : ks ≤ ms) (hQ : Qa (.inr ci) n h) : JX p l e R s m args below meth c D cA b nL (EndQ D cA b s below Qa mc ms) n h kc ks pc L q := by
  intro H locs ls rest T hp hS hl hT X
  obtain ⟨st1, hrun, hend, hW, hsm⟩ := X.leaveThrown (b + q) (g := F0 m pc ls rest) rfl rfl rfl (by rw [C.2.2.2.2.2.2.2.1]; exact hout) C.2.2.2.2.2.1
  refine ⟨_, st1, _, hrun, hend, hW, ⟨locs, hsm.mono hc hs, hS.2.2⟩, fun z hz => ?_, n, h, .inr ci, ?_, ⟨q, hq, rfl, hx⟩, hQ⟩
  · show T.heap[z]? = s.heap[z]?
    rw [hT]; exact S_low C.2.2.2.2.1.2.2.1 hS z hz
  · show Hp D cA b n h T.heap
    rw [hT]; exact hp
/-- caught by the row x of the table, behind rows that don't take it -/
theorem jx_catch (C : Cx p l s m meth c D cA b nL own mn cc ret hh) {ci q : Nat} {E name : String} {T0 : u_T} (hE : g_cl[ci]? = some (E, T0, 0)) (pre : List ExceptionTableEntry) (x : ExceptionTableEntry) (suf : List ExceptionTableEntry) (hsplit : tableOf hh = pre ++ x :: suf)
    (hpass : ∀ z ∈ pre, covers z pc = false ∨ (z.catchType ≠ 0 ∧ ∃ nm : String, Cond.classLink own z.catchType nm ∈ g_ws ∧ (E, nm) ∈ g_nc)) (hcv : covers x pc = true) (h0 : x.catchType ≠ 0)
    (hlink : Cond.classLink own x.catchType name ∈ g_ws) (hcast : Cond.castable E name ∈ g_ws) (hq : q < n) (hx : h q = .inr (ci, []))
    (kk : J p l e R s m args below meth c D cA b nL Q n h kc ks x.handlerPc L [.ref q]) : JX p l e R s m args below meth c D cA b nL Q n h kc ks pc L q := by
  intro H locs ls rest T hp hS hl hT X
  have hpl : e.platform.magicAccessors = ({} : Platform).magicAccessors := by rw [X.admits.platform]
  obtain ⟨r9, g1, ce, hcell, hcls, hv, -⟩ := hp.2 q _ (hp.obj hq hx)
  cases Option.some.inj (g1.symm.trans hE)
  have hcl : s.vm.findClass E = some ce.cls := by rw [hcls]; exact (C.2.2.2.2.1.2.1.1 ci _ hE).2.1
  obtain ⟨c3, c4, hc3, hc4, hasg⟩ := Cond.castable_spec (C.w hcast rfl args)
  cases Option.some.inj (hc3.symm.trans hcl)
  obtain ⟨c5, hc5, hcl5⟩ := Cond.classLink_spec C.2.2.2.1 (C.w hlink rfl args) e.platform hpl
  cases Option.some.inj (hc4.symm.trans hc5)
  obtain ⟨vm', X', st⟩ := X.thenCaughtThrough (b + q) (g := F0 m pc ls rest) rfl (Steps.refl _) (by rw [hT]; exact hcell) (by rw [hv]; rfl) (by obtain ⟨k9, h9, -⟩ := Vm.findClass_spec hcl; exact ⟨k9, h9⟩) pre x suf (C.2.2.2.2.2.2.2.1.trans hsplit)
    (fun z hz => by
      rcases hpass z hz with h | ⟨hz0, nm, hl1, hn1⟩
      · exact Or.inl h
      · obtain ⟨c6, hc6, hcl6⟩ := Cond.classLink_spec C.2.2.2.1 (C.w hl1 rfl args) e.platform hpl
        obtain ⟨a8, b8, h1, h2, h3⟩ := C.2.2.2.2.1.2.2.2.1 _ hn1
        cases Option.some.inj (h1.symm.trans hcl)
        cases Option.some.inj (h2.symm.trans hc6)
        exact Or.inr ⟨hz0, _, hcl6, h3⟩) hcv (Or.inr ⟨h0, c4, hcl5, hasg⟩)
  obtain ⟨t, a1, b1⟩ := kk H locs ls hp hS hl (T.setVm vm') hT X'
  exact ⟨t, st.trans a1, b1⟩
theorem j_objInit (C : Cx p l s m meth c D cA b nL own mn cc ret hh) {index a : Nat} (hd : decode cc pc = .ok (.invokespecial index, 3)) (h1 : Cond.methodLink own index Lib.objectInit ∈ g_ws) (h2 : Cond.instanceMethod Lib.objectInit ∈ g_ws) (h3 : Cond.code Lib.objectInit ⟨#[0xb1]⟩ 1 none ∈ g_ws) (hR1 : 1 ≤ R.frames) (hR2 : (st.map fun v => v.category).sum + 12 ≤ R.locals) (kk : J p l e R s m args below meth c D cA b nL Q n h kc ks (pc + 3) L st) : J p l e R s m args below meth c D cA b nL Q n h kc ks pc L (.ref a :: st) :=
  fun H locs ls hp hS hl => W.objInit C.1 C.2.1 C.2.2.2.1 (C.w h1 rfl args) (C.w h2 rfl args) (C.w h3 rfl args) rfl (hl.1.trans C.2.2.1.symm) rfl hd hR1 (by show 2 * 0 + ((st.map (sv b)).map fun v => v.category).sum + 12 ≤ R.locals; rw [sv_sum]; omega) (kk H locs ls hp hS hl)
theorem j_aast (C : Cx p l s m meth c D cA b nL own mn cc ret hh) {t a v N ci : Nat} {f f' : Nat → Option Nat} {fs : List Value} {i : Int32} {Cl : String} {T0 : u_T} {N0 : Nat} (hd : decode cc pc = .ok (.aastore, 1)) (ht : (g_ty cA)[t]? = some (cA t, .object Cl)) (ha : a < n) (hx : h a = .inl (t, N, .inr (.inr (.inr (.inr f))))) (hv : v < n) (hy : h v = .inr (ci, fs)) (hc : g_cl[ci]? = some (Cl, T0, N0)) (hi : vp_in i N) (hf : va_up f i.toNatClampNeg (some v) = f') (kk : J p l e R s m args below meth c D cA b nL Q n (hu h a (.inl (t, N, .inr (.inr (.inr (.inr f')))))) kc ks (pc + 1) L st) : J p l e R s m args below meth c D cA b nL Q n h kc ks pc L (.ref v :: .int i :: .ref a :: st) := by
  intro H locs ls hp hS hl
  subst hf
  have hK := C.2.2.2.2.1.2.1
  have hg := hp.obj ha hx
  have hlt : i.toNatClampNeg < N := Nat.not_le.mp fun q => hi (Or.inr q)
  have h0 : ¬ i < 0 := fun q => hi (Or.inl q)
  obtain ⟨r', hr', cellV, g1, g2, g3, -⟩ := hp.2 v _ (hp.obj hv hy)
  have hcls := (hK.1 ci _ hc).2
  obtain ⟨kA, comp, k1, k2, k3, -⟩ := (hK.2 t _ ht).2
  have hcomp : comp = D.1 ci := Option.some.inj (k3.symm.trans hcls.1)
  subst hcomp
  obtain ⟨kC, hkC, -⟩ := hcls.2
  refine W.aast C.1 C.2.1 (hp.2 a _ hg) (fun q h => by cases h) (fun h => by cases h) k1 k2 rfl hkC ⟨h0, by show _ < (arrV _ _ _).slots.size; rw [arrV_size]; exact hlt⟩ g1 (fun q h => by rw [g3] at h; cases h) (by rw [g2]; exact hkC) (by rw [g2]; exact va_assign hcls) rfl rfl hd fun H1 e z oq => ?_
  refine kk H1 _ ls (hp.up ha z (hp.2.set (wO_D b cA n h) hg ?_ oq)) (S_put hS z oq (Nat.le_add_right b a)) hl
  show H1[b + a]? = some (vp_cell _ _)
  rw [e]
  show some ((arrV (cA t) N (fun j => va_rf (so b f j))).setSlot i.toNatClampNeg _) = some (arrV (cA t) N (fun j => va_rf (so b (va_up f i.toNatClampNeg (some v)) j)))
  rw [arrV_store]
  congr 2
  funext q
  by_cases hq : q = i.toNatClampNeg
  · subst hq
    simp [updV, va_up, so, va_rf]
  · simp [updV, va_up, so, hq]
theorem j_mmin (C : Cx p l s m meth c D cA b nL own mn cc ret hh) {index : Nat} {x y v : Int32} (hd : decode cc pc = .ok (.invokestatic index, 3)) (h1 : Cond.methodLink own index Lib.Math.min.name ∈ g_ws) (h2 : Cond.static Lib.Math.min.name ∈ g_ws) (h3 : Cond.initialized "java/lang/Math" ∈ g_ws) (h4 : Cond.code Lib.Math.min.name Lib.Math.min.code 2 (some .int) ∈ g_ws) (hR1 : 1 ≤ R.frames) (hR2 : (st.map fun v => v.category).sum + 13 ≤ R.locals) (hc : kc ≤ R.cells) (hs : ks ≤ R.slots) (hv : (if y < x then y else x) = v) (kk : J p l e R s m args below meth c D cA b nL Q n h kc ks (pc + 3) L (.int v :: st)) : J p l e R s m args below meth c D cA b nL Q n h kc ks pc L (.int y :: .int x :: st) := by
  subst hv
  exact fun H locs ls hp hS hl => va_mmin C.1 C.2.1 (C.2.2.1.trans hl.1.symm) C.2.2.2.1 (C.w h1 rfl args) (C.w h2 rfl args) (C.w h3 rfl args) (C.w h4 rfl args) hR1 (by rw [sv_sum]; exact hR2) hc hs hd (kk H locs ls hp hS hl)
theorem j_mabs (C : Cx p l s m meth c D cA b nL own mn cc ret hh) {index : Nat} {x v : Int32} (hd : decode cc pc = .ok (.invokestatic index, 3)) (h1 : Cond.methodLink own index Lib.Math.abs.name ∈ g_ws) (h2 : Cond.static Lib.Math.abs.name ∈ g_ws) (h3 : Cond.initialized "java/lang/Math" ∈ g_ws) (h4 : Cond.code Lib.Math.abs.name Lib.Math.abs.code 1 (some .int) ∈ g_ws) (hR1 : 1 ≤ R.frames) (hR2 : (st.map fun v => v.category).sum + 13 ≤ R.locals) (hc : kc ≤ R.cells) (hs : ks ≤ R.slots) (hv : (if 0 ≤ x then x else 0 - x) = v) (kk : J p l e R s m args below meth c D cA b nL Q n h kc ks (pc + 3) L (.int v :: st)) : J p l e R s m args below meth c D cA b nL Q n h kc ks pc L (.int x :: st) := by
  subst hv
  exact fun H locs ls hp hS hl => va_mabs C.1 C.2.1 (C.2.2.1.trans hl.1.symm) C.2.2.2.1 (C.w h1 rfl args) (C.w h2 rfl args) (C.w h3 rfl args) (C.w h4 rfl args) hR1 (by rw [sv_sum]; exact hR2) hc hs hd (kk H locs ls hp hS hl)
theorem j_copyi (C : Cx p l s m meth c D cA b nL own mn cc ret hh) {index a0 a N0 N t : Nat} {f g f' : Nat → Int32} {sp dp k : Int32} (hd : decode cc pc = .ok (.invokestatic index, 3)) (w1 : Cond.methodLink own index arraycopyName ∈ g_ws) (w2 : Cond.native arraycopyName ∈ g_ws) (w3 : Cond.static arraycopyName ∈ g_ws) (w4 : Cond.initialized "java/lang/System" ∈ g_ws)
    (ht : (g_ty cA)[t]? = some (cA t, .int)) (ha0 : a0 < n) (hx0 : h a0 = .inl (t, N0, .inl f)) (ha : a < n) (hx : h a = .inl (t, N, .inl g)) (h1 : ¬ sp < 0) (h2 : ¬ dp < 0) (h3 : ¬ k < 0) (h4 : sp.toNatClampNeg + k.toNatClampNeg ≤ N0) (h5 : dp.toNatClampNeg + k.toNatClampNeg ≤ N)
    (hR1 : 1 ≤ R.frames) (hR2 : (st.map fun v => v.category).sum + (nativeFrameWords "java/lang/System" "arraycopy" 5 + 11) ≤ R.locals) (hf : va_cpy f g sp.toNatClampNeg dp.toNatClampNeg k.toNatClampNeg = f') (kk : J p l e R s m args below meth c D cA b nL Q n (hu h a (.inl (t, N, .inl f'))) kc ks (pc + 3) L st) : J p l e R s m args below meth c D cA b nL Q n h kc ks pc L (.int k :: .int dp :: .ref a :: .int sp :: .ref a0 :: st) := by
  have nn : ∀ z : Int32, ¬ z < 0 → z.toInt = (z.toNatClampNeg : Int) := by
    intro z hz
    have hz0 : (0 : Int) ≤ z.toInt := by
      have := Int32.not_lt.mp hz
      simpa using Int32.le_iff_toInt_le.mp this
    show z.toInt = ((z.toInt.toNat : Nat) : Int)
    omega
  intro H locs ls hp hS hl T hT X
  subst hf
  have hK := C.2.2.2.2.1.2.1
  have hg := hp.obj ha hx
  have hc0 : H[b + a0]? = some (vp_cell (cA t) (N0, .inl f)) := hp.2 a0 _ (hp.obj ha0 hx0)
  have hc1 : H[b + a]? = some (vp_cell (cA t) (N, .inl g)) := hp.2 a _ hg
  obtain ⟨-, k0, hk0, cm0, hkk0⟩ := (hK.2 t _ ht).1 N0 (fun j => .int (f j))
  obtain ⟨-, k1, hk1, cm1, hkk1⟩ := (hK.2 t _ ht).1 N (fun j => .int (g j))
  obtain ⟨vm', X', step⟩ := X.arraycopy C.1 C.2.2.2.1 (C.w w1 rfl args) (C.w w2 rfl args) (C.w w3 rfl args) (C.w w4 rfl args) (src := b + a0) (dst := b + a) (cs := vp_cell (cA t) (N0, .inl f)) (cd := vp_cell (cA t) (N, .inl g)) (srcPos := sp) (destPos := dp) (n := k) (by rw [hT]; exact hc0) (by rw [hT]; exact hc1)
    (fun _ h => by cases h) (fun _ h => by cases h) (fun h => by cases h) (fun h => by cases h) hk0 hk1 hkk0 hkk1 (by simp [refKind]) h1 h2 h3
    (by rw [nn sp h1, nn k h3]; show ¬ _ > ((arrV (cA t) N0 (fun j => .int (f j))).slots.size : Int); rw [arrV_size]; omega)
    (by rw [nn dp h2, nn k h3]; show ¬ _ > ((arrV (cA t) N (fun j => .int (g j))).slots.size : Int); rw [arrV_size]; omega)
    (fun vm₁ _ i hi => by
      have e : (vp_cell (cA t) (N0, .inl f)).slots.getD (sp.toNatClampNeg + i) .null = .int (f (sp.toNatClampNeg + i)) := by
        show (arrV (cA t) N0 (fun j => .int (f j))).slots.getD _ _ = _
        rw [Array.getD_eq_getD_getElem?, arrV_read _ _ (by omega)]
        rfl
      refine ⟨?_, ?_⟩
      · rw [e]
        rfl
      · rw [e]
        exact trivial)
    (g := F0 m pc ls (.int k :: .int dp :: .ref (b + a) :: .int sp :: .ref (b + a0) :: st.map (sv b))) rfl (hl.1.trans C.2.2.1.symm) (rest := st.map (sv b)) rfl (by rw [C.2.1]; exact hd) hR1 (by show 2 * 0 + ((st.map (sv b)).map fun v => v.category).sum + _ ≤ _; rw [sv_sum]; omega)
  have e1 : copied (vp_cell (cA t) (N0, .inl f)) (vp_cell (cA t) (N, .inl g)) sp dp k = vp_cell (cA t) (N, .inl (va_cpy f g sp.toNatClampNeg dp.toNatClampNeg k.toNatClampNeg)) := va_copied (fun z => .int z) (cA t) (cA t) f g h4
  rw [e1] at X' step
  have hlt : b + a < H.size := (Array.getElem?_eq_some_iff.mp hc1).1
  have hheap : ((T.setVm vm').setCell (b + a) (vp_cell (cA t) (N, .inl (va_cpy f g sp.toNatClampNeg dp.toNatClampNeg k.toNatClampNeg)))).heap = H.setIfInBounds (b + a) (vp_cell (cA t) (N, .inl (va_cpy f g sp.toNatClampNeg dp.toNatClampNeg k.toNatClampNeg))) := by rw [← hT]; rfl
  have oq : ∀ q : Nat, q ≠ b + a → (H.setIfInBounds (b + a) (vp_cell (cA t) (N, .inl (va_cpy f g sp.toNatClampNeg dp.toNatClampNeg k.toNatClampNeg))))[q]? = H[q]? := fun q hq => by simp [Array.getElem?_setIfInBounds, Ne.symm hq]
  have hz : (H.setIfInBounds (b + a) (vp_cell (cA t) (N, .inl (va_cpy f g sp.toNatClampNeg dp.toNatClampNeg k.toNatClampNeg)))).size = H.size := by simp
  obtain ⟨t9, a1, b1⟩ := kk _ _ ls (hp.up ha hz (hp.2.set (wO_D b cA n h) hg (show (H.setIfInBounds (b + a) _)[b + a]? = some _ by simp [Array.getElem?_setIfInBounds, hlt]; rfl) oq)) ⟨by rw [hz]; exact hS.1, fun q g1 g2 => by
      rw [oq q (fun e => g2 (by rw [e]; exact Nat.le_add_right b a))]
      exact hS.2.1 q g1 g2, fun q hq => by
      rcases List.mem_append.mp hq with h | h
      · exact hS.2.2 q h
      · obtain ⟨z, -, hz⟩ := List.mem_map.mp h
        rw [← hz]
        exact Nat.le_add_right b a⟩ hl _ hheap X'
  exact ⟨t9, step t9 a1, b1⟩
end JZ
end
section
/-! ===== the reference's object at mo, its arrays behind it: numbers σ by field, contents α by field: printed by program ===== -/
def mfs (mo : Nat) (σ : Nat → Int32) : List Value := [.int (σ 0), .int (σ 1), .int (σ 2), .ref (mo + 1), .ref (mo + 2), .ref (mo + 3), .ref (mo + 4), .ref (mo + 5), .ref (mo + 6), .ref (mo + 7), .ref (mo + 8), .ref (mo + 9), .ref (mo + 10), .ref (mo + 11), .ref (mo + 12), .ref (mo + 13), .int (σ 16), .ref (mo + 14), .int (σ 18), .int (σ 19), .int (σ 20), .int (σ 21), .ref (mo + 15), .ref (mo + 16), .ref (mo + 17), .ref (mo + 18), .ref (mo + 19), .int (σ 27), .ref (mo + 20), .ref (mo + 21), .ref (mo + 22), .ref (mo + 23), .ref (mo + 24), .int (σ 33), .int (σ 34), .ref (mo + 25), .ref (mo + 26), .int (σ 37), .ref (mo + 27)]
def mar (α : Nat → Nat → Int32) : List AC := [.inl (0, 30, .inl (α 3)), .inl (0, 30, .inl (α 4)), .inl (0, 30, .inl (α 5)), .inl (0, 30, .inl (α 6)), .inl (0, 30, .inl (α 7)), .inl (0, 30, .inl (α 8)), .inl (0, 90, .inl (α 9)), .inl (2, 600, .inl (α 10)), .inl (2, 600, .inl (α 11)), .inl (2, 600, .inl (α 12)), .inl (0, 600, .inl (α 13)), .inl (2, 100, .inl (α 14)), .inl (2, 400, .inl (α 15)), .inl (0, 300, .inl (α 17)), .inl (0, 20, .inl (α 22)), .inl (0, 160, .inl (α 23)), .inl (0, 160, .inl (α 24)), .inl (0, 160, .inl (α 25)), .inl (2, 160, .inl (α 26)), .inl (0, 20, .inl (α 28)), .inl (0, 160, .inl (α 29)), .inl (0, 160, .inl (α 30)), .inl (0, 160, .inl (α 31)), .inl (2, 160, .inl (α 32)), .inl (0, 40, .inl (α 35)), .inl (0, 40, .inl (α 36)), .inl (0, 300, .inl (α 38))]
def upa (α : Nat → Nat → Int32) (k : Nat) (f : Nat → Int32) : Nat → Nat → Int32 := fun j => if j = k then f else α j
def ovM (mo : Nat) (σ : Nat → Int32) (α : Nat → Nat → Int32) (h : AH) : AH := fun j => if j = mo then .inr (6, mfs mo σ) else if mo < j ∧ j ≤ mo + 27 then (mar α).getD (j - mo - 1) (.inr (0, [])) else h j
theorem ovM_o (mo : Nat) (σ : Nat → Int32) (α : Nat → Nat → Int32) (h : AH) : ovM mo σ α h mo = .inr (6, mfs mo σ) := if_pos rfl
theorem ovM_a {mo : Nat} {σ : Nat → Int32} {α : Nat → Nat → Int32} {h : AH} {o : Nat} {x : AC} (ho : o < 27) (hx : (mar α)[o]? = some x) : ovM mo σ α h (mo + (o + 1)) = x := by
  unfold ovM
  rw [if_neg (by omega), if_pos (by omega), show mo + (o + 1) - mo - 1 = o by omega, List.getD_eq_getElem?_getD, hx]
  rfl
theorem ovM_n {mo : Nat} {σ : Nat → Int32} {α : Nat → Nat → Int32} {h : AH} {j : Nat} (hj : j < mo ∨ mo + 27 < j) : ovM mo σ α h j = h j := by
  unfold ovM
  rw [if_neg (by omega), if_neg (by omega)]
theorem ovM_put {mo : Nat} {σ σ' : Nat → Int32} {α : Nat → Nat → Int32} {h : AH} : hu (ovM mo σ α h) mo (.inr (6, mfs mo σ')) = ovM mo σ' α h := by
  funext j
  unfold hu ovM
  by_cases e : j = mo
  · rw [if_pos e, if_pos e]
  · rw [if_neg e, if_neg e, if_neg e]
theorem ovM_ast {mo : Nat} {σ : Nat → Int32} {α α' : Nat → Nat → Int32} {h : AH} {o : Nat} {x : AC} (ho : o < 27) (hx : (mar α).set o x = mar α') : hu (ovM mo σ α h) (mo + (o + 1)) x = ovM mo σ α' h := by
  funext j
  unfold hu ovM
  rw [← hx]
  by_cases e : j = mo + (o + 1)
  · subst e
    rw [if_pos rfl, if_neg (by omega), if_pos (by omega), show mo + (o + 1) - mo - 1 = o by omega, List.getD_eq_getElem?_getD, List.getElem?_set_self (by exact ho)]
    rfl
  · rw [if_neg e]
    by_cases e2 : j = mo
    · rw [if_pos e2, if_pos e2]
    · rw [if_neg e2, if_neg e2]
      by_cases e3 : mo < j ∧ j ≤ mo + 27
      · rw [if_pos e3, if_pos e3, List.getD_eq_getElem?_getD, List.getD_eq_getElem?_getD, List.getElem?_set_ne (by omega)]
      · rw [if_neg e3, if_neg e3]
section JMo
variable {p : Program} {l : Launch} {e : Env} {R : Room} {s : State} {m : MethodId} {args : Array Value} {below : List Frame} {meth : Method} {c : Code} {D : va_G} {cA : Nat → ClassId} {b nL : Nat} {Q : State → Prop} {n : Nat} {h : AH} {kc ks pc : Nat} {L : List (Nat × Value)} {st : List Value} {mn : String} {cc : ByteArray} {ret : Option FieldType} {hh : List (Nat × Nat × Nat × Nat)} {mo : Nat} {σ σ' : Nat → Int32} {α α' : Nat → Nat → Int32}
theorem jm_get (C : Cx p l s m meth c D cA b nL cR6 mn cc ret hh) {index k : Nat} {v : Value} (hF : FL cR6 index 6 k) (hd : decode cc pc = .ok (.getfield index, 3)) (hmo : mo + 27 < n) (hv : (mfs mo σ)[k]? = some v) (kk : J p l e R s m args below meth c D cA b nL Q n (ovM mo σ α h) kc ks (pc + 3) L (v :: st)) : J p l e R s m args below meth c D cA b nL Q n (ovM mo σ α h) kc ks pc L (.ref mo :: st) :=
  j_get C hF hd (by omega) (ovM_o mo σ α h) hv kk
theorem jm_put (C : Cx p l s m meth c D cA b nL cR6 mn cc ret hh) {index k : Nat} {ty : FieldType} {v : Value} (hF : FP cR6 index 6 k false ty) (hd : decode cc pc = .ok (.putfield index, 3)) (hmo : mo + 27 < n) (hl : k < 39) (hn : narrow ty v = v) (hf : fits ty v = true) (hv : (mfs mo σ).set k v = mfs mo σ') (kk : J p l e R s m args below meth c D cA b nL Q n (ovM mo σ' α h) kc ks (pc + 3) L st) : J p l e R s m args below meth c D cA b nL Q n (ovM mo σ α h) kc ks pc L (v :: .ref mo :: st) :=
  j_put C hF hd (by omega) (ovM_o mo σ α h) hl hn hf hv (by rw [ovM_put]; exact kk)
theorem jm_iald (C : Cx p l s m meth c D cA b nL cR6 mn cc ret hh) (o : Nat) {N : Nat} {f : Nat → Int32} {i v : Int32} (hd : decode cc pc = .ok (.iaload, 1)) (ho : o < 27) (hx : (mar α)[o]? = some (.inl (0, N, .inl f))) (hmo : mo + 27 < n) (hi : vp_in i N) (hv : f i.toNatClampNeg = v) (kk : J p l e R s m args below meth c D cA b nL Q n (ovM mo σ α h) kc ks (pc + 1) L (.int v :: st)) : J p l e R s m args below meth c D cA b nL Q n (ovM mo σ α h) kc ks pc L (.int i :: .ref (mo + (o + 1)) :: st) :=
  j_iald C hd rfl (by omega) (ovM_a ho hx) hi hv kk
theorem jm_zald (C : Cx p l s m meth c D cA b nL cR6 mn cc ret hh) (o : Nat) {N : Nat} {f : Nat → Int32} {i v : Int32} (hd : decode cc pc = .ok (.baload, 1)) (ho : o < 27) (hx : (mar α)[o]? = some (.inl (2, N, .inl f))) (hmo : mo + 27 < n) (hi : vp_in i N) (hv : f i.toNatClampNeg = v) (kk : J p l e R s m args below meth c D cA b nL Q n (ovM mo σ α h) kc ks (pc + 1) L (.int v :: st)) : J p l e R s m args below meth c D cA b nL Q n (ovM mo σ α h) kc ks pc L (.int i :: .ref (mo + (o + 1)) :: st) :=
  j_zald C hd rfl (by omega) (ovM_a ho hx) hi hv kk
theorem jm_iast (C : Cx p l s m meth c D cA b nL cR6 mn cc ret hh) (o : Nat) {N : Nat} {f f' : Nat → Int32} {i x : Int32} (hd : decode cc pc = .ok (.iastore, 1)) (ho : o < 27) (hx : (mar α)[o]? = some (.inl (0, N, .inl f))) (hmo : mo + 27 < n) (hi : vp_in i N) (hf : upd f i.toNatClampNeg x = f') (hα : (mar α).set o (.inl (0, N, .inl f')) = mar α') (kk : J p l e R s m args below meth c D cA b nL Q n (ovM mo σ α' h) kc ks (pc + 1) L st) : J p l e R s m args below meth c D cA b nL Q n (ovM mo σ α h) kc ks pc L (.int x :: .int i :: .ref (mo + (o + 1)) :: st) :=
  j_iast C hd rfl (by omega) (ovM_a ho hx) hi hf (by rw [ovM_ast ho hα]; exact kk)
theorem jm_zast (C : Cx p l s m meth c D cA b nL cR6 mn cc ret hh) (o : Nat) {N : Nat} {f f' : Nat → Int32} {i x : Int32} (hd : decode cc pc = .ok (.bastore, 1)) (ho : o < 27) (hx : (mar α)[o]? = some (.inl (2, N, .inl f))) (hmo : mo + 27 < n) (hi : vp_in i N) (hf : upd f i.toNatClampNeg (vp_nar .boolean x) = f') (hα : (mar α).set o (.inl (2, N, .inl f')) = mar α') (kk : J p l e R s m args below meth c D cA b nL Q n (ovM mo σ α' h) kc ks (pc + 1) L st) : J p l e R s m args below meth c D cA b nL Q n (ovM mo σ α h) kc ks pc L (.int x :: .int i :: .ref (mo + (o + 1)) :: st) :=
  j_zast C hd rfl (by omega) (ovM_a ho hx) hi hf (by rw [ovM_ast ho hα]; exact kk)
end JMo
end
