/-! ===== methods of RR: printed by program ===== -/
def y_RR_init : MethodName := ⟨cR1, "<init>", "([B)V"⟩
abbrev b_RR_init : ByteArray := prog_6_method_1_code
abbrev k_RR_init : Cond := .code y_RR_init b_RR_init 2 none
theorem mc_RR_init : MC y_RR_init k_RR_init b_RR_init 2 none [] 1 := ⟨g_in (List.mem_of_getElem? (i := 88) (by decide +kernel)) (by decide +kernel), Or.inl ⟨rfl, rfl⟩, g_in (List.mem_of_getElem? (i := 58) (by decide +kernel)) (by decide +kernel), by decide, by decide +kernel⟩
theorem in_RR_init : Cond.instanceMethod y_RR_init ∈ g_ws := g_in (List.mem_of_getElem? (i := 87) (by decide +kernel)) (by decide +kernel)
theorem d_RR_init_0 : decode b_RR_init 0 = .ok (.aload_n 0, 1) := by decide +kernel
theorem d_RR_init_1 : decode b_RR_init 1 = .ok (.invokespecial 3, 3) := by decide +kernel
theorem d_RR_init_4 : decode b_RR_init 4 = .ok (.aload_n 0, 1) := by decide +kernel
theorem d_RR_init_5 : decode b_RR_init 5 = .ok (.iconst 0, 1) := by decide +kernel
theorem d_RR_init_6 : decode b_RR_init 6 = .ok (.putfield 9, 3) := by decide +kernel
theorem d_RR_init_9 : decode b_RR_init 9 = .ok (.aload_n 0, 1) := by decide +kernel
theorem d_RR_init_10 : decode b_RR_init 10 = .ok (.iconst 0, 1) := by decide +kernel
theorem d_RR_init_11 : decode b_RR_init 11 = .ok (.putfield 15, 3) := by decide +kernel
theorem d_RR_init_14 : decode b_RR_init 14 = .ok (.aload_n 0, 1) := by decide +kernel
theorem d_RR_init_15 : decode b_RR_init 15 = .ok (.aload_n 1, 1) := by decide +kernel
theorem d_RR_init_16 : decode b_RR_init 16 = .ok (.putfield 18, 3) := by decide +kernel
theorem d_RR_init_19 : decode b_RR_init 19 = .ok (.return_, 1) := by decide +kernel
def y_RR_readInto : MethodName := ⟨cR1, "readInto", "(LReportChecks2$RuleBook;I)I"⟩
abbrev b_RR_readInto : ByteArray := prog_6_method_2_code
abbrev k_RR_readInto : Cond := .code y_RR_readInto b_RR_readInto 4 (some .int)
theorem mc_RR_readInto : MC y_RR_readInto k_RR_readInto b_RR_readInto 4 (some .int) [] 2 := ⟨g_in (List.mem_of_getElem? (i := 492) (by decide +kernel)) (by decide +kernel), Or.inl ⟨rfl, rfl⟩, g_in (List.mem_of_getElem? (i := 58) (by decide +kernel)) (by decide +kernel), by decide, by decide +kernel⟩
theorem in_RR_readInto : Cond.instanceMethod y_RR_readInto ∈ g_ws := g_in (List.mem_of_getElem? (i := 491) (by decide +kernel)) (by decide +kernel)
theorem se_RR_readInto : Cond.selects cR1 y_RR_readInto y_RR_readInto ∈ g_ws := g_in (List.mem_of_getElem? (i := 7) (by decide +kernel)) (by decide +kernel)
theorem d_RR_readInto_0 : decode b_RR_readInto 0 = .ok (.aload_n 0, 1) := by decide +kernel
theorem d_RR_readInto_1 : decode b_RR_readInto 1 = .ok (.iload_n 2, 1) := by decide +kernel
theorem d_RR_readInto_2 : decode b_RR_readInto 2 = .ok (.aload_n 0, 1) := by decide +kernel
theorem d_RR_readInto_3 : decode b_RR_readInto 3 = .ok (.getfield 18, 3) := by decide +kernel
theorem d_RR_readInto_6 : decode b_RR_readInto 6 = .ok (.arraylength, 1) := by decide +kernel
theorem d_RR_readInto_7 : decode b_RR_readInto 7 = .ok (.invokestatic 22, 3) := by decide +kernel
theorem d_RR_readInto_10 : decode b_RR_readInto 10 = .ok (.putfield 9, 3) := by decide +kernel
theorem d_RR_readInto_13 : decode b_RR_readInto 13 = .ok (.aload_n 0, 1) := by decide +kernel
theorem d_RR_readInto_14 : decode b_RR_readInto 14 = .ok (.iconst 0, 1) := by decide +kernel
theorem d_RR_readInto_15 : decode b_RR_readInto 15 = .ok (.putfield 15, 3) := by decide +kernel
theorem d_RR_readInto_18 : decode b_RR_readInto 18 = .ok (.aload_n 1, 1) := by decide +kernel
theorem d_RR_readInto_19 : decode b_RR_readInto 19 = .ok (.iconst 0, 1) := by decide +kernel
theorem d_RR_readInto_20 : decode b_RR_readInto 20 = .ok (.putfield 28, 3) := by decide +kernel
theorem d_RR_readInto_23 : decode b_RR_readInto 23 = .ok (.aload_n 0, 1) := by decide +kernel
theorem d_RR_readInto_24 : decode b_RR_readInto 24 = .ok (.invokevirtual 33, 3) := by decide +kernel
theorem d_RR_readInto_27 : decode b_RR_readInto 27 = .ok (.iconst 0, 1) := by decide +kernel
theorem d_RR_readInto_28 : decode b_RR_readInto 28 = .ok (.istore_n 3, 1) := by decide +kernel
theorem d_RR_readInto_29 : decode b_RR_readInto 29 = .ok (.aload_n 0, 1) := by decide +kernel
theorem d_RR_readInto_30 : decode b_RR_readInto 30 = .ok (.getfield 15, 3) := by decide +kernel
theorem d_RR_readInto_33 : decode b_RR_readInto 33 = .ok (.aload_n 0, 1) := by decide +kernel
theorem d_RR_readInto_34 : decode b_RR_readInto 34 = .ok (.getfield 9, 3) := by decide +kernel
theorem d_RR_readInto_37 : decode b_RR_readInto 37 = .ok (.if_icmp .ge 83, 3) := by decide +kernel
theorem d_RR_readInto_40 : decode b_RR_readInto 40 = .ok (.iload_n 3, 1) := by decide +kernel
theorem d_RR_readInto_41 : decode b_RR_readInto 41 = .ok (.bipush 20, 2) := by decide +kernel
theorem d_RR_readInto_43 : decode b_RR_readInto 43 = .ok (.if_icmp .lt 8, 3) := by decide +kernel
theorem d_RR_readInto_46 : decode b_RR_readInto 46 = .ok (.aload_n 0, 1) := by decide +kernel
theorem d_RR_readInto_47 : decode b_RR_readInto 47 = .ok (.getfield 15, 3) := by decide +kernel
theorem d_RR_readInto_50 : decode b_RR_readInto 50 = .ok (.ireturn, 1) := by decide +kernel
theorem d_RR_readInto_51 : decode b_RR_readInto 51 = .ok (.aload_n 1, 1) := by decide +kernel
theorem d_RR_readInto_52 : decode b_RR_readInto 52 = .ok (.iload_n 3, 1) := by decide +kernel
theorem d_RR_readInto_53 : decode b_RR_readInto 53 = .ok (.invokevirtual 36, 3) := by decide +kernel
theorem d_RR_readInto_56 : decode b_RR_readInto 56 = .ok (.aload_n 0, 1) := by decide +kernel
theorem d_RR_readInto_57 : decode b_RR_readInto 57 = .ok (.aload_n 1, 1) := by decide +kernel
theorem d_RR_readInto_58 : decode b_RR_readInto 58 = .ok (.iconst 2, 1) := by decide +kernel
theorem d_RR_readInto_59 : decode b_RR_readInto 59 = .ok (.iload_n 3, 1) := by decide +kernel
theorem d_RR_readInto_60 : decode b_RR_readInto 60 = .ok (.imul, 1) := by decide +kernel
theorem d_RR_readInto_61 : decode b_RR_readInto 61 = .ok (.invokevirtual 40, 3) := by decide +kernel
theorem d_RR_readInto_64 : decode b_RR_readInto 64 = .ok (.ifCond .eq 34, 3) := by decide +kernel
theorem d_RR_readInto_67 : decode b_RR_readInto 67 = .ok (.aload_n 0, 1) := by decide +kernel
theorem d_RR_readInto_68 : decode b_RR_readInto 68 = .ok (.aload_n 1, 1) := by decide +kernel
theorem d_RR_readInto_69 : decode b_RR_readInto 69 = .ok (.iload_n 3, 1) := by decide +kernel
theorem d_RR_readInto_70 : decode b_RR_readInto 70 = .ok (.invokevirtual 44, 3) := by decide +kernel
theorem d_RR_readInto_73 : decode b_RR_readInto 73 = .ok (.ifCond .eq 25, 3) := by decide +kernel
theorem d_RR_readInto_76 : decode b_RR_readInto 76 = .ok (.aload_n 0, 1) := by decide +kernel
theorem d_RR_readInto_77 : decode b_RR_readInto 77 = .ok (.aload_n 1, 1) := by decide +kernel
theorem d_RR_readInto_78 : decode b_RR_readInto 78 = .ok (.iconst 2, 1) := by decide +kernel
theorem d_RR_readInto_79 : decode b_RR_readInto 79 = .ok (.iload_n 3, 1) := by decide +kernel
theorem d_RR_readInto_80 : decode b_RR_readInto 80 = .ok (.imul, 1) := by decide +kernel
theorem d_RR_readInto_81 : decode b_RR_readInto 81 = .ok (.iconst 1, 1) := by decide +kernel
theorem d_RR_readInto_82 : decode b_RR_readInto 82 = .ok (.iadd, 1) := by decide +kernel
theorem d_RR_readInto_83 : decode b_RR_readInto 83 = .ok (.invokevirtual 40, 3) := by decide +kernel
theorem d_RR_readInto_86 : decode b_RR_readInto 86 = .ok (.ifCond .eq 12, 3) := by decide +kernel
theorem d_RR_readInto_89 : decode b_RR_readInto 89 = .ok (.aload_n 0, 1) := by decide +kernel
theorem d_RR_readInto_90 : decode b_RR_readInto 90 = .ok (.bipush 59, 2) := by decide +kernel
theorem d_RR_readInto_92 : decode b_RR_readInto 92 = .ok (.invokevirtual 47, 3) := by decide +kernel
theorem d_RR_readInto_95 : decode b_RR_readInto 95 = .ok (.ifCond .ne 8, 3) := by decide +kernel
theorem d_RR_readInto_98 : decode b_RR_readInto 98 = .ok (.aload_n 0, 1) := by decide +kernel
theorem d_RR_readInto_99 : decode b_RR_readInto 99 = .ok (.getfield 15, 3) := by decide +kernel
theorem d_RR_readInto_102 : decode b_RR_readInto 102 = .ok (.ireturn, 1) := by decide +kernel
theorem d_RR_readInto_103 : decode b_RR_readInto 103 = .ok (.aload_n 1, 1) := by decide +kernel
theorem d_RR_readInto_104 : decode b_RR_readInto 104 = .ok (.iload_n 3, 1) := by decide +kernel
theorem d_RR_readInto_105 : decode b_RR_readInto 105 = .ok (.iconst 1, 1) := by decide +kernel
theorem d_RR_readInto_106 : decode b_RR_readInto 106 = .ok (.iadd, 1) := by decide +kernel
theorem d_RR_readInto_107 : decode b_RR_readInto 107 = .ok (.putfield 28, 3) := by decide +kernel
theorem d_RR_readInto_110 : decode b_RR_readInto 110 = .ok (.aload_n 0, 1) := by decide +kernel
theorem d_RR_readInto_111 : decode b_RR_readInto 111 = .ok (.invokevirtual 33, 3) := by decide +kernel
theorem d_RR_readInto_114 : decode b_RR_readInto 114 = .ok (.iinc 3 1, 3) := by decide +kernel
theorem d_RR_readInto_117 : decode b_RR_readInto 117 = .ok (.goto (-88), 3) := by decide +kernel
theorem d_RR_readInto_120 : decode b_RR_readInto 120 = .ok (.iconst (-1), 1) := by decide +kernel
theorem d_RR_readInto_121 : decode b_RR_readInto 121 = .ok (.ireturn, 1) := by decide +kernel
def y_RR_readComparison : MethodName := ⟨cR1, "readComparison", "(LReportChecks2$RuleBook;I)Z"⟩
abbrev b_RR_readComparison : ByteArray := prog_6_method_3_code
abbrev k_RR_readComparison : Cond := .code y_RR_readComparison b_RR_readComparison 3 (some .boolean)
theorem mc_RR_readComparison : MC y_RR_readComparison k_RR_readComparison b_RR_readComparison 3 (some .boolean) [] 2 := ⟨g_in (List.mem_of_getElem? (i := 541) (by decide +kernel)) (by decide +kernel), Or.inl ⟨rfl, rfl⟩, g_in (List.mem_of_getElem? (i := 58) (by decide +kernel)) (by decide +kernel), by decide, by decide +kernel⟩
theorem in_RR_readComparison : Cond.instanceMethod y_RR_readComparison ∈ g_ws := g_in (List.mem_of_getElem? (i := 540) (by decide +kernel)) (by decide +kernel)
theorem se_RR_readComparison : Cond.selects cR1 y_RR_readComparison y_RR_readComparison ∈ g_ws := g_in (List.mem_of_getElem? (i := 17) (by decide +kernel)) (by decide +kernel)
theorem d_RR_readComparison_0 : decode b_RR_readComparison 0 = .ok (.aload_n 0, 1) := by decide +kernel
theorem d_RR_readComparison_1 : decode b_RR_readComparison 1 = .ok (.bipush 60, 2) := by decide +kernel
theorem d_RR_readComparison_3 : decode b_RR_readComparison 3 = .ok (.invokevirtual 47, 3) := by decide +kernel
theorem d_RR_readComparison_6 : decode b_RR_readComparison 6 = .ok (.ifCond .eq 14, 3) := by decide +kernel
theorem d_RR_readComparison_9 : decode b_RR_readComparison 9 = .ok (.aload_n 1, 1) := by decide +kernel
theorem d_RR_readComparison_10 : decode b_RR_readComparison 10 = .ok (.getfield 51, 3) := by decide +kernel
theorem d_RR_readComparison_13 : decode b_RR_readComparison 13 = .ok (.iload_n 2, 1) := by decide +kernel
theorem d_RR_readComparison_14 : decode b_RR_readComparison 14 = .ok (.bipush 60, 2) := by decide +kernel
theorem d_RR_readComparison_16 : decode b_RR_readComparison 16 = .ok (.castore, 1) := by decide +kernel
theorem d_RR_readComparison_17 : decode b_RR_readComparison 17 = .ok (.goto 45, 3) := by decide +kernel
theorem d_RR_readComparison_20 : decode b_RR_readComparison 20 = .ok (.aload_n 0, 1) := by decide +kernel
theorem d_RR_readComparison_21 : decode b_RR_readComparison 21 = .ok (.bipush 61, 2) := by decide +kernel
theorem d_RR_readComparison_23 : decode b_RR_readComparison 23 = .ok (.invokevirtual 47, 3) := by decide +kernel
theorem d_RR_readComparison_26 : decode b_RR_readComparison 26 = .ok (.ifCond .eq 14, 3) := by decide +kernel
theorem d_RR_readComparison_29 : decode b_RR_readComparison 29 = .ok (.aload_n 1, 1) := by decide +kernel
theorem d_RR_readComparison_30 : decode b_RR_readComparison 30 = .ok (.getfield 51, 3) := by decide +kernel
theorem d_RR_readComparison_33 : decode b_RR_readComparison 33 = .ok (.iload_n 2, 1) := by decide +kernel
theorem d_RR_readComparison_34 : decode b_RR_readComparison 34 = .ok (.bipush 61, 2) := by decide +kernel
theorem d_RR_readComparison_36 : decode b_RR_readComparison 36 = .ok (.castore, 1) := by decide +kernel
theorem d_RR_readComparison_37 : decode b_RR_readComparison 37 = .ok (.goto 25, 3) := by decide +kernel
theorem d_RR_readComparison_40 : decode b_RR_readComparison 40 = .ok (.aload_n 0, 1) := by decide +kernel
theorem d_RR_readComparison_41 : decode b_RR_readComparison 41 = .ok (.bipush 33, 2) := by decide +kernel
theorem d_RR_readComparison_43 : decode b_RR_readComparison 43 = .ok (.invokevirtual 47, 3) := by decide +kernel
theorem d_RR_readComparison_46 : decode b_RR_readComparison 46 = .ok (.ifCond .eq 14, 3) := by decide +kernel
theorem d_RR_readComparison_49 : decode b_RR_readComparison 49 = .ok (.aload_n 1, 1) := by decide +kernel
theorem d_RR_readComparison_50 : decode b_RR_readComparison 50 = .ok (.getfield 51, 3) := by decide +kernel
theorem d_RR_readComparison_53 : decode b_RR_readComparison 53 = .ok (.iload_n 2, 1) := by decide +kernel
theorem d_RR_readComparison_54 : decode b_RR_readComparison 54 = .ok (.bipush 33, 2) := by decide +kernel
theorem d_RR_readComparison_56 : decode b_RR_readComparison 56 = .ok (.castore, 1) := by decide +kernel
theorem d_RR_readComparison_57 : decode b_RR_readComparison 57 = .ok (.goto 5, 3) := by decide +kernel
theorem d_RR_readComparison_60 : decode b_RR_readComparison 60 = .ok (.iconst 0, 1) := by decide +kernel
theorem d_RR_readComparison_61 : decode b_RR_readComparison 61 = .ok (.ireturn, 1) := by decide +kernel
theorem d_RR_readComparison_62 : decode b_RR_readComparison 62 = .ok (.iconst 1, 1) := by decide +kernel
theorem d_RR_readComparison_63 : decode b_RR_readComparison 63 = .ok (.ireturn, 1) := by decide +kernel
def y_RR_readSum : MethodName := ⟨cR1, "readSum", "(LReportChecks2$RuleBook;I)Z"⟩
abbrev b_RR_readSum : ByteArray := prog_6_method_4_code
abbrev k_RR_readSum : Cond := .code y_RR_readSum b_RR_readSum 5 (some .boolean)
theorem mc_RR_readSum : MC y_RR_readSum k_RR_readSum b_RR_readSum 5 (some .boolean) [] 2 := ⟨g_in (List.mem_of_getElem? (i := 507) (by decide +kernel)) (by decide +kernel), Or.inl ⟨rfl, rfl⟩, g_in (List.mem_of_getElem? (i := 58) (by decide +kernel)) (by decide +kernel), by decide, by decide +kernel⟩
theorem in_RR_readSum : Cond.instanceMethod y_RR_readSum ∈ g_ws := g_in (List.mem_of_getElem? (i := 506) (by decide +kernel)) (by decide +kernel)
theorem se_RR_readSum : Cond.selects cR1 y_RR_readSum y_RR_readSum ∈ g_ws := g_in (List.mem_of_getElem? (i := 10) (by decide +kernel)) (by decide +kernel)
theorem d_RR_readSum_0 : decode b_RR_readSum 0 = .ok (.iconst 0, 1) := by decide +kernel
theorem d_RR_readSum_1 : decode b_RR_readSum 1 = .ok (.istore_n 3, 1) := by decide +kernel
theorem d_RR_readSum_2 : decode b_RR_readSum 2 = .ok (.iconst 1, 1) := by decide +kernel
theorem d_RR_readSum_3 : decode b_RR_readSum 3 = .ok (.istore 4, 2) := by decide +kernel
theorem d_RR_readSum_5 : decode b_RR_readSum 5 = .ok (.iload 4, 2) := by decide +kernel
theorem d_RR_readSum_7 : decode b_RR_readSum 7 = .ok (.iconst 4, 1) := by decide +kernel
theorem d_RR_readSum_8 : decode b_RR_readSum 8 = .ok (.if_icmp .gt 49, 3) := by decide +kernel
theorem d_RR_readSum_11 : decode b_RR_readSum 11 = .ok (.aload_n 0, 1) := by decide +kernel
theorem d_RR_readSum_12 : decode b_RR_readSum 12 = .ok (.aload_n 1, 1) := by decide +kernel
theorem d_RR_readSum_13 : decode b_RR_readSum 13 = .ok (.iload_n 2, 1) := by decide +kernel
theorem d_RR_readSum_14 : decode b_RR_readSum 14 = .ok (.iload_n 3, 1) := by decide +kernel
theorem d_RR_readSum_15 : decode b_RR_readSum 15 = .ok (.invokevirtual 55, 3) := by decide +kernel
theorem d_RR_readSum_18 : decode b_RR_readSum 18 = .ok (.ifCond .ne 5, 3) := by decide +kernel
theorem d_RR_readSum_21 : decode b_RR_readSum 21 = .ok (.iconst 0, 1) := by decide +kernel
theorem d_RR_readSum_22 : decode b_RR_readSum 22 = .ok (.ireturn, 1) := by decide +kernel
theorem d_RR_readSum_23 : decode b_RR_readSum 23 = .ok (.iload 4, 2) := by decide +kernel
theorem d_RR_readSum_25 : decode b_RR_readSum 25 = .ok (.iconst 4, 1) := by decide +kernel
theorem d_RR_readSum_26 : decode b_RR_readSum 26 = .ok (.if_icmp .ge 25, 3) := by decide +kernel
theorem d_RR_readSum_29 : decode b_RR_readSum 29 = .ok (.aload_n 0, 1) := by decide +kernel
theorem d_RR_readSum_30 : decode b_RR_readSum 30 = .ok (.bipush 45, 2) := by decide +kernel
theorem d_RR_readSum_32 : decode b_RR_readSum 32 = .ok (.invokevirtual 47, 3) := by decide +kernel
theorem d_RR_readSum_35 : decode b_RR_readSum 35 = .ok (.istore_n 3, 1) := by decide +kernel
theorem d_RR_readSum_36 : decode b_RR_readSum 36 = .ok (.iload_n 3, 1) := by decide +kernel
theorem d_RR_readSum_37 : decode b_RR_readSum 37 = .ok (.ifCond .ne 14, 3) := by decide +kernel
theorem d_RR_readSum_40 : decode b_RR_readSum 40 = .ok (.aload_n 0, 1) := by decide +kernel
theorem d_RR_readSum_41 : decode b_RR_readSum 41 = .ok (.bipush 43, 2) := by decide +kernel
theorem d_RR_readSum_43 : decode b_RR_readSum 43 = .ok (.invokevirtual 47, 3) := by decide +kernel
theorem d_RR_readSum_46 : decode b_RR_readSum 46 = .ok (.ifCond .ne 5, 3) := by decide +kernel
theorem d_RR_readSum_49 : decode b_RR_readSum 49 = .ok (.iconst 1, 1) := by decide +kernel
theorem d_RR_readSum_50 : decode b_RR_readSum 50 = .ok (.ireturn, 1) := by decide +kernel
theorem d_RR_readSum_51 : decode b_RR_readSum 51 = .ok (.iinc 4 1, 3) := by decide +kernel
theorem d_RR_readSum_54 : decode b_RR_readSum 54 = .ok (.goto (-49), 3) := by decide +kernel
theorem d_RR_readSum_57 : decode b_RR_readSum 57 = .ok (.iconst 1, 1) := by decide +kernel
theorem d_RR_readSum_58 : decode b_RR_readSum 58 = .ok (.ireturn, 1) := by decide +kernel
def y_RR_readTerm : MethodName := ⟨cR1, "readTerm", "(LReportChecks2$RuleBook;IZ)Z"⟩
abbrev b_RR_readTerm : ByteArray := prog_6_method_5_code
abbrev k_RR_readTerm : Cond := .code y_RR_readTerm b_RR_readTerm 6 (some .boolean)
theorem mc_RR_readTerm : MC y_RR_readTerm k_RR_readTerm b_RR_readTerm 6 (some .boolean) [] 3 := ⟨g_in (List.mem_of_getElem? (i := 511) (by decide +kernel)) (by decide +kernel), Or.inl ⟨rfl, rfl⟩, g_in (List.mem_of_getElem? (i := 58) (by decide +kernel)) (by decide +kernel), by decide, by decide +kernel⟩
theorem in_RR_readTerm : Cond.instanceMethod y_RR_readTerm ∈ g_ws := g_in (List.mem_of_getElem? (i := 510) (by decide +kernel)) (by decide +kernel)
theorem se_RR_readTerm : Cond.selects cR1 y_RR_readTerm y_RR_readTerm ∈ g_ws := g_in (List.mem_of_getElem? (i := 11) (by decide +kernel)) (by decide +kernel)
theorem d_RR_readTerm_0 : decode b_RR_readTerm 0 = .ok (.aload_n 0, 1) := by decide +kernel
theorem d_RR_readTerm_1 : decode b_RR_readTerm 1 = .ok (.invokevirtual 59, 3) := by decide +kernel
theorem d_RR_readTerm_4 : decode b_RR_readTerm 4 = .ok (.istore 4, 2) := by decide +kernel
theorem d_RR_readTerm_6 : decode b_RR_readTerm 6 = .ok (.iload 4, 2) := by decide +kernel
theorem d_RR_readTerm_8 : decode b_RR_readTerm 8 = .ok (.ldc 63, 2) := by decide +kernel
theorem d_RR_readTerm_10 : decode b_RR_readTerm 10 = .ok (.if_icmp .ne 5, 3) := by decide +kernel
theorem d_RR_readTerm_13 : decode b_RR_readTerm 13 = .ok (.iconst 0, 1) := by decide +kernel
theorem d_RR_readTerm_14 : decode b_RR_readTerm 14 = .ok (.ireturn, 1) := by decide +kernel
theorem d_RR_readTerm_15 : decode b_RR_readTerm 15 = .ok (.aload_n 0, 1) := by decide +kernel
theorem d_RR_readTerm_16 : decode b_RR_readTerm 16 = .ok (.bipush 47, 2) := by decide +kernel
theorem d_RR_readTerm_18 : decode b_RR_readTerm 18 = .ok (.invokevirtual 47, 3) := by decide +kernel
theorem d_RR_readTerm_21 : decode b_RR_readTerm 21 = .ok (.ifCond .eq 10, 3) := by decide +kernel
theorem d_RR_readTerm_24 : decode b_RR_readTerm 24 = .ok (.aload_n 0, 1) := by decide +kernel
theorem d_RR_readTerm_25 : decode b_RR_readTerm 25 = .ok (.invokevirtual 59, 3) := by decide +kernel
theorem d_RR_readTerm_28 : decode b_RR_readTerm 28 = .ok (.goto 4, 3) := by decide +kernel
theorem d_RR_readTerm_31 : decode b_RR_readTerm 31 = .ok (.iconst 1, 1) := by decide +kernel
theorem d_RR_readTerm_32 : decode b_RR_readTerm 32 = .ok (.istore 5, 2) := by decide +kernel
theorem d_RR_readTerm_34 : decode b_RR_readTerm 34 = .ok (.iload 5, 2) := by decide +kernel
theorem d_RR_readTerm_36 : decode b_RR_readTerm 36 = .ok (.ldc 63, 2) := by decide +kernel
theorem d_RR_readTerm_38 : decode b_RR_readTerm 38 = .ok (.if_icmp .ne 5, 3) := by decide +kernel
theorem d_RR_readTerm_41 : decode b_RR_readTerm 41 = .ok (.iconst 0, 1) := by decide +kernel
theorem d_RR_readTerm_42 : decode b_RR_readTerm 42 = .ok (.ireturn, 1) := by decide +kernel
theorem d_RR_readTerm_43 : decode b_RR_readTerm 43 = .ok (.aload_n 1, 1) := by decide +kernel
theorem d_RR_readTerm_44 : decode b_RR_readTerm 44 = .ok (.iload_n 2, 1) := by decide +kernel
theorem d_RR_readTerm_45 : decode b_RR_readTerm 45 = .ok (.iload 4, 2) := by decide +kernel
theorem d_RR_readTerm_47 : decode b_RR_readTerm 47 = .ok (.iload 5, 2) := by decide +kernel
theorem d_RR_readTerm_49 : decode b_RR_readTerm 49 = .ok (.iload_n 3, 1) := by decide +kernel
theorem d_RR_readTerm_50 : decode b_RR_readTerm 50 = .ok (.invokevirtual 64, 3) := by decide +kernel
theorem d_RR_readTerm_53 : decode b_RR_readTerm 53 = .ok (.iconst 1, 1) := by decide +kernel
theorem d_RR_readTerm_54 : decode b_RR_readTerm 54 = .ok (.ireturn, 1) := by decide +kernel
def y_RR_readFactor : MethodName := ⟨cR1, "readFactor", "()I"⟩
abbrev b_RR_readFactor : ByteArray := prog_6_method_6_code
abbrev k_RR_readFactor : Cond := .code y_RR_readFactor b_RR_readFactor 3 (some .int)
theorem mc_RR_readFactor : MC y_RR_readFactor k_RR_readFactor b_RR_readFactor 3 (some .int) [] 0 := ⟨g_in (List.mem_of_getElem? (i := 515) (by decide +kernel)) (by decide +kernel), Or.inl ⟨rfl, rfl⟩, g_in (List.mem_of_getElem? (i := 58) (by decide +kernel)) (by decide +kernel), by decide, by decide +kernel⟩
theorem in_RR_readFactor : Cond.instanceMethod y_RR_readFactor ∈ g_ws := g_in (List.mem_of_getElem? (i := 514) (by decide +kernel)) (by decide +kernel)
theorem se_RR_readFactor : Cond.selects cR1 y_RR_readFactor y_RR_readFactor ∈ g_ws := g_in (List.mem_of_getElem? (i := 12) (by decide +kernel)) (by decide +kernel)
theorem d_RR_readFactor_0 : decode b_RR_readFactor 0 = .ok (.aload_n 0, 1) := by decide +kernel
theorem d_RR_readFactor_1 : decode b_RR_readFactor 1 = .ok (.bipush 102, 2) := by decide +kernel
theorem d_RR_readFactor_3 : decode b_RR_readFactor 3 = .ok (.invokevirtual 47, 3) := by decide +kernel
theorem d_RR_readFactor_6 : decode b_RR_readFactor 6 = .ok (.istore_n 1, 1) := by decide +kernel
theorem d_RR_readFactor_7 : decode b_RR_readFactor 7 = .ok (.aload_n 0, 1) := by decide +kernel
theorem d_RR_readFactor_8 : decode b_RR_readFactor 8 = .ok (.invokevirtual 33, 3) := by decide +kernel
theorem d_RR_readFactor_11 : decode b_RR_readFactor 11 = .ok (.aload_n 0, 1) := by decide +kernel
theorem d_RR_readFactor_12 : decode b_RR_readFactor 12 = .ok (.iload_n 1, 1) := by decide +kernel
theorem d_RR_readFactor_13 : decode b_RR_readFactor 13 = .ok (.ifCond .eq 8, 3) := by decide +kernel
theorem d_RR_readFactor_16 : decode b_RR_readFactor 16 = .ok (.bipush 19, 2) := by decide +kernel
theorem d_RR_readFactor_18 : decode b_RR_readFactor 18 = .ok (.goto 5, 3) := by decide +kernel
theorem d_RR_readFactor_21 : decode b_RR_readFactor 21 = .ok (.ldc 68, 2) := by decide +kernel
theorem d_RR_readFactor_23 : decode b_RR_readFactor 23 = .ok (.invokevirtual 69, 3) := by decide +kernel
theorem d_RR_readFactor_26 : decode b_RR_readFactor 26 = .ok (.istore_n 2, 1) := by decide +kernel
theorem d_RR_readFactor_27 : decode b_RR_readFactor 27 = .ok (.iload_n 1, 1) := by decide +kernel
theorem d_RR_readFactor_28 : decode b_RR_readFactor 28 = .ok (.ifCond .eq 16, 3) := by decide +kernel
theorem d_RR_readFactor_31 : decode b_RR_readFactor 31 = .ok (.iload_n 2, 1) := by decide +kernel
theorem d_RR_readFactor_32 : decode b_RR_readFactor 32 = .ok (.ldc 63, 2) := by decide +kernel
theorem d_RR_readFactor_34 : decode b_RR_readFactor 34 = .ok (.if_icmp .eq 10, 3) := by decide +kernel
theorem d_RR_readFactor_37 : decode b_RR_readFactor 37 = .ok (.iload_n 2, 1) := by decide +kernel
theorem d_RR_readFactor_38 : decode b_RR_readFactor 38 = .ok (.invokestatic 73, 3) := by decide +kernel
theorem d_RR_readFactor_41 : decode b_RR_readFactor 41 = .ok (.goto 4, 3) := by decide +kernel
theorem d_RR_readFactor_44 : decode b_RR_readFactor 44 = .ok (.iload_n 2, 1) := by decide +kernel
theorem d_RR_readFactor_45 : decode b_RR_readFactor 45 = .ok (.ireturn, 1) := by decide +kernel
def y_RR_readNumber : MethodName := ⟨cR1, "readNumber", "(I)I"⟩
abbrev b_RR_readNumber : ByteArray := prog_6_method_7_code
abbrev k_RR_readNumber : Cond := .code y_RR_readNumber b_RR_readNumber 5 (some .int)
theorem mc_RR_readNumber : MC y_RR_readNumber k_RR_readNumber b_RR_readNumber 5 (some .int) [] 1 := ⟨g_in (List.mem_of_getElem? (i := 524) (by decide +kernel)) (by decide +kernel), Or.inl ⟨rfl, rfl⟩, g_in (List.mem_of_getElem? (i := 58) (by decide +kernel)) (by decide +kernel), by decide, by decide +kernel⟩
theorem in_RR_readNumber : Cond.instanceMethod y_RR_readNumber ∈ g_ws := g_in (List.mem_of_getElem? (i := 523) (by decide +kernel)) (by decide +kernel)
theorem se_RR_readNumber : Cond.selects cR1 y_RR_readNumber y_RR_readNumber ∈ g_ws := g_in (List.mem_of_getElem? (i := 14) (by decide +kernel)) (by decide +kernel)
theorem d_RR_readNumber_0 : decode b_RR_readNumber 0 = .ok (.ldc 63, 2) := by decide +kernel
theorem d_RR_readNumber_2 : decode b_RR_readNumber 2 = .ok (.istore_n 2, 1) := by decide +kernel
theorem d_RR_readNumber_3 : decode b_RR_readNumber 3 = .ok (.aload_n 0, 1) := by decide +kernel
theorem d_RR_readNumber_4 : decode b_RR_readNumber 4 = .ok (.getfield 15, 3) := by decide +kernel
theorem d_RR_readNumber_7 : decode b_RR_readNumber 7 = .ok (.aload_n 0, 1) := by decide +kernel
theorem d_RR_readNumber_8 : decode b_RR_readNumber 8 = .ok (.getfield 9, 3) := by decide +kernel
theorem d_RR_readNumber_11 : decode b_RR_readNumber 11 = .ok (.if_icmp .ge 75, 3) := by decide +kernel
theorem d_RR_readNumber_14 : decode b_RR_readNumber 14 = .ok (.aload_n 0, 1) := by decide +kernel
theorem d_RR_readNumber_15 : decode b_RR_readNumber 15 = .ok (.getfield 18, 3) := by decide +kernel
theorem d_RR_readNumber_18 : decode b_RR_readNumber 18 = .ok (.aload_n 0, 1) := by decide +kernel
theorem d_RR_readNumber_19 : decode b_RR_readNumber 19 = .ok (.getfield 15, 3) := by decide +kernel
theorem d_RR_readNumber_22 : decode b_RR_readNumber 22 = .ok (.baload, 1) := by decide +kernel
theorem d_RR_readNumber_23 : decode b_RR_readNumber 23 = .ok (.bipush 48, 2) := by decide +kernel
theorem d_RR_readNumber_25 : decode b_RR_readNumber 25 = .ok (.isub, 1) := by decide +kernel
theorem d_RR_readNumber_26 : decode b_RR_readNumber 26 = .ok (.istore_n 3, 1) := by decide +kernel
theorem d_RR_readNumber_27 : decode b_RR_readNumber 27 = .ok (.iload_n 3, 1) := by decide +kernel
theorem d_RR_readNumber_28 : decode b_RR_readNumber 28 = .ok (.ifCond .lt 9, 3) := by decide +kernel
theorem d_RR_readNumber_31 : decode b_RR_readNumber 31 = .ok (.iload_n 3, 1) := by decide +kernel
theorem d_RR_readNumber_32 : decode b_RR_readNumber 32 = .ok (.bipush 9, 2) := by decide +kernel
theorem d_RR_readNumber_34 : decode b_RR_readNumber 34 = .ok (.if_icmp .le 5, 3) := by decide +kernel
theorem d_RR_readNumber_37 : decode b_RR_readNumber 37 = .ok (.iload_n 2, 1) := by decide +kernel
theorem d_RR_readNumber_38 : decode b_RR_readNumber 38 = .ok (.ireturn, 1) := by decide +kernel
theorem d_RR_readNumber_39 : decode b_RR_readNumber 39 = .ok (.iload_n 2, 1) := by decide +kernel
theorem d_RR_readNumber_40 : decode b_RR_readNumber 40 = .ok (.ldc 63, 2) := by decide +kernel
theorem d_RR_readNumber_42 : decode b_RR_readNumber 42 = .ok (.if_icmp .ne 7, 3) := by decide +kernel
theorem d_RR_readNumber_45 : decode b_RR_readNumber 45 = .ok (.iload_n 3, 1) := by decide +kernel
theorem d_RR_readNumber_46 : decode b_RR_readNumber 46 = .ok (.goto 9, 3) := by decide +kernel
theorem d_RR_readNumber_49 : decode b_RR_readNumber 49 = .ok (.bipush 10, 2) := by decide +kernel
theorem d_RR_readNumber_51 : decode b_RR_readNumber 51 = .ok (.iload_n 2, 1) := by decide +kernel
theorem d_RR_readNumber_52 : decode b_RR_readNumber 52 = .ok (.imul, 1) := by decide +kernel
theorem d_RR_readNumber_53 : decode b_RR_readNumber 53 = .ok (.iload_n 3, 1) := by decide +kernel
theorem d_RR_readNumber_54 : decode b_RR_readNumber 54 = .ok (.iadd, 1) := by decide +kernel
theorem d_RR_readNumber_55 : decode b_RR_readNumber 55 = .ok (.istore 4, 2) := by decide +kernel
theorem d_RR_readNumber_57 : decode b_RR_readNumber 57 = .ok (.iload_n 2, 1) := by decide +kernel
theorem d_RR_readNumber_58 : decode b_RR_readNumber 58 = .ok (.ifCond .eq 9, 3) := by decide +kernel
theorem d_RR_readNumber_61 : decode b_RR_readNumber 61 = .ok (.iload 4, 2) := by decide +kernel
theorem d_RR_readNumber_63 : decode b_RR_readNumber 63 = .ok (.iload_n 1, 1) := by decide +kernel
theorem d_RR_readNumber_64 : decode b_RR_readNumber 64 = .ok (.if_icmp .le 6, 3) := by decide +kernel
theorem d_RR_readNumber_67 : decode b_RR_readNumber 67 = .ok (.ldc 63, 2) := by decide +kernel
theorem d_RR_readNumber_69 : decode b_RR_readNumber 69 = .ok (.ireturn, 1) := by decide +kernel
theorem d_RR_readNumber_70 : decode b_RR_readNumber 70 = .ok (.iload 4, 2) := by decide +kernel
theorem d_RR_readNumber_72 : decode b_RR_readNumber 72 = .ok (.istore_n 2, 1) := by decide +kernel
theorem d_RR_readNumber_73 : decode b_RR_readNumber 73 = .ok (.aload_n 0, 1) := by decide +kernel
theorem d_RR_readNumber_74 : decode b_RR_readNumber 74 = .ok (.dup, 1) := by decide +kernel
theorem d_RR_readNumber_75 : decode b_RR_readNumber 75 = .ok (.getfield 15, 3) := by decide +kernel
theorem d_RR_readNumber_78 : decode b_RR_readNumber 78 = .ok (.iconst 1, 1) := by decide +kernel
theorem d_RR_readNumber_79 : decode b_RR_readNumber 79 = .ok (.iadd, 1) := by decide +kernel
theorem d_RR_readNumber_80 : decode b_RR_readNumber 80 = .ok (.putfield 15, 3) := by decide +kernel
theorem d_RR_readNumber_83 : decode b_RR_readNumber 83 = .ok (.goto (-80), 3) := by decide +kernel
theorem d_RR_readNumber_86 : decode b_RR_readNumber 86 = .ok (.iload_n 2, 1) := by decide +kernel
theorem d_RR_readNumber_87 : decode b_RR_readNumber 87 = .ok (.ireturn, 1) := by decide +kernel
def y_RR_passes : MethodName := ⟨cR1, "passes", "(C)Z"⟩
abbrev b_RR_passes : ByteArray := prog_6_method_8_code
abbrev k_RR_passes : Cond := .code y_RR_passes b_RR_passes 2 (some .boolean)
theorem mc_RR_passes : MC y_RR_passes k_RR_passes b_RR_passes 2 (some .boolean) [] 1 := ⟨g_in (List.mem_of_getElem? (i := 519) (by decide +kernel)) (by decide +kernel), Or.inl ⟨rfl, rfl⟩, g_in (List.mem_of_getElem? (i := 58) (by decide +kernel)) (by decide +kernel), by decide, by decide +kernel⟩
theorem in_RR_passes : Cond.instanceMethod y_RR_passes ∈ g_ws := g_in (List.mem_of_getElem? (i := 518) (by decide +kernel)) (by decide +kernel)
theorem se_RR_passes : Cond.selects cR1 y_RR_passes y_RR_passes ∈ g_ws := g_in (List.mem_of_getElem? (i := 13) (by decide +kernel)) (by decide +kernel)
theorem d_RR_passes_0 : decode b_RR_passes 0 = .ok (.aload_n 0, 1) := by decide +kernel
theorem d_RR_passes_1 : decode b_RR_passes 1 = .ok (.invokevirtual 33, 3) := by decide +kernel
theorem d_RR_passes_4 : decode b_RR_passes 4 = .ok (.aload_n 0, 1) := by decide +kernel
theorem d_RR_passes_5 : decode b_RR_passes 5 = .ok (.getfield 15, 3) := by decide +kernel
theorem d_RR_passes_8 : decode b_RR_passes 8 = .ok (.aload_n 0, 1) := by decide +kernel
theorem d_RR_passes_9 : decode b_RR_passes 9 = .ok (.getfield 9, 3) := by decide +kernel
theorem d_RR_passes_12 : decode b_RR_passes 12 = .ok (.if_icmp .ge 16, 3) := by decide +kernel
theorem d_RR_passes_15 : decode b_RR_passes 15 = .ok (.aload_n 0, 1) := by decide +kernel
theorem d_RR_passes_16 : decode b_RR_passes 16 = .ok (.getfield 18, 3) := by decide +kernel
theorem d_RR_passes_19 : decode b_RR_passes 19 = .ok (.aload_n 0, 1) := by decide +kernel
theorem d_RR_passes_20 : decode b_RR_passes 20 = .ok (.getfield 15, 3) := by decide +kernel
theorem d_RR_passes_23 : decode b_RR_passes 23 = .ok (.baload, 1) := by decide +kernel
theorem d_RR_passes_24 : decode b_RR_passes 24 = .ok (.iload_n 1, 1) := by decide +kernel
theorem d_RR_passes_25 : decode b_RR_passes 25 = .ok (.if_icmp .eq 5, 3) := by decide +kernel
theorem d_RR_passes_28 : decode b_RR_passes 28 = .ok (.iconst 0, 1) := by decide +kernel
theorem d_RR_passes_29 : decode b_RR_passes 29 = .ok (.ireturn, 1) := by decide +kernel
theorem d_RR_passes_30 : decode b_RR_passes 30 = .ok (.aload_n 0, 1) := by decide +kernel
theorem d_RR_passes_31 : decode b_RR_passes 31 = .ok (.dup, 1) := by decide +kernel
theorem d_RR_passes_32 : decode b_RR_passes 32 = .ok (.getfield 15, 3) := by decide +kernel
theorem d_RR_passes_35 : decode b_RR_passes 35 = .ok (.iconst 1, 1) := by decide +kernel
theorem d_RR_passes_36 : decode b_RR_passes 36 = .ok (.iadd, 1) := by decide +kernel
theorem d_RR_passes_37 : decode b_RR_passes 37 = .ok (.putfield 15, 3) := by decide +kernel
theorem d_RR_passes_40 : decode b_RR_passes 40 = .ok (.iconst 1, 1) := by decide +kernel
theorem d_RR_passes_41 : decode b_RR_passes 41 = .ok (.ireturn, 1) := by decide +kernel
def y_RR_skipBlanks : MethodName := ⟨cR1, "skipBlanks", "()V"⟩
abbrev b_RR_skipBlanks : ByteArray := prog_6_method_9_code
abbrev k_RR_skipBlanks : Cond := .code y_RR_skipBlanks b_RR_skipBlanks 1 none
theorem mc_RR_skipBlanks : MC y_RR_skipBlanks k_RR_skipBlanks b_RR_skipBlanks 1 none [] 0 := ⟨g_in (List.mem_of_getElem? (i := 499) (by decide +kernel)) (by decide +kernel), Or.inl ⟨rfl, rfl⟩, g_in (List.mem_of_getElem? (i := 58) (by decide +kernel)) (by decide +kernel), by decide, by decide +kernel⟩
theorem in_RR_skipBlanks : Cond.instanceMethod y_RR_skipBlanks ∈ g_ws := g_in (List.mem_of_getElem? (i := 498) (by decide +kernel)) (by decide +kernel)
theorem se_RR_skipBlanks : Cond.selects cR1 y_RR_skipBlanks y_RR_skipBlanks ∈ g_ws := g_in (List.mem_of_getElem? (i := 8) (by decide +kernel)) (by decide +kernel)
theorem d_RR_skipBlanks_0 : decode b_RR_skipBlanks 0 = .ok (.aload_n 0, 1) := by decide +kernel
theorem d_RR_skipBlanks_1 : decode b_RR_skipBlanks 1 = .ok (.getfield 15, 3) := by decide +kernel
theorem d_RR_skipBlanks_4 : decode b_RR_skipBlanks 4 = .ok (.aload_n 0, 1) := by decide +kernel
theorem d_RR_skipBlanks_5 : decode b_RR_skipBlanks 5 = .ok (.getfield 9, 3) := by decide +kernel
theorem d_RR_skipBlanks_8 : decode b_RR_skipBlanks 8 = .ok (.if_icmp .ge 30, 3) := by decide +kernel
theorem d_RR_skipBlanks_11 : decode b_RR_skipBlanks 11 = .ok (.aload_n 0, 1) := by decide +kernel
theorem d_RR_skipBlanks_12 : decode b_RR_skipBlanks 12 = .ok (.getfield 18, 3) := by decide +kernel
theorem d_RR_skipBlanks_15 : decode b_RR_skipBlanks 15 = .ok (.aload_n 0, 1) := by decide +kernel
theorem d_RR_skipBlanks_16 : decode b_RR_skipBlanks 16 = .ok (.getfield 15, 3) := by decide +kernel
theorem d_RR_skipBlanks_19 : decode b_RR_skipBlanks 19 = .ok (.baload, 1) := by decide +kernel
theorem d_RR_skipBlanks_20 : decode b_RR_skipBlanks 20 = .ok (.bipush 32, 2) := by decide +kernel
theorem d_RR_skipBlanks_22 : decode b_RR_skipBlanks 22 = .ok (.if_icmp .ne 16, 3) := by decide +kernel
theorem d_RR_skipBlanks_25 : decode b_RR_skipBlanks 25 = .ok (.aload_n 0, 1) := by decide +kernel
theorem d_RR_skipBlanks_26 : decode b_RR_skipBlanks 26 = .ok (.dup, 1) := by decide +kernel
theorem d_RR_skipBlanks_27 : decode b_RR_skipBlanks 27 = .ok (.getfield 15, 3) := by decide +kernel
theorem d_RR_skipBlanks_30 : decode b_RR_skipBlanks 30 = .ok (.iconst 1, 1) := by decide +kernel
theorem d_RR_skipBlanks_31 : decode b_RR_skipBlanks 31 = .ok (.iadd, 1) := by decide +kernel
theorem d_RR_skipBlanks_32 : decode b_RR_skipBlanks 32 = .ok (.putfield 15, 3) := by decide +kernel
theorem d_RR_skipBlanks_35 : decode b_RR_skipBlanks 35 = .ok (.goto (-35), 3) := by decide +kernel
theorem d_RR_skipBlanks_38 : decode b_RR_skipBlanks 38 = .ok (.return_, 1) := by decide +kernel
/-! ===== methods of RB: printed by program ===== -/
def y_RB_init : MethodName := ⟨cR2, "<init>", "()V"⟩
abbrev b_RB_init : ByteArray := prog_5_method_1_code
abbrev k_RB_init : Cond := .code y_RB_init b_RB_init 1 none
theorem mc_RB_init : MC y_RB_init k_RB_init b_RB_init 1 none [] 0 := ⟨g_in (List.mem_of_getElem? (i := 106) (by decide +kernel)) (by decide +kernel), Or.inl ⟨rfl, rfl⟩, g_in (List.mem_of_getElem? (i := 59) (by decide +kernel)) (by decide +kernel), by decide, by decide +kernel⟩
theorem in_RB_init : Cond.instanceMethod y_RB_init ∈ g_ws := g_in (List.mem_of_getElem? (i := 105) (by decide +kernel)) (by decide +kernel)
theorem d_RB_init_0 : decode b_RB_init 0 = .ok (.aload_n 0, 1) := by decide +kernel
theorem d_RB_init_1 : decode b_RB_init 1 = .ok (.invokespecial 3, 3) := by decide +kernel
theorem d_RB_init_4 : decode b_RB_init 4 = .ok (.aload_n 0, 1) := by decide +kernel
theorem d_RB_init_5 : decode b_RB_init 5 = .ok (.iconst 0, 1) := by decide +kernel
theorem d_RB_init_6 : decode b_RB_init 6 = .ok (.putfield 9, 3) := by decide +kernel
theorem d_RB_init_9 : decode b_RB_init 9 = .ok (.aload_n 0, 1) := by decide +kernel
theorem d_RB_init_10 : decode b_RB_init 10 = .ok (.bipush 20, 2) := by decide +kernel
theorem d_RB_init_12 : decode b_RB_init 12 = .ok (.newarray .char, 2) := by decide +kernel
theorem d_RB_init_14 : decode b_RB_init 14 = .ok (.putfield 15, 3) := by decide +kernel
theorem d_RB_init_17 : decode b_RB_init 17 = .ok (.aload_n 0, 1) := by decide +kernel
theorem d_RB_init_18 : decode b_RB_init 18 = .ok (.bipush 20, 2) := by decide +kernel
theorem d_RB_init_20 : decode b_RB_init 20 = .ok (.newarray .int, 2) := by decide +kernel
theorem d_RB_init_22 : decode b_RB_init 22 = .ok (.putfield 19, 3) := by decide +kernel
theorem d_RB_init_25 : decode b_RB_init 25 = .ok (.aload_n 0, 1) := by decide +kernel
theorem d_RB_init_26 : decode b_RB_init 26 = .ok (.bipush 40, 2) := by decide +kernel
theorem d_RB_init_28 : decode b_RB_init 28 = .ok (.newarray .int, 2) := by decide +kernel
theorem d_RB_init_30 : decode b_RB_init 30 = .ok (.putfield 23, 3) := by decide +kernel
theorem d_RB_init_33 : decode b_RB_init 33 = .ok (.aload_n 0, 1) := by decide +kernel
theorem d_RB_init_34 : decode b_RB_init 34 = .ok (.sipush 160, 3) := by decide +kernel
theorem d_RB_init_37 : decode b_RB_init 37 = .ok (.newarray .int, 2) := by decide +kernel
theorem d_RB_init_39 : decode b_RB_init 39 = .ok (.putfield 26, 3) := by decide +kernel
theorem d_RB_init_42 : decode b_RB_init 42 = .ok (.aload_n 0, 1) := by decide +kernel
theorem d_RB_init_43 : decode b_RB_init 43 = .ok (.sipush 160, 3) := by decide +kernel
theorem d_RB_init_46 : decode b_RB_init 46 = .ok (.newarray .int, 2) := by decide +kernel
theorem d_RB_init_48 : decode b_RB_init 48 = .ok (.putfield 29, 3) := by decide +kernel
theorem d_RB_init_51 : decode b_RB_init 51 = .ok (.aload_n 0, 1) := by decide +kernel
theorem d_RB_init_52 : decode b_RB_init 52 = .ok (.sipush 160, 3) := by decide +kernel
theorem d_RB_init_55 : decode b_RB_init 55 = .ok (.newarray .boolean, 2) := by decide +kernel
theorem d_RB_init_57 : decode b_RB_init 57 = .ok (.putfield 32, 3) := by decide +kernel
theorem d_RB_init_60 : decode b_RB_init 60 = .ok (.return_, 1) := by decide +kernel
def y_RB_factorOfField : MethodName := ⟨cR2, "factorOfField", "(I)I"⟩
abbrev b_RB_factorOfField : ByteArray := prog_5_method_2_code
abbrev k_RB_factorOfField : Cond := .code y_RB_factorOfField b_RB_factorOfField 1 (some .int)
theorem mc_RB_factorOfField : MC y_RB_factorOfField k_RB_factorOfField b_RB_factorOfField 1 (some .int) [] 1 := ⟨g_in (List.mem_of_getElem? (i := 528) (by decide +kernel)) (by decide +kernel), Or.inl ⟨rfl, rfl⟩, g_in (List.mem_of_getElem? (i := 59) (by decide +kernel)) (by decide +kernel), by decide, by decide +kernel⟩
theorem st_RB_factorOfField : Cond.static y_RB_factorOfField ∈ g_ws := g_in (List.mem_of_getElem? (i := 527) (by decide +kernel)) (by decide +kernel)
theorem d_RB_factorOfField_0 : decode b_RB_factorOfField 0 = .ok (.iconst (-1), 1) := by decide +kernel
theorem d_RB_factorOfField_1 : decode b_RB_factorOfField 1 = .ok (.iload_n 0, 1) := by decide +kernel
theorem d_RB_factorOfField_2 : decode b_RB_factorOfField 2 = .ok (.isub, 1) := by decide +kernel
theorem d_RB_factorOfField_3 : decode b_RB_factorOfField 3 = .ok (.ireturn, 1) := by decide +kernel
def y_RB_startRule : MethodName := ⟨cR2, "startRule", "(I)V"⟩
abbrev b_RB_startRule : ByteArray := prog_5_method_3_code
abbrev k_RB_startRule : Cond := .code y_RB_startRule b_RB_startRule 2 none
theorem mc_RB_startRule : MC y_RB_startRule k_RB_startRule b_RB_startRule 2 none [] 1 := ⟨g_in (List.mem_of_getElem? (i := 503) (by decide +kernel)) (by decide +kernel), Or.inl ⟨rfl, rfl⟩, g_in (List.mem_of_getElem? (i := 59) (by decide +kernel)) (by decide +kernel), by decide, by decide +kernel⟩
theorem in_RB_startRule : Cond.instanceMethod y_RB_startRule ∈ g_ws := g_in (List.mem_of_getElem? (i := 502) (by decide +kernel)) (by decide +kernel)
theorem se_RB_startRule : Cond.selects cR2 y_RB_startRule y_RB_startRule ∈ g_ws := g_in (List.mem_of_getElem? (i := 9) (by decide +kernel)) (by decide +kernel)
theorem d_RB_startRule_0 : decode b_RB_startRule 0 = .ok (.aload_n 0, 1) := by decide +kernel
theorem d_RB_startRule_1 : decode b_RB_startRule 1 = .ok (.getfield 19, 3) := by decide +kernel
theorem d_RB_startRule_4 : decode b_RB_startRule 4 = .ok (.iload_n 1, 1) := by decide +kernel
theorem d_RB_startRule_5 : decode b_RB_startRule 5 = .ok (.iconst 0, 1) := by decide +kernel
theorem d_RB_startRule_6 : decode b_RB_startRule 6 = .ok (.iastore, 1) := by decide +kernel
theorem d_RB_startRule_7 : decode b_RB_startRule 7 = .ok (.aload_n 0, 1) := by decide +kernel
theorem d_RB_startRule_8 : decode b_RB_startRule 8 = .ok (.getfield 23, 3) := by decide +kernel
theorem d_RB_startRule_11 : decode b_RB_startRule 11 = .ok (.iconst 2, 1) := by decide +kernel
theorem d_RB_startRule_12 : decode b_RB_startRule 12 = .ok (.iload_n 1, 1) := by decide +kernel
theorem d_RB_startRule_13 : decode b_RB_startRule 13 = .ok (.imul, 1) := by decide +kernel
theorem d_RB_startRule_14 : decode b_RB_startRule 14 = .ok (.iconst 0, 1) := by decide +kernel
theorem d_RB_startRule_15 : decode b_RB_startRule 15 = .ok (.iastore, 1) := by decide +kernel
theorem d_RB_startRule_16 : decode b_RB_startRule 16 = .ok (.aload_n 0, 1) := by decide +kernel
theorem d_RB_startRule_17 : decode b_RB_startRule 17 = .ok (.getfield 23, 3) := by decide +kernel
theorem d_RB_startRule_20 : decode b_RB_startRule 20 = .ok (.iconst 2, 1) := by decide +kernel
theorem d_RB_startRule_21 : decode b_RB_startRule 21 = .ok (.iload_n 1, 1) := by decide +kernel
theorem d_RB_startRule_22 : decode b_RB_startRule 22 = .ok (.imul, 1) := by decide +kernel
theorem d_RB_startRule_23 : decode b_RB_startRule 23 = .ok (.iconst 1, 1) := by decide +kernel
theorem d_RB_startRule_24 : decode b_RB_startRule 24 = .ok (.iadd, 1) := by decide +kernel
theorem d_RB_startRule_25 : decode b_RB_startRule 25 = .ok (.iconst 0, 1) := by decide +kernel
theorem d_RB_startRule_26 : decode b_RB_startRule 26 = .ok (.iastore, 1) := by decide +kernel
theorem d_RB_startRule_27 : decode b_RB_startRule 27 = .ok (.return_, 1) := by decide +kernel
def y_RB_addTerm : MethodName := ⟨cR2, "addTerm", "(IIIZ)V"⟩
abbrev b_RB_addTerm : ByteArray := prog_5_method_4_code
abbrev k_RB_addTerm : Cond := .code y_RB_addTerm b_RB_addTerm 7 none
theorem mc_RB_addTerm : MC y_RB_addTerm k_RB_addTerm b_RB_addTerm 7 none [] 4 := ⟨g_in (List.mem_of_getElem? (i := 532) (by decide +kernel)) (by decide +kernel), Or.inl ⟨rfl, rfl⟩, g_in (List.mem_of_getElem? (i := 59) (by decide +kernel)) (by decide +kernel), by decide, by decide +kernel⟩
theorem in_RB_addTerm : Cond.instanceMethod y_RB_addTerm ∈ g_ws := g_in (List.mem_of_getElem? (i := 531) (by decide +kernel)) (by decide +kernel)
theorem se_RB_addTerm : Cond.selects cR2 y_RB_addTerm y_RB_addTerm ∈ g_ws := g_in (List.mem_of_getElem? (i := 15) (by decide +kernel)) (by decide +kernel)
theorem d_RB_addTerm_0 : decode b_RB_addTerm 0 = .ok (.aload_n 0, 1) := by decide +kernel
theorem d_RB_addTerm_1 : decode b_RB_addTerm 1 = .ok (.getfield 23, 3) := by decide +kernel
theorem d_RB_addTerm_4 : decode b_RB_addTerm 4 = .ok (.iload_n 1, 1) := by decide +kernel
theorem d_RB_addTerm_5 : decode b_RB_addTerm 5 = .ok (.iaload, 1) := by decide +kernel
theorem d_RB_addTerm_6 : decode b_RB_addTerm 6 = .ok (.istore 5, 2) := by decide +kernel
theorem d_RB_addTerm_8 : decode b_RB_addTerm 8 = .ok (.iload 5, 2) := by decide +kernel
theorem d_RB_addTerm_10 : decode b_RB_addTerm 10 = .ok (.iconst 4, 1) := by decide +kernel
theorem d_RB_addTerm_11 : decode b_RB_addTerm 11 = .ok (.if_icmp .lt 4, 3) := by decide +kernel
theorem d_RB_addTerm_14 : decode b_RB_addTerm 14 = .ok (.return_, 1) := by decide +kernel
theorem d_RB_addTerm_15 : decode b_RB_addTerm 15 = .ok (.iload_n 1, 1) := by decide +kernel
theorem d_RB_addTerm_16 : decode b_RB_addTerm 16 = .ok (.iconst 4, 1) := by decide +kernel
theorem d_RB_addTerm_17 : decode b_RB_addTerm 17 = .ok (.imul, 1) := by decide +kernel
theorem d_RB_addTerm_18 : decode b_RB_addTerm 18 = .ok (.iload 5, 2) := by decide +kernel
theorem d_RB_addTerm_20 : decode b_RB_addTerm 20 = .ok (.iadd, 1) := by decide +kernel
theorem d_RB_addTerm_21 : decode b_RB_addTerm 21 = .ok (.istore 6, 2) := by decide +kernel
theorem d_RB_addTerm_23 : decode b_RB_addTerm 23 = .ok (.aload_n 0, 1) := by decide +kernel
theorem d_RB_addTerm_24 : decode b_RB_addTerm 24 = .ok (.getfield 26, 3) := by decide +kernel
theorem d_RB_addTerm_27 : decode b_RB_addTerm 27 = .ok (.iload 6, 2) := by decide +kernel
theorem d_RB_addTerm_29 : decode b_RB_addTerm 29 = .ok (.iload_n 2, 1) := by decide +kernel
theorem d_RB_addTerm_30 : decode b_RB_addTerm 30 = .ok (.iastore, 1) := by decide +kernel
theorem d_RB_addTerm_31 : decode b_RB_addTerm 31 = .ok (.aload_n 0, 1) := by decide +kernel
theorem d_RB_addTerm_32 : decode b_RB_addTerm 32 = .ok (.getfield 29, 3) := by decide +kernel
theorem d_RB_addTerm_35 : decode b_RB_addTerm 35 = .ok (.iload 6, 2) := by decide +kernel
theorem d_RB_addTerm_37 : decode b_RB_addTerm 37 = .ok (.iload_n 3, 1) := by decide +kernel
theorem d_RB_addTerm_38 : decode b_RB_addTerm 38 = .ok (.iastore, 1) := by decide +kernel
theorem d_RB_addTerm_39 : decode b_RB_addTerm 39 = .ok (.aload_n 0, 1) := by decide +kernel
theorem d_RB_addTerm_40 : decode b_RB_addTerm 40 = .ok (.getfield 32, 3) := by decide +kernel
theorem d_RB_addTerm_43 : decode b_RB_addTerm 43 = .ok (.iload 6, 2) := by decide +kernel
theorem d_RB_addTerm_45 : decode b_RB_addTerm 45 = .ok (.iload 4, 2) := by decide +kernel
theorem d_RB_addTerm_47 : decode b_RB_addTerm 47 = .ok (.bastore, 1) := by decide +kernel
theorem d_RB_addTerm_48 : decode b_RB_addTerm 48 = .ok (.aload_n 0, 1) := by decide +kernel
theorem d_RB_addTerm_49 : decode b_RB_addTerm 49 = .ok (.getfield 23, 3) := by decide +kernel
theorem d_RB_addTerm_52 : decode b_RB_addTerm 52 = .ok (.iload_n 1, 1) := by decide +kernel
theorem d_RB_addTerm_53 : decode b_RB_addTerm 53 = .ok (.iload 5, 2) := by decide +kernel
theorem d_RB_addTerm_55 : decode b_RB_addTerm 55 = .ok (.iconst 1, 1) := by decide +kernel
theorem d_RB_addTerm_56 : decode b_RB_addTerm 56 = .ok (.iadd, 1) := by decide +kernel
theorem d_RB_addTerm_57 : decode b_RB_addTerm 57 = .ok (.iastore, 1) := by decide +kernel
theorem d_RB_addTerm_58 : decode b_RB_addTerm 58 = .ok (.aload_n 0, 1) := by decide +kernel
theorem d_RB_addTerm_59 : decode b_RB_addTerm 59 = .ok (.iload_n 1, 1) := by decide +kernel
theorem d_RB_addTerm_60 : decode b_RB_addTerm 60 = .ok (.iconst 2, 1) := by decide +kernel
theorem d_RB_addTerm_61 : decode b_RB_addTerm 61 = .ok (.idiv, 1) := by decide +kernel
theorem d_RB_addTerm_62 : decode b_RB_addTerm 62 = .ok (.iload_n 2, 1) := by decide +kernel
theorem d_RB_addTerm_63 : decode b_RB_addTerm 63 = .ok (.invokevirtual 36, 3) := by decide +kernel
theorem d_RB_addTerm_66 : decode b_RB_addTerm 66 = .ok (.aload_n 0, 1) := by decide +kernel
theorem d_RB_addTerm_67 : decode b_RB_addTerm 67 = .ok (.iload_n 1, 1) := by decide +kernel
theorem d_RB_addTerm_68 : decode b_RB_addTerm 68 = .ok (.iconst 2, 1) := by decide +kernel
theorem d_RB_addTerm_69 : decode b_RB_addTerm 69 = .ok (.idiv, 1) := by decide +kernel
theorem d_RB_addTerm_70 : decode b_RB_addTerm 70 = .ok (.iload_n 3, 1) := by decide +kernel
theorem d_RB_addTerm_71 : decode b_RB_addTerm 71 = .ok (.invokevirtual 36, 3) := by decide +kernel
theorem d_RB_addTerm_74 : decode b_RB_addTerm 74 = .ok (.return_, 1) := by decide +kernel
def y_RB_noteField : MethodName := ⟨cR2, "noteField", "(II)V"⟩
abbrev b_RB_noteField : ByteArray := prog_5_method_5_code
abbrev k_RB_noteField : Cond := .code y_RB_noteField b_RB_noteField 3 none
theorem mc_RB_noteField : MC y_RB_noteField k_RB_noteField b_RB_noteField 3 none [] 2 := ⟨g_in (List.mem_of_getElem? (i := 536) (by decide +kernel)) (by decide +kernel), Or.inl ⟨rfl, rfl⟩, g_in (List.mem_of_getElem? (i := 59) (by decide +kernel)) (by decide +kernel), by decide, by decide +kernel⟩
theorem in_RB_noteField : Cond.instanceMethod y_RB_noteField ∈ g_ws := g_in (List.mem_of_getElem? (i := 535) (by decide +kernel)) (by decide +kernel)
theorem se_RB_noteField : Cond.selects cR2 y_RB_noteField y_RB_noteField ∈ g_ws := g_in (List.mem_of_getElem? (i := 16) (by decide +kernel)) (by decide +kernel)
theorem d_RB_noteField_0 : decode b_RB_noteField 0 = .ok (.iload_n 2, 1) := by decide +kernel
theorem d_RB_noteField_1 : decode b_RB_noteField 1 = .ok (.ifCond .ge 22, 3) := by decide +kernel
theorem d_RB_noteField_4 : decode b_RB_noteField 4 = .ok (.aload_n 0, 1) := by decide +kernel
theorem d_RB_noteField_5 : decode b_RB_noteField 5 = .ok (.getfield 19, 3) := by decide +kernel
theorem d_RB_noteField_8 : decode b_RB_noteField 8 = .ok (.iload_n 1, 1) := by decide +kernel
theorem d_RB_noteField_9 : decode b_RB_noteField 9 = .ok (.aload_n 0, 1) := by decide +kernel
theorem d_RB_noteField_10 : decode b_RB_noteField 10 = .ok (.getfield 19, 3) := by decide +kernel
theorem d_RB_noteField_13 : decode b_RB_noteField 13 = .ok (.iload_n 1, 1) := by decide +kernel
theorem d_RB_noteField_14 : decode b_RB_noteField 14 = .ok (.iaload, 1) := by decide +kernel
theorem d_RB_noteField_15 : decode b_RB_noteField 15 = .ok (.iconst (-1), 1) := by decide +kernel
theorem d_RB_noteField_16 : decode b_RB_noteField 16 = .ok (.iload_n 2, 1) := by decide +kernel
theorem d_RB_noteField_17 : decode b_RB_noteField 17 = .ok (.isub, 1) := by decide +kernel
theorem d_RB_noteField_18 : decode b_RB_noteField 18 = .ok (.iconst 1, 1) := by decide +kernel
theorem d_RB_noteField_19 : decode b_RB_noteField 19 = .ok (.invokestatic 40, 3) := by decide +kernel
theorem d_RB_noteField_22 : decode b_RB_noteField 22 = .ok (.iastore, 1) := by decide +kernel
theorem d_RB_noteField_23 : decode b_RB_noteField 23 = .ok (.return_, 1) := by decide +kernel
def y_RB_faultOf : MethodName := ⟨cR2, "faultOf", "(ILReportChecks2$Report;)I"⟩
abbrev b_RB_faultOf : ByteArray := prog_5_method_6_code
abbrev k_RB_faultOf : Cond := .code y_RB_faultOf b_RB_faultOf 5 (some .int)
theorem mc_RB_faultOf : MC y_RB_faultOf k_RB_faultOf b_RB_faultOf 5 (some .int) [] 2 := ⟨g_in (List.mem_of_getElem? (i := 562) (by decide +kernel)) (by decide +kernel), Or.inl ⟨rfl, rfl⟩, g_in (List.mem_of_getElem? (i := 59) (by decide +kernel)) (by decide +kernel), by decide, by decide +kernel⟩
theorem in_RB_faultOf : Cond.instanceMethod y_RB_faultOf ∈ g_ws := g_in (List.mem_of_getElem? (i := 561) (by decide +kernel)) (by decide +kernel)
theorem se_RB_faultOf : Cond.selects cR2 y_RB_faultOf y_RB_faultOf ∈ g_ws := g_in (List.mem_of_getElem? (i := 20) (by decide +kernel)) (by decide +kernel)
theorem d_RB_faultOf_0 : decode b_RB_faultOf 0 = .ok (.aload_n 0, 1) := by decide +kernel
theorem d_RB_faultOf_1 : decode b_RB_faultOf 1 = .ok (.getfield 19, 3) := by decide +kernel
theorem d_RB_faultOf_4 : decode b_RB_faultOf 4 = .ok (.iload_n 1, 1) := by decide +kernel
theorem d_RB_faultOf_5 : decode b_RB_faultOf 5 = .ok (.iaload, 1) := by decide +kernel
theorem d_RB_faultOf_6 : decode b_RB_faultOf 6 = .ok (.aload_n 2, 1) := by decide +kernel
theorem d_RB_faultOf_7 : decode b_RB_faultOf 7 = .ok (.getfield 44, 3) := by decide +kernel
theorem d_RB_faultOf_10 : decode b_RB_faultOf 10 = .ok (.iconst (-1), 1) := by decide +kernel
theorem d_RB_faultOf_11 : decode b_RB_faultOf 11 = .ok (.ixor, 1) := by decide +kernel
theorem d_RB_faultOf_12 : decode b_RB_faultOf 12 = .ok (.iand, 1) := by decide +kernel
theorem d_RB_faultOf_13 : decode b_RB_faultOf 13 = .ok (.ifCond .eq 5, 3) := by decide +kernel
theorem d_RB_faultOf_16 : decode b_RB_faultOf 16 = .ok (.iconst (-1), 1) := by decide +kernel
theorem d_RB_faultOf_17 : decode b_RB_faultOf 17 = .ok (.ireturn, 1) := by decide +kernel
theorem d_RB_faultOf_18 : decode b_RB_faultOf 18 = .ok (.aload_n 0, 1) := by decide +kernel
theorem d_RB_faultOf_19 : decode b_RB_faultOf 19 = .ok (.iconst 2, 1) := by decide +kernel
theorem d_RB_faultOf_20 : decode b_RB_faultOf 20 = .ok (.iload_n 1, 1) := by decide +kernel
theorem d_RB_faultOf_21 : decode b_RB_faultOf 21 = .ok (.imul, 1) := by decide +kernel
theorem d_RB_faultOf_22 : decode b_RB_faultOf 22 = .ok (.aload_n 2, 1) := by decide +kernel
theorem d_RB_faultOf_23 : decode b_RB_faultOf 23 = .ok (.getfield 49, 3) := by decide +kernel
theorem d_RB_faultOf_26 : decode b_RB_faultOf 26 = .ok (.invokevirtual 52, 3) := by decide +kernel
theorem d_RB_faultOf_29 : decode b_RB_faultOf 29 = .ok (.istore_n 3, 1) := by decide +kernel
theorem d_RB_faultOf_30 : decode b_RB_faultOf 30 = .ok (.aload_n 0, 1) := by decide +kernel
theorem d_RB_faultOf_31 : decode b_RB_faultOf 31 = .ok (.iconst 2, 1) := by decide +kernel
theorem d_RB_faultOf_32 : decode b_RB_faultOf 32 = .ok (.iload_n 1, 1) := by decide +kernel
theorem d_RB_faultOf_33 : decode b_RB_faultOf 33 = .ok (.imul, 1) := by decide +kernel
theorem d_RB_faultOf_34 : decode b_RB_faultOf 34 = .ok (.iconst 1, 1) := by decide +kernel
theorem d_RB_faultOf_35 : decode b_RB_faultOf 35 = .ok (.iadd, 1) := by decide +kernel
theorem d_RB_faultOf_36 : decode b_RB_faultOf 36 = .ok (.aload_n 2, 1) := by decide +kernel
theorem d_RB_faultOf_37 : decode b_RB_faultOf 37 = .ok (.getfield 49, 3) := by decide +kernel
theorem d_RB_faultOf_40 : decode b_RB_faultOf 40 = .ok (.invokevirtual 52, 3) := by decide +kernel
theorem d_RB_faultOf_43 : decode b_RB_faultOf 43 = .ok (.istore 4, 2) := by decide +kernel
theorem d_RB_faultOf_45 : decode b_RB_faultOf 45 = .ok (.iload_n 3, 1) := by decide +kernel
theorem d_RB_faultOf_46 : decode b_RB_faultOf 46 = .ok (.ldc 56, 2) := by decide +kernel
theorem d_RB_faultOf_48 : decode b_RB_faultOf 48 = .ok (.if_icmp .eq 10, 3) := by decide +kernel
theorem d_RB_faultOf_51 : decode b_RB_faultOf 51 = .ok (.iload 4, 2) := by decide +kernel
theorem d_RB_faultOf_53 : decode b_RB_faultOf 53 = .ok (.ldc 56, 2) := by decide +kernel
theorem d_RB_faultOf_55 : decode b_RB_faultOf 55 = .ok (.if_icmp .ne 5, 3) := by decide +kernel
theorem d_RB_faultOf_58 : decode b_RB_faultOf 58 = .ok (.iconst 3, 1) := by decide +kernel
theorem d_RB_faultOf_59 : decode b_RB_faultOf 59 = .ok (.ireturn, 1) := by decide +kernel
theorem d_RB_faultOf_60 : decode b_RB_faultOf 60 = .ok (.aload_n 0, 1) := by decide +kernel
theorem d_RB_faultOf_61 : decode b_RB_faultOf 61 = .ok (.getfield 15, 3) := by decide +kernel
theorem d_RB_faultOf_64 : decode b_RB_faultOf 64 = .ok (.iload_n 1, 1) := by decide +kernel
theorem d_RB_faultOf_65 : decode b_RB_faultOf 65 = .ok (.caload, 1) := by decide +kernel
theorem d_RB_faultOf_66 : decode b_RB_faultOf 66 = .ok (.iload_n 3, 1) := by decide +kernel
theorem d_RB_faultOf_67 : decode b_RB_faultOf 67 = .ok (.iload 4, 2) := by decide +kernel
theorem d_RB_faultOf_69 : decode b_RB_faultOf 69 = .ok (.invokestatic 57, 3) := by decide +kernel
theorem d_RB_faultOf_72 : decode b_RB_faultOf 72 = .ok (.ifCond .eq 7, 3) := by decide +kernel
theorem d_RB_faultOf_75 : decode b_RB_faultOf 75 = .ok (.iconst (-1), 1) := by decide +kernel
theorem d_RB_faultOf_76 : decode b_RB_faultOf 76 = .ok (.goto 4, 3) := by decide +kernel
theorem d_RB_faultOf_79 : decode b_RB_faultOf 79 = .ok (.iconst 2, 1) := by decide +kernel
theorem d_RB_faultOf_80 : decode b_RB_faultOf 80 = .ok (.ireturn, 1) := by decide +kernel
def y_RB_sumOf : MethodName := ⟨cR2, "sumOf", "(I[I)I"⟩
abbrev b_RB_sumOf : ByteArray := prog_5_method_7_code
abbrev k_RB_sumOf : Cond := .code y_RB_sumOf b_RB_sumOf 8 (some .int)
theorem mc_RB_sumOf : MC y_RB_sumOf k_RB_sumOf b_RB_sumOf 8 (some .int) [] 2 := ⟨g_in (List.mem_of_getElem? (i := 566) (by decide +kernel)) (by decide +kernel), Or.inl ⟨rfl, rfl⟩, g_in (List.mem_of_getElem? (i := 59) (by decide +kernel)) (by decide +kernel), by decide, by decide +kernel⟩
theorem in_RB_sumOf : Cond.instanceMethod y_RB_sumOf ∈ g_ws := g_in (List.mem_of_getElem? (i := 565) (by decide +kernel)) (by decide +kernel)
theorem se_RB_sumOf : Cond.selects cR2 y_RB_sumOf y_RB_sumOf ∈ g_ws := g_in (List.mem_of_getElem? (i := 21) (by decide +kernel)) (by decide +kernel)
theorem d_RB_sumOf_0 : decode b_RB_sumOf 0 = .ok (.iconst 0, 1) := by decide +kernel
theorem d_RB_sumOf_1 : decode b_RB_sumOf 1 = .ok (.istore_n 3, 1) := by decide +kernel
theorem d_RB_sumOf_2 : decode b_RB_sumOf 2 = .ok (.iconst 0, 1) := by decide +kernel
theorem d_RB_sumOf_3 : decode b_RB_sumOf 3 = .ok (.istore 4, 2) := by decide +kernel
theorem d_RB_sumOf_5 : decode b_RB_sumOf 5 = .ok (.iload 4, 2) := by decide +kernel
theorem d_RB_sumOf_7 : decode b_RB_sumOf 7 = .ok (.aload_n 0, 1) := by decide +kernel
theorem d_RB_sumOf_8 : decode b_RB_sumOf 8 = .ok (.getfield 23, 3) := by decide +kernel
theorem d_RB_sumOf_11 : decode b_RB_sumOf 11 = .ok (.iload_n 1, 1) := by decide +kernel
theorem d_RB_sumOf_12 : decode b_RB_sumOf 12 = .ok (.iaload, 1) := by decide +kernel
theorem d_RB_sumOf_13 : decode b_RB_sumOf 13 = .ok (.if_icmp .ge 75, 3) := by decide +kernel
theorem d_RB_sumOf_16 : decode b_RB_sumOf 16 = .ok (.iload_n 1, 1) := by decide +kernel
theorem d_RB_sumOf_17 : decode b_RB_sumOf 17 = .ok (.iconst 4, 1) := by decide +kernel
theorem d_RB_sumOf_18 : decode b_RB_sumOf 18 = .ok (.imul, 1) := by decide +kernel
theorem d_RB_sumOf_19 : decode b_RB_sumOf 19 = .ok (.iload 4, 2) := by decide +kernel
theorem d_RB_sumOf_21 : decode b_RB_sumOf 21 = .ok (.iadd, 1) := by decide +kernel
theorem d_RB_sumOf_22 : decode b_RB_sumOf 22 = .ok (.istore 5, 2) := by decide +kernel
theorem d_RB_sumOf_24 : decode b_RB_sumOf 24 = .ok (.aload_n 0, 1) := by decide +kernel
theorem d_RB_sumOf_25 : decode b_RB_sumOf 25 = .ok (.getfield 29, 3) := by decide +kernel
theorem d_RB_sumOf_28 : decode b_RB_sumOf 28 = .ok (.iload 5, 2) := by decide +kernel
theorem d_RB_sumOf_30 : decode b_RB_sumOf 30 = .ok (.iaload, 1) := by decide +kernel
theorem d_RB_sumOf_31 : decode b_RB_sumOf 31 = .ok (.aload_n 2, 1) := by decide +kernel
theorem d_RB_sumOf_32 : decode b_RB_sumOf 32 = .ok (.invokestatic 61, 3) := by decide +kernel
theorem d_RB_sumOf_35 : decode b_RB_sumOf 35 = .ok (.istore 6, 2) := by decide +kernel
theorem d_RB_sumOf_37 : decode b_RB_sumOf 37 = .ok (.iload 6, 2) := by decide +kernel
theorem d_RB_sumOf_39 : decode b_RB_sumOf 39 = .ok (.ifCond .ne 6, 3) := by decide +kernel
theorem d_RB_sumOf_42 : decode b_RB_sumOf 42 = .ok (.ldc 56, 2) := by decide +kernel
theorem d_RB_sumOf_44 : decode b_RB_sumOf 44 = .ok (.ireturn, 1) := by decide +kernel
theorem d_RB_sumOf_45 : decode b_RB_sumOf 45 = .ok (.aload_n 0, 1) := by decide +kernel
theorem d_RB_sumOf_46 : decode b_RB_sumOf 46 = .ok (.getfield 26, 3) := by decide +kernel
theorem d_RB_sumOf_49 : decode b_RB_sumOf 49 = .ok (.iload 5, 2) := by decide +kernel
theorem d_RB_sumOf_51 : decode b_RB_sumOf 51 = .ok (.iaload, 1) := by decide +kernel
theorem d_RB_sumOf_52 : decode b_RB_sumOf 52 = .ok (.aload_n 2, 1) := by decide +kernel
theorem d_RB_sumOf_53 : decode b_RB_sumOf 53 = .ok (.invokestatic 61, 3) := by decide +kernel
theorem d_RB_sumOf_56 : decode b_RB_sumOf 56 = .ok (.iload 6, 2) := by decide +kernel
theorem d_RB_sumOf_58 : decode b_RB_sumOf 58 = .ok (.idiv, 1) := by decide +kernel
theorem d_RB_sumOf_59 : decode b_RB_sumOf 59 = .ok (.istore 7, 2) := by decide +kernel
theorem d_RB_sumOf_61 : decode b_RB_sumOf 61 = .ok (.iload_n 3, 1) := by decide +kernel
theorem d_RB_sumOf_62 : decode b_RB_sumOf 62 = .ok (.aload_n 0, 1) := by decide +kernel
theorem d_RB_sumOf_63 : decode b_RB_sumOf 63 = .ok (.getfield 32, 3) := by decide +kernel
theorem d_RB_sumOf_66 : decode b_RB_sumOf 66 = .ok (.iload 5, 2) := by decide +kernel
theorem d_RB_sumOf_68 : decode b_RB_sumOf 68 = .ok (.baload, 1) := by decide +kernel
theorem d_RB_sumOf_69 : decode b_RB_sumOf 69 = .ok (.ifCond .eq 9, 3) := by decide +kernel
theorem d_RB_sumOf_72 : decode b_RB_sumOf 72 = .ok (.iload 7, 2) := by decide +kernel
theorem d_RB_sumOf_74 : decode b_RB_sumOf 74 = .ok (.ineg, 1) := by decide +kernel
theorem d_RB_sumOf_75 : decode b_RB_sumOf 75 = .ok (.goto 5, 3) := by decide +kernel
theorem d_RB_sumOf_78 : decode b_RB_sumOf 78 = .ok (.iload 7, 2) := by decide +kernel
theorem d_RB_sumOf_80 : decode b_RB_sumOf 80 = .ok (.iadd, 1) := by decide +kernel
theorem d_RB_sumOf_81 : decode b_RB_sumOf 81 = .ok (.istore_n 3, 1) := by decide +kernel
theorem d_RB_sumOf_82 : decode b_RB_sumOf 82 = .ok (.iinc 4 1, 3) := by decide +kernel
theorem d_RB_sumOf_85 : decode b_RB_sumOf 85 = .ok (.goto (-80), 3) := by decide +kernel
theorem d_RB_sumOf_88 : decode b_RB_sumOf 88 = .ok (.iload_n 3, 1) := by decide +kernel
theorem d_RB_sumOf_89 : decode b_RB_sumOf 89 = .ok (.ireturn, 1) := by decide +kernel
def y_RB_factorOf : MethodName := ⟨cR2, "factorOf", "(I[I)I"⟩
abbrev b_RB_factorOf : ByteArray := prog_5_method_8_code
abbrev k_RB_factorOf : Cond := .code y_RB_factorOf b_RB_factorOf 3 (some .int)
theorem mc_RB_factorOf : MC y_RB_factorOf k_RB_factorOf b_RB_factorOf 3 (some .int) [] 2 := ⟨g_in (List.mem_of_getElem? (i := 569) (by decide +kernel)) (by decide +kernel), Or.inl ⟨rfl, rfl⟩, g_in (List.mem_of_getElem? (i := 59) (by decide +kernel)) (by decide +kernel), by decide, by decide +kernel⟩
theorem st_RB_factorOf : Cond.static y_RB_factorOf ∈ g_ws := g_in (List.mem_of_getElem? (i := 568) (by decide +kernel)) (by decide +kernel)
theorem d_RB_factorOf_0 : decode b_RB_factorOf 0 = .ok (.iconst (-1), 1) := by decide +kernel
theorem d_RB_factorOf_1 : decode b_RB_factorOf 1 = .ok (.iload_n 0, 1) := by decide +kernel
theorem d_RB_factorOf_2 : decode b_RB_factorOf 2 = .ok (.isub, 1) := by decide +kernel
theorem d_RB_factorOf_3 : decode b_RB_factorOf 3 = .ok (.istore_n 2, 1) := by decide +kernel
theorem d_RB_factorOf_4 : decode b_RB_factorOf 4 = .ok (.iload_n 2, 1) := by decide +kernel
theorem d_RB_factorOf_5 : decode b_RB_factorOf 5 = .ok (.ifCond .lt 15, 3) := by decide +kernel
theorem d_RB_factorOf_8 : decode b_RB_factorOf 8 = .ok (.iload_n 2, 1) := by decide +kernel
theorem d_RB_factorOf_9 : decode b_RB_factorOf 9 = .ok (.aload_n 1, 1) := by decide +kernel
theorem d_RB_factorOf_10 : decode b_RB_factorOf 10 = .ok (.arraylength, 1) := by decide +kernel
theorem d_RB_factorOf_11 : decode b_RB_factorOf 11 = .ok (.if_icmp .ge 9, 3) := by decide +kernel
theorem d_RB_factorOf_14 : decode b_RB_factorOf 14 = .ok (.aload_n 1, 1) := by decide +kernel
theorem d_RB_factorOf_15 : decode b_RB_factorOf 15 = .ok (.iload_n 2, 1) := by decide +kernel
theorem d_RB_factorOf_16 : decode b_RB_factorOf 16 = .ok (.iaload, 1) := by decide +kernel
theorem d_RB_factorOf_17 : decode b_RB_factorOf 17 = .ok (.goto 4, 3) := by decide +kernel
theorem d_RB_factorOf_20 : decode b_RB_factorOf 20 = .ok (.iload_n 0, 1) := by decide +kernel
theorem d_RB_factorOf_21 : decode b_RB_factorOf 21 = .ok (.ireturn, 1) := by decide +kernel
def y_RB_holds : MethodName := ⟨cR2, "holds", "(CII)Z"⟩
abbrev b_RB_holds : ByteArray := prog_5_method_9_code
abbrev k_RB_holds : Cond := .code y_RB_holds b_RB_holds 3 (some .boolean)
theorem mc_RB_holds : MC y_RB_holds k_RB_holds b_RB_holds 3 (some .boolean) [] 3 := ⟨g_in (List.mem_of_getElem? (i := 573) (by decide +kernel)) (by decide +kernel), Or.inl ⟨rfl, rfl⟩, g_in (List.mem_of_getElem? (i := 59) (by decide +kernel)) (by decide +kernel), by decide, by decide +kernel⟩
theorem st_RB_holds : Cond.static y_RB_holds ∈ g_ws := g_in (List.mem_of_getElem? (i := 572) (by decide +kernel)) (by decide +kernel)
theorem d_RB_holds_0 : decode b_RB_holds 0 = .ok (.iload_n 0, 1) := by decide +kernel
theorem d_RB_holds_1 : decode b_RB_holds 1 = .ok (.lookupswitch 49 #[(60, 27), (61, 38)], 27) := by decide +kernel
theorem d_RB_holds_28 : decode b_RB_holds 28 = .ok (.iload_n 1, 1) := by decide +kernel
theorem d_RB_holds_29 : decode b_RB_holds 29 = .ok (.iload_n 2, 1) := by decide +kernel
theorem d_RB_holds_30 : decode b_RB_holds 30 = .ok (.if_icmp .ge 7, 3) := by decide +kernel
theorem d_RB_holds_33 : decode b_RB_holds 33 = .ok (.iconst 1, 1) := by decide +kernel
theorem d_RB_holds_34 : decode b_RB_holds 34 = .ok (.goto 4, 3) := by decide +kernel
theorem d_RB_holds_37 : decode b_RB_holds 37 = .ok (.iconst 0, 1) := by decide +kernel
theorem d_RB_holds_38 : decode b_RB_holds 38 = .ok (.ireturn, 1) := by decide +kernel
theorem d_RB_holds_39 : decode b_RB_holds 39 = .ok (.iload_n 1, 1) := by decide +kernel
theorem d_RB_holds_40 : decode b_RB_holds 40 = .ok (.iload_n 2, 1) := by decide +kernel
theorem d_RB_holds_41 : decode b_RB_holds 41 = .ok (.if_icmp .ne 7, 3) := by decide +kernel
theorem d_RB_holds_44 : decode b_RB_holds 44 = .ok (.iconst 1, 1) := by decide +kernel
theorem d_RB_holds_45 : decode b_RB_holds 45 = .ok (.goto 4, 3) := by decide +kernel
theorem d_RB_holds_48 : decode b_RB_holds 48 = .ok (.iconst 0, 1) := by decide +kernel
theorem d_RB_holds_49 : decode b_RB_holds 49 = .ok (.ireturn, 1) := by decide +kernel
theorem d_RB_holds_50 : decode b_RB_holds 50 = .ok (.iload_n 1, 1) := by decide +kernel
theorem d_RB_holds_51 : decode b_RB_holds 51 = .ok (.iload_n 2, 1) := by decide +kernel
theorem d_RB_holds_52 : decode b_RB_holds 52 = .ok (.if_icmp .gt 7, 3) := by decide +kernel
theorem d_RB_holds_55 : decode b_RB_holds 55 = .ok (.iconst 1, 1) := by decide +kernel
theorem d_RB_holds_56 : decode b_RB_holds 56 = .ok (.goto 4, 3) := by decide +kernel
theorem d_RB_holds_59 : decode b_RB_holds 59 = .ok (.iconst 0, 1) := by decide +kernel
theorem d_RB_holds_60 : decode b_RB_holds 60 = .ok (.ireturn, 1) := by decide +kernel
/-! ===== methods of FN: printed by program ===== -/
def y_FN_init : MethodName := ⟨cR3, "<init>", "()V"⟩
abbrev b_FN_init : ByteArray := prog_3_method_1_code
abbrev k_FN_init : Cond := .code y_FN_init b_FN_init 1 none
theorem mc_FN_init : MC y_FN_init k_FN_init b_FN_init 1 none [] 0 := ⟨g_in (List.mem_of_getElem? (i := 139) (by decide +kernel)) (by decide +kernel), Or.inl ⟨rfl, rfl⟩, g_in (List.mem_of_getElem? (i := 60) (by decide +kernel)) (by decide +kernel), by decide, by decide +kernel⟩
theorem in_FN_init : Cond.instanceMethod y_FN_init ∈ g_ws := g_in (List.mem_of_getElem? (i := 138) (by decide +kernel)) (by decide +kernel)
theorem d_FN_init_0 : decode b_FN_init 0 = .ok (.aload_n 0, 1) := by decide +kernel
theorem d_FN_init_1 : decode b_FN_init 1 = .ok (.invokespecial 3, 3) := by decide +kernel
theorem d_FN_init_4 : decode b_FN_init 4 = .ok (.aload_n 0, 1) := by decide +kernel
theorem d_FN_init_5 : decode b_FN_init 5 = .ok (.bipush 40, 2) := by decide +kernel
theorem d_FN_init_7 : decode b_FN_init 7 = .ok (.newarray .int, 2) := by decide +kernel
theorem d_FN_init_9 : decode b_FN_init 9 = .ok (.putfield 9, 3) := by decide +kernel
theorem d_FN_init_12 : decode b_FN_init 12 = .ok (.aload_n 0, 1) := by decide +kernel
theorem d_FN_init_13 : decode b_FN_init 13 = .ok (.bipush 40, 2) := by decide +kernel
theorem d_FN_init_15 : decode b_FN_init 15 = .ok (.newarray .int, 2) := by decide +kernel
theorem d_FN_init_17 : decode b_FN_init 17 = .ok (.putfield 15, 3) := by decide +kernel
theorem d_FN_init_20 : decode b_FN_init 20 = .ok (.aload_n 0, 1) := by decide +kernel
theorem d_FN_init_21 : decode b_FN_init 21 = .ok (.iconst 0, 1) := by decide +kernel
theorem d_FN_init_22 : decode b_FN_init 22 = .ok (.putfield 18, 3) := by decide +kernel
theorem d_FN_init_25 : decode b_FN_init 25 = .ok (.return_, 1) := by decide +kernel
def y_FN_add : MethodName := ⟨cR3, "add", "(II)V"⟩
abbrev b_FN_add : ByteArray := prog_3_method_2_code
abbrev k_FN_add : Cond := .code y_FN_add b_FN_add 3 none
theorem mc_FN_add : MC y_FN_add k_FN_add b_FN_add 3 none [] 2 := ⟨g_in (List.mem_of_getElem? (i := 558) (by decide +kernel)) (by decide +kernel), Or.inl ⟨rfl, rfl⟩, g_in (List.mem_of_getElem? (i := 60) (by decide +kernel)) (by decide +kernel), by decide, by decide +kernel⟩
theorem in_FN_add : Cond.instanceMethod y_FN_add ∈ g_ws := g_in (List.mem_of_getElem? (i := 557) (by decide +kernel)) (by decide +kernel)
theorem se_FN_add : Cond.selects cR3 y_FN_add y_FN_add ∈ g_ws := g_in (List.mem_of_getElem? (i := 19) (by decide +kernel)) (by decide +kernel)
theorem d_FN_add_0 : decode b_FN_add 0 = .ok (.aload_n 0, 1) := by decide +kernel
theorem d_FN_add_1 : decode b_FN_add 1 = .ok (.getfield 18, 3) := by decide +kernel
theorem d_FN_add_4 : decode b_FN_add 4 = .ok (.aload_n 0, 1) := by decide +kernel
theorem d_FN_add_5 : decode b_FN_add 5 = .ok (.getfield 9, 3) := by decide +kernel
theorem d_FN_add_8 : decode b_FN_add 8 = .ok (.arraylength, 1) := by decide +kernel
theorem d_FN_add_9 : decode b_FN_add 9 = .ok (.if_icmp .ge 45, 3) := by decide +kernel
theorem d_FN_add_12 : decode b_FN_add 12 = .ok (.aload_n 0, 1) := by decide +kernel
theorem d_FN_add_13 : decode b_FN_add 13 = .ok (.getfield 18, 3) := by decide +kernel
theorem d_FN_add_16 : decode b_FN_add 16 = .ok (.aload_n 0, 1) := by decide +kernel
theorem d_FN_add_17 : decode b_FN_add 17 = .ok (.getfield 15, 3) := by decide +kernel
theorem d_FN_add_20 : decode b_FN_add 20 = .ok (.arraylength, 1) := by decide +kernel
theorem d_FN_add_21 : decode b_FN_add 21 = .ok (.if_icmp .ge 33, 3) := by decide +kernel
theorem d_FN_add_24 : decode b_FN_add 24 = .ok (.aload_n 0, 1) := by decide +kernel
theorem d_FN_add_25 : decode b_FN_add 25 = .ok (.getfield 9, 3) := by decide +kernel
theorem d_FN_add_28 : decode b_FN_add 28 = .ok (.aload_n 0, 1) := by decide +kernel
theorem d_FN_add_29 : decode b_FN_add 29 = .ok (.getfield 18, 3) := by decide +kernel
theorem d_FN_add_32 : decode b_FN_add 32 = .ok (.iload_n 1, 1) := by decide +kernel
theorem d_FN_add_33 : decode b_FN_add 33 = .ok (.iastore, 1) := by decide +kernel
theorem d_FN_add_34 : decode b_FN_add 34 = .ok (.aload_n 0, 1) := by decide +kernel
theorem d_FN_add_35 : decode b_FN_add 35 = .ok (.getfield 15, 3) := by decide +kernel
theorem d_FN_add_38 : decode b_FN_add 38 = .ok (.aload_n 0, 1) := by decide +kernel
theorem d_FN_add_39 : decode b_FN_add 39 = .ok (.getfield 18, 3) := by decide +kernel
theorem d_FN_add_42 : decode b_FN_add 42 = .ok (.iload_n 2, 1) := by decide +kernel
theorem d_FN_add_43 : decode b_FN_add 43 = .ok (.iastore, 1) := by decide +kernel
theorem d_FN_add_44 : decode b_FN_add 44 = .ok (.aload_n 0, 1) := by decide +kernel
theorem d_FN_add_45 : decode b_FN_add 45 = .ok (.dup, 1) := by decide +kernel
theorem d_FN_add_46 : decode b_FN_add 46 = .ok (.getfield 18, 3) := by decide +kernel
theorem d_FN_add_49 : decode b_FN_add 49 = .ok (.iconst 1, 1) := by decide +kernel
theorem d_FN_add_50 : decode b_FN_add 50 = .ok (.iadd, 1) := by decide +kernel
theorem d_FN_add_51 : decode b_FN_add 51 = .ok (.putfield 18, 3) := by decide +kernel
theorem d_FN_add_54 : decode b_FN_add 54 = .ok (.return_, 1) := by decide +kernel
