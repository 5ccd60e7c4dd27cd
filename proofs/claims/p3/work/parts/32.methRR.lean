/-! ===== methods of RR: printed by program ===== -/
def y_RR_init : MethodName := ⟨cR1, "<init>", "([B)V"⟩
abbrev b_RR_init : ByteArray := prog_6_method_1_code
abbrev k_RR_init : Cond := .code y_RR_init b_RR_init 2 none
theorem mc_RR_init : MC y_RR_init k_RR_init b_RR_init 2 none [] 1 := ⟨g_in (List.mem_of_getElem? (i := 88) (by decide +kernel)) (by decide +kernel), Or.inl ⟨rfl, rfl⟩, g_in (List.mem_of_getElem? (i := 58) (by decide +kernel)) (by decide +kernel), by decide, by decide +kernel⟩
theorem in_RR_init : Cond.instanceMethod y_RR_init ∈ g_ws := g_in (List.mem_of_getElem? (i := 87) (by decide +kernel)) (by decide +kernel)
theorem d_RR_init_0 : decode b_RR_init 0 = .ok (.aload_n 0, 1) := by decide +kernel
theorem d_RR_init_1 : decode b_RR_init 1 = .ok (.invokespecial 3, 3) := by decide +kernel
theorem d_RR_init_4 : decode b_RR_init 4 = .ok (.aload_n 0, 1) := by decide +kernel
theorem d_RR_init_5 : decode b_RR_init 5 = .ok (.iconst 0, 1) := by decide +kernel
theorem d_RR_init_6 : decode b_RR_init 6 = .ok (.putfield 9, 3) := by decide +kernel
theorem d_RR_init_9 : decode b_RR_init 9 = .ok (.aload_n 0, 1) := by decide +kernel
theorem d_RR_init_10 : decode b_RR_init 10 = .ok (.iconst 0, 1) := by decide +kernel
theorem d_RR_init_11 : decode b_RR_init 11 = .ok (.putfield 15, 3) := by decide +kernel
theorem d_RR_init_14 : decode b_RR_init 14 = .ok (.aload_n 0, 1) := by decide +kernel
theorem d_RR_init_15 : decode b_RR_init 15 = .ok (.aload_n 1, 1) := by decide +kernel
theorem d_RR_init_16 : decode b_RR_init 16 = .ok (.putfield 18, 3) := by decide +kernel
theorem d_RR_init_19 : decode b_RR_init 19 = .ok (.return_, 1) := by decide +kernel
def y_RR_readInto : MethodName := ⟨cR1, "readInto", "(LReportChecks2$RuleBook;I)I"⟩
abbrev b_RR_readInto : ByteArray := prog_6_method_2_code
abbrev k_RR_readInto : Cond := .code y_RR_readInto b_RR_readInto 4 (some .int)
theorem mc_RR_readInto : MC y_RR_readInto k_RR_readInto b_RR_readInto 4 (some .int) [] 2 := ⟨g_in (List.mem_of_getElem? (i := 492) (by decide +kernel)) (by decide +kernel), Or.inl ⟨rfl, rfl⟩, g_in (List.mem_of_getElem? (i := 58) (by decide +kernel)) (by decide +kernel), by decide, by decide +kernel⟩
theorem in_RR_readInto : Cond.instanceMethod y_RR_readInto ∈ g_ws := g_in (List.mem_of_getElem? (i := 491) (by decide +kernel)) (by decide +kernel)
theorem se_RR_readInto : Cond.selects cR1 y_RR_readInto y_RR_readInto ∈ g_ws := g_in (List.mem_of_getElem? (i := 7) (by decide +kernel)) (by decide +kernel)
theorem d_RR_readInto_0 : decode b_RR_readInto 0 = .ok (.aload_n 0, 1) := by decide +kernel
theorem d_RR_readInto_1 : decode b_RR_readInto 1 = .ok (.iload_n 2, 1) := by decide +kernel
theorem d_RR_readInto_2 : decode b_RR_readInto 2 = .ok (.aload_n 0, 1) := by decide +kernel
theorem d_RR_readInto_3 : decode b_RR_readInto 3 = .ok (.getfield 18, 3) := by decide +kernel
theorem d_RR_readInto_6 : decode b_RR_readInto 6 = .ok (.arraylength, 1) := by decide +kernel
theorem d_RR_readInto_7 : decode b_RR_readInto 7 = .ok (.invokestatic 22, 3) := by decide +kernel
theorem d_RR_readInto_10 : decode b_RR_readInto 10 = .ok (.putfield 9, 3) := by decide +kernel
theorem d_RR_readInto_13 : decode b_RR_readInto 13 = .ok (.aload_n 0, 1) := by decide +kernel
theorem d_RR_readInto_14 : decode b_RR_readInto 14 = .ok (.iconst 0, 1) := by decide +kernel
theorem d_RR_readInto_15 : decode b_RR_readInto 15 = .ok (.putfield 15, 3) := by decide +kernel
theorem d_RR_readInto_18 : decode b_RR_readInto 18 = .ok (.aload_n 1, 1) := by decide +kernel
theorem d_RR_readInto_19 : decode b_RR_readInto 19 = .ok (.iconst 0, 1) := by decide +kernel
theorem d_RR_readInto_20 : decode b_RR_readInto 20 = .ok (.putfield 28, 3) := by decide +kernel
theorem d_RR_readInto_23 : decode b_RR_readInto 23 = .ok (.aload_n 0, 1) := by decide +kernel
theorem d_RR_readInto_24 : decode b_RR_readInto 24 = .ok (.invokevirtual 33, 3) := by decide +kernel
theorem d_RR_readInto_27 : decode b_RR_readInto 27 = .ok (.iconst 0, 1) := by decide +kernel
theorem d_RR_readInto_28 : decode b_RR_readInto 28 = .ok (.istore_n 3, 1) := by decide +kernel
theorem d_RR_readInto_29 : decode b_RR_readInto 29 = .ok (.aload_n 0, 1) := by decide +kernel
theorem d_RR_readInto_30 : decode b_RR_readInto 30 = .ok (.getfield 15, 3) := by decide +kernel
theorem d_RR_readInto_33 : decode b_RR_readInto 33 = .ok (.aload_n 0, 1) := by decide +kernel
theorem d_RR_readInto_34 : decode b_RR_readInto 34 = .ok (.getfield 9, 3) := by decide +kernel
theorem d_RR_readInto_37 : decode b_RR_readInto 37 = .ok (.if_icmp .ge 83, 3) := by decide +kernel
theorem d_RR_readInto_40 : decode b_RR_readInto 40 = .ok (.iload_n 3, 1) := by decide +kernel
theorem d_RR_readInto_41 : decode b_RR_readInto 41 = .ok (.bipush 20, 2) := by decide +kernel
theorem d_RR_readInto_43 : decode b_RR_readInto 43 = .ok (.if_icmp .lt 8, 3) := by decide +kernel
theorem d_RR_readInto_46 : decode b_RR_readInto 46 = .ok (.aload_n 0, 1) := by decide +kernel
theorem d_RR_readInto_47 : decode b_RR_readInto 47 = .ok (.getfield 15, 3) := by decide +kernel
theorem d_RR_readInto_50 : decode b_RR_readInto 50 = .ok (.ireturn, 1) := by decide +kernel
theorem d_RR_readInto_51 : decode b_RR_readInto 51 = .ok (.aload_n 1, 1) := by decide +kernel
theorem d_RR_readInto_52 : decode b_RR_readInto 52 = .ok (.iload_n 3, 1) := by decide +kernel
theorem d_RR_readInto_53 : decode b_RR_readInto 53 = .ok (.invokevirtual 36, 3) := by decide +kernel
theorem d_RR_readInto_56 : decode b_RR_readInto 56 = .ok (.aload_n 0, 1) := by decide +kernel
theorem d_RR_readInto_57 : decode b_RR_readInto 57 = .ok (.aload_n 1, 1) := by decide +kernel
theorem d_RR_readInto_58 : decode b_RR_readInto 58 = .ok (.iconst 2, 1) := by decide +kernel
theorem d_RR_readInto_59 : decode b_RR_readInto 59 = .ok (.iload_n 3, 1) := by decide +kernel
theorem d_RR_readInto_60 : decode b_RR_readInto 60 = .ok (.imul, 1) := by decide +kernel
theorem d_RR_readInto_61 : decode b_RR_readInto 61 = .ok (.invokevirtual 40, 3) := by decide +kernel
theorem d_RR_readInto_64 : decode b_RR_readInto 64 = .ok (.ifCond .eq 34, 3) := by decide +kernel
theorem d_RR_readInto_67 : decode b_RR_readInto 67 = .ok (.aload_n 0, 1) := by decide +kernel
theorem d_RR_readInto_68 : decode b_RR_readInto 68 = .ok (.aload_n 1, 1) := by decide +kernel
theorem d_RR_readInto_69 : decode b_RR_readInto 69 = .ok (.iload_n 3, 1) := by decide +kernel
theorem d_RR_readInto_70 : decode b_RR_readInto 70 = .ok (.invokevirtual 44, 3) := by decide +kernel
theorem d_RR_readInto_73 : decode b_RR_readInto 73 = .ok (.ifCond .eq 25, 3) := by decide +kernel
theorem d_RR_readInto_76 : decode b_RR_readInto 76 = .ok (.aload_n 0, 1) := by decide +kernel
theorem d_RR_readInto_77 : decode b_RR_readInto 77 = .ok (.aload_n 1, 1) := by decide +kernel
theorem d_RR_readInto_78 : decode b_RR_readInto 78 = .ok (.iconst 2, 1) := by decide +kernel
theorem d_RR_readInto_79 : decode b_RR_readInto 79 = .ok (.iload_n 3, 1) := by decide +kernel
theorem d_RR_readInto_80 : decode b_RR_readInto 80 = .ok (.imul, 1) := by decide +kernel
theorem d_RR_readInto_81 : decode b_RR_readInto 81 = .ok (.iconst 1, 1) := by decide +kernel
theorem d_RR_readInto_82 : decode b_RR_readInto 82 = .ok (.iadd, 1) := by decide +kernel
theorem d_RR_readInto_83 : decode b_RR_readInto 83 = .ok (.invokevirtual 40, 3) := by decide +kernel
theorem d_RR_readInto_86 : decode b_RR_readInto 86 = .ok (.ifCond .eq 12, 3) := by decide +kernel
theorem d_RR_readInto_89 : decode b_RR_readInto 89 = .ok (.aload_n 0, 1) := by decide +kernel
theorem d_RR_readInto_90 : decode b_RR_readInto 90 = .ok (.bipush 59, 2) := by decide +kernel
theorem d_RR_readInto_92 : decode b_RR_readInto 92 = .ok (.invokevirtual 47, 3) := by decide +kernel
theorem d_RR_readInto_95 : decode b_RR_readInto 95 = .ok (.ifCond .ne 8, 3) := by decide +kernel
theorem d_RR_readInto_98 : decode b_RR_readInto 98 = .ok (.aload_n 0, 1) := by decide +kernel
theorem d_RR_readInto_99 : decode b_RR_readInto 99 = .ok (.getfield 15, 3) := by decide +kernel
theorem d_RR_readInto_102 : decode b_RR_readInto 102 = .ok (.ireturn, 1) := by decide +kernel
theorem d_RR_readInto_103 : decode b_RR_readInto 103 = .ok (.aload_n 1, 1) := by decide +kernel
theorem d_RR_readInto_104 : decode b_RR_readInto 104 = .ok (.iload_n 3, 1) := by decide +kernel
theorem d_RR_readInto_105 : decode b_RR_readInto 105 = .ok (.iconst 1, 1) := by decide +kernel
theorem d_RR_readInto_106 : decode b_RR_readInto 106 = .ok (.iadd, 1) := by decide +kernel
theorem d_RR_readInto_107 : decode b_RR_readInto 107 = .ok (.putfield 28, 3) := by decide +kernel
theorem d_RR_readInto_110 : decode b_RR_readInto 110 = .ok (.aload_n 0, 1) := by decide +kernel
theorem d_RR_readInto_111 : decode b_RR_readInto 111 = .ok (.invokevirtual 33, 3) := by decide +kernel
theorem d_RR_readInto_114 : decode b_RR_readInto 114 = .ok (.iinc 3 1, 3) := by decide +kernel
theorem d_RR_readInto_117 : decode b_RR_readInto 117 = .ok (.goto (-88), 3) := by decide +kernel
theorem d_RR_readInto_120 : decode b_RR_readInto 120 = .ok (.iconst (-1), 1) := by decide +kernel
theorem d_RR_readInto_121 : decode b_RR_readInto 121 = .ok (.ireturn, 1) := by decide +kernel
def y_RR_readComparison : MethodName := ⟨cR1, "readComparison", "(LReportChecks2$RuleBook;I)Z"⟩
abbrev b_RR_readComparison : ByteArray := prog_6_method_3_code
abbrev k_RR_readComparison : Cond := .code y_RR_readComparison b_RR_readComparison 3 (some .boolean)
theorem mc_RR_readComparison : MC y_RR_readComparison k_RR_readComparison b_RR_readComparison 3 (some .boolean) [] 2 := ⟨g_in (List.mem_of_getElem? (i := 541) (by decide +kernel)) (by decide +kernel), Or.inl ⟨rfl, rfl⟩, g_in (List.mem_of_getElem? (i := 58) (by decide +kernel)) (by decide +kernel), by decide, by decide +kernel⟩
theorem in_RR_readComparison : Cond.instanceMethod y_RR_readComparison ∈ g_ws := g_in (List.mem_of_getElem? (i := 540) (by decide +kernel)) (by decide +kernel)
theorem se_RR_readComparison : Cond.selects cR1 y_RR_readComparison y_RR_readComparison ∈ g_ws := g_in (List.mem_of_getElem? (i := 17) (by decide +kernel)) (by decide +kernel)
theorem d_RR_readComparison_0 : decode b_RR_readComparison 0 = .ok (.aload_n 0, 1) := by decide +kernel
theorem d_RR_readComparison_1 : decode b_RR_readComparison 1 = .ok (.bipush 60, 2) := by decide +kernel
theorem d_RR_readComparison_3 : decode b_RR_readComparison 3 = .ok (.invokevirtual 47, 3) := by decide +kernel
theorem d_RR_readComparison_6 : decode b_RR_readComparison 6 = .ok (.ifCond .eq 14, 3) := by decide +kernel
theorem d_RR_readComparison_9 : decode b_RR_readComparison 9 = .ok (.aload_n 1, 1) := by decide +kernel
theorem d_RR_readComparison_10 : decode b_RR_readComparison 10 = .ok (.getfield 51, 3) := by decide +kernel
theorem d_RR_readComparison_13 : decode b_RR_readComparison 13 = .ok (.iload_n 2, 1) := by decide +kernel
theorem d_RR_readComparison_14 : decode b_RR_readComparison 14 = .ok (.bipush 60, 2) := by decide +kernel
theorem d_RR_readComparison_16 : decode b_RR_readComparison 16 = .ok (.castore, 1) := by decide +kernel
theorem d_RR_readComparison_17 : decode b_RR_readComparison 17 = .ok (.goto 45, 3) := by decide +kernel
theorem d_RR_readComparison_20 : decode b_RR_readComparison 20 = .ok (.aload_n 0, 1) := by decide +kernel
theorem d_RR_readComparison_21 : decode b_RR_readComparison 21 = .ok (.bipush 61, 2) := by decide +kernel
theorem d_RR_readComparison_23 : decode b_RR_readComparison 23 = .ok (.invokevirtual 47, 3) := by decide +kernel
theorem d_RR_readComparison_26 : decode b_RR_readComparison 26 = .ok (.ifCond .eq 14, 3) := by decide +kernel
theorem d_RR_readComparison_29 : decode b_RR_readComparison 29 = .ok (.aload_n 1, 1) := by decide +kernel
theorem d_RR_readComparison_30 : decode b_RR_readComparison 30 = .ok (.getfield 51, 3) := by decide +kernel
theorem d_RR_readComparison_33 : decode b_RR_readComparison 33 = .ok (.iload_n 2, 1) := by decide +kernel
theorem d_RR_readComparison_34 : decode b_RR_readComparison 34 = .ok (.bipush 61, 2) := by decide +kernel
theorem d_RR_readComparison_36 : decode b_RR_readComparison 36 = .ok (.castore, 1) := by decide +kernel
theorem d_RR_readComparison_37 : decode b_RR_readComparison 37 = .ok (.goto 25, 3) := by decide +kernel
theorem d_RR_readComparison_40 : decode b_RR_readComparison 40 = .ok (.aload_n 0, 1) := by decide +kernel
theorem d_RR_readComparison_41 : decode b_RR_readComparison 41 = .ok (.bipush 33, 2) := by decide +kernel
theorem d_RR_readComparison_43 : decode b_RR_readComparison 43 = .ok (.invokevirtual 47, 3) := by decide +kernel
theorem d_RR_readComparison_46 : decode b_RR_readComparison 46 = .ok (.ifCond .eq 14, 3) := by decide +kernel
theorem d_RR_readComparison_49 : decode b_RR_readComparison 49 = .ok (.aload_n 1, 1) := by decide +kernel
theorem d_RR_readComparison_50 : decode b_RR_readComparison 50 = .ok (.getfield 51, 3) := by decide +kernel
theorem d_RR_readComparison_53 : decode b_RR_readComparison 53 = .ok (.iload_n 2, 1) := by decide +kernel
theorem d_RR_readComparison_54 : decode b_RR_readComparison 54 = .ok (.bipush 33, 2) := by decide +kernel
theorem d_RR_readComparison_56 : decode b_RR_readComparison 56 = .ok (.castore, 1) := by decide +kernel
theorem d_RR_readComparison_57 : decode b_RR_readComparison 57 = .ok (.goto 5, 3) := by decide +kernel
theorem d_RR_readComparison_60 : decode b_RR_readComparison 60 = .ok (.iconst 0, 1) := by decide +kernel
theorem d_RR_readComparison_61 : decode b_RR_readComparison 61 = .ok (.ireturn, 1) := by decide +kernel
theorem d_RR_readComparison_62 : decode b_RR_readComparison 62 = .ok (.iconst 1, 1) := by decide +kernel
theorem d_RR_readComparison_63 : decode b_RR_readComparison 63 = .ok (.ireturn, 1) := by decide +kernel
def y_RR_readSum : MethodName := ⟨cR1, "readSum", "(LReportChecks2$RuleBook;I)Z"⟩
abbrev b_RR_readSum : ByteArray := prog_6_method_4_code
abbrev k_RR_readSum : Cond := .code y_RR_readSum b_RR_readSum 5 (some .boolean)
theorem mc_RR_readSum : MC y_RR_readSum k_RR_readSum b_RR_readSum 5 (some .boolean) [] 2 := ⟨g_in (List.mem_of_getElem? (i := 507) (by decide +kernel)) (by decide +kernel), Or.inl ⟨rfl, rfl⟩, g_in (List.mem_of_getElem? (i := 58) (by decide +kernel)) (by decide +kernel), by decide, by decide +kernel⟩
theorem in_RR_readSum : Cond.instanceMethod y_RR_readSum ∈ g_ws := g_in (List.mem_of_getElem? (i := 506) (by decide +kernel)) (by decide +kernel)
theorem se_RR_readSum : Cond.selects cR1 y_RR_readSum y_RR_readSum ∈ g_ws := g_in (List.mem_of_getElem? (i := 10) (by decide +kernel)) (by decide +kernel)
theorem d_RR_readSum_0 : decode b_RR_readSum 0 = .ok (.iconst 0, 1) := by decide +kernel
theorem d_RR_readSum_1 : decode b_RR_readSum 1 = .ok (.istore_n 3, 1) := by decide +kernel
theorem d_RR_readSum_2 : decode b_RR_readSum 2 = .ok (.iconst 1, 1) := by decide +kernel
theorem d_RR_readSum_3 : decode b_RR_readSum 3 = .ok (.istore 4, 2) := by decide +kernel
theorem d_RR_readSum_5 : decode b_RR_readSum 5 = .ok (.iload 4, 2) := by decide +kernel
theorem d_RR_readSum_7 : decode b_RR_readSum 7 = .ok (.iconst 4, 1) := by decide +kernel
theorem d_RR_readSum_8 : decode b_RR_readSum 8 = .ok (.if_icmp .gt 49, 3) := by decide +kernel
theorem d_RR_readSum_11 : decode b_RR_readSum 11 = .ok (.aload_n 0, 1) := by decide +kernel
theorem d_RR_readSum_12 : decode b_RR_readSum 12 = .ok (.aload_n 1, 1) := by decide +kernel
theorem d_RR_readSum_13 : decode b_RR_readSum 13 = .ok (.iload_n 2, 1) := by decide +kernel
theorem d_RR_readSum_14 : decode b_RR_readSum 14 = .ok (.iload_n 3, 1) := by decide +kernel
theorem d_RR_readSum_15 : decode b_RR_readSum 15 = .ok (.invokevirtual 55, 3) := by decide +kernel
theorem d_RR_readSum_18 : decode b_RR_readSum 18 = .ok (.ifCond .ne 5, 3) := by decide +kernel
theorem d_RR_readSum_21 : decode b_RR_readSum 21 = .ok (.iconst 0, 1) := by decide +kernel
theorem d_RR_readSum_22 : decode b_RR_readSum 22 = .ok (.ireturn, 1) := by decide +kernel
theorem d_RR_readSum_23 : decode b_RR_readSum 23 = .ok (.iload 4, 2) := by decide +kernel
theorem d_RR_readSum_25 : decode b_RR_readSum 25 = .ok (.iconst 4, 1) := by decide +kernel
theorem d_RR_readSum_26 : decode b_RR_readSum 26 = .ok (.if_icmp .ge 25, 3) := by decide +kernel
theorem d_RR_readSum_29 : decode b_RR_readSum 29 = .ok (.aload_n 0, 1) := by decide +kernel
theorem d_RR_readSum_30 : decode b_RR_readSum 30 = .ok (.bipush 45, 2) := by decide +kernel
theorem d_RR_readSum_32 : decode b_RR_readSum 32 = .ok (.invokevirtual 47, 3) := by decide +kernel
theorem d_RR_readSum_35 : decode b_RR_readSum 35 = .ok (.istore_n 3, 1) := by decide +kernel
theorem d_RR_readSum_36 : decode b_RR_readSum 36 = .ok (.iload_n 3, 1) := by decide +kernel
theorem d_RR_readSum_37 : decode b_RR_readSum 37 = .ok (.ifCond .ne 14, 3) := by decide +kernel
theorem d_RR_readSum_40 : decode b_RR_readSum 40 = .ok (.aload_n 0, 1) := by decide +kernel
theorem d_RR_readSum_41 : decode b_RR_readSum 41 = .ok (.bipush 43, 2) := by decide +kernel
theorem d_RR_readSum_43 : decode b_RR_readSum 43 = .ok (.invokevirtual 47, 3) := by decide +kernel
theorem d_RR_readSum_46 : decode b_RR_readSum 46 = .ok (.ifCond .ne 5, 3) := by decide +kernel
theorem d_RR_readSum_49 : decode b_RR_readSum 49 = .ok (.iconst 1, 1) := by decide +kernel
theorem d_RR_readSum_50 : decode b_RR_readSum 50 = .ok (.ireturn, 1) := by decide +kernel
theorem d_RR_readSum_51 : decode b_RR_readSum 51 = .ok (.iinc 4 1, 3) := by decide +kernel
theorem d_RR_readSum_54 : decode b_RR_readSum 54 = .ok (.goto (-49), 3) := by decide +kernel
theorem d_RR_readSum_57 : decode b_RR_readSum 57 = .ok (.iconst 1, 1) := by decide +kernel
theorem d_RR_readSum_58 : decode b_RR_readSum 58 = .ok (.ireturn, 1) := by decide +kernel
def y_RR_readTerm : MethodName := ⟨cR1, "readTerm", "(LReportChecks2$RuleBook;IZ)Z"⟩
abbrev b_RR_readTerm : ByteArray := prog_6_method_5_code
abbrev k_RR_readTerm : Cond := .code y_RR_readTerm b_RR_readTerm 6 (some .boolean)
theorem mc_RR_readTerm : MC y_RR_readTerm k_RR_readTerm b_RR_readTerm 6 (some .boolean) [] 3 := ⟨g_in (List.mem_of_getElem? (i := 511) (by decide +kernel)) (by decide +kernel), Or.inl ⟨rfl, rfl⟩, g_in (List.mem_of_getElem? (i := 58) (by decide +kernel)) (by decide +kernel), by decide, by decide +kernel⟩
theorem in_RR_readTerm : Cond.instanceMethod y_RR_readTerm ∈ g_ws := g_in (List.mem_of_getElem? (i := 510) (by decide +kernel)) (by decide +kernel)
theorem se_RR_readTerm : Cond.selects cR1 y_RR_readTerm y_RR_readTerm ∈ g_ws := g_in (List.mem_of_getElem? (i := 11) (by decide +kernel)) (by decide +kernel)
theorem d_RR_readTerm_0 : decode b_RR_readTerm 0 = .ok (.aload_n 0, 1) := by decide +kernel
theorem d_RR_readTerm_1 : decode b_RR_readTerm 1 = .ok (.invokevirtual 59, 3) := by decide +kernel
theorem d_RR_readTerm_4 : decode b_RR_readTerm 4 = .ok (.istore 4, 2) := by decide +kernel
theorem d_RR_readTerm_6 : decode b_RR_readTerm 6 = .ok (.iload 4, 2) := by decide +kernel
theorem d_RR_readTerm_8 : decode b_RR_readTerm 8 = .ok (.ldc 63, 2) := by decide +kernel
theorem d_RR_readTerm_10 : decode b_RR_readTerm 10 = .ok (.if_icmp .ne 5, 3) := by decide +kernel
theorem d_RR_readTerm_13 : decode b_RR_readTerm 13 = .ok (.iconst 0, 1) := by decide +kernel
theorem d_RR_readTerm_14 : decode b_RR_readTerm 14 = .ok (.ireturn, 1) := by decide +kernel
theorem d_RR_readTerm_15 : decode b_RR_readTerm 15 = .ok (.aload_n 0, 1) := by decide +kernel
theorem d_RR_readTerm_16 : decode b_RR_readTerm 16 = .ok (.bipush 47, 2) := by decide +kernel
theorem d_RR_readTerm_18 : decode b_RR_readTerm 18 = .ok (.invokevirtual 47, 3) := by decide +kernel
theorem d_RR_readTerm_21 : decode b_RR_readTerm 21 = .ok (.ifCond .eq 10, 3) := by decide +kernel
theorem d_RR_readTerm_24 : decode b_RR_readTerm 24 = .ok (.aload_n 0, 1) := by decide +kernel
theorem d_RR_readTerm_25 : decode b_RR_readTerm 25 = .ok (.invokevirtual 59, 3) := by decide +kernel
theorem d_RR_readTerm_28 : decode b_RR_readTerm 28 = .ok (.goto 4, 3) := by decide +kernel
theorem d_RR_readTerm_31 : decode b_RR_readTerm 31 = .ok (.iconst 1, 1) := by decide +kernel
theorem d_RR_readTerm_32 : decode b_RR_readTerm 32 = .ok (.istore 5, 2) := by decide +kernel
theorem d_RR_readTerm_34 : decode b_RR_readTerm 34 = .ok (.iload 5, 2) := by decide +kernel
theorem d_RR_readTerm_36 : decode b_RR_readTerm 36 = .ok (.ldc 63, 2) := by decide +kernel
theorem d_RR_readTerm_38 : decode b_RR_readTerm 38 = .ok (.if_icmp .ne 5, 3) := by decide +kernel
theorem d_RR_readTerm_41 : decode b_RR_readTerm 41 = .ok (.iconst 0, 1) := by decide +kernel
theorem d_RR_readTerm_42 : decode b_RR_readTerm 42 = .ok (.ireturn, 1) := by decide +kernel
theorem d_RR_readTerm_43 : decode b_RR_readTerm 43 = .ok (.aload_n 1, 1) := by decide +kernel
theorem d_RR_readTerm_44 : decode b_RR_readTerm 44 = .ok (.iload_n 2, 1) := by decide +kernel
theorem d_RR_readTerm_45 : decode b_RR_readTerm 45 = .ok (.iload 4, 2) := by decide +kernel
theorem d_RR_readTerm_47 : decode b_RR_readTerm 47 = .ok (.iload 5, 2) := by decide +kernel
theorem d_RR_readTerm_49 : decode b_RR_readTerm 49 = .ok (.iload_n 3, 1) := by decide +kernel
theorem d_RR_readTerm_50 : decode b_RR_readTerm 50 = .ok (.invokevirtual 64, 3) := by decide +kernel
theorem d_RR_readTerm_53 : decode b_RR_readTerm 53 = .ok (.iconst 1, 1) := by decide +kernel
theorem d_RR_readTerm_54 : decode b_RR_readTerm 54 = .ok (.ireturn, 1) := by decide +kernel
def y_RR_readFactor : MethodName := ⟨cR1, "readFactor", "()I"⟩
abbrev b_RR_readFactor : ByteArray := prog_6_method_6_code
abbrev k_RR_readFactor : Cond := .code y_RR_readFactor b_RR_readFactor 3 (some .int)
theorem mc_RR_readFactor : MC y_RR_readFactor k_RR_readFactor b_RR_readFactor 3 (some .int) [] 0 := ⟨g_in (List.mem_of_getElem? (i := 515) (by decide +kernel)) (by decide +kernel), Or.inl ⟨rfl, rfl⟩, g_in (List.mem_of_getElem? (i := 58) (by decide +kernel)) (by decide +kernel), by decide, by decide +kernel⟩
theorem in_RR_readFactor : Cond.instanceMethod y_RR_readFactor ∈ g_ws := g_in (List.mem_of_getElem? (i := 514) (by decide +kernel)) (by decide +kernel)
theorem se_RR_readFactor : Cond.selects cR1 y_RR_readFactor y_RR_readFactor ∈ g_ws := g_in (List.mem_of_getElem? (i := 12) (by decide +kernel)) (by decide +kernel)
theorem d_RR_readFactor_0 : decode b_RR_readFactor 0 = .ok (.aload_n 0, 1) := by decide +kernel
theorem d_RR_readFactor_1 : decode b_RR_readFactor 1 = .ok (.bipush 102, 2) := by decide +kernel
theorem d_RR_readFactor_3 : decode b_RR_readFactor 3 = .ok (.invokevirtual 47, 3) := by decide +kernel
theorem d_RR_readFactor_6 : decode b_RR_readFactor 6 = .ok (.istore_n 1, 1) := by decide +kernel
theorem d_RR_readFactor_7 : decode b_RR_readFactor 7 = .ok (.aload_n 0, 1) := by decide +kernel
theorem d_RR_readFactor_8 : decode b_RR_readFactor 8 = .ok (.invokevirtual 33, 3) := by decide +kernel
theorem d_RR_readFactor_11 : decode b_RR_readFactor 11 = .ok (.aload_n 0, 1) := by decide +kernel
theorem d_RR_readFactor_12 : decode b_RR_readFactor 12 = .ok (.iload_n 1, 1) := by decide +kernel
theorem d_RR_readFactor_13 : decode b_RR_readFactor 13 = .ok (.ifCond .eq 8, 3) := by decide +kernel
theorem d_RR_readFactor_16 : decode b_RR_readFactor 16 = .ok (.bipush 19, 2) := by decide +kernel
theorem d_RR_readFactor_18 : decode b_RR_readFactor 18 = .ok (.goto 5, 3) := by decide +kernel
theorem d_RR_readFactor_21 : decode b_RR_readFactor 21 = .ok (.ldc 68, 2) := by decide +kernel
theorem d_RR_readFactor_23 : decode b_RR_readFactor 23 = .ok (.invokevirtual 69, 3) := by decide +kernel
theorem d_RR_readFactor_26 : decode b_RR_readFactor 26 = .ok (.istore_n 2, 1) := by decide +kernel
theorem d_RR_readFactor_27 : decode b_RR_readFactor 27 = .ok (.iload_n 1, 1) := by decide +kernel
theorem d_RR_readFactor_28 : decode b_RR_readFactor 28 = .ok (.ifCond .eq 16, 3) := by decide +kernel
theorem d_RR_readFactor_31 : decode b_RR_readFactor 31 = .ok (.iload_n 2, 1) := by decide +kernel
theorem d_RR_readFactor_32 : decode b_RR_readFactor 32 = .ok (.ldc 63, 2) := by decide +kernel
theorem d_RR_readFactor_34 : decode b_RR_readFactor 34 = .ok (.if_icmp .eq 10, 3) := by decide +kernel
theorem d_RR_readFactor_37 : decode b_RR_readFactor 37 = .ok (.iload_n 2, 1) := by decide +kernel
theorem d_RR_readFactor_38 : decode b_RR_readFactor 38 = .ok (.invokestatic 73, 3) := by decide +kernel
theorem d_RR_readFactor_41 : decode b_RR_readFactor 41 = .ok (.goto 4, 3) := by decide +kernel
theorem d_RR_readFactor_44 : decode b_RR_readFactor 44 = .ok (.iload_n 2, 1) := by decide +kernel
theorem d_RR_readFactor_45 : decode b_RR_readFactor 45 = .ok (.ireturn, 1) := by decide +kernel
def y_RR_readNumber : MethodName := ⟨cR1, "readNumber", "(I)I"⟩
abbrev b_RR_readNumber : ByteArray := prog_6_method_7_code
abbrev k_RR_readNumber : Cond := .code y_RR_readNumber b_RR_readNumber 5 (some .int)
theorem mc_RR_readNumber : MC y_RR_readNumber k_RR_readNumber b_RR_readNumber 5 (some .int) [] 1 := ⟨g_in (List.mem_of_getElem? (i := 524) (by decide +kernel)) (by decide +kernel), Or.inl ⟨rfl, rfl⟩, g_in (List.mem_of_getElem? (i := 58) (by decide +kernel)) (by decide +kernel), by decide, by decide +kernel⟩
theorem in_RR_readNumber : Cond.instanceMethod y_RR_readNumber ∈ g_ws := g_in (List.mem_of_getElem? (i := 523) (by decide +kernel)) (by decide +kernel)
theorem se_RR_readNumber : Cond.selects cR1 y_RR_readNumber y_RR_readNumber ∈ g_ws := g_in (List.mem_of_getElem? (i := 14) (by decide +kernel)) (by decide +kernel)
theorem d_RR_readNumber_0 : decode b_RR_readNumber 0 = .ok (.ldc 63, 2) := by decide +kernel
theorem d_RR_readNumber_2 : decode b_RR_readNumber 2 = .ok (.istore_n 2, 1) := by decide +kernel
theorem d_RR_readNumber_3 : decode b_RR_readNumber 3 = .ok (.aload_n 0, 1) := by decide +kernel
theorem d_RR_readNumber_4 : decode b_RR_readNumber 4 = .ok (.getfield 15, 3) := by decide +kernel
theorem d_RR_readNumber_7 : decode b_RR_readNumber 7 = .ok (.aload_n 0, 1) := by decide +kernel
theorem d_RR_readNumber_8 : decode b_RR_readNumber 8 = .ok (.getfield 9, 3) := by decide +kernel
theorem d_RR_readNumber_11 : decode b_RR_readNumber 11 = .ok (.if_icmp .ge 75, 3) := by decide +kernel
theorem d_RR_readNumber_14 : decode b_RR_readNumber 14 = .ok (.aload_n 0, 1) := by decide +kernel
theorem d_RR_readNumber_15 : decode b_RR_readNumber 15 = .ok (.getfield 18, 3) := by decide +kernel
theorem d_RR_readNumber_18 : decode b_RR_readNumber 18 = .ok (.aload_n 0, 1) := by decide +kernel
theorem d_RR_readNumber_19 : decode b_RR_readNumber 19 = .ok (.getfield 15, 3) := by decide +kernel
theorem d_RR_readNumber_22 : decode b_RR_readNumber 22 = .ok (.baload, 1) := by decide +kernel
theorem d_RR_readNumber_23 : decode b_RR_readNumber 23 = .ok (.bipush 48, 2) := by decide +kernel
theorem d_RR_readNumber_25 : decode b_RR_readNumber 25 = .ok (.isub, 1) := by decide +kernel
theorem d_RR_readNumber_26 : decode b_RR_readNumber 26 = .ok (.istore_n 3, 1) := by decide +kernel
theorem d_RR_readNumber_27 : decode b_RR_readNumber 27 = .ok (.iload_n 3, 1) := by decide +kernel
theorem d_RR_readNumber_28 : decode b_RR_readNumber 28 = .ok (.ifCond .lt 9, 3) := by decide +kernel
theorem d_RR_readNumber_31 : decode b_RR_readNumber 31 = .ok (.iload_n 3, 1) := by decide +kernel
theorem d_RR_readNumber_32 : decode b_RR_readNumber 32 = .ok (.bipush 9, 2) := by decide +kernel
theorem d_RR_readNumber_34 : decode b_RR_readNumber 34 = .ok (.if_icmp .le 5, 3) := by decide +kernel
theorem d_RR_readNumber_37 : decode b_RR_readNumber 37 = .ok (.iload_n 2, 1) := by decide +kernel
theorem d_RR_readNumber_38 : decode b_RR_readNumber 38 = .ok (.ireturn, 1) := by decide +kernel
theorem d_RR_readNumber_39 : decode b_RR_readNumber 39 = .ok (.iload_n 2, 1) := by decide +kernel
theorem d_RR_readNumber_40 : decode b_RR_readNumber 40 = .ok (.ldc 63, 2) := by decide +kernel
theorem d_RR_readNumber_42 : decode b_RR_readNumber 42 = .ok (.if_icmp .ne 7, 3) := by decide +kernel
theorem d_RR_readNumber_45 : decode b_RR_readNumber 45 = .ok (.iload_n 3, 1) := by decide +kernel
theorem d_RR_readNumber_46 : decode b_RR_readNumber 46 = .ok (.goto 9, 3) := by decide +kernel
theorem d_RR_readNumber_49 : decode b_RR_readNumber 49 = .ok (.bipush 10, 2) := by decide +kernel
theorem d_RR_readNumber_51 : decode b_RR_readNumber 51 = .ok (.iload_n 2, 1) := by decide +kernel
theorem d_RR_readNumber_52 : decode b_RR_readNumber 52 = .ok (.imul, 1) := by decide +kernel
theorem d_RR_readNumber_53 : decode b_RR_readNumber 53 = .ok (.iload_n 3, 1) := by decide +kernel
theorem d_RR_readNumber_54 : decode b_RR_readNumber 54 = .ok (.iadd, 1) := by decide +kernel
theorem d_RR_readNumber_55 : decode b_RR_readNumber 55 = .ok (.istore 4, 2) := by decide +kernel
theorem d_RR_readNumber_57 : decode b_RR_readNumber 57 = .ok (.iload_n 2, 1) := by decide +kernel
theorem d_RR_readNumber_58 : decode b_RR_readNumber 58 = .ok (.ifCond .eq 9, 3) := by decide +kernel
theorem d_RR_readNumber_61 : decode b_RR_readNumber 61 = .ok (.iload 4, 2) := by decide +kernel
theorem d_RR_readNumber_63 : decode b_RR_readNumber 63 = .ok (.iload_n 1, 1) := by decide +kernel
theorem d_RR_readNumber_64 : decode b_RR_readNumber 64 = .ok (.if_icmp .le 6, 3) := by decide +kernel
theorem d_RR_readNumber_67 : decode b_RR_readNumber 67 = .ok (.ldc 63, 2) := by decide +kernel
theorem d_RR_readNumber_69 : decode b_RR_readNumber 69 = .ok (.ireturn, 1) := by decide +kernel
theorem d_RR_readNumber_70 : decode b_RR_readNumber 70 = .ok (.iload 4, 2) := by decide +kernel
theorem d_RR_readNumber_72 : decode b_RR_readNumber 72 = .ok (.istore_n 2, 1) := by decide +kernel
theorem d_RR_readNumber_73 : decode b_RR_readNumber 73 = .ok (.aload_n 0, 1) := by decide +kernel
theorem d_RR_readNumber_74 : decode b_RR_readNumber 74 = .ok (.dup, 1) := by decide +kernel
theorem d_RR_readNumber_75 : decode b_RR_readNumber 75 = .ok (.getfield 15, 3) := by decide +kernel
theorem d_RR_readNumber_78 : decode b_RR_readNumber 78 = .ok (.iconst 1, 1) := by decide +kernel
theorem d_RR_readNumber_79 : decode b_RR_readNumber 79 = .ok (.iadd, 1) := by decide +kernel
theorem d_RR_readNumber_80 : decode b_RR_readNumber 80 = .ok (.putfield 15, 3) := by decide +kernel
theorem d_RR_readNumber_83 : decode b_RR_readNumber 83 = .ok (.goto (-80), 3) := by decide +kernel
theorem d_RR_readNumber_86 : decode b_RR_readNumber 86 = .ok (.iload_n 2, 1) := by decide +kernel
theorem d_RR_readNumber_87 : decode b_RR_readNumber 87 = .ok (.ireturn, 1) := by decide +kernel
def y_RR_passes : MethodName := ⟨cR1, "passes", "(C)Z"⟩
abbrev b_RR_passes : ByteArray := prog_6_method_8_code
abbrev k_RR_passes : Cond := .code y_RR_passes b_RR_passes 2 (some .boolean)
theorem mc_RR_passes : MC y_RR_passes k_RR_passes b_RR_passes 2 (some .boolean) [] 1 := ⟨g_in (List.mem_of_getElem? (i := 519) (by decide +kernel)) (by decide +kernel), Or.inl ⟨rfl, rfl⟩, g_in (List.mem_of_getElem? (i := 58) (by decide +kernel)) (by decide +kernel), by decide, by decide +kernel⟩
theorem in_RR_passes : Cond.instanceMethod y_RR_passes ∈ g_ws := g_in (List.mem_of_getElem? (i := 518) (by decide +kernel)) (by decide +kernel)
theorem se_RR_passes : Cond.selects cR1 y_RR_passes y_RR_passes ∈ g_ws := g_in (List.mem_of_getElem? (i := 13) (by decide +kernel)) (by decide +kernel)
theorem d_RR_passes_0 : decode b_RR_passes 0 = .ok (.aload_n 0, 1) := by decide +kernel
theorem d_RR_passes_1 : decode b_RR_passes 1 = .ok (.invokevirtual 33, 3) := by decide +kernel
theorem d_RR_passes_4 : decode b_RR_passes 4 = .ok (.aload_n 0, 1) := by decide +kernel
theorem d_RR_passes_5 : decode b_RR_passes 5 = .ok (.getfield 15, 3) := by decide +kernel
theorem d_RR_passes_8 : decode b_RR_passes 8 = .ok (.aload_n 0, 1) := by decide +kernel
theorem d_RR_passes_9 : decode b_RR_passes 9 = .ok (.getfield 9, 3) := by decide +kernel
theorem d_RR_passes_12 : decode b_RR_passes 12 = .ok (.if_icmp .ge 16, 3) := by decide +kernel
theorem d_RR_passes_15 : decode b_RR_passes 15 = .ok (.aload_n 0, 1) := by decide +kernel
theorem d_RR_passes_16 : decode b_RR_passes 16 = .ok (.getfield 18, 3) := by decide +kernel
theorem d_RR_passes_19 : decode b_RR_passes 19 = .ok (.aload_n 0, 1) := by decide +kernel
theorem d_RR_passes_20 : decode b_RR_passes 20 = .ok (.getfield 15, 3) := by decide +kernel
theorem d_RR_passes_23 : decode b_RR_passes 23 = .ok (.baload, 1) := by decide +kernel
theorem d_RR_passes_24 : decode b_RR_passes 24 = .ok (.iload_n 1, 1) := by decide +kernel
theorem d_RR_passes_25 : decode b_RR_passes 25 = .ok (.if_icmp .eq 5, 3) := by decide +kernel
theorem d_RR_passes_28 : decode b_RR_passes 28 = .ok (.iconst 0, 1) := by decide +kernel
theorem d_RR_passes_29 : decode b_RR_passes 29 = .ok (.ireturn, 1) := by decide +kernel
theorem d_RR_passes_30 : decode b_RR_passes 30 = .ok (.aload_n 0, 1) := by decide +kernel
theorem d_RR_passes_31 : decode b_RR_passes 31 = .ok (.dup, 1) := by decide +kernel
theorem d_RR_passes_32 : decode b_RR_passes 32 = .ok (.getfield 15, 3) := by decide +kernel
theorem d_RR_passes_35 : decode b_RR_passes 35 = .ok (.iconst 1, 1) := by decide +kernel
theorem d_RR_passes_36 : decode b_RR_passes 36 = .ok (.iadd, 1) := by decide +kernel
theorem d_RR_passes_37 : decode b_RR_passes 37 = .ok (.putfield 15, 3) := by decide +kernel
theorem d_RR_passes_40 : decode b_RR_passes 40 = .ok (.iconst 1, 1) := by decide +kernel
theorem d_RR_passes_41 : decode b_RR_passes 41 = .ok (.ireturn, 1) := by decide +kernel
def y_RR_skipBlanks : MethodName := ⟨cR1, "skipBlanks", "()V"⟩
abbrev b_RR_skipBlanks : ByteArray := prog_6_method_9_code
abbrev k_RR_skipBlanks : Cond := .code y_RR_skipBlanks b_RR_skipBlanks 1 none
theorem mc_RR_skipBlanks : MC y_RR_skipBlanks k_RR_skipBlanks b_RR_skipBlanks 1 none [] 0 := ⟨g_in (List.mem_of_getElem? (i := 499) (by decide +kernel)) (by decide +kernel), Or.inl ⟨rfl, rfl⟩, g_in (List.mem_of_getElem? (i := 58) (by decide +kernel)) (by decide +kernel), by decide, by decide +kernel⟩
theorem in_RR_skipBlanks : Cond.instanceMethod y_RR_skipBlanks ∈ g_ws := g_in (List.mem_of_getElem? (i := 498) (by decide +kernel)) (by decide +kernel)
theorem se_RR_skipBlanks : Cond.selects cR1 y_RR_skipBlanks y_RR_skipBlanks ∈ g_ws := g_in (List.mem_of_getElem? (i := 8) (by decide +kernel)) (by decide +kernel)
theorem d_RR_skipBlanks_0 : decode b_RR_skipBlanks 0 = .ok (.aload_n 0, 1) := by decide +kernel
theorem d_RR_skipBlanks_1 : decode b_RR_skipBlanks 1 = .ok (.getfield 15, 3) := by decide +kernel
theorem d_RR_skipBlanks_4 : decode b_RR_skipBlanks 4 = .ok (.aload_n 0, 1) := by decide +kernel
theorem d_RR_skipBlanks_5 : decode b_RR_skipBlanks 5 = .ok (.getfield 9, 3) := by decide +kernel
theorem d_RR_skipBlanks_8 : decode b_RR_skipBlanks 8 = .ok (.if_icmp .ge 30, 3) := by decide +kernel
theorem d_RR_skipBlanks_11 : decode b_RR_skipBlanks 11 = .ok (.aload_n 0, 1) := by decide +kernel
theorem d_RR_skipBlanks_12 : decode b_RR_skipBlanks 12 = .ok (.getfield 18, 3) := by decide +kernel
theorem d_RR_skipBlanks_15 : decode b_RR_skipBlanks 15 = .ok (.aload_n 0, 1) := by decide +kernel
theorem d_RR_skipBlanks_16 : decode b_RR_skipBlanks 16 = .ok (.getfield 15, 3) := by decide +kernel
theorem d_RR_skipBlanks_19 : decode b_RR_skipBlanks 19 = .ok (.baload, 1) := by decide +kernel
theorem d_RR_skipBlanks_20 : decode b_RR_skipBlanks 20 = .ok (.bipush 32, 2) := by decide +kernel
theorem d_RR_skipBlanks_22 : decode b_RR_skipBlanks 22 = .ok (.if_icmp .ne 16, 3) := by decide +kernel
theorem d_RR_skipBlanks_25 : decode b_RR_skipBlanks 25 = .ok (.aload_n 0, 1) := by decide +kernel
theorem d_RR_skipBlanks_26 : decode b_RR_skipBlanks 26 = .ok (.dup, 1) := by decide +kernel
theorem d_RR_skipBlanks_27 : decode b_RR_skipBlanks 27 = .ok (.getfield 15, 3) := by decide +kernel
theorem d_RR_skipBlanks_30 : decode b_RR_skipBlanks 30 = .ok (.iconst 1, 1) := by decide +kernel
theorem d_RR_skipBlanks_31 : decode b_RR_skipBlanks 31 = .ok (.iadd, 1) := by decide +kernel
theorem d_RR_skipBlanks_32 : decode b_RR_skipBlanks 32 = .ok (.putfield 15, 3) := by decide +kernel
theorem d_RR_skipBlanks_35 : decode b_RR_skipBlanks 35 = .ok (.goto (-35), 3) := by decide +kernel
theorem d_RR_skipBlanks_38 : decode b_RR_skipBlanks 38 = .ok (.return_, 1) := by decide +kernel
