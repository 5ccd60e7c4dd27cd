/-! ===== methods of RB: printed by program ===== -/
def y_RB_init : MethodName := ⟨cR2, "<init>", "()V"⟩
abbrev b_RB_init : ByteArray := prog_5_method_1_code
abbrev k_RB_init : Cond := .code y_RB_init b_RB_init 1 none
theorem mc_RB_init : MC y_RB_init k_RB_init b_RB_init 1 none [] 0 := ⟨g_in (List.mem_of_getElem? (i := 106) (by decide +kernel)) (by decide +kernel), Or.inl ⟨rfl, rfl⟩, g_in (List.mem_of_getElem? (i := 59) (by decide +kernel)) (by decide +kernel), by decide, by decide +kernel⟩
theorem in_RB_init : Cond.instanceMethod y_RB_init ∈ g_ws := g_in (List.mem_of_getElem? (i := 105) (by decide +kernel)) (by decide +kernel)
theorem d_RB_init_0 : decode b_RB_init 0 = .ok (.aload_n 0, 1) := by decide +kernel
theorem d_RB_init_1 : decode b_RB_init 1 = .ok (.invokespecial 3, 3) := by decide +kernel
theorem d_RB_init_4 : decode b_RB_init 4 = .ok (.aload_n 0, 1) := by decide +kernel
theorem d_RB_init_5 : decode b_RB_init 5 = .ok (.iconst 0, 1) := by decide +kernel
theorem d_RB_init_6 : decode b_RB_init 6 = .ok (.putfield 9, 3) := by decide +kernel
theorem d_RB_init_9 : decode b_RB_init 9 = .ok (.aload_n 0, 1) := by decide +kernel
theorem d_RB_init_10 : decode b_RB_init 10 = .ok (.bipush 20, 2) := by decide +kernel
theorem d_RB_init_12 : decode b_RB_init 12 = .ok (.newarray .char, 2) := by decide +kernel
theorem d_RB_init_14 : decode b_RB_init 14 = .ok (.putfield 15, 3) := by decide +kernel
theorem d_RB_init_17 : decode b_RB_init 17 = .ok (.aload_n 0, 1) := by decide +kernel
theorem d_RB_init_18 : decode b_RB_init 18 = .ok (.bipush 20, 2) := by decide +kernel
theorem d_RB_init_20 : decode b_RB_init 20 = .ok (.newarray .int, 2) := by decide +kernel
theorem d_RB_init_22 : decode b_RB_init 22 = .ok (.putfield 19, 3) := by decide +kernel
theorem d_RB_init_25 : decode b_RB_init 25 = .ok (.aload_n 0, 1) := by decide +kernel
theorem d_RB_init_26 : decode b_RB_init 26 = .ok (.bipush 40, 2) := by decide +kernel
theorem d_RB_init_28 : decode b_RB_init 28 = .ok (.newarray .int, 2) := by decide +kernel
theorem d_RB_init_30 : decode b_RB_init 30 = .ok (.putfield 23, 3) := by decide +kernel
theorem d_RB_init_33 : decode b_RB_init 33 = .ok (.aload_n 0, 1) := by decide +kernel
theorem d_RB_init_34 : decode b_RB_init 34 = .ok (.sipush 160, 3) := by decide +kernel
theorem d_RB_init_37 : decode b_RB_init 37 = .ok (.newarray .int, 2) := by decide +kernel
theorem d_RB_init_39 : decode b_RB_init 39 = .ok (.putfield 26, 3) := by decide +kernel
theorem d_RB_init_42 : decode b_RB_init 42 = .ok (.aload_n 0, 1) := by decide +kernel
theorem d_RB_init_43 : decode b_RB_init 43 = .ok (.sipush 160, 3) := by decide +kernel
theorem d_RB_init_46 : decode b_RB_init 46 = .ok (.newarray .int, 2) := by decide +kernel
theorem d_RB_init_48 : decode b_RB_init 48 = .ok (.putfield 29, 3) := by decide +kernel
theorem d_RB_init_51 : decode b_RB_init 51 = .ok (.aload_n 0, 1) := by decide +kernel
theorem d_RB_init_52 : decode b_RB_init 52 = .ok (.sipush 160, 3) := by decide +kernel
theorem d_RB_init_55 : decode b_RB_init 55 = .ok (.newarray .boolean, 2) := by decide +kernel
theorem d_RB_init_57 : decode b_RB_init 57 = .ok (.putfield 32, 3) := by decide +kernel
theorem d_RB_init_60 : decode b_RB_init 60 = .ok (.return_, 1) := by decide +kernel
def y_RB_factorOfField : MethodName := ⟨cR2, "factorOfField", "(I)I"⟩
abbrev b_RB_factorOfField : ByteArray := prog_5_method_2_code
abbrev k_RB_factorOfField : Cond := .code y_RB_factorOfField b_RB_factorOfField 1 (some .int)
theorem mc_RB_factorOfField : MC y_RB_factorOfField k_RB_factorOfField b_RB_factorOfField 1 (some .int) [] 1 := ⟨g_in (List.mem_of_getElem? (i := 528) (by decide +kernel)) (by decide +kernel), Or.inl ⟨rfl, rfl⟩, g_in (List.mem_of_getElem? (i := 59) (by decide +kernel)) (by decide +kernel), by decide, by decide +kernel⟩
theorem st_RB_factorOfField : Cond.static y_RB_factorOfField ∈ g_ws := g_in (List.mem_of_getElem? (i := 527) (by decide +kernel)) (by decide +kernel)
theorem d_RB_factorOfField_0 : decode b_RB_factorOfField 0 = .ok (.iconst (-1), 1) := by decide +kernel
theorem d_RB_factorOfField_1 : decode b_RB_factorOfField 1 = .ok (.iload_n 0, 1) := by decide +kernel
theorem d_RB_factorOfField_2 : decode b_RB_factorOfField 2 = .ok (.isub, 1) := by decide +kernel
theorem d_RB_factorOfField_3 : decode b_RB_factorOfField 3 = .ok (.ireturn, 1) := by decide +kernel
def y_RB_startRule : MethodName := ⟨cR2, "startRule", "(I)V"⟩
abbrev b_RB_startRule : ByteArray := prog_5_method_3_code
abbrev k_RB_startRule : Cond := .code y_RB_startRule b_RB_startRule 2 none
theorem mc_RB_startRule : MC y_RB_startRule k_RB_startRule b_RB_startRule 2 none [] 1 := ⟨g_in (List.mem_of_getElem? (i := 503) (by decide +kernel)) (by decide +kernel), Or.inl ⟨rfl, rfl⟩, g_in (List.mem_of_getElem? (i := 59) (by decide +kernel)) (by decide +kernel), by decide, by decide +kernel⟩
theorem in_RB_startRule : Cond.instanceMethod y_RB_startRule ∈ g_ws := g_in (List.mem_of_getElem? (i := 502) (by decide +kernel)) (by decide +kernel)
theorem se_RB_startRule : Cond.selects cR2 y_RB_startRule y_RB_startRule ∈ g_ws := g_in (List.mem_of_getElem? (i := 9) (by decide +kernel)) (by decide +kernel)
theorem d_RB_startRule_0 : decode b_RB_startRule 0 = .ok (.aload_n 0, 1) := by decide +kernel
theorem d_RB_startRule_1 : decode b_RB_startRule 1 = .ok (.getfield 19, 3) := by decide +kernel
theorem d_RB_startRule_4 : decode b_RB_startRule 4 = .ok (.iload_n 1, 1) := by decide +kernel
theorem d_RB_startRule_5 : decode b_RB_startRule 5 = .ok (.iconst 0, 1) := by decide +kernel
theorem d_RB_startRule_6 : decode b_RB_startRule 6 = .ok (.iastore, 1) := by decide +kernel
theorem d_RB_startRule_7 : decode b_RB_startRule 7 = .ok (.aload_n 0, 1) := by decide +kernel
theorem d_RB_startRule_8 : decode b_RB_startRule 8 = .ok (.getfield 23, 3) := by decide +kernel
theorem d_RB_startRule_11 : decode b_RB_startRule 11 = .ok (.iconst 2, 1) := by decide +kernel
theorem d_RB_startRule_12 : decode b_RB_startRule 12 = .ok (.iload_n 1, 1) := by decide +kernel
theorem d_RB_startRule_13 : decode b_RB_startRule 13 = .ok (.imul, 1) := by decide +kernel
theorem d_RB_startRule_14 : decode b_RB_startRule 14 = .ok (.iconst 0, 1) := by decide +kernel
theorem d_RB_startRule_15 : decode b_RB_startRule 15 = .ok (.iastore, 1) := by decide +kernel
theorem d_RB_startRule_16 : decode b_RB_startRule 16 = .ok (.aload_n 0, 1) := by decide +kernel
theorem d_RB_startRule_17 : decode b_RB_startRule 17 = .ok (.getfield 23, 3) := by decide +kernel
theorem d_RB_startRule_20 : decode b_RB_startRule 20 = .ok (.iconst 2, 1) := by decide +kernel
theorem d_RB_startRule_21 : decode b_RB_startRule 21 = .ok (.iload_n 1, 1) := by decide +kernel
theorem d_RB_startRule_22 : decode b_RB_startRule 22 = .ok (.imul, 1) := by decide +kernel
theorem d_RB_startRule_23 : decode b_RB_startRule 23 = .ok (.iconst 1, 1) := by decide +kernel
theorem d_RB_startRule_24 : decode b_RB_startRule 24 = .ok (.iadd, 1) := by decide +kernel
theorem d_RB_startRule_25 : decode b_RB_startRule 25 = .ok (.iconst 0, 1) := by decide +kernel
theorem d_RB_startRule_26 : decode b_RB_startRule 26 = .ok (.iastore, 1) := by decide +kernel
theorem d_RB_startRule_27 : decode b_RB_startRule 27 = .ok (.return_, 1) := by decide +kernel
def y_RB_addTerm : MethodName := ⟨cR2, "addTerm", "(IIIZ)V"⟩
abbrev b_RB_addTerm : ByteArray := prog_5_method_4_code
abbrev k_RB_addTerm : Cond := .code y_RB_addTerm b_RB_addTerm 7 none
theorem mc_RB_addTerm : MC y_RB_addTerm k_RB_addTerm b_RB_addTerm 7 none [] 4 := ⟨g_in (List.mem_of_getElem? (i := 532) (by decide +kernel)) (by decide +kernel), Or.inl ⟨rfl, rfl⟩, g_in (List.mem_of_getElem? (i := 59) (by decide +kernel)) (by decide +kernel), by decide, by decide +kernel⟩
theorem in_RB_addTerm : Cond.instanceMethod y_RB_addTerm ∈ g_ws := g_in (List.mem_of_getElem? (i := 531) (by decide +kernel)) (by decide +kernel)
theorem se_RB_addTerm : Cond.selects cR2 y_RB_addTerm y_RB_addTerm ∈ g_ws := g_in (List.mem_of_getElem? (i := 15) (by decide +kernel)) (by decide +kernel)
theorem d_RB_addTerm_0 : decode b_RB_addTerm 0 = .ok (.aload_n 0, 1) := by decide +kernel
theorem d_RB_addTerm_1 : decode b_RB_addTerm 1 = .ok (.getfield 23, 3) := by decide +kernel
theorem d_RB_addTerm_4 : decode b_RB_addTerm 4 = .ok (.iload_n 1, 1) := by decide +kernel
theorem d_RB_addTerm_5 : decode b_RB_addTerm 5 = .ok (.iaload, 1) := by decide +kernel
theorem d_RB_addTerm_6 : decode b_RB_addTerm 6 = .ok (.istore 5, 2) := by decide +kernel
theorem d_RB_addTerm_8 : decode b_RB_addTerm 8 = .ok (.iload 5, 2) := by decide +kernel
theorem d_RB_addTerm_10 : decode b_RB_addTerm 10 = .ok (.iconst 4, 1) := by decide +kernel
theorem d_RB_addTerm_11 : decode b_RB_addTerm 11 = .ok (.if_icmp .lt 4, 3) := by decide +kernel
theorem d_RB_addTerm_14 : decode b_RB_addTerm 14 = .ok (.return_, 1) := by decide +kernel
theorem d_RB_addTerm_15 : decode b_RB_addTerm 15 = .ok (.iload_n 1, 1) := by decide +kernel
theorem d_RB_addTerm_16 : decode b_RB_addTerm 16 = .ok (.iconst 4, 1) := by decide +kernel
theorem d_RB_addTerm_17 : decode b_RB_addTerm 17 = .ok (.imul, 1) := by decide +kernel
theorem d_RB_addTerm_18 : decode b_RB_addTerm 18 = .ok (.iload 5, 2) := by decide +kernel
theorem d_RB_addTerm_20 : decode b_RB_addTerm 20 = .ok (.iadd, 1) := by decide +kernel
theorem d_RB_addTerm_21 : decode b_RB_addTerm 21 = .ok (.istore 6, 2) := by decide +kernel
theorem d_RB_addTerm_23 : decode b_RB_addTerm 23 = .ok (.aload_n 0, 1) := by decide +kernel
theorem d_RB_addTerm_24 : decode b_RB_addTerm 24 = .ok (.getfield 26, 3) := by decide +kernel
theorem d_RB_addTerm_27 : decode b_RB_addTerm 27 = .ok (.iload 6, 2) := by decide +kernel
theorem d_RB_addTerm_29 : decode b_RB_addTerm 29 = .ok (.iload_n 2, 1) := by decide +kernel
theorem d_RB_addTerm_30 : decode b_RB_addTerm 30 = .ok (.iastore, 1) := by decide +kernel
theorem d_RB_addTerm_31 : decode b_RB_addTerm 31 = .ok (.aload_n 0, 1) := by decide +kernel
theorem d_RB_addTerm_32 : decode b_RB_addTerm 32 = .ok (.getfield 29, 3) := by decide +kernel
theorem d_RB_addTerm_35 : decode b_RB_addTerm 35 = .ok (.iload 6, 2) := by decide +kernel
theorem d_RB_addTerm_37 : decode b_RB_addTerm 37 = .ok (.iload_n 3, 1) := by decide +kernel
theorem d_RB_addTerm_38 : decode b_RB_addTerm 38 = .ok (.iastore, 1) := by decide +kernel
theorem d_RB_addTerm_39 : decode b_RB_addTerm 39 = .ok (.aload_n 0, 1) := by decide +kernel
theorem d_RB_addTerm_40 : decode b_RB_addTerm 40 = .ok (.getfield 32, 3) := by decide +kernel
theorem d_RB_addTerm_43 : decode b_RB_addTerm 43 = .ok (.iload 6, 2) := by decide +kernel
theorem d_RB_addTerm_45 : decode b_RB_addTerm 45 = .ok (.iload 4, 2) := by decide +kernel
theorem d_RB_addTerm_47 : decode b_RB_addTerm 47 = .ok (.bastore, 1) := by decide +kernel
theorem d_RB_addTerm_48 : decode b_RB_addTerm 48 = .ok (.aload_n 0, 1) := by decide +kernel
theorem d_RB_addTerm_49 : decode b_RB_addTerm 49 = .ok (.getfield 23, 3) := by decide +kernel
theorem d_RB_addTerm_52 : decode b_RB_addTerm 52 = .ok (.iload_n 1, 1) := by decide +kernel
theorem d_RB_addTerm_53 : decode b_RB_addTerm 53 = .ok (.iload 5, 2) := by decide +kernel
theorem d_RB_addTerm_55 : decode b_RB_addTerm 55 = .ok (.iconst 1, 1) := by decide +kernel
theorem d_RB_addTerm_56 : decode b_RB_addTerm 56 = .ok (.iadd, 1) := by decide +kernel
theorem d_RB_addTerm_57 : decode b_RB_addTerm 57 = .ok (.iastore, 1) := by decide +kernel
theorem d_RB_addTerm_58 : decode b_RB_addTerm 58 = .ok (.aload_n 0, 1) := by decide +kernel
theorem d_RB_addTerm_59 : decode b_RB_addTerm 59 = .ok (.iload_n 1, 1) := by decide +kernel
theorem d_RB_addTerm_60 : decode b_RB_addTerm 60 = .ok (.iconst 2, 1) := by decide +kernel
theorem d_RB_addTerm_61 : decode b_RB_addTerm 61 = .ok (.idiv, 1) := by decide +kernel
theorem d_RB_addTerm_62 : decode b_RB_addTerm 62 = .ok (.iload_n 2, 1) := by decide +kernel
theorem d_RB_addTerm_63 : decode b_RB_addTerm 63 = .ok (.invokevirtual 36, 3) := by decide +kernel
theorem d_RB_addTerm_66 : decode b_RB_addTerm 66 = .ok (.aload_n 0, 1) := by decide +kernel
theorem d_RB_addTerm_67 : decode b_RB_addTerm 67 = .ok (.iload_n 1, 1) := by decide +kernel
theorem d_RB_addTerm_68 : decode b_RB_addTerm 68 = .ok (.iconst 2, 1) := by decide +kernel
theorem d_RB_addTerm_69 : decode b_RB_addTerm 69 = .ok (.idiv, 1) := by decide +kernel
theorem d_RB_addTerm_70 : decode b_RB_addTerm 70 = .ok (.iload_n 3, 1) := by decide +kernel
theorem d_RB_addTerm_71 : decode b_RB_addTerm 71 = .ok (.invokevirtual 36, 3) := by decide +kernel
theorem d_RB_addTerm_74 : decode b_RB_addTerm 74 = .ok (.return_, 1) := by decide +kernel
def y_RB_noteField : MethodName := ⟨cR2, "noteField", "(II)V"⟩
abbrev b_RB_noteField : ByteArray := prog_5_method_5_code
abbrev k_RB_noteField : Cond := .code y_RB_noteField b_RB_noteField 3 none
theorem mc_RB_noteField : MC y_RB_noteField k_RB_noteField b_RB_noteField 3 none [] 2 := ⟨g_in (List.mem_of_getElem? (i := 536) (by decide +kernel)) (by decide +kernel), Or.inl ⟨rfl, rfl⟩, g_in (List.mem_of_getElem? (i := 59) (by decide +kernel)) (by decide +kernel), by decide, by decide +kernel⟩
theorem in_RB_noteField : Cond.instanceMethod y_RB_noteField ∈ g_ws := g_in (List.mem_of_getElem? (i := 535) (by decide +kernel)) (by decide +kernel)
theorem se_RB_noteField : Cond.selects cR2 y_RB_noteField y_RB_noteField ∈ g_ws := g_in (List.mem_of_getElem? (i := 16) (by decide +kernel)) (by decide +kernel)
theorem d_RB_noteField_0 : decode b_RB_noteField 0 = .ok (.iload_n 2, 1) := by decide +kernel
theorem d_RB_noteField_1 : decode b_RB_noteField 1 = .ok (.ifCond .ge 22, 3) := by decide +kernel
theorem d_RB_noteField_4 : decode b_RB_noteField 4 = .ok (.aload_n 0, 1) := by decide +kernel
theorem d_RB_noteField_5 : decode b_RB_noteField 5 = .ok (.getfield 19, 3) := by decide +kernel
theorem d_RB_noteField_8 : decode b_RB_noteField 8 = .ok (.iload_n 1, 1) := by decide +kernel
theorem d_RB_noteField_9 : decode b_RB_noteField 9 = .ok (.aload_n 0, 1) := by decide +kernel
theorem d_RB_noteField_10 : decode b_RB_noteField 10 = .ok (.getfield 19, 3) := by decide +kernel
theorem d_RB_noteField_13 : decode b_RB_noteField 13 = .ok (.iload_n 1, 1) := by decide +kernel
theorem d_RB_noteField_14 : decode b_RB_noteField 14 = .ok (.iaload, 1) := by decide +kernel
theorem d_RB_noteField_15 : decode b_RB_noteField 15 = .ok (.iconst (-1), 1) := by decide +kernel
theorem d_RB_noteField_16 : decode b_RB_noteField 16 = .ok (.iload_n 2, 1) := by decide +kernel
theorem d_RB_noteField_17 : decode b_RB_noteField 17 = .ok (.isub, 1) := by decide +kernel
theorem d_RB_noteField_18 : decode b_RB_noteField 18 = .ok (.iconst 1, 1) := by decide +kernel
theorem d_RB_noteField_19 : decode b_RB_noteField 19 = .ok (.invokestatic 40, 3) := by decide +kernel
theorem d_RB_noteField_22 : decode b_RB_noteField 22 = .ok (.iastore, 1) := by decide +kernel
theorem d_RB_noteField_23 : decode b_RB_noteField 23 = .ok (.return_, 1) := by decide +kernel
def y_RB_faultOf : MethodName := ⟨cR2, "faultOf", "(ILReportChecks2$Report;)I"⟩
abbrev b_RB_faultOf : ByteArray := prog_5_method_6_code
abbrev k_RB_faultOf : Cond := .code y_RB_faultOf b_RB_faultOf 5 (some .int)
theorem mc_RB_faultOf : MC y_RB_faultOf k_RB_faultOf b_RB_faultOf 5 (some .int) [] 2 := ⟨g_in (List.mem_of_getElem? (i := 562) (by decide +kernel)) (by decide +kernel), Or.inl ⟨rfl, rfl⟩, g_in (List.mem_of_getElem? (i := 59) (by decide +kernel)) (by decide +kernel), by decide, by decide +kernel⟩
theorem in_RB_faultOf : Cond.instanceMethod y_RB_faultOf ∈ g_ws := g_in (List.mem_of_getElem? (i := 561) (by decide +kernel)) (by decide +kernel)
theorem se_RB_faultOf : Cond.selects cR2 y_RB_faultOf y_RB_faultOf ∈ g_ws := g_in (List.mem_of_getElem? (i := 20) (by decide +kernel)) (by decide +kernel)
theorem d_RB_faultOf_0 : decode b_RB_faultOf 0 = .ok (.aload_n 0, 1) := by decide +kernel
theorem d_RB_faultOf_1 : decode b_RB_faultOf 1 = .ok (.getfield 19, 3) := by decide +kernel
theorem d_RB_faultOf_4 : decode b_RB_faultOf 4 = .ok (.iload_n 1, 1) := by decide +kernel
theorem d_RB_faultOf_5 : decode b_RB_faultOf 5 = .ok (.iaload, 1) := by decide +kernel
theorem d_RB_faultOf_6 : decode b_RB_faultOf 6 = .ok (.aload_n 2, 1) := by decide +kernel
theorem d_RB_faultOf_7 : decode b_RB_faultOf 7 = .ok (.getfield 44, 3) := by decide +kernel
theorem d_RB_faultOf_10 : decode b_RB_faultOf 10 = .ok (.iconst (-1), 1) := by decide +kernel
theorem d_RB_faultOf_11 : decode b_RB_faultOf 11 = .ok (.ixor, 1) := by decide +kernel
theorem d_RB_faultOf_12 : decode b_RB_faultOf 12 = .ok (.iand, 1) := by decide +kernel
theorem d_RB_faultOf_13 : decode b_RB_faultOf 13 = .ok (.ifCond .eq 5, 3) := by decide +kernel
theorem d_RB_faultOf_16 : decode b_RB_faultOf 16 = .ok (.iconst (-1), 1) := by decide +kernel
theorem d_RB_faultOf_17 : decode b_RB_faultOf 17 = .ok (.ireturn, 1) := by decide +kernel
theorem d_RB_faultOf_18 : decode b_RB_faultOf 18 = .ok (.aload_n 0, 1) := by decide +kernel
theorem d_RB_faultOf_19 : decode b_RB_faultOf 19 = .ok (.iconst 2, 1) := by decide +kernel
theorem d_RB_faultOf_20 : decode b_RB_faultOf 20 = .ok (.iload_n 1, 1) := by decide +kernel
theorem d_RB_faultOf_21 : decode b_RB_faultOf 21 = .ok (.imul, 1) := by decide +kernel
theorem d_RB_faultOf_22 : decode b_RB_faultOf 22 = .ok (.aload_n 2, 1) := by decide +kernel
theorem d_RB_faultOf_23 : decode b_RB_faultOf 23 = .ok (.getfield 49, 3) := by decide +kernel
theorem d_RB_faultOf_26 : decode b_RB_faultOf 26 = .ok (.invokevirtual 52, 3) := by decide +kernel
theorem d_RB_faultOf_29 : decode b_RB_faultOf 29 = .ok (.istore_n 3, 1) := by decide +kernel
theorem d_RB_faultOf_30 : decode b_RB_faultOf 30 = .ok (.aload_n 0, 1) := by decide +kernel
theorem d_RB_faultOf_31 : decode b_RB_faultOf 31 = .ok (.iconst 2, 1) := by decide +kernel
theorem d_RB_faultOf_32 : decode b_RB_faultOf 32 = .ok (.iload_n 1, 1) := by decide +kernel
theorem d_RB_faultOf_33 : decode b_RB_faultOf 33 = .ok (.imul, 1) := by decide +kernel
theorem d_RB_faultOf_34 : decode b_RB_faultOf 34 = .ok (.iconst 1, 1) := by decide +kernel
theorem d_RB_faultOf_35 : decode b_RB_faultOf 35 = .ok (.iadd, 1) := by decide +kernel
theorem d_RB_faultOf_36 : decode b_RB_faultOf 36 = .ok (.aload_n 2, 1) := by decide +kernel
theorem d_RB_faultOf_37 : decode b_RB_faultOf 37 = .ok (.getfield 49, 3) := by decide +kernel
theorem d_RB_faultOf_40 : decode b_RB_faultOf 40 = .ok (.invokevirtual 52, 3) := by decide +kernel
theorem d_RB_faultOf_43 : decode b_RB_faultOf 43 = .ok (.istore 4, 2) := by decide +kernel
theorem d_RB_faultOf_45 : decode b_RB_faultOf 45 = .ok (.iload_n 3, 1) := by decide +kernel
theorem d_RB_faultOf_46 : decode b_RB_faultOf 46 = .ok (.ldc 56, 2) := by decide +kernel
theorem d_RB_faultOf_48 : decode b_RB_faultOf 48 = .ok (.if_icmp .eq 10, 3) := by decide +kernel
theorem d_RB_faultOf_51 : decode b_RB_faultOf 51 = .ok (.iload 4, 2) := by decide +kernel
theorem d_RB_faultOf_53 : decode b_RB_faultOf 53 = .ok (.ldc 56, 2) := by decide +kernel
theorem d_RB_faultOf_55 : decode b_RB_faultOf 55 = .ok (.if_icmp .ne 5, 3) := by decide +kernel
theorem d_RB_faultOf_58 : decode b_RB_faultOf 58 = .ok (.iconst 3, 1) := by decide +kernel
theorem d_RB_faultOf_59 : decode b_RB_faultOf 59 = .ok (.ireturn, 1) := by decide +kernel
theorem d_RB_faultOf_60 : decode b_RB_faultOf 60 = .ok (.aload_n 0, 1) := by decide +kernel
theorem d_RB_faultOf_61 : decode b_RB_faultOf 61 = .ok (.getfield 15, 3) := by decide +kernel
theorem d_RB_faultOf_64 : decode b_RB_faultOf 64 = .ok (.iload_n 1, 1) := by decide +kernel
theorem d_RB_faultOf_65 : decode b_RB_faultOf 65 = .ok (.caload, 1) := by decide +kernel
theorem d_RB_faultOf_66 : decode b_RB_faultOf 66 = .ok (.iload_n 3, 1) := by decide +kernel
theorem d_RB_faultOf_67 : decode b_RB_faultOf 67 = .ok (.iload 4, 2) := by decide +kernel
theorem d_RB_faultOf_69 : decode b_RB_faultOf 69 = .ok (.invokestatic 57, 3) := by decide +kernel
theorem d_RB_faultOf_72 : decode b_RB_faultOf 72 = .ok (.ifCond .eq 7, 3) := by decide +kernel
theorem d_RB_faultOf_75 : decode b_RB_faultOf 75 = .ok (.iconst (-1), 1) := by decide +kernel
theorem d_RB_faultOf_76 : decode b_RB_faultOf 76 = .ok (.goto 4, 3) := by decide +kernel
theorem d_RB_faultOf_79 : decode b_RB_faultOf 79 = .ok (.iconst 2, 1) := by decide +kernel
theorem d_RB_faultOf_80 : decode b_RB_faultOf 80 = .ok (.ireturn, 1) := by decide +kernel
def y_RB_sumOf : MethodName := ⟨cR2, "sumOf", "(I[I)I"⟩
abbrev b_RB_sumOf : ByteArray := prog_5_method_7_code
abbrev k_RB_sumOf : Cond := .code y_RB_sumOf b_RB_sumOf 8 (some .int)
theorem mc_RB_sumOf : MC y_RB_sumOf k_RB_sumOf b_RB_sumOf 8 (some .int) [] 2 := ⟨g_in (List.mem_of_getElem? (i := 566) (by decide +kernel)) (by decide +kernel), Or.inl ⟨rfl, rfl⟩, g_in (List.mem_of_getElem? (i := 59) (by decide +kernel)) (by decide +kernel), by decide, by decide +kernel⟩
theorem in_RB_sumOf : Cond.instanceMethod y_RB_sumOf ∈ g_ws := g_in (List.mem_of_getElem? (i := 565) (by decide +kernel)) (by decide +kernel)
theorem se_RB_sumOf : Cond.selects cR2 y_RB_sumOf y_RB_sumOf ∈ g_ws := g_in (List.mem_of_getElem? (i := 21) (by decide +kernel)) (by decide +kernel)
theorem d_RB_sumOf_0 : decode b_RB_sumOf 0 = .ok (.iconst 0, 1) := by decide +kernel
theorem d_RB_sumOf_1 : decode b_RB_sumOf 1 = .ok (.istore_n 3, 1) := by decide +kernel
theorem d_RB_sumOf_2 : decode b_RB_sumOf 2 = .ok (.iconst 0, 1) := by decide +kernel
theorem d_RB_sumOf_3 : decode b_RB_sumOf 3 = .ok (.istore 4, 2) := by decide +kernel
theorem d_RB_sumOf_5 : decode b_RB_sumOf 5 = .ok (.iload 4, 2) := by decide +kernel
theorem d_RB_sumOf_7 : decode b_RB_sumOf 7 = .ok (.aload_n 0, 1) := by decide +kernel
theorem d_RB_sumOf_8 : decode b_RB_sumOf 8 = .ok (.getfield 23, 3) := by decide +kernel
theorem d_RB_sumOf_11 : decode b_RB_sumOf 11 = .ok (.iload_n 1, 1) := by decide +kernel
theorem d_RB_sumOf_12 : decode b_RB_sumOf 12 = .ok (.iaload, 1) := by decide +kernel
theorem d_RB_sumOf_13 : decode b_RB_sumOf 13 = .ok (.if_icmp .ge 75, 3) := by decide +kernel
theorem d_RB_sumOf_16 : decode b_RB_sumOf 16 = .ok (.iload_n 1, 1) := by decide +kernel
theorem d_RB_sumOf_17 : decode b_RB_sumOf 17 = .ok (.iconst 4, 1) := by decide +kernel
theorem d_RB_sumOf_18 : decode b_RB_sumOf 18 = .ok (.imul, 1) := by decide +kernel
theorem d_RB_sumOf_19 : decode b_RB_sumOf 19 = .ok (.iload 4, 2) := by decide +kernel
theorem d_RB_sumOf_21 : decode b_RB_sumOf 21 = .ok (.iadd, 1) := by decide +kernel
theorem d_RB_sumOf_22 : decode b_RB_sumOf 22 = .ok (.istore 5, 2) := by decide +kernel
theorem d_RB_sumOf_24 : decode b_RB_sumOf 24 = .ok (.aload_n 0, 1) := by decide +kernel
theorem d_RB_sumOf_25 : decode b_RB_sumOf 25 = .ok (.getfield 29, 3) := by decide +kernel
theorem d_RB_sumOf_28 : decode b_RB_sumOf 28 = .ok (.iload 5, 2) := by decide +kernel
theorem d_RB_sumOf_30 : decode b_RB_sumOf 30 = .ok (.iaload, 1) := by decide +kernel
theorem d_RB_sumOf_31 : decode b_RB_sumOf 31 = .ok (.aload_n 2, 1) := by decide +kernel
theorem d_RB_sumOf_32 : decode b_RB_sumOf 32 = .ok (.invokestatic 61, 3) := by decide +kernel
theorem d_RB_sumOf_35 : decode b_RB_sumOf 35 = .ok (.istore 6, 2) := by decide +kernel
theorem d_RB_sumOf_37 : decode b_RB_sumOf 37 = .ok (.iload 6, 2) := by decide +kernel
theorem d_RB_sumOf_39 : decode b_RB_sumOf 39 = .ok (.ifCond .ne 6, 3) := by decide +kernel
theorem d_RB_sumOf_42 : decode b_RB_sumOf 42 = .ok (.ldc 56, 2) := by decide +kernel
theorem d_RB_sumOf_44 : decode b_RB_sumOf 44 = .ok (.ireturn, 1) := by decide +kernel
theorem d_RB_sumOf_45 : decode b_RB_sumOf 45 = .ok (.aload_n 0, 1) := by decide +kernel
theorem d_RB_sumOf_46 : decode b_RB_sumOf 46 = .ok (.getfield 26, 3) := by decide +kernel
theorem d_RB_sumOf_49 : decode b_RB_sumOf 49 = .ok (.iload 5, 2) := by decide +kernel
theorem d_RB_sumOf_51 : decode b_RB_sumOf 51 = .ok (.iaload, 1) := by decide +kernel
theorem d_RB_sumOf_52 : decode b_RB_sumOf 52 = .ok (.aload_n 2, 1) := by decide +kernel
theorem d_RB_sumOf_53 : decode b_RB_sumOf 53 = .ok (.invokestatic 61, 3) := by decide +kernel
theorem d_RB_sumOf_56 : decode b_RB_sumOf 56 = .ok (.iload 6, 2) := by decide +kernel
theorem d_RB_sumOf_58 : decode b_RB_sumOf 58 = .ok (.idiv, 1) := by decide +kernel
theorem d_RB_sumOf_59 : decode b_RB_sumOf 59 = .ok (.istore 7, 2) := by decide +kernel
theorem d_RB_sumOf_61 : decode b_RB_sumOf 61 = .ok (.iload_n 3, 1) := by decide +kernel
theorem d_RB_sumOf_62 : decode b_RB_sumOf 62 = .ok (.aload_n 0, 1) := by decide +kernel
theorem d_RB_sumOf_63 : decode b_RB_sumOf 63 = .ok (.getfield 32, 3) := by decide +kernel
theorem d_RB_sumOf_66 : decode b_RB_sumOf 66 = .ok (.iload 5, 2) := by decide +kernel
theorem d_RB_sumOf_68 : decode b_RB_sumOf 68 = .ok (.baload, 1) := by decide +kernel
theorem d_RB_sumOf_69 : decode b_RB_sumOf 69 = .ok (.ifCond .eq 9, 3) := by decide +kernel
theorem d_RB_sumOf_72 : decode b_RB_sumOf 72 = .ok (.iload 7, 2) := by decide +kernel
theorem d_RB_sumOf_74 : decode b_RB_sumOf 74 = .ok (.ineg, 1) := by decide +kernel
theorem d_RB_sumOf_75 : decode b_RB_sumOf 75 = .ok (.goto 5, 3) := by decide +kernel
theorem d_RB_sumOf_78 : decode b_RB_sumOf 78 = .ok (.iload 7, 2) := by decide +kernel
theorem d_RB_sumOf_80 : decode b_RB_sumOf 80 = .ok (.iadd, 1) := by decide +kernel
theorem d_RB_sumOf_81 : decode b_RB_sumOf 81 = .ok (.istore_n 3, 1) := by decide +kernel
theorem d_RB_sumOf_82 : decode b_RB_sumOf 82 = .ok (.iinc 4 1, 3) := by decide +kernel
theorem d_RB_sumOf_85 : decode b_RB_sumOf 85 = .ok (.goto (-80), 3) := by decide +kernel
theorem d_RB_sumOf_88 : decode b_RB_sumOf 88 = .ok (.iload_n 3, 1) := by decide +kernel
theorem d_RB_sumOf_89 : decode b_RB_sumOf 89 = .ok (.ireturn, 1) := by decide +kernel
def y_RB_factorOf : MethodName := ⟨cR2, "factorOf", "(I[I)I"⟩
abbrev b_RB_factorOf : ByteArray := prog_5_method_8_code
abbrev k_RB_factorOf : Cond := .code y_RB_factorOf b_RB_factorOf 3 (some .int)
theorem mc_RB_factorOf : MC y_RB_factorOf k_RB_factorOf b_RB_factorOf 3 (some .int) [] 2 := ⟨g_in (List.mem_of_getElem? (i := 569) (by decide +kernel)) (by decide +kernel), Or.inl ⟨rfl, rfl⟩, g_in (List.mem_of_getElem? (i := 59) (by decide +kernel)) (by decide +kernel), by decide, by decide +kernel⟩
theorem st_RB_factorOf : Cond.static y_RB_factorOf ∈ g_ws := g_in (List.mem_of_getElem? (i := 568) (by decide +kernel)) (by decide +kernel)
theorem d_RB_factorOf_0 : decode b_RB_factorOf 0 = .ok (.iconst (-1), 1) := by decide +kernel
theorem d_RB_factorOf_1 : decode b_RB_factorOf 1 = .ok (.iload_n 0, 1) := by decide +kernel
theorem d_RB_factorOf_2 : decode b_RB_factorOf 2 = .ok (.isub, 1) := by decide +kernel
theorem d_RB_factorOf_3 : decode b_RB_factorOf 3 = .ok (.istore_n 2, 1) := by decide +kernel
theorem d_RB_factorOf_4 : decode b_RB_factorOf 4 = .ok (.iload_n 2, 1) := by decide +kernel
theorem d_RB_factorOf_5 : decode b_RB_factorOf 5 = .ok (.ifCond .lt 15, 3) := by decide +kernel
theorem d_RB_factorOf_8 : decode b_RB_factorOf 8 = .ok (.iload_n 2, 1) := by decide +kernel
theorem d_RB_factorOf_9 : decode b_RB_factorOf 9 = .ok (.aload_n 1, 1) := by decide +kernel
theorem d_RB_factorOf_10 : decode b_RB_factorOf 10 = .ok (.arraylength, 1) := by decide +kernel
theorem d_RB_factorOf_11 : decode b_RB_factorOf 11 = .ok (.if_icmp .ge 9, 3) := by decide +kernel
theorem d_RB_factorOf_14 : decode b_RB_factorOf 14 = .ok (.aload_n 1, 1) := by decide +kernel
theorem d_RB_factorOf_15 : decode b_RB_factorOf 15 = .ok (.iload_n 2, 1) := by decide +kernel
theorem d_RB_factorOf_16 : decode b_RB_factorOf 16 = .ok (.iaload, 1) := by decide +kernel
theorem d_RB_factorOf_17 : decode b_RB_factorOf 17 = .ok (.goto 4, 3) := by decide +kernel
theorem d_RB_factorOf_20 : decode b_RB_factorOf 20 = .ok (.iload_n 0, 1) := by decide +kernel
theorem d_RB_factorOf_21 : decode b_RB_factorOf 21 = .ok (.ireturn, 1) := by decide +kernel
def y_RB_holds : MethodName := ⟨cR2, "holds", "(CII)Z"⟩
abbrev b_RB_holds : ByteArray := prog_5_method_9_code
abbrev k_RB_holds : Cond := .code y_RB_holds b_RB_holds 3 (some .boolean)
theorem mc_RB_holds : MC y_RB_holds k_RB_holds b_RB_holds 3 (some .boolean) [] 3 := ⟨g_in (List.mem_of_getElem? (i := 573) (by decide +kernel)) (by decide +kernel), Or.inl ⟨rfl, rfl⟩, g_in (List.mem_of_getElem? (i := 59) (by decide +kernel)) (by decide +kernel), by decide, by decide +kernel⟩
theorem st_RB_holds : Cond.static y_RB_holds ∈ g_ws := g_in (List.mem_of_getElem? (i := 572) (by decide +kernel)) (by decide +kernel)
theorem d_RB_holds_0 : decode b_RB_holds 0 = .ok (.iload_n 0, 1) := by decide +kernel
theorem d_RB_holds_1 : decode b_RB_holds 1 = .ok (.lookupswitch 49 #[(60, 27), (61, 38)], 27) := by decide +kernel
theorem d_RB_holds_28 : decode b_RB_holds 28 = .ok (.iload_n 1, 1) := by decide +kernel
theorem d_RB_holds_29 : decode b_RB_holds 29 = .ok (.iload_n 2, 1) := by decide +kernel
theorem d_RB_holds_30 : decode b_RB_holds 30 = .ok (.if_icmp .ge 7, 3) := by decide +kernel
theorem d_RB_holds_33 : decode b_RB_holds 33 = .ok (.iconst 1, 1) := by decide +kernel
theorem d_RB_holds_34 : decode b_RB_holds 34 = .ok (.goto 4, 3) := by decide +kernel
theorem d_RB_holds_37 : decode b_RB_holds 37 = .ok (.iconst 0, 1) := by decide +kernel
theorem d_RB_holds_38 : decode b_RB_holds 38 = .ok (.ireturn, 1) := by decide +kernel
theorem d_RB_holds_39 : decode b_RB_holds 39 = .ok (.iload_n 1, 1) := by decide +kernel
theorem d_RB_holds_40 : decode b_RB_holds 40 = .ok (.iload_n 2, 1) := by decide +kernel
theorem d_RB_holds_41 : decode b_RB_holds 41 = .ok (.if_icmp .ne 7, 3) := by decide +kernel
theorem d_RB_holds_44 : decode b_RB_holds 44 = .ok (.iconst 1, 1) := by decide +kernel
theorem d_RB_holds_45 : decode b_RB_holds 45 = .ok (.goto 4, 3) := by decide +kernel
theorem d_RB_holds_48 : decode b_RB_holds 48 = .ok (.iconst 0, 1) := by decide +kernel
theorem d_RB_holds_49 : decode b_RB_holds 49 = .ok (.ireturn, 1) := by decide +kernel
theorem d_RB_holds_50 : decode b_RB_holds 50 = .ok (.iload_n 1, 1) := by decide +kernel
theorem d_RB_holds_51 : decode b_RB_holds 51 = .ok (.iload_n 2, 1) := by decide +kernel
theorem d_RB_holds_52 : decode b_RB_holds 52 = .ok (.if_icmp .gt 7, 3) := by decide +kernel
theorem d_RB_holds_55 : decode b_RB_holds 55 = .ok (.iconst 1, 1) := by decide +kernel
theorem d_RB_holds_56 : decode b_RB_holds 56 = .ok (.goto 4, 3) := by decide +kernel
theorem d_RB_holds_59 : decode b_RB_holds 59 = .ok (.iconst 0, 1) := by decide +kernel
theorem d_RB_holds_60 : decode b_RB_holds 60 = .ok (.ireturn, 1) := by decide +kernel
