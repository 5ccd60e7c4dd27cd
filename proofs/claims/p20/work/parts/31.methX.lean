/-! ===== methods of X: printed by program ===== -/
def y_X_init : MethodName := ⟨cR0, "<init>", "()V"⟩
abbrev b_X_init : ByteArray := prog_1_method_1_code
abbrev k_X_init : Cond := .code y_X_init b_X_init 1 none
theorem mc_X_init : MC y_X_init k_X_init b_X_init 1 none [] 0 := ⟨g_in (List.mem_of_getElem? (i := 78) (by decide +kernel)) (by decide +kernel), Or.inl ⟨rfl, rfl⟩, g_in (List.mem_of_getElem? (i := 57) (by decide +kernel)) (by decide +kernel), by decide, by decide +kernel⟩
theorem in_X_init : Cond.instanceMethod y_X_init ∈ g_ws := g_in (List.mem_of_getElem? (i := 77) (by decide +kernel)) (by decide +kernel)
theorem d_X_init_0 : decode b_X_init 0 = .ok (.aload_n 0, 1) := by decide +kernel
theorem d_X_init_1 : decode b_X_init 1 = .ok (.invokespecial 1, 3) := by decide +kernel
theorem d_X_init_4 : decode b_X_init 4 = .ok (.aload_n 0, 1) := by decide +kernel
theorem d_X_init_5 : decode b_X_init 5 = .ok (.bipush 30, 2) := by decide +kernel
theorem d_X_init_7 : decode b_X_init 7 = .ok (.anewarray 9, 3) := by decide +kernel
theorem d_X_init_10 : decode b_X_init 10 = .ok (.putfield 11, 3) := by decide +kernel
theorem d_X_init_13 : decode b_X_init 13 = .ok (.aload_n 0, 1) := by decide +kernel
theorem d_X_init_14 : decode b_X_init 14 = .ok (.iconst 0, 1) := by decide +kernel
theorem d_X_init_15 : decode b_X_init 15 = .ok (.putfield 15, 3) := by decide +kernel
theorem d_X_init_18 : decode b_X_init 18 = .ok (.aload_n 0, 1) := by decide +kernel
theorem d_X_init_19 : decode b_X_init 19 = .ok (.iconst 5, 1) := by decide +kernel
theorem d_X_init_20 : decode b_X_init 20 = .ok (.newarray .int, 2) := by decide +kernel
theorem d_X_init_22 : decode b_X_init 22 = .ok (.putfield 19, 3) := by decide +kernel
theorem d_X_init_25 : decode b_X_init 25 = .ok (.aload_n 0, 1) := by decide +kernel
theorem d_X_init_26 : decode b_X_init 26 = .ok (.bipush 20, 2) := by decide +kernel
theorem d_X_init_28 : decode b_X_init 28 = .ok (.newarray .int, 2) := by decide +kernel
theorem d_X_init_30 : decode b_X_init 30 = .ok (.putfield 23, 3) := by decide +kernel
theorem d_X_init_33 : decode b_X_init 33 = .ok (.aload_n 0, 1) := by decide +kernel
theorem d_X_init_34 : decode b_X_init 34 = .ok (.iconst 0, 1) := by decide +kernel
theorem d_X_init_35 : decode b_X_init 35 = .ok (.putfield 26, 3) := by decide +kernel
theorem d_X_init_38 : decode b_X_init 38 = .ok (.aload_n 0, 1) := by decide +kernel
theorem d_X_init_39 : decode b_X_init 39 = .ok (.sipush 300, 3) := by decide +kernel
theorem d_X_init_42 : decode b_X_init 42 = .ok (.newarray .byte, 2) := by decide +kernel
theorem d_X_init_44 : decode b_X_init 44 = .ok (.putfield 29, 3) := by decide +kernel
theorem d_X_init_47 : decode b_X_init 47 = .ok (.aload_n 0, 1) := by decide +kernel
theorem d_X_init_48 : decode b_X_init 48 = .ok (.iconst 0, 1) := by decide +kernel
theorem d_X_init_49 : decode b_X_init 49 = .ok (.putfield 33, 3) := by decide +kernel
theorem d_X_init_52 : decode b_X_init 52 = .ok (.aload_n 0, 1) := by decide +kernel
theorem d_X_init_53 : decode b_X_init 53 = .ok (.new 36, 3) := by decide +kernel
theorem d_X_init_56 : decode b_X_init 56 = .ok (.dup, 1) := by decide +kernel
theorem d_X_init_57 : decode b_X_init 57 = .ok (.aload_n 0, 1) := by decide +kernel
theorem d_X_init_58 : decode b_X_init 58 = .ok (.getfield 29, 3) := by decide +kernel
theorem d_X_init_61 : decode b_X_init 61 = .ok (.invokespecial 38, 3) := by decide +kernel
theorem d_X_init_64 : decode b_X_init 64 = .ok (.putfield 41, 3) := by decide +kernel
theorem d_X_init_67 : decode b_X_init 67 = .ok (.aload_n 0, 1) := by decide +kernel
theorem d_X_init_68 : decode b_X_init 68 = .ok (.new 45, 3) := by decide +kernel
theorem d_X_init_71 : decode b_X_init 71 = .ok (.dup, 1) := by decide +kernel
theorem d_X_init_72 : decode b_X_init 72 = .ok (.invokespecial 47, 3) := by decide +kernel
theorem d_X_init_75 : decode b_X_init 75 = .ok (.putfield 48, 3) := by decide +kernel
theorem d_X_init_78 : decode b_X_init 78 = .ok (.aload_n 0, 1) := by decide +kernel
theorem d_X_init_79 : decode b_X_init 79 = .ok (.new 45, 3) := by decide +kernel
theorem d_X_init_82 : decode b_X_init 82 = .ok (.dup, 1) := by decide +kernel
theorem d_X_init_83 : decode b_X_init 83 = .ok (.invokespecial 47, 3) := by decide +kernel
theorem d_X_init_86 : decode b_X_init 86 = .ok (.putfield 52, 3) := by decide +kernel
theorem d_X_init_89 : decode b_X_init 89 = .ok (.aload_n 0, 1) := by decide +kernel
theorem d_X_init_90 : decode b_X_init 90 = .ok (.iconst (-1), 1) := by decide +kernel
theorem d_X_init_91 : decode b_X_init 91 = .ok (.putfield 55, 3) := by decide +kernel
theorem d_X_init_94 : decode b_X_init 94 = .ok (.aload_n 0, 1) := by decide +kernel
theorem d_X_init_95 : decode b_X_init 95 = .ok (.new 58, 3) := by decide +kernel
theorem d_X_init_98 : decode b_X_init 98 = .ok (.dup, 1) := by decide +kernel
theorem d_X_init_99 : decode b_X_init 99 = .ok (.invokespecial 60, 3) := by decide +kernel
theorem d_X_init_102 : decode b_X_init 102 = .ok (.putfield 61, 3) := by decide +kernel
theorem d_X_init_105 : decode b_X_init 105 = .ok (.aload_n 0, 1) := by decide +kernel
theorem d_X_init_106 : decode b_X_init 106 = .ok (.new 58, 3) := by decide +kernel
theorem d_X_init_109 : decode b_X_init 109 = .ok (.dup, 1) := by decide +kernel
theorem d_X_init_110 : decode b_X_init 110 = .ok (.invokespecial 60, 3) := by decide +kernel
theorem d_X_init_113 : decode b_X_init 113 = .ok (.putfield 65, 3) := by decide +kernel
theorem d_X_init_116 : decode b_X_init 116 = .ok (.aload_n 0, 1) := by decide +kernel
theorem d_X_init_117 : decode b_X_init 117 = .ok (.new 68, 3) := by decide +kernel
theorem d_X_init_120 : decode b_X_init 120 = .ok (.dup, 1) := by decide +kernel
theorem d_X_init_121 : decode b_X_init 121 = .ok (.invokespecial 70, 3) := by decide +kernel
theorem d_X_init_124 : decode b_X_init 124 = .ok (.putfield 71, 3) := by decide +kernel
theorem d_X_init_127 : decode b_X_init 127 = .ok (.return_, 1) := by decide +kernel
def y_X_report : MethodName := ⟨cR0, "report", "(II)I"⟩
abbrev b_X_report : ByteArray := prog_1_method_2_code
abbrev k_X_report : Cond := .code y_X_report b_X_report 3 (some .int)
theorem mc_X_report : MC y_X_report k_X_report b_X_report 3 (some .int) [] 2 := ⟨g_in (List.mem_of_getElem? (i := 225) (by decide +kernel)) (by decide +kernel), Or.inl ⟨rfl, rfl⟩, g_in (List.mem_of_getElem? (i := 57) (by decide +kernel)) (by decide +kernel), by decide, by decide +kernel⟩
theorem in_X_report : Cond.instanceMethod y_X_report ∈ g_ws := g_in (List.mem_of_getElem? (i := 223) (by decide +kernel)) (by decide +kernel)
theorem se_X_report : Cond.selects cR0 y_X_report y_X_report ∈ g_ws := g_in (List.mem_of_getElem? (i := 224) (by decide +kernel)) (by decide +kernel)
theorem d_X_report_0 : decode b_X_report 0 = .ok (.iload_n 2, 1) := by decide +kernel
theorem d_X_report_1 : decode b_X_report 1 = .ok (.invokestatic 75, 3) := by decide +kernel
theorem d_X_report_4 : decode b_X_report 4 = .ok (.iload_n 1, 1) := by decide +kernel
theorem d_X_report_5 : decode b_X_report 5 = .ok (.ifCond .lt 10, 3) := by decide +kernel
theorem d_X_report_8 : decode b_X_report 8 = .ok (.iload_n 1, 1) := by decide +kernel
theorem d_X_report_9 : decode b_X_report 9 = .ok (.sipush 9999, 3) := by decide +kernel
theorem d_X_report_12 : decode b_X_report 12 = .ok (.if_icmp .le 13, 3) := by decide +kernel
theorem d_X_report_15 : decode b_X_report 15 = .ok (.new 79, 3) := by decide +kernel
theorem d_X_report_18 : decode b_X_report 18 = .ok (.dup, 1) := by decide +kernel
theorem d_X_report_19 : decode b_X_report 19 = .ok (.ldc 81, 2) := by decide +kernel
theorem d_X_report_21 : decode b_X_report 21 = .ok (.invokespecial 83, 3) := by decide +kernel
theorem d_X_report_24 : decode b_X_report 24 = .ok (.athrow, 1) := by decide +kernel
theorem d_X_report_25 : decode b_X_report 25 = .ok (.aload_n 0, 1) := by decide +kernel
theorem d_X_report_26 : decode b_X_report 26 = .ok (.invokevirtual 86, 3) := by decide +kernel
theorem d_X_report_29 : decode b_X_report 29 = .ok (.aload_n 0, 1) := by decide +kernel
theorem d_X_report_30 : decode b_X_report 30 = .ok (.new 9, 3) := by decide +kernel
theorem d_X_report_33 : decode b_X_report 33 = .ok (.dup, 1) := by decide +kernel
theorem d_X_report_34 : decode b_X_report 34 = .ok (.iload_n 1, 1) := by decide +kernel
theorem d_X_report_35 : decode b_X_report 35 = .ok (.iload_n 2, 1) := by decide +kernel
theorem d_X_report_36 : decode b_X_report 36 = .ok (.aload_n 0, 1) := by decide +kernel
theorem d_X_report_37 : decode b_X_report 37 = .ok (.getfield 26, 3) := by decide +kernel
theorem d_X_report_40 : decode b_X_report 40 = .ok (.iconst (-1), 1) := by decide +kernel
theorem d_X_report_41 : decode b_X_report 41 = .ok (.invokespecial 89, 3) := by decide +kernel
theorem d_X_report_44 : decode b_X_report 44 = .ok (.invokevirtual 92, 3) := by decide +kernel
theorem d_X_report_47 : decode b_X_report 47 = .ok (.ireturn, 1) := by decide +kernel
def y_X_ask : MethodName := ⟨cR0, "ask", "(IIZ)V"⟩
abbrev b_X_ask : ByteArray := prog_1_method_3_code
abbrev k_X_ask : Cond := .code y_X_ask b_X_ask 4 none
theorem mc_X_ask : MC y_X_ask k_X_ask b_X_ask 4 none [] 3 := ⟨g_in (List.mem_of_getElem? (i := 396) (by decide +kernel)) (by decide +kernel), Or.inl ⟨rfl, rfl⟩, g_in (List.mem_of_getElem? (i := 57) (by decide +kernel)) (by decide +kernel), by decide, by decide +kernel⟩
theorem in_X_ask : Cond.instanceMethod y_X_ask ∈ g_ws := g_in (List.mem_of_getElem? (i := 394) (by decide +kernel)) (by decide +kernel)
theorem se_X_ask : Cond.selects cR0 y_X_ask y_X_ask ∈ g_ws := g_in (List.mem_of_getElem? (i := 395) (by decide +kernel)) (by decide +kernel)
theorem d_X_ask_0 : decode b_X_ask 0 = .ok (.iload_n 1, 1) := by decide +kernel
theorem d_X_ask_1 : decode b_X_ask 1 = .ok (.invokestatic 75, 3) := by decide +kernel
theorem d_X_ask_4 : decode b_X_ask 4 = .ok (.iload_n 2, 1) := by decide +kernel
theorem d_X_ask_5 : decode b_X_ask 5 = .ok (.invokestatic 96, 3) := by decide +kernel
theorem d_X_ask_8 : decode b_X_ask 8 = .ok (.aload_n 0, 1) := by decide +kernel
theorem d_X_ask_9 : decode b_X_ask 9 = .ok (.getfield 19, 3) := by decide +kernel
theorem d_X_ask_12 : decode b_X_ask 12 = .ok (.iload_n 1, 1) := by decide +kernel
theorem d_X_ask_13 : decode b_X_ask 13 = .ok (.aload_n 0, 1) := by decide +kernel
theorem d_X_ask_14 : decode b_X_ask 14 = .ok (.getfield 19, 3) := by decide +kernel
theorem d_X_ask_17 : decode b_X_ask 17 = .ok (.iload_n 1, 1) := by decide +kernel
theorem d_X_ask_18 : decode b_X_ask 18 = .ok (.iaload, 1) := by decide +kernel
theorem d_X_ask_19 : decode b_X_ask 19 = .ok (.iload_n 2, 1) := by decide +kernel
theorem d_X_ask_20 : decode b_X_ask 20 = .ok (.iload_n 3, 1) := by decide +kernel
theorem d_X_ask_21 : decode b_X_ask 21 = .ok (.invokestatic 99, 3) := by decide +kernel
theorem d_X_ask_24 : decode b_X_ask 24 = .ok (.iastore, 1) := by decide +kernel
theorem d_X_ask_25 : decode b_X_ask 25 = .ok (.return_, 1) := by decide +kernel
def y_X_field : MethodName := ⟨cR0, "field", "(III)V"⟩
abbrev b_X_field : ByteArray := prog_1_method_4_code
abbrev k_X_field : Cond := .code y_X_field b_X_field 5 none
theorem mc_X_field : MC y_X_field k_X_field b_X_field 5 none [] 3 := ⟨g_in (List.mem_of_getElem? (i := 411) (by decide +kernel)) (by decide +kernel), Or.inl ⟨rfl, rfl⟩, g_in (List.mem_of_getElem? (i := 57) (by decide +kernel)) (by decide +kernel), by decide, by decide +kernel⟩
theorem in_X_field : Cond.instanceMethod y_X_field ∈ g_ws := g_in (List.mem_of_getElem? (i := 409) (by decide +kernel)) (by decide +kernel)
theorem se_X_field : Cond.selects cR0 y_X_field y_X_field ∈ g_ws := g_in (List.mem_of_getElem? (i := 410) (by decide +kernel)) (by decide +kernel)
theorem d_X_field_0 : decode b_X_field 0 = .ok (.aload_n 0, 1) := by decide +kernel
theorem d_X_field_1 : decode b_X_field 1 = .ok (.iload_n 1, 1) := by decide +kernel
theorem d_X_field_2 : decode b_X_field 2 = .ok (.invokevirtual 103, 3) := by decide +kernel
theorem d_X_field_5 : decode b_X_field 5 = .ok (.astore 4, 2) := by decide +kernel
theorem d_X_field_7 : decode b_X_field 7 = .ok (.iload_n 2, 1) := by decide +kernel
theorem d_X_field_8 : decode b_X_field 8 = .ok (.invokestatic 96, 3) := by decide +kernel
theorem d_X_field_11 : decode b_X_field 11 = .ok (.iload_n 3, 1) := by decide +kernel
theorem d_X_field_12 : decode b_X_field 12 = .ok (.ldc 107, 2) := by decide +kernel
theorem d_X_field_14 : decode b_X_field 14 = .ok (.if_icmp .lt 9, 3) := by decide +kernel
theorem d_X_field_17 : decode b_X_field 17 = .ok (.iload_n 3, 1) := by decide +kernel
theorem d_X_field_18 : decode b_X_field 18 = .ok (.ldc 108, 2) := by decide +kernel
theorem d_X_field_20 : decode b_X_field 20 = .ok (.if_icmp .le 13, 3) := by decide +kernel
theorem d_X_field_23 : decode b_X_field 23 = .ok (.new 79, 3) := by decide +kernel
theorem d_X_field_26 : decode b_X_field 26 = .ok (.dup, 1) := by decide +kernel
theorem d_X_field_27 : decode b_X_field 27 = .ok (.ldc 109, 2) := by decide +kernel
theorem d_X_field_29 : decode b_X_field 29 = .ok (.invokespecial 83, 3) := by decide +kernel
theorem d_X_field_32 : decode b_X_field 32 = .ok (.athrow, 1) := by decide +kernel
theorem d_X_field_33 : decode b_X_field 33 = .ok (.aload 4, 2) := by decide +kernel
theorem d_X_field_35 : decode b_X_field 35 = .ok (.iload_n 2, 1) := by decide +kernel
theorem d_X_field_36 : decode b_X_field 36 = .ok (.invokevirtual 111, 3) := by decide +kernel
theorem d_X_field_39 : decode b_X_field 39 = .ok (.ifCond .ne 13, 3) := by decide +kernel
theorem d_X_field_42 : decode b_X_field 42 = .ok (.new 115, 3) := by decide +kernel
theorem d_X_field_45 : decode b_X_field 45 = .ok (.dup, 1) := by decide +kernel
theorem d_X_field_46 : decode b_X_field 46 = .ok (.ldc 117, 2) := by decide +kernel
theorem d_X_field_48 : decode b_X_field 48 = .ok (.invokespecial 119, 3) := by decide +kernel
theorem d_X_field_51 : decode b_X_field 51 = .ok (.athrow, 1) := by decide +kernel
theorem d_X_field_52 : decode b_X_field 52 = .ok (.aload 4, 2) := by decide +kernel
theorem d_X_field_54 : decode b_X_field 54 = .ok (.iload_n 2, 1) := by decide +kernel
theorem d_X_field_55 : decode b_X_field 55 = .ok (.iload_n 3, 1) := by decide +kernel
theorem d_X_field_56 : decode b_X_field 56 = .ok (.invokevirtual 120, 3) := by decide +kernel
theorem d_X_field_59 : decode b_X_field 59 = .ok (.return_, 1) := by decide +kernel
def y_X_act : MethodName := ⟨cR0, "act", "(III)Z"⟩
abbrev b_X_act : ByteArray := prog_1_method_5_code
abbrev k_X_act : Cond := .code y_X_act b_X_act 5 (some .boolean)
theorem mc_X_act : MC y_X_act k_X_act b_X_act 5 (some .boolean) [] 3 := ⟨g_in (List.mem_of_getElem? (i := 454) (by decide +kernel)) (by decide +kernel), Or.inl ⟨rfl, rfl⟩, g_in (List.mem_of_getElem? (i := 57) (by decide +kernel)) (by decide +kernel), by decide, by decide +kernel⟩
theorem in_X_act : Cond.instanceMethod y_X_act ∈ g_ws := g_in (List.mem_of_getElem? (i := 452) (by decide +kernel)) (by decide +kernel)
theorem se_X_act : Cond.selects cR0 y_X_act y_X_act ∈ g_ws := g_in (List.mem_of_getElem? (i := 453) (by decide +kernel)) (by decide +kernel)
theorem d_X_act_0 : decode b_X_act 0 = .ok (.aload_n 0, 1) := by decide +kernel
theorem d_X_act_1 : decode b_X_act 1 = .ok (.iload_n 1, 1) := by decide +kernel
theorem d_X_act_2 : decode b_X_act 2 = .ok (.invokevirtual 103, 3) := by decide +kernel
theorem d_X_act_5 : decode b_X_act 5 = .ok (.astore 4, 2) := by decide +kernel
theorem d_X_act_7 : decode b_X_act 7 = .ok (.iload_n 2, 1) := by decide +kernel
theorem d_X_act_8 : decode b_X_act 8 = .ok (.ifCond .lt 9, 3) := by decide +kernel
theorem d_X_act_11 : decode b_X_act 11 = .ok (.iload_n 2, 1) := by decide +kernel
theorem d_X_act_12 : decode b_X_act 12 = .ok (.bipush 10, 2) := by decide +kernel
theorem d_X_act_14 : decode b_X_act 14 = .ok (.if_icmp .lt 13, 3) := by decide +kernel
theorem d_X_act_17 : decode b_X_act 17 = .ok (.new 124, 3) := by decide +kernel
theorem d_X_act_20 : decode b_X_act 20 = .ok (.dup, 1) := by decide +kernel
theorem d_X_act_21 : decode b_X_act 21 = .ok (.ldc 126, 2) := by decide +kernel
theorem d_X_act_23 : decode b_X_act 23 = .ok (.invokespecial 128, 3) := by decide +kernel
theorem d_X_act_26 : decode b_X_act 26 = .ok (.athrow, 1) := by decide +kernel
theorem d_X_act_27 : decode b_X_act 27 = .ok (.iload_n 3, 1) := by decide +kernel
theorem d_X_act_28 : decode b_X_act 28 = .ok (.ifCond .lt 11, 3) := by decide +kernel
theorem d_X_act_31 : decode b_X_act 31 = .ok (.iload_n 3, 1) := by decide +kernel
theorem d_X_act_32 : decode b_X_act 32 = .ok (.aload_n 0, 1) := by decide +kernel
theorem d_X_act_33 : decode b_X_act 33 = .ok (.getfield 26, 3) := by decide +kernel
theorem d_X_act_36 : decode b_X_act 36 = .ok (.if_icmp .le 13, 3) := by decide +kernel
theorem d_X_act_39 : decode b_X_act 39 = .ok (.new 79, 3) := by decide +kernel
theorem d_X_act_42 : decode b_X_act 42 = .ok (.dup, 1) := by decide +kernel
theorem d_X_act_43 : decode b_X_act 43 = .ok (.ldc 129, 2) := by decide +kernel
theorem d_X_act_45 : decode b_X_act 45 = .ok (.invokespecial 83, 3) := by decide +kernel
theorem d_X_act_48 : decode b_X_act 48 = .ok (.athrow, 1) := by decide +kernel
theorem d_X_act_49 : decode b_X_act 49 = .ok (.aload 4, 2) := by decide +kernel
theorem d_X_act_51 : decode b_X_act 51 = .ok (.invokestatic 131, 3) := by decide +kernel
theorem d_X_act_54 : decode b_X_act 54 = .ok (.aload 4, 2) := by decide +kernel
theorem d_X_act_56 : decode b_X_act 56 = .ok (.iload_n 2, 1) := by decide +kernel
theorem d_X_act_57 : decode b_X_act 57 = .ok (.iload_n 3, 1) := by decide +kernel
theorem d_X_act_58 : decode b_X_act 58 = .ok (.invokevirtual 135, 3) := by decide +kernel
theorem d_X_act_61 : decode b_X_act 61 = .ok (.ireturn, 1) := by decide +kernel
def y_X_inside : MethodName := ⟨cR0, "inside", "(II)V"⟩
abbrev b_X_inside : ByteArray := prog_1_method_6_code
abbrev k_X_inside : Cond := .code y_X_inside b_X_inside 4 none
theorem mc_X_inside : MC y_X_inside k_X_inside b_X_inside 4 none [] 2 := ⟨g_in (List.mem_of_getElem? (i := 471) (by decide +kernel)) (by decide +kernel), Or.inl ⟨rfl, rfl⟩, g_in (List.mem_of_getElem? (i := 57) (by decide +kernel)) (by decide +kernel), by decide, by decide +kernel⟩
theorem in_X_inside : Cond.instanceMethod y_X_inside ∈ g_ws := g_in (List.mem_of_getElem? (i := 469) (by decide +kernel)) (by decide +kernel)
theorem se_X_inside : Cond.selects cR0 y_X_inside y_X_inside ∈ g_ws := g_in (List.mem_of_getElem? (i := 470) (by decide +kernel)) (by decide +kernel)
theorem d_X_inside_0 : decode b_X_inside 0 = .ok (.aload_n 0, 1) := by decide +kernel
theorem d_X_inside_1 : decode b_X_inside 1 = .ok (.iload_n 1, 1) := by decide +kernel
theorem d_X_inside_2 : decode b_X_inside 2 = .ok (.invokevirtual 103, 3) := by decide +kernel
theorem d_X_inside_5 : decode b_X_inside 5 = .ok (.astore_n 3, 1) := by decide +kernel
theorem d_X_inside_6 : decode b_X_inside 6 = .ok (.iload_n 2, 1) := by decide +kernel
theorem d_X_inside_7 : decode b_X_inside 7 = .ok (.ifCond .lt 9, 3) := by decide +kernel
theorem d_X_inside_10 : decode b_X_inside 10 = .ok (.iload_n 2, 1) := by decide +kernel
theorem d_X_inside_11 : decode b_X_inside 11 = .ok (.bipush 99, 2) := by decide +kernel
theorem d_X_inside_13 : decode b_X_inside 13 = .ok (.if_icmp .le 13, 3) := by decide +kernel
theorem d_X_inside_16 : decode b_X_inside 16 = .ok (.new 79, 3) := by decide +kernel
theorem d_X_inside_19 : decode b_X_inside 19 = .ok (.dup, 1) := by decide +kernel
theorem d_X_inside_20 : decode b_X_inside 20 = .ok (.ldc 139, 2) := by decide +kernel
theorem d_X_inside_22 : decode b_X_inside 22 = .ok (.invokespecial 83, 3) := by decide +kernel
theorem d_X_inside_25 : decode b_X_inside 25 = .ok (.athrow, 1) := by decide +kernel
theorem d_X_inside_26 : decode b_X_inside 26 = .ok (.aload_n 3, 1) := by decide +kernel
theorem d_X_inside_27 : decode b_X_inside 27 = .ok (.invokestatic 131, 3) := by decide +kernel
theorem d_X_inside_30 : decode b_X_inside 30 = .ok (.aload_n 3, 1) := by decide +kernel
theorem d_X_inside_31 : decode b_X_inside 31 = .ok (.iload_n 2, 1) := by decide +kernel
theorem d_X_inside_32 : decode b_X_inside 32 = .ok (.putfield 141, 3) := by decide +kernel
theorem d_X_inside_35 : decode b_X_inside 35 = .ok (.return_, 1) := by decide +kernel
def y_X_sign : MethodName := ⟨cR0, "sign", "(JI)I"⟩
abbrev b_X_sign : ByteArray := prog_1_method_7_code
abbrev k_X_sign : Cond := .code y_X_sign b_X_sign 5 (some .int)
theorem mc_X_sign : MC y_X_sign k_X_sign b_X_sign 5 (some .int) [] 2 := ⟨g_in (List.mem_of_getElem? (i := 479) (by decide +kernel)) (by decide +kernel), Or.inl ⟨rfl, rfl⟩, g_in (List.mem_of_getElem? (i := 57) (by decide +kernel)) (by decide +kernel), by decide, by decide +kernel⟩
theorem in_X_sign : Cond.instanceMethod y_X_sign ∈ g_ws := g_in (List.mem_of_getElem? (i := 477) (by decide +kernel)) (by decide +kernel)
theorem se_X_sign : Cond.selects cR0 y_X_sign y_X_sign ∈ g_ws := g_in (List.mem_of_getElem? (i := 478) (by decide +kernel)) (by decide +kernel)
theorem d_X_sign_0 : decode b_X_sign 0 = .ok (.iload_n 3, 1) := by decide +kernel
theorem d_X_sign_1 : decode b_X_sign 1 = .ok (.iconst 1, 1) := by decide +kernel
theorem d_X_sign_2 : decode b_X_sign 2 = .ok (.if_icmp .lt 9, 3) := by decide +kernel
theorem d_X_sign_5 : decode b_X_sign 5 = .ok (.iload_n 3, 1) := by decide +kernel
theorem d_X_sign_6 : decode b_X_sign 6 = .ok (.bipush 8, 2) := by decide +kernel
theorem d_X_sign_8 : decode b_X_sign 8 = .ok (.if_icmp .le 13, 3) := by decide +kernel
theorem d_X_sign_11 : decode b_X_sign 11 = .ok (.new 79, 3) := by decide +kernel
theorem d_X_sign_14 : decode b_X_sign 14 = .ok (.dup, 1) := by decide +kernel
theorem d_X_sign_15 : decode b_X_sign 15 = .ok (.ldc 144, 2) := by decide +kernel
theorem d_X_sign_17 : decode b_X_sign 17 = .ok (.invokespecial 83, 3) := by decide +kernel
theorem d_X_sign_20 : decode b_X_sign 20 = .ok (.athrow, 1) := by decide +kernel
theorem d_X_sign_21 : decode b_X_sign 21 = .ok (.aload_n 0, 1) := by decide +kernel
theorem d_X_sign_22 : decode b_X_sign 22 = .ok (.getfield 33, 3) := by decide +kernel
theorem d_X_sign_25 : decode b_X_sign 25 = .ok (.iload_n 3, 1) := by decide +kernel
theorem d_X_sign_26 : decode b_X_sign 26 = .ok (.iadd, 1) := by decide +kernel
theorem d_X_sign_27 : decode b_X_sign 27 = .ok (.sipush 300, 3) := by decide +kernel
theorem d_X_sign_30 : decode b_X_sign 30 = .ok (.if_icmp .le 13, 3) := by decide +kernel
theorem d_X_sign_33 : decode b_X_sign 33 = .ok (.new 146, 3) := by decide +kernel
theorem d_X_sign_36 : decode b_X_sign 36 = .ok (.dup, 1) := by decide +kernel
theorem d_X_sign_37 : decode b_X_sign 37 = .ok (.ldc 148, 2) := by decide +kernel
theorem d_X_sign_39 : decode b_X_sign 39 = .ok (.invokespecial 150, 3) := by decide +kernel
theorem d_X_sign_42 : decode b_X_sign 42 = .ok (.athrow, 1) := by decide +kernel
theorem d_X_sign_43 : decode b_X_sign 43 = .ok (.iload_n 3, 1) := by decide +kernel
theorem d_X_sign_44 : decode b_X_sign 44 = .ok (.iconst 1, 1) := by decide +kernel
theorem d_X_sign_45 : decode b_X_sign 45 = .ok (.isub, 1) := by decide +kernel
theorem d_X_sign_46 : decode b_X_sign 46 = .ok (.istore 4, 2) := by decide +kernel
theorem d_X_sign_48 : decode b_X_sign 48 = .ok (.iload 4, 2) := by decide +kernel
theorem d_X_sign_50 : decode b_X_sign 50 = .ok (.ifCond .lt 37, 3) := by decide +kernel
theorem d_X_sign_53 : decode b_X_sign 53 = .ok (.aload_n 0, 1) := by decide +kernel
theorem d_X_sign_54 : decode b_X_sign 54 = .ok (.getfield 29, 3) := by decide +kernel
theorem d_X_sign_57 : decode b_X_sign 57 = .ok (.aload_n 0, 1) := by decide +kernel
theorem d_X_sign_58 : decode b_X_sign 58 = .ok (.getfield 33, 3) := by decide +kernel
theorem d_X_sign_61 : decode b_X_sign 61 = .ok (.lload_n 1, 1) := by decide +kernel
theorem d_X_sign_62 : decode b_X_sign 62 = .ok (.bipush 8, 2) := by decide +kernel
theorem d_X_sign_64 : decode b_X_sign 64 = .ok (.iload 4, 2) := by decide +kernel
theorem d_X_sign_66 : decode b_X_sign 66 = .ok (.imul, 1) := by decide +kernel
theorem d_X_sign_67 : decode b_X_sign 67 = .ok (.lushr, 1) := by decide +kernel
theorem d_X_sign_68 : decode b_X_sign 68 = .ok (.l2i, 1) := by decide +kernel
theorem d_X_sign_69 : decode b_X_sign 69 = .ok (.i2b, 1) := by decide +kernel
theorem d_X_sign_70 : decode b_X_sign 70 = .ok (.bastore, 1) := by decide +kernel
theorem d_X_sign_71 : decode b_X_sign 71 = .ok (.aload_n 0, 1) := by decide +kernel
theorem d_X_sign_72 : decode b_X_sign 72 = .ok (.dup, 1) := by decide +kernel
theorem d_X_sign_73 : decode b_X_sign 73 = .ok (.getfield 33, 3) := by decide +kernel
theorem d_X_sign_76 : decode b_X_sign 76 = .ok (.iconst 1, 1) := by decide +kernel
theorem d_X_sign_77 : decode b_X_sign 77 = .ok (.iadd, 1) := by decide +kernel
theorem d_X_sign_78 : decode b_X_sign 78 = .ok (.putfield 33, 3) := by decide +kernel
theorem d_X_sign_81 : decode b_X_sign 81 = .ok (.iinc 4 (-1), 3) := by decide +kernel
theorem d_X_sign_84 : decode b_X_sign 84 = .ok (.goto (-36), 3) := by decide +kernel
theorem d_X_sign_87 : decode b_X_sign 87 = .ok (.aload_n 0, 1) := by decide +kernel
theorem d_X_sign_88 : decode b_X_sign 88 = .ok (.getfield 33, 3) := by decide +kernel
theorem d_X_sign_91 : decode b_X_sign 91 = .ok (.ireturn, 1) := by decide +kernel
def y_X_rules : MethodName := ⟨cR0, "rules", "()I"⟩
abbrev b_X_rules : ByteArray := prog_1_method_8_code
abbrev k_X_rules : Cond := .code y_X_rules b_X_rules 2 (some .int)
theorem mc_X_rules : MC y_X_rules k_X_rules b_X_rules 2 (some .int) [] 0 := ⟨g_in (List.mem_of_getElem? (i := 488) (by decide +kernel)) (by decide +kernel), Or.inl ⟨rfl, rfl⟩, g_in (List.mem_of_getElem? (i := 57) (by decide +kernel)) (by decide +kernel), by decide, by decide +kernel⟩
theorem in_X_rules : Cond.instanceMethod y_X_rules ∈ g_ws := g_in (List.mem_of_getElem? (i := 486) (by decide +kernel)) (by decide +kernel)
theorem se_X_rules : Cond.selects cR0 y_X_rules y_X_rules ∈ g_ws := g_in (List.mem_of_getElem? (i := 487) (by decide +kernel)) (by decide +kernel)
theorem d_X_rules_0 : decode b_X_rules 0 = .ok (.aload_n 0, 1) := by decide +kernel
theorem d_X_rules_1 : decode b_X_rules 1 = .ok (.aload_n 0, 1) := by decide +kernel
theorem d_X_rules_2 : decode b_X_rules 2 = .ok (.getfield 41, 3) := by decide +kernel
theorem d_X_rules_5 : decode b_X_rules 5 = .ok (.aload_n 0, 1) := by decide +kernel
theorem d_X_rules_6 : decode b_X_rules 6 = .ok (.getfield 52, 3) := by decide +kernel
theorem d_X_rules_9 : decode b_X_rules 9 = .ok (.aload_n 0, 1) := by decide +kernel
theorem d_X_rules_10 : decode b_X_rules 10 = .ok (.getfield 33, 3) := by decide +kernel
theorem d_X_rules_13 : decode b_X_rules 13 = .ok (.invokevirtual 151, 3) := by decide +kernel
theorem d_X_rules_16 : decode b_X_rules 16 = .ok (.putfield 55, 3) := by decide +kernel
theorem d_X_rules_19 : decode b_X_rules 19 = .ok (.aload_n 0, 1) := by decide +kernel
theorem d_X_rules_20 : decode b_X_rules 20 = .ok (.iconst 0, 1) := by decide +kernel
theorem d_X_rules_21 : decode b_X_rules 21 = .ok (.putfield 33, 3) := by decide +kernel
theorem d_X_rules_24 : decode b_X_rules 24 = .ok (.aload_n 0, 1) := by decide +kernel
theorem d_X_rules_25 : decode b_X_rules 25 = .ok (.getfield 55, 3) := by decide +kernel
theorem d_X_rules_28 : decode b_X_rules 28 = .ok (.iconst (-1), 1) := by decide +kernel
theorem d_X_rules_29 : decode b_X_rules 29 = .ok (.if_icmp .eq 13, 3) := by decide +kernel
theorem d_X_rules_32 : decode b_X_rules 32 = .ok (.new 115, 3) := by decide +kernel
theorem d_X_rules_35 : decode b_X_rules 35 = .ok (.dup, 1) := by decide +kernel
theorem d_X_rules_36 : decode b_X_rules 36 = .ok (.ldc 155, 2) := by decide +kernel
theorem d_X_rules_38 : decode b_X_rules 38 = .ok (.invokespecial 119, 3) := by decide +kernel
theorem d_X_rules_41 : decode b_X_rules 41 = .ok (.athrow, 1) := by decide +kernel
theorem d_X_rules_42 : decode b_X_rules 42 = .ok (.aload_n 0, 1) := by decide +kernel
theorem d_X_rules_43 : decode b_X_rules 43 = .ok (.getfield 48, 3) := by decide +kernel
theorem d_X_rules_46 : decode b_X_rules 46 = .ok (.astore_n 1, 1) := by decide +kernel
theorem d_X_rules_47 : decode b_X_rules 47 = .ok (.aload_n 0, 1) := by decide +kernel
theorem d_X_rules_48 : decode b_X_rules 48 = .ok (.aload_n 0, 1) := by decide +kernel
theorem d_X_rules_49 : decode b_X_rules 49 = .ok (.getfield 52, 3) := by decide +kernel
theorem d_X_rules_52 : decode b_X_rules 52 = .ok (.putfield 48, 3) := by decide +kernel
theorem d_X_rules_55 : decode b_X_rules 55 = .ok (.aload_n 0, 1) := by decide +kernel
theorem d_X_rules_56 : decode b_X_rules 56 = .ok (.aload_n 1, 1) := by decide +kernel
theorem d_X_rules_57 : decode b_X_rules 57 = .ok (.putfield 52, 3) := by decide +kernel
theorem d_X_rules_60 : decode b_X_rules 60 = .ok (.aload_n 0, 1) := by decide +kernel
theorem d_X_rules_61 : decode b_X_rules 61 = .ok (.getfield 48, 3) := by decide +kernel
theorem d_X_rules_64 : decode b_X_rules 64 = .ok (.getfield 157, 3) := by decide +kernel
theorem d_X_rules_67 : decode b_X_rules 67 = .ok (.ireturn, 1) := by decide +kernel
def y_X_place : MethodName := ⟨cR0, "place", "()I"⟩
abbrev b_X_place : ByteArray := prog_1_method_9_code
abbrev k_X_place : Cond := .code y_X_place b_X_place 1 (some .int)
theorem mc_X_place : MC y_X_place k_X_place b_X_place 1 (some .int) [] 0 := ⟨g_in (List.mem_of_getElem? (i := 215) (by decide +kernel)) (by decide +kernel), Or.inl ⟨rfl, rfl⟩, g_in (List.mem_of_getElem? (i := 57) (by decide +kernel)) (by decide +kernel), by decide, by decide +kernel⟩
theorem in_X_place : Cond.instanceMethod y_X_place ∈ g_ws := g_in (List.mem_of_getElem? (i := 213) (by decide +kernel)) (by decide +kernel)
theorem se_X_place : Cond.selects cR0 y_X_place y_X_place ∈ g_ws := g_in (List.mem_of_getElem? (i := 214) (by decide +kernel)) (by decide +kernel)
theorem d_X_place_0 : decode b_X_place 0 = .ok (.aload_n 0, 1) := by decide +kernel
theorem d_X_place_1 : decode b_X_place 1 = .ok (.getfield 55, 3) := by decide +kernel
theorem d_X_place_4 : decode b_X_place 4 = .ok (.ireturn, 1) := by decide +kernel
def y_X_check : MethodName := ⟨cR0, "check", "(I)I"⟩
abbrev b_X_check : ByteArray := prog_1_method_10_code
abbrev k_X_check : Cond := .code y_X_check b_X_check 2 (some .int)
theorem mc_X_check : MC y_X_check k_X_check b_X_check 2 (some .int) [] 1 := ⟨g_in (List.mem_of_getElem? (i := 549) (by decide +kernel)) (by decide +kernel), Or.inl ⟨rfl, rfl⟩, g_in (List.mem_of_getElem? (i := 57) (by decide +kernel)) (by decide +kernel), by decide, by decide +kernel⟩
theorem in_X_check : Cond.instanceMethod y_X_check ∈ g_ws := g_in (List.mem_of_getElem? (i := 547) (by decide +kernel)) (by decide +kernel)
theorem se_X_check : Cond.selects cR0 y_X_check y_X_check ∈ g_ws := g_in (List.mem_of_getElem? (i := 548) (by decide +kernel)) (by decide +kernel)
theorem d_X_check_0 : decode b_X_check 0 = .ok (.aload_n 0, 1) := by decide +kernel
theorem d_X_check_1 : decode b_X_check 1 = .ok (.aload_n 0, 1) := by decide +kernel
theorem d_X_check_2 : decode b_X_check 2 = .ok (.iload_n 1, 1) := by decide +kernel
theorem d_X_check_3 : decode b_X_check 3 = .ok (.invokevirtual 103, 3) := by decide +kernel
theorem d_X_check_6 : decode b_X_check 6 = .ok (.aload_n 0, 1) := by decide +kernel
theorem d_X_check_7 : decode b_X_check 7 = .ok (.getfield 61, 3) := by decide +kernel
theorem d_X_check_10 : decode b_X_check 10 = .ok (.invokevirtual 160, 3) := by decide +kernel
theorem d_X_check_13 : decode b_X_check 13 = .ok (.aload_n 0, 1) := by decide +kernel
theorem d_X_check_14 : decode b_X_check 14 = .ok (.getfield 61, 3) := by decide +kernel
theorem d_X_check_17 : decode b_X_check 17 = .ok (.getfield 164, 3) := by decide +kernel
theorem d_X_check_20 : decode b_X_check 20 = .ok (.ireturn, 1) := by decide +kernel
def y_X_wanting : MethodName := ⟨cR0, "wanting", "(II)I"⟩
abbrev b_X_wanting : ByteArray := prog_1_method_11_code
abbrev k_X_wanting : Cond := .code y_X_wanting b_X_wanting 3 (some .int)
theorem mc_X_wanting : MC y_X_wanting k_X_wanting b_X_wanting 3 (some .int) [] 2 := ⟨g_in (List.mem_of_getElem? (i := 580) (by decide +kernel)) (by decide +kernel), Or.inl ⟨rfl, rfl⟩, g_in (List.mem_of_getElem? (i := 57) (by decide +kernel)) (by decide +kernel), by decide, by decide +kernel⟩
theorem in_X_wanting : Cond.instanceMethod y_X_wanting ∈ g_ws := g_in (List.mem_of_getElem? (i := 578) (by decide +kernel)) (by decide +kernel)
theorem se_X_wanting : Cond.selects cR0 y_X_wanting y_X_wanting ∈ g_ws := g_in (List.mem_of_getElem? (i := 579) (by decide +kernel)) (by decide +kernel)
theorem d_X_wanting_0 : decode b_X_wanting 0 = .ok (.iload_n 1, 1) := by decide +kernel
theorem d_X_wanting_1 : decode b_X_wanting 1 = .ok (.ifCond .lt 14, 3) := by decide +kernel
theorem d_X_wanting_4 : decode b_X_wanting 4 = .ok (.iload_n 1, 1) := by decide +kernel
theorem d_X_wanting_5 : decode b_X_wanting 5 = .ok (.aload_n 0, 1) := by decide +kernel
theorem d_X_wanting_6 : decode b_X_wanting 6 = .ok (.getfield 61, 3) := by decide +kernel
theorem d_X_wanting_9 : decode b_X_wanting 9 = .ok (.getfield 164, 3) := by decide +kernel
theorem d_X_wanting_12 : decode b_X_wanting 12 = .ok (.if_icmp .lt 13, 3) := by decide +kernel
theorem d_X_wanting_15 : decode b_X_wanting 15 = .ok (.new 124, 3) := by decide +kernel
theorem d_X_wanting_18 : decode b_X_wanting 18 = .ok (.dup, 1) := by decide +kernel
theorem d_X_wanting_19 : decode b_X_wanting 19 = .ok (.ldc 165, 2) := by decide +kernel
theorem d_X_wanting_21 : decode b_X_wanting 21 = .ok (.invokespecial 128, 3) := by decide +kernel
theorem d_X_wanting_24 : decode b_X_wanting 24 = .ok (.athrow, 1) := by decide +kernel
theorem d_X_wanting_25 : decode b_X_wanting 25 = .ok (.iload_n 2, 1) := by decide +kernel
theorem d_X_wanting_26 : decode b_X_wanting 26 = .ok (.lookupswitch 46 #[(0, 26), (1, 36)], 26) := by decide +kernel
theorem d_X_wanting_52 : decode b_X_wanting 52 = .ok (.aload_n 0, 1) := by decide +kernel
theorem d_X_wanting_53 : decode b_X_wanting 53 = .ok (.getfield 61, 3) := by decide +kernel
theorem d_X_wanting_56 : decode b_X_wanting 56 = .ok (.getfield 167, 3) := by decide +kernel
theorem d_X_wanting_59 : decode b_X_wanting 59 = .ok (.iload_n 1, 1) := by decide +kernel
theorem d_X_wanting_60 : decode b_X_wanting 60 = .ok (.iaload, 1) := by decide +kernel
theorem d_X_wanting_61 : decode b_X_wanting 61 = .ok (.ireturn, 1) := by decide +kernel
theorem d_X_wanting_62 : decode b_X_wanting 62 = .ok (.aload_n 0, 1) := by decide +kernel
theorem d_X_wanting_63 : decode b_X_wanting 63 = .ok (.getfield 61, 3) := by decide +kernel
theorem d_X_wanting_66 : decode b_X_wanting 66 = .ok (.getfield 170, 3) := by decide +kernel
theorem d_X_wanting_69 : decode b_X_wanting 69 = .ok (.iload_n 1, 1) := by decide +kernel
theorem d_X_wanting_70 : decode b_X_wanting 70 = .ok (.iaload, 1) := by decide +kernel
theorem d_X_wanting_71 : decode b_X_wanting 71 = .ok (.ireturn, 1) := by decide +kernel
theorem d_X_wanting_72 : decode b_X_wanting 72 = .ok (.new 124, 3) := by decide +kernel
theorem d_X_wanting_75 : decode b_X_wanting 75 = .ok (.dup, 1) := by decide +kernel
theorem d_X_wanting_76 : decode b_X_wanting 76 = .ok (.ldc 173, 2) := by decide +kernel
theorem d_X_wanting_78 : decode b_X_wanting 78 = .ok (.invokespecial 128, 3) := by decide +kernel
theorem d_X_wanting_81 : decode b_X_wanting 81 = .ok (.athrow, 1) := by decide +kernel
def y_X_put : MethodName := ⟨cR0, "put", "(II)I"⟩
abbrev b_X_put : ByteArray := prog_1_method_12_code
abbrev k_X_put : Cond := .code y_X_put b_X_put 4 (some .int)
theorem mc_X_put : MC y_X_put k_X_put b_X_put 4 (some .int) [] 2 := ⟨g_in (List.mem_of_getElem? (i := 589) (by decide +kernel)) (by decide +kernel), Or.inl ⟨rfl, rfl⟩, g_in (List.mem_of_getElem? (i := 57) (by decide +kernel)) (by decide +kernel), by decide, by decide +kernel⟩
theorem in_X_put : Cond.instanceMethod y_X_put ∈ g_ws := g_in (List.mem_of_getElem? (i := 587) (by decide +kernel)) (by decide +kernel)
theorem se_X_put : Cond.selects cR0 y_X_put y_X_put ∈ g_ws := g_in (List.mem_of_getElem? (i := 588) (by decide +kernel)) (by decide +kernel)
theorem d_X_put_0 : decode b_X_put 0 = .ok (.aload_n 0, 1) := by decide +kernel
theorem d_X_put_1 : decode b_X_put 1 = .ok (.iload_n 1, 1) := by decide +kernel
theorem d_X_put_2 : decode b_X_put 2 = .ok (.invokevirtual 103, 3) := by decide +kernel
theorem d_X_put_5 : decode b_X_put 5 = .ok (.astore_n 3, 1) := by decide +kernel
theorem d_X_put_6 : decode b_X_put 6 = .ok (.iload_n 2, 1) := by decide +kernel
theorem d_X_put_7 : decode b_X_put 7 = .ok (.invokestatic 175, 3) := by decide +kernel
theorem d_X_put_10 : decode b_X_put 10 = .ok (.aload_n 0, 1) := by decide +kernel
theorem d_X_put_11 : decode b_X_put 11 = .ok (.aload_n 3, 1) := by decide +kernel
theorem d_X_put_12 : decode b_X_put 12 = .ok (.aload_n 0, 1) := by decide +kernel
theorem d_X_put_13 : decode b_X_put 13 = .ok (.getfield 65, 3) := by decide +kernel
theorem d_X_put_16 : decode b_X_put 16 = .ok (.invokevirtual 160, 3) := by decide +kernel
theorem d_X_put_19 : decode b_X_put 19 = .ok (.aload_n 0, 1) := by decide +kernel
theorem d_X_put_20 : decode b_X_put 20 = .ok (.getfield 65, 3) := by decide +kernel
theorem d_X_put_23 : decode b_X_put 23 = .ok (.getfield 164, 3) := by decide +kernel
theorem d_X_put_26 : decode b_X_put 26 = .ok (.ifCond .gt 11, 3) := by decide +kernel
theorem d_X_put_29 : decode b_X_put 29 = .ok (.aload_n 3, 1) := by decide +kernel
theorem d_X_put_30 : decode b_X_put 30 = .ok (.iload_n 2, 1) := by decide +kernel
theorem d_X_put_31 : decode b_X_put 31 = .ok (.invokevirtual 178, 3) := by decide +kernel
theorem d_X_put_34 : decode b_X_put 34 = .ok (.ifCond .ne 13, 3) := by decide +kernel
theorem d_X_put_37 : decode b_X_put 37 = .ok (.new 115, 3) := by decide +kernel
theorem d_X_put_40 : decode b_X_put 40 = .ok (.dup, 1) := by decide +kernel
theorem d_X_put_41 : decode b_X_put 41 = .ok (.ldc 181, 2) := by decide +kernel
theorem d_X_put_43 : decode b_X_put 43 = .ok (.invokespecial 119, 3) := by decide +kernel
theorem d_X_put_46 : decode b_X_put 46 = .ok (.athrow, 1) := by decide +kernel
theorem d_X_put_47 : decode b_X_put 47 = .ok (.aload_n 3, 1) := by decide +kernel
theorem d_X_put_48 : decode b_X_put 48 = .ok (.iload_n 2, 1) := by decide +kernel
theorem d_X_put_49 : decode b_X_put 49 = .ok (.invokevirtual 183, 3) := by decide +kernel
theorem d_X_put_52 : decode b_X_put 52 = .ok (.aload_n 3, 1) := by decide +kernel
theorem d_X_put_53 : decode b_X_put 53 = .ok (.getfield 186, 3) := by decide +kernel
theorem d_X_put_56 : decode b_X_put 56 = .ok (.ireturn, 1) := by decide +kernel
def y_X_edition : MethodName := ⟨cR0, "edition", "(I)I"⟩
abbrev b_X_edition : ByteArray := prog_1_method_13_code
abbrev k_X_edition : Cond := .code y_X_edition b_X_edition 4 (some .int)
theorem mc_X_edition : MC y_X_edition k_X_edition b_X_edition 4 (some .int) [] 1 := ⟨g_in (List.mem_of_getElem? (i := 617) (by decide +kernel)) (by decide +kernel), Or.inl ⟨rfl, rfl⟩, g_in (List.mem_of_getElem? (i := 57) (by decide +kernel)) (by decide +kernel), by decide, by decide +kernel⟩
theorem in_X_edition : Cond.instanceMethod y_X_edition ∈ g_ws := g_in (List.mem_of_getElem? (i := 615) (by decide +kernel)) (by decide +kernel)
theorem se_X_edition : Cond.selects cR0 y_X_edition y_X_edition ∈ g_ws := g_in (List.mem_of_getElem? (i := 616) (by decide +kernel)) (by decide +kernel)
theorem d_X_edition_0 : decode b_X_edition 0 = .ok (.aload_n 0, 1) := by decide +kernel
theorem d_X_edition_1 : decode b_X_edition 1 = .ok (.iload_n 1, 1) := by decide +kernel
theorem d_X_edition_2 : decode b_X_edition 2 = .ok (.invokevirtual 103, 3) := by decide +kernel
theorem d_X_edition_5 : decode b_X_edition 5 = .ok (.astore_n 2, 1) := by decide +kernel
theorem d_X_edition_6 : decode b_X_edition 6 = .ok (.aload_n 2, 1) := by decide +kernel
theorem d_X_edition_7 : decode b_X_edition 7 = .ok (.invokestatic 189, 3) := by decide +kernel
theorem d_X_edition_10 : decode b_X_edition 10 = .ok (.aload_n 0, 1) := by decide +kernel
theorem d_X_edition_11 : decode b_X_edition 11 = .ok (.invokevirtual 86, 3) := by decide +kernel
theorem d_X_edition_14 : decode b_X_edition 14 = .ok (.new 9, 3) := by decide +kernel
theorem d_X_edition_17 : decode b_X_edition 17 = .ok (.dup, 1) := by decide +kernel
theorem d_X_edition_18 : decode b_X_edition 18 = .ok (.aload_n 2, 1) := by decide +kernel
theorem d_X_edition_19 : decode b_X_edition 19 = .ok (.getfield 192, 3) := by decide +kernel
theorem d_X_edition_22 : decode b_X_edition 22 = .ok (.aload_n 2, 1) := by decide +kernel
theorem d_X_edition_23 : decode b_X_edition 23 = .ok (.getfield 195, 3) := by decide +kernel
theorem d_X_edition_26 : decode b_X_edition 26 = .ok (.aload_n 0, 1) := by decide +kernel
theorem d_X_edition_27 : decode b_X_edition 27 = .ok (.getfield 26, 3) := by decide +kernel
theorem d_X_edition_30 : decode b_X_edition 30 = .ok (.iload_n 1, 1) := by decide +kernel
theorem d_X_edition_31 : decode b_X_edition 31 = .ok (.invokespecial 89, 3) := by decide +kernel
theorem d_X_edition_34 : decode b_X_edition 34 = .ok (.astore_n 3, 1) := by decide +kernel
theorem d_X_edition_35 : decode b_X_edition 35 = .ok (.aload_n 3, 1) := by decide +kernel
theorem d_X_edition_36 : decode b_X_edition 36 = .ok (.aload_n 2, 1) := by decide +kernel
theorem d_X_edition_37 : decode b_X_edition 37 = .ok (.invokevirtual 198, 3) := by decide +kernel
theorem d_X_edition_40 : decode b_X_edition 40 = .ok (.aload_n 0, 1) := by decide +kernel
theorem d_X_edition_41 : decode b_X_edition 41 = .ok (.aload_n 3, 1) := by decide +kernel
theorem d_X_edition_42 : decode b_X_edition 42 = .ok (.invokevirtual 92, 3) := by decide +kernel
theorem d_X_edition_45 : decode b_X_edition 45 = .ok (.ireturn, 1) := by decide +kernel
def y_X_fault : MethodName := ⟨cR0, "fault", "(II)V"⟩
abbrev b_X_fault : ByteArray := prog_1_method_14_code
abbrev k_X_fault : Cond := .code y_X_fault b_X_fault 4 none
theorem mc_X_fault : MC y_X_fault k_X_fault b_X_fault 4 none [] 2 := ⟨g_in (List.mem_of_getElem? (i := 636) (by decide +kernel)) (by decide +kernel), Or.inl ⟨rfl, rfl⟩, g_in (List.mem_of_getElem? (i := 57) (by decide +kernel)) (by decide +kernel), by decide, by decide +kernel⟩
theorem in_X_fault : Cond.instanceMethod y_X_fault ∈ g_ws := g_in (List.mem_of_getElem? (i := 634) (by decide +kernel)) (by decide +kernel)
theorem se_X_fault : Cond.selects cR0 y_X_fault y_X_fault ∈ g_ws := g_in (List.mem_of_getElem? (i := 635) (by decide +kernel)) (by decide +kernel)
theorem d_X_fault_0 : decode b_X_fault 0 = .ok (.aload_n 0, 1) := by decide +kernel
theorem d_X_fault_1 : decode b_X_fault 1 = .ok (.iload_n 1, 1) := by decide +kernel
theorem d_X_fault_2 : decode b_X_fault 2 = .ok (.invokevirtual 103, 3) := by decide +kernel
theorem d_X_fault_5 : decode b_X_fault 5 = .ok (.astore_n 3, 1) := by decide +kernel
theorem d_X_fault_6 : decode b_X_fault 6 = .ok (.iload_n 2, 1) := by decide +kernel
theorem d_X_fault_7 : decode b_X_fault 7 = .ok (.invokestatic 96, 3) := by decide +kernel
theorem d_X_fault_10 : decode b_X_fault 10 = .ok (.aload_n 3, 1) := by decide +kernel
theorem d_X_fault_11 : decode b_X_fault 11 = .ok (.invokestatic 189, 3) := by decide +kernel
theorem d_X_fault_14 : decode b_X_fault 14 = .ok (.aload_n 3, 1) := by decide +kernel
theorem d_X_fault_15 : decode b_X_fault 15 = .ok (.getfield 201, 3) := by decide +kernel
theorem d_X_fault_18 : decode b_X_fault 18 = .ok (.iload_n 2, 1) := by decide +kernel
theorem d_X_fault_19 : decode b_X_fault 19 = .ok (.invokestatic 204, 3) := by decide +kernel
theorem d_X_fault_22 : decode b_X_fault 22 = .ok (.ifCond .eq 13, 3) := by decide +kernel
theorem d_X_fault_25 : decode b_X_fault 25 = .ok (.new 115, 3) := by decide +kernel
theorem d_X_fault_28 : decode b_X_fault 28 = .ok (.dup, 1) := by decide +kernel
theorem d_X_fault_29 : decode b_X_fault 29 = .ok (.ldc 207, 2) := by decide +kernel
theorem d_X_fault_31 : decode b_X_fault 31 = .ok (.invokespecial 119, 3) := by decide +kernel
theorem d_X_fault_34 : decode b_X_fault 34 = .ok (.athrow, 1) := by decide +kernel
theorem d_X_fault_35 : decode b_X_fault 35 = .ok (.aload_n 3, 1) := by decide +kernel
theorem d_X_fault_36 : decode b_X_fault 36 = .ok (.aload_n 3, 1) := by decide +kernel
theorem d_X_fault_37 : decode b_X_fault 37 = .ok (.getfield 201, 3) := by decide +kernel
theorem d_X_fault_40 : decode b_X_fault 40 = .ok (.iload_n 2, 1) := by decide +kernel
theorem d_X_fault_41 : decode b_X_fault 41 = .ok (.iconst 1, 1) := by decide +kernel
theorem d_X_fault_42 : decode b_X_fault 42 = .ok (.invokestatic 99, 3) := by decide +kernel
theorem d_X_fault_45 : decode b_X_fault 45 = .ok (.putfield 201, 3) := by decide +kernel
theorem d_X_fault_48 : decode b_X_fault 48 = .ok (.return_, 1) := by decide +kernel
def y_X_hide : MethodName := ⟨cR0, "hide", "(IIZ)V"⟩
abbrev b_X_hide : ByteArray := prog_1_method_15_code
abbrev k_X_hide : Cond := .code y_X_hide b_X_hide 4 none
theorem mc_X_hide : MC y_X_hide k_X_hide b_X_hide 4 none [] 3 := ⟨g_in (List.mem_of_getElem? (i := 644) (by decide +kernel)) (by decide +kernel), Or.inl ⟨rfl, rfl⟩, g_in (List.mem_of_getElem? (i := 57) (by decide +kernel)) (by decide +kernel), by decide, by decide +kernel⟩
theorem in_X_hide : Cond.instanceMethod y_X_hide ∈ g_ws := g_in (List.mem_of_getElem? (i := 642) (by decide +kernel)) (by decide +kernel)
theorem se_X_hide : Cond.selects cR0 y_X_hide y_X_hide ∈ g_ws := g_in (List.mem_of_getElem? (i := 643) (by decide +kernel)) (by decide +kernel)
theorem d_X_hide_0 : decode b_X_hide 0 = .ok (.iload_n 1, 1) := by decide +kernel
theorem d_X_hide_1 : decode b_X_hide 1 = .ok (.invokestatic 96, 3) := by decide +kernel
theorem d_X_hide_4 : decode b_X_hide 4 = .ok (.iload_n 2, 1) := by decide +kernel
theorem d_X_hide_5 : decode b_X_hide 5 = .ok (.invokestatic 175, 3) := by decide +kernel
theorem d_X_hide_8 : decode b_X_hide 8 = .ok (.aload_n 0, 1) := by decide +kernel
theorem d_X_hide_9 : decode b_X_hide 9 = .ok (.getfield 23, 3) := by decide +kernel
theorem d_X_hide_12 : decode b_X_hide 12 = .ok (.iload_n 2, 1) := by decide +kernel
theorem d_X_hide_13 : decode b_X_hide 13 = .ok (.aload_n 0, 1) := by decide +kernel
theorem d_X_hide_14 : decode b_X_hide 14 = .ok (.getfield 23, 3) := by decide +kernel
theorem d_X_hide_17 : decode b_X_hide 17 = .ok (.iload_n 2, 1) := by decide +kernel
theorem d_X_hide_18 : decode b_X_hide 18 = .ok (.iaload, 1) := by decide +kernel
theorem d_X_hide_19 : decode b_X_hide 19 = .ok (.iload_n 1, 1) := by decide +kernel
theorem d_X_hide_20 : decode b_X_hide 20 = .ok (.iload_n 3, 1) := by decide +kernel
theorem d_X_hide_21 : decode b_X_hide 21 = .ok (.invokestatic 99, 3) := by decide +kernel
theorem d_X_hide_24 : decode b_X_hide 24 = .ok (.iastore, 1) := by decide +kernel
theorem d_X_hide_25 : decode b_X_hide 25 = .ok (.return_, 1) := by decide +kernel
def y_X_code : MethodName := ⟨cR0, "code", "(II)I"⟩
abbrev b_X_code : ByteArray := prog_1_method_16_code
abbrev k_X_code : Cond := .code y_X_code b_X_code 4 (some .int)
theorem mc_X_code : MC y_X_code k_X_code b_X_code 4 (some .int) [] 2 := ⟨g_in (List.mem_of_getElem? (i := 651) (by decide +kernel)) (by decide +kernel), Or.inl ⟨rfl, rfl⟩, g_in (List.mem_of_getElem? (i := 57) (by decide +kernel)) (by decide +kernel), by decide, by decide +kernel⟩
theorem in_X_code : Cond.instanceMethod y_X_code ∈ g_ws := g_in (List.mem_of_getElem? (i := 649) (by decide +kernel)) (by decide +kernel)
theorem se_X_code : Cond.selects cR0 y_X_code y_X_code ∈ g_ws := g_in (List.mem_of_getElem? (i := 650) (by decide +kernel)) (by decide +kernel)
theorem d_X_code_0 : decode b_X_code 0 = .ok (.aload_n 0, 1) := by decide +kernel
theorem d_X_code_1 : decode b_X_code 1 = .ok (.iload_n 1, 1) := by decide +kernel
theorem d_X_code_2 : decode b_X_code 2 = .ok (.invokevirtual 103, 3) := by decide +kernel
theorem d_X_code_5 : decode b_X_code 5 = .ok (.astore_n 3, 1) := by decide +kernel
theorem d_X_code_6 : decode b_X_code 6 = .ok (.iload_n 2, 1) := by decide +kernel
theorem d_X_code_7 : decode b_X_code 7 = .ok (.invokestatic 175, 3) := by decide +kernel
theorem d_X_code_10 : decode b_X_code 10 = .ok (.aload_n 0, 1) := by decide +kernel
theorem d_X_code_11 : decode b_X_code 11 = .ok (.getfield 71, 3) := by decide +kernel
theorem d_X_code_14 : decode b_X_code 14 = .ok (.aload_n 3, 1) := by decide +kernel
theorem d_X_code_15 : decode b_X_code 15 = .ok (.aload_n 0, 1) := by decide +kernel
theorem d_X_code_16 : decode b_X_code 16 = .ok (.getfield 23, 3) := by decide +kernel
theorem d_X_code_19 : decode b_X_code 19 = .ok (.iload_n 2, 1) := by decide +kernel
theorem d_X_code_20 : decode b_X_code 20 = .ok (.iaload, 1) := by decide +kernel
theorem d_X_code_21 : decode b_X_code 21 = .ok (.invokevirtual 209, 3) := by decide +kernel
theorem d_X_code_24 : decode b_X_code 24 = .ok (.aload_n 0, 1) := by decide +kernel
theorem d_X_code_25 : decode b_X_code 25 = .ok (.getfield 71, 3) := by decide +kernel
theorem d_X_code_28 : decode b_X_code 28 = .ok (.getfield 213, 3) := by decide +kernel
theorem d_X_code_31 : decode b_X_code 31 = .ok (.ireturn, 1) := by decide +kernel
def y_X_at : MethodName := ⟨cR0, "at", "(I)I"⟩
abbrev b_X_at : ByteArray := prog_1_method_17_code
abbrev k_X_at : Cond := .code y_X_at b_X_at 2 (some .int)
theorem mc_X_at : MC y_X_at k_X_at b_X_at 2 (some .int) [] 1 := ⟨g_in (List.mem_of_getElem? (i := 678) (by decide +kernel)) (by decide +kernel), Or.inl ⟨rfl, rfl⟩, g_in (List.mem_of_getElem? (i := 57) (by decide +kernel)) (by decide +kernel), by decide, by decide +kernel⟩
theorem in_X_at : Cond.instanceMethod y_X_at ∈ g_ws := g_in (List.mem_of_getElem? (i := 676) (by decide +kernel)) (by decide +kernel)
theorem se_X_at : Cond.selects cR0 y_X_at y_X_at ∈ g_ws := g_in (List.mem_of_getElem? (i := 677) (by decide +kernel)) (by decide +kernel)
theorem d_X_at_0 : decode b_X_at 0 = .ok (.iload_n 1, 1) := by decide +kernel
theorem d_X_at_1 : decode b_X_at 1 = .ok (.ifCond .ge 13, 3) := by decide +kernel
theorem d_X_at_4 : decode b_X_at 4 = .ok (.new 79, 3) := by decide +kernel
theorem d_X_at_7 : decode b_X_at 7 = .ok (.dup, 1) := by decide +kernel
theorem d_X_at_8 : decode b_X_at 8 = .ok (.ldc 216, 2) := by decide +kernel
theorem d_X_at_10 : decode b_X_at 10 = .ok (.invokespecial 83, 3) := by decide +kernel
theorem d_X_at_13 : decode b_X_at 13 = .ok (.athrow, 1) := by decide +kernel
theorem d_X_at_14 : decode b_X_at 14 = .ok (.iload_n 1, 1) := by decide +kernel
theorem d_X_at_15 : decode b_X_at 15 = .ok (.aload_n 0, 1) := by decide +kernel
theorem d_X_at_16 : decode b_X_at 16 = .ok (.getfield 71, 3) := by decide +kernel
theorem d_X_at_19 : decode b_X_at 19 = .ok (.getfield 213, 3) := by decide +kernel
theorem d_X_at_22 : decode b_X_at 22 = .ok (.if_icmp .ge 15, 3) := by decide +kernel
theorem d_X_at_25 : decode b_X_at 25 = .ok (.aload_n 0, 1) := by decide +kernel
theorem d_X_at_26 : decode b_X_at 26 = .ok (.getfield 71, 3) := by decide +kernel
theorem d_X_at_29 : decode b_X_at 29 = .ok (.getfield 218, 3) := by decide +kernel
theorem d_X_at_32 : decode b_X_at 32 = .ok (.iload_n 1, 1) := by decide +kernel
theorem d_X_at_33 : decode b_X_at 33 = .ok (.baload, 1) := by decide +kernel
theorem d_X_at_34 : decode b_X_at 34 = .ok (.goto 4, 3) := by decide +kernel
theorem d_X_at_37 : decode b_X_at 37 = .ok (.iconst (-1), 1) := by decide +kernel
theorem d_X_at_38 : decode b_X_at 38 = .ok (.ireturn, 1) := by decide +kernel
def y_X_late : MethodName := ⟨cR0, "late", "(II)I"⟩
abbrev b_X_late : ByteArray := prog_1_method_18_code
abbrev k_X_late : Cond := .code y_X_late b_X_late 6 (some .int)
theorem mc_X_late : MC y_X_late k_X_late b_X_late 6 (some .int) [] 2 := ⟨g_in (List.mem_of_getElem? (i := 686) (by decide +kernel)) (by decide +kernel), Or.inl ⟨rfl, rfl⟩, g_in (List.mem_of_getElem? (i := 57) (by decide +kernel)) (by decide +kernel), by decide, by decide +kernel⟩
theorem in_X_late : Cond.instanceMethod y_X_late ∈ g_ws := g_in (List.mem_of_getElem? (i := 684) (by decide +kernel)) (by decide +kernel)
theorem se_X_late : Cond.selects cR0 y_X_late y_X_late ∈ g_ws := g_in (List.mem_of_getElem? (i := 685) (by decide +kernel)) (by decide +kernel)
theorem d_X_late_0 : decode b_X_late 0 = .ok (.iload_n 1, 1) := by decide +kernel
theorem d_X_late_1 : decode b_X_late 1 = .ok (.ifCond .lt 13, 3) := by decide +kernel
theorem d_X_late_4 : decode b_X_late 4 = .ok (.iload_n 1, 1) := by decide +kernel
theorem d_X_late_5 : decode b_X_late 5 = .ok (.ldc 108, 2) := by decide +kernel
theorem d_X_late_7 : decode b_X_late 7 = .ok (.if_icmp .gt 7, 3) := by decide +kernel
theorem d_X_late_10 : decode b_X_late 10 = .ok (.iload_n 2, 1) := by decide +kernel
theorem d_X_late_11 : decode b_X_late 11 = .ok (.ifCond .ge 13, 3) := by decide +kernel
theorem d_X_late_14 : decode b_X_late 14 = .ok (.new 79, 3) := by decide +kernel
theorem d_X_late_17 : decode b_X_late 17 = .ok (.dup, 1) := by decide +kernel
theorem d_X_late_18 : decode b_X_late 18 = .ok (.ldc 221, 2) := by decide +kernel
theorem d_X_late_20 : decode b_X_late 20 = .ok (.invokespecial 83, 3) := by decide +kernel
theorem d_X_late_23 : decode b_X_late 23 = .ok (.athrow, 1) := by decide +kernel
theorem d_X_late_24 : decode b_X_late 24 = .ok (.iconst 0, 1) := by decide +kernel
theorem d_X_late_25 : decode b_X_late 25 = .ok (.istore_n 3, 1) := by decide +kernel
theorem d_X_late_26 : decode b_X_late 26 = .ok (.iconst 0, 1) := by decide +kernel
theorem d_X_late_27 : decode b_X_late 27 = .ok (.istore 4, 2) := by decide +kernel
theorem d_X_late_29 : decode b_X_late 29 = .ok (.iload 4, 2) := by decide +kernel
theorem d_X_late_31 : decode b_X_late 31 = .ok (.aload_n 0, 1) := by decide +kernel
theorem d_X_late_32 : decode b_X_late 32 = .ok (.getfield 15, 3) := by decide +kernel
theorem d_X_late_35 : decode b_X_late 35 = .ok (.if_icmp .ge 47, 3) := by decide +kernel
theorem d_X_late_38 : decode b_X_late 38 = .ok (.aload_n 0, 1) := by decide +kernel
theorem d_X_late_39 : decode b_X_late 39 = .ok (.getfield 11, 3) := by decide +kernel
theorem d_X_late_42 : decode b_X_late 42 = .ok (.iload 4, 2) := by decide +kernel
theorem d_X_late_44 : decode b_X_late 44 = .ok (.aaload, 1) := by decide +kernel
theorem d_X_late_45 : decode b_X_late 45 = .ok (.astore 5, 2) := by decide +kernel
theorem d_X_late_47 : decode b_X_late 47 = .ok (.aload 5, 2) := by decide +kernel
theorem d_X_late_49 : decode b_X_late 49 = .ok (.ifnull 27, 3) := by decide +kernel
theorem d_X_late_52 : decode b_X_late 52 = .ok (.aload 5, 2) := by decide +kernel
theorem d_X_late_54 : decode b_X_late 54 = .ok (.aload_n 0, 1) := by decide +kernel
theorem d_X_late_55 : decode b_X_late 55 = .ok (.getfield 26, 3) := by decide +kernel
theorem d_X_late_58 : decode b_X_late 58 = .ok (.iload_n 1, 1) := by decide +kernel
theorem d_X_late_59 : decode b_X_late 59 = .ok (.invokevirtual 223, 3) := by decide +kernel
theorem d_X_late_62 : decode b_X_late 62 = .ok (.ifCond .eq 14, 3) := by decide +kernel
theorem d_X_late_65 : decode b_X_late 65 = .ok (.iload_n 3, 1) := by decide +kernel
theorem d_X_late_66 : decode b_X_late 66 = .ok (.iload_n 2, 1) := by decide +kernel
theorem d_X_late_67 : decode b_X_late 67 = .ok (.if_icmp .ne 6, 3) := by decide +kernel
theorem d_X_late_70 : decode b_X_late 70 = .ok (.iload 4, 2) := by decide +kernel
theorem d_X_late_72 : decode b_X_late 72 = .ok (.ireturn, 1) := by decide +kernel
theorem d_X_late_73 : decode b_X_late 73 = .ok (.iinc 3 1, 3) := by decide +kernel
theorem d_X_late_76 : decode b_X_late 76 = .ok (.iinc 4 1, 3) := by decide +kernel
theorem d_X_late_79 : decode b_X_late 79 = .ok (.goto (-50), 3) := by decide +kernel
theorem d_X_late_82 : decode b_X_late 82 = .ok (.iconst (-1), 1) := by decide +kernel
theorem d_X_late_83 : decode b_X_late 83 = .ok (.ireturn, 1) := by decide +kernel
def y_X_count : MethodName := ⟨cR0, "count", "(III)I"⟩
abbrev b_X_count : ByteArray := prog_1_method_19_code
abbrev k_X_count : Cond := .code y_X_count b_X_count 7 (some .int)
theorem mc_X_count : MC y_X_count k_X_count b_X_count 7 (some .int) [] 3 := ⟨g_in (List.mem_of_getElem? (i := 698) (by decide +kernel)) (by decide +kernel), Or.inl ⟨rfl, rfl⟩, g_in (List.mem_of_getElem? (i := 57) (by decide +kernel)) (by decide +kernel), by decide, by decide +kernel⟩
theorem in_X_count : Cond.instanceMethod y_X_count ∈ g_ws := g_in (List.mem_of_getElem? (i := 696) (by decide +kernel)) (by decide +kernel)
theorem se_X_count : Cond.selects cR0 y_X_count y_X_count ∈ g_ws := g_in (List.mem_of_getElem? (i := 697) (by decide +kernel)) (by decide +kernel)
theorem d_X_count_0 : decode b_X_count 0 = .ok (.iload_n 1, 1) := by decide +kernel
theorem d_X_count_1 : decode b_X_count 1 = .ok (.invokestatic 96, 3) := by decide +kernel
theorem d_X_count_4 : decode b_X_count 4 = .ok (.iload_n 2, 1) := by decide +kernel
theorem d_X_count_5 : decode b_X_count 5 = .ok (.iload_n 3, 1) := by decide +kernel
theorem d_X_count_6 : decode b_X_count 6 = .ok (.if_icmp .le 13, 3) := by decide +kernel
theorem d_X_count_9 : decode b_X_count 9 = .ok (.new 79, 3) := by decide +kernel
theorem d_X_count_12 : decode b_X_count 12 = .ok (.dup, 1) := by decide +kernel
theorem d_X_count_13 : decode b_X_count 13 = .ok (.ldc 226, 2) := by decide +kernel
theorem d_X_count_15 : decode b_X_count 15 = .ok (.invokespecial 83, 3) := by decide +kernel
theorem d_X_count_18 : decode b_X_count 18 = .ok (.athrow, 1) := by decide +kernel
theorem d_X_count_19 : decode b_X_count 19 = .ok (.iconst 0, 1) := by decide +kernel
theorem d_X_count_20 : decode b_X_count 20 = .ok (.istore 4, 2) := by decide +kernel
theorem d_X_count_22 : decode b_X_count 22 = .ok (.iconst 0, 1) := by decide +kernel
theorem d_X_count_23 : decode b_X_count 23 = .ok (.istore 5, 2) := by decide +kernel
theorem d_X_count_25 : decode b_X_count 25 = .ok (.iload 5, 2) := by decide +kernel
theorem d_X_count_27 : decode b_X_count 27 = .ok (.aload_n 0, 1) := by decide +kernel
theorem d_X_count_28 : decode b_X_count 28 = .ok (.getfield 15, 3) := by decide +kernel
theorem d_X_count_31 : decode b_X_count 31 = .ok (.if_icmp .ge 45, 3) := by decide +kernel
theorem d_X_count_34 : decode b_X_count 34 = .ok (.aload_n 0, 1) := by decide +kernel
theorem d_X_count_35 : decode b_X_count 35 = .ok (.getfield 11, 3) := by decide +kernel
theorem d_X_count_38 : decode b_X_count 38 = .ok (.iload 5, 2) := by decide +kernel
theorem d_X_count_40 : decode b_X_count 40 = .ok (.aaload, 1) := by decide +kernel
theorem d_X_count_41 : decode b_X_count 41 = .ok (.astore 6, 2) := by decide +kernel
theorem d_X_count_43 : decode b_X_count 43 = .ok (.aload 6, 2) := by decide +kernel
theorem d_X_count_45 : decode b_X_count 45 = .ok (.ifnull 25, 3) := by decide +kernel
theorem d_X_count_48 : decode b_X_count 48 = .ok (.aload 6, 2) := by decide +kernel
theorem d_X_count_50 : decode b_X_count 50 = .ok (.invokevirtual 228, 3) := by decide +kernel
theorem d_X_count_53 : decode b_X_count 53 = .ok (.ifCond .eq 17, 3) := by decide +kernel
theorem d_X_count_56 : decode b_X_count 56 = .ok (.aload 6, 2) := by decide +kernel
theorem d_X_count_58 : decode b_X_count 58 = .ok (.iload_n 1, 1) := by decide +kernel
theorem d_X_count_59 : decode b_X_count 59 = .ok (.iload_n 2, 1) := by decide +kernel
theorem d_X_count_60 : decode b_X_count 60 = .ok (.iload_n 3, 1) := by decide +kernel
theorem d_X_count_61 : decode b_X_count 61 = .ok (.invokevirtual 232, 3) := by decide +kernel
theorem d_X_count_64 : decode b_X_count 64 = .ok (.ifCond .eq 6, 3) := by decide +kernel
theorem d_X_count_67 : decode b_X_count 67 = .ok (.iinc 4 1, 3) := by decide +kernel
theorem d_X_count_70 : decode b_X_count 70 = .ok (.iinc 5 1, 3) := by decide +kernel
theorem d_X_count_73 : decode b_X_count 73 = .ok (.goto (-48), 3) := by decide +kernel
theorem d_X_count_76 : decode b_X_count 76 = .ok (.iload 4, 2) := by decide +kernel
theorem d_X_count_78 : decode b_X_count 78 = .ok (.ireturn, 1) := by decide +kernel
def y_X_reportAt : MethodName := ⟨cR0, "reportAt", "(II)I"⟩
abbrev b_X_reportAt : ByteArray := prog_1_method_20_code
abbrev k_X_reportAt : Cond := .code y_X_reportAt b_X_reportAt 4 (some .int)
theorem mc_X_reportAt : MC y_X_reportAt k_X_reportAt b_X_reportAt 4 (some .int) [] 2 := ⟨g_in (List.mem_of_getElem? (i := 714) (by decide +kernel)) (by decide +kernel), Or.inl ⟨rfl, rfl⟩, g_in (List.mem_of_getElem? (i := 57) (by decide +kernel)) (by decide +kernel), by decide, by decide +kernel⟩
theorem in_X_reportAt : Cond.instanceMethod y_X_reportAt ∈ g_ws := g_in (List.mem_of_getElem? (i := 712) (by decide +kernel)) (by decide +kernel)
theorem se_X_reportAt : Cond.selects cR0 y_X_reportAt y_X_reportAt ∈ g_ws := g_in (List.mem_of_getElem? (i := 713) (by decide +kernel)) (by decide +kernel)
theorem d_X_reportAt_0 : decode b_X_reportAt 0 = .ok (.aload_n 0, 1) := by decide +kernel
theorem d_X_reportAt_1 : decode b_X_reportAt 1 = .ok (.iload_n 1, 1) := by decide +kernel
theorem d_X_reportAt_2 : decode b_X_reportAt 2 = .ok (.invokevirtual 103, 3) := by decide +kernel
theorem d_X_reportAt_5 : decode b_X_reportAt 5 = .ok (.astore_n 3, 1) := by decide +kernel
theorem d_X_reportAt_6 : decode b_X_reportAt 6 = .ok (.iload_n 2, 1) := by decide +kernel
theorem d_X_reportAt_7 : decode b_X_reportAt 7 = .ok (.tableswitch 88 0 7 #[45, 50, 55, 60, 65, 70, 75, 83], 45) := by decide +kernel
theorem d_X_reportAt_52 : decode b_X_reportAt 52 = .ok (.aload_n 3, 1) := by decide +kernel
theorem d_X_reportAt_53 : decode b_X_reportAt 53 = .ok (.getfield 192, 3) := by decide +kernel
theorem d_X_reportAt_56 : decode b_X_reportAt 56 = .ok (.ireturn, 1) := by decide +kernel
theorem d_X_reportAt_57 : decode b_X_reportAt 57 = .ok (.aload_n 3, 1) := by decide +kernel
theorem d_X_reportAt_58 : decode b_X_reportAt 58 = .ok (.getfield 195, 3) := by decide +kernel
theorem d_X_reportAt_61 : decode b_X_reportAt 61 = .ok (.ireturn, 1) := by decide +kernel
theorem d_X_reportAt_62 : decode b_X_reportAt 62 = .ok (.aload_n 3, 1) := by decide +kernel
theorem d_X_reportAt_63 : decode b_X_reportAt 63 = .ok (.getfield 236, 3) := by decide +kernel
theorem d_X_reportAt_66 : decode b_X_reportAt 66 = .ok (.ireturn, 1) := by decide +kernel
theorem d_X_reportAt_67 : decode b_X_reportAt 67 = .ok (.aload_n 3, 1) := by decide +kernel
theorem d_X_reportAt_68 : decode b_X_reportAt 68 = .ok (.getfield 186, 3) := by decide +kernel
theorem d_X_reportAt_71 : decode b_X_reportAt 71 = .ok (.ireturn, 1) := by decide +kernel
theorem d_X_reportAt_72 : decode b_X_reportAt 72 = .ok (.aload_n 3, 1) := by decide +kernel
theorem d_X_reportAt_73 : decode b_X_reportAt 73 = .ok (.invokevirtual 239, 3) := by decide +kernel
theorem d_X_reportAt_76 : decode b_X_reportAt 76 = .ok (.ireturn, 1) := by decide +kernel
theorem d_X_reportAt_77 : decode b_X_reportAt 77 = .ok (.aload_n 3, 1) := by decide +kernel
theorem d_X_reportAt_78 : decode b_X_reportAt 78 = .ok (.getfield 141, 3) := by decide +kernel
theorem d_X_reportAt_81 : decode b_X_reportAt 81 = .ok (.ireturn, 1) := by decide +kernel
theorem d_X_reportAt_82 : decode b_X_reportAt 82 = .ok (.aload_n 3, 1) := by decide +kernel
theorem d_X_reportAt_83 : decode b_X_reportAt 83 = .ok (.getfield 201, 3) := by decide +kernel
theorem d_X_reportAt_86 : decode b_X_reportAt 86 = .ok (.invokestatic 243, 3) := by decide +kernel
theorem d_X_reportAt_89 : decode b_X_reportAt 89 = .ok (.ireturn, 1) := by decide +kernel
theorem d_X_reportAt_90 : decode b_X_reportAt 90 = .ok (.aload_n 3, 1) := by decide +kernel
theorem d_X_reportAt_91 : decode b_X_reportAt 91 = .ok (.getfield 249, 3) := by decide +kernel
theorem d_X_reportAt_94 : decode b_X_reportAt 94 = .ok (.ireturn, 1) := by decide +kernel
theorem d_X_reportAt_95 : decode b_X_reportAt 95 = .ok (.new 124, 3) := by decide +kernel
theorem d_X_reportAt_98 : decode b_X_reportAt 98 = .ok (.dup, 1) := by decide +kernel
theorem d_X_reportAt_99 : decode b_X_reportAt 99 = .ok (.ldc 173, 2) := by decide +kernel
theorem d_X_reportAt_101 : decode b_X_reportAt 101 = .ok (.invokespecial 128, 3) := by decide +kernel
theorem d_X_reportAt_104 : decode b_X_reportAt 104 = .ok (.athrow, 1) := by decide +kernel
def y_X_value : MethodName := ⟨cR0, "value", "(II)I"⟩
abbrev b_X_value : ByteArray := prog_1_method_21_code
abbrev k_X_value : Cond := .code y_X_value b_X_value 4 (some .int)
theorem mc_X_value : MC y_X_value k_X_value b_X_value 4 (some .int) [] 2 := ⟨g_in (List.mem_of_getElem? (i := 731) (by decide +kernel)) (by decide +kernel), Or.inl ⟨rfl, rfl⟩, g_in (List.mem_of_getElem? (i := 57) (by decide +kernel)) (by decide +kernel), by decide, by decide +kernel⟩
theorem in_X_value : Cond.instanceMethod y_X_value ∈ g_ws := g_in (List.mem_of_getElem? (i := 729) (by decide +kernel)) (by decide +kernel)
theorem se_X_value : Cond.selects cR0 y_X_value y_X_value ∈ g_ws := g_in (List.mem_of_getElem? (i := 730) (by decide +kernel)) (by decide +kernel)
theorem d_X_value_0 : decode b_X_value 0 = .ok (.aload_n 0, 1) := by decide +kernel
theorem d_X_value_1 : decode b_X_value 1 = .ok (.iload_n 1, 1) := by decide +kernel
theorem d_X_value_2 : decode b_X_value 2 = .ok (.invokevirtual 103, 3) := by decide +kernel
theorem d_X_value_5 : decode b_X_value 5 = .ok (.astore_n 3, 1) := by decide +kernel
theorem d_X_value_6 : decode b_X_value 6 = .ok (.iload_n 2, 1) := by decide +kernel
theorem d_X_value_7 : decode b_X_value 7 = .ok (.invokestatic 96, 3) := by decide +kernel
theorem d_X_value_10 : decode b_X_value 10 = .ok (.aload_n 3, 1) := by decide +kernel
theorem d_X_value_11 : decode b_X_value 11 = .ok (.getfield 252, 3) := by decide +kernel
theorem d_X_value_14 : decode b_X_value 14 = .ok (.iload_n 2, 1) := by decide +kernel
theorem d_X_value_15 : decode b_X_value 15 = .ok (.invokestatic 204, 3) := by decide +kernel
theorem d_X_value_18 : decode b_X_value 18 = .ok (.ifCond .ne 13, 3) := by decide +kernel
theorem d_X_value_21 : decode b_X_value 21 = .ok (.new 115, 3) := by decide +kernel
theorem d_X_value_24 : decode b_X_value 24 = .ok (.dup, 1) := by decide +kernel
theorem d_X_value_25 : decode b_X_value 25 = .ok (.ldc 255, 2) := by decide +kernel
theorem d_X_value_27 : decode b_X_value 27 = .ok (.invokespecial 119, 3) := by decide +kernel
theorem d_X_value_30 : decode b_X_value 30 = .ok (.athrow, 1) := by decide +kernel
theorem d_X_value_31 : decode b_X_value 31 = .ok (.aload_n 3, 1) := by decide +kernel
theorem d_X_value_32 : decode b_X_value 32 = .ok (.getfield 257, 3) := by decide +kernel
theorem d_X_value_35 : decode b_X_value 35 = .ok (.iload_n 2, 1) := by decide +kernel
theorem d_X_value_36 : decode b_X_value 36 = .ok (.iaload, 1) := by decide +kernel
theorem d_X_value_37 : decode b_X_value 37 = .ok (.ireturn, 1) := by decide +kernel
def y_X_tick : MethodName := ⟨cR0, "tick", "(I)I"⟩
abbrev b_X_tick : ByteArray := prog_1_method_22_code
abbrev k_X_tick : Cond := .code y_X_tick b_X_tick 2 (some .int)
theorem mc_X_tick : MC y_X_tick k_X_tick b_X_tick 2 (some .int) [] 1 := ⟨g_in (List.mem_of_getElem? (i := 739) (by decide +kernel)) (by decide +kernel), Or.inl ⟨rfl, rfl⟩, g_in (List.mem_of_getElem? (i := 57) (by decide +kernel)) (by decide +kernel), by decide, by decide +kernel⟩
theorem in_X_tick : Cond.instanceMethod y_X_tick ∈ g_ws := g_in (List.mem_of_getElem? (i := 737) (by decide +kernel)) (by decide +kernel)
theorem se_X_tick : Cond.selects cR0 y_X_tick y_X_tick ∈ g_ws := g_in (List.mem_of_getElem? (i := 738) (by decide +kernel)) (by decide +kernel)
theorem d_X_tick_0 : decode b_X_tick 0 = .ok (.iload_n 1, 1) := by decide +kernel
theorem d_X_tick_1 : decode b_X_tick 1 = .ok (.iconst 1, 1) := by decide +kernel
theorem d_X_tick_2 : decode b_X_tick 2 = .ok (.if_icmp .lt 21, 3) := by decide +kernel
theorem d_X_tick_5 : decode b_X_tick 5 = .ok (.iload_n 1, 1) := by decide +kernel
theorem d_X_tick_6 : decode b_X_tick 6 = .ok (.sipush 5000, 3) := by decide +kernel
theorem d_X_tick_9 : decode b_X_tick 9 = .ok (.if_icmp .gt 14, 3) := by decide +kernel
theorem d_X_tick_12 : decode b_X_tick 12 = .ok (.aload_n 0, 1) := by decide +kernel
theorem d_X_tick_13 : decode b_X_tick 13 = .ok (.getfield 26, 3) := by decide +kernel
theorem d_X_tick_16 : decode b_X_tick 16 = .ok (.iload_n 1, 1) := by decide +kernel
theorem d_X_tick_17 : decode b_X_tick 17 = .ok (.iadd, 1) := by decide +kernel
theorem d_X_tick_18 : decode b_X_tick 18 = .ok (.ldc 108, 2) := by decide +kernel
theorem d_X_tick_20 : decode b_X_tick 20 = .ok (.if_icmp .le 14, 3) := by decide +kernel
theorem d_X_tick_23 : decode b_X_tick 23 = .ok (.new 79, 3) := by decide +kernel
theorem d_X_tick_26 : decode b_X_tick 26 = .ok (.dup, 1) := by decide +kernel
theorem d_X_tick_27 : decode b_X_tick 27 = .ok (.ldc_w 260, 3) := by decide +kernel
theorem d_X_tick_30 : decode b_X_tick 30 = .ok (.invokespecial 83, 3) := by decide +kernel
theorem d_X_tick_33 : decode b_X_tick 33 = .ok (.athrow, 1) := by decide +kernel
theorem d_X_tick_34 : decode b_X_tick 34 = .ok (.aload_n 0, 1) := by decide +kernel
theorem d_X_tick_35 : decode b_X_tick 35 = .ok (.dup, 1) := by decide +kernel
theorem d_X_tick_36 : decode b_X_tick 36 = .ok (.getfield 26, 3) := by decide +kernel
theorem d_X_tick_39 : decode b_X_tick 39 = .ok (.iload_n 1, 1) := by decide +kernel
theorem d_X_tick_40 : decode b_X_tick 40 = .ok (.iadd, 1) := by decide +kernel
theorem d_X_tick_41 : decode b_X_tick 41 = .ok (.putfield 26, 3) := by decide +kernel
theorem d_X_tick_44 : decode b_X_tick 44 = .ok (.aload_n 0, 1) := by decide +kernel
theorem d_X_tick_45 : decode b_X_tick 45 = .ok (.getfield 26, 3) := by decide +kernel
theorem d_X_tick_48 : decode b_X_tick 48 = .ok (.ireturn, 1) := by decide +kernel
def y_X_known : MethodName := ⟨cR0, "known", "(I)LReportChecks2$Report;"⟩
abbrev b_X_known : ByteArray := prog_1_method_23_code
abbrev k_X_known : Cond := .code y_X_known b_X_known 3 (some (.object "ReportChecks2$Report"))
theorem mc_X_known : MC y_X_known k_X_known b_X_known 3 (some (.object "ReportChecks2$Report")) [] 1 := ⟨g_in (List.mem_of_getElem? (i := 415) (by decide +kernel)) (by decide +kernel), Or.inl ⟨rfl, rfl⟩, g_in (List.mem_of_getElem? (i := 57) (by decide +kernel)) (by decide +kernel), by decide, by decide +kernel⟩
theorem in_X_known : Cond.instanceMethod y_X_known ∈ g_ws := g_in (List.mem_of_getElem? (i := 414) (by decide +kernel)) (by decide +kernel)
theorem se_X_known : Cond.selects cR0 y_X_known y_X_known ∈ g_ws := g_in (List.mem_of_getElem? (i := 3) (by decide +kernel)) (by decide +kernel)
theorem d_X_known_0 : decode b_X_known 0 = .ok (.iload_n 1, 1) := by decide +kernel
theorem d_X_known_1 : decode b_X_known 1 = .ok (.ifCond .lt 11, 3) := by decide +kernel
theorem d_X_known_4 : decode b_X_known 4 = .ok (.iload_n 1, 1) := by decide +kernel
theorem d_X_known_5 : decode b_X_known 5 = .ok (.aload_n 0, 1) := by decide +kernel
theorem d_X_known_6 : decode b_X_known 6 = .ok (.getfield 15, 3) := by decide +kernel
theorem d_X_known_9 : decode b_X_known 9 = .ok (.if_icmp .lt 14, 3) := by decide +kernel
theorem d_X_known_12 : decode b_X_known 12 = .ok (.new 124, 3) := by decide +kernel
theorem d_X_known_15 : decode b_X_known 15 = .ok (.dup, 1) := by decide +kernel
theorem d_X_known_16 : decode b_X_known 16 = .ok (.ldc_w 262, 3) := by decide +kernel
theorem d_X_known_19 : decode b_X_known 19 = .ok (.invokespecial 128, 3) := by decide +kernel
theorem d_X_known_22 : decode b_X_known 22 = .ok (.athrow, 1) := by decide +kernel
theorem d_X_known_23 : decode b_X_known 23 = .ok (.aload_n 0, 1) := by decide +kernel
theorem d_X_known_24 : decode b_X_known 24 = .ok (.getfield 11, 3) := by decide +kernel
theorem d_X_known_27 : decode b_X_known 27 = .ok (.iload_n 1, 1) := by decide +kernel
theorem d_X_known_28 : decode b_X_known 28 = .ok (.aaload, 1) := by decide +kernel
theorem d_X_known_29 : decode b_X_known 29 = .ok (.astore_n 2, 1) := by decide +kernel
theorem d_X_known_30 : decode b_X_known 30 = .ok (.aload_n 2, 1) := by decide +kernel
theorem d_X_known_31 : decode b_X_known 31 = .ok (.ifnonnull 14, 3) := by decide +kernel
theorem d_X_known_34 : decode b_X_known 34 = .ok (.new 124, 3) := by decide +kernel
theorem d_X_known_37 : decode b_X_known 37 = .ok (.dup, 1) := by decide +kernel
theorem d_X_known_38 : decode b_X_known 38 = .ok (.ldc_w 262, 3) := by decide +kernel
theorem d_X_known_41 : decode b_X_known 41 = .ok (.invokespecial 128, 3) := by decide +kernel
theorem d_X_known_44 : decode b_X_known 44 = .ok (.athrow, 1) := by decide +kernel
theorem d_X_known_45 : decode b_X_known 45 = .ok (.aload_n 2, 1) := by decide +kernel
theorem d_X_known_46 : decode b_X_known 46 = .ok (.areturn, 1) := by decide +kernel
def y_X_requireKind : MethodName := ⟨cR0, "requireKind", "(I)V"⟩
abbrev b_X_requireKind : ByteArray := prog_1_method_24_code
abbrev k_X_requireKind : Cond := .code y_X_requireKind b_X_requireKind 1 none
theorem mc_X_requireKind : MC y_X_requireKind k_X_requireKind b_X_requireKind 1 none [] 1 := ⟨g_in (List.mem_of_getElem? (i := 228) (by decide +kernel)) (by decide +kernel), Or.inl ⟨rfl, rfl⟩, g_in (List.mem_of_getElem? (i := 57) (by decide +kernel)) (by decide +kernel), by decide, by decide +kernel⟩
theorem st_X_requireKind : Cond.static y_X_requireKind ∈ g_ws := g_in (List.mem_of_getElem? (i := 227) (by decide +kernel)) (by decide +kernel)
theorem d_X_requireKind_0 : decode b_X_requireKind 0 = .ok (.iload_n 0, 1) := by decide +kernel
theorem d_X_requireKind_1 : decode b_X_requireKind 1 = .ok (.ifCond .lt 8, 3) := by decide +kernel
theorem d_X_requireKind_4 : decode b_X_requireKind 4 = .ok (.iload_n 0, 1) := by decide +kernel
theorem d_X_requireKind_5 : decode b_X_requireKind 5 = .ok (.iconst 5, 1) := by decide +kernel
theorem d_X_requireKind_6 : decode b_X_requireKind 6 = .ok (.if_icmp .lt 14, 3) := by decide +kernel
theorem d_X_requireKind_9 : decode b_X_requireKind 9 = .ok (.new 124, 3) := by decide +kernel
theorem d_X_requireKind_12 : decode b_X_requireKind 12 = .ok (.dup, 1) := by decide +kernel
theorem d_X_requireKind_13 : decode b_X_requireKind 13 = .ok (.ldc_w 264, 3) := by decide +kernel
theorem d_X_requireKind_16 : decode b_X_requireKind 16 = .ok (.invokespecial 128, 3) := by decide +kernel
theorem d_X_requireKind_19 : decode b_X_requireKind 19 = .ok (.athrow, 1) := by decide +kernel
theorem d_X_requireKind_20 : decode b_X_requireKind 20 = .ok (.return_, 1) := by decide +kernel
def y_X_requireField : MethodName := ⟨cR0, "requireField", "(I)V"⟩
abbrev b_X_requireField : ByteArray := prog_1_method_25_code
abbrev k_X_requireField : Cond := .code y_X_requireField b_X_requireField 1 none
theorem mc_X_requireField : MC y_X_requireField k_X_requireField b_X_requireField 1 none [] 1 := ⟨g_in (List.mem_of_getElem? (i := 399) (by decide +kernel)) (by decide +kernel), Or.inl ⟨rfl, rfl⟩, g_in (List.mem_of_getElem? (i := 57) (by decide +kernel)) (by decide +kernel), by decide, by decide +kernel⟩
theorem st_X_requireField : Cond.static y_X_requireField ∈ g_ws := g_in (List.mem_of_getElem? (i := 398) (by decide +kernel)) (by decide +kernel)
theorem d_X_requireField_0 : decode b_X_requireField 0 = .ok (.iload_n 0, 1) := by decide +kernel
theorem d_X_requireField_1 : decode b_X_requireField 1 = .ok (.ifCond .lt 9, 3) := by decide +kernel
theorem d_X_requireField_4 : decode b_X_requireField 4 = .ok (.iload_n 0, 1) := by decide +kernel
theorem d_X_requireField_5 : decode b_X_requireField 5 = .ok (.bipush 20, 2) := by decide +kernel
theorem d_X_requireField_7 : decode b_X_requireField 7 = .ok (.if_icmp .lt 14, 3) := by decide +kernel
theorem d_X_requireField_10 : decode b_X_requireField 10 = .ok (.new 124, 3) := by decide +kernel
theorem d_X_requireField_13 : decode b_X_requireField 13 = .ok (.dup, 1) := by decide +kernel
theorem d_X_requireField_14 : decode b_X_requireField 14 = .ok (.ldc_w 266, 3) := by decide +kernel
theorem d_X_requireField_17 : decode b_X_requireField 17 = .ok (.invokespecial 128, 3) := by decide +kernel
theorem d_X_requireField_20 : decode b_X_requireField 20 = .ok (.athrow, 1) := by decide +kernel
theorem d_X_requireField_21 : decode b_X_requireField 21 = .ok (.return_, 1) := by decide +kernel
def y_X_requirePerson : MethodName := ⟨cR0, "requirePerson", "(I)V"⟩
abbrev b_X_requirePerson : ByteArray := prog_1_method_26_code
abbrev k_X_requirePerson : Cond := .code y_X_requirePerson b_X_requirePerson 1 none
theorem mc_X_requirePerson : MC y_X_requirePerson k_X_requirePerson b_X_requirePerson 1 none [] 1 := ⟨g_in (List.mem_of_getElem? (i := 592) (by decide +kernel)) (by decide +kernel), Or.inl ⟨rfl, rfl⟩, g_in (List.mem_of_getElem? (i := 57) (by decide +kernel)) (by decide +kernel), by decide, by decide +kernel⟩
theorem st_X_requirePerson : Cond.static y_X_requirePerson ∈ g_ws := g_in (List.mem_of_getElem? (i := 591) (by decide +kernel)) (by decide +kernel)
theorem d_X_requirePerson_0 : decode b_X_requirePerson 0 = .ok (.iload_n 0, 1) := by decide +kernel
theorem d_X_requirePerson_1 : decode b_X_requirePerson 1 = .ok (.ifCond .lt 9, 3) := by decide +kernel
theorem d_X_requirePerson_4 : decode b_X_requirePerson 4 = .ok (.iload_n 0, 1) := by decide +kernel
theorem d_X_requirePerson_5 : decode b_X_requirePerson 5 = .ok (.bipush 20, 2) := by decide +kernel
theorem d_X_requirePerson_7 : decode b_X_requirePerson 7 = .ok (.if_icmp .lt 14, 3) := by decide +kernel
theorem d_X_requirePerson_10 : decode b_X_requirePerson 10 = .ok (.new 124, 3) := by decide +kernel
theorem d_X_requirePerson_13 : decode b_X_requirePerson 13 = .ok (.dup, 1) := by decide +kernel
theorem d_X_requirePerson_14 : decode b_X_requirePerson 14 = .ok (.ldc_w 268, 3) := by decide +kernel
theorem d_X_requirePerson_17 : decode b_X_requirePerson 17 = .ok (.invokespecial 128, 3) := by decide +kernel
theorem d_X_requirePerson_20 : decode b_X_requirePerson 20 = .ok (.athrow, 1) := by decide +kernel
theorem d_X_requirePerson_21 : decode b_X_requirePerson 21 = .ok (.return_, 1) := by decide +kernel
def y_X_requireUnsigned : MethodName := ⟨cR0, "requireUnsigned", "(LReportChecks2$Report;)V"⟩
abbrev b_X_requireUnsigned : ByteArray := prog_1_method_27_code
abbrev k_X_requireUnsigned : Cond := .code y_X_requireUnsigned b_X_requireUnsigned 1 none
theorem mc_X_requireUnsigned : MC y_X_requireUnsigned k_X_requireUnsigned b_X_requireUnsigned 1 none [] 1 := ⟨g_in (List.mem_of_getElem? (i := 459) (by decide +kernel)) (by decide +kernel), Or.inl ⟨rfl, rfl⟩, g_in (List.mem_of_getElem? (i := 57) (by decide +kernel)) (by decide +kernel), by decide, by decide +kernel⟩
theorem st_X_requireUnsigned : Cond.static y_X_requireUnsigned ∈ g_ws := g_in (List.mem_of_getElem? (i := 458) (by decide +kernel)) (by decide +kernel)
theorem d_X_requireUnsigned_0 : decode b_X_requireUnsigned 0 = .ok (.aload_n 0, 1) := by decide +kernel
theorem d_X_requireUnsigned_1 : decode b_X_requireUnsigned 1 = .ok (.getfield 186, 3) := by decide +kernel
theorem d_X_requireUnsigned_4 : decode b_X_requireUnsigned 4 = .ok (.ifCond .le 14, 3) := by decide +kernel
theorem d_X_requireUnsigned_7 : decode b_X_requireUnsigned 7 = .ok (.new 115, 3) := by decide +kernel
theorem d_X_requireUnsigned_10 : decode b_X_requireUnsigned 10 = .ok (.dup, 1) := by decide +kernel
theorem d_X_requireUnsigned_11 : decode b_X_requireUnsigned 11 = .ok (.ldc_w 270, 3) := by decide +kernel
theorem d_X_requireUnsigned_14 : decode b_X_requireUnsigned 14 = .ok (.invokespecial 119, 3) := by decide +kernel
theorem d_X_requireUnsigned_17 : decode b_X_requireUnsigned 17 = .ok (.athrow, 1) := by decide +kernel
theorem d_X_requireUnsigned_18 : decode b_X_requireUnsigned 18 = .ok (.return_, 1) := by decide +kernel
def y_X_requireClosed : MethodName := ⟨cR0, "requireClosed", "(LReportChecks2$Report;)V"⟩
abbrev b_X_requireClosed : ByteArray := prog_1_method_28_code
abbrev k_X_requireClosed : Cond := .code y_X_requireClosed b_X_requireClosed 1 none
theorem mc_X_requireClosed : MC y_X_requireClosed k_X_requireClosed b_X_requireClosed 1 none [] 1 := ⟨g_in (List.mem_of_getElem? (i := 620) (by decide +kernel)) (by decide +kernel), Or.inl ⟨rfl, rfl⟩, g_in (List.mem_of_getElem? (i := 57) (by decide +kernel)) (by decide +kernel), by decide, by decide +kernel⟩
theorem st_X_requireClosed : Cond.static y_X_requireClosed ∈ g_ws := g_in (List.mem_of_getElem? (i := 619) (by decide +kernel)) (by decide +kernel)
theorem d_X_requireClosed_0 : decode b_X_requireClosed 0 = .ok (.aload_n 0, 1) := by decide +kernel
theorem d_X_requireClosed_1 : decode b_X_requireClosed 1 = .ok (.invokevirtual 272, 3) := by decide +kernel
theorem d_X_requireClosed_4 : decode b_X_requireClosed 4 = .ok (.ifCond .ne 14, 3) := by decide +kernel
theorem d_X_requireClosed_7 : decode b_X_requireClosed 7 = .ok (.new 115, 3) := by decide +kernel
theorem d_X_requireClosed_10 : decode b_X_requireClosed 10 = .ok (.dup, 1) := by decide +kernel
theorem d_X_requireClosed_11 : decode b_X_requireClosed 11 = .ok (.ldc_w 275, 3) := by decide +kernel
theorem d_X_requireClosed_14 : decode b_X_requireClosed 14 = .ok (.invokespecial 119, 3) := by decide +kernel
theorem d_X_requireClosed_17 : decode b_X_requireClosed 17 = .ok (.athrow, 1) := by decide +kernel
theorem d_X_requireClosed_18 : decode b_X_requireClosed 18 = .ok (.return_, 1) := by decide +kernel
def y_X_requireRoomForReport : MethodName := ⟨cR0, "requireRoomForReport", "()V"⟩
abbrev b_X_requireRoomForReport : ByteArray := prog_1_method_29_code
abbrev k_X_requireRoomForReport : Cond := .code y_X_requireRoomForReport b_X_requireRoomForReport 1 none
theorem mc_X_requireRoomForReport : MC y_X_requireRoomForReport k_X_requireRoomForReport b_X_requireRoomForReport 1 none [] 0 := ⟨g_in (List.mem_of_getElem? (i := 316) (by decide +kernel)) (by decide +kernel), Or.inl ⟨rfl, rfl⟩, g_in (List.mem_of_getElem? (i := 57) (by decide +kernel)) (by decide +kernel), by decide, by decide +kernel⟩
theorem in_X_requireRoomForReport : Cond.instanceMethod y_X_requireRoomForReport ∈ g_ws := g_in (List.mem_of_getElem? (i := 315) (by decide +kernel)) (by decide +kernel)
theorem se_X_requireRoomForReport : Cond.selects cR0 y_X_requireRoomForReport y_X_requireRoomForReport ∈ g_ws := g_in (List.mem_of_getElem? (i := 1) (by decide +kernel)) (by decide +kernel)
theorem d_X_requireRoomForReport_0 : decode b_X_requireRoomForReport 0 = .ok (.aload_n 0, 1) := by decide +kernel
theorem d_X_requireRoomForReport_1 : decode b_X_requireRoomForReport 1 = .ok (.getfield 15, 3) := by decide +kernel
theorem d_X_requireRoomForReport_4 : decode b_X_requireRoomForReport 4 = .ok (.bipush 30, 2) := by decide +kernel
theorem d_X_requireRoomForReport_6 : decode b_X_requireRoomForReport 6 = .ok (.if_icmp .lt 14, 3) := by decide +kernel
theorem d_X_requireRoomForReport_9 : decode b_X_requireRoomForReport 9 = .ok (.new 146, 3) := by decide +kernel
theorem d_X_requireRoomForReport_12 : decode b_X_requireRoomForReport 12 = .ok (.dup, 1) := by decide +kernel
theorem d_X_requireRoomForReport_13 : decode b_X_requireRoomForReport 13 = .ok (.ldc_w 277, 3) := by decide +kernel
theorem d_X_requireRoomForReport_16 : decode b_X_requireRoomForReport 16 = .ok (.invokespecial 150, 3) := by decide +kernel
theorem d_X_requireRoomForReport_19 : decode b_X_requireRoomForReport 19 = .ok (.athrow, 1) := by decide +kernel
theorem d_X_requireRoomForReport_20 : decode b_X_requireRoomForReport 20 = .ok (.return_, 1) := by decide +kernel
def y_X_keep : MethodName := ⟨cR0, "keep", "(LReportChecks2$Report;)I"⟩
abbrev b_X_keep : ByteArray := prog_1_method_30_code
abbrev k_X_keep : Cond := .code y_X_keep b_X_keep 3 (some .int)
theorem mc_X_keep : MC y_X_keep k_X_keep b_X_keep 3 (some .int) [] 1 := ⟨g_in (List.mem_of_getElem? (i := 389) (by decide +kernel)) (by decide +kernel), Or.inl ⟨rfl, rfl⟩, g_in (List.mem_of_getElem? (i := 57) (by decide +kernel)) (by decide +kernel), by decide, by decide +kernel⟩
theorem in_X_keep : Cond.instanceMethod y_X_keep ∈ g_ws := g_in (List.mem_of_getElem? (i := 388) (by decide +kernel)) (by decide +kernel)
theorem se_X_keep : Cond.selects cR0 y_X_keep y_X_keep ∈ g_ws := g_in (List.mem_of_getElem? (i := 2) (by decide +kernel)) (by decide +kernel)
theorem d_X_keep_0 : decode b_X_keep 0 = .ok (.aload_n 0, 1) := by decide +kernel
theorem d_X_keep_1 : decode b_X_keep 1 = .ok (.getfield 15, 3) := by decide +kernel
theorem d_X_keep_4 : decode b_X_keep 4 = .ok (.istore_n 2, 1) := by decide +kernel
theorem d_X_keep_5 : decode b_X_keep 5 = .ok (.aload_n 0, 1) := by decide +kernel
theorem d_X_keep_6 : decode b_X_keep 6 = .ok (.getfield 11, 3) := by decide +kernel
theorem d_X_keep_9 : decode b_X_keep 9 = .ok (.iload_n 2, 1) := by decide +kernel
theorem d_X_keep_10 : decode b_X_keep 10 = .ok (.aload_n 1, 1) := by decide +kernel
theorem d_X_keep_11 : decode b_X_keep 11 = .ok (.aastore, 1) := by decide +kernel
theorem d_X_keep_12 : decode b_X_keep 12 = .ok (.aload_n 0, 1) := by decide +kernel
theorem d_X_keep_13 : decode b_X_keep 13 = .ok (.dup, 1) := by decide +kernel
theorem d_X_keep_14 : decode b_X_keep 14 = .ok (.getfield 15, 3) := by decide +kernel
theorem d_X_keep_17 : decode b_X_keep 17 = .ok (.iconst 1, 1) := by decide +kernel
theorem d_X_keep_18 : decode b_X_keep 18 = .ok (.iadd, 1) := by decide +kernel
theorem d_X_keep_19 : decode b_X_keep 19 = .ok (.putfield 15, 3) := by decide +kernel
theorem d_X_keep_22 : decode b_X_keep 22 = .ok (.iload_n 2, 1) := by decide +kernel
theorem d_X_keep_23 : decode b_X_keep 23 = .ok (.ireturn, 1) := by decide +kernel
def y_X_findWanting : MethodName := ⟨cR0, "findWanting", "(LReportChecks2$Report;LReportChecks2$Findings;)V"⟩
abbrev b_X_findWanting : ByteArray := prog_1_method_31_code
abbrev k_X_findWanting : Cond := .code y_X_findWanting b_X_findWanting 6 none
theorem mc_X_findWanting : MC y_X_findWanting k_X_findWanting b_X_findWanting 6 none [] 2 := ⟨g_in (List.mem_of_getElem? (i := 553) (by decide +kernel)) (by decide +kernel), Or.inl ⟨rfl, rfl⟩, g_in (List.mem_of_getElem? (i := 57) (by decide +kernel)) (by decide +kernel), by decide, by decide +kernel⟩
theorem in_X_findWanting : Cond.instanceMethod y_X_findWanting ∈ g_ws := g_in (List.mem_of_getElem? (i := 552) (by decide +kernel)) (by decide +kernel)
theorem se_X_findWanting : Cond.selects cR0 y_X_findWanting y_X_findWanting ∈ g_ws := g_in (List.mem_of_getElem? (i := 18) (by decide +kernel)) (by decide +kernel)
theorem d_X_findWanting_0 : decode b_X_findWanting 0 = .ok (.aload_n 2, 1) := by decide +kernel
theorem d_X_findWanting_1 : decode b_X_findWanting 1 = .ok (.iconst 0, 1) := by decide +kernel
theorem d_X_findWanting_2 : decode b_X_findWanting 2 = .ok (.putfield 164, 3) := by decide +kernel
theorem d_X_findWanting_5 : decode b_X_findWanting 5 = .ok (.aload_n 0, 1) := by decide +kernel
theorem d_X_findWanting_6 : decode b_X_findWanting 6 = .ok (.getfield 19, 3) := by decide +kernel
theorem d_X_findWanting_9 : decode b_X_findWanting 9 = .ok (.aload_n 1, 1) := by decide +kernel
theorem d_X_findWanting_10 : decode b_X_findWanting 10 = .ok (.getfield 195, 3) := by decide +kernel
theorem d_X_findWanting_13 : decode b_X_findWanting 13 = .ok (.iaload, 1) := by decide +kernel
theorem d_X_findWanting_14 : decode b_X_findWanting 14 = .ok (.aload_n 1, 1) := by decide +kernel
theorem d_X_findWanting_15 : decode b_X_findWanting 15 = .ok (.getfield 252, 3) := by decide +kernel
theorem d_X_findWanting_18 : decode b_X_findWanting 18 = .ok (.iconst (-1), 1) := by decide +kernel
theorem d_X_findWanting_19 : decode b_X_findWanting 19 = .ok (.ixor, 1) := by decide +kernel
theorem d_X_findWanting_20 : decode b_X_findWanting 20 = .ok (.iand, 1) := by decide +kernel
theorem d_X_findWanting_21 : decode b_X_findWanting 21 = .ok (.istore_n 3, 1) := by decide +kernel
theorem d_X_findWanting_22 : decode b_X_findWanting 22 = .ok (.iconst 0, 1) := by decide +kernel
theorem d_X_findWanting_23 : decode b_X_findWanting 23 = .ok (.istore 4, 2) := by decide +kernel
theorem d_X_findWanting_25 : decode b_X_findWanting 25 = .ok (.iload 4, 2) := by decide +kernel
theorem d_X_findWanting_27 : decode b_X_findWanting 27 = .ok (.bipush 20, 2) := by decide +kernel
theorem d_X_findWanting_29 : decode b_X_findWanting 29 = .ok (.if_icmp .ge 25, 3) := by decide +kernel
theorem d_X_findWanting_32 : decode b_X_findWanting 32 = .ok (.iload_n 3, 1) := by decide +kernel
theorem d_X_findWanting_33 : decode b_X_findWanting 33 = .ok (.iload 4, 2) := by decide +kernel
theorem d_X_findWanting_35 : decode b_X_findWanting 35 = .ok (.invokestatic 204, 3) := by decide +kernel
theorem d_X_findWanting_38 : decode b_X_findWanting 38 = .ok (.ifCond .eq 10, 3) := by decide +kernel
theorem d_X_findWanting_41 : decode b_X_findWanting 41 = .ok (.aload_n 2, 1) := by decide +kernel
theorem d_X_findWanting_42 : decode b_X_findWanting 42 = .ok (.iconst 1, 1) := by decide +kernel
theorem d_X_findWanting_43 : decode b_X_findWanting 43 = .ok (.iload 4, 2) := by decide +kernel
theorem d_X_findWanting_45 : decode b_X_findWanting 45 = .ok (.invokevirtual 279, 3) := by decide +kernel
theorem d_X_findWanting_48 : decode b_X_findWanting 48 = .ok (.iinc 4 1, 3) := by decide +kernel
theorem d_X_findWanting_51 : decode b_X_findWanting 51 = .ok (.goto (-26), 3) := by decide +kernel
theorem d_X_findWanting_54 : decode b_X_findWanting 54 = .ok (.iconst 0, 1) := by decide +kernel
theorem d_X_findWanting_55 : decode b_X_findWanting 55 = .ok (.istore 4, 2) := by decide +kernel
theorem d_X_findWanting_57 : decode b_X_findWanting 57 = .ok (.iload 4, 2) := by decide +kernel
theorem d_X_findWanting_59 : decode b_X_findWanting 59 = .ok (.aload_n 0, 1) := by decide +kernel
theorem d_X_findWanting_60 : decode b_X_findWanting 60 = .ok (.getfield 48, 3) := by decide +kernel
theorem d_X_findWanting_63 : decode b_X_findWanting 63 = .ok (.getfield 157, 3) := by decide +kernel
theorem d_X_findWanting_66 : decode b_X_findWanting 66 = .ok (.if_icmp .ge 35, 3) := by decide +kernel
theorem d_X_findWanting_69 : decode b_X_findWanting 69 = .ok (.aload_n 0, 1) := by decide +kernel
theorem d_X_findWanting_70 : decode b_X_findWanting 70 = .ok (.getfield 48, 3) := by decide +kernel
theorem d_X_findWanting_73 : decode b_X_findWanting 73 = .ok (.iload 4, 2) := by decide +kernel
theorem d_X_findWanting_75 : decode b_X_findWanting 75 = .ok (.aload_n 1, 1) := by decide +kernel
theorem d_X_findWanting_76 : decode b_X_findWanting 76 = .ok (.invokevirtual 282, 3) := by decide +kernel
theorem d_X_findWanting_79 : decode b_X_findWanting 79 = .ok (.istore 5, 2) := by decide +kernel
theorem d_X_findWanting_81 : decode b_X_findWanting 81 = .ok (.iload 5, 2) := by decide +kernel
theorem d_X_findWanting_83 : decode b_X_findWanting 83 = .ok (.iconst (-1), 1) := by decide +kernel
theorem d_X_findWanting_84 : decode b_X_findWanting 84 = .ok (.if_icmp .eq 11, 3) := by decide +kernel
theorem d_X_findWanting_87 : decode b_X_findWanting 87 = .ok (.aload_n 2, 1) := by decide +kernel
theorem d_X_findWanting_88 : decode b_X_findWanting 88 = .ok (.iload 5, 2) := by decide +kernel
theorem d_X_findWanting_90 : decode b_X_findWanting 90 = .ok (.iload 4, 2) := by decide +kernel
theorem d_X_findWanting_92 : decode b_X_findWanting 92 = .ok (.invokevirtual 279, 3) := by decide +kernel
theorem d_X_findWanting_95 : decode b_X_findWanting 95 = .ok (.iinc 4 1, 3) := by decide +kernel
theorem d_X_findWanting_98 : decode b_X_findWanting 98 = .ok (.goto (-41), 3) := by decide +kernel
theorem d_X_findWanting_101 : decode b_X_findWanting 101 = .ok (.return_, 1) := by decide +kernel
def y_X_has : MethodName := ⟨cR0, "has", "(II)Z"⟩
abbrev b_X_has : ByteArray := prog_1_method_32_code
abbrev k_X_has : Cond := .code y_X_has b_X_has 2 (some .boolean)
theorem mc_X_has : MC y_X_has k_X_has b_X_has 2 (some .boolean) [] 2 := ⟨g_in (List.mem_of_getElem? (i := 426) (by decide +kernel)) (by decide +kernel), Or.inl ⟨rfl, rfl⟩, g_in (List.mem_of_getElem? (i := 57) (by decide +kernel)) (by decide +kernel), by decide, by decide +kernel⟩
theorem st_X_has : Cond.static y_X_has ∈ g_ws := g_in (List.mem_of_getElem? (i := 425) (by decide +kernel)) (by decide +kernel)
theorem d_X_has_0 : decode b_X_has 0 = .ok (.iload_n 0, 1) := by decide +kernel
theorem d_X_has_1 : decode b_X_has 1 = .ok (.iload_n 1, 1) := by decide +kernel
theorem d_X_has_2 : decode b_X_has 2 = .ok (.iushr, 1) := by decide +kernel
theorem d_X_has_3 : decode b_X_has 3 = .ok (.iconst 1, 1) := by decide +kernel
theorem d_X_has_4 : decode b_X_has 4 = .ok (.iand, 1) := by decide +kernel
theorem d_X_has_5 : decode b_X_has 5 = .ok (.iconst 1, 1) := by decide +kernel
theorem d_X_has_6 : decode b_X_has 6 = .ok (.if_icmp .ne 7, 3) := by decide +kernel
theorem d_X_has_9 : decode b_X_has 9 = .ok (.iconst 1, 1) := by decide +kernel
theorem d_X_has_10 : decode b_X_has 10 = .ok (.goto 4, 3) := by decide +kernel
theorem d_X_has_13 : decode b_X_has 13 = .ok (.iconst 0, 1) := by decide +kernel
theorem d_X_has_14 : decode b_X_has 14 = .ok (.ireturn, 1) := by decide +kernel
def y_X_changed : MethodName := ⟨cR0, "changed", "(IIZ)I"⟩
abbrev b_X_changed : ByteArray := prog_1_method_33_code
abbrev k_X_changed : Cond := .code y_X_changed b_X_changed 3 (some .int)
theorem mc_X_changed : MC y_X_changed k_X_changed b_X_changed 3 (some .int) [] 3 := ⟨g_in (List.mem_of_getElem? (i := 403) (by decide +kernel)) (by decide +kernel), Or.inl ⟨rfl, rfl⟩, g_in (List.mem_of_getElem? (i := 57) (by decide +kernel)) (by decide +kernel), by decide, by decide +kernel⟩
theorem st_X_changed : Cond.static y_X_changed ∈ g_ws := g_in (List.mem_of_getElem? (i := 402) (by decide +kernel)) (by decide +kernel)
theorem d_X_changed_0 : decode b_X_changed 0 = .ok (.iload_n 2, 1) := by decide +kernel
theorem d_X_changed_1 : decode b_X_changed 1 = .ok (.ifCond .eq 11, 3) := by decide +kernel
theorem d_X_changed_4 : decode b_X_changed 4 = .ok (.iload_n 0, 1) := by decide +kernel
theorem d_X_changed_5 : decode b_X_changed 5 = .ok (.iconst 1, 1) := by decide +kernel
theorem d_X_changed_6 : decode b_X_changed 6 = .ok (.iload_n 1, 1) := by decide +kernel
theorem d_X_changed_7 : decode b_X_changed 7 = .ok (.ishl, 1) := by decide +kernel
theorem d_X_changed_8 : decode b_X_changed 8 = .ok (.ior, 1) := by decide +kernel
theorem d_X_changed_9 : decode b_X_changed 9 = .ok (.goto 10, 3) := by decide +kernel
theorem d_X_changed_12 : decode b_X_changed 12 = .ok (.iload_n 0, 1) := by decide +kernel
theorem d_X_changed_13 : decode b_X_changed 13 = .ok (.iconst 1, 1) := by decide +kernel
theorem d_X_changed_14 : decode b_X_changed 14 = .ok (.iload_n 1, 1) := by decide +kernel
theorem d_X_changed_15 : decode b_X_changed 15 = .ok (.ishl, 1) := by decide +kernel
theorem d_X_changed_16 : decode b_X_changed 16 = .ok (.iconst (-1), 1) := by decide +kernel
theorem d_X_changed_17 : decode b_X_changed 17 = .ok (.ixor, 1) := by decide +kernel
theorem d_X_changed_18 : decode b_X_changed 18 = .ok (.iand, 1) := by decide +kernel
theorem d_X_changed_19 : decode b_X_changed 19 = .ok (.ireturn, 1) := by decide +kernel
