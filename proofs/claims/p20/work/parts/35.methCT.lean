/-! ===== methods of CT: printed by program ===== -/
def y_CT_init : MethodName := ⟨cR4, "<init>", "()V"⟩
abbrev b_CT_init : ByteArray := prog_2_method_1_code
abbrev k_CT_init : Cond := .code y_CT_init b_CT_init 1 none
theorem mc_CT_init : MC y_CT_init k_CT_init b_CT_init 1 none [] 0 := ⟨g_in (List.mem_of_getElem? (i := 158) (by decide +kernel)) (by decide +kernel), Or.inl ⟨rfl, rfl⟩, g_in (List.mem_of_getElem? (i := 61) (by decide +kernel)) (by decide +kernel), by decide, by decide +kernel⟩
theorem in_CT_init : Cond.instanceMethod y_CT_init ∈ g_ws := g_in (List.mem_of_getElem? (i := 157) (by decide +kernel)) (by decide +kernel)
theorem d_CT_init_0 : decode b_CT_init 0 = .ok (.aload_n 0, 1) := by decide +kernel
theorem d_CT_init_1 : decode b_CT_init 1 = .ok (.invokespecial 3, 3) := by decide +kernel
theorem d_CT_init_4 : decode b_CT_init 4 = .ok (.aload_n 0, 1) := by decide +kernel
theorem d_CT_init_5 : decode b_CT_init 5 = .ok (.sipush 206, 3) := by decide +kernel
theorem d_CT_init_8 : decode b_CT_init 8 = .ok (.newarray .byte, 2) := by decide +kernel
theorem d_CT_init_10 : decode b_CT_init 10 = .ok (.putfield 9, 3) := by decide +kernel
theorem d_CT_init_13 : decode b_CT_init 13 = .ok (.aload_n 0, 1) := by decide +kernel
theorem d_CT_init_14 : decode b_CT_init 14 = .ok (.iconst 0, 1) := by decide +kernel
theorem d_CT_init_15 : decode b_CT_init 15 = .ok (.putfield 15, 3) := by decide +kernel
theorem d_CT_init_18 : decode b_CT_init 18 = .ok (.return_, 1) := by decide +kernel
def y_CT_write : MethodName := ⟨cR4, "write", "(LReportChecks2$Report;I)V"⟩
abbrev b_CT_write : ByteArray := prog_2_method_2_code
abbrev k_CT_write : Cond := .code y_CT_write b_CT_write 4 none
theorem mc_CT_write : MC y_CT_write k_CT_write b_CT_write 4 none [] 2 := ⟨g_in (List.mem_of_getElem? (i := 655) (by decide +kernel)) (by decide +kernel), Or.inl ⟨rfl, rfl⟩, g_in (List.mem_of_getElem? (i := 61) (by decide +kernel)) (by decide +kernel), by decide, by decide +kernel⟩
theorem in_CT_write : Cond.instanceMethod y_CT_write ∈ g_ws := g_in (List.mem_of_getElem? (i := 654) (by decide +kernel)) (by decide +kernel)
theorem se_CT_write : Cond.selects cR4 y_CT_write y_CT_write ∈ g_ws := g_in (List.mem_of_getElem? (i := 27) (by decide +kernel)) (by decide +kernel)
theorem d_CT_write_0 : decode b_CT_write 0 = .ok (.aload_n 0, 1) := by decide +kernel
theorem d_CT_write_1 : decode b_CT_write 1 = .ok (.iconst 0, 1) := by decide +kernel
theorem d_CT_write_2 : decode b_CT_write 2 = .ok (.putfield 15, 3) := by decide +kernel
theorem d_CT_write_5 : decode b_CT_write 5 = .ok (.aload_n 0, 1) := by decide +kernel
theorem d_CT_write_6 : decode b_CT_write 6 = .ok (.bipush 82, 2) := by decide +kernel
theorem d_CT_write_8 : decode b_CT_write 8 = .ok (.invokevirtual 19, 3) := by decide +kernel
theorem d_CT_write_11 : decode b_CT_write 11 = .ok (.aload_n 0, 1) := by decide +kernel
theorem d_CT_write_12 : decode b_CT_write 12 = .ok (.aload_n 1, 1) := by decide +kernel
theorem d_CT_write_13 : decode b_CT_write 13 = .ok (.getfield 23, 3) := by decide +kernel
theorem d_CT_write_16 : decode b_CT_write 16 = .ok (.invokevirtual 28, 3) := by decide +kernel
theorem d_CT_write_19 : decode b_CT_write 19 = .ok (.aload_n 0, 1) := by decide +kernel
theorem d_CT_write_20 : decode b_CT_write 20 = .ok (.bipush 44, 2) := by decide +kernel
theorem d_CT_write_22 : decode b_CT_write 22 = .ok (.invokevirtual 19, 3) := by decide +kernel
theorem d_CT_write_25 : decode b_CT_write 25 = .ok (.iconst 0, 1) := by decide +kernel
theorem d_CT_write_26 : decode b_CT_write 26 = .ok (.istore_n 3, 1) := by decide +kernel
theorem d_CT_write_27 : decode b_CT_write 27 = .ok (.iload_n 3, 1) := by decide +kernel
theorem d_CT_write_28 : decode b_CT_write 28 = .ok (.bipush 20, 2) := by decide +kernel
theorem d_CT_write_30 : decode b_CT_write 30 = .ok (.if_icmp .ge 36, 3) := by decide +kernel
theorem d_CT_write_33 : decode b_CT_write 33 = .ok (.aload_n 1, 1) := by decide +kernel
theorem d_CT_write_34 : decode b_CT_write 34 = .ok (.getfield 31, 3) := by decide +kernel
theorem d_CT_write_37 : decode b_CT_write 37 = .ok (.iload_n 3, 1) := by decide +kernel
theorem d_CT_write_38 : decode b_CT_write 38 = .ok (.invokestatic 34, 3) := by decide +kernel
theorem d_CT_write_41 : decode b_CT_write 41 = .ok (.ifCond .eq 19, 3) := by decide +kernel
theorem d_CT_write_44 : decode b_CT_write 44 = .ok (.aload_n 0, 1) := by decide +kernel
theorem d_CT_write_45 : decode b_CT_write 45 = .ok (.iload_n 3, 1) := by decide +kernel
theorem d_CT_write_46 : decode b_CT_write 46 = .ok (.aload_n 1, 1) := by decide +kernel
theorem d_CT_write_47 : decode b_CT_write 47 = .ok (.getfield 38, 3) := by decide +kernel
theorem d_CT_write_50 : decode b_CT_write 50 = .ok (.iload_n 3, 1) := by decide +kernel
theorem d_CT_write_51 : decode b_CT_write 51 = .ok (.iaload, 1) := by decide +kernel
theorem d_CT_write_52 : decode b_CT_write 52 = .ok (.iload_n 2, 1) := by decide +kernel
theorem d_CT_write_53 : decode b_CT_write 53 = .ok (.iload_n 3, 1) := by decide +kernel
theorem d_CT_write_54 : decode b_CT_write 54 = .ok (.invokestatic 34, 3) := by decide +kernel
theorem d_CT_write_57 : decode b_CT_write 57 = .ok (.invokevirtual 42, 3) := by decide +kernel
theorem d_CT_write_60 : decode b_CT_write 60 = .ok (.iinc 3 1, 3) := by decide +kernel
theorem d_CT_write_63 : decode b_CT_write 63 = .ok (.goto (-36), 3) := by decide +kernel
theorem d_CT_write_66 : decode b_CT_write 66 = .ok (.return_, 1) := by decide +kernel
def y_CT_addField : MethodName := ⟨cR4, "addField", "(IIZ)V"⟩
abbrev b_CT_addField : ByteArray := prog_2_method_3_code
abbrev k_CT_addField : Cond := .code y_CT_addField b_CT_addField 4 none
theorem mc_CT_addField : MC y_CT_addField k_CT_addField b_CT_addField 4 none [] 3 := ⟨g_in (List.mem_of_getElem? (i := 671) (by decide +kernel)) (by decide +kernel), Or.inl ⟨rfl, rfl⟩, g_in (List.mem_of_getElem? (i := 61) (by decide +kernel)) (by decide +kernel), by decide, by decide +kernel⟩
theorem in_CT_addField : Cond.instanceMethod y_CT_addField ∈ g_ws := g_in (List.mem_of_getElem? (i := 670) (by decide +kernel)) (by decide +kernel)
theorem se_CT_addField : Cond.selects cR4 y_CT_addField y_CT_addField ∈ g_ws := g_in (List.mem_of_getElem? (i := 30) (by decide +kernel)) (by decide +kernel)
theorem d_CT_addField_0 : decode b_CT_addField 0 = .ok (.aload_n 0, 1) := by decide +kernel
theorem d_CT_addField_1 : decode b_CT_addField 1 = .ok (.iload_n 1, 1) := by decide +kernel
theorem d_CT_addField_2 : decode b_CT_addField 2 = .ok (.invokevirtual 28, 3) := by decide +kernel
theorem d_CT_addField_5 : decode b_CT_addField 5 = .ok (.aload_n 0, 1) := by decide +kernel
theorem d_CT_addField_6 : decode b_CT_addField 6 = .ok (.bipush 58, 2) := by decide +kernel
theorem d_CT_addField_8 : decode b_CT_addField 8 = .ok (.invokevirtual 19, 3) := by decide +kernel
theorem d_CT_addField_11 : decode b_CT_addField 11 = .ok (.iload_n 3, 1) := by decide +kernel
theorem d_CT_addField_12 : decode b_CT_addField 12 = .ok (.ifCond .eq 12, 3) := by decide +kernel
theorem d_CT_addField_15 : decode b_CT_addField 15 = .ok (.aload_n 0, 1) := by decide +kernel
theorem d_CT_addField_16 : decode b_CT_addField 16 = .ok (.bipush 42, 2) := by decide +kernel
theorem d_CT_addField_18 : decode b_CT_addField 18 = .ok (.invokevirtual 19, 3) := by decide +kernel
theorem d_CT_addField_21 : decode b_CT_addField 21 = .ok (.goto 8, 3) := by decide +kernel
theorem d_CT_addField_24 : decode b_CT_addField 24 = .ok (.aload_n 0, 1) := by decide +kernel
theorem d_CT_addField_25 : decode b_CT_addField 25 = .ok (.iload_n 2, 1) := by decide +kernel
theorem d_CT_addField_26 : decode b_CT_addField 26 = .ok (.invokevirtual 28, 3) := by decide +kernel
theorem d_CT_addField_29 : decode b_CT_addField 29 = .ok (.aload_n 0, 1) := by decide +kernel
theorem d_CT_addField_30 : decode b_CT_addField 30 = .ok (.bipush 59, 2) := by decide +kernel
theorem d_CT_addField_32 : decode b_CT_addField 32 = .ok (.invokevirtual 19, 3) := by decide +kernel
theorem d_CT_addField_35 : decode b_CT_addField 35 = .ok (.return_, 1) := by decide +kernel
def y_CT_addNumber : MethodName := ⟨cR4, "addNumber", "(I)V"⟩
abbrev b_CT_addNumber : ByteArray := prog_2_method_4_code
abbrev k_CT_addNumber : Cond := .code y_CT_addNumber b_CT_addNumber 4 none
theorem mc_CT_addNumber : MC y_CT_addNumber k_CT_addNumber b_CT_addNumber 4 none [] 1 := ⟨g_in (List.mem_of_getElem? (i := 663) (by decide +kernel)) (by decide +kernel), Or.inl ⟨rfl, rfl⟩, g_in (List.mem_of_getElem? (i := 61) (by decide +kernel)) (by decide +kernel), by decide, by decide +kernel⟩
theorem in_CT_addNumber : Cond.instanceMethod y_CT_addNumber ∈ g_ws := g_in (List.mem_of_getElem? (i := 662) (by decide +kernel)) (by decide +kernel)
theorem se_CT_addNumber : Cond.selects cR4 y_CT_addNumber y_CT_addNumber ∈ g_ws := g_in (List.mem_of_getElem? (i := 29) (by decide +kernel)) (by decide +kernel)
theorem d_CT_addNumber_0 : decode b_CT_addNumber 0 = .ok (.iload_n 1, 1) := by decide +kernel
theorem d_CT_addNumber_1 : decode b_CT_addNumber 1 = .ok (.ifCond .ge 9, 3) := by decide +kernel
theorem d_CT_addNumber_4 : decode b_CT_addNumber 4 = .ok (.aload_n 0, 1) := by decide +kernel
theorem d_CT_addNumber_5 : decode b_CT_addNumber 5 = .ok (.bipush 45, 2) := by decide +kernel
theorem d_CT_addNumber_7 : decode b_CT_addNumber 7 = .ok (.invokevirtual 19, 3) := by decide +kernel
theorem d_CT_addNumber_10 : decode b_CT_addNumber 10 = .ok (.iload_n 1, 1) := by decide +kernel
theorem d_CT_addNumber_11 : decode b_CT_addNumber 11 = .ok (.invokestatic 46, 3) := by decide +kernel
theorem d_CT_addNumber_14 : decode b_CT_addNumber 14 = .ok (.istore_n 2, 1) := by decide +kernel
theorem d_CT_addNumber_15 : decode b_CT_addNumber 15 = .ok (.sipush 10000, 3) := by decide +kernel
theorem d_CT_addNumber_18 : decode b_CT_addNumber 18 = .ok (.istore_n 3, 1) := by decide +kernel
theorem d_CT_addNumber_19 : decode b_CT_addNumber 19 = .ok (.iload_n 3, 1) := by decide +kernel
theorem d_CT_addNumber_20 : decode b_CT_addNumber 20 = .ok (.ifCond .le 34, 3) := by decide +kernel
theorem d_CT_addNumber_23 : decode b_CT_addNumber 23 = .ok (.iload_n 2, 1) := by decide +kernel
theorem d_CT_addNumber_24 : decode b_CT_addNumber 24 = .ok (.iload_n 3, 1) := by decide +kernel
theorem d_CT_addNumber_25 : decode b_CT_addNumber 25 = .ok (.if_icmp .ge 8, 3) := by decide +kernel
theorem d_CT_addNumber_28 : decode b_CT_addNumber 28 = .ok (.iload_n 3, 1) := by decide +kernel
theorem d_CT_addNumber_29 : decode b_CT_addNumber 29 = .ok (.iconst 1, 1) := by decide +kernel
theorem d_CT_addNumber_30 : decode b_CT_addNumber 30 = .ok (.if_icmp .ne 16, 3) := by decide +kernel
theorem d_CT_addNumber_33 : decode b_CT_addNumber 33 = .ok (.aload_n 0, 1) := by decide +kernel
theorem d_CT_addNumber_34 : decode b_CT_addNumber 34 = .ok (.bipush 48, 2) := by decide +kernel
theorem d_CT_addNumber_36 : decode b_CT_addNumber 36 = .ok (.iload_n 2, 1) := by decide +kernel
theorem d_CT_addNumber_37 : decode b_CT_addNumber 37 = .ok (.iload_n 3, 1) := by decide +kernel
theorem d_CT_addNumber_38 : decode b_CT_addNumber 38 = .ok (.idiv, 1) := by decide +kernel
theorem d_CT_addNumber_39 : decode b_CT_addNumber 39 = .ok (.bipush 10, 2) := by decide +kernel
theorem d_CT_addNumber_41 : decode b_CT_addNumber 41 = .ok (.irem, 1) := by decide +kernel
theorem d_CT_addNumber_42 : decode b_CT_addNumber 42 = .ok (.iadd, 1) := by decide +kernel
theorem d_CT_addNumber_43 : decode b_CT_addNumber 43 = .ok (.invokevirtual 19, 3) := by decide +kernel
theorem d_CT_addNumber_46 : decode b_CT_addNumber 46 = .ok (.iload_n 3, 1) := by decide +kernel
theorem d_CT_addNumber_47 : decode b_CT_addNumber 47 = .ok (.bipush 10, 2) := by decide +kernel
theorem d_CT_addNumber_49 : decode b_CT_addNumber 49 = .ok (.idiv, 1) := by decide +kernel
theorem d_CT_addNumber_50 : decode b_CT_addNumber 50 = .ok (.istore_n 3, 1) := by decide +kernel
theorem d_CT_addNumber_51 : decode b_CT_addNumber 51 = .ok (.goto (-32), 3) := by decide +kernel
theorem d_CT_addNumber_54 : decode b_CT_addNumber 54 = .ok (.return_, 1) := by decide +kernel
def y_CT_addByte : MethodName := ⟨cR4, "addByte", "(I)V"⟩
abbrev b_CT_addByte : ByteArray := prog_2_method_5_code
abbrev k_CT_addByte : Cond := .code y_CT_addByte b_CT_addByte 2 none
theorem mc_CT_addByte : MC y_CT_addByte k_CT_addByte b_CT_addByte 2 none [] 1 := ⟨g_in (List.mem_of_getElem? (i := 659) (by decide +kernel)) (by decide +kernel), Or.inl ⟨rfl, rfl⟩, g_in (List.mem_of_getElem? (i := 61) (by decide +kernel)) (by decide +kernel), by decide, by decide +kernel⟩
theorem in_CT_addByte : Cond.instanceMethod y_CT_addByte ∈ g_ws := g_in (List.mem_of_getElem? (i := 658) (by decide +kernel)) (by decide +kernel)
theorem se_CT_addByte : Cond.selects cR4 y_CT_addByte y_CT_addByte ∈ g_ws := g_in (List.mem_of_getElem? (i := 28) (by decide +kernel)) (by decide +kernel)
theorem d_CT_addByte_0 : decode b_CT_addByte 0 = .ok (.aload_n 0, 1) := by decide +kernel
theorem d_CT_addByte_1 : decode b_CT_addByte 1 = .ok (.getfield 15, 3) := by decide +kernel
theorem d_CT_addByte_4 : decode b_CT_addByte 4 = .ok (.aload_n 0, 1) := by decide +kernel
theorem d_CT_addByte_5 : decode b_CT_addByte 5 = .ok (.getfield 9, 3) := by decide +kernel
theorem d_CT_addByte_8 : decode b_CT_addByte 8 = .ok (.arraylength, 1) := by decide +kernel
theorem d_CT_addByte_9 : decode b_CT_addByte 9 = .ok (.if_icmp .ge 24, 3) := by decide +kernel
theorem d_CT_addByte_12 : decode b_CT_addByte 12 = .ok (.aload_n 0, 1) := by decide +kernel
theorem d_CT_addByte_13 : decode b_CT_addByte 13 = .ok (.getfield 9, 3) := by decide +kernel
theorem d_CT_addByte_16 : decode b_CT_addByte 16 = .ok (.aload_n 0, 1) := by decide +kernel
theorem d_CT_addByte_17 : decode b_CT_addByte 17 = .ok (.getfield 15, 3) := by decide +kernel
theorem d_CT_addByte_20 : decode b_CT_addByte 20 = .ok (.iload_n 1, 1) := by decide +kernel
theorem d_CT_addByte_21 : decode b_CT_addByte 21 = .ok (.i2b, 1) := by decide +kernel
theorem d_CT_addByte_22 : decode b_CT_addByte 22 = .ok (.bastore, 1) := by decide +kernel
theorem d_CT_addByte_23 : decode b_CT_addByte 23 = .ok (.aload_n 0, 1) := by decide +kernel
theorem d_CT_addByte_24 : decode b_CT_addByte 24 = .ok (.dup, 1) := by decide +kernel
theorem d_CT_addByte_25 : decode b_CT_addByte 25 = .ok (.getfield 15, 3) := by decide +kernel
theorem d_CT_addByte_28 : decode b_CT_addByte 28 = .ok (.iconst 1, 1) := by decide +kernel
theorem d_CT_addByte_29 : decode b_CT_addByte 29 = .ok (.iadd, 1) := by decide +kernel
theorem d_CT_addByte_30 : decode b_CT_addByte 30 = .ok (.putfield 15, 3) := by decide +kernel
theorem d_CT_addByte_33 : decode b_CT_addByte 33 = .ok (.return_, 1) := by decide +kernel
/-! ===== methods of RP: printed by program ===== -/
def y_RP_init : MethodName := ⟨cR5, "<init>", "(IIII)V"⟩
abbrev b_RP_init : ByteArray := prog_4_method_1_code
abbrev k_RP_init : Cond := .code y_RP_init b_RP_init 5 none
theorem mc_RP_init : MC y_RP_init k_RP_init b_RP_init 5 none [] 4 := ⟨g_in (List.mem_of_getElem? (i := 336) (by decide +kernel)) (by decide +kernel), Or.inl ⟨rfl, rfl⟩, g_in (List.mem_of_getElem? (i := 69) (by decide +kernel)) (by decide +kernel), by decide, by decide +kernel⟩
theorem in_RP_init : Cond.instanceMethod y_RP_init ∈ g_ws := g_in (List.mem_of_getElem? (i := 335) (by decide +kernel)) (by decide +kernel)
theorem d_RP_init_0 : decode b_RP_init 0 = .ok (.aload_n 0, 1) := by decide +kernel
theorem d_RP_init_1 : decode b_RP_init 1 = .ok (.invokespecial 3, 3) := by decide +kernel
theorem d_RP_init_4 : decode b_RP_init 4 = .ok (.aload_n 0, 1) := by decide +kernel
theorem d_RP_init_5 : decode b_RP_init 5 = .ok (.bipush 20, 2) := by decide +kernel
theorem d_RP_init_7 : decode b_RP_init 7 = .ok (.newarray .int, 2) := by decide +kernel
theorem d_RP_init_9 : decode b_RP_init 9 = .ok (.putfield 9, 3) := by decide +kernel
theorem d_RP_init_12 : decode b_RP_init 12 = .ok (.aload_n 0, 1) := by decide +kernel
theorem d_RP_init_13 : decode b_RP_init 13 = .ok (.iconst 0, 1) := by decide +kernel
theorem d_RP_init_14 : decode b_RP_init 14 = .ok (.putfield 15, 3) := by decide +kernel
theorem d_RP_init_17 : decode b_RP_init 17 = .ok (.aload_n 0, 1) := by decide +kernel
theorem d_RP_init_18 : decode b_RP_init 18 = .ok (.iconst 0, 1) := by decide +kernel
theorem d_RP_init_19 : decode b_RP_init 19 = .ok (.putfield 19, 3) := by decide +kernel
theorem d_RP_init_22 : decode b_RP_init 22 = .ok (.aload_n 0, 1) := by decide +kernel
theorem d_RP_init_23 : decode b_RP_init 23 = .ok (.iconst 0, 1) := by decide +kernel
theorem d_RP_init_24 : decode b_RP_init 24 = .ok (.putfield 22, 3) := by decide +kernel
theorem d_RP_init_27 : decode b_RP_init 27 = .ok (.aload_n 0, 1) := by decide +kernel
theorem d_RP_init_28 : decode b_RP_init 28 = .ok (.iconst 0, 1) := by decide +kernel
theorem d_RP_init_29 : decode b_RP_init 29 = .ok (.putfield 25, 3) := by decide +kernel
theorem d_RP_init_32 : decode b_RP_init 32 = .ok (.aload_n 0, 1) := by decide +kernel
theorem d_RP_init_33 : decode b_RP_init 33 = .ok (.iconst 3, 1) := by decide +kernel
theorem d_RP_init_34 : decode b_RP_init 34 = .ok (.newarray .int, 2) := by decide +kernel
theorem d_RP_init_36 : decode b_RP_init 36 = .ok (.putfield 28, 3) := by decide +kernel
theorem d_RP_init_39 : decode b_RP_init 39 = .ok (.aload_n 0, 1) := by decide +kernel
theorem d_RP_init_40 : decode b_RP_init 40 = .ok (.iconst 0, 1) := by decide +kernel
theorem d_RP_init_41 : decode b_RP_init 41 = .ok (.putfield 31, 3) := by decide +kernel
theorem d_RP_init_44 : decode b_RP_init 44 = .ok (.aload_n 0, 1) := by decide +kernel
theorem d_RP_init_45 : decode b_RP_init 45 = .ok (.iload_n 1, 1) := by decide +kernel
theorem d_RP_init_46 : decode b_RP_init 46 = .ok (.putfield 34, 3) := by decide +kernel
theorem d_RP_init_49 : decode b_RP_init 49 = .ok (.aload_n 0, 1) := by decide +kernel
theorem d_RP_init_50 : decode b_RP_init 50 = .ok (.iload_n 2, 1) := by decide +kernel
theorem d_RP_init_51 : decode b_RP_init 51 = .ok (.putfield 37, 3) := by decide +kernel
theorem d_RP_init_54 : decode b_RP_init 54 = .ok (.aload_n 0, 1) := by decide +kernel
theorem d_RP_init_55 : decode b_RP_init 55 = .ok (.iload_n 3, 1) := by decide +kernel
theorem d_RP_init_56 : decode b_RP_init 56 = .ok (.putfield 40, 3) := by decide +kernel
theorem d_RP_init_59 : decode b_RP_init 59 = .ok (.aload_n 0, 1) := by decide +kernel
theorem d_RP_init_60 : decode b_RP_init 60 = .ok (.iload 4, 2) := by decide +kernel
theorem d_RP_init_62 : decode b_RP_init 62 = .ok (.putfield 43, 3) := by decide +kernel
theorem d_RP_init_65 : decode b_RP_init 65 = .ok (.return_, 1) := by decide +kernel
def y_RP_canBeTold : MethodName := ⟨cR5, "canBeTold", "(I)Z"⟩
abbrev b_RP_canBeTold : ByteArray := prog_4_method_2_code
abbrev k_RP_canBeTold : Cond := .code y_RP_canBeTold b_RP_canBeTold 2 (some .boolean)
theorem mc_RP_canBeTold : MC y_RP_canBeTold k_RP_canBeTold b_RP_canBeTold 2 (some .boolean) [] 1 := ⟨g_in (List.mem_of_getElem? (i := 423) (by decide +kernel)) (by decide +kernel), Or.inl ⟨rfl, rfl⟩, g_in (List.mem_of_getElem? (i := 69) (by decide +kernel)) (by decide +kernel), by decide, by decide +kernel⟩
theorem in_RP_canBeTold : Cond.instanceMethod y_RP_canBeTold ∈ g_ws := g_in (List.mem_of_getElem? (i := 422) (by decide +kernel)) (by decide +kernel)
theorem se_RP_canBeTold : Cond.selects cR5 y_RP_canBeTold y_RP_canBeTold ∈ g_ws := g_in (List.mem_of_getElem? (i := 4) (by decide +kernel)) (by decide +kernel)
theorem d_RP_canBeTold_0 : decode b_RP_canBeTold 0 = .ok (.aload_n 0, 1) := by decide +kernel
theorem d_RP_canBeTold_1 : decode b_RP_canBeTold 1 = .ok (.getfield 31, 3) := by decide +kernel
theorem d_RP_canBeTold_4 : decode b_RP_canBeTold 4 = .ok (.ifCond .eq 14, 3) := by decide +kernel
theorem d_RP_canBeTold_7 : decode b_RP_canBeTold 7 = .ok (.aload_n 0, 1) := by decide +kernel
theorem d_RP_canBeTold_8 : decode b_RP_canBeTold 8 = .ok (.getfield 22, 3) := by decide +kernel
theorem d_RP_canBeTold_11 : decode b_RP_canBeTold 11 = .ok (.iload_n 1, 1) := by decide +kernel
theorem d_RP_canBeTold_12 : decode b_RP_canBeTold 12 = .ok (.invokestatic 46, 3) := by decide +kernel
theorem d_RP_canBeTold_15 : decode b_RP_canBeTold 15 = .ok (.ifCond .eq 7, 3) := by decide +kernel
theorem d_RP_canBeTold_18 : decode b_RP_canBeTold 18 = .ok (.iconst 1, 1) := by decide +kernel
theorem d_RP_canBeTold_19 : decode b_RP_canBeTold 19 = .ok (.goto 4, 3) := by decide +kernel
theorem d_RP_canBeTold_22 : decode b_RP_canBeTold 22 = .ok (.iconst 0, 1) := by decide +kernel
theorem d_RP_canBeTold_23 : decode b_RP_canBeTold 23 = .ok (.ireturn, 1) := by decide +kernel
def y_RP_tell : MethodName := ⟨cR5, "tell", "(II)V"⟩
abbrev b_RP_tell : ByteArray := prog_4_method_3_code
abbrev k_RP_tell : Cond := .code y_RP_tell b_RP_tell 3 none
theorem mc_RP_tell : MC y_RP_tell k_RP_tell b_RP_tell 3 none [] 2 := ⟨g_in (List.mem_of_getElem? (i := 446) (by decide +kernel)) (by decide +kernel), Or.inl ⟨rfl, rfl⟩, g_in (List.mem_of_getElem? (i := 69) (by decide +kernel)) (by decide +kernel), by decide, by decide +kernel⟩
theorem in_RP_tell : Cond.instanceMethod y_RP_tell ∈ g_ws := g_in (List.mem_of_getElem? (i := 445) (by decide +kernel)) (by decide +kernel)
theorem se_RP_tell : Cond.selects cR5 y_RP_tell y_RP_tell ∈ g_ws := g_in (List.mem_of_getElem? (i := 5) (by decide +kernel)) (by decide +kernel)
theorem d_RP_tell_0 : decode b_RP_tell 0 = .ok (.aload_n 0, 1) := by decide +kernel
theorem d_RP_tell_1 : decode b_RP_tell 1 = .ok (.getfield 9, 3) := by decide +kernel
theorem d_RP_tell_4 : decode b_RP_tell 4 = .ok (.iload_n 1, 1) := by decide +kernel
theorem d_RP_tell_5 : decode b_RP_tell 5 = .ok (.iload_n 2, 1) := by decide +kernel
theorem d_RP_tell_6 : decode b_RP_tell 6 = .ok (.iastore, 1) := by decide +kernel
theorem d_RP_tell_7 : decode b_RP_tell 7 = .ok (.aload_n 0, 1) := by decide +kernel
theorem d_RP_tell_8 : decode b_RP_tell 8 = .ok (.aload_n 0, 1) := by decide +kernel
theorem d_RP_tell_9 : decode b_RP_tell 9 = .ok (.getfield 15, 3) := by decide +kernel
theorem d_RP_tell_12 : decode b_RP_tell 12 = .ok (.iload_n 1, 1) := by decide +kernel
theorem d_RP_tell_13 : decode b_RP_tell 13 = .ok (.iconst 1, 1) := by decide +kernel
theorem d_RP_tell_14 : decode b_RP_tell 14 = .ok (.invokestatic 50, 3) := by decide +kernel
theorem d_RP_tell_17 : decode b_RP_tell 17 = .ok (.putfield 15, 3) := by decide +kernel
theorem d_RP_tell_20 : decode b_RP_tell 20 = .ok (.aload_n 0, 1) := by decide +kernel
theorem d_RP_tell_21 : decode b_RP_tell 21 = .ok (.aload_n 0, 1) := by decide +kernel
theorem d_RP_tell_22 : decode b_RP_tell 22 = .ok (.getfield 19, 3) := by decide +kernel
theorem d_RP_tell_25 : decode b_RP_tell 25 = .ok (.iload_n 1, 1) := by decide +kernel
theorem d_RP_tell_26 : decode b_RP_tell 26 = .ok (.iconst 0, 1) := by decide +kernel
theorem d_RP_tell_27 : decode b_RP_tell 27 = .ok (.invokestatic 50, 3) := by decide +kernel
theorem d_RP_tell_30 : decode b_RP_tell 30 = .ok (.putfield 19, 3) := by decide +kernel
theorem d_RP_tell_33 : decode b_RP_tell 33 = .ok (.aload_n 0, 1) := by decide +kernel
theorem d_RP_tell_34 : decode b_RP_tell 34 = .ok (.aload_n 0, 1) := by decide +kernel
theorem d_RP_tell_35 : decode b_RP_tell 35 = .ok (.getfield 22, 3) := by decide +kernel
theorem d_RP_tell_38 : decode b_RP_tell 38 = .ok (.iload_n 1, 1) := by decide +kernel
theorem d_RP_tell_39 : decode b_RP_tell 39 = .ok (.iconst 0, 1) := by decide +kernel
theorem d_RP_tell_40 : decode b_RP_tell 40 = .ok (.invokestatic 50, 3) := by decide +kernel
theorem d_RP_tell_43 : decode b_RP_tell 43 = .ok (.putfield 22, 3) := by decide +kernel
theorem d_RP_tell_46 : decode b_RP_tell 46 = .ok (.return_, 1) := by decide +kernel
def y_RP_fillByAct : MethodName := ⟨cR5, "fillByAct", "(II)Z"⟩
abbrev b_RP_fillByAct : ByteArray := prog_4_method_4_code
abbrev k_RP_fillByAct : Cond := .code y_RP_fillByAct b_RP_fillByAct 5 (some .boolean)
theorem mc_RP_fillByAct : MC y_RP_fillByAct k_RP_fillByAct b_RP_fillByAct 5 (some .boolean) [] 2 := ⟨g_in (List.mem_of_getElem? (i := 464) (by decide +kernel)) (by decide +kernel), Or.inl ⟨rfl, rfl⟩, g_in (List.mem_of_getElem? (i := 69) (by decide +kernel)) (by decide +kernel), by decide, by decide +kernel⟩
theorem in_RP_fillByAct : Cond.instanceMethod y_RP_fillByAct ∈ g_ws := g_in (List.mem_of_getElem? (i := 463) (by decide +kernel)) (by decide +kernel)
theorem se_RP_fillByAct : Cond.selects cR5 y_RP_fillByAct y_RP_fillByAct ∈ g_ws := g_in (List.mem_of_getElem? (i := 6) (by decide +kernel)) (by decide +kernel)
theorem d_RP_fillByAct_0 : decode b_RP_fillByAct 0 = .ok (.aload_n 0, 1) := by decide +kernel
theorem d_RP_fillByAct_1 : decode b_RP_fillByAct 1 = .ok (.getfield 15, 3) := by decide +kernel
theorem d_RP_fillByAct_4 : decode b_RP_fillByAct 4 = .ok (.iload_n 1, 1) := by decide +kernel
theorem d_RP_fillByAct_5 : decode b_RP_fillByAct 5 = .ok (.invokestatic 46, 3) := by decide +kernel
theorem d_RP_fillByAct_8 : decode b_RP_fillByAct 8 = .ok (.ifCond .ne 7, 3) := by decide +kernel
theorem d_RP_fillByAct_11 : decode b_RP_fillByAct 11 = .ok (.iconst 1, 1) := by decide +kernel
theorem d_RP_fillByAct_12 : decode b_RP_fillByAct 12 = .ok (.goto 4, 3) := by decide +kernel
theorem d_RP_fillByAct_15 : decode b_RP_fillByAct 15 = .ok (.iconst 0, 1) := by decide +kernel
theorem d_RP_fillByAct_16 : decode b_RP_fillByAct 16 = .ok (.istore_n 3, 1) := by decide +kernel
theorem d_RP_fillByAct_17 : decode b_RP_fillByAct 17 = .ok (.aload_n 0, 1) := by decide +kernel
theorem d_RP_fillByAct_18 : decode b_RP_fillByAct 18 = .ok (.getfield 19, 3) := by decide +kernel
theorem d_RP_fillByAct_21 : decode b_RP_fillByAct 21 = .ok (.iload_n 1, 1) := by decide +kernel
theorem d_RP_fillByAct_22 : decode b_RP_fillByAct 22 = .ok (.invokestatic 46, 3) := by decide +kernel
theorem d_RP_fillByAct_25 : decode b_RP_fillByAct 25 = .ok (.ifCond .eq 17, 3) := by decide +kernel
theorem d_RP_fillByAct_28 : decode b_RP_fillByAct 28 = .ok (.iload_n 2, 1) := by decide +kernel
theorem d_RP_fillByAct_29 : decode b_RP_fillByAct 29 = .ok (.aload_n 0, 1) := by decide +kernel
theorem d_RP_fillByAct_30 : decode b_RP_fillByAct 30 = .ok (.getfield 9, 3) := by decide +kernel
theorem d_RP_fillByAct_33 : decode b_RP_fillByAct 33 = .ok (.iload_n 1, 1) := by decide +kernel
theorem d_RP_fillByAct_34 : decode b_RP_fillByAct 34 = .ok (.iaload, 1) := by decide +kernel
theorem d_RP_fillByAct_35 : decode b_RP_fillByAct 35 = .ok (.if_icmp .ge 7, 3) := by decide +kernel
theorem d_RP_fillByAct_38 : decode b_RP_fillByAct 38 = .ok (.iconst 1, 1) := by decide +kernel
theorem d_RP_fillByAct_39 : decode b_RP_fillByAct 39 = .ok (.goto 4, 3) := by decide +kernel
theorem d_RP_fillByAct_42 : decode b_RP_fillByAct 42 = .ok (.iconst 0, 1) := by decide +kernel
theorem d_RP_fillByAct_43 : decode b_RP_fillByAct 43 = .ok (.istore 4, 2) := by decide +kernel
theorem d_RP_fillByAct_45 : decode b_RP_fillByAct 45 = .ok (.iload_n 3, 1) := by decide +kernel
theorem d_RP_fillByAct_46 : decode b_RP_fillByAct 46 = .ok (.ifCond .ne 10, 3) := by decide +kernel
theorem d_RP_fillByAct_49 : decode b_RP_fillByAct 49 = .ok (.iload 4, 2) := by decide +kernel
theorem d_RP_fillByAct_51 : decode b_RP_fillByAct 51 = .ok (.ifCond .ne 5, 3) := by decide +kernel
theorem d_RP_fillByAct_54 : decode b_RP_fillByAct 54 = .ok (.iconst 0, 1) := by decide +kernel
theorem d_RP_fillByAct_55 : decode b_RP_fillByAct 55 = .ok (.ireturn, 1) := by decide +kernel
theorem d_RP_fillByAct_56 : decode b_RP_fillByAct 56 = .ok (.aload_n 0, 1) := by decide +kernel
theorem d_RP_fillByAct_57 : decode b_RP_fillByAct 57 = .ok (.getfield 9, 3) := by decide +kernel
theorem d_RP_fillByAct_60 : decode b_RP_fillByAct 60 = .ok (.iload_n 1, 1) := by decide +kernel
theorem d_RP_fillByAct_61 : decode b_RP_fillByAct 61 = .ok (.iload_n 2, 1) := by decide +kernel
theorem d_RP_fillByAct_62 : decode b_RP_fillByAct 62 = .ok (.iastore, 1) := by decide +kernel
theorem d_RP_fillByAct_63 : decode b_RP_fillByAct 63 = .ok (.aload_n 0, 1) := by decide +kernel
theorem d_RP_fillByAct_64 : decode b_RP_fillByAct 64 = .ok (.aload_n 0, 1) := by decide +kernel
theorem d_RP_fillByAct_65 : decode b_RP_fillByAct 65 = .ok (.getfield 15, 3) := by decide +kernel
theorem d_RP_fillByAct_68 : decode b_RP_fillByAct 68 = .ok (.iload_n 1, 1) := by decide +kernel
theorem d_RP_fillByAct_69 : decode b_RP_fillByAct 69 = .ok (.iconst 1, 1) := by decide +kernel
theorem d_RP_fillByAct_70 : decode b_RP_fillByAct 70 = .ok (.invokestatic 50, 3) := by decide +kernel
theorem d_RP_fillByAct_73 : decode b_RP_fillByAct 73 = .ok (.putfield 15, 3) := by decide +kernel
theorem d_RP_fillByAct_76 : decode b_RP_fillByAct 76 = .ok (.aload_n 0, 1) := by decide +kernel
theorem d_RP_fillByAct_77 : decode b_RP_fillByAct 77 = .ok (.aload_n 0, 1) := by decide +kernel
theorem d_RP_fillByAct_78 : decode b_RP_fillByAct 78 = .ok (.getfield 19, 3) := by decide +kernel
theorem d_RP_fillByAct_81 : decode b_RP_fillByAct 81 = .ok (.iload_n 1, 1) := by decide +kernel
theorem d_RP_fillByAct_82 : decode b_RP_fillByAct 82 = .ok (.iconst 1, 1) := by decide +kernel
theorem d_RP_fillByAct_83 : decode b_RP_fillByAct 83 = .ok (.invokestatic 50, 3) := by decide +kernel
theorem d_RP_fillByAct_86 : decode b_RP_fillByAct 86 = .ok (.putfield 19, 3) := by decide +kernel
theorem d_RP_fillByAct_89 : decode b_RP_fillByAct 89 = .ok (.iconst 1, 1) := by decide +kernel
theorem d_RP_fillByAct_90 : decode b_RP_fillByAct 90 = .ok (.ireturn, 1) := by decide +kernel
def y_RP_copyValues : MethodName := ⟨cR5, "copyValues", "(LReportChecks2$Report;)V"⟩
abbrev b_RP_copyValues : ByteArray := prog_4_method_5_code
abbrev k_RP_copyValues : Cond := .code y_RP_copyValues b_RP_copyValues 2 none
theorem mc_RP_copyValues : MC y_RP_copyValues k_RP_copyValues b_RP_copyValues 2 none [] 1 := ⟨g_in (List.mem_of_getElem? (i := 626) (by decide +kernel)) (by decide +kernel), Or.inl ⟨rfl, rfl⟩, g_in (List.mem_of_getElem? (i := 69) (by decide +kernel)) (by decide +kernel), by decide, by decide +kernel⟩
theorem in_RP_copyValues : Cond.instanceMethod y_RP_copyValues ∈ g_ws := g_in (List.mem_of_getElem? (i := 625) (by decide +kernel)) (by decide +kernel)
theorem se_RP_copyValues : Cond.selects cR5 y_RP_copyValues y_RP_copyValues ∈ g_ws := g_in (List.mem_of_getElem? (i := 26) (by decide +kernel)) (by decide +kernel)
theorem d_RP_copyValues_0 : decode b_RP_copyValues 0 = .ok (.aload_n 1, 1) := by decide +kernel
theorem d_RP_copyValues_1 : decode b_RP_copyValues 1 = .ok (.getfield 9, 3) := by decide +kernel
theorem d_RP_copyValues_4 : decode b_RP_copyValues 4 = .ok (.iconst 0, 1) := by decide +kernel
theorem d_RP_copyValues_5 : decode b_RP_copyValues 5 = .ok (.aload_n 0, 1) := by decide +kernel
theorem d_RP_copyValues_6 : decode b_RP_copyValues 6 = .ok (.getfield 9, 3) := by decide +kernel
theorem d_RP_copyValues_9 : decode b_RP_copyValues 9 = .ok (.iconst 0, 1) := by decide +kernel
theorem d_RP_copyValues_10 : decode b_RP_copyValues 10 = .ok (.bipush 20, 2) := by decide +kernel
theorem d_RP_copyValues_12 : decode b_RP_copyValues 12 = .ok (.invokestatic 54, 3) := by decide +kernel
theorem d_RP_copyValues_15 : decode b_RP_copyValues 15 = .ok (.aload_n 0, 1) := by decide +kernel
theorem d_RP_copyValues_16 : decode b_RP_copyValues 16 = .ok (.aload_n 1, 1) := by decide +kernel
theorem d_RP_copyValues_17 : decode b_RP_copyValues 17 = .ok (.getfield 15, 3) := by decide +kernel
theorem d_RP_copyValues_20 : decode b_RP_copyValues 20 = .ok (.putfield 15, 3) := by decide +kernel
theorem d_RP_copyValues_23 : decode b_RP_copyValues 23 = .ok (.aload_n 0, 1) := by decide +kernel
theorem d_RP_copyValues_24 : decode b_RP_copyValues 24 = .ok (.aload_n 1, 1) := by decide +kernel
theorem d_RP_copyValues_25 : decode b_RP_copyValues 25 = .ok (.getfield 19, 3) := by decide +kernel
theorem d_RP_copyValues_28 : decode b_RP_copyValues 28 = .ok (.putfield 19, 3) := by decide +kernel
theorem d_RP_copyValues_31 : decode b_RP_copyValues 31 = .ok (.return_, 1) := by decide +kernel
def y_RP_isClosed : MethodName := ⟨cR5, "isClosed", "()Z"⟩
abbrev b_RP_isClosed : ByteArray := prog_4_method_6_code
abbrev k_RP_isClosed : Cond := .code y_RP_isClosed b_RP_isClosed 1 (some .boolean)
theorem mc_RP_isClosed : MC y_RP_isClosed k_RP_isClosed b_RP_isClosed 1 (some .boolean) [] 0 := ⟨g_in (List.mem_of_getElem? (i := 601) (by decide +kernel)) (by decide +kernel), Or.inl ⟨rfl, rfl⟩, g_in (List.mem_of_getElem? (i := 69) (by decide +kernel)) (by decide +kernel), by decide, by decide +kernel⟩
theorem in_RP_isClosed : Cond.instanceMethod y_RP_isClosed ∈ g_ws := g_in (List.mem_of_getElem? (i := 600) (by decide +kernel)) (by decide +kernel)
theorem se_RP_isClosed : Cond.selects cR5 y_RP_isClosed y_RP_isClosed ∈ g_ws := g_in (List.mem_of_getElem? (i := 23) (by decide +kernel)) (by decide +kernel)
theorem d_RP_isClosed_0 : decode b_RP_isClosed 0 = .ok (.aload_n 0, 1) := by decide +kernel
theorem d_RP_isClosed_1 : decode b_RP_isClosed 1 = .ok (.getfield 31, 3) := by decide +kernel
theorem d_RP_isClosed_4 : decode b_RP_isClosed 4 = .ok (.iconst 3, 1) := by decide +kernel
theorem d_RP_isClosed_5 : decode b_RP_isClosed 5 = .ok (.if_icmp .lt 7, 3) := by decide +kernel
theorem d_RP_isClosed_8 : decode b_RP_isClosed 8 = .ok (.iconst 1, 1) := by decide +kernel
theorem d_RP_isClosed_9 : decode b_RP_isClosed 9 = .ok (.goto 4, 3) := by decide +kernel
theorem d_RP_isClosed_12 : decode b_RP_isClosed 12 = .ok (.iconst 0, 1) := by decide +kernel
theorem d_RP_isClosed_13 : decode b_RP_isClosed 13 = .ok (.ireturn, 1) := by decide +kernel
def y_RP_isReadyFor : MethodName := ⟨cR5, "isReadyFor", "(I)Z"⟩
abbrev b_RP_isReadyFor : ByteArray := prog_4_method_7_code
abbrev k_RP_isReadyFor : Cond := .code y_RP_isReadyFor b_RP_isReadyFor 2 (some .boolean)
theorem mc_RP_isReadyFor : MC y_RP_isReadyFor k_RP_isReadyFor b_RP_isReadyFor 2 (some .boolean) [] 1 := ⟨g_in (List.mem_of_getElem? (i := 597) (by decide +kernel)) (by decide +kernel), Or.inl ⟨rfl, rfl⟩, g_in (List.mem_of_getElem? (i := 69) (by decide +kernel)) (by decide +kernel), by decide, by decide +kernel⟩
theorem in_RP_isReadyFor : Cond.instanceMethod y_RP_isReadyFor ∈ g_ws := g_in (List.mem_of_getElem? (i := 596) (by decide +kernel)) (by decide +kernel)
theorem se_RP_isReadyFor : Cond.selects cR5 y_RP_isReadyFor y_RP_isReadyFor ∈ g_ws := g_in (List.mem_of_getElem? (i := 22) (by decide +kernel)) (by decide +kernel)
theorem d_RP_isReadyFor_0 : decode b_RP_isReadyFor 0 = .ok (.aload_n 0, 1) := by decide +kernel
theorem d_RP_isReadyFor_1 : decode b_RP_isReadyFor 1 = .ok (.getfield 25, 3) := by decide +kernel
theorem d_RP_isReadyFor_4 : decode b_RP_isReadyFor 4 = .ok (.ifCond .ne 29, 3) := by decide +kernel
theorem d_RP_isReadyFor_7 : decode b_RP_isReadyFor 7 = .ok (.aload_n 0, 1) := by decide +kernel
theorem d_RP_isReadyFor_8 : decode b_RP_isReadyFor 8 = .ok (.getfield 22, 3) := by decide +kernel
theorem d_RP_isReadyFor_11 : decode b_RP_isReadyFor 11 = .ok (.ifCond .ne 22, 3) := by decide +kernel
theorem d_RP_isReadyFor_14 : decode b_RP_isReadyFor 14 = .ok (.aload_n 0, 1) := by decide +kernel
theorem d_RP_isReadyFor_15 : decode b_RP_isReadyFor 15 = .ok (.invokevirtual 60, 3) := by decide +kernel
theorem d_RP_isReadyFor_18 : decode b_RP_isReadyFor 18 = .ok (.ifCond .ne 15, 3) := by decide +kernel
theorem d_RP_isReadyFor_21 : decode b_RP_isReadyFor 21 = .ok (.aload_n 0, 1) := by decide +kernel
theorem d_RP_isReadyFor_22 : decode b_RP_isReadyFor 22 = .ok (.iload_n 1, 1) := by decide +kernel
theorem d_RP_isReadyFor_23 : decode b_RP_isReadyFor 23 = .ok (.invokevirtual 64, 3) := by decide +kernel
theorem d_RP_isReadyFor_26 : decode b_RP_isReadyFor 26 = .ok (.ifCond .ne 7, 3) := by decide +kernel
theorem d_RP_isReadyFor_29 : decode b_RP_isReadyFor 29 = .ok (.iconst 1, 1) := by decide +kernel
theorem d_RP_isReadyFor_30 : decode b_RP_isReadyFor 30 = .ok (.goto 4, 3) := by decide +kernel
theorem d_RP_isReadyFor_33 : decode b_RP_isReadyFor 33 = .ok (.iconst 0, 1) := by decide +kernel
theorem d_RP_isReadyFor_34 : decode b_RP_isReadyFor 34 = .ok (.ireturn, 1) := by decide +kernel
def y_RP_hasSigner : MethodName := ⟨cR5, "hasSigner", "(I)Z"⟩
abbrev b_RP_hasSigner : ByteArray := prog_4_method_8_code
abbrev k_RP_hasSigner : Cond := .code y_RP_hasSigner b_RP_hasSigner 3 (some .boolean)
theorem mc_RP_hasSigner : MC y_RP_hasSigner k_RP_hasSigner b_RP_hasSigner 3 (some .boolean) [] 1 := ⟨g_in (List.mem_of_getElem? (i := 605) (by decide +kernel)) (by decide +kernel), Or.inl ⟨rfl, rfl⟩, g_in (List.mem_of_getElem? (i := 69) (by decide +kernel)) (by decide +kernel), by decide, by decide +kernel⟩
theorem in_RP_hasSigner : Cond.instanceMethod y_RP_hasSigner ∈ g_ws := g_in (List.mem_of_getElem? (i := 604) (by decide +kernel)) (by decide +kernel)
theorem se_RP_hasSigner : Cond.selects cR5 y_RP_hasSigner y_RP_hasSigner ∈ g_ws := g_in (List.mem_of_getElem? (i := 24) (by decide +kernel)) (by decide +kernel)
theorem d_RP_hasSigner_0 : decode b_RP_hasSigner 0 = .ok (.iconst 0, 1) := by decide +kernel
theorem d_RP_hasSigner_1 : decode b_RP_hasSigner 1 = .ok (.istore_n 2, 1) := by decide +kernel
theorem d_RP_hasSigner_2 : decode b_RP_hasSigner 2 = .ok (.iload_n 2, 1) := by decide +kernel
theorem d_RP_hasSigner_3 : decode b_RP_hasSigner 3 = .ok (.aload_n 0, 1) := by decide +kernel
theorem d_RP_hasSigner_4 : decode b_RP_hasSigner 4 = .ok (.getfield 31, 3) := by decide +kernel
theorem d_RP_hasSigner_7 : decode b_RP_hasSigner 7 = .ok (.if_icmp .ge 26, 3) := by decide +kernel
theorem d_RP_hasSigner_10 : decode b_RP_hasSigner 10 = .ok (.iload_n 2, 1) := by decide +kernel
theorem d_RP_hasSigner_11 : decode b_RP_hasSigner 11 = .ok (.iconst 3, 1) := by decide +kernel
theorem d_RP_hasSigner_12 : decode b_RP_hasSigner 12 = .ok (.if_icmp .ge 21, 3) := by decide +kernel
theorem d_RP_hasSigner_15 : decode b_RP_hasSigner 15 = .ok (.aload_n 0, 1) := by decide +kernel
theorem d_RP_hasSigner_16 : decode b_RP_hasSigner 16 = .ok (.getfield 28, 3) := by decide +kernel
theorem d_RP_hasSigner_19 : decode b_RP_hasSigner 19 = .ok (.iload_n 2, 1) := by decide +kernel
theorem d_RP_hasSigner_20 : decode b_RP_hasSigner 20 = .ok (.iaload, 1) := by decide +kernel
theorem d_RP_hasSigner_21 : decode b_RP_hasSigner 21 = .ok (.iload_n 1, 1) := by decide +kernel
theorem d_RP_hasSigner_22 : decode b_RP_hasSigner 22 = .ok (.if_icmp .ne 5, 3) := by decide +kernel
theorem d_RP_hasSigner_25 : decode b_RP_hasSigner 25 = .ok (.iconst 1, 1) := by decide +kernel
theorem d_RP_hasSigner_26 : decode b_RP_hasSigner 26 = .ok (.ireturn, 1) := by decide +kernel
theorem d_RP_hasSigner_27 : decode b_RP_hasSigner 27 = .ok (.iinc 2 1, 3) := by decide +kernel
theorem d_RP_hasSigner_30 : decode b_RP_hasSigner 30 = .ok (.goto (-28), 3) := by decide +kernel
theorem d_RP_hasSigner_33 : decode b_RP_hasSigner 33 = .ok (.iconst 0, 1) := by decide +kernel
theorem d_RP_hasSigner_34 : decode b_RP_hasSigner 34 = .ok (.ireturn, 1) := by decide +kernel
def y_RP_addSignature : MethodName := ⟨cR5, "addSignature", "(I)V"⟩
abbrev b_RP_addSignature : ByteArray := prog_4_method_9_code
abbrev k_RP_addSignature : Cond := .code y_RP_addSignature b_RP_addSignature 2 none
theorem mc_RP_addSignature : MC y_RP_addSignature k_RP_addSignature b_RP_addSignature 2 none [] 1 := ⟨g_in (List.mem_of_getElem? (i := 610) (by decide +kernel)) (by decide +kernel), Or.inl ⟨rfl, rfl⟩, g_in (List.mem_of_getElem? (i := 69) (by decide +kernel)) (by decide +kernel), by decide, by decide +kernel⟩
theorem in_RP_addSignature : Cond.instanceMethod y_RP_addSignature ∈ g_ws := g_in (List.mem_of_getElem? (i := 609) (by decide +kernel)) (by decide +kernel)
theorem se_RP_addSignature : Cond.selects cR5 y_RP_addSignature y_RP_addSignature ∈ g_ws := g_in (List.mem_of_getElem? (i := 25) (by decide +kernel)) (by decide +kernel)
theorem d_RP_addSignature_0 : decode b_RP_addSignature 0 = .ok (.aload_n 0, 1) := by decide +kernel
theorem d_RP_addSignature_1 : decode b_RP_addSignature 1 = .ok (.getfield 31, 3) := by decide +kernel
theorem d_RP_addSignature_4 : decode b_RP_addSignature 4 = .ok (.iconst 3, 1) := by decide +kernel
theorem d_RP_addSignature_5 : decode b_RP_addSignature 5 = .ok (.if_icmp .ge 23, 3) := by decide +kernel
theorem d_RP_addSignature_8 : decode b_RP_addSignature 8 = .ok (.aload_n 0, 1) := by decide +kernel
theorem d_RP_addSignature_9 : decode b_RP_addSignature 9 = .ok (.getfield 28, 3) := by decide +kernel
theorem d_RP_addSignature_12 : decode b_RP_addSignature 12 = .ok (.aload_n 0, 1) := by decide +kernel
theorem d_RP_addSignature_13 : decode b_RP_addSignature 13 = .ok (.getfield 31, 3) := by decide +kernel
theorem d_RP_addSignature_16 : decode b_RP_addSignature 16 = .ok (.iload_n 1, 1) := by decide +kernel
theorem d_RP_addSignature_17 : decode b_RP_addSignature 17 = .ok (.iastore, 1) := by decide +kernel
theorem d_RP_addSignature_18 : decode b_RP_addSignature 18 = .ok (.aload_n 0, 1) := by decide +kernel
theorem d_RP_addSignature_19 : decode b_RP_addSignature 19 = .ok (.dup, 1) := by decide +kernel
theorem d_RP_addSignature_20 : decode b_RP_addSignature 20 = .ok (.getfield 31, 3) := by decide +kernel
theorem d_RP_addSignature_23 : decode b_RP_addSignature 23 = .ok (.iconst 1, 1) := by decide +kernel
theorem d_RP_addSignature_24 : decode b_RP_addSignature 24 = .ok (.iadd, 1) := by decide +kernel
theorem d_RP_addSignature_25 : decode b_RP_addSignature 25 = .ok (.putfield 31, 3) := by decide +kernel
theorem d_RP_addSignature_28 : decode b_RP_addSignature 28 = .ok (.return_, 1) := by decide +kernel
def y_RP_lastSigner : MethodName := ⟨cR5, "lastSigner", "()I"⟩
abbrev b_RP_lastSigner : ByteArray := prog_4_method_10_code
abbrev k_RP_lastSigner : Cond := .code y_RP_lastSigner b_RP_lastSigner 1 (some .int)
theorem mc_RP_lastSigner : MC y_RP_lastSigner k_RP_lastSigner b_RP_lastSigner 1 (some .int) [] 0 := ⟨g_in (List.mem_of_getElem? (i := 718) (by decide +kernel)) (by decide +kernel), Or.inl ⟨rfl, rfl⟩, g_in (List.mem_of_getElem? (i := 69) (by decide +kernel)) (by decide +kernel), by decide, by decide +kernel⟩
theorem in_RP_lastSigner : Cond.instanceMethod y_RP_lastSigner ∈ g_ws := g_in (List.mem_of_getElem? (i := 717) (by decide +kernel)) (by decide +kernel)
theorem se_RP_lastSigner : Cond.selects cR5 y_RP_lastSigner y_RP_lastSigner ∈ g_ws := g_in (List.mem_of_getElem? (i := 34) (by decide +kernel)) (by decide +kernel)
theorem d_RP_lastSigner_0 : decode b_RP_lastSigner 0 = .ok (.aload_n 0, 1) := by decide +kernel
theorem d_RP_lastSigner_1 : decode b_RP_lastSigner 1 = .ok (.getfield 31, 3) := by decide +kernel
theorem d_RP_lastSigner_4 : decode b_RP_lastSigner 4 = .ok (.ifCond .le 17, 3) := by decide +kernel
theorem d_RP_lastSigner_7 : decode b_RP_lastSigner 7 = .ok (.aload_n 0, 1) := by decide +kernel
theorem d_RP_lastSigner_8 : decode b_RP_lastSigner 8 = .ok (.getfield 28, 3) := by decide +kernel
theorem d_RP_lastSigner_11 : decode b_RP_lastSigner 11 = .ok (.aload_n 0, 1) := by decide +kernel
theorem d_RP_lastSigner_12 : decode b_RP_lastSigner 12 = .ok (.getfield 31, 3) := by decide +kernel
theorem d_RP_lastSigner_15 : decode b_RP_lastSigner 15 = .ok (.iconst 1, 1) := by decide +kernel
theorem d_RP_lastSigner_16 : decode b_RP_lastSigner 16 = .ok (.isub, 1) := by decide +kernel
theorem d_RP_lastSigner_17 : decode b_RP_lastSigner 17 = .ok (.iaload, 1) := by decide +kernel
theorem d_RP_lastSigner_18 : decode b_RP_lastSigner 18 = .ok (.goto 4, 3) := by decide +kernel
theorem d_RP_lastSigner_21 : decode b_RP_lastSigner 21 = .ok (.iconst (-1), 1) := by decide +kernel
theorem d_RP_lastSigner_22 : decode b_RP_lastSigner 22 = .ok (.ireturn, 1) := by decide +kernel
def y_RP_isLate : MethodName := ⟨cR5, "isLate", "(II)Z"⟩
abbrev b_RP_isLate : ByteArray := prog_4_method_11_code
abbrev k_RP_isLate : Cond := .code y_RP_isLate b_RP_isLate 3 (some .boolean)
theorem mc_RP_isLate : MC y_RP_isLate k_RP_isLate b_RP_isLate 3 (some .boolean) [] 2 := ⟨g_in (List.mem_of_getElem? (i := 691) (by decide +kernel)) (by decide +kernel), Or.inl ⟨rfl, rfl⟩, g_in (List.mem_of_getElem? (i := 69) (by decide +kernel)) (by decide +kernel), by decide, by decide +kernel⟩
theorem in_RP_isLate : Cond.instanceMethod y_RP_isLate ∈ g_ws := g_in (List.mem_of_getElem? (i := 690) (by decide +kernel)) (by decide +kernel)
theorem se_RP_isLate : Cond.selects cR5 y_RP_isLate y_RP_isLate ∈ g_ws := g_in (List.mem_of_getElem? (i := 31) (by decide +kernel)) (by decide +kernel)
theorem d_RP_isLate_0 : decode b_RP_isLate 0 = .ok (.aload_n 0, 1) := by decide +kernel
theorem d_RP_isLate_1 : decode b_RP_isLate 1 = .ok (.invokevirtual 60, 3) := by decide +kernel
theorem d_RP_isLate_4 : decode b_RP_isLate 4 = .ok (.ifCond .ne 17, 3) := by decide +kernel
theorem d_RP_isLate_7 : decode b_RP_isLate 7 = .ok (.iload_n 1, 1) := by decide +kernel
theorem d_RP_isLate_8 : decode b_RP_isLate 8 = .ok (.aload_n 0, 1) := by decide +kernel
theorem d_RP_isLate_9 : decode b_RP_isLate 9 = .ok (.getfield 40, 3) := by decide +kernel
theorem d_RP_isLate_12 : decode b_RP_isLate 12 = .ok (.isub, 1) := by decide +kernel
theorem d_RP_isLate_13 : decode b_RP_isLate 13 = .ok (.iload_n 2, 1) := by decide +kernel
theorem d_RP_isLate_14 : decode b_RP_isLate 14 = .ok (.if_icmp .le 7, 3) := by decide +kernel
theorem d_RP_isLate_17 : decode b_RP_isLate 17 = .ok (.iconst 1, 1) := by decide +kernel
theorem d_RP_isLate_18 : decode b_RP_isLate 18 = .ok (.goto 4, 3) := by decide +kernel
theorem d_RP_isLate_21 : decode b_RP_isLate 21 = .ok (.iconst 0, 1) := by decide +kernel
theorem d_RP_isLate_22 : decode b_RP_isLate 22 = .ok (.ireturn, 1) := by decide +kernel
def y_RP_isSettled : MethodName := ⟨cR5, "isSettled", "()Z"⟩
abbrev b_RP_isSettled : ByteArray := prog_4_method_12_code
abbrev k_RP_isSettled : Cond := .code y_RP_isSettled b_RP_isSettled 1 (some .boolean)
theorem mc_RP_isSettled : MC y_RP_isSettled k_RP_isSettled b_RP_isSettled 1 (some .boolean) [] 0 := ⟨g_in (List.mem_of_getElem? (i := 703) (by decide +kernel)) (by decide +kernel), Or.inl ⟨rfl, rfl⟩, g_in (List.mem_of_getElem? (i := 69) (by decide +kernel)) (by decide +kernel), by decide, by decide +kernel⟩
theorem in_RP_isSettled : Cond.instanceMethod y_RP_isSettled ∈ g_ws := g_in (List.mem_of_getElem? (i := 702) (by decide +kernel)) (by decide +kernel)
theorem se_RP_isSettled : Cond.selects cR5 y_RP_isSettled y_RP_isSettled ∈ g_ws := g_in (List.mem_of_getElem? (i := 32) (by decide +kernel)) (by decide +kernel)
theorem d_RP_isSettled_0 : decode b_RP_isSettled 0 = .ok (.aload_n 0, 1) := by decide +kernel
theorem d_RP_isSettled_1 : decode b_RP_isSettled 1 = .ok (.invokevirtual 60, 3) := by decide +kernel
theorem d_RP_isSettled_4 : decode b_RP_isSettled 4 = .ok (.ifCond .eq 14, 3) := by decide +kernel
theorem d_RP_isSettled_7 : decode b_RP_isSettled 7 = .ok (.aload_n 0, 1) := by decide +kernel
theorem d_RP_isSettled_8 : decode b_RP_isSettled 8 = .ok (.getfield 22, 3) := by decide +kernel
theorem d_RP_isSettled_11 : decode b_RP_isSettled 11 = .ok (.ifCond .ne 7, 3) := by decide +kernel
theorem d_RP_isSettled_14 : decode b_RP_isSettled 14 = .ok (.iconst 1, 1) := by decide +kernel
theorem d_RP_isSettled_15 : decode b_RP_isSettled 15 = .ok (.goto 4, 3) := by decide +kernel
theorem d_RP_isSettled_18 : decode b_RP_isSettled 18 = .ok (.iconst 0, 1) := by decide +kernel
theorem d_RP_isSettled_19 : decode b_RP_isSettled 19 = .ok (.ireturn, 1) := by decide +kernel
def y_RP_isBetween : MethodName := ⟨cR5, "isBetween", "(III)Z"⟩
abbrev b_RP_isBetween : ByteArray := prog_4_method_13_code
abbrev k_RP_isBetween : Cond := .code y_RP_isBetween b_RP_isBetween 4 (some .boolean)
theorem mc_RP_isBetween : MC y_RP_isBetween k_RP_isBetween b_RP_isBetween 4 (some .boolean) [] 3 := ⟨g_in (List.mem_of_getElem? (i := 707) (by decide +kernel)) (by decide +kernel), Or.inl ⟨rfl, rfl⟩, g_in (List.mem_of_getElem? (i := 69) (by decide +kernel)) (by decide +kernel), by decide, by decide +kernel⟩
theorem in_RP_isBetween : Cond.instanceMethod y_RP_isBetween ∈ g_ws := g_in (List.mem_of_getElem? (i := 706) (by decide +kernel)) (by decide +kernel)
theorem se_RP_isBetween : Cond.selects cR5 y_RP_isBetween y_RP_isBetween ∈ g_ws := g_in (List.mem_of_getElem? (i := 33) (by decide +kernel)) (by decide +kernel)
theorem d_RP_isBetween_0 : decode b_RP_isBetween 0 = .ok (.aload_n 0, 1) := by decide +kernel
theorem d_RP_isBetween_1 : decode b_RP_isBetween 1 = .ok (.getfield 15, 3) := by decide +kernel
theorem d_RP_isBetween_4 : decode b_RP_isBetween 4 = .ok (.iload_n 1, 1) := by decide +kernel
theorem d_RP_isBetween_5 : decode b_RP_isBetween 5 = .ok (.invokestatic 46, 3) := by decide +kernel
theorem d_RP_isBetween_8 : decode b_RP_isBetween 8 = .ok (.ifCond .eq 27, 3) := by decide +kernel
theorem d_RP_isBetween_11 : decode b_RP_isBetween 11 = .ok (.aload_n 0, 1) := by decide +kernel
theorem d_RP_isBetween_12 : decode b_RP_isBetween 12 = .ok (.getfield 9, 3) := by decide +kernel
theorem d_RP_isBetween_15 : decode b_RP_isBetween 15 = .ok (.iload_n 1, 1) := by decide +kernel
theorem d_RP_isBetween_16 : decode b_RP_isBetween 16 = .ok (.iaload, 1) := by decide +kernel
theorem d_RP_isBetween_17 : decode b_RP_isBetween 17 = .ok (.iload_n 2, 1) := by decide +kernel
theorem d_RP_isBetween_18 : decode b_RP_isBetween 18 = .ok (.if_icmp .lt 17, 3) := by decide +kernel
theorem d_RP_isBetween_21 : decode b_RP_isBetween 21 = .ok (.aload_n 0, 1) := by decide +kernel
theorem d_RP_isBetween_22 : decode b_RP_isBetween 22 = .ok (.getfield 9, 3) := by decide +kernel
theorem d_RP_isBetween_25 : decode b_RP_isBetween 25 = .ok (.iload_n 1, 1) := by decide +kernel
theorem d_RP_isBetween_26 : decode b_RP_isBetween 26 = .ok (.iaload, 1) := by decide +kernel
theorem d_RP_isBetween_27 : decode b_RP_isBetween 27 = .ok (.iload_n 3, 1) := by decide +kernel
theorem d_RP_isBetween_28 : decode b_RP_isBetween 28 = .ok (.if_icmp .gt 7, 3) := by decide +kernel
theorem d_RP_isBetween_31 : decode b_RP_isBetween 31 = .ok (.iconst 1, 1) := by decide +kernel
theorem d_RP_isBetween_32 : decode b_RP_isBetween 32 = .ok (.goto 4, 3) := by decide +kernel
theorem d_RP_isBetween_35 : decode b_RP_isBetween 35 = .ok (.iconst 0, 1) := by decide +kernel
theorem d_RP_isBetween_36 : decode b_RP_isBetween 36 = .ok (.ireturn, 1) := by decide +kernel
