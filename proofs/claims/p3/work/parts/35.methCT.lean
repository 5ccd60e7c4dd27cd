/-! ===== methods of CT: printed by program ===== -/
def y_CT_init : MethodName := ⟨cR4, "<init>", "()V"⟩
abbrev b_CT_init : ByteArray := prog_2_method_1_code
abbrev k_CT_init : Cond := .code y_CT_init b_CT_init 1 none
theorem mc_CT_init : MC y_CT_init k_CT_init b_CT_init 1 none [] 0 := ⟨g_in (List.mem_of_getElem? (i := 158) (by decide +kernel)) (by decide +kernel), Or.inl ⟨rfl, rfl⟩, g_in (List.mem_of_getElem? (i := 61) (by decide +kernel)) (by decide +kernel), by decide, by decide +kernel⟩
theorem in_CT_init : Cond.instanceMethod y_CT_init ∈ g_ws := g_in (List.mem_of_getElem? (i := 157) (by decide +kernel)) (by decide +kernel)
theorem d_CT_init_0 : decode b_CT_init 0 = .ok (.aload_n 0, 1) := by decide +kernel
theorem d_CT_init_1 : decode b_CT_init 1 = .ok (.invokespecial 3, 3) := by decide +kernel
theorem d_CT_init_4 : decode b_CT_init 4 = .ok (.aload_n 0, 1) := by decide +kernel
theorem d_CT_init_5 : decode b_CT_init 5 = .ok (.sipush 206, 3) := by decide +kernel
theorem d_CT_init_8 : decode b_CT_init 8 = .ok (.newarray .byte, 2) := by decide +kernel
theorem d_CT_init_10 : decode b_CT_init 10 = .ok (.putfield 9, 3) := by decide +kernel
theorem d_CT_init_13 : decode b_CT_init 13 = .ok (.aload_n 0, 1) := by decide +kernel
theorem d_CT_init_14 : decode b_CT_init 14 = .ok (.iconst 0, 1) := by decide +kernel
theorem d_CT_init_15 : decode b_CT_init 15 = .ok (.putfield 15, 3) := by decide +kernel
theorem d_CT_init_18 : decode b_CT_init 18 = .ok (.return_, 1) := by decide +kernel
def y_CT_write : MethodName := ⟨cR4, "write", "(LReportChecks2$Report;I)V"⟩
abbrev b_CT_write : ByteArray := prog_2_method_2_code
abbrev k_CT_write : Cond := .code y_CT_write b_CT_write 4 none
theorem mc_CT_write : MC y_CT_write k_CT_write b_CT_write 4 none [] 2 := ⟨g_in (List.mem_of_getElem? (i := 655) (by decide +kernel)) (by decide +kernel), Or.inl ⟨rfl, rfl⟩, g_in (List.mem_of_getElem? (i := 61) (by decide +kernel)) (by decide +kernel), by decide, by decide +kernel⟩
theorem in_CT_write : Cond.instanceMethod y_CT_write ∈ g_ws := g_in (List.mem_of_getElem? (i := 654) (by decide +kernel)) (by decide +kernel)
theorem se_CT_write : Cond.selects cR4 y_CT_write y_CT_write ∈ g_ws := g_in (List.mem_of_getElem? (i := 27) (by decide +kernel)) (by decide +kernel)
theorem d_CT_write_0 : decode b_CT_write 0 = .ok (.aload_n 0, 1) := by decide +kernel
theorem d_CT_write_1 : decode b_CT_write 1 = .ok (.iconst 0, 1) := by decide +kernel
theorem d_CT_write_2 : decode b_CT_write 2 = .ok (.putfield 15, 3) := by decide +kernel
theorem d_CT_write_5 : decode b_CT_write 5 = .ok (.aload_n 0, 1) := by decide +kernel
theorem d_CT_write_6 : decode b_CT_write 6 = .ok (.bipush 82, 2) := by decide +kernel
theorem d_CT_write_8 : decode b_CT_write 8 = .ok (.invokevirtual 19, 3) := by decide +kernel
theorem d_CT_write_11 : decode b_CT_write 11 = .ok (.aload_n 0, 1) := by decide +kernel
theorem d_CT_write_12 : decode b_CT_write 12 = .ok (.aload_n 1, 1) := by decide +kernel
theorem d_CT_write_13 : decode b_CT_write 13 = .ok (.getfield 23, 3) := by decide +kernel
theorem d_CT_write_16 : decode b_CT_write 16 = .ok (.invokevirtual 28, 3) := by decide +kernel
theorem d_CT_write_19 : decode b_CT_write 19 = .ok (.aload_n 0, 1) := by decide +kernel
theorem d_CT_write_20 : decode b_CT_write 20 = .ok (.bipush 44, 2) := by decide +kernel
theorem d_CT_write_22 : decode b_CT_write 22 = .ok (.invokevirtual 19, 3) := by decide +kernel
theorem d_CT_write_25 : decode b_CT_write 25 = .ok (.iconst 0, 1) := by decide +kernel
theorem d_CT_write_26 : decode b_CT_write 26 = .ok (.istore_n 3, 1) := by decide +kernel
theorem d_CT_write_27 : decode b_CT_write 27 = .ok (.iload_n 3, 1) := by decide +kernel
theorem d_CT_write_28 : decode b_CT_write 28 = .ok (.bipush 20, 2) := by decide +kernel
theorem d_CT_write_30 : decode b_CT_write 30 = .ok (.if_icmp .ge 36, 3) := by decide +kernel
theorem d_CT_write_33 : decode b_CT_write 33 = .ok (.aload_n 1, 1) := by decide +kernel
theorem d_CT_write_34 : decode b_CT_write 34 = .ok (.getfield 31, 3) := by decide +kernel
theorem d_CT_write_37 : decode b_CT_write 37 = .ok (.iload_n 3, 1) := by decide +kernel
theorem d_CT_write_38 : decode b_CT_write 38 = .ok (.invokestatic 34, 3) := by decide +kernel
theorem d_CT_write_41 : decode b_CT_write 41 = .ok (.ifCond .eq 19, 3) := by decide +kernel
theorem d_CT_write_44 : decode b_CT_write 44 = .ok (.aload_n 0, 1) := by decide +kernel
theorem d_CT_write_45 : decode b_CT_write 45 = .ok (.iload_n 3, 1) := by decide +kernel
theorem d_CT_write_46 : decode b_CT_write 46 = .ok (.aload_n 1, 1) := by decide +kernel
theorem d_CT_write_47 : decode b_CT_write 47 = .ok (.getfield 38, 3) := by decide +kernel
theorem d_CT_write_50 : decode b_CT_write 50 = .ok (.iload_n 3, 1) := by decide +kernel
theorem d_CT_write_51 : decode b_CT_write 51 = .ok (.iaload, 1) := by decide +kernel
theorem d_CT_write_52 : decode b_CT_write 52 = .ok (.iload_n 2, 1) := by decide +kernel
theorem d_CT_write_53 : decode b_CT_write 53 = .ok (.iload_n 3, 1) := by decide +kernel
theorem d_CT_write_54 : decode b_CT_write 54 = .ok (.invokestatic 34, 3) := by decide +kernel
theorem d_CT_write_57 : decode b_CT_write 57 = .ok (.invokevirtual 42, 3) := by decide +kernel
theorem d_CT_write_60 : decode b_CT_write 60 = .ok (.iinc 3 1, 3) := by decide +kernel
theorem d_CT_write_63 : decode b_CT_write 63 = .ok (.goto (-36), 3) := by decide +kernel
theorem d_CT_write_66 : decode b_CT_write 66 = .ok (.return_, 1) := by decide +kernel
def y_CT_addField : MethodName := ⟨cR4, "addField", "(IIZ)V"⟩
abbrev b_CT_addField : ByteArray := prog_2_method_3_code
abbrev k_CT_addField : Cond := .code y_CT_addField b_CT_addField 4 none
theorem mc_CT_addField : MC y_CT_addField k_CT_addField b_CT_addField 4 none [] 3 := ⟨g_in (List.mem_of_getElem? (i := 671) (by decide +kernel)) (by decide +kernel), Or.inl ⟨rfl, rfl⟩, g_in (List.mem_of_getElem? (i := 61) (by decide +kernel)) (by decide +kernel), by decide, by decide +kernel⟩
theorem in_CT_addField : Cond.instanceMethod y_CT_addField ∈ g_ws := g_in (List.mem_of_getElem? (i := 670) (by decide +kernel)) (by decide +kernel)
theorem se_CT_addField : Cond.selects cR4 y_CT_addField y_CT_addField ∈ g_ws := g_in (List.mem_of_getElem? (i := 30) (by decide +kernel)) (by decide +kernel)
theorem d_CT_addField_0 : decode b_CT_addField 0 = .ok (.aload_n 0, 1) := by decide +kernel
theorem d_CT_addField_1 : decode b_CT_addField 1 = .ok (.iload_n 1, 1) := by decide +kernel
theorem d_CT_addField_2 : decode b_CT_addField 2 = .ok (.invokevirtual 28, 3) := by decide +kernel
theorem d_CT_addField_5 : decode b_CT_addField 5 = .ok (.aload_n 0, 1) := by decide +kernel
theorem d_CT_addField_6 : decode b_CT_addField 6 = .ok (.bipush 58, 2) := by decide +kernel
theorem d_CT_addField_8 : decode b_CT_addField 8 = .ok (.invokevirtual 19, 3) := by decide +kernel
theorem d_CT_addField_11 : decode b_CT_addField 11 = .ok (.iload_n 3, 1) := by decide +kernel
theorem d_CT_addField_12 : decode b_CT_addField 12 = .ok (.ifCond .eq 12, 3) := by decide +kernel
theorem d_CT_addField_15 : decode b_CT_addField 15 = .ok (.aload_n 0, 1) := by decide +kernel
theorem d_CT_addField_16 : decode b_CT_addField 16 = .ok (.bipush 42, 2) := by decide +kernel
theorem d_CT_addField_18 : decode b_CT_addField 18 = .ok (.invokevirtual 19, 3) := by decide +kernel
theorem d_CT_addField_21 : decode b_CT_addField 21 = .ok (.goto 8, 3) := by decide +kernel
theorem d_CT_addField_24 : decode b_CT_addField 24 = .ok (.aload_n 0, 1) := by decide +kernel
theorem d_CT_addField_25 : decode b_CT_addField 25 = .ok (.iload_n 2, 1) := by decide +kernel
theorem d_CT_addField_26 : decode b_CT_addField 26 = .ok (.invokevirtual 28, 3) := by decide +kernel
theorem d_CT_addField_29 : decode b_CT_addField 29 = .ok (.aload_n 0, 1) := by decide +kernel
theorem d_CT_addField_30 : decode b_CT_addField 30 = .ok (.bipush 59, 2) := by decide +kernel
theorem d_CT_addField_32 : decode b_CT_addField 32 = .ok (.invokevirtual 19, 3) := by decide +kernel
theorem d_CT_addField_35 : decode b_CT_addField 35 = .ok (.return_, 1) := by decide +kernel
def y_CT_addNumber : MethodName := ⟨cR4, "addNumber", "(I)V"⟩
abbrev b_CT_addNumber : ByteArray := prog_2_method_4_code
abbrev k_CT_addNumber : Cond := .code y_CT_addNumber b_CT_addNumber 4 none
theorem mc_CT_addNumber : MC y_CT_addNumber k_CT_addNumber b_CT_addNumber 4 none [] 1 := ⟨g_in (List.mem_of_getElem? (i := 663) (by decide +kernel)) (by decide +kernel), Or.inl ⟨rfl, rfl⟩, g_in (List.mem_of_getElem? (i := 61) (by decide +kernel)) (by decide +kernel), by decide, by decide +kernel⟩
theorem in_CT_addNumber : Cond.instanceMethod y_CT_addNumber ∈ g_ws := g_in (List.mem_of_getElem? (i := 662) (by decide +kernel)) (by decide +kernel)
theorem se_CT_addNumber : Cond.selects cR4 y_CT_addNumber y_CT_addNumber ∈ g_ws := g_in (List.mem_of_getElem? (i := 29) (by decide +kernel)) (by decide +kernel)
theorem d_CT_addNumber_0 : decode b_CT_addNumber 0 = .ok (.iload_n 1, 1) := by decide +kernel
theorem d_CT_addNumber_1 : decode b_CT_addNumber 1 = .ok (.ifCond .ge 9, 3) := by decide +kernel
theorem d_CT_addNumber_4 : decode b_CT_addNumber 4 = .ok (.aload_n 0, 1) := by decide +kernel
theorem d_CT_addNumber_5 : decode b_CT_addNumber 5 = .ok (.bipush 45, 2) := by decide +kernel
theorem d_CT_addNumber_7 : decode b_CT_addNumber 7 = .ok (.invokevirtual 19, 3) := by decide +kernel
theorem d_CT_addNumber_10 : decode b_CT_addNumber 10 = .ok (.iload_n 1, 1) := by decide +kernel
theorem d_CT_addNumber_11 : decode b_CT_addNumber 11 = .ok (.invokestatic 46, 3) := by decide +kernel
theorem d_CT_addNumber_14 : decode b_CT_addNumber 14 = .ok (.istore_n 2, 1) := by decide +kernel
theorem d_CT_addNumber_15 : decode b_CT_addNumber 15 = .ok (.sipush 10000, 3) := by decide +kernel
theorem d_CT_addNumber_18 : decode b_CT_addNumber 18 = .ok (.istore_n 3, 1) := by decide +kernel
theorem d_CT_addNumber_19 : decode b_CT_addNumber 19 = .ok (.iload_n 3, 1) := by decide +kernel
theorem d_CT_addNumber_20 : decode b_CT_addNumber 20 = .ok (.ifCond .le 34, 3) := by decide +kernel
theorem d_CT_addNumber_23 : decode b_CT_addNumber 23 = .ok (.iload_n 2, 1) := by decide +kernel
theorem d_CT_addNumber_24 : decode b_CT_addNumber 24 = .ok (.iload_n 3, 1) := by decide +kernel
theorem d_CT_addNumber_25 : decode b_CT_addNumber 25 = .ok (.if_icmp .ge 8, 3) := by decide +kernel
theorem d_CT_addNumber_28 : decode b_CT_addNumber 28 = .ok (.iload_n 3, 1) := by decide +kernel
theorem d_CT_addNumber_29 : decode b_CT_addNumber 29 = .ok (.iconst 1, 1) := by decide +kernel
theorem d_CT_addNumber_30 : decode b_CT_addNumber 30 = .ok (.if_icmp .ne 16, 3) := by decide +kernel
theorem d_CT_addNumber_33 : decode b_CT_addNumber 33 = .ok (.aload_n 0, 1) := by decide +kernel
theorem d_CT_addNumber_34 : decode b_CT_addNumber 34 = .ok (.bipush 48, 2) := by decide +kernel
theorem d_CT_addNumber_36 : decode b_CT_addNumber 36 = .ok (.iload_n 2, 1) := by decide +kernel
theorem d_CT_addNumber_37 : decode b_CT_addNumber 37 = .ok (.iload_n 3, 1) := by decide +kernel
theorem d_CT_addNumber_38 : decode b_CT_addNumber 38 = .ok (.idiv, 1) := by decide +kernel
theorem d_CT_addNumber_39 : decode b_CT_addNumber 39 = .ok (.bipush 10, 2) := by decide +kernel
theorem d_CT_addNumber_41 : decode b_CT_addNumber 41 = .ok (.irem, 1) := by decide +kernel
theorem d_CT_addNumber_42 : decode b_CT_addNumber 42 = .ok (.iadd, 1) := by decide +kernel
theorem d_CT_addNumber_43 : decode b_CT_addNumber 43 = .ok (.invokevirtual 19, 3) := by decide +kernel
theorem d_CT_addNumber_46 : decode b_CT_addNumber 46 = .ok (.iload_n 3, 1) := by decide +kernel
theorem d_CT_addNumber_47 : decode b_CT_addNumber 47 = .ok (.bipush 10, 2) := by decide +kernel
theorem d_CT_addNumber_49 : decode b_CT_addNumber 49 = .ok (.idiv, 1) := by decide +kernel
theorem d_CT_addNumber_50 : decode b_CT_addNumber 50 = .ok (.istore_n 3, 1) := by decide +kernel
theorem d_CT_addNumber_51 : decode b_CT_addNumber 51 = .ok (.goto (-32), 3) := by decide +kernel
theorem d_CT_addNumber_54 : decode b_CT_addNumber 54 = .ok (.return_, 1) := by decide +kernel
def y_CT_addByte : MethodName := ⟨cR4, "addByte", "(I)V"⟩
abbrev b_CT_addByte : ByteArray := prog_2_method_5_code
abbrev k_CT_addByte : Cond := .code y_CT_addByte b_CT_addByte 2 none
theorem mc_CT_addByte : MC y_CT_addByte k_CT_addByte b_CT_addByte 2 none [] 1 := ⟨g_in (List.mem_of_getElem? (i := 659) (by decide +kernel)) (by decide +kernel), Or.inl ⟨rfl, rfl⟩, g_in (List.mem_of_getElem? (i := 61) (by decide +kernel)) (by decide +kernel), by decide, by decide +kernel⟩
theorem in_CT_addByte : Cond.instanceMethod y_CT_addByte ∈ g_ws := g_in (List.mem_of_getElem? (i := 658) (by decide +kernel)) (by decide +kernel)
theorem se_CT_addByte : Cond.selects cR4 y_CT_addByte y_CT_addByte ∈ g_ws := g_in (List.mem_of_getElem? (i := 28) (by decide +kernel)) (by decide +kernel)
theorem d_CT_addByte_0 : decode b_CT_addByte 0 = .ok (.aload_n 0, 1) := by decide +kernel
theorem d_CT_addByte_1 : decode b_CT_addByte 1 = .ok (.getfield 15, 3) := by decide +kernel
theorem d_CT_addByte_4 : decode b_CT_addByte 4 = .ok (.aload_n 0, 1) := by decide +kernel
theorem d_CT_addByte_5 : decode b_CT_addByte 5 = .ok (.getfield 9, 3) := by decide +kernel
theorem d_CT_addByte_8 : decode b_CT_addByte 8 = .ok (.arraylength, 1) := by decide +kernel
theorem d_CT_addByte_9 : decode b_CT_addByte 9 = .ok (.if_icmp .ge 24, 3) := by decide +kernel
theorem d_CT_addByte_12 : decode b_CT_addByte 12 = .ok (.aload_n 0, 1) := by decide +kernel
theorem d_CT_addByte_13 : decode b_CT_addByte 13 = .ok (.getfield 9, 3) := by decide +kernel
theorem d_CT_addByte_16 : decode b_CT_addByte 16 = .ok (.aload_n 0, 1) := by decide +kernel
theorem d_CT_addByte_17 : decode b_CT_addByte 17 = .ok (.getfield 15, 3) := by decide +kernel
theorem d_CT_addByte_20 : decode b_CT_addByte 20 = .ok (.iload_n 1, 1) := by decide +kernel
theorem d_CT_addByte_21 : decode b_CT_addByte 21 = .ok (.i2b, 1) := by decide +kernel
theorem d_CT_addByte_22 : decode b_CT_addByte 22 = .ok (.bastore, 1) := by decide +kernel
theorem d_CT_addByte_23 : decode b_CT_addByte 23 = .ok (.aload_n 0, 1) := by decide +kernel
theorem d_CT_addByte_24 : decode b_CT_addByte 24 = .ok (.dup, 1) := by decide +kernel
theorem d_CT_addByte_25 : decode b_CT_addByte 25 = .ok (.getfield 15, 3) := by decide +kernel
theorem d_CT_addByte_28 : decode b_CT_addByte 28 = .ok (.iconst 1, 1) := by decide +kernel
theorem d_CT_addByte_29 : decode b_CT_addByte 29 = .ok (.iadd, 1) := by decide +kernel
theorem d_CT_addByte_30 : decode b_CT_addByte 30 = .ok (.putfield 15, 3) := by decide +kernel
theorem d_CT_addByte_33 : decode b_CT_addByte 33 = .ok (.return_, 1) := by decide +kernel
