/-! ===== methods of FN: printed by program ===== -/
def y_FN_init : MethodName := ⟨cR3, "<init>", "()V"⟩
abbrev b_FN_init : ByteArray := prog_3_method_1_code
abbrev k_FN_init : Cond := .code y_FN_init b_FN_init 1 none
theorem mc_FN_init : MC y_FN_init k_FN_init b_FN_init 1 none [] 0 := ⟨g_in (List.mem_of_getElem? (i := 139) (by decide +kernel)) (by decide +kernel), Or.inl ⟨rfl, rfl⟩, g_in (List.mem_of_getElem? (i := 60) (by decide +kernel)) (by decide +kernel), by decide, by decide +kernel⟩
theorem in_FN_init : Cond.instanceMethod y_FN_init ∈ g_ws := g_in (List.mem_of_getElem? (i := 138) (by decide +kernel)) (by decide +kernel)
theorem d_FN_init_0 : decode b_FN_init 0 = .ok (.aload_n 0, 1) := by decide +kernel
theorem d_FN_init_1 : decode b_FN_init 1 = .ok (.invokespecial 3, 3) := by decide +kernel
theorem d_FN_init_4 : decode b_FN_init 4 = .ok (.aload_n 0, 1) := by decide +kernel
theorem d_FN_init_5 : decode b_FN_init 5 = .ok (.bipush 40, 2) := by decide +kernel
theorem d_FN_init_7 : decode b_FN_init 7 = .ok (.newarray .int, 2) := by decide +kernel
theorem d_FN_init_9 : decode b_FN_init 9 = .ok (.putfield 9, 3) := by decide +kernel
theorem d_FN_init_12 : decode b_FN_init 12 = .ok (.aload_n 0, 1) := by decide +kernel
theorem d_FN_init_13 : decode b_FN_init 13 = .ok (.bipush 40, 2) := by decide +kernel
theorem d_FN_init_15 : decode b_FN_init 15 = .ok (.newarray .int, 2) := by decide +kernel
theorem d_FN_init_17 : decode b_FN_init 17 = .ok (.putfield 15, 3) := by decide +kernel
theorem d_FN_init_20 : decode b_FN_init 20 = .ok (.aload_n 0, 1) := by decide +kernel
theorem d_FN_init_21 : decode b_FN_init 21 = .ok (.iconst 0, 1) := by decide +kernel
theorem d_FN_init_22 : decode b_FN_init 22 = .ok (.putfield 18, 3) := by decide +kernel
theorem d_FN_init_25 : decode b_FN_init 25 = .ok (.return_, 1) := by decide +kernel
def y_FN_add : MethodName := ⟨cR3, "add", "(II)V"⟩
abbrev b_FN_add : ByteArray := prog_3_method_2_code
abbrev k_FN_add : Cond := .code y_FN_add b_FN_add 3 none
theorem mc_FN_add : MC y_FN_add k_FN_add b_FN_add 3 none [] 2 := ⟨g_in (List.mem_of_getElem? (i := 558) (by decide +kernel)) (by decide +kernel), Or.inl ⟨rfl, rfl⟩, g_in (List.mem_of_getElem? (i := 60) (by decide +kernel)) (by decide +kernel), by decide, by decide +kernel⟩
theorem in_FN_add : Cond.instanceMethod y_FN_add ∈ g_ws := g_in (List.mem_of_getElem? (i := 557) (by decide +kernel)) (by decide +kernel)
theorem se_FN_add : Cond.selects cR3 y_FN_add y_FN_add ∈ g_ws := g_in (List.mem_of_getElem? (i := 19) (by decide +kernel)) (by decide +kernel)
theorem d_FN_add_0 : decode b_FN_add 0 = .ok (.aload_n 0, 1) := by decide +kernel
theorem d_FN_add_1 : decode b_FN_add 1 = .ok (.getfield 18, 3) := by decide +kernel
theorem d_FN_add_4 : decode b_FN_add 4 = .ok (.aload_n 0, 1) := by decide +kernel
theorem d_FN_add_5 : decode b_FN_add 5 = .ok (.getfield 9, 3) := by decide +kernel
theorem d_FN_add_8 : decode b_FN_add 8 = .ok (.arraylength, 1) := by decide +kernel
theorem d_FN_add_9 : decode b_FN_add 9 = .ok (.if_icmp .ge 45, 3) := by decide +kernel
theorem d_FN_add_12 : decode b_FN_add 12 = .ok (.aload_n 0, 1) := by decide +kernel
theorem d_FN_add_13 : decode b_FN_add 13 = .ok (.getfield 18, 3) := by decide +kernel
theorem d_FN_add_16 : decode b_FN_add 16 = .ok (.aload_n 0, 1) := by decide +kernel
theorem d_FN_add_17 : decode b_FN_add 17 = .ok (.getfield 15, 3) := by decide +kernel
theorem d_FN_add_20 : decode b_FN_add 20 = .ok (.arraylength, 1) := by decide +kernel
theorem d_FN_add_21 : decode b_FN_add 21 = .ok (.if_icmp .ge 33, 3) := by decide +kernel
theorem d_FN_add_24 : decode b_FN_add 24 = .ok (.aload_n 0, 1) := by decide +kernel
theorem d_FN_add_25 : decode b_FN_add 25 = .ok (.getfield 9, 3) := by decide +kernel
theorem d_FN_add_28 : decode b_FN_add 28 = .ok (.aload_n 0, 1) := by decide +kernel
theorem d_FN_add_29 : decode b_FN_add 29 = .ok (.getfield 18, 3) := by decide +kernel
theorem d_FN_add_32 : decode b_FN_add 32 = .ok (.iload_n 1, 1) := by decide +kernel
theorem d_FN_add_33 : decode b_FN_add 33 = .ok (.iastore, 1) := by decide +kernel
theorem d_FN_add_34 : decode b_FN_add 34 = .ok (.aload_n 0, 1) := by decide +kernel
theorem d_FN_add_35 : decode b_FN_add 35 = .ok (.getfield 15, 3) := by decide +kernel
theorem d_FN_add_38 : decode b_FN_add 38 = .ok (.aload_n 0, 1) := by decide +kernel
theorem d_FN_add_39 : decode b_FN_add 39 = .ok (.getfield 18, 3) := by decide +kernel
theorem d_FN_add_42 : decode b_FN_add 42 = .ok (.iload_n 2, 1) := by decide +kernel
theorem d_FN_add_43 : decode b_FN_add 43 = .ok (.iastore, 1) := by decide +kernel
theorem d_FN_add_44 : decode b_FN_add 44 = .ok (.aload_n 0, 1) := by decide +kernel
theorem d_FN_add_45 : decode b_FN_add 45 = .ok (.dup, 1) := by decide +kernel
theorem d_FN_add_46 : decode b_FN_add 46 = .ok (.getfield 18, 3) := by decide +kernel
theorem d_FN_add_49 : decode b_FN_add 49 = .ok (.iconst 1, 1) := by decide +kernel
theorem d_FN_add_50 : decode b_FN_add 50 = .ok (.iadd, 1) := by decide +kernel
theorem d_FN_add_51 : decode b_FN_add 51 = .ok (.putfield 18, 3) := by decide +kernel
theorem d_FN_add_54 : decode b_FN_add 54 = .ok (.return_, 1) := by decide +kernel
