/-! ===== methods of L: printed by program ===== -/
def y_L_report : MethodName := ⟨"ReportChecks2Law", "report", "(LReportChecks2;II[J)I"⟩
abbrev b_L_report : ByteArray := method_3_code
abbrev k_L_report : Cond := .codeWith y_L_report b_L_report 5 (some .int) [(0, 10, 13, 13), (0, 10, 17, 15), (0, 10, 21, 17)]
theorem mc_L_report : MC y_L_report k_L_report b_L_report 5 (some .int) [(0, 10, 13, 13), (0, 10, 17, 15), (0, 10, 21, 17)] 4 := ⟨g_in (List.mem_of_getElem? (i := 218) (by decide +kernel)) (by decide +kernel), Or.inr rfl, g_in (List.mem_of_getElem? (i := 56) (by decide +kernel)) (by decide +kernel), by decide, by decide +kernel⟩
theorem st_L_report : Cond.static y_L_report ∈ g_ws := g_in (List.mem_of_getElem? (i := 217) (by decide +kernel)) (by decide +kernel)
theorem d_L_report_0 : decode b_L_report 0 = .ok (.aload_n 3, 1) := by decide +kernel
theorem d_L_report_1 : decode b_L_report 1 = .ok (.iconst 0, 1) := by decide +kernel
theorem d_L_report_2 : decode b_L_report 2 = .ok (.aload_n 0, 1) := by decide +kernel
theorem d_L_report_3 : decode b_L_report 3 = .ok (.iload_n 1, 1) := by decide +kernel
theorem d_L_report_4 : decode b_L_report 4 = .ok (.iload_n 2, 1) := by decide +kernel
theorem d_L_report_5 : decode b_L_report 5 = .ok (.invokevirtual 7, 3) := by decide +kernel
theorem d_L_report_8 : decode b_L_report 8 = .ok (.i2l, 1) := by decide +kernel
theorem d_L_report_9 : decode b_L_report 9 = .ok (.lastore, 1) := by decide +kernel
theorem d_L_report_10 : decode b_L_report 10 = .ok (.goto 15, 3) := by decide +kernel
theorem d_L_report_13 : decode b_L_report 13 = .ok (.astore 4, 2) := by decide +kernel
theorem d_L_report_15 : decode b_L_report 15 = .ok (.iconst 1, 1) := by decide +kernel
theorem d_L_report_16 : decode b_L_report 16 = .ok (.ireturn, 1) := by decide +kernel
theorem d_L_report_17 : decode b_L_report 17 = .ok (.astore 4, 2) := by decide +kernel
theorem d_L_report_19 : decode b_L_report 19 = .ok (.iconst 2, 1) := by decide +kernel
theorem d_L_report_20 : decode b_L_report 20 = .ok (.ireturn, 1) := by decide +kernel
theorem d_L_report_21 : decode b_L_report 21 = .ok (.astore 4, 2) := by decide +kernel
theorem d_L_report_23 : decode b_L_report 23 = .ok (.iconst 3, 1) := by decide +kernel
theorem d_L_report_24 : decode b_L_report 24 = .ok (.ireturn, 1) := by decide +kernel
theorem d_L_report_25 : decode b_L_report 25 = .ok (.iconst 0, 1) := by decide +kernel
theorem d_L_report_26 : decode b_L_report 26 = .ok (.ireturn, 1) := by decide +kernel
def y_L_ask : MethodName := ⟨"ReportChecks2Law", "ask", "(LReportChecks2;IIZ)I"⟩
abbrev b_L_ask : ByteArray := method_4_code
abbrev k_L_ask : Cond := .codeWith y_L_ask b_L_ask 5 (some .int) [(0, 7, 10, 13)]
theorem mc_L_ask : MC y_L_ask k_L_ask b_L_ask 5 (some .int) [(0, 7, 10, 13)] 4 := ⟨g_in (List.mem_of_getElem? (i := 392) (by decide +kernel)) (by decide +kernel), Or.inr rfl, g_in (List.mem_of_getElem? (i := 56) (by decide +kernel)) (by decide +kernel), by decide, by decide +kernel⟩
theorem st_L_ask : Cond.static y_L_ask ∈ g_ws := g_in (List.mem_of_getElem? (i := 391) (by decide +kernel)) (by decide +kernel)
theorem d_L_ask_0 : decode b_L_ask 0 = .ok (.aload_n 0, 1) := by decide +kernel
theorem d_L_ask_1 : decode b_L_ask 1 = .ok (.iload_n 1, 1) := by decide +kernel
theorem d_L_ask_2 : decode b_L_ask 2 = .ok (.iload_n 2, 1) := by decide +kernel
theorem d_L_ask_3 : decode b_L_ask 3 = .ok (.iload_n 3, 1) := by decide +kernel
theorem d_L_ask_4 : decode b_L_ask 4 = .ok (.invokevirtual 19, 3) := by decide +kernel
theorem d_L_ask_7 : decode b_L_ask 7 = .ok (.goto 7, 3) := by decide +kernel
theorem d_L_ask_10 : decode b_L_ask 10 = .ok (.astore 4, 2) := by decide +kernel
theorem d_L_ask_12 : decode b_L_ask 12 = .ok (.iconst 1, 1) := by decide +kernel
theorem d_L_ask_13 : decode b_L_ask 13 = .ok (.ireturn, 1) := by decide +kernel
theorem d_L_ask_14 : decode b_L_ask 14 = .ok (.iconst 0, 1) := by decide +kernel
theorem d_L_ask_15 : decode b_L_ask 15 = .ok (.ireturn, 1) := by decide +kernel
def y_L_field : MethodName := ⟨"ReportChecks2Law", "field", "(LReportChecks2;III)I"⟩
abbrev b_L_field : ByteArray := method_5_code
abbrev k_L_field : Cond := .codeWith y_L_field b_L_field 5 (some .int) [(0, 7, 10, 13), (0, 7, 14, 15), (0, 7, 18, 27)]
theorem mc_L_field : MC y_L_field k_L_field b_L_field 5 (some .int) [(0, 7, 10, 13), (0, 7, 14, 15), (0, 7, 18, 27)] 4 := ⟨g_in (List.mem_of_getElem? (i := 406) (by decide +kernel)) (by decide +kernel), Or.inr rfl, g_in (List.mem_of_getElem? (i := 56) (by decide +kernel)) (by decide +kernel), by decide, by decide +kernel⟩
theorem st_L_field : Cond.static y_L_field ∈ g_ws := g_in (List.mem_of_getElem? (i := 405) (by decide +kernel)) (by decide +kernel)
theorem d_L_field_0 : decode b_L_field 0 = .ok (.aload_n 0, 1) := by decide +kernel
theorem d_L_field_1 : decode b_L_field 1 = .ok (.iload_n 1, 1) := by decide +kernel
theorem d_L_field_2 : decode b_L_field 2 = .ok (.iload_n 2, 1) := by decide +kernel
theorem d_L_field_3 : decode b_L_field 3 = .ok (.iload_n 3, 1) := by decide +kernel
theorem d_L_field_4 : decode b_L_field 4 = .ok (.invokevirtual 23, 3) := by decide +kernel
theorem d_L_field_7 : decode b_L_field 7 = .ok (.goto 15, 3) := by decide +kernel
theorem d_L_field_10 : decode b_L_field 10 = .ok (.astore 4, 2) := by decide +kernel
theorem d_L_field_12 : decode b_L_field 12 = .ok (.iconst 1, 1) := by decide +kernel
theorem d_L_field_13 : decode b_L_field 13 = .ok (.ireturn, 1) := by decide +kernel
theorem d_L_field_14 : decode b_L_field 14 = .ok (.astore 4, 2) := by decide +kernel
theorem d_L_field_16 : decode b_L_field 16 = .ok (.iconst 2, 1) := by decide +kernel
theorem d_L_field_17 : decode b_L_field 17 = .ok (.ireturn, 1) := by decide +kernel
theorem d_L_field_18 : decode b_L_field 18 = .ok (.astore 4, 2) := by decide +kernel
theorem d_L_field_20 : decode b_L_field 20 = .ok (.iconst 3, 1) := by decide +kernel
theorem d_L_field_21 : decode b_L_field 21 = .ok (.ireturn, 1) := by decide +kernel
theorem d_L_field_22 : decode b_L_field 22 = .ok (.iconst 0, 1) := by decide +kernel
theorem d_L_field_23 : decode b_L_field 23 = .ok (.ireturn, 1) := by decide +kernel
def y_L_act : MethodName := ⟨"ReportChecks2Law", "act", "(LReportChecks2;III[J)I"⟩
abbrev b_L_act : ByteArray := method_6_code
abbrev k_L_act : Cond := .codeWith y_L_act b_L_act 6 (some .int) [(0, 19, 22, 13), (0, 19, 26, 15), (0, 19, 30, 27)]
theorem mc_L_act : MC y_L_act k_L_act b_L_act 6 (some .int) [(0, 19, 22, 13), (0, 19, 26, 15), (0, 19, 30, 27)] 5 := ⟨g_in (List.mem_of_getElem? (i := 450) (by decide +kernel)) (by decide +kernel), Or.inr rfl, g_in (List.mem_of_getElem? (i := 56) (by decide +kernel)) (by decide +kernel), by decide, by decide +kernel⟩
theorem st_L_act : Cond.static y_L_act ∈ g_ws := g_in (List.mem_of_getElem? (i := 449) (by decide +kernel)) (by decide +kernel)
theorem d_L_act_0 : decode b_L_act 0 = .ok (.aload 4, 2) := by decide +kernel
theorem d_L_act_2 : decode b_L_act 2 = .ok (.iconst 0, 1) := by decide +kernel
theorem d_L_act_3 : decode b_L_act 3 = .ok (.aload_n 0, 1) := by decide +kernel
theorem d_L_act_4 : decode b_L_act 4 = .ok (.iload_n 1, 1) := by decide +kernel
theorem d_L_act_5 : decode b_L_act 5 = .ok (.iload_n 2, 1) := by decide +kernel
theorem d_L_act_6 : decode b_L_act 6 = .ok (.iload_n 3, 1) := by decide +kernel
theorem d_L_act_7 : decode b_L_act 7 = .ok (.invokevirtual 29, 3) := by decide +kernel
theorem d_L_act_10 : decode b_L_act 10 = .ok (.ifCond .eq 7, 3) := by decide +kernel
theorem d_L_act_13 : decode b_L_act 13 = .ok (.lconst 1, 1) := by decide +kernel
theorem d_L_act_14 : decode b_L_act 14 = .ok (.goto 4, 3) := by decide +kernel
theorem d_L_act_17 : decode b_L_act 17 = .ok (.lconst 0, 1) := by decide +kernel
theorem d_L_act_18 : decode b_L_act 18 = .ok (.lastore, 1) := by decide +kernel
theorem d_L_act_19 : decode b_L_act 19 = .ok (.goto 15, 3) := by decide +kernel
theorem d_L_act_22 : decode b_L_act 22 = .ok (.astore 5, 2) := by decide +kernel
theorem d_L_act_24 : decode b_L_act 24 = .ok (.iconst 1, 1) := by decide +kernel
theorem d_L_act_25 : decode b_L_act 25 = .ok (.ireturn, 1) := by decide +kernel
theorem d_L_act_26 : decode b_L_act 26 = .ok (.astore 5, 2) := by decide +kernel
theorem d_L_act_28 : decode b_L_act 28 = .ok (.iconst 2, 1) := by decide +kernel
theorem d_L_act_29 : decode b_L_act 29 = .ok (.ireturn, 1) := by decide +kernel
theorem d_L_act_30 : decode b_L_act 30 = .ok (.astore 5, 2) := by decide +kernel
theorem d_L_act_32 : decode b_L_act 32 = .ok (.iconst 3, 1) := by decide +kernel
theorem d_L_act_33 : decode b_L_act 33 = .ok (.ireturn, 1) := by decide +kernel
theorem d_L_act_34 : decode b_L_act 34 = .ok (.iconst 0, 1) := by decide +kernel
theorem d_L_act_35 : decode b_L_act 35 = .ok (.ireturn, 1) := by decide +kernel
def y_L_inside : MethodName := ⟨"ReportChecks2Law", "inside", "(LReportChecks2;II)I"⟩
abbrev b_L_inside : ByteArray := method_7_code
abbrev k_L_inside : Cond := .codeWith y_L_inside b_L_inside 4 (some .int) [(0, 6, 9, 13), (0, 6, 12, 15), (0, 6, 15, 27)]
theorem mc_L_inside : MC y_L_inside k_L_inside b_L_inside 4 (some .int) [(0, 6, 9, 13), (0, 6, 12, 15), (0, 6, 15, 27)] 3 := ⟨g_in (List.mem_of_getElem? (i := 467) (by decide +kernel)) (by decide +kernel), Or.inr rfl, g_in (List.mem_of_getElem? (i := 56) (by decide +kernel)) (by decide +kernel), by decide, by decide +kernel⟩
theorem st_L_inside : Cond.static y_L_inside ∈ g_ws := g_in (List.mem_of_getElem? (i := 466) (by decide +kernel)) (by decide +kernel)
theorem d_L_inside_0 : decode b_L_inside 0 = .ok (.aload_n 0, 1) := by decide +kernel
theorem d_L_inside_1 : decode b_L_inside 1 = .ok (.iload_n 1, 1) := by decide +kernel
theorem d_L_inside_2 : decode b_L_inside 2 = .ok (.iload_n 2, 1) := by decide +kernel
theorem d_L_inside_3 : decode b_L_inside 3 = .ok (.invokevirtual 33, 3) := by decide +kernel
theorem d_L_inside_6 : decode b_L_inside 6 = .ok (.goto 12, 3) := by decide +kernel
theorem d_L_inside_9 : decode b_L_inside 9 = .ok (.astore_n 3, 1) := by decide +kernel
theorem d_L_inside_10 : decode b_L_inside 10 = .ok (.iconst 1, 1) := by decide +kernel
theorem d_L_inside_11 : decode b_L_inside 11 = .ok (.ireturn, 1) := by decide +kernel
theorem d_L_inside_12 : decode b_L_inside 12 = .ok (.astore_n 3, 1) := by decide +kernel
theorem d_L_inside_13 : decode b_L_inside 13 = .ok (.iconst 2, 1) := by decide +kernel
theorem d_L_inside_14 : decode b_L_inside 14 = .ok (.ireturn, 1) := by decide +kernel
theorem d_L_inside_15 : decode b_L_inside 15 = .ok (.astore_n 3, 1) := by decide +kernel
theorem d_L_inside_16 : decode b_L_inside 16 = .ok (.iconst 3, 1) := by decide +kernel
theorem d_L_inside_17 : decode b_L_inside 17 = .ok (.ireturn, 1) := by decide +kernel
theorem d_L_inside_18 : decode b_L_inside 18 = .ok (.iconst 0, 1) := by decide +kernel
theorem d_L_inside_19 : decode b_L_inside 19 = .ok (.ireturn, 1) := by decide +kernel
def y_L_sign : MethodName := ⟨"ReportChecks2Law", "sign", "(LReportChecks2;JI[J)I"⟩
abbrev b_L_sign : ByteArray := method_8_code
abbrev k_L_sign : Cond := .codeWith y_L_sign b_L_sign 6 (some .int) [(0, 11, 14, 15), (0, 11, 18, 17)]
theorem mc_L_sign : MC y_L_sign k_L_sign b_L_sign 6 (some .int) [(0, 11, 14, 15), (0, 11, 18, 17)] 4 := ⟨g_in (List.mem_of_getElem? (i := 475) (by decide +kernel)) (by decide +kernel), Or.inr rfl, g_in (List.mem_of_getElem? (i := 56) (by decide +kernel)) (by decide +kernel), by decide, by decide +kernel⟩
theorem st_L_sign : Cond.static y_L_sign ∈ g_ws := g_in (List.mem_of_getElem? (i := 474) (by decide +kernel)) (by decide +kernel)
theorem d_L_sign_0 : decode b_L_sign 0 = .ok (.aload 4, 2) := by decide +kernel
theorem d_L_sign_2 : decode b_L_sign 2 = .ok (.iconst 0, 1) := by decide +kernel
theorem d_L_sign_3 : decode b_L_sign 3 = .ok (.aload_n 0, 1) := by decide +kernel
theorem d_L_sign_4 : decode b_L_sign 4 = .ok (.lload_n 1, 1) := by decide +kernel
theorem d_L_sign_5 : decode b_L_sign 5 = .ok (.iload_n 3, 1) := by decide +kernel
theorem d_L_sign_6 : decode b_L_sign 6 = .ok (.invokevirtual 37, 3) := by decide +kernel
theorem d_L_sign_9 : decode b_L_sign 9 = .ok (.i2l, 1) := by decide +kernel
theorem d_L_sign_10 : decode b_L_sign 10 = .ok (.lastore, 1) := by decide +kernel
theorem d_L_sign_11 : decode b_L_sign 11 = .ok (.goto 11, 3) := by decide +kernel
theorem d_L_sign_14 : decode b_L_sign 14 = .ok (.astore 5, 2) := by decide +kernel
theorem d_L_sign_16 : decode b_L_sign 16 = .ok (.iconst 1, 1) := by decide +kernel
theorem d_L_sign_17 : decode b_L_sign 17 = .ok (.ireturn, 1) := by decide +kernel
theorem d_L_sign_18 : decode b_L_sign 18 = .ok (.astore 5, 2) := by decide +kernel
theorem d_L_sign_20 : decode b_L_sign 20 = .ok (.iconst 2, 1) := by decide +kernel
theorem d_L_sign_21 : decode b_L_sign 21 = .ok (.ireturn, 1) := by decide +kernel
theorem d_L_sign_22 : decode b_L_sign 22 = .ok (.iconst 0, 1) := by decide +kernel
theorem d_L_sign_23 : decode b_L_sign 23 = .ok (.ireturn, 1) := by decide +kernel
def y_L_rules : MethodName := ⟨"ReportChecks2Law", "rules", "(LReportChecks2;[J)I"⟩
abbrev b_L_rules : ByteArray := method_9_code
abbrev k_L_rules : Cond := .codeWith y_L_rules b_L_rules 3 (some .int) [(0, 8, 11, 27)]
theorem mc_L_rules : MC y_L_rules k_L_rules b_L_rules 3 (some .int) [(0, 8, 11, 27)] 2 := ⟨g_in (List.mem_of_getElem? (i := 484) (by decide +kernel)) (by decide +kernel), Or.inr rfl, g_in (List.mem_of_getElem? (i := 56) (by decide +kernel)) (by decide +kernel), by decide, by decide +kernel⟩
theorem st_L_rules : Cond.static y_L_rules ∈ g_ws := g_in (List.mem_of_getElem? (i := 483) (by decide +kernel)) (by decide +kernel)
theorem d_L_rules_0 : decode b_L_rules 0 = .ok (.aload_n 1, 1) := by decide +kernel
theorem d_L_rules_1 : decode b_L_rules 1 = .ok (.iconst 0, 1) := by decide +kernel
theorem d_L_rules_2 : decode b_L_rules 2 = .ok (.aload_n 0, 1) := by decide +kernel
theorem d_L_rules_3 : decode b_L_rules 3 = .ok (.invokevirtual 41, 3) := by decide +kernel
theorem d_L_rules_6 : decode b_L_rules 6 = .ok (.i2l, 1) := by decide +kernel
theorem d_L_rules_7 : decode b_L_rules 7 = .ok (.lastore, 1) := by decide +kernel
theorem d_L_rules_8 : decode b_L_rules 8 = .ok (.goto 6, 3) := by decide +kernel
theorem d_L_rules_11 : decode b_L_rules 11 = .ok (.astore_n 2, 1) := by decide +kernel
theorem d_L_rules_12 : decode b_L_rules 12 = .ok (.iconst 1, 1) := by decide +kernel
theorem d_L_rules_13 : decode b_L_rules 13 = .ok (.ireturn, 1) := by decide +kernel
theorem d_L_rules_14 : decode b_L_rules 14 = .ok (.iconst 0, 1) := by decide +kernel
theorem d_L_rules_15 : decode b_L_rules 15 = .ok (.ireturn, 1) := by decide +kernel
def y_L_check : MethodName := ⟨"ReportChecks2Law", "check", "(LReportChecks2;I[J)I"⟩
abbrev b_L_check : ByteArray := method_10_code
abbrev k_L_check : Cond := .codeWith y_L_check b_L_check 4 (some .int) [(0, 9, 12, 13)]
theorem mc_L_check : MC y_L_check k_L_check b_L_check 4 (some .int) [(0, 9, 12, 13)] 3 := ⟨g_in (List.mem_of_getElem? (i := 545) (by decide +kernel)) (by decide +kernel), Or.inr rfl, g_in (List.mem_of_getElem? (i := 56) (by decide +kernel)) (by decide +kernel), by decide, by decide +kernel⟩
theorem st_L_check : Cond.static y_L_check ∈ g_ws := g_in (List.mem_of_getElem? (i := 544) (by decide +kernel)) (by decide +kernel)
theorem d_L_check_0 : decode b_L_check 0 = .ok (.aload_n 2, 1) := by decide +kernel
theorem d_L_check_1 : decode b_L_check 1 = .ok (.iconst 0, 1) := by decide +kernel
theorem d_L_check_2 : decode b_L_check 2 = .ok (.aload_n 0, 1) := by decide +kernel
theorem d_L_check_3 : decode b_L_check 3 = .ok (.iload_n 1, 1) := by decide +kernel
theorem d_L_check_4 : decode b_L_check 4 = .ok (.invokevirtual 45, 3) := by decide +kernel
theorem d_L_check_7 : decode b_L_check 7 = .ok (.i2l, 1) := by decide +kernel
theorem d_L_check_8 : decode b_L_check 8 = .ok (.lastore, 1) := by decide +kernel
theorem d_L_check_9 : decode b_L_check 9 = .ok (.goto 6, 3) := by decide +kernel
theorem d_L_check_12 : decode b_L_check 12 = .ok (.astore_n 3, 1) := by decide +kernel
theorem d_L_check_13 : decode b_L_check 13 = .ok (.iconst 1, 1) := by decide +kernel
theorem d_L_check_14 : decode b_L_check 14 = .ok (.ireturn, 1) := by decide +kernel
theorem d_L_check_15 : decode b_L_check 15 = .ok (.iconst 0, 1) := by decide +kernel
theorem d_L_check_16 : decode b_L_check 16 = .ok (.ireturn, 1) := by decide +kernel
def y_L_wanting : MethodName := ⟨"ReportChecks2Law", "wanting", "(LReportChecks2;II[J)I"⟩
abbrev b_L_wanting : ByteArray := method_11_code
abbrev k_L_wanting : Cond := .codeWith y_L_wanting b_L_wanting 5 (some .int) [(0, 10, 13, 13)]
theorem mc_L_wanting : MC y_L_wanting k_L_wanting b_L_wanting 5 (some .int) [(0, 10, 13, 13)] 4 := ⟨g_in (List.mem_of_getElem? (i := 576) (by decide +kernel)) (by decide +kernel), Or.inr rfl, g_in (List.mem_of_getElem? (i := 56) (by decide +kernel)) (by decide +kernel), by decide, by decide +kernel⟩
theorem st_L_wanting : Cond.static y_L_wanting ∈ g_ws := g_in (List.mem_of_getElem? (i := 575) (by decide +kernel)) (by decide +kernel)
theorem d_L_wanting_0 : decode b_L_wanting 0 = .ok (.aload_n 3, 1) := by decide +kernel
theorem d_L_wanting_1 : decode b_L_wanting 1 = .ok (.iconst 0, 1) := by decide +kernel
theorem d_L_wanting_2 : decode b_L_wanting 2 = .ok (.aload_n 0, 1) := by decide +kernel
theorem d_L_wanting_3 : decode b_L_wanting 3 = .ok (.iload_n 1, 1) := by decide +kernel
theorem d_L_wanting_4 : decode b_L_wanting 4 = .ok (.iload_n 2, 1) := by decide +kernel
theorem d_L_wanting_5 : decode b_L_wanting 5 = .ok (.invokevirtual 49, 3) := by decide +kernel
theorem d_L_wanting_8 : decode b_L_wanting 8 = .ok (.i2l, 1) := by decide +kernel
theorem d_L_wanting_9 : decode b_L_wanting 9 = .ok (.lastore, 1) := by decide +kernel
theorem d_L_wanting_10 : decode b_L_wanting 10 = .ok (.goto 7, 3) := by decide +kernel
theorem d_L_wanting_13 : decode b_L_wanting 13 = .ok (.astore 4, 2) := by decide +kernel
theorem d_L_wanting_15 : decode b_L_wanting 15 = .ok (.iconst 1, 1) := by decide +kernel
theorem d_L_wanting_16 : decode b_L_wanting 16 = .ok (.ireturn, 1) := by decide +kernel
theorem d_L_wanting_17 : decode b_L_wanting 17 = .ok (.iconst 0, 1) := by decide +kernel
theorem d_L_wanting_18 : decode b_L_wanting 18 = .ok (.ireturn, 1) := by decide +kernel
def y_L_put : MethodName := ⟨"ReportChecks2Law", "put", "(LReportChecks2;II[J)I"⟩
abbrev b_L_put : ByteArray := method_12_code
abbrev k_L_put : Cond := .codeWith y_L_put b_L_put 5 (some .int) [(0, 10, 13, 13), (0, 10, 17, 27)]
theorem mc_L_put : MC y_L_put k_L_put b_L_put 5 (some .int) [(0, 10, 13, 13), (0, 10, 17, 27)] 4 := ⟨g_in (List.mem_of_getElem? (i := 585) (by decide +kernel)) (by decide +kernel), Or.inr rfl, g_in (List.mem_of_getElem? (i := 56) (by decide +kernel)) (by decide +kernel), by decide, by decide +kernel⟩
theorem st_L_put : Cond.static y_L_put ∈ g_ws := g_in (List.mem_of_getElem? (i := 584) (by decide +kernel)) (by decide +kernel)
theorem d_L_put_0 : decode b_L_put 0 = .ok (.aload_n 3, 1) := by decide +kernel
theorem d_L_put_1 : decode b_L_put 1 = .ok (.iconst 0, 1) := by decide +kernel
theorem d_L_put_2 : decode b_L_put 2 = .ok (.aload_n 0, 1) := by decide +kernel
theorem d_L_put_3 : decode b_L_put 3 = .ok (.iload_n 1, 1) := by decide +kernel
theorem d_L_put_4 : decode b_L_put 4 = .ok (.iload_n 2, 1) := by decide +kernel
theorem d_L_put_5 : decode b_L_put 5 = .ok (.invokevirtual 52, 3) := by decide +kernel
theorem d_L_put_8 : decode b_L_put 8 = .ok (.i2l, 1) := by decide +kernel
theorem d_L_put_9 : decode b_L_put 9 = .ok (.lastore, 1) := by decide +kernel
theorem d_L_put_10 : decode b_L_put 10 = .ok (.goto 11, 3) := by decide +kernel
theorem d_L_put_13 : decode b_L_put 13 = .ok (.astore 4, 2) := by decide +kernel
theorem d_L_put_15 : decode b_L_put 15 = .ok (.iconst 1, 1) := by decide +kernel
theorem d_L_put_16 : decode b_L_put 16 = .ok (.ireturn, 1) := by decide +kernel
theorem d_L_put_17 : decode b_L_put 17 = .ok (.astore 4, 2) := by decide +kernel
theorem d_L_put_19 : decode b_L_put 19 = .ok (.iconst 2, 1) := by decide +kernel
theorem d_L_put_20 : decode b_L_put 20 = .ok (.ireturn, 1) := by decide +kernel
theorem d_L_put_21 : decode b_L_put 21 = .ok (.iconst 0, 1) := by decide +kernel
theorem d_L_put_22 : decode b_L_put 22 = .ok (.ireturn, 1) := by decide +kernel
def y_L_edition : MethodName := ⟨"ReportChecks2Law", "edition", "(LReportChecks2;I[J)I"⟩
abbrev b_L_edition : ByteArray := method_13_code
abbrev k_L_edition : Cond := .codeWith y_L_edition b_L_edition 4 (some .int) [(0, 9, 12, 13), (0, 9, 15, 27), (0, 9, 18, 17)]
theorem mc_L_edition : MC y_L_edition k_L_edition b_L_edition 4 (some .int) [(0, 9, 12, 13), (0, 9, 15, 27), (0, 9, 18, 17)] 3 := ⟨g_in (List.mem_of_getElem? (i := 613) (by decide +kernel)) (by decide +kernel), Or.inr rfl, g_in (List.mem_of_getElem? (i := 56) (by decide +kernel)) (by decide +kernel), by decide, by decide +kernel⟩
theorem st_L_edition : Cond.static y_L_edition ∈ g_ws := g_in (List.mem_of_getElem? (i := 612) (by decide +kernel)) (by decide +kernel)
theorem d_L_edition_0 : decode b_L_edition 0 = .ok (.aload_n 2, 1) := by decide +kernel
theorem d_L_edition_1 : decode b_L_edition 1 = .ok (.iconst 0, 1) := by decide +kernel
theorem d_L_edition_2 : decode b_L_edition 2 = .ok (.aload_n 0, 1) := by decide +kernel
theorem d_L_edition_3 : decode b_L_edition 3 = .ok (.iload_n 1, 1) := by decide +kernel
theorem d_L_edition_4 : decode b_L_edition 4 = .ok (.invokevirtual 55, 3) := by decide +kernel
theorem d_L_edition_7 : decode b_L_edition 7 = .ok (.i2l, 1) := by decide +kernel
theorem d_L_edition_8 : decode b_L_edition 8 = .ok (.lastore, 1) := by decide +kernel
theorem d_L_edition_9 : decode b_L_edition 9 = .ok (.goto 12, 3) := by decide +kernel
theorem d_L_edition_12 : decode b_L_edition 12 = .ok (.astore_n 3, 1) := by decide +kernel
theorem d_L_edition_13 : decode b_L_edition 13 = .ok (.iconst 1, 1) := by decide +kernel
theorem d_L_edition_14 : decode b_L_edition 14 = .ok (.ireturn, 1) := by decide +kernel
theorem d_L_edition_15 : decode b_L_edition 15 = .ok (.astore_n 3, 1) := by decide +kernel
theorem d_L_edition_16 : decode b_L_edition 16 = .ok (.iconst 2, 1) := by decide +kernel
theorem d_L_edition_17 : decode b_L_edition 17 = .ok (.ireturn, 1) := by decide +kernel
theorem d_L_edition_18 : decode b_L_edition 18 = .ok (.astore_n 3, 1) := by decide +kernel
theorem d_L_edition_19 : decode b_L_edition 19 = .ok (.iconst 3, 1) := by decide +kernel
theorem d_L_edition_20 : decode b_L_edition 20 = .ok (.ireturn, 1) := by decide +kernel
theorem d_L_edition_21 : decode b_L_edition 21 = .ok (.iconst 0, 1) := by decide +kernel
theorem d_L_edition_22 : decode b_L_edition 22 = .ok (.ireturn, 1) := by decide +kernel
def y_L_fault : MethodName := ⟨"ReportChecks2Law", "fault", "(LReportChecks2;II)I"⟩
abbrev b_L_fault : ByteArray := method_14_code
abbrev k_L_fault : Cond := .codeWith y_L_fault b_L_fault 4 (some .int) [(0, 6, 9, 13), (0, 6, 12, 27)]
theorem mc_L_fault : MC y_L_fault k_L_fault b_L_fault 4 (some .int) [(0, 6, 9, 13), (0, 6, 12, 27)] 3 := ⟨g_in (List.mem_of_getElem? (i := 632) (by decide +kernel)) (by decide +kernel), Or.inr rfl, g_in (List.mem_of_getElem? (i := 56) (by decide +kernel)) (by decide +kernel), by decide, by decide +kernel⟩
theorem st_L_fault : Cond.static y_L_fault ∈ g_ws := g_in (List.mem_of_getElem? (i := 631) (by decide +kernel)) (by decide +kernel)
theorem d_L_fault_0 : decode b_L_fault 0 = .ok (.aload_n 0, 1) := by decide +kernel
theorem d_L_fault_1 : decode b_L_fault 1 = .ok (.iload_n 1, 1) := by decide +kernel
theorem d_L_fault_2 : decode b_L_fault 2 = .ok (.iload_n 2, 1) := by decide +kernel
theorem d_L_fault_3 : decode b_L_fault 3 = .ok (.invokevirtual 58, 3) := by decide +kernel
theorem d_L_fault_6 : decode b_L_fault 6 = .ok (.goto 9, 3) := by decide +kernel
theorem d_L_fault_9 : decode b_L_fault 9 = .ok (.astore_n 3, 1) := by decide +kernel
theorem d_L_fault_10 : decode b_L_fault 10 = .ok (.iconst 1, 1) := by decide +kernel
theorem d_L_fault_11 : decode b_L_fault 11 = .ok (.ireturn, 1) := by decide +kernel
theorem d_L_fault_12 : decode b_L_fault 12 = .ok (.astore_n 3, 1) := by decide +kernel
theorem d_L_fault_13 : decode b_L_fault 13 = .ok (.iconst 2, 1) := by decide +kernel
theorem d_L_fault_14 : decode b_L_fault 14 = .ok (.ireturn, 1) := by decide +kernel
theorem d_L_fault_15 : decode b_L_fault 15 = .ok (.iconst 0, 1) := by decide +kernel
theorem d_L_fault_16 : decode b_L_fault 16 = .ok (.ireturn, 1) := by decide +kernel
def y_L_hide : MethodName := ⟨"ReportChecks2Law", "hide", "(LReportChecks2;IIZ)I"⟩
abbrev b_L_hide : ByteArray := method_15_code
abbrev k_L_hide : Cond := .codeWith y_L_hide b_L_hide 5 (some .int) [(0, 7, 10, 13)]
theorem mc_L_hide : MC y_L_hide k_L_hide b_L_hide 5 (some .int) [(0, 7, 10, 13)] 4 := ⟨g_in (List.mem_of_getElem? (i := 640) (by decide +kernel)) (by decide +kernel), Or.inr rfl, g_in (List.mem_of_getElem? (i := 56) (by decide +kernel)) (by decide +kernel), by decide, by decide +kernel⟩
theorem st_L_hide : Cond.static y_L_hide ∈ g_ws := g_in (List.mem_of_getElem? (i := 639) (by decide +kernel)) (by decide +kernel)
theorem d_L_hide_0 : decode b_L_hide 0 = .ok (.aload_n 0, 1) := by decide +kernel
theorem d_L_hide_1 : decode b_L_hide 1 = .ok (.iload_n 1, 1) := by decide +kernel
theorem d_L_hide_2 : decode b_L_hide 2 = .ok (.iload_n 2, 1) := by decide +kernel
theorem d_L_hide_3 : decode b_L_hide 3 = .ok (.iload_n 3, 1) := by decide +kernel
theorem d_L_hide_4 : decode b_L_hide 4 = .ok (.invokevirtual 61, 3) := by decide +kernel
theorem d_L_hide_7 : decode b_L_hide 7 = .ok (.goto 7, 3) := by decide +kernel
theorem d_L_hide_10 : decode b_L_hide 10 = .ok (.astore 4, 2) := by decide +kernel
theorem d_L_hide_12 : decode b_L_hide 12 = .ok (.iconst 1, 1) := by decide +kernel
theorem d_L_hide_13 : decode b_L_hide 13 = .ok (.ireturn, 1) := by decide +kernel
theorem d_L_hide_14 : decode b_L_hide 14 = .ok (.iconst 0, 1) := by decide +kernel
theorem d_L_hide_15 : decode b_L_hide 15 = .ok (.ireturn, 1) := by decide +kernel
def y_L_code : MethodName := ⟨"ReportChecks2Law", "code", "(LReportChecks2;II[J)I"⟩
abbrev b_L_code : ByteArray := method_16_code
abbrev k_L_code : Cond := .codeWith y_L_code b_L_code 5 (some .int) [(0, 10, 13, 13)]
theorem mc_L_code : MC y_L_code k_L_code b_L_code 5 (some .int) [(0, 10, 13, 13)] 4 := ⟨g_in (List.mem_of_getElem? (i := 647) (by decide +kernel)) (by decide +kernel), Or.inr rfl, g_in (List.mem_of_getElem? (i := 56) (by decide +kernel)) (by decide +kernel), by decide, by decide +kernel⟩
theorem st_L_code : Cond.static y_L_code ∈ g_ws := g_in (List.mem_of_getElem? (i := 646) (by decide +kernel)) (by decide +kernel)
theorem d_L_code_0 : decode b_L_code 0 = .ok (.aload_n 3, 1) := by decide +kernel
theorem d_L_code_1 : decode b_L_code 1 = .ok (.iconst 0, 1) := by decide +kernel
theorem d_L_code_2 : decode b_L_code 2 = .ok (.aload_n 0, 1) := by decide +kernel
theorem d_L_code_3 : decode b_L_code 3 = .ok (.iload_n 1, 1) := by decide +kernel
theorem d_L_code_4 : decode b_L_code 4 = .ok (.iload_n 2, 1) := by decide +kernel
theorem d_L_code_5 : decode b_L_code 5 = .ok (.invokevirtual 64, 3) := by decide +kernel
theorem d_L_code_8 : decode b_L_code 8 = .ok (.i2l, 1) := by decide +kernel
theorem d_L_code_9 : decode b_L_code 9 = .ok (.lastore, 1) := by decide +kernel
theorem d_L_code_10 : decode b_L_code 10 = .ok (.goto 7, 3) := by decide +kernel
theorem d_L_code_13 : decode b_L_code 13 = .ok (.astore 4, 2) := by decide +kernel
theorem d_L_code_15 : decode b_L_code 15 = .ok (.iconst 1, 1) := by decide +kernel
theorem d_L_code_16 : decode b_L_code 16 = .ok (.ireturn, 1) := by decide +kernel
theorem d_L_code_17 : decode b_L_code 17 = .ok (.iconst 0, 1) := by decide +kernel
theorem d_L_code_18 : decode b_L_code 18 = .ok (.ireturn, 1) := by decide +kernel
def y_L_at : MethodName := ⟨"ReportChecks2Law", "at", "(LReportChecks2;I[J)I"⟩
abbrev b_L_at : ByteArray := method_17_code
abbrev k_L_at : Cond := .codeWith y_L_at b_L_at 4 (some .int) [(0, 9, 12, 15)]
theorem mc_L_at : MC y_L_at k_L_at b_L_at 4 (some .int) [(0, 9, 12, 15)] 3 := ⟨g_in (List.mem_of_getElem? (i := 674) (by decide +kernel)) (by decide +kernel), Or.inr rfl, g_in (List.mem_of_getElem? (i := 56) (by decide +kernel)) (by decide +kernel), by decide, by decide +kernel⟩
theorem st_L_at : Cond.static y_L_at ∈ g_ws := g_in (List.mem_of_getElem? (i := 673) (by decide +kernel)) (by decide +kernel)
theorem d_L_at_0 : decode b_L_at 0 = .ok (.aload_n 2, 1) := by decide +kernel
theorem d_L_at_1 : decode b_L_at 1 = .ok (.iconst 0, 1) := by decide +kernel
theorem d_L_at_2 : decode b_L_at 2 = .ok (.aload_n 0, 1) := by decide +kernel
theorem d_L_at_3 : decode b_L_at 3 = .ok (.iload_n 1, 1) := by decide +kernel
theorem d_L_at_4 : decode b_L_at 4 = .ok (.invokevirtual 67, 3) := by decide +kernel
theorem d_L_at_7 : decode b_L_at 7 = .ok (.i2l, 1) := by decide +kernel
theorem d_L_at_8 : decode b_L_at 8 = .ok (.lastore, 1) := by decide +kernel
theorem d_L_at_9 : decode b_L_at 9 = .ok (.goto 6, 3) := by decide +kernel
theorem d_L_at_12 : decode b_L_at 12 = .ok (.astore_n 3, 1) := by decide +kernel
theorem d_L_at_13 : decode b_L_at 13 = .ok (.iconst 1, 1) := by decide +kernel
theorem d_L_at_14 : decode b_L_at 14 = .ok (.ireturn, 1) := by decide +kernel
theorem d_L_at_15 : decode b_L_at 15 = .ok (.iconst 0, 1) := by decide +kernel
theorem d_L_at_16 : decode b_L_at 16 = .ok (.ireturn, 1) := by decide +kernel
def y_L_late : MethodName := ⟨"ReportChecks2Law", "late", "(LReportChecks2;II[J)I"⟩
abbrev b_L_late : ByteArray := method_18_code
abbrev k_L_late : Cond := .codeWith y_L_late b_L_late 5 (some .int) [(0, 10, 13, 15)]
theorem mc_L_late : MC y_L_late k_L_late b_L_late 5 (some .int) [(0, 10, 13, 15)] 4 := ⟨g_in (List.mem_of_getElem? (i := 682) (by decide +kernel)) (by decide +kernel), Or.inr rfl, g_in (List.mem_of_getElem? (i := 56) (by decide +kernel)) (by decide +kernel), by decide, by decide +kernel⟩
theorem st_L_late : Cond.static y_L_late ∈ g_ws := g_in (List.mem_of_getElem? (i := 681) (by decide +kernel)) (by decide +kernel)
theorem d_L_late_0 : decode b_L_late 0 = .ok (.aload_n 3, 1) := by decide +kernel
theorem d_L_late_1 : decode b_L_late 1 = .ok (.iconst 0, 1) := by decide +kernel
theorem d_L_late_2 : decode b_L_late 2 = .ok (.aload_n 0, 1) := by decide +kernel
theorem d_L_late_3 : decode b_L_late 3 = .ok (.iload_n 1, 1) := by decide +kernel
theorem d_L_late_4 : decode b_L_late 4 = .ok (.iload_n 2, 1) := by decide +kernel
theorem d_L_late_5 : decode b_L_late 5 = .ok (.invokevirtual 70, 3) := by decide +kernel
theorem d_L_late_8 : decode b_L_late 8 = .ok (.i2l, 1) := by decide +kernel
theorem d_L_late_9 : decode b_L_late 9 = .ok (.lastore, 1) := by decide +kernel
theorem d_L_late_10 : decode b_L_late 10 = .ok (.goto 7, 3) := by decide +kernel
theorem d_L_late_13 : decode b_L_late 13 = .ok (.astore 4, 2) := by decide +kernel
theorem d_L_late_15 : decode b_L_late 15 = .ok (.iconst 1, 1) := by decide +kernel
theorem d_L_late_16 : decode b_L_late 16 = .ok (.ireturn, 1) := by decide +kernel
theorem d_L_late_17 : decode b_L_late 17 = .ok (.iconst 0, 1) := by decide +kernel
theorem d_L_late_18 : decode b_L_late 18 = .ok (.ireturn, 1) := by decide +kernel
def y_L_count : MethodName := ⟨"ReportChecks2Law", "count", "(LReportChecks2;III[J)I"⟩
abbrev b_L_count : ByteArray := method_19_code
abbrev k_L_count : Cond := .codeWith y_L_count b_L_count 6 (some .int) [(0, 12, 15, 13), (0, 12, 19, 15)]
theorem mc_L_count : MC y_L_count k_L_count b_L_count 6 (some .int) [(0, 12, 15, 13), (0, 12, 19, 15)] 5 := ⟨g_in (List.mem_of_getElem? (i := 694) (by decide +kernel)) (by decide +kernel), Or.inr rfl, g_in (List.mem_of_getElem? (i := 56) (by decide +kernel)) (by decide +kernel), by decide, by decide +kernel⟩
theorem st_L_count : Cond.static y_L_count ∈ g_ws := g_in (List.mem_of_getElem? (i := 693) (by decide +kernel)) (by decide +kernel)
theorem d_L_count_0 : decode b_L_count 0 = .ok (.aload 4, 2) := by decide +kernel
theorem d_L_count_2 : decode b_L_count 2 = .ok (.iconst 0, 1) := by decide +kernel
theorem d_L_count_3 : decode b_L_count 3 = .ok (.aload_n 0, 1) := by decide +kernel
theorem d_L_count_4 : decode b_L_count 4 = .ok (.iload_n 1, 1) := by decide +kernel
theorem d_L_count_5 : decode b_L_count 5 = .ok (.iload_n 2, 1) := by decide +kernel
theorem d_L_count_6 : decode b_L_count 6 = .ok (.iload_n 3, 1) := by decide +kernel
theorem d_L_count_7 : decode b_L_count 7 = .ok (.invokevirtual 73, 3) := by decide +kernel
theorem d_L_count_10 : decode b_L_count 10 = .ok (.i2l, 1) := by decide +kernel
theorem d_L_count_11 : decode b_L_count 11 = .ok (.lastore, 1) := by decide +kernel
theorem d_L_count_12 : decode b_L_count 12 = .ok (.goto 11, 3) := by decide +kernel
theorem d_L_count_15 : decode b_L_count 15 = .ok (.astore 5, 2) := by decide +kernel
theorem d_L_count_17 : decode b_L_count 17 = .ok (.iconst 1, 1) := by decide +kernel
theorem d_L_count_18 : decode b_L_count 18 = .ok (.ireturn, 1) := by decide +kernel
theorem d_L_count_19 : decode b_L_count 19 = .ok (.astore 5, 2) := by decide +kernel
theorem d_L_count_21 : decode b_L_count 21 = .ok (.iconst 2, 1) := by decide +kernel
theorem d_L_count_22 : decode b_L_count 22 = .ok (.ireturn, 1) := by decide +kernel
theorem d_L_count_23 : decode b_L_count 23 = .ok (.iconst 0, 1) := by decide +kernel
theorem d_L_count_24 : decode b_L_count 24 = .ok (.ireturn, 1) := by decide +kernel
def y_L_reportAt : MethodName := ⟨"ReportChecks2Law", "reportAt", "(LReportChecks2;II[J)I"⟩
abbrev b_L_reportAt : ByteArray := method_20_code
abbrev k_L_reportAt : Cond := .codeWith y_L_reportAt b_L_reportAt 5 (some .int) [(0, 10, 13, 13)]
theorem mc_L_reportAt : MC y_L_reportAt k_L_reportAt b_L_reportAt 5 (some .int) [(0, 10, 13, 13)] 4 := ⟨g_in (List.mem_of_getElem? (i := 710) (by decide +kernel)) (by decide +kernel), Or.inr rfl, g_in (List.mem_of_getElem? (i := 56) (by decide +kernel)) (by decide +kernel), by decide, by decide +kernel⟩
theorem st_L_reportAt : Cond.static y_L_reportAt ∈ g_ws := g_in (List.mem_of_getElem? (i := 709) (by decide +kernel)) (by decide +kernel)
theorem d_L_reportAt_0 : decode b_L_reportAt 0 = .ok (.aload_n 3, 1) := by decide +kernel
theorem d_L_reportAt_1 : decode b_L_reportAt 1 = .ok (.iconst 0, 1) := by decide +kernel
theorem d_L_reportAt_2 : decode b_L_reportAt 2 = .ok (.aload_n 0, 1) := by decide +kernel
theorem d_L_reportAt_3 : decode b_L_reportAt 3 = .ok (.iload_n 1, 1) := by decide +kernel
theorem d_L_reportAt_4 : decode b_L_reportAt 4 = .ok (.iload_n 2, 1) := by decide +kernel
theorem d_L_reportAt_5 : decode b_L_reportAt 5 = .ok (.invokevirtual 77, 3) := by decide +kernel
theorem d_L_reportAt_8 : decode b_L_reportAt 8 = .ok (.i2l, 1) := by decide +kernel
theorem d_L_reportAt_9 : decode b_L_reportAt 9 = .ok (.lastore, 1) := by decide +kernel
theorem d_L_reportAt_10 : decode b_L_reportAt 10 = .ok (.goto 7, 3) := by decide +kernel
theorem d_L_reportAt_13 : decode b_L_reportAt 13 = .ok (.astore 4, 2) := by decide +kernel
theorem d_L_reportAt_15 : decode b_L_reportAt 15 = .ok (.iconst 1, 1) := by decide +kernel
theorem d_L_reportAt_16 : decode b_L_reportAt 16 = .ok (.ireturn, 1) := by decide +kernel
theorem d_L_reportAt_17 : decode b_L_reportAt 17 = .ok (.iconst 0, 1) := by decide +kernel
theorem d_L_reportAt_18 : decode b_L_reportAt 18 = .ok (.ireturn, 1) := by decide +kernel
def y_L_value : MethodName := ⟨"ReportChecks2Law", "value", "(LReportChecks2;II[J)I"⟩
abbrev b_L_value : ByteArray := method_21_code
abbrev k_L_value : Cond := .codeWith y_L_value b_L_value 5 (some .int) [(0, 10, 13, 13), (0, 10, 17, 27)]
theorem mc_L_value : MC y_L_value k_L_value b_L_value 5 (some .int) [(0, 10, 13, 13), (0, 10, 17, 27)] 4 := ⟨g_in (List.mem_of_getElem? (i := 727) (by decide +kernel)) (by decide +kernel), Or.inr rfl, g_in (List.mem_of_getElem? (i := 56) (by decide +kernel)) (by decide +kernel), by decide, by decide +kernel⟩
theorem st_L_value : Cond.static y_L_value ∈ g_ws := g_in (List.mem_of_getElem? (i := 726) (by decide +kernel)) (by decide +kernel)
theorem d_L_value_0 : decode b_L_value 0 = .ok (.aload_n 3, 1) := by decide +kernel
theorem d_L_value_1 : decode b_L_value 1 = .ok (.iconst 0, 1) := by decide +kernel
theorem d_L_value_2 : decode b_L_value 2 = .ok (.aload_n 0, 1) := by decide +kernel
theorem d_L_value_3 : decode b_L_value 3 = .ok (.iload_n 1, 1) := by decide +kernel
theorem d_L_value_4 : decode b_L_value 4 = .ok (.iload_n 2, 1) := by decide +kernel
theorem d_L_value_5 : decode b_L_value 5 = .ok (.invokevirtual 80, 3) := by decide +kernel
theorem d_L_value_8 : decode b_L_value 8 = .ok (.i2l, 1) := by decide +kernel
theorem d_L_value_9 : decode b_L_value 9 = .ok (.lastore, 1) := by decide +kernel
theorem d_L_value_10 : decode b_L_value 10 = .ok (.goto 11, 3) := by decide +kernel
theorem d_L_value_13 : decode b_L_value 13 = .ok (.astore 4, 2) := by decide +kernel
theorem d_L_value_15 : decode b_L_value 15 = .ok (.iconst 1, 1) := by decide +kernel
theorem d_L_value_16 : decode b_L_value 16 = .ok (.ireturn, 1) := by decide +kernel
theorem d_L_value_17 : decode b_L_value 17 = .ok (.astore 4, 2) := by decide +kernel
theorem d_L_value_19 : decode b_L_value 19 = .ok (.iconst 2, 1) := by decide +kernel
theorem d_L_value_20 : decode b_L_value 20 = .ok (.ireturn, 1) := by decide +kernel
theorem d_L_value_21 : decode b_L_value 21 = .ok (.iconst 0, 1) := by decide +kernel
theorem d_L_value_22 : decode b_L_value 22 = .ok (.ireturn, 1) := by decide +kernel
def y_L_tick : MethodName := ⟨"ReportChecks2Law", "tick", "(LReportChecks2;I[J)I"⟩
abbrev b_L_tick : ByteArray := method_22_code
abbrev k_L_tick : Cond := .codeWith y_L_tick b_L_tick 4 (some .int) [(0, 9, 12, 15)]
theorem mc_L_tick : MC y_L_tick k_L_tick b_L_tick 4 (some .int) [(0, 9, 12, 15)] 3 := ⟨g_in (List.mem_of_getElem? (i := 735) (by decide +kernel)) (by decide +kernel), Or.inr rfl, g_in (List.mem_of_getElem? (i := 56) (by decide +kernel)) (by decide +kernel), by decide, by decide +kernel⟩
theorem st_L_tick : Cond.static y_L_tick ∈ g_ws := g_in (List.mem_of_getElem? (i := 734) (by decide +kernel)) (by decide +kernel)
theorem d_L_tick_0 : decode b_L_tick 0 = .ok (.aload_n 2, 1) := by decide +kernel
theorem d_L_tick_1 : decode b_L_tick 1 = .ok (.iconst 0, 1) := by decide +kernel
theorem d_L_tick_2 : decode b_L_tick 2 = .ok (.aload_n 0, 1) := by decide +kernel
theorem d_L_tick_3 : decode b_L_tick 3 = .ok (.iload_n 1, 1) := by decide +kernel
theorem d_L_tick_4 : decode b_L_tick 4 = .ok (.invokevirtual 83, 3) := by decide +kernel
theorem d_L_tick_7 : decode b_L_tick 7 = .ok (.i2l, 1) := by decide +kernel
theorem d_L_tick_8 : decode b_L_tick 8 = .ok (.lastore, 1) := by decide +kernel
theorem d_L_tick_9 : decode b_L_tick 9 = .ok (.goto 6, 3) := by decide +kernel
theorem d_L_tick_12 : decode b_L_tick 12 = .ok (.astore_n 3, 1) := by decide +kernel
theorem d_L_tick_13 : decode b_L_tick 13 = .ok (.iconst 1, 1) := by decide +kernel
theorem d_L_tick_14 : decode b_L_tick 14 = .ok (.ireturn, 1) := by decide +kernel
theorem d_L_tick_15 : decode b_L_tick 15 = .ok (.iconst 0, 1) := by decide +kernel
theorem d_L_tick_16 : decode b_L_tick 16 = .ok (.ireturn, 1) := by decide +kernel
