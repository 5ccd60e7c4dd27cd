/-! ===== the fields as each class's entries name them: printed by program ===== -/
theorem fl_1_18 : FL cR1 18 1 0 := ⟨cR1, cT1, 3, rfl, by decide, cw1, Or.inl (g_in (List.mem_of_getElem? (i := 90) (by decide +kernel)) (by decide +kernel))⟩
theorem fp_1_18 : FP cR1 18 1 0 true (.array .byte) := ⟨cR1, cT1, 3, ct1, rfl, by decide, cw1, Or.inl (g_in (List.mem_of_getElem? (i := 90) (by decide +kernel)) (by decide +kernel)), cp1, cn1, rfl, rfl, fun _ => rfl⟩
theorem fl_1_9 : FL cR1 9 1 1 := ⟨cR1, cT1, 3, rfl, by decide, cw1, Or.inl (g_in (List.mem_of_getElem? (i := 91) (by decide +kernel)) (by decide +kernel))⟩
theorem fp_1_9 : FP cR1 9 1 1 false .int := ⟨cR1, cT1, 3, ct1, rfl, by decide, cw1, Or.inl (g_in (List.mem_of_getElem? (i := 91) (by decide +kernel)) (by decide +kernel)), cp1, cn1, rfl, rfl, fun h => by cases h⟩
theorem fl_1_15 : FL cR1 15 1 2 := ⟨cR1, cT1, 3, rfl, by decide, cw1, Or.inl (g_in (List.mem_of_getElem? (i := 92) (by decide +kernel)) (by decide +kernel))⟩
theorem fp_1_15 : FP cR1 15 1 2 false .int := ⟨cR1, cT1, 3, ct1, rfl, by decide, cw1, Or.inl (g_in (List.mem_of_getElem? (i := 92) (by decide +kernel)) (by decide +kernel)), cp1, cn1, rfl, rfl, fun h => by cases h⟩
theorem fl_2_9 : FL cR2 9 2 0 := ⟨cR2, cT2, 7, rfl, by decide, cw2, Or.inl (g_in (List.mem_of_getElem? (i := 108) (by decide +kernel)) (by decide +kernel))⟩
theorem fp_2_9 : FP cR2 9 2 0 false .int := ⟨cR2, cT2, 7, ct2, rfl, by decide, cw2, Or.inl (g_in (List.mem_of_getElem? (i := 108) (by decide +kernel)) (by decide +kernel)), cp2, cn2, rfl, rfl, fun h => by cases h⟩
theorem fl_1_28 : FL cR1 28 2 0 := ⟨cR2, cT2, 7, rfl, by decide, cw2, Or.inr ⟨"ReportChecks2", g_in (List.mem_of_getElem? (i := 109) (by decide +kernel)) (by decide +kernel)⟩⟩
theorem fp_1_28 : FP cR1 28 2 0 false .int := ⟨cR2, cT2, 7, ct2, rfl, by decide, cw2, Or.inr ⟨rfl, "ReportChecks2", g_in (List.mem_of_getElem? (i := 109) (by decide +kernel)) (by decide +kernel)⟩, cp2, cn2, rfl, rfl, fun h => by cases h⟩
theorem fl_0_157 : FL cR0 157 2 0 := ⟨cR2, cT2, 7, rfl, by decide, cw2, Or.inr ⟨"ReportChecks2", g_in (List.mem_of_getElem? (i := 110) (by decide +kernel)) (by decide +kernel)⟩⟩
theorem fp_0_157 : FP cR0 157 2 0 false .int := ⟨cR2, cT2, 7, ct2, rfl, by decide, cw2, Or.inr ⟨rfl, "ReportChecks2", g_in (List.mem_of_getElem? (i := 110) (by decide +kernel)) (by decide +kernel)⟩, cp2, cn2, rfl, rfl, fun h => by cases h⟩
theorem fl_2_15 : FL cR2 15 2 1 := ⟨cR2, cT2, 7, rfl, by decide, cw2, Or.inl (g_in (List.mem_of_getElem? (i := 111) (by decide +kernel)) (by decide +kernel))⟩
theorem fp_2_15 : FP cR2 15 2 1 true (.array .char) := ⟨cR2, cT2, 7, ct2, rfl, by decide, cw2, Or.inl (g_in (List.mem_of_getElem? (i := 111) (by decide +kernel)) (by decide +kernel)), cp2, cn2, rfl, rfl, fun _ => rfl⟩
theorem fl_1_51 : FL cR1 51 2 1 := ⟨cR2, cT2, 7, rfl, by decide, cw2, Or.inr ⟨"ReportChecks2", g_in (List.mem_of_getElem? (i := 112) (by decide +kernel)) (by decide +kernel)⟩⟩
theorem fl_2_19 : FL cR2 19 2 2 := ⟨cR2, cT2, 7, rfl, by decide, cw2, Or.inl (g_in (List.mem_of_getElem? (i := 113) (by decide +kernel)) (by decide +kernel))⟩
theorem fp_2_19 : FP cR2 19 2 2 true (.array .int) := ⟨cR2, cT2, 7, ct2, rfl, by decide, cw2, Or.inl (g_in (List.mem_of_getElem? (i := 113) (by decide +kernel)) (by decide +kernel)), cp2, cn2, rfl, rfl, fun _ => rfl⟩
theorem fl_2_23 : FL cR2 23 2 3 := ⟨cR2, cT2, 7, rfl, by decide, cw2, Or.inl (g_in (List.mem_of_getElem? (i := 114) (by decide +kernel)) (by decide +kernel))⟩
theorem fp_2_23 : FP cR2 23 2 3 true (.array .int) := ⟨cR2, cT2, 7, ct2, rfl, by decide, cw2, Or.inl (g_in (List.mem_of_getElem? (i := 114) (by decide +kernel)) (by decide +kernel)), cp2, cn2, rfl, rfl, fun _ => rfl⟩
theorem fl_2_26 : FL cR2 26 2 4 := ⟨cR2, cT2, 7, rfl, by decide, cw2, Or.inl (g_in (List.mem_of_getElem? (i := 115) (by decide +kernel)) (by decide +kernel))⟩
theorem fp_2_26 : FP cR2 26 2 4 true (.array .int) := ⟨cR2, cT2, 7, ct2, rfl, by decide, cw2, Or.inl (g_in (List.mem_of_getElem? (i := 115) (by decide +kernel)) (by decide +kernel)), cp2, cn2, rfl, rfl, fun _ => rfl⟩
theorem fl_2_29 : FL cR2 29 2 5 := ⟨cR2, cT2, 7, rfl, by decide, cw2, Or.inl (g_in (List.mem_of_getElem? (i := 116) (by decide +kernel)) (by decide +kernel))⟩
theorem fp_2_29 : FP cR2 29 2 5 true (.array .int) := ⟨cR2, cT2, 7, ct2, rfl, by decide, cw2, Or.inl (g_in (List.mem_of_getElem? (i := 116) (by decide +kernel)) (by decide +kernel)), cp2, cn2, rfl, rfl, fun _ => rfl⟩
theorem fl_2_32 : FL cR2 32 2 6 := ⟨cR2, cT2, 7, rfl, by decide, cw2, Or.inl (g_in (List.mem_of_getElem? (i := 117) (by decide +kernel)) (by decide +kernel))⟩
theorem fp_2_32 : FP cR2 32 2 6 true (.array .boolean) := ⟨cR2, cT2, 7, ct2, rfl, by decide, cw2, Or.inl (g_in (List.mem_of_getElem? (i := 117) (by decide +kernel)) (by decide +kernel)), cp2, cn2, rfl, rfl, fun _ => rfl⟩
theorem fl_3_9 : FL cR3 9 3 0 := ⟨cR3, cT3, 3, rfl, by decide, cw3, Or.inl (g_in (List.mem_of_getElem? (i := 141) (by decide +kernel)) (by decide +kernel))⟩
theorem fp_3_9 : FP cR3 9 3 0 true (.array .int) := ⟨cR3, cT3, 3, ct3, rfl, by decide, cw3, Or.inl (g_in (List.mem_of_getElem? (i := 141) (by decide +kernel)) (by decide +kernel)), cp3, cn3, rfl, rfl, fun _ => rfl⟩
theorem fl_0_167 : FL cR0 167 3 0 := ⟨cR3, cT3, 3, rfl, by decide, cw3, Or.inr ⟨"ReportChecks2", g_in (List.mem_of_getElem? (i := 142) (by decide +kernel)) (by decide +kernel)⟩⟩
theorem fl_3_15 : FL cR3 15 3 1 := ⟨cR3, cT3, 3, rfl, by decide, cw3, Or.inl (g_in (List.mem_of_getElem? (i := 143) (by decide +kernel)) (by decide +kernel))⟩
theorem fp_3_15 : FP cR3 15 3 1 true (.array .int) := ⟨cR3, cT3, 3, ct3, rfl, by decide, cw3, Or.inl (g_in (List.mem_of_getElem? (i := 143) (by decide +kernel)) (by decide +kernel)), cp3, cn3, rfl, rfl, fun _ => rfl⟩
theorem fl_0_170 : FL cR0 170 3 1 := ⟨cR3, cT3, 3, rfl, by decide, cw3, Or.inr ⟨"ReportChecks2", g_in (List.mem_of_getElem? (i := 144) (by decide +kernel)) (by decide +kernel)⟩⟩
theorem fl_3_18 : FL cR3 18 3 2 := ⟨cR3, cT3, 3, rfl, by decide, cw3, Or.inl (g_in (List.mem_of_getElem? (i := 145) (by decide +kernel)) (by decide +kernel))⟩
theorem fp_3_18 : FP cR3 18 3 2 false .int := ⟨cR3, cT3, 3, ct3, rfl, by decide, cw3, Or.inl (g_in (List.mem_of_getElem? (i := 145) (by decide +kernel)) (by decide +kernel)), cp3, cn3, rfl, rfl, fun h => by cases h⟩
theorem fl_0_164 : FL cR0 164 3 2 := ⟨cR3, cT3, 3, rfl, by decide, cw3, Or.inr ⟨"ReportChecks2", g_in (List.mem_of_getElem? (i := 146) (by decide +kernel)) (by decide +kernel)⟩⟩
theorem fp_0_164 : FP cR0 164 3 2 false .int := ⟨cR3, cT3, 3, ct3, rfl, by decide, cw3, Or.inr ⟨rfl, "ReportChecks2", g_in (List.mem_of_getElem? (i := 146) (by decide +kernel)) (by decide +kernel)⟩, cp3, cn3, rfl, rfl, fun h => by cases h⟩
theorem fl_4_9 : FL cR4 9 4 0 := ⟨cR4, cT4, 2, rfl, by decide, cw4, Or.inl (g_in (List.mem_of_getElem? (i := 160) (by decide +kernel)) (by decide +kernel))⟩
theorem fp_4_9 : FP cR4 9 4 0 true (.array .byte) := ⟨cR4, cT4, 2, ct4, rfl, by decide, cw4, Or.inl (g_in (List.mem_of_getElem? (i := 160) (by decide +kernel)) (by decide +kernel)), cp4, cn4, rfl, rfl, fun _ => rfl⟩
theorem fl_0_218 : FL cR0 218 4 0 := ⟨cR4, cT4, 2, rfl, by decide, cw4, Or.inr ⟨"ReportChecks2", g_in (List.mem_of_getElem? (i := 161) (by decide +kernel)) (by decide +kernel)⟩⟩
theorem fl_4_15 : FL cR4 15 4 1 := ⟨cR4, cT4, 2, rfl, by decide, cw4, Or.inl (g_in (List.mem_of_getElem? (i := 162) (by decide +kernel)) (by decide +kernel))⟩
theorem fp_4_15 : FP cR4 15 4 1 false .int := ⟨cR4, cT4, 2, ct4, rfl, by decide, cw4, Or.inl (g_in (List.mem_of_getElem? (i := 162) (by decide +kernel)) (by decide +kernel)), cp4, cn4, rfl, rfl, fun h => by cases h⟩
theorem fl_0_213 : FL cR0 213 4 1 := ⟨cR4, cT4, 2, rfl, by decide, cw4, Or.inr ⟨"ReportChecks2", g_in (List.mem_of_getElem? (i := 163) (by decide +kernel)) (by decide +kernel)⟩⟩
theorem fp_0_213 : FP cR0 213 4 1 false .int := ⟨cR4, cT4, 2, ct4, rfl, by decide, cw4, Or.inr ⟨rfl, "ReportChecks2", g_in (List.mem_of_getElem? (i := 163) (by decide +kernel)) (by decide +kernel)⟩, cp4, cn4, rfl, rfl, fun h => by cases h⟩
theorem fl_0_11 : FL cR0 11 0 0 := ⟨cR0, cT0, 14, rfl, by decide, cw0, Or.inl (g_in (List.mem_of_getElem? (i := 169) (by decide +kernel)) (by decide +kernel))⟩
theorem fp_0_11 : FP cR0 11 0 0 true (.array (.object "ReportChecks2$Report")) := ⟨cR0, cT0, 14, ct0, rfl, by decide, cw0, Or.inl (g_in (List.mem_of_getElem? (i := 169) (by decide +kernel)) (by decide +kernel)), cp0, cn0, rfl, rfl, fun _ => rfl⟩
theorem fl_0_15 : FL cR0 15 0 1 := ⟨cR0, cT0, 14, rfl, by decide, cw0, Or.inl (g_in (List.mem_of_getElem? (i := 170) (by decide +kernel)) (by decide +kernel))⟩
theorem fp_0_15 : FP cR0 15 0 1 false .int := ⟨cR0, cT0, 14, ct0, rfl, by decide, cw0, Or.inl (g_in (List.mem_of_getElem? (i := 170) (by decide +kernel)) (by decide +kernel)), cp0, cn0, rfl, rfl, fun h => by cases h⟩
theorem fl_0_19 : FL cR0 19 0 2 := ⟨cR0, cT0, 14, rfl, by decide, cw0, Or.inl (g_in (List.mem_of_getElem? (i := 171) (by decide +kernel)) (by decide +kernel))⟩
theorem fp_0_19 : FP cR0 19 0 2 true (.array .int) := ⟨cR0, cT0, 14, ct0, rfl, by decide, cw0, Or.inl (g_in (List.mem_of_getElem? (i := 171) (by decide +kernel)) (by decide +kernel)), cp0, cn0, rfl, rfl, fun _ => rfl⟩
theorem fl_0_23 : FL cR0 23 0 3 := ⟨cR0, cT0, 14, rfl, by decide, cw0, Or.inl (g_in (List.mem_of_getElem? (i := 172) (by decide +kernel)) (by decide +kernel))⟩
theorem fp_0_23 : FP cR0 23 0 3 true (.array .int) := ⟨cR0, cT0, 14, ct0, rfl, by decide, cw0, Or.inl (g_in (List.mem_of_getElem? (i := 172) (by decide +kernel)) (by decide +kernel)), cp0, cn0, rfl, rfl, fun _ => rfl⟩
theorem fl_0_26 : FL cR0 26 0 4 := ⟨cR0, cT0, 14, rfl, by decide, cw0, Or.inl (g_in (List.mem_of_getElem? (i := 173) (by decide +kernel)) (by decide +kernel))⟩
theorem fp_0_26 : FP cR0 26 0 4 false .int := ⟨cR0, cT0, 14, ct0, rfl, by decide, cw0, Or.inl (g_in (List.mem_of_getElem? (i := 173) (by decide +kernel)) (by decide +kernel)), cp0, cn0, rfl, rfl, fun h => by cases h⟩
theorem fl_0_29 : FL cR0 29 0 5 := ⟨cR0, cT0, 14, rfl, by decide, cw0, Or.inl (g_in (List.mem_of_getElem? (i := 174) (by decide +kernel)) (by decide +kernel))⟩
theorem fp_0_29 : FP cR0 29 0 5 true (.array .byte) := ⟨cR0, cT0, 14, ct0, rfl, by decide, cw0, Or.inl (g_in (List.mem_of_getElem? (i := 174) (by decide +kernel)) (by decide +kernel)), cp0, cn0, rfl, rfl, fun _ => rfl⟩
theorem fl_0_33 : FL cR0 33 0 6 := ⟨cR0, cT0, 14, rfl, by decide, cw0, Or.inl (g_in (List.mem_of_getElem? (i := 175) (by decide +kernel)) (by decide +kernel))⟩
theorem fp_0_33 : FP cR0 33 0 6 false .int := ⟨cR0, cT0, 14, ct0, rfl, by decide, cw0, Or.inl (g_in (List.mem_of_getElem? (i := 175) (by decide +kernel)) (by decide +kernel)), cp0, cn0, rfl, rfl, fun h => by cases h⟩
theorem fl_0_41 : FL cR0 41 0 7 := ⟨cR0, cT0, 14, rfl, by decide, cw0, Or.inl (g_in (List.mem_of_getElem? (i := 176) (by decide +kernel)) (by decide +kernel))⟩
theorem fp_0_41 : FP cR0 41 0 7 true (.object "ReportChecks2$RuleReader") := ⟨cR0, cT0, 14, ct0, rfl, by decide, cw0, Or.inl (g_in (List.mem_of_getElem? (i := 176) (by decide +kernel)) (by decide +kernel)), cp0, cn0, rfl, rfl, fun _ => rfl⟩
theorem fl_0_48 : FL cR0 48 0 8 := ⟨cR0, cT0, 14, rfl, by decide, cw0, Or.inl (g_in (List.mem_of_getElem? (i := 177) (by decide +kernel)) (by decide +kernel))⟩
theorem fp_0_48 : FP cR0 48 0 8 false (.object "ReportChecks2$RuleBook") := ⟨cR0, cT0, 14, ct0, rfl, by decide, cw0, Or.inl (g_in (List.mem_of_getElem? (i := 177) (by decide +kernel)) (by decide +kernel)), cp0, cn0, rfl, rfl, fun h => by cases h⟩
theorem fl_0_52 : FL cR0 52 0 9 := ⟨cR0, cT0, 14, rfl, by decide, cw0, Or.inl (g_in (List.mem_of_getElem? (i := 178) (by decide +kernel)) (by decide +kernel))⟩
theorem fp_0_52 : FP cR0 52 0 9 false (.object "ReportChecks2$RuleBook") := ⟨cR0, cT0, 14, ct0, rfl, by decide, cw0, Or.inl (g_in (List.mem_of_getElem? (i := 178) (by decide +kernel)) (by decide +kernel)), cp0, cn0, rfl, rfl, fun h => by cases h⟩
theorem fl_0_55 : FL cR0 55 0 10 := ⟨cR0, cT0, 14, rfl, by decide, cw0, Or.inl (g_in (List.mem_of_getElem? (i := 179) (by decide +kernel)) (by decide +kernel))⟩
theorem fp_0_55 : FP cR0 55 0 10 false .int := ⟨cR0, cT0, 14, ct0, rfl, by decide, cw0, Or.inl (g_in (List.mem_of_getElem? (i := 179) (by decide +kernel)) (by decide +kernel)), cp0, cn0, rfl, rfl, fun h => by cases h⟩
theorem fl_0_61 : FL cR0 61 0 11 := ⟨cR0, cT0, 14, rfl, by decide, cw0, Or.inl (g_in (List.mem_of_getElem? (i := 180) (by decide +kernel)) (by decide +kernel))⟩
theorem fp_0_61 : FP cR0 61 0 11 true (.object "ReportChecks2$Findings") := ⟨cR0, cT0, 14, ct0, rfl, by decide, cw0, Or.inl (g_in (List.mem_of_getElem? (i := 180) (by decide +kernel)) (by decide +kernel)), cp0, cn0, rfl, rfl, fun _ => rfl⟩
theorem fl_0_65 : FL cR0 65 0 12 := ⟨cR0, cT0, 14, rfl, by decide, cw0, Or.inl (g_in (List.mem_of_getElem? (i := 181) (by decide +kernel)) (by decide +kernel))⟩
theorem fp_0_65 : FP cR0 65 0 12 true (.object "ReportChecks2$Findings") := ⟨cR0, cT0, 14, ct0, rfl, by decide, cw0, Or.inl (g_in (List.mem_of_getElem? (i := 181) (by decide +kernel)) (by decide +kernel)), cp0, cn0, rfl, rfl, fun _ => rfl⟩
theorem fl_0_71 : FL cR0 71 0 13 := ⟨cR0, cT0, 14, rfl, by decide, cw0, Or.inl (g_in (List.mem_of_getElem? (i := 182) (by decide +kernel)) (by decide +kernel))⟩
theorem fp_0_71 : FP cR0 71 0 13 true (.object "ReportChecks2$CodeText") := ⟨cR0, cT0, 14, ct0, rfl, by decide, cw0, Or.inl (g_in (List.mem_of_getElem? (i := 182) (by decide +kernel)) (by decide +kernel)), cp0, cn0, rfl, rfl, fun _ => rfl⟩
theorem fl_5_34 : FL cR5 34 5 0 := ⟨cR5, cT5, 11, rfl, by decide, cw5, Or.inl (g_in (List.mem_of_getElem? (i := 338) (by decide +kernel)) (by decide +kernel))⟩
theorem fp_5_34 : FP cR5 34 5 0 true .int := ⟨cR5, cT5, 11, ct5, rfl, by decide, cw5, Or.inl (g_in (List.mem_of_getElem? (i := 338) (by decide +kernel)) (by decide +kernel)), cp5, cn5, rfl, rfl, fun _ => rfl⟩
theorem fl_4_23 : FL cR4 23 5 0 := ⟨cR5, cT5, 11, rfl, by decide, cw5, Or.inr ⟨"ReportChecks2", g_in (List.mem_of_getElem? (i := 339) (by decide +kernel)) (by decide +kernel)⟩⟩
theorem fl_0_192 : FL cR0 192 5 0 := ⟨cR5, cT5, 11, rfl, by decide, cw5, Or.inr ⟨"ReportChecks2", g_in (List.mem_of_getElem? (i := 340) (by decide +kernel)) (by decide +kernel)⟩⟩
theorem fl_5_37 : FL cR5 37 5 1 := ⟨cR5, cT5, 11, rfl, by decide, cw5, Or.inl (g_in (List.mem_of_getElem? (i := 341) (by decide +kernel)) (by decide +kernel))⟩
theorem fp_5_37 : FP cR5 37 5 1 true .int := ⟨cR5, cT5, 11, ct5, rfl, by decide, cw5, Or.inl (g_in (List.mem_of_getElem? (i := 341) (by decide +kernel)) (by decide +kernel)), cp5, cn5, rfl, rfl, fun _ => rfl⟩
theorem fl_0_195 : FL cR0 195 5 1 := ⟨cR5, cT5, 11, rfl, by decide, cw5, Or.inr ⟨"ReportChecks2", g_in (List.mem_of_getElem? (i := 342) (by decide +kernel)) (by decide +kernel)⟩⟩
theorem fl_5_40 : FL cR5 40 5 2 := ⟨cR5, cT5, 11, rfl, by decide, cw5, Or.inl (g_in (List.mem_of_getElem? (i := 343) (by decide +kernel)) (by decide +kernel))⟩
theorem fp_5_40 : FP cR5 40 5 2 true .int := ⟨cR5, cT5, 11, ct5, rfl, by decide, cw5, Or.inl (g_in (List.mem_of_getElem? (i := 343) (by decide +kernel)) (by decide +kernel)), cp5, cn5, rfl, rfl, fun _ => rfl⟩
theorem fl_0_236 : FL cR0 236 5 2 := ⟨cR5, cT5, 11, rfl, by decide, cw5, Or.inr ⟨"ReportChecks2", g_in (List.mem_of_getElem? (i := 344) (by decide +kernel)) (by decide +kernel)⟩⟩
theorem fl_5_43 : FL cR5 43 5 3 := ⟨cR5, cT5, 11, rfl, by decide, cw5, Or.inl (g_in (List.mem_of_getElem? (i := 345) (by decide +kernel)) (by decide +kernel))⟩
theorem fp_5_43 : FP cR5 43 5 3 true .int := ⟨cR5, cT5, 11, ct5, rfl, by decide, cw5, Or.inl (g_in (List.mem_of_getElem? (i := 345) (by decide +kernel)) (by decide +kernel)), cp5, cn5, rfl, rfl, fun _ => rfl⟩
theorem fl_0_249 : FL cR0 249 5 3 := ⟨cR5, cT5, 11, rfl, by decide, cw5, Or.inr ⟨"ReportChecks2", g_in (List.mem_of_getElem? (i := 346) (by decide +kernel)) (by decide +kernel)⟩⟩
theorem fl_5_9 : FL cR5 9 5 4 := ⟨cR5, cT5, 11, rfl, by decide, cw5, Or.inl (g_in (List.mem_of_getElem? (i := 347) (by decide +kernel)) (by decide +kernel))⟩
theorem fp_5_9 : FP cR5 9 5 4 true (.array .int) := ⟨cR5, cT5, 11, ct5, rfl, by decide, cw5, Or.inl (g_in (List.mem_of_getElem? (i := 347) (by decide +kernel)) (by decide +kernel)), cp5, cn5, rfl, rfl, fun _ => rfl⟩
theorem fl_4_38 : FL cR4 38 5 4 := ⟨cR5, cT5, 11, rfl, by decide, cw5, Or.inr ⟨"ReportChecks2", g_in (List.mem_of_getElem? (i := 348) (by decide +kernel)) (by decide +kernel)⟩⟩
theorem fl_2_49 : FL cR2 49 5 4 := ⟨cR5, cT5, 11, rfl, by decide, cw5, Or.inr ⟨"ReportChecks2", g_in (List.mem_of_getElem? (i := 349) (by decide +kernel)) (by decide +kernel)⟩⟩
theorem fl_0_257 : FL cR0 257 5 4 := ⟨cR5, cT5, 11, rfl, by decide, cw5, Or.inr ⟨"ReportChecks2", g_in (List.mem_of_getElem? (i := 350) (by decide +kernel)) (by decide +kernel)⟩⟩
theorem fl_5_15 : FL cR5 15 5 5 := ⟨cR5, cT5, 11, rfl, by decide, cw5, Or.inl (g_in (List.mem_of_getElem? (i := 351) (by decide +kernel)) (by decide +kernel))⟩
theorem fp_5_15 : FP cR5 15 5 5 false .int := ⟨cR5, cT5, 11, ct5, rfl, by decide, cw5, Or.inl (g_in (List.mem_of_getElem? (i := 351) (by decide +kernel)) (by decide +kernel)), cp5, cn5, rfl, rfl, fun h => by cases h⟩
theorem fl_4_31 : FL cR4 31 5 5 := ⟨cR5, cT5, 11, rfl, by decide, cw5, Or.inr ⟨"ReportChecks2", g_in (List.mem_of_getElem? (i := 352) (by decide +kernel)) (by decide +kernel)⟩⟩
theorem fp_4_31 : FP cR4 31 5 5 false .int := ⟨cR5, cT5, 11, ct5, rfl, by decide, cw5, Or.inr ⟨rfl, "ReportChecks2", g_in (List.mem_of_getElem? (i := 352) (by decide +kernel)) (by decide +kernel)⟩, cp5, cn5, rfl, rfl, fun h => by cases h⟩
theorem fl_2_44 : FL cR2 44 5 5 := ⟨cR5, cT5, 11, rfl, by decide, cw5, Or.inr ⟨"ReportChecks2", g_in (List.mem_of_getElem? (i := 353) (by decide +kernel)) (by decide +kernel)⟩⟩
theorem fp_2_44 : FP cR2 44 5 5 false .int := ⟨cR5, cT5, 11, ct5, rfl, by decide, cw5, Or.inr ⟨rfl, "ReportChecks2", g_in (List.mem_of_getElem? (i := 353) (by decide +kernel)) (by decide +kernel)⟩, cp5, cn5, rfl, rfl, fun h => by cases h⟩
theorem fl_0_252 : FL cR0 252 5 5 := ⟨cR5, cT5, 11, rfl, by decide, cw5, Or.inr ⟨"ReportChecks2", g_in (List.mem_of_getElem? (i := 354) (by decide +kernel)) (by decide +kernel)⟩⟩
theorem fp_0_252 : FP cR0 252 5 5 false .int := ⟨cR5, cT5, 11, ct5, rfl, by decide, cw5, Or.inr ⟨rfl, "ReportChecks2", g_in (List.mem_of_getElem? (i := 354) (by decide +kernel)) (by decide +kernel)⟩, cp5, cn5, rfl, rfl, fun h => by cases h⟩
theorem fl_5_19 : FL cR5 19 5 6 := ⟨cR5, cT5, 11, rfl, by decide, cw5, Or.inl (g_in (List.mem_of_getElem? (i := 355) (by decide +kernel)) (by decide +kernel))⟩
theorem fp_5_19 : FP cR5 19 5 6 false .int := ⟨cR5, cT5, 11, ct5, rfl, by decide, cw5, Or.inl (g_in (List.mem_of_getElem? (i := 355) (by decide +kernel)) (by decide +kernel)), cp5, cn5, rfl, rfl, fun h => by cases h⟩
theorem fl_5_22 : FL cR5 22 5 7 := ⟨cR5, cT5, 11, rfl, by decide, cw5, Or.inl (g_in (List.mem_of_getElem? (i := 356) (by decide +kernel)) (by decide +kernel))⟩
theorem fp_5_22 : FP cR5 22 5 7 false .int := ⟨cR5, cT5, 11, ct5, rfl, by decide, cw5, Or.inl (g_in (List.mem_of_getElem? (i := 356) (by decide +kernel)) (by decide +kernel)), cp5, cn5, rfl, rfl, fun h => by cases h⟩
theorem fl_0_201 : FL cR0 201 5 7 := ⟨cR5, cT5, 11, rfl, by decide, cw5, Or.inr ⟨"ReportChecks2", g_in (List.mem_of_getElem? (i := 357) (by decide +kernel)) (by decide +kernel)⟩⟩
theorem fp_0_201 : FP cR0 201 5 7 false .int := ⟨cR5, cT5, 11, ct5, rfl, by decide, cw5, Or.inr ⟨rfl, "ReportChecks2", g_in (List.mem_of_getElem? (i := 357) (by decide +kernel)) (by decide +kernel)⟩, cp5, cn5, rfl, rfl, fun h => by cases h⟩
theorem fl_5_25 : FL cR5 25 5 8 := ⟨cR5, cT5, 11, rfl, by decide, cw5, Or.inl (g_in (List.mem_of_getElem? (i := 358) (by decide +kernel)) (by decide +kernel))⟩
theorem fp_5_25 : FP cR5 25 5 8 false .int := ⟨cR5, cT5, 11, ct5, rfl, by decide, cw5, Or.inl (g_in (List.mem_of_getElem? (i := 358) (by decide +kernel)) (by decide +kernel)), cp5, cn5, rfl, rfl, fun h => by cases h⟩
theorem fl_0_141 : FL cR0 141 5 8 := ⟨cR5, cT5, 11, rfl, by decide, cw5, Or.inr ⟨"ReportChecks2", g_in (List.mem_of_getElem? (i := 359) (by decide +kernel)) (by decide +kernel)⟩⟩
theorem fp_0_141 : FP cR0 141 5 8 false .int := ⟨cR5, cT5, 11, ct5, rfl, by decide, cw5, Or.inr ⟨rfl, "ReportChecks2", g_in (List.mem_of_getElem? (i := 359) (by decide +kernel)) (by decide +kernel)⟩, cp5, cn5, rfl, rfl, fun h => by cases h⟩
theorem fl_5_28 : FL cR5 28 5 9 := ⟨cR5, cT5, 11, rfl, by decide, cw5, Or.inl (g_in (List.mem_of_getElem? (i := 360) (by decide +kernel)) (by decide +kernel))⟩
theorem fp_5_28 : FP cR5 28 5 9 true (.array .int) := ⟨cR5, cT5, 11, ct5, rfl, by decide, cw5, Or.inl (g_in (List.mem_of_getElem? (i := 360) (by decide +kernel)) (by decide +kernel)), cp5, cn5, rfl, rfl, fun _ => rfl⟩
theorem fl_5_31 : FL cR5 31 5 10 := ⟨cR5, cT5, 11, rfl, by decide, cw5, Or.inl (g_in (List.mem_of_getElem? (i := 361) (by decide +kernel)) (by decide +kernel))⟩
theorem fp_5_31 : FP cR5 31 5 10 false .int := ⟨cR5, cT5, 11, ct5, rfl, by decide, cw5, Or.inl (g_in (List.mem_of_getElem? (i := 361) (by decide +kernel)) (by decide +kernel)), cp5, cn5, rfl, rfl, fun h => by cases h⟩
theorem fl_0_186 : FL cR0 186 5 10 := ⟨cR5, cT5, 11, rfl, by decide, cw5, Or.inr ⟨"ReportChecks2", g_in (List.mem_of_getElem? (i := 362) (by decide +kernel)) (by decide +kernel)⟩⟩
theorem fp_0_186 : FP cR0 186 5 10 false .int := ⟨cR5, cT5, 11, ct5, rfl, by decide, cw5, Or.inr ⟨rfl, "ReportChecks2", g_in (List.mem_of_getElem? (i := 362) (by decide +kernel)) (by decide +kernel)⟩, cp5, cn5, rfl, rfl, fun h => by cases h⟩
theorem fl_6_96 : FL cR6 96 6 0 := ⟨cR6, cT6, 39, rfl, by decide, cw6, Or.inl (g_in (List.mem_of_getElem? (i := 747) (by decide +kernel)) (by decide +kernel))⟩
theorem fp_6_96 : FP cR6 96 6 0 false .int := ⟨cR6, cT6, 39, ct6, rfl, by decide, cw6, Or.inl (g_in (List.mem_of_getElem? (i := 747) (by decide +kernel)) (by decide +kernel)), cp6, cn6, rfl, rfl, fun h => by cases h⟩
theorem fl_6_106 : FL cR6 106 6 1 := ⟨cR6, cT6, 39, rfl, by decide, cw6, Or.inl (g_in (List.mem_of_getElem? (i := 748) (by decide +kernel)) (by decide +kernel))⟩
theorem fp_6_106 : FP cR6 106 6 1 false .int := ⟨cR6, cT6, 39, ct6, rfl, by decide, cw6, Or.inl (g_in (List.mem_of_getElem? (i := 748) (by decide +kernel)) (by decide +kernel)), cp6, cn6, rfl, rfl, fun h => by cases h⟩
theorem fl_6_99 : FL cR6 99 6 2 := ⟨cR6, cT6, 39, rfl, by decide, cw6, Or.inl (g_in (List.mem_of_getElem? (i := 749) (by decide +kernel)) (by decide +kernel))⟩
theorem fp_6_99 : FP cR6 99 6 2 false .int := ⟨cR6, cT6, 39, ct6, rfl, by decide, cw6, Or.inl (g_in (List.mem_of_getElem? (i := 749) (by decide +kernel)) (by decide +kernel)), cp6, cn6, rfl, rfl, fun h => by cases h⟩
theorem fl_6_7 : FL cR6 7 6 3 := ⟨cR6, cT6, 39, rfl, by decide, cw6, Or.inl (g_in (List.mem_of_getElem? (i := 750) (by decide +kernel)) (by decide +kernel))⟩
theorem fp_6_7 : FP cR6 7 6 3 true (.array .int) := ⟨cR6, cT6, 39, ct6, rfl, by decide, cw6, Or.inl (g_in (List.mem_of_getElem? (i := 750) (by decide +kernel)) (by decide +kernel)), cp6, cn6, rfl, rfl, fun _ => rfl⟩
theorem fl_6_13 : FL cR6 13 6 4 := ⟨cR6, cT6, 39, rfl, by decide, cw6, Or.inl (g_in (List.mem_of_getElem? (i := 751) (by decide +kernel)) (by decide +kernel))⟩
theorem fp_6_13 : FP cR6 13 6 4 true (.array .int) := ⟨cR6, cT6, 39, ct6, rfl, by decide, cw6, Or.inl (g_in (List.mem_of_getElem? (i := 751) (by decide +kernel)) (by decide +kernel)), cp6, cn6, rfl, rfl, fun _ => rfl⟩
theorem fl_6_16 : FL cR6 16 6 5 := ⟨cR6, cT6, 39, rfl, by decide, cw6, Or.inl (g_in (List.mem_of_getElem? (i := 752) (by decide +kernel)) (by decide +kernel))⟩
theorem fp_6_16 : FP cR6 16 6 5 true (.array .int) := ⟨cR6, cT6, 39, ct6, rfl, by decide, cw6, Or.inl (g_in (List.mem_of_getElem? (i := 752) (by decide +kernel)) (by decide +kernel)), cp6, cn6, rfl, rfl, fun _ => rfl⟩
theorem fl_6_19 : FL cR6 19 6 6 := ⟨cR6, cT6, 39, rfl, by decide, cw6, Or.inl (g_in (List.mem_of_getElem? (i := 753) (by decide +kernel)) (by decide +kernel))⟩
theorem fp_6_19 : FP cR6 19 6 6 true (.array .int) := ⟨cR6, cT6, 39, ct6, rfl, by decide, cw6, Or.inl (g_in (List.mem_of_getElem? (i := 753) (by decide +kernel)) (by decide +kernel)), cp6, cn6, rfl, rfl, fun _ => rfl⟩
theorem fl_6_22 : FL cR6 22 6 7 := ⟨cR6, cT6, 39, rfl, by decide, cw6, Or.inl (g_in (List.mem_of_getElem? (i := 754) (by decide +kernel)) (by decide +kernel))⟩
theorem fp_6_22 : FP cR6 22 6 7 true (.array .int) := ⟨cR6, cT6, 39, ct6, rfl, by decide, cw6, Or.inl (g_in (List.mem_of_getElem? (i := 754) (by decide +kernel)) (by decide +kernel)), cp6, cn6, rfl, rfl, fun _ => rfl⟩
theorem fl_6_25 : FL cR6 25 6 8 := ⟨cR6, cT6, 39, rfl, by decide, cw6, Or.inl (g_in (List.mem_of_getElem? (i := 755) (by decide +kernel)) (by decide +kernel))⟩
theorem fp_6_25 : FP cR6 25 6 8 true (.array .int) := ⟨cR6, cT6, 39, ct6, rfl, by decide, cw6, Or.inl (g_in (List.mem_of_getElem? (i := 755) (by decide +kernel)) (by decide +kernel)), cp6, cn6, rfl, rfl, fun _ => rfl⟩
theorem fl_6_28 : FL cR6 28 6 9 := ⟨cR6, cT6, 39, rfl, by decide, cw6, Or.inl (g_in (List.mem_of_getElem? (i := 756) (by decide +kernel)) (by decide +kernel))⟩
theorem fp_6_28 : FP cR6 28 6 9 true (.array .int) := ⟨cR6, cT6, 39, ct6, rfl, by decide, cw6, Or.inl (g_in (List.mem_of_getElem? (i := 756) (by decide +kernel)) (by decide +kernel)), cp6, cn6, rfl, rfl, fun _ => rfl⟩
theorem fl_6_31 : FL cR6 31 6 10 := ⟨cR6, cT6, 39, rfl, by decide, cw6, Or.inl (g_in (List.mem_of_getElem? (i := 757) (by decide +kernel)) (by decide +kernel))⟩
theorem fp_6_31 : FP cR6 31 6 10 true (.array .boolean) := ⟨cR6, cT6, 39, ct6, rfl, by decide, cw6, Or.inl (g_in (List.mem_of_getElem? (i := 757) (by decide +kernel)) (by decide +kernel)), cp6, cn6, rfl, rfl, fun _ => rfl⟩
theorem fl_6_35 : FL cR6 35 6 11 := ⟨cR6, cT6, 39, rfl, by decide, cw6, Or.inl (g_in (List.mem_of_getElem? (i := 758) (by decide +kernel)) (by decide +kernel))⟩
theorem fp_6_35 : FP cR6 35 6 11 true (.array .boolean) := ⟨cR6, cT6, 39, ct6, rfl, by decide, cw6, Or.inl (g_in (List.mem_of_getElem? (i := 758) (by decide +kernel)) (by decide +kernel)), cp6, cn6, rfl, rfl, fun _ => rfl⟩
theorem fl_6_38 : FL cR6 38 6 12 := ⟨cR6, cT6, 39, rfl, by decide, cw6, Or.inl (g_in (List.mem_of_getElem? (i := 759) (by decide +kernel)) (by decide +kernel))⟩
theorem fp_6_38 : FP cR6 38 6 12 true (.array .boolean) := ⟨cR6, cT6, 39, ct6, rfl, by decide, cw6, Or.inl (g_in (List.mem_of_getElem? (i := 759) (by decide +kernel)) (by decide +kernel)), cp6, cn6, rfl, rfl, fun _ => rfl⟩
theorem fl_6_41 : FL cR6 41 6 13 := ⟨cR6, cT6, 39, rfl, by decide, cw6, Or.inl (g_in (List.mem_of_getElem? (i := 760) (by decide +kernel)) (by decide +kernel))⟩
theorem fp_6_41 : FP cR6 41 6 13 true (.array .int) := ⟨cR6, cT6, 39, ct6, rfl, by decide, cw6, Or.inl (g_in (List.mem_of_getElem? (i := 760) (by decide +kernel)) (by decide +kernel)), cp6, cn6, rfl, rfl, fun _ => rfl⟩
theorem fl_6_44 : FL cR6 44 6 14 := ⟨cR6, cT6, 39, rfl, by decide, cw6, Or.inl (g_in (List.mem_of_getElem? (i := 761) (by decide +kernel)) (by decide +kernel))⟩
theorem fp_6_44 : FP cR6 44 6 14 true (.array .boolean) := ⟨cR6, cT6, 39, ct6, rfl, by decide, cw6, Or.inl (g_in (List.mem_of_getElem? (i := 761) (by decide +kernel)) (by decide +kernel)), cp6, cn6, rfl, rfl, fun _ => rfl⟩
theorem fl_6_47 : FL cR6 47 6 15 := ⟨cR6, cT6, 39, rfl, by decide, cw6, Or.inl (g_in (List.mem_of_getElem? (i := 762) (by decide +kernel)) (by decide +kernel))⟩
theorem fp_6_47 : FP cR6 47 6 15 true (.array .boolean) := ⟨cR6, cT6, 39, ct6, rfl, by decide, cw6, Or.inl (g_in (List.mem_of_getElem? (i := 762) (by decide +kernel)) (by decide +kernel)), cp6, cn6, rfl, rfl, fun _ => rfl⟩
theorem fl_6_126 : FL cR6 126 6 16 := ⟨cR6, cT6, 39, rfl, by decide, cw6, Or.inl (g_in (List.mem_of_getElem? (i := 763) (by decide +kernel)) (by decide +kernel))⟩
theorem fp_6_126 : FP cR6 126 6 16 false .int := ⟨cR6, cT6, 39, ct6, rfl, by decide, cw6, Or.inl (g_in (List.mem_of_getElem? (i := 763) (by decide +kernel)) (by decide +kernel)), cp6, cn6, rfl, rfl, fun h => by cases h⟩
theorem fl_6_50 : FL cR6 50 6 17 := ⟨cR6, cT6, 39, rfl, by decide, cw6, Or.inl (g_in (List.mem_of_getElem? (i := 764) (by decide +kernel)) (by decide +kernel))⟩
theorem fp_6_50 : FP cR6 50 6 17 true (.array .int) := ⟨cR6, cT6, 39, ct6, rfl, by decide, cw6, Or.inl (g_in (List.mem_of_getElem? (i := 764) (by decide +kernel)) (by decide +kernel)), cp6, cn6, rfl, rfl, fun _ => rfl⟩
theorem fl_6_53 : FL cR6 53 6 18 := ⟨cR6, cT6, 39, rfl, by decide, cw6, Or.inl (g_in (List.mem_of_getElem? (i := 765) (by decide +kernel)) (by decide +kernel))⟩
theorem fp_6_53 : FP cR6 53 6 18 false .int := ⟨cR6, cT6, 39, ct6, rfl, by decide, cw6, Or.inl (g_in (List.mem_of_getElem? (i := 765) (by decide +kernel)) (by decide +kernel)), cp6, cn6, rfl, rfl, fun h => by cases h⟩
theorem fl_6_129 : FL cR6 129 6 19 := ⟨cR6, cT6, 39, rfl, by decide, cw6, Or.inl (g_in (List.mem_of_getElem? (i := 766) (by decide +kernel)) (by decide +kernel))⟩
theorem fp_6_129 : FP cR6 129 6 19 false .int := ⟨cR6, cT6, 39, ct6, rfl, by decide, cw6, Or.inl (g_in (List.mem_of_getElem? (i := 766) (by decide +kernel)) (by decide +kernel)), cp6, cn6, rfl, rfl, fun h => by cases h⟩
theorem fl_6_136 : FL cR6 136 6 20 := ⟨cR6, cT6, 39, rfl, by decide, cw6, Or.inl (g_in (List.mem_of_getElem? (i := 767) (by decide +kernel)) (by decide +kernel))⟩
theorem fp_6_136 : FP cR6 136 6 20 false .int := ⟨cR6, cT6, 39, ct6, rfl, by decide, cw6, Or.inl (g_in (List.mem_of_getElem? (i := 767) (by decide +kernel)) (by decide +kernel)), cp6, cn6, rfl, rfl, fun h => by cases h⟩
theorem fl_6_166 : FL cR6 166 6 21 := ⟨cR6, cT6, 39, rfl, by decide, cw6, Or.inl (g_in (List.mem_of_getElem? (i := 768) (by decide +kernel)) (by decide +kernel))⟩
theorem fp_6_166 : FP cR6 166 6 21 false .int := ⟨cR6, cT6, 39, ct6, rfl, by decide, cw6, Or.inl (g_in (List.mem_of_getElem? (i := 768) (by decide +kernel)) (by decide +kernel)), cp6, cn6, rfl, rfl, fun h => by cases h⟩
theorem fl_6_57 : FL cR6 57 6 22 := ⟨cR6, cT6, 39, rfl, by decide, cw6, Or.inl (g_in (List.mem_of_getElem? (i := 769) (by decide +kernel)) (by decide +kernel))⟩
theorem fp_6_57 : FP cR6 57 6 22 true (.array .int) := ⟨cR6, cT6, 39, ct6, rfl, by decide, cw6, Or.inl (g_in (List.mem_of_getElem? (i := 769) (by decide +kernel)) (by decide +kernel)), cp6, cn6, rfl, rfl, fun _ => rfl⟩
theorem fl_6_60 : FL cR6 60 6 23 := ⟨cR6, cT6, 39, rfl, by decide, cw6, Or.inl (g_in (List.mem_of_getElem? (i := 770) (by decide +kernel)) (by decide +kernel))⟩
theorem fp_6_60 : FP cR6 60 6 23 true (.array .int) := ⟨cR6, cT6, 39, ct6, rfl, by decide, cw6, Or.inl (g_in (List.mem_of_getElem? (i := 770) (by decide +kernel)) (by decide +kernel)), cp6, cn6, rfl, rfl, fun _ => rfl⟩
theorem fl_6_63 : FL cR6 63 6 24 := ⟨cR6, cT6, 39, rfl, by decide, cw6, Or.inl (g_in (List.mem_of_getElem? (i := 771) (by decide +kernel)) (by decide +kernel))⟩
theorem fp_6_63 : FP cR6 63 6 24 true (.array .int) := ⟨cR6, cT6, 39, ct6, rfl, by decide, cw6, Or.inl (g_in (List.mem_of_getElem? (i := 771) (by decide +kernel)) (by decide +kernel)), cp6, cn6, rfl, rfl, fun _ => rfl⟩
theorem fl_6_66 : FL cR6 66 6 25 := ⟨cR6, cT6, 39, rfl, by decide, cw6, Or.inl (g_in (List.mem_of_getElem? (i := 772) (by decide +kernel)) (by decide +kernel))⟩
theorem fp_6_66 : FP cR6 66 6 25 true (.array .int) := ⟨cR6, cT6, 39, ct6, rfl, by decide, cw6, Or.inl (g_in (List.mem_of_getElem? (i := 772) (by decide +kernel)) (by decide +kernel)), cp6, cn6, rfl, rfl, fun _ => rfl⟩
theorem fl_6_69 : FL cR6 69 6 26 := ⟨cR6, cT6, 39, rfl, by decide, cw6, Or.inl (g_in (List.mem_of_getElem? (i := 773) (by decide +kernel)) (by decide +kernel))⟩
theorem fp_6_69 : FP cR6 69 6 26 true (.array .boolean) := ⟨cR6, cT6, 39, ct6, rfl, by decide, cw6, Or.inl (g_in (List.mem_of_getElem? (i := 773) (by decide +kernel)) (by decide +kernel)), cp6, cn6, rfl, rfl, fun _ => rfl⟩
theorem fl_6_157 : FL cR6 157 6 27 := ⟨cR6, cT6, 39, rfl, by decide, cw6, Or.inl (g_in (List.mem_of_getElem? (i := 774) (by decide +kernel)) (by decide +kernel))⟩
theorem fp_6_157 : FP cR6 157 6 27 false .int := ⟨cR6, cT6, 39, ct6, rfl, by decide, cw6, Or.inl (g_in (List.mem_of_getElem? (i := 774) (by decide +kernel)) (by decide +kernel)), cp6, cn6, rfl, rfl, fun h => by cases h⟩
theorem fl_6_72 : FL cR6 72 6 28 := ⟨cR6, cT6, 39, rfl, by decide, cw6, Or.inl (g_in (List.mem_of_getElem? (i := 775) (by decide +kernel)) (by decide +kernel))⟩
theorem fp_6_72 : FP cR6 72 6 28 true (.array .int) := ⟨cR6, cT6, 39, ct6, rfl, by decide, cw6, Or.inl (g_in (List.mem_of_getElem? (i := 775) (by decide +kernel)) (by decide +kernel)), cp6, cn6, rfl, rfl, fun _ => rfl⟩
theorem fl_6_75 : FL cR6 75 6 29 := ⟨cR6, cT6, 39, rfl, by decide, cw6, Or.inl (g_in (List.mem_of_getElem? (i := 776) (by decide +kernel)) (by decide +kernel))⟩
theorem fp_6_75 : FP cR6 75 6 29 true (.array .int) := ⟨cR6, cT6, 39, ct6, rfl, by decide, cw6, Or.inl (g_in (List.mem_of_getElem? (i := 776) (by decide +kernel)) (by decide +kernel)), cp6, cn6, rfl, rfl, fun _ => rfl⟩
theorem fl_6_78 : FL cR6 78 6 30 := ⟨cR6, cT6, 39, rfl, by decide, cw6, Or.inl (g_in (List.mem_of_getElem? (i := 777) (by decide +kernel)) (by decide +kernel))⟩
theorem fp_6_78 : FP cR6 78 6 30 true (.array .int) := ⟨cR6, cT6, 39, ct6, rfl, by decide, cw6, Or.inl (g_in (List.mem_of_getElem? (i := 777) (by decide +kernel)) (by decide +kernel)), cp6, cn6, rfl, rfl, fun _ => rfl⟩
theorem fl_6_81 : FL cR6 81 6 31 := ⟨cR6, cT6, 39, rfl, by decide, cw6, Or.inl (g_in (List.mem_of_getElem? (i := 778) (by decide +kernel)) (by decide +kernel))⟩
theorem fp_6_81 : FP cR6 81 6 31 true (.array .int) := ⟨cR6, cT6, 39, ct6, rfl, by decide, cw6, Or.inl (g_in (List.mem_of_getElem? (i := 778) (by decide +kernel)) (by decide +kernel)), cp6, cn6, rfl, rfl, fun _ => rfl⟩
theorem fl_6_84 : FL cR6 84 6 32 := ⟨cR6, cT6, 39, rfl, by decide, cw6, Or.inl (g_in (List.mem_of_getElem? (i := 779) (by decide +kernel)) (by decide +kernel))⟩
theorem fp_6_84 : FP cR6 84 6 32 true (.array .boolean) := ⟨cR6, cT6, 39, ct6, rfl, by decide, cw6, Or.inl (g_in (List.mem_of_getElem? (i := 779) (by decide +kernel)) (by decide +kernel)), cp6, cn6, rfl, rfl, fun _ => rfl⟩
theorem fl_6_177 : FL cR6 177 6 33 := ⟨cR6, cT6, 39, rfl, by decide, cw6, Or.inl (g_in (List.mem_of_getElem? (i := 780) (by decide +kernel)) (by decide +kernel))⟩
theorem fp_6_177 : FP cR6 177 6 33 false .boolean := ⟨cR6, cT6, 39, ct6, rfl, by decide, cw6, Or.inl (g_in (List.mem_of_getElem? (i := 780) (by decide +kernel)) (by decide +kernel)), cp6, cn6, rfl, rfl, fun h => by cases h⟩
theorem fl_6_187 : FL cR6 187 6 34 := ⟨cR6, cT6, 39, rfl, by decide, cw6, Or.inl (g_in (List.mem_of_getElem? (i := 781) (by decide +kernel)) (by decide +kernel))⟩
theorem fp_6_187 : FP cR6 187 6 34 false .int := ⟨cR6, cT6, 39, ct6, rfl, by decide, cw6, Or.inl (g_in (List.mem_of_getElem? (i := 781) (by decide +kernel)) (by decide +kernel)), cp6, cn6, rfl, rfl, fun h => by cases h⟩
theorem fl_6_87 : FL cR6 87 6 35 := ⟨cR6, cT6, 39, rfl, by decide, cw6, Or.inl (g_in (List.mem_of_getElem? (i := 782) (by decide +kernel)) (by decide +kernel))⟩
theorem fp_6_87 : FP cR6 87 6 35 true (.array .int) := ⟨cR6, cT6, 39, ct6, rfl, by decide, cw6, Or.inl (g_in (List.mem_of_getElem? (i := 782) (by decide +kernel)) (by decide +kernel)), cp6, cn6, rfl, rfl, fun _ => rfl⟩
theorem fl_6_90 : FL cR6 90 6 36 := ⟨cR6, cT6, 39, rfl, by decide, cw6, Or.inl (g_in (List.mem_of_getElem? (i := 783) (by decide +kernel)) (by decide +kernel))⟩
theorem fp_6_90 : FP cR6 90 6 36 true (.array .int) := ⟨cR6, cT6, 39, ct6, rfl, by decide, cw6, Or.inl (g_in (List.mem_of_getElem? (i := 783) (by decide +kernel)) (by decide +kernel)), cp6, cn6, rfl, rfl, fun _ => rfl⟩
theorem fl_6_206 : FL cR6 206 6 37 := ⟨cR6, cT6, 39, rfl, by decide, cw6, Or.inl (g_in (List.mem_of_getElem? (i := 784) (by decide +kernel)) (by decide +kernel))⟩
theorem fp_6_206 : FP cR6 206 6 37 false .int := ⟨cR6, cT6, 39, ct6, rfl, by decide, cw6, Or.inl (g_in (List.mem_of_getElem? (i := 784) (by decide +kernel)) (by decide +kernel)), cp6, cn6, rfl, rfl, fun h => by cases h⟩
theorem fl_6_93 : FL cR6 93 6 38 := ⟨cR6, cT6, 39, rfl, by decide, cw6, Or.inl (g_in (List.mem_of_getElem? (i := 785) (by decide +kernel)) (by decide +kernel))⟩
theorem fp_6_93 : FP cR6 93 6 38 true (.array .int) := ⟨cR6, cT6, 39, ct6, rfl, by decide, cw6, Or.inl (g_in (List.mem_of_getElem? (i := 785) (by decide +kernel)) (by decide +kernel)), cp6, cn6, rfl, rfl, fun _ => rfl⟩
