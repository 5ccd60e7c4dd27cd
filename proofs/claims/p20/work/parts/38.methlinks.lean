/-! ===== methods of links: printed by program ===== -/
theorem ml_L_86 : ML "ReportChecks2Law" 86 y_X_init := Or.inl (g_in (List.mem_of_getElem? (i := 76) (by decide +kernel)) (by decide +kernel))
theorem ml_X_38 : ML cR0 38 y_RR_init := Or.inr ⟨"ReportChecks2", g_in (List.mem_of_getElem? (i := 86) (by decide +kernel)) (by decide +kernel)⟩
theorem ml_X_47 : ML cR0 47 y_RB_init := Or.inr ⟨"ReportChecks2", g_in (List.mem_of_getElem? (i := 104) (by decide +kernel)) (by decide +kernel)⟩
theorem ml_X_60 : ML cR0 60 y_FN_init := Or.inr ⟨"ReportChecks2", g_in (List.mem_of_getElem? (i := 137) (by decide +kernel)) (by decide +kernel)⟩
theorem ml_X_70 : ML cR0 70 y_CT_init := Or.inr ⟨"ReportChecks2", g_in (List.mem_of_getElem? (i := 156) (by decide +kernel)) (by decide +kernel)⟩
theorem ml_L_122 : ML "ReportChecks2Law" 122 y_X_place := Or.inl (g_in (List.mem_of_getElem? (i := 212) (by decide +kernel)) (by decide +kernel))
theorem ml_L_90 : ML "ReportChecks2Law" 90 y_L_report := Or.inl (g_in (List.mem_of_getElem? (i := 216) (by decide +kernel)) (by decide +kernel))
theorem ml_L_7 : ML "ReportChecks2Law" 7 y_X_report := Or.inl (g_in (List.mem_of_getElem? (i := 222) (by decide +kernel)) (by decide +kernel))
theorem ml_X_75 : ML cR0 75 y_X_requireKind := Or.inl (g_in (List.mem_of_getElem? (i := 226) (by decide +kernel)) (by decide +kernel))
theorem ml_X_86 : ML cR0 86 y_X_requireRoomForReport := Or.inl (g_in (List.mem_of_getElem? (i := 313) (by decide +kernel)) (by decide +kernel))
theorem ml_X_89 : ML cR0 89 y_RP_init := Or.inr ⟨"ReportChecks2", g_in (List.mem_of_getElem? (i := 334) (by decide +kernel)) (by decide +kernel)⟩
theorem ml_X_92 : ML cR0 92 y_X_keep := Or.inl (g_in (List.mem_of_getElem? (i := 386) (by decide +kernel)) (by decide +kernel))
theorem ml_L_96 : ML "ReportChecks2Law" 96 y_L_ask := Or.inl (g_in (List.mem_of_getElem? (i := 390) (by decide +kernel)) (by decide +kernel))
theorem ml_L_19 : ML "ReportChecks2Law" 19 y_X_ask := Or.inl (g_in (List.mem_of_getElem? (i := 393) (by decide +kernel)) (by decide +kernel))
theorem ml_X_96 : ML cR0 96 y_X_requireField := Or.inl (g_in (List.mem_of_getElem? (i := 397) (by decide +kernel)) (by decide +kernel))
theorem ml_X_99 : ML cR0 99 y_X_changed := Or.inl (g_in (List.mem_of_getElem? (i := 401) (by decide +kernel)) (by decide +kernel))
theorem ml_L_100 : ML "ReportChecks2Law" 100 y_L_field := Or.inl (g_in (List.mem_of_getElem? (i := 404) (by decide +kernel)) (by decide +kernel))
theorem ml_L_23 : ML "ReportChecks2Law" 23 y_X_field := Or.inl (g_in (List.mem_of_getElem? (i := 408) (by decide +kernel)) (by decide +kernel))
theorem ml_X_103 : ML cR0 103 y_X_known := Or.inl (g_in (List.mem_of_getElem? (i := 412) (by decide +kernel)) (by decide +kernel))
theorem ml_X_111 : ML cR0 111 y_RP_canBeTold := Or.inr ⟨"ReportChecks2", g_in (List.mem_of_getElem? (i := 420) (by decide +kernel)) (by decide +kernel)⟩
theorem ml_RP_46 : ML cR5 46 y_X_has := Or.inr ⟨"ReportChecks2", g_in (List.mem_of_getElem? (i := 424) (by decide +kernel)) (by decide +kernel)⟩
theorem ml_X_120 : ML cR0 120 y_RP_tell := Or.inr ⟨"ReportChecks2", g_in (List.mem_of_getElem? (i := 443) (by decide +kernel)) (by decide +kernel)⟩
theorem ml_RP_50 : ML cR5 50 y_X_changed := Or.inr ⟨"ReportChecks2", g_in (List.mem_of_getElem? (i := 447) (by decide +kernel)) (by decide +kernel)⟩
theorem ml_L_104 : ML "ReportChecks2Law" 104 y_L_act := Or.inl (g_in (List.mem_of_getElem? (i := 448) (by decide +kernel)) (by decide +kernel))
theorem ml_L_29 : ML "ReportChecks2Law" 29 y_X_act := Or.inl (g_in (List.mem_of_getElem? (i := 451) (by decide +kernel)) (by decide +kernel))
theorem ml_X_131 : ML cR0 131 y_X_requireUnsigned := Or.inl (g_in (List.mem_of_getElem? (i := 457) (by decide +kernel)) (by decide +kernel))
theorem ml_X_135 : ML cR0 135 y_RP_fillByAct := Or.inr ⟨"ReportChecks2", g_in (List.mem_of_getElem? (i := 461) (by decide +kernel)) (by decide +kernel)⟩
theorem ml_L_108 : ML "ReportChecks2Law" 108 y_L_inside := Or.inl (g_in (List.mem_of_getElem? (i := 465) (by decide +kernel)) (by decide +kernel))
theorem ml_L_33 : ML "ReportChecks2Law" 33 y_X_inside := Or.inl (g_in (List.mem_of_getElem? (i := 468) (by decide +kernel)) (by decide +kernel))
theorem ml_L_114 : ML "ReportChecks2Law" 114 y_L_sign := Or.inl (g_in (List.mem_of_getElem? (i := 473) (by decide +kernel)) (by decide +kernel))
theorem ml_L_37 : ML "ReportChecks2Law" 37 y_X_sign := Or.inl (g_in (List.mem_of_getElem? (i := 476) (by decide +kernel)) (by decide +kernel))
theorem ml_L_118 : ML "ReportChecks2Law" 118 y_L_rules := Or.inl (g_in (List.mem_of_getElem? (i := 482) (by decide +kernel)) (by decide +kernel))
theorem ml_L_41 : ML "ReportChecks2Law" 41 y_X_rules := Or.inl (g_in (List.mem_of_getElem? (i := 485) (by decide +kernel)) (by decide +kernel))
theorem ml_X_151 : ML cR0 151 y_RR_readInto := Or.inr ⟨"ReportChecks2", g_in (List.mem_of_getElem? (i := 489) (by decide +kernel)) (by decide +kernel)⟩
theorem ml_RR_33 : ML cR1 33 y_RR_skipBlanks := Or.inl (g_in (List.mem_of_getElem? (i := 496) (by decide +kernel)) (by decide +kernel))
theorem ml_RR_36 : ML cR1 36 y_RB_startRule := Or.inr ⟨"ReportChecks2", g_in (List.mem_of_getElem? (i := 500) (by decide +kernel)) (by decide +kernel)⟩
theorem ml_RR_40 : ML cR1 40 y_RR_readSum := Or.inl (g_in (List.mem_of_getElem? (i := 504) (by decide +kernel)) (by decide +kernel))
theorem ml_RR_55 : ML cR1 55 y_RR_readTerm := Or.inl (g_in (List.mem_of_getElem? (i := 508) (by decide +kernel)) (by decide +kernel))
theorem ml_RR_59 : ML cR1 59 y_RR_readFactor := Or.inl (g_in (List.mem_of_getElem? (i := 512) (by decide +kernel)) (by decide +kernel))
theorem ml_RR_47 : ML cR1 47 y_RR_passes := Or.inl (g_in (List.mem_of_getElem? (i := 516) (by decide +kernel)) (by decide +kernel))
theorem ml_RR_69 : ML cR1 69 y_RR_readNumber := Or.inl (g_in (List.mem_of_getElem? (i := 521) (by decide +kernel)) (by decide +kernel))
theorem ml_RR_73 : ML cR1 73 y_RB_factorOfField := Or.inr ⟨"ReportChecks2", g_in (List.mem_of_getElem? (i := 526) (by decide +kernel)) (by decide +kernel)⟩
theorem ml_RR_64 : ML cR1 64 y_RB_addTerm := Or.inr ⟨"ReportChecks2", g_in (List.mem_of_getElem? (i := 529) (by decide +kernel)) (by decide +kernel)⟩
theorem ml_RB_36 : ML cR2 36 y_RB_noteField := Or.inl (g_in (List.mem_of_getElem? (i := 533) (by decide +kernel)) (by decide +kernel))
theorem ml_RB_40 : ML cR2 40 y_X_changed := Or.inr ⟨"ReportChecks2", g_in (List.mem_of_getElem? (i := 537) (by decide +kernel)) (by decide +kernel)⟩
theorem ml_RR_44 : ML cR1 44 y_RR_readComparison := Or.inl (g_in (List.mem_of_getElem? (i := 538) (by decide +kernel)) (by decide +kernel))
theorem ml_L_126 : ML "ReportChecks2Law" 126 y_L_check := Or.inl (g_in (List.mem_of_getElem? (i := 543) (by decide +kernel)) (by decide +kernel))
theorem ml_L_45 : ML "ReportChecks2Law" 45 y_X_check := Or.inl (g_in (List.mem_of_getElem? (i := 546) (by decide +kernel)) (by decide +kernel))
theorem ml_X_160 : ML cR0 160 y_X_findWanting := Or.inl (g_in (List.mem_of_getElem? (i := 550) (by decide +kernel)) (by decide +kernel))
theorem ml_X_204 : ML cR0 204 y_X_has := Or.inl (g_in (List.mem_of_getElem? (i := 554) (by decide +kernel)) (by decide +kernel))
theorem ml_X_279 : ML cR0 279 y_FN_add := Or.inr ⟨"ReportChecks2", g_in (List.mem_of_getElem? (i := 555) (by decide +kernel)) (by decide +kernel)⟩
theorem ml_X_282 : ML cR0 282 y_RB_faultOf := Or.inr ⟨"ReportChecks2", g_in (List.mem_of_getElem? (i := 559) (by decide +kernel)) (by decide +kernel)⟩
theorem ml_RB_52 : ML cR2 52 y_RB_sumOf := Or.inl (g_in (List.mem_of_getElem? (i := 563) (by decide +kernel)) (by decide +kernel))
theorem ml_RB_61 : ML cR2 61 y_RB_factorOf := Or.inl (g_in (List.mem_of_getElem? (i := 567) (by decide +kernel)) (by decide +kernel))
theorem ml_RB_57 : ML cR2 57 y_RB_holds := Or.inl (g_in (List.mem_of_getElem? (i := 571) (by decide +kernel)) (by decide +kernel))
theorem ml_L_130 : ML "ReportChecks2Law" 130 y_L_wanting := Or.inl (g_in (List.mem_of_getElem? (i := 574) (by decide +kernel)) (by decide +kernel))
theorem ml_L_49 : ML "ReportChecks2Law" 49 y_X_wanting := Or.inl (g_in (List.mem_of_getElem? (i := 577) (by decide +kernel)) (by decide +kernel))
theorem ml_L_133 : ML "ReportChecks2Law" 133 y_L_put := Or.inl (g_in (List.mem_of_getElem? (i := 583) (by decide +kernel)) (by decide +kernel))
theorem ml_L_52 : ML "ReportChecks2Law" 52 y_X_put := Or.inl (g_in (List.mem_of_getElem? (i := 586) (by decide +kernel)) (by decide +kernel))
theorem ml_X_175 : ML cR0 175 y_X_requirePerson := Or.inl (g_in (List.mem_of_getElem? (i := 590) (by decide +kernel)) (by decide +kernel))
theorem ml_X_178 : ML cR0 178 y_RP_isReadyFor := Or.inr ⟨"ReportChecks2", g_in (List.mem_of_getElem? (i := 594) (by decide +kernel)) (by decide +kernel)⟩
theorem ml_RP_60 : ML cR5 60 y_RP_isClosed := Or.inl (g_in (List.mem_of_getElem? (i := 598) (by decide +kernel)) (by decide +kernel))
theorem ml_RP_64 : ML cR5 64 y_RP_hasSigner := Or.inl (g_in (List.mem_of_getElem? (i := 602) (by decide +kernel)) (by decide +kernel))
theorem ml_X_183 : ML cR0 183 y_RP_addSignature := Or.inr ⟨"ReportChecks2", g_in (List.mem_of_getElem? (i := 607) (by decide +kernel)) (by decide +kernel)⟩
theorem ml_L_136 : ML "ReportChecks2Law" 136 y_L_edition := Or.inl (g_in (List.mem_of_getElem? (i := 611) (by decide +kernel)) (by decide +kernel))
theorem ml_L_55 : ML "ReportChecks2Law" 55 y_X_edition := Or.inl (g_in (List.mem_of_getElem? (i := 614) (by decide +kernel)) (by decide +kernel))
theorem ml_X_189 : ML cR0 189 y_X_requireClosed := Or.inl (g_in (List.mem_of_getElem? (i := 618) (by decide +kernel)) (by decide +kernel))
theorem ml_X_272 : ML cR0 272 y_RP_isClosed := Or.inr ⟨"ReportChecks2", g_in (List.mem_of_getElem? (i := 621) (by decide +kernel)) (by decide +kernel)⟩
theorem ml_X_198 : ML cR0 198 y_RP_copyValues := Or.inr ⟨"ReportChecks2", g_in (List.mem_of_getElem? (i := 623) (by decide +kernel)) (by decide +kernel)⟩
theorem ml_L_139 : ML "ReportChecks2Law" 139 y_L_fault := Or.inl (g_in (List.mem_of_getElem? (i := 630) (by decide +kernel)) (by decide +kernel))
theorem ml_L_58 : ML "ReportChecks2Law" 58 y_X_fault := Or.inl (g_in (List.mem_of_getElem? (i := 633) (by decide +kernel)) (by decide +kernel))
theorem ml_L_142 : ML "ReportChecks2Law" 142 y_L_hide := Or.inl (g_in (List.mem_of_getElem? (i := 638) (by decide +kernel)) (by decide +kernel))
theorem ml_L_61 : ML "ReportChecks2Law" 61 y_X_hide := Or.inl (g_in (List.mem_of_getElem? (i := 641) (by decide +kernel)) (by decide +kernel))
theorem ml_L_145 : ML "ReportChecks2Law" 145 y_L_code := Or.inl (g_in (List.mem_of_getElem? (i := 645) (by decide +kernel)) (by decide +kernel))
theorem ml_L_64 : ML "ReportChecks2Law" 64 y_X_code := Or.inl (g_in (List.mem_of_getElem? (i := 648) (by decide +kernel)) (by decide +kernel))
theorem ml_X_209 : ML cR0 209 y_CT_write := Or.inr ⟨"ReportChecks2", g_in (List.mem_of_getElem? (i := 652) (by decide +kernel)) (by decide +kernel)⟩
theorem ml_CT_19 : ML cR4 19 y_CT_addByte := Or.inl (g_in (List.mem_of_getElem? (i := 656) (by decide +kernel)) (by decide +kernel))
theorem ml_CT_28 : ML cR4 28 y_CT_addNumber := Or.inl (g_in (List.mem_of_getElem? (i := 660) (by decide +kernel)) (by decide +kernel))
theorem ml_CT_34 : ML cR4 34 y_X_has := Or.inr ⟨"ReportChecks2", g_in (List.mem_of_getElem? (i := 667) (by decide +kernel)) (by decide +kernel)⟩
theorem ml_CT_42 : ML cR4 42 y_CT_addField := Or.inl (g_in (List.mem_of_getElem? (i := 668) (by decide +kernel)) (by decide +kernel))
theorem ml_L_148 : ML "ReportChecks2Law" 148 y_L_at := Or.inl (g_in (List.mem_of_getElem? (i := 672) (by decide +kernel)) (by decide +kernel))
theorem ml_L_67 : ML "ReportChecks2Law" 67 y_X_at := Or.inl (g_in (List.mem_of_getElem? (i := 675) (by decide +kernel)) (by decide +kernel))
theorem ml_L_151 : ML "ReportChecks2Law" 151 y_L_late := Or.inl (g_in (List.mem_of_getElem? (i := 680) (by decide +kernel)) (by decide +kernel))
theorem ml_L_70 : ML "ReportChecks2Law" 70 y_X_late := Or.inl (g_in (List.mem_of_getElem? (i := 683) (by decide +kernel)) (by decide +kernel))
theorem ml_X_223 : ML cR0 223 y_RP_isLate := Or.inr ⟨"ReportChecks2", g_in (List.mem_of_getElem? (i := 688) (by decide +kernel)) (by decide +kernel)⟩
theorem ml_L_154 : ML "ReportChecks2Law" 154 y_L_count := Or.inl (g_in (List.mem_of_getElem? (i := 692) (by decide +kernel)) (by decide +kernel))
theorem ml_L_73 : ML "ReportChecks2Law" 73 y_X_count := Or.inl (g_in (List.mem_of_getElem? (i := 695) (by decide +kernel)) (by decide +kernel))
theorem ml_X_228 : ML cR0 228 y_RP_isSettled := Or.inr ⟨"ReportChecks2", g_in (List.mem_of_getElem? (i := 700) (by decide +kernel)) (by decide +kernel)⟩
theorem ml_X_232 : ML cR0 232 y_RP_isBetween := Or.inr ⟨"ReportChecks2", g_in (List.mem_of_getElem? (i := 704) (by decide +kernel)) (by decide +kernel)⟩
theorem ml_L_157 : ML "ReportChecks2Law" 157 y_L_reportAt := Or.inl (g_in (List.mem_of_getElem? (i := 708) (by decide +kernel)) (by decide +kernel))
theorem ml_L_77 : ML "ReportChecks2Law" 77 y_X_reportAt := Or.inl (g_in (List.mem_of_getElem? (i := 711) (by decide +kernel)) (by decide +kernel))
theorem ml_X_239 : ML cR0 239 y_RP_lastSigner := Or.inr ⟨"ReportChecks2", g_in (List.mem_of_getElem? (i := 715) (by decide +kernel)) (by decide +kernel)⟩
theorem ml_L_163 : ML "ReportChecks2Law" 163 y_L_value := Or.inl (g_in (List.mem_of_getElem? (i := 725) (by decide +kernel)) (by decide +kernel))
theorem ml_L_80 : ML "ReportChecks2Law" 80 y_X_value := Or.inl (g_in (List.mem_of_getElem? (i := 728) (by decide +kernel)) (by decide +kernel))
theorem ml_L_166 : ML "ReportChecks2Law" 166 y_L_tick := Or.inl (g_in (List.mem_of_getElem? (i := 733) (by decide +kernel)) (by decide +kernel))
theorem ml_L_83 : ML "ReportChecks2Law" 83 y_X_tick := Or.inl (g_in (List.mem_of_getElem? (i := 736) (by decide +kernel)) (by decide +kernel))
theorem ml_L_89 : ML "ReportChecks2Law" 89 y_M_init := Or.inl (g_in (List.mem_of_getElem? (i := 743) (by decide +kernel)) (by decide +kernel))
theorem ml_L_160 : ML "ReportChecks2Law" 160 y_M_thrown := Or.inl (g_in (List.mem_of_getElem? (i := 865) (by decide +kernel)) (by decide +kernel))
theorem ml_L_95 : ML "ReportChecks2Law" 95 y_M_report := Or.inl (g_in (List.mem_of_getElem? (i := 869) (by decide +kernel)) (by decide +kernel))
theorem ml_M_102 : ML cR6 102 y_M_in := Or.inl (g_in (List.mem_of_getElem? (i := 873) (by decide +kernel)) (by decide +kernel))
theorem ml_M_109 : ML cR6 109 y_M_goes := Or.inl (g_in (List.mem_of_getElem? (i := 876) (by decide +kernel)) (by decide +kernel))
theorem ml_M_113 : ML cR6 113 y_M_makes := Or.inl (g_in (List.mem_of_getElem? (i := 880) (by decide +kernel)) (by decide +kernel))
theorem ml_L_99 : ML "ReportChecks2Law" 99 y_M_ask := Or.inl (g_in (List.mem_of_getElem? (i := 884) (by decide +kernel)) (by decide +kernel))
theorem ml_M_117 : ML cR6 117 y_M_isField := Or.inl (g_in (List.mem_of_getElem? (i := 888) (by decide +kernel)) (by decide +kernel))
theorem ml_L_103 : ML "ReportChecks2Law" 103 y_M_field := Or.inl (g_in (List.mem_of_getElem? (i := 891) (by decide +kernel)) (by decide +kernel))
theorem ml_M_121 : ML cR6 121 y_M_isReport := Or.inl (g_in (List.mem_of_getElem? (i := 895) (by decide +kernel)) (by decide +kernel))
theorem ml_L_107 : ML "ReportChecks2Law" 107 y_M_act := Or.inl (g_in (List.mem_of_getElem? (i := 901) (by decide +kernel)) (by decide +kernel))
theorem ml_L_111 : ML "ReportChecks2Law" 111 y_M_inside := Or.inl (g_in (List.mem_of_getElem? (i := 905) (by decide +kernel)) (by decide +kernel))
theorem ml_L_117 : ML "ReportChecks2Law" 117 y_M_sign := Or.inl (g_in (List.mem_of_getElem? (i := 909) (by decide +kernel)) (by decide +kernel))
theorem ml_L_121 : ML "ReportChecks2Law" 121 y_M_rules := Or.inl (g_in (List.mem_of_getElem? (i := 913) (by decide +kernel)) (by decide +kernel))
theorem ml_M_139 : ML cR6 139 y_M_see := Or.inl (g_in (List.mem_of_getElem? (i := 917) (by decide +kernel)) (by decide +kernel))
theorem ml_M_132 : ML cR6 132 y_M_here := Or.inl (g_in (List.mem_of_getElem? (i := 921) (by decide +kernel)) (by decide +kernel))
theorem ml_M_163 : ML cR6 163 y_M_rule := Or.inl (g_in (List.mem_of_getElem? (i := 925) (by decide +kernel)) (by decide +kernel))
theorem ml_M_146 : ML cR6 146 y_M_fail := Or.inl (g_in (List.mem_of_getElem? (i := 929) (by decide +kernel)) (by decide +kernel))
theorem ml_M_160 : ML cR6 160 y_M_sum := Or.inl (g_in (List.mem_of_getElem? (i := 933) (by decide +kernel)) (by decide +kernel))
theorem ml_M_154 : ML cR6 154 y_M_factor := Or.inl (g_in (List.mem_of_getElem? (i := 937) (by decide +kernel)) (by decide +kernel))
theorem ml_M_150 : ML cR6 150 y_M_number := Or.inl (g_in (List.mem_of_getElem? (i := 941) (by decide +kernel)) (by decide +kernel))
theorem ml_M_142 : ML cR6 142 y_M_isDigit := Or.inl (g_in (List.mem_of_getElem? (i := 945) (by decide +kernel)) (by decide +kernel))
theorem ml_L_125 : ML "ReportChecks2Law" 125 y_M_place := Or.inl (g_in (List.mem_of_getElem? (i := 949) (by decide +kernel)) (by decide +kernel))
theorem ml_L_129 : ML "ReportChecks2Law" 129 y_M_check := Or.inl (g_in (List.mem_of_getElem? (i := 953) (by decide +kernel)) (by decide +kernel))
theorem ml_M_190 : ML cR6 190 y_M_wanted := Or.inl (g_in (List.mem_of_getElem? (i := 957) (by decide +kernel)) (by decide +kernel))
theorem ml_M_194 : ML cR6 194 y_M_verdict := Or.inl (g_in (List.mem_of_getElem? (i := 961) (by decide +kernel)) (by decide +kernel))
theorem ml_M_181 : ML cR6 181 y_M_isAsked := Or.inl (g_in (List.mem_of_getElem? (i := 965) (by decide +kernel)) (by decide +kernel))
theorem ml_M_169 : ML cR6 169 y_M_has := Or.inl (g_in (List.mem_of_getElem? (i := 969) (by decide +kernel)) (by decide +kernel))
theorem ml_M_184 : ML cR6 184 y_M_reckon := Or.inl (g_in (List.mem_of_getElem? (i := 973) (by decide +kernel)) (by decide +kernel))
theorem ml_M_173 : ML cR6 173 y_M_of := Or.inl (g_in (List.mem_of_getElem? (i := 977) (by decide +kernel)) (by decide +kernel))
theorem ml_L_132 : ML "ReportChecks2Law" 132 y_M_wanting := Or.inl (g_in (List.mem_of_getElem? (i := 981) (by decide +kernel)) (by decide +kernel))
theorem ml_L_135 : ML "ReportChecks2Law" 135 y_M_put := Or.inl (g_in (List.mem_of_getElem? (i := 985) (by decide +kernel)) (by decide +kernel))
theorem ml_M_200 : ML cR6 200 y_M_isPerson := Or.inl (g_in (List.mem_of_getElem? (i := 989) (by decide +kernel)) (by decide +kernel))
theorem ml_M_203 : ML cR6 203 y_M_canSign := Or.inl (g_in (List.mem_of_getElem? (i := 992) (by decide +kernel)) (by decide +kernel))
theorem ml_M_197 : ML cR6 197 y_M_opened := Or.inl (g_in (List.mem_of_getElem? (i := 996) (by decide +kernel)) (by decide +kernel))
theorem ml_L_138 : ML "ReportChecks2Law" 138 y_M_edition := Or.inl (g_in (List.mem_of_getElem? (i := 1000) (by decide +kernel)) (by decide +kernel))
theorem ml_L_141 : ML "ReportChecks2Law" 141 y_M_fault := Or.inl (g_in (List.mem_of_getElem? (i := 1004) (by decide +kernel)) (by decide +kernel))
theorem ml_L_144 : ML "ReportChecks2Law" 144 y_M_hide := Or.inl (g_in (List.mem_of_getElem? (i := 1008) (by decide +kernel)) (by decide +kernel))
theorem ml_L_147 : ML "ReportChecks2Law" 147 y_M_code := Or.inl (g_in (List.mem_of_getElem? (i := 1012) (by decide +kernel)) (by decide +kernel))
theorem ml_M_209 : ML cR6 209 y_M_write := Or.inl (g_in (List.mem_of_getElem? (i := 1016) (by decide +kernel)) (by decide +kernel))
theorem ml_M_212 : ML cR6 212 y_M_number0 := Or.inl (g_in (List.mem_of_getElem? (i := 1020) (by decide +kernel)) (by decide +kernel))
theorem ml_L_150 : ML "ReportChecks2Law" 150 y_M_at := Or.inl (g_in (List.mem_of_getElem? (i := 1024) (by decide +kernel)) (by decide +kernel))
theorem ml_L_153 : ML "ReportChecks2Law" 153 y_M_late := Or.inl (g_in (List.mem_of_getElem? (i := 1028) (by decide +kernel)) (by decide +kernel))
theorem ml_L_156 : ML "ReportChecks2Law" 156 y_M_count := Or.inl (g_in (List.mem_of_getElem? (i := 1032) (by decide +kernel)) (by decide +kernel))
theorem ml_L_159 : ML "ReportChecks2Law" 159 y_M_reportAt := Or.inl (g_in (List.mem_of_getElem? (i := 1036) (by decide +kernel)) (by decide +kernel))
theorem ml_L_165 : ML "ReportChecks2Law" 165 y_M_value := Or.inl (g_in (List.mem_of_getElem? (i := 1040) (by decide +kernel)) (by decide +kernel))
theorem ml_L_168 : ML "ReportChecks2Law" 168 y_M_tick := Or.inl (g_in (List.mem_of_getElem? (i := 1044) (by decide +kernel)) (by decide +kernel))
