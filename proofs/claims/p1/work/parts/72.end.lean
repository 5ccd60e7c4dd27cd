/-! ===== the law's body: scripts of one call ===== -/
theorem j_lawret {p : Program} {l : Launch} {e : Env} {s : State} {m : MethodId} {below : List Frame} {meth : Method} {c : Code} {D : va_G} {cA : Nat → ClassId} {b : Nat} (C : Cx p l s m meth c D cA b 7 "ReportChecks2Law" "law" b_L_law (some .boolean) []) {sc n kc ks pc : Nat} {h : AH} {L : List (Nat × Value)} (hbs : b = s.heap.size) (hc : kc ≤ 600002) (hs : ks ≤ 7302232) (hd : decode code pc = .ok (.ireturn, 1)) : J p l e room_1 s m #[Value.ref sc] below meth c D cA b 7 (lw_Z below #[Value.ref sc] s) n h kc ks pc L [.int 1] := by
  intro H locs ls hp hS hl
  refine va_forget (fun q hq => by rw [← hbs]; exact hS.2.2 q hq) ?_
  refine W.widen (k := 600002) (n := 7302232) hc hs ?_
  exact lw_ret C.1 C.2.1 C.2.2.2.2.2.2.1 C.2.2.2.2.2.1 hd
set_option maxHeartbeats 4000000 in
set_option maxRecDepth 100000 in
theorem law_fin {p : Program} {l : Launch} {e : Env} {s : State} {m : MethodId} {below : List Frame} {meth : Method} {c : Code} {D : va_G} {cA : Nat → ClassId} {b : Nat} (C : Cx p l s m meth c D cA b 7 "ReportChecks2Law" "law" b_L_law (some .boolean) []) {sc n kc ks : Nat} {xs : Nat → Int32} {h : AH} (hX : va_X sc 4 xs s s.heap) (hsc : sc < s.heap.size) (hscb : sc < b) (hbs : b = s.heap.size) (hc : kc ≤ 600002) (hs : ks ≤ 7302232) : J p l e room_1 s m #[Value.ref sc] below meth c D cA b 7 (lw_Z below #[Value.ref sc] s) n h kc ks 1468 [(4, .int (nI 0)), (3, .ref 56), (2, .ref 28), (1, .ref 0), (0, .retAddr sc)] [] := by
  refine j_iinc (v := 4) C d_L_law_1468 rfl (by decide) (by decide) rfl ?_
  refine j_goto (tgt := 23) C d_L_law_1471 (by decide) ?_
  refine j_iload C d_L_law_23 rfl ?_
  refine j_aloadr_n C d_L_law_25 rfl rfl ?_
  refine j_slen C hX hsc hscb d_L_law_26 ?_
  refine j_iconst (v := 4) C d_L_law_27 (by decide) ?_
  refine j_isub C d_L_law_28 ?_
  refine j_icmp_gt (tgt := 1474) C d_L_law_29 (by decide) (fun c29 => ?_) (fun c29 => ?_)
  · refine j_iconst (v := 1) C d_L_law_1474 (by decide) ?_
    exact j_lawret C hbs hc hs d_L_law_1475
  · exact absurd (by decide) c29
set_option maxHeartbeats 8000000 in
set_option maxRecDepth 100000 in
theorem law_p1 {p : Program} {l : Launch} {e : Env} {s : State} {m : MethodId} {below : List Frame} {meth : Method} {c : Code} {D : va_G} {cA : Nat → ClassId} {b : Nat} (C : Cx p l s m meth c D cA b 7 "ReportChecks2Law" "law" b_L_law (some .boolean) []) (hl : l.stackTraces = false) {sc len : Nat} {xs : Nat → Int32} (h : AH) (hX : va_X sc len xs s s.heap) (hsc : sc < s.heap.size) (hscb : sc < b) (hbs : b = s.heap.size) (hlen : len ≤ 4) : J p l e room_1 s m #[Value.ref sc] below meth c D cA b 7 (lw_Z below #[Value.ref sc] s) 0 h 0 0 0 [(0, .retAddr sc)] [] := by
  refine j_new C nl_L_8 d_L_law_0 (Nat.le_of_ble_eq_true rfl) (Nat.le_of_ble_eq_true rfl) ?_
  refine j_dup C d_L_law_3 rfl ?_
  refine j_callI C d_L_law_4 rfl ml_L_86 mc_X_init in_X_init (c_X_init hl 0 h) rfl rfl (Nat.le_of_ble_eq_true rfl) (Nat.le_of_ble_eq_true rfl) (Nat.le_of_ble_eq_true rfl) (Nat.le_of_ble_eq_true rfl) (jk_v ?_)
  refine j_astore_n C d_L_law_7 rfl (by decide) rfl ?_
  refine j_new C nl_L_87 d_L_law_8 (Nat.le_of_ble_eq_true rfl) (Nat.le_of_ble_eq_true rfl) ?_
  refine j_dup C d_L_law_11 rfl ?_
  refine j_callI C d_L_law_12 rfl ml_L_89 mc_M_init in_M_init (c_M_init hl 28 (ovX 0 ξ0 β0 ρ0 6 13 h)) rfl rfl (Nat.le_of_ble_eq_true rfl) (Nat.le_of_ble_eq_true rfl) (Nat.le_of_ble_eq_true rfl) (Nat.le_of_ble_eq_true rfl) (jk_v ?_)
  refine j_astore_n C d_L_law_15 rfl (by decide) rfl ?_
  refine j_iconst (v := 1) C d_L_law_16 (by decide) ?_
  refine j_newa (t := 4) (N := 1) (a0 := (1, .inr (.inl (fun _ => 0)))) C d_L_law_17 rfl rfl (fun _ => rfl) ac_long (by decide) rfl (by decide) (fun _ => rfl) (Nat.le_of_ble_eq_true rfl) (Nat.le_of_ble_eq_true rfl) ?_
  refine j_h (h' := ovX 0 ξ0 β0 ρ0 6 13 (ovM 28 σ0 β0 (hu h 56 (.inl (4, 1, .inr (.inl (fun _ => 0))))))) (show hu (ovM 28 σ0 β0 (ovX 0 ξ0 β0 ρ0 6 13 h)) 56 _ = _ by rw [← ovX_M (by omega), ovX_out (Or.inr (by omega)), ovM_out (by omega)]) ?_
  refine j_astore_n C d_L_law_19 rfl (by decide) rfl ?_
  refine j_iconst (v := 0) C d_L_law_20 (by decide) ?_
  refine j_istore C d_L_law_21 (by decide) rfl ?_
  refine j_iload C d_L_law_23 rfl ?_
  refine j_aloadr_n C d_L_law_25 rfl rfl ?_
  refine j_slen C hX hsc hscb d_L_law_26 ?_
  refine j_iconst (v := 4) C d_L_law_27 (by decide) ?_
  refine j_isub C d_L_law_28 ?_
  by_cases h4 : len = 4
  · subst h4
    refine j_icmp_gt (tgt := 1474) C d_L_law_29 (by decide) (fun c29 => absurd c29 (by decide)) (fun c29 => ?_)
    refine j_aloadr_n C d_L_law_32 rfl rfl ?_
    refine j_iload C d_L_law_33 rfl ?_
    refine j_sld (w := xs (0 + 0)) C hX hsc hscb d_L_law_35 (six0 (q := 0) (by omega) (by omega)) (six0c (q := 0) (len := 4) (by omega) (by omega)) ?_
    refine j_bipush (v := 31) C d_L_law_36 (by decide) ?_
    refine j_iand C d_L_law_38 ?_
    obtain ⟨j, hj, ej⟩ := pk_andE (xs (0 + 0)) (m := 31) 5 (by decide)
    rw [ej]
    have fin := fun n' h' kc' ks' (hc : kc' ≤ 0 + 1 + 27 + 1 + 27 + 1 + 4) (hs : ks' ≤ 0 + 14 + 1866 + 39 + 5170 + 1 + 40) => law_fin (e := e) (below := below) C (n := n') (kc := kc') (ks := ks') (h := h') hX hsc hscb hbs (by omega) (by omega)
    rcases (show j = 0 ∨ j = 1 ∨ j = 2 ∨ j = 3 ∨ j = 4 ∨ j = 5 ∨ j = 6 ∨ j = 7 ∨ j = 8 ∨ j = 9 ∨ j = 10 ∨ j = 11 ∨ j = 12 ∨ j = 13 ∨ j = 14 ∨ j = 15 ∨ j = 16 ∨ j = 17 ∨ j = 18 ∨ j = 19 ∨ j = 20 ∨ 20 < j by omega) with rfl | rfl | rfl | rfl | rfl | rfl | rfl | rfl | rfl | rfl | rfl | rfl | rfl | rfl | rfl | rfl | rfl | rfl | rfl | rfl | rfl | hj2
    · refine j_tableIn (off := 97) (tgt := 136) C d_L_law_39 (by decide) (by decide) (by decide +kernel) (by decide) ?_
      by_cases hk : xs (0 + 2) < 0 ∨ ¬ xs (0 + 2) < 5
      · exact lc_report_t7 (xo := 0) (mo := 28) (oo := 56) (q := 0) (len := 4) hl C hX hsc hscb (by omega) (by omega) (by decide) (by decide) (by decide) (by decide) (by omega) (by omega) (by omega) (hu_s _ _ _) fin hk
      · by_cases hi : xs (0 + 1) < 0 ∨ ¬ xs (0 + 1) ≤ 9999
        · exact lc_report_t8 (xo := 0) (mo := 28) (oo := 56) (q := 0) (len := 4) hl C hX hsc hscb (by omega) (by omega) (by decide) (by decide) (by decide) (by decide) (by omega) (by omega) (by omega) (hu_s _ _ _) fin (fun z => hk (Or.inl z)) (Decidable.not_not.mp (fun z => hk (Or.inr z))) hi
        · exact lc_report_r (xo := 0) (mo := 28) (oo := 56) (q := 0) (len := 4) hl C hX hsc hscb (by omega) (by omega) (by decide) (by decide) (by decide) (by decide) (by omega) (by omega) (by omega) (hu_s _ _ _) fin (fun z => hk (Or.inl z)) (Decidable.not_not.mp (fun z => hk (Or.inr z))) (fun z => hi (Or.inl z)) (Decidable.not_not.mp (fun z => hi (Or.inr z)))
    · refine j_tableIn (off := 165) (tgt := 204) C d_L_law_39 (by decide) (by decide) (by decide +kernel) (by decide) ?_
      by_cases hk : xs (0 + 1) < 0 ∨ ¬ xs (0 + 1) < 5
      · exact lc_ask_a (xo := 0) (mo := 28) (oo := 56) (q := 0) (len := 4) hl C hX hsc hscb (by omega) (by omega) (by decide) (by decide) (by decide) (by decide) (by omega) (by omega) (by omega) (hu_s _ _ _) fin hk
      · by_cases hi : xs (0 + 2) < 0 ∨ ¬ xs (0 + 2) < 20
        · exact lc_ask_b (xo := 0) (mo := 28) (oo := 56) (q := 0) (len := 4) hl C hX hsc hscb (by omega) (by omega) (by decide) (by decide) (by decide) (by decide) (by omega) (by omega) (by omega) (hu_s _ _ _) fin (fun z => hk (Or.inl z)) (Decidable.not_not.mp (fun z => hk (Or.inr z))) hi
        · exact lc_ask_r (xo := 0) (mo := 28) (oo := 56) (q := 0) (len := 4) hl C hX hsc hscb (by omega) (by omega) (by decide) (by decide) (by decide) (by decide) (by omega) (by omega) (by omega) (hu_s _ _ _) fin (fun z => hk (Or.inl z)) (Decidable.not_not.mp (fun z => hk (Or.inr z))) (fun z => hi (Or.inl z)) (Decidable.not_not.mp (fun z => hi (Or.inr z)))
    · refine j_tableIn (off := 241) (tgt := 280) C d_L_law_39 (by decide) (by decide) (by decide +kernel) (by decide) ?_
      exact lc_field_u (xo := 0) (mo := 28) (oo := 56) (q := 0) (len := 4) hl C hX hsc hscb (by omega) (by omega) (by decide) (by decide) (by decide) (by decide) (by omega) (by omega) (by omega) (hu_s _ _ _) fin
    · refine j_tableIn (off := 301) (tgt := 340) C d_L_law_39 (by decide) (by decide) (by decide +kernel) (by decide) ?_
      exact lc_act_u (xo := 0) (mo := 28) (oo := 56) (q := 0) (len := 4) hl C hX hsc hscb (by omega) (by omega) (by decide) (by decide) (by decide) (by decide) (by omega) (by omega) (by omega) (hu_s _ _ _) fin
    · refine j_tableIn (off := 388) (tgt := 427) C d_L_law_39 (by decide) (by decide) (by decide +kernel) (by decide) ?_
      exact lc_inside_u (xo := 0) (mo := 28) (oo := 56) (q := 0) (len := 4) hl C hX hsc hscb (by omega) (by omega) (by decide) (by decide) (by decide) (by decide) (by omega) (by omega) (by omega) (hu_s _ _ _) fin
    · refine j_tableIn (off := 436) (tgt := 475) C d_L_law_39 (by decide) (by decide) (by decide +kernel) (by decide) ?_
      by_cases hk : xs (0 + 3) < 1 ∨ ¬ xs (0 + 3) ≤ 8
      · exact lc_sign_t (xo := 0) (mo := 28) (oo := 56) (q := 0) (len := 4) hl C hX hsc hscb (by omega) (by omega) (by decide) (by decide) (by decide) (by decide) (by omega) (by omega) (by omega) (hu_s _ _ _) fin hk
      · have h1 : ¬ xs (0 + 3) < 1 := fun z => hk (Or.inl z)
        have h8 : xs (0 + 3) ≤ 8 := Decidable.not_not.mp (fun z => hk (Or.inr z))
        have h0 : ¬ xs (0 + 3) < 0 := fun z => h1 (Int32.lt_trans z (by decide))
        obtain ⟨k, hk8, ek⟩ := nI_of2 (n := 8) (show (8 : Int32).toInt = (8 : Nat) by decide) h0 h8
        have k0 : 1 ≤ k := by
          rcases Nat.eq_zero_or_pos k with z | z
          · subst z
            exact absurd (show nI 0 < 1 by decide) (by rw [← ek]; exact h1)
          · exact z
        exact lc_sign_r (xo := 0) (mo := 28) (oo := 56) (q := 0) (len := 4) hl C hX hsc hscb (by omega) (by omega) (by decide) (by decide) (by decide) (by decide) (by omega) (by omega) (by omega) (hu_s _ _ _) fin k ek k0 hk8
    · refine j_tableIn (off := 536) (tgt := 575) C d_L_law_39 (by decide) (by decide) (by decide +kernel) (by decide) ?_
      exact lc_rules_e (xo := 0) (mo := 28) (oo := 56) (q := 0) (len := 4) hl C hX hsc hscb (by omega) (by omega) (by decide) (by decide) (by decide) (by decide) (by omega) (by omega) (by omega) (hu_s _ _ _) fin
    · refine j_tableIn (off := 580) (tgt := 619) C d_L_law_39 (by decide) (by decide) (by decide +kernel) (by decide) ?_
      exact lc_place_p (xo := 0) (mo := 28) (oo := 56) (q := 0) (len := 4) hl C hX hsc hscb (by omega) (by omega) (by decide) (by decide) (by decide) (by decide) (by omega) (by omega) (by omega) (hu_s _ _ _) fin
    · refine j_tableIn (off := 593) (tgt := 632) C d_L_law_39 (by decide) (by decide) (by decide +kernel) (by decide) ?_
      exact lc_check_u (xo := 0) (mo := 28) (oo := 56) (q := 0) (len := 4) hl C hX hsc hscb (by omega) (by omega) (by decide) (by decide) (by decide) (by decide) (by omega) (by omega) (by omega) (hu_s _ _ _) fin
    · refine j_tableIn (off := 649) (tgt := 688) C d_L_law_39 (by decide) (by decide) (by decide +kernel) (by decide) ?_
      exact lc_wanting_u (xo := 0) (mo := 28) (oo := 56) (q := 0) (len := 4) hl C hX hsc hscb (by omega) (by omega) (by decide) (by decide) (by decide) (by decide) (by omega) (by omega) (by omega) (hu_s _ _ _) fin
    · refine j_tableIn (off := 717) (tgt := 756) C d_L_law_39 (by decide) (by decide) (by decide +kernel) (by decide) ?_
      exact lc_put_u (xo := 0) (mo := 28) (oo := 56) (q := 0) (len := 4) hl C hX hsc hscb (by omega) (by omega) (by decide) (by decide) (by decide) (by decide) (by omega) (by omega) (by omega) (hu_s _ _ _) fin
    · refine j_tableIn (off := 785) (tgt := 824) C d_L_law_39 (by decide) (by decide) (by decide +kernel) (by decide) ?_
      exact lc_edition_u (xo := 0) (mo := 28) (oo := 56) (q := 0) (len := 4) hl C hX hsc hscb (by omega) (by omega) (by decide) (by decide) (by decide) (by decide) (by omega) (by omega) (by omega) (hu_s _ _ _) fin
    · refine j_tableIn (off := 841) (tgt := 880) C d_L_law_39 (by decide) (by decide) (by decide +kernel) (by decide) ?_
      exact lc_fault_u (xo := 0) (mo := 28) (oo := 56) (q := 0) (len := 4) hl C hX hsc hscb (by omega) (by omega) (by decide) (by decide) (by decide) (by decide) (by omega) (by omega) (by omega) (hu_s _ _ _) fin
    · refine j_tableIn (off := 889) (tgt := 928) C d_L_law_39 (by decide) (by decide) (by decide +kernel) (by decide) ?_
      by_cases hk : xs (0 + 1) < 0 ∨ ¬ xs (0 + 1) < 20
      · exact lc_hide_a (xo := 0) (mo := 28) (oo := 56) (q := 0) (len := 4) hl C hX hsc hscb (by omega) (by omega) (by decide) (by decide) (by decide) (by decide) (by omega) (by omega) (by omega) (hu_s _ _ _) fin hk
      · by_cases hi : xs (0 + 2) < 0 ∨ ¬ xs (0 + 2) < 20
        · exact lc_hide_b (xo := 0) (mo := 28) (oo := 56) (q := 0) (len := 4) hl C hX hsc hscb (by omega) (by omega) (by decide) (by decide) (by decide) (by decide) (by omega) (by omega) (by omega) (hu_s _ _ _) fin (fun z => hk (Or.inl z)) (Decidable.not_not.mp (fun z => hk (Or.inr z))) hi
        · exact lc_hide_r (xo := 0) (mo := 28) (oo := 56) (q := 0) (len := 4) hl C hX hsc hscb (by omega) (by omega) (by decide) (by decide) (by decide) (by decide) (by omega) (by omega) (by omega) (hu_s _ _ _) fin (fun z => hk (Or.inl z)) (Decidable.not_not.mp (fun z => hk (Or.inr z))) (fun z => hi (Or.inl z)) (Decidable.not_not.mp (fun z => hi (Or.inr z)))
    · refine j_tableIn (off := 965) (tgt := 1004) C d_L_law_39 (by decide) (by decide) (by decide +kernel) (by decide) ?_
      exact lc_code_u (xo := 0) (mo := 28) (oo := 56) (q := 0) (len := 4) hl C hX hsc hscb (by omega) (by omega) (by decide) (by decide) (by decide) (by decide) (by omega) (by omega) (by omega) (hu_s _ _ _) fin
    · refine j_tableIn (off := 1033) (tgt := 1072) C d_L_law_39 (by decide) (by decide) (by decide +kernel) (by decide) ?_
      by_cases hx : xs (0 + 1) < 0
      · exact lc_at_t (xo := 0) (mo := 28) (oo := 56) (q := 0) (len := 4) hl C hX hsc hscb (by omega) (by omega) (by decide) (by decide) (by decide) (by decide) (by omega) (by omega) (by omega) (hu_s _ _ _) fin hx
      · exact lc_at_n (xo := 0) (mo := 28) (oo := 56) (q := 0) (len := 4) hl C hX hsc hscb (by omega) (by omega) (by decide) (by decide) (by decide) (by decide) (by omega) (by omega) (by omega) (hu_s _ _ _) fin hx
    · refine j_tableIn (off := 1089) (tgt := 1128) C d_L_law_39 (by decide) (by decide) (by decide +kernel) (by decide) ?_
      by_cases hx : xs (0 + 1) < 0 ∨ 99999 < xs (0 + 1) ∨ xs (0 + 2) < 0
      · exact lc_late_t (xo := 0) (mo := 28) (oo := 56) (q := 0) (len := 4) hl C hX hsc hscb (by omega) (by omega) (by decide) (by decide) (by decide) (by decide) (by omega) (by omega) (by omega) (hu_s _ _ _) fin hx
      · exact lc_late_r (xo := 0) (mo := 28) (oo := 56) (q := 0) (len := 4) hl C hX hsc hscb (by omega) (by omega) (by decide) (by decide) (by decide) (by decide) (by omega) (by omega) (by omega) (hu_s _ _ _) fin (fun z => hx (Or.inl z)) (fun z => hx (Or.inr (Or.inl z))) (Int32.not_lt.mp (fun z => hx (Or.inr (Or.inr z))))
    · refine j_tableIn (off := 1157) (tgt := 1196) C d_L_law_39 (by decide) (by decide) (by decide +kernel) (by decide) ?_
      by_cases hk : xs (0 + 1) < 0 ∨ ¬ xs (0 + 1) < 20
      · exact lc_count_a (xo := 0) (mo := 28) (oo := 56) (q := 0) (len := 4) hl C hX hsc hscb (by omega) (by omega) (by decide) (by decide) (by decide) (by decide) (by omega) (by omega) (by omega) (hu_s _ _ _) fin hk
      · by_cases hi : xs (0 + 2) ≤ xs (0 + 3)
        · exact lc_count_r (xo := 0) (mo := 28) (oo := 56) (q := 0) (len := 4) hl C hX hsc hscb (by omega) (by omega) (by decide) (by decide) (by decide) (by decide) (by omega) (by omega) (by omega) (hu_s _ _ _) fin (fun z => hk (Or.inl z)) (Decidable.not_not.mp (fun z => hk (Or.inr z))) hi
        · exact lc_count_b (xo := 0) (mo := 28) (oo := 56) (q := 0) (len := 4) hl C hX hsc hscb (by omega) (by omega) (by decide) (by decide) (by decide) (by decide) (by omega) (by omega) (by omega) (hu_s _ _ _) fin (fun z => hk (Or.inl z)) (Decidable.not_not.mp (fun z => hk (Or.inr z))) hi
    · refine j_tableIn (off := 1237) (tgt := 1276) C d_L_law_39 (by decide) (by decide) (by decide +kernel) (by decide) ?_
      exact lc_reportAt_u (xo := 0) (mo := 28) (oo := 56) (q := 0) (len := 4) hl C hX hsc hscb (by omega) (by omega) (by decide) (by decide) (by decide) (by decide) (by omega) (by omega) (by omega) (hu_s _ _ _) fin
    · refine j_tableIn (off := 1305) (tgt := 1344) C d_L_law_39 (by decide) (by decide) (by decide +kernel) (by decide) ?_
      exact lc_value_u (xo := 0) (mo := 28) (oo := 56) (q := 0) (len := 4) hl C hX hsc hscb (by omega) (by omega) (by decide) (by decide) (by decide) (by decide) (by omega) (by omega) (by omega) (hu_s _ _ _) fin
    · refine j_tableIn (off := 1373) (tgt := 1412) C d_L_law_39 (by decide) (by decide) (by decide +kernel) (by decide) ?_
      by_cases hx : xs (0 + 1) < 1 ∨ 5000 < xs (0 + 1)
      · exact lc_tick_t (xo := 0) (mo := 28) (oo := 56) (q := 0) (len := 4) hl C hX hsc hscb (by omega) (by omega) (by decide) (by decide) (by decide) (by decide) (by omega) (by omega) (by omega) (hu_s _ _ _) fin hx
      · exact lc_tick_r (xo := 0) (mo := 28) (oo := 56) (q := 0) (len := 4) hl C hX hsc hscb (by omega) (by omega) (by decide) (by decide) (by decide) (by decide) (by omega) (by omega) (by omega) (hu_s _ _ _) fin (fun z => hx (Or.inl z)) (fun z => hx (Or.inr z))
    · refine j_tableOut (tgt := 1468) C d_L_law_39 (Or.inr (by rw [nI_toInt (by omega)]; omega)) (by decide) ?_
      exact fin _ _ _ _ (Nat.le_of_ble_eq_true rfl) (Nat.le_of_ble_eq_true rfl)
  · refine j_icmp_gt (tgt := 1474) C d_L_law_29 (by decide) (fun c29 => ?_) (fun c29 => absurd (show nI len - nI 4 < 0 from pk_sneg (by omega) (by omega)) c29)
    refine j_iconst (v := 1) C d_L_law_1474 (by decide) ?_
    exact j_lawret C hbs (Nat.le_of_ble_eq_true rfl) (Nat.le_of_ble_eq_true rfl) d_L_law_1475
