/-! ===== the law's body: the loop over the script's calls ===== -/
theorem j_lawret {p : Program} {l : Launch} {e : Env} {s : State} {m : MethodId} {below : List Frame} {meth : Method} {c : Code} {D : va_G} {cA : Nat → ClassId} {b : Nat} (C : Cx p l s m meth c D cA b 7 "ReportChecks2Law" "law" b_L_law (some .boolean) []) {sc n kc ks pc : Nat} {h : AH} {L : List (Nat × Value)} (hbs : b = s.heap.size) (hc : kc ≤ 601024) (hs : ks ≤ 7293033) (hd : decode code pc = .ok (.ireturn, 1)) : J p l e room_1 s m #[Value.ref sc] below meth c D cA b 7 (lw_Z below #[Value.ref sc] s) n h kc ks pc L [.int 1] := by
  intro H locs ls hp hS hl
  refine va_forget (fun q hq => by rw [← hbs]; exact hS.2.2 q hq) ?_
  refine W.widen (k := 601024) (n := 7293033) hc hs ?_
  exact lw_ret C.1 C.2.1 C.2.2.2.2.2.2.1 C.2.2.2.2.2.1 hd
set_option maxHeartbeats 8000000 in
set_option maxRecDepth 100000 in
theorem law_loop {p : Program} {l : Launch} {e : Env} {s : State} {m : MethodId} {below : List Frame} {meth : Method} {c : Code} {D : va_G} {cA : Nat → ClassId} {b : Nat} (C : Cx p l s m meth c D cA b 7 "ReportChecks2Law" "law" b_L_law (some .boolean) []) (hl : l.stackTraces = false) {sc len : Nat} {xs : Nat → Int32} (hX : va_X sc len xs s s.heap) (hsc : sc < s.heap.size) (hscb : sc < b) (hbs : b = s.heap.size) (hlen : len ≤ 2048) : ∀ (m9 q n : Nat) (h : AH) (kc ks : Nat), St n h → len ≤ q + 4 * m9 + 3 → q + 4 * m9 ≤ 2048 → kc + 3 * m9 ≤ 601024 → ks + 34 * m9 ≤ 7293033 → J p l e room_1 s m #[Value.ref sc] below meth c D cA b 7 (lw_Z below #[Value.ref sc] s) n h kc ks 23 [(4, .int (nI q)), (3, .ref 56), (2, .ref 28), (1, .ref 0), (0, .retAddr sc)] [] := by
  intro m9
  induction m9 with
  | zero =>
    intro q n h kc ks hS h1 h2 h3 h4
    refine j_iload C d_L_law_23 rfl ?_
    refine j_aloadr_n C d_L_law_25 rfl rfl ?_
    refine j_slen C hX hsc hscb d_L_law_26 ?_
    refine j_iconst (v := 4) C d_L_law_27 (by decide) ?_
    refine j_isub C d_L_law_28 ?_
    refine j_icmp_gt (tgt := 1020) C d_L_law_29 (by decide) (fun c29 => ?_) (fun c29 => ?_)
    · refine j_iconst (v := 1) C d_L_law_1020 (by decide) ?_
      exact j_lawret C hbs (by omega) (by omega) d_L_law_1021
    · exact absurd ((lexit hlen (by omega)).mpr (by omega)) c29
  | succ m9 ih =>
    intro q n h kc ks hS h1 h2 h3 h4
    refine j_iload C d_L_law_23 rfl ?_
    refine j_aloadr_n C d_L_law_25 rfl rfl ?_
    refine j_slen C hX hsc hscb d_L_law_26 ?_
    refine j_iconst (v := 4) C d_L_law_27 (by decide) ?_
    refine j_isub C d_L_law_28 ?_
    refine j_icmp_gt (tgt := 1020) C d_L_law_29 (by decide) (fun c29 => ?_) (fun c29 => ?_)
    · refine j_iconst (v := 1) C d_L_law_1020 (by decide) ?_
      exact j_lawret C hbs (by omega) (by omega) d_L_law_1021
    · have hq : q + 3 < len := by
        have := mt (lexit hlen (by omega)).mpr c29
        omega
      have hln : len < 2 ^ 31 := by omega
      have fin : ∀ n' h' kc' ks', kc' ≤ kc + 3 → ks' ≤ ks + 34 → St n' h' → J p l e room_1 s m #[Value.ref sc] below meth c D cA b 7 (lw_Z below #[Value.ref sc] s) n' h' kc' ks' 1014 [(4, .int (nI q)), (3, .ref 56), (2, .ref 28), (1, .ref 0), (0, .retAddr sc)] [] := by
        intro n' h' kc' ks' g1 g2 g3
        refine j_iinc (v := nI (q + 4)) C d_L_law_1014 rfl (nI_add q 4) (by decide) rfl ?_
        refine j_goto (tgt := 23) C d_L_law_1017 (by decide) ?_
        exact ih (q + 4) n' h' kc' ks' g3 (by omega) (by omega) (by omega) (by omega)
      have hRc : kc + 3 ≤ room_1.cells := Nat.le_trans (m := 601024) (by omega) (Nat.le_of_ble_eq_true rfl)
      have hRs : ks + 34 ≤ room_1.slots := Nat.le_trans (m := 7293033) (by omega) (Nat.le_of_ble_eq_true rfl)
      refine j_aloadr_n C d_L_law_32 rfl rfl ?_
      refine j_iload C d_L_law_33 rfl ?_
      refine j_sld (w := xs (q + 0)) C hX hsc hscb d_L_law_35 (vp_in_nI (by omega) hln) (by rw [nI_clamp (by omega)]; rfl) ?_
      refine j_bipush (v := 31) C d_L_law_36 (by decide) ?_
      refine j_iand C d_L_law_38 ?_
      obtain ⟨j, hj, ej⟩ := pk_andE (xs (q + 0)) (m := 31) 5 (by decide)
      rw [ej]
      rcases (show j = 0 ∨ j = 1 ∨ j = 2 ∨ j = 3 ∨ j = 4 ∨ j = 5 ∨ j = 6 ∨ j = 7 ∨ j = 8 ∨ j = 9 ∨ j = 10 ∨ j = 11 ∨ j = 12 ∨ j = 13 ∨ j = 14 ∨ j = 15 ∨ j = 16 ∨ j = 17 ∨ j = 18 ∨ j = 19 ∨ j = 20 ∨ 20 < j by omega) with rfl | rfl | rfl | rfl | rfl | rfl | rfl | rfl | rfl | rfl | rfl | rfl | rfl | rfl | rfl | rfl | rfl | rfl | rfl | rfl | rfl | hj2
      · refine j_tableIn (off := 97) (tgt := 136) C d_L_law_39 (by decide) (by decide) (by decide +kernel) (by decide) ?_
        exact lc_report hl C hX hsc hscb hln hq (Nat.le_of_ble_eq_true rfl) (Nat.le_of_ble_eq_true rfl) hRc hRs hS fin
      · refine j_tableIn (off := 137) (tgt := 176) C d_L_law_39 (by decide) (by decide) (by decide +kernel) (by decide) ?_
        exact lc_ask hl C hX hsc hscb hln hq (Nat.le_of_ble_eq_true rfl) (Nat.le_of_ble_eq_true rfl) hRc hRs hS fin
      · refine j_tableIn (off := 202) (tgt := 241) C d_L_law_39 (by decide) (by decide) (by decide +kernel) (by decide) ?_
        exact lc_field hl C hX hsc hscb hln hq (Nat.le_of_ble_eq_true rfl) (Nat.le_of_ble_eq_true rfl) hRc hRs hS fin
      · refine j_tableIn (off := 251) (tgt := 290) C d_L_law_39 (by decide) (by decide) (by decide +kernel) (by decide) ?_
        exact lc_act hl C hX hsc hscb hln hq (Nat.le_of_ble_eq_true rfl) (Nat.le_of_ble_eq_true rfl) hRc hRs hS fin
      · refine j_tableIn (off := 303) (tgt := 342) C d_L_law_39 (by decide) (by decide) (by decide +kernel) (by decide) ?_
        exact lc_inside hl C hX hsc hscb hln hq (Nat.le_of_ble_eq_true rfl) (Nat.le_of_ble_eq_true rfl) hRc hRs hS fin
      · refine j_tableIn (off := 340) (tgt := 379) C d_L_law_39 (by decide) (by decide) (by decide +kernel) (by decide) ?_
        exact lc_sign hl C hX hsc hscb hln hq (Nat.le_of_ble_eq_true rfl) (Nat.le_of_ble_eq_true rfl) hRc hRs hS fin
      · refine j_tableIn (off := 412) (tgt := 451) C d_L_law_39 (by decide) (by decide) (by decide +kernel) (by decide) ?_
        exact lc_rules hl C hX hsc hscb hln hq (Nat.le_of_ble_eq_true rfl) (Nat.le_of_ble_eq_true rfl) hRc hRs hS fin
      · refine j_tableIn (off := 428) (tgt := 467) C d_L_law_39 (by decide) (by decide) (by decide +kernel) (by decide) ?_
        exact lc_place hl C hX hsc hscb hln hq (Nat.le_of_ble_eq_true rfl) (Nat.le_of_ble_eq_true rfl) hRc hRs hS fin
      · refine j_tableIn (off := 441) (tgt := 480) C d_L_law_39 (by decide) (by decide) (by decide +kernel) (by decide) ?_
        exact lc_check hl C hX hsc hscb hln hq (Nat.le_of_ble_eq_true rfl) (Nat.le_of_ble_eq_true rfl) hRc hRs hS fin
      · refine j_tableIn (off := 469) (tgt := 508) C d_L_law_39 (by decide) (by decide) (by decide +kernel) (by decide) ?_
        exact lc_wanting hl C hX hsc hscb hln hq (Nat.le_of_ble_eq_true rfl) (Nat.le_of_ble_eq_true rfl) hRc hRs hS fin
      · refine j_tableIn (off := 509) (tgt := 548) C d_L_law_39 (by decide) (by decide) (by decide +kernel) (by decide) ?_
        exact lc_put hl C hX hsc hscb hln hq (Nat.le_of_ble_eq_true rfl) (Nat.le_of_ble_eq_true rfl) hRc hRs hS fin
      · refine j_tableIn (off := 549) (tgt := 588) C d_L_law_39 (by decide) (by decide) (by decide +kernel) (by decide) ?_
        exact lc_edition hl C hX hsc hscb hln hq (Nat.le_of_ble_eq_true rfl) (Nat.le_of_ble_eq_true rfl) hRc hRs hS fin
      · refine j_tableIn (off := 577) (tgt := 616) C d_L_law_39 (by decide) (by decide) (by decide +kernel) (by decide) ?_
        exact lc_fault hl C hX hsc hscb hln hq (Nat.le_of_ble_eq_true rfl) (Nat.le_of_ble_eq_true rfl) hRc hRs hS fin
      · refine j_tableIn (off := 614) (tgt := 653) C d_L_law_39 (by decide) (by decide) (by decide +kernel) (by decide) ?_
        exact lc_hide hl C hX hsc hscb hln hq (Nat.le_of_ble_eq_true rfl) (Nat.le_of_ble_eq_true rfl) hRc hRs hS fin
      · refine j_tableIn (off := 679) (tgt := 718) C d_L_law_39 (by decide) (by decide) (by decide +kernel) (by decide) ?_
        exact lc_code hl C hX hsc hscb hln hq (Nat.le_of_ble_eq_true rfl) (Nat.le_of_ble_eq_true rfl) hRc hRs hS fin
      · refine j_tableIn (off := 719) (tgt := 758) C d_L_law_39 (by decide) (by decide) (by decide +kernel) (by decide) ?_
        exact lc_at hl C hX hsc hscb hln hq (Nat.le_of_ble_eq_true rfl) (Nat.le_of_ble_eq_true rfl) hRc hRs hS fin
      · refine j_tableIn (off := 747) (tgt := 786) C d_L_law_39 (by decide) (by decide) (by decide +kernel) (by decide) ?_
        exact lc_late hl C hX hsc hscb hln hq (Nat.le_of_ble_eq_true rfl) (Nat.le_of_ble_eq_true rfl) hRc hRs hS fin
      · refine j_tableIn (off := 787) (tgt := 826) C d_L_law_39 (by decide) (by decide) (by decide +kernel) (by decide) ?_
        exact lc_count hl C hX hsc hscb hln hq (Nat.le_of_ble_eq_true rfl) (Nat.le_of_ble_eq_true rfl) hRc hRs hS fin
      · refine j_tableIn (off := 839) (tgt := 878) C d_L_law_39 (by decide) (by decide) (by decide +kernel) (by decide) ?_
        exact lc_reportAt hl C hX hsc hscb hln hq (Nat.le_of_ble_eq_true rfl) (Nat.le_of_ble_eq_true rfl) hRc hRs hS fin
      · refine j_tableIn (off := 907) (tgt := 946) C d_L_law_39 (by decide) (by decide) (by decide +kernel) (by decide) ?_
        exact lc_value hl C hX hsc hscb hln hq (Nat.le_of_ble_eq_true rfl) (Nat.le_of_ble_eq_true rfl) hRc hRs hS fin
      · refine j_tableIn (off := 947) (tgt := 986) C d_L_law_39 (by decide) (by decide) (by decide +kernel) (by decide) ?_
        exact lc_tick hl C hX hsc hscb hln hq (Nat.le_of_ble_eq_true rfl) (Nat.le_of_ble_eq_true rfl) hRc hRs hS fin
      · refine j_tableOut (tgt := 1014) C d_L_law_39 (Or.inr (by rw [nI_toInt (by omega)]; omega)) (by decide) ?_
        exact fin _ _ _ _ (by omega) (by omega) hS

set_option maxHeartbeats 8000000 in
set_option maxRecDepth 100000 in
theorem law_all {p : Program} {l : Launch} {e : Env} {s : State} {m : MethodId} {below : List Frame} {meth : Method} {c : Code} {D : va_G} {cA : Nat → ClassId} {b : Nat} (C : Cx p l s m meth c D cA b 7 "ReportChecks2Law" "law" b_L_law (some .boolean) []) (hl : l.stackTraces = false) {sc len : Nat} {xs : Nat → Int32} (h : AH) (hX : va_X sc len xs s s.heap) (hsc : sc < s.heap.size) (hscb : sc < b) (hbs : b = s.heap.size) (hlen : len ≤ 2048) : J p l e room_1 s m #[Value.ref sc] below meth c D cA b 7 (lw_Z below #[Value.ref sc] s) 0 h 0 0 0 [(0, .retAddr sc)] [] := by
  refine j_new C nl_L_8 d_L_law_0 (Nat.le_of_ble_eq_true rfl) (Nat.le_of_ble_eq_true rfl) ?_
  refine j_dup C d_L_law_3 rfl ?_
  refine j_callI C d_L_law_4 rfl ml_L_86 mc_X_init in_X_init (c_X_init hl 0 h) rfl rfl (Nat.le_of_ble_eq_true rfl) (Nat.le_of_ble_eq_true rfl) (Nat.le_of_ble_eq_true rfl) (Nat.le_of_ble_eq_true rfl) (jk_v ?_)
  refine j_astore_n C d_L_law_7 rfl (by decide) rfl ?_
  refine j_new C nl_L_87 d_L_law_8 (Nat.le_of_ble_eq_true rfl) (Nat.le_of_ble_eq_true rfl) ?_
  refine j_dup C d_L_law_11 rfl ?_
  refine j_callI C d_L_law_12 rfl ml_L_89 mc_M_init in_M_init (c_M_init hl 28 (ovX 0 ξ0 β0 ρ0 6 13 h)) rfl rfl (Nat.le_of_ble_eq_true rfl) (Nat.le_of_ble_eq_true rfl) (Nat.le_of_ble_eq_true rfl) (Nat.le_of_ble_eq_true rfl) (jk_v ?_)
  refine j_astore_n C d_L_law_15 rfl (by decide) rfl ?_
  refine j_iconst (v := 1) C d_L_law_16 (by decide) ?_
  refine j_newa (t := 4) (N := 1) (a0 := (1, .inr (.inl (fun _ => 0)))) C d_L_law_17 rfl rfl (fun _ => rfl) ac_long (by decide) rfl (by decide) (fun _ => rfl) (Nat.le_of_ble_eq_true rfl) (Nat.le_of_ble_eq_true rfl) ?_
  refine j_h (h' := ovX 0 ξ0 β0 ρ0 6 13 (ovM 28 σ0 β0 (hu h 56 (.inl (4, 1, .inr (.inl (fun _ => 0))))))) (show hu (ovM 28 σ0 β0 (ovX 0 ξ0 β0 ρ0 6 13 h)) 56 _ = _ by rw [← ovX_M (by omega), ovX_out (Or.inr (by omega)), ovM_hu (by omega)]) ?_
  refine j_astore_n C d_L_law_19 rfl (by decide) rfl ?_
  refine j_iconst (v := 0) C d_L_law_20 (by decide) ?_
  refine j_istore C d_L_law_21 (by decide) rfl ?_
  exact law_loop C hl hX hsc hscb hbs hlen 512 0 57 _ _ _ (st_0 h) (by omega) (by omega) (Nat.le_of_ble_eq_true rfl) (Nat.le_of_ble_eq_true rfl)
