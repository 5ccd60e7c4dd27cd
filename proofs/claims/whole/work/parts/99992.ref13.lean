/-! ===== the reference's refusals that were left: edition, code ===== -/
set_option maxHeartbeats 4000000 in
set_option maxRecDepth 100000 in
theorem c_M_edition_2 {l : Launch} (hl : l.stackTraces = false) {D : va_G} {cA : Nat → ClassId} {b n mo : Nat} (r : Nat) (σ : Nat → Int32) (α : Nat → Nat → Int32) (h : AH) (hmo : mo + 27 < n) (nr : Nat) (hnr : σ 2 = nI nr) (hle : nr ≤ 30) (hr : r < nr) (h8 : ¬ α 8 r = 3) : Cn l D cA b y_M_edition k_M_edition 2 29 0 0 [.ref mo, .int (nI r)] n (ovM mo σ α h) (Re (some (.int 0)) n (ovM mo (upd σ 0 2) α h)) := by
  refine Cn.of (cc := b_M_edition) (maxL := 4) (ret := (some .int)) (hh := []) (by decide +kernel) hl (Or.inl ⟨rfl, rfl⟩) (Nat.le_of_ble_eq_true rfl) ?_
  intro p e s m args below meth c C
  refine j_aload_n C d_M_edition_0 rfl rfl ?_
  refine j_aload_n C d_M_edition_1 rfl rfl ?_
  refine j_iload_n C d_M_edition_2 rfl rfl ?_
  refine j_callV C d_M_edition_3 ml_M_121 mc_M_isReport in_M_isReport rfl se_M_isReport (by omega) (ovM_o _ _ _ _) (c_M_isReportK hl _ _ _ _ hmo (in_rep hnr (by omega) hr)) rfl rfl (Nat.le_of_ble_eq_true rfl) (Nat.le_of_ble_eq_true rfl) (Nat.le_of_ble_eq_true rfl) (Nat.le_of_ble_eq_true rfl) (jk_r ?_)
  refine j_aload_n C d_M_edition_6 rfl rfl ?_
  refine j_iload_n C d_M_edition_7 rfl rfl ?_
  refine j_callV C d_M_edition_8 ml_M_121 mc_M_isReport in_M_isReport rfl se_M_isReport (by omega) (ovM_o _ _ _ _) (c_M_isReportK hl _ _ _ _ hmo (in_rep hnr (by omega) hr)) rfl rfl (Nat.le_of_ble_eq_true rfl) (Nat.le_of_ble_eq_true rfl) (Nat.le_of_ble_eq_true rfl) (Nat.le_of_ble_eq_true rfl) (jk_r ?_)
  refine j_if_eq (tgt := 28) C d_M_edition_11 (by decide) (fun c11 => ?_) (fun c11 => ?_)
  · exact absurd c11 (by decide)
  · refine j_aload_n C d_M_edition_14 rfl rfl ?_
    refine jm_get C fl_6_25 d_M_edition_15 hmo rfl ?_
    refine j_iload_n C d_M_edition_18 rfl rfl ?_
    refine jm_ialdn C 5 (r) d_M_edition_19 (by decide) rfl hmo rfl (by omega) (by omega) ?_
    refine j_iconst (v := 3) C d_M_edition_20 (by decide) ?_
    refine j_icmp_ne (tgt := 28) C d_M_edition_21 (by decide) (fun c21 => ?_) (fun c21 => ?_)
    · refine j_iconst (v := 0) C d_M_edition_28 (by decide) ?_
      refine j_aload_n C d_M_edition_29 rfl rfl ?_
      refine jm_get C fl_6_99 d_M_edition_30 hmo rfl ?_
      refine j_bipush (v := 30) C d_M_edition_33 (by decide) ?_
      refine j_icmp_ge (tgt := 42) C d_M_edition_35 (by decide) (fun c35 => ?_) (fun c35 => ?_)
      · refine j_iconst (v := 0) C d_M_edition_42 (by decide) ?_
        refine j_callV C d_M_edition_43 ml_M_109 mc_M_goes in_M_goes rfl se_M_goes (by omega) (ovM_o _ _ _ _) (c_M_goesK hl _ _ _ _ _ _ hmo (show gsI _ 0 _ = 2 from gs_2 (by decide) _)) rfl rfl (Nat.le_of_ble_eq_true rfl) (Nat.le_of_ble_eq_true rfl) (Nat.le_of_ble_eq_true rfl) (Nat.le_of_ble_eq_true rfl) (jk_r ?_)
        refine j_if_ne (tgt := 51) C d_M_edition_46 (by decide) (fun c46 => ?_) (fun c46 => ?_)
        · exact absurd (by decide) c46
        · refine j_iconst (v := 0) C d_M_edition_49 (by decide) ?_
          exact j_ireturn C d_M_edition_50 rfl (by decide) (by decide) ⟨rfl, rfl, rfl⟩
      · refine j_iconst (v := 1) C d_M_edition_38 (by decide) ?_
        refine j_goto (tgt := 43) C d_M_edition_39 (by decide) ?_
        refine j_callV C d_M_edition_43 ml_M_109 mc_M_goes in_M_goes rfl se_M_goes (by omega) (ovM_o _ _ _ _) (c_M_goesK hl _ _ _ _ _ _ hmo (show gsI _ 0 _ = 2 from gs_2 (by decide) _)) rfl rfl (Nat.le_of_ble_eq_true rfl) (Nat.le_of_ble_eq_true rfl) (Nat.le_of_ble_eq_true rfl) (Nat.le_of_ble_eq_true rfl) (jk_r ?_)
        refine j_if_ne (tgt := 51) C d_M_edition_46 (by decide) (fun c46 => ?_) (fun c46 => ?_)
        · exact absurd (by decide) c46
        · refine j_iconst (v := 0) C d_M_edition_49 (by decide) ?_
          exact j_ireturn C d_M_edition_50 rfl (by decide) (by decide) ⟨rfl, rfl, rfl⟩
    · exact absurd c21 h8

set_option maxHeartbeats 4000000 in
set_option maxRecDepth 100000 in
theorem c_M_edition_3 {l : Launch} (hl : l.stackTraces = false) {D : va_G} {cA : Nat → ClassId} {b n mo : Nat} (r : Nat) (σ : Nat → Int32) (α : Nat → Nat → Int32) (h : AH) (hmo : mo + 27 < n) (nr : Nat) (hnr : σ 2 = nI nr) (hle : nr = 30) (hr : r < nr) (h8 : α 8 r = 3) : Cn l D cA b y_M_edition k_M_edition 2 29 0 0 [.ref mo, .int (nI r)] n (ovM mo σ α h) (Re (some (.int 0)) n (ovM mo (upd σ 0 3) α h)) := by
  refine Cn.of (cc := b_M_edition) (maxL := 4) (ret := (some .int)) (hh := []) (by decide +kernel) hl (Or.inl ⟨rfl, rfl⟩) (Nat.le_of_ble_eq_true rfl) ?_
  intro p e s m args below meth c C
  refine j_aload_n C d_M_edition_0 rfl rfl ?_
  refine j_aload_n C d_M_edition_1 rfl rfl ?_
  refine j_iload_n C d_M_edition_2 rfl rfl ?_
  refine j_callV C d_M_edition_3 ml_M_121 mc_M_isReport in_M_isReport rfl se_M_isReport (by omega) (ovM_o _ _ _ _) (c_M_isReportK hl _ _ _ _ hmo (in_rep hnr (by omega) hr)) rfl rfl (Nat.le_of_ble_eq_true rfl) (Nat.le_of_ble_eq_true rfl) (Nat.le_of_ble_eq_true rfl) (Nat.le_of_ble_eq_true rfl) (jk_r ?_)
  refine j_aload_n C d_M_edition_6 rfl rfl ?_
  refine j_iload_n C d_M_edition_7 rfl rfl ?_
  refine j_callV C d_M_edition_8 ml_M_121 mc_M_isReport in_M_isReport rfl se_M_isReport (by omega) (ovM_o _ _ _ _) (c_M_isReportK hl _ _ _ _ hmo (in_rep hnr (by omega) hr)) rfl rfl (Nat.le_of_ble_eq_true rfl) (Nat.le_of_ble_eq_true rfl) (Nat.le_of_ble_eq_true rfl) (Nat.le_of_ble_eq_true rfl) (jk_r ?_)
  refine j_if_eq (tgt := 28) C d_M_edition_11 (by decide) (fun c11 => ?_) (fun c11 => ?_)
  · exact absurd c11 (by decide)
  · refine j_aload_n C d_M_edition_14 rfl rfl ?_
    refine jm_get C fl_6_25 d_M_edition_15 hmo rfl ?_
    refine j_iload_n C d_M_edition_18 rfl rfl ?_
    refine jm_ialdn C 5 (r) d_M_edition_19 (by decide) rfl hmo rfl (by omega) (by omega) ?_
    refine j_iconst (v := 3) C d_M_edition_20 (by decide) ?_
    refine j_icmp_ne (tgt := 28) C d_M_edition_21 (by decide) (fun c21 => ?_) (fun c21 => ?_)
    · exact absurd h8 c21
    · refine j_iconst (v := 1) C d_M_edition_24 (by decide) ?_
      refine j_goto (tgt := 29) C d_M_edition_25 (by decide) ?_
      refine j_aload_n C d_M_edition_29 rfl rfl ?_
      refine jm_get C fl_6_99 d_M_edition_30 hmo rfl ?_
      refine j_bipush (v := 30) C d_M_edition_33 (by decide) ?_
      refine j_icmp_ge (tgt := 42) C d_M_edition_35 (by decide) (fun c35 => ?_) (fun c35 => ?_)
      · refine j_iconst (v := 0) C d_M_edition_42 (by decide) ?_
        refine j_callV C d_M_edition_43 ml_M_109 mc_M_goes in_M_goes rfl se_M_goes (by omega) (ovM_o _ _ _ _) (c_M_goesK hl _ _ _ _ _ _ hmo (show gsI 1 1 0 = 3 by decide)) rfl rfl (Nat.le_of_ble_eq_true rfl) (Nat.le_of_ble_eq_true rfl) (Nat.le_of_ble_eq_true rfl) (Nat.le_of_ble_eq_true rfl) (jk_r ?_)
        refine j_if_ne (tgt := 51) C d_M_edition_46 (by decide) (fun c46 => ?_) (fun c46 => ?_)
        · exact absurd (by decide) c46
        · refine j_iconst (v := 0) C d_M_edition_49 (by decide) ?_
          exact j_ireturn C d_M_edition_50 rfl (by decide) (by decide) ⟨rfl, rfl, rfl⟩
      · exact absurd (show (30 : Int32) ≤ σ 2 by rw [hnr, hle]; decide) c35

set_option maxHeartbeats 4000000 in
set_option maxRecDepth 100000 in
theorem c_M_code_p {l : Launch} (hl : l.stackTraces = false) {D : va_G} {cA : Nat → ClassId} {b n mo : Nat} (r : Nat) (p0 : Int32) (σ : Nat → Int32) (α : Nat → Nat → Int32) (h : AH) (hmo : mo + 27 < n) (nr : Nat) (hnr : σ 2 = nI nr) (hle : nr ≤ 30) (hr : r < nr) (hp : inI p0 0 19 = 0) : Cn l D cA b y_M_code k_M_code 2 28 0 0 [.ref mo, .int (nI r), .int p0] n (ovM mo σ α h) (Re (some (.int 0)) n (ovM mo (upd σ 0 1) α h)) := by
  refine Cn.of (cc := b_M_code) (maxL := 4) (ret := (some .int)) (hh := []) (by decide +kernel) hl (Or.inl ⟨rfl, rfl⟩) (Nat.le_of_ble_eq_true rfl) ?_
  intro p e s m args below meth c C
  refine j_aload_n C d_M_code_0 rfl rfl ?_
  refine j_aload_n C d_M_code_1 rfl rfl ?_
  refine j_iload_n C d_M_code_2 rfl rfl ?_
  refine j_callV C d_M_code_3 ml_M_121 mc_M_isReport in_M_isReport rfl se_M_isReport (by omega) (ovM_o _ _ _ _) (c_M_isReportK hl _ _ _ _ hmo (in_rep hnr hle hr)) rfl rfl (Nat.le_of_ble_eq_true rfl) (Nat.le_of_ble_eq_true rfl) (Nat.le_of_ble_eq_true rfl) (Nat.le_of_ble_eq_true rfl) (jk_r ?_)
  refine j_if_eq (tgt := 20) C d_M_code_6 (by decide) (fun c6 => ?_) (fun c6 => ?_)
  · exact absurd c6 (by decide)
  · refine j_iload_n C d_M_code_9 rfl rfl ?_
    refine j_callS C d_M_code_10 ml_M_200 mc_M_isPerson st_M_isPerson (c_M_isPersonK hl _ _ hp) rfl rfl (Nat.le_of_ble_eq_true rfl) (Nat.le_of_ble_eq_true rfl) (Nat.le_of_ble_eq_true rfl) (Nat.le_of_ble_eq_true rfl) (jk_r ?_)
    refine j_if_eq (tgt := 20) C d_M_code_13 (by decide) (fun c13 => ?_) (fun c13 => ?_)
    · refine j_iconst (v := 0) C d_M_code_20 (by decide) ?_
      refine j_iconst (v := 1) C d_M_code_21 (by decide) ?_
      refine j_iconst (v := 1) C d_M_code_22 (by decide) ?_
      refine j_callV C d_M_code_23 ml_M_109 mc_M_goes in_M_goes rfl se_M_goes (by omega) (ovM_o _ _ _ _) (c_M_goesK hl _ _ _ _ _ _ hmo (gs_1 _ _)) rfl rfl (Nat.le_of_ble_eq_true rfl) (Nat.le_of_ble_eq_true rfl) (Nat.le_of_ble_eq_true rfl) (Nat.le_of_ble_eq_true rfl) (jk_r ?_)
      refine j_if_ne (tgt := 31) C d_M_code_26 (by decide) (fun c26 => ?_) (fun c26 => ?_)
      · exact absurd (by decide) c26
      · refine j_iconst (v := 0) C d_M_code_29 (by decide) ?_
        exact j_ireturn C d_M_code_30 rfl (by decide) (by decide) ⟨rfl, rfl, rfl⟩
    · exact absurd rfl c13
