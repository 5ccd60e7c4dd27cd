/-! ===== contracts of the reference: act, wanting, write, wanted ===== -/
set_option maxHeartbeats 4000000 in
set_option maxRecDepth 100000 in
theorem c_M_act {l : Launch} (hl : l.stackTraces = false) {D : va_G} {cA : Nat → ClassId} {b n mo : Nat} (r k t : Int32) (σ : Nat → Int32) (α : Nat → Nat → Int32) (h : AH) (hmo : mo + 27 < n) (nr : Nat) (hnr : σ 2 = nI nr) (hle : nr ≤ 30) : Cn l D cA b y_M_act k_M_act 2 27 0 0 [.ref mo, .int r, .int k, .int t] n (ovM mo σ α h) (Re (some (.int (mact σ α r k t).1)) n (ovM mo (mact σ α r k t).2.1 (mact σ α r k t).2.2 h)) := by
  refine Cn.of (cc := b_M_act) (maxL := 6) (ret := (some .boolean)) (hh := []) (by decide +kernel) hl (Or.inl ⟨rfl, rfl⟩) (Nat.le_of_ble_eq_true rfl) ?_
  intro p e s m args below meth c C
  refine j_aload_n C d_M_act_0 rfl rfl ?_
  refine j_iload_n C d_M_act_1 rfl rfl ?_
  refine j_callV C d_M_act_2 ml_M_121 mc_M_isReport in_M_isReport rfl se_M_isReport (by omega) (ovM_o _ _ _ _) (c_M_isReport hl _ _ _ _ hmo) rfl rfl (Nat.le_of_ble_eq_true rfl) (Nat.le_of_ble_eq_true rfl) (Nat.le_of_ble_eq_true rfl) (Nat.le_of_ble_eq_true rfl) (jk_r ?_)
  refine j_if_eq (tgt := 22) C d_M_act_5 (by decide) (fun c5 => ?_) (fun c5 => ?_)
  · refine j_iconst (v := 0) C d_M_act_22 (by decide) ?_
    refine j_istore C d_M_act_23 (by decide) rfl ?_
    refine j_aload_n C d_M_act_25 rfl rfl ?_
    refine j_iload C d_M_act_26 rfl ?_
    refine j_iload_n C d_M_act_28 rfl rfl ?_
    refine j_iconst (v := 0) C d_M_act_29 (by decide) ?_
    refine j_aload_n C d_M_act_30 rfl rfl ?_
    refine jm_get C fl_6_106 d_M_act_31 hmo rfl ?_
    refine j_callS C d_M_act_34 ml_M_102 mc_M_in st_M_in (c_M_in hl _ _ _ _) rfl rfl (Nat.le_of_ble_eq_true rfl) (Nat.le_of_ble_eq_true rfl) (Nat.le_of_ble_eq_true rfl) (Nat.le_of_ble_eq_true rfl) (jk_r ?_)
    refine j_iload C d_M_act_37 rfl ?_
    refine j_if_eq (tgt := 55) C d_M_act_39 (by decide) (fun c39 => ?_) (fun c39 => ?_)
    · refine j_iconst (v := 0) C d_M_act_55 (by decide) ?_
      refine j_callV C d_M_act_56 ml_M_109 mc_M_goes in_M_goes rfl se_M_goes (by omega) (ovM_o _ _ _ _) (c_M_goes hl _ _ _ _ _ _ hmo) rfl rfl (Nat.le_of_ble_eq_true rfl) (Nat.le_of_ble_eq_true rfl) (Nat.le_of_ble_eq_true rfl) (Nat.le_of_ble_eq_true rfl) (jk_r ?_)
      refine j_if_ne (tgt := 64) C d_M_act_59 (by decide) (fun c59 => ?_) (fun c59 => ?_)
      · refine j_bipush (v := 20) C d_M_act_64 (by decide) ?_
        refine j_iload_n C d_M_act_66 rfl rfl ?_
        refine j_imul C d_M_act_67 ?_
        refine j_iload_n C d_M_act_68 rfl rfl ?_
        refine j_iadd C d_M_act_69 ?_
        refine j_istore C d_M_act_70 (by decide) rfl ?_
        refine j_aload_n C d_M_act_72 rfl rfl ?_
        refine jm_get C fl_6_31 d_M_act_73 hmo rfl ?_
        refine j_iload C d_M_act_76 rfl ?_
        refine jm_zald C 7 d_M_act_78 (by decide) rfl hmo (by first | exact ix_rf hnr hle (by assumption) (by assumption) | exact ix_rk hnr hle (by assumption) (by assumption) | exact ix_r hnr hle (by omega) (by omega) (by assumption) | exact absurd rfl (gs_ok c59).1 | exact absurd rfl (gs_ok c59).2.1 | exact absurd rfl (gs_ok c59).2.2) rfl ?_
        refine j_if_eq (tgt := 105) C d_M_act_79 (by decide) (fun c79 => ?_) (fun c79 => ?_)
        · refine j_aload_n C d_M_act_105 rfl rfl ?_
          refine jm_get C fl_6_31 d_M_act_106 hmo rfl ?_
          refine j_iload C d_M_act_109 rfl ?_
          refine j_iconst (v := 1) C d_M_act_111 (by decide) ?_
          refine jm_zasti C 7 10 d_M_act_112 (by decide) rfl hmo (by first | exact ix_rf hnr hle (by assumption) (by assumption) | exact ix_rk hnr hle (by assumption) (by assumption) | exact ix_r hnr hle (by omega) (by omega) (by assumption) | exact absurd rfl (gs_ok c59).1 | exact absurd rfl (gs_ok c59).2.1 | exact absurd rfl (gs_ok c59).2.2) rfl ?_
          refine j_aload_n C d_M_act_113 rfl rfl ?_
          refine jm_get C fl_6_35 d_M_act_114 hmo rfl ?_
          refine j_iload C d_M_act_117 rfl ?_
          refine j_iconst (v := 1) C d_M_act_119 (by decide) ?_
          refine jm_zasti C 8 11 d_M_act_120 (by decide) rfl hmo (by first | exact ix_rf hnr hle (by assumption) (by assumption) | exact ix_rk hnr hle (by assumption) (by assumption) | exact ix_r hnr hle (by omega) (by omega) (by assumption) | exact absurd rfl (gs_ok c59).1 | exact absurd rfl (gs_ok c59).2.1 | exact absurd rfl (gs_ok c59).2.2) rfl ?_
          refine j_aload_n C d_M_act_121 rfl rfl ?_
          refine jm_get C fl_6_41 d_M_act_122 hmo rfl ?_
          refine j_iload C d_M_act_125 rfl ?_
          refine j_iload_n C d_M_act_127 rfl rfl ?_
          refine jm_iasti C 10 13 d_M_act_128 (by decide) rfl hmo (by first | exact ix_rf hnr hle (by assumption) (by assumption) | exact ix_rk hnr hle (by assumption) (by assumption) | exact ix_r hnr hle (by omega) (by omega) (by assumption) | exact absurd rfl (gs_ok c59).1 | exact absurd rfl (gs_ok c59).2.1 | exact absurd rfl (gs_ok c59).2.2) rfl ?_
          refine j_iconst (v := 1) C d_M_act_129 (by decide) ?_
          exact j_zreturn C d_M_act_130 rfl (by decide) (by decide) (by decide) ⟨by first | (simp [mact, mkn, kn2, nar1, nar0, pk_un, upa_n, c5, c39, c59, c79]; done) | (simp [mact, mkn, kn2, gsI, bz, nar1, nar0, pk_un, upa_n, c5, c39, c59, c79]; done) | exact absurd c59 (by decide) | exact absurd rfl (gs_ok c59).1 | exact absurd rfl (gs_ok c59).2.1 | exact absurd rfl (gs_ok c59).2.2, rfl, by first | (simp [mact, mkn, kn2, nar1, nar0, pk_un, upa_n, c5, c39, c59, c79]; done) | (simp [mact, mkn, kn2, gsI, bz, nar1, nar0, pk_un, upa_n, c5, c39, c59, c79]; done) | exact absurd c59 (by decide) | exact absurd rfl (gs_ok c59).1 | exact absurd rfl (gs_ok c59).2.1 | exact absurd rfl (gs_ok c59).2.2⟩
        · refine j_aload_n C d_M_act_82 rfl rfl ?_
          refine jm_get C fl_6_35 d_M_act_83 hmo rfl ?_
          refine j_iload C d_M_act_86 rfl ?_
          refine jm_zald C 8 d_M_act_88 (by decide) rfl hmo (by first | exact ix_rf hnr hle (by assumption) (by assumption) | exact ix_rk hnr hle (by assumption) (by assumption) | exact ix_r hnr hle (by omega) (by omega) (by assumption) | exact absurd rfl (gs_ok c59).1 | exact absurd rfl (gs_ok c59).2.1 | exact absurd rfl (gs_ok c59).2.2) rfl ?_
          refine j_if_eq (tgt := 103) C d_M_act_89 (by decide) (fun c89 => ?_) (fun c89 => ?_)
          · refine j_iconst (v := 0) C d_M_act_103 (by decide) ?_
            exact j_zreturn C d_M_act_104 rfl (by decide) (by decide) (by decide) ⟨by first | (simp [mact, mkn, kn2, nar1, nar0, pk_un, upa_n, c5, c39, c59, c79, c89]; done) | (simp [mact, mkn, kn2, gsI, bz, nar1, nar0, pk_un, upa_n, c5, c39, c59, c79, c89]; done) | exact absurd c59 (by decide) | exact absurd rfl (gs_ok c59).1 | exact absurd rfl (gs_ok c59).2.1 | exact absurd rfl (gs_ok c59).2.2, rfl, by first | (simp [mact, mkn, kn2, nar1, nar0, pk_un, upa_n, c5, c39, c59, c79, c89]; done) | (simp [mact, mkn, kn2, gsI, bz, nar1, nar0, pk_un, upa_n, c5, c39, c59, c79, c89]; done) | exact absurd c59 (by decide) | exact absurd rfl (gs_ok c59).1 | exact absurd rfl (gs_ok c59).2.1 | exact absurd rfl (gs_ok c59).2.2⟩
          · refine j_aload_n C d_M_act_92 rfl rfl ?_
            refine jm_get C fl_6_41 d_M_act_93 hmo rfl ?_
            refine j_iload C d_M_act_96 rfl ?_
            refine jm_iald C 10 d_M_act_98 (by decide) rfl hmo (by first | exact ix_rf hnr hle (by assumption) (by assumption) | exact ix_rk hnr hle (by assumption) (by assumption) | exact ix_r hnr hle (by omega) (by omega) (by assumption) | exact absurd rfl (gs_ok c59).1 | exact absurd rfl (gs_ok c59).2.1 | exact absurd rfl (gs_ok c59).2.2) rfl ?_
            refine j_iload_n C d_M_act_99 rfl rfl ?_
            refine j_icmp_gt (tgt := 105) C d_M_act_100 (by decide) (fun c100 => ?_) (fun c100 => ?_)
            · refine j_aload_n C d_M_act_105 rfl rfl ?_
              refine jm_get C fl_6_31 d_M_act_106 hmo rfl ?_
              refine j_iload C d_M_act_109 rfl ?_
              refine j_iconst (v := 1) C d_M_act_111 (by decide) ?_
              refine jm_zasti C 7 10 d_M_act_112 (by decide) rfl hmo (by first | exact ix_rf hnr hle (by assumption) (by assumption) | exact ix_rk hnr hle (by assumption) (by assumption) | exact ix_r hnr hle (by omega) (by omega) (by assumption) | exact absurd rfl (gs_ok c59).1 | exact absurd rfl (gs_ok c59).2.1 | exact absurd rfl (gs_ok c59).2.2) rfl ?_
              refine j_aload_n C d_M_act_113 rfl rfl ?_
              refine jm_get C fl_6_35 d_M_act_114 hmo rfl ?_
              refine j_iload C d_M_act_117 rfl ?_
              refine j_iconst (v := 1) C d_M_act_119 (by decide) ?_
              refine jm_zasti C 8 11 d_M_act_120 (by decide) rfl hmo (by first | exact ix_rf hnr hle (by assumption) (by assumption) | exact ix_rk hnr hle (by assumption) (by assumption) | exact ix_r hnr hle (by omega) (by omega) (by assumption) | exact absurd rfl (gs_ok c59).1 | exact absurd rfl (gs_ok c59).2.1 | exact absurd rfl (gs_ok c59).2.2) rfl ?_
              refine j_aload_n C d_M_act_121 rfl rfl ?_
              refine jm_get C fl_6_41 d_M_act_122 hmo rfl ?_
              refine j_iload C d_M_act_125 rfl ?_
              refine j_iload_n C d_M_act_127 rfl rfl ?_
              refine jm_iasti C 10 13 d_M_act_128 (by decide) rfl hmo (by first | exact ix_rf hnr hle (by assumption) (by assumption) | exact ix_rk hnr hle (by assumption) (by assumption) | exact ix_r hnr hle (by omega) (by omega) (by assumption) | exact absurd rfl (gs_ok c59).1 | exact absurd rfl (gs_ok c59).2.1 | exact absurd rfl (gs_ok c59).2.2) rfl ?_
              refine j_iconst (v := 1) C d_M_act_129 (by decide) ?_
              exact j_zreturn C d_M_act_130 rfl (by decide) (by decide) (by decide) ⟨by first | (simp [mact, mkn, kn2, nar1, nar0, pk_un, upa_n, c5, c39, c59, c79, c89, c100]; done) | (simp [mact, mkn, kn2, gsI, bz, nar1, nar0, pk_un, upa_n, c5, c39, c59, c79, c89, c100]; done) | exact absurd c59 (by decide) | exact absurd rfl (gs_ok c59).1 | exact absurd rfl (gs_ok c59).2.1 | exact absurd rfl (gs_ok c59).2.2, rfl, by first | (simp [mact, mkn, kn2, nar1, nar0, pk_un, upa_n, c5, c39, c59, c79, c89, c100]; done) | (simp [mact, mkn, kn2, gsI, bz, nar1, nar0, pk_un, upa_n, c5, c39, c59, c79, c89, c100]; done) | exact absurd c59 (by decide) | exact absurd rfl (gs_ok c59).1 | exact absurd rfl (gs_ok c59).2.1 | exact absurd rfl (gs_ok c59).2.2⟩
            · refine j_iconst (v := 0) C d_M_act_103 (by decide) ?_
              exact j_zreturn C d_M_act_104 rfl (by decide) (by decide) (by decide) ⟨by first | (simp [mact, mkn, kn2, nar1, nar0, pk_un, upa_n, c5, c39, c59, c79, c89, c100]; done) | (simp [mact, mkn, kn2, gsI, bz, nar1, nar0, pk_un, upa_n, c5, c39, c59, c79, c89, c100]; done) | exact absurd c59 (by decide) | exact absurd rfl (gs_ok c59).1 | exact absurd rfl (gs_ok c59).2.1 | exact absurd rfl (gs_ok c59).2.2, rfl, by first | (simp [mact, mkn, kn2, nar1, nar0, pk_un, upa_n, c5, c39, c59, c79, c89, c100]; done) | (simp [mact, mkn, kn2, gsI, bz, nar1, nar0, pk_un, upa_n, c5, c39, c59, c79, c89, c100]; done) | exact absurd c59 (by decide) | exact absurd rfl (gs_ok c59).1 | exact absurd rfl (gs_ok c59).2.1 | exact absurd rfl (gs_ok c59).2.2⟩
      · refine j_iconst (v := 0) C d_M_act_62 (by decide) ?_
        exact j_zreturn C d_M_act_63 rfl (by decide) (by decide) (by decide) ⟨by first | (simp [mact, mkn, kn2, nar1, nar0, pk_un, upa_n, c5, c39, c59]; done) | (simp [mact, mkn, kn2, gsI, bz, nar1, nar0, pk_un, upa_n, c5, c39, c59]; done) | exact absurd c59 (by decide) | exact absurd rfl (gs_ok c59).1 | exact absurd rfl (gs_ok c59).2.1 | exact absurd rfl (gs_ok c59).2.2, rfl, by first | (simp [mact, mkn, kn2, nar1, nar0, pk_un, upa_n, c5, c39, c59]; done) | (simp [mact, mkn, kn2, gsI, bz, nar1, nar0, pk_un, upa_n, c5, c39, c59]; done) | exact absurd c59 (by decide) | exact absurd rfl (gs_ok c59).1 | exact absurd rfl (gs_ok c59).2.1 | exact absurd rfl (gs_ok c59).2.2⟩
    · refine j_aload_n C d_M_act_42 rfl rfl ?_
      refine jm_get C fl_6_25 d_M_act_43 hmo rfl ?_
      refine j_iload_n C d_M_act_46 rfl rfl ?_
      refine jm_iald C 5 d_M_act_47 (by decide) rfl hmo (by first | exact ix_r hnr hle (by omega) (by omega) (by assumption) | exact absurd rfl c39) rfl ?_
      refine j_if_ne (tgt := 55) C d_M_act_48 (by decide) (fun c48 => ?_) (fun c48 => ?_)
      · refine j_iconst (v := 0) C d_M_act_55 (by decide) ?_
        refine j_callV C d_M_act_56 ml_M_109 mc_M_goes in_M_goes rfl se_M_goes (by omega) (ovM_o _ _ _ _) (c_M_goes hl _ _ _ _ _ _ hmo) rfl rfl (Nat.le_of_ble_eq_true rfl) (Nat.le_of_ble_eq_true rfl) (Nat.le_of_ble_eq_true rfl) (Nat.le_of_ble_eq_true rfl) (jk_r ?_)
        refine j_if_ne (tgt := 64) C d_M_act_59 (by decide) (fun c59 => ?_) (fun c59 => ?_)
        · refine j_bipush (v := 20) C d_M_act_64 (by decide) ?_
          refine j_iload_n C d_M_act_66 rfl rfl ?_
          refine j_imul C d_M_act_67 ?_
          refine j_iload_n C d_M_act_68 rfl rfl ?_
          refine j_iadd C d_M_act_69 ?_
          refine j_istore C d_M_act_70 (by decide) rfl ?_
          refine j_aload_n C d_M_act_72 rfl rfl ?_
          refine jm_get C fl_6_31 d_M_act_73 hmo rfl ?_
          refine j_iload C d_M_act_76 rfl ?_
          refine jm_zald C 7 d_M_act_78 (by decide) rfl hmo (by first | exact ix_rf hnr hle (by assumption) (by assumption) | exact ix_rk hnr hle (by assumption) (by assumption) | exact ix_r hnr hle (by omega) (by omega) (by assumption) | exact absurd rfl (gs_ok c59).1 | exact absurd rfl (gs_ok c59).2.1 | exact absurd rfl (gs_ok c59).2.2) rfl ?_
          refine j_if_eq (tgt := 105) C d_M_act_79 (by decide) (fun c79 => ?_) (fun c79 => ?_)
          · refine j_aload_n C d_M_act_105 rfl rfl ?_
            refine jm_get C fl_6_31 d_M_act_106 hmo rfl ?_
            refine j_iload C d_M_act_109 rfl ?_
            refine j_iconst (v := 1) C d_M_act_111 (by decide) ?_
            refine jm_zasti C 7 10 d_M_act_112 (by decide) rfl hmo (by first | exact ix_rf hnr hle (by assumption) (by assumption) | exact ix_rk hnr hle (by assumption) (by assumption) | exact ix_r hnr hle (by omega) (by omega) (by assumption) | exact absurd rfl (gs_ok c59).1 | exact absurd rfl (gs_ok c59).2.1 | exact absurd rfl (gs_ok c59).2.2) rfl ?_
            refine j_aload_n C d_M_act_113 rfl rfl ?_
            refine jm_get C fl_6_35 d_M_act_114 hmo rfl ?_
            refine j_iload C d_M_act_117 rfl ?_
            refine j_iconst (v := 1) C d_M_act_119 (by decide) ?_
            refine jm_zasti C 8 11 d_M_act_120 (by decide) rfl hmo (by first | exact ix_rf hnr hle (by assumption) (by assumption) | exact ix_rk hnr hle (by assumption) (by assumption) | exact ix_r hnr hle (by omega) (by omega) (by assumption) | exact absurd rfl (gs_ok c59).1 | exact absurd rfl (gs_ok c59).2.1 | exact absurd rfl (gs_ok c59).2.2) rfl ?_
            refine j_aload_n C d_M_act_121 rfl rfl ?_
            refine jm_get C fl_6_41 d_M_act_122 hmo rfl ?_
            refine j_iload C d_M_act_125 rfl ?_
            refine j_iload_n C d_M_act_127 rfl rfl ?_
            refine jm_iasti C 10 13 d_M_act_128 (by decide) rfl hmo (by first | exact ix_rf hnr hle (by assumption) (by assumption) | exact ix_rk hnr hle (by assumption) (by assumption) | exact ix_r hnr hle (by omega) (by omega) (by assumption) | exact absurd rfl (gs_ok c59).1 | exact absurd rfl (gs_ok c59).2.1 | exact absurd rfl (gs_ok c59).2.2) rfl ?_
            refine j_iconst (v := 1) C d_M_act_129 (by decide) ?_
            exact j_zreturn C d_M_act_130 rfl (by decide) (by decide) (by decide) ⟨by first | (simp [mact, mkn, kn2, nar1, nar0, pk_un, upa_n, c5, c39, c48, c59, c79]; done) | (simp [mact, mkn, kn2, gsI, bz, nar1, nar0, pk_un, upa_n, c5, c39, c48, c59, c79]; done) | exact absurd c59 (by decide) | exact absurd rfl (gs_ok c59).1 | exact absurd rfl (gs_ok c59).2.1 | exact absurd rfl (gs_ok c59).2.2, rfl, by first | (simp [mact, mkn, kn2, nar1, nar0, pk_un, upa_n, c5, c39, c48, c59, c79]; done) | (simp [mact, mkn, kn2, gsI, bz, nar1, nar0, pk_un, upa_n, c5, c39, c48, c59, c79]; done) | exact absurd c59 (by decide) | exact absurd rfl (gs_ok c59).1 | exact absurd rfl (gs_ok c59).2.1 | exact absurd rfl (gs_ok c59).2.2⟩
          · refine j_aload_n C d_M_act_82 rfl rfl ?_
            refine jm_get C fl_6_35 d_M_act_83 hmo rfl ?_
            refine j_iload C d_M_act_86 rfl ?_
            refine jm_zald C 8 d_M_act_88 (by decide) rfl hmo (by first | exact ix_rf hnr hle (by assumption) (by assumption) | exact ix_rk hnr hle (by assumption) (by assumption) | exact ix_r hnr hle (by omega) (by omega) (by assumption) | exact absurd rfl (gs_ok c59).1 | exact absurd rfl (gs_ok c59).2.1 | exact absurd rfl (gs_ok c59).2.2) rfl ?_
            refine j_if_eq (tgt := 103) C d_M_act_89 (by decide) (fun c89 => ?_) (fun c89 => ?_)
            · refine j_iconst (v := 0) C d_M_act_103 (by decide) ?_
              exact j_zreturn C d_M_act_104 rfl (by decide) (by decide) (by decide) ⟨by first | (simp [mact, mkn, kn2, nar1, nar0, pk_un, upa_n, c5, c39, c48, c59, c79, c89]; done) | (simp [mact, mkn, kn2, gsI, bz, nar1, nar0, pk_un, upa_n, c5, c39, c48, c59, c79, c89]; done) | exact absurd c59 (by decide) | exact absurd rfl (gs_ok c59).1 | exact absurd rfl (gs_ok c59).2.1 | exact absurd rfl (gs_ok c59).2.2, rfl, by first | (simp [mact, mkn, kn2, nar1, nar0, pk_un, upa_n, c5, c39, c48, c59, c79, c89]; done) | (simp [mact, mkn, kn2, gsI, bz, nar1, nar0, pk_un, upa_n, c5, c39, c48, c59, c79, c89]; done) | exact absurd c59 (by decide) | exact absurd rfl (gs_ok c59).1 | exact absurd rfl (gs_ok c59).2.1 | exact absurd rfl (gs_ok c59).2.2⟩
            · refine j_aload_n C d_M_act_92 rfl rfl ?_
              refine jm_get C fl_6_41 d_M_act_93 hmo rfl ?_
              refine j_iload C d_M_act_96 rfl ?_
              refine jm_iald C 10 d_M_act_98 (by decide) rfl hmo (by first | exact ix_rf hnr hle (by assumption) (by assumption) | exact ix_rk hnr hle (by assumption) (by assumption) | exact ix_r hnr hle (by omega) (by omega) (by assumption) | exact absurd rfl (gs_ok c59).1 | exact absurd rfl (gs_ok c59).2.1 | exact absurd rfl (gs_ok c59).2.2) rfl ?_
              refine j_iload_n C d_M_act_99 rfl rfl ?_
              refine j_icmp_gt (tgt := 105) C d_M_act_100 (by decide) (fun c100 => ?_) (fun c100 => ?_)
              · refine j_aload_n C d_M_act_105 rfl rfl ?_
                refine jm_get C fl_6_31 d_M_act_106 hmo rfl ?_
                refine j_iload C d_M_act_109 rfl ?_
                refine j_iconst (v := 1) C d_M_act_111 (by decide) ?_
                refine jm_zasti C 7 10 d_M_act_112 (by decide) rfl hmo (by first | exact ix_rf hnr hle (by assumption) (by assumption) | exact ix_rk hnr hle (by assumption) (by assumption) | exact ix_r hnr hle (by omega) (by omega) (by assumption) | exact absurd rfl (gs_ok c59).1 | exact absurd rfl (gs_ok c59).2.1 | exact absurd rfl (gs_ok c59).2.2) rfl ?_
                refine j_aload_n C d_M_act_113 rfl rfl ?_
                refine jm_get C fl_6_35 d_M_act_114 hmo rfl ?_
                refine j_iload C d_M_act_117 rfl ?_
                refine j_iconst (v := 1) C d_M_act_119 (by decide) ?_
                refine jm_zasti C 8 11 d_M_act_120 (by decide) rfl hmo (by first | exact ix_rf hnr hle (by assumption) (by assumption) | exact ix_rk hnr hle (by assumption) (by assumption) | exact ix_r hnr hle (by omega) (by omega) (by assumption) | exact absurd rfl (gs_ok c59).1 | exact absurd rfl (gs_ok c59).2.1 | exact absurd rfl (gs_ok c59).2.2) rfl ?_
                refine j_aload_n C d_M_act_121 rfl rfl ?_
                refine jm_get C fl_6_41 d_M_act_122 hmo rfl ?_
                refine j_iload C d_M_act_125 rfl ?_
                refine j_iload_n C d_M_act_127 rfl rfl ?_
                refine jm_iasti C 10 13 d_M_act_128 (by decide) rfl hmo (by first | exact ix_rf hnr hle (by assumption) (by assumption) | exact ix_rk hnr hle (by assumption) (by assumption) | exact ix_r hnr hle (by omega) (by omega) (by assumption) | exact absurd rfl (gs_ok c59).1 | exact absurd rfl (gs_ok c59).2.1 | exact absurd rfl (gs_ok c59).2.2) rfl ?_
                refine j_iconst (v := 1) C d_M_act_129 (by decide) ?_
                exact j_zreturn C d_M_act_130 rfl (by decide) (by decide) (by decide) ⟨by first | (simp [mact, mkn, kn2, nar1, nar0, pk_un, upa_n, c5, c39, c48, c59, c79, c89, c100]; done) | (simp [mact, mkn, kn2, gsI, bz, nar1, nar0, pk_un, upa_n, c5, c39, c48, c59, c79, c89, c100]; done) | exact absurd c59 (by decide) | exact absurd rfl (gs_ok c59).1 | exact absurd rfl (gs_ok c59).2.1 | exact absurd rfl (gs_ok c59).2.2, rfl, by first | (simp [mact, mkn, kn2, nar1, nar0, pk_un, upa_n, c5, c39, c48, c59, c79, c89, c100]; done) | (simp [mact, mkn, kn2, gsI, bz, nar1, nar0, pk_un, upa_n, c5, c39, c48, c59, c79, c89, c100]; done) | exact absurd c59 (by decide) | exact absurd rfl (gs_ok c59).1 | exact absurd rfl (gs_ok c59).2.1 | exact absurd rfl (gs_ok c59).2.2⟩
              · refine j_iconst (v := 0) C d_M_act_103 (by decide) ?_
                exact j_zreturn C d_M_act_104 rfl (by decide) (by decide) (by decide) ⟨by first | (simp [mact, mkn, kn2, nar1, nar0, pk_un, upa_n, c5, c39, c48, c59, c79, c89, c100]; done) | (simp [mact, mkn, kn2, gsI, bz, nar1, nar0, pk_un, upa_n, c5, c39, c48, c59, c79, c89, c100]; done) | exact absurd c59 (by decide) | exact absurd rfl (gs_ok c59).1 | exact absurd rfl (gs_ok c59).2.1 | exact absurd rfl (gs_ok c59).2.2, rfl, by first | (simp [mact, mkn, kn2, nar1, nar0, pk_un, upa_n, c5, c39, c48, c59, c79, c89, c100]; done) | (simp [mact, mkn, kn2, gsI, bz, nar1, nar0, pk_un, upa_n, c5, c39, c48, c59, c79, c89, c100]; done) | exact absurd c59 (by decide) | exact absurd rfl (gs_ok c59).1 | exact absurd rfl (gs_ok c59).2.1 | exact absurd rfl (gs_ok c59).2.2⟩
        · refine j_iconst (v := 0) C d_M_act_62 (by decide) ?_
          exact j_zreturn C d_M_act_63 rfl (by decide) (by decide) (by decide) ⟨by first | (simp [mact, mkn, kn2, nar1, nar0, pk_un, upa_n, c5, c39, c48, c59]; done) | (simp [mact, mkn, kn2, gsI, bz, nar1, nar0, pk_un, upa_n, c5, c39, c48, c59]; done) | exact absurd c59 (by decide) | exact absurd rfl (gs_ok c59).1 | exact absurd rfl (gs_ok c59).2.1 | exact absurd rfl (gs_ok c59).2.2, rfl, by first | (simp [mact, mkn, kn2, nar1, nar0, pk_un, upa_n, c5, c39, c48, c59]; done) | (simp [mact, mkn, kn2, gsI, bz, nar1, nar0, pk_un, upa_n, c5, c39, c48, c59]; done) | exact absurd c59 (by decide) | exact absurd rfl (gs_ok c59).1 | exact absurd rfl (gs_ok c59).2.1 | exact absurd rfl (gs_ok c59).2.2⟩
      · refine j_iconst (v := 1) C d_M_act_51 (by decide) ?_
        refine j_goto (tgt := 56) C d_M_act_52 (by decide) ?_
        refine j_callV C d_M_act_56 ml_M_109 mc_M_goes in_M_goes rfl se_M_goes (by omega) (ovM_o _ _ _ _) (c_M_goes hl _ _ _ _ _ _ hmo) rfl rfl (Nat.le_of_ble_eq_true rfl) (Nat.le_of_ble_eq_true rfl) (Nat.le_of_ble_eq_true rfl) (Nat.le_of_ble_eq_true rfl) (jk_r ?_)
        refine j_if_ne (tgt := 64) C d_M_act_59 (by decide) (fun c59 => ?_) (fun c59 => ?_)
        · refine j_bipush (v := 20) C d_M_act_64 (by decide) ?_
          refine j_iload_n C d_M_act_66 rfl rfl ?_
          refine j_imul C d_M_act_67 ?_
          refine j_iload_n C d_M_act_68 rfl rfl ?_
          refine j_iadd C d_M_act_69 ?_
          refine j_istore C d_M_act_70 (by decide) rfl ?_
          refine j_aload_n C d_M_act_72 rfl rfl ?_
          refine jm_get C fl_6_31 d_M_act_73 hmo rfl ?_
          refine j_iload C d_M_act_76 rfl ?_
          refine jm_zald C 7 d_M_act_78 (by decide) rfl hmo (by first | exact ix_rf hnr hle (by assumption) (by assumption) | exact ix_rk hnr hle (by assumption) (by assumption) | exact ix_r hnr hle (by omega) (by omega) (by assumption) | exact absurd rfl (gs_ok c59).1 | exact absurd rfl (gs_ok c59).2.1 | exact absurd rfl (gs_ok c59).2.2) rfl ?_
          refine j_if_eq (tgt := 105) C d_M_act_79 (by decide) (fun c79 => ?_) (fun c79 => ?_)
          · refine j_aload_n C d_M_act_105 rfl rfl ?_
            refine jm_get C fl_6_31 d_M_act_106 hmo rfl ?_
            refine j_iload C d_M_act_109 rfl ?_
            refine j_iconst (v := 1) C d_M_act_111 (by decide) ?_
            refine jm_zasti C 7 10 d_M_act_112 (by decide) rfl hmo (by first | exact ix_rf hnr hle (by assumption) (by assumption) | exact ix_rk hnr hle (by assumption) (by assumption) | exact ix_r hnr hle (by omega) (by omega) (by assumption) | exact absurd rfl (gs_ok c59).1 | exact absurd rfl (gs_ok c59).2.1 | exact absurd rfl (gs_ok c59).2.2) rfl ?_
            refine j_aload_n C d_M_act_113 rfl rfl ?_
            refine jm_get C fl_6_35 d_M_act_114 hmo rfl ?_
            refine j_iload C d_M_act_117 rfl ?_
            refine j_iconst (v := 1) C d_M_act_119 (by decide) ?_
            refine jm_zasti C 8 11 d_M_act_120 (by decide) rfl hmo (by first | exact ix_rf hnr hle (by assumption) (by assumption) | exact ix_rk hnr hle (by assumption) (by assumption) | exact ix_r hnr hle (by omega) (by omega) (by assumption) | exact absurd rfl (gs_ok c59).1 | exact absurd rfl (gs_ok c59).2.1 | exact absurd rfl (gs_ok c59).2.2) rfl ?_
            refine j_aload_n C d_M_act_121 rfl rfl ?_
            refine jm_get C fl_6_41 d_M_act_122 hmo rfl ?_
            refine j_iload C d_M_act_125 rfl ?_
            refine j_iload_n C d_M_act_127 rfl rfl ?_
            refine jm_iasti C 10 13 d_M_act_128 (by decide) rfl hmo (by first | exact ix_rf hnr hle (by assumption) (by assumption) | exact ix_rk hnr hle (by assumption) (by assumption) | exact ix_r hnr hle (by omega) (by omega) (by assumption) | exact absurd rfl (gs_ok c59).1 | exact absurd rfl (gs_ok c59).2.1 | exact absurd rfl (gs_ok c59).2.2) rfl ?_
            refine j_iconst (v := 1) C d_M_act_129 (by decide) ?_
            exact j_zreturn C d_M_act_130 rfl (by decide) (by decide) (by decide) ⟨by first | (simp [mact, mkn, kn2, nar1, nar0, pk_un, upa_n, c5, c39, c48, c59, c79]; done) | (simp [mact, mkn, kn2, gsI, bz, nar1, nar0, pk_un, upa_n, c5, c39, c48, c59, c79]; done) | exact absurd c59 (by decide) | exact absurd rfl (gs_ok c59).1 | exact absurd rfl (gs_ok c59).2.1 | exact absurd rfl (gs_ok c59).2.2, rfl, by first | (simp [mact, mkn, kn2, nar1, nar0, pk_un, upa_n, c5, c39, c48, c59, c79]; done) | (simp [mact, mkn, kn2, gsI, bz, nar1, nar0, pk_un, upa_n, c5, c39, c48, c59, c79]; done) | exact absurd c59 (by decide) | exact absurd rfl (gs_ok c59).1 | exact absurd rfl (gs_ok c59).2.1 | exact absurd rfl (gs_ok c59).2.2⟩
          · refine j_aload_n C d_M_act_82 rfl rfl ?_
            refine jm_get C fl_6_35 d_M_act_83 hmo rfl ?_
            refine j_iload C d_M_act_86 rfl ?_
            refine jm_zald C 8 d_M_act_88 (by decide) rfl hmo (by first | exact ix_rf hnr hle (by assumption) (by assumption) | exact ix_rk hnr hle (by assumption) (by assumption) | exact ix_r hnr hle (by omega) (by omega) (by assumption) | exact absurd rfl (gs_ok c59).1 | exact absurd rfl (gs_ok c59).2.1 | exact absurd rfl (gs_ok c59).2.2) rfl ?_
            refine j_if_eq (tgt := 103) C d_M_act_89 (by decide) (fun c89 => ?_) (fun c89 => ?_)
            · refine j_iconst (v := 0) C d_M_act_103 (by decide) ?_
              exact j_zreturn C d_M_act_104 rfl (by decide) (by decide) (by decide) ⟨by first | (simp [mact, mkn, kn2, nar1, nar0, pk_un, upa_n, c5, c39, c48, c59, c79, c89]; done) | (simp [mact, mkn, kn2, gsI, bz, nar1, nar0, pk_un, upa_n, c5, c39, c48, c59, c79, c89]; done) | exact absurd c59 (by decide) | exact absurd rfl (gs_ok c59).1 | exact absurd rfl (gs_ok c59).2.1 | exact absurd rfl (gs_ok c59).2.2, rfl, by first | (simp [mact, mkn, kn2, nar1, nar0, pk_un, upa_n, c5, c39, c48, c59, c79, c89]; done) | (simp [mact, mkn, kn2, gsI, bz, nar1, nar0, pk_un, upa_n, c5, c39, c48, c59, c79, c89]; done) | exact absurd c59 (by decide) | exact absurd rfl (gs_ok c59).1 | exact absurd rfl (gs_ok c59).2.1 | exact absurd rfl (gs_ok c59).2.2⟩
            · refine j_aload_n C d_M_act_92 rfl rfl ?_
              refine jm_get C fl_6_41 d_M_act_93 hmo rfl ?_
              refine j_iload C d_M_act_96 rfl ?_
              refine jm_iald C 10 d_M_act_98 (by decide) rfl hmo (by first | exact ix_rf hnr hle (by assumption) (by assumption) | exact ix_rk hnr hle (by assumption) (by assumption) | exact ix_r hnr hle (by omega) (by omega) (by assumption) | exact absurd rfl (gs_ok c59).1 | exact absurd rfl (gs_ok c59).2.1 | exact absurd rfl (gs_ok c59).2.2) rfl ?_
              refine j_iload_n C d_M_act_99 rfl rfl ?_
              refine j_icmp_gt (tgt := 105) C d_M_act_100 (by decide) (fun c100 => ?_) (fun c100 => ?_)
              · refine j_aload_n C d_M_act_105 rfl rfl ?_
                refine jm_get C fl_6_31 d_M_act_106 hmo rfl ?_
                refine j_iload C d_M_act_109 rfl ?_
                refine j_iconst (v := 1) C d_M_act_111 (by decide) ?_
                refine jm_zasti C 7 10 d_M_act_112 (by decide) rfl hmo (by first | exact ix_rf hnr hle (by assumption) (by assumption) | exact ix_rk hnr hle (by assumption) (by assumption) | exact ix_r hnr hle (by omega) (by omega) (by assumption) | exact absurd rfl (gs_ok c59).1 | exact absurd rfl (gs_ok c59).2.1 | exact absurd rfl (gs_ok c59).2.2) rfl ?_
                refine j_aload_n C d_M_act_113 rfl rfl ?_
                refine jm_get C fl_6_35 d_M_act_114 hmo rfl ?_
                refine j_iload C d_M_act_117 rfl ?_
                refine j_iconst (v := 1) C d_M_act_119 (by decide) ?_
                refine jm_zasti C 8 11 d_M_act_120 (by decide) rfl hmo (by first | exact ix_rf hnr hle (by assumption) (by assumption) | exact ix_rk hnr hle (by assumption) (by assumption) | exact ix_r hnr hle (by omega) (by omega) (by assumption) | exact absurd rfl (gs_ok c59).1 | exact absurd rfl (gs_ok c59).2.1 | exact absurd rfl (gs_ok c59).2.2) rfl ?_
                refine j_aload_n C d_M_act_121 rfl rfl ?_
                refine jm_get C fl_6_41 d_M_act_122 hmo rfl ?_
                refine j_iload C d_M_act_125 rfl ?_
                refine j_iload_n C d_M_act_127 rfl rfl ?_
                refine jm_iasti C 10 13 d_M_act_128 (by decide) rfl hmo (by first | exact ix_rf hnr hle (by assumption) (by assumption) | exact ix_rk hnr hle (by assumption) (by assumption) | exact ix_r hnr hle (by omega) (by omega) (by assumption) | exact absurd rfl (gs_ok c59).1 | exact absurd rfl (gs_ok c59).2.1 | exact absurd rfl (gs_ok c59).2.2) rfl ?_
                refine j_iconst (v := 1) C d_M_act_129 (by decide) ?_
                exact j_zreturn C d_M_act_130 rfl (by decide) (by decide) (by decide) ⟨by first | (simp [mact, mkn, kn2, nar1, nar0, pk_un, upa_n, c5, c39, c48, c59, c79, c89, c100]; done) | (simp [mact, mkn, kn2, gsI, bz, nar1, nar0, pk_un, upa_n, c5, c39, c48, c59, c79, c89, c100]; done) | exact absurd c59 (by decide) | exact absurd rfl (gs_ok c59).1 | exact absurd rfl (gs_ok c59).2.1 | exact absurd rfl (gs_ok c59).2.2, rfl, by first | (simp [mact, mkn, kn2, nar1, nar0, pk_un, upa_n, c5, c39, c48, c59, c79, c89, c100]; done) | (simp [mact, mkn, kn2, gsI, bz, nar1, nar0, pk_un, upa_n, c5, c39, c48, c59, c79, c89, c100]; done) | exact absurd c59 (by decide) | exact absurd rfl (gs_ok c59).1 | exact absurd rfl (gs_ok c59).2.1 | exact absurd rfl (gs_ok c59).2.2⟩
              · refine j_iconst (v := 0) C d_M_act_103 (by decide) ?_
                exact j_zreturn C d_M_act_104 rfl (by decide) (by decide) (by decide) ⟨by first | (simp [mact, mkn, kn2, nar1, nar0, pk_un, upa_n, c5, c39, c48, c59, c79, c89, c100]; done) | (simp [mact, mkn, kn2, gsI, bz, nar1, nar0, pk_un, upa_n, c5, c39, c48, c59, c79, c89, c100]; done) | exact absurd c59 (by decide) | exact absurd rfl (gs_ok c59).1 | exact absurd rfl (gs_ok c59).2.1 | exact absurd rfl (gs_ok c59).2.2, rfl, by first | (simp [mact, mkn, kn2, nar1, nar0, pk_un, upa_n, c5, c39, c48, c59, c79, c89, c100]; done) | (simp [mact, mkn, kn2, gsI, bz, nar1, nar0, pk_un, upa_n, c5, c39, c48, c59, c79, c89, c100]; done) | exact absurd c59 (by decide) | exact absurd rfl (gs_ok c59).1 | exact absurd rfl (gs_ok c59).2.1 | exact absurd rfl (gs_ok c59).2.2⟩
        · refine j_iconst (v := 0) C d_M_act_62 (by decide) ?_
          exact j_zreturn C d_M_act_63 rfl (by decide) (by decide) (by decide) ⟨by first | (simp [mact, mkn, kn2, nar1, nar0, pk_un, upa_n, c5, c39, c48, c59]; done) | (simp [mact, mkn, kn2, gsI, bz, nar1, nar0, pk_un, upa_n, c5, c39, c48, c59]; done) | exact absurd c59 (by decide) | exact absurd rfl (gs_ok c59).1 | exact absurd rfl (gs_ok c59).2.1 | exact absurd rfl (gs_ok c59).2.2, rfl, by first | (simp [mact, mkn, kn2, nar1, nar0, pk_un, upa_n, c5, c39, c48, c59]; done) | (simp [mact, mkn, kn2, gsI, bz, nar1, nar0, pk_un, upa_n, c5, c39, c48, c59]; done) | exact absurd c59 (by decide) | exact absurd rfl (gs_ok c59).1 | exact absurd rfl (gs_ok c59).2.1 | exact absurd rfl (gs_ok c59).2.2⟩
  · refine j_iload_n C d_M_act_8 rfl rfl ?_
    refine j_iconst (v := 0) C d_M_act_9 (by decide) ?_
    refine j_bipush (v := 9) C d_M_act_10 (by decide) ?_
    refine j_callS C d_M_act_12 ml_M_102 mc_M_in st_M_in (c_M_in hl _ _ _ _) rfl rfl (Nat.le_of_ble_eq_true rfl) (Nat.le_of_ble_eq_true rfl) (Nat.le_of_ble_eq_true rfl) (Nat.le_of_ble_eq_true rfl) (jk_r ?_)
    refine j_if_eq (tgt := 22) C d_M_act_15 (by decide) (fun c15 => ?_) (fun c15 => ?_)
    · refine j_iconst (v := 0) C d_M_act_22 (by decide) ?_
      refine j_istore C d_M_act_23 (by decide) rfl ?_
      refine j_aload_n C d_M_act_25 rfl rfl ?_
      refine j_iload C d_M_act_26 rfl ?_
      refine j_iload_n C d_M_act_28 rfl rfl ?_
      refine j_iconst (v := 0) C d_M_act_29 (by decide) ?_
      refine j_aload_n C d_M_act_30 rfl rfl ?_
      refine jm_get C fl_6_106 d_M_act_31 hmo rfl ?_
      refine j_callS C d_M_act_34 ml_M_102 mc_M_in st_M_in (c_M_in hl _ _ _ _) rfl rfl (Nat.le_of_ble_eq_true rfl) (Nat.le_of_ble_eq_true rfl) (Nat.le_of_ble_eq_true rfl) (Nat.le_of_ble_eq_true rfl) (jk_r ?_)
      refine j_iload C d_M_act_37 rfl ?_
      refine j_if_eq (tgt := 55) C d_M_act_39 (by decide) (fun c39 => ?_) (fun c39 => ?_)
      · refine j_iconst (v := 0) C d_M_act_55 (by decide) ?_
        refine j_callV C d_M_act_56 ml_M_109 mc_M_goes in_M_goes rfl se_M_goes (by omega) (ovM_o _ _ _ _) (c_M_goes hl _ _ _ _ _ _ hmo) rfl rfl (Nat.le_of_ble_eq_true rfl) (Nat.le_of_ble_eq_true rfl) (Nat.le_of_ble_eq_true rfl) (Nat.le_of_ble_eq_true rfl) (jk_r ?_)
        refine j_if_ne (tgt := 64) C d_M_act_59 (by decide) (fun c59 => ?_) (fun c59 => ?_)
        · refine j_bipush (v := 20) C d_M_act_64 (by decide) ?_
          refine j_iload_n C d_M_act_66 rfl rfl ?_
          refine j_imul C d_M_act_67 ?_
          refine j_iload_n C d_M_act_68 rfl rfl ?_
          refine j_iadd C d_M_act_69 ?_
          refine j_istore C d_M_act_70 (by decide) rfl ?_
          refine j_aload_n C d_M_act_72 rfl rfl ?_
          refine jm_get C fl_6_31 d_M_act_73 hmo rfl ?_
          refine j_iload C d_M_act_76 rfl ?_
          refine jm_zald C 7 d_M_act_78 (by decide) rfl hmo (by first | exact ix_rf hnr hle (by assumption) (by assumption) | exact ix_rk hnr hle (by assumption) (by assumption) | exact ix_r hnr hle (by omega) (by omega) (by assumption) | exact absurd rfl (gs_ok c59).1 | exact absurd rfl (gs_ok c59).2.1 | exact absurd rfl (gs_ok c59).2.2) rfl ?_
          refine j_if_eq (tgt := 105) C d_M_act_79 (by decide) (fun c79 => ?_) (fun c79 => ?_)
          · refine j_aload_n C d_M_act_105 rfl rfl ?_
            refine jm_get C fl_6_31 d_M_act_106 hmo rfl ?_
            refine j_iload C d_M_act_109 rfl ?_
            refine j_iconst (v := 1) C d_M_act_111 (by decide) ?_
            refine jm_zasti C 7 10 d_M_act_112 (by decide) rfl hmo (by first | exact ix_rf hnr hle (by assumption) (by assumption) | exact ix_rk hnr hle (by assumption) (by assumption) | exact ix_r hnr hle (by omega) (by omega) (by assumption) | exact absurd rfl (gs_ok c59).1 | exact absurd rfl (gs_ok c59).2.1 | exact absurd rfl (gs_ok c59).2.2) rfl ?_
            refine j_aload_n C d_M_act_113 rfl rfl ?_
            refine jm_get C fl_6_35 d_M_act_114 hmo rfl ?_
            refine j_iload C d_M_act_117 rfl ?_
            refine j_iconst (v := 1) C d_M_act_119 (by decide) ?_
            refine jm_zasti C 8 11 d_M_act_120 (by decide) rfl hmo (by first | exact ix_rf hnr hle (by assumption) (by assumption) | exact ix_rk hnr hle (by assumption) (by assumption) | exact ix_r hnr hle (by omega) (by omega) (by assumption) | exact absurd rfl (gs_ok c59).1 | exact absurd rfl (gs_ok c59).2.1 | exact absurd rfl (gs_ok c59).2.2) rfl ?_
            refine j_aload_n C d_M_act_121 rfl rfl ?_
            refine jm_get C fl_6_41 d_M_act_122 hmo rfl ?_
            refine j_iload C d_M_act_125 rfl ?_
            refine j_iload_n C d_M_act_127 rfl rfl ?_
            refine jm_iasti C 10 13 d_M_act_128 (by decide) rfl hmo (by first | exact ix_rf hnr hle (by assumption) (by assumption) | exact ix_rk hnr hle (by assumption) (by assumption) | exact ix_r hnr hle (by omega) (by omega) (by assumption) | exact absurd rfl (gs_ok c59).1 | exact absurd rfl (gs_ok c59).2.1 | exact absurd rfl (gs_ok c59).2.2) rfl ?_
            refine j_iconst (v := 1) C d_M_act_129 (by decide) ?_
            exact j_zreturn C d_M_act_130 rfl (by decide) (by decide) (by decide) ⟨by first | (simp [mact, mkn, kn2, nar1, nar0, pk_un, upa_n, c5, c15, c39, c59, c79]; done) | (simp [mact, mkn, kn2, gsI, bz, nar1, nar0, pk_un, upa_n, c5, c15, c39, c59, c79]; done) | exact absurd c59 (by decide) | exact absurd rfl (gs_ok c59).1 | exact absurd rfl (gs_ok c59).2.1 | exact absurd rfl (gs_ok c59).2.2, rfl, by first | (simp [mact, mkn, kn2, nar1, nar0, pk_un, upa_n, c5, c15, c39, c59, c79]; done) | (simp [mact, mkn, kn2, gsI, bz, nar1, nar0, pk_un, upa_n, c5, c15, c39, c59, c79]; done) | exact absurd c59 (by decide) | exact absurd rfl (gs_ok c59).1 | exact absurd rfl (gs_ok c59).2.1 | exact absurd rfl (gs_ok c59).2.2⟩
          · refine j_aload_n C d_M_act_82 rfl rfl ?_
            refine jm_get C fl_6_35 d_M_act_83 hmo rfl ?_
            refine j_iload C d_M_act_86 rfl ?_
            refine jm_zald C 8 d_M_act_88 (by decide) rfl hmo (by first | exact ix_rf hnr hle (by assumption) (by assumption) | exact ix_rk hnr hle (by assumption) (by assumption) | exact ix_r hnr hle (by omega) (by omega) (by assumption) | exact absurd rfl (gs_ok c59).1 | exact absurd rfl (gs_ok c59).2.1 | exact absurd rfl (gs_ok c59).2.2) rfl ?_
            refine j_if_eq (tgt := 103) C d_M_act_89 (by decide) (fun c89 => ?_) (fun c89 => ?_)
            · refine j_iconst (v := 0) C d_M_act_103 (by decide) ?_
              exact j_zreturn C d_M_act_104 rfl (by decide) (by decide) (by decide) ⟨by first | (simp [mact, mkn, kn2, nar1, nar0, pk_un, upa_n, c5, c15, c39, c59, c79, c89]; done) | (simp [mact, mkn, kn2, gsI, bz, nar1, nar0, pk_un, upa_n, c5, c15, c39, c59, c79, c89]; done) | exact absurd c59 (by decide) | exact absurd rfl (gs_ok c59).1 | exact absurd rfl (gs_ok c59).2.1 | exact absurd rfl (gs_ok c59).2.2, rfl, by first | (simp [mact, mkn, kn2, nar1, nar0, pk_un, upa_n, c5, c15, c39, c59, c79, c89]; done) | (simp [mact, mkn, kn2, gsI, bz, nar1, nar0, pk_un, upa_n, c5, c15, c39, c59, c79, c89]; done) | exact absurd c59 (by decide) | exact absurd rfl (gs_ok c59).1 | exact absurd rfl (gs_ok c59).2.1 | exact absurd rfl (gs_ok c59).2.2⟩
            · refine j_aload_n C d_M_act_92 rfl rfl ?_
              refine jm_get C fl_6_41 d_M_act_93 hmo rfl ?_
              refine j_iload C d_M_act_96 rfl ?_
              refine jm_iald C 10 d_M_act_98 (by decide) rfl hmo (by first | exact ix_rf hnr hle (by assumption) (by assumption) | exact ix_rk hnr hle (by assumption) (by assumption) | exact ix_r hnr hle (by omega) (by omega) (by assumption) | exact absurd rfl (gs_ok c59).1 | exact absurd rfl (gs_ok c59).2.1 | exact absurd rfl (gs_ok c59).2.2) rfl ?_
              refine j_iload_n C d_M_act_99 rfl rfl ?_
              refine j_icmp_gt (tgt := 105) C d_M_act_100 (by decide) (fun c100 => ?_) (fun c100 => ?_)
              · refine j_aload_n C d_M_act_105 rfl rfl ?_
                refine jm_get C fl_6_31 d_M_act_106 hmo rfl ?_
                refine j_iload C d_M_act_109 rfl ?_
                refine j_iconst (v := 1) C d_M_act_111 (by decide) ?_
                refine jm_zasti C 7 10 d_M_act_112 (by decide) rfl hmo (by first | exact ix_rf hnr hle (by assumption) (by assumption) | exact ix_rk hnr hle (by assumption) (by assumption) | exact ix_r hnr hle (by omega) (by omega) (by assumption) | exact absurd rfl (gs_ok c59).1 | exact absurd rfl (gs_ok c59).2.1 | exact absurd rfl (gs_ok c59).2.2) rfl ?_
                refine j_aload_n C d_M_act_113 rfl rfl ?_
                refine jm_get C fl_6_35 d_M_act_114 hmo rfl ?_
                refine j_iload C d_M_act_117 rfl ?_
                refine j_iconst (v := 1) C d_M_act_119 (by decide) ?_
                refine jm_zasti C 8 11 d_M_act_120 (by decide) rfl hmo (by first | exact ix_rf hnr hle (by assumption) (by assumption) | exact ix_rk hnr hle (by assumption) (by assumption) | exact ix_r hnr hle (by omega) (by omega) (by assumption) | exact absurd rfl (gs_ok c59).1 | exact absurd rfl (gs_ok c59).2.1 | exact absurd rfl (gs_ok c59).2.2) rfl ?_
                refine j_aload_n C d_M_act_121 rfl rfl ?_
                refine jm_get C fl_6_41 d_M_act_122 hmo rfl ?_
                refine j_iload C d_M_act_125 rfl ?_
                refine j_iload_n C d_M_act_127 rfl rfl ?_
                refine jm_iasti C 10 13 d_M_act_128 (by decide) rfl hmo (by first | exact ix_rf hnr hle (by assumption) (by assumption) | exact ix_rk hnr hle (by assumption) (by assumption) | exact ix_r hnr hle (by omega) (by omega) (by assumption) | exact absurd rfl (gs_ok c59).1 | exact absurd rfl (gs_ok c59).2.1 | exact absurd rfl (gs_ok c59).2.2) rfl ?_
                refine j_iconst (v := 1) C d_M_act_129 (by decide) ?_
                exact j_zreturn C d_M_act_130 rfl (by decide) (by decide) (by decide) ⟨by first | (simp [mact, mkn, kn2, nar1, nar0, pk_un, upa_n, c5, c15, c39, c59, c79, c89, c100]; done) | (simp [mact, mkn, kn2, gsI, bz, nar1, nar0, pk_un, upa_n, c5, c15, c39, c59, c79, c89, c100]; done) | exact absurd c59 (by decide) | exact absurd rfl (gs_ok c59).1 | exact absurd rfl (gs_ok c59).2.1 | exact absurd rfl (gs_ok c59).2.2, rfl, by first | (simp [mact, mkn, kn2, nar1, nar0, pk_un, upa_n, c5, c15, c39, c59, c79, c89, c100]; done) | (simp [mact, mkn, kn2, gsI, bz, nar1, nar0, pk_un, upa_n, c5, c15, c39, c59, c79, c89, c100]; done) | exact absurd c59 (by decide) | exact absurd rfl (gs_ok c59).1 | exact absurd rfl (gs_ok c59).2.1 | exact absurd rfl (gs_ok c59).2.2⟩
              · refine j_iconst (v := 0) C d_M_act_103 (by decide) ?_
                exact j_zreturn C d_M_act_104 rfl (by decide) (by decide) (by decide) ⟨by first | (simp [mact, mkn, kn2, nar1, nar0, pk_un, upa_n, c5, c15, c39, c59, c79, c89, c100]; done) | (simp [mact, mkn, kn2, gsI, bz, nar1, nar0, pk_un, upa_n, c5, c15, c39, c59, c79, c89, c100]; done) | exact absurd c59 (by decide) | exact absurd rfl (gs_ok c59).1 | exact absurd rfl (gs_ok c59).2.1 | exact absurd rfl (gs_ok c59).2.2, rfl, by first | (simp [mact, mkn, kn2, nar1, nar0, pk_un, upa_n, c5, c15, c39, c59, c79, c89, c100]; done) | (simp [mact, mkn, kn2, gsI, bz, nar1, nar0, pk_un, upa_n, c5, c15, c39, c59, c79, c89, c100]; done) | exact absurd c59 (by decide) | exact absurd rfl (gs_ok c59).1 | exact absurd rfl (gs_ok c59).2.1 | exact absurd rfl (gs_ok c59).2.2⟩
        · refine j_iconst (v := 0) C d_M_act_62 (by decide) ?_
          exact j_zreturn C d_M_act_63 rfl (by decide) (by decide) (by decide) ⟨by first | (simp [mact, mkn, kn2, nar1, nar0, pk_un, upa_n, c5, c15, c39, c59]; done) | (simp [mact, mkn, kn2, gsI, bz, nar1, nar0, pk_un, upa_n, c5, c15, c39, c59]; done) | exact absurd c59 (by decide) | exact absurd rfl (gs_ok c59).1 | exact absurd rfl (gs_ok c59).2.1 | exact absurd rfl (gs_ok c59).2.2, rfl, by first | (simp [mact, mkn, kn2, nar1, nar0, pk_un, upa_n, c5, c15, c39, c59]; done) | (simp [mact, mkn, kn2, gsI, bz, nar1, nar0, pk_un, upa_n, c5, c15, c39, c59]; done) | exact absurd c59 (by decide) | exact absurd rfl (gs_ok c59).1 | exact absurd rfl (gs_ok c59).2.1 | exact absurd rfl (gs_ok c59).2.2⟩
      · refine j_aload_n C d_M_act_42 rfl rfl ?_
        refine jm_get C fl_6_25 d_M_act_43 hmo rfl ?_
        refine j_iload_n C d_M_act_46 rfl rfl ?_
        refine jm_iald C 5 d_M_act_47 (by decide) rfl hmo (by first | exact ix_r hnr hle (by omega) (by omega) (by assumption) | exact absurd rfl c39) rfl ?_
        refine j_if_ne (tgt := 55) C d_M_act_48 (by decide) (fun c48 => ?_) (fun c48 => ?_)
        · refine j_iconst (v := 0) C d_M_act_55 (by decide) ?_
          refine j_callV C d_M_act_56 ml_M_109 mc_M_goes in_M_goes rfl se_M_goes (by omega) (ovM_o _ _ _ _) (c_M_goes hl _ _ _ _ _ _ hmo) rfl rfl (Nat.le_of_ble_eq_true rfl) (Nat.le_of_ble_eq_true rfl) (Nat.le_of_ble_eq_true rfl) (Nat.le_of_ble_eq_true rfl) (jk_r ?_)
          refine j_if_ne (tgt := 64) C d_M_act_59 (by decide) (fun c59 => ?_) (fun c59 => ?_)
          · refine j_bipush (v := 20) C d_M_act_64 (by decide) ?_
            refine j_iload_n C d_M_act_66 rfl rfl ?_
            refine j_imul C d_M_act_67 ?_
            refine j_iload_n C d_M_act_68 rfl rfl ?_
            refine j_iadd C d_M_act_69 ?_
            refine j_istore C d_M_act_70 (by decide) rfl ?_
            refine j_aload_n C d_M_act_72 rfl rfl ?_
            refine jm_get C fl_6_31 d_M_act_73 hmo rfl ?_
            refine j_iload C d_M_act_76 rfl ?_
            refine jm_zald C 7 d_M_act_78 (by decide) rfl hmo (by first | exact ix_rf hnr hle (by assumption) (by assumption) | exact ix_rk hnr hle (by assumption) (by assumption) | exact ix_r hnr hle (by omega) (by omega) (by assumption) | exact absurd rfl (gs_ok c59).1 | exact absurd rfl (gs_ok c59).2.1 | exact absurd rfl (gs_ok c59).2.2) rfl ?_
            refine j_if_eq (tgt := 105) C d_M_act_79 (by decide) (fun c79 => ?_) (fun c79 => ?_)
            · refine j_aload_n C d_M_act_105 rfl rfl ?_
              refine jm_get C fl_6_31 d_M_act_106 hmo rfl ?_
              refine j_iload C d_M_act_109 rfl ?_
              refine j_iconst (v := 1) C d_M_act_111 (by decide) ?_
              refine jm_zasti C 7 10 d_M_act_112 (by decide) rfl hmo (by first | exact ix_rf hnr hle (by assumption) (by assumption) | exact ix_rk hnr hle (by assumption) (by assumption) | exact ix_r hnr hle (by omega) (by omega) (by assumption) | exact absurd rfl (gs_ok c59).1 | exact absurd rfl (gs_ok c59).2.1 | exact absurd rfl (gs_ok c59).2.2) rfl ?_
              refine j_aload_n C d_M_act_113 rfl rfl ?_
              refine jm_get C fl_6_35 d_M_act_114 hmo rfl ?_
              refine j_iload C d_M_act_117 rfl ?_
              refine j_iconst (v := 1) C d_M_act_119 (by decide) ?_
              refine jm_zasti C 8 11 d_M_act_120 (by decide) rfl hmo (by first | exact ix_rf hnr hle (by assumption) (by assumption) | exact ix_rk hnr hle (by assumption) (by assumption) | exact ix_r hnr hle (by omega) (by omega) (by assumption) | exact absurd rfl (gs_ok c59).1 | exact absurd rfl (gs_ok c59).2.1 | exact absurd rfl (gs_ok c59).2.2) rfl ?_
              refine j_aload_n C d_M_act_121 rfl rfl ?_
              refine jm_get C fl_6_41 d_M_act_122 hmo rfl ?_
              refine j_iload C d_M_act_125 rfl ?_
              refine j_iload_n C d_M_act_127 rfl rfl ?_
              refine jm_iasti C 10 13 d_M_act_128 (by decide) rfl hmo (by first | exact ix_rf hnr hle (by assumption) (by assumption) | exact ix_rk hnr hle (by assumption) (by assumption) | exact ix_r hnr hle (by omega) (by omega) (by assumption) | exact absurd rfl (gs_ok c59).1 | exact absurd rfl (gs_ok c59).2.1 | exact absurd rfl (gs_ok c59).2.2) rfl ?_
              refine j_iconst (v := 1) C d_M_act_129 (by decide) ?_
              exact j_zreturn C d_M_act_130 rfl (by decide) (by decide) (by decide) ⟨by first | (simp [mact, mkn, kn2, nar1, nar0, pk_un, upa_n, c5, c15, c39, c48, c59, c79]; done) | (simp [mact, mkn, kn2, gsI, bz, nar1, nar0, pk_un, upa_n, c5, c15, c39, c48, c59, c79]; done) | exact absurd c59 (by decide) | exact absurd rfl (gs_ok c59).1 | exact absurd rfl (gs_ok c59).2.1 | exact absurd rfl (gs_ok c59).2.2, rfl, by first | (simp [mact, mkn, kn2, nar1, nar0, pk_un, upa_n, c5, c15, c39, c48, c59, c79]; done) | (simp [mact, mkn, kn2, gsI, bz, nar1, nar0, pk_un, upa_n, c5, c15, c39, c48, c59, c79]; done) | exact absurd c59 (by decide) | exact absurd rfl (gs_ok c59).1 | exact absurd rfl (gs_ok c59).2.1 | exact absurd rfl (gs_ok c59).2.2⟩
            · refine j_aload_n C d_M_act_82 rfl rfl ?_
              refine jm_get C fl_6_35 d_M_act_83 hmo rfl ?_
              refine j_iload C d_M_act_86 rfl ?_
              refine jm_zald C 8 d_M_act_88 (by decide) rfl hmo (by first | exact ix_rf hnr hle (by assumption) (by assumption) | exact ix_rk hnr hle (by assumption) (by assumption) | exact ix_r hnr hle (by omega) (by omega) (by assumption) | exact absurd rfl (gs_ok c59).1 | exact absurd rfl (gs_ok c59).2.1 | exact absurd rfl (gs_ok c59).2.2) rfl ?_
              refine j_if_eq (tgt := 103) C d_M_act_89 (by decide) (fun c89 => ?_) (fun c89 => ?_)
              · refine j_iconst (v := 0) C d_M_act_103 (by decide) ?_
                exact j_zreturn C d_M_act_104 rfl (by decide) (by decide) (by decide) ⟨by first | (simp [mact, mkn, kn2, nar1, nar0, pk_un, upa_n, c5, c15, c39, c48, c59, c79, c89]; done) | (simp [mact, mkn, kn2, gsI, bz, nar1, nar0, pk_un, upa_n, c5, c15, c39, c48, c59, c79, c89]; done) | exact absurd c59 (by decide) | exact absurd rfl (gs_ok c59).1 | exact absurd rfl (gs_ok c59).2.1 | exact absurd rfl (gs_ok c59).2.2, rfl, by first | (simp [mact, mkn, kn2, nar1, nar0, pk_un, upa_n, c5, c15, c39, c48, c59, c79, c89]; done) | (simp [mact, mkn, kn2, gsI, bz, nar1, nar0, pk_un, upa_n, c5, c15, c39, c48, c59, c79, c89]; done) | exact absurd c59 (by decide) | exact absurd rfl (gs_ok c59).1 | exact absurd rfl (gs_ok c59).2.1 | exact absurd rfl (gs_ok c59).2.2⟩
              · refine j_aload_n C d_M_act_92 rfl rfl ?_
                refine jm_get C fl_6_41 d_M_act_93 hmo rfl ?_
                refine j_iload C d_M_act_96 rfl ?_
                refine jm_iald C 10 d_M_act_98 (by decide) rfl hmo (by first | exact ix_rf hnr hle (by assumption) (by assumption) | exact ix_rk hnr hle (by assumption) (by assumption) | exact ix_r hnr hle (by omega) (by omega) (by assumption) | exact absurd rfl (gs_ok c59).1 | exact absurd rfl (gs_ok c59).2.1 | exact absurd rfl (gs_ok c59).2.2) rfl ?_
                refine j_iload_n C d_M_act_99 rfl rfl ?_
                refine j_icmp_gt (tgt := 105) C d_M_act_100 (by decide) (fun c100 => ?_) (fun c100 => ?_)
                · refine j_aload_n C d_M_act_105 rfl rfl ?_
                  refine jm_get C fl_6_31 d_M_act_106 hmo rfl ?_
                  refine j_iload C d_M_act_109 rfl ?_
                  refine j_iconst (v := 1) C d_M_act_111 (by decide) ?_
                  refine jm_zasti C 7 10 d_M_act_112 (by decide) rfl hmo (by first | exact ix_rf hnr hle (by assumption) (by assumption) | exact ix_rk hnr hle (by assumption) (by assumption) | exact ix_r hnr hle (by omega) (by omega) (by assumption) | exact absurd rfl (gs_ok c59).1 | exact absurd rfl (gs_ok c59).2.1 | exact absurd rfl (gs_ok c59).2.2) rfl ?_
                  refine j_aload_n C d_M_act_113 rfl rfl ?_
                  refine jm_get C fl_6_35 d_M_act_114 hmo rfl ?_
                  refine j_iload C d_M_act_117 rfl ?_
                  refine j_iconst (v := 1) C d_M_act_119 (by decide) ?_
                  refine jm_zasti C 8 11 d_M_act_120 (by decide) rfl hmo (by first | exact ix_rf hnr hle (by assumption) (by assumption) | exact ix_rk hnr hle (by assumption) (by assumption) | exact ix_r hnr hle (by omega) (by omega) (by assumption) | exact absurd rfl (gs_ok c59).1 | exact absurd rfl (gs_ok c59).2.1 | exact absurd rfl (gs_ok c59).2.2) rfl ?_
                  refine j_aload_n C d_M_act_121 rfl rfl ?_
                  refine jm_get C fl_6_41 d_M_act_122 hmo rfl ?_
                  refine j_iload C d_M_act_125 rfl ?_
                  refine j_iload_n C d_M_act_127 rfl rfl ?_
                  refine jm_iasti C 10 13 d_M_act_128 (by decide) rfl hmo (by first | exact ix_rf hnr hle (by assumption) (by assumption) | exact ix_rk hnr hle (by assumption) (by assumption) | exact ix_r hnr hle (by omega) (by omega) (by assumption) | exact absurd rfl (gs_ok c59).1 | exact absurd rfl (gs_ok c59).2.1 | exact absurd rfl (gs_ok c59).2.2) rfl ?_
                  refine j_iconst (v := 1) C d_M_act_129 (by decide) ?_
                  exact j_zreturn C d_M_act_130 rfl (by decide) (by decide) (by decide) ⟨by first | (simp [mact, mkn, kn2, nar1, nar0, pk_un, upa_n, c5, c15, c39, c48, c59, c79, c89, c100]; done) | (simp [mact, mkn, kn2, gsI, bz, nar1, nar0, pk_un, upa_n, c5, c15, c39, c48, c59, c79, c89, c100]; done) | exact absurd c59 (by decide) | exact absurd rfl (gs_ok c59).1 | exact absurd rfl (gs_ok c59).2.1 | exact absurd rfl (gs_ok c59).2.2, rfl, by first | (simp [mact, mkn, kn2, nar1, nar0, pk_un, upa_n, c5, c15, c39, c48, c59, c79, c89, c100]; done) | (simp [mact, mkn, kn2, gsI, bz, nar1, nar0, pk_un, upa_n, c5, c15, c39, c48, c59, c79, c89, c100]; done) | exact absurd c59 (by decide) | exact absurd rfl (gs_ok c59).1 | exact absurd rfl (gs_ok c59).2.1 | exact absurd rfl (gs_ok c59).2.2⟩
                · refine j_iconst (v := 0) C d_M_act_103 (by decide) ?_
                  exact j_zreturn C d_M_act_104 rfl (by decide) (by decide) (by decide) ⟨by first | (simp [mact, mkn, kn2, nar1, nar0, pk_un, upa_n, c5, c15, c39, c48, c59, c79, c89, c100]; done) | (simp [mact, mkn, kn2, gsI, bz, nar1, nar0, pk_un, upa_n, c5, c15, c39, c48, c59, c79, c89, c100]; done) | exact absurd c59 (by decide) | exact absurd rfl (gs_ok c59).1 | exact absurd rfl (gs_ok c59).2.1 | exact absurd rfl (gs_ok c59).2.2, rfl, by first | (simp [mact, mkn, kn2, nar1, nar0, pk_un, upa_n, c5, c15, c39, c48, c59, c79, c89, c100]; done) | (simp [mact, mkn, kn2, gsI, bz, nar1, nar0, pk_un, upa_n, c5, c15, c39, c48, c59, c79, c89, c100]; done) | exact absurd c59 (by decide) | exact absurd rfl (gs_ok c59).1 | exact absurd rfl (gs_ok c59).2.1 | exact absurd rfl (gs_ok c59).2.2⟩
          · refine j_iconst (v := 0) C d_M_act_62 (by decide) ?_
            exact j_zreturn C d_M_act_63 rfl (by decide) (by decide) (by decide) ⟨by first | (simp [mact, mkn, kn2, nar1, nar0, pk_un, upa_n, c5, c15, c39, c48, c59]; done) | (simp [mact, mkn, kn2, gsI, bz, nar1, nar0, pk_un, upa_n, c5, c15, c39, c48, c59]; done) | exact absurd c59 (by decide) | exact absurd rfl (gs_ok c59).1 | exact absurd rfl (gs_ok c59).2.1 | exact absurd rfl (gs_ok c59).2.2, rfl, by first | (simp [mact, mkn, kn2, nar1, nar0, pk_un, upa_n, c5, c15, c39, c48, c59]; done) | (simp [mact, mkn, kn2, gsI, bz, nar1, nar0, pk_un, upa_n, c5, c15, c39, c48, c59]; done) | exact absurd c59 (by decide) | exact absurd rfl (gs_ok c59).1 | exact absurd rfl (gs_ok c59).2.1 | exact absurd rfl (gs_ok c59).2.2⟩
        · refine j_iconst (v := 1) C d_M_act_51 (by decide) ?_
          refine j_goto (tgt := 56) C d_M_act_52 (by decide) ?_
          refine j_callV C d_M_act_56 ml_M_109 mc_M_goes in_M_goes rfl se_M_goes (by omega) (ovM_o _ _ _ _) (c_M_goes hl _ _ _ _ _ _ hmo) rfl rfl (Nat.le_of_ble_eq_true rfl) (Nat.le_of_ble_eq_true rfl) (Nat.le_of_ble_eq_true rfl) (Nat.le_of_ble_eq_true rfl) (jk_r ?_)
          refine j_if_ne (tgt := 64) C d_M_act_59 (by decide) (fun c59 => ?_) (fun c59 => ?_)
          · refine j_bipush (v := 20) C d_M_act_64 (by decide) ?_
            refine j_iload_n C d_M_act_66 rfl rfl ?_
            refine j_imul C d_M_act_67 ?_
            refine j_iload_n C d_M_act_68 rfl rfl ?_
            refine j_iadd C d_M_act_69 ?_
            refine j_istore C d_M_act_70 (by decide) rfl ?_
            refine j_aload_n C d_M_act_72 rfl rfl ?_
            refine jm_get C fl_6_31 d_M_act_73 hmo rfl ?_
            refine j_iload C d_M_act_76 rfl ?_
            refine jm_zald C 7 d_M_act_78 (by decide) rfl hmo (by first | exact ix_rf hnr hle (by assumption) (by assumption) | exact ix_rk hnr hle (by assumption) (by assumption) | exact ix_r hnr hle (by omega) (by omega) (by assumption) | exact absurd rfl (gs_ok c59).1 | exact absurd rfl (gs_ok c59).2.1 | exact absurd rfl (gs_ok c59).2.2) rfl ?_
            refine j_if_eq (tgt := 105) C d_M_act_79 (by decide) (fun c79 => ?_) (fun c79 => ?_)
            · refine j_aload_n C d_M_act_105 rfl rfl ?_
              refine jm_get C fl_6_31 d_M_act_106 hmo rfl ?_
              refine j_iload C d_M_act_109 rfl ?_
              refine j_iconst (v := 1) C d_M_act_111 (by decide) ?_
              refine jm_zasti C 7 10 d_M_act_112 (by decide) rfl hmo (by first | exact ix_rf hnr hle (by assumption) (by assumption) | exact ix_rk hnr hle (by assumption) (by assumption) | exact ix_r hnr hle (by omega) (by omega) (by assumption) | exact absurd rfl (gs_ok c59).1 | exact absurd rfl (gs_ok c59).2.1 | exact absurd rfl (gs_ok c59).2.2) rfl ?_
              refine j_aload_n C d_M_act_113 rfl rfl ?_
              refine jm_get C fl_6_35 d_M_act_114 hmo rfl ?_
              refine j_iload C d_M_act_117 rfl ?_
              refine j_iconst (v := 1) C d_M_act_119 (by decide) ?_
              refine jm_zasti C 8 11 d_M_act_120 (by decide) rfl hmo (by first | exact ix_rf hnr hle (by assumption) (by assumption) | exact ix_rk hnr hle (by assumption) (by assumption) | exact ix_r hnr hle (by omega) (by omega) (by assumption) | exact absurd rfl (gs_ok c59).1 | exact absurd rfl (gs_ok c59).2.1 | exact absurd rfl (gs_ok c59).2.2) rfl ?_
              refine j_aload_n C d_M_act_121 rfl rfl ?_
              refine jm_get C fl_6_41 d_M_act_122 hmo rfl ?_
              refine j_iload C d_M_act_125 rfl ?_
              refine j_iload_n C d_M_act_127 rfl rfl ?_
              refine jm_iasti C 10 13 d_M_act_128 (by decide) rfl hmo (by first | exact ix_rf hnr hle (by assumption) (by assumption) | exact ix_rk hnr hle (by assumption) (by assumption) | exact ix_r hnr hle (by omega) (by omega) (by assumption) | exact absurd rfl (gs_ok c59).1 | exact absurd rfl (gs_ok c59).2.1 | exact absurd rfl (gs_ok c59).2.2) rfl ?_
              refine j_iconst (v := 1) C d_M_act_129 (by decide) ?_
              exact j_zreturn C d_M_act_130 rfl (by decide) (by decide) (by decide) ⟨by first | (simp [mact, mkn, kn2, nar1, nar0, pk_un, upa_n, c5, c15, c39, c48, c59, c79]; done) | (simp [mact, mkn, kn2, gsI, bz, nar1, nar0, pk_un, upa_n, c5, c15, c39, c48, c59, c79]; done) | exact absurd c59 (by decide) | exact absurd rfl (gs_ok c59).1 | exact absurd rfl (gs_ok c59).2.1 | exact absurd rfl (gs_ok c59).2.2, rfl, by first | (simp [mact, mkn, kn2, nar1, nar0, pk_un, upa_n, c5, c15, c39, c48, c59, c79]; done) | (simp [mact, mkn, kn2, gsI, bz, nar1, nar0, pk_un, upa_n, c5, c15, c39, c48, c59, c79]; done) | exact absurd c59 (by decide) | exact absurd rfl (gs_ok c59).1 | exact absurd rfl (gs_ok c59).2.1 | exact absurd rfl (gs_ok c59).2.2⟩
            · refine j_aload_n C d_M_act_82 rfl rfl ?_
              refine jm_get C fl_6_35 d_M_act_83 hmo rfl ?_
              refine j_iload C d_M_act_86 rfl ?_
              refine jm_zald C 8 d_M_act_88 (by decide) rfl hmo (by first | exact ix_rf hnr hle (by assumption) (by assumption) | exact ix_rk hnr hle (by assumption) (by assumption) | exact ix_r hnr hle (by omega) (by omega) (by assumption) | exact absurd rfl (gs_ok c59).1 | exact absurd rfl (gs_ok c59).2.1 | exact absurd rfl (gs_ok c59).2.2) rfl ?_
              refine j_if_eq (tgt := 103) C d_M_act_89 (by decide) (fun c89 => ?_) (fun c89 => ?_)
              · refine j_iconst (v := 0) C d_M_act_103 (by decide) ?_
                exact j_zreturn C d_M_act_104 rfl (by decide) (by decide) (by decide) ⟨by first | (simp [mact, mkn, kn2, nar1, nar0, pk_un, upa_n, c5, c15, c39, c48, c59, c79, c89]; done) | (simp [mact, mkn, kn2, gsI, bz, nar1, nar0, pk_un, upa_n, c5, c15, c39, c48, c59, c79, c89]; done) | exact absurd c59 (by decide) | exact absurd rfl (gs_ok c59).1 | exact absurd rfl (gs_ok c59).2.1 | exact absurd rfl (gs_ok c59).2.2, rfl, by first | (simp [mact, mkn, kn2, nar1, nar0, pk_un, upa_n, c5, c15, c39, c48, c59, c79, c89]; done) | (simp [mact, mkn, kn2, gsI, bz, nar1, nar0, pk_un, upa_n, c5, c15, c39, c48, c59, c79, c89]; done) | exact absurd c59 (by decide) | exact absurd rfl (gs_ok c59).1 | exact absurd rfl (gs_ok c59).2.1 | exact absurd rfl (gs_ok c59).2.2⟩
              · refine j_aload_n C d_M_act_92 rfl rfl ?_
                refine jm_get C fl_6_41 d_M_act_93 hmo rfl ?_
                refine j_iload C d_M_act_96 rfl ?_
                refine jm_iald C 10 d_M_act_98 (by decide) rfl hmo (by first | exact ix_rf hnr hle (by assumption) (by assumption) | exact ix_rk hnr hle (by assumption) (by assumption) | exact ix_r hnr hle (by omega) (by omega) (by assumption) | exact absurd rfl (gs_ok c59).1 | exact absurd rfl (gs_ok c59).2.1 | exact absurd rfl (gs_ok c59).2.2) rfl ?_
                refine j_iload_n C d_M_act_99 rfl rfl ?_
                refine j_icmp_gt (tgt := 105) C d_M_act_100 (by decide) (fun c100 => ?_) (fun c100 => ?_)
                · refine j_aload_n C d_M_act_105 rfl rfl ?_
                  refine jm_get C fl_6_31 d_M_act_106 hmo rfl ?_
                  refine j_iload C d_M_act_109 rfl ?_
                  refine j_iconst (v := 1) C d_M_act_111 (by decide) ?_
                  refine jm_zasti C 7 10 d_M_act_112 (by decide) rfl hmo (by first | exact ix_rf hnr hle (by assumption) (by assumption) | exact ix_rk hnr hle (by assumption) (by assumption) | exact ix_r hnr hle (by omega) (by omega) (by assumption) | exact absurd rfl (gs_ok c59).1 | exact absurd rfl (gs_ok c59).2.1 | exact absurd rfl (gs_ok c59).2.2) rfl ?_
                  refine j_aload_n C d_M_act_113 rfl rfl ?_
                  refine jm_get C fl_6_35 d_M_act_114 hmo rfl ?_
                  refine j_iload C d_M_act_117 rfl ?_
                  refine j_iconst (v := 1) C d_M_act_119 (by decide) ?_
                  refine jm_zasti C 8 11 d_M_act_120 (by decide) rfl hmo (by first | exact ix_rf hnr hle (by assumption) (by assumption) | exact ix_rk hnr hle (by assumption) (by assumption) | exact ix_r hnr hle (by omega) (by omega) (by assumption) | exact absurd rfl (gs_ok c59).1 | exact absurd rfl (gs_ok c59).2.1 | exact absurd rfl (gs_ok c59).2.2) rfl ?_
                  refine j_aload_n C d_M_act_121 rfl rfl ?_
                  refine jm_get C fl_6_41 d_M_act_122 hmo rfl ?_
                  refine j_iload C d_M_act_125 rfl ?_
                  refine j_iload_n C d_M_act_127 rfl rfl ?_
                  refine jm_iasti C 10 13 d_M_act_128 (by decide) rfl hmo (by first | exact ix_rf hnr hle (by assumption) (by assumption) | exact ix_rk hnr hle (by assumption) (by assumption) | exact ix_r hnr hle (by omega) (by omega) (by assumption) | exact absurd rfl (gs_ok c59).1 | exact absurd rfl (gs_ok c59).2.1 | exact absurd rfl (gs_ok c59).2.2) rfl ?_
                  refine j_iconst (v := 1) C d_M_act_129 (by decide) ?_
                  exact j_zreturn C d_M_act_130 rfl (by decide) (by decide) (by decide) ⟨by first | (simp [mact, mkn, kn2, nar1, nar0, pk_un, upa_n, c5, c15, c39, c48, c59, c79, c89, c100]; done) | (simp [mact, mkn, kn2, gsI, bz, nar1, nar0, pk_un, upa_n, c5, c15, c39, c48, c59, c79, c89, c100]; done) | exact absurd c59 (by decide) | exact absurd rfl (gs_ok c59).1 | exact absurd rfl (gs_ok c59).2.1 | exact absurd rfl (gs_ok c59).2.2, rfl, by first | (simp [mact, mkn, kn2, nar1, nar0, pk_un, upa_n, c5, c15, c39, c48, c59, c79, c89, c100]; done) | (simp [mact, mkn, kn2, gsI, bz, nar1, nar0, pk_un, upa_n, c5, c15, c39, c48, c59, c79, c89, c100]; done) | exact absurd c59 (by decide) | exact absurd rfl (gs_ok c59).1 | exact absurd rfl (gs_ok c59).2.1 | exact absurd rfl (gs_ok c59).2.2⟩
                · refine j_iconst (v := 0) C d_M_act_103 (by decide) ?_
                  exact j_zreturn C d_M_act_104 rfl (by decide) (by decide) (by decide) ⟨by first | (simp [mact, mkn, kn2, nar1, nar0, pk_un, upa_n, c5, c15, c39, c48, c59, c79, c89, c100]; done) | (simp [mact, mkn, kn2, gsI, bz, nar1, nar0, pk_un, upa_n, c5, c15, c39, c48, c59, c79, c89, c100]; done) | exact absurd c59 (by decide) | exact absurd rfl (gs_ok c59).1 | exact absurd rfl (gs_ok c59).2.1 | exact absurd rfl (gs_ok c59).2.2, rfl, by first | (simp [mact, mkn, kn2, nar1, nar0, pk_un, upa_n, c5, c15, c39, c48, c59, c79, c89, c100]; done) | (simp [mact, mkn, kn2, gsI, bz, nar1, nar0, pk_un, upa_n, c5, c15, c39, c48, c59, c79, c89, c100]; done) | exact absurd c59 (by decide) | exact absurd rfl (gs_ok c59).1 | exact absurd rfl (gs_ok c59).2.1 | exact absurd rfl (gs_ok c59).2.2⟩
          · refine j_iconst (v := 0) C d_M_act_62 (by decide) ?_
            exact j_zreturn C d_M_act_63 rfl (by decide) (by decide) (by decide) ⟨by first | (simp [mact, mkn, kn2, nar1, nar0, pk_un, upa_n, c5, c15, c39, c48, c59]; done) | (simp [mact, mkn, kn2, gsI, bz, nar1, nar0, pk_un, upa_n, c5, c15, c39, c48, c59]; done) | exact absurd c59 (by decide) | exact absurd rfl (gs_ok c59).1 | exact absurd rfl (gs_ok c59).2.1 | exact absurd rfl (gs_ok c59).2.2, rfl, by first | (simp [mact, mkn, kn2, nar1, nar0, pk_un, upa_n, c5, c15, c39, c48, c59]; done) | (simp [mact, mkn, kn2, gsI, bz, nar1, nar0, pk_un, upa_n, c5, c15, c39, c48, c59]; done) | exact absurd c59 (by decide) | exact absurd rfl (gs_ok c59).1 | exact absurd rfl (gs_ok c59).2.1 | exact absurd rfl (gs_ok c59).2.2⟩
    · refine j_iconst (v := 1) C d_M_act_18 (by decide) ?_
      refine j_goto (tgt := 23) C d_M_act_19 (by decide) ?_
      refine j_istore C d_M_act_23 (by decide) rfl ?_
      refine j_aload_n C d_M_act_25 rfl rfl ?_
      refine j_iload C d_M_act_26 rfl ?_
      refine j_iload_n C d_M_act_28 rfl rfl ?_
      refine j_iconst (v := 0) C d_M_act_29 (by decide) ?_
      refine j_aload_n C d_M_act_30 rfl rfl ?_
      refine jm_get C fl_6_106 d_M_act_31 hmo rfl ?_
      refine j_callS C d_M_act_34 ml_M_102 mc_M_in st_M_in (c_M_in hl _ _ _ _) rfl rfl (Nat.le_of_ble_eq_true rfl) (Nat.le_of_ble_eq_true rfl) (Nat.le_of_ble_eq_true rfl) (Nat.le_of_ble_eq_true rfl) (jk_r ?_)
      refine j_iload C d_M_act_37 rfl ?_
      refine j_if_eq (tgt := 55) C d_M_act_39 (by decide) (fun c39 => ?_) (fun c39 => ?_)
      · refine j_iconst (v := 0) C d_M_act_55 (by decide) ?_
        refine j_callV C d_M_act_56 ml_M_109 mc_M_goes in_M_goes rfl se_M_goes (by omega) (ovM_o _ _ _ _) (c_M_goes hl _ _ _ _ _ _ hmo) rfl rfl (Nat.le_of_ble_eq_true rfl) (Nat.le_of_ble_eq_true rfl) (Nat.le_of_ble_eq_true rfl) (Nat.le_of_ble_eq_true rfl) (jk_r ?_)
        refine j_if_ne (tgt := 64) C d_M_act_59 (by decide) (fun c59 => ?_) (fun c59 => ?_)
        · refine j_bipush (v := 20) C d_M_act_64 (by decide) ?_
          refine j_iload_n C d_M_act_66 rfl rfl ?_
          refine j_imul C d_M_act_67 ?_
          refine j_iload_n C d_M_act_68 rfl rfl ?_
          refine j_iadd C d_M_act_69 ?_
          refine j_istore C d_M_act_70 (by decide) rfl ?_
          refine j_aload_n C d_M_act_72 rfl rfl ?_
          refine jm_get C fl_6_31 d_M_act_73 hmo rfl ?_
          refine j_iload C d_M_act_76 rfl ?_
          refine jm_zald C 7 d_M_act_78 (by decide) rfl hmo (by first | exact ix_rf hnr hle (by assumption) (by assumption) | exact ix_rk hnr hle (by assumption) (by assumption) | exact ix_r hnr hle (by omega) (by omega) (by assumption) | exact absurd rfl (gs_ok c59).1 | exact absurd rfl (gs_ok c59).2.1 | exact absurd rfl (gs_ok c59).2.2) rfl ?_
          refine j_if_eq (tgt := 105) C d_M_act_79 (by decide) (fun c79 => ?_) (fun c79 => ?_)
          · refine j_aload_n C d_M_act_105 rfl rfl ?_
            refine jm_get C fl_6_31 d_M_act_106 hmo rfl ?_
            refine j_iload C d_M_act_109 rfl ?_
            refine j_iconst (v := 1) C d_M_act_111 (by decide) ?_
            refine jm_zasti C 7 10 d_M_act_112 (by decide) rfl hmo (by first | exact ix_rf hnr hle (by assumption) (by assumption) | exact ix_rk hnr hle (by assumption) (by assumption) | exact ix_r hnr hle (by omega) (by omega) (by assumption) | exact absurd rfl (gs_ok c59).1 | exact absurd rfl (gs_ok c59).2.1 | exact absurd rfl (gs_ok c59).2.2) rfl ?_
            refine j_aload_n C d_M_act_113 rfl rfl ?_
            refine jm_get C fl_6_35 d_M_act_114 hmo rfl ?_
            refine j_iload C d_M_act_117 rfl ?_
            refine j_iconst (v := 1) C d_M_act_119 (by decide) ?_
            refine jm_zasti C 8 11 d_M_act_120 (by decide) rfl hmo (by first | exact ix_rf hnr hle (by assumption) (by assumption) | exact ix_rk hnr hle (by assumption) (by assumption) | exact ix_r hnr hle (by omega) (by omega) (by assumption) | exact absurd rfl (gs_ok c59).1 | exact absurd rfl (gs_ok c59).2.1 | exact absurd rfl (gs_ok c59).2.2) rfl ?_
            refine j_aload_n C d_M_act_121 rfl rfl ?_
            refine jm_get C fl_6_41 d_M_act_122 hmo rfl ?_
            refine j_iload C d_M_act_125 rfl ?_
            refine j_iload_n C d_M_act_127 rfl rfl ?_
            refine jm_iasti C 10 13 d_M_act_128 (by decide) rfl hmo (by first | exact ix_rf hnr hle (by assumption) (by assumption) | exact ix_rk hnr hle (by assumption) (by assumption) | exact ix_r hnr hle (by omega) (by omega) (by assumption) | exact absurd rfl (gs_ok c59).1 | exact absurd rfl (gs_ok c59).2.1 | exact absurd rfl (gs_ok c59).2.2) rfl ?_
            refine j_iconst (v := 1) C d_M_act_129 (by decide) ?_
            exact j_zreturn C d_M_act_130 rfl (by decide) (by decide) (by decide) ⟨by first | (simp [mact, mkn, kn2, nar1, nar0, pk_un, upa_n, c5, c15, c39, c59, c79]; done) | (simp [mact, mkn, kn2, gsI, bz, nar1, nar0, pk_un, upa_n, c5, c15, c39, c59, c79]; done) | exact absurd c59 (by decide) | exact absurd rfl (gs_ok c59).1 | exact absurd rfl (gs_ok c59).2.1 | exact absurd rfl (gs_ok c59).2.2, rfl, by first | (simp [mact, mkn, kn2, nar1, nar0, pk_un, upa_n, c5, c15, c39, c59, c79]; done) | (simp [mact, mkn, kn2, gsI, bz, nar1, nar0, pk_un, upa_n, c5, c15, c39, c59, c79]; done) | exact absurd c59 (by decide) | exact absurd rfl (gs_ok c59).1 | exact absurd rfl (gs_ok c59).2.1 | exact absurd rfl (gs_ok c59).2.2⟩
          · refine j_aload_n C d_M_act_82 rfl rfl ?_
            refine jm_get C fl_6_35 d_M_act_83 hmo rfl ?_
            refine j_iload C d_M_act_86 rfl ?_
            refine jm_zald C 8 d_M_act_88 (by decide) rfl hmo (by first | exact ix_rf hnr hle (by assumption) (by assumption) | exact ix_rk hnr hle (by assumption) (by assumption) | exact ix_r hnr hle (by omega) (by omega) (by assumption) | exact absurd rfl (gs_ok c59).1 | exact absurd rfl (gs_ok c59).2.1 | exact absurd rfl (gs_ok c59).2.2) rfl ?_
            refine j_if_eq (tgt := 103) C d_M_act_89 (by decide) (fun c89 => ?_) (fun c89 => ?_)
            · refine j_iconst (v := 0) C d_M_act_103 (by decide) ?_
              exact j_zreturn C d_M_act_104 rfl (by decide) (by decide) (by decide) ⟨by first | (simp [mact, mkn, kn2, nar1, nar0, pk_un, upa_n, c5, c15, c39, c59, c79, c89]; done) | (simp [mact, mkn, kn2, gsI, bz, nar1, nar0, pk_un, upa_n, c5, c15, c39, c59, c79, c89]; done) | exact absurd c59 (by decide) | exact absurd rfl (gs_ok c59).1 | exact absurd rfl (gs_ok c59).2.1 | exact absurd rfl (gs_ok c59).2.2, rfl, by first | (simp [mact, mkn, kn2, nar1, nar0, pk_un, upa_n, c5, c15, c39, c59, c79, c89]; done) | (simp [mact, mkn, kn2, gsI, bz, nar1, nar0, pk_un, upa_n, c5, c15, c39, c59, c79, c89]; done) | exact absurd c59 (by decide) | exact absurd rfl (gs_ok c59).1 | exact absurd rfl (gs_ok c59).2.1 | exact absurd rfl (gs_ok c59).2.2⟩
            · refine j_aload_n C d_M_act_92 rfl rfl ?_
              refine jm_get C fl_6_41 d_M_act_93 hmo rfl ?_
              refine j_iload C d_M_act_96 rfl ?_
              refine jm_iald C 10 d_M_act_98 (by decide) rfl hmo (by first | exact ix_rf hnr hle (by assumption) (by assumption) | exact ix_rk hnr hle (by assumption) (by assumption) | exact ix_r hnr hle (by omega) (by omega) (by assumption) | exact absurd rfl (gs_ok c59).1 | exact absurd rfl (gs_ok c59).2.1 | exact absurd rfl (gs_ok c59).2.2) rfl ?_
              refine j_iload_n C d_M_act_99 rfl rfl ?_
              refine j_icmp_gt (tgt := 105) C d_M_act_100 (by decide) (fun c100 => ?_) (fun c100 => ?_)
              · refine j_aload_n C d_M_act_105 rfl rfl ?_
                refine jm_get C fl_6_31 d_M_act_106 hmo rfl ?_
                refine j_iload C d_M_act_109 rfl ?_
                refine j_iconst (v := 1) C d_M_act_111 (by decide) ?_
                refine jm_zasti C 7 10 d_M_act_112 (by decide) rfl hmo (by first | exact ix_rf hnr hle (by assumption) (by assumption) | exact ix_rk hnr hle (by assumption) (by assumption) | exact ix_r hnr hle (by omega) (by omega) (by assumption) | exact absurd rfl (gs_ok c59).1 | exact absurd rfl (gs_ok c59).2.1 | exact absurd rfl (gs_ok c59).2.2) rfl ?_
                refine j_aload_n C d_M_act_113 rfl rfl ?_
                refine jm_get C fl_6_35 d_M_act_114 hmo rfl ?_
                refine j_iload C d_M_act_117 rfl ?_
                refine j_iconst (v := 1) C d_M_act_119 (by decide) ?_
                refine jm_zasti C 8 11 d_M_act_120 (by decide) rfl hmo (by first | exact ix_rf hnr hle (by assumption) (by assumption) | exact ix_rk hnr hle (by assumption) (by assumption) | exact ix_r hnr hle (by omega) (by omega) (by assumption) | exact absurd rfl (gs_ok c59).1 | exact absurd rfl (gs_ok c59).2.1 | exact absurd rfl (gs_ok c59).2.2) rfl ?_
                refine j_aload_n C d_M_act_121 rfl rfl ?_
                refine jm_get C fl_6_41 d_M_act_122 hmo rfl ?_
                refine j_iload C d_M_act_125 rfl ?_
                refine j_iload_n C d_M_act_127 rfl rfl ?_
                refine jm_iasti C 10 13 d_M_act_128 (by decide) rfl hmo (by first | exact ix_rf hnr hle (by assumption) (by assumption) | exact ix_rk hnr hle (by assumption) (by assumption) | exact ix_r hnr hle (by omega) (by omega) (by assumption) | exact absurd rfl (gs_ok c59).1 | exact absurd rfl (gs_ok c59).2.1 | exact absurd rfl (gs_ok c59).2.2) rfl ?_
                refine j_iconst (v := 1) C d_M_act_129 (by decide) ?_
                exact j_zreturn C d_M_act_130 rfl (by decide) (by decide) (by decide) ⟨by first | (simp [mact, mkn, kn2, nar1, nar0, pk_un, upa_n, c5, c15, c39, c59, c79, c89, c100]; done) | (simp [mact, mkn, kn2, gsI, bz, nar1, nar0, pk_un, upa_n, c5, c15, c39, c59, c79, c89, c100]; done) | exact absurd c59 (by decide) | exact absurd rfl (gs_ok c59).1 | exact absurd rfl (gs_ok c59).2.1 | exact absurd rfl (gs_ok c59).2.2, rfl, by first | (simp [mact, mkn, kn2, nar1, nar0, pk_un, upa_n, c5, c15, c39, c59, c79, c89, c100]; done) | (simp [mact, mkn, kn2, gsI, bz, nar1, nar0, pk_un, upa_n, c5, c15, c39, c59, c79, c89, c100]; done) | exact absurd c59 (by decide) | exact absurd rfl (gs_ok c59).1 | exact absurd rfl (gs_ok c59).2.1 | exact absurd rfl (gs_ok c59).2.2⟩
              · refine j_iconst (v := 0) C d_M_act_103 (by decide) ?_
                exact j_zreturn C d_M_act_104 rfl (by decide) (by decide) (by decide) ⟨by first | (simp [mact, mkn, kn2, nar1, nar0, pk_un, upa_n, c5, c15, c39, c59, c79, c89, c100]; done) | (simp [mact, mkn, kn2, gsI, bz, nar1, nar0, pk_un, upa_n, c5, c15, c39, c59, c79, c89, c100]; done) | exact absurd c59 (by decide) | exact absurd rfl (gs_ok c59).1 | exact absurd rfl (gs_ok c59).2.1 | exact absurd rfl (gs_ok c59).2.2, rfl, by first | (simp [mact, mkn, kn2, nar1, nar0, pk_un, upa_n, c5, c15, c39, c59, c79, c89, c100]; done) | (simp [mact, mkn, kn2, gsI, bz, nar1, nar0, pk_un, upa_n, c5, c15, c39, c59, c79, c89, c100]; done) | exact absurd c59 (by decide) | exact absurd rfl (gs_ok c59).1 | exact absurd rfl (gs_ok c59).2.1 | exact absurd rfl (gs_ok c59).2.2⟩
        · refine j_iconst (v := 0) C d_M_act_62 (by decide) ?_
          exact j_zreturn C d_M_act_63 rfl (by decide) (by decide) (by decide) ⟨by first | (simp [mact, mkn, kn2, nar1, nar0, pk_un, upa_n, c5, c15, c39, c59]; done) | (simp [mact, mkn, kn2, gsI, bz, nar1, nar0, pk_un, upa_n, c5, c15, c39, c59]; done) | exact absurd c59 (by decide) | exact absurd rfl (gs_ok c59).1 | exact absurd rfl (gs_ok c59).2.1 | exact absurd rfl (gs_ok c59).2.2, rfl, by first | (simp [mact, mkn, kn2, nar1, nar0, pk_un, upa_n, c5, c15, c39, c59]; done) | (simp [mact, mkn, kn2, gsI, bz, nar1, nar0, pk_un, upa_n, c5, c15, c39, c59]; done) | exact absurd c59 (by decide) | exact absurd rfl (gs_ok c59).1 | exact absurd rfl (gs_ok c59).2.1 | exact absurd rfl (gs_ok c59).2.2⟩
      · refine j_aload_n C d_M_act_42 rfl rfl ?_
        refine jm_get C fl_6_25 d_M_act_43 hmo rfl ?_
        refine j_iload_n C d_M_act_46 rfl rfl ?_
        refine jm_iald C 5 d_M_act_47 (by decide) rfl hmo (by first | exact ix_r hnr hle (by omega) (by omega) (by assumption) | exact absurd rfl c39) rfl ?_
        refine j_if_ne (tgt := 55) C d_M_act_48 (by decide) (fun c48 => ?_) (fun c48 => ?_)
        · refine j_iconst (v := 0) C d_M_act_55 (by decide) ?_
          refine j_callV C d_M_act_56 ml_M_109 mc_M_goes in_M_goes rfl se_M_goes (by omega) (ovM_o _ _ _ _) (c_M_goes hl _ _ _ _ _ _ hmo) rfl rfl (Nat.le_of_ble_eq_true rfl) (Nat.le_of_ble_eq_true rfl) (Nat.le_of_ble_eq_true rfl) (Nat.le_of_ble_eq_true rfl) (jk_r ?_)
          refine j_if_ne (tgt := 64) C d_M_act_59 (by decide) (fun c59 => ?_) (fun c59 => ?_)
          · refine j_bipush (v := 20) C d_M_act_64 (by decide) ?_
            refine j_iload_n C d_M_act_66 rfl rfl ?_
            refine j_imul C d_M_act_67 ?_
            refine j_iload_n C d_M_act_68 rfl rfl ?_
            refine j_iadd C d_M_act_69 ?_
            refine j_istore C d_M_act_70 (by decide) rfl ?_
            refine j_aload_n C d_M_act_72 rfl rfl ?_
            refine jm_get C fl_6_31 d_M_act_73 hmo rfl ?_
            refine j_iload C d_M_act_76 rfl ?_
            refine jm_zald C 7 d_M_act_78 (by decide) rfl hmo (by first | exact ix_rf hnr hle (by assumption) (by assumption) | exact ix_rk hnr hle (by assumption) (by assumption) | exact ix_r hnr hle (by omega) (by omega) (by assumption) | exact absurd rfl (gs_ok c59).1 | exact absurd rfl (gs_ok c59).2.1 | exact absurd rfl (gs_ok c59).2.2) rfl ?_
            refine j_if_eq (tgt := 105) C d_M_act_79 (by decide) (fun c79 => ?_) (fun c79 => ?_)
            · refine j_aload_n C d_M_act_105 rfl rfl ?_
              refine jm_get C fl_6_31 d_M_act_106 hmo rfl ?_
              refine j_iload C d_M_act_109 rfl ?_
              refine j_iconst (v := 1) C d_M_act_111 (by decide) ?_
              refine jm_zasti C 7 10 d_M_act_112 (by decide) rfl hmo (by first | exact ix_rf hnr hle (by assumption) (by assumption) | exact ix_rk hnr hle (by assumption) (by assumption) | exact ix_r hnr hle (by omega) (by omega) (by assumption) | exact absurd rfl (gs_ok c59).1 | exact absurd rfl (gs_ok c59).2.1 | exact absurd rfl (gs_ok c59).2.2) rfl ?_
              refine j_aload_n C d_M_act_113 rfl rfl ?_
              refine jm_get C fl_6_35 d_M_act_114 hmo rfl ?_
              refine j_iload C d_M_act_117 rfl ?_
              refine j_iconst (v := 1) C d_M_act_119 (by decide) ?_
              refine jm_zasti C 8 11 d_M_act_120 (by decide) rfl hmo (by first | exact ix_rf hnr hle (by assumption) (by assumption) | exact ix_rk hnr hle (by assumption) (by assumption) | exact ix_r hnr hle (by omega) (by omega) (by assumption) | exact absurd rfl (gs_ok c59).1 | exact absurd rfl (gs_ok c59).2.1 | exact absurd rfl (gs_ok c59).2.2) rfl ?_
              refine j_aload_n C d_M_act_121 rfl rfl ?_
              refine jm_get C fl_6_41 d_M_act_122 hmo rfl ?_
              refine j_iload C d_M_act_125 rfl ?_
              refine j_iload_n C d_M_act_127 rfl rfl ?_
              refine jm_iasti C 10 13 d_M_act_128 (by decide) rfl hmo (by first | exact ix_rf hnr hle (by assumption) (by assumption) | exact ix_rk hnr hle (by assumption) (by assumption) | exact ix_r hnr hle (by omega) (by omega) (by assumption) | exact absurd rfl (gs_ok c59).1 | exact absurd rfl (gs_ok c59).2.1 | exact absurd rfl (gs_ok c59).2.2) rfl ?_
              refine j_iconst (v := 1) C d_M_act_129 (by decide) ?_
              exact j_zreturn C d_M_act_130 rfl (by decide) (by decide) (by decide) ⟨by first | (simp [mact, mkn, kn2, nar1, nar0, pk_un, upa_n, c5, c15, c39, c48, c59, c79]; done) | (simp [mact, mkn, kn2, gsI, bz, nar1, nar0, pk_un, upa_n, c5, c15, c39, c48, c59, c79]; done) | exact absurd c59 (by decide) | exact absurd rfl (gs_ok c59).1 | exact absurd rfl (gs_ok c59).2.1 | exact absurd rfl (gs_ok c59).2.2, rfl, by first | (simp [mact, mkn, kn2, nar1, nar0, pk_un, upa_n, c5, c15, c39, c48, c59, c79]; done) | (simp [mact, mkn, kn2, gsI, bz, nar1, nar0, pk_un, upa_n, c5, c15, c39, c48, c59, c79]; done) | exact absurd c59 (by decide) | exact absurd rfl (gs_ok c59).1 | exact absurd rfl (gs_ok c59).2.1 | exact absurd rfl (gs_ok c59).2.2⟩
            · refine j_aload_n C d_M_act_82 rfl rfl ?_
              refine jm_get C fl_6_35 d_M_act_83 hmo rfl ?_
              refine j_iload C d_M_act_86 rfl ?_
              refine jm_zald C 8 d_M_act_88 (by decide) rfl hmo (by first | exact ix_rf hnr hle (by assumption) (by assumption) | exact ix_rk hnr hle (by assumption) (by assumption) | exact ix_r hnr hle (by omega) (by omega) (by assumption) | exact absurd rfl (gs_ok c59).1 | exact absurd rfl (gs_ok c59).2.1 | exact absurd rfl (gs_ok c59).2.2) rfl ?_
              refine j_if_eq (tgt := 103) C d_M_act_89 (by decide) (fun c89 => ?_) (fun c89 => ?_)
              · refine j_iconst (v := 0) C d_M_act_103 (by decide) ?_
                exact j_zreturn C d_M_act_104 rfl (by decide) (by decide) (by decide) ⟨by first | (simp [mact, mkn, kn2, nar1, nar0, pk_un, upa_n, c5, c15, c39, c48, c59, c79, c89]; done) | (simp [mact, mkn, kn2, gsI, bz, nar1, nar0, pk_un, upa_n, c5, c15, c39, c48, c59, c79, c89]; done) | exact absurd c59 (by decide) | exact absurd rfl (gs_ok c59).1 | exact absurd rfl (gs_ok c59).2.1 | exact absurd rfl (gs_ok c59).2.2, rfl, by first | (simp [mact, mkn, kn2, nar1, nar0, pk_un, upa_n, c5, c15, c39, c48, c59, c79, c89]; done) | (simp [mact, mkn, kn2, gsI, bz, nar1, nar0, pk_un, upa_n, c5, c15, c39, c48, c59, c79, c89]; done) | exact absurd c59 (by decide) | exact absurd rfl (gs_ok c59).1 | exact absurd rfl (gs_ok c59).2.1 | exact absurd rfl (gs_ok c59).2.2⟩
              · refine j_aload_n C d_M_act_92 rfl rfl ?_
                refine jm_get C fl_6_41 d_M_act_93 hmo rfl ?_
                refine j_iload C d_M_act_96 rfl ?_
                refine jm_iald C 10 d_M_act_98 (by decide) rfl hmo (by first | exact ix_rf hnr hle (by assumption) (by assumption) | exact ix_rk hnr hle (by assumption) (by assumption) | exact ix_r hnr hle (by omega) (by omega) (by assumption) | exact absurd rfl (gs_ok c59).1 | exact absurd rfl (gs_ok c59).2.1 | exact absurd rfl (gs_ok c59).2.2) rfl ?_
                refine j_iload_n C d_M_act_99 rfl rfl ?_
                refine j_icmp_gt (tgt := 105) C d_M_act_100 (by decide) (fun c100 => ?_) (fun c100 => ?_)
                · refine j_aload_n C d_M_act_105 rfl rfl ?_
                  refine jm_get C fl_6_31 d_M_act_106 hmo rfl ?_
                  refine j_iload C d_M_act_109 rfl ?_
                  refine j_iconst (v := 1) C d_M_act_111 (by decide) ?_
                  refine jm_zasti C 7 10 d_M_act_112 (by decide) rfl hmo (by first | exact ix_rf hnr hle (by assumption) (by assumption) | exact ix_rk hnr hle (by assumption) (by assumption) | exact ix_r hnr hle (by omega) (by omega) (by assumption) | exact absurd rfl (gs_ok c59).1 | exact absurd rfl (gs_ok c59).2.1 | exact absurd rfl (gs_ok c59).2.2) rfl ?_
                  refine j_aload_n C d_M_act_113 rfl rfl ?_
                  refine jm_get C fl_6_35 d_M_act_114 hmo rfl ?_
                  refine j_iload C d_M_act_117 rfl ?_
                  refine j_iconst (v := 1) C d_M_act_119 (by decide) ?_
                  refine jm_zasti C 8 11 d_M_act_120 (by decide) rfl hmo (by first | exact ix_rf hnr hle (by assumption) (by assumption) | exact ix_rk hnr hle (by assumption) (by assumption) | exact ix_r hnr hle (by omega) (by omega) (by assumption) | exact absurd rfl (gs_ok c59).1 | exact absurd rfl (gs_ok c59).2.1 | exact absurd rfl (gs_ok c59).2.2) rfl ?_
                  refine j_aload_n C d_M_act_121 rfl rfl ?_
                  refine jm_get C fl_6_41 d_M_act_122 hmo rfl ?_
                  refine j_iload C d_M_act_125 rfl ?_
                  refine j_iload_n C d_M_act_127 rfl rfl ?_
                  refine jm_iasti C 10 13 d_M_act_128 (by decide) rfl hmo (by first | exact ix_rf hnr hle (by assumption) (by assumption) | exact ix_rk hnr hle (by assumption) (by assumption) | exact ix_r hnr hle (by omega) (by omega) (by assumption) | exact absurd rfl (gs_ok c59).1 | exact absurd rfl (gs_ok c59).2.1 | exact absurd rfl (gs_ok c59).2.2) rfl ?_
                  refine j_iconst (v := 1) C d_M_act_129 (by decide) ?_
                  exact j_zreturn C d_M_act_130 rfl (by decide) (by decide) (by decide) ⟨by first | (simp [mact, mkn, kn2, nar1, nar0, pk_un, upa_n, c5, c15, c39, c48, c59, c79, c89, c100]; done) | (simp [mact, mkn, kn2, gsI, bz, nar1, nar0, pk_un, upa_n, c5, c15, c39, c48, c59, c79, c89, c100]; done) | exact absurd c59 (by decide) | exact absurd rfl (gs_ok c59).1 | exact absurd rfl (gs_ok c59).2.1 | exact absurd rfl (gs_ok c59).2.2, rfl, by first | (simp [mact, mkn, kn2, nar1, nar0, pk_un, upa_n, c5, c15, c39, c48, c59, c79, c89, c100]; done) | (simp [mact, mkn, kn2, gsI, bz, nar1, nar0, pk_un, upa_n, c5, c15, c39, c48, c59, c79, c89, c100]; done) | exact absurd c59 (by decide) | exact absurd rfl (gs_ok c59).1 | exact absurd rfl (gs_ok c59).2.1 | exact absurd rfl (gs_ok c59).2.2⟩
                · refine j_iconst (v := 0) C d_M_act_103 (by decide) ?_
                  exact j_zreturn C d_M_act_104 rfl (by decide) (by decide) (by decide) ⟨by first | (simp [mact, mkn, kn2, nar1, nar0, pk_un, upa_n, c5, c15, c39, c48, c59, c79, c89, c100]; done) | (simp [mact, mkn, kn2, gsI, bz, nar1, nar0, pk_un, upa_n, c5, c15, c39, c48, c59, c79, c89, c100]; done) | exact absurd c59 (by decide) | exact absurd rfl (gs_ok c59).1 | exact absurd rfl (gs_ok c59).2.1 | exact absurd rfl (gs_ok c59).2.2, rfl, by first | (simp [mact, mkn, kn2, nar1, nar0, pk_un, upa_n, c5, c15, c39, c48, c59, c79, c89, c100]; done) | (simp [mact, mkn, kn2, gsI, bz, nar1, nar0, pk_un, upa_n, c5, c15, c39, c48, c59, c79, c89, c100]; done) | exact absurd c59 (by decide) | exact absurd rfl (gs_ok c59).1 | exact absurd rfl (gs_ok c59).2.1 | exact absurd rfl (gs_ok c59).2.2⟩
          · refine j_iconst (v := 0) C d_M_act_62 (by decide) ?_
            exact j_zreturn C d_M_act_63 rfl (by decide) (by decide) (by decide) ⟨by first | (simp [mact, mkn, kn2, nar1, nar0, pk_un, upa_n, c5, c15, c39, c48, c59]; done) | (simp [mact, mkn, kn2, gsI, bz, nar1, nar0, pk_un, upa_n, c5, c15, c39, c48, c59]; done) | exact absurd c59 (by decide) | exact absurd rfl (gs_ok c59).1 | exact absurd rfl (gs_ok c59).2.1 | exact absurd rfl (gs_ok c59).2.2, rfl, by first | (simp [mact, mkn, kn2, nar1, nar0, pk_un, upa_n, c5, c15, c39, c48, c59]; done) | (simp [mact, mkn, kn2, gsI, bz, nar1, nar0, pk_un, upa_n, c5, c15, c39, c48, c59]; done) | exact absurd c59 (by decide) | exact absurd rfl (gs_ok c59).1 | exact absurd rfl (gs_ok c59).2.1 | exact absurd rfl (gs_ok c59).2.2⟩
        · refine j_iconst (v := 1) C d_M_act_51 (by decide) ?_
          refine j_goto (tgt := 56) C d_M_act_52 (by decide) ?_
          refine j_callV C d_M_act_56 ml_M_109 mc_M_goes in_M_goes rfl se_M_goes (by omega) (ovM_o _ _ _ _) (c_M_goes hl _ _ _ _ _ _ hmo) rfl rfl (Nat.le_of_ble_eq_true rfl) (Nat.le_of_ble_eq_true rfl) (Nat.le_of_ble_eq_true rfl) (Nat.le_of_ble_eq_true rfl) (jk_r ?_)
          refine j_if_ne (tgt := 64) C d_M_act_59 (by decide) (fun c59 => ?_) (fun c59 => ?_)
          · refine j_bipush (v := 20) C d_M_act_64 (by decide) ?_
            refine j_iload_n C d_M_act_66 rfl rfl ?_
            refine j_imul C d_M_act_67 ?_
            refine j_iload_n C d_M_act_68 rfl rfl ?_
            refine j_iadd C d_M_act_69 ?_
            refine j_istore C d_M_act_70 (by decide) rfl ?_
            refine j_aload_n C d_M_act_72 rfl rfl ?_
            refine jm_get C fl_6_31 d_M_act_73 hmo rfl ?_
            refine j_iload C d_M_act_76 rfl ?_
            refine jm_zald C 7 d_M_act_78 (by decide) rfl hmo (by first | exact ix_rf hnr hle (by assumption) (by assumption) | exact ix_rk hnr hle (by assumption) (by assumption) | exact ix_r hnr hle (by omega) (by omega) (by assumption) | exact absurd rfl (gs_ok c59).1 | exact absurd rfl (gs_ok c59).2.1 | exact absurd rfl (gs_ok c59).2.2) rfl ?_
            refine j_if_eq (tgt := 105) C d_M_act_79 (by decide) (fun c79 => ?_) (fun c79 => ?_)
            · refine j_aload_n C d_M_act_105 rfl rfl ?_
              refine jm_get C fl_6_31 d_M_act_106 hmo rfl ?_
              refine j_iload C d_M_act_109 rfl ?_
              refine j_iconst (v := 1) C d_M_act_111 (by decide) ?_
              refine jm_zasti C 7 10 d_M_act_112 (by decide) rfl hmo (by first | exact ix_rf hnr hle (by assumption) (by assumption) | exact ix_rk hnr hle (by assumption) (by assumption) | exact ix_r hnr hle (by omega) (by omega) (by assumption) | exact absurd rfl (gs_ok c59).1 | exact absurd rfl (gs_ok c59).2.1 | exact absurd rfl (gs_ok c59).2.2) rfl ?_
              refine j_aload_n C d_M_act_113 rfl rfl ?_
              refine jm_get C fl_6_35 d_M_act_114 hmo rfl ?_
              refine j_iload C d_M_act_117 rfl ?_
              refine j_iconst (v := 1) C d_M_act_119 (by decide) ?_
              refine jm_zasti C 8 11 d_M_act_120 (by decide) rfl hmo (by first | exact ix_rf hnr hle (by assumption) (by assumption) | exact ix_rk hnr hle (by assumption) (by assumption) | exact ix_r hnr hle (by omega) (by omega) (by assumption) | exact absurd rfl (gs_ok c59).1 | exact absurd rfl (gs_ok c59).2.1 | exact absurd rfl (gs_ok c59).2.2) rfl ?_
              refine j_aload_n C d_M_act_121 rfl rfl ?_
              refine jm_get C fl_6_41 d_M_act_122 hmo rfl ?_
              refine j_iload C d_M_act_125 rfl ?_
              refine j_iload_n C d_M_act_127 rfl rfl ?_
              refine jm_iasti C 10 13 d_M_act_128 (by decide) rfl hmo (by first | exact ix_rf hnr hle (by assumption) (by assumption) | exact ix_rk hnr hle (by assumption) (by assumption) | exact ix_r hnr hle (by omega) (by omega) (by assumption) | exact absurd rfl (gs_ok c59).1 | exact absurd rfl (gs_ok c59).2.1 | exact absurd rfl (gs_ok c59).2.2) rfl ?_
              refine j_iconst (v := 1) C d_M_act_129 (by decide) ?_
              exact j_zreturn C d_M_act_130 rfl (by decide) (by decide) (by decide) ⟨by first | (simp [mact, mkn, kn2, nar1, nar0, pk_un, upa_n, c5, c15, c39, c48, c59, c79]; done) | (simp [mact, mkn, kn2, gsI, bz, nar1, nar0, pk_un, upa_n, c5, c15, c39, c48, c59, c79]; done) | exact absurd c59 (by decide) | exact absurd rfl (gs_ok c59).1 | exact absurd rfl (gs_ok c59).2.1 | exact absurd rfl (gs_ok c59).2.2, rfl, by first | (simp [mact, mkn, kn2, nar1, nar0, pk_un, upa_n, c5, c15, c39, c48, c59, c79]; done) | (simp [mact, mkn, kn2, gsI, bz, nar1, nar0, pk_un, upa_n, c5, c15, c39, c48, c59, c79]; done) | exact absurd c59 (by decide) | exact absurd rfl (gs_ok c59).1 | exact absurd rfl (gs_ok c59).2.1 | exact absurd rfl (gs_ok c59).2.2⟩
            · refine j_aload_n C d_M_act_82 rfl rfl ?_
              refine jm_get C fl_6_35 d_M_act_83 hmo rfl ?_
              refine j_iload C d_M_act_86 rfl ?_
              refine jm_zald C 8 d_M_act_88 (by decide) rfl hmo (by first | exact ix_rf hnr hle (by assumption) (by assumption) | exact ix_rk hnr hle (by assumption) (by assumption) | exact ix_r hnr hle (by omega) (by omega) (by assumption) | exact absurd rfl (gs_ok c59).1 | exact absurd rfl (gs_ok c59).2.1 | exact absurd rfl (gs_ok c59).2.2) rfl ?_
              refine j_if_eq (tgt := 103) C d_M_act_89 (by decide) (fun c89 => ?_) (fun c89 => ?_)
              · refine j_iconst (v := 0) C d_M_act_103 (by decide) ?_
                exact j_zreturn C d_M_act_104 rfl (by decide) (by decide) (by decide) ⟨by first | (simp [mact, mkn, kn2, nar1, nar0, pk_un, upa_n, c5, c15, c39, c48, c59, c79, c89]; done) | (simp [mact, mkn, kn2, gsI, bz, nar1, nar0, pk_un, upa_n, c5, c15, c39, c48, c59, c79, c89]; done) | exact absurd c59 (by decide) | exact absurd rfl (gs_ok c59).1 | exact absurd rfl (gs_ok c59).2.1 | exact absurd rfl (gs_ok c59).2.2, rfl, by first | (simp [mact, mkn, kn2, nar1, nar0, pk_un, upa_n, c5, c15, c39, c48, c59, c79, c89]; done) | (simp [mact, mkn, kn2, gsI, bz, nar1, nar0, pk_un, upa_n, c5, c15, c39, c48, c59, c79, c89]; done) | exact absurd c59 (by decide) | exact absurd rfl (gs_ok c59).1 | exact absurd rfl (gs_ok c59).2.1 | exact absurd rfl (gs_ok c59).2.2⟩
              · refine j_aload_n C d_M_act_92 rfl rfl ?_
                refine jm_get C fl_6_41 d_M_act_93 hmo rfl ?_
                refine j_iload C d_M_act_96 rfl ?_
                refine jm_iald C 10 d_M_act_98 (by decide) rfl hmo (by first | exact ix_rf hnr hle (by assumption) (by assumption) | exact ix_rk hnr hle (by assumption) (by assumption) | exact ix_r hnr hle (by omega) (by omega) (by assumption) | exact absurd rfl (gs_ok c59).1 | exact absurd rfl (gs_ok c59).2.1 | exact absurd rfl (gs_ok c59).2.2) rfl ?_
                refine j_iload_n C d_M_act_99 rfl rfl ?_
                refine j_icmp_gt (tgt := 105) C d_M_act_100 (by decide) (fun c100 => ?_) (fun c100 => ?_)
                · refine j_aload_n C d_M_act_105 rfl rfl ?_
                  refine jm_get C fl_6_31 d_M_act_106 hmo rfl ?_
                  refine j_iload C d_M_act_109 rfl ?_
                  refine j_iconst (v := 1) C d_M_act_111 (by decide) ?_
                  refine jm_zasti C 7 10 d_M_act_112 (by decide) rfl hmo (by first | exact ix_rf hnr hle (by assumption) (by assumption) | exact ix_rk hnr hle (by assumption) (by assumption) | exact ix_r hnr hle (by omega) (by omega) (by assumption) | exact absurd rfl (gs_ok c59).1 | exact absurd rfl (gs_ok c59).2.1 | exact absurd rfl (gs_ok c59).2.2) rfl ?_
                  refine j_aload_n C d_M_act_113 rfl rfl ?_
                  refine jm_get C fl_6_35 d_M_act_114 hmo rfl ?_
                  refine j_iload C d_M_act_117 rfl ?_
                  refine j_iconst (v := 1) C d_M_act_119 (by decide) ?_
                  refine jm_zasti C 8 11 d_M_act_120 (by decide) rfl hmo (by first | exact ix_rf hnr hle (by assumption) (by assumption) | exact ix_rk hnr hle (by assumption) (by assumption) | exact ix_r hnr hle (by omega) (by omega) (by assumption) | exact absurd rfl (gs_ok c59).1 | exact absurd rfl (gs_ok c59).2.1 | exact absurd rfl (gs_ok c59).2.2) rfl ?_
                  refine j_aload_n C d_M_act_121 rfl rfl ?_
                  refine jm_get C fl_6_41 d_M_act_122 hmo rfl ?_
                  refine j_iload C d_M_act_125 rfl ?_
                  refine j_iload_n C d_M_act_127 rfl rfl ?_
                  refine jm_iasti C 10 13 d_M_act_128 (by decide) rfl hmo (by first | exact ix_rf hnr hle (by assumption) (by assumption) | exact ix_rk hnr hle (by assumption) (by assumption) | exact ix_r hnr hle (by omega) (by omega) (by assumption) | exact absurd rfl (gs_ok c59).1 | exact absurd rfl (gs_ok c59).2.1 | exact absurd rfl (gs_ok c59).2.2) rfl ?_
                  refine j_iconst (v := 1) C d_M_act_129 (by decide) ?_
                  exact j_zreturn C d_M_act_130 rfl (by decide) (by decide) (by decide) ⟨by first | (simp [mact, mkn, kn2, nar1, nar0, pk_un, upa_n, c5, c15, c39, c48, c59, c79, c89, c100]; done) | (simp [mact, mkn, kn2, gsI, bz, nar1, nar0, pk_un, upa_n, c5, c15, c39, c48, c59, c79, c89, c100]; done) | exact absurd c59 (by decide) | exact absurd rfl (gs_ok c59).1 | exact absurd rfl (gs_ok c59).2.1 | exact absurd rfl (gs_ok c59).2.2, rfl, by first | (simp [mact, mkn, kn2, nar1, nar0, pk_un, upa_n, c5, c15, c39, c48, c59, c79, c89, c100]; done) | (simp [mact, mkn, kn2, gsI, bz, nar1, nar0, pk_un, upa_n, c5, c15, c39, c48, c59, c79, c89, c100]; done) | exact absurd c59 (by decide) | exact absurd rfl (gs_ok c59).1 | exact absurd rfl (gs_ok c59).2.1 | exact absurd rfl (gs_ok c59).2.2⟩
                · refine j_iconst (v := 0) C d_M_act_103 (by decide) ?_
                  exact j_zreturn C d_M_act_104 rfl (by decide) (by decide) (by decide) ⟨by first | (simp [mact, mkn, kn2, nar1, nar0, pk_un, upa_n, c5, c15, c39, c48, c59, c79, c89, c100]; done) | (simp [mact, mkn, kn2, gsI, bz, nar1, nar0, pk_un, upa_n, c5, c15, c39, c48, c59, c79, c89, c100]; done) | exact absurd c59 (by decide) | exact absurd rfl (gs_ok c59).1 | exact absurd rfl (gs_ok c59).2.1 | exact absurd rfl (gs_ok c59).2.2, rfl, by first | (simp [mact, mkn, kn2, nar1, nar0, pk_un, upa_n, c5, c15, c39, c48, c59, c79, c89, c100]; done) | (simp [mact, mkn, kn2, gsI, bz, nar1, nar0, pk_un, upa_n, c5, c15, c39, c48, c59, c79, c89, c100]; done) | exact absurd c59 (by decide) | exact absurd rfl (gs_ok c59).1 | exact absurd rfl (gs_ok c59).2.1 | exact absurd rfl (gs_ok c59).2.2⟩
          · refine j_iconst (v := 0) C d_M_act_62 (by decide) ?_
            exact j_zreturn C d_M_act_63 rfl (by decide) (by decide) (by decide) ⟨by first | (simp [mact, mkn, kn2, nar1, nar0, pk_un, upa_n, c5, c15, c39, c48, c59]; done) | (simp [mact, mkn, kn2, gsI, bz, nar1, nar0, pk_un, upa_n, c5, c15, c39, c48, c59]; done) | exact absurd c59 (by decide) | exact absurd rfl (gs_ok c59).1 | exact absurd rfl (gs_ok c59).2.1 | exact absurd rfl (gs_ok c59).2.2, rfl, by first | (simp [mact, mkn, kn2, nar1, nar0, pk_un, upa_n, c5, c15, c39, c48, c59]; done) | (simp [mact, mkn, kn2, gsI, bz, nar1, nar0, pk_un, upa_n, c5, c15, c39, c48, c59]; done) | exact absurd c59 (by decide) | exact absurd rfl (gs_ok c59).1 | exact absurd rfl (gs_ok c59).2.1 | exact absurd rfl (gs_ok c59).2.2⟩

def mwrite (σ : Nat → Int32) (α : Nat → Nat → Int32) (x : Int32) : (Nat → Int32) × (Nat → Nat → Int32) := (upd σ 37 (σ 37 + 1), upa α 38 (upd (α 38) (σ 37).toNatClampNeg x))
def mwanted (σ : Nat → Int32) (α : Nat → Nat → Int32) (x y : Int32) : (Nat → Int32) × (Nat → Nat → Int32) := (upd σ 34 (σ 34 + 1), upa (upa α 35 (upd (α 35) (σ 34).toNatClampNeg x)) 36 (upd (α 36) (σ 34).toNatClampNeg y))
set_option maxHeartbeats 4000000 in
set_option maxRecDepth 100000 in
theorem c_M_write {l : Launch} (hl : l.stackTraces = false) {D : va_G} {cA : Nat → ClassId} {b n mo : Nat} (x : Int32) (σ : Nat → Int32) (α : Nat → Nat → Int32) (h : AH) (hmo : mo + 27 < n) (hin : vp_in (σ 37) 300) : Cn l D cA b y_M_write k_M_write 0 0 0 0 [.ref mo, .int x] n (ovM mo σ α h) (Re none n (ovM mo (mwrite σ α x).1 (mwrite σ α x).2 h)) := by
  refine Cn.of (cc := b_M_write) (maxL := 2) (ret := none) (hh := []) (by decide +kernel) hl (Or.inl ⟨rfl, rfl⟩) (Nat.le_of_ble_eq_true rfl) ?_
  intro p e s m args below meth c C
  refine j_aload_n C d_M_write_0 rfl rfl ?_
  refine jm_get C fl_6_93 d_M_write_1 hmo rfl ?_
  refine j_aload_n C d_M_write_4 rfl rfl ?_
  refine jm_get C fl_6_206 d_M_write_5 hmo rfl ?_
  refine j_iload_n C d_M_write_8 rfl rfl ?_
  refine jm_iasti C 26 38 d_M_write_9 (by decide) rfl hmo (by assumption) rfl ?_
  refine j_aload_n C d_M_write_10 rfl rfl ?_
  refine j_dup C d_M_write_11 rfl ?_
  refine jm_get C fl_6_206 d_M_write_12 hmo rfl ?_
  refine j_iconst (v := 1) C d_M_write_15 (by decide) ?_
  refine j_iadd C d_M_write_16 ?_
  refine jm_puti 37 C fp_6_206 d_M_write_17 hmo (by decide) (by first | rfl | assumption) rfl rfl ?_
  exact j_vreturn C d_M_write_20 rfl (by decide) (by decide) ⟨rfl, rfl, rfl⟩

set_option maxHeartbeats 4000000 in
set_option maxRecDepth 100000 in
theorem c_M_wanted {l : Launch} (hl : l.stackTraces = false) {D : va_G} {cA : Nat → ClassId} {b n mo : Nat} (x y : Int32) (σ : Nat → Int32) (α : Nat → Nat → Int32) (h : AH) (hmo : mo + 27 < n) (hin : vp_in (σ 34) 40) : Cn l D cA b y_M_wanted k_M_wanted 0 0 0 0 [.ref mo, .int x, .int y] n (ovM mo σ α h) (Re none n (ovM mo (mwanted σ α x y).1 (mwanted σ α x y).2 h)) := by
  refine Cn.of (cc := b_M_wanted) (maxL := 3) (ret := none) (hh := []) (by decide +kernel) hl (Or.inl ⟨rfl, rfl⟩) (Nat.le_of_ble_eq_true rfl) ?_
  intro p e s m args below meth c C
  refine j_aload_n C d_M_wanted_0 rfl rfl ?_
  refine jm_get C fl_6_87 d_M_wanted_1 hmo rfl ?_
  refine j_aload_n C d_M_wanted_4 rfl rfl ?_
  refine jm_get C fl_6_187 d_M_wanted_5 hmo rfl ?_
  refine j_iload_n C d_M_wanted_8 rfl rfl ?_
  refine jm_iasti C 24 35 d_M_wanted_9 (by decide) rfl hmo (by assumption) rfl ?_
  refine j_aload_n C d_M_wanted_10 rfl rfl ?_
  refine jm_get C fl_6_90 d_M_wanted_11 hmo rfl ?_
  refine j_aload_n C d_M_wanted_14 rfl rfl ?_
  refine jm_get C fl_6_187 d_M_wanted_15 hmo rfl ?_
  refine j_iload_n C d_M_wanted_18 rfl rfl ?_
  refine jm_iasti C 25 36 d_M_wanted_19 (by decide) rfl hmo (by assumption) rfl ?_
  refine j_aload_n C d_M_wanted_20 rfl rfl ?_
  refine j_dup C d_M_wanted_21 rfl ?_
  refine jm_get C fl_6_187 d_M_wanted_22 hmo rfl ?_
  refine j_iconst (v := 1) C d_M_wanted_25 (by decide) ?_
  refine j_iadd C d_M_wanted_26 ?_
  refine jm_puti 34 C fp_6_187 d_M_wanted_27 hmo (by decide) (by first | rfl | assumption) rfl rfl ?_
  exact j_vreturn C d_M_wanted_30 rfl (by decide) (by decide) ⟨rfl, rfl, rfl⟩

