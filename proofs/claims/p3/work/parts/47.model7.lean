/-! ===== contracts of the reference: reportAt ===== -/
set_option maxHeartbeats 4000000 in
set_option maxRecDepth 100000 in
theorem c_M_reportAt {l : Launch} (hl : l.stackTraces = false) {D : va_G} {cA : Nat → ClassId} {b n mo : Nat} (r w : Int32) (σ : Nat → Int32) (α : Nat → Nat → Int32) (h : AH) (hmo : mo + 27 < n) (nr : Nat) (hnr : σ 2 = nI nr) (hle : nr ≤ 30) (hsg : ∀ j, j < 30 → ∃ k, k ≤ 3 ∧ α 8 j = nI k) : Cn l D cA b y_M_reportAt k_M_reportAt 2 28 0 0 [.ref mo, .int r, .int w] n (ovM mo σ α h) (Re (some (.int (mreportAt σ α r w).1)) n (ovM mo (mreportAt σ α r w).2 α h)) := by
  refine Cn.of (cc := b_M_reportAt) (maxL := 3) (ret := (some .int)) (hh := []) (by decide +kernel) hl (Or.inl ⟨rfl, rfl⟩) (Nat.le_of_ble_eq_true rfl) ?_
  intro p e s m args below meth c C
  refine j_aload_n C d_M_reportAt_0 rfl rfl ?_
  refine j_aload_n C d_M_reportAt_1 rfl rfl ?_
  refine j_iload_n C d_M_reportAt_2 rfl rfl ?_
  refine j_callV C d_M_reportAt_3 ml_M_121 mc_M_isReport in_M_isReport rfl se_M_isReport (by omega) (ovM_o _ _ _ _) (c_M_isReport hl _ _ _ _ hmo) rfl rfl (Nat.le_of_ble_eq_true rfl) (Nat.le_of_ble_eq_true rfl) (Nat.le_of_ble_eq_true rfl) (Nat.le_of_ble_eq_true rfl) (jk_r ?_)
  refine j_if_eq (tgt := 23) C d_M_reportAt_6 (by decide) (fun c6 => ?_) (fun c6 => ?_)
  · refine j_iconst (v := 0) C d_M_reportAt_23 (by decide) ?_
    refine j_iconst (v := 1) C d_M_reportAt_24 (by decide) ?_
    refine j_iconst (v := 1) C d_M_reportAt_25 (by decide) ?_
    refine j_callV C d_M_reportAt_26 ml_M_109 mc_M_goes in_M_goes rfl se_M_goes (by omega) (ovM_o _ _ _ _) (c_M_goes hl _ _ _ _ _ _ hmo) rfl rfl (Nat.le_of_ble_eq_true rfl) (Nat.le_of_ble_eq_true rfl) (Nat.le_of_ble_eq_true rfl) (Nat.le_of_ble_eq_true rfl) (jk_r ?_)
    refine j_if_ne (tgt := 34) C d_M_reportAt_29 (by decide) (fun c29 => ?_) (fun c29 => ?_)
    · exact absurd rfl (gs_ok c29).1
    · refine j_iconst (v := 0) C d_M_reportAt_32 (by decide) ?_
      exact j_ireturn C d_M_reportAt_33 rfl (by decide) (by decide) ⟨by first | (simp [mreportAt, mkn, kn2, nar1, nar0, pk_un, upa_n, c6, c29]; done) | (simp [mreportAt, mkn, kn2, gsI, bz, nar1, nar0, pk_un, upa_n, c6, c29]; done) | exact absurd c29 (by decide) | exact absurd rfl (gs_ok c29).1 | exact absurd rfl (gs_ok c29).2.1 | exact absurd rfl (gs_ok c29).2.2 | (unfold mreportAt kn2; simp only []; rw [if_neg c6, if_neg c16, if_neg (by decide)]; first | rfl | (simp [c6, c29, hcl]; done) | (simp [c6, c29]; done)), rfl, by first | (simp [mreportAt, mkn, kn2, nar1, nar0, pk_un, upa_n, c6, c29]; done) | (simp [mreportAt, mkn, kn2, gsI, bz, nar1, nar0, pk_un, upa_n, c6, c29]; done) | exact absurd c29 (by decide) | exact absurd rfl (gs_ok c29).1 | exact absurd rfl (gs_ok c29).2.1 | exact absurd rfl (gs_ok c29).2.2 | (unfold mreportAt kn2; simp only []; rw [if_neg c6, if_neg c16, if_neg (by decide)]; first | rfl | (simp [c6, c29, hcl]; done) | (simp [c6, c29]; done))⟩
  · refine j_iload_n C d_M_reportAt_9 rfl rfl ?_
    refine j_iconst (v := 0) C d_M_reportAt_10 (by decide) ?_
    refine j_bipush (v := 7) C d_M_reportAt_11 (by decide) ?_
    refine j_callS C d_M_reportAt_13 ml_M_102 mc_M_in st_M_in (c_M_in hl _ _ _ _) rfl rfl (Nat.le_of_ble_eq_true rfl) (Nat.le_of_ble_eq_true rfl) (Nat.le_of_ble_eq_true rfl) (Nat.le_of_ble_eq_true rfl) (jk_r ?_)
    refine j_if_eq (tgt := 23) C d_M_reportAt_16 (by decide) (fun c16 => ?_) (fun c16 => ?_)
    · refine j_iconst (v := 0) C d_M_reportAt_23 (by decide) ?_
      refine j_iconst (v := 1) C d_M_reportAt_24 (by decide) ?_
      refine j_iconst (v := 1) C d_M_reportAt_25 (by decide) ?_
      refine j_callV C d_M_reportAt_26 ml_M_109 mc_M_goes in_M_goes rfl se_M_goes (by omega) (ovM_o _ _ _ _) (c_M_goes hl _ _ _ _ _ _ hmo) rfl rfl (Nat.le_of_ble_eq_true rfl) (Nat.le_of_ble_eq_true rfl) (Nat.le_of_ble_eq_true rfl) (Nat.le_of_ble_eq_true rfl) (jk_r ?_)
      refine j_if_ne (tgt := 34) C d_M_reportAt_29 (by decide) (fun c29 => ?_) (fun c29 => ?_)
      · exact absurd rfl (gs_ok c29).1
      · refine j_iconst (v := 0) C d_M_reportAt_32 (by decide) ?_
        exact j_ireturn C d_M_reportAt_33 rfl (by decide) (by decide) ⟨by first | (simp [mreportAt, mkn, kn2, nar1, nar0, pk_un, upa_n, c6, c16, c29]; done) | (simp [mreportAt, mkn, kn2, gsI, bz, nar1, nar0, pk_un, upa_n, c6, c16, c29]; done) | exact absurd c29 (by decide) | exact absurd rfl (gs_ok c29).1 | exact absurd rfl (gs_ok c29).2.1 | exact absurd rfl (gs_ok c29).2.2 | (unfold mreportAt kn2; simp only []; rw [if_neg c6, if_neg c16, if_neg (by decide)]; first | rfl | (simp [c6, c16, c29, hcl]; done) | (simp [c6, c16, c29]; done)), rfl, by first | (simp [mreportAt, mkn, kn2, nar1, nar0, pk_un, upa_n, c6, c16, c29]; done) | (simp [mreportAt, mkn, kn2, gsI, bz, nar1, nar0, pk_un, upa_n, c6, c16, c29]; done) | exact absurd c29 (by decide) | exact absurd rfl (gs_ok c29).1 | exact absurd rfl (gs_ok c29).2.1 | exact absurd rfl (gs_ok c29).2.2 | (unfold mreportAt kn2; simp only []; rw [if_neg c6, if_neg c16, if_neg (by decide)]; first | rfl | (simp [c6, c16, c29, hcl]; done) | (simp [c6, c16, c29]; done))⟩
    · refine j_iconst (v := 1) C d_M_reportAt_19 (by decide) ?_
      refine j_goto (tgt := 24) C d_M_reportAt_20 (by decide) ?_
      refine j_iconst (v := 1) C d_M_reportAt_24 (by decide) ?_
      refine j_iconst (v := 1) C d_M_reportAt_25 (by decide) ?_
      refine j_callV C d_M_reportAt_26 ml_M_109 mc_M_goes in_M_goes rfl se_M_goes (by omega) (ovM_o _ _ _ _) (c_M_goes hl _ _ _ _ _ _ hmo) rfl rfl (Nat.le_of_ble_eq_true rfl) (Nat.le_of_ble_eq_true rfl) (Nat.le_of_ble_eq_true rfl) (Nat.le_of_ble_eq_true rfl) (jk_r ?_)
      refine j_if_ne (tgt := 34) C d_M_reportAt_29 (by decide) (fun c29 => ?_) (fun c29 => ?_)
      · refine j_iload_n C d_M_reportAt_34 rfl rfl ?_
        refine j_iconst (v := 4) C d_M_reportAt_35 (by decide) ?_
        refine j_icmp_ne (tgt := 70) C d_M_reportAt_36 (by decide) (fun c36 => ?_) (fun c36 => ?_)
        · refine j_iload_n C d_M_reportAt_70 rfl rfl ?_
          refine j_if_ne (tgt := 83) C d_M_reportAt_71 (by decide) (fun c71 => ?_) (fun c71 => ?_)
          · refine j_iload_n C d_M_reportAt_83 rfl rfl ?_
            refine j_iconst (v := 1) C d_M_reportAt_84 (by decide) ?_
            refine j_icmp_ne (tgt := 97) C d_M_reportAt_85 (by decide) (fun c85 => ?_) (fun c85 => ?_)
            · refine j_iload_n C d_M_reportAt_97 rfl rfl ?_
              refine j_iconst (v := 2) C d_M_reportAt_98 (by decide) ?_
              refine j_icmp_ne (tgt := 111) C d_M_reportAt_99 (by decide) (fun c99 => ?_) (fun c99 => ?_)
              · refine j_iload_n C d_M_reportAt_111 rfl rfl ?_
                refine j_iconst (v := 3) C d_M_reportAt_112 (by decide) ?_
                refine j_icmp_ne (tgt := 125) C d_M_reportAt_113 (by decide) (fun c113 => ?_) (fun c113 => ?_)
                · refine j_iload_n C d_M_reportAt_125 rfl rfl ?_
                  refine j_iconst (v := 5) C d_M_reportAt_126 (by decide) ?_
                  refine j_icmp_ne (tgt := 139) C d_M_reportAt_127 (by decide) (fun c127 => ?_) (fun c127 => ?_)
                  · refine j_iload_n C d_M_reportAt_139 rfl rfl ?_
                    refine j_bipush (v := 6) C d_M_reportAt_140 (by decide) ?_
                    refine j_icmp_ne (tgt := 153) C d_M_reportAt_142 (by decide) (fun c142 => ?_) (fun c142 => ?_)
                    · refine j_aload_n C d_M_reportAt_153 rfl rfl ?_
                      refine jm_get C fl_6_22 d_M_reportAt_154 hmo rfl ?_
                      refine j_iload_n C d_M_reportAt_157 rfl rfl ?_
                      refine jm_iald C 4 d_M_reportAt_158 (by decide) rfl hmo (by first | exact ix_r hnr hle (by omega) (by omega) c6 | exact absurd rfl (gs_ok c29).1) rfl ?_
                      exact j_ireturn C d_M_reportAt_159 rfl (by decide) (by decide) ⟨by first | (simp [mreportAt, mkn, kn2, nar1, nar0, pk_un, upa_n, c6, c16, c29, c36, c71, c85, c99, c113, c127, c142]; done) | (simp [mreportAt, mkn, kn2, gsI, bz, nar1, nar0, pk_un, upa_n, c6, c16, c29, c36, c71, c85, c99, c113, c127, c142]; done) | exact absurd c29 (by decide) | exact absurd rfl (gs_ok c29).1 | exact absurd rfl (gs_ok c29).2.1 | exact absurd rfl (gs_ok c29).2.2 | (unfold mreportAt kn2; simp only []; rw [if_neg c6, if_neg c16, if_neg (by decide)]; first | rfl | (simp [c6, c16, c29, c36, c71, c85, c99, c113, c127, c142, hcl]; done) | (simp [c6, c16, c29, c36, c71, c85, c99, c113, c127, c142]; done)), rfl, by first | (simp [mreportAt, mkn, kn2, nar1, nar0, pk_un, upa_n, c6, c16, c29, c36, c71, c85, c99, c113, c127, c142]; done) | (simp [mreportAt, mkn, kn2, gsI, bz, nar1, nar0, pk_un, upa_n, c6, c16, c29, c36, c71, c85, c99, c113, c127, c142]; done) | exact absurd c29 (by decide) | exact absurd rfl (gs_ok c29).1 | exact absurd rfl (gs_ok c29).2.1 | exact absurd rfl (gs_ok c29).2.2 | (unfold mreportAt kn2; simp only []; rw [if_neg c6, if_neg c16, if_neg (by decide)]; first | rfl | (simp [c6, c16, c29, c36, c71, c85, c99, c113, c127, c142, hcl]; done) | (simp [c6, c16, c29, c36, c71, c85, c99, c113, c127, c142]; done))⟩
                    · obtain ⟨ra, hra, era⟩ := rep_of hnr hle c6
                      subst era
                      have hcl : (nI ra).toNatClampNeg = ra := nI_clamp (by omega)
                      refine j_aload_n C d_M_reportAt_145 rfl rfl ?_
                      refine j_iload_n C d_M_reportAt_146 rfl rfl ?_
                      refine j_callV C d_M_reportAt_147 ml_M_197 mc_M_opened in_M_opened rfl se_M_opened (by omega) (ovM_o _ _ _ _) (c_M_opened hl _ _ _ _ hmo (by omega)) rfl rfl (Nat.le_of_ble_eq_true rfl) (Nat.le_of_ble_eq_true rfl) (Nat.le_of_ble_eq_true rfl) (Nat.le_of_ble_eq_true rfl) (jk_r ?_)
                      refine j_goto (tgt := 159) C d_M_reportAt_150 (by decide) ?_
                      exact j_ireturn C d_M_reportAt_159 rfl (by decide) (by decide) ⟨by first | (simp [mreportAt, mkn, kn2, nar1, nar0, pk_un, upa_n, c6, c16, c29, c36, c71, c85, c99, c113, c127, c142]; done) | (simp [mreportAt, mkn, kn2, gsI, bz, nar1, nar0, pk_un, upa_n, c6, c16, c29, c36, c71, c85, c99, c113, c127, c142]; done) | exact absurd c29 (by decide) | exact absurd rfl (gs_ok c29).1 | exact absurd rfl (gs_ok c29).2.1 | exact absurd rfl (gs_ok c29).2.2 | (unfold mreportAt kn2; simp only []; rw [if_neg c6, if_neg c16, if_neg (by decide)]; first | rfl | (simp [c6, c16, c29, c36, c71, c85, c99, c113, c127, c142, hcl]; done) | (simp [c6, c16, c29, c36, c71, c85, c99, c113, c127, c142]; done)), rfl, by first | (simp [mreportAt, mkn, kn2, nar1, nar0, pk_un, upa_n, c6, c16, c29, c36, c71, c85, c99, c113, c127, c142]; done) | (simp [mreportAt, mkn, kn2, gsI, bz, nar1, nar0, pk_un, upa_n, c6, c16, c29, c36, c71, c85, c99, c113, c127, c142]; done) | exact absurd c29 (by decide) | exact absurd rfl (gs_ok c29).1 | exact absurd rfl (gs_ok c29).2.1 | exact absurd rfl (gs_ok c29).2.2 | (unfold mreportAt kn2; simp only []; rw [if_neg c6, if_neg c16, if_neg (by decide)]; first | rfl | (simp [c6, c16, c29, c36, c71, c85, c99, c113, c127, c142, hcl]; done) | (simp [c6, c16, c29, c36, c71, c85, c99, c113, c127, c142]; done))⟩
                  · refine j_aload_n C d_M_reportAt_130 rfl rfl ?_
                    refine jm_get C fl_6_19 d_M_reportAt_131 hmo rfl ?_
                    refine j_iload_n C d_M_reportAt_134 rfl rfl ?_
                    refine jm_iald C 3 d_M_reportAt_135 (by decide) rfl hmo (by first | exact ix_r hnr hle (by omega) (by omega) c6 | exact absurd rfl (gs_ok c29).1) rfl ?_
                    refine j_goto (tgt := 159) C d_M_reportAt_136 (by decide) ?_
                    exact j_ireturn C d_M_reportAt_159 rfl (by decide) (by decide) ⟨by first | (simp [mreportAt, mkn, kn2, nar1, nar0, pk_un, upa_n, c6, c16, c29, c36, c71, c85, c99, c113, c127]; done) | (simp [mreportAt, mkn, kn2, gsI, bz, nar1, nar0, pk_un, upa_n, c6, c16, c29, c36, c71, c85, c99, c113, c127]; done) | exact absurd c29 (by decide) | exact absurd rfl (gs_ok c29).1 | exact absurd rfl (gs_ok c29).2.1 | exact absurd rfl (gs_ok c29).2.2 | (unfold mreportAt kn2; simp only []; rw [if_neg c6, if_neg c16, if_neg (by decide)]; first | rfl | (simp [c6, c16, c29, c36, c71, c85, c99, c113, c127, hcl]; done) | (simp [c6, c16, c29, c36, c71, c85, c99, c113, c127]; done)), rfl, by first | (simp [mreportAt, mkn, kn2, nar1, nar0, pk_un, upa_n, c6, c16, c29, c36, c71, c85, c99, c113, c127]; done) | (simp [mreportAt, mkn, kn2, gsI, bz, nar1, nar0, pk_un, upa_n, c6, c16, c29, c36, c71, c85, c99, c113, c127]; done) | exact absurd c29 (by decide) | exact absurd rfl (gs_ok c29).1 | exact absurd rfl (gs_ok c29).2.1 | exact absurd rfl (gs_ok c29).2.2 | (unfold mreportAt kn2; simp only []; rw [if_neg c6, if_neg c16, if_neg (by decide)]; first | rfl | (simp [c6, c16, c29, c36, c71, c85, c99, c113, c127, hcl]; done) | (simp [c6, c16, c29, c36, c71, c85, c99, c113, c127]; done))⟩
                · refine j_aload_n C d_M_reportAt_116 rfl rfl ?_
                  refine jm_get C fl_6_25 d_M_reportAt_117 hmo rfl ?_
                  refine j_iload_n C d_M_reportAt_120 rfl rfl ?_
                  refine jm_iald C 5 d_M_reportAt_121 (by decide) rfl hmo (by first | exact ix_r hnr hle (by omega) (by omega) c6 | exact absurd rfl (gs_ok c29).1) rfl ?_
                  refine j_goto (tgt := 159) C d_M_reportAt_122 (by decide) ?_
                  exact j_ireturn C d_M_reportAt_159 rfl (by decide) (by decide) ⟨by first | (simp [mreportAt, mkn, kn2, nar1, nar0, pk_un, upa_n, c6, c16, c29, c36, c71, c85, c99, c113]; done) | (simp [mreportAt, mkn, kn2, gsI, bz, nar1, nar0, pk_un, upa_n, c6, c16, c29, c36, c71, c85, c99, c113]; done) | exact absurd c29 (by decide) | exact absurd rfl (gs_ok c29).1 | exact absurd rfl (gs_ok c29).2.1 | exact absurd rfl (gs_ok c29).2.2 | (unfold mreportAt kn2; simp only []; rw [if_neg c6, if_neg c16, if_neg (by decide)]; first | rfl | (simp [c6, c16, c29, c36, c71, c85, c99, c113, hcl]; done) | (simp [c6, c16, c29, c36, c71, c85, c99, c113]; done)), rfl, by first | (simp [mreportAt, mkn, kn2, nar1, nar0, pk_un, upa_n, c6, c16, c29, c36, c71, c85, c99, c113]; done) | (simp [mreportAt, mkn, kn2, gsI, bz, nar1, nar0, pk_un, upa_n, c6, c16, c29, c36, c71, c85, c99, c113]; done) | exact absurd c29 (by decide) | exact absurd rfl (gs_ok c29).1 | exact absurd rfl (gs_ok c29).2.1 | exact absurd rfl (gs_ok c29).2.2 | (unfold mreportAt kn2; simp only []; rw [if_neg c6, if_neg c16, if_neg (by decide)]; first | rfl | (simp [c6, c16, c29, c36, c71, c85, c99, c113, hcl]; done) | (simp [c6, c16, c29, c36, c71, c85, c99, c113]; done))⟩
              · refine j_aload_n C d_M_reportAt_102 rfl rfl ?_
                refine jm_get C fl_6_16 d_M_reportAt_103 hmo rfl ?_
                refine j_iload_n C d_M_reportAt_106 rfl rfl ?_
                refine jm_iald C 2 d_M_reportAt_107 (by decide) rfl hmo (by first | exact ix_r hnr hle (by omega) (by omega) c6 | exact absurd rfl (gs_ok c29).1) rfl ?_
                refine j_goto (tgt := 159) C d_M_reportAt_108 (by decide) ?_
                exact j_ireturn C d_M_reportAt_159 rfl (by decide) (by decide) ⟨by first | (simp [mreportAt, mkn, kn2, nar1, nar0, pk_un, upa_n, c6, c16, c29, c36, c71, c85, c99]; done) | (simp [mreportAt, mkn, kn2, gsI, bz, nar1, nar0, pk_un, upa_n, c6, c16, c29, c36, c71, c85, c99]; done) | exact absurd c29 (by decide) | exact absurd rfl (gs_ok c29).1 | exact absurd rfl (gs_ok c29).2.1 | exact absurd rfl (gs_ok c29).2.2 | (unfold mreportAt kn2; simp only []; rw [if_neg c6, if_neg c16, if_neg (by decide)]; first | rfl | (simp [c6, c16, c29, c36, c71, c85, c99, hcl]; done) | (simp [c6, c16, c29, c36, c71, c85, c99]; done)), rfl, by first | (simp [mreportAt, mkn, kn2, nar1, nar0, pk_un, upa_n, c6, c16, c29, c36, c71, c85, c99]; done) | (simp [mreportAt, mkn, kn2, gsI, bz, nar1, nar0, pk_un, upa_n, c6, c16, c29, c36, c71, c85, c99]; done) | exact absurd c29 (by decide) | exact absurd rfl (gs_ok c29).1 | exact absurd rfl (gs_ok c29).2.1 | exact absurd rfl (gs_ok c29).2.2 | (unfold mreportAt kn2; simp only []; rw [if_neg c6, if_neg c16, if_neg (by decide)]; first | rfl | (simp [c6, c16, c29, c36, c71, c85, c99, hcl]; done) | (simp [c6, c16, c29, c36, c71, c85, c99]; done))⟩
            · refine j_aload_n C d_M_reportAt_88 rfl rfl ?_
              refine jm_get C fl_6_13 d_M_reportAt_89 hmo rfl ?_
              refine j_iload_n C d_M_reportAt_92 rfl rfl ?_
              refine jm_iald C 1 d_M_reportAt_93 (by decide) rfl hmo (by first | exact ix_r hnr hle (by omega) (by omega) c6 | exact absurd rfl (gs_ok c29).1) rfl ?_
              refine j_goto (tgt := 159) C d_M_reportAt_94 (by decide) ?_
              exact j_ireturn C d_M_reportAt_159 rfl (by decide) (by decide) ⟨by first | (simp [mreportAt, mkn, kn2, nar1, nar0, pk_un, upa_n, c6, c16, c29, c36, c71, c85]; done) | (simp [mreportAt, mkn, kn2, gsI, bz, nar1, nar0, pk_un, upa_n, c6, c16, c29, c36, c71, c85]; done) | exact absurd c29 (by decide) | exact absurd rfl (gs_ok c29).1 | exact absurd rfl (gs_ok c29).2.1 | exact absurd rfl (gs_ok c29).2.2 | (unfold mreportAt kn2; simp only []; rw [if_neg c6, if_neg c16, if_neg (by decide)]; first | rfl | (simp [c6, c16, c29, c36, c71, c85, hcl]; done) | (simp [c6, c16, c29, c36, c71, c85]; done)), rfl, by first | (simp [mreportAt, mkn, kn2, nar1, nar0, pk_un, upa_n, c6, c16, c29, c36, c71, c85]; done) | (simp [mreportAt, mkn, kn2, gsI, bz, nar1, nar0, pk_un, upa_n, c6, c16, c29, c36, c71, c85]; done) | exact absurd c29 (by decide) | exact absurd rfl (gs_ok c29).1 | exact absurd rfl (gs_ok c29).2.1 | exact absurd rfl (gs_ok c29).2.2 | (unfold mreportAt kn2; simp only []; rw [if_neg c6, if_neg c16, if_neg (by decide)]; first | rfl | (simp [c6, c16, c29, c36, c71, c85, hcl]; done) | (simp [c6, c16, c29, c36, c71, c85]; done))⟩
          · refine j_aload_n C d_M_reportAt_74 rfl rfl ?_
            refine jm_get C fl_6_7 d_M_reportAt_75 hmo rfl ?_
            refine j_iload_n C d_M_reportAt_78 rfl rfl ?_
            refine jm_iald C 0 d_M_reportAt_79 (by decide) rfl hmo (by first | exact ix_r hnr hle (by omega) (by omega) c6 | exact absurd rfl (gs_ok c29).1) rfl ?_
            refine j_goto (tgt := 159) C d_M_reportAt_80 (by decide) ?_
            exact j_ireturn C d_M_reportAt_159 rfl (by decide) (by decide) ⟨by first | (simp [mreportAt, mkn, kn2, nar1, nar0, pk_un, upa_n, c6, c16, c29, c36, c71]; done) | (simp [mreportAt, mkn, kn2, gsI, bz, nar1, nar0, pk_un, upa_n, c6, c16, c29, c36, c71]; done) | exact absurd c29 (by decide) | exact absurd rfl (gs_ok c29).1 | exact absurd rfl (gs_ok c29).2.1 | exact absurd rfl (gs_ok c29).2.2 | (unfold mreportAt kn2; simp only []; rw [if_neg c6, if_neg c16, if_neg (by decide)]; first | rfl | (simp [c6, c16, c29, c36, c71, hcl]; done) | (simp [c6, c16, c29, c36, c71]; done)), rfl, by first | (simp [mreportAt, mkn, kn2, nar1, nar0, pk_un, upa_n, c6, c16, c29, c36, c71]; done) | (simp [mreportAt, mkn, kn2, gsI, bz, nar1, nar0, pk_un, upa_n, c6, c16, c29, c36, c71]; done) | exact absurd c29 (by decide) | exact absurd rfl (gs_ok c29).1 | exact absurd rfl (gs_ok c29).2.1 | exact absurd rfl (gs_ok c29).2.2 | (unfold mreportAt kn2; simp only []; rw [if_neg c6, if_neg c16, if_neg (by decide)]; first | rfl | (simp [c6, c16, c29, c36, c71, hcl]; done) | (simp [c6, c16, c29, c36, c71]; done))⟩
        · refine j_aload_n C d_M_reportAt_39 rfl rfl ?_
          refine jm_get C fl_6_25 d_M_reportAt_40 hmo rfl ?_
          refine j_iload_n C d_M_reportAt_43 rfl rfl ?_
          refine jm_iald C 5 d_M_reportAt_44 (by decide) rfl hmo (by first | exact ix_r hnr hle (by omega) (by omega) c6 | exact absurd rfl (gs_ok c29).1) rfl ?_
          refine j_if_ne (tgt := 52) C d_M_reportAt_45 (by decide) (fun c45 => ?_) (fun c45 => ?_)
          · refine j_aload_n C d_M_reportAt_52 rfl rfl ?_
            refine jm_get C fl_6_28 d_M_reportAt_53 hmo rfl ?_
            refine j_iconst (v := 3) C d_M_reportAt_56 (by decide) ?_
            refine j_iload_n C d_M_reportAt_57 rfl rfl ?_
            refine j_imul C d_M_reportAt_58 ?_
            refine j_aload_n C d_M_reportAt_59 rfl rfl ?_
            refine jm_get C fl_6_25 d_M_reportAt_60 hmo rfl ?_
            refine j_iload_n C d_M_reportAt_63 rfl rfl ?_
            refine jm_iald C 5 d_M_reportAt_64 (by decide) rfl hmo (by first | exact ix_r hnr hle (by omega) (by omega) c6 | exact absurd rfl (gs_ok c29).1) rfl ?_
            refine j_iadd C d_M_reportAt_65 ?_
            refine j_iconst (v := 1) C d_M_reportAt_66 (by decide) ?_
            refine j_isub C d_M_reportAt_67 ?_
            refine jm_iald C 6 d_M_reportAt_68 (by decide) rfl hmo (by first | exact ix_by hnr hle hsg c6 c45 | exact absurd rfl (gs_ok c29).1) rfl ?_
            exact j_ireturn C d_M_reportAt_69 rfl (by decide) (by decide) ⟨by first | (simp [mreportAt, mkn, kn2, nar1, nar0, pk_un, upa_n, c6, c16, c29, c36, c45]; done) | (simp [mreportAt, mkn, kn2, gsI, bz, nar1, nar0, pk_un, upa_n, c6, c16, c29, c36, c45]; done) | exact absurd c29 (by decide) | exact absurd rfl (gs_ok c29).1 | exact absurd rfl (gs_ok c29).2.1 | exact absurd rfl (gs_ok c29).2.2 | (unfold mreportAt kn2; simp only []; rw [if_neg c6, if_neg c16, if_neg (by decide)]; first | rfl | (simp [c6, c16, c29, c36, c45, hcl]; done) | (simp [c6, c16, c29, c36, c45]; done)), rfl, by first | (simp [mreportAt, mkn, kn2, nar1, nar0, pk_un, upa_n, c6, c16, c29, c36, c45]; done) | (simp [mreportAt, mkn, kn2, gsI, bz, nar1, nar0, pk_un, upa_n, c6, c16, c29, c36, c45]; done) | exact absurd c29 (by decide) | exact absurd rfl (gs_ok c29).1 | exact absurd rfl (gs_ok c29).2.1 | exact absurd rfl (gs_ok c29).2.2 | (unfold mreportAt kn2; simp only []; rw [if_neg c6, if_neg c16, if_neg (by decide)]; first | rfl | (simp [c6, c16, c29, c36, c45, hcl]; done) | (simp [c6, c16, c29, c36, c45]; done))⟩
          · refine j_iconst (v := (-1)) C d_M_reportAt_48 (by decide) ?_
            refine j_goto (tgt := 69) C d_M_reportAt_49 (by decide) ?_
            exact j_ireturn C d_M_reportAt_69 rfl (by decide) (by decide) ⟨by first | (simp [mreportAt, mkn, kn2, nar1, nar0, pk_un, upa_n, c6, c16, c29, c36, c45]; done) | (simp [mreportAt, mkn, kn2, gsI, bz, nar1, nar0, pk_un, upa_n, c6, c16, c29, c36, c45]; done) | exact absurd c29 (by decide) | exact absurd rfl (gs_ok c29).1 | exact absurd rfl (gs_ok c29).2.1 | exact absurd rfl (gs_ok c29).2.2 | (unfold mreportAt kn2; simp only []; rw [if_neg c6, if_neg c16, if_neg (by decide)]; first | rfl | (simp [c6, c16, c29, c36, c45, hcl]; done) | (simp [c6, c16, c29, c36, c45]; done)), rfl, by first | (simp [mreportAt, mkn, kn2, nar1, nar0, pk_un, upa_n, c6, c16, c29, c36, c45]; done) | (simp [mreportAt, mkn, kn2, gsI, bz, nar1, nar0, pk_un, upa_n, c6, c16, c29, c36, c45]; done) | exact absurd c29 (by decide) | exact absurd rfl (gs_ok c29).1 | exact absurd rfl (gs_ok c29).2.1 | exact absurd rfl (gs_ok c29).2.2 | (unfold mreportAt kn2; simp only []; rw [if_neg c6, if_neg c16, if_neg (by decide)]; first | rfl | (simp [c6, c16, c29, c36, c45, hcl]; done) | (simp [c6, c16, c29, c36, c45]; done))⟩
      · exact absurd c29 (by decide)

