/-! ===== contracts of the reference: has, of, wanting, reportAt ===== -/
theorem rep_ofN {x t : Int32} {nr N : Nat} (hnr : t = nI nr) (hle : nr ≤ N) (hN : N < 2 ^ 31) (h : ¬ inI x 0 (t - 1) = 0) : ∃ j : Nat, j < nr ∧ x = nI j := by
  subst hnr
  cases nr with
  | zero =>
    exfalso
    apply h
    unfold inI
    by_cases h1 : x < 0
    · rw [if_pos h1]
    · rw [if_neg h1, if_pos]
      exact Int32.lt_of_lt_of_le (by decide : nI 0 - 1 < (0 : Int32)) (Int32.not_lt.mp h1)
  | succ k =>
    rw [nI_pred] at h
    obtain ⟨j, hj, e⟩ := in_of (by omega) h
    exact ⟨j, by omega, e⟩
theorem ix_w {x t : Int32} {nr N : Nat} (hnr : t = nI nr) (hle : nr ≤ N) (hN : N < 2 ^ 31) (h : ¬ inI x 0 (t - 1) = 0) : vp_in x N := by
  obtain ⟨j, hj, rfl⟩ := rep_ofN hnr hle hN h
  exact vp_in_nI (by omega) hN
theorem ix_by {t r : Int32} {nr : Nat} {g : Nat → Int32} (hnr : t = nI nr) (hle : nr ≤ 30) (hsg : ∀ j, j < 30 → ∃ k, k ≤ 3 ∧ g j = nI k) (hr : ¬ inI r 0 (t - 1) = 0) (h0 : ¬ g r.toNatClampNeg = 0) : vp_in (3 * r + g r.toNatClampNeg - 1) 90 := by
  obtain ⟨a, ha, rfl⟩ := rep_of hnr hle hr
  rw [nI_clamp (by omega)] at h0 ⊢
  obtain ⟨k, hk, e⟩ := hsg a (by omega)
  rw [e] at h0 ⊢
  cases k with
  | zero => exact absurd rfl h0
  | succ k =>
    have e1 : (3 : Int32) * nI a + nI (k + 1) - 1 = nI (3 * a + k) := by
      rw [show (3 : Int32) = nI 3 from rfl, pk_mul, nI_add, ← Nat.add_assoc, nI_pred]
    rw [e1]
    exact vp_in_nI (by omega) (by omega)
def mhas (α : Nat → Nat → Int32) (r f : Int32) : Int32 := if 0 ≤ f then 1 else if α 10 (20 * r - 1 - f).toNatClampNeg = 0 then 0 else 1
def mof (α : Nat → Nat → Int32) (r f : Int32) : Int32 := if f < 0 then α 13 (20 * r - 1 - f).toNatClampNeg else f
def mreportAt (σ : Nat → Int32) (α : Nat → Nat → Int32) (r w : Int32) : Int32 × (Nat → Int32) :=
  let j := r.toNatClampNeg
  if kn2 (inI r 0 (σ 2 - 1)) (inI w 0 7) = 0 then (0, upd σ 0 1) else
  (if w = 4 then (if α 8 j = 0 then -1 else α 9 (3 * r + α 8 j - 1).toNatClampNeg) else if w = 0 then α 3 j else if w = 1 then α 4 j else if w = 2 then α 5 j else if w = 3 then α 8 j else if w = 5 then α 6 j else if w = 6 then opn (α 12) (20 * j) 20 0 0 else α 7 j, upd σ 0 0)
set_option maxHeartbeats 4000000 in
set_option maxRecDepth 100000 in
theorem c_M_has {l : Launch} (hl : l.stackTraces = false) {D : va_G} {cA : Nat → ClassId} {b n mo : Nat} (r f : Int32) (σ : Nat → Int32) (α : Nat → Nat → Int32) (h : AH) (hmo : mo + 27 < n) (hin : ¬ 0 ≤ f → vp_in (20 * r - 1 - f) 600) : Cn l D cA b y_M_has k_M_has 0 0 0 0 [.ref mo, .int r, .int f] n (ovM mo σ α h) (Re (some (.int (mhas α r f))) n (ovM mo σ α h)) := by
  refine Cn.of (cc := b_M_has) (maxL := 3) (ret := (some .boolean)) (hh := []) (by decide +kernel) hl (Or.inl ⟨rfl, rfl⟩) (Nat.le_of_ble_eq_true rfl) ?_
  intro p e s m args below meth c C
  refine j_iload_n C d_M_has_0 rfl rfl ?_
  refine j_if_ge (tgt := 20) C d_M_has_1 (by decide) (fun c1 => ?_) (fun c1 => ?_)
  · refine j_iconst (v := 1) C d_M_has_20 (by decide) ?_
    refine j_goto (tgt := 25) C d_M_has_21 (by decide) ?_
    exact j_zreturn C d_M_has_25 rfl (by decide) (by decide) (by decide) ⟨by simp [mhas, c1], rfl, rfl⟩
  · refine j_aload_n C d_M_has_4 rfl rfl ?_
    refine jm_get C fl_6_31 d_M_has_5 hmo rfl ?_
    refine j_bipush (v := 20) C d_M_has_8 (by decide) ?_
    refine j_iload_n C d_M_has_10 rfl rfl ?_
    refine j_imul C d_M_has_11 ?_
    refine j_iconst (v := 1) C d_M_has_12 (by decide) ?_
    refine j_isub C d_M_has_13 ?_
    refine j_iload_n C d_M_has_14 rfl rfl ?_
    refine j_isub C d_M_has_15 ?_
    refine jm_zald C 7 d_M_has_16 (by decide) rfl hmo (hin c1) rfl ?_
    refine j_if_eq (tgt := 24) C d_M_has_17 (by decide) (fun c17 => ?_) (fun c17 => ?_)
    · refine j_iconst (v := 0) C d_M_has_24 (by decide) ?_
      exact j_zreturn C d_M_has_25 rfl (by decide) (by decide) (by decide) ⟨by simp [mhas, c1, c17], rfl, rfl⟩
    · refine j_iconst (v := 1) C d_M_has_20 (by decide) ?_
      refine j_goto (tgt := 25) C d_M_has_21 (by decide) ?_
      exact j_zreturn C d_M_has_25 rfl (by decide) (by decide) (by decide) ⟨by simp [mhas, c1, c17], rfl, rfl⟩

set_option maxHeartbeats 4000000 in
set_option maxRecDepth 100000 in
theorem c_M_of {l : Launch} (hl : l.stackTraces = false) {D : va_G} {cA : Nat → ClassId} {b n mo : Nat} (r f : Int32) (σ : Nat → Int32) (α : Nat → Nat → Int32) (h : AH) (hmo : mo + 27 < n) (hin : f < 0 → vp_in (20 * r - 1 - f) 600) : Cn l D cA b y_M_of k_M_of 0 0 0 0 [.ref mo, .int r, .int f] n (ovM mo σ α h) (Re (some (.int (mof α r f))) n (ovM mo σ α h)) := by
  refine Cn.of (cc := b_M_of) (maxL := 3) (ret := (some .int)) (hh := []) (by decide +kernel) hl (Or.inl ⟨rfl, rfl⟩) (Nat.le_of_ble_eq_true rfl) ?_
  intro p e s m args below meth c C
  refine j_iload_n C d_M_of_0 rfl rfl ?_
  refine j_if_lt (tgt := 8) C d_M_of_1 (by decide) (fun c1 => ?_) (fun c1 => ?_)
  · refine j_aload_n C d_M_of_8 rfl rfl ?_
    refine jm_get C fl_6_41 d_M_of_9 hmo rfl ?_
    refine j_bipush (v := 20) C d_M_of_12 (by decide) ?_
    refine j_iload_n C d_M_of_14 rfl rfl ?_
    refine j_imul C d_M_of_15 ?_
    refine j_iconst (v := 1) C d_M_of_16 (by decide) ?_
    refine j_isub C d_M_of_17 ?_
    refine j_iload_n C d_M_of_18 rfl rfl ?_
    refine j_isub C d_M_of_19 ?_
    refine jm_iald C 10 d_M_of_20 (by decide) rfl hmo (hin c1) rfl ?_
    exact j_ireturn C d_M_of_21 rfl (by decide) (by decide) ⟨by simp [mof, c1], rfl, rfl⟩
  · refine j_iload_n C d_M_of_4 rfl rfl ?_
    refine j_goto (tgt := 21) C d_M_of_5 (by decide) ?_
    exact j_ireturn C d_M_of_21 rfl (by decide) (by decide) ⟨by simp [mof, c1], rfl, rfl⟩

set_option maxHeartbeats 4000000 in
set_option maxRecDepth 100000 in
theorem c_M_wanting {l : Launch} (hl : l.stackTraces = false) {D : va_G} {cA : Nat → ClassId} {b n mo : Nat} (i w : Int32) (σ : Nat → Int32) (α : Nat → Nat → Int32) (h : AH) (hmo : mo + 27 < n) (nw : Nat) (hnw : σ 34 = nI nw) (hlw : nw ≤ 40) : Cn l D cA b y_M_wanting k_M_wanting 1 15 0 0 [.ref mo, .int i, .int w] n (ovM mo σ α h) (Re (some (.int (mwanting σ α i w).1)) n (ovM mo (mwanting σ α i w).2 α h)) := by
  refine Cn.of (cc := b_M_wanting) (maxL := 3) (ret := (some .int)) (hh := []) (by decide +kernel) hl (Or.inl ⟨rfl, rfl⟩) (Nat.le_of_ble_eq_true rfl) ?_
  intro p e s m args below meth c C
  refine j_aload_n C d_M_wanting_0 rfl rfl ?_
  refine j_iload_n C d_M_wanting_1 rfl rfl ?_
  refine j_iconst (v := 0) C d_M_wanting_2 (by decide) ?_
  refine j_aload_n C d_M_wanting_3 rfl rfl ?_
  refine jm_get C fl_6_187 d_M_wanting_4 hmo rfl ?_
  refine j_iconst (v := 1) C d_M_wanting_7 (by decide) ?_
  refine j_isub C d_M_wanting_8 ?_
  refine j_callS C d_M_wanting_9 ml_M_102 mc_M_in st_M_in (c_M_in hl _ _ _ _) rfl rfl (Nat.le_of_ble_eq_true rfl) (Nat.le_of_ble_eq_true rfl) (Nat.le_of_ble_eq_true rfl) (Nat.le_of_ble_eq_true rfl) (jk_r ?_)
  refine j_if_eq (tgt := 28) C d_M_wanting_12 (by decide) (fun c12 => ?_) (fun c12 => ?_)
  · refine j_iconst (v := 0) C d_M_wanting_28 (by decide) ?_
    refine j_iconst (v := 1) C d_M_wanting_29 (by decide) ?_
    refine j_iconst (v := 1) C d_M_wanting_30 (by decide) ?_
    refine j_callV C d_M_wanting_31 ml_M_109 mc_M_goes in_M_goes rfl se_M_goes (by omega) (ovM_o _ _ _ _) (c_M_goes hl _ _ _ _ _ _ hmo) rfl rfl (Nat.le_of_ble_eq_true rfl) (Nat.le_of_ble_eq_true rfl) (Nat.le_of_ble_eq_true rfl) (Nat.le_of_ble_eq_true rfl) (jk_r ?_)
    refine j_if_ne (tgt := 39) C d_M_wanting_34 (by decide) (fun c34 => ?_) (fun c34 => ?_)
    · refine j_iload_n C d_M_wanting_39 rfl rfl ?_
      refine j_if_ne (tgt := 52) C d_M_wanting_40 (by decide) (fun c40 => ?_) (fun c40 => ?_)
      · refine j_aload_n C d_M_wanting_52 rfl rfl ?_
        refine jm_get C fl_6_90 d_M_wanting_53 hmo rfl ?_
        refine j_iload_n C d_M_wanting_56 rfl rfl ?_
        refine jm_iald C 25 d_M_wanting_57 (by decide) rfl hmo (by first | exact ix_w hnw hlw (by omega) c12 | exact absurd rfl (gs_ok c34).1) rfl ?_
        exact j_ireturn C d_M_wanting_58 rfl (by decide) (by decide) ⟨by first | (simp [mwanting, mkn, kn2, nar1, nar0, pk_un, upa_n, c12, c34, c40]; done) | (simp [mwanting, mkn, kn2, gsI, bz, nar1, nar0, pk_un, upa_n, c12, c34, c40]; done) | exact absurd c34 (by decide) | exact absurd rfl (gs_ok c34).1 | exact absurd rfl (gs_ok c34).2.1 | exact absurd rfl (gs_ok c34).2.2 | (unfold mwanting kn2; rw [if_neg c12, if_neg c21, if_neg (by decide)]; first | rfl | (simp [c40]; done)), rfl, by first | (simp [mwanting, mkn, kn2, nar1, nar0, pk_un, upa_n, c12, c34, c40]; done) | (simp [mwanting, mkn, kn2, gsI, bz, nar1, nar0, pk_un, upa_n, c12, c34, c40]; done) | exact absurd c34 (by decide) | exact absurd rfl (gs_ok c34).1 | exact absurd rfl (gs_ok c34).2.1 | exact absurd rfl (gs_ok c34).2.2 | (unfold mwanting kn2; rw [if_neg c12, if_neg c21, if_neg (by decide)]; first | rfl | (simp [c40]; done))⟩
      · refine j_aload_n C d_M_wanting_43 rfl rfl ?_
        refine jm_get C fl_6_87 d_M_wanting_44 hmo rfl ?_
        refine j_iload_n C d_M_wanting_47 rfl rfl ?_
        refine jm_iald C 24 d_M_wanting_48 (by decide) rfl hmo (by first | exact ix_w hnw hlw (by omega) c12 | exact absurd rfl (gs_ok c34).1) rfl ?_
        refine j_goto (tgt := 58) C d_M_wanting_49 (by decide) ?_
        exact j_ireturn C d_M_wanting_58 rfl (by decide) (by decide) ⟨by first | (simp [mwanting, mkn, kn2, nar1, nar0, pk_un, upa_n, c12, c34, c40]; done) | (simp [mwanting, mkn, kn2, gsI, bz, nar1, nar0, pk_un, upa_n, c12, c34, c40]; done) | exact absurd c34 (by decide) | exact absurd rfl (gs_ok c34).1 | exact absurd rfl (gs_ok c34).2.1 | exact absurd rfl (gs_ok c34).2.2 | (unfold mwanting kn2; rw [if_neg c12, if_neg c21, if_neg (by decide)]; first | rfl | (simp [c40]; done)), rfl, by first | (simp [mwanting, mkn, kn2, nar1, nar0, pk_un, upa_n, c12, c34, c40]; done) | (simp [mwanting, mkn, kn2, gsI, bz, nar1, nar0, pk_un, upa_n, c12, c34, c40]; done) | exact absurd c34 (by decide) | exact absurd rfl (gs_ok c34).1 | exact absurd rfl (gs_ok c34).2.1 | exact absurd rfl (gs_ok c34).2.2 | (unfold mwanting kn2; rw [if_neg c12, if_neg c21, if_neg (by decide)]; first | rfl | (simp [c40]; done))⟩
    · refine j_iconst (v := 0) C d_M_wanting_37 (by decide) ?_
      exact j_ireturn C d_M_wanting_38 rfl (by decide) (by decide) ⟨by first | (simp [mwanting, mkn, kn2, nar1, nar0, pk_un, upa_n, c12, c34]; done) | (simp [mwanting, mkn, kn2, gsI, bz, nar1, nar0, pk_un, upa_n, c12, c34]; done) | exact absurd c34 (by decide) | exact absurd rfl (gs_ok c34).1 | exact absurd rfl (gs_ok c34).2.1 | exact absurd rfl (gs_ok c34).2.2 | (unfold mwanting kn2; rw [if_neg c12, if_neg c21, if_neg (by decide)]; first | rfl | (simp [c40]; done)), rfl, by first | (simp [mwanting, mkn, kn2, nar1, nar0, pk_un, upa_n, c12, c34]; done) | (simp [mwanting, mkn, kn2, gsI, bz, nar1, nar0, pk_un, upa_n, c12, c34]; done) | exact absurd c34 (by decide) | exact absurd rfl (gs_ok c34).1 | exact absurd rfl (gs_ok c34).2.1 | exact absurd rfl (gs_ok c34).2.2 | (unfold mwanting kn2; rw [if_neg c12, if_neg c21, if_neg (by decide)]; first | rfl | (simp [c40]; done))⟩
  · refine j_iload_n C d_M_wanting_15 rfl rfl ?_
    refine j_iconst (v := 0) C d_M_wanting_16 (by decide) ?_
    refine j_iconst (v := 1) C d_M_wanting_17 (by decide) ?_
    refine j_callS C d_M_wanting_18 ml_M_102 mc_M_in st_M_in (c_M_in hl _ _ _ _) rfl rfl (Nat.le_of_ble_eq_true rfl) (Nat.le_of_ble_eq_true rfl) (Nat.le_of_ble_eq_true rfl) (Nat.le_of_ble_eq_true rfl) (jk_r ?_)
    refine j_if_eq (tgt := 28) C d_M_wanting_21 (by decide) (fun c21 => ?_) (fun c21 => ?_)
    · refine j_iconst (v := 0) C d_M_wanting_28 (by decide) ?_
      refine j_iconst (v := 1) C d_M_wanting_29 (by decide) ?_
      refine j_iconst (v := 1) C d_M_wanting_30 (by decide) ?_
      refine j_callV C d_M_wanting_31 ml_M_109 mc_M_goes in_M_goes rfl se_M_goes (by omega) (ovM_o _ _ _ _) (c_M_goes hl _ _ _ _ _ _ hmo) rfl rfl (Nat.le_of_ble_eq_true rfl) (Nat.le_of_ble_eq_true rfl) (Nat.le_of_ble_eq_true rfl) (Nat.le_of_ble_eq_true rfl) (jk_r ?_)
      refine j_if_ne (tgt := 39) C d_M_wanting_34 (by decide) (fun c34 => ?_) (fun c34 => ?_)
      · refine j_iload_n C d_M_wanting_39 rfl rfl ?_
        refine j_if_ne (tgt := 52) C d_M_wanting_40 (by decide) (fun c40 => ?_) (fun c40 => ?_)
        · refine j_aload_n C d_M_wanting_52 rfl rfl ?_
          refine jm_get C fl_6_90 d_M_wanting_53 hmo rfl ?_
          refine j_iload_n C d_M_wanting_56 rfl rfl ?_
          refine jm_iald C 25 d_M_wanting_57 (by decide) rfl hmo (by first | exact ix_w hnw hlw (by omega) c12 | exact absurd rfl (gs_ok c34).1) rfl ?_
          exact j_ireturn C d_M_wanting_58 rfl (by decide) (by decide) ⟨by first | (simp [mwanting, mkn, kn2, nar1, nar0, pk_un, upa_n, c12, c21, c34, c40]; done) | (simp [mwanting, mkn, kn2, gsI, bz, nar1, nar0, pk_un, upa_n, c12, c21, c34, c40]; done) | exact absurd c34 (by decide) | exact absurd rfl (gs_ok c34).1 | exact absurd rfl (gs_ok c34).2.1 | exact absurd rfl (gs_ok c34).2.2 | (unfold mwanting kn2; rw [if_neg c12, if_neg c21, if_neg (by decide)]; first | rfl | (simp [c40]; done)), rfl, by first | (simp [mwanting, mkn, kn2, nar1, nar0, pk_un, upa_n, c12, c21, c34, c40]; done) | (simp [mwanting, mkn, kn2, gsI, bz, nar1, nar0, pk_un, upa_n, c12, c21, c34, c40]; done) | exact absurd c34 (by decide) | exact absurd rfl (gs_ok c34).1 | exact absurd rfl (gs_ok c34).2.1 | exact absurd rfl (gs_ok c34).2.2 | (unfold mwanting kn2; rw [if_neg c12, if_neg c21, if_neg (by decide)]; first | rfl | (simp [c40]; done))⟩
        · refine j_aload_n C d_M_wanting_43 rfl rfl ?_
          refine jm_get C fl_6_87 d_M_wanting_44 hmo rfl ?_
          refine j_iload_n C d_M_wanting_47 rfl rfl ?_
          refine jm_iald C 24 d_M_wanting_48 (by decide) rfl hmo (by first | exact ix_w hnw hlw (by omega) c12 | exact absurd rfl (gs_ok c34).1) rfl ?_
          refine j_goto (tgt := 58) C d_M_wanting_49 (by decide) ?_
          exact j_ireturn C d_M_wanting_58 rfl (by decide) (by decide) ⟨by first | (simp [mwanting, mkn, kn2, nar1, nar0, pk_un, upa_n, c12, c21, c34, c40]; done) | (simp [mwanting, mkn, kn2, gsI, bz, nar1, nar0, pk_un, upa_n, c12, c21, c34, c40]; done) | exact absurd c34 (by decide) | exact absurd rfl (gs_ok c34).1 | exact absurd rfl (gs_ok c34).2.1 | exact absurd rfl (gs_ok c34).2.2 | (unfold mwanting kn2; rw [if_neg c12, if_neg c21, if_neg (by decide)]; first | rfl | (simp [c40]; done)), rfl, by first | (simp [mwanting, mkn, kn2, nar1, nar0, pk_un, upa_n, c12, c21, c34, c40]; done) | (simp [mwanting, mkn, kn2, gsI, bz, nar1, nar0, pk_un, upa_n, c12, c21, c34, c40]; done) | exact absurd c34 (by decide) | exact absurd rfl (gs_ok c34).1 | exact absurd rfl (gs_ok c34).2.1 | exact absurd rfl (gs_ok c34).2.2 | (unfold mwanting kn2; rw [if_neg c12, if_neg c21, if_neg (by decide)]; first | rfl | (simp [c40]; done))⟩
      · refine j_iconst (v := 0) C d_M_wanting_37 (by decide) ?_
        exact j_ireturn C d_M_wanting_38 rfl (by decide) (by decide) ⟨by first | (simp [mwanting, mkn, kn2, nar1, nar0, pk_un, upa_n, c12, c21, c34]; done) | (simp [mwanting, mkn, kn2, gsI, bz, nar1, nar0, pk_un, upa_n, c12, c21, c34]; done) | exact absurd c34 (by decide) | exact absurd rfl (gs_ok c34).1 | exact absurd rfl (gs_ok c34).2.1 | exact absurd rfl (gs_ok c34).2.2 | (unfold mwanting kn2; rw [if_neg c12, if_neg c21, if_neg (by decide)]; first | rfl | (simp [c40]; done)), rfl, by first | (simp [mwanting, mkn, kn2, nar1, nar0, pk_un, upa_n, c12, c21, c34]; done) | (simp [mwanting, mkn, kn2, gsI, bz, nar1, nar0, pk_un, upa_n, c12, c21, c34]; done) | exact absurd c34 (by decide) | exact absurd rfl (gs_ok c34).1 | exact absurd rfl (gs_ok c34).2.1 | exact absurd rfl (gs_ok c34).2.2 | (unfold mwanting kn2; rw [if_neg c12, if_neg c21, if_neg (by decide)]; first | rfl | (simp [c40]; done))⟩
    · refine j_iconst (v := 1) C d_M_wanting_24 (by decide) ?_
      refine j_goto (tgt := 29) C d_M_wanting_25 (by decide) ?_
      refine j_iconst (v := 1) C d_M_wanting_29 (by decide) ?_
      refine j_iconst (v := 1) C d_M_wanting_30 (by decide) ?_
      refine j_callV C d_M_wanting_31 ml_M_109 mc_M_goes in_M_goes rfl se_M_goes (by omega) (ovM_o _ _ _ _) (c_M_goes hl _ _ _ _ _ _ hmo) rfl rfl (Nat.le_of_ble_eq_true rfl) (Nat.le_of_ble_eq_true rfl) (Nat.le_of_ble_eq_true rfl) (Nat.le_of_ble_eq_true rfl) (jk_r ?_)
      refine j_if_ne (tgt := 39) C d_M_wanting_34 (by decide) (fun c34 => ?_) (fun c34 => ?_)
      · refine j_iload_n C d_M_wanting_39 rfl rfl ?_
        refine j_if_ne (tgt := 52) C d_M_wanting_40 (by decide) (fun c40 => ?_) (fun c40 => ?_)
        · refine j_aload_n C d_M_wanting_52 rfl rfl ?_
          refine jm_get C fl_6_90 d_M_wanting_53 hmo rfl ?_
          refine j_iload_n C d_M_wanting_56 rfl rfl ?_
          refine jm_iald C 25 d_M_wanting_57 (by decide) rfl hmo (by first | exact ix_w hnw hlw (by omega) c12 | exact absurd rfl (gs_ok c34).1) rfl ?_
          exact j_ireturn C d_M_wanting_58 rfl (by decide) (by decide) ⟨by first | (simp [mwanting, mkn, kn2, nar1, nar0, pk_un, upa_n, c12, c21, c34, c40]; done) | (simp [mwanting, mkn, kn2, gsI, bz, nar1, nar0, pk_un, upa_n, c12, c21, c34, c40]; done) | exact absurd c34 (by decide) | exact absurd rfl (gs_ok c34).1 | exact absurd rfl (gs_ok c34).2.1 | exact absurd rfl (gs_ok c34).2.2 | (unfold mwanting kn2; rw [if_neg c12, if_neg c21, if_neg (by decide)]; first | rfl | (simp [c40]; done)), rfl, by first | (simp [mwanting, mkn, kn2, nar1, nar0, pk_un, upa_n, c12, c21, c34, c40]; done) | (simp [mwanting, mkn, kn2, gsI, bz, nar1, nar0, pk_un, upa_n, c12, c21, c34, c40]; done) | exact absurd c34 (by decide) | exact absurd rfl (gs_ok c34).1 | exact absurd rfl (gs_ok c34).2.1 | exact absurd rfl (gs_ok c34).2.2 | (unfold mwanting kn2; rw [if_neg c12, if_neg c21, if_neg (by decide)]; first | rfl | (simp [c40]; done))⟩
        · refine j_aload_n C d_M_wanting_43 rfl rfl ?_
          refine jm_get C fl_6_87 d_M_wanting_44 hmo rfl ?_
          refine j_iload_n C d_M_wanting_47 rfl rfl ?_
          refine jm_iald C 24 d_M_wanting_48 (by decide) rfl hmo (by first | exact ix_w hnw hlw (by omega) c12 | exact absurd rfl (gs_ok c34).1) rfl ?_
          refine j_goto (tgt := 58) C d_M_wanting_49 (by decide) ?_
          exact j_ireturn C d_M_wanting_58 rfl (by decide) (by decide) ⟨by first | (simp [mwanting, mkn, kn2, nar1, nar0, pk_un, upa_n, c12, c21, c34, c40]; done) | (simp [mwanting, mkn, kn2, gsI, bz, nar1, nar0, pk_un, upa_n, c12, c21, c34, c40]; done) | exact absurd c34 (by decide) | exact absurd rfl (gs_ok c34).1 | exact absurd rfl (gs_ok c34).2.1 | exact absurd rfl (gs_ok c34).2.2 | (unfold mwanting kn2; rw [if_neg c12, if_neg c21, if_neg (by decide)]; first | rfl | (simp [c40]; done)), rfl, by first | (simp [mwanting, mkn, kn2, nar1, nar0, pk_un, upa_n, c12, c21, c34, c40]; done) | (simp [mwanting, mkn, kn2, gsI, bz, nar1, nar0, pk_un, upa_n, c12, c21, c34, c40]; done) | exact absurd c34 (by decide) | exact absurd rfl (gs_ok c34).1 | exact absurd rfl (gs_ok c34).2.1 | exact absurd rfl (gs_ok c34).2.2 | (unfold mwanting kn2; rw [if_neg c12, if_neg c21, if_neg (by decide)]; first | rfl | (simp [c40]; done))⟩
      · refine j_iconst (v := 0) C d_M_wanting_37 (by decide) ?_
        exact j_ireturn C d_M_wanting_38 rfl (by decide) (by decide) ⟨by first | (simp [mwanting, mkn, kn2, nar1, nar0, pk_un, upa_n, c12, c21, c34]; done) | (simp [mwanting, mkn, kn2, gsI, bz, nar1, nar0, pk_un, upa_n, c12, c21, c34]; done) | exact absurd c34 (by decide) | exact absurd rfl (gs_ok c34).1 | exact absurd rfl (gs_ok c34).2.1 | exact absurd rfl (gs_ok c34).2.2 | (unfold mwanting kn2; rw [if_neg c12, if_neg c21, if_neg (by decide)]; first | rfl | (simp [c40]; done)), rfl, by first | (simp [mwanting, mkn, kn2, nar1, nar0, pk_un, upa_n, c12, c21, c34]; done) | (simp [mwanting, mkn, kn2, gsI, bz, nar1, nar0, pk_un, upa_n, c12, c21, c34]; done) | exact absurd c34 (by decide) | exact absurd rfl (gs_ok c34).1 | exact absurd rfl (gs_ok c34).2.1 | exact absurd rfl (gs_ok c34).2.2 | (unfold mwanting kn2; rw [if_neg c12, if_neg c21, if_neg (by decide)]; first | rfl | (simp [c40]; done))⟩
/-! ===== contracts of the reference: reportAt ===== -/
set_option maxHeartbeats 4000000 in
set_option maxRecDepth 100000 in
theorem c_M_reportAt {l : Launch} (hl : l.stackTraces = false) {D : va_G} {cA : Nat → ClassId} {b n mo : Nat} (r w : Int32) (σ : Nat → Int32) (α : Nat → Nat → Int32) (h : AH) (hmo : mo + 27 < n) (nr : Nat) (hnr : σ 2 = nI nr) (hle : nr ≤ 30) (hsg : ∀ j, j < 30 → ∃ k, k ≤ 3 ∧ α 8 j = nI k) : Cn l D cA b y_M_reportAt k_M_reportAt 2 28 0 0 [.ref mo, .int r, .int w] n (ovM mo σ α h) (Re (some (.int (mreportAt σ α r w).1)) n (ovM mo (mreportAt σ α r w).2 α h)) := by
  refine Cn.of (cc := b_M_reportAt) (maxL := 3) (ret := (some .int)) (hh := []) (by decide +kernel) hl (Or.inl ⟨rfl, rfl⟩) (Nat.le_of_ble_eq_true rfl) ?_
  intro p e s m args below meth c C
  refine j_aload_n C d_M_reportAt_0 rfl rfl ?_
  refine j_aload_n C d_M_reportAt_1 rfl rfl ?_
  refine j_iload_n C d_M_reportAt_2 rfl rfl ?_
  refine j_callV C d_M_reportAt_3 ml_M_121 mc_M_isReport in_M_isReport rfl se_M_isReport (by omega) (ovM_o _ _ _ _) (c_M_isReport hl _ _ _ _ hmo) rfl rfl (Nat.le_of_ble_eq_true rfl) (Nat.le_of_ble_eq_true rfl) (Nat.le_of_ble_eq_true rfl) (Nat.le_of_ble_eq_true rfl) (jk_r ?_)
  refine j_if_eq (tgt := 23) C d_M_reportAt_6 (by decide) (fun c6 => ?_) (fun c6 => ?_)
  · refine j_iconst (v := 0) C d_M_reportAt_23 (by decide) ?_
    refine j_iconst (v := 1) C d_M_reportAt_24 (by decide) ?_
    refine j_iconst (v := 1) C d_M_reportAt_25 (by decide) ?_
    refine j_callV C d_M_reportAt_26 ml_M_109 mc_M_goes in_M_goes rfl se_M_goes (by omega) (ovM_o _ _ _ _) (c_M_goes hl _ _ _ _ _ _ hmo) rfl rfl (Nat.le_of_ble_eq_true rfl) (Nat.le_of_ble_eq_true rfl) (Nat.le_of_ble_eq_true rfl) (Nat.le_of_ble_eq_true rfl) (jk_r ?_)
    refine j_if_ne (tgt := 34) C d_M_reportAt_29 (by decide) (fun c29 => ?_) (fun c29 => ?_)
    · exact absurd rfl (gs_ok c29).1
    · refine j_iconst (v := 0) C d_M_reportAt_32 (by decide) ?_
      exact j_ireturn C d_M_reportAt_33 rfl (by decide) (by decide) ⟨by first | (simp [mreportAt, mkn, kn2, nar1, nar0, pk_un, upa_n, c6, c29]; done) | (simp [mreportAt, mkn, kn2, gsI, bz, nar1, nar0, pk_un, upa_n, c6, c29]; done) | exact absurd c29 (by decide) | exact absurd rfl (gs_ok c29).1 | exact absurd rfl (gs_ok c29).2.1 | exact absurd rfl (gs_ok c29).2.2 | (unfold mreportAt kn2; simp only []; rw [if_neg c6, if_neg c16, if_neg (by decide)]; first | rfl | (simp [c6, c29, hcl]; done) | (simp [c6, c29]; done)), rfl, by first | (simp [mreportAt, mkn, kn2, nar1, nar0, pk_un, upa_n, c6, c29]; done) | (simp [mreportAt, mkn, kn2, gsI, bz, nar1, nar0, pk_un, upa_n, c6, c29]; done) | exact absurd c29 (by decide) | exact absurd rfl (gs_ok c29).1 | exact absurd rfl (gs_ok c29).2.1 | exact absurd rfl (gs_ok c29).2.2 | (unfold mreportAt kn2; simp only []; rw [if_neg c6, if_neg c16, if_neg (by decide)]; first | rfl | (simp [c6, c29, hcl]; done) | (simp [c6, c29]; done))⟩
  · refine j_iload_n C d_M_reportAt_9 rfl rfl ?_
    refine j_iconst (v := 0) C d_M_reportAt_10 (by decide) ?_
    refine j_bipush (v := 7) C d_M_reportAt_11 (by decide) ?_
    refine j_callS C d_M_reportAt_13 ml_M_102 mc_M_in st_M_in (c_M_in hl _ _ _ _) rfl rfl (Nat.le_of_ble_eq_true rfl) (Nat.le_of_ble_eq_true rfl) (Nat.le_of_ble_eq_true rfl) (Nat.le_of_ble_eq_true rfl) (jk_r ?_)
    refine j_if_eq (tgt := 23) C d_M_reportAt_16 (by decide) (fun c16 => ?_) (fun c16 => ?_)
    · refine j_iconst (v := 0) C d_M_reportAt_23 (by decide) ?_
      refine j_iconst (v := 1) C d_M_reportAt_24 (by decide) ?_
      refine j_iconst (v := 1) C d_M_reportAt_25 (by decide) ?_
      refine j_callV C d_M_reportAt_26 ml_M_109 mc_M_goes in_M_goes rfl se_M_goes (by omega) (ovM_o _ _ _ _) (c_M_goes hl _ _ _ _ _ _ hmo) rfl rfl (Nat.le_of_ble_eq_true rfl) (Nat.le_of_ble_eq_true rfl) (Nat.le_of_ble_eq_true rfl) (Nat.le_of_ble_eq_true rfl) (jk_r ?_)
      refine j_if_ne (tgt := 34) C d_M_reportAt_29 (by decide) (fun c29 => ?_) (fun c29 => ?_)
      · exact absurd rfl (gs_ok c29).1
      · refine j_iconst (v := 0) C d_M_reportAt_32 (by decide) ?_
        exact j_ireturn C d_M_reportAt_33 rfl (by decide) (by decide) ⟨by first | (simp [mreportAt, mkn, kn2, nar1, nar0, pk_un, upa_n, c6, c16, c29]; done) | (simp [mreportAt, mkn, kn2, gsI, bz, nar1, nar0, pk_un, upa_n, c6, c16, c29]; done) | exact absurd c29 (by decide) | exact absurd rfl (gs_ok c29).1 | exact absurd rfl (gs_ok c29).2.1 | exact absurd rfl (gs_ok c29).2.2 | (unfold mreportAt kn2; simp only []; rw [if_neg c6, if_neg c16, if_neg (by decide)]; first | rfl | (simp [c6, c16, c29, hcl]; done) | (simp [c6, c16, c29]; done)), rfl, by first | (simp [mreportAt, mkn, kn2, nar1, nar0, pk_un, upa_n, c6, c16, c29]; done) | (simp [mreportAt, mkn, kn2, gsI, bz, nar1, nar0, pk_un, upa_n, c6, c16, c29]; done) | exact absurd c29 (by decide) | exact absurd rfl (gs_ok c29).1 | exact absurd rfl (gs_ok c29).2.1 | exact absurd rfl (gs_ok c29).2.2 | (unfold mreportAt kn2; simp only []; rw [if_neg c6, if_neg c16, if_neg (by decide)]; first | rfl | (simp [c6, c16, c29, hcl]; done) | (simp [c6, c16, c29]; done))⟩
    · refine j_iconst (v := 1) C d_M_reportAt_19 (by decide) ?_
      refine j_goto (tgt := 24) C d_M_reportAt_20 (by decide) ?_
      refine j_iconst (v := 1) C d_M_reportAt_24 (by decide) ?_
      refine j_iconst (v := 1) C d_M_reportAt_25 (by decide) ?_
      refine j_callV C d_M_reportAt_26 ml_M_109 mc_M_goes in_M_goes rfl se_M_goes (by omega) (ovM_o _ _ _ _) (c_M_goes hl _ _ _ _ _ _ hmo) rfl rfl (Nat.le_of_ble_eq_true rfl) (Nat.le_of_ble_eq_true rfl) (Nat.le_of_ble_eq_true rfl) (Nat.le_of_ble_eq_true rfl) (jk_r ?_)
      refine j_if_ne (tgt := 34) C d_M_reportAt_29 (by decide) (fun c29 => ?_) (fun c29 => ?_)
      · refine j_iload_n C d_M_reportAt_34 rfl rfl ?_
        refine j_iconst (v := 4) C d_M_reportAt_35 (by decide) ?_
        refine j_icmp_ne (tgt := 70) C d_M_reportAt_36 (by decide) (fun c36 => ?_) (fun c36 => ?_)
        · refine j_iload_n C d_M_reportAt_70 rfl rfl ?_
          refine j_if_ne (tgt := 83) C d_M_reportAt_71 (by decide) (fun c71 => ?_) (fun c71 => ?_)
          · refine j_iload_n C d_M_reportAt_83 rfl rfl ?_
            refine j_iconst (v := 1) C d_M_reportAt_84 (by decide) ?_
            refine j_icmp_ne (tgt := 97) C d_M_reportAt_85 (by decide) (fun c85 => ?_) (fun c85 => ?_)
            · refine j_iload_n C d_M_reportAt_97 rfl rfl ?_
              refine j_iconst (v := 2) C d_M_reportAt_98 (by decide) ?_
              refine j_icmp_ne (tgt := 111) C d_M_reportAt_99 (by decide) (fun c99 => ?_) (fun c99 => ?_)
              · refine j_iload_n C d_M_reportAt_111 rfl rfl ?_
                refine j_iconst (v := 3) C d_M_reportAt_112 (by decide) ?_
                refine j_icmp_ne (tgt := 125) C d_M_reportAt_113 (by decide) (fun c113 => ?_) (fun c113 => ?_)
                · refine j_iload_n C d_M_reportAt_125 rfl rfl ?_
                  refine j_iconst (v := 5) C d_M_reportAt_126 (by decide) ?_
                  refine j_icmp_ne (tgt := 139) C d_M_reportAt_127 (by decide) (fun c127 => ?_) (fun c127 => ?_)
                  · refine j_iload_n C d_M_reportAt_139 rfl rfl ?_
                    refine j_bipush (v := 6) C d_M_reportAt_140 (by decide) ?_
                    refine j_icmp_ne (tgt := 153) C d_M_reportAt_142 (by decide) (fun c142 => ?_) (fun c142 => ?_)
                    · refine j_aload_n C d_M_reportAt_153 rfl rfl ?_
                      refine jm_get C fl_6_22 d_M_reportAt_154 hmo rfl ?_
                      refine j_iload_n C d_M_reportAt_157 rfl rfl ?_
                      refine jm_iald C 4 d_M_reportAt_158 (by decide) rfl hmo (by first | exact ix_r hnr hle (by omega) (by omega) c6 | exact absurd rfl (gs_ok c29).1) rfl ?_
                      exact j_ireturn C d_M_reportAt_159 rfl (by decide) (by decide) ⟨by first | (simp [mreportAt, mkn, kn2, nar1, nar0, pk_un, upa_n, c6, c16, c29, c36, c71, c85, c99, c113, c127, c142]; done) | (simp [mreportAt, mkn, kn2, gsI, bz, nar1, nar0, pk_un, upa_n, c6, c16, c29, c36, c71, c85, c99, c113, c127, c142]; done) | exact absurd c29 (by decide) | exact absurd rfl (gs_ok c29).1 | exact absurd rfl (gs_ok c29).2.1 | exact absurd rfl (gs_ok c29).2.2 | (unfold mreportAt kn2; simp only []; rw [if_neg c6, if_neg c16, if_neg (by decide)]; first | rfl | (simp [c6, c16, c29, c36, c71, c85, c99, c113, c127, c142, hcl]; done) | (simp [c6, c16, c29, c36, c71, c85, c99, c113, c127, c142]; done)), rfl, by first | (simp [mreportAt, mkn, kn2, nar1, nar0, pk_un, upa_n, c6, c16, c29, c36, c71, c85, c99, c113, c127, c142]; done) | (simp [mreportAt, mkn, kn2, gsI, bz, nar1, nar0, pk_un, upa_n, c6, c16, c29, c36, c71, c85, c99, c113, c127, c142]; done) | exact absurd c29 (by decide) | exact absurd rfl (gs_ok c29).1 | exact absurd rfl (gs_ok c29).2.1 | exact absurd rfl (gs_ok c29).2.2 | (unfold mreportAt kn2; simp only []; rw [if_neg c6, if_neg c16, if_neg (by decide)]; first | rfl | (simp [c6, c16, c29, c36, c71, c85, c99, c113, c127, c142, hcl]; done) | (simp [c6, c16, c29, c36, c71, c85, c99, c113, c127, c142]; done))⟩
                    · obtain ⟨ra, hra, era⟩ := rep_of hnr hle c6
                      subst era
                      have hcl : (nI ra).toNatClampNeg = ra := nI_clamp (by omega)
                      refine j_aload_n C d_M_reportAt_145 rfl rfl ?_
                      refine j_iload_n C d_M_reportAt_146 rfl rfl ?_
                      refine j_callV C d_M_reportAt_147 ml_M_197 mc_M_opened in_M_opened rfl se_M_opened (by omega) (ovM_o _ _ _ _) (c_M_opened hl _ _ _ _ hmo (by omega)) rfl rfl (Nat.le_of_ble_eq_true rfl) (Nat.le_of_ble_eq_true rfl) (Nat.le_of_ble_eq_true rfl) (Nat.le_of_ble_eq_true rfl) (jk_r ?_)
                      refine j_goto (tgt := 159) C d_M_reportAt_150 (by decide) ?_
                      exact j_ireturn C d_M_reportAt_159 rfl (by decide) (by decide) ⟨by first | (simp [mreportAt, mkn, kn2, nar1, nar0, pk_un, upa_n, c6, c16, c29, c36, c71, c85, c99, c113, c127, c142]; done) | (simp [mreportAt, mkn, kn2, gsI, bz, nar1, nar0, pk_un, upa_n, c6, c16, c29, c36, c71, c85, c99, c113, c127, c142]; done) | exact absurd c29 (by decide) | exact absurd rfl (gs_ok c29).1 | exact absurd rfl (gs_ok c29).2.1 | exact absurd rfl (gs_ok c29).2.2 | (unfold mreportAt kn2; simp only []; rw [if_neg c6, if_neg c16, if_neg (by decide)]; first | rfl | (simp [c6, c16, c29, c36, c71, c85, c99, c113, c127, c142, hcl]; done) | (simp [c6, c16, c29, c36, c71, c85, c99, c113, c127, c142]; done)), rfl, by first | (simp [mreportAt, mkn, kn2, nar1, nar0, pk_un, upa_n, c6, c16, c29, c36, c71, c85, c99, c113, c127, c142]; done) | (simp [mreportAt, mkn, kn2, gsI, bz, nar1, nar0, pk_un, upa_n, c6, c16, c29, c36, c71, c85, c99, c113, c127, c142]; done) | exact absurd c29 (by decide) | exact absurd rfl (gs_ok c29).1 | exact absurd rfl (gs_ok c29).2.1 | exact absurd rfl (gs_ok c29).2.2 | (unfold mreportAt kn2; simp only []; rw [if_neg c6, if_neg c16, if_neg (by decide)]; first | rfl | (simp [c6, c16, c29, c36, c71, c85, c99, c113, c127, c142, hcl]; done) | (simp [c6, c16, c29, c36, c71, c85, c99, c113, c127, c142]; done))⟩
                  · refine j_aload_n C d_M_reportAt_130 rfl rfl ?_
                    refine jm_get C fl_6_19 d_M_reportAt_131 hmo rfl ?_
                    refine j_iload_n C d_M_reportAt_134 rfl rfl ?_
                    refine jm_iald C 3 d_M_reportAt_135 (by decide) rfl hmo (by first | exact ix_r hnr hle (by omega) (by omega) c6 | exact absurd rfl (gs_ok c29).1) rfl ?_
                    refine j_goto (tgt := 159) C d_M_reportAt_136 (by decide) ?_
                    exact j_ireturn C d_M_reportAt_159 rfl (by decide) (by decide) ⟨by first | (simp [mreportAt, mkn, kn2, nar1, nar0, pk_un, upa_n, c6, c16, c29, c36, c71, c85, c99, c113, c127]; done) | (simp [mreportAt, mkn, kn2, gsI, bz, nar1, nar0, pk_un, upa_n, c6, c16, c29, c36, c71, c85, c99, c113, c127]; done) | exact absurd c29 (by decide) | exact absurd rfl (gs_ok c29).1 | exact absurd rfl (gs_ok c29).2.1 | exact absurd rfl (gs_ok c29).2.2 | (unfold mreportAt kn2; simp only []; rw [if_neg c6, if_neg c16, if_neg (by decide)]; first | rfl | (simp [c6, c16, c29, c36, c71, c85, c99, c113, c127, hcl]; done) | (simp [c6, c16, c29, c36, c71, c85, c99, c113, c127]; done)), rfl, by first | (simp [mreportAt, mkn, kn2, nar1, nar0, pk_un, upa_n, c6, c16, c29, c36, c71, c85, c99, c113, c127]; done) | (simp [mreportAt, mkn, kn2, gsI, bz, nar1, nar0, pk_un, upa_n, c6, c16, c29, c36, c71, c85, c99, c113, c127]; done) | exact absurd c29 (by decide) | exact absurd rfl (gs_ok c29).1 | exact absurd rfl (gs_ok c29).2.1 | exact absurd rfl (gs_ok c29).2.2 | (unfold mreportAt kn2; simp only []; rw [if_neg c6, if_neg c16, if_neg (by decide)]; first | rfl | (simp [c6, c16, c29, c36, c71, c85, c99, c113, c127, hcl]; done) | (simp [c6, c16, c29, c36, c71, c85, c99, c113, c127]; done))⟩
                · refine j_aload_n C d_M_reportAt_116 rfl rfl ?_
                  refine jm_get C fl_6_25 d_M_reportAt_117 hmo rfl ?_
                  refine j_iload_n C d_M_reportAt_120 rfl rfl ?_
                  refine jm_iald C 5 d_M_reportAt_121 (by decide) rfl hmo (by first | exact ix_r hnr hle (by omega) (by omega) c6 | exact absurd rfl (gs_ok c29).1) rfl ?_
                  refine j_goto (tgt := 159) C d_M_reportAt_122 (by decide) ?_
                  exact j_ireturn C d_M_reportAt_159 rfl (by decide) (by decide) ⟨by first | (simp [mreportAt, mkn, kn2, nar1, nar0, pk_un, upa_n, c6, c16, c29, c36, c71, c85, c99, c113]; done) | (simp [mreportAt, mkn, kn2, gsI, bz, nar1, nar0, pk_un, upa_n, c6, c16, c29, c36, c71, c85, c99, c113]; done) | exact absurd c29 (by decide) | exact absurd rfl (gs_ok c29).1 | exact absurd rfl (gs_ok c29).2.1 | exact absurd rfl (gs_ok c29).2.2 | (unfold mreportAt kn2; simp only []; rw [if_neg c6, if_neg c16, if_neg (by decide)]; first | rfl | (simp [c6, c16, c29, c36, c71, c85, c99, c113, hcl]; done) | (simp [c6, c16, c29, c36, c71, c85, c99, c113]; done)), rfl, by first | (simp [mreportAt, mkn, kn2, nar1, nar0, pk_un, upa_n, c6, c16, c29, c36, c71, c85, c99, c113]; done) | (simp [mreportAt, mkn, kn2, gsI, bz, nar1, nar0, pk_un, upa_n, c6, c16, c29, c36, c71, c85, c99, c113]; done) | exact absurd c29 (by decide) | exact absurd rfl (gs_ok c29).1 | exact absurd rfl (gs_ok c29).2.1 | exact absurd rfl (gs_ok c29).2.2 | (unfold mreportAt kn2; simp only []; rw [if_neg c6, if_neg c16, if_neg (by decide)]; first | rfl | (simp [c6, c16, c29, c36, c71, c85, c99, c113, hcl]; done) | (simp [c6, c16, c29, c36, c71, c85, c99, c113]; done))⟩
              · refine j_aload_n C d_M_reportAt_102 rfl rfl ?_
                refine jm_get C fl_6_16 d_M_reportAt_103 hmo rfl ?_
                refine j_iload_n C d_M_reportAt_106 rfl rfl ?_
                refine jm_iald C 2 d_M_reportAt_107 (by decide) rfl hmo (by first | exact ix_r hnr hle (by omega) (by omega) c6 | exact absurd rfl (gs_ok c29).1) rfl ?_
                refine j_goto (tgt := 159) C d_M_reportAt_108 (by decide) ?_
                exact j_ireturn C d_M_reportAt_159 rfl (by decide) (by decide) ⟨by first | (simp [mreportAt, mkn, kn2, nar1, nar0, pk_un, upa_n, c6, c16, c29, c36, c71, c85, c99]; done) | (simp [mreportAt, mkn, kn2, gsI, bz, nar1, nar0, pk_un, upa_n, c6, c16, c29, c36, c71, c85, c99]; done) | exact absurd c29 (by decide) | exact absurd rfl (gs_ok c29).1 | exact absurd rfl (gs_ok c29).2.1 | exact absurd rfl (gs_ok c29).2.2 | (unfold mreportAt kn2; simp only []; rw [if_neg c6, if_neg c16, if_neg (by decide)]; first | rfl | (simp [c6, c16, c29, c36, c71, c85, c99, hcl]; done) | (simp [c6, c16, c29, c36, c71, c85, c99]; done)), rfl, by first | (simp [mreportAt, mkn, kn2, nar1, nar0, pk_un, upa_n, c6, c16, c29, c36, c71, c85, c99]; done) | (simp [mreportAt, mkn, kn2, gsI, bz, nar1, nar0, pk_un, upa_n, c6, c16, c29, c36, c71, c85, c99]; done) | exact absurd c29 (by decide) | exact absurd rfl (gs_ok c29).1 | exact absurd rfl (gs_ok c29).2.1 | exact absurd rfl (gs_ok c29).2.2 | (unfold mreportAt kn2; simp only []; rw [if_neg c6, if_neg c16, if_neg (by decide)]; first | rfl | (simp [c6, c16, c29, c36, c71, c85, c99, hcl]; done) | (simp [c6, c16, c29, c36, c71, c85, c99]; done))⟩
            · refine j_aload_n C d_M_reportAt_88 rfl rfl ?_
              refine jm_get C fl_6_13 d_M_reportAt_89 hmo rfl ?_
              refine j_iload_n C d_M_reportAt_92 rfl rfl ?_
              refine jm_iald C 1 d_M_reportAt_93 (by decide) rfl hmo (by first | exact ix_r hnr hle (by omega) (by omega) c6 | exact absurd rfl (gs_ok c29).1) rfl ?_
              refine j_goto (tgt := 159) C d_M_reportAt_94 (by decide) ?_
              exact j_ireturn C d_M_reportAt_159 rfl (by decide) (by decide) ⟨by first | (simp [mreportAt, mkn, kn2, nar1, nar0, pk_un, upa_n, c6, c16, c29, c36, c71, c85]; done) | (simp [mreportAt, mkn, kn2, gsI, bz, nar1, nar0, pk_un, upa_n, c6, c16, c29, c36, c71, c85]; done) | exact absurd c29 (by decide) | exact absurd rfl (gs_ok c29).1 | exact absurd rfl (gs_ok c29).2.1 | exact absurd rfl (gs_ok c29).2.2 | (unfold mreportAt kn2; simp only []; rw [if_neg c6, if_neg c16, if_neg (by decide)]; first | rfl | (simp [c6, c16, c29, c36, c71, c85, hcl]; done) | (simp [c6, c16, c29, c36, c71, c85]; done)), rfl, by first | (simp [mreportAt, mkn, kn2, nar1, nar0, pk_un, upa_n, c6, c16, c29, c36, c71, c85]; done) | (simp [mreportAt, mkn, kn2, gsI, bz, nar1, nar0, pk_un, upa_n, c6, c16, c29, c36, c71, c85]; done) | exact absurd c29 (by decide) | exact absurd rfl (gs_ok c29).1 | exact absurd rfl (gs_ok c29).2.1 | exact absurd rfl (gs_ok c29).2.2 | (unfold mreportAt kn2; simp only []; rw [if_neg c6, if_neg c16, if_neg (by decide)]; first | rfl | (simp [c6, c16, c29, c36, c71, c85, hcl]; done) | (simp [c6, c16, c29, c36, c71, c85]; done))⟩
          · refine j_aload_n C d_M_reportAt_74 rfl rfl ?_
            refine jm_get C fl_6_7 d_M_reportAt_75 hmo rfl ?_
            refine j_iload_n C d_M_reportAt_78 rfl rfl ?_
            refine jm_iald C 0 d_M_reportAt_79 (by decide) rfl hmo (by first | exact ix_r hnr hle (by omega) (by omega) c6 | exact absurd rfl (gs_ok c29).1) rfl ?_
            refine j_goto (tgt := 159) C d_M_reportAt_80 (by decide) ?_
            exact j_ireturn C d_M_reportAt_159 rfl (by decide) (by decide) ⟨by first | (simp [mreportAt, mkn, kn2, nar1, nar0, pk_un, upa_n, c6, c16, c29, c36, c71]; done) | (simp [mreportAt, mkn, kn2, gsI, bz, nar1, nar0, pk_un, upa_n, c6, c16, c29, c36, c71]; done) | exact absurd c29 (by decide) | exact absurd rfl (gs_ok c29).1 | exact absurd rfl (gs_ok c29).2.1 | exact absurd rfl (gs_ok c29).2.2 | (unfold mreportAt kn2; simp only []; rw [if_neg c6, if_neg c16, if_neg (by decide)]; first | rfl | (simp [c6, c16, c29, c36, c71, hcl]; done) | (simp [c6, c16, c29, c36, c71]; done)), rfl, by first | (simp [mreportAt, mkn, kn2, nar1, nar0, pk_un, upa_n, c6, c16, c29, c36, c71]; done) | (simp [mreportAt, mkn, kn2, gsI, bz, nar1, nar0, pk_un, upa_n, c6, c16, c29, c36, c71]; done) | exact absurd c29 (by decide) | exact absurd rfl (gs_ok c29).1 | exact absurd rfl (gs_ok c29).2.1 | exact absurd rfl (gs_ok c29).2.2 | (unfold mreportAt kn2; simp only []; rw [if_neg c6, if_neg c16, if_neg (by decide)]; first | rfl | (simp [c6, c16, c29, c36, c71, hcl]; done) | (simp [c6, c16, c29, c36, c71]; done))⟩
        · refine j_aload_n C d_M_reportAt_39 rfl rfl ?_
          refine jm_get C fl_6_25 d_M_reportAt_40 hmo rfl ?_
          refine j_iload_n C d_M_reportAt_43 rfl rfl ?_
          refine jm_iald C 5 d_M_reportAt_44 (by decide) rfl hmo (by first | exact ix_r hnr hle (by omega) (by omega) c6 | exact absurd rfl (gs_ok c29).1) rfl ?_
          refine j_if_ne (tgt := 52) C d_M_reportAt_45 (by decide) (fun c45 => ?_) (fun c45 => ?_)
          · refine j_aload_n C d_M_reportAt_52 rfl rfl ?_
            refine jm_get C fl_6_28 d_M_reportAt_53 hmo rfl ?_
            refine j_iconst (v := 3) C d_M_reportAt_56 (by decide) ?_
            refine j_iload_n C d_M_reportAt_57 rfl rfl ?_
            refine j_imul C d_M_reportAt_58 ?_
            refine j_aload_n C d_M_reportAt_59 rfl rfl ?_
            refine jm_get C fl_6_25 d_M_reportAt_60 hmo rfl ?_
            refine j_iload_n C d_M_reportAt_63 rfl rfl ?_
            refine jm_iald C 5 d_M_reportAt_64 (by decide) rfl hmo (by first | exact ix_r hnr hle (by omega) (by omega) c6 | exact absurd rfl (gs_ok c29).1) rfl ?_
            refine j_iadd C d_M_reportAt_65 ?_
            refine j_iconst (v := 1) C d_M_reportAt_66 (by decide) ?_
            refine j_isub C d_M_reportAt_67 ?_
            refine jm_iald C 6 d_M_reportAt_68 (by decide) rfl hmo (by first | exact ix_by hnr hle hsg c6 c45 | exact absurd rfl (gs_ok c29).1) rfl ?_
            exact j_ireturn C d_M_reportAt_69 rfl (by decide) (by decide) ⟨by first | (simp [mreportAt, mkn, kn2, nar1, nar0, pk_un, upa_n, c6, c16, c29, c36, c45]; done) | (simp [mreportAt, mkn, kn2, gsI, bz, nar1, nar0, pk_un, upa_n, c6, c16, c29, c36, c45]; done) | exact absurd c29 (by decide) | exact absurd rfl (gs_ok c29).1 | exact absurd rfl (gs_ok c29).2.1 | exact absurd rfl (gs_ok c29).2.2 | (unfold mreportAt kn2; simp only []; rw [if_neg c6, if_neg c16, if_neg (by decide)]; first | rfl | (simp [c6, c16, c29, c36, c45, hcl]; done) | (simp [c6, c16, c29, c36, c45]; done)), rfl, by first | (simp [mreportAt, mkn, kn2, nar1, nar0, pk_un, upa_n, c6, c16, c29, c36, c45]; done) | (simp [mreportAt, mkn, kn2, gsI, bz, nar1, nar0, pk_un, upa_n, c6, c16, c29, c36, c45]; done) | exact absurd c29 (by decide) | exact absurd rfl (gs_ok c29).1 | exact absurd rfl (gs_ok c29).2.1 | exact absurd rfl (gs_ok c29).2.2 | (unfold mreportAt kn2; simp only []; rw [if_neg c6, if_neg c16, if_neg (by decide)]; first | rfl | (simp [c6, c16, c29, c36, c45, hcl]; done) | (simp [c6, c16, c29, c36, c45]; done))⟩
          · refine j_iconst (v := (-1)) C d_M_reportAt_48 (by decide) ?_
            refine j_goto (tgt := 69) C d_M_reportAt_49 (by decide) ?_
            exact j_ireturn C d_M_reportAt_69 rfl (by decide) (by decide) ⟨by first | (simp [mreportAt, mkn, kn2, nar1, nar0, pk_un, upa_n, c6, c16, c29, c36, c45]; done) | (simp [mreportAt, mkn, kn2, gsI, bz, nar1, nar0, pk_un, upa_n, c6, c16, c29, c36, c45]; done) | exact absurd c29 (by decide) | exact absurd rfl (gs_ok c29).1 | exact absurd rfl (gs_ok c29).2.1 | exact absurd rfl (gs_ok c29).2.2 | (unfold mreportAt kn2; simp only []; rw [if_neg c6, if_neg c16, if_neg (by decide)]; first | rfl | (simp [c6, c16, c29, c36, c45, hcl]; done) | (simp [c6, c16, c29, c36, c45]; done)), rfl, by first | (simp [mreportAt, mkn, kn2, nar1, nar0, pk_un, upa_n, c6, c16, c29, c36, c45]; done) | (simp [mreportAt, mkn, kn2, gsI, bz, nar1, nar0, pk_un, upa_n, c6, c16, c29, c36, c45]; done) | exact absurd c29 (by decide) | exact absurd rfl (gs_ok c29).1 | exact absurd rfl (gs_ok c29).2.1 | exact absurd rfl (gs_ok c29).2.2 | (unfold mreportAt kn2; simp only []; rw [if_neg c6, if_neg c16, if_neg (by decide)]; first | rfl | (simp [c6, c16, c29, c36, c45, hcl]; done) | (simp [c6, c16, c29, c36, c45]; done))⟩
      · exact absurd c29 (by decide)
/-! ===== contracts of the reference: late ===== -/
def ltr (σ : Nat → Int32) (α : Nat → Nat → Int32) (mi : Int32) : Nat → Nat → Int32 → Int32
  | 0, _, _ => -1
  | k + 1, r, left => if α 8 r = 3 then ltr σ α mi k (r + 1) left else if mi < σ 1 - α 5 r then (if left = 0 then nI r else ltr σ α mi k (r + 1) (left - 1)) else ltr σ α mi k (r + 1) left
def mlate (σ : Nat → Int32) (α : Nat → Nat → Int32) (nr : Nat) (mi i : Int32) : Int32 × (Nat → Int32) := if inI mi 0 99999 = 0 then (0, upd σ 0 1) else if i < 0 then (0, upd σ 0 1) else (ltr σ α mi nr 0 i, upd σ 0 0)
set_option maxHeartbeats 4000000 in
set_option maxRecDepth 100000 in
theorem c_M_late {l : Launch} (hl : l.stackTraces = false) {D : va_G} {cA : Nat → ClassId} {b n mo : Nat} (mi i : Int32) (σ : Nat → Int32) (α : Nat → Nat → Int32) (h : AH) (hmo : mo + 27 < n) (nr : Nat) (hnr : σ 2 = nI nr) (hle : nr ≤ 30) : Cn l D cA b y_M_late k_M_late 1 15 0 0 [.ref mo, .int mi, .int i] n (ovM mo σ α h) (Re (some (.int (mlate σ α nr mi i).1)) n (ovM mo (mlate σ α nr mi i).2 α h)) := by
  refine Cn.of (cc := b_M_late) (maxL := 5) (ret := (some .int)) (hh := []) (by decide +kernel) hl (Or.inl ⟨rfl, rfl⟩) (Nat.le_of_ble_eq_true rfl) ?_
  intro p e s m args below meth c C
  have loop : ∀ (k r : Nat) (left : Int32), r + k = nr → ltr σ α mi k r left = ltr σ α mi nr 0 i → mlate σ α nr mi i = (ltr σ α mi nr 0 i, upd σ 0 0) → J p l e { frames := 1, cells := 0, slots := 0, locals := 15 } s m args below meth c D cA b 5 (EndQ D cA b s below (Re (some (.int (mlate σ α nr mi i).1)) n (ovM mo (mlate σ α nr mi i).2 α h)) 0 0) n (ovM mo (upd σ 0 (gsI 1 1 1)) α h) 0 0 35 [(4, .int (nI r)), (3, .int left), (0, .ref mo), (1, .int mi), (2, .int i)] [] := by
    intro k
    induction k with
    | zero =>
      intro r left hr hv hm
      have hv1 : (mlate σ α nr mi i).1 = ltr σ α mi nr 0 i := by rw [hm]
      have hv2 : (mlate σ α nr mi i).2 = upd σ 0 0 := by rw [hm]
      obtain rfl : r = nr := by omega
      refine j_iload C d_M_late_35 rfl ?_
      refine j_aload_n C d_M_late_37 rfl rfl ?_
      refine jm_get C fl_6_99 d_M_late_38 hmo rfl ?_
      refine j_icmp_ge (tgt := 90) C d_M_late_41 (by decide) (fun c41 => ?_) (fun c41 => ?_)
      · refine j_iconst (v := (-1)) C d_M_late_90 (by decide) ?_
        exact j_ireturn C d_M_late_91 rfl (by decide) (by decide) ⟨by rw [hv1, ← hv]; first | rfl | (unfold ltr; simp [c41, hcl]; done), rfl, by rw [hv2]; rfl⟩
      · exact absurd (show upd σ 0 (gsI 1 1 1) 2 ≤ nI r from (show σ 2 ≤ nI r by rw [hnr]; exact Int32.le_refl _)) c41
    | succ k ih =>
      intro r left hr hv hm
      have hv1 : (mlate σ α nr mi i).1 = ltr σ α mi nr 0 i := by rw [hm]
      have hv2 : (mlate σ α nr mi i).2 = upd σ 0 0 := by rw [hm]
      have hin : vp_in (nI r) 30 := vp_in_nI (by omega) (by omega)
      have hcl : (nI r).toNatClampNeg = r := nI_clamp (by omega)
      refine j_iload C d_M_late_35 rfl ?_
      refine j_aload_n C d_M_late_37 rfl rfl ?_
      refine jm_get C fl_6_99 d_M_late_38 hmo rfl ?_
      refine j_icmp_ge (tgt := 90) C d_M_late_41 (by decide) (fun c41 => ?_) (fun c41 => ?_)
      · exact absurd (show σ 2 ≤ nI r from c41) (by rw [hnr]; exact nI_ge (by omega) (by omega))
      · refine j_aload_n C d_M_late_44 rfl rfl ?_
        refine jm_get C fl_6_25 d_M_late_45 hmo rfl ?_
        refine j_iload C d_M_late_48 rfl ?_
        refine jm_iald C 5 d_M_late_50 (by decide) rfl hmo hin rfl ?_
        refine j_iconst (v := 3) C d_M_late_51 (by decide) ?_
        refine j_icmp_eq (tgt := 84) C d_M_late_52 (by decide) (fun c52 => ?_) (fun c52 => ?_)
        · refine j_iinc (v := nI (r + 1)) C d_M_late_84 rfl (nI_inc r) (by decide) rfl ?_
          have h52 := c52
          rw [hcl] at h52
          refine j_goto (tgt := 35) C d_M_late_87 (by decide) ?_
          exact j_pick [0, 1, 2, 3, 4] rfl (ih (r + 1) left (by omega) (by rw [← hv]; show _ = (if α 8 r = 3 then ltr σ α mi k (r + 1) left else if mi < σ 1 - α 5 r then (if left = 0 then nI r else ltr σ α mi k (r + 1) (left - 1)) else ltr σ α mi k (r + 1) left); rw [if_pos h52]) hm)
        · refine j_aload_n C d_M_late_55 rfl rfl ?_
          refine jm_get C fl_6_106 d_M_late_56 hmo rfl ?_
          refine j_aload_n C d_M_late_59 rfl rfl ?_
          refine jm_get C fl_6_16 d_M_late_60 hmo rfl ?_
          refine j_iload C d_M_late_63 rfl ?_
          refine jm_iald C 2 d_M_late_65 (by decide) rfl hmo hin rfl ?_
          refine j_isub C d_M_late_66 ?_
          refine j_iload_n C d_M_late_67 rfl rfl ?_
          refine j_icmp_gt (tgt := 74) C d_M_late_68 (by decide) (fun c68 => ?_) (fun c68 => ?_)
          · refine j_iload_n C d_M_late_74 rfl rfl ?_
            refine j_if_ne (tgt := 81) C d_M_late_75 (by decide) (fun c75 => ?_) (fun c75 => ?_)
            · refine j_iinc (v := left - 1) C d_M_late_81 rfl (by rw [Int32.sub_eq_add_neg]; rfl) (by decide) rfl ?_
              refine j_iinc (v := nI (r + 1)) C d_M_late_84 rfl (nI_inc r) (by decide) rfl ?_
              have h52 := c52
              rw [hcl] at h52
              have h68 : mi < σ 1 - α 5 (nI r).toNatClampNeg := c68
              rw [hcl] at h68
              refine j_goto (tgt := 35) C d_M_late_87 (by decide) ?_
              exact j_pick [0, 1, 2, 3, 4] rfl (ih (r + 1) (left - 1) (by omega) (by rw [← hv]; show _ = (if α 8 r = 3 then ltr σ α mi k (r + 1) left else if mi < σ 1 - α 5 r then (if left = 0 then nI r else ltr σ α mi k (r + 1) (left - 1)) else ltr σ α mi k (r + 1) left); rw [if_neg h52, if_pos h68, if_neg c75]) hm)
            · refine j_iload C d_M_late_78 rfl ?_
              exact j_ireturn C d_M_late_80 rfl (by decide) (by decide) ⟨by rw [hv1, ← hv]; show _ = Sum.inl (some (Value.int (if α 8 r = 3 then ltr σ α mi k (r + 1) left else if mi < σ 1 - α 5 r then (if left = 0 then nI r else ltr σ α mi k (r + 1) (left - 1)) else ltr σ α mi k (r + 1) left))); have h52 := c52; have h68 : mi < σ 1 - α 5 (nI r).toNatClampNeg := c68; rw [hcl] at h52 h68; rw [if_neg h52, if_pos h68, if_pos c75], rfl, by rw [hv2]; rfl⟩
          · refine j_goto (tgt := 84) C d_M_late_71 (by decide) ?_
            refine j_iinc (v := nI (r + 1)) C d_M_late_84 rfl (nI_inc r) (by decide) rfl ?_
            have h52 := c52
            rw [hcl] at h52
            have h68 : ¬ mi < σ 1 - α 5 (nI r).toNatClampNeg := c68
            rw [hcl] at h68
            refine j_goto (tgt := 35) C d_M_late_87 (by decide) ?_
            exact j_pick [0, 1, 2, 3, 4] rfl (ih (r + 1) left (by omega) (by rw [← hv]; show _ = (if α 8 r = 3 then ltr σ α mi k (r + 1) left else if mi < σ 1 - α 5 r then (if left = 0 then nI r else ltr σ α mi k (r + 1) (left - 1)) else ltr σ α mi k (r + 1) left); rw [if_neg h52, if_neg h68]) hm)
  refine j_aload_n C d_M_late_0 rfl rfl ?_
  refine j_iload_n C d_M_late_1 rfl rfl ?_
  refine j_iconst (v := 0) C d_M_late_2 (by decide) ?_
  refine j_ldc (v := 99999) C d_M_late_3 lc_M_125 ?_
  refine j_callS C d_M_late_5 ml_M_102 mc_M_in st_M_in (c_M_in hl _ _ _ _) rfl rfl (Nat.le_of_ble_eq_true rfl) (Nat.le_of_ble_eq_true rfl) (Nat.le_of_ble_eq_true rfl) (Nat.le_of_ble_eq_true rfl) (jk_r ?_)
  refine j_if_eq (tgt := 19) C d_M_late_8 (by decide) (fun c8 => ?_) (fun c8 => ?_)
  · refine j_iconst (v := 0) C d_M_late_19 (by decide) ?_
    refine j_iconst (v := 1) C d_M_late_20 (by decide) ?_
    refine j_iconst (v := 1) C d_M_late_21 (by decide) ?_
    refine j_callV C d_M_late_22 ml_M_109 mc_M_goes in_M_goes rfl se_M_goes (by omega) (ovM_o _ _ _ _) (c_M_goes hl _ _ _ _ _ _ hmo) rfl rfl (Nat.le_of_ble_eq_true rfl) (Nat.le_of_ble_eq_true rfl) (Nat.le_of_ble_eq_true rfl) (Nat.le_of_ble_eq_true rfl) (jk_r ?_)
    refine j_if_ne (tgt := 30) C d_M_late_25 (by decide) (fun c25 => ?_) (fun c25 => ?_)
    · exact absurd rfl (gs_ok c25).1
    · refine j_iconst (v := 0) C d_M_late_28 (by decide) ?_
      exact j_ireturn C d_M_late_29 rfl (by decide) (by decide) ⟨by first | (simp [mlate, mkn, kn2, nar1, nar0, pk_un, upa_n, c8, c25]; done) | (simp [mlate, mkn, kn2, gsI, bz, nar1, nar0, pk_un, upa_n, c8, c25]; done) | exact absurd c25 (by decide) | exact absurd rfl (gs_ok c25).1 | exact absurd rfl (gs_ok c25).2.1 | exact absurd rfl (gs_ok c25).2.2, rfl, by first | (simp [mlate, mkn, kn2, nar1, nar0, pk_un, upa_n, c8, c25]; done) | (simp [mlate, mkn, kn2, gsI, bz, nar1, nar0, pk_un, upa_n, c8, c25]; done) | exact absurd c25 (by decide) | exact absurd rfl (gs_ok c25).1 | exact absurd rfl (gs_ok c25).2.1 | exact absurd rfl (gs_ok c25).2.2⟩
  · refine j_iload_n C d_M_late_11 rfl rfl ?_
    refine j_if_lt (tgt := 19) C d_M_late_12 (by decide) (fun c12 => ?_) (fun c12 => ?_)
    · refine j_iconst (v := 0) C d_M_late_19 (by decide) ?_
      refine j_iconst (v := 1) C d_M_late_20 (by decide) ?_
      refine j_iconst (v := 1) C d_M_late_21 (by decide) ?_
      refine j_callV C d_M_late_22 ml_M_109 mc_M_goes in_M_goes rfl se_M_goes (by omega) (ovM_o _ _ _ _) (c_M_goes hl _ _ _ _ _ _ hmo) rfl rfl (Nat.le_of_ble_eq_true rfl) (Nat.le_of_ble_eq_true rfl) (Nat.le_of_ble_eq_true rfl) (Nat.le_of_ble_eq_true rfl) (jk_r ?_)
      refine j_if_ne (tgt := 30) C d_M_late_25 (by decide) (fun c25 => ?_) (fun c25 => ?_)
      · exact absurd rfl (gs_ok c25).1
      · refine j_iconst (v := 0) C d_M_late_28 (by decide) ?_
        exact j_ireturn C d_M_late_29 rfl (by decide) (by decide) ⟨by first | (simp [mlate, mkn, kn2, nar1, nar0, pk_un, upa_n, c8, c12, c25]; done) | (simp [mlate, mkn, kn2, gsI, bz, nar1, nar0, pk_un, upa_n, c8, c12, c25]; done) | exact absurd c25 (by decide) | exact absurd rfl (gs_ok c25).1 | exact absurd rfl (gs_ok c25).2.1 | exact absurd rfl (gs_ok c25).2.2, rfl, by first | (simp [mlate, mkn, kn2, nar1, nar0, pk_un, upa_n, c8, c12, c25]; done) | (simp [mlate, mkn, kn2, gsI, bz, nar1, nar0, pk_un, upa_n, c8, c12, c25]; done) | exact absurd c25 (by decide) | exact absurd rfl (gs_ok c25).1 | exact absurd rfl (gs_ok c25).2.1 | exact absurd rfl (gs_ok c25).2.2⟩
    · refine j_iconst (v := 1) C d_M_late_15 (by decide) ?_
      refine j_goto (tgt := 20) C d_M_late_16 (by decide) ?_
      refine j_iconst (v := 1) C d_M_late_20 (by decide) ?_
      refine j_iconst (v := 1) C d_M_late_21 (by decide) ?_
      refine j_callV C d_M_late_22 ml_M_109 mc_M_goes in_M_goes rfl se_M_goes (by omega) (ovM_o _ _ _ _) (c_M_goes hl _ _ _ _ _ _ hmo) rfl rfl (Nat.le_of_ble_eq_true rfl) (Nat.le_of_ble_eq_true rfl) (Nat.le_of_ble_eq_true rfl) (Nat.le_of_ble_eq_true rfl) (jk_r ?_)
      refine j_if_ne (tgt := 30) C d_M_late_25 (by decide) (fun c25 => ?_) (fun c25 => ?_)
      · refine j_iload_n C d_M_late_30 rfl rfl ?_
        refine j_istore_n C d_M_late_31 rfl (by decide) rfl ?_
        refine j_iconst (v := 0) C d_M_late_32 (by decide) ?_
        refine j_istore C d_M_late_33 (by decide) rfl ?_
        exact j_pick [0, 1, 2, 3, 4] rfl (loop nr 0 i (by omega) rfl (by simp [mlate, c8, c12]))
      · exact absurd c25 (by decide)
/-! ===== contracts of the reference: reading the text: here, see, isDigit ===== -/
theorem j_h {p : Program} {l : Launch} {e : Env} {R : Room} {s : State} {m : MethodId} {args : Array Value} {below : List Frame} {meth : Method} {c : Code} {D : va_G} {cA : Nat → ClassId} {b nL : Nat} {Q : State → Prop} {n : Nat} {h h' : AH} {kc ks pc : Nat} {L : List (Nat × Value)} {st : List Value} (eh : h = h') (k : J p l e R s m args below meth c D cA b nL Q n h' kc ks pc L st) : J p l e R s m args below meth c D cA b nL Q n h kc ks pc L st := by
  rw [eh]; exact k
theorem upd_self {f : Nat → Int32} {k : Nat} {x : Int32} (hk : f k = x) : upd f k x = f := by
  funext j
  by_cases hj : j = k
  · subst hj; rw [pk_us, hk]
  · rw [pk_un hj]
/-- the byte at a, of t bytes; -1 behind them -/
def hr (g : Nat → Int32) (t a : Nat) : Int32 := if t ≤ a then -1 else g a
/-- past the blanks, from a on -/
def skf (g : Nat → Int32) (t : Nat) : Nat → Nat → Nat
  | 0, a => a
  | k + 1, a => if hr g t a = 32 then skf g t k (a + 1) else a
def skp (g : Nat → Int32) (t a : Nat) : Nat := skf g t (t - a) a
theorem c_M_hereN {l : Launch} (hl : l.stackTraces = false) {D : va_G} {cA : Nat → ClassId} {b n mo : Nat} (σ : Nat → Int32) (α : Nat → Nat → Int32) (h : AH) (hmo : mo + 27 < n) (t a : Nat) (h16 : σ 16 = nI t) (h19 : σ 19 = nI a) (ht : t ≤ 300) (ha : a < 2 ^ 31) : Cn l D cA b y_M_here k_M_here 0 0 0 0 [.ref mo] n (ovM mo σ α h) (Re (some (.int (hr (α 17) t a))) n (ovM mo σ α h)) := by
  have h1 := c_M_here hl (D := D) (cA := cA) (b := b) σ α h hmo (fun q => by
    rw [h16, h19] at q
    have q2 : ¬ t ≤ a := fun z => q (nI_le z (by omega))
    rw [h19]
    exact vp_in_nI (by omega) (by omega))
  have e : (if σ 16 ≤ σ 19 then -1 else α 17 (σ 19).toNatClampNeg) = hr (α 17) t a := by
    rw [h16, h19, nI_clamp ha]
    unfold hr
    by_cases q : t ≤ a
    · rw [if_pos q, if_pos (nI_le q ha)]
    · rw [if_neg q, if_neg (nI_ge (by omega) (by omega))]
  rw [e] at h1
  exact h1
set_option maxHeartbeats 4000000 in
set_option maxRecDepth 100000 in
theorem c_M_see {l : Launch} (hl : l.stackTraces = false) {D : va_G} {cA : Nat → ClassId} {b n mo : Nat} (σ : Nat → Int32) (α : Nat → Nat → Int32) (h : AH) (hmo : mo + 27 < n) (t a : Nat) (h16 : σ 16 = nI t) (h19 : σ 19 = nI a) (ht : t ≤ 300) (hat : a ≤ t) : Cn l D cA b y_M_see k_M_see 1 12 0 0 [.ref mo] n (ovM mo σ α h) (Re (some (.int (hr (α 17) t (skp (α 17) t a)))) n (ovM mo (upd σ 19 (nI (skp (α 17) t a))) α h)) := by
  refine Cn.of (cc := b_M_see) (maxL := 1) (ret := (some .int)) (hh := []) (by decide +kernel) hl (Or.inl ⟨rfl, rfl⟩) (Nat.le_of_ble_eq_true rfl) ?_
  intro p e s m args below meth c C
  have loop : ∀ (k a1 : Nat), a1 + k = t → skf (α 17) t k a1 = skp (α 17) t a → J p l e { frames := 1, cells := 0, slots := 0, locals := 12 } s m args below meth c D cA b 1 (EndQ D cA b s below (Re (some (.int (hr (α 17) t (skp (α 17) t a)))) n (ovM mo (upd σ 19 (nI (skp (α 17) t a))) α h)) 0 0) n (ovM mo (upd σ 19 (nI a1)) α h) 0 0 0 [(0, .ref mo)] [] := by
    intro k
    induction k with
    | zero =>
      intro a1 ha1 hv
      obtain rfl : t = a1 := by omega
      refine j_aload_n C d_M_see_0 rfl rfl ?_
      refine j_callV C d_M_see_1 ml_M_132 mc_M_here in_M_here rfl se_M_here (by omega) (ovM_o _ _ _ _) (c_M_hereN hl _ _ _ hmo t t h16 pk_us ht (by omega)) rfl rfl (Nat.le_of_ble_eq_true rfl) (Nat.le_of_ble_eq_true rfl) (Nat.le_of_ble_eq_true rfl) (Nat.le_of_ble_eq_true rfl) (jk_r ?_)
      refine j_bipush (v := 32) C d_M_see_4 (by decide) ?_
      refine j_icmp_ne (tgt := 22) C d_M_see_6 (by decide) (fun c6 => ?_) (fun c6 => ?_)
      · refine j_aload_n C d_M_see_22 rfl rfl ?_
        refine j_callV C d_M_see_23 ml_M_132 mc_M_here in_M_here rfl se_M_here (by omega) (ovM_o _ _ _ _) (c_M_hereN hl _ _ _ hmo t t h16 pk_us ht (by omega)) rfl rfl (Nat.le_of_ble_eq_true rfl) (Nat.le_of_ble_eq_true rfl) (Nat.le_of_ble_eq_true rfl) (Nat.le_of_ble_eq_true rfl) (jk_r ?_)
        exact j_ireturn C d_M_see_26 rfl (by decide) (by decide) ⟨by rw [← hv]; rfl, rfl, by rw [← hv]; rfl⟩
      · exact absurd c6 (by unfold hr; rw [if_pos (Nat.le_refl _)]; decide)
    | succ k ih =>
      intro a1 ha1 hv
      refine j_aload_n C d_M_see_0 rfl rfl ?_
      refine j_callV C d_M_see_1 ml_M_132 mc_M_here in_M_here rfl se_M_here (by omega) (ovM_o _ _ _ _) (c_M_hereN hl _ _ _ hmo t a1 h16 pk_us ht (by omega)) rfl rfl (Nat.le_of_ble_eq_true rfl) (Nat.le_of_ble_eq_true rfl) (Nat.le_of_ble_eq_true rfl) (Nat.le_of_ble_eq_true rfl) (jk_r ?_)
      refine j_bipush (v := 32) C d_M_see_4 (by decide) ?_
      refine j_icmp_ne (tgt := 22) C d_M_see_6 (by decide) (fun c6 => ?_) (fun c6 => ?_)
      · refine j_aload_n C d_M_see_22 rfl rfl ?_
        refine j_callV C d_M_see_23 ml_M_132 mc_M_here in_M_here rfl se_M_here (by omega) (ovM_o _ _ _ _) (c_M_hereN hl _ _ _ hmo t a1 h16 pk_us ht (by omega)) rfl rfl (Nat.le_of_ble_eq_true rfl) (Nat.le_of_ble_eq_true rfl) (Nat.le_of_ble_eq_true rfl) (Nat.le_of_ble_eq_true rfl) (jk_r ?_)
        exact j_ireturn C d_M_see_26 rfl (by decide) (by decide) ⟨by rw [← hv]; unfold skf; rw [if_neg c6], rfl, by rw [← hv]; unfold skf; rw [if_neg c6]⟩
      · refine j_aload_n C d_M_see_9 rfl rfl ?_
        refine j_dup C d_M_see_10 rfl ?_
        refine jm_get C fl_6_129 d_M_see_11 hmo rfl ?_
        refine j_iconst (v := 1) C d_M_see_14 (by decide) ?_
        refine j_iadd C d_M_see_15 ?_
        refine jm_puti 19 C fp_6_129 d_M_see_16 hmo (by decide) (by first | rfl | assumption) rfl rfl ?_
        refine j_goto (tgt := 0) C d_M_see_19 (by decide) ?_
        exact j_h (by rw [upd_uu, pk_us, nI_1]) (ih (a1 + 1) (by omega) (by rw [← hv]; show _ = (if hr (α 17) t a1 = 32 then skf (α 17) t k (a1 + 1) else a1); rw [if_pos c6]))
  exact j_h (by rw [upd_self h19]) (loop (t - a) a (by omega) rfl)
  
/-! ===== contracts of the reference: isDigit, fail, number ===== -/
set_option maxHeartbeats 4000000 in
set_option maxRecDepth 100000 in
theorem c_M_isDigit {l : Launch} (hl : l.stackTraces = false) {D : va_G} {cA : Nat → ClassId} {b n mo : Nat} (σ : Nat → Int32) (α : Nat → Nat → Int32) (h : AH) (hmo : mo + 27 < n) (t a : Nat) (h16 : σ 16 = nI t) (h19 : σ 19 = nI a) (ht : t ≤ 300) (hat : a ≤ t) : Cn l D cA b y_M_isDigit k_M_isDigit 1 14 0 0 [.ref mo] n (ovM mo σ α h) (Re (some (.int (inI (hr (α 17) t a) 48 57))) n (ovM mo σ α h)) := by
  refine Cn.of (cc := b_M_isDigit) (maxL := 1) (ret := (some .boolean)) (hh := []) (by decide +kernel) hl (Or.inl ⟨rfl, rfl⟩) (Nat.le_of_ble_eq_true rfl) ?_
  intro p e s m args below meth c C
  refine j_aload_n C d_M_isDigit_0 rfl rfl ?_
  refine j_callV C d_M_isDigit_1 ml_M_132 mc_M_here in_M_here rfl se_M_here (by omega) (ovM_o _ _ _ _) (c_M_hereN hl _ _ _ hmo t a h16 h19 ht (by omega)) rfl rfl (Nat.le_of_ble_eq_true rfl) (Nat.le_of_ble_eq_true rfl) (Nat.le_of_ble_eq_true rfl) (Nat.le_of_ble_eq_true rfl) (jk_r ?_)
  refine j_bipush (v := 48) C d_M_isDigit_4 (by decide) ?_
  refine j_bipush (v := 57) C d_M_isDigit_6 (by decide) ?_
  refine j_callS C d_M_isDigit_8 ml_M_102 mc_M_in st_M_in (c_M_in hl _ _ _ _) rfl rfl (Nat.le_of_ble_eq_true rfl) (Nat.le_of_ble_eq_true rfl) (Nat.le_of_ble_eq_true rfl) (Nat.le_of_ble_eq_true rfl) (jk_r ?_)
  exact j_zreturn C d_M_isDigit_11 rfl (by unfold inI; split <;> (try split) <;> decide) (by decide) (by decide) ⟨rfl, rfl, rfl⟩

theorem c_M_failN {l : Launch} (hl : l.stackTraces = false) {D : va_G} {cA : Nat → ClassId} {b n mo : Nat} (x : Int32) (σ : Nat → Int32) (α : Nat → Nat → Int32) (h : AH) (hmo : mo + 27 < n) (hw : ¬ 0 ≤ σ 20) : Cn l D cA b y_M_fail k_M_fail 0 0 0 0 [.ref mo, .int x] n (ovM mo σ α h) (Re none n (ovM mo (upd σ 20 x) α h)) := by
  have h1 := c_M_fail hl (D := D) (cA := cA) (b := b) x σ α h hmo
  rw [if_neg hw] at h1
  exact h1
theorem c_M_failY {l : Launch} (hl : l.stackTraces = false) {D : va_G} {cA : Nat → ClassId} {b n mo : Nat} (x : Int32) (σ : Nat → Int32) (α : Nat → Nat → Int32) (h : AH) (hmo : mo + 27 < n) (hw : 0 ≤ σ 20) : Cn l D cA b y_M_fail k_M_fail 0 0 0 0 [.ref mo, .int x] n (ovM mo σ α h) (Re none n (ovM mo σ α h)) := by
  have h1 := c_M_fail hl (D := D) (cA := cA) (b := b) x σ α h hmo
  rw [if_pos hw] at h1
  exact h1
/-! ===== contracts of the reference: number ===== -/
def nlp (g : Nat → Int32) (t : Nat) : Nat → Nat → Int32 → Nat × Int32 × Nat
  | 0, a, v => (a, v, 0)
  | k + 1, a, v => if inI (hr g t a) 48 57 = 0 then (a, v, k + 1) else if k = 4 then nlp g t k (a + 1) (10 * v + hr g t a - 48) else if v ≤ 0 then (a, v, k + 1) else nlp g t k (a + 1) (10 * v + hr g t a - 48)
/-- behind the digits: the answer, and the place if it is wrong -/
def ntl (g : Nat → Int32) (t a : Nat) (v : Int32) (d : Nat) (bd : Int32) : Int32 × Int32 :=
  if v ≤ bd then (if d = 5 then (if inI (hr g t a) 48 57 = 0 then (v, -1) else (0, nI a)) else (v, -1)) else (0, nI a - 1)
def mnum (g : Nat → Int32) (t a : Nat) (bd : Int32) : Nat × Int32 × Int32 :=
  if inI (hr g t (skp g t a)) 48 57 = 0 then (skp g t a, 0, nI (skp g t a)) else ((nlp g t 5 (skp g t a) 0).1, ntl g t (nlp g t 5 (skp g t a) 0).1 (nlp g t 5 (skp g t a) 0).2.1 (5 - (nlp g t 5 (skp g t a) 0).2.2) bd)
theorem skf_le (g : Nat → Int32) (t : Nat) : ∀ (k a : Nat), a + k ≤ t → skf g t k a ≤ t
  | 0, a, h => h
  | k + 1, a, h => by
    unfold skf
    split
    · exact skf_le g t k (a + 1) (by omega)
    · omega
theorem skp_le (g : Nat → Int32) {t a : Nat} (h : a ≤ t) : skp g t a ≤ t := skf_le g t (t - a) a (by omega)
theorem hr_lt {g : Nat → Int32} {t a : Nat} (h : ¬ inI (hr g t a) 48 57 = 0) : a < t := by
  apply Nat.not_le.mp
  intro q
  apply h
  unfold hr
  rw [if_pos q]
  decide
theorem nI5 {d : Nat} (hd : d ≤ 5) : nI d = 5 ↔ d = 5 := by
  rw [show (5 : Int32) = nI 5 from rfl, nI_eq (by omega) (by omega)]
theorem nI0 {d : Nat} (hd : d ≤ 5) : nI d = 0 ↔ d = 0 := by
  rw [show (0 : Int32) = nI 0 from rfl, nI_eq (by omega) (by omega)]
theorem nIp {a : Nat} (h : 1 ≤ a) (h2 : a ≤ 300) : (0 : Int32) ≤ nI a - 1 := by
  obtain ⟨c, rfl⟩ : ∃ c, a = c + 1 := ⟨a - 1, by omega⟩
  rw [nI_pred]
  exact nI_pos' (by omega)
set_option maxHeartbeats 4000000 in
set_option maxRecDepth 100000 in
theorem c_M_number {l : Launch} (hl : l.stackTraces = false) {D : va_G} {cA : Nat → ClassId} {b n mo : Nat} (bd : Int32) (σ : Nat → Int32) (α : Nat → Nat → Int32) (h : AH) (hmo : mo + 27 < n) (t a : Nat) (h16 : σ 16 = nI t) (h19 : σ 19 = nI a) (ht : t ≤ 300) (hat : a ≤ t) (hw : σ 20 = -1) (hb : 0 ≤ bd) : Cn l D cA b y_M_number k_M_number 2 26 0 0 [.ref mo, .int bd] n (ovM mo σ α h) (Re (some (.int (mnum (α 17) t a bd).2.1)) n (ovM mo (upd (upd σ 19 (nI (mnum (α 17) t a bd).1)) 20 (mnum (α 17) t a bd).2.2) α h)) := by
  refine Cn.of (cc := b_M_number) (maxL := 4) (ret := (some .int)) (hh := []) (by decide +kernel) hl (Or.inl ⟨rfl, rfl⟩) (Nat.le_of_ble_eq_true rfl) ?_
  intro p e s m args below meth c C
  have tail : ∀ (a1 k : Nat) (v : Int32), a1 ≤ t → 1 ≤ a1 → k ≤ 5 → (mnum (α 17) t a bd) = (a1, ntl (α 17) t a1 v (5 - k) bd) → J p l e { frames := 2, cells := 0, slots := 0, locals := 26 } s m args below meth c D cA b 4 (EndQ D cA b s below (Re (some (.int (mnum (α 17) t a bd).2.1)) n (ovM mo (upd (upd σ 19 (nI (mnum (α 17) t a bd).1)) 20 (mnum (α 17) t a bd).2.2) α h)) 0 0) n (ovM mo (upd σ 19 (nI a1)) α h) 0 0 80 [(3, .int (nI (5 - k))), (2, .int v), (0, .ref mo), (1, .int bd)] [] := by
    intro a1 k v hle1 h1 hk hq
    refine j_iload_n C d_M_number_80 rfl rfl ?_
    refine j_iload_n C d_M_number_81 rfl rfl ?_
    refine j_icmp_le (tgt := 95) C d_M_number_82 (by decide) (fun c82 => ?_) (fun c82 => ?_)
    · refine j_iload_n C d_M_number_95 rfl rfl ?_
      refine j_iconst (v := 5) C d_M_number_96 (by decide) ?_
      refine j_icmp_ne (tgt := 115) C d_M_number_97 (by decide) (fun c97 => ?_) (fun c97 => ?_)
      · refine j_aload_n C d_M_number_115 rfl rfl ?_
        refine jm_get C fl_6_136 d_M_number_116 hmo rfl ?_
        refine j_if_ge (tgt := 126) C d_M_number_119 (by decide) (fun c119 => ?_) (fun c119 => ?_)
        · exact absurd (show (0 : Int32) ≤ σ 20 from c119) (by rw [hw]; decide)
        · refine j_iload_n C d_M_number_122 rfl rfl ?_
          refine j_goto (tgt := 127) C d_M_number_123 (by decide) ?_
          have h97 : ¬ 5 - k = 5 := fun z => c97 ((nI5 (by omega)).mpr z)
          exact j_ireturn C d_M_number_127 rfl (by decide) (by decide) ⟨by rw [hq]; unfold ntl; simp only []; rw [if_pos c82, if_neg h97], rfl, by rw [hq]; unfold ntl; simp only []; rw [if_pos c82, if_neg h97]; first | rfl | (rw [(show upd (upd σ 19 (nI a1)) 20 (-1) = upd σ 19 (nI a1) from upd_self hw)])⟩
      · refine j_aload_n C d_M_number_100 rfl rfl ?_
        refine j_callV C d_M_number_101 ml_M_142 mc_M_isDigit in_M_isDigit rfl se_M_isDigit (by omega) (ovM_o _ _ _ _) (c_M_isDigit hl _ _ _ hmo t a1 h16 rfl ht hle1) rfl rfl (Nat.le_of_ble_eq_true rfl) (Nat.le_of_ble_eq_true rfl) (Nat.le_of_ble_eq_true rfl) (Nat.le_of_ble_eq_true rfl) (jk_r ?_)
        refine j_if_eq (tgt := 115) C d_M_number_104 (by decide) (fun c104 => ?_) (fun c104 => ?_)
        · refine j_aload_n C d_M_number_115 rfl rfl ?_
          refine jm_get C fl_6_136 d_M_number_116 hmo rfl ?_
          refine j_if_ge (tgt := 126) C d_M_number_119 (by decide) (fun c119 => ?_) (fun c119 => ?_)
          · exact absurd (show (0 : Int32) ≤ σ 20 from c119) (by rw [hw]; decide)
          · refine j_iload_n C d_M_number_122 rfl rfl ?_
            refine j_goto (tgt := 127) C d_M_number_123 (by decide) ?_
            have h97 : 5 - k = 5 := (nI5 (by omega)).mp c97
            exact j_ireturn C d_M_number_127 rfl (by decide) (by decide) ⟨by rw [hq]; unfold ntl; simp only []; rw [if_pos c82, if_pos h97, if_pos c104], rfl, by rw [hq]; unfold ntl; simp only []; rw [if_pos c82, if_pos h97, if_pos c104]; first | rfl | (rw [(show upd (upd σ 19 (nI a1)) 20 (-1) = upd σ 19 (nI a1) from upd_self hw)])⟩
        · refine j_aload_n C d_M_number_107 rfl rfl ?_
          refine j_aload_n C d_M_number_108 rfl rfl ?_
          refine jm_get C fl_6_129 d_M_number_109 hmo rfl ?_
          refine j_callV C d_M_number_112 ml_M_146 mc_M_fail in_M_fail rfl se_M_fail (by omega) (ovM_o _ _ _ _) (c_M_failN hl _ _ _ _ hmo (by show ¬ (0 : Int32) ≤ σ 20; rw [hw]; decide)) rfl rfl (Nat.le_of_ble_eq_true rfl) (Nat.le_of_ble_eq_true rfl) (Nat.le_of_ble_eq_true rfl) (Nat.le_of_ble_eq_true rfl) (jk_v ?_)
          refine j_aload_n C d_M_number_115 rfl rfl ?_
          refine jm_get C fl_6_136 d_M_number_116 hmo rfl ?_
          refine j_if_ge (tgt := 126) C d_M_number_119 (by decide) (fun c119 => ?_) (fun c119 => ?_)
          · refine j_iconst (v := 0) C d_M_number_126 (by decide) ?_
            have h97 : 5 - k = 5 := (nI5 (by omega)).mp c97
            exact j_ireturn C d_M_number_127 rfl (by decide) (by decide) ⟨by rw [hq]; unfold ntl; simp only []; rw [if_pos c82, if_pos h97, if_neg c104], rfl, by rw [hq]; unfold ntl; simp only []; rw [if_pos c82, if_pos h97, if_neg c104]; first | rfl | (rw [pk_us])⟩
          · exact absurd (show (0 : Int32) ≤ nI a1 from nI_pos' (by omega)) c119
    · refine j_aload_n C d_M_number_85 rfl rfl ?_
      refine j_aload_n C d_M_number_86 rfl rfl ?_
      refine jm_get C fl_6_129 d_M_number_87 hmo rfl ?_
      refine j_iconst (v := 1) C d_M_number_90 (by decide) ?_
      refine j_isub C d_M_number_91 ?_
      refine j_callV C d_M_number_92 ml_M_146 mc_M_fail in_M_fail rfl se_M_fail (by omega) (ovM_o _ _ _ _) (c_M_failN hl _ _ _ _ hmo (by show ¬ (0 : Int32) ≤ σ 20; rw [hw]; decide)) rfl rfl (Nat.le_of_ble_eq_true rfl) (Nat.le_of_ble_eq_true rfl) (Nat.le_of_ble_eq_true rfl) (Nat.le_of_ble_eq_true rfl) (jk_v ?_)
      refine j_iload_n C d_M_number_95 rfl rfl ?_
      refine j_iconst (v := 5) C d_M_number_96 (by decide) ?_
      refine j_icmp_ne (tgt := 115) C d_M_number_97 (by decide) (fun c97 => ?_) (fun c97 => ?_)
      · refine j_aload_n C d_M_number_115 rfl rfl ?_
        refine jm_get C fl_6_136 d_M_number_116 hmo rfl ?_
        refine j_if_ge (tgt := 126) C d_M_number_119 (by decide) (fun c119 => ?_) (fun c119 => ?_)
        · refine j_iconst (v := 0) C d_M_number_126 (by decide) ?_
          have h97 : ¬ 5 - k = 5 := fun z => c97 ((nI5 (by omega)).mpr z)
          exact j_ireturn C d_M_number_127 rfl (by decide) (by decide) ⟨by rw [hq]; unfold ntl; simp only []; rw [if_neg c82], rfl, by rw [hq]; unfold ntl; simp only []; rw [if_neg c82]; first | rfl | (rw [pk_us])⟩
        · exact absurd (show (0 : Int32) ≤ nI a1 - 1 from nIp h1 (by omega)) c119
      · refine j_aload_n C d_M_number_100 rfl rfl ?_
        refine j_callV C d_M_number_101 ml_M_142 mc_M_isDigit in_M_isDigit rfl se_M_isDigit (by omega) (ovM_o _ _ _ _) (c_M_isDigit hl _ _ _ hmo t a1 h16 rfl ht hle1) rfl rfl (Nat.le_of_ble_eq_true rfl) (Nat.le_of_ble_eq_true rfl) (Nat.le_of_ble_eq_true rfl) (Nat.le_of_ble_eq_true rfl) (jk_r ?_)
        refine j_if_eq (tgt := 115) C d_M_number_104 (by decide) (fun c104 => ?_) (fun c104 => ?_)
        · refine j_aload_n C d_M_number_115 rfl rfl ?_
          refine jm_get C fl_6_136 d_M_number_116 hmo rfl ?_
          refine j_if_ge (tgt := 126) C d_M_number_119 (by decide) (fun c119 => ?_) (fun c119 => ?_)
          · refine j_iconst (v := 0) C d_M_number_126 (by decide) ?_
            have h97 : 5 - k = 5 := (nI5 (by omega)).mp c97
            exact j_ireturn C d_M_number_127 rfl (by decide) (by decide) ⟨by rw [hq]; unfold ntl; simp only []; rw [if_neg c82], rfl, by rw [hq]; unfold ntl; simp only []; rw [if_neg c82]; first | rfl | (rw [pk_us])⟩
          · exact absurd (show (0 : Int32) ≤ nI a1 - 1 from nIp h1 (by omega)) c119
        · refine j_aload_n C d_M_number_107 rfl rfl ?_
          refine j_aload_n C d_M_number_108 rfl rfl ?_
          refine jm_get C fl_6_129 d_M_number_109 hmo rfl ?_
          refine j_callV C d_M_number_112 ml_M_146 mc_M_fail in_M_fail rfl se_M_fail (by omega) (ovM_o _ _ _ _) (c_M_failY hl _ _ _ _ hmo (show (0 : Int32) ≤ nI a1 - 1 from nIp h1 (by omega))) rfl rfl (Nat.le_of_ble_eq_true rfl) (Nat.le_of_ble_eq_true rfl) (Nat.le_of_ble_eq_true rfl) (Nat.le_of_ble_eq_true rfl) (jk_v ?_)
          refine j_aload_n C d_M_number_115 rfl rfl ?_
          refine jm_get C fl_6_136 d_M_number_116 hmo rfl ?_
          refine j_if_ge (tgt := 126) C d_M_number_119 (by decide) (fun c119 => ?_) (fun c119 => ?_)
          · refine j_iconst (v := 0) C d_M_number_126 (by decide) ?_
            have h97 : 5 - k = 5 := (nI5 (by omega)).mp c97
            exact j_ireturn C d_M_number_127 rfl (by decide) (by decide) ⟨by rw [hq]; unfold ntl; simp only []; rw [if_neg c82], rfl, by rw [hq]; unfold ntl; simp only []; rw [if_neg c82]; first | rfl | (rw [pk_us])⟩
          · exact absurd (show (0 : Int32) ≤ nI a1 - 1 from nIp h1 (by omega)) c119
  have loop : (mnum (α 17) t a bd) = ((nlp (α 17) t 5 (skp (α 17) t a) 0).1, ntl (α 17) t (nlp (α 17) t 5 (skp (α 17) t a) 0).1 (nlp (α 17) t 5 (skp (α 17) t a) 0).2.1 (5 - (nlp (α 17) t 5 (skp (α 17) t a) 0).2.2) bd) → ∀ (k a1 : Nat) (v : Int32), k ≤ 5 → a1 ≤ t → (k = 5 → ¬ inI (hr (α 17) t a1) 48 57 = 0) → (k < 5 → 1 ≤ a1) → nlp (α 17) t k a1 v = nlp (α 17) t 5 (skp (α 17) t a) 0 → J p l e { frames := 2, cells := 0, slots := 0, locals := 26 } s m args below meth c D cA b 4 (EndQ D cA b s below (Re (some (.int (mnum (α 17) t a bd).2.1)) n (ovM mo (upd (upd σ 19 (nI (mnum (α 17) t a bd).1)) 20 (mnum (α 17) t a bd).2.2) α h)) 0 0) n (ovM mo (upd σ 19 (nI a1)) α h) 0 0 24 [(3, .int (nI (5 - k))), (2, .int v), (0, .ref mo), (1, .int bd)] [] := by
    intro hm k
    induction k with
    | zero =>
      intro a1 v hk hle1 hk5 hk1 hv
      refine j_aload_n C d_M_number_24 rfl rfl ?_
      refine jm_get C fl_6_136 d_M_number_25 hmo rfl ?_
      refine j_if_ge (tgt := 80) C d_M_number_28 (by decide) (fun c28 => ?_) (fun c28 => ?_)
      · exact absurd (show (0 : Int32) ≤ σ 20 from c28) (by rw [hw]; decide)
      · refine j_aload_n C d_M_number_31 rfl rfl ?_
        refine j_callV C d_M_number_32 ml_M_142 mc_M_isDigit in_M_isDigit rfl se_M_isDigit (by omega) (ovM_o _ _ _ _) (c_M_isDigit hl _ _ _ hmo t a1 h16 rfl ht hle1) rfl rfl (Nat.le_of_ble_eq_true rfl) (Nat.le_of_ble_eq_true rfl) (Nat.le_of_ble_eq_true rfl) (Nat.le_of_ble_eq_true rfl) (jk_r ?_)
        refine j_if_eq (tgt := 80) C d_M_number_35 (by decide) (fun c35 => ?_) (fun c35 => ?_)
        · exact tail a1 0 v hle1 (hk1 (by omega)) (by omega) (by rw [hm, ← hv]; rfl)
        · refine j_iload_n C d_M_number_38 rfl rfl ?_
          refine j_iconst (v := 5) C d_M_number_39 (by decide) ?_
          refine j_icmp_ge (tgt := 80) C d_M_number_40 (by decide) (fun c40 => ?_) (fun c40 => ?_)
          · exact tail a1 0 v hle1 (hk1 (by omega)) (by omega) (by rw [hm, ← hv]; rfl)
          · exact absurd (by decide) c40
    | succ k ih =>
      intro a1 v hk hle1 hk5 hk1 hv
      refine j_aload_n C d_M_number_24 rfl rfl ?_
      refine jm_get C fl_6_136 d_M_number_25 hmo rfl ?_
      refine j_if_ge (tgt := 80) C d_M_number_28 (by decide) (fun c28 => ?_) (fun c28 => ?_)
      · exact absurd (show (0 : Int32) ≤ σ 20 from c28) (by rw [hw]; decide)
      · refine j_aload_n C d_M_number_31 rfl rfl ?_
        refine j_callV C d_M_number_32 ml_M_142 mc_M_isDigit in_M_isDigit rfl se_M_isDigit (by omega) (ovM_o _ _ _ _) (c_M_isDigit hl _ _ _ hmo t a1 h16 rfl ht hle1) rfl rfl (Nat.le_of_ble_eq_true rfl) (Nat.le_of_ble_eq_true rfl) (Nat.le_of_ble_eq_true rfl) (Nat.le_of_ble_eq_true rfl) (jk_r ?_)
        refine j_if_eq (tgt := 80) C d_M_number_35 (by decide) (fun c35 => ?_) (fun c35 => ?_)
        · by_cases h5 : k + 1 = 5
          · exact absurd c35 (hk5 h5)
          · exact tail a1 (k + 1) v hle1 (hk1 (by omega)) (by omega) (by rw [hm, ← hv]; unfold nlp; rw [if_pos c35])
        · refine j_iload_n C d_M_number_38 rfl rfl ?_
          refine j_iconst (v := 5) C d_M_number_39 (by decide) ?_
          refine j_icmp_ge (tgt := 80) C d_M_number_40 (by decide) (fun c40 => ?_) (fun c40 => ?_)
          · exact absurd (show nI 5 ≤ nI (5 - (k + 1)) from c40) (nI_ge (by omega) (by omega))
          · refine j_iload_n C d_M_number_43 rfl rfl ?_
            refine j_if_eq (tgt := 51) C d_M_number_44 (by decide) (fun c44 => ?_) (fun c44 => ?_)
            · refine j_bipush (v := 10) C d_M_number_51 (by decide) ?_
              refine j_iload_n C d_M_number_53 rfl rfl ?_
              refine j_imul C d_M_number_54 ?_
              refine j_aload_n C d_M_number_55 rfl rfl ?_
              refine j_callV C d_M_number_56 ml_M_132 mc_M_here in_M_here rfl se_M_here (by omega) (ovM_o _ _ _ _) (c_M_hereN hl _ _ _ hmo t a1 h16 rfl ht (by omega)) rfl rfl (Nat.le_of_ble_eq_true rfl) (Nat.le_of_ble_eq_true rfl) (Nat.le_of_ble_eq_true rfl) (Nat.le_of_ble_eq_true rfl) (jk_r ?_)
              refine j_iadd C d_M_number_59 ?_
              refine j_bipush (v := 48) C d_M_number_60 (by decide) ?_
              refine j_isub C d_M_number_62 ?_
              refine j_istore_n C d_M_number_63 rfl (by decide) rfl ?_
              refine j_iinc (v := nI (5 - k)) C d_M_number_64 rfl (by rw [nI_inc]; congr 1; omega) (by decide) rfl ?_
              refine j_aload_n C d_M_number_67 rfl rfl ?_
              refine j_dup C d_M_number_68 rfl ?_
              refine jm_get C fl_6_129 d_M_number_69 hmo rfl ?_
              refine j_iconst (v := 1) C d_M_number_72 (by decide) ?_
              refine j_iadd C d_M_number_73 ?_
              refine jm_puti 19 C fp_6_129 d_M_number_74 hmo (by decide) (by first | rfl | assumption) rfl rfl ?_
              have h4 : k = 4 := by have z := (nI0 (by omega)).mp c44; omega
              refine j_goto (tgt := 24) C d_M_number_77 (by decide) ?_
              exact j_h (by rw [upd_uu, pk_us, nI_1]) (j_pick [0, 1, 2, 3] rfl (ih (a1 + 1) (10 * v + hr (α 17) t a1 - 48) (by omega) (hr_lt c35) (fun z => absurd z (by omega)) (fun _ => by omega) (by rw [← hv]; show _ = (if inI (hr (α 17) t a1) 48 57 = 0 then (a1, v, k + 1) else if k = 4 then nlp (α 17) t k (a1 + 1) (10 * v + hr (α 17) t a1 - 48) else if v ≤ 0 then (a1, v, k + 1) else nlp (α 17) t k (a1 + 1) (10 * v + hr (α 17) t a1 - 48)); rw [if_neg c35, if_pos h4])))
            · refine j_iload_n C d_M_number_47 rfl rfl ?_
              refine j_if_le (tgt := 80) C d_M_number_48 (by decide) (fun c48 => ?_) (fun c48 => ?_)
              · have h4 : ¬ k = 4 := fun z => c44 ((nI0 (by omega)).mpr (by omega))
                exact tail a1 (k + 1) v hle1 (hk1 (by omega)) (by omega) (by rw [hm, ← hv]; unfold nlp; rw [if_neg c35, if_neg h4, if_pos c48])
              · refine j_bipush (v := 10) C d_M_number_51 (by decide) ?_
                refine j_iload_n C d_M_number_53 rfl rfl ?_
                refine j_imul C d_M_number_54 ?_
                refine j_aload_n C d_M_number_55 rfl rfl ?_
                refine j_callV C d_M_number_56 ml_M_132 mc_M_here in_M_here rfl se_M_here (by omega) (ovM_o _ _ _ _) (c_M_hereN hl _ _ _ hmo t a1 h16 rfl ht (by omega)) rfl rfl (Nat.le_of_ble_eq_true rfl) (Nat.le_of_ble_eq_true rfl) (Nat.le_of_ble_eq_true rfl) (Nat.le_of_ble_eq_true rfl) (jk_r ?_)
                refine j_iadd C d_M_number_59 ?_
                refine j_bipush (v := 48) C d_M_number_60 (by decide) ?_
                refine j_isub C d_M_number_62 ?_
                refine j_istore_n C d_M_number_63 rfl (by decide) rfl ?_
                refine j_iinc (v := nI (5 - k)) C d_M_number_64 rfl (by rw [nI_inc]; congr 1; omega) (by decide) rfl ?_
                refine j_aload_n C d_M_number_67 rfl rfl ?_
                refine j_dup C d_M_number_68 rfl ?_
                refine jm_get C fl_6_129 d_M_number_69 hmo rfl ?_
                refine j_iconst (v := 1) C d_M_number_72 (by decide) ?_
                refine j_iadd C d_M_number_73 ?_
                refine jm_puti 19 C fp_6_129 d_M_number_74 hmo (by decide) (by first | rfl | assumption) rfl rfl ?_
                have h4 : ¬ k = 4 := fun z => c44 ((nI0 (by omega)).mpr (by omega))
                refine j_goto (tgt := 24) C d_M_number_77 (by decide) ?_
                exact j_h (by rw [upd_uu, pk_us, nI_1]) (j_pick [0, 1, 2, 3] rfl (ih (a1 + 1) (10 * v + hr (α 17) t a1 - 48) (by omega) (hr_lt c35) (fun z => absurd z (by omega)) (fun _ => by omega) (by rw [← hv]; show _ = (if inI (hr (α 17) t a1) 48 57 = 0 then (a1, v, k + 1) else if k = 4 then nlp (α 17) t k (a1 + 1) (10 * v + hr (α 17) t a1 - 48) else if v ≤ 0 then (a1, v, k + 1) else nlp (α 17) t k (a1 + 1) (10 * v + hr (α 17) t a1 - 48)); rw [if_neg c35, if_neg h4, if_neg c48])))
  refine j_aload_n C d_M_number_0 rfl rfl ?_
  refine j_callV C d_M_number_1 ml_M_139 mc_M_see in_M_see rfl se_M_see (by omega) (ovM_o _ _ _ _) (c_M_see hl _ _ _ hmo t a h16 h19 ht hat) rfl rfl (Nat.le_of_ble_eq_true rfl) (Nat.le_of_ble_eq_true rfl) (Nat.le_of_ble_eq_true rfl) (Nat.le_of_ble_eq_true rfl) (jk_r ?_)
  refine j_pop C d_M_number_4 rfl ?_
  refine j_aload_n C d_M_number_5 rfl rfl ?_
  refine j_callV C d_M_number_6 ml_M_142 mc_M_isDigit in_M_isDigit rfl se_M_isDigit (by omega) (ovM_o _ _ _ _) (c_M_isDigit hl _ _ _ hmo t (skp (α 17) t a) h16 rfl ht (skp_le (α 17) hat)) rfl rfl (Nat.le_of_ble_eq_true rfl) (Nat.le_of_ble_eq_true rfl) (Nat.le_of_ble_eq_true rfl) (Nat.le_of_ble_eq_true rfl) (jk_r ?_)
  refine j_if_ne (tgt := 20) C d_M_number_9 (by decide) (fun c9 => ?_) (fun c9 => ?_)
  · refine j_iconst (v := 0) C d_M_number_20 (by decide) ?_
    refine j_istore_n C d_M_number_21 rfl (by decide) rfl ?_
    refine j_iconst (v := 0) C d_M_number_22 (by decide) ?_
    refine j_istore_n C d_M_number_23 rfl (by decide) rfl ?_
    exact j_pick [0, 1, 2, 3] rfl (loop (by unfold mnum; rw [if_neg c9]) 5 (skp (α 17) t a) 0 (by omega) (skp_le (α 17) hat) (fun _ => c9) (fun z => absurd z (by omega)) rfl)
  · refine j_aload_n C d_M_number_12 rfl rfl ?_
    refine j_aload_n C d_M_number_13 rfl rfl ?_
    refine jm_get C fl_6_129 d_M_number_14 hmo rfl ?_
    refine j_callV C d_M_number_17 ml_M_146 mc_M_fail in_M_fail rfl se_M_fail (by omega) (ovM_o _ _ _ _) (c_M_failN hl _ _ _ _ hmo (by show ¬ (0 : Int32) ≤ σ 20; rw [hw]; decide)) rfl rfl (Nat.le_of_ble_eq_true rfl) (Nat.le_of_ble_eq_true rfl) (Nat.le_of_ble_eq_true rfl) (Nat.le_of_ble_eq_true rfl) (jk_v ?_)
    refine j_iconst (v := 0) C d_M_number_20 (by decide) ?_
    refine j_istore_n C d_M_number_21 rfl (by decide) rfl ?_
    refine j_iconst (v := 0) C d_M_number_22 (by decide) ?_
    refine j_istore_n C d_M_number_23 rfl (by decide) rfl ?_
    skip
    refine j_aload_n C d_M_number_24 rfl rfl ?_
    refine jm_get C fl_6_136 d_M_number_25 hmo rfl ?_
    refine j_if_ge (tgt := 80) C d_M_number_28 (by decide) (fun c28 => ?_) (fun c28 => ?_)
    · refine j_iload_n C d_M_number_80 rfl rfl ?_
      refine j_iload_n C d_M_number_81 rfl rfl ?_
      refine j_icmp_le (tgt := 95) C d_M_number_82 (by decide) (fun c82 => ?_) (fun c82 => ?_)
      · refine j_iload_n C d_M_number_95 rfl rfl ?_
        refine j_iconst (v := 5) C d_M_number_96 (by decide) ?_
        refine j_icmp_ne (tgt := 115) C d_M_number_97 (by decide) (fun c97 => ?_) (fun c97 => ?_)
        · refine j_aload_n C d_M_number_115 rfl rfl ?_
          refine jm_get C fl_6_136 d_M_number_116 hmo rfl ?_
          refine j_if_ge (tgt := 126) C d_M_number_119 (by decide) (fun c119 => ?_) (fun c119 => ?_)
          · refine j_iconst (v := 0) C d_M_number_126 (by decide) ?_
            exact j_ireturn C d_M_number_127 rfl (by decide) (by decide) ⟨by unfold mnum; rw [if_pos c9], rfl, by unfold mnum; rw [if_pos c9]; rfl⟩
          · exact absurd (show (0 : Int32) ≤ nI (skp (α 17) t a) from nI_pos' (by have z := skp_le (α 17) hat; omega)) c119
        · exact absurd c97 (by decide)
      · exact absurd hb c82
    · exact absurd (show (0 : Int32) ≤ nI (skp (α 17) t a) from nI_pos' (by have z := skp_le (α 17) hat; omega)) c28
/-! ===== contracts of the reference: factor ===== -/
def mfA (g : Nat → Int32) (t a : Nat) : Nat := if hr g t (skp g t a) = 102 then (mnum g t (skp g t a + 1) 19).1 else (mnum g t (skp g t a) 99999).1
def mfV (g : Nat → Int32) (t a : Nat) : Int32 := if hr g t (skp g t a) = 102 then -1 - (mnum g t (skp g t a + 1) 19).2.1 else (mnum g t (skp g t a) 99999).2.1
def mfW (g : Nat → Int32) (t a : Nat) : Int32 := if hr g t (skp g t a) = 102 then (mnum g t (skp g t a + 1) 19).2.2 else (mnum g t (skp g t a) 99999).2.2
theorem hr_lt2 {g : Nat → Int32} {t a : Nat} {x : Int32} (h : hr g t a = x) (hx : ¬ x = -1) : a < t := by
  apply Nat.not_le.mp
  intro q
  apply hx
  rw [← h]
  unfold hr
  rw [if_pos q]
set_option maxHeartbeats 4000000 in
set_option maxRecDepth 100000 in
theorem c_M_factor {l : Launch} (hl : l.stackTraces = false) {D : va_G} {cA : Nat → ClassId} {b n mo : Nat} (σ : Nat → Int32) (α : Nat → Nat → Int32) (h : AH) (hmo : mo + 27 < n) (t a : Nat) (h16 : σ 16 = nI t) (h19 : σ 19 = nI a) (ht : t ≤ 300) (hat : a ≤ t) (hw : σ 20 = -1) : Cn l D cA b y_M_factor k_M_factor 3 42 0 0 [.ref mo] n (ovM mo σ α h) (Re (some (.int (mfV (α 17) t a))) n (ovM mo (upd (upd σ 19 (nI (mfA (α 17) t a))) 20 (mfW (α 17) t a)) α h)) := by
  refine Cn.of (cc := b_M_factor) (maxL := 1) (ret := (some .int)) (hh := []) (by decide +kernel) hl (Or.inl ⟨rfl, rfl⟩) (Nat.le_of_ble_eq_true rfl) ?_
  intro p e s m args below meth c C
  refine j_aload_n C d_M_factor_0 rfl rfl ?_
  refine jm_get C fl_6_136 d_M_factor_1 hmo rfl ?_
  refine j_if_lt (tgt := 9) C d_M_factor_4 (by decide) (fun c4 => ?_) (fun c4 => ?_)
  · refine j_aload_n C d_M_factor_9 rfl rfl ?_
    refine j_callV C d_M_factor_10 ml_M_139 mc_M_see in_M_see rfl se_M_see (by omega) (ovM_o _ _ _ _) (c_M_see hl _ _ _ hmo t a h16 h19 ht hat) rfl rfl (Nat.le_of_ble_eq_true rfl) (Nat.le_of_ble_eq_true rfl) (Nat.le_of_ble_eq_true rfl) (Nat.le_of_ble_eq_true rfl) (jk_r ?_)
    refine j_bipush (v := 102) C d_M_factor_13 (by decide) ?_
    refine j_icmp_eq (tgt := 25) C d_M_factor_15 (by decide) (fun c15 => ?_) (fun c15 => ?_)
    · have hlt : (skp (α 17) t a) + 1 ≤ t := hr_lt2 c15 (by decide)
      refine j_aload_n C d_M_factor_25 rfl rfl ?_
      refine j_dup C d_M_factor_26 rfl ?_
      refine jm_get C fl_6_129 d_M_factor_27 hmo rfl ?_
      refine j_iconst (v := 1) C d_M_factor_30 (by decide) ?_
      refine j_iadd C d_M_factor_31 ?_
      refine jm_puti 19 C fp_6_129 d_M_factor_32 hmo (by decide) (by first | rfl | assumption) rfl rfl ?_
      refine j_h (h' := ovM mo (upd σ 19 (nI ((skp (α 17) t a) + 1))) α h) (by rw [upd_uu, pk_us, nI_1]) ?_
      refine j_iconst (v := (-1)) C d_M_factor_35 (by decide) ?_
      refine j_aload_n C d_M_factor_36 rfl rfl ?_
      refine j_bipush (v := 19) C d_M_factor_37 (by decide) ?_
      refine j_callV C d_M_factor_39 ml_M_150 mc_M_number in_M_number rfl se_M_number (by omega) (ovM_o _ _ _ _) (c_M_number hl _ _ _ _ hmo t ((skp (α 17) t a) + 1) h16 pk_us ht hlt hw (by decide)) rfl rfl (Nat.le_of_ble_eq_true rfl) (Nat.le_of_ble_eq_true rfl) (Nat.le_of_ble_eq_true rfl) (Nat.le_of_ble_eq_true rfl) (jk_r ?_)
      refine j_isub C d_M_factor_42 ?_
      exact j_ireturn C d_M_factor_43 rfl (by decide) (by decide) ⟨by unfold mfV; rw [if_pos c15], rfl, by unfold mfA mfW; rw [if_pos c15, if_pos c15, upd_uu]⟩
    · refine j_aload_n C d_M_factor_18 rfl rfl ?_
      refine j_ldc (v := 99999) C d_M_factor_19 lc_M_125 ?_
      refine j_callV C d_M_factor_21 ml_M_150 mc_M_number in_M_number rfl se_M_number (by omega) (ovM_o _ _ _ _) (c_M_number hl _ _ _ _ hmo t (skp (α 17) t a) h16 rfl ht (skp_le (α 17) hat) hw (by decide)) rfl rfl (Nat.le_of_ble_eq_true rfl) (Nat.le_of_ble_eq_true rfl) (Nat.le_of_ble_eq_true rfl) (Nat.le_of_ble_eq_true rfl) (jk_r ?_)
      exact j_ireturn C d_M_factor_24 rfl (by decide) (by decide) ⟨by unfold mfV; rw [if_neg c15], rfl, by unfold mfA mfW; rw [if_neg c15, if_neg c15, upd_uu]⟩
  · exact absurd (show σ 20 < 0 by rw [hw]; decide) c4
/-! ===== a row of cells laid over the heap; what is thrown out of a call ===== -/
def ovL (a : Nat) (cs : List AC) (h : AH) : AH := fun j => if a ≤ j ∧ j < a + cs.length then cs.getD (j - a) (.inr (0, [])) else h j
theorem ovL_c {a : Nat} {cs : List AC} {h : AH} {o : Nat} {x : AC} (hx : cs[o]? = some x) : ovL a cs h (a + o) = x := by
  have ho : o < cs.length := (List.getElem?_eq_some_iff.mp hx).1
  unfold ovL
  rw [if_pos (by omega), show a + o - a = o by omega, List.getD_eq_getElem?_getD, hx]
  rfl
theorem ovL_n {a : Nat} {cs : List AC} {h : AH} {j : Nat} (hj : j < a ∨ a + cs.length ≤ j) : ovL a cs h j = h j := by
  unfold ovL
  rw [if_neg (by omega)]
theorem ovL_u {a : Nat} {cs cs' : List AC} {h : AH} {o : Nat} {x : AC} (ho : o < cs.length) (hx : cs.set o x = cs') : hu (ovL a cs h) (a + o) x = ovL a cs' h := by
  subst hx
  funext j
  unfold hu ovL
  rw [List.length_set]
  by_cases e : j = a + o
  · subst e
    rw [if_pos rfl, if_pos (by omega), show a + o - a = o by omega, List.getD_eq_getElem?_getD, List.getElem?_set_self ho]
    rfl
  · rw [if_neg e]
    by_cases e3 : a ≤ j ∧ j < a + cs.length
    · rw [if_pos e3, if_pos e3, List.getD_eq_getElem?_getD, List.getD_eq_getElem?_getD, List.getElem?_set_ne (by omega)]
    · rw [if_neg e3, if_neg e3]
theorem ovL_out {a : Nat} {cs : List AC} {h : AH} {j : Nat} {x : AC} (hj : j < a ∨ a + cs.length ≤ j) : hu (ovL a cs h) j x = ovL a cs (hu h j x) := by
  funext i
  by_cases e : i = j
  · subst e
    rw [hu_s, ovL_n hj, hu_s]
  · rw [hu_n e]
    unfold ovL
    by_cases g : a ≤ i ∧ i < a + cs.length
    · rw [if_pos g, if_pos g]
    · rw [if_neg g, if_neg g, hu_n e]
theorem ovL_new {a : Nat} {cs cs' : List AC} {h : AH} {k : Nat} {x : AC} (hk : cs.length = k) (hx : cs ++ [x] = cs') : hu (ovL a cs h) (a + k) x = ovL a cs' h := by
  subst hx hk
  funext i
  unfold hu ovL
  rw [List.length_append, List.length_singleton]
  by_cases e : i = a + cs.length
  · subst e
    rw [if_pos rfl, if_pos (by omega), show a + cs.length - a = cs.length by omega, List.getD_eq_getElem?_getD, List.getElem?_append_right (Nat.le_refl _), Nat.sub_self]
    rfl
  · rw [if_neg e]
    by_cases e3 : a ≤ i ∧ i < a + cs.length
    · rw [if_pos e3, if_pos (by omega), List.getD_eq_getElem?_getD, List.getD_eq_getElem?_getD, List.getElem?_append_left (by omega)]
    · rw [if_neg e3, if_neg (by omega)]
theorem ovL_beg (h : AH) (a : Nat) (x : AC) : hu h a x = ovL a [x] h := by
  funext i
  unfold hu ovL
  by_cases e : i = a
  · subst e
    rw [if_pos rfl, if_pos (by simp), Nat.sub_self]
    rfl
  · rw [if_neg e, if_neg (by simp; omega)]
theorem ovL_in {a k : Nat} {xs ys zs : List AC} {h : AH} (h1 : k ≤ xs.length) (h2 : xs.length ≤ k + ys.length) (hz : xs.take k ++ ys = zs) : ovL (a + k) ys (ovL a xs h) = ovL a zs h := by
  subst hz
  have e1 : (xs.take k ++ ys).length = k + ys.length := by rw [List.length_append, List.length_take, Nat.min_eq_left h1]
  have e2 : (xs.take k).length = k := by rw [List.length_take, Nat.min_eq_left h1]
  funext i
  unfold ovL
  rw [e1]
  by_cases g1 : a + k ≤ i ∧ i < a + k + ys.length
  · rw [if_pos g1, if_pos (by omega), List.getD_eq_getElem?_getD, List.getD_eq_getElem?_getD, List.getElem?_append_right (by rw [e2]; omega), e2, show i - a - k = i - (a + k) by omega]
  · rw [if_neg g1]
    by_cases g2 : a ≤ i ∧ i < a + k
    · rw [if_pos (by omega), if_pos (by omega), List.getD_eq_getElem?_getD, List.getD_eq_getElem?_getD, List.getElem?_append_left (by rw [e2]; omega), List.getElem?_take_of_lt (by omega)]
    · rw [if_neg (by omega), if_neg (by omega)]
theorem ovL_ovL {a c : Nat} {xs ys : List AC} {h : AH} (hd : a + xs.length ≤ c ∨ c + ys.length ≤ a) : ovL a xs (ovL c ys h) = ovL c ys (ovL a xs h) := by
  funext i
  unfold ovL
  by_cases g1 : a ≤ i ∧ i < a + xs.length
  · rw [if_pos g1, if_neg (by omega), if_pos g1]
  · rw [if_neg g1]
    by_cases g2 : c ≤ i ∧ i < c + ys.length
    · rw [if_pos g2, if_pos g2]
    · rw [if_neg g2, if_neg g2, if_neg g1]
theorem ovM_L (mo : Nat) (σ : Nat → Int32) (α : Nat → Nat → Int32) (h : AH) : ovM mo σ α h = ovL mo (.inr (6, mfs mo σ) :: mar α) h := by
  funext i
  unfold ovM ovL
  have e : ((.inr (6, mfs mo σ) :: mar α : List AC)).length = 28 := rfl
  rw [e]
  by_cases g1 : i = mo
  · subst g1
    rw [if_pos rfl, if_pos (by omega), Nat.sub_self]
    rfl
  · rw [if_neg g1]
    by_cases g2 : mo < i ∧ i ≤ mo + 27
    · rw [if_pos g2, if_pos (by omega), show i - mo = (i - mo - 1) + 1 by omega]
      rfl
    · rw [if_neg g2, if_neg (by omega)]
/-- it throws one of the class ci, with the heap n1, h1 -/
def Tx (ci n1 : Nat) (h1 : AH) : Rz → Nat → AH → Prop := fun r n h => r = .inr ci ∧ n = n1 ∧ h = h1
/-- it makes one of the class ci and throws it -/
abbrev Th (ci n : Nat) (h : AH) : Rz → Nat → AH → Prop := Tx ci (n + 1) (hu h n (.inr (ci, [])))
section JT
variable {p : Program} {l : Launch} {e : Env} {R : Room} {s : State} {m : MethodId} {args : Array Value} {below : List Frame} {meth : Method} {c : Code} {D : va_G} {cA : Nat → ClassId} {b nL : Nat} {Q : State → Prop} {n : Nat} {h : AH} {kc ks pc : Nat} {L : List (Nat × Value)} {st : List Value} {own mn : String} {cc : ByteArray} {ret : Option FieldType} {hh : List (Nat × Nat × Nat × Nat)} {Qa : Rz → Nat → AH → Prop} {mc ms : Nat}
theorem jk_x (C : Cx p l s m meth c D cA b nL own mn cc ret hh) {ci n1 : Nat} {h1 : AH} (hout : hh = []) (hc : kc ≤ mc) (hs : ks ≤ ms) (hQ : Qa (.inr ci) n1 h1) : JK p l e R s m args below meth c D cA b nL (EndQ D cA b s below Qa mc ms) kc ks pc L st (Tx ci n1 h1) := by
  refine ⟨fun v n' h' hq => (by cases hq.1), fun ci' n' h' q hq hqn hqx => ?_⟩
  obtain ⟨e1, rfl, rfl⟩ := hq
  cases e1
  exact jx_out C (by rw [hout]; intro x hx; cases hx) hqn hqx hc hs hQ
theorem jk_c (C : Cx p l s m meth c D cA b nL own mn cc ret hh) {ci n1 : Nat} {h1 : AH} {E name : String} {T0 : u_T} (hE : g_cl[ci]? = some (E, T0, 0)) (pre : List ExceptionTableEntry) (x : ExceptionTableEntry) (suf : List ExceptionTableEntry) (hsplit : tableOf hh = pre ++ x :: suf)
    (hpass : ∀ z ∈ pre, covers z pc = false ∨ (z.catchType ≠ 0 ∧ ∃ nm : String, Cond.classLink own z.catchType nm ∈ g_ws ∧ (E, nm) ∈ g_nc)) (hcv : covers x pc = true) (h0 : x.catchType ≠ 0)
    (hlink : Cond.classLink own x.catchType name ∈ g_ws) (hcast : Cond.castable E name ∈ g_ws)
    (kk : ∀ q, J p l e R s m args below meth c D cA b nL Q n1 h1 kc ks x.handlerPc L [.ref q]) : JK p l e R s m args below meth c D cA b nL Q kc ks pc L st (Tx ci n1 h1) := by
  refine ⟨fun v n' h' hq => (by cases hq.1), fun ci' n' h' q hq hqn hqx => ?_⟩
  obtain ⟨e1, rfl, rfl⟩ := hq
  cases e1
  exact jx_catch C hE pre x suf hsplit hpass hcv h0 hlink hcast hqn hqx (kk q)
end JT
section JL
variable {p : Program} {l : Launch} {e : Env} {R : Room} {s : State} {m : MethodId} {args : Array Value} {below : List Frame} {meth : Method} {c : Code} {D : va_G} {cA : Nat → ClassId} {b nL : Nat} {Q : State → Prop} {n : Nat} {h : AH} {kc ks pc : Nat} {L : List (Nat × Value)} {st : List Value} {own mn : String} {cc : ByteArray} {ret : Option FieldType} {hh : List (Nat × Nat × Nat × Nat)} {a : Nat} {cs cs' : List AC}
theorem jl_get (o : Nat) (C : Cx p l s m meth c D cA b nL own mn cc ret hh) {index ci k : Nat} {fs : List Value} {v : Value} (hF : FL own index ci k) (hd : decode cc pc = .ok (.getfield index, 3)) (hn : a + cs.length ≤ n) (hx : cs[o]? = some (.inr (ci, fs))) (hv : fs[k]? = some v) (kk : J p l e R s m args below meth c D cA b nL Q n (ovL a cs h) kc ks (pc + 3) L (v :: st)) : J p l e R s m args below meth c D cA b nL Q n (ovL a cs h) kc ks pc L (.ref (a + o) :: st) :=
  j_get C hF hd (by have := (List.getElem?_eq_some_iff.mp hx).1; omega) (ovL_c hx) hv kk
theorem jl_put (o : Nat) (C : Cx p l s m meth c D cA b nL own mn cc ret hh) {index ci k : Nat} {ty : FieldType} {fs : List Value} {v : Value} (hF : FP own index ci k false ty) (hd : decode cc pc = .ok (.putfield index, 3)) (hn : a + cs.length ≤ n) (hx : cs[o]? = some (.inr (ci, fs))) (hl : k < fs.length) (hnr : narrow ty v = v) (hf : fits ty v = true) (hcs : cs.set o (.inr (ci, fs.set k v)) = cs') (kk : J p l e R s m args below meth c D cA b nL Q n (ovL a cs' h) kc ks (pc + 3) L st) : J p l e R s m args below meth c D cA b nL Q n (ovL a cs h) kc ks pc L (v :: .ref (a + o) :: st) := by
  have ho := (List.getElem?_eq_some_iff.mp hx).1
  exact j_put C hF hd (by omega) (ovL_c hx) hl hnr hf rfl (by rw [ovL_u ho hcs]; exact kk)
theorem jl_putF (o : Nat) (C : Cx p l s m meth c D cA b nL own mn cc ret hh) {index ci k : Nat} {ty : FieldType} {fs : List Value} {v : Value} (hF : FP own index ci k true ty) (hmn : mn = "<init>") (hd : decode cc pc = .ok (.putfield index, 3)) (hn : a + cs.length ≤ n) (hx : cs[o]? = some (.inr (ci, fs))) (hl : k < fs.length) (hnr : narrow ty v = v) (hf : fits ty v = true) (hcs : cs.set o (.inr (ci, fs.set k v)) = cs') (kk : J p l e R s m args below meth c D cA b nL Q n (ovL a cs' h) kc ks (pc + 3) L st) : J p l e R s m args below meth c D cA b nL Q n (ovL a cs h) kc ks pc L (v :: .ref (a + o) :: st) := by
  have ho := (List.getElem?_eq_some_iff.mp hx).1
  exact j_putF C hF hmn hd (by omega) (ovL_c hx) hl hnr hf rfl (by rw [ovL_u ho hcs]; exact kk)
theorem jl_new (k : Nat) (C : Cx p l s m meth c D cA b nL own mn cc ret hh) {index ci : Nat} {fs : List Value} (hF : NL own index ci fs) (hd : decode cc pc = .ok (.new index, 3)) (hc1 : kc + 1 ≤ R.cells) (hc2 : ks + fs.length ≤ R.slots) (hk : cs.length = k) (hcs : cs ++ [.inr (ci, fs)] = cs') (kk : J p l e R s m args below meth c D cA b nL Q (a + (k + 1)) (ovL a cs' h) (kc + 1) (ks + fs.length) (pc + 3) L (.ref (a + k) :: st)) : J p l e R s m args below meth c D cA b nL Q (a + k) (ovL a cs h) kc ks pc L st :=
  j_new C hF hd hc1 hc2 (by rw [ovL_new hk hcs]; exact kk)
theorem jl_newa (k : Nat) (C : Cx p l s m meth c D cA b nL own mn cc ret hh) {atype : ArrayType} {t N : Nat} {i : Int32} {ty : FieldType} {a0 : vp_A} (hd : decode cc pc = .ok (.newarray atype, 2)) (ht : (g_ty cA)[t]? = some (cA t, ty)) (hty : newarray.typeOf atype = ty) (hra : ∀ cX, va_RA s cX ty = (s.vm.findClass ("[" ++ ty.toString) = some cX)) (hw : Cond.arrayClass ty ∈ g_ws) (hi : ¬ i < 0) (hN : i.toNatClampNeg = N) (hb : N * componentBytes ty ≤ 536870912) (ha : ∀ cX : ClassId, vp_cell cX (sa b a0) = arrV cX N (fun _ => defaultValue ty)) (hc1 : kc + 1 ≤ R.cells) (hc2 : ks + N ≤ R.slots) (hk : cs.length = k) (hcs : cs ++ [.inl (t, a0)] = cs') (kk : J p l e R s m args below meth c D cA b nL Q (a + (k + 1)) (ovL a cs' h) (kc + 1) (ks + N) (pc + 2) L (.ref (a + k) :: st)) : J p l e R s m args below meth c D cA b nL Q (a + k) (ovL a cs h) kc ks pc L (.int i :: st) :=
  j_newa C hd ht hty hra hw hi hN hb ha hc1 hc2 (by rw [ovL_new hk hcs]; exact kk)
theorem jl_anewa (k : Nat) (C : Cx p l s m meth c D cA b nL own mn cc ret hh) {index t N : Nat} {i : Int32} {Cl : String} (hd : decode cc pc = .ok (.anewarray index, 3)) (ht : (g_ty cA)[t]? = some (cA t, .object Cl)) (hw1 : Cond.classLink own index Cl ∈ g_ws) (hw2 : Cond.arrayOver (.object Cl) ∈ g_ws) (hi : ¬ i < 0) (hN : i.toNatClampNeg = N) (hb : N * 4 ≤ 536870912) (hc1 : kc + 1 ≤ R.cells) (hc2 : ks + N ≤ R.slots) (hk : cs.length = k) (hcs : cs ++ [.inl (t, N, .inr (.inr (.inr (.inr (fun _ => none)))))] = cs') (kk : J p l e R s m args below meth c D cA b nL Q (a + (k + 1)) (ovL a cs' h) (kc + 1) (ks + N) (pc + 3) L (.ref (a + k) :: st)) : J p l e R s m args below meth c D cA b nL Q (a + k) (ovL a cs h) kc ks pc L (.int i :: st) :=
  j_anewa C hd ht hw1 hw2 hi hN hb hc1 hc2 (by rw [ovL_new hk hcs]; exact kk)
end JL
/-! ===== the class's own cells at xo: numbers ξ, arrays β by cell, reports ρ, the two books at u and v ===== -/
/-! ===== the class's own cells at xo: numbers ξ, arrays β by cell, reports ρ, the two books at u and v: printed by program ===== -/
def xcs (xo : Nat) (ξ : Nat → Int32) (β : Nat → Nat → Int32) (ρ : Nat → Option Nat) (u v : Nat) : List AC := [.inr (0, [.ref (xo + 1), .int (ξ 0), .ref (xo + 2), .ref (xo + 3), .int (ξ 1), .ref (xo + 4), .int (ξ 2), .ref (xo + 5), .ref (xo + u), .ref (xo + v), .int (ξ 3), .ref (xo + 20), .ref (xo + 23), .ref (xo + 26)]),
  .inl (5, 30, .inr (.inr (.inr (.inr ρ)))),
  .inl (0, 5, .inl (β 2)),
  .inl (0, 20, .inl (β 3)),
  .inl (1, 300, .inl (β 4)),
  .inr (1, [.ref (xo + 4), .int (ξ 4), .int (ξ 5)]),
  .inr (2, [.int (ξ 6), .ref (xo + 7), .ref (xo + 8), .ref (xo + 9), .ref (xo + 10), .ref (xo + 11), .ref (xo + 12)]),
  .inl (3, 20, .inl (β 7)),
  .inl (0, 20, .inl (β 8)),
  .inl (0, 40, .inl (β 9)),
  .inl (0, 160, .inl (β 10)),
  .inl (0, 160, .inl (β 11)),
  .inl (2, 160, .inl (β 12)),
  .inr (2, [.int (ξ 7), .ref (xo + 14), .ref (xo + 15), .ref (xo + 16), .ref (xo + 17), .ref (xo + 18), .ref (xo + 19)]),
  .inl (3, 20, .inl (β 14)),
  .inl (0, 20, .inl (β 15)),
  .inl (0, 40, .inl (β 16)),
  .inl (0, 160, .inl (β 17)),
  .inl (0, 160, .inl (β 18)),
  .inl (2, 160, .inl (β 19)),
  .inr (3, [.ref (xo + 21), .ref (xo + 22), .int (ξ 8)]),
  .inl (0, 40, .inl (β 21)),
  .inl (0, 40, .inl (β 22)),
  .inr (3, [.ref (xo + 24), .ref (xo + 25), .int (ξ 9)]),
  .inl (0, 40, .inl (β 24)),
  .inl (0, 40, .inl (β 25)),
  .inr (4, [.ref (xo + 27), .int (ξ 10)]),
  .inl (1, 206, .inl (β 27))]
def ovX (xo : Nat) (ξ : Nat → Int32) (β : Nat → Nat → Int32) (ρ : Nat → Option Nat) (u v : Nat) (h : AH) : AH := ovL xo (xcs xo ξ β ρ u v) h
theorem xcs_l (xo : Nat) (ξ : Nat → Int32) (β : Nat → Nat → Int32) (ρ : Nat → Option Nat) (u v : Nat) : (xcs xo ξ β ρ u v).length = 28 := rfl
theorem ovX_c {xo : Nat} {ξ : Nat → Int32} {β : Nat → Nat → Int32} {ρ : Nat → Option Nat} {u v : Nat} {h : AH} {o : Nat} {x : AC} (hx : (xcs xo ξ β ρ u v)[o]? = some x) : ovX xo ξ β ρ u v h (xo + o) = x := ovL_c hx
theorem ovX_n {xo : Nat} {ξ : Nat → Int32} {β : Nat → Nat → Int32} {ρ : Nat → Option Nat} {u v : Nat} {h : AH} {j : Nat} (hj : j < xo ∨ xo + 28 ≤ j) : ovX xo ξ β ρ u v h j = h j := ovL_n hj
theorem ovX_out {xo : Nat} {ξ : Nat → Int32} {β : Nat → Nat → Int32} {ρ : Nat → Option Nat} {u v : Nat} {h : AH} {j : Nat} {x : AC} (hj : j < xo ∨ xo + 28 ≤ j) : hu (ovX xo ξ β ρ u v h) j x = ovX xo ξ β ρ u v (hu h j x) := ovL_out hj
theorem ovX_u {xo : Nat} {ξ ξ' : Nat → Int32} {β β' : Nat → Nat → Int32} {ρ ρ' : Nat → Option Nat} {u v u' v' : Nat} {h : AH} {o : Nat} {x : AC} (ho : o < 28) (hx : (xcs xo ξ β ρ u v).set o x = xcs xo ξ' β' ρ' u' v') : hu (ovX xo ξ β ρ u v h) (xo + o) x = ovX xo ξ' β' ρ' u' v' h := ovL_u (by rw [xcs_l]; exact ho) hx
theorem ovX_M {xo mo : Nat} {ξ : Nat → Int32} {β : Nat → Nat → Int32} {ρ : Nat → Option Nat} {u v : Nat} {σ : Nat → Int32} {α : Nat → Nat → Int32} {h : AH} (hd : xo + 28 ≤ mo) : ovX xo ξ β ρ u v (ovM mo σ α h) = ovM mo σ α (ovX xo ξ β ρ u v h) := by
  rw [ovM_L, ovM_L]
  exact ovL_ovL (Or.inl hd)
section JXO
variable {p : Program} {l : Launch} {e : Env} {R : Room} {s : State} {m : MethodId} {args : Array Value} {below : List Frame} {meth : Method} {c : Code} {D : va_G} {cA : Nat → ClassId} {b nL : Nat} {Q : State → Prop} {n : Nat} {h : AH} {kc ks pc : Nat} {L : List (Nat × Value)} {st : List Value} {own mn : String} {cc : ByteArray} {ret : Option FieldType} {hh : List (Nat × Nat × Nat × Nat)} {xo : Nat} {ξ ξ' : Nat → Int32} {β β' : Nat → Nat → Int32} {ρ ρ' : Nat → Option Nat} {u v u' v' : Nat}

theorem jx_get (o : Nat) (C : Cx p l s m meth c D cA b nL own mn cc ret hh) {index ci k : Nat} {fs : List Value} {w : Value} (hF : FL own index ci k) (hd : decode cc pc = .ok (.getfield index, 3)) (hn : xo + 28 ≤ n) (hx : (xcs xo ξ β ρ u v)[o]? = some (.inr (ci, fs))) (hv : fs[k]? = some w) (kk : J p l e R s m args below meth c D cA b nL Q n (ovX xo ξ β ρ u v h) kc ks (pc + 3) L (w :: st)) : J p l e R s m args below meth c D cA b nL Q n (ovX xo ξ β ρ u v h) kc ks pc L (.ref (xo + o) :: st) :=
  j_get C hF hd (by have z : o < 28 := (List.getElem?_eq_some_iff.mp hx).1; omega) (ovX_c hx) hv kk
theorem jx_put (o : Nat) (C : Cx p l s m meth c D cA b nL own mn cc ret hh) {index ci k : Nat} {ty : FieldType} {fs : List Value} {w : Value} (hF : FP own index ci k false ty) (hd : decode cc pc = .ok (.putfield index, 3)) (hn : xo + 28 ≤ n) (hx : (xcs xo ξ β ρ u v)[o]? = some (.inr (ci, fs))) (hl : k < fs.length) (hnr : narrow ty w = w) (hf : fits ty w = true) (hcs : (xcs xo ξ β ρ u v).set o (.inr (ci, fs.set k w)) = xcs xo ξ' β' ρ' u' v') (kk : J p l e R s m args below meth c D cA b nL Q n (ovX xo ξ' β' ρ' u' v' h) kc ks (pc + 3) L st) : J p l e R s m args below meth c D cA b nL Q n (ovX xo ξ β ρ u v h) kc ks pc L (w :: .ref (xo + o) :: st) := by
  have ho : o < 28 := (List.getElem?_eq_some_iff.mp hx).1
  exact j_put C hF hd (by omega) (ovX_c hx) hl hnr hf rfl (by rw [ovX_u ho hcs]; exact kk)
theorem jx_puti (o z : Nat) (C : Cx p l s m meth c D cA b nL own mn cc ret hh) {index ci k : Nat} {ty : FieldType} {fs : List Value} {x : Int32} (hF : FP own index ci k false ty) (hd : decode cc pc = .ok (.putfield index, 3)) (hn : xo + 28 ≤ n) (hx : (xcs xo ξ β ρ u v)[o]? = some (.inr (ci, fs))) (hl : k < fs.length) (hnr : narrow ty (.int x) = .int x) (hf : fits ty (.int x) = true) (hcs : (xcs xo ξ β ρ u v).set o (.inr (ci, fs.set k (.int x))) = xcs xo (upd ξ z x) β ρ u v) (kk : J p l e R s m args below meth c D cA b nL Q n (ovX xo (upd ξ z x) β ρ u v h) kc ks (pc + 3) L st) : J p l e R s m args below meth c D cA b nL Q n (ovX xo ξ β ρ u v h) kc ks pc L (.int x :: .ref (xo + o) :: st) :=
  jx_put o C hF hd hn hx hl hnr hf hcs kk
theorem jx_iald (o : Nat) (C : Cx p l s m meth c D cA b nL own mn cc ret hh) {N : Nat} {f : Nat → Int32} {i w : Int32} (hd : decode cc pc = .ok (.iaload, 1)) (hn : xo + 28 ≤ n) (hx : (xcs xo ξ β ρ u v)[o]? = some (.inl (0, N, .inl f))) (hi : vp_in i N) (hv : f i.toNatClampNeg = w) (kk : J p l e R s m args below meth c D cA b nL Q n (ovX xo ξ β ρ u v h) kc ks (pc + 1) L (.int w :: st)) : J p l e R s m args below meth c D cA b nL Q n (ovX xo ξ β ρ u v h) kc ks pc L (.int i :: .ref (xo + o) :: st) :=
  j_iald C hd rfl (by have z : o < 28 := (List.getElem?_eq_some_iff.mp hx).1; omega) (ovX_c hx) hi hv kk
theorem jx_bald (o : Nat) (C : Cx p l s m meth c D cA b nL own mn cc ret hh) {N : Nat} {f : Nat → Int32} {i w : Int32} (hd : decode cc pc = .ok (.baload, 1)) (hn : xo + 28 ≤ n) (hx : (xcs xo ξ β ρ u v)[o]? = some (.inl (1, N, .inl f))) (hi : vp_in i N) (hv : f i.toNatClampNeg = w) (kk : J p l e R s m args below meth c D cA b nL Q n (ovX xo ξ β ρ u v h) kc ks (pc + 1) L (.int w :: st)) : J p l e R s m args below meth c D cA b nL Q n (ovX xo ξ β ρ u v h) kc ks pc L (.int i :: .ref (xo + o) :: st) :=
  j_bald C hd rfl (by have z : o < 28 := (List.getElem?_eq_some_iff.mp hx).1; omega) (ovX_c hx) hi hv kk
theorem jx_zald (o : Nat) (C : Cx p l s m meth c D cA b nL own mn cc ret hh) {N : Nat} {f : Nat → Int32} {i w : Int32} (hd : decode cc pc = .ok (.baload, 1)) (hn : xo + 28 ≤ n) (hx : (xcs xo ξ β ρ u v)[o]? = some (.inl (2, N, .inl f))) (hi : vp_in i N) (hv : f i.toNatClampNeg = w) (kk : J p l e R s m args below meth c D cA b nL Q n (ovX xo ξ β ρ u v h) kc ks (pc + 1) L (.int w :: st)) : J p l e R s m args below meth c D cA b nL Q n (ovX xo ξ β ρ u v h) kc ks pc L (.int i :: .ref (xo + o) :: st) :=
  j_zald C hd rfl (by have z : o < 28 := (List.getElem?_eq_some_iff.mp hx).1; omega) (ovX_c hx) hi hv kk
theorem jx_cald (o : Nat) (C : Cx p l s m meth c D cA b nL own mn cc ret hh) {N : Nat} {f : Nat → Int32} {i w : Int32} (hd : decode cc pc = .ok (.caload, 1)) (hn : xo + 28 ≤ n) (hx : (xcs xo ξ β ρ u v)[o]? = some (.inl (3, N, .inl f))) (hi : vp_in i N) (hv : f i.toNatClampNeg = w) (kk : J p l e R s m args below meth c D cA b nL Q n (ovX xo ξ β ρ u v h) kc ks (pc + 1) L (.int w :: st)) : J p l e R s m args below meth c D cA b nL Q n (ovX xo ξ β ρ u v h) kc ks pc L (.int i :: .ref (xo + o) :: st) :=
  j_cald C hd rfl (by have z : o < 28 := (List.getElem?_eq_some_iff.mp hx).1; omega) (ovX_c hx) hi hv kk
theorem jx_iast (o : Nat) (C : Cx p l s m meth c D cA b nL own mn cc ret hh) {N : Nat} {i x : Int32} (hd : decode cc pc = .ok (.iastore, 1)) (hn : xo + 28 ≤ n) (hx : (xcs xo ξ β ρ u v)[o]? = some (.inl (0, N, .inl (β o)))) (hi : vp_in i N) (hcs : (xcs xo ξ β ρ u v).set o (.inl (0, N, .inl (upd (β o) i.toNatClampNeg x))) = xcs xo ξ (upa β o (upd (β o) i.toNatClampNeg x)) ρ u v) (kk : J p l e R s m args below meth c D cA b nL Q n (ovX xo ξ (upa β o (upd (β o) i.toNatClampNeg x)) ρ u v h) kc ks (pc + 1) L st) : J p l e R s m args below meth c D cA b nL Q n (ovX xo ξ β ρ u v h) kc ks pc L (.int x :: .int i :: .ref (xo + o) :: st) := by
  have ho : o < 28 := (List.getElem?_eq_some_iff.mp hx).1
  exact j_iast C hd rfl (by omega) (ovX_c hx) hi rfl (by rw [ovX_u ho hcs]; exact kk)
theorem jx_bast (o : Nat) (C : Cx p l s m meth c D cA b nL own mn cc ret hh) {N : Nat} {i x : Int32} (hd : decode cc pc = .ok (.bastore, 1)) (hn : xo + 28 ≤ n) (hx : (xcs xo ξ β ρ u v)[o]? = some (.inl (1, N, .inl (β o)))) (hi : vp_in i N) (hcs : (xcs xo ξ β ρ u v).set o (.inl (1, N, .inl (upd (β o) i.toNatClampNeg (vp_nar .byte x)))) = xcs xo ξ (upa β o (upd (β o) i.toNatClampNeg (vp_nar .byte x))) ρ u v) (kk : J p l e R s m args below meth c D cA b nL Q n (ovX xo ξ (upa β o (upd (β o) i.toNatClampNeg (vp_nar .byte x))) ρ u v h) kc ks (pc + 1) L st) : J p l e R s m args below meth c D cA b nL Q n (ovX xo ξ β ρ u v h) kc ks pc L (.int x :: .int i :: .ref (xo + o) :: st) := by
  have ho : o < 28 := (List.getElem?_eq_some_iff.mp hx).1
  exact j_bast C hd rfl (by omega) (ovX_c hx) hi rfl (by rw [ovX_u ho hcs]; exact kk)
theorem jx_zast (o : Nat) (C : Cx p l s m meth c D cA b nL own mn cc ret hh) {N : Nat} {i x : Int32} (hd : decode cc pc = .ok (.bastore, 1)) (hn : xo + 28 ≤ n) (hx : (xcs xo ξ β ρ u v)[o]? = some (.inl (2, N, .inl (β o)))) (hi : vp_in i N) (hcs : (xcs xo ξ β ρ u v).set o (.inl (2, N, .inl (upd (β o) i.toNatClampNeg (vp_nar .boolean x)))) = xcs xo ξ (upa β o (upd (β o) i.toNatClampNeg (vp_nar .boolean x))) ρ u v) (kk : J p l e R s m args below meth c D cA b nL Q n (ovX xo ξ (upa β o (upd (β o) i.toNatClampNeg (vp_nar .boolean x))) ρ u v h) kc ks (pc + 1) L st) : J p l e R s m args below meth c D cA b nL Q n (ovX xo ξ β ρ u v h) kc ks pc L (.int x :: .int i :: .ref (xo + o) :: st) := by
  have ho : o < 28 := (List.getElem?_eq_some_iff.mp hx).1
  exact j_zast C hd rfl (by omega) (ovX_c hx) hi rfl (by rw [ovX_u ho hcs]; exact kk)
theorem jx_cast (o : Nat) (C : Cx p l s m meth c D cA b nL own mn cc ret hh) {N : Nat} {i x : Int32} (hd : decode cc pc = .ok (.castore, 1)) (hn : xo + 28 ≤ n) (hx : (xcs xo ξ β ρ u v)[o]? = some (.inl (3, N, .inl (β o)))) (hi : vp_in i N) (hcs : (xcs xo ξ β ρ u v).set o (.inl (3, N, .inl (upd (β o) i.toNatClampNeg (vp_nar .char x)))) = xcs xo ξ (upa β o (upd (β o) i.toNatClampNeg (vp_nar .char x))) ρ u v) (kk : J p l e R s m args below meth c D cA b nL Q n (ovX xo ξ (upa β o (upd (β o) i.toNatClampNeg (vp_nar .char x))) ρ u v h) kc ks (pc + 1) L st) : J p l e R s m args below meth c D cA b nL Q n (ovX xo ξ β ρ u v h) kc ks pc L (.int x :: .int i :: .ref (xo + o) :: st) := by
  have ho : o < 28 := (List.getElem?_eq_some_iff.mp hx).1
  exact j_cast C hd rfl (by omega) (ovX_c hx) hi rfl (by rw [ovX_u ho hcs]; exact kk)
theorem jx_alen (o : Nat) (C : Cx p l s m meth c D cA b nL own mn cc ret hh) {t : Nat} {x : vp_A} {ty : FieldType} {w : Int32} (hd : decode cc pc = .ok (.arraylength, 1)) (ht : (g_ty cA)[t]? = some (cA t, ty)) (hn : xo + 28 ≤ n) (hx : (xcs xo ξ β ρ u v)[o]? = some (.inl (t, x))) (hv : Int32.ofNat x.1 = w) (kk : J p l e R s m args below meth c D cA b nL Q n (ovX xo ξ β ρ u v h) kc ks (pc + 1) L (.int w :: st)) : J p l e R s m args below meth c D cA b nL Q n (ovX xo ξ β ρ u v h) kc ks pc L (.ref (xo + o) :: st) :=
  j_alen C hd ht (by have z : o < 28 := (List.getElem?_eq_some_iff.mp hx).1; omega) (ovX_c hx) hv kk
theorem jx_aald (C : Cx p l s m meth c D cA b nL own mn cc ret hh) {i : Int32} {w : Value} (hd : decode cc pc = .ok (.aaload, 1)) (hn : xo + 28 ≤ n) (hi : vp_in i 30) (hv : va_rf (ρ i.toNatClampNeg) = w) (kk : J p l e R s m args below meth c D cA b nL Q n (ovX xo ξ β ρ u v h) kc ks (pc + 1) L (w :: st)) : J p l e R s m args below meth c D cA b nL Q n (ovX xo ξ β ρ u v h) kc ks pc L (.int i :: .ref (xo + 1) :: st) :=
  j_aald C hd rfl (by omega) (ovX_c (o := 1) rfl) hi hv kk
theorem jx_aast (C : Cx p l s m meth c D cA b nL own mn cc ret hh) {i : Int32} {w ci : Nat} {fs : List Value} {T0 : u_T} {N0 : Nat} (hd : decode cc pc = .ok (.aastore, 1)) (hn : xo + 28 ≤ n) (hw : xo + 28 ≤ w) (hwn : w < n) (hy : h w = .inr (ci, fs)) (hc : g_cl[ci]? = some ("ReportChecks2$Report", T0, N0)) (hi : vp_in i 30) (kk : J p l e R s m args below meth c D cA b nL Q n (ovX xo ξ β (va_up ρ i.toNatClampNeg (some w)) u v h) kc ks (pc + 1) L st) : J p l e R s m args below meth c D cA b nL Q n (ovX xo ξ β ρ u v h) kc ks pc L (.ref w :: .int i :: .ref (xo + 1) :: st) :=
  j_aast C hd rfl (by omega) (ovX_c (o := 1) rfl) hwn ((ovX_n (Or.inr hw)).trans hy) hc hi rfl (by
    have e9 : hu (ovX xo ξ β ρ u v h) (xo + 1) (.inl (5, 30, .inr (.inr (.inr (.inr (va_up ρ i.toNatClampNeg (some w))))))) = ovX xo ξ β (va_up ρ i.toNatClampNeg (some w)) u v h := ovX_u (by decide) rfl
    rw [e9]
    exact kk)
end JXO
