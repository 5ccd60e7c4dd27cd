/-! ===== contracts of the reference: has, of, wanting, reportAt ===== -/
theorem rep_ofN {x t : Int32} {nr N : Nat} (hnr : t = nI nr) (hle : nr ≤ N) (hN : N < 2 ^ 31) (h : ¬ inI x 0 (t - 1) = 0) : ∃ j : Nat, j < nr ∧ x = nI j := by
  subst hnr
  cases nr with
  | zero =>
    exfalso
    apply h
    unfold inI
    by_cases h1 : x < 0
    · rw [if_pos h1]
    · rw [if_neg h1, if_pos]
      exact Int32.lt_of_lt_of_le (by decide : nI 0 - 1 < (0 : Int32)) (Int32.not_lt.mp h1)
  | succ k =>
    rw [nI_pred] at h
    obtain ⟨j, hj, e⟩ := in_of (by omega) h
    exact ⟨j, by omega, e⟩
theorem ix_w {x t : Int32} {nr N : Nat} (hnr : t = nI nr) (hle : nr ≤ N) (hN : N < 2 ^ 31) (h : ¬ inI x 0 (t - 1) = 0) : vp_in x N := by
  obtain ⟨j, hj, rfl⟩ := rep_ofN hnr hle hN h
  exact vp_in_nI (by omega) hN
theorem ix_by {t r : Int32} {nr : Nat} {g : Nat → Int32} (hnr : t = nI nr) (hle : nr ≤ 30) (hsg : ∀ j, j < 30 → ∃ k, k ≤ 3 ∧ g j = nI k) (hr : ¬ inI r 0 (t - 1) = 0) (h0 : ¬ g r.toNatClampNeg = 0) : vp_in (3 * r + g r.toNatClampNeg - 1) 90 := by
  obtain ⟨a, ha, rfl⟩ := rep_of hnr hle hr
  rw [nI_clamp (by omega)] at h0 ⊢
  obtain ⟨k, hk, e⟩ := hsg a (by omega)
  rw [e] at h0 ⊢
  cases k with
  | zero => exact absurd rfl h0
  | succ k =>
    have e1 : (3 : Int32) * nI a + nI (k + 1) - 1 = nI (3 * a + k) := by
      rw [show (3 : Int32) = nI 3 from rfl, pk_mul, nI_add, ← Nat.add_assoc, nI_pred]
    rw [e1]
    exact vp_in_nI (by omega) (by omega)
def mhas (α : Nat → Nat → Int32) (r f : Int32) : Int32 := if 0 ≤ f then 1 else if α 10 (20 * r - 1 - f).toNatClampNeg = 0 then 0 else 1
def mof (α : Nat → Nat → Int32) (r f : Int32) : Int32 := if f < 0 then α 13 (20 * r - 1 - f).toNatClampNeg else f
def mreportAt (σ : Nat → Int32) (α : Nat → Nat → Int32) (r w : Int32) : Int32 × (Nat → Int32) :=
  let j := r.toNatClampNeg
  if kn2 (inI r 0 (σ 2 - 1)) (inI w 0 7) = 0 then (0, upd σ 0 1) else
  (if w = 4 then (if α 8 j = 0 then -1 else α 9 (3 * r + α 8 j - 1).toNatClampNeg) else if w = 0 then α 3 j else if w = 1 then α 4 j else if w = 2 then α 5 j else if w = 3 then α 8 j else if w = 5 then α 6 j else if w = 6 then opn (α 12) (20 * j) 20 0 0 else α 7 j, upd σ 0 0)
set_option maxHeartbeats 4000000 in
set_option maxRecDepth 100000 in
theorem c_M_has {l : Launch} (hl : l.stackTraces = false) {D : va_G} {cA : Nat → ClassId} {b n mo : Nat} (r f : Int32) (σ : Nat → Int32) (α : Nat → Nat → Int32) (h : AH) (hmo : mo + 27 < n) (hin : ¬ 0 ≤ f → vp_in (20 * r - 1 - f) 600) : Cn l D cA b y_M_has k_M_has 0 0 0 0 [.ref mo, .int r, .int f] n (ovM mo σ α h) (Re (some (.int (mhas α r f))) n (ovM mo σ α h)) := by
  refine Cn.of (cc := b_M_has) (maxL := 3) (ret := (some .boolean)) (hh := []) (by decide +kernel) hl (Or.inl ⟨rfl, rfl⟩) (Nat.le_of_ble_eq_true rfl) ?_
  intro p e s m args below meth c C
  refine j_iload_n C d_M_has_0 rfl rfl ?_
  refine j_if_ge (tgt := 20) C d_M_has_1 (by decide) (fun c1 => ?_) (fun c1 => ?_)
  · refine j_iconst (v := 1) C d_M_has_20 (by decide) ?_
    refine j_goto (tgt := 25) C d_M_has_21 (by decide) ?_
    exact j_zreturn C d_M_has_25 rfl (by decide) (by decide) (by decide) ⟨by simp [mhas, c1], rfl, rfl⟩
  · refine j_aload_n C d_M_has_4 rfl rfl ?_
    refine jm_get C fl_6_31 d_M_has_5 hmo rfl ?_
    refine j_bipush (v := 20) C d_M_has_8 (by decide) ?_
    refine j_iload_n C d_M_has_10 rfl rfl ?_
    refine j_imul C d_M_has_11 ?_
    refine j_iconst (v := 1) C d_M_has_12 (by decide) ?_
    refine j_isub C d_M_has_13 ?_
    refine j_iload_n C d_M_has_14 rfl rfl ?_
    refine j_isub C d_M_has_15 ?_
    refine jm_zald C 7 d_M_has_16 (by decide) rfl hmo (hin c1) rfl ?_
    refine j_if_eq (tgt := 24) C d_M_has_17 (by decide) (fun c17 => ?_) (fun c17 => ?_)
    · refine j_iconst (v := 0) C d_M_has_24 (by decide) ?_
      exact j_zreturn C d_M_has_25 rfl (by decide) (by decide) (by decide) ⟨by simp [mhas, c1, c17], rfl, rfl⟩
    · refine j_iconst (v := 1) C d_M_has_20 (by decide) ?_
      refine j_goto (tgt := 25) C d_M_has_21 (by decide) ?_
      exact j_zreturn C d_M_has_25 rfl (by decide) (by decide) (by decide) ⟨by simp [mhas, c1, c17], rfl, rfl⟩

set_option maxHeartbeats 4000000 in
set_option maxRecDepth 100000 in
theorem c_M_of {l : Launch} (hl : l.stackTraces = false) {D : va_G} {cA : Nat → ClassId} {b n mo : Nat} (r f : Int32) (σ : Nat → Int32) (α : Nat → Nat → Int32) (h : AH) (hmo : mo + 27 < n) (hin : f < 0 → vp_in (20 * r - 1 - f) 600) : Cn l D cA b y_M_of k_M_of 0 0 0 0 [.ref mo, .int r, .int f] n (ovM mo σ α h) (Re (some (.int (mof α r f))) n (ovM mo σ α h)) := by
  refine Cn.of (cc := b_M_of) (maxL := 3) (ret := (some .int)) (hh := []) (by decide +kernel) hl (Or.inl ⟨rfl, rfl⟩) (Nat.le_of_ble_eq_true rfl) ?_
  intro p e s m args below meth c C
  refine j_iload_n C d_M_of_0 rfl rfl ?_
  refine j_if_lt (tgt := 8) C d_M_of_1 (by decide) (fun c1 => ?_) (fun c1 => ?_)
  · refine j_aload_n C d_M_of_8 rfl rfl ?_
    refine jm_get C fl_6_41 d_M_of_9 hmo rfl ?_
    refine j_bipush (v := 20) C d_M_of_12 (by decide) ?_
    refine j_iload_n C d_M_of_14 rfl rfl ?_
    refine j_imul C d_M_of_15 ?_
    refine j_iconst (v := 1) C d_M_of_16 (by decide) ?_
    refine j_isub C d_M_of_17 ?_
    refine j_iload_n C d_M_of_18 rfl rfl ?_
    refine j_isub C d_M_of_19 ?_
    refine jm_iald C 10 d_M_of_20 (by decide) rfl hmo (hin c1) rfl ?_
    exact j_ireturn C d_M_of_21 rfl (by decide) (by decide) ⟨by simp [mof, c1], rfl, rfl⟩
  · refine j_iload_n C d_M_of_4 rfl rfl ?_
    refine j_goto (tgt := 21) C d_M_of_5 (by decide) ?_
    exact j_ireturn C d_M_of_21 rfl (by decide) (by decide) ⟨by simp [mof, c1], rfl, rfl⟩

set_option maxHeartbeats 4000000 in
set_option maxRecDepth 100000 in
theorem c_M_wanting {l : Launch} (hl : l.stackTraces = false) {D : va_G} {cA : Nat → ClassId} {b n mo : Nat} (i w : Int32) (σ : Nat → Int32) (α : Nat → Nat → Int32) (h : AH) (hmo : mo + 27 < n) (nw : Nat) (hnw : σ 34 = nI nw) (hlw : nw ≤ 40) : Cn l D cA b y_M_wanting k_M_wanting 1 15 0 0 [.ref mo, .int i, .int w] n (ovM mo σ α h) (Re (some (.int (mwanting σ α i w).1)) n (ovM mo (mwanting σ α i w).2 α h)) := by
  refine Cn.of (cc := b_M_wanting) (maxL := 3) (ret := (some .int)) (hh := []) (by decide +kernel) hl (Or.inl ⟨rfl, rfl⟩) (Nat.le_of_ble_eq_true rfl) ?_
  intro p e s m args below meth c C
  refine j_aload_n C d_M_wanting_0 rfl rfl ?_
  refine j_iload_n C d_M_wanting_1 rfl rfl ?_
  refine j_iconst (v := 0) C d_M_wanting_2 (by decide) ?_
  refine j_aload_n C d_M_wanting_3 rfl rfl ?_
  refine jm_get C fl_6_187 d_M_wanting_4 hmo rfl ?_
  refine j_iconst (v := 1) C d_M_wanting_7 (by decide) ?_
  refine j_isub C d_M_wanting_8 ?_
  refine j_callS C d_M_wanting_9 ml_M_102 mc_M_in st_M_in (c_M_in hl _ _ _ _) rfl rfl (Nat.le_of_ble_eq_true rfl) (Nat.le_of_ble_eq_true rfl) (Nat.le_of_ble_eq_true rfl) (Nat.le_of_ble_eq_true rfl) (jk_r ?_)
  refine j_if_eq (tgt := 28) C d_M_wanting_12 (by decide) (fun c12 => ?_) (fun c12 => ?_)
  · refine j_iconst (v := 0) C d_M_wanting_28 (by decide) ?_
    refine j_iconst (v := 1) C d_M_wanting_29 (by decide) ?_
    refine j_iconst (v := 1) C d_M_wanting_30 (by decide) ?_
    refine j_callV C d_M_wanting_31 ml_M_109 mc_M_goes in_M_goes rfl se_M_goes (by omega) (ovM_o _ _ _ _) (c_M_goes hl _ _ _ _ _ _ hmo) rfl rfl (Nat.le_of_ble_eq_true rfl) (Nat.le_of_ble_eq_true rfl) (Nat.le_of_ble_eq_true rfl) (Nat.le_of_ble_eq_true rfl) (jk_r ?_)
    refine j_if_ne (tgt := 39) C d_M_wanting_34 (by decide) (fun c34 => ?_) (fun c34 => ?_)
    · refine j_iload_n C d_M_wanting_39 rfl rfl ?_
      refine j_if_ne (tgt := 52) C d_M_wanting_40 (by decide) (fun c40 => ?_) (fun c40 => ?_)
      · refine j_aload_n C d_M_wanting_52 rfl rfl ?_
        refine jm_get C fl_6_90 d_M_wanting_53 hmo rfl ?_
        refine j_iload_n C d_M_wanting_56 rfl rfl ?_
        refine jm_iald C 25 d_M_wanting_57 (by decide) rfl hmo (by first | exact ix_w hnw hlw (by omega) c12 | exact absurd rfl (gs_ok c34).1) rfl ?_
        exact j_ireturn C d_M_wanting_58 rfl (by decide) (by decide) ⟨by first | (simp [mwanting, mkn, kn2, nar1, nar0, pk_un, upa_n, c12, c34, c40]; done) | (simp [mwanting, mkn, kn2, gsI, bz, nar1, nar0, pk_un, upa_n, c12, c34, c40]; done) | exact absurd c34 (by decide) | exact absurd rfl (gs_ok c34).1 | exact absurd rfl (gs_ok c34).2.1 | exact absurd rfl (gs_ok c34).2.2 | (unfold mwanting kn2; rw [if_neg c12, if_neg c21, if_neg (by decide)]; first | rfl | (simp [c40]; done)), rfl, by first | (simp [mwanting, mkn, kn2, nar1, nar0, pk_un, upa_n, c12, c34, c40]; done) | (simp [mwanting, mkn, kn2, gsI, bz, nar1, nar0, pk_un, upa_n, c12, c34, c40]; done) | exact absurd c34 (by decide) | exact absurd rfl (gs_ok c34).1 | exact absurd rfl (gs_ok c34).2.1 | exact absurd rfl (gs_ok c34).2.2 | (unfold mwanting kn2; rw [if_neg c12, if_neg c21, if_neg (by decide)]; first | rfl | (simp [c40]; done))⟩
      · refine j_aload_n C d_M_wanting_43 rfl rfl ?_
        refine jm_get C fl_6_87 d_M_wanting_44 hmo rfl ?_
        refine j_iload_n C d_M_wanting_47 rfl rfl ?_
        refine jm_iald C 24 d_M_wanting_48 (by decide) rfl hmo (by first | exact ix_w hnw hlw (by omega) c12 | exact absurd rfl (gs_ok c34).1) rfl ?_
        refine j_goto (tgt := 58) C d_M_wanting_49 (by decide) ?_
        exact j_ireturn C d_M_wanting_58 rfl (by decide) (by decide) ⟨by first | (simp [mwanting, mkn, kn2, nar1, nar0, pk_un, upa_n, c12, c34, c40]; done) | (simp [mwanting, mkn, kn2, gsI, bz, nar1, nar0, pk_un, upa_n, c12, c34, c40]; done) | exact absurd c34 (by decide) | exact absurd rfl (gs_ok c34).1 | exact absurd rfl (gs_ok c34).2.1 | exact absurd rfl (gs_ok c34).2.2 | (unfold mwanting kn2; rw [if_neg c12, if_neg c21, if_neg (by decide)]; first | rfl | (simp [c40]; done)), rfl, by first | (simp [mwanting, mkn, kn2, nar1, nar0, pk_un, upa_n, c12, c34, c40]; done) | (simp [mwanting, mkn, kn2, gsI, bz, nar1, nar0, pk_un, upa_n, c12, c34, c40]; done) | exact absurd c34 (by decide) | exact absurd rfl (gs_ok c34).1 | exact absurd rfl (gs_ok c34).2.1 | exact absurd rfl (gs_ok c34).2.2 | (unfold mwanting kn2; rw [if_neg c12, if_neg c21, if_neg (by decide)]; first | rfl | (simp [c40]; done))⟩
    · refine j_iconst (v := 0) C d_M_wanting_37 (by decide) ?_
      exact j_ireturn C d_M_wanting_38 rfl (by decide) (by decide) ⟨by first | (simp [mwanting, mkn, kn2, nar1, nar0, pk_un, upa_n, c12, c34]; done) | (simp [mwanting, mkn, kn2, gsI, bz, nar1, nar0, pk_un, upa_n, c12, c34]; done) | exact absurd c34 (by decide) | exact absurd rfl (gs_ok c34).1 | exact absurd rfl (gs_ok c34).2.1 | exact absurd rfl (gs_ok c34).2.2 | (unfold mwanting kn2; rw [if_neg c12, if_neg c21, if_neg (by decide)]; first | rfl | (simp [c40]; done)), rfl, by first | (simp [mwanting, mkn, kn2, nar1, nar0, pk_un, upa_n, c12, c34]; done) | (simp [mwanting, mkn, kn2, gsI, bz, nar1, nar0, pk_un, upa_n, c12, c34]; done) | exact absurd c34 (by decide) | exact absurd rfl (gs_ok c34).1 | exact absurd rfl (gs_ok c34).2.1 | exact absurd rfl (gs_ok c34).2.2 | (unfold mwanting kn2; rw [if_neg c12, if_neg c21, if_neg (by decide)]; first | rfl | (simp [c40]; done))⟩
  · refine j_iload_n C d_M_wanting_15 rfl rfl ?_
    refine j_iconst (v := 0) C d_M_wanting_16 (by decide) ?_
    refine j_iconst (v := 1) C d_M_wanting_17 (by decide) ?_
    refine j_callS C d_M_wanting_18 ml_M_102 mc_M_in st_M_in (c_M_in hl _ _ _ _) rfl rfl (Nat.le_of_ble_eq_true rfl) (Nat.le_of_ble_eq_true rfl) (Nat.le_of_ble_eq_true rfl) (Nat.le_of_ble_eq_true rfl) (jk_r ?_)
    refine j_if_eq (tgt := 28) C d_M_wanting_21 (by decide) (fun c21 => ?_) (fun c21 => ?_)
    · refine j_iconst (v := 0) C d_M_wanting_28 (by decide) ?_
      refine j_iconst (v := 1) C d_M_wanting_29 (by decide) ?_
      refine j_iconst (v := 1) C d_M_wanting_30 (by decide) ?_
      refine j_callV C d_M_wanting_31 ml_M_109 mc_M_goes in_M_goes rfl se_M_goes (by omega) (ovM_o _ _ _ _) (c_M_goes hl _ _ _ _ _ _ hmo) rfl rfl (Nat.le_of_ble_eq_true rfl) (Nat.le_of_ble_eq_true rfl) (Nat.le_of_ble_eq_true rfl) (Nat.le_of_ble_eq_true rfl) (jk_r ?_)
      refine j_if_ne (tgt := 39) C d_M_wanting_34 (by decide) (fun c34 => ?_) (fun c34 => ?_)
      · refine j_iload_n C d_M_wanting_39 rfl rfl ?_
        refine j_if_ne (tgt := 52) C d_M_wanting_40 (by decide) (fun c40 => ?_) (fun c40 => ?_)
        · refine j_aload_n C d_M_wanting_52 rfl rfl ?_
          refine jm_get C fl_6_90 d_M_wanting_53 hmo rfl ?_
          refine j_iload_n C d_M_wanting_56 rfl rfl ?_
          refine jm_iald C 25 d_M_wanting_57 (by decide) rfl hmo (by first | exact ix_w hnw hlw (by omega) c12 | exact absurd rfl (gs_ok c34).1) rfl ?_
          exact j_ireturn C d_M_wanting_58 rfl (by decide) (by decide) ⟨by first | (simp [mwanting, mkn, kn2, nar1, nar0, pk_un, upa_n, c12, c21, c34, c40]; done) | (simp [mwanting, mkn, kn2, gsI, bz, nar1, nar0, pk_un, upa_n, c12, c21, c34, c40]; done) | exact absurd c34 (by decide) | exact absurd rfl (gs_ok c34).1 | exact absurd rfl (gs_ok c34).2.1 | exact absurd rfl (gs_ok c34).2.2 | (unfold mwanting kn2; rw [if_neg c12, if_neg c21, if_neg (by decide)]; first | rfl | (simp [c40]; done)), rfl, by first | (simp [mwanting, mkn, kn2, nar1, nar0, pk_un, upa_n, c12, c21, c34, c40]; done) | (simp [mwanting, mkn, kn2, gsI, bz, nar1, nar0, pk_un, upa_n, c12, c21, c34, c40]; done) | exact absurd c34 (by decide) | exact absurd rfl (gs_ok c34).1 | exact absurd rfl (gs_ok c34).2.1 | exact absurd rfl (gs_ok c34).2.2 | (unfold mwanting kn2; rw [if_neg c12, if_neg c21, if_neg (by decide)]; first | rfl | (simp [c40]; done))⟩
        · refine j_aload_n C d_M_wanting_43 rfl rfl ?_
          refine jm_get C fl_6_87 d_M_wanting_44 hmo rfl ?_
          refine j_iload_n C d_M_wanting_47 rfl rfl ?_
          refine jm_iald C 24 d_M_wanting_48 (by decide) rfl hmo (by first | exact ix_w hnw hlw (by omega) c12 | exact absurd rfl (gs_ok c34).1) rfl ?_
          refine j_goto (tgt := 58) C d_M_wanting_49 (by decide) ?_
          exact j_ireturn C d_M_wanting_58 rfl (by decide) (by decide) ⟨by first | (simp [mwanting, mkn, kn2, nar1, nar0, pk_un, upa_n, c12, c21, c34, c40]; done) | (simp [mwanting, mkn, kn2, gsI, bz, nar1, nar0, pk_un, upa_n, c12, c21, c34, c40]; done) | exact absurd c34 (by decide) | exact absurd rfl (gs_ok c34).1 | exact absurd rfl (gs_ok c34).2.1 | exact absurd rfl (gs_ok c34).2.2 | (unfold mwanting kn2; rw [if_neg c12, if_neg c21, if_neg (by decide)]; first | rfl | (simp [c40]; done)), rfl, by first | (simp [mwanting, mkn, kn2, nar1, nar0, pk_un, upa_n, c12, c21, c34, c40]; done) | (simp [mwanting, mkn, kn2, gsI, bz, nar1, nar0, pk_un, upa_n, c12, c21, c34, c40]; done) | exact absurd c34 (by decide) | exact absurd rfl (gs_ok c34).1 | exact absurd rfl (gs_ok c34).2.1 | exact absurd rfl (gs_ok c34).2.2 | (unfold mwanting kn2; rw [if_neg c12, if_neg c21, if_neg (by decide)]; first | rfl | (simp [c40]; done))⟩
      · refine j_iconst (v := 0) C d_M_wanting_37 (by decide) ?_
        exact j_ireturn C d_M_wanting_38 rfl (by decide) (by decide) ⟨by first | (simp [mwanting, mkn, kn2, nar1, nar0, pk_un, upa_n, c12, c21, c34]; done) | (simp [mwanting, mkn, kn2, gsI, bz, nar1, nar0, pk_un, upa_n, c12, c21, c34]; done) | exact absurd c34 (by decide) | exact absurd rfl (gs_ok c34).1 | exact absurd rfl (gs_ok c34).2.1 | exact absurd rfl (gs_ok c34).2.2 | (unfold mwanting kn2; rw [if_neg c12, if_neg c21, if_neg (by decide)]; first | rfl | (simp [c40]; done)), rfl, by first | (simp [mwanting, mkn, kn2, nar1, nar0, pk_un, upa_n, c12, c21, c34]; done) | (simp [mwanting, mkn, kn2, gsI, bz, nar1, nar0, pk_un, upa_n, c12, c21, c34]; done) | exact absurd c34 (by decide) | exact absurd rfl (gs_ok c34).1 | exact absurd rfl (gs_ok c34).2.1 | exact absurd rfl (gs_ok c34).2.2 | (unfold mwanting kn2; rw [if_neg c12, if_neg c21, if_neg (by decide)]; first | rfl | (simp [c40]; done))⟩
    · refine j_iconst (v := 1) C d_M_wanting_24 (by decide) ?_
      refine j_goto (tgt := 29) C d_M_wanting_25 (by decide) ?_
      refine j_iconst (v := 1) C d_M_wanting_29 (by decide) ?_
      refine j_iconst (v := 1) C d_M_wanting_30 (by decide) ?_
      refine j_callV C d_M_wanting_31 ml_M_109 mc_M_goes in_M_goes rfl se_M_goes (by omega) (ovM_o _ _ _ _) (c_M_goes hl _ _ _ _ _ _ hmo) rfl rfl (Nat.le_of_ble_eq_true rfl) (Nat.le_of_ble_eq_true rfl) (Nat.le_of_ble_eq_true rfl) (Nat.le_of_ble_eq_true rfl) (jk_r ?_)
      refine j_if_ne (tgt := 39) C d_M_wanting_34 (by decide) (fun c34 => ?_) (fun c34 => ?_)
      · refine j_iload_n C d_M_wanting_39 rfl rfl ?_
        refine j_if_ne (tgt := 52) C d_M_wanting_40 (by decide) (fun c40 => ?_) (fun c40 => ?_)
        · refine j_aload_n C d_M_wanting_52 rfl rfl ?_
          refine jm_get C fl_6_90 d_M_wanting_53 hmo rfl ?_
          refine j_iload_n C d_M_wanting_56 rfl rfl ?_
          refine jm_iald C 25 d_M_wanting_57 (by decide) rfl hmo (by first | exact ix_w hnw hlw (by omega) c12 | exact absurd rfl (gs_ok c34).1) rfl ?_
          exact j_ireturn C d_M_wanting_58 rfl (by decide) (by decide) ⟨by first | (simp [mwanting, mkn, kn2, nar1, nar0, pk_un, upa_n, c12, c21, c34, c40]; done) | (simp [mwanting, mkn, kn2, gsI, bz, nar1, nar0, pk_un, upa_n, c12, c21, c34, c40]; done) | exact absurd c34 (by decide) | exact absurd rfl (gs_ok c34).1 | exact absurd rfl (gs_ok c34).2.1 | exact absurd rfl (gs_ok c34).2.2 | (unfold mwanting kn2; rw [if_neg c12, if_neg c21, if_neg (by decide)]; first | rfl | (simp [c40]; done)), rfl, by first | (simp [mwanting, mkn, kn2, nar1, nar0, pk_un, upa_n, c12, c21, c34, c40]; done) | (simp [mwanting, mkn, kn2, gsI, bz, nar1, nar0, pk_un, upa_n, c12, c21, c34, c40]; done) | exact absurd c34 (by decide) | exact absurd rfl (gs_ok c34).1 | exact absurd rfl (gs_ok c34).2.1 | exact absurd rfl (gs_ok c34).2.2 | (unfold mwanting kn2; rw [if_neg c12, if_neg c21, if_neg (by decide)]; first | rfl | (simp [c40]; done))⟩
        · refine j_aload_n C d_M_wanting_43 rfl rfl ?_
          refine jm_get C fl_6_87 d_M_wanting_44 hmo rfl ?_
          refine j_iload_n C d_M_wanting_47 rfl rfl ?_
          refine jm_iald C 24 d_M_wanting_48 (by decide) rfl hmo (by first | exact ix_w hnw hlw (by omega) c12 | exact absurd rfl (gs_ok c34).1) rfl ?_
          refine j_goto (tgt := 58) C d_M_wanting_49 (by decide) ?_
          exact j_ireturn C d_M_wanting_58 rfl (by decide) (by decide) ⟨by first | (simp [mwanting, mkn, kn2, nar1, nar0, pk_un, upa_n, c12, c21, c34, c40]; done) | (simp [mwanting, mkn, kn2, gsI, bz, nar1, nar0, pk_un, upa_n, c12, c21, c34, c40]; done) | exact absurd c34 (by decide) | exact absurd rfl (gs_ok c34).1 | exact absurd rfl (gs_ok c34).2.1 | exact absurd rfl (gs_ok c34).2.2 | (unfold mwanting kn2; rw [if_neg c12, if_neg c21, if_neg (by decide)]; first | rfl | (simp [c40]; done)), rfl, by first | (simp [mwanting, mkn, kn2, nar1, nar0, pk_un, upa_n, c12, c21, c34, c40]; done) | (simp [mwanting, mkn, kn2, gsI, bz, nar1, nar0, pk_un, upa_n, c12, c21, c34, c40]; done) | exact absurd c34 (by decide) | exact absurd rfl (gs_ok c34).1 | exact absurd rfl (gs_ok c34).2.1 | exact absurd rfl (gs_ok c34).2.2 | (unfold mwanting kn2; rw [if_neg c12, if_neg c21, if_neg (by decide)]; first | rfl | (simp [c40]; done))⟩
      · refine j_iconst (v := 0) C d_M_wanting_37 (by decide) ?_
        exact j_ireturn C d_M_wanting_38 rfl (by decide) (by decide) ⟨by first | (simp [mwanting, mkn, kn2, nar1, nar0, pk_un, upa_n, c12, c21, c34]; done) | (simp [mwanting, mkn, kn2, gsI, bz, nar1, nar0, pk_un, upa_n, c12, c21, c34]; done) | exact absurd c34 (by decide) | exact absurd rfl (gs_ok c34).1 | exact absurd rfl (gs_ok c34).2.1 | exact absurd rfl (gs_ok c34).2.2 | (unfold mwanting kn2; rw [if_neg c12, if_neg c21, if_neg (by decide)]; first | rfl | (simp [c40]; done)), rfl, by first | (simp [mwanting, mkn, kn2, nar1, nar0, pk_un, upa_n, c12, c21, c34]; done) | (simp [mwanting, mkn, kn2, gsI, bz, nar1, nar0, pk_un, upa_n, c12, c21, c34]; done) | exact absurd c34 (by decide) | exact absurd rfl (gs_ok c34).1 | exact absurd rfl (gs_ok c34).2.1 | exact absurd rfl (gs_ok c34).2.2 | (unfold mwanting kn2; rw [if_neg c12, if_neg c21, if_neg (by decide)]; first | rfl | (simp [c40]; done))⟩

