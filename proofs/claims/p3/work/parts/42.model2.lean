/-! ===== contracts of the reference's public methods without loops ===== -/
theorem upd_s (f : Nat → Int32) (k : Nat) (x : Int32) : upd f k x k = x := pk_us
theorem upd_uu (f : Nat → Int32) (k : Nat) (x y : Int32) : upd (upd f k x) k y = upd f k y := by
  funext j
  by_cases hj : j = k
  · subst hj; rw [pk_us, pk_us]
  · rw [pk_un hj, pk_un hj, pk_un hj]
def mtick (σ : Nat → Int32) (x : Int32) : Int32 × (Nat → Int32) := if inI x 1 5000 = 0 then (0, upd σ 0 1) else if 99999 - σ 1 < x then (0, upd σ 0 1) else (σ 1 + x, upd (upd σ 0 0) 1 (σ 1 + x))
set_option maxHeartbeats 4000000 in
set_option maxRecDepth 100000 in
theorem c_M_tick {l : Launch} (hl : l.stackTraces = false) {D : va_G} {cA : Nat → ClassId} {b n mo : Nat} (x : Int32) (σ : Nat → Int32) (α : Nat → Nat → Int32) (h : AH) (hmo : mo + 27 < n) : Cn l D cA b y_M_tick k_M_tick 1 15 0 0 [.ref mo, .int x] n (ovM mo σ α h) (Re (some (.int (mtick σ x).1)) n (ovM mo (mtick σ x).2 α h)) := by
  refine Cn.of (cc := b_M_tick) (maxL := 2) (ret := (some .int)) (hh := []) (by decide +kernel) hl (Or.inl ⟨rfl, rfl⟩) (Nat.le_of_ble_eq_true rfl) ?_
  intro p e s m args below meth c C
  refine j_aload_n C d_M_tick_0 rfl rfl ?_
  refine j_iload_n C d_M_tick_1 rfl rfl ?_
  refine j_iconst (v := 1) C d_M_tick_2 (by decide) ?_
  refine j_sipush (v := 5000) C d_M_tick_3 (by decide) ?_
  refine j_callS C d_M_tick_6 ml_M_102 mc_M_in st_M_in (c_M_in hl _ _ _ _) rfl rfl (Nat.le_of_ble_eq_true rfl) (Nat.le_of_ble_eq_true rfl) (Nat.le_of_ble_eq_true rfl) (Nat.le_of_ble_eq_true rfl) (jk_r ?_)
  refine j_if_eq (tgt := 27) C d_M_tick_9 (by decide) (fun c9 => ?_) (fun c9 => ?_)
  · refine j_iconst (v := 0) C d_M_tick_27 (by decide) ?_
    refine j_iconst (v := 1) C d_M_tick_28 (by decide) ?_
    refine j_iconst (v := 1) C d_M_tick_29 (by decide) ?_
    refine j_callV C d_M_tick_30 ml_M_109 mc_M_goes in_M_goes rfl se_M_goes (by omega) (ovM_o _ _ _ _) (c_M_goes hl _ _ _ _ _ _ hmo) rfl rfl (Nat.le_of_ble_eq_true rfl) (Nat.le_of_ble_eq_true rfl) (Nat.le_of_ble_eq_true rfl) (Nat.le_of_ble_eq_true rfl) (jk_r ?_)
    refine j_if_ne (tgt := 38) C d_M_tick_33 (by decide) (fun c33 => ?_) (fun c33 => ?_)
    · refine j_aload_n C d_M_tick_38 rfl rfl ?_
      refine j_aload_n C d_M_tick_39 rfl rfl ?_
      refine jm_get C fl_6_106 d_M_tick_40 hmo rfl ?_
      refine j_iload_n C d_M_tick_43 rfl rfl ?_
      refine j_iadd C d_M_tick_44 ?_
      refine jm_puti 1 C fp_6_106 d_M_tick_45 hmo (by decide) (by first | rfl | assumption) rfl rfl ?_
      refine j_aload_n C d_M_tick_48 rfl rfl ?_
      refine jm_get C fl_6_106 d_M_tick_49 hmo rfl ?_
      exact j_ireturn C d_M_tick_52 rfl (by decide) (by decide) ⟨by first | (simp [mtick, upd, gsI, *]; done) | (exfalso; simp_all (decide := true) [upd, gsI, bz]; done), rfl, by first | (simp [mtick, upd, gsI, *]; done) | (exfalso; simp_all (decide := true) [upd, gsI, bz]; done)⟩
    · refine j_iconst (v := 0) C d_M_tick_36 (by decide) ?_
      exact j_ireturn C d_M_tick_37 rfl (by decide) (by decide) ⟨by first | (simp [mtick, upd, gsI, *]; done) | (exfalso; simp_all (decide := true) [upd, gsI, bz]; done), rfl, by first | (simp [mtick, upd, gsI, *]; done) | (exfalso; simp_all (decide := true) [upd, gsI, bz]; done)⟩
  · refine j_iload_n C d_M_tick_12 rfl rfl ?_
    refine j_ldc (v := 99999) C d_M_tick_13 lc_M_125 ?_
    refine j_aload_n C d_M_tick_15 rfl rfl ?_
    refine jm_get C fl_6_106 d_M_tick_16 hmo rfl ?_
    refine j_isub C d_M_tick_19 ?_
    refine j_icmp_gt (tgt := 27) C d_M_tick_20 (by decide) (fun c20 => ?_) (fun c20 => ?_)
    · refine j_iconst (v := 0) C d_M_tick_27 (by decide) ?_
      refine j_iconst (v := 1) C d_M_tick_28 (by decide) ?_
      refine j_iconst (v := 1) C d_M_tick_29 (by decide) ?_
      refine j_callV C d_M_tick_30 ml_M_109 mc_M_goes in_M_goes rfl se_M_goes (by omega) (ovM_o _ _ _ _) (c_M_goes hl _ _ _ _ _ _ hmo) rfl rfl (Nat.le_of_ble_eq_true rfl) (Nat.le_of_ble_eq_true rfl) (Nat.le_of_ble_eq_true rfl) (Nat.le_of_ble_eq_true rfl) (jk_r ?_)
      refine j_if_ne (tgt := 38) C d_M_tick_33 (by decide) (fun c33 => ?_) (fun c33 => ?_)
      · refine j_aload_n C d_M_tick_38 rfl rfl ?_
        refine j_aload_n C d_M_tick_39 rfl rfl ?_
        refine jm_get C fl_6_106 d_M_tick_40 hmo rfl ?_
        refine j_iload_n C d_M_tick_43 rfl rfl ?_
        refine j_iadd C d_M_tick_44 ?_
        refine jm_puti 1 C fp_6_106 d_M_tick_45 hmo (by decide) (by first | rfl | assumption) rfl rfl ?_
        refine j_aload_n C d_M_tick_48 rfl rfl ?_
        refine jm_get C fl_6_106 d_M_tick_49 hmo rfl ?_
        exact j_ireturn C d_M_tick_52 rfl (by decide) (by decide) ⟨by first | (simp [mtick, upd, gsI, *]; done) | (exfalso; simp_all (decide := true) [upd, gsI, bz]; done), rfl, by first | (simp [mtick, upd, gsI, *]; done) | (exfalso; simp_all (decide := true) [upd, gsI, bz]; done)⟩
      · refine j_iconst (v := 0) C d_M_tick_36 (by decide) ?_
        exact j_ireturn C d_M_tick_37 rfl (by decide) (by decide) ⟨by first | (simp [mtick, upd, gsI, *]; done) | (exfalso; simp_all (decide := true) [upd, gsI, bz]; done), rfl, by first | (simp [mtick, upd, gsI, *]; done) | (exfalso; simp_all (decide := true) [upd, gsI, bz]; done)⟩
    · refine j_iconst (v := 1) C d_M_tick_23 (by decide) ?_
      refine j_goto (tgt := 28) C d_M_tick_24 (by decide) ?_
      refine j_iconst (v := 1) C d_M_tick_28 (by decide) ?_
      refine j_iconst (v := 1) C d_M_tick_29 (by decide) ?_
      refine j_callV C d_M_tick_30 ml_M_109 mc_M_goes in_M_goes rfl se_M_goes (by omega) (ovM_o _ _ _ _) (c_M_goes hl _ _ _ _ _ _ hmo) rfl rfl (Nat.le_of_ble_eq_true rfl) (Nat.le_of_ble_eq_true rfl) (Nat.le_of_ble_eq_true rfl) (Nat.le_of_ble_eq_true rfl) (jk_r ?_)
      refine j_if_ne (tgt := 38) C d_M_tick_33 (by decide) (fun c33 => ?_) (fun c33 => ?_)
      · refine j_aload_n C d_M_tick_38 rfl rfl ?_
        refine j_aload_n C d_M_tick_39 rfl rfl ?_
        refine jm_get C fl_6_106 d_M_tick_40 hmo rfl ?_
        refine j_iload_n C d_M_tick_43 rfl rfl ?_
        refine j_iadd C d_M_tick_44 ?_
        refine jm_puti 1 C fp_6_106 d_M_tick_45 hmo (by decide) (by first | rfl | assumption) rfl rfl ?_
        refine j_aload_n C d_M_tick_48 rfl rfl ?_
        refine jm_get C fl_6_106 d_M_tick_49 hmo rfl ?_
        exact j_ireturn C d_M_tick_52 rfl (by decide) (by decide) ⟨by first | (simp [mtick, upd, gsI, *]; done) | (exfalso; simp_all (decide := true) [upd, gsI, bz]; done), rfl, by first | (simp [mtick, upd, gsI, *]; done) | (exfalso; simp_all (decide := true) [upd, gsI, bz]; done)⟩
      · refine j_iconst (v := 0) C d_M_tick_36 (by decide) ?_
        exact j_ireturn C d_M_tick_37 rfl (by decide) (by decide) ⟨by first | (simp [mtick, upd, gsI, *]; done) | (exfalso; simp_all (decide := true) [upd, gsI, bz]; done), rfl, by first | (simp [mtick, upd, gsI, *]; done) | (exfalso; simp_all (decide := true) [upd, gsI, bz]; done)⟩

theorem in_of {x : Int32} {k : Nat} (hk : k < 2 ^ 31) (h : ¬ inI x 0 (nI k) = 0) : ∃ j : Nat, j ≤ k ∧ x = nI j := by
  unfold inI at h
  by_cases h1 : x < 0
  · rw [if_pos h1] at h; exact absurd rfl h
  · rw [if_neg h1] at h
    by_cases h2 : nI k < x
    · rw [if_pos h2] at h; exact absurd rfl h
    · exact nI_of2 (nI_toInt hk) h1 (Int32.not_lt.mp h2)
theorem rep_of {x t : Int32} {nr : Nat} (hnr : t = nI nr) (hle : nr ≤ 30) (h : ¬ inI x 0 (t - 1) = 0) : ∃ j : Nat, j < nr ∧ x = nI j := by
  subst hnr
  cases nr with
  | zero =>
    exfalso
    apply h
    unfold inI
    by_cases h1 : x < 0
    · rw [if_pos h1]
    · rw [if_neg h1, if_pos]
      exact Int32.lt_of_lt_of_le (by decide : nI 0 - 1 < (0 : Int32)) (Int32.not_lt.mp h1)
  | succ k =>
    rw [nI_pred] at h
    obtain ⟨j, hj, e⟩ := in_of (by omega) h
    exact ⟨j, by omega, e⟩
theorem vp_mono {i : Int32} {m N : Nat} (h : vp_in i m) (hm : m ≤ N) : vp_in i N := fun q => h (q.elim Or.inl (fun q => Or.inr (Nat.le_trans hm q)))
theorem e20 (a c : Nat) : (20 : Int32) * nI a + nI c = nI (20 * a + c) := by
  rw [show (20 : Int32) = nI 20 from rfl, pk_mul, nI_add]
theorem ix20 {x f : Int32} {ka N : Nat} (hk : ka ≤ 1000) (hN : 20 * ka + 20 ≤ N) (hN2 : N < 2 ^ 31) (hx : ¬ inI x 0 (nI ka) = 0) (hf : ¬ inI f 0 19 = 0) : vp_in (20 * x + f) N := by
  obtain ⟨a, ha, rfl⟩ := in_of (by omega) hx
  obtain ⟨c, hc, rfl⟩ := in_of (k := 19) (by omega) hf
  rw [e20]
  exact vp_in_nI (by omega) hN2
theorem ix_rf {t r f : Int32} {nr : Nat} (hnr : t = nI nr) (hle : nr ≤ 30) (hr : ¬ inI r 0 (t - 1) = 0) (hf : ¬ inI f 0 19 = 0) : vp_in (20 * r + f) 600 := by
  obtain ⟨a, ha, rfl⟩ := rep_of hnr hle hr
  obtain ⟨c, hc, rfl⟩ := in_of (k := 19) (by omega) hf
  rw [e20]
  exact vp_in_nI (by omega) (by omega)
theorem ix_rk {t r f : Int32} {nr : Nat} (hnr : t = nI nr) (hle : nr ≤ 30) (hr : ¬ inI r 0 (t - 1) = 0) (hf : ¬ inI f 0 9 = 0) : vp_in (20 * r + f) 600 := by
  obtain ⟨a, ha, rfl⟩ := rep_of hnr hle hr
  obtain ⟨c, hc, rfl⟩ := in_of (k := 9) (by omega) hf
  rw [e20]
  exact vp_in_nI (by omega) (by omega)
theorem ix_r {t r : Int32} {nr N : Nat} (hnr : t = nI nr) (hle : nr ≤ 30) (hN : 30 ≤ N) (hN2 : N < 2 ^ 31) (hr : ¬ inI r 0 (t - 1) = 0) : vp_in r N := by
  obtain ⟨a, ha, rfl⟩ := rep_of hnr hle hr
  exact vp_in_nI (by omega) hN2
theorem gs_ok {x y z : Int32} (h : ¬ bz (gsI x y z) = 0) : ¬ x = 0 ∧ ¬ y = 0 ∧ ¬ z = 0 := by
  unfold gsI bz at h
  refine ⟨fun q => ?_, fun q => ?_, fun q => ?_⟩ <;> simp [q] at h
  · split at h <;> simp at h
  · split at h <;> (try split at h) <;> simp at h
def kn2 (a c : Int32) : Int32 := if a = 0 then 0 else if c = 0 then 0 else 1
def mmakes (σ : Nat → Int32) (α : Nat → Nat → Int32) (i k w : Int32) : (Nat → Int32) × (Nat → Nat → Int32) :=
  let r := (σ 2).toNatClampNeg
  (upd σ 2 (σ 2 + 1), upa (upa (upa (upa α 3 (upd (α 3) r i)) 4 (upd (α 4) r k)) 5 (upd (α 5) r (σ 1))) 7 (upd (α 7) r w))
set_option maxHeartbeats 4000000 in
set_option maxRecDepth 100000 in
theorem c_M_makes {l : Launch} (hl : l.stackTraces = false) {D : va_G} {cA : Nat → ClassId} {b n mo : Nat} (i k w : Int32) (σ : Nat → Int32) (α : Nat → Nat → Int32) (h : AH) (hmo : mo + 27 < n) (hrm : vp_in (σ 2) 30) : Cn l D cA b y_M_makes k_M_makes 0 0 0 0 [.ref mo, .int i, .int k, .int w] n (ovM mo σ α h) (Re (some (.int (σ 2 + 1 - 1))) n (ovM mo (mmakes σ α i k w).1 (mmakes σ α i k w).2 h)) := by
  refine Cn.of (cc := b_M_makes) (maxL := 4) (ret := (some .int)) (hh := []) (by decide +kernel) hl (Or.inl ⟨rfl, rfl⟩) (Nat.le_of_ble_eq_true rfl) ?_
  intro p e s m args below meth c C
  refine j_aload_n C d_M_makes_0 rfl rfl ?_
  refine jm_get C fl_6_7 d_M_makes_1 hmo rfl ?_
  refine j_aload_n C d_M_makes_4 rfl rfl ?_
  refine jm_get C fl_6_99 d_M_makes_5 hmo rfl ?_
  refine j_iload_n C d_M_makes_8 rfl rfl ?_
  refine jm_iasti C 0 3 d_M_makes_9 (by decide) rfl hmo (by assumption) rfl ?_
  refine j_aload_n C d_M_makes_10 rfl rfl ?_
  refine jm_get C fl_6_13 d_M_makes_11 hmo rfl ?_
  refine j_aload_n C d_M_makes_14 rfl rfl ?_
  refine jm_get C fl_6_99 d_M_makes_15 hmo rfl ?_
  refine j_iload_n C d_M_makes_18 rfl rfl ?_
  refine jm_iasti C 1 4 d_M_makes_19 (by decide) rfl hmo (by assumption) rfl ?_
  refine j_aload_n C d_M_makes_20 rfl rfl ?_
  refine jm_get C fl_6_16 d_M_makes_21 hmo rfl ?_
  refine j_aload_n C d_M_makes_24 rfl rfl ?_
  refine jm_get C fl_6_99 d_M_makes_25 hmo rfl ?_
  refine j_aload_n C d_M_makes_28 rfl rfl ?_
  refine jm_get C fl_6_106 d_M_makes_29 hmo rfl ?_
  refine jm_iasti C 2 5 d_M_makes_32 (by decide) rfl hmo (by assumption) rfl ?_
  refine j_aload_n C d_M_makes_33 rfl rfl ?_
  refine jm_get C fl_6_22 d_M_makes_34 hmo rfl ?_
  refine j_aload_n C d_M_makes_37 rfl rfl ?_
  refine jm_get C fl_6_99 d_M_makes_38 hmo rfl ?_
  refine j_iload_n C d_M_makes_41 rfl rfl ?_
  refine jm_iasti C 4 7 d_M_makes_42 (by decide) rfl hmo (by assumption) rfl ?_
  refine j_aload_n C d_M_makes_43 rfl rfl ?_
  refine j_dup C d_M_makes_44 rfl ?_
  refine jm_get C fl_6_99 d_M_makes_45 hmo rfl ?_
  refine j_iconst (v := 1) C d_M_makes_48 (by decide) ?_
  refine j_iadd C d_M_makes_49 ?_
  refine jm_puti 2 C fp_6_99 d_M_makes_50 hmo (by decide) (by first | rfl | assumption) rfl rfl ?_
  refine j_aload_n C d_M_makes_53 rfl rfl ?_
  refine jm_get C fl_6_99 d_M_makes_54 hmo rfl ?_
  refine j_iconst (v := 1) C d_M_makes_57 (by decide) ?_
  refine j_isub C d_M_makes_58 ?_
  exact j_ireturn C d_M_makes_59 rfl (by decide) (by decide) ⟨rfl, rfl, rfl⟩

def mreport (σ : Nat → Int32) (α : Nat → Nat → Int32) (i k : Int32) : Int32 × (Nat → Int32) × (Nat → Nat → Int32) :=
  let t := gsI (inI k 0 4) (inI i 0 9999) (if 30 ≤ σ 2 then 0 else 1)
  if bz t = 0 then (0, upd σ 0 t, α) else (σ 2 + 1 - 1, mmakes (upd σ 0 t) α i k (-1))
set_option maxHeartbeats 4000000 in
set_option maxRecDepth 100000 in
theorem c_M_report {l : Launch} (hl : l.stackTraces = false) {D : va_G} {cA : Nat → ClassId} {b n mo : Nat} (i k : Int32) (σ : Nat → Int32) (α : Nat → Nat → Int32) (h : AH) (hmo : mo + 27 < n) (hrm : ¬ 30 ≤ σ 2 → vp_in (σ 2) 30) : Cn l D cA b y_M_report k_M_report 1 16 0 0 [.ref mo, .int i, .int k] n (ovM mo σ α h) (Re (some (.int (mreport σ α i k).1)) n (ovM mo (mreport σ α i k).2.1 (mreport σ α i k).2.2 h)) := by
  refine Cn.of (cc := b_M_report) (maxL := 3) (ret := (some .int)) (hh := []) (by decide +kernel) hl (Or.inl ⟨rfl, rfl⟩) (Nat.le_of_ble_eq_true rfl) ?_
  intro p e s m args below meth c C
  refine j_aload_n C d_M_report_0 rfl rfl ?_
  refine j_iload_n C d_M_report_1 rfl rfl ?_
  refine j_iconst (v := 0) C d_M_report_2 (by decide) ?_
  refine j_iconst (v := 4) C d_M_report_3 (by decide) ?_
  refine j_callS C d_M_report_4 ml_M_102 mc_M_in st_M_in (c_M_in hl _ _ _ _) rfl rfl (Nat.le_of_ble_eq_true rfl) (Nat.le_of_ble_eq_true rfl) (Nat.le_of_ble_eq_true rfl) (Nat.le_of_ble_eq_true rfl) (jk_r ?_)
  refine j_iload_n C d_M_report_7 rfl rfl ?_
  refine j_iconst (v := 0) C d_M_report_8 (by decide) ?_
  refine j_sipush (v := 9999) C d_M_report_9 (by decide) ?_
  refine j_callS C d_M_report_12 ml_M_102 mc_M_in st_M_in (c_M_in hl _ _ _ _) rfl rfl (Nat.le_of_ble_eq_true rfl) (Nat.le_of_ble_eq_true rfl) (Nat.le_of_ble_eq_true rfl) (Nat.le_of_ble_eq_true rfl) (jk_r ?_)
  refine j_aload_n C d_M_report_15 rfl rfl ?_
  refine jm_get C fl_6_99 d_M_report_16 hmo rfl ?_
  refine j_bipush (v := 30) C d_M_report_19 (by decide) ?_
  refine j_icmp_ge (tgt := 28) C d_M_report_21 (by decide) (fun c21 => ?_) (fun c21 => ?_)
  · refine j_iconst (v := 0) C d_M_report_28 (by decide) ?_
    refine j_callV C d_M_report_29 ml_M_109 mc_M_goes in_M_goes rfl se_M_goes (by omega) (ovM_o _ _ _ _) (c_M_goes hl _ _ _ _ _ _ hmo) rfl rfl (Nat.le_of_ble_eq_true rfl) (Nat.le_of_ble_eq_true rfl) (Nat.le_of_ble_eq_true rfl) (Nat.le_of_ble_eq_true rfl) (jk_r ?_)
    refine j_if_ne (tgt := 37) C d_M_report_32 (by decide) (fun c32 => ?_) (fun c32 => ?_)
    · refine j_aload_n C d_M_report_37 rfl rfl ?_
      refine j_iload_n C d_M_report_38 rfl rfl ?_
      refine j_iload_n C d_M_report_39 rfl rfl ?_
      refine j_iconst (v := (-1)) C d_M_report_40 (by decide) ?_
      refine j_callV C d_M_report_41 ml_M_113 mc_M_makes in_M_makes rfl se_M_makes (by omega) (ovM_o _ _ _ _) (c_M_makes hl _ _ _ _ _ _ hmo (by first | exact hrm c21 | exact absurd rfl (gs_ok c32).2.2)) rfl rfl (Nat.le_of_ble_eq_true rfl) (Nat.le_of_ble_eq_true rfl) (Nat.le_of_ble_eq_true rfl) (Nat.le_of_ble_eq_true rfl) (jk_r ?_)
      exact j_ireturn C d_M_report_44 rfl (by decide) (by decide) ⟨by simp [mreport, *] <;> rfl, rfl, by simp [mreport, *]⟩
    · refine j_iconst (v := 0) C d_M_report_35 (by decide) ?_
      exact j_ireturn C d_M_report_36 rfl (by decide) (by decide) ⟨by simp [mreport, *] <;> rfl, rfl, by simp [mreport, *]⟩
  · refine j_iconst (v := 1) C d_M_report_24 (by decide) ?_
    refine j_goto (tgt := 29) C d_M_report_25 (by decide) ?_
    refine j_callV C d_M_report_29 ml_M_109 mc_M_goes in_M_goes rfl se_M_goes (by omega) (ovM_o _ _ _ _) (c_M_goes hl _ _ _ _ _ _ hmo) rfl rfl (Nat.le_of_ble_eq_true rfl) (Nat.le_of_ble_eq_true rfl) (Nat.le_of_ble_eq_true rfl) (Nat.le_of_ble_eq_true rfl) (jk_r ?_)
    refine j_if_ne (tgt := 37) C d_M_report_32 (by decide) (fun c32 => ?_) (fun c32 => ?_)
    · refine j_aload_n C d_M_report_37 rfl rfl ?_
      refine j_iload_n C d_M_report_38 rfl rfl ?_
      refine j_iload_n C d_M_report_39 rfl rfl ?_
      refine j_iconst (v := (-1)) C d_M_report_40 (by decide) ?_
      refine j_callV C d_M_report_41 ml_M_113 mc_M_makes in_M_makes rfl se_M_makes (by omega) (ovM_o _ _ _ _) (c_M_makes hl _ _ _ _ _ _ hmo (by first | exact hrm c21 | exact absurd rfl (gs_ok c32).2.2)) rfl rfl (Nat.le_of_ble_eq_true rfl) (Nat.le_of_ble_eq_true rfl) (Nat.le_of_ble_eq_true rfl) (Nat.le_of_ble_eq_true rfl) (jk_r ?_)
      exact j_ireturn C d_M_report_44 rfl (by decide) (by decide) ⟨by simp [mreport, *] <;> rfl, rfl, by simp [mreport, *]⟩
    · refine j_iconst (v := 0) C d_M_report_35 (by decide) ?_
      exact j_ireturn C d_M_report_36 rfl (by decide) (by decide) ⟨by simp [mreport, *] <;> rfl, rfl, by simp [mreport, *]⟩

def mask (σ : Nat → Int32) (α : Nat → Nat → Int32) (k f on : Int32) : (Nat → Int32) × (Nat → Nat → Int32) := if kn2 (inI k 0 4) (inI f 0 19) = 0 then (upd σ 0 1, α) else (upd σ 0 0, upa α 14 (upd (α 14) (20 * k + f).toNatClampNeg (vp_nar .boolean on)))
def mhide (σ : Nat → Int32) (α : Nat → Nat → Int32) (f q on : Int32) : (Nat → Int32) × (Nat → Nat → Int32) := if kn2 (inI f 0 19) (inI q 0 19) = 0 then (upd σ 0 1, α) else (upd σ 0 0, upa α 15 (upd (α 15) (20 * f + q).toNatClampNeg (vp_nar .boolean on)))
set_option maxHeartbeats 4000000 in
set_option maxRecDepth 100000 in
theorem c_M_ask {l : Launch} (hl : l.stackTraces = false) {D : va_G} {cA : Nat → ClassId} {b n mo : Nat} (k f on : Int32) (σ : Nat → Int32) (α : Nat → Nat → Int32) (h : AH) (hmo : mo + 27 < n) : Cn l D cA b y_M_ask k_M_ask 2 27 0 0 [.ref mo, .int k, .int f, .int on] n (ovM mo σ α h) (Re none n (ovM mo (mask σ α k f on).1 (mask σ α k f on).2 h)) := by
  refine Cn.of (cc := b_M_ask) (maxL := 4) (ret := none) (hh := []) (by decide +kernel) hl (Or.inl ⟨rfl, rfl⟩) (Nat.le_of_ble_eq_true rfl) ?_
  intro p e s m args below meth c C
  refine j_aload_n C d_M_ask_0 rfl rfl ?_
  refine j_iload_n C d_M_ask_1 rfl rfl ?_
  refine j_iconst (v := 0) C d_M_ask_2 (by decide) ?_
  refine j_iconst (v := 4) C d_M_ask_3 (by decide) ?_
  refine j_callS C d_M_ask_4 ml_M_102 mc_M_in st_M_in (c_M_in hl _ _ _ _) rfl rfl (Nat.le_of_ble_eq_true rfl) (Nat.le_of_ble_eq_true rfl) (Nat.le_of_ble_eq_true rfl) (Nat.le_of_ble_eq_true rfl) (jk_r ?_)
  refine j_if_eq (tgt := 21) C d_M_ask_7 (by decide) (fun c7 => ?_) (fun c7 => ?_)
  · refine j_iconst (v := 0) C d_M_ask_21 (by decide) ?_
    refine j_iconst (v := 1) C d_M_ask_22 (by decide) ?_
    refine j_iconst (v := 1) C d_M_ask_23 (by decide) ?_
    refine j_callV C d_M_ask_24 ml_M_109 mc_M_goes in_M_goes rfl se_M_goes (by omega) (ovM_o _ _ _ _) (c_M_goes hl _ _ _ _ _ _ hmo) rfl rfl (Nat.le_of_ble_eq_true rfl) (Nat.le_of_ble_eq_true rfl) (Nat.le_of_ble_eq_true rfl) (Nat.le_of_ble_eq_true rfl) (jk_r ?_)
    refine j_if_eq (tgt := 42) C d_M_ask_27 (by decide) (fun c27 => ?_) (fun c27 => ?_)
    · exact j_vreturn C d_M_ask_42 rfl (by decide) (by decide) ⟨rfl, rfl, by first | (simp [mask, kn2, *]; done) | (simp [mask, kn2, gsI, *]; done) | exact absurd (by decide) c27 | exact absurd c27 (by decide)⟩
    · refine j_aload_n C d_M_ask_30 rfl rfl ?_
      refine jm_get C fl_6_44 d_M_ask_31 hmo rfl ?_
      refine j_bipush (v := 20) C d_M_ask_34 (by decide) ?_
      refine j_iload_n C d_M_ask_36 rfl rfl ?_
      refine j_imul C d_M_ask_37 ?_
      refine j_iload_n C d_M_ask_38 rfl rfl ?_
      refine j_iadd C d_M_ask_39 ?_
      refine j_iload_n C d_M_ask_40 rfl rfl ?_
      refine jm_zasti C 11 14 d_M_ask_41 (by decide) rfl hmo (by first | exact ix20 (ka := 4) (by omega) (by omega) (by omega) c7 c14 | exact absurd (by decide) c27) rfl ?_
      exact j_vreturn C d_M_ask_42 rfl (by decide) (by decide) ⟨rfl, rfl, by first | (simp [mask, kn2, *]; done) | (simp [mask, kn2, gsI, *]; done) | exact absurd (by decide) c27 | exact absurd c27 (by decide)⟩
  · refine j_iload_n C d_M_ask_10 rfl rfl ?_
    refine j_callS C d_M_ask_11 ml_M_117 mc_M_isField st_M_isField (c_M_isField hl _ _) rfl rfl (Nat.le_of_ble_eq_true rfl) (Nat.le_of_ble_eq_true rfl) (Nat.le_of_ble_eq_true rfl) (Nat.le_of_ble_eq_true rfl) (jk_r ?_)
    refine j_if_eq (tgt := 21) C d_M_ask_14 (by decide) (fun c14 => ?_) (fun c14 => ?_)
    · refine j_iconst (v := 0) C d_M_ask_21 (by decide) ?_
      refine j_iconst (v := 1) C d_M_ask_22 (by decide) ?_
      refine j_iconst (v := 1) C d_M_ask_23 (by decide) ?_
      refine j_callV C d_M_ask_24 ml_M_109 mc_M_goes in_M_goes rfl se_M_goes (by omega) (ovM_o _ _ _ _) (c_M_goes hl _ _ _ _ _ _ hmo) rfl rfl (Nat.le_of_ble_eq_true rfl) (Nat.le_of_ble_eq_true rfl) (Nat.le_of_ble_eq_true rfl) (Nat.le_of_ble_eq_true rfl) (jk_r ?_)
      refine j_if_eq (tgt := 42) C d_M_ask_27 (by decide) (fun c27 => ?_) (fun c27 => ?_)
      · exact j_vreturn C d_M_ask_42 rfl (by decide) (by decide) ⟨rfl, rfl, by first | (simp [mask, kn2, *]; done) | (simp [mask, kn2, gsI, *]; done) | exact absurd (by decide) c27 | exact absurd c27 (by decide)⟩
      · refine j_aload_n C d_M_ask_30 rfl rfl ?_
        refine jm_get C fl_6_44 d_M_ask_31 hmo rfl ?_
        refine j_bipush (v := 20) C d_M_ask_34 (by decide) ?_
        refine j_iload_n C d_M_ask_36 rfl rfl ?_
        refine j_imul C d_M_ask_37 ?_
        refine j_iload_n C d_M_ask_38 rfl rfl ?_
        refine j_iadd C d_M_ask_39 ?_
        refine j_iload_n C d_M_ask_40 rfl rfl ?_
        refine jm_zasti C 11 14 d_M_ask_41 (by decide) rfl hmo (by first | exact ix20 (ka := 4) (by omega) (by omega) (by omega) c7 c14 | exact absurd (by decide) c27) rfl ?_
        exact j_vreturn C d_M_ask_42 rfl (by decide) (by decide) ⟨rfl, rfl, by first | (simp [mask, kn2, *]; done) | (simp [mask, kn2, gsI, *]; done) | exact absurd (by decide) c27 | exact absurd c27 (by decide)⟩
    · refine j_iconst (v := 1) C d_M_ask_17 (by decide) ?_
      refine j_goto (tgt := 22) C d_M_ask_18 (by decide) ?_
      refine j_iconst (v := 1) C d_M_ask_22 (by decide) ?_
      refine j_iconst (v := 1) C d_M_ask_23 (by decide) ?_
      refine j_callV C d_M_ask_24 ml_M_109 mc_M_goes in_M_goes rfl se_M_goes (by omega) (ovM_o _ _ _ _) (c_M_goes hl _ _ _ _ _ _ hmo) rfl rfl (Nat.le_of_ble_eq_true rfl) (Nat.le_of_ble_eq_true rfl) (Nat.le_of_ble_eq_true rfl) (Nat.le_of_ble_eq_true rfl) (jk_r ?_)
      refine j_if_eq (tgt := 42) C d_M_ask_27 (by decide) (fun c27 => ?_) (fun c27 => ?_)
      · exact j_vreturn C d_M_ask_42 rfl (by decide) (by decide) ⟨rfl, rfl, by first | (simp [mask, kn2, *]; done) | (simp [mask, kn2, gsI, *]; done) | exact absurd (by decide) c27 | exact absurd c27 (by decide)⟩
      · refine j_aload_n C d_M_ask_30 rfl rfl ?_
        refine jm_get C fl_6_44 d_M_ask_31 hmo rfl ?_
        refine j_bipush (v := 20) C d_M_ask_34 (by decide) ?_
        refine j_iload_n C d_M_ask_36 rfl rfl ?_
        refine j_imul C d_M_ask_37 ?_
        refine j_iload_n C d_M_ask_38 rfl rfl ?_
        refine j_iadd C d_M_ask_39 ?_
        refine j_iload_n C d_M_ask_40 rfl rfl ?_
        refine jm_zasti C 11 14 d_M_ask_41 (by decide) rfl hmo (by first | exact ix20 (ka := 4) (by omega) (by omega) (by omega) c7 c14 | exact absurd (by decide) c27) rfl ?_
        exact j_vreturn C d_M_ask_42 rfl (by decide) (by decide) ⟨rfl, rfl, by first | (simp [mask, kn2, *]; done) | (simp [mask, kn2, gsI, *]; done) | exact absurd (by decide) c27 | exact absurd c27 (by decide)⟩

set_option maxHeartbeats 4000000 in
set_option maxRecDepth 100000 in
theorem c_M_hide {l : Launch} (hl : l.stackTraces = false) {D : va_G} {cA : Nat → ClassId} {b n mo : Nat} (f q on : Int32) (σ : Nat → Int32) (α : Nat → Nat → Int32) (h : AH) (hmo : mo + 27 < n) : Cn l D cA b y_M_hide k_M_hide 2 27 0 0 [.ref mo, .int f, .int q, .int on] n (ovM mo σ α h) (Re none n (ovM mo (mhide σ α f q on).1 (mhide σ α f q on).2 h)) := by
  refine Cn.of (cc := b_M_hide) (maxL := 4) (ret := none) (hh := []) (by decide +kernel) hl (Or.inl ⟨rfl, rfl⟩) (Nat.le_of_ble_eq_true rfl) ?_
  intro p e s m args below meth c C
  refine j_aload_n C d_M_hide_0 rfl rfl ?_
  refine j_iload_n C d_M_hide_1 rfl rfl ?_
  refine j_callS C d_M_hide_2 ml_M_117 mc_M_isField st_M_isField (c_M_isField hl _ _) rfl rfl (Nat.le_of_ble_eq_true rfl) (Nat.le_of_ble_eq_true rfl) (Nat.le_of_ble_eq_true rfl) (Nat.le_of_ble_eq_true rfl) (jk_r ?_)
  refine j_if_eq (tgt := 19) C d_M_hide_5 (by decide) (fun c5 => ?_) (fun c5 => ?_)
  · refine j_iconst (v := 0) C d_M_hide_19 (by decide) ?_
    refine j_iconst (v := 1) C d_M_hide_20 (by decide) ?_
    refine j_iconst (v := 1) C d_M_hide_21 (by decide) ?_
    refine j_callV C d_M_hide_22 ml_M_109 mc_M_goes in_M_goes rfl se_M_goes (by omega) (ovM_o _ _ _ _) (c_M_goes hl _ _ _ _ _ _ hmo) rfl rfl (Nat.le_of_ble_eq_true rfl) (Nat.le_of_ble_eq_true rfl) (Nat.le_of_ble_eq_true rfl) (Nat.le_of_ble_eq_true rfl) (jk_r ?_)
    refine j_if_eq (tgt := 40) C d_M_hide_25 (by decide) (fun c25 => ?_) (fun c25 => ?_)
    · exact j_vreturn C d_M_hide_40 rfl (by decide) (by decide) ⟨rfl, rfl, by first | (simp [mhide, kn2, *]; done) | (simp [mhide, kn2, gsI, *]; done) | exact absurd (by decide) c25 | exact absurd c25 (by decide)⟩
    · refine j_aload_n C d_M_hide_28 rfl rfl ?_
      refine jm_get C fl_6_47 d_M_hide_29 hmo rfl ?_
      refine j_bipush (v := 20) C d_M_hide_32 (by decide) ?_
      refine j_iload_n C d_M_hide_34 rfl rfl ?_
      refine j_imul C d_M_hide_35 ?_
      refine j_iload_n C d_M_hide_36 rfl rfl ?_
      refine j_iadd C d_M_hide_37 ?_
      refine j_iload_n C d_M_hide_38 rfl rfl ?_
      refine jm_zasti C 12 15 d_M_hide_39 (by decide) rfl hmo (by first | exact ix20 (ka := 19) (by omega) (by omega) (by omega) c5 c12 | exact absurd (by decide) c25) rfl ?_
      exact j_vreturn C d_M_hide_40 rfl (by decide) (by decide) ⟨rfl, rfl, by first | (simp [mhide, kn2, *]; done) | (simp [mhide, kn2, gsI, *]; done) | exact absurd (by decide) c25 | exact absurd c25 (by decide)⟩
  · refine j_iload_n C d_M_hide_8 rfl rfl ?_
    refine j_callS C d_M_hide_9 ml_M_200 mc_M_isPerson st_M_isPerson (c_M_isPerson hl _ _) rfl rfl (Nat.le_of_ble_eq_true rfl) (Nat.le_of_ble_eq_true rfl) (Nat.le_of_ble_eq_true rfl) (Nat.le_of_ble_eq_true rfl) (jk_r ?_)
    refine j_if_eq (tgt := 19) C d_M_hide_12 (by decide) (fun c12 => ?_) (fun c12 => ?_)
    · refine j_iconst (v := 0) C d_M_hide_19 (by decide) ?_
      refine j_iconst (v := 1) C d_M_hide_20 (by decide) ?_
      refine j_iconst (v := 1) C d_M_hide_21 (by decide) ?_
      refine j_callV C d_M_hide_22 ml_M_109 mc_M_goes in_M_goes rfl se_M_goes (by omega) (ovM_o _ _ _ _) (c_M_goes hl _ _ _ _ _ _ hmo) rfl rfl (Nat.le_of_ble_eq_true rfl) (Nat.le_of_ble_eq_true rfl) (Nat.le_of_ble_eq_true rfl) (Nat.le_of_ble_eq_true rfl) (jk_r ?_)
      refine j_if_eq (tgt := 40) C d_M_hide_25 (by decide) (fun c25 => ?_) (fun c25 => ?_)
      · exact j_vreturn C d_M_hide_40 rfl (by decide) (by decide) ⟨rfl, rfl, by first | (simp [mhide, kn2, *]; done) | (simp [mhide, kn2, gsI, *]; done) | exact absurd (by decide) c25 | exact absurd c25 (by decide)⟩
      · refine j_aload_n C d_M_hide_28 rfl rfl ?_
        refine jm_get C fl_6_47 d_M_hide_29 hmo rfl ?_
        refine j_bipush (v := 20) C d_M_hide_32 (by decide) ?_
        refine j_iload_n C d_M_hide_34 rfl rfl ?_
        refine j_imul C d_M_hide_35 ?_
        refine j_iload_n C d_M_hide_36 rfl rfl ?_
        refine j_iadd C d_M_hide_37 ?_
        refine j_iload_n C d_M_hide_38 rfl rfl ?_
        refine jm_zasti C 12 15 d_M_hide_39 (by decide) rfl hmo (by first | exact ix20 (ka := 19) (by omega) (by omega) (by omega) c5 c12 | exact absurd (by decide) c25) rfl ?_
        exact j_vreturn C d_M_hide_40 rfl (by decide) (by decide) ⟨rfl, rfl, by first | (simp [mhide, kn2, *]; done) | (simp [mhide, kn2, gsI, *]; done) | exact absurd (by decide) c25 | exact absurd c25 (by decide)⟩
    · refine j_iconst (v := 1) C d_M_hide_15 (by decide) ?_
      refine j_goto (tgt := 20) C d_M_hide_16 (by decide) ?_
      refine j_iconst (v := 1) C d_M_hide_20 (by decide) ?_
      refine j_iconst (v := 1) C d_M_hide_21 (by decide) ?_
      refine j_callV C d_M_hide_22 ml_M_109 mc_M_goes in_M_goes rfl se_M_goes (by omega) (ovM_o _ _ _ _) (c_M_goes hl _ _ _ _ _ _ hmo) rfl rfl (Nat.le_of_ble_eq_true rfl) (Nat.le_of_ble_eq_true rfl) (Nat.le_of_ble_eq_true rfl) (Nat.le_of_ble_eq_true rfl) (jk_r ?_)
      refine j_if_eq (tgt := 40) C d_M_hide_25 (by decide) (fun c25 => ?_) (fun c25 => ?_)
      · exact j_vreturn C d_M_hide_40 rfl (by decide) (by decide) ⟨rfl, rfl, by first | (simp [mhide, kn2, *]; done) | (simp [mhide, kn2, gsI, *]; done) | exact absurd (by decide) c25 | exact absurd c25 (by decide)⟩
      · refine j_aload_n C d_M_hide_28 rfl rfl ?_
        refine jm_get C fl_6_47 d_M_hide_29 hmo rfl ?_
        refine j_bipush (v := 20) C d_M_hide_32 (by decide) ?_
        refine j_iload_n C d_M_hide_34 rfl rfl ?_
        refine j_imul C d_M_hide_35 ?_
        refine j_iload_n C d_M_hide_36 rfl rfl ?_
        refine j_iadd C d_M_hide_37 ?_
        refine j_iload_n C d_M_hide_38 rfl rfl ?_
        refine jm_zasti C 12 15 d_M_hide_39 (by decide) rfl hmo (by first | exact ix20 (ka := 19) (by omega) (by omega) (by omega) c5 c12 | exact absurd (by decide) c25) rfl ?_
        exact j_vreturn C d_M_hide_40 rfl (by decide) (by decide) ⟨rfl, rfl, by first | (simp [mhide, kn2, *]; done) | (simp [mhide, kn2, gsI, *]; done) | exact absurd (by decide) c25 | exact absurd c25 (by decide)⟩

