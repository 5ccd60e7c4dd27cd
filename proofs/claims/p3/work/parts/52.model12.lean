/-! ===== contracts of the reference: factor ===== -/
def mfA (g : Nat → Int32) (t a : Nat) : Nat := if hr g t (skp g t a) = 102 then (mnum g t (skp g t a + 1) 19).1 else (mnum g t (skp g t a) 99999).1
def mfV (g : Nat → Int32) (t a : Nat) : Int32 := if hr g t (skp g t a) = 102 then -1 - (mnum g t (skp g t a + 1) 19).2.1 else (mnum g t (skp g t a) 99999).2.1
def mfW (g : Nat → Int32) (t a : Nat) : Int32 := if hr g t (skp g t a) = 102 then (mnum g t (skp g t a + 1) 19).2.2 else (mnum g t (skp g t a) 99999).2.2
theorem hr_lt2 {g : Nat → Int32} {t a : Nat} {x : Int32} (h : hr g t a = x) (hx : ¬ x = -1) : a < t := by
  apply Nat.not_le.mp
  intro q
  apply hx
  rw [← h]
  unfold hr
  rw [if_pos q]
set_option maxHeartbeats 4000000 in
set_option maxRecDepth 100000 in
theorem c_M_factor {l : Launch} (hl : l.stackTraces = false) {D : va_G} {cA : Nat → ClassId} {b n mo : Nat} (σ : Nat → Int32) (α : Nat → Nat → Int32) (h : AH) (hmo : mo + 27 < n) (t a : Nat) (h16 : σ 16 = nI t) (h19 : σ 19 = nI a) (ht : t ≤ 300) (hat : a ≤ t) (hw : σ 20 = -1) : Cn l D cA b y_M_factor k_M_factor 3 42 0 0 [.ref mo] n (ovM mo σ α h) (Re (some (.int (mfV (α 17) t a))) n (ovM mo (upd (upd σ 19 (nI (mfA (α 17) t a))) 20 (mfW (α 17) t a)) α h)) := by
  refine Cn.of (cc := b_M_factor) (maxL := 1) (ret := (some .int)) (hh := []) (by decide +kernel) hl (Or.inl ⟨rfl, rfl⟩) (Nat.le_of_ble_eq_true rfl) ?_
  intro p e s m args below meth c C
  refine j_aload_n C d_M_factor_0 rfl rfl ?_
  refine jm_get C fl_6_136 d_M_factor_1 hmo rfl ?_
  refine j_if_lt (tgt := 9) C d_M_factor_4 (by decide) (fun c4 => ?_) (fun c4 => ?_)
  · refine j_aload_n C d_M_factor_9 rfl rfl ?_
    refine j_callV C d_M_factor_10 ml_M_139 mc_M_see in_M_see rfl se_M_see (by omega) (ovM_o _ _ _ _) (c_M_see hl _ _ _ hmo t a h16 h19 ht hat) rfl rfl (Nat.le_of_ble_eq_true rfl) (Nat.le_of_ble_eq_true rfl) (Nat.le_of_ble_eq_true rfl) (Nat.le_of_ble_eq_true rfl) (jk_r ?_)
    refine j_bipush (v := 102) C d_M_factor_13 (by decide) ?_
    refine j_icmp_eq (tgt := 25) C d_M_factor_15 (by decide) (fun c15 => ?_) (fun c15 => ?_)
    · have hlt : (skp (α 17) t a) + 1 ≤ t := hr_lt2 c15 (by decide)
      refine j_aload_n C d_M_factor_25 rfl rfl ?_
      refine j_dup C d_M_factor_26 rfl ?_
      refine jm_get C fl_6_129 d_M_factor_27 hmo rfl ?_
      refine j_iconst (v := 1) C d_M_factor_30 (by decide) ?_
      refine j_iadd C d_M_factor_31 ?_
      refine jm_puti 19 C fp_6_129 d_M_factor_32 hmo (by decide) (by first | rfl | assumption) rfl rfl ?_
      refine j_h (h' := ovM mo (upd σ 19 (nI ((skp (α 17) t a) + 1))) α h) (by rw [upd_uu, pk_us, nI_1]) ?_
      refine j_iconst (v := (-1)) C d_M_factor_35 (by decide) ?_
      refine j_aload_n C d_M_factor_36 rfl rfl ?_
      refine j_bipush (v := 19) C d_M_factor_37 (by decide) ?_
      refine j_callV C d_M_factor_39 ml_M_150 mc_M_number in_M_number rfl se_M_number (by omega) (ovM_o _ _ _ _) (c_M_number hl _ _ _ _ hmo t ((skp (α 17) t a) + 1) h16 pk_us ht hlt hw (by decide)) rfl rfl (Nat.le_of_ble_eq_true rfl) (Nat.le_of_ble_eq_true rfl) (Nat.le_of_ble_eq_true rfl) (Nat.le_of_ble_eq_true rfl) (jk_r ?_)
      refine j_isub C d_M_factor_42 ?_
      exact j_ireturn C d_M_factor_43 rfl (by decide) (by decide) ⟨by unfold mfV; rw [if_pos c15], rfl, by unfold mfA mfW; rw [if_pos c15, if_pos c15, upd_uu]⟩
    · refine j_aload_n C d_M_factor_18 rfl rfl ?_
      refine j_ldc (v := 99999) C d_M_factor_19 lc_M_125 ?_
      refine j_callV C d_M_factor_21 ml_M_150 mc_M_number in_M_number rfl se_M_number (by omega) (ovM_o _ _ _ _) (c_M_number hl _ _ _ _ hmo t (skp (α 17) t a) h16 rfl ht (skp_le (α 17) hat) hw (by decide)) rfl rfl (Nat.le_of_ble_eq_true rfl) (Nat.le_of_ble_eq_true rfl) (Nat.le_of_ble_eq_true rfl) (Nat.le_of_ble_eq_true rfl) (jk_r ?_)
      exact j_ireturn C d_M_factor_24 rfl (by decide) (by decide) ⟨by unfold mfV; rw [if_neg c15], rfl, by unfold mfA mfW; rw [if_neg c15, if_neg c15, upd_uu]⟩
  · exact absurd (show σ 20 < 0 by rw [hw]; decide) c4

