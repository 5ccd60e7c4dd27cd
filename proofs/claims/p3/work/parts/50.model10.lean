/-! ===== contracts of the reference: isDigit, fail, number ===== -/
set_option maxHeartbeats 4000000 in
set_option maxRecDepth 100000 in
theorem c_M_isDigit {l : Launch} (hl : l.stackTraces = false) {D : va_G} {cA : Nat → ClassId} {b n mo : Nat} (σ : Nat → Int32) (α : Nat → Nat → Int32) (h : AH) (hmo : mo + 27 < n) (t a : Nat) (h16 : σ 16 = nI t) (h19 : σ 19 = nI a) (ht : t ≤ 300) (hat : a ≤ t) : Cn l D cA b y_M_isDigit k_M_isDigit 1 14 0 0 [.ref mo] n (ovM mo σ α h) (Re (some (.int (inI (hr (α 17) t a) 48 57))) n (ovM mo σ α h)) := by
  refine Cn.of (cc := b_M_isDigit) (maxL := 1) (ret := (some .boolean)) (hh := []) (by decide +kernel) hl (Or.inl ⟨rfl, rfl⟩) (Nat.le_of_ble_eq_true rfl) ?_
  intro p e s m args below meth c C
  refine j_aload_n C d_M_isDigit_0 rfl rfl ?_
  refine j_callV C d_M_isDigit_1 ml_M_132 mc_M_here in_M_here rfl se_M_here (by omega) (ovM_o _ _ _ _) (c_M_hereN hl _ _ _ hmo t a h16 h19 ht (by omega)) rfl rfl (Nat.le_of_ble_eq_true rfl) (Nat.le_of_ble_eq_true rfl) (Nat.le_of_ble_eq_true rfl) (Nat.le_of_ble_eq_true rfl) (jk_r ?_)
  refine j_bipush (v := 48) C d_M_isDigit_4 (by decide) ?_
  refine j_bipush (v := 57) C d_M_isDigit_6 (by decide) ?_
  refine j_callS C d_M_isDigit_8 ml_M_102 mc_M_in st_M_in (c_M_in hl _ _ _ _) rfl rfl (Nat.le_of_ble_eq_true rfl) (Nat.le_of_ble_eq_true rfl) (Nat.le_of_ble_eq_true rfl) (Nat.le_of_ble_eq_true rfl) (jk_r ?_)
  exact j_zreturn C d_M_isDigit_11 rfl (by unfold inI; split <;> (try split) <;> decide) (by decide) (by decide) ⟨rfl, rfl, rfl⟩

theorem c_M_failN {l : Launch} (hl : l.stackTraces = false) {D : va_G} {cA : Nat → ClassId} {b n mo : Nat} (x : Int32) (σ : Nat → Int32) (α : Nat → Nat → Int32) (h : AH) (hmo : mo + 27 < n) (hw : ¬ 0 ≤ σ 20) : Cn l D cA b y_M_fail k_M_fail 0 0 0 0 [.ref mo, .int x] n (ovM mo σ α h) (Re none n (ovM mo (upd σ 20 x) α h)) := by
  have h1 := c_M_fail hl (D := D) (cA := cA) (b := b) x σ α h hmo
  rw [if_neg hw] at h1
  exact h1
theorem c_M_failY {l : Launch} (hl : l.stackTraces = false) {D : va_G} {cA : Nat → ClassId} {b n mo : Nat} (x : Int32) (σ : Nat → Int32) (α : Nat → Nat → Int32) (h : AH) (hmo : mo + 27 < n) (hw : 0 ≤ σ 20) : Cn l D cA b y_M_fail k_M_fail 0 0 0 0 [.ref mo, .int x] n (ovM mo σ α h) (Re none n (ovM mo σ α h)) := by
  have h1 := c_M_fail hl (D := D) (cA := cA) (b := b) x σ α h hmo
  rw [if_pos hw] at h1
  exact h1
