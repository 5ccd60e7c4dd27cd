/-! ===== the law's cases on a fresh object: printed by program ===== -/
theorem ovM_out {mo : Nat} {σ : Nat → Int32} {α : Nat → Nat → Int32} {h : AH} {j : Nat} {x : AC} (hj : mo + 28 ≤ j) : hu (ovM mo σ α h) j x = ovM mo σ α (hu h j x) := by
  rw [ovM_L, ovM_L]
  exact ovL_out (Or.inr hj)
theorem ovM_Lc {mo a : Nat} {σ : Nat → Int32} {α : Nat → Nat → Int32} {cs : List AC} {h : AH} (hj : mo + 28 ≤ a) : ovL a cs (ovM mo σ α h) = ovM mo σ α (ovL a cs h) := by
  rw [ovM_L, ovM_L]
  exact ovL_ovL (Or.inr hj)
theorem lw_eT {xo mo j : Nat} {ξ : Nat → Int32} {β : Nat → Nat → Int32} {ρ : Nat → Option Nat} {u v : Nat} {σ : Nat → Int32} {α : Nat → Nat → Int32} {h : AH} {x : AC} (hd1 : xo + 28 ≤ mo) (hd2 : mo + 28 ≤ j) : hu (ovX xo ξ β ρ u v (ovM mo σ α h)) j x = ovM mo σ α (hu (ovX xo ξ β ρ u v h) j x) := by
  rw [ovX_M hd1, ovM_out hd2]
theorem lw_eR {xo mo a j : Nat} {ξ : Nat → Int32} {β : Nat → Nat → Int32} {ρ : Nat → Option Nat} {u v : Nat} {σ : Nat → Int32} {α : Nat → Nat → Int32} {cs : List AC} {h : AH} {x : AC} (hd1 : xo + 28 ≤ mo) (hd2 : mo + 28 ≤ j) (hd3 : mo + 28 ≤ a) : hu (ovX xo ξ β ρ u v (ovL a cs (ovM mo σ α h))) j x = ovM mo σ α (hu (ovX xo ξ β ρ u v (ovL a cs h)) j x) := by
  rw [ovM_Lc hd3, lw_eT hd1 hd2]
theorem six {q k len : Nat} (h : q + k < len) (hl : len < 2 ^ 31) : vp_in (nI q + nI k) len := by
  rw [nI_add]
  exact vp_in_nI h hl
theorem sixc {xs : Nat → Int32} {q k len : Nat} (h : q + k < len) (hl : len < 2 ^ 31) : xs (nI q + nI k).toNatClampNeg = xs (q + k) := by
  rw [nI_add, nI_clamp (by omega)]
theorem six0 {q len : Nat} (h : q + 0 < len) (hl : len < 2 ^ 31) : vp_in (nI q) len := vp_in_nI h hl
theorem six0c {xs : Nat → Int32} {q len : Nat} (h : q + 0 < len) (hl : len < 2 ^ 31) : xs (nI q).toNatClampNeg = xs (q + 0) := by
  rw [nI_clamp (by omega)]
  rfl
theorem vpz {f : Nat → Int64} {z w : Int32} (h : z = w) : lg_cmp (vp_updL f (0 : Int32).toNatClampNeg z.toInt64 (0 : Int32).toNatClampNeg) w.toInt64 = 0 := by
  subst h
  rw [pk_uLs]
  unfold lg_cmp
  simp
theorem lt_le {x a z : Int32} (h : a.toInt + 1 = z.toInt) : x < z ↔ x ≤ a := by
  rw [Int32.lt_iff_toInt_lt, Int32.le_iff_toInt_le]
  omega
theorem bad4 {x : Int32} (h : x < 0 ∨ ¬ x < 5) : x < 0 ∨ ¬ x ≤ 4 := h.imp id (fun z q => z ((lt_le (by decide)).mpr q))
theorem bad19 {x : Int32} (h : x < 0 ∨ ¬ x < 20) : x < 0 ∨ ¬ x ≤ 19 := h.imp id (fun z q => z ((lt_le (by decide)).mpr q))
theorem ok4 {x : Int32} (h : x < 5) : x ≤ 4 := (lt_le (by decide)).mp h
theorem ok19 {x : Int32} (h : x < 20) : x ≤ 19 := (lt_le (by decide)).mp h
theorem unk0 (r : Int32) : r < 0 ∨ ¬ r < ξ0 0 := Decidable.em (r < 0)
theorem unk8 (r : Int32) : r < 0 ∨ ¬ r < ξ0 8 := Decidable.em (r < 0)
theorem unkN (r : Int32) : inI r 0 (-1) = 0 := in_bad (by
  by_cases z : r < 0
  · exact Or.inl z
  · refine Or.inr (fun w => z ?_)
    have h1 := Int32.le_iff_toInt_le.mp w
    rw [Int32.lt_iff_toInt_lt]
    have h2 : (-1 : Int32).toInt = -1 := by decide
    have h3 : (0 : Int32).toInt = 0 := by decide
    omega)
theorem unkM (r : Int32) : inI r 0 (σ0 2 - 1) = 0 := unkN r
theorem unkW (r : Int32) : inI r 0 (σ0 34 - 1) = 0 := unkN r
theorem σ0_2 : σ0 2 = nI 0 := by decide
theorem σ0_34 : σ0 34 = nI 0 := by decide
theorem σ0_16 : σ0 16 = nI 0 := by decide
theorem ξ0_2 : ξ0 2 = nI 0 := by decide
theorem kn_0 (c : Int32) : kn2 0 c = 0 := if_pos rfl
theorem kn_b {a : Int32} : kn2 a 0 = 0 := by
  unfold kn2
  split
  · rfl
  · rw [if_pos rfl]
theorem kn_1 : kn2 1 1 = 1 := by decide
theorem bz1 : bz 1 = 0 := by decide
theorem bz2 : bz 2 = 0 := by decide
theorem bz0 : ¬ bz 0 = 0 := by decide
theorem tr_report_1 (σ : Nat → Int32) (α : Nat → Nat → Int32) (i k : Int32) (hk : k < 0 ∨ ¬ k < 5) : (mreport σ α i k).2.1 0 = 1 := by
  have e : inI k 0 4 = 0 := in_bad (bad4 hk)
  simp only [mreport, e, gs_1, bz1, if_true]
  exact upd_s _ _ _
theorem tr_report_2 (σ : Nat → Int32) (α : Nat → Nat → Int32) (i k : Int32) (k0 : ¬ k < 0) (k1 : k < 5) (hi : i < 0 ∨ ¬ i ≤ 9999) : (mreport σ α i k).2.1 0 = 2 := by
  have e : inI k 0 4 = 1 := in_ok k0 (ok4 k1)
  have e2 : inI i 0 9999 = 0 := in_bad hi
  simp only [mreport, e, e2, gs_2 (show (1 : Int32) ≠ 0 by decide), bz2, if_true]
  exact upd_s _ _ _
theorem tr_report_0 (α : Nat → Nat → Int32) (i k : Int32) (k0 : ¬ k < 0) (k1 : k < 5) (i0 : ¬ i < 0) (i1 : i ≤ 9999) : (mreport σ0 α i k).2.1 0 = 0 ∧ (mreport σ0 α i k).1 = 0 := by
  have e : inI k 0 4 = 1 := in_ok k0 (ok4 k1)
  have e2 : inI i 0 9999 = 1 := in_ok i0 i1
  have e3 : (if (30 : Int32) ≤ σ0 2 then (0 : Int32) else 1) = 1 := by decide
  have e4 : gsI 1 1 1 = 0 := by decide
  simp only [mreport, e, e2, e3, e4, bz0, if_false]
  exact ⟨rfl, by decide⟩
theorem tr_ask_1 (σ : Nat → Int32) (α : Nat → Nat → Int32) (k f on : Int32) (hk : k < 0 ∨ ¬ k < 5) : (mask σ α k f on).1 0 = 1 := by
  have e : inI k 0 4 = 0 := in_bad (bad4 hk)
  simp only [mask, e, kn_0, if_true]
  exact upd_s _ _ _
theorem tr_ask_2 (σ : Nat → Int32) (α : Nat → Nat → Int32) (k f on : Int32) (hk : f < 0 ∨ ¬ f < 20) : (mask σ α k f on).1 0 = 1 := by
  have e : inI f 0 19 = 0 := in_bad (bad19 hk)
  simp only [mask, e, kn_b, if_true]
  exact upd_s _ _ _
theorem tr_ask_0 (σ : Nat → Int32) (α : Nat → Nat → Int32) (k f on : Int32) (k0 : ¬ k < 0) (k1 : k < 5) (f0 : ¬ f < 0) (f1 : f < 20) : (mask σ α k f on).1 0 = 0 := by
  have e : inI k 0 4 = 1 := in_ok k0 (ok4 k1)
  have e2 : inI f 0 19 = 1 := in_ok f0 (ok19 f1)
  simp only [mask, e, e2, kn_1, show ¬ (1 : Int32) = 0 by decide, if_false]
  exact upd_s _ _ _
theorem tr_hide_1 (σ : Nat → Int32) (α : Nat → Nat → Int32) (f q on : Int32) (hk : f < 0 ∨ ¬ f < 20) : (mhide σ α f q on).1 0 = 1 := by
  have e : inI f 0 19 = 0 := in_bad (bad19 hk)
  simp only [mhide, e, kn_0, if_true]
  exact upd_s _ _ _
theorem tr_hide_2 (σ : Nat → Int32) (α : Nat → Nat → Int32) (f q on : Int32) (hk : q < 0 ∨ ¬ q < 20) : (mhide σ α f q on).1 0 = 1 := by
  have e : inI q 0 19 = 0 := in_bad (bad19 hk)
  simp only [mhide, e, kn_b, if_true]
  exact upd_s _ _ _
theorem tr_hide_0 (σ : Nat → Int32) (α : Nat → Nat → Int32) (f q on : Int32) (f0 : ¬ f < 0) (f1 : f < 20) (q0 : ¬ q < 0) (q1 : q < 20) : (mhide σ α f q on).1 0 = 0 := by
  have e : inI f 0 19 = 1 := in_ok f0 (ok19 f1)
  have e2 : inI q 0 19 = 1 := in_ok q0 (ok19 q1)
  simp only [mhide, e, e2, kn_1, show ¬ (1 : Int32) = 0 by decide, if_false]
  exact upd_s _ _ _
theorem tr_field_u (α : Nat → Nat → Int32) (r f v : Int32) : (mfield σ0 α r f v).1 0 = 1 := by
  simp only [mfield, mkn, unkM r, kn_0, gs_1, bz1, if_true]
  exact upd_s _ _ _
theorem tr_act_u (α : Nat → Nat → Int32) (r k t : Int32) : (mact σ0 α r k t).2.1 0 = 1 := by
  simp only [mact, unkM r, kn_0, gs_1, bz1, if_true]
  exact upd_s _ _ _
theorem tr_inside_u (α : Nat → Nat → Int32) (r k : Int32) : (minside σ0 α r k).1 0 = 1 := by
  simp only [minside, unkM r, gs_1, bz1, if_true]
  exact upd_s _ _ _
theorem tr_fault_u (α : Nat → Nat → Int32) (r f : Int32) : (mfault σ0 α r f).1 0 = 1 := by
  simp only [mfault, mkn, unkM r, kn_0, gs_1, bz1, if_true]
  exact upd_s _ _ _
theorem tr_value_u (α : Nat → Nat → Int32) (r f : Int32) : (mvalue σ0 α r f).2 0 = 1 := by
  simp only [mvalue, mkn, unkM r, kn_0, gs_1, bz1, if_true]
  exact upd_s _ _ _
theorem tr_reportAt_u (α : Nat → Nat → Int32) (r w : Int32) : (mreportAt σ0 α r w).2 0 = 1 := by
  simp only [mreportAt, unkM r, kn_0, if_true]
  exact upd_s _ _ _
theorem tr_wanting_u (α : Nat → Nat → Int32) (i w : Int32) : (mwanting σ0 α i w).2 0 = 1 := by
  simp only [mwanting, unkW i, kn_0, if_true]
  exact upd_s _ _ _
theorem tr_at_1 (σ : Nat → Int32) (α : Nat → Nat → Int32) (i : Int32) (hi : i < 0) : (mat σ α i).2 0 = 1 := by
  simp only [mat, hi, if_true]
  exact upd_s _ _ _
theorem tr_at_0 (α : Nat → Nat → Int32) (i : Int32) (hi : ¬ i < 0) : (mat σ0 α i).2 0 = 0 ∧ (mat σ0 α i).1 = -1 := by
  have e : σ0 37 ≤ i := Int32.not_lt.mp hi
  simp only [mat, hi, if_false, e, if_true]
  exact ⟨upd_s _ _ _, trivial⟩
theorem tr_late_1 (σ : Nat → Int32) (α : Nat → Nat → Int32) (nr : Nat) (x i : Int32) (hx : x < 0 ∨ 99999 < x ∨ i < 0) : (mlate σ α nr x i).2 0 = 1 := by
  by_cases e : inI x 0 99999 = 0
  · simp only [mlate, e, if_true]
    exact upd_s _ _ _
  · have hi : i < 0 := by
      rcases hx with h | h | h
      · exact absurd (in_bad (Or.inl h)) e
      · exact absurd (in_bad (Or.inr (Int32.not_le.mpr h))) e
      · exact h
    simp only [mlate, e, if_false, hi, if_true]
    exact upd_s _ _ _
theorem tr_late_0 (α : Nat → Nat → Int32) (x i : Int32) (h0 : ¬ x < 0) (h1 : ¬ 99999 < x) (h2 : 0 ≤ i) : (mlate σ0 α 0 x i).2 0 = 0 ∧ (mlate σ0 α 0 x i).1 = -1 := by
  have e : inI x 0 99999 = 1 := in_ok h0 (Int32.not_lt.mp h1)
  simp only [mlate, e, show ¬ (1 : Int32) = 0 by decide, Int32.not_lt.mpr h2, if_false]
  exact ⟨upd_s _ _ _, rfl⟩
theorem tr_tick_1 (σ : Nat → Int32) (x : Int32) (hx : x < 1 ∨ 5000 < x) : (mtick σ x).2 0 = 1 := by
  have e : inI x 1 5000 = 0 := in_bad (hx.imp id Int32.not_le.mpr)
  simp only [mtick, e, if_true]
  exact upd_s _ _ _
theorem x5000 {x : Int32} (h1 : ¬ 5000 < x) : ξ0 1 + x ≤ 99999 ∧ ¬ 99999 - σ0 1 < x := by
  have z : ξ0 1 + x = x := by
    show (0 : Int32) + x = x
    exact Int32.zero_add x
  have z2 : (99999 : Int32) - σ0 1 = 99999 := by decide
  have h2 := Int32.le_iff_toInt_le.mp (Int32.not_lt.mp h1)
  have h3 : (5000 : Int32).toInt = 5000 := by decide
  have h4 : (99999 : Int32).toInt = 99999 := by decide
  rw [z, z2]
  refine ⟨Int32.le_iff_toInt_le.mpr (by omega), fun q => ?_⟩
  have := Int32.lt_iff_toInt_lt.mp q
  omega
theorem tr_tick_0 (x : Int32) (h0 : ¬ x < 1) (h1 : ¬ 5000 < x) : (mtick σ0 x).2 0 = 0 ∧ (mtick σ0 x).1 = ξ0 1 + x := by
  have e : inI x 1 5000 = 1 := in_ok h0 (Int32.not_lt.mp h1)
  simp only [mtick, e, show ¬ (1 : Int32) = 0 by decide, (x5000 h1).2, if_false]
  exact ⟨rfl, rfl⟩
theorem in5 {x : Int32} (h0 : ¬ x < 0) (h1 : x < 5) : vp_in x 5 := by
  obtain ⟨j, hj, rfl⟩ := nI_of2 (n := 4) (show (4 : Int32).toInt = (4 : Nat) by decide) h0 (ok4 h1)
  exact vp_in_nI (by omega) (by omega)
theorem in20 {x : Int32} (h0 : ¬ x < 0) (h1 : x < 20) : vp_in x 20 := by
  obtain ⟨j, hj, rfl⟩ := nI_of2 (n := 19) (show (19 : Int32).toInt = (19 : Nat) by decide) h0 (ok19 h1)
  exact vp_in_nI (by omega) (by omega)
