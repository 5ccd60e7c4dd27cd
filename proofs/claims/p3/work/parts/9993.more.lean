/-! ===== fault, inside, the clock, at: which way the reference goes ===== -/
theorem mfault_1 {σ : Nat → Int32} {α : Nat → Nat → Int32} {r f : Int32} (h : inI r 0 (σ 2 - 1) = 0 ∨ inI f 0 19 = 0) : mfault σ α r f = (upd σ 0 1, α) := by
  unfold mfault
  rw [mkn_0 h]
  rfl
theorem mfault_2 {σ : Nat → Int32} {α : Nat → Nat → Int32} {j e : Nat} (h1 : inI (nI j) 0 (σ 2 - 1) = 1) (h2 : inI (nI e) 0 19 = 1) (hj : j < 30) (he : e < 20) (h : ¬ α 8 j = 3 ∨ ¬ α 12 (20 * j + e) = 0) : mfault σ α (nI j) (nI e) = (upd σ 0 2, α) := by
  have ht : (if mkn σ (nI j) (nI e) = 0 then (0 : Int32) else if α 8 (nI j).toNatClampNeg = 3 then (if α 12 (20 * nI j + nI e).toNatClampNeg = 0 then 1 else 0) else 0) = 0 := by
    rw [mkn_1 h1 h2, e20, nI_clamp (by omega), nI_clamp (by omega), if_neg (by decide)]
    by_cases y : α 8 j = 3
    · rw [if_pos y, if_neg (h.resolve_left (fun z => z y))]
    · rw [if_neg y]
  unfold mfault
  rw [ht, mkn_1 h1 h2]
  rfl
theorem mfault_3 {σ : Nat → Int32} {α : Nat → Nat → Int32} {j e : Nat} (h1 : inI (nI j) 0 (σ 2 - 1) = 1) (h2 : inI (nI e) 0 19 = 1) (hj : j < 30) (he : e < 20) (h8 : α 8 j = 3) (h12 : α 12 (20 * j + e) = 0) : mfault σ α (nI j) (nI e) = (upd σ 0 0, upa α 12 (upd (α 12) (20 * j + e) 1)) := by
  have ht : (if mkn σ (nI j) (nI e) = 0 then (0 : Int32) else if α 8 (nI j).toNatClampNeg = 3 then (if α 12 (20 * nI j + nI e).toNatClampNeg = 0 then 1 else 0) else 0) = 1 := by
    rw [mkn_1 h1 h2, e20, nI_clamp (by omega), nI_clamp (by omega), if_neg (by decide), if_pos h8, if_pos h12]
  unfold mfault
  rw [ht, mkn_1 h1 h2, e20, nI_clamp (by omega)]
  rfl
theorem mtick_1 {σ : Nat → Int32} {x : Int32} (h : inI x 1 5000 = 0 ∨ 99999 - σ 1 < x) : mtick σ x = (0, upd σ 0 1) := by
  unfold mtick
  rcases h with z | z
  · rw [if_pos z]
  · by_cases y : inI x 1 5000 = 0
    · rw [if_pos y]
    · rw [if_neg y, if_pos z]
theorem mtick_2 {σ : Nat → Int32} {x : Int32} (h : inI x 1 5000 = 1) (h2 : ¬ 99999 - σ 1 < x) : mtick σ x = (σ 1 + x, upd (upd σ 0 0) 1 (σ 1 + x)) := by
  unfold mtick
  rw [h, if_neg (by decide), if_neg h2]
/-- the clock: both refuse, or both go on -/
theorem tick_c {ξ1 σ1 : Int32} (hc : rlC ξ1 σ1) (x : Int32) : ((x < 1 ∨ 5000 < x ∨ ¬ ξ1 + x ≤ 99999) ∧ (inI x 1 5000 = 0 ∨ 99999 - σ1 < x)) ∨ (¬ x < 1 ∧ ¬ 5000 < x ∧ ξ1 + x ≤ 99999 ∧ inI x 1 5000 = 1 ∧ ¬ 99999 - σ1 < x ∧ ξ1 + x = σ1 + x ∧ rlC (ξ1 + x) (σ1 + x)) := by
  obtain ⟨t, ht, rfl, rfl⟩ := hc
  by_cases h0 : x < 1
  · exact Or.inl ⟨Or.inl h0, Or.inl (in_bad (Or.inl h0))⟩
  · have hz : ¬ x < 0 := fun z => h0 (Int32.lt_trans z (by decide))
    obtain ⟨k, hk, rfl⟩ := nI_of hz
    by_cases h1 : k ≤ 5000
    · have e1 : ¬ (5000 : Int32) < nI k := fun z => absurd (show nI k ≤ nI 5000 from nI_le h1 (by omega)) (Int32.not_le.mpr z)
      have e2 : inI (nI k) 1 5000 = 1 := in_ok h0 (show nI k ≤ nI 5000 from nI_le h1 (by omega))
      have e3 : (99999 : Int32) - nI t = nI (99999 - t) := by rw [show (99999 : Int32) = nI 99999 from rfl, pk_sub (by omega)]
      rw [nI_add, e3]
      by_cases h2 : t + k ≤ 99999
      · exact Or.inr ⟨h0, e1, nI_le (b := 99999) h2 (by omega), e2, fun z => absurd (nI_le (a := k) (b := 99999 - t) (by omega) (by omega)) (Int32.not_le.mpr z), rfl, ⟨t + k, h2, rfl, rfl⟩⟩
      · exact Or.inl ⟨Or.inr (Or.inr (nI_ge (a := 99999) (by omega) (by omega))), Or.inr (nI_lt (by omega) (by omega))⟩
    · have e1 : (5000 : Int32) < nI k := nI_lt (a := 5000) (by omega) hk
      exact Or.inl ⟨Or.inr (Or.inl e1), Or.inl (in_bad (Or.inr (fun z => absurd z (Int32.not_le.mpr e1))))⟩
