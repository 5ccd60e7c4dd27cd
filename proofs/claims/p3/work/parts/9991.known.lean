/-! ===== which reports and fields there are; value ===== -/
/-- either there is no such report for both, or it is the j-th -/
theorem rep_c {t y : Int32} {nr : Nat} (ht : t = nI nr) (hy : y = nI nr) (hle : nr ≤ 30) (r : Int32) : ((r < 0 ∨ ¬ r < t) ∧ inI r 0 (y - 1) = 0) ∨ ∃ j : Nat, j < nr ∧ r = nI j ∧ nI j < t ∧ inI r 0 (y - 1) = 1 := by
  by_cases h0 : r < 0
  · exact Or.inl ⟨Or.inl h0, in_bad (Or.inl h0)⟩
  · obtain ⟨j, hj, rfl⟩ := nI_of h0
    by_cases h1 : j < nr
    · exact Or.inr ⟨j, h1, rfl, by rw [ht]; exact nI_lt h1 (by omega), in_rep hy hle h1⟩
    · refine Or.inl ⟨Or.inr ?_, in_bad (Or.inr ?_)⟩
      · rw [ht]
        exact fun z => absurd (nI_le (a := nr) (b := j) (by omega) hj) (Int32.not_le.mpr z)
      · rw [hy]
        intro z
        rw [Int32.le_iff_toInt_le, nI_toInt hj] at z
        have e : (nI nr - 1 : Int32).toInt = (nr : Int) - 1 := by
          rw [Int32.toInt_sub, nI_toInt (by omega), show (1 : Int32).toInt = 1 by decide]
          apply Int.bmod_eq_of_le <;> omega
        rw [e] at z
        omega
/-- a number between 0 and k, or not, for both -/
theorem fld_c (k : Nat) (hk : k < 2 ^ 30) (f : Int32) : ((f < 0 ∨ ¬ f < nI (k + 1)) ∧ inI f 0 (nI k) = 0) ∨ ∃ e : Nat, e < k + 1 ∧ f = nI e ∧ ¬ f < 0 ∧ f < nI (k + 1) ∧ inI f 0 (nI k) = 1 := by
  by_cases h0 : f < 0
  · exact Or.inl ⟨Or.inl h0, in_bad (Or.inl h0)⟩
  · obtain ⟨e, he, rfl⟩ := nI_of h0
    by_cases h1 : e < k + 1
    · exact Or.inr ⟨e, h1, rfl, h0, nI_lt h1 (by omega), in_ok h0 (nI_le (by omega) (by omega))⟩
    · exact Or.inl ⟨Or.inr (fun z => absurd (nI_le (a := k + 1) (b := e) (by omega) he) (Int32.not_le.mpr z)), in_bad (Or.inr (nI_ge (by omega) he))⟩
theorem mvalue_1 {σ : Nat → Int32} {α : Nat → Nat → Int32} {r f : Int32} (h : inI r 0 (σ 2 - 1) = 0 ∨ inI f 0 19 = 0) : mvalue σ α r f = (0, upd σ 0 1) := by
  have hk : mkn σ r f = 0 := by
    unfold mkn kn2
    rcases h with z | z
    · rw [if_pos z]
    · rw [z]
      by_cases y : inI r 0 (σ 2 - 1) = 0
      · rw [if_pos y]
      · rw [if_neg y]
        rfl
  unfold mvalue
  rw [hk]
  rfl
theorem mkn_1 {σ : Nat → Int32} {r f : Int32} (h1 : inI r 0 (σ 2 - 1) = 1) (h2 : inI f 0 19 = 1) : mkn σ r f = 1 := by
  unfold mkn kn2
  rw [h1, h2]
  rfl
theorem mvalue_2 {σ : Nat → Int32} {α : Nat → Nat → Int32} {j e : Nat} (h1 : inI (nI j) 0 (σ 2 - 1) = 1) (h2 : inI (nI e) 0 19 = 1) (hj : j < 30) (he : e < 20) (h : α 10 (20 * j + e) = 0) : mvalue σ α (nI j) (nI e) = (0, upd σ 0 2) := by
  unfold mvalue
  rw [mkn_1 h1 h2, e20, nI_clamp (by omega), h]
  rfl
theorem mvalue_3 {σ : Nat → Int32} {α : Nat → Nat → Int32} {j e : Nat} (h1 : inI (nI j) 0 (σ 2 - 1) = 1) (h2 : inI (nI e) 0 19 = 1) (hj : j < 30) (he : e < 20) (h : ¬ α 10 (20 * j + e) = 0) : mvalue σ α (nI j) (nI e) = (α 13 (20 * j + e), upd σ 0 0) := by
  have ht : gsI (mkn σ (nI j) (nI e)) (if mkn σ (nI j) (nI e) = 0 then 0 else if α 10 (20 * nI j + nI e).toNatClampNeg = 0 then 0 else 1) 1 = 0 := by
    rw [mkn_1 h1 h2, e20, nI_clamp (by omega), if_neg (by decide), if_neg h]
    rfl
  show (if bz (gsI (mkn σ (nI j) (nI e)) (if mkn σ (nI j) (nI e) = 0 then 0 else if α 10 (20 * nI j + nI e).toNatClampNeg = 0 then 0 else 1) 1) = 0 then _ else (α 13 (20 * nI j + nI e).toNatClampNeg, upd σ 0 (gsI (mkn σ (nI j) (nI e)) (if mkn σ (nI j) (nI e) = 0 then 0 else if α 10 (20 * nI j + nI e).toNatClampNeg = 0 then 0 else 1) 1))) = _
  rw [ht, e20, nI_clamp (by omega)]
  rfl
