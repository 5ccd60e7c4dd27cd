/-! ===== which reports and fields there are; value ===== -/
/-- either there is no such report for both, or it is the j-th -/
theorem rep_c {t y : Int32} {nr : Nat} (ht : t = nI nr) (hy : y = nI nr) (hle : nr ≤ 30) (r : Int32) : ((r < 0 ∨ ¬ r < t) ∧ inI r 0 (y - 1) = 0) ∨ ∃ j : Nat, j < nr ∧ r = nI j ∧ nI j < t ∧ inI r 0 (y - 1) = 1 := by
  by_cases h0 : r < 0
  · exact Or.inl ⟨Or.inl h0, in_bad (Or.inl h0)⟩
  · obtain ⟨j, hj, rfl⟩ := nI_of h0
    by_cases h1 : j < nr
    · exact Or.inr ⟨j, h1, rfl, by rw [ht]; exact nI_lt h1 (by omega), in_rep hy hle h1⟩
    · refine Or.inl ⟨Or.inr ?_, in_bad (Or.inr ?_)⟩
      · rw [ht]
        exact fun z => absurd (nI_le (a := nr) (b := j) (by omega) hj) (Int32.not_le.mpr z)
      · rw [hy]
        intro z
        rw [Int32.le_iff_toInt_le, nI_toInt hj] at z
        have e : (nI nr - 1 : Int32).toInt = (nr : Int) - 1 := by
          rw [Int32.toInt_sub, nI_toInt (by omega), show (1 : Int32).toInt = 1 by decide]
          apply Int.bmod_eq_of_le <;> omega
        rw [e] at z
        omega
/-- a number between 0 and k, or not, for both -/
theorem fld_c (k : Nat) (hk : k < 2 ^ 30) (f : Int32) : ((f < 0 ∨ ¬ f < nI (k + 1)) ∧ inI f 0 (nI k) = 0) ∨ ∃ e : Nat, e < k + 1 ∧ f = nI e ∧ ¬ f < 0 ∧ f < nI (k + 1) ∧ inI f 0 (nI k) = 1 := by
  by_cases h0 : f < 0
  · exact Or.inl ⟨Or.inl h0, in_bad (Or.inl h0)⟩
  · obtain ⟨e, he, rfl⟩ := nI_of h0
    by_cases h1 : e < k + 1
    · exact Or.inr ⟨e, h1, rfl, h0, nI_lt h1 (by omega), in_ok h0 (nI_le (by omega) (by omega))⟩
    · exact Or.inl ⟨Or.inr (fun z => absurd (nI_le (a := k + 1) (b := e) (by omega) he) (Int32.not_le.mpr z)), in_bad (Or.inr (nI_ge (by omega) he))⟩
theorem mvalue_1 {σ : Nat → Int32} {α : Nat → Nat → Int32} {r f : Int32} (h : inI r 0 (σ 2 - 1) = 0 ∨ inI f 0 19 = 0) : mvalue σ α r f = (0, upd σ 0 1) := by
  have hk : mkn σ r f = 0 := by
    unfold mkn kn2
    rcases h with z | z
    · rw [if_pos z]
    · rw [z]
      by_cases y : inI r 0 (σ 2 - 1) = 0
      · rw [if_pos y]
      · rw [if_neg y]
        rfl
  unfold mvalue
  rw [hk]
  rfl
theorem mkn_1 {σ : Nat → Int32} {r f : Int32} (h1 : inI r 0 (σ 2 - 1) = 1) (h2 : inI f 0 19 = 1) : mkn σ r f = 1 := by
  unfold mkn kn2
  rw [h1, h2]
  rfl
theorem mvalue_2 {σ : Nat → Int32} {α : Nat → Nat → Int32} {j e : Nat} (h1 : inI (nI j) 0 (σ 2 - 1) = 1) (h2 : inI (nI e) 0 19 = 1) (hj : j < 30) (he : e < 20) (h : α 10 (20 * j + e) = 0) : mvalue σ α (nI j) (nI e) = (0, upd σ 0 2) := by
  unfold mvalue
  rw [mkn_1 h1 h2, e20, nI_clamp (by omega), h]
  rfl
theorem mvalue_3 {σ : Nat → Int32} {α : Nat → Nat → Int32} {j e : Nat} (h1 : inI (nI j) 0 (σ 2 - 1) = 1) (h2 : inI (nI e) 0 19 = 1) (hj : j < 30) (he : e < 20) (h : ¬ α 10 (20 * j + e) = 0) : mvalue σ α (nI j) (nI e) = (α 13 (20 * j + e), upd σ 0 0) := by
  have ht : gsI (mkn σ (nI j) (nI e)) (if mkn σ (nI j) (nI e) = 0 then 0 else if α 10 (20 * nI j + nI e).toNatClampNeg = 0 then 0 else 1) 1 = 0 := by
    rw [mkn_1 h1 h2, e20, nI_clamp (by omega), if_neg (by decide), if_neg h]
    rfl
  show (if bz (gsI (mkn σ (nI j) (nI e)) (if mkn σ (nI j) (nI e) = 0 then 0 else if α 10 (20 * nI j + nI e).toNatClampNeg = 0 then 0 else 1) 1) = 0 then _ else (α 13 (20 * nI j + nI e).toNatClampNeg, upd σ 0 (gsI (mkn σ (nI j) (nI e)) (if mkn σ (nI j) (nI e) = 0 then 0 else if α 10 (20 * nI j + nI e).toNatClampNeg = 0 then 0 else 1) 1))) = _
  rw [ht, e20, nI_clamp (by omega)]
  rfl
/-! ===== field, fault, inside: which way both go ===== -/
theorem mkn_0 {σ : Nat → Int32} {r f : Int32} (h : inI r 0 (σ 2 - 1) = 0 ∨ inI f 0 19 = 0) : mkn σ r f = 0 := by
  unfold mkn kn2
  rcases h with z | z
  · rw [if_pos z]
  · rw [z]
    by_cases y : inI r 0 (σ 2 - 1) = 0
    · rw [if_pos y]
    · rw [if_neg y]
      rfl
theorem mfield_t {σ : Nat → Int32} {α : Nat → Nat → Int32} {r f v t : Int32} (h : gsI (mkn σ r f) (inI v (-99999) 99999) (if mkn σ r f = 0 then 0 else if α 8 r.toNatClampNeg = 0 then 1 else if α 12 (20 * r + f).toNatClampNeg = 0 then 0 else 1) = t) (ht : bz t = 0) : mfield σ α r f v = (upd σ 0 t, α) := by
  subst h
  exact if_pos ht
theorem mfield_r {σ : Nat → Int32} {α : Nat → Nat → Int32} {r f v : Int32} (h : gsI (mkn σ r f) (inI v (-99999) 99999) (if mkn σ r f = 0 then 0 else if α 8 r.toNatClampNeg = 0 then 1 else if α 12 (20 * r + f).toNatClampNeg = 0 then 0 else 1) = 0) : mfield σ α r f v = (upd σ 0 0, mtell α (20 * r + f).toNatClampNeg v) := by
  have e : mfield σ α r f v = (upd σ 0 (gsI (mkn σ r f) (inI v (-99999) 99999) (if mkn σ r f = 0 then 0 else if α 8 r.toNatClampNeg = 0 then 1 else if α 12 (20 * r + f).toNatClampNeg = 0 then 0 else 1)), mtell α (20 * r + f).toNatClampNeg v) := if_neg (by rw [h]; decide)
  rw [e, h]
theorem mfield_1 {σ : Nat → Int32} {α : Nat → Nat → Int32} {r f v : Int32} (h : inI r 0 (σ 2 - 1) = 0 ∨ inI f 0 19 = 0) : mfield σ α r f v = (upd σ 0 1, α) := mfield_t (by rw [mkn_0 h]; rfl) (by decide)
theorem mfield_2 {σ : Nat → Int32} {α : Nat → Nat → Int32} {r f v : Int32} (h1 : inI r 0 (σ 2 - 1) = 1) (h2 : inI f 0 19 = 1) (h : inI v (-99999) 99999 = 0) : mfield σ α r f v = (upd σ 0 2, α) := mfield_t (by rw [mkn_1 h1 h2, h]; rfl) (by decide)
theorem mfield_3 {σ : Nat → Int32} {α : Nat → Nat → Int32} {j e : Nat} {v : Int32} (h1 : inI (nI j) 0 (σ 2 - 1) = 1) (h2 : inI (nI e) 0 19 = 1) (hv : inI v (-99999) 99999 = 1) (hj : j < 30) (he : e < 20) (h8 : ¬ α 8 j = 0) (h12 : α 12 (20 * j + e) = 0) : mfield σ α (nI j) (nI e) v = (upd σ 0 3, α) :=
  mfield_t (by rw [mkn_1 h1 h2, hv, e20, nI_clamp (by omega), nI_clamp (by omega), if_neg (by decide), if_neg h8, if_pos h12]; rfl) (by decide)
theorem mfield_4 {σ : Nat → Int32} {α : Nat → Nat → Int32} {j e : Nat} {v : Int32} (h1 : inI (nI j) 0 (σ 2 - 1) = 1) (h2 : inI (nI e) 0 19 = 1) (hv : inI v (-99999) 99999 = 1) (hj : j < 30) (he : e < 20) (h : α 8 j = 0 ∨ ¬ α 12 (20 * j + e) = 0) : mfield σ α (nI j) (nI e) v = (upd σ 0 0, mtell α (20 * j + e) v) := by
  rw [mfield_r (by
    rw [mkn_1 h1 h2, hv, e20, nI_clamp (by omega), nI_clamp (by omega), if_neg (by decide)]
    by_cases h8 : α 8 j = 0
    · rw [if_pos h8]; rfl
    · rw [if_neg h8, if_neg (h.resolve_left h8)]; rfl), e20, nI_clamp (by omega)]
/-- the class's side: told or not -/
theorem rct_c {j : Nat} {i k t f : Int32} {ζ g w : Nat → Int32} {α : Nat → Nat → Int32} {e : Nat} (h : rlQ j i k t f ζ g w α) (he : e < 20) : rct ζ (nI e) = 0 ↔ ¬ (α 8 j = 0 ∨ ¬ α 12 (20 * j + e) = 0) := by
  obtain ⟨h1, h2, h3, h4, h5, ⟨c, hc, z1, z2, -⟩, h7, h8, h9, h10⟩ := h
  have e8 : ζ 4 = α 8 j := by rw [z1, z2]
  have hb := h9 e (by omega)
  unfold rct
  rw [e8]
  by_cases y : α 8 j = 0
  · rw [if_pos y]
    exact ⟨fun q => absurd q (by decide), fun q => absurd (Or.inl y) q⟩
  · rw [if_neg y]
    rcases xhs_01 (ζ 2) (show e < 32 by omega) with q | q
    · rw [if_pos q]
      refine ⟨fun _ p => ?_, fun _ => rfl⟩
      rcases p with p | p
      · exact y p
      · have := hb.mpr ⟨he, p⟩
        rw [q] at this
        exact absurd this (by decide)
    · rw [if_neg (by rw [q]; decide)]
      exact ⟨fun p => absurd p (by decide), fun p => absurd (Or.inr (hb.mp q).2) p⟩
theorem rcl_c {j : Nat} {i k t f : Int32} {ζ g w : Nat → Int32} {α : Nat → Nat → Int32} (h : rlQ j i k t f ζ g w α) : rcl ζ = 0 ↔ ¬ α 8 j = 3 := by
  obtain ⟨h1, h2, h3, h4, h5, ⟨c, hc, z1, z2, -⟩, h7, h8, h9, h10⟩ := h
  unfold rcl
  rw [z1, z2]
  rcases (show c = 0 ∨ c = 1 ∨ c = 2 ∨ c = 3 by omega) with rfl | rfl | rfl | rfl <;> decide
