/-! ===== rules: class and reference stand alike behind it: printed by program ===== -/
theorem Rel.rules_6_s {lo n : Nat} {ξ : Nat → Int32} {β : Nat → Nat → Int32} {ρ : Nat → Option Nat} {h : AH} {σ : Nat → Int32} {α : Nat → Nat → Int32} (hR : Rel lo n ξ β ρ 13 6 h σ α) {t a' : Nat} {β' : Nat → Nat → Int32} {σ' : Nat → Int32} {α' : Nat → Nat → Int32} {rs : List Ru} (ht : t ≤ 300) (hC : crul (β 4) t (t + 1) 0 [] = some rs) (hA : Abw 6 β' β) (hX : RuX (β' (6 + 1)) (β' (6 + 2)) (β' (6 + 3)) (β' (6 + 4)) (β' (6 + 5)) (β' (6 + 6)) rs) (hK : KeS σ' σ) (h16 : σ' 16 = 0) (hF : FRn α') (hL : ∀ x, x < 22 ∨ 32 < x → α' x = α x) (h21 : σ' 21 = nI rs.length) (hM : RuM α' rs) (hFR : FR α') : Rel lo n (upd (upd (xq (upd (upd ξ 4 (nI t)) 6 (nI rs.length)) a') 3 (-1)) 2 0) β' ρ 6 13 h σ' α' := by
  obtain ⟨nr, cs, I, K, T, F, Z, G, W, t1, rs1, qk, ql, h1, h2, h3, h4, h5, h6, h7, h8, h9, h10, h11, h12⟩ := hR
  obtain ⟨o1, o2, o3⟩ := crul_ok ht (t + 1) 0 [] rs (by omega) (by simp) (fun q x hx => by cases hx) (fun q x hx => by cases hx) hC
  have b2 : β' 2 = β 2 := hA 2 (by omega)
  have b3 : β' 3 = β 3 := hA 3 (by omega)
  have b4 : β' 4 = β 4 := hA 4 (by omega)
  have b21 : β' 21 = β 21 := hA 21 (by omega)
  have b22 : β' 22 = β 22 := hA 22 (by omega)
  have b27 : β' 27 = β 27 := hA 27 (by omega)
  have s1 : σ' 1 = σ 1 := hK 1 (by decide) (by decide) (by decide) (by decide) (by decide) (by decide) (by decide)
  have s2 : σ' 2 = σ 2 := hK 2 (by decide) (by decide) (by decide) (by decide) (by decide) (by decide) (by decide)
  have s34 : σ' 34 = σ 34 := hK 34 (by decide) (by decide) (by decide) (by decide) (by decide) (by decide) (by decide)
  have s37 : σ' 37 = σ 37 := hK 37 (by decide) (by decide) (by decide) (by decide) (by decide) (by decide) (by decide)
  have a3 : α' 3 = α 3 := hL 3 (by omega)
  have a4 : α' 4 = α 4 := hL 4 (by omega)
  have a5 : α' 5 = α 5 := hL 5 (by omega)
  have a6 : α' 6 = α 6 := hL 6 (by omega)
  have a7 : α' 7 = α 7 := hL 7 (by omega)
  have a8 : α' 8 = α 8 := hL 8 (by omega)
  have a9 : α' 9 = α 9 := hL 9 (by omega)
  have a10 : α' 10 = α 10 := hL 10 (by omega)
  have a11 : α' 11 = α 11 := hL 11 (by omega)
  have a12 : α' 12 = α 12 := hL 12 (by omega)
  have a13 : α' 13 = α 13 := hL 13 (by omega)
  have a14 : α' 14 = α 14 := hL 14 (by omega)
  have a15 : α' 15 = α 15 := hL 15 (by omega)
  have a17 : α' 17 = α 17 := hL 17 (by omega)
  have a35 : α' 35 = α 35 := hL 35 (by omega)
  have a36 : α' 36 = α 36 := hL 36 (by omega)
  have a38 : α' 38 = α 38 := hL 38 (by omega)
  refine ⟨nr, cs, I, K, T, F, Z, G, W, 0, rs, qk, ql, ⟨h1.1, h1.2.1, s2.trans h1.2.2⟩, h2, fun j hj => ?_, ?_, ?_, ?_, ?_, ?_, ?_, ?_, ?_, ?_⟩
  · rw [a3, a4, a5, a6, a7, a8, a9, a10, a11, a12, a13]
    exact h3 j hj
  · rw [a6, a8, a10, a11, a12, a13]
    exact h4
  · rw [s1]
    exact h5
  · exact ⟨by omega, rfl, h16, fun j hj => absurd hj (by omega)⟩
  · rw [b2, a14]
    exact h7
  · rw [b3, a15]
    exact h8
  · rw [b21, b22, s34, a35, a36]
    exact h9
  · rw [b27, s37, a38]
    exact h10
  · exact Or.inl ⟨rfl, rfl, o1, rfl, h21, hM, hX, o2, o3, hFR, hF⟩
  · rw [a10, a11, a12, a14, a15]
    exact h12
theorem Rel.rules_6_n {lo n : Nat} {ξ : Nat → Int32} {β : Nat → Nat → Int32} {ρ : Nat → Option Nat} {h : AH} {σ : Nat → Int32} {α : Nat → Nat → Int32} (hR : Rel lo n ξ β ρ 13 6 h σ α) {t a' k' : Nat} {β' : Nat → Nat → Int32} {σ' : Nat → Int32} {α' : Nat → Nat → Int32} (hA : Abw 6 β' β) (hK : KeS σ' σ) (h16 : σ' 16 = 0) (hF : FRn α') (hL : ∀ x, x < 22 ∨ 32 < x → α' x = α x) (h21 : σ' 21 = σ 21) (hL2 : ∀ x, x < 28 → α' x = α x) : Rel lo n (upd (upd (xq (upd (upd ξ 4 (nI t)) 6 (nI k')) a') 3 (nI a')) 2 0) β' ρ 13 6 h σ' α' := by
  obtain ⟨nr, cs, I, K, T, F, Z, G, W, t1, rs1, qk, ql, h1, h2, h3, h4, h5, h6, h7, h8, h9, h10, h11, h12⟩ := hR
  have b2 : β' 2 = β 2 := hA 2 (by omega)
  have b3 : β' 3 = β 3 := hA 3 (by omega)
  have b4 : β' 4 = β 4 := hA 4 (by omega)
  have b21 : β' 21 = β 21 := hA 21 (by omega)
  have b22 : β' 22 = β 22 := hA 22 (by omega)
  have b27 : β' 27 = β 27 := hA 27 (by omega)
  have s1 : σ' 1 = σ 1 := hK 1 (by decide) (by decide) (by decide) (by decide) (by decide) (by decide) (by decide)
  have s2 : σ' 2 = σ 2 := hK 2 (by decide) (by decide) (by decide) (by decide) (by decide) (by decide) (by decide)
  have s34 : σ' 34 = σ 34 := hK 34 (by decide) (by decide) (by decide) (by decide) (by decide) (by decide) (by decide)
  have s37 : σ' 37 = σ 37 := hK 37 (by decide) (by decide) (by decide) (by decide) (by decide) (by decide) (by decide)
  have a3 : α' 3 = α 3 := hL 3 (by omega)
  have a4 : α' 4 = α 4 := hL 4 (by omega)
  have a5 : α' 5 = α 5 := hL 5 (by omega)
  have a6 : α' 6 = α 6 := hL 6 (by omega)
  have a7 : α' 7 = α 7 := hL 7 (by omega)
  have a8 : α' 8 = α 8 := hL 8 (by omega)
  have a9 : α' 9 = α 9 := hL 9 (by omega)
  have a10 : α' 10 = α 10 := hL 10 (by omega)
  have a11 : α' 11 = α 11 := hL 11 (by omega)
  have a12 : α' 12 = α 12 := hL 12 (by omega)
  have a13 : α' 13 = α 13 := hL 13 (by omega)
  have a14 : α' 14 = α 14 := hL 14 (by omega)
  have a15 : α' 15 = α 15 := hL 15 (by omega)
  have a17 : α' 17 = α 17 := hL 17 (by omega)
  have a35 : α' 35 = α 35 := hL 35 (by omega)
  have a36 : α' 36 = α 36 := hL 36 (by omega)
  have a38 : α' 38 = α 38 := hL 38 (by omega)
  refine ⟨nr, cs, I, K, T, F, Z, G, W, 0, rs1, qk, ql, ⟨h1.1, h1.2.1, s2.trans h1.2.2⟩, h2, fun j hj => ?_, ?_, ?_, ?_, ?_, ?_, ?_, ?_, ?_, ?_⟩
  · rw [a3, a4, a5, a6, a7, a8, a9, a10, a11, a12, a13]
    exact h3 j hj
  · rw [a6, a8, a10, a11, a12, a13]
    exact h4
  · rw [s1]
    exact h5
  · exact ⟨by omega, rfl, h16, fun j hj => absurd hj (by omega)⟩
  · rw [b2, a14]
    exact h7
  · rw [b3, a15]
    exact h8
  · rw [b21, b22, s34, a35, a36]
    exact h9
  · rw [b27, s37, a38]
    exact h10
  · rcases h11 with ⟨e1, e2, z⟩ | ⟨e1, e2, z⟩
    · exact absurd e1 (by decide)
    · obtain ⟨z1, z2, z3, z4, z5, z6, z7, z8, z9⟩ := z
      refine Or.inr ⟨rfl, rfl, z1, z2, h21.trans z3, ?_, ?_, z6, z7, ?_, hF⟩
      · show RuA (α' 22) (α' 23) (α' 26) (α' 24) (α' 25) rs1
        rw [hL2 22 (by omega), hL2 23 (by omega), hL2 26 (by omega), hL2 24 (by omega), hL2 25 (by omega)]
        exact z4
      · rw [hA (13 + 1) (by omega), hA (13 + 2) (by omega), hA (13 + 3) (by omega), hA (13 + 4) (by omega), hA (13 + 5) (by omega), hA (13 + 6) (by omega)]
        exact z5
      · intro k hk
        rw [hL2 24 (by omega), hL2 25 (by omega)]
        exact z8 k hk
  · rw [a10, a11, a12, a14, a15]
    exact h12
theorem Rel.rules_13_s {lo n : Nat} {ξ : Nat → Int32} {β : Nat → Nat → Int32} {ρ : Nat → Option Nat} {h : AH} {σ : Nat → Int32} {α : Nat → Nat → Int32} (hR : Rel lo n ξ β ρ 6 13 h σ α) {t a' : Nat} {β' : Nat → Nat → Int32} {σ' : Nat → Int32} {α' : Nat → Nat → Int32} {rs : List Ru} (ht : t ≤ 300) (hC : crul (β 4) t (t + 1) 0 [] = some rs) (hA : Abw 13 β' β) (hX : RuX (β' (13 + 1)) (β' (13 + 2)) (β' (13 + 3)) (β' (13 + 4)) (β' (13 + 5)) (β' (13 + 6)) rs) (hK : KeS σ' σ) (h16 : σ' 16 = 0) (hF : FRn α') (hL : ∀ x, x < 22 ∨ 32 < x → α' x = α x) (h21 : σ' 21 = nI rs.length) (hM : RuM α' rs) (hFR : FR α') : Rel lo n (upd (upd (xq (upd (upd ξ 4 (nI t)) 7 (nI rs.length)) a') 3 (-1)) 2 0) β' ρ 13 6 h σ' α' := by
  obtain ⟨nr, cs, I, K, T, F, Z, G, W, t1, rs1, qk, ql, h1, h2, h3, h4, h5, h6, h7, h8, h9, h10, h11, h12⟩ := hR
  obtain ⟨o1, o2, o3⟩ := crul_ok ht (t + 1) 0 [] rs (by omega) (by simp) (fun q x hx => by cases hx) (fun q x hx => by cases hx) hC
  have b2 : β' 2 = β 2 := hA 2 (by omega)
  have b3 : β' 3 = β 3 := hA 3 (by omega)
  have b4 : β' 4 = β 4 := hA 4 (by omega)
  have b21 : β' 21 = β 21 := hA 21 (by omega)
  have b22 : β' 22 = β 22 := hA 22 (by omega)
  have b27 : β' 27 = β 27 := hA 27 (by omega)
  have s1 : σ' 1 = σ 1 := hK 1 (by decide) (by decide) (by decide) (by decide) (by decide) (by decide) (by decide)
  have s2 : σ' 2 = σ 2 := hK 2 (by decide) (by decide) (by decide) (by decide) (by decide) (by decide) (by decide)
  have s34 : σ' 34 = σ 34 := hK 34 (by decide) (by decide) (by decide) (by decide) (by decide) (by decide) (by decide)
  have s37 : σ' 37 = σ 37 := hK 37 (by decide) (by decide) (by decide) (by decide) (by decide) (by decide) (by decide)
  have a3 : α' 3 = α 3 := hL 3 (by omega)
  have a4 : α' 4 = α 4 := hL 4 (by omega)
  have a5 : α' 5 = α 5 := hL 5 (by omega)
  have a6 : α' 6 = α 6 := hL 6 (by omega)
  have a7 : α' 7 = α 7 := hL 7 (by omega)
  have a8 : α' 8 = α 8 := hL 8 (by omega)
  have a9 : α' 9 = α 9 := hL 9 (by omega)
  have a10 : α' 10 = α 10 := hL 10 (by omega)
  have a11 : α' 11 = α 11 := hL 11 (by omega)
  have a12 : α' 12 = α 12 := hL 12 (by omega)
  have a13 : α' 13 = α 13 := hL 13 (by omega)
  have a14 : α' 14 = α 14 := hL 14 (by omega)
  have a15 : α' 15 = α 15 := hL 15 (by omega)
  have a17 : α' 17 = α 17 := hL 17 (by omega)
  have a35 : α' 35 = α 35 := hL 35 (by omega)
  have a36 : α' 36 = α 36 := hL 36 (by omega)
  have a38 : α' 38 = α 38 := hL 38 (by omega)
  refine ⟨nr, cs, I, K, T, F, Z, G, W, 0, rs, qk, ql, ⟨h1.1, h1.2.1, s2.trans h1.2.2⟩, h2, fun j hj => ?_, ?_, ?_, ?_, ?_, ?_, ?_, ?_, ?_, ?_⟩
  · rw [a3, a4, a5, a6, a7, a8, a9, a10, a11, a12, a13]
    exact h3 j hj
  · rw [a6, a8, a10, a11, a12, a13]
    exact h4
  · rw [s1]
    exact h5
  · exact ⟨by omega, rfl, h16, fun j hj => absurd hj (by omega)⟩
  · rw [b2, a14]
    exact h7
  · rw [b3, a15]
    exact h8
  · rw [b21, b22, s34, a35, a36]
    exact h9
  · rw [b27, s37, a38]
    exact h10
  · exact Or.inr ⟨rfl, rfl, o1, rfl, h21, hM, hX, o2, o3, hFR, hF⟩
  · rw [a10, a11, a12, a14, a15]
    exact h12
theorem Rel.rules_13_n {lo n : Nat} {ξ : Nat → Int32} {β : Nat → Nat → Int32} {ρ : Nat → Option Nat} {h : AH} {σ : Nat → Int32} {α : Nat → Nat → Int32} (hR : Rel lo n ξ β ρ 6 13 h σ α) {t a' k' : Nat} {β' : Nat → Nat → Int32} {σ' : Nat → Int32} {α' : Nat → Nat → Int32} (hA : Abw 13 β' β) (hK : KeS σ' σ) (h16 : σ' 16 = 0) (hF : FRn α') (hL : ∀ x, x < 22 ∨ 32 < x → α' x = α x) (h21 : σ' 21 = σ 21) (hL2 : ∀ x, x < 28 → α' x = α x) : Rel lo n (upd (upd (xq (upd (upd ξ 4 (nI t)) 7 (nI k')) a') 3 (nI a')) 2 0) β' ρ 6 13 h σ' α' := by
  obtain ⟨nr, cs, I, K, T, F, Z, G, W, t1, rs1, qk, ql, h1, h2, h3, h4, h5, h6, h7, h8, h9, h10, h11, h12⟩ := hR
  have b2 : β' 2 = β 2 := hA 2 (by omega)
  have b3 : β' 3 = β 3 := hA 3 (by omega)
  have b4 : β' 4 = β 4 := hA 4 (by omega)
  have b21 : β' 21 = β 21 := hA 21 (by omega)
  have b22 : β' 22 = β 22 := hA 22 (by omega)
  have b27 : β' 27 = β 27 := hA 27 (by omega)
  have s1 : σ' 1 = σ 1 := hK 1 (by decide) (by decide) (by decide) (by decide) (by decide) (by decide) (by decide)
  have s2 : σ' 2 = σ 2 := hK 2 (by decide) (by decide) (by decide) (by decide) (by decide) (by decide) (by decide)
  have s34 : σ' 34 = σ 34 := hK 34 (by decide) (by decide) (by decide) (by decide) (by decide) (by decide) (by decide)
  have s37 : σ' 37 = σ 37 := hK 37 (by decide) (by decide) (by decide) (by decide) (by decide) (by decide) (by decide)
  have a3 : α' 3 = α 3 := hL 3 (by omega)
  have a4 : α' 4 = α 4 := hL 4 (by omega)
  have a5 : α' 5 = α 5 := hL 5 (by omega)
  have a6 : α' 6 = α 6 := hL 6 (by omega)
  have a7 : α' 7 = α 7 := hL 7 (by omega)
  have a8 : α' 8 = α 8 := hL 8 (by omega)
  have a9 : α' 9 = α 9 := hL 9 (by omega)
  have a10 : α' 10 = α 10 := hL 10 (by omega)
  have a11 : α' 11 = α 11 := hL 11 (by omega)
  have a12 : α' 12 = α 12 := hL 12 (by omega)
  have a13 : α' 13 = α 13 := hL 13 (by omega)
  have a14 : α' 14 = α 14 := hL 14 (by omega)
  have a15 : α' 15 = α 15 := hL 15 (by omega)
  have a17 : α' 17 = α 17 := hL 17 (by omega)
  have a35 : α' 35 = α 35 := hL 35 (by omega)
  have a36 : α' 36 = α 36 := hL 36 (by omega)
  have a38 : α' 38 = α 38 := hL 38 (by omega)
  refine ⟨nr, cs, I, K, T, F, Z, G, W, 0, rs1, qk, ql, ⟨h1.1, h1.2.1, s2.trans h1.2.2⟩, h2, fun j hj => ?_, ?_, ?_, ?_, ?_, ?_, ?_, ?_, ?_, ?_⟩
  · rw [a3, a4, a5, a6, a7, a8, a9, a10, a11, a12, a13]
    exact h3 j hj
  · rw [a6, a8, a10, a11, a12, a13]
    exact h4
  · rw [s1]
    exact h5
  · exact ⟨by omega, rfl, h16, fun j hj => absurd hj (by omega)⟩
  · rw [b2, a14]
    exact h7
  · rw [b3, a15]
    exact h8
  · rw [b21, b22, s34, a35, a36]
    exact h9
  · rw [b27, s37, a38]
    exact h10
  · rcases h11 with ⟨e1, e2, z⟩ | ⟨e1, e2, z⟩
    · obtain ⟨z1, z2, z3, z4, z5, z6, z7, z8, z9⟩ := z
      refine Or.inl ⟨rfl, rfl, z1, z2, h21.trans z3, ?_, ?_, z6, z7, ?_, hF⟩
      · show RuA (α' 22) (α' 23) (α' 26) (α' 24) (α' 25) rs1
        rw [hL2 22 (by omega), hL2 23 (by omega), hL2 26 (by omega), hL2 24 (by omega), hL2 25 (by omega)]
        exact z4
      · rw [hA (6 + 1) (by omega), hA (6 + 2) (by omega), hA (6 + 3) (by omega), hA (6 + 4) (by omega), hA (6 + 5) (by omega), hA (6 + 6) (by omega)]
        exact z5
      · intro k hk
        rw [hL2 24 (by omega), hL2 25 (by omega)]
        exact z8 k hk
    · exact absurd e1 (by decide)
  · rw [a10, a11, a12, a14, a15]
    exact h12
/-! ===== one report changes, the others stay ===== -/
/-- the rows of report i are the same in both -/
def SRw (i : Nat) (α α' : Nat → Nat → Int32) : Prop := α' 6 i = α 6 i ∧ α' 8 i = α 8 i ∧ (∀ q, q < 3 → α' 9 (3 * i + q) = α 9 (3 * i + q)) ∧ ∀ e, e < 20 → α' 10 (20 * i + e) = α 10 (20 * i + e) ∧ α' 11 (20 * i + e) = α 11 (20 * i + e) ∧ α' 12 (20 * i + e) = α 12 (20 * i + e) ∧ α' 13 (20 * i + e) = α 13 (20 * i + e)
/-- what is said of a report when it is made is the same in both -/
def SMd (α α' : Nat → Nat → Int32) : Prop := α' 3 = α 3 ∧ α' 4 = α 4 ∧ α' 5 = α 5 ∧ α' 7 = α 7
abbrev rlQ (j : Nat) (i k t f : Int32) (ζ g w : Nat → Int32) (α : Nat → Nat → Int32) : Prop := rlR j i k t f ζ g w (α 3) (α 4) (α 5) (α 6) (α 7) (α 8) (α 9) (α 10) (α 11) (α 12) (α 13)
theorem rlR_c {j : Nat} {i k t f : Int32} {ζ g w : Nat → Int32} {α α' : Nat → Nat → Int32} (h : rlQ j i k t f ζ g w α) (hm : SMd α α') (hs : SRw j α α') : rlQ j i k t f ζ g w α' := by
  obtain ⟨m3, m4, m5, m7⟩ := hm
  obtain ⟨s6, s8, s9, s⟩ := hs
  obtain ⟨h1, h2, h3, h4, h5, h6, h7, h8, h9, h10⟩ := h
  refine ⟨by rw [m3]; exact h1, by rw [m4]; exact h2, by rw [m5]; exact h3, by rw [m7]; exact h4, by rw [s6]; exact h5, ?_, fun e he => ?_, fun e he => ?_, fun e he => ?_, fun e he => ?_⟩
  · obtain ⟨c, hc, z1, z2, z3⟩ := h6
    exact ⟨c, hc, z1, by rw [s8]; exact z2, fun q hq => by rw [s9 q (by omega)]; exact z3 q hq⟩
  · rw [(s e he).1]; exact h7 e he
  · rw [(s e he).2.1]; exact h8 e he
  · by_cases e20 : e < 20
    · rw [(s e e20).2.2.1]; exact h9 e he
    · have z := h9 e he
      constructor
      · intro y; exact absurd (z.mp y).1 e20
      · intro y; exact absurd y.1 e20
  · rw [(s e he).2.2.2]; exact h10 e he
theorem rlR_put {nr j : Nat} {I K T F : Nat → Int32} {Z G W : Nat → Nat → Int32} {ζ g w : Nat → Int32} {α α' : Nat → Nat → Int32} (hn : nr ≤ 30) (h : ∀ i, i < nr → rlQ i (I i) (K i) (T i) (F i) (Z i) (G i) (W i) α) (hm : SMd α α') (hs : ∀ i, i < 30 → i ≠ j → SRw i α α') (hj : rlQ j (I j) (K j) (T j) (F j) ζ g w α') : ∀ i, i < nr → rlQ i (I i) (K i) (T i) (F i) (fch Z j ζ i) (fch G j g i) (fch W j w i) α' := by
  intro i hi
  by_cases e : i = j
  · subst e
    rw [fch_s, fch_s, fch_s]
    exact hj
  · rw [fch_n e, fch_n e, fch_n e]
    exact rlR_c (h i hi) hm (hs i (by omega) e)
theorem rlF_put {nr j : Nat} {α α' : Nat → Nat → Int32} (h : rlF nr (α 6) (α 8) (α 10) (α 11) (α 12) (α 13)) (hj : j < nr) (hs : ∀ i, i < 30 → i ≠ j → SRw i α α') : rlF nr (α' 6) (α' 8) (α' 10) (α' 11) (α' 12) (α' 13) := by
  intro i h1 h2
  obtain ⟨s6, s8, s9, s⟩ := hs i h2 (by omega)
  obtain ⟨z1, z2, z3⟩ := h i h1 h2
  refine ⟨by rw [s6]; exact z1, by rw [s8]; exact z2, fun e he => ?_⟩
  obtain ⟨a1, a2, a3, a4⟩ := s e he
  obtain ⟨y1, y2, y3, y4⟩ := z3 e he
  exact ⟨by rw [a1]; exact y1, by rw [a2]; exact y2, by rw [a3]; exact y3, by rw [a4]; exact y4⟩
/-- the persons inside -/
theorem rlQ_in {j : Nat} {i k t f : Int32} {ζ g w : Nat → Int32} {α : Nat → Nat → Int32} {y : Nat} (h : rlQ j i k t f ζ g w α) (hy : y ≤ 99) : rlQ j i k t f (upd ζ 3 (nI y)) g w (upa α 6 (upd (α 6) j (nI y))) := by
  obtain ⟨h1, h2, h3, h4, h5, h6, h7, h8, h9, h10⟩ := h
  exact ⟨h1, h2, h3, h4, ⟨y, hy, rfl, by show upd (α 6) j (nI y) j = _; rw [pk_us]⟩, h6, h7, h8, h9, h10⟩
theorem SRw_in {j : Nat} {α : Nat → Nat → Int32} {x : Int32} : ∀ i, i < 30 → i ≠ j → SRw i α (upa α 6 (upd (α 6) j x)) := fun i _ hne => ⟨by show upd (α 6) j x i = _; rw [pk_un hne], rfl, fun _ _ => rfl, fun _ _ => ⟨rfl, rfl, rfl, rfl⟩⟩
/-- the book's part of Rel under arrays that it does not see -/
theorem rlU_al {bo : Nat} {z y : Int32} {β α α' : Nat → Nat → Int32} {rs : List Ru} (h : rlU bo z β y α rs) (h22 : α' 22 = α 22) (h23 : α' 23 = α 23) (h24 : α' 24 = α 24) (h25 : α' 25 = α 25) (h26 : α' 26 = α 26) (h30 : α' 30 = α 30) (h31 : α' 31 = α 31) : rlU bo z β y α' rs := by
  obtain ⟨z1, z2, z3, z4, z5, z6, z7, z8, z9⟩ := h
  refine ⟨z1, z2, z3, ?_, z5, z6, z7, fun k hk => ?_, fun k hk => ?_⟩
  · show RuA (α' 22) (α' 23) (α' 26) (α' 24) (α' 25) rs
    rw [h22, h23, h24, h25, h26]
    exact z4
  · rw [h24, h25]; exact z8 k hk
  · rw [h30, h31]; exact z9 k hk
/-! ===== a report made ===== -/
theorem rlQ_u {j nr : Nat} {i k t f : Int32} {ζ g w : Nat → Int32} {α α' : Nat → Nat → Int32} (h : rlQ j i k t f ζ g w α) (h3 : α' 3 j = α 3 j) (h4 : α' 4 j = α 4 j) (h5 : α' 5 j = α 5 j) (h7 : α' 7 j = α 7 j) (h6 : α' 6 = α 6) (h8 : α' 8 = α 8) (h9 : α' 9 = α 9) (h10 : α' 10 = α 10) (h11 : α' 11 = α 11) (h12 : α' 12 = α 12) (h13 : α' 13 = α 13) : rlQ j i k t f ζ g w α' := by
  obtain ⟨z1, z2, z3, z4, z5, z6, z7, z8, z9, z10⟩ := h
  unfold rlQ
  rw [h6, h8, h9, h10, h11, h12, h13]
  exact ⟨by rw [h3]; exact z1, by rw [h4]; exact z2, by rw [h5]; exact z3, by rw [h7]; exact z4, z5, z6, z7, z8, z9, z10⟩
theorem Rel.make {lo n : Nat} {ξ : Nat → Int32} {β : Nat → Nat → Int32} {ρ : Nat → Option Nat} {u v : Nat} {h : AH} {σ : Nat → Int32} {α : Nat → Nat → Int32} (hR : Rel lo n ξ β ρ u v h σ α) (hln : lo ≤ n) (hlt : ξ 0 < 30) {m k : Nat} (hm : m ≤ 9999) (hk : k < 5) :
    Rel lo (n + 3) (upd ξ 0 (ξ 0 + 1)) β (va_up ρ (ξ 0).toNatClampNeg (some n)) u v (ovL n (rps n (nI m) (nI k) (ξ 1) (-1) (fun _ => 0) (fun _ => 0) (fun _ => 0)) h) (mmakes σ α (nI m) (nI k) (-1)).1 (mmakes σ α (nI m) (nI k) (-1)).2 := by
  obtain ⟨nr, cs, I, K, T, F, Z, G, W, t1, rs1, qk, ql, h1, h2, h3, h4, h5, h6, h7, h8, h9, h10, h11, h12⟩ := hR
  obtain ⟨n30, e1, e2⟩ := h1
  have hnr : nr < 30 := Nat.lt_of_not_le (fun y => by
    rw [e1] at hlt
    exact absurd (nI_le (a := 30) (b := nr) y (by omega)) (Int32.not_le.mpr hlt))
  have ec : (ξ 0).toNatClampNeg = nr := by rw [e1, nI_clamp (by omega)]
  have er : (σ 2).toNatClampNeg = nr := by rw [e2, nI_clamp (by omega)]
  have e5 : ξ 1 = σ 1 := by
    obtain ⟨t, -, z1, z2⟩ := h5
    rw [z1, z2]
  generalize hα : (mmakes σ α (nI m) (nI k) (-1)).2 = α'
  have a3 : α' 3 = upd (α 3) nr (nI m) := by rw [← hα]; show upd (α 3) (σ 2).toNatClampNeg (nI m) = _; rw [er]
  have a4 : α' 4 = upd (α 4) nr (nI k) := by rw [← hα]; show upd (α 4) (σ 2).toNatClampNeg (nI k) = _; rw [er]
  have a5 : α' 5 = upd (α 5) nr (σ 1) := by rw [← hα]; show upd (α 5) (σ 2).toNatClampNeg (σ 1) = _; rw [er]
  have a7 : α' 7 = upd (α 7) nr (-1) := by rw [← hα]; show upd (α 7) (σ 2).toNatClampNeg (-1) = _; rw [er]
  have ao : ∀ x, x ≠ 3 → x ≠ 4 → x ≠ 5 → x ≠ 7 → α' x = α x := fun x y3 y4 y5 y7 => by
    rw [← hα]
    show upa (upa (upa (upa α 3 _) 4 _) 5 _) 7 _ x = _
    rw [upa_n y7, upa_n y5, upa_n y4, upa_n y3]
  have o6 := ao 6 (by decide) (by decide) (by decide) (by decide)
  have o8 := ao 8 (by decide) (by decide) (by decide) (by decide)
  have o9 := ao 9 (by decide) (by decide) (by decide) (by decide)
  have o10 := ao 10 (by decide) (by decide) (by decide) (by decide)
  have o11 := ao 11 (by decide) (by decide) (by decide) (by decide)
  have o12 := ao 12 (by decide) (by decide) (by decide) (by decide)
  have o13 := ao 13 (by decide) (by decide) (by decide) (by decide)
  rw [ec]
  refine ⟨nr + 1, fch cs nr n, fch I nr (nI m), fch K nr (nI k), fch T nr (ξ 1), fch F nr (-1), fch Z nr (fun _ => 0), fch G nr (fun _ => 0), fch W nr (fun _ => 0), t1, rs1, qk, ql, ⟨by omega, ?_, ?_⟩, h2.add hln _ _ _ _ _ _ _, fun j hj => ?_, ?_, h5, ?_, ?_, ?_, ?_, ?_, ?_, ?_⟩
  · show ξ 0 + 1 = _
    rw [e1, nI_1]
  · show σ 2 + 1 = _
    rw [e2, nI_1]
  · by_cases e : j = nr
    · subst e
      rw [fch_s, fch_s, fch_s, fch_s, fch_s, fch_s, fch_s]
      obtain ⟨f6, f8, f⟩ := h4 j (Nat.le_refl _) hnr
      rw [a3, a4, a5, a7, o6, o8, o9, o10, o11, o12, o13]
      refine ⟨⟨m, hm, rfl, pk_us⟩, ⟨k, hk, rfl, pk_us⟩, by rw [pk_us]; exact e5, pk_us.symm, ⟨0, by omega, rfl, f6⟩, ⟨0, by omega, rfl, f8, fun q hq => absurd hq (by omega)⟩, fun e he => ?_, fun e he => ?_, fun e he => ?_, fun e he => ?_⟩
      · rw [xhs_0 (by omega), (f e he).1]; decide
      · rw [xhs_0 (by omega), (f e he).2.1]; decide
      · rw [xhs_0 he]
        constructor
        · intro z; exact absurd z (by decide)
        · rintro ⟨y1, y2⟩; exact absurd (f e y1).2.2.1 y2
      · exact ⟨(f e he).2.2.2.symm, Or.inl ⟨0, by omega, rfl⟩⟩
    · rw [fch_n e, fch_n e, fch_n e, fch_n e, fch_n e, fch_n e, fch_n e]
      exact rlQ_u (nr := nr) (h3 j (by omega)) (by rw [a3, pk_un e]) (by rw [a4, pk_un e]) (by rw [a5, pk_un e]) (by rw [a7, pk_un e]) o6 o8 o9 o10 o11 o12 o13
  · rw [o6, o8, o10, o11, o12, o13]
    exact fun j y1 y2 => h4 j (by omega) y2
  · rw [ao 17 (by decide) (by decide) (by decide) (by decide)]; exact h6
  · rw [ao 14 (by decide) (by decide) (by decide) (by decide)]; exact h7
  · rw [ao 15 (by decide) (by decide) (by decide) (by decide)]; exact h8
  · rw [ao 35 (by decide) (by decide) (by decide) (by decide), ao 36 (by decide) (by decide) (by decide) (by decide)]; exact h9
  · rw [ao 38 (by decide) (by decide) (by decide) (by decide)]; exact h10
  · have hal : ∀ {bo : Nat} {z y : Int32}, rlU bo z β y α rs1 → rlU bo z β y α' rs1 := fun z => rlU_al z (ao 22 (by decide) (by decide) (by decide) (by decide)) (ao 23 (by decide) (by decide) (by decide) (by decide)) (ao 24 (by decide) (by decide) (by decide) (by decide)) (ao 25 (by decide) (by decide) (by decide) (by decide)) (ao 26 (by decide) (by decide) (by decide) (by decide)) (ao 30 (by decide) (by decide) (by decide) (by decide)) (ao 31 (by decide) (by decide) (by decide) (by decide))
    rcases h11 with ⟨y1, y2, z⟩ | ⟨y1, y2, z⟩
    · exact Or.inl ⟨y1, y2, hal z⟩
    · exact Or.inr ⟨y1, y2, hal z⟩
  · rw [o10, o11, o12, ao 14 (by decide) (by decide) (by decide) (by decide), ao 15 (by decide) (by decide) (by decide) (by decide)]
    exact h12
/-! ===== a report looked up, and changed ===== -/
/-- the arrays of the reports' rows alone differ -/
def SAr (α α' : Nat → Nat → Int32) : Prop := ∀ x, x < 6 ∨ x = 7 ∨ 13 < x → α' x = α x
theorem Rel.rep {lo n : Nat} {ξ : Nat → Int32} {β : Nat → Nat → Int32} {ρ : Nat → Option Nat} {u v : Nat} {h : AH} {σ : Nat → Int32} {α : Nat → Nat → Int32} (hR : Rel lo n ξ β ρ u v h σ α) {j : Nat} (hj : j < 30) (hlt : nI j < ξ 0) :
    ∃ (r : Nat) (i k t f : Int32) (ζ g w : Nat → Int32), ρ j = some r ∧ lo ≤ r ∧ r + 3 ≤ n ∧ ovR r i k t f ζ g w h = h ∧ rlQ j i k t f ζ g w α ∧
      ∀ (ζ' g' w' : Nat → Int32) (α' : Nat → Nat → Int32), SAr α α' → (∀ i, i < 30 → i ≠ j → SRw i α α') → rlQ j i k t f ζ' g' w' α' → rlB (α' 10) → rlB (α' 11) → rlB (α' 12) → Rel lo n ξ β ρ u v (ovR r i k t f ζ' g' w' h) σ α' := by
  obtain ⟨nr, cs, I, K, T, F, Z, G, W, t1, rs1, qk, ql, h1, h2, h3, h4, h5, h6, h7, h8, h9, h10, h11, h12⟩ := hR
  have hjn : j < nr := Nat.lt_of_not_le (fun y => by
    rw [h1.2.1] at hlt
    exact absurd (nI_le (a := nr) (b := j) y (by omega)) (Int32.not_le.mpr hlt))
  obtain ⟨p1, p2, p3, p4⟩ := h2.1 j hjn
  refine ⟨cs j, I j, K j, T j, F j, Z j, G j, W j, p1, p2, p3, p4, h3 j hjn, fun ζ' g' w' α' hS hs hq b10 b11 b12 => ?_⟩
  have hm : SMd α α' := ⟨hS 3 (by omega), hS 4 (by omega), hS 5 (by omega), hS 7 (by omega)⟩
  refine ⟨nr, cs, I, K, T, F, fch Z j ζ', fch G j g', fch W j w', t1, rs1, qk, ql, h1, h2.put hjn ζ' g' w', rlR_put h1.1 h3 hm hs hq, rlF_put h4 hjn hs, h5, ?_, ?_, ?_, ?_, ?_, ?_, b10, b11, b12, ?_, ?_⟩
  · rw [hS 17 (by omega)]; exact h6
  · rw [hS 14 (by omega)]; exact h7
  · rw [hS 15 (by omega)]; exact h8
  · rw [hS 35 (by omega), hS 36 (by omega)]; exact h9
  · rw [hS 38 (by omega)]; exact h10
  · have hal : ∀ {bo : Nat} {z y : Int32}, rlU bo z β y α rs1 → rlU bo z β y α' rs1 := fun z => rlU_al z (hS 22 (by omega)) (hS 23 (by omega)) (hS 24 (by omega)) (hS 25 (by omega)) (hS 26 (by omega)) (hS 30 (by omega)) (hS 31 (by omega))
    rcases h11 with ⟨y1, y2, z⟩ | ⟨y1, y2, z⟩
    · exact Or.inl ⟨y1, y2, hal z⟩
    · exact Or.inr ⟨y1, y2, hal z⟩
  · rw [hS 14 (by omega)]; exact h12.2.2.2.1
  · rw [hS 15 (by omega)]; exact h12.2.2.2.2
theorem SAr_6 {α : Nat → Nat → Int32} {f : Nat → Int32} : SAr α (upa α 6 f) := fun x hx => upa_n (by omega)
theorem SAr_u {α α' : Nat → Nat → Int32} {x : Nat} {f : Nat → Int32} (h : SAr α α') (h1 : 6 ≤ x) (h2 : x ≤ 13) (h7 : x ≠ 7) : SAr α (upa α' x f) := fun y hy => (upa_n (by omega)).trans (h y hy)
theorem SAr_r (α : Nat → Nat → Int32) : SAr α α := fun _ _ => rfl
/-- a field told: the rows of the reference -/
theorem SRw_tell {α : Nat → Nat → Int32} {j e : Nat} {x : Int32} (he : e < 20) : ∀ i, i < 30 → i ≠ j → SRw i α (mtell α (20 * j + e) x) := by
  intro i _ hne
  refine ⟨rfl, rfl, fun _ _ => rfl, fun e' he' => ?_⟩
  have hn : 20 * i + e' ≠ 20 * j + e := by omega
  refine ⟨?_, ?_, ?_, ?_⟩
  · show upd (α 10) (20 * j + e) 1 (20 * i + e') = _; rw [pk_un hn]
  · show upd (α 11) (20 * j + e) 0 (20 * i + e') = _; rw [pk_un hn]
  · show upd (α 12) (20 * j + e) 0 (20 * i + e') = _; rw [pk_un hn]
  · show upd (α 13) (20 * j + e) x (20 * i + e') = _; rw [pk_un hn]
theorem SAr_tell {α : Nat → Nat → Int32} {k : Nat} {x : Int32} : SAr α (mtell α k x) := SAr_u (SAr_u (SAr_u (SAr_u (SAr_r α) (by decide) (by decide) (by decide)) (by decide) (by decide) (by decide)) (by decide) (by decide) (by decide)) (by decide) (by decide) (by decide)
/-! ===== fields told, faults ===== -/
theorem rlB_v {g : Nat → Int32} {k : Nat} {on : Int32} (h : rlB g) (ho : on = 0 ∨ on = 1) : rlB (upd g k on) := fun j => by
  by_cases e : j = k
  · subst e
    rw [pk_us, nb01 ho]
  · rw [pk_un e]
    exact h j
theorem bit_set {a : Int32} {A : Nat → Int32} {j e : Nat} {on : Int32} (h : ∀ e', e' < 20 → (xhs a (nI e') = 1 ↔ ¬ A (20 * j + e') = 0)) (he : e < 20) (ho : on = 0 ∨ on = 1) : ∀ e', e' < 20 → (xhs (xch a (nI e) on) (nI e') = 1 ↔ ¬ upd A (20 * j + e) on (20 * j + e') = 0) := by
  intro e' he'
  rw [xhs_ch _ _ (by omega) (by omega)]
  by_cases e2 : e' = e
  · subst e2
    rw [if_pos rfl, pk_us]
    rcases ho with rfl | rfl
    · decide
    · decide
  · rw [if_neg e2, pk_un (by omega)]
    exact h e' he'
theorem bit_set2 {a : Int32} {A : Nat → Int32} {j e : Nat} {on : Int32} (h : ∀ e', e' < 32 → (xhs a (nI e') = 1 ↔ e' < 20 ∧ ¬ A (20 * j + e') = 0)) (he : e < 20) (ho : on = 0 ∨ on = 1) : ∀ e', e' < 32 → (xhs (xch a (nI e) on) (nI e') = 1 ↔ e' < 20 ∧ ¬ upd A (20 * j + e) on (20 * j + e') = 0) := by
  intro e' he'
  rw [xhs_ch _ _ (by omega) he']
  by_cases e2 : e' = e
  · subst e2
    rw [if_pos rfl, pk_us]
    rcases ho with rfl | rfl
    · exact ⟨fun z => absurd z (by decide), fun z => absurd rfl z.2⟩
    · exact ⟨fun _ => ⟨he, by decide⟩, fun _ => by decide⟩
  · rw [if_neg e2, pk_un (by omega)]
    exact h e' he'
theorem rlQ_z {j : Nat} {i k t f : Int32} {ζ g w g' : Nat → Int32} {α : Nat → Nat → Int32} {A0 A1 A2 : Int32} {b10 b11 b12 b13 : Nat → Int32} (h : rlQ j i k t f ζ g w α) (k7 : ∀ e, e < 20 → (xhs A0 (nI e) = 1 ↔ ¬ b10 (20 * j + e) = 0)) (k8 : ∀ e, e < 20 → (xhs A1 (nI e) = 1 ↔ ¬ b11 (20 * j + e) = 0)) (k9 : ∀ e, e < 32 → (xhs A2 (nI e) = 1 ↔ e < 20 ∧ ¬ b12 (20 * j + e) = 0)) (k10 : ∀ e, e < 20 → g' e = b13 (20 * j + e) ∧ vok (g' e)) : rlQ j i k t f (upd (upd (upd ζ 0 A0) 1 A1) 2 A2) g' w (upa (upa (upa (upa α 10 b10) 11 b11) 12 b12) 13 b13) := by
  obtain ⟨h1, h2, h3, h4, h5, h6, h7, h8, h9, h10⟩ := h
  exact ⟨h1, h2, h3, h4, h5, h6, k7, k8, k9, k10⟩
theorem rlQ_z2 {j : Nat} {i k t f : Int32} {ζ g w : Nat → Int32} {α : Nat → Nat → Int32} {A2 : Int32} {b12 : Nat → Int32} (h : rlQ j i k t f ζ g w α) (k9 : ∀ e, e < 32 → (xhs A2 (nI e) = 1 ↔ e < 20 ∧ ¬ b12 (20 * j + e) = 0)) : rlQ j i k t f (upd ζ 2 A2) g w (upa α 12 b12) := by
  obtain ⟨h1, h2, h3, h4, h5, h6, h7, h8, h9, h10⟩ := h
  exact ⟨h1, h2, h3, h4, h5, h6, h7, h8, k9, h10⟩
theorem rlQ_tell {j : Nat} {i k t f : Int32} {ζ g w : Nat → Int32} {α : Nat → Nat → Int32} {e : Nat} {y : Int32} (h : rlQ j i k t f ζ g w α) (he : e < 20) (hy : vok y) : rlQ j i k t f (upd (upd (upd ζ 0 (xch (ζ 0) (nI e) 1)) 1 (xch (ζ 1) (nI e) 0)) 2 (xch (ζ 2) (nI e) 0)) (upd g e y) w (mtell α (20 * j + e) y) := by
  have hh := h
  obtain ⟨h1, h2, h3, h4, h5, h6, h7, h8, h9, h10⟩ := hh
  unfold mtell
  refine rlQ_z h (bit_set (A := α 10) h7 he (Or.inr rfl)) (bit_set (A := α 11) h8 he (Or.inl rfl)) (bit_set2 (A := α 12) h9 he (Or.inl rfl)) (fun e' he' => ?_)
  by_cases e2 : e' = e
  · subst e2
    rw [pk_us, pk_us]
    exact ⟨rfl, hy⟩
  · rw [pk_un e2, pk_un (by omega)]
    exact h10 e' he'
theorem rlQ_fault {j : Nat} {i k t f : Int32} {ζ g w : Nat → Int32} {α : Nat → Nat → Int32} {e : Nat} (h : rlQ j i k t f ζ g w α) (he : e < 20) : rlQ j i k t f (upd ζ 2 (xch (ζ 2) (nI e) 1)) g w (upa α 12 (upd (α 12) (20 * j + e) 1)) := by
  have hh := h
  obtain ⟨h1, h2, h3, h4, h5, h6, h7, h8, h9, h10⟩ := hh
  exact rlQ_z2 h (bit_set2 (A := α 12) h9 he (Or.inr rfl))
theorem SRw_12 {α : Nat → Nat → Int32} {j e : Nat} {x : Int32} (he : e < 20) : ∀ i, i < 30 → i ≠ j → SRw i α (upa α 12 (upd (α 12) (20 * j + e) x)) := by
  intro i _ hne
  refine ⟨rfl, rfl, fun _ _ => rfl, fun e' he' => ⟨rfl, rfl, ?_, rfl⟩⟩
  show upd (α 12) (20 * j + e) x (20 * i + e') = _
  rw [pk_un (by omega)]
/-- a signature -/
theorem rlQ_sign {j : Nat} {i k t f : Int32} {ζ g w : Nat → Int32} {α : Nat → Nat → Int32} {c : Nat} {y : Int32} (h : rlQ j i k t f ζ g w α) (hc : ζ 4 = nI c) (hc3 : c < 3) : rlQ j i k t f (upd ζ 4 (nI (c + 1))) g (upd w c y) (upa (upa α 9 (upd (α 9) (3 * j + c) y)) 8 (upd (α 8) j (nI (c + 1)))) := by
  obtain ⟨h1, h2, h3, h4, h5, h6, h7, h8, h9, h10⟩ := h
  refine ⟨h1, h2, h3, h4, h5, ⟨c + 1, by omega, rfl, by show upd (α 8) j (nI (c + 1)) j = _; rw [pk_us], fun q hq => ?_⟩, h7, h8, h9, h10⟩
  obtain ⟨c', hc', z1, z2, z3⟩ := h6
  have e : c' = c := by
    rw [hc] at z1
    exact ((nI_eq (by omega) (by omega)).mp z1).symm
  subst e
  show upd (α 9) (3 * j + c') y (3 * j + q) = upd w c' y q
  by_cases e2 : q = c'
  · subst e2
    rw [pk_us, pk_us]
  · rw [pk_un (by omega), pk_un e2]
    exact z3 q (by omega)
theorem SRw_sign {α : Nat → Nat → Int32} {j c : Nat} {x y : Int32} (hc : c < 3) : ∀ i, i < 30 → i ≠ j → SRw i α (upa (upa α 9 (upd (α 9) (3 * j + c) y)) 8 (upd (α 8) j x)) := by
  intro i _ hne
  refine ⟨rfl, ?_, fun q hq => ?_, fun _ _ => ⟨rfl, rfl, rfl, rfl⟩⟩
  · show upd (α 8) j x i = _; rw [pk_un hne]
  · show upd (α 9) (3 * j + c) y (3 * i + q) = _; rw [pk_un (by omega)]
