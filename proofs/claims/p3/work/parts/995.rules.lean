/-! ===== rules: class and reference stand alike behind it: printed by program ===== -/
theorem Rel.rules_6_s {lo n : Nat} {ξ : Nat → Int32} {β : Nat → Nat → Int32} {ρ : Nat → Option Nat} {h : AH} {σ : Nat → Int32} {α : Nat → Nat → Int32} (hR : Rel lo n ξ β ρ 13 6 h σ α) {t a' : Nat} {β' : Nat → Nat → Int32} {σ' : Nat → Int32} {α' : Nat → Nat → Int32} {rs : List Ru} (ht : t ≤ 300) (hC : crul (β 4) t (t + 1) 0 [] = some rs) (hA : Abw 6 β' β) (hX : RuX (β' (6 + 1)) (β' (6 + 2)) (β' (6 + 3)) (β' (6 + 4)) (β' (6 + 5)) (β' (6 + 6)) rs) (hK : KeS σ' σ) (h16 : σ' 16 = 0) (hF : FRn α') (hL : ∀ x, x < 22 ∨ 32 < x → α' x = α x) (h21 : σ' 21 = nI rs.length) (hM : RuM α' rs) (hFR : FR α') : Rel lo n (upd (upd (xq (upd (upd ξ 4 (nI t)) 6 (nI rs.length)) a') 3 (-1)) 2 0) β' ρ 6 13 h σ' α' := by
  obtain ⟨nr, cs, I, K, T, F, Z, G, W, t1, rs1, qk, ql, h1, h2, h3, h4, h5, h6, h7, h8, h9, h10, h11, h12⟩ := hR
  obtain ⟨o1, o2, o3⟩ := crul_ok ht (t + 1) 0 [] rs (by omega) (by simp) (fun q x hx => by cases hx) (fun q x hx => by cases hx) hC
  have b2 : β' 2 = β 2 := hA 2 (by omega)
  have b3 : β' 3 = β 3 := hA 3 (by omega)
  have b4 : β' 4 = β 4 := hA 4 (by omega)
  have b21 : β' 21 = β 21 := hA 21 (by omega)
  have b22 : β' 22 = β 22 := hA 22 (by omega)
  have b27 : β' 27 = β 27 := hA 27 (by omega)
  have s1 : σ' 1 = σ 1 := hK 1 (by decide) (by decide) (by decide) (by decide) (by decide) (by decide) (by decide)
  have s2 : σ' 2 = σ 2 := hK 2 (by decide) (by decide) (by decide) (by decide) (by decide) (by decide) (by decide)
  have s34 : σ' 34 = σ 34 := hK 34 (by decide) (by decide) (by decide) (by decide) (by decide) (by decide) (by decide)
  have s37 : σ' 37 = σ 37 := hK 37 (by decide) (by decide) (by decide) (by decide) (by decide) (by decide) (by decide)
  have a3 : α' 3 = α 3 := hL 3 (by omega)
  have a4 : α' 4 = α 4 := hL 4 (by omega)
  have a5 : α' 5 = α 5 := hL 5 (by omega)
  have a6 : α' 6 = α 6 := hL 6 (by omega)
  have a7 : α' 7 = α 7 := hL 7 (by omega)
  have a8 : α' 8 = α 8 := hL 8 (by omega)
  have a9 : α' 9 = α 9 := hL 9 (by omega)
  have a10 : α' 10 = α 10 := hL 10 (by omega)
  have a11 : α' 11 = α 11 := hL 11 (by omega)
  have a12 : α' 12 = α 12 := hL 12 (by omega)
  have a13 : α' 13 = α 13 := hL 13 (by omega)
  have a14 : α' 14 = α 14 := hL 14 (by omega)
  have a15 : α' 15 = α 15 := hL 15 (by omega)
  have a17 : α' 17 = α 17 := hL 17 (by omega)
  have a35 : α' 35 = α 35 := hL 35 (by omega)
  have a36 : α' 36 = α 36 := hL 36 (by omega)
  have a38 : α' 38 = α 38 := hL 38 (by omega)
  refine ⟨nr, cs, I, K, T, F, Z, G, W, 0, rs, qk, ql, ⟨h1.1, h1.2.1, s2.trans h1.2.2⟩, h2, fun j hj => ?_, ?_, ?_, ?_, ?_, ?_, ?_, ?_, ?_, ?_⟩
  · rw [a3, a4, a5, a6, a7, a8, a9, a10, a11, a12, a13]
    exact h3 j hj
  · rw [a6, a8, a10, a11, a12, a13]
    exact h4
  · rw [s1]
    exact h5
  · exact ⟨by omega, rfl, h16, fun j hj => absurd hj (by omega)⟩
  · rw [b2, a14]
    exact h7
  · rw [b3, a15]
    exact h8
  · rw [b21, b22, s34, a35, a36]
    exact h9
  · rw [b27, s37, a38]
    exact h10
  · exact Or.inl ⟨rfl, rfl, o1, rfl, h21, hM, hX, o2, o3, hFR, hF⟩
  · rw [a10, a11, a12, a14, a15]
    exact h12
theorem Rel.rules_6_n {lo n : Nat} {ξ : Nat → Int32} {β : Nat → Nat → Int32} {ρ : Nat → Option Nat} {h : AH} {σ : Nat → Int32} {α : Nat → Nat → Int32} (hR : Rel lo n ξ β ρ 13 6 h σ α) {t a' k' : Nat} {β' : Nat → Nat → Int32} {σ' : Nat → Int32} {α' : Nat → Nat → Int32} (hA : Abw 6 β' β) (hK : KeS σ' σ) (h16 : σ' 16 = 0) (hF : FRn α') (hL : ∀ x, x < 22 ∨ 32 < x → α' x = α x) (h21 : σ' 21 = σ 21) (hL2 : ∀ x, x < 28 → α' x = α x) : Rel lo n (upd (upd (xq (upd (upd ξ 4 (nI t)) 6 (nI k')) a') 3 (nI a')) 2 0) β' ρ 13 6 h σ' α' := by
  obtain ⟨nr, cs, I, K, T, F, Z, G, W, t1, rs1, qk, ql, h1, h2, h3, h4, h5, h6, h7, h8, h9, h10, h11, h12⟩ := hR
  have b2 : β' 2 = β 2 := hA 2 (by omega)
  have b3 : β' 3 = β 3 := hA 3 (by omega)
  have b4 : β' 4 = β 4 := hA 4 (by omega)
  have b21 : β' 21 = β 21 := hA 21 (by omega)
  have b22 : β' 22 = β 22 := hA 22 (by omega)
  have b27 : β' 27 = β 27 := hA 27 (by omega)
  have s1 : σ' 1 = σ 1 := hK 1 (by decide) (by decide) (by decide) (by decide) (by decide) (by decide) (by decide)
  have s2 : σ' 2 = σ 2 := hK 2 (by decide) (by decide) (by decide) (by decide) (by decide) (by decide) (by decide)
  have s34 : σ' 34 = σ 34 := hK 34 (by decide) (by decide) (by decide) (by decide) (by decide) (by decide) (by decide)
  have s37 : σ' 37 = σ 37 := hK 37 (by decide) (by decide) (by decide) (by decide) (by decide) (by decide) (by decide)
  have a3 : α' 3 = α 3 := hL 3 (by omega)
  have a4 : α' 4 = α 4 := hL 4 (by omega)
  have a5 : α' 5 = α 5 := hL 5 (by omega)
  have a6 : α' 6 = α 6 := hL 6 (by omega)
  have a7 : α' 7 = α 7 := hL 7 (by omega)
  have a8 : α' 8 = α 8 := hL 8 (by omega)
  have a9 : α' 9 = α 9 := hL 9 (by omega)
  have a10 : α' 10 = α 10 := hL 10 (by omega)
  have a11 : α' 11 = α 11 := hL 11 (by omega)
  have a12 : α' 12 = α 12 := hL 12 (by omega)
  have a13 : α' 13 = α 13 := hL 13 (by omega)
  have a14 : α' 14 = α 14 := hL 14 (by omega)
  have a15 : α' 15 = α 15 := hL 15 (by omega)
  have a17 : α' 17 = α 17 := hL 17 (by omega)
  have a35 : α' 35 = α 35 := hL 35 (by omega)
  have a36 : α' 36 = α 36 := hL 36 (by omega)
  have a38 : α' 38 = α 38 := hL 38 (by omega)
  refine ⟨nr, cs, I, K, T, F, Z, G, W, 0, rs1, qk, ql, ⟨h1.1, h1.2.1, s2.trans h1.2.2⟩, h2, fun j hj => ?_, ?_, ?_, ?_, ?_, ?_, ?_, ?_, ?_, ?_⟩
  · rw [a3, a4, a5, a6, a7, a8, a9, a10, a11, a12, a13]
    exact h3 j hj
  · rw [a6, a8, a10, a11, a12, a13]
    exact h4
  · rw [s1]
    exact h5
  · exact ⟨by omega, rfl, h16, fun j hj => absurd hj (by omega)⟩
  · rw [b2, a14]
    exact h7
  · rw [b3, a15]
    exact h8
  · rw [b21, b22, s34, a35, a36]
    exact h9
  · rw [b27, s37, a38]
    exact h10
  · rcases h11 with ⟨e1, e2, z⟩ | ⟨e1, e2, z⟩
    · exact absurd e1 (by decide)
    · obtain ⟨z1, z2, z3, z4, z5, z6, z7, z8, z9⟩ := z
      refine Or.inr ⟨rfl, rfl, z1, z2, h21.trans z3, ?_, ?_, z6, z7, ?_, hF⟩
      · show RuA (α' 22) (α' 23) (α' 26) (α' 24) (α' 25) rs1
        rw [hL2 22 (by omega), hL2 23 (by omega), hL2 26 (by omega), hL2 24 (by omega), hL2 25 (by omega)]
        exact z4
      · rw [hA (13 + 1) (by omega), hA (13 + 2) (by omega), hA (13 + 3) (by omega), hA (13 + 4) (by omega), hA (13 + 5) (by omega), hA (13 + 6) (by omega)]
        exact z5
      · intro k hk
        rw [hL2 24 (by omega), hL2 25 (by omega)]
        exact z8 k hk
  · rw [a10, a11, a12, a14, a15]
    exact h12
theorem Rel.rules_13_s {lo n : Nat} {ξ : Nat → Int32} {β : Nat → Nat → Int32} {ρ : Nat → Option Nat} {h : AH} {σ : Nat → Int32} {α : Nat → Nat → Int32} (hR : Rel lo n ξ β ρ 6 13 h σ α) {t a' : Nat} {β' : Nat → Nat → Int32} {σ' : Nat → Int32} {α' : Nat → Nat → Int32} {rs : List Ru} (ht : t ≤ 300) (hC : crul (β 4) t (t + 1) 0 [] = some rs) (hA : Abw 13 β' β) (hX : RuX (β' (13 + 1)) (β' (13 + 2)) (β' (13 + 3)) (β' (13 + 4)) (β' (13 + 5)) (β' (13 + 6)) rs) (hK : KeS σ' σ) (h16 : σ' 16 = 0) (hF : FRn α') (hL : ∀ x, x < 22 ∨ 32 < x → α' x = α x) (h21 : σ' 21 = nI rs.length) (hM : RuM α' rs) (hFR : FR α') : Rel lo n (upd (upd (xq (upd (upd ξ 4 (nI t)) 7 (nI rs.length)) a') 3 (-1)) 2 0) β' ρ 13 6 h σ' α' := by
  obtain ⟨nr, cs, I, K, T, F, Z, G, W, t1, rs1, qk, ql, h1, h2, h3, h4, h5, h6, h7, h8, h9, h10, h11, h12⟩ := hR
  obtain ⟨o1, o2, o3⟩ := crul_ok ht (t + 1) 0 [] rs (by omega) (by simp) (fun q x hx => by cases hx) (fun q x hx => by cases hx) hC
  have b2 : β' 2 = β 2 := hA 2 (by omega)
  have b3 : β' 3 = β 3 := hA 3 (by omega)
  have b4 : β' 4 = β 4 := hA 4 (by omega)
  have b21 : β' 21 = β 21 := hA 21 (by omega)
  have b22 : β' 22 = β 22 := hA 22 (by omega)
  have b27 : β' 27 = β 27 := hA 27 (by omega)
  have s1 : σ' 1 = σ 1 := hK 1 (by decide) (by decide) (by decide) (by decide) (by decide) (by decide) (by decide)
  have s2 : σ' 2 = σ 2 := hK 2 (by decide) (by decide) (by decide) (by decide) (by decide) (by decide) (by decide)
  have s34 : σ' 34 = σ 34 := hK 34 (by decide) (by decide) (by decide) (by decide) (by decide) (by decide) (by decide)
  have s37 : σ' 37 = σ 37 := hK 37 (by decide) (by decide) (by decide) (by decide) (by decide) (by decide) (by decide)
  have a3 : α' 3 = α 3 := hL 3 (by omega)
  have a4 : α' 4 = α 4 := hL 4 (by omega)
  have a5 : α' 5 = α 5 := hL 5 (by omega)
  have a6 : α' 6 = α 6 := hL 6 (by omega)
  have a7 : α' 7 = α 7 := hL 7 (by omega)
  have a8 : α' 8 = α 8 := hL 8 (by omega)
  have a9 : α' 9 = α 9 := hL 9 (by omega)
  have a10 : α' 10 = α 10 := hL 10 (by omega)
  have a11 : α' 11 = α 11 := hL 11 (by omega)
  have a12 : α' 12 = α 12 := hL 12 (by omega)
  have a13 : α' 13 = α 13 := hL 13 (by omega)
  have a14 : α' 14 = α 14 := hL 14 (by omega)
  have a15 : α' 15 = α 15 := hL 15 (by omega)
  have a17 : α' 17 = α 17 := hL 17 (by omega)
  have a35 : α' 35 = α 35 := hL 35 (by omega)
  have a36 : α' 36 = α 36 := hL 36 (by omega)
  have a38 : α' 38 = α 38 := hL 38 (by omega)
  refine ⟨nr, cs, I, K, T, F, Z, G, W, 0, rs, qk, ql, ⟨h1.1, h1.2.1, s2.trans h1.2.2⟩, h2, fun j hj => ?_, ?_, ?_, ?_, ?_, ?_, ?_, ?_, ?_, ?_⟩
  · rw [a3, a4, a5, a6, a7, a8, a9, a10, a11, a12, a13]
    exact h3 j hj
  · rw [a6, a8, a10, a11, a12, a13]
    exact h4
  · rw [s1]
    exact h5
  · exact ⟨by omega, rfl, h16, fun j hj => absurd hj (by omega)⟩
  · rw [b2, a14]
    exact h7
  · rw [b3, a15]
    exact h8
  · rw [b21, b22, s34, a35, a36]
    exact h9
  · rw [b27, s37, a38]
    exact h10
  · exact Or.inr ⟨rfl, rfl, o1, rfl, h21, hM, hX, o2, o3, hFR, hF⟩
  · rw [a10, a11, a12, a14, a15]
    exact h12
theorem Rel.rules_13_n {lo n : Nat} {ξ : Nat → Int32} {β : Nat → Nat → Int32} {ρ : Nat → Option Nat} {h : AH} {σ : Nat → Int32} {α : Nat → Nat → Int32} (hR : Rel lo n ξ β ρ 6 13 h σ α) {t a' k' : Nat} {β' : Nat → Nat → Int32} {σ' : Nat → Int32} {α' : Nat → Nat → Int32} (hA : Abw 13 β' β) (hK : KeS σ' σ) (h16 : σ' 16 = 0) (hF : FRn α') (hL : ∀ x, x < 22 ∨ 32 < x → α' x = α x) (h21 : σ' 21 = σ 21) (hL2 : ∀ x, x < 28 → α' x = α x) : Rel lo n (upd (upd (xq (upd (upd ξ 4 (nI t)) 7 (nI k')) a') 3 (nI a')) 2 0) β' ρ 6 13 h σ' α' := by
  obtain ⟨nr, cs, I, K, T, F, Z, G, W, t1, rs1, qk, ql, h1, h2, h3, h4, h5, h6, h7, h8, h9, h10, h11, h12⟩ := hR
  have b2 : β' 2 = β 2 := hA 2 (by omega)
  have b3 : β' 3 = β 3 := hA 3 (by omega)
  have b4 : β' 4 = β 4 := hA 4 (by omega)
  have b21 : β' 21 = β 21 := hA 21 (by omega)
  have b22 : β' 22 = β 22 := hA 22 (by omega)
  have b27 : β' 27 = β 27 := hA 27 (by omega)
  have s1 : σ' 1 = σ 1 := hK 1 (by decide) (by decide) (by decide) (by decide) (by decide) (by decide) (by decide)
  have s2 : σ' 2 = σ 2 := hK 2 (by decide) (by decide) (by decide) (by decide) (by decide) (by decide) (by decide)
  have s34 : σ' 34 = σ 34 := hK 34 (by decide) (by decide) (by decide) (by decide) (by decide) (by decide) (by decide)
  have s37 : σ' 37 = σ 37 := hK 37 (by decide) (by decide) (by decide) (by decide) (by decide) (by decide) (by decide)
  have a3 : α' 3 = α 3 := hL 3 (by omega)
  have a4 : α' 4 = α 4 := hL 4 (by omega)
  have a5 : α' 5 = α 5 := hL 5 (by omega)
  have a6 : α' 6 = α 6 := hL 6 (by omega)
  have a7 : α' 7 = α 7 := hL 7 (by omega)
  have a8 : α' 8 = α 8 := hL 8 (by omega)
  have a9 : α' 9 = α 9 := hL 9 (by omega)
  have a10 : α' 10 = α 10 := hL 10 (by omega)
  have a11 : α' 11 = α 11 := hL 11 (by omega)
  have a12 : α' 12 = α 12 := hL 12 (by omega)
  have a13 : α' 13 = α 13 := hL 13 (by omega)
  have a14 : α' 14 = α 14 := hL 14 (by omega)
  have a15 : α' 15 = α 15 := hL 15 (by omega)
  have a17 : α' 17 = α 17 := hL 17 (by omega)
  have a35 : α' 35 = α 35 := hL 35 (by omega)
  have a36 : α' 36 = α 36 := hL 36 (by omega)
  have a38 : α' 38 = α 38 := hL 38 (by omega)
  refine ⟨nr, cs, I, K, T, F, Z, G, W, 0, rs1, qk, ql, ⟨h1.1, h1.2.1, s2.trans h1.2.2⟩, h2, fun j hj => ?_, ?_, ?_, ?_, ?_, ?_, ?_, ?_, ?_, ?_⟩
  · rw [a3, a4, a5, a6, a7, a8, a9, a10, a11, a12, a13]
    exact h3 j hj
  · rw [a6, a8, a10, a11, a12, a13]
    exact h4
  · rw [s1]
    exact h5
  · exact ⟨by omega, rfl, h16, fun j hj => absurd hj (by omega)⟩
  · rw [b2, a14]
    exact h7
  · rw [b3, a15]
    exact h8
  · rw [b21, b22, s34, a35, a36]
    exact h9
  · rw [b27, s37, a38]
    exact h10
  · rcases h11 with ⟨e1, e2, z⟩ | ⟨e1, e2, z⟩
    · obtain ⟨z1, z2, z3, z4, z5, z6, z7, z8, z9⟩ := z
      refine Or.inl ⟨rfl, rfl, z1, z2, h21.trans z3, ?_, ?_, z6, z7, ?_, hF⟩
      · show RuA (α' 22) (α' 23) (α' 26) (α' 24) (α' 25) rs1
        rw [hL2 22 (by omega), hL2 23 (by omega), hL2 26 (by omega), hL2 24 (by omega), hL2 25 (by omega)]
        exact z4
      · rw [hA (6 + 1) (by omega), hA (6 + 2) (by omega), hA (6 + 3) (by omega), hA (6 + 4) (by omega), hA (6 + 5) (by omega), hA (6 + 6) (by omega)]
        exact z5
      · intro k hk
        rw [hL2 24 (by omega), hL2 25 (by omega)]
        exact z8 k hk
    · exact absurd e1 (by decide)
  · rw [a10, a11, a12, a14, a15]
    exact h12
