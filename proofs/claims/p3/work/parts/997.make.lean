/-! ===== a report made ===== -/
theorem rlQ_u {j nr : Nat} {i k t f : Int32} {ζ g w : Nat → Int32} {α α' : Nat → Nat → Int32} (h : rlQ j i k t f ζ g w α) (h3 : α' 3 j = α 3 j) (h4 : α' 4 j = α 4 j) (h5 : α' 5 j = α 5 j) (h7 : α' 7 j = α 7 j) (h6 : α' 6 = α 6) (h8 : α' 8 = α 8) (h9 : α' 9 = α 9) (h10 : α' 10 = α 10) (h11 : α' 11 = α 11) (h12 : α' 12 = α 12) (h13 : α' 13 = α 13) : rlQ j i k t f ζ g w α' := by
  obtain ⟨z1, z2, z3, z4, z5, z6, z7, z8, z9, z10⟩ := h
  unfold rlQ
  rw [h6, h8, h9, h10, h11, h12, h13]
  exact ⟨by rw [h3]; exact z1, by rw [h4]; exact z2, by rw [h5]; exact z3, by rw [h7]; exact z4, z5, z6, z7, z8, z9, z10⟩
theorem Rel.make {lo n : Nat} {ξ : Nat → Int32} {β : Nat → Nat → Int32} {ρ : Nat → Option Nat} {u v : Nat} {h : AH} {σ : Nat → Int32} {α : Nat → Nat → Int32} (hR : Rel lo n ξ β ρ u v h σ α) (hln : lo ≤ n) (hlt : ξ 0 < 30) {m k : Nat} (hm : m ≤ 9999) (hk : k < 5) :
    Rel lo (n + 3) (upd ξ 0 (ξ 0 + 1)) β (va_up ρ (ξ 0).toNatClampNeg (some n)) u v (ovL n (rps n (nI m) (nI k) (ξ 1) (-1) (fun _ => 0) (fun _ => 0) (fun _ => 0)) h) (mmakes σ α (nI m) (nI k) (-1)).1 (mmakes σ α (nI m) (nI k) (-1)).2 := by
  obtain ⟨nr, cs, I, K, T, F, Z, G, W, t1, rs1, qk, ql, h1, h2, h3, h4, h5, h6, h7, h8, h9, h10, h11, h12⟩ := hR
  obtain ⟨n30, e1, e2⟩ := h1
  have hnr : nr < 30 := Nat.lt_of_not_le (fun y => by
    rw [e1] at hlt
    exact absurd (nI_le (a := 30) (b := nr) y (by omega)) (Int32.not_le.mpr hlt))
  have ec : (ξ 0).toNatClampNeg = nr := by rw [e1, nI_clamp (by omega)]
  have er : (σ 2).toNatClampNeg = nr := by rw [e2, nI_clamp (by omega)]
  have e5 : ξ 1 = σ 1 := by
    obtain ⟨t, -, z1, z2⟩ := h5
    rw [z1, z2]
  generalize hα : (mmakes σ α (nI m) (nI k) (-1)).2 = α'
  have a3 : α' 3 = upd (α 3) nr (nI m) := by rw [← hα]; show upd (α 3) (σ 2).toNatClampNeg (nI m) = _; rw [er]
  have a4 : α' 4 = upd (α 4) nr (nI k) := by rw [← hα]; show upd (α 4) (σ 2).toNatClampNeg (nI k) = _; rw [er]
  have a5 : α' 5 = upd (α 5) nr (σ 1) := by rw [← hα]; show upd (α 5) (σ 2).toNatClampNeg (σ 1) = _; rw [er]
  have a7 : α' 7 = upd (α 7) nr (-1) := by rw [← hα]; show upd (α 7) (σ 2).toNatClampNeg (-1) = _; rw [er]
  have ao : ∀ x, x ≠ 3 → x ≠ 4 → x ≠ 5 → x ≠ 7 → α' x = α x := fun x y3 y4 y5 y7 => by
    rw [← hα]
    show upa (upa (upa (upa α 3 _) 4 _) 5 _) 7 _ x = _
    rw [upa_n y7, upa_n y5, upa_n y4, upa_n y3]
  have o6 := ao 6 (by decide) (by decide) (by decide) (by decide)
  have o8 := ao 8 (by decide) (by decide) (by decide) (by decide)
  have o9 := ao 9 (by decide) (by decide) (by decide) (by decide)
  have o10 := ao 10 (by decide) (by decide) (by decide) (by decide)
  have o11 := ao 11 (by decide) (by decide) (by decide) (by decide)
  have o12 := ao 12 (by decide) (by decide) (by decide) (by decide)
  have o13 := ao 13 (by decide) (by decide) (by decide) (by decide)
  rw [ec]
  refine ⟨nr + 1, fch cs nr n, fch I nr (nI m), fch K nr (nI k), fch T nr (ξ 1), fch F nr (-1), fch Z nr (fun _ => 0), fch G nr (fun _ => 0), fch W nr (fun _ => 0), t1, rs1, qk, ql, ⟨by omega, ?_, ?_⟩, h2.add hln _ _ _ _ _ _ _, fun j hj => ?_, ?_, h5, ?_, ?_, ?_, ?_, ?_, ?_, ?_⟩
  · show ξ 0 + 1 = _
    rw [e1, nI_1]
  · show σ 2 + 1 = _
    rw [e2, nI_1]
  · by_cases e : j = nr
    · subst e
      rw [fch_s, fch_s, fch_s, fch_s, fch_s, fch_s, fch_s]
      obtain ⟨f6, f8, f⟩ := h4 j (Nat.le_refl _) hnr
      rw [a3, a4, a5, a7, o6, o8, o9, o10, o11, o12, o13]
      refine ⟨⟨m, hm, rfl, pk_us⟩, ⟨k, hk, rfl, pk_us⟩, by rw [pk_us]; exact e5, pk_us.symm, ⟨0, by omega, rfl, f6⟩, ⟨0, by omega, rfl, f8, fun q hq => absurd hq (by omega)⟩, fun e he => ?_, fun e he => ?_, fun e he => ?_, fun e he => ?_⟩
      · rw [xhs_0 (by omega), (f e he).1]; decide
      · rw [xhs_0 (by omega), (f e he).2.1]; decide
      · rw [xhs_0 he]
        constructor
        · intro z; exact absurd z (by decide)
        · rintro ⟨y1, y2⟩; exact absurd (f e y1).2.2.1 y2
      · exact ⟨(f e he).2.2.2.symm, Or.inl ⟨0, by omega, rfl⟩⟩
    · rw [fch_n e, fch_n e, fch_n e, fch_n e, fch_n e, fch_n e, fch_n e]
      exact rlQ_u (nr := nr) (h3 j (by omega)) (by rw [a3, pk_un e]) (by rw [a4, pk_un e]) (by rw [a5, pk_un e]) (by rw [a7, pk_un e]) o6 o8 o9 o10 o11 o12 o13
  · rw [o6, o8, o10, o11, o12, o13]
    exact fun j y1 y2 => h4 j (by omega) y2
  · rw [ao 17 (by decide) (by decide) (by decide) (by decide)]; exact h6
  · rw [ao 14 (by decide) (by decide) (by decide) (by decide)]; exact h7
  · rw [ao 15 (by decide) (by decide) (by decide) (by decide)]; exact h8
  · rw [ao 35 (by decide) (by decide) (by decide) (by decide), ao 36 (by decide) (by decide) (by decide) (by decide)]; exact h9
  · rw [ao 38 (by decide) (by decide) (by decide) (by decide)]; exact h10
  · have hal : ∀ {bo : Nat} {z y : Int32}, rlU bo z β y α rs1 → rlU bo z β y α' rs1 := fun z => rlU_al z (ao 22 (by decide) (by decide) (by decide) (by decide)) (ao 23 (by decide) (by decide) (by decide) (by decide)) (ao 24 (by decide) (by decide) (by decide) (by decide)) (ao 25 (by decide) (by decide) (by decide) (by decide)) (ao 26 (by decide) (by decide) (by decide) (by decide)) (ao 30 (by decide) (by decide) (by decide) (by decide)) (ao 31 (by decide) (by decide) (by decide) (by decide))
    rcases h11 with ⟨y1, y2, z⟩ | ⟨y1, y2, z⟩
    · exact Or.inl ⟨y1, y2, hal z⟩
    · exact Or.inr ⟨y1, y2, hal z⟩
  · rw [o10, o11, o12, ao 14 (by decide) (by decide) (by decide) (by decide), ao 15 (by decide) (by decide) (by decide) (by decide)]
    exact h12
