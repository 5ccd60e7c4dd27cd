/-! ===== a report looked up, and changed ===== -/
/-- the arrays of the reports' rows alone differ -/
def SAr (α α' : Nat → Nat → Int32) : Prop := ∀ x, x < 6 ∨ x = 7 ∨ 13 < x → α' x = α x
theorem Rel.rep {lo n : Nat} {ξ : Nat → Int32} {β : Nat → Nat → Int32} {ρ : Nat → Option Nat} {u v : Nat} {h : AH} {σ : Nat → Int32} {α : Nat → Nat → Int32} (hR : Rel lo n ξ β ρ u v h σ α) {j : Nat} (hj : j < 30) (hlt : nI j < ξ 0) :
    ∃ (r : Nat) (i k t f : Int32) (ζ g w : Nat → Int32), ρ j = some r ∧ lo ≤ r ∧ r + 3 ≤ n ∧ ovR r i k t f ζ g w h = h ∧ rlQ j i k t f ζ g w α ∧
      ∀ (ζ' g' w' : Nat → Int32) (α' : Nat → Nat → Int32), SAr α α' → (∀ i, i < 30 → i ≠ j → SRw i α α') → rlQ j i k t f ζ' g' w' α' → rlB (α' 10) → rlB (α' 11) → rlB (α' 12) → Rel lo n ξ β ρ u v (ovR r i k t f ζ' g' w' h) σ α' := by
  obtain ⟨nr, cs, I, K, T, F, Z, G, W, t1, rs1, qk, ql, h1, h2, h3, h4, h5, h6, h7, h8, h9, h10, h11, h12⟩ := hR
  have hjn : j < nr := Nat.lt_of_not_le (fun y => by
    rw [h1.2.1] at hlt
    exact absurd (nI_le (a := nr) (b := j) y (by omega)) (Int32.not_le.mpr hlt))
  obtain ⟨p1, p2, p3, p4⟩ := h2.1 j hjn
  refine ⟨cs j, I j, K j, T j, F j, Z j, G j, W j, p1, p2, p3, p4, h3 j hjn, fun ζ' g' w' α' hS hs hq b10 b11 b12 => ?_⟩
  have hm : SMd α α' := ⟨hS 3 (by omega), hS 4 (by omega), hS 5 (by omega), hS 7 (by omega)⟩
  refine ⟨nr, cs, I, K, T, F, fch Z j ζ', fch G j g', fch W j w', t1, rs1, qk, ql, h1, h2.put hjn ζ' g' w', rlR_put h1.1 h3 hm hs hq, rlF_put h4 hjn hs, h5, ?_, ?_, ?_, ?_, ?_, ?_, b10, b11, b12, ?_, ?_⟩
  · rw [hS 17 (by omega)]; exact h6
  · rw [hS 14 (by omega)]; exact h7
  · rw [hS 15 (by omega)]; exact h8
  · rw [hS 35 (by omega), hS 36 (by omega)]; exact h9
  · rw [hS 38 (by omega)]; exact h10
  · have hal : ∀ {bo : Nat} {z y : Int32}, rlU bo z β y α rs1 → rlU bo z β y α' rs1 := fun z => rlU_al z (hS 22 (by omega)) (hS 23 (by omega)) (hS 24 (by omega)) (hS 25 (by omega)) (hS 26 (by omega)) (hS 30 (by omega)) (hS 31 (by omega))
    rcases h11 with ⟨y1, y2, z⟩ | ⟨y1, y2, z⟩
    · exact Or.inl ⟨y1, y2, hal z⟩
    · exact Or.inr ⟨y1, y2, hal z⟩
  · rw [hS 14 (by omega)]; exact h12.2.2.2.1
  · rw [hS 15 (by omega)]; exact h12.2.2.2.2
theorem SAr_6 {α : Nat → Nat → Int32} {f : Nat → Int32} : SAr α (upa α 6 f) := fun x hx => upa_n (by omega)
theorem SAr_u {α α' : Nat → Nat → Int32} {x : Nat} {f : Nat → Int32} (h : SAr α α') (h1 : 6 ≤ x) (h2 : x ≤ 13) (h7 : x ≠ 7) : SAr α (upa α' x f) := fun y hy => (upa_n (by omega)).trans (h y hy)
theorem SAr_r (α : Nat → Nat → Int32) : SAr α α := fun _ _ => rfl
/-- a field told: the rows of the reference -/
theorem SRw_tell {α : Nat → Nat → Int32} {j e : Nat} {x : Int32} (he : e < 20) : ∀ i, i < 30 → i ≠ j → SRw i α (mtell α (20 * j + e) x) := by
  intro i _ hne
  refine ⟨rfl, rfl, fun _ _ => rfl, fun e' he' => ?_⟩
  have hn : 20 * i + e' ≠ 20 * j + e := by omega
  refine ⟨?_, ?_, ?_, ?_⟩
  · show upd (α 10) (20 * j + e) 1 (20 * i + e') = _; rw [pk_un hn]
  · show upd (α 11) (20 * j + e) 0 (20 * i + e') = _; rw [pk_un hn]
  · show upd (α 12) (20 * j + e) 0 (20 * i + e') = _; rw [pk_un hn]
  · show upd (α 13) (20 * j + e) x (20 * i + e') = _; rw [pk_un hn]
theorem SAr_tell {α : Nat → Nat → Int32} {k : Nat} {x : Int32} : SAr α (mtell α k x) := SAr_u (SAr_u (SAr_u (SAr_u (SAr_r α) (by decide) (by decide) (by decide)) (by decide) (by decide) (by decide)) (by decide) (by decide) (by decide)) (by decide) (by decide) (by decide)
