/-! ===== one report changes, the others stay ===== -/
/-- the rows of report i are the same in both -/
def SRw (i : Nat) (α α' : Nat → Nat → Int32) : Prop := α' 6 i = α 6 i ∧ α' 8 i = α 8 i ∧ (∀ q, q < 3 → α' 9 (3 * i + q) = α 9 (3 * i + q)) ∧ ∀ e, e < 20 → α' 10 (20 * i + e) = α 10 (20 * i + e) ∧ α' 11 (20 * i + e) = α 11 (20 * i + e) ∧ α' 12 (20 * i + e) = α 12 (20 * i + e) ∧ α' 13 (20 * i + e) = α 13 (20 * i + e)
/-- what is said of a report when it is made is the same in both -/
def SMd (α α' : Nat → Nat → Int32) : Prop := α' 3 = α 3 ∧ α' 4 = α 4 ∧ α' 5 = α 5 ∧ α' 7 = α 7
abbrev rlQ (j : Nat) (i k t f : Int32) (ζ g w : Nat → Int32) (α : Nat → Nat → Int32) : Prop := rlR j i k t f ζ g w (α 3) (α 4) (α 5) (α 6) (α 7) (α 8) (α 9) (α 10) (α 11) (α 12) (α 13)
theorem rlR_c {j : Nat} {i k t f : Int32} {ζ g w : Nat → Int32} {α α' : Nat → Nat → Int32} (h : rlQ j i k t f ζ g w α) (hm : SMd α α') (hs : SRw j α α') : rlQ j i k t f ζ g w α' := by
  obtain ⟨m3, m4, m5, m7⟩ := hm
  obtain ⟨s6, s8, s9, s⟩ := hs
  obtain ⟨h1, h2, h3, h4, h5, h6, h7, h8, h9, h10⟩ := h
  refine ⟨by rw [m3]; exact h1, by rw [m4]; exact h2, by rw [m5]; exact h3, by rw [m7]; exact h4, by rw [s6]; exact h5, ?_, fun e he => ?_, fun e he => ?_, fun e he => ?_, fun e he => ?_⟩
  · obtain ⟨c, hc, z1, z2, z3⟩ := h6
    exact ⟨c, hc, z1, by rw [s8]; exact z2, fun q hq => by rw [s9 q (by omega)]; exact z3 q hq⟩
  · rw [(s e he).1]; exact h7 e he
  · rw [(s e he).2.1]; exact h8 e he
  · by_cases e20 : e < 20
    · rw [(s e e20).2.2.1]; exact h9 e he
    · have z := h9 e he
      constructor
      · intro y; exact absurd (z.mp y).1 e20
      · intro y; exact absurd y.1 e20
  · rw [(s e he).2.2.2]; exact h10 e he
theorem rlR_put {nr j : Nat} {I K T F : Nat → Int32} {Z G W : Nat → Nat → Int32} {ζ g w : Nat → Int32} {α α' : Nat → Nat → Int32} (hn : nr ≤ 30) (h : ∀ i, i < nr → rlQ i (I i) (K i) (T i) (F i) (Z i) (G i) (W i) α) (hm : SMd α α') (hs : ∀ i, i < 30 → i ≠ j → SRw i α α') (hj : rlQ j (I j) (K j) (T j) (F j) ζ g w α') : ∀ i, i < nr → rlQ i (I i) (K i) (T i) (F i) (fch Z j ζ i) (fch G j g i) (fch W j w i) α' := by
  intro i hi
  by_cases e : i = j
  · subst e
    rw [fch_s, fch_s, fch_s]
    exact hj
  · rw [fch_n e, fch_n e, fch_n e]
    exact rlR_c (h i hi) hm (hs i (by omega) e)
theorem rlF_put {nr j : Nat} {α α' : Nat → Nat → Int32} (h : rlF nr (α 6) (α 8) (α 10) (α 11) (α 12) (α 13)) (hj : j < nr) (hs : ∀ i, i < 30 → i ≠ j → SRw i α α') : rlF nr (α' 6) (α' 8) (α' 10) (α' 11) (α' 12) (α' 13) := by
  intro i h1 h2
  obtain ⟨s6, s8, s9, s⟩ := hs i h2 (by omega)
  obtain ⟨z1, z2, z3⟩ := h i h1 h2
  refine ⟨by rw [s6]; exact z1, by rw [s8]; exact z2, fun e he => ?_⟩
  obtain ⟨a1, a2, a3, a4⟩ := s e he
  obtain ⟨y1, y2, y3, y4⟩ := z3 e he
  exact ⟨by rw [a1]; exact y1, by rw [a2]; exact y2, by rw [a3]; exact y3, by rw [a4]; exact y4⟩
/-- the persons inside -/
theorem rlQ_in {j : Nat} {i k t f : Int32} {ζ g w : Nat → Int32} {α : Nat → Nat → Int32} {y : Nat} (h : rlQ j i k t f ζ g w α) (hy : y ≤ 99) : rlQ j i k t f (upd ζ 3 (nI y)) g w (upa α 6 (upd (α 6) j (nI y))) := by
  obtain ⟨h1, h2, h3, h4, h5, h6, h7, h8, h9, h10⟩ := h
  exact ⟨h1, h2, h3, h4, ⟨y, hy, rfl, by show upd (α 6) j (nI y) j = _; rw [pk_us]⟩, h6, h7, h8, h9, h10⟩
theorem SRw_in {j : Nat} {α : Nat → Nat → Int32} {x : Int32} : ∀ i, i < 30 → i ≠ j → SRw i α (upa α 6 (upd (α 6) j x)) := fun i _ hne => ⟨by show upd (α 6) j x i = _; rw [pk_un hne], rfl, fun _ _ => rfl, fun _ _ => ⟨rfl, rfl, rfl, rfl⟩⟩
/-- the book's part of Rel under arrays that it does not see -/
theorem rlU_al {bo : Nat} {z y : Int32} {β α α' : Nat → Nat → Int32} {rs : List Ru} (h : rlU bo z β y α rs) (h22 : α' 22 = α 22) (h23 : α' 23 = α 23) (h24 : α' 24 = α 24) (h25 : α' 25 = α 25) (h26 : α' 26 = α 26) (h30 : α' 30 = α 30) (h31 : α' 31 = α 31) : rlU bo z β y α' rs := by
  obtain ⟨z1, z2, z3, z4, z5, z6, z7, z8, z9⟩ := h
  refine ⟨z1, z2, z3, ?_, z5, z6, z7, fun k hk => ?_, fun k hk => ?_⟩
  · show RuA (α' 22) (α' 23) (α' 26) (α' 24) (α' 25) rs
    rw [h22, h23, h24, h25, h26]
    exact z4
  · rw [h24, h25]; exact z8 k hk
  · rw [h30, h31]; exact z9 k hk
