/-! ===== class and reference stand alike ===== -/
def Rel (lo n : Nat) (ξ : Nat → Int32) (β : Nat → Nat → Int32) (ρ : Nat → Option Nat) (u v : Nat) (h : AH) (σ : Nat → Int32) (α : Nat → Nat → Int32) : Prop :=
  ∃ (nr : Nat) (cs : Nat → Nat) (I K T F : Nat → Int32) (Z G W : Nat → Nat → Int32) (t : Nat) (rs : List Ru) (qk : List (Int32 × Int32)) (ql : List Int32),
    (nr ≤ 30 ∧ ξ 0 = nI nr ∧ σ 2 = nI nr) ∧ Rpf lo n ρ h nr cs I K T F Z G W ∧ (∀ j, j < nr → rlR j (I j) (K j) (T j) (F j) (Z j) (G j) (W j) (α 3) (α 4) (α 5) (α 6) (α 7) (α 8) (α 9) (α 10) (α 11) (α 12) (α 13)) ∧ rlF nr (α 6) (α 8) (α 10) (α 11) (α 12) (α 13) ∧
    rlC (ξ 1) (σ 1) ∧ rlT (ξ 2) (β 4) (σ 16) (α 17) t ∧ rlA (β 2) (α 14) ∧ rlH (β 3) (α 15) ∧ rlK (ξ 8) (β 21) (β 22) (σ 34) (α 35) (α 36) qk ∧ rlL (ξ 10) (β 27) (σ 37) (α 38) ql ∧
    ((u = 6 ∧ v = 13 ∧ rlU 6 (ξ 6) β (σ 21) α rs) ∨ (u = 13 ∧ v = 6 ∧ rlU 13 (ξ 7) β (σ 21) α rs)) ∧ (rlB (α 10) ∧ rlB (α 11) ∧ rlB (α 12) ∧ rlB (α 14) ∧ rlB (α 15))
theorem Rel0 (lo n : Nat) (h : AH) : Rel lo n ξ0 β0 ρ0 6 13 h σ0 β0 :=
  ⟨0, fun _ => 0, fun _ => 0, fun _ => 0, fun _ => 0, fun _ => 0, fun _ _ => 0, fun _ _ => 0, fun _ _ => 0, 0, [], [], [], ⟨by omega, by decide, by decide⟩, Rpf0 _ _ _ _ _ _ _ _ _ _ _, fun j hj => absurd hj (by omega), rlF0, rlC0, rlT0, rlA0, rlH0, rlK0, rlL0, Or.inl ⟨rfl, rfl, rlU0⟩, fun _ => show vp_nar .boolean 0 = 0 from rfl, fun _ => show vp_nar .boolean 0 = 0 from rfl, fun _ => show vp_nar .boolean 0 = 0 from rfl, fun _ => show vp_nar .boolean 0 = 0 from rfl, fun _ => show vp_nar .boolean 0 = 0 from rfl⟩
/-- a cell that is none of the reports' changes, or is new -/
theorem Rel.hu {lo n n' : Nat} {ξ : Nat → Int32} {β : Nat → Nat → Int32} {ρ : Nat → Option Nat} {u v : Nat} {h : AH} {σ : Nat → Int32} {α : Nat → Nat → Int32} (hR : Rel lo n ξ β ρ u v h σ α) {a : Nat} {x : AC} (hn : n ≤ n') (ha : a < lo ∨ n ≤ a) : Rel lo n' ξ β ρ u v (hu h a x) σ α := by
  obtain ⟨nr, cs, I, K, T, F, Z, G, W, t, rs, qk, ql, h1, h2, h3⟩ := hR
  exact ⟨nr, cs, I, K, T, F, Z, G, W, t, rs, qk, ql, h1, h2.hu hn ha, h3⟩
theorem Rel.M {lo n mo : Nat} {ξ : Nat → Int32} {β : Nat → Nat → Int32} {ρ : Nat → Option Nat} {u v : Nat} {h : AH} {σ : Nat → Int32} {α : Nat → Nat → Int32} (hR : Rel lo n ξ β ρ u v h σ α) (σ' : Nat → Int32) (α' : Nat → Nat → Int32) (hl : mo + 28 ≤ lo) : Rel lo n ξ β ρ u v (ovM mo σ' α' h) σ α := by
  obtain ⟨nr, cs, I, K, T, F, Z, G, W, t, rs, qk, ql, h1, h2, h3⟩ := hR
  exact ⟨nr, cs, I, K, T, F, Z, G, W, t, rs, qk, ql, h1, h2.M σ' α' hl, h3⟩
/-- what was thrown, and the place, are of no account -/
theorem Rel.thrown {lo n : Nat} {ξ : Nat → Int32} {β : Nat → Nat → Int32} {ρ : Nat → Option Nat} {u v : Nat} {h : AH} {σ : Nat → Int32} {α : Nat → Nat → Int32} (hR : Rel lo n ξ β ρ u v h σ α) (x : Int32) : Rel lo n ξ β ρ u v h (upd σ 0 x) α := hR
theorem Rel.place {lo n : Nat} {ξ : Nat → Int32} {β : Nat → Nat → Int32} {ρ : Nat → Option Nat} {u v : Nat} {h : AH} {σ : Nat → Int32} {α : Nat → Nat → Int32} (hR : Rel lo n ξ β ρ u v h σ α) (x : Int32) : Rel lo n ξ β ρ u v h (upd σ 18 x) α := hR
/-- the clock -/
theorem Rel.now {lo n : Nat} {ξ : Nat → Int32} {β : Nat → Nat → Int32} {ρ : Nat → Option Nat} {u v : Nat} {h : AH} {σ : Nat → Int32} {α : Nat → Nat → Int32} (hR : Rel lo n ξ β ρ u v h σ α) {x y : Int32} (hc : rlC x y) : Rel lo n (upd ξ 1 x) β ρ u v h (upd σ 1 y) α := by
  obtain ⟨nr, cs, I, K, T, F, Z, G, W, t, rs, qk, ql, h1, h2, h3, h4, h5, h6, h7, h8, h9, h10, h11, h12⟩ := hR
  exact ⟨nr, cs, I, K, T, F, Z, G, W, t, rs, qk, ql, h1, h2, h3, h4, hc, h6, h7, h8, h9, h10, h11, h12⟩
/-- the tape -/
theorem Rel.tape {lo n : Nat} {ξ : Nat → Int32} {β : Nat → Nat → Int32} {ρ : Nat → Option Nat} {u v : Nat} {h : AH} {σ : Nat → Int32} {α : Nat → Nat → Int32} (hR : Rel lo n ξ β ρ u v h σ α) {x y : Int32} {f g : Nat → Int32} {t : Nat} (hc : rlT x f y g t) : Rel lo n (upd ξ 2 x) (upa β 4 f) ρ u v h (upd σ 16 y) (upa α 17 g) := by
  obtain ⟨nr, cs, I, K, T, F, Z, G, W, t0, rs, qk, ql, h1, h2, h3, h4, h5, h6, h7, h8, h9, h10, h11, h12⟩ := hR
  refine ⟨nr, cs, I, K, T, F, Z, G, W, t, rs, qk, ql, h1, h2, h3, h4, h5, hc, h7, h8, h9, h10, ?_, h12⟩
  rcases h11 with ⟨e1, e2, z⟩ | ⟨e1, e2, z⟩
  · exact Or.inl ⟨e1, e2, z⟩
  · exact Or.inr ⟨e1, e2, z⟩
/-- the fields asked -/
theorem Rel.asks {lo n : Nat} {ξ : Nat → Int32} {β : Nat → Nat → Int32} {ρ : Nat → Option Nat} {u v : Nat} {h : AH} {σ : Nat → Int32} {α : Nat → Nat → Int32} (hR : Rel lo n ξ β ρ u v h σ α) {f g : Nat → Int32} (hc : rlA f g) (hb : rlB g) : Rel lo n ξ (upa β 2 f) ρ u v h σ (upa α 14 g) := by
  obtain ⟨nr, cs, I, K, T, F, Z, G, W, t0, rs, qk, ql, h1, h2, h3, h4, h5, h6, h7, h8, h9, h10, h11, h12⟩ := hR
  refine ⟨nr, cs, I, K, T, F, Z, G, W, t0, rs, qk, ql, h1, h2, h3, h4, h5, h6, hc, h8, h9, h10, ?_, h12.1, h12.2.1, h12.2.2.1, hb, h12.2.2.2.2⟩
  rcases h11 with ⟨e1, e2, z⟩ | ⟨e1, e2, z⟩
  · exact Or.inl ⟨e1, e2, z⟩
  · exact Or.inr ⟨e1, e2, z⟩
/-- the fields hidden -/
theorem Rel.hides {lo n : Nat} {ξ : Nat → Int32} {β : Nat → Nat → Int32} {ρ : Nat → Option Nat} {u v : Nat} {h : AH} {σ : Nat → Int32} {α : Nat → Nat → Int32} (hR : Rel lo n ξ β ρ u v h σ α) {f g : Nat → Int32} (hc : rlH f g) (hb : rlB g) : Rel lo n ξ (upa β 3 f) ρ u v h σ (upa α 15 g) := by
  obtain ⟨nr, cs, I, K, T, F, Z, G, W, t0, rs, qk, ql, h1, h2, h3, h4, h5, h6, h7, h8, h9, h10, h11, h12⟩ := hR
  refine ⟨nr, cs, I, K, T, F, Z, G, W, t0, rs, qk, ql, h1, h2, h3, h4, h5, h6, h7, hc, h9, h10, ?_, h12.1, h12.2.1, h12.2.2.1, h12.2.2.2.1, hb⟩
  rcases h11 with ⟨e1, e2, z⟩ | ⟨e1, e2, z⟩
  · exact Or.inl ⟨e1, e2, z⟩
  · exact Or.inr ⟨e1, e2, z⟩
