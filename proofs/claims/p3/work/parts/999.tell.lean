/-! ===== fields told, faults ===== -/
theorem rlB_v {g : Nat → Int32} {k : Nat} {on : Int32} (h : rlB g) (ho : on = 0 ∨ on = 1) : rlB (upd g k on) := fun j => by
  by_cases e : j = k
  · subst e
    rw [pk_us, nb01 ho]
  · rw [pk_un e]
    exact h j
theorem bit_set {a : Int32} {A : Nat → Int32} {j e : Nat} {on : Int32} (h : ∀ e', e' < 20 → (xhs a (nI e') = 1 ↔ ¬ A (20 * j + e') = 0)) (he : e < 20) (ho : on = 0 ∨ on = 1) : ∀ e', e' < 20 → (xhs (xch a (nI e) on) (nI e') = 1 ↔ ¬ upd A (20 * j + e) on (20 * j + e') = 0) := by
  intro e' he'
  rw [xhs_ch _ _ (by omega) (by omega)]
  by_cases e2 : e' = e
  · subst e2
    rw [if_pos rfl, pk_us]
    rcases ho with rfl | rfl
    · decide
    · decide
  · rw [if_neg e2, pk_un (by omega)]
    exact h e' he'
theorem bit_set2 {a : Int32} {A : Nat → Int32} {j e : Nat} {on : Int32} (h : ∀ e', e' < 32 → (xhs a (nI e') = 1 ↔ e' < 20 ∧ ¬ A (20 * j + e') = 0)) (he : e < 20) (ho : on = 0 ∨ on = 1) : ∀ e', e' < 32 → (xhs (xch a (nI e) on) (nI e') = 1 ↔ e' < 20 ∧ ¬ upd A (20 * j + e) on (20 * j + e') = 0) := by
  intro e' he'
  rw [xhs_ch _ _ (by omega) he']
  by_cases e2 : e' = e
  · subst e2
    rw [if_pos rfl, pk_us]
    rcases ho with rfl | rfl
    · exact ⟨fun z => absurd z (by decide), fun z => absurd rfl z.2⟩
    · exact ⟨fun _ => ⟨he, by decide⟩, fun _ => by decide⟩
  · rw [if_neg e2, pk_un (by omega)]
    exact h e' he'
theorem rlQ_z {j : Nat} {i k t f : Int32} {ζ g w g' : Nat → Int32} {α : Nat → Nat → Int32} {A0 A1 A2 : Int32} {b10 b11 b12 b13 : Nat → Int32} (h : rlQ j i k t f ζ g w α) (k7 : ∀ e, e < 20 → (xhs A0 (nI e) = 1 ↔ ¬ b10 (20 * j + e) = 0)) (k8 : ∀ e, e < 20 → (xhs A1 (nI e) = 1 ↔ ¬ b11 (20 * j + e) = 0)) (k9 : ∀ e, e < 32 → (xhs A2 (nI e) = 1 ↔ e < 20 ∧ ¬ b12 (20 * j + e) = 0)) (k10 : ∀ e, e < 20 → g' e = b13 (20 * j + e) ∧ vok (g' e)) : rlQ j i k t f (upd (upd (upd ζ 0 A0) 1 A1) 2 A2) g' w (upa (upa (upa (upa α 10 b10) 11 b11) 12 b12) 13 b13) := by
  obtain ⟨h1, h2, h3, h4, h5, h6, h7, h8, h9, h10⟩ := h
  exact ⟨h1, h2, h3, h4, h5, h6, k7, k8, k9, k10⟩
theorem rlQ_z2 {j : Nat} {i k t f : Int32} {ζ g w : Nat → Int32} {α : Nat → Nat → Int32} {A2 : Int32} {b12 : Nat → Int32} (h : rlQ j i k t f ζ g w α) (k9 : ∀ e, e < 32 → (xhs A2 (nI e) = 1 ↔ e < 20 ∧ ¬ b12 (20 * j + e) = 0)) : rlQ j i k t f (upd ζ 2 A2) g w (upa α 12 b12) := by
  obtain ⟨h1, h2, h3, h4, h5, h6, h7, h8, h9, h10⟩ := h
  exact ⟨h1, h2, h3, h4, h5, h6, h7, h8, k9, h10⟩
theorem rlQ_tell {j : Nat} {i k t f : Int32} {ζ g w : Nat → Int32} {α : Nat → Nat → Int32} {e : Nat} {y : Int32} (h : rlQ j i k t f ζ g w α) (he : e < 20) (hy : vok y) : rlQ j i k t f (upd (upd (upd ζ 0 (xch (ζ 0) (nI e) 1)) 1 (xch (ζ 1) (nI e) 0)) 2 (xch (ζ 2) (nI e) 0)) (upd g e y) w (mtell α (20 * j + e) y) := by
  have hh := h
  obtain ⟨h1, h2, h3, h4, h5, h6, h7, h8, h9, h10⟩ := hh
  unfold mtell
  refine rlQ_z h (bit_set (A := α 10) h7 he (Or.inr rfl)) (bit_set (A := α 11) h8 he (Or.inl rfl)) (bit_set2 (A := α 12) h9 he (Or.inl rfl)) (fun e' he' => ?_)
  by_cases e2 : e' = e
  · subst e2
    rw [pk_us, pk_us]
    exact ⟨rfl, hy⟩
  · rw [pk_un e2, pk_un (by omega)]
    exact h10 e' he'
theorem rlQ_fault {j : Nat} {i k t f : Int32} {ζ g w : Nat → Int32} {α : Nat → Nat → Int32} {e : Nat} (h : rlQ j i k t f ζ g w α) (he : e < 20) : rlQ j i k t f (upd ζ 2 (xch (ζ 2) (nI e) 1)) g w (upa α 12 (upd (α 12) (20 * j + e) 1)) := by
  have hh := h
  obtain ⟨h1, h2, h3, h4, h5, h6, h7, h8, h9, h10⟩ := hh
  exact rlQ_z2 h (bit_set2 (A := α 12) h9 he (Or.inr rfl))
theorem SRw_12 {α : Nat → Nat → Int32} {j e : Nat} {x : Int32} (he : e < 20) : ∀ i, i < 30 → i ≠ j → SRw i α (upa α 12 (upd (α 12) (20 * j + e) x)) := by
  intro i _ hne
  refine ⟨rfl, rfl, fun _ _ => rfl, fun e' he' => ⟨rfl, rfl, ?_, rfl⟩⟩
  show upd (α 12) (20 * j + e) x (20 * i + e') = _
  rw [pk_un (by omega)]
/-- a signature -/
theorem rlQ_sign {j : Nat} {i k t f : Int32} {ζ g w : Nat → Int32} {α : Nat → Nat → Int32} {c : Nat} {y : Int32} (h : rlQ j i k t f ζ g w α) (hc : ζ 4 = nI c) (hc3 : c < 3) : rlQ j i k t f (upd ζ 4 (nI (c + 1))) g (upd w c y) (upa (upa α 9 (upd (α 9) (3 * j + c) y)) 8 (upd (α 8) j (nI (c + 1)))) := by
  obtain ⟨h1, h2, h3, h4, h5, h6, h7, h8, h9, h10⟩ := h
  refine ⟨h1, h2, h3, h4, h5, ⟨c + 1, by omega, rfl, by show upd (α 8) j (nI (c + 1)) j = _; rw [pk_us], fun q hq => ?_⟩, h7, h8, h9, h10⟩
  obtain ⟨c', hc', z1, z2, z3⟩ := h6
  have e : c' = c := by
    rw [hc] at z1
    exact ((nI_eq (by omega) (by omega)).mp z1).symm
  subst e
  show upd (α 9) (3 * j + c') y (3 * j + q) = upd w c' y q
  by_cases e2 : q = c'
  · subst e2
    rw [pk_us, pk_us]
  · rw [pk_un (by omega), pk_un e2]
    exact z3 q (by omega)
theorem SRw_sign {α : Nat → Nat → Int32} {j c : Nat} {x y : Int32} (hc : c < 3) : ∀ i, i < 30 → i ≠ j → SRw i α (upa (upa α 9 (upd (α 9) (3 * j + c) y)) 8 (upd (α 8) j x)) := by
  intro i _ hne
  refine ⟨rfl, ?_, fun q hq => ?_, fun _ _ => ⟨rfl, rfl, rfl, rfl⟩⟩
  · show upd (α 8) j x i = _; rw [pk_un hne]
  · show upd (α 9) (3 * j + c) y (3 * i + q) = _; rw [pk_un (by omega)]
