/-! ===== the reference: rule, rules: printed by program ===== -/
theorem sp_sp (σ : Nat → Int32) (a a' : Nat) (w w' : Int32) : sp (sp σ a w) a' w' = sp σ a' w' := sp_f σ a a' w w'
/-- one rule from a on: its sums and its sign, and where it ends -/
def prule (g : Nat → Int32) (t a : Nat) : Option (((List (Int32 × Int32 × Option Int32)) × Int32 × (List (Int32 × Int32 × Option Int32))) × Nat) := match psum g t 4 1 a with
  | none => none
  | some q =>
    if hr g t (skp g t q.2) = 60 ∨ hr g t (skp g t q.2) = 61 ∨ hr g t (skp g t q.2) = 33 then
      (match psum g t 4 1 (skp g t q.2 + 1) with
      | none => none
      | some u => if hr g t (skp g t u.2) = 59 then some ((q.1, hr g t (skp g t q.2), u.1), skp g t u.2 + 1) else none)
    else none
def An5 (α1 α : Nat → Nat → Int32) : Prop := ∀ x, x < 28 ∨ 32 < x → α1 x = α x
/-- the terms ts stand in the four places from k on -/
def TmA (f d v w : Nat → Int32) (k : Nat) (ts : List (Int32 × Int32 × Option Int32)) : Prop := (∀ i x, ts[i]? = some x → f (k + i) = x.1 ∧ v (k + i) = x.2.1 ∧ (x.2.2 = none → d (k + i) = 0) ∧ ∀ y, x.2.2 = some y → d (k + i) = 1 ∧ w (k + i) = y) ∧ ∀ i, ts.length ≤ i → i < 4 → f (k + i) = 0
/-- the rules rs stand in the arrays s (signs), f, d, v, w (terms) -/
def RuA (s f d v w : Nat → Int32) (rs : List ((List (Int32 × Int32 × Option Int32)) × Int32 × (List (Int32 × Int32 × Option Int32)))) : Prop := ∀ q x, rs[q]? = some x → s q = x.2.1 ∧ TmA f d v w (8 * q) x.1 ∧ TmA f d v w (8 * q + 4) x.2.2
abbrev RuN (α : Nat → Nat → Int32) (rs : List ((List (Int32 × Int32 × Option Int32)) × Int32 × (List (Int32 × Int32 × Option Int32)))) : Prop := RuA (α 28) (α 29) (α 32) (α 30) (α 31) rs
abbrev RuM (α : Nat → Nat → Int32) (rs : List ((List (Int32 × Int32 × Option Int32)) × Int32 × (List (Int32 × Int32 × Option Int32)))) : Prop := RuA (α 22) (α 23) (α 26) (α 24) (α 25) rs
theorem psum_len (g : Nat → Int32) (t : Nat) : ∀ (n : Nat) (how : Int32) (a : Nat) q, psum g t n how a = some q → q.1.length ≤ n := by
  intro n
  induction n with
  | zero => intro how a q h; cases h
  | succ n ih =>
    intro how a q h
    unfold psum at h
    have stp : ∀ (hw : Int32) (b : Nat) (z : Int32 × Int32 × Option Int32), (psum g t n hw b).map (fun q => (z :: q.1, q.2)) = some q → q.1.length ≤ n + 1 := by
      intro hw b z hz
      obtain ⟨q', h1, h2⟩ := Option.map_eq_some_iff.mp hz
      rw [← h2]
      have := ih hw b q' h1
      show q'.1.length + 1 ≤ n + 1
      omega
    split at h
    · split at h
      · split at h
        · split at h
          · cases h; simp
          · split at h
            · exact stp _ _ _ h
            · split at h
              · exact stp _ _ _ h
              · cases h; simp
        · cases h
      · split at h
        · cases h; simp
        · split at h
          · exact stp _ _ _ h
          · split at h
            · exact stp _ _ _ h
            · cases h; simp
    · cases h
theorem skf_ge (g : Nat → Int32) (t : Nat) : ∀ (k a : Nat), a ≤ skf g t k a
  | 0, a => Nat.le_refl _
  | k + 1, a => by
    unfold skf
    split
    · have := skf_ge g t k (a + 1)
      omega
    · exact Nat.le_refl _
theorem skp_ge (g : Nat → Int32) (t a : Nat) : a ≤ skp g t a := skf_ge g t _ a
theorem mnum_ge {g : Nat → Int32} {t a bd : Nat} (ha : a ≤ t) : a ≤ (mnum g t a (nI bd)).1 := by
  have hs := skp_ge g t a
  unfold mnum
  by_cases hd : inI (hr g t (skp g t a)) 48 57 = 0
  · rw [if_pos hd]; exact hs
  · rw [if_neg hd]
    obtain ⟨-, h2, -⟩ := nlp_ok g t 5 (skp g t a) 0 (by omega) (skp_le g ha) (by decide)
    exact Nat.le_trans hs h2
theorem mfA_ge {g : Nat → Int32} {t a : Nat} (ha : a ≤ t) : a ≤ mfA g t a := by
  have hs := skp_ge g t a
  unfold mfA
  by_cases h : hr g t (skp g t a) = 102
  · rw [if_pos h]
    have h1 : skp g t a + 1 ≤ t := hr_lt2 h (by decide)
    have := mnum_ge (g := g) (bd := 19) h1
    exact Nat.le_trans hs (Nat.le_trans (Nat.le_succ _) this)
  · rw [if_neg h]
    exact Nat.le_trans hs (mnum_ge (g := g) (bd := 99999) (skp_le g ha))
theorem psum_ge (g : Nat → Int32) (t : Nat) (ht : t ≤ 300) : ∀ (n : Nat) (how : Int32) (a : Nat) q, a ≤ t → psum g t n how a = some q → a ≤ q.2 := by
  intro n
  induction n with
  | zero => intro how a q ha h; cases h
  | succ n ih =>
    intro how a q ha h
    unfold psum at h
    have m1 := mf_ok (g := g) ha ht
    have k1 := mfA_ge (g := g) ha
    have s1 := skp_ge g t (mfA g t a)
    have stp : ∀ (hw : Int32) (b : Nat) (z : Int32 × Int32 × Option Int32), a ≤ b → b ≤ t → (psum g t n hw b).map (fun q => (z :: q.1, q.2)) = some q → a ≤ q.2 := by
      intro hw b z hab hbt hz
      obtain ⟨q', h1, h2⟩ := Option.map_eq_some_iff.mp hz
      rw [← h2]
      exact Nat.le_trans hab (ih hw b q' hbt h1)
    split at h
    · split at h
      · rename_i h47
        have hlt : skp g t (mfA g t a) + 1 ≤ t := hr_lt2 h47 (by decide)
        have m2 := mf_ok (g := g) hlt ht
        have k2 := mfA_ge (g := g) hlt
        have s2 := skp_ge g t (mfA g t (skp g t (mfA g t a) + 1))
        split at h
        · split at h
          · cases h; show a ≤ mfA g t (skp g t (mfA g t a) + 1); omega
          · split at h
            · rename_i h43
              exact stp _ _ _ (by omega) (hr_lt2 h43 (by decide)) h
            · split at h
              · rename_i h45
                exact stp _ _ _ (by omega) (hr_lt2 h45 (by decide)) h
              · cases h; show a ≤ skp g t (mfA g t (skp g t (mfA g t a) + 1)); omega
        · cases h
      · have s2 := skp_ge g t (skp g t (mfA g t a))
        split at h
        · cases h; show a ≤ skp g t (mfA g t a); omega
        · split at h
          · rename_i h43
            exact stp _ _ _ (by omega) (hr_lt2 h43 (by decide)) h
          · split at h
            · rename_i h45
              exact stp _ _ _ (by omega) (hr_lt2 h45 (by decide)) h
            · cases h; show a ≤ skp g t (skp g t (mfA g t a)); omega
    · cases h
/-- from a cleared block -/
theorem TmA_of {α α1 : Nat → Nat → Int32} {k : Nat} {ps : List (Int32 × Int32 × Option Int32)} (h : Pst α k α1 ps) (hz : ∀ i, i < 4 → α 29 (k + i) = 0) : TmA (α1 29) (α1 32) (α1 30) (α1 31) k ps :=
  ⟨h.2, fun i h1 h2 => ((h.1 (k + i) (Or.inr (by omega))).1).trans (hz i h2)⟩
theorem TmA_keep {f d v w f' d' v' w' : Nat → Int32} {k : Nat} {ps : List (Int32 × Int32 × Option Int32)} (h : TmA f d v w k ps) (hl : ps.length ≤ 4) (hk : ∀ i, i < 4 → f' (k + i) = f (k + i) ∧ d' (k + i) = d (k + i) ∧ v' (k + i) = v (k + i) ∧ w' (k + i) = w (k + i)) : TmA f' d' v' w' k ps := by
  refine ⟨fun i x hx => ?_, fun i h1 h2 => ?_⟩
  · have hi : i < 4 := Nat.lt_of_lt_of_le (List.getElem?_eq_some_iff.mp hx).1 hl
    obtain ⟨e1, e2, e3, e4⟩ := hk i hi
    rw [e1, e2, e3, e4]
    exact h.1 i x hx
  · rw [(hk i h2).1]
    exact h.2 i h1 h2
/-- newTerm cleared from k on, as far as i -/
def clr (g : Nat → Int32) (k i : Nat) : Nat → Int32 := fun j => if k ≤ j ∧ j < k + i then 0 else g j
theorem clr_0 (g : Nat → Int32) (k : Nat) : clr g k 0 = g := by
  funext j
  unfold clr
  rw [if_neg (by omega)]
theorem clr_s (g : Nat → Int32) (k i : Nat) : upd (clr g k i) (k + i) 0 = clr g k (i + 1) := by
  funext j
  by_cases e : j = k + i
  · subst e
    rw [pk_us]
    unfold clr
    rw [if_pos (by omega)]
  · rw [pk_un e]
    unfold clr
    by_cases e2 : k ≤ j ∧ j < k + i
    · rw [if_pos e2, if_pos (by omega)]
    · rw [if_neg e2, if_neg (by omega)]
