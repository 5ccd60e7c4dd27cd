/-! ===== the reference's reading: what its numbers and factors can be ===== -/
theorem dig_of {x : Int32} (h : ¬ inI x 48 57 = 0) : ∃ d : Nat, d ≤ 9 ∧ x = nI (48 + d) := by
  have h0 : ¬ x < 48 := fun z => h (in_bad (Or.inl z))
  have h1 : x ≤ 57 := by
    apply Int32.not_lt.mp
    intro z
    exact h (in_bad (Or.inr (Int32.not_le.mpr z)))
  have hz : ¬ x < 0 := fun z => h0 (Int32.lt_trans z (by decide))
  obtain ⟨j, hj, rfl⟩ := nI_of2 (n := 57) (show (57 : Int32).toInt = (57 : Nat) by decide) hz h1
  have h48 : 48 ≤ j := by
    rcases Nat.lt_or_ge j 48 with z | z
    · exact absurd (show nI j < nI 48 from nI_lt z (by omega)) h0
    · exact z
  exact ⟨j - 48, by omega, by rw [show 48 + (j - 48) = j by omega]⟩
theorem dig_next (w d : Nat) : 10 * nI w + nI (48 + d) - 48 = nI (10 * w + d) := by
  rw [show (10 : Int32) = nI 10 from rfl, pk_mul, nI_add, show (48 : Int32) = nI 48 from rfl, pk_sub (by omega)]
  congr 1
  omega
theorem nlp_ok (g : Nat → Int32) (t : Nat) : ∀ (k a w : Nat), k ≤ 5 → a ≤ t → w < 10 ^ (5 - k) → (nlp g t k a (nI w)).1 ≤ t ∧ a ≤ (nlp g t k a (nI w)).1 ∧ (nlp g t k a (nI w)).2.2 ≤ k ∧ ∃ w' : Nat, w' < 100000 ∧ (nlp g t k a (nI w)).2.1 = nI w' := by
  intro k
  induction k with
  | zero =>
    intro a w hk ha hw
    exact ⟨ha, Nat.le_refl _, Nat.le_refl _, w, hw, rfl⟩
  | succ k ih =>
    intro a w hk ha hw
    have hw5 : w < 100000 := Nat.lt_of_lt_of_le hw (Nat.pow_le_pow_right (by omega) (by omega : 5 - (k + 1) ≤ 5))
    have stop : (a, nI w, k + 1) = nlp g t (k + 1) a (nI w) → (nlp g t (k + 1) a (nI w)).1 ≤ t ∧ a ≤ (nlp g t (k + 1) a (nI w)).1 ∧ (nlp g t (k + 1) a (nI w)).2.2 ≤ k + 1 ∧ ∃ w' : Nat, w' < 100000 ∧ (nlp g t (k + 1) a (nI w)).2.1 = nI w' := fun e => by
      rw [← e]
      exact ⟨ha, Nat.le_refl _, Nat.le_refl _, w, hw5, rfl⟩
    by_cases hd : inI (hr g t a) 48 57 = 0
    · exact stop (by show _ = (if inI (hr g t a) 48 57 = 0 then (a, nI w, k + 1) else _); rw [if_pos hd])
    · obtain ⟨d, hd9, he⟩ := dig_of hd
      have hlt := hr_lt hd
      have go : nlp g t k (a + 1) (nI (10 * w + d)) = nlp g t (k + 1) a (nI w) → (nlp g t (k + 1) a (nI w)).1 ≤ t ∧ a ≤ (nlp g t (k + 1) a (nI w)).1 ∧ (nlp g t (k + 1) a (nI w)).2.2 ≤ k + 1 ∧ ∃ w' : Nat, w' < 100000 ∧ (nlp g t (k + 1) a (nI w)).2.1 = nI w' := fun e => by
        rw [← e]
        have hp : 10 * w + d < 10 ^ (5 - k) := by
          have e5 : 5 - k = (5 - (k + 1)) + 1 := by omega
          rw [e5, Nat.pow_succ]
          omega
        obtain ⟨h1, h2, h3, h4⟩ := ih (a + 1) (10 * w + d) (by omega) hlt hp
        exact ⟨h1, by omega, by omega, h4⟩
      by_cases h4 : k = 4
      · exact go (by show _ = (if inI (hr g t a) 48 57 = 0 then _ else if k = 4 then nlp g t k (a + 1) (10 * nI w + hr g t a - 48) else _); rw [if_neg hd, if_pos h4, he, dig_next])
      · by_cases h0 : nI w ≤ 0
        · exact stop (by show _ = (if inI (hr g t a) 48 57 = 0 then _ else if k = 4 then _ else if nI w ≤ 0 then (a, nI w, k + 1) else _); rw [if_neg hd, if_neg h4, if_pos h0])
        · exact go (by show _ = (if inI (hr g t a) 48 57 = 0 then _ else if k = 4 then _ else if nI w ≤ 0 then _ else nlp g t k (a + 1) (10 * nI w + hr g t a - 48)); rw [if_neg hd, if_neg h4, if_neg h0, he, dig_next])
/-- a number: its place, its value within the bound, right or wrong -/
theorem mnum_ok {g : Nat → Int32} {t a bd : Nat} (ha : a ≤ t) (ht : t ≤ 300) (hb : bd < 2 ^ 31) : (mnum g t a (nI bd)).1 ≤ t ∧ (∃ v : Nat, v ≤ bd ∧ (mnum g t a (nI bd)).2.1 = nI v) ∧ ((mnum g t a (nI bd)).2.2 = -1 ∨ 0 ≤ (mnum g t a (nI bd)).2.2) := by
  have hs := skp_le g ha
  unfold mnum
  by_cases hd : inI (hr g t (skp g t a)) 48 57 = 0
  · rw [if_pos hd]
    exact ⟨hs, ⟨0, Nat.zero_le _, rfl⟩, Or.inr (nI_pos' (by omega))⟩
  · rw [if_neg hd]
    obtain ⟨d, hd9, he⟩ := dig_of hd
    have hlt := hr_lt hd
    have e0 : nlp g t 5 (skp g t a) 0 = nlp g t 4 (skp g t a + 1) (nI d) := by
      show (if inI (hr g t (skp g t a)) 48 57 = 0 then _ else if (4 : Nat) = 4 then nlp g t 4 (skp g t a + 1) (10 * 0 + hr g t (skp g t a) - 48) else _) = _
      rw [if_neg hd, if_pos rfl, he]
      have := dig_next 0 d
      rw [Nat.mul_zero, Nat.zero_add] at this
      rw [← this]
      rfl
    obtain ⟨h1, h2, h3, w', hw', h4⟩ := nlp_ok g t 4 (skp g t a + 1) d (by omega) hlt (by omega)
    rw [e0]
    refine ⟨h1, ?_, ?_⟩
    · unfold ntl
      split
      · rename_i hle
        rw [h4] at hle ⊢
        have hv : w' ≤ bd := (nI_leI (by omega) hb).mp hle
        split
        · split
          · exact ⟨w', hv, rfl⟩
          · exact ⟨0, Nat.zero_le _, rfl⟩
        · exact ⟨w', hv, rfl⟩
      · exact ⟨0, Nat.zero_le _, rfl⟩
    · unfold ntl
      split
      · split
        · split
          · exact Or.inl rfl
          · exact Or.inr (nI_pos' (by omega))
        · exact Or.inl rfl
      · exact Or.inr (nIp (by omega) (by omega))
theorem mf_ok {g : Nat → Int32} {t a : Nat} (ha : a ≤ t) (ht : t ≤ 300) : mfA g t a ≤ t ∧ fok (mfV g t a) ∧ (mfW g t a = -1 ∨ 0 ≤ mfW g t a) := by
  have hs := skp_le g ha
  by_cases h : hr g t (skp g t a) = 102
  · have hlt : skp g t a + 1 ≤ t := hr_lt2 h (by decide)
    obtain ⟨h1, ⟨v, hv, h2⟩, h3⟩ := mnum_ok (g := g) (bd := 19) hlt ht (by omega)
    unfold mfA mfV mfW
    rw [if_pos h, if_pos h, if_pos h]
    exact ⟨h1, Or.inr ⟨v, by omega, by rw [show (19 : Int32) = nI 19 from rfl, h2]⟩, h3⟩
  · obtain ⟨h1, ⟨v, hv, h2⟩, h3⟩ := mnum_ok (g := g) (bd := 99999) hs ht (by omega)
    unfold mfA mfV mfW
    rw [if_neg h, if_neg h, if_neg h]
    exact ⟨h1, Or.inl (by rw [show (99999 : Int32) = nI 99999 from rfl, h2]; exact nI_pos' (by omega)), h3⟩
/-- a sum: its terms (how, factor, divisor), and where it ends; none: it is wrong -/
def psum (g : Nat → Int32) (t : Nat) : Nat → Int32 → Nat → Option (List (Int32 × Int32 × Option Int32) × Nat)
  | 0, _, _ => none
  | n + 1, how, a =>
    if mfW g t a = -1 then
      (if hr g t (skp g t (mfA g t a)) = 47 then
        (if mfW g t (skp g t (mfA g t a) + 1) = -1 then
          (if n = 0 then some ([(how, mfV g t a, some (mfV g t (skp g t (mfA g t a) + 1)))], mfA g t (skp g t (mfA g t a) + 1))
          else if hr g t (skp g t (mfA g t (skp g t (mfA g t a) + 1))) = 43 then (psum g t n 1 (skp g t (mfA g t (skp g t (mfA g t a) + 1)) + 1)).map (fun q => ((how, mfV g t a, some (mfV g t (skp g t (mfA g t a) + 1))) :: q.1, q.2))
          else if hr g t (skp g t (mfA g t (skp g t (mfA g t a) + 1))) = 45 then (psum g t n 2 (skp g t (mfA g t (skp g t (mfA g t a) + 1)) + 1)).map (fun q => ((how, mfV g t a, some (mfV g t (skp g t (mfA g t a) + 1))) :: q.1, q.2))
          else some ([(how, mfV g t a, some (mfV g t (skp g t (mfA g t a) + 1)))], skp g t (mfA g t (skp g t (mfA g t a) + 1))))
        else none)
      else
        (if n = 0 then some ([(how, mfV g t a, none)], skp g t (mfA g t a))
        else if hr g t (skp g t (skp g t (mfA g t a))) = 43 then (psum g t n 1 (skp g t (skp g t (mfA g t a)) + 1)).map (fun q => ((how, mfV g t a, none) :: q.1, q.2))
        else if hr g t (skp g t (skp g t (mfA g t a))) = 45 then (psum g t n 2 (skp g t (skp g t (mfA g t a)) + 1)).map (fun q => ((how, mfV g t a, none) :: q.1, q.2))
        else some ([(how, mfV g t a, none)], skp g t (skp g t (mfA g t a)))))
    else none
/-- the arrays of the new rules alone may differ -/
def An (α1 α : Nat → Nat → Int32) : Prop := ∀ x, x < 29 ∨ 32 < x → α1 x = α x
def FRn (α : Nat → Nat → Int32) : Prop := ∀ j, j < 160 → fok (α 30 j) ∧ fok (α 31 j)
/-- the terms ps stand at k, k + 1, .., and nothing else of these arrays has changed -/
def Pst (α : Nat → Nat → Int32) (k : Nat) (α1 : Nat → Nat → Int32) (ps : List (Int32 × Int32 × Option Int32)) : Prop :=
  (∀ j, (j < k ∨ k + ps.length ≤ j) → α1 29 j = α 29 j ∧ α1 30 j = α 30 j ∧ α1 31 j = α 31 j ∧ α1 32 j = α 32 j) ∧ ∀ i x, ps[i]? = some x → α1 29 (k + i) = x.1 ∧ α1 30 (k + i) = x.2.1 ∧ (x.2.2 = none → α1 32 (k + i) = 0) ∧ ∀ y, x.2.2 = some y → α1 32 (k + i) = 1 ∧ α1 31 (k + i) = y
theorem Pst_nil (α : Nat → Nat → Int32) (k : Nat) : Pst α k α [] := ⟨fun _ _ => ⟨rfl, rfl, rfl, rfl⟩, fun i x h => by cases h⟩
/-- one term more -/
theorem Pst_snoc {α α1 α2 : Nat → Nat → Int32} {k : Nat} {ps : List (Int32 × Int32 × Option Int32)} {how v : Int32} {o : Option Int32} (h : Pst α k α1 ps)
    (h29 : α2 29 = upd (α1 29) (k + ps.length) how) (h30 : α2 30 = upd (α1 30) (k + ps.length) v) (h32 : α2 32 = upd (α1 32) (k + ps.length) (if o = none then 0 else 1))
    (h31 : ∀ j, j ≠ k + ps.length → α2 31 j = α1 31 j) (h31s : ∀ y, o = some y → α2 31 (k + ps.length) = y) : Pst α k α2 (ps ++ [(how, v, o)]) := by
  refine ⟨fun j hj => ?_, fun i x hx => ?_⟩
  · rw [List.length_append, List.length_singleton] at hj
    have hne : j ≠ k + ps.length := by omega
    obtain ⟨a1, a2, a3, a4⟩ := h.1 j (by omega)
    rw [h29, h30, h32, pk_un hne, pk_un hne, pk_un hne, h31 j hne]
    exact ⟨a1, a2, a3, a4⟩
  · by_cases e : i = ps.length
    · subst e
      rw [List.getElem?_append_right (Nat.le_refl _), Nat.sub_self] at hx
      cases hx
      rw [h29, h30, h32, pk_us, pk_us, pk_us]
      refine ⟨rfl, rfl, fun z => by rw [if_pos z], fun y z => ⟨?_, h31s y z⟩⟩
      have z' : o = some y := z
      rw [z', if_neg (by simp)]
    · have hi : i < ps.length := by
        have := (List.getElem?_eq_some_iff.mp hx).1
        rw [List.length_append, List.length_singleton] at this
        omega
      rw [List.getElem?_append_left hi] at hx
      have hne : k + i ≠ k + ps.length := by omega
      rw [h29, h30, h32, pk_un hne, pk_un hne, pk_un hne, h31 _ hne]
      exact h.2 i x hx
