/-! ===== the reports in the heap, one by one ===== -/
theorem ovR_id {r : Nat} {i k t f i' k' t' f' : Int32} {ζ ζ' g g' w w' : Nat → Int32} {h : AH} : ovR r i' k' t' f' ζ' g' w' (ovR r i k t f ζ g w h) = ovR r i' k' t' f' ζ' g' w' h := by
  have e1 : (rps r i k t f ζ g w).length = 3 := rfl
  have e2 : (rps r i' k' t' f' ζ' g' w').length = 3 := rfl
  funext j
  unfold ovR ovL
  rw [e1, e2]
  by_cases e : r ≤ j ∧ j < r + 3
  · rw [if_pos e, if_pos e]
  · rw [if_neg e, if_neg e, if_neg e]
theorem ovR_c2 {r a : Nat} {i k t f i' k' t' f' : Int32} {ζ ζ' g g' w w' : Nat → Int32} {h : AH} (hd : r + 3 ≤ a ∨ a + 3 ≤ r) : ovR a i' k' t' f' ζ' g' w' (ovR r i k t f ζ g w h) = ovR r i k t f ζ g w (ovR a i' k' t' f' ζ' g' w' h) := ovL_ovL (by rcases hd with z | z; exact Or.inr z; exact Or.inl z)
theorem ovM_Lc {mo a : Nat} {σ : Nat → Int32} {α : Nat → Nat → Int32} {cs : List AC} {h : AH} (hj : mo + 28 ≤ a) : ovL a cs (ovM mo σ α h) = ovM mo σ α (ovL a cs h) := by
  rw [ovM_L, ovM_L]
  exact ovL_ovL (Or.inr hj)
theorem ovM_R {mo r : Nat} {σ : Nat → Int32} {α : Nat → Nat → Int32} {i k t f : Int32} {ζ g w : Nat → Int32} {h : AH} (hd : mo + 28 ≤ r) : ovR r i k t f ζ g w (ovM mo σ α h) = ovM mo σ α (ovR r i k t f ζ g w h) := ovM_Lc hd
/-- the reports: where they lie (cs), what they hold -/
def Rpf (lo n : Nat) (ρ : Nat → Option Nat) (h : AH) (nr : Nat) (cs : Nat → Nat) (I K T F : Nat → Int32) (Z G W : Nat → Nat → Int32) : Prop :=
  (∀ j, j < nr → ρ j = some (cs j) ∧ lo ≤ cs j ∧ cs j + 3 ≤ n ∧ ovR (cs j) (I j) (K j) (T j) (F j) (Z j) (G j) (W j) h = h) ∧ ∀ i j, i < nr → j < nr → i ≠ j → cs i + 3 ≤ cs j ∨ cs j + 3 ≤ cs i
def fch {τ : Type} (f : Nat → τ) (j : Nat) (x : τ) : Nat → τ := fun i => if i = j then x else f i
theorem fch_s {τ : Type} (f : Nat → τ) (j : Nat) (x : τ) : fch f j x j = x := if_pos rfl
theorem fch_n {τ : Type} {f : Nat → τ} {j i : Nat} {x : τ} (h : i ≠ j) : fch f j x i = f i := if_neg h
theorem Rpf.toRps {xo lo n : Nat} {ρ : Nat → Option Nat} {h : AH} {nr : Nat} {cs : Nat → Nat} {I K T F : Nat → Int32} {Z G W : Nat → Nat → Int32} (hR : Rpf lo n ρ h nr cs I K T F Z G W) (hl : xo + 28 ≤ lo) : Rps xo n ρ h nr cs I K T F Z G W := fun j hj => by
  obtain ⟨h1, h2, h3, h4⟩ := hR.1 j hj
  exact ⟨h1, by omega, h3, h4⟩
theorem Rpf.put {lo n : Nat} {ρ : Nat → Option Nat} {h : AH} {nr : Nat} {cs : Nat → Nat} {I K T F : Nat → Int32} {Z G W : Nat → Nat → Int32} (hR : Rpf lo n ρ h nr cs I K T F Z G W) {j : Nat} (hj : j < nr) (ζ g w : Nat → Int32) : Rpf lo n ρ (ovR (cs j) (I j) (K j) (T j) (F j) ζ g w h) nr cs I K T F (fch Z j ζ) (fch G j g) (fch W j w) := by
  refine ⟨fun i hi => ?_, hR.2⟩
  obtain ⟨h1, h2, h3, h4⟩ := hR.1 i hi
  refine ⟨h1, h2, h3, ?_⟩
  by_cases e : i = j
  · subst e
    rw [fch_s, fch_s, fch_s]
    exact ovR_id
  · rw [fch_n e, fch_n e, fch_n e, ovR_c2 (hR.2 j i hj hi (Ne.symm e)), h4]
theorem Rpf.hu {lo n n' : Nat} {ρ : Nat → Option Nat} {h : AH} {nr : Nat} {cs : Nat → Nat} {I K T F : Nat → Int32} {Z G W : Nat → Nat → Int32} (hR : Rpf lo n ρ h nr cs I K T F Z G W) {a : Nat} {x : AC} (hn : n ≤ n') (ha : a < lo ∨ n ≤ a) : Rpf lo n' ρ (hu h a x) nr cs I K T F Z G W := by
  refine ⟨fun i hi => ?_, hR.2⟩
  obtain ⟨h1, h2, h3, h4⟩ := hR.1 i hi
  refine ⟨h1, h2, by omega, ?_⟩
  rw [← ovR_out (by omega), h4]
theorem Rpf.M {lo n mo : Nat} {ρ : Nat → Option Nat} {h : AH} {nr : Nat} {cs : Nat → Nat} {I K T F : Nat → Int32} {Z G W : Nat → Nat → Int32} (hR : Rpf lo n ρ h nr cs I K T F Z G W) (σ : Nat → Int32) (α : Nat → Nat → Int32) (hl : mo + 28 ≤ lo) : Rpf lo n ρ (ovM mo σ α h) nr cs I K T F Z G W := by
  refine ⟨fun i hi => ?_, hR.2⟩
  obtain ⟨h1, h2, h3, h4⟩ := hR.1 i hi
  exact ⟨h1, h2, h3, by rw [ovM_R (by omega), h4]⟩
theorem Rpf.add {lo n : Nat} {ρ : Nat → Option Nat} {h : AH} {nr : Nat} {cs : Nat → Nat} {I K T F : Nat → Int32} {Z G W : Nat → Nat → Int32} (hR : Rpf lo n ρ h nr cs I K T F Z G W) (hln : lo ≤ n) (i k t f : Int32) (ζ g w : Nat → Int32) : Rpf lo (n + 3) (va_up ρ nr (some n)) (ovR n i k t f ζ g w h) (nr + 1) (fch cs nr n) (fch I nr i) (fch K nr k) (fch T nr t) (fch F nr f) (fch Z nr ζ) (fch G nr g) (fch W nr w) := by
  refine ⟨fun j hj => ?_, fun a c ha hc hac => ?_⟩
  · by_cases e : j = nr
    · subst e
      rw [fch_s, fch_s, fch_s, fch_s, fch_s, fch_s, fch_s, fch_s]
      exact ⟨if_pos rfl, hln, Nat.le_refl _, ovR_id⟩
    · obtain ⟨h1, h2, h3, h4⟩ := hR.1 j (by omega)
      rw [fch_n e, fch_n e, fch_n e, fch_n e, fch_n e, fch_n e, fch_n e, fch_n e]
      refine ⟨(if_neg e).trans h1, h2, by omega, ?_⟩
      rw [ovR_c2 (Or.inr h3), h4]
  · by_cases e : a = nr
    · have e2 : c ≠ nr := fun z => hac (e.trans z.symm)
      obtain ⟨-, -, h3, -⟩ := hR.1 c (by omega)
      rw [e, fch_s, fch_n e2]
      exact Or.inr h3
    · by_cases e2 : c = nr
      · obtain ⟨-, -, h3, -⟩ := hR.1 a (by omega)
        rw [e2, fch_s, fch_n e]
        exact Or.inl h3
      · rw [fch_n e, fch_n e2]
        exact hR.2 a c (by omega) (by omega) hac
/-! ===== class and reference stand alike: part by part ===== -/
/-- a byte as the class holds it, as the reference does -/
def bre (x y : Int32) : Prop := (∃ c : Nat, c < 128 ∧ x = nI c ∧ y = nI c) ∨ (x < 0 ∧ ∃ c : Nat, 128 ≤ c ∧ c < 256 ∧ y = nI c)
def rlC (x y : Int32) : Prop := ∃ t : Nat, t ≤ 99999 ∧ x = nI t ∧ y = nI t
def rlT (x : Int32) (f : Nat → Int32) (y : Int32) (g : Nat → Int32) (t : Nat) : Prop := t ≤ 300 ∧ x = nI t ∧ y = nI t ∧ ∀ j, j < t → bre (f j) (g j)
def rlA (f g : Nat → Int32) : Prop := ∀ k e, k < 5 → e < 20 → (xhs (f k) (nI e) = 1 ↔ ¬ g (20 * k + e) = 0)
def rlH (f g : Nat → Int32) : Prop := ∀ q e, q < 20 → e < 20 → (xhs (f q) (nI e) = 1 ↔ ¬ g (20 * e + q) = 0)
/-- one report: incident, kind, made, former, numbers, values, signers against the reference's arrays -/
def rlR (j : Nat) (i k t f : Int32) (ζ g w : Nat → Int32) (a3 a4 a5 a6 a7 a8 a9 a10 a11 a12 a13 : Nat → Int32) : Prop :=
  (∃ m : Nat, m ≤ 9999 ∧ i = nI m ∧ a3 j = nI m) ∧ (∃ m : Nat, m < 5 ∧ k = nI m ∧ a4 j = nI m) ∧ t = a5 j ∧ f = a7 j ∧ (∃ m : Nat, m ≤ 99 ∧ ζ 3 = nI m ∧ a6 j = nI m) ∧ (∃ c : Nat, c ≤ 3 ∧ ζ 4 = nI c ∧ a8 j = nI c ∧ ∀ q, q < c → a9 (3 * j + q) = w q) ∧
  (∀ e, e < 20 → (xhs (ζ 0) (nI e) = 1 ↔ ¬ a10 (20 * j + e) = 0)) ∧ (∀ e, e < 20 → (xhs (ζ 1) (nI e) = 1 ↔ ¬ a11 (20 * j + e) = 0)) ∧ (∀ e, e < 32 → (xhs (ζ 2) (nI e) = 1 ↔ e < 20 ∧ ¬ a12 (20 * j + e) = 0)) ∧ ∀ e, e < 20 → g e = a13 (20 * j + e) ∧ vok (g e)
/-- places of reports that are not yet there -/
def rlF (nr : Nat) (a6 a8 a10 a11 a12 a13 : Nat → Int32) : Prop := ∀ j, nr ≤ j → j < 30 → a6 j = 0 ∧ a8 j = 0 ∧ ∀ e, e < 20 → a10 (20 * j + e) = 0 ∧ a11 (20 * j + e) = 0 ∧ a12 (20 * j + e) = 0 ∧ a13 (20 * j + e) = 0
def rlB (f : Nat → Int32) : Prop := ∀ j, vp_nar .boolean (f j) = f j
/-- what the latest check found -/
def rlK (x : Int32) (f1 f2 : Nat → Int32) (y : Int32) (g1 g2 : Nat → Int32) (q : List (Int32 × Int32)) : Prop := q.length ≤ 40 ∧ x = nI q.length ∧ y = nI q.length ∧ ∀ (j : Nat) (z : Int32 × Int32), q[j]? = some z → f1 j = z.1 ∧ f2 j = z.2 ∧ g1 j = z.1 ∧ g2 j = z.2
/-- the latest code -/
def rlL (x : Int32) (f : Nat → Int32) (y : Int32) (g : Nat → Int32) (q : List Int32) : Prop := q.length ≤ 206 ∧ x = nI q.length ∧ y = nI q.length ∧ ∀ (j : Nat) (z : Int32), q[j]? = some z → f j = z ∧ g j = z
/-- the rules -/
def rlU (bo : Nat) (z : Int32) (β : Nat → Nat → Int32) (y : Int32) (α : Nat → Nat → Int32) (rs : List Ru) : Prop := rs.length ≤ 20 ∧ z = nI rs.length ∧ y = nI rs.length ∧ RuM α rs ∧ RuX (β (bo + 1)) (β (bo + 2)) (β (bo + 3)) (β (bo + 4)) (β (bo + 5)) (β (bo + 6)) rs ∧ Lk rs ∧ (∀ (q : Nat) (x : Ru), rs[q]? = some x → (∀ t ∈ x.1, tok t) ∧ ∀ t ∈ x.2.2, tok t) ∧ FR α ∧ FRn α
theorem rlC0 : rlC (ξ0 1) (σ0 1) := ⟨0, by omega, by decide, by decide⟩
theorem rlT0 : rlT (ξ0 2) (β0 4) (σ0 16) (β0 17) 0 := ⟨by omega, by decide, by decide, fun j hj => absurd hj (by omega)⟩
theorem rlA0 : rlA (β0 2) (β0 14) := fun k e _ he => by
  show xhs 0 (nI e) = 1 ↔ ¬ (0 : Int32) = 0
  rw [xhs_0 (by omega)]
  decide
theorem rlH0 : rlH (β0 3) (β0 15) := fun k e _ he => by
  show xhs 0 (nI e) = 1 ↔ ¬ (0 : Int32) = 0
  rw [xhs_0 (by omega)]
  decide
theorem rlF0 : rlF 0 (β0 6) (β0 8) (β0 10) (β0 11) (β0 12) (β0 13) := fun _ _ _ => ⟨rfl, rfl, fun _ _ => ⟨rfl, rfl, rfl, rfl⟩⟩
theorem rlK0 : rlK (ξ0 8) (β0 21) (β0 22) (σ0 34) (β0 35) (β0 36) [] := ⟨by simp, by decide, by decide, fun j z h => by cases h⟩
theorem rlL0 : rlL (ξ0 10) (β0 27) (σ0 37) (β0 38) [] := ⟨by simp, by decide, by decide, fun j z h => by cases h⟩
theorem rlU0 : rlU 6 (ξ0 6) β0 (σ0 21) β0 [] := ⟨by simp, by decide, by decide, fun q x h => (by cases h), fun q x h => (by cases h), fun q x h => (by cases h), fun q x h => (by cases h), fun k _ => ⟨Or.inl (by show (0 : Int32) ≤ 0; decide), Or.inl (by show (0 : Int32) ≤ 0; decide)⟩, fun k _ => ⟨Or.inl (by show (0 : Int32) ≤ 0; decide), Or.inl (by show (0 : Int32) ≤ 0; decide)⟩⟩
theorem Rpf0 (lo n : Nat) (h : AH) (cs : Nat → Nat) (I K T F : Nat → Int32) (Z G W : Nat → Nat → Int32) : Rpf lo n ρ0 h 0 cs I K T F Z G W := ⟨fun j hj => absurd hj (by omega), fun i j hi => absurd hi (by omega)⟩
