/-! ===== sets of fields as bits ===== -/
theorem xhs_t (a : Int32) {f : Nat} (hf : f < 32) : xhs a (nI f) = if a.toBitVec.getLsbD f = true then 1 else 0 := by
  have hs : (((nI f).toUInt32 &&& Int32.toUInt32 31).toBitVec % 32).toNat = f := by
    have z : ∀ k : Fin 32, (((nI k).toUInt32 &&& Int32.toUInt32 31).toBitVec % 32).toNat = k := by decide +kernel
    exact z ⟨f, hf⟩
  have h1 := pk_ushr a (nI f) f hs
  have h2 := pk_and ((a.toUInt32 >>> ((nI f).toUInt32 &&& Int32.toUInt32 31)).toInt32) (m := 1) 1 (by decide)
  unfold xhs
  rw [h2, h1]
  have hb : a.toBitVec.getLsbD f = (a.toBitVec.toNat / 2 ^ f % 2 == 1) := by
    rw [BitVec.getLsbD, Nat.testBit_eq_decide_div_mod_eq]
    rfl
  rw [hb]
  have hm : a.toBitVec.toNat / 2 ^ f % 2 = 0 ∨ a.toBitVec.toNat / 2 ^ f % 2 = 1 := by omega
  rcases hm with z | z
  · rw [show (2 : Nat) ^ 1 = 2 from rfl, z]; decide
  · rw [show (2 : Nat) ^ 1 = 2 from rfl, z]; decide
theorem xhs_01 (a : Int32) {f : Nat} (hf : f < 32) : xhs a (nI f) = 0 ∨ xhs a (nI f) = 1 := by
  rw [xhs_t a hf]
  split
  · exact Or.inr rfl
  · exact Or.inl rfl
theorem shl_bit {f g : Nat} (hf : f < 32) (hg : g < 32) : ((1 : Int32) <<< (nI f &&& 31)).toBitVec.getLsbD g = decide (g = f) := by
  have z : ∀ k j : Fin 32, ((1 : Int32) <<< (nI k &&& 31)).toBitVec.getLsbD j = decide ((j : Nat) = (k : Nat)) := by decide +kernel
  exact z ⟨f, hf⟩ ⟨g, hg⟩
theorem m1_bit {g : Nat} (hg : g < 32) : (-1 : Int32).toBitVec.getLsbD g = true := by
  have z : ∀ j : Fin 32, (-1 : Int32).toBitVec.getLsbD j = true := by decide +kernel
  exact z ⟨g, hg⟩
theorem xhs_ch (a on : Int32) {f g : Nat} (hf : f < 32) (hg : g < 32) : xhs (xch a (nI f) on) (nI g) = if g = f then (if on = 0 then 0 else 1) else xhs a (nI g) := by
  rw [xhs_t _ hg, xhs_t _ hg]
  unfold xch
  by_cases h0 : on = 0
  · rw [if_pos h0, if_pos h0]
    rw [Int32.toBitVec_and, Int32.toBitVec_xor, BitVec.getLsbD_and, BitVec.getLsbD_xor, shl_bit hf hg, m1_bit hg]
    by_cases e : g = f
    · rw [if_pos e]
      simp [e]
    · rw [if_neg e]
      simp [e]
  · rw [if_neg h0, if_neg h0]
    rw [Int32.toBitVec_or, BitVec.getLsbD_or, shl_bit hf hg]
    by_cases e : g = f
    · rw [if_pos e]
      simp [e]
    · rw [if_neg e]
      simp [e]
theorem xhs_an (a z : Int32) {f : Nat} (hf : f < 32) : xhs (a &&& (z ^^^ -1)) (nI f) = if xhs a (nI f) = 1 ∧ xhs z (nI f) = 0 then 1 else 0 := by
  rw [xhs_t _ hf, xhs_t _ hf, xhs_t _ hf, Int32.toBitVec_and, Int32.toBitVec_xor, BitVec.getLsbD_and, BitVec.getLsbD_xor, m1_bit hf]
  cases a.toBitVec.getLsbD f <;> cases z.toBitVec.getLsbD f <;> simp
theorem xhs_ext {a z : Int32} (h : ∀ f, f < 32 → xhs a (nI f) = xhs z (nI f)) : a = z := by
  apply Int32.toBitVec_inj.mp
  apply BitVec.eq_of_getLsbD_eq
  intro f hf
  have := h f hf
  rw [xhs_t a hf, xhs_t z hf] at this
  cases ha : a.toBitVec.getLsbD f <;> cases hz : z.toBitVec.getLsbD f <;> rw [ha, hz] at this <;> simp at this ⊢
theorem xhs_0 {f : Nat} (hf : f < 32) : xhs 0 (nI f) = 0 := by
  have z : ∀ k : Fin 32, xhs 0 (nI k) = 0 := by decide +kernel
  exact z ⟨f, hf⟩
/-- none set -/
theorem xhs_z {a : Int32} : a = 0 ↔ ∀ f, f < 32 → xhs a (nI f) = 0 := by
  constructor
  · intro h f hf
    rw [h]
    exact xhs_0 hf
  · intro h
    exact xhs_ext (fun f hf => by rw [h f hf, xhs_0 hf])
/-- all that is told is there -/
theorem xhs_sub {a z : Int32} : a &&& (z ^^^ -1) = 0 ↔ ∀ f, f < 32 → xhs a (nI f) = 1 → xhs z (nI f) = 1 := by
  rw [xhs_z]
  constructor
  · intro h f hf h1
    have := h f hf
    rw [xhs_an a z hf] at this
    rcases xhs_01 z hf with y | y
    · rw [if_pos ⟨h1, y⟩] at this
      exact absurd this (by decide)
    · exact y
  · intro h f hf
    rw [xhs_an a z hf]
    split
    · rename_i y
      have := h f hf y.1
      rw [y.2] at this
      exact absurd this (by decide)
    · rfl
