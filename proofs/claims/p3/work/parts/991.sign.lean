/-! ===== the bytes of sign, in the class and in the reference ===== -/
theorem bre_c : ∀ c : BitVec 8, bre (Int32.ofBitVec (c.signExtend 32)) (Int32.ofBitVec (c.setWidth 32)) := by
  intro c
  have h1 : ∀ k : Fin 128, Int32.ofBitVec ((BitVec.ofNat 8 k).signExtend 32) = nI k ∧ Int32.ofBitVec ((BitVec.ofNat 8 k).setWidth 32) = nI k := by decide +kernel
  have h2 : ∀ k : Fin 128, Int32.ofBitVec ((BitVec.ofNat 8 (128 + k)).signExtend 32) < 0 ∧ Int32.ofBitVec ((BitVec.ofNat 8 (128 + k)).setWidth 32) = nI (128 + k) := by decide +kernel
  have hc : c = BitVec.ofNat 8 c.toNat := by simp
  have hlt : c.toNat < 256 := c.isLt
  rcases Nat.lt_or_ge c.toNat 128 with z | z
  · obtain ⟨a1, a2⟩ := h1 ⟨c.toNat, z⟩
    rw [← hc] at a1 a2
    exact Or.inl ⟨c.toNat, z, a1, a2⟩
  · obtain ⟨a1, a2⟩ := h2 ⟨c.toNat - 128, by omega⟩
    have e : 128 + (c.toNat - 128) = c.toNat := by omega
    rw [show ((⟨c.toNat - 128, by omega⟩ : Fin 128) : Nat) = c.toNat - 128 from rfl, e, ← hc] at a1 a2
    exact Or.inr ⟨a1, c.toNat, z, hlt, a2⟩
theorem b255 : ∀ j : Fin 32, (255#32).getLsbD j = decide ((j : Nat) < 8) := by decide +kernel
theorem mby_c (B : Int64) {k : Nat} (hk : k < 8) : mby B k = Int32.ofBitVec ((BitVec.setWidth 8 (B.toBitVec >>> (8 * k))).setWidth 32) := by
  have hs : ((8 * nI k).toInt64 &&& 63) = Int64.ofNat (8 * k) := by
    have z : ∀ j : Fin 8, ((8 * nI j).toInt64 &&& 63) = Int64.ofNat (8 * (j : Nat)) := by decide +kernel
    exact z ⟨k, hk⟩
  unfold mby
  rw [hs]
  apply Int32.toBitVec_inj.mp
  have hsm : ((Int64.ofNat (8 * k)).toBitVec.smod 64).toNat = 8 * k := by
    have z : ∀ j : Fin 8, ((Int64.ofNat (8 * (j : Nat))).toBitVec.smod 64).toNat = 8 * (j : Nat) := by decide +kernel
    exact z ⟨k, hk⟩
  have e : (B >>> Int64.ofNat (8 * k)).toBitVec = B.toBitVec.sshiftRight (8 * k) := by
    rw [Int64.toBitVec_shiftRight]
    exact congrArg (B.toBitVec.sshiftRight) hsm
  have e2 : ((B >>> Int64.ofNat (8 * k)).toInt32 &&& 255).toBitVec = (B.toBitVec.sshiftRight (8 * k)).signExtend 32 &&& 255#32 := by
    rw [← e]
    rfl
  refine e2.trans ?_
  rw [BitVec.signExtend_eq_setWidth_of_le (B.toBitVec.sshiftRight (8 * k)) (by decide)]
  apply BitVec.eq_of_getLsbD_eq
  intro i hi
  have h255 : (255#32).getLsbD i = decide (i < 8) := b255 ⟨i, hi⟩
  rw [BitVec.getLsbD_and, h255, BitVec.getLsbD_setWidth, BitVec.getLsbD_sshiftRight]
  by_cases h8 : i < 8
  · simp [h8, hi]
    rw [if_pos (by omega)]
    have z : ¬ 64 ≤ i := by omega
    simp [z]
  · simp [h8]
theorem xby_c (B : Int64) {k : Nat} (hk : k < 8) : xby B k = Int32.ofBitVec ((BitVec.setWidth 8 (B.toBitVec >>> (8 * k))).signExtend 32) := by
  have hs : ((8 * nI k).toInt64.toUInt64 &&& Int64.toUInt64 63) = UInt64.ofNat (8 * k) := by
    have z : ∀ j : Fin 8, ((8 * nI j).toInt64.toUInt64 &&& Int64.toUInt64 63) = UInt64.ofNat (8 * (j : Nat)) := by decide +kernel
    exact z ⟨k, hk⟩
  unfold xby
  rw [hs]
  apply Int32.toBitVec_inj.mp
  have hm : (UInt64.ofNat (8 * k)).toBitVec % 64 = BitVec.ofNat 64 (8 * k) := by
    have z : ∀ j : Fin 8, (UInt64.ofNat (8 * (j : Nat))).toBitVec % 64 = BitVec.ofNat 64 (8 * (j : Nat)) := by decide +kernel
    exact z ⟨k, hk⟩
  show ((((B.toUInt64 >>> UInt64.ofNat (8 * k)).toInt64.toInt32.toInt8.toInt32).toInt8.toInt32)).toBitVec = _
  simp
  rw [show 8 * k % 64 = 8 * k by omega, BitVec.signExtend_eq_setWidth_of_le (B.toBitVec >>> (8 * k)) (by decide)]
theorem by_bre (B : Int64) {k : Nat} (hk : k < 8) : bre (xby B k) (mby B k) := by
  rw [xby_c B hk, mby_c B hk]
  exact bre_c _
theorem sl_bre (B : Int64) : ∀ (k t : Nat) (f g : Nat → Int32), k ≤ 8 → (∀ j, j < t → bre (f j) (g j)) → ∀ j, j < t + k → bre (xsl B k t f j) (msl B k t g j) := by
  intro k
  induction k with
  | zero => intro t f g hk h j hj; exact h j hj
  | succ k ih =>
    intro t f g hk h j hj
    refine ih (t + 1) (upd f t (xby B k)) (upd g t (mby B k)) (by omega) (fun i hi => ?_) j (by omega)
    by_cases e : i = t
    · subst e
      rw [pk_us, pk_us]
      exact by_bre B (by omega)
    · rw [pk_un e, pk_un e]
      exact h i (by omega)
