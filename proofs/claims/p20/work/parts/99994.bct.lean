/-! ===== the bits of an int, counted ===== -/
theorem ush_b1 (x : Int32) : (ush x 1).toBitVec.toNat = x.toBitVec.toNat / 2 := by
  show (x.toBitVec >>> (1 : Nat)).toNat = _
  rw [BitVec.toNat_ushiftRight, Nat.shiftRight_eq_div_pow]
theorem ush_b2 (x : Int32) : (ush x 2).toBitVec.toNat = x.toBitVec.toNat / 4 := by
  show (x.toBitVec >>> (2 : Nat)).toNat = _
  rw [BitVec.toNat_ushiftRight, Nat.shiftRight_eq_div_pow]
theorem ush_b4 (x : Int32) : (ush x 4).toBitVec.toNat = x.toBitVec.toNat / 16 := by
  show (x.toBitVec >>> (4 : Nat)).toNat = _
  rw [BitVec.toNat_ushiftRight, Nat.shiftRight_eq_div_pow]
theorem ush_b8 (x : Int32) : (ush x 8).toBitVec.toNat = x.toBitVec.toNat / 256 := by
  show (x.toBitVec >>> (8 : Nat)).toNat = _
  rw [BitVec.toNat_ushiftRight, Nat.shiftRight_eq_div_pow]
theorem ush_b16 (x : Int32) : (ush x 16).toBitVec.toNat = x.toBitVec.toNat / 65536 := by
  show (x.toBitVec >>> (16 : Nat)).toNat = _
  rw [BitVec.toNat_ushiftRight, Nat.shiftRight_eq_div_pow]
theorem bc_l256 (u v m k : Nat) (hv : v < 256) (hk : k < 256) : (256 * u + v) &&& (256 * m + k) = 256 * (u &&& m) + (v &&& k) := by
  have h1 := Nat.and_div_two_pow (a := 256 * u + v) (b := 256 * m + k) (n := 8)
  have h2 := Nat.and_mod_two_pow (a := 256 * u + v) (b := 256 * m + k) (n := 8)
  have e1 : (256 * u + v) / 2 ^ 8 = u := by omega
  have e2 : (256 * m + k) / 2 ^ 8 = m := by omega
  have e3 : (256 * u + v) % 2 ^ 8 = v := by omega
  have e4 : (256 * m + k) % 2 ^ 8 = k := by omega
  rw [e1, e2] at h1
  rw [e3, e4] at h2
  have := Nat.div_add_mod ((256 * u + v) &&& (256 * m + k)) (2 ^ 8)
  rw [h1, h2] at this
  omega
theorem bc_d1 : ∀ y, y < 256 → ∀ t, t < 2 → (y / 2 + 128 * t) &&& 85 = (y / 2) &&& 85 := by decide +kernel
def bc_q1 (y : Nat) : Nat := y - ((y / 2) &&& 85)
def bc_q2 (z : Nat) : Nat := (z &&& 51) + ((z / 4) &&& 51)
def bc_q3 (z : Nat) : Nat := (z + z / 16) &&& 15
def bc_q8 (y : Nat) : Nat := y % 2 + y / 2 % 2 + y / 4 % 2 + y / 8 % 2 + y / 16 % 2 + y / 32 % 2 + y / 64 % 2 + y / 128 % 2
def bc_T (a b c : Nat) : Nat := 256 * (256 * c + b) + a
theorem bc_d2 : ∀ y, y < 256 → ∀ t, t < 4 → (y / 4 + 64 * t) &&& 51 = (y / 4) &&& 51 := by decide +kernel
theorem bc_d3 : ∀ z, z < 69 → ∀ t, t < 16 → (z + (z / 16 + 16 * t)) &&& 15 = bc_q3 z := by decide +kernel
theorem bc_d4 : ∀ y, y < 256 → bc_q3 (bc_q2 (bc_q1 y)) = bc_q8 y ∧ (y / 2) &&& 85 ≤ y ∧ bc_q1 y < 256 ∧ (bc_q2 (bc_q1 y) < 69 ∧ bc_q2 (bc_q1 y) % 16 ≤ 4) ∧ bc_q8 y ≤ 8 := by decide +kernel
theorem bc_d5 : ∀ y, y < 256 → y &&& 51 ≤ 51 ∧ (y / 4) &&& 51 ≤ 51 ∧ bc_q3 y ≤ 15 := by decide +kernel
theorem bc_l3 (a b c k : Nat) (ha : a < 256) (hb : b < 256) (hc : c < 256) (hk : k < 256) : bc_T a b c &&& (256 * (256 * (256 * k + k) + k) + k) = bc_T (a &&& k) (b &&& k) (c &&& k) := by
  unfold bc_T
  rw [bc_l256 _ _ _ _ ha hk, bc_l256 _ _ _ _ hb hk]
  have := bc_l256 0 c k k hc hk
  rw [Nat.mul_zero, Nat.zero_add, Nat.zero_and, Nat.mul_zero, Nat.zero_add] at this
  rw [this]
theorem bc_x1 {x : Int32} {a b c : Nat} (h : x.toBitVec.toNat = bc_T a b c) (ha : a < 256) (hb : b < 256) (hc : c < 256) : (xb1 x).toBitVec.toNat = bc_T (bc_q1 a) (bc_q1 b) (bc_q1 c) := by
  have e : (ush x 1 &&& 1431655765).toBitVec.toNat = bc_T ((a / 2) &&& 85) ((b / 2) &&& 85) ((c / 2) &&& 85) := by
    show ((ush x 1).toBitVec &&& 1431655765#32).toNat = _
    rw [BitVec.toNat_and, ush_b1, h]
    have e1 : bc_T a b c / 2 = bc_T (a / 2 + 128 * (b % 2)) (b / 2 + 128 * (c % 2)) (c / 2 + 128 * 0) := by unfold bc_T; omega
    rw [e1, show (1431655765#32).toNat = 256 * (256 * (256 * 85 + 85) + 85) + 85 by decide, bc_l3 _ _ _ _ (by omega) (by omega) (by omega) (by omega), bc_d1 a ha _ (by omega), bc_d1 b hb _ (by omega), bc_d1 c hc 0 (by omega)]
  have k1 := (bc_d4 a ha).2.1
  have k2 := (bc_d4 b hb).2.1
  have k3 := (bc_d4 c hc).2.1
  show (x.toBitVec - (ush x 1 &&& 1431655765).toBitVec).toNat = _
  rw [BitVec.toNat_sub, e, h]
  unfold bc_T bc_q1
  omega
theorem bc_x2 {x : Int32} {a b c : Nat} (h : (xb1 x).toBitVec.toNat = bc_T a b c) (ha : a < 256) (hb : b < 256) (hc : c < 256) : (xb2 x).toBitVec.toNat = bc_T (bc_q2 a) (bc_q2 b) (bc_q2 c) := by
  have e : (ush (xb1 x) 2 &&& 858993459).toBitVec.toNat = bc_T ((a / 4) &&& 51) ((b / 4) &&& 51) ((c / 4) &&& 51) := by
    show ((ush (xb1 x) 2).toBitVec &&& 858993459#32).toNat = _
    rw [BitVec.toNat_and, ush_b2, h]
    have e1 : bc_T a b c / 4 = bc_T (a / 4 + 64 * (b % 4)) (b / 4 + 64 * (c % 4)) (c / 4 + 64 * 0) := by unfold bc_T; omega
    rw [e1, show (858993459#32).toNat = 256 * (256 * (256 * 51 + 51) + 51) + 51 by decide, bc_l3 _ _ _ _ (by omega) (by omega) (by omega) (by omega), bc_d2 a ha _ (by omega), bc_d2 b hb _ (by omega), bc_d2 c hc 0 (by omega)]
  have e2 : (xb1 x &&& 858993459).toBitVec.toNat = bc_T (a &&& 51) (b &&& 51) (c &&& 51) := by
    show ((xb1 x).toBitVec &&& 858993459#32).toNat = _
    rw [BitVec.toNat_and, h, show (858993459#32).toNat = 256 * (256 * (256 * 51 + 51) + 51) + 51 by decide, bc_l3 _ _ _ _ ha hb hc (by omega)]
  have k1 := bc_d5 a ha
  have k2 := bc_d5 b hb
  have k3 := bc_d5 c hc
  show ((xb1 x &&& 858993459).toBitVec + (ush (xb1 x) 2 &&& 858993459).toBitVec).toNat = _
  rw [BitVec.toNat_add, e, e2]
  unfold bc_T bc_q2
  omega
theorem bc_x3 {x : Int32} {a b c : Nat} (h : (xb2 x).toBitVec.toNat = bc_T a b c) (ha : a < 69 ∧ a % 16 ≤ 4) (hb : b < 69 ∧ b % 16 ≤ 4) (hc : c < 69 ∧ c % 16 ≤ 4) : (xb3 x).toBitVec.toNat = bc_T (bc_q3 a) (bc_q3 b) (bc_q3 c) := by
  show (((xb2 x).toBitVec + (ush (xb2 x) 4).toBitVec) &&& 252645135#32).toNat = _
  rw [BitVec.toNat_and, BitVec.toNat_add, ush_b4, h]
  have e1 : (bc_T a b c + bc_T a b c / 16) % 2 ^ 32 = bc_T (a + (a / 16 + 16 * (b % 16))) (b + (b / 16 + 16 * (c % 16))) (c + (c / 16 + 16 * 0)) := by unfold bc_T; omega
  rw [e1, show (252645135#32).toNat = 256 * (256 * (256 * 15 + 15) + 15) + 15 by decide, bc_l3 _ _ _ _ (by omega) (by omega) (by omega) (by omega), bc_d3 a ha.1 _ (by omega), bc_d3 b hb.1 _ (by omega), bc_d3 c hc.1 0 (by omega)]
theorem bc_xn {x : Int32} {a b c : Nat} (h : x.toBitVec.toNat = bc_T a b c) (ha : a < 256) (hb : b < 256) (hc : c < 256) : (xbc x).toBitVec.toNat = bc_q8 a + bc_q8 b + bc_q8 c := by
  obtain ⟨a1, -, a2, a3, a4⟩ := bc_d4 a ha
  obtain ⟨b1, -, b2, b3, b4⟩ := bc_d4 b hb
  obtain ⟨c1, -, c2, c3, c4⟩ := bc_d4 c hc
  have h3 := bc_x3 (bc_x2 (bc_x1 h ha hb hc) a2 b2 c2) a3 b3 c3
  rw [a1, b1, c1] at h3
  have h4 : (xb4 x).toBitVec.toNat = bc_T (bc_q8 a) (bc_q8 b) (bc_q8 c) + bc_T (bc_q8 a) (bc_q8 b) (bc_q8 c) / 256 := by
    show ((xb3 x).toBitVec + (ush (xb3 x) 8).toBitVec).toNat = _
    rw [BitVec.toNat_add, ush_b8, h3]
    unfold bc_T
    omega
  have h5 : bc_T (bc_q8 a) (bc_q8 b) (bc_q8 c) + bc_T (bc_q8 a) (bc_q8 b) (bc_q8 c) / 256 = 65536 * bc_q8 c + (256 * (bc_q8 b + bc_q8 c) + (bc_q8 a + bc_q8 b)) := by
    unfold bc_T
    omega
  rw [h5] at h4
  have h6 : (65536 * bc_q8 c + (256 * (bc_q8 b + bc_q8 c) + (bc_q8 a + bc_q8 b))) / 65536 = bc_q8 c := by omega
  show (((xb4 x).toBitVec + (ush (xb4 x) 16).toBitVec) &&& 63#32).toNat = _
  rw [BitVec.toNat_and, BitVec.toNat_add, ush_b16, h4, h6, show (63#32).toNat = 2 ^ 6 - 1 by decide, Nat.and_two_pow_sub_one_eq_mod]
  omega
theorem bc_bit {A : Int32} {f : Nat} (hf : f < 32) : A.toBitVec.toNat / 2 ^ f % 2 = if xhs A (nI f) = 1 then 1 else 0 := by
  rw [xhs_t A hf]
  have e : A.toBitVec.getLsbD f = decide (A.toBitVec.toNat / 2 ^ f % 2 = 1) := by
    rw [BitVec.getLsbD, Nat.testBit_eq_decide_div_mod_eq]
  rw [e]
  rcases Nat.mod_two_eq_zero_or_one (A.toBitVec.toNat / 2 ^ f) with z | z
  · rw [z]; decide
  · rw [z]; decide
theorem bc_m0 (a : Nat) : a % 256 % 2 = a / 2 ^ 0 % 2 ∧ a % 256 / 2 % 2 = a / 2 ^ 1 % 2 := by omega
theorem bc_m2 (a : Nat) : a % 256 / 4 % 2 = a / 2 ^ 2 % 2 ∧ a % 256 / 8 % 2 = a / 2 ^ 3 % 2 := by omega
theorem bc_m4 (a : Nat) : a % 256 / 16 % 2 = a / 2 ^ 4 % 2 ∧ a % 256 / 32 % 2 = a / 2 ^ 5 % 2 := by omega
theorem bc_m6 (a : Nat) : a % 256 / 64 % 2 = a / 2 ^ 6 % 2 ∧ a % 256 / 128 % 2 = a / 2 ^ 7 % 2 := by omega
theorem bc_q8l (a : Nat) : bc_q8 (a % 256) = a / 2 ^ 0 % 2 + a / 2 ^ 1 % 2 + a / 2 ^ 2 % 2 + a / 2 ^ 3 % 2 + a / 2 ^ 4 % 2 + a / 2 ^ 5 % 2 + a / 2 ^ 6 % 2 + a / 2 ^ 7 % 2 := by
  unfold bc_q8
  rw [(bc_m0 a).1, (bc_m0 a).2, (bc_m2 a).1, (bc_m2 a).2, (bc_m4 a).1, (bc_m4 a).2, (bc_m6 a).1, (bc_m6 a).2]
theorem bc_dd (a k j : Nat) : a / 2 ^ k / 2 ^ j = a / 2 ^ (k + j) := by
  rw [Nat.div_div_eq_div_mul, ← Nat.pow_add]
theorem bc_q8n (a : Nat) (h : a < 2 ^ 24) : bc_q8 (a % 256) + bc_q8 (a / 256 % 256) + bc_q8 (a / 65536) = (a / 2 ^ 0 % 2 + a / 2 ^ 1 % 2 + a / 2 ^ 2 % 2 + a / 2 ^ 3 % 2 + a / 2 ^ 4 % 2 + a / 2 ^ 5 % 2 + a / 2 ^ 6 % 2 + a / 2 ^ 7 % 2) + (a / 2 ^ 8 % 2 + a / 2 ^ 9 % 2 + a / 2 ^ 10 % 2 + a / 2 ^ 11 % 2 + a / 2 ^ 12 % 2 + a / 2 ^ 13 % 2 + a / 2 ^ 14 % 2 + a / 2 ^ 15 % 2) + (a / 2 ^ 16 % 2 + a / 2 ^ 17 % 2 + a / 2 ^ 18 % 2 + a / 2 ^ 19 % 2 + a / 2 ^ 20 % 2 + a / 2 ^ 21 % 2 + a / 2 ^ 22 % 2 + a / 2 ^ 23 % 2) := by
  have hlt : a / 2 ^ 16 < 256 := by omega
  have k2 : bc_q8 (a / 65536) = a / 2 ^ 16 % 2 + a / 2 ^ 17 % 2 + a / 2 ^ 18 % 2 + a / 2 ^ 19 % 2 + a / 2 ^ 20 % 2 + a / 2 ^ 21 % 2 + a / 2 ^ 22 % 2 + a / 2 ^ 23 % 2 := by
    have k := bc_q8l (a / 2 ^ 16)
    rw [Nat.mod_eq_of_lt hlt] at k
    simp only [bc_dd, Nat.reduceAdd] at k
    exact k
  have k1 : bc_q8 (a / 256 % 256) = a / 2 ^ 8 % 2 + a / 2 ^ 9 % 2 + a / 2 ^ 10 % 2 + a / 2 ^ 11 % 2 + a / 2 ^ 12 % 2 + a / 2 ^ 13 % 2 + a / 2 ^ 14 % 2 + a / 2 ^ 15 % 2 := by
    have k := bc_q8l (a / 2 ^ 8)
    simp only [bc_dd, Nat.reduceAdd] at k
    exact k
  rw [bc_q8l a, k1, k2]
theorem bc_lt {a f : Nat} (h : a < 2 ^ (f + 1)) (hb : a / 2 ^ f % 2 = 0) : a < 2 ^ f := by
  have h1 : a / 2 ^ f < 2 := Nat.div_lt_of_lt_mul (by rw [Nat.pow_succ] at h; exact h)
  have h3 : ∀ x : Nat, x < 2 → x % 2 = 0 → x = 0 := fun x p q => by omega
  have h2 : a / 2 ^ f = 0 := h3 _ h1 hb
  exact Nat.lt_of_div_eq_zero (Nat.two_pow_pos f) h2
theorem bc_hi {a : Nat} (h : ∀ f, 24 ≤ f → f < 32 → a / 2 ^ f % 2 = 0) (ha : a < 2 ^ 32) : a < 2 ^ 24 :=
  bc_lt (bc_lt (bc_lt (bc_lt (bc_lt (bc_lt (bc_lt (bc_lt ha (h 31 (by omega) (by omega))) (h 30 (by omega) (by omega))) (h 29 (by omega) (by omega))) (h 28 (by omega) (by omega))) (h 27 (by omega) (by omega))) (h 26 (by omega) (by omega))) (h 25 (by omega) (by omega))) (h 24 (by omega) (by omega))
theorem bc_tn {n : Nat} (h : n ≤ 20) : (nI n).toBitVec.toNat = n := by
  show (BitVec.ofNat 32 n).toNat = _
  rw [BitVec.toNat_ofNat]
  omega
theorem bct : BCt := by
  intro A g c h
  have hb : ∀ f, f < 32 → A.toBitVec.toNat / 2 ^ f % 2 = if f < 20 ∧ ¬ g (c + f) = 0 then 1 else 0 := fun f hf => by
    rw [bc_bit hf]
    by_cases z : f < 20 ∧ ¬ g (c + f) = 0
    · rw [if_pos z, if_pos ((h f hf).mpr z)]
    · rw [if_neg z, if_neg (fun q => z ((h f hf).mp q))]
  have hz : ∀ f, 20 ≤ f → f < 32 → A.toBitVec.toNat / 2 ^ f % 2 = 0 := fun f h1 h2 => by rw [hb f h2, if_neg (by omega)]
  have ho : ∀ f, f < 20 → A.toBitVec.toNat / 2 ^ f % 2 = if g (c + f) = 0 then 0 else 1 := fun f h1 => by
    rw [hb f (by omega)]
    by_cases z : g (c + f) = 0
    · rw [if_pos z, if_neg (fun q => q.2 z)]
    · rw [if_neg z, if_pos ⟨h1, z⟩]
  have ha := bc_hi (fun f h1 h2 => hz f (by omega) h2) A.toBitVec.isLt
  generalize hA : A.toBitVec.toNat = a at *
  have e := bc_xn (x := A) (a := a % 256) (b := a / 256 % 256) (c := a / 65536) (by rw [hA]; unfold bc_T; omega) (by omega) (by omega) (by omega)
  rw [bc_q8n a ha] at e
  have e2 : opn g c 20 0 0 = nI (onn g c 20 0) := by
    have := opn_onn g c 20 0 0
    rw [Nat.zero_add] at this
    exact this
  rw [e2]
  apply Int32.toBitVec_inj.1
  apply BitVec.eq_of_toNat_eq
  rw [e, ho 0 (by decide), ho 1 (by decide), ho 2 (by decide), ho 3 (by decide), ho 4 (by decide), ho 5 (by decide), ho 6 (by decide), ho 7 (by decide), ho 8 (by decide), ho 9 (by decide), ho 10 (by decide), ho 11 (by decide), ho 12 (by decide), ho 13 (by decide), ho 14 (by decide), ho 15 (by decide), ho 16 (by decide), ho 17 (by decide), ho 18 (by decide), ho 19 (by decide), hz 20 (by decide) (by decide), hz 21 (by decide) (by decide), hz 22 (by decide) (by decide), hz 23 (by decide) (by decide)]
  rw [bc_tn (onn_le g c 20 0)]
  show _ = (if g (c + 0) = 0 then 0 else 1) + ((if g (c + 1) = 0 then 0 else 1) + ((if g (c + 2) = 0 then 0 else 1) + ((if g (c + 3) = 0 then 0 else 1) + ((if g (c + 4) = 0 then 0 else 1) + ((if g (c + 5) = 0 then 0 else 1) + ((if g (c + 6) = 0 then 0 else 1) + ((if g (c + 7) = 0 then 0 else 1) + ((if g (c + 8) = 0 then 0 else 1) + ((if g (c + 9) = 0 then 0 else 1) + ((if g (c + 10) = 0 then 0 else 1) + ((if g (c + 11) = 0 then 0 else 1) + ((if g (c + 12) = 0 then 0 else 1) + ((if g (c + 13) = 0 then 0 else 1) + ((if g (c + 14) = 0 then 0 else 1) + ((if g (c + 15) = 0 then 0 else 1) + ((if g (c + 16) = 0 then 0 else 1) + ((if g (c + 17) = 0 then 0 else 1) + ((if g (c + 18) = 0 then 0 else 1) + ((if g (c + 19) = 0 then 0 else 1) + 0)))))))))))))))))))
  simp only [Nat.add_assoc, Nat.add_zero]
