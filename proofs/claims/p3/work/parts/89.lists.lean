/-! ===== lists of what is wanting, signing, codes: class and reference ===== -/
theorem kf_eq {α : Nat → Nat → Int32} {r kd : Nat} {ak fl : Int32} (hA : ∀ f, f < 20 → (xhs ak (nI f) = 1 ↔ ¬ α 14 (20 * kd + f) = 0)) (hfl : ∀ f, f < 20 → (xhs fl (nI f) = 1 ↔ ¬ α 10 (20 * r + f) = 0)) : ∀ (n f : Nat), f + n = 20 → ckf α r kd n f = xkf (ak &&& (fl ^^^ -1)) n f := by
  intro n
  induction n with
  | zero => intro f _; rfl
  | succ n ih =>
    intro f hf
    show cki α r kd f ++ ckf α r kd n (f + 1) = (if xhs (ak &&& (fl ^^^ -1)) (nI f) = 0 then [] else [(1, nI f)]) ++ xkf (ak &&& (fl ^^^ -1)) n (f + 1)
    rw [ih (f + 1) (by omega), xhs_an ak fl (by omega)]
    congr 1
    unfold cki
    by_cases h1 : α 14 (20 * kd + f) = 0
    · rw [if_pos h1]
      have : ¬ xhs ak (nI f) = 1 := fun z => (hA f (by omega)).mp z h1
      rw [if_neg (show ¬ (xhs ak (nI f) = 1 ∧ xhs fl (nI f) = 0) from fun z => this z.1), if_pos rfl]
    · rw [if_neg h1]
      have a1 := (hA f (by omega)).mpr h1
      by_cases h2 : α 10 (20 * r + f) = 0
      · rw [if_pos h2]
        have a2 : xhs fl (nI f) = 0 := (xhs_01 fl (by omega)).resolve_right (fun z => (hfl f (by omega)).mp z h2)
        rw [if_pos (show xhs ak (nI f) = 1 ∧ xhs fl (nI f) = 0 from ⟨a1, a2⟩), if_neg (show ¬ (1 : Int32) = 0 by decide)]
      · rw [if_neg h2]
        have a2 := (hfl f (by omega)).mpr h2
        rw [if_neg (show ¬ (xhs ak (nI f) = 1 ∧ xhs fl (nI f) = 0) from fun z => absurd (a2.symm.trans z.2) (by decide)), if_pos rfl]
theorem kr_eq {α : Nat → Nat → Int32} {r : Nat} {F : Nat → Int32} {nq : Nat} (h : ∀ q, q < nq → (mvd α r q ≤ 0 ∧ F q = -1) ∨ (¬ mvd α r q ≤ 0 ∧ F q = mvd α r q)) : ∀ (n q : Nat), q + n = nq → ckr α r n q = xkr F n q := by
  intro n
  induction n with
  | zero => intro q _; rfl
  | succ n ih =>
    intro q hq
    show ckj α r q ++ ckr α r n (q + 1) = (if F q = -1 then [] else [(F q, nI q)]) ++ xkr F n (q + 1)
    rw [ih (q + 1) (by omega)]
    congr 1
    unfold ckj
    rcases h q (by omega) with ⟨h1, h2⟩ | ⟨h1, h2⟩
    · rw [if_pos h1, if_pos h2]
    · rw [if_neg h1, h2, if_neg (fun z => by rw [z] at h1; exact h1 (by decide))]
theorem kf_len {ms : Int32} : ∀ (n f : Nat), (xkf ms n f).length ≤ n := by
  intro n
  induction n with
  | zero => intro f; exact Nat.le_refl _
  | succ n ih =>
    intro f
    show ((if xhs ms (nI f) = 0 then [] else [(1, nI f)]) ++ xkf ms n (f + 1)).length ≤ n + 1
    rw [List.length_append]
    have := ih (f + 1)
    split
    · simp; omega
    · simp; omega
theorem kr_len {F : Nat → Int32} : ∀ (n q : Nat), (xkr F n q).length ≤ n := by
  intro n
  induction n with
  | zero => intro f; exact Nat.le_refl _
  | succ n ih =>
    intro q
    show ((if F q = -1 then [] else [(F q, nI q)]) ++ xkr F n (q + 1)).length ≤ n + 1
    rw [List.length_append]
    have := ih (q + 1)
    split
    · simp; omega
    · simp; omega
/-- all the fields asked are told, if and only if the list has none -/
theorem cff_nil {α : Nat → Nat → Int32} {r kd : Nat} : ∀ (n f : Nat), (ckf α r kd n f = [] → cff α r kd n f = 1) ∧ (¬ ckf α r kd n f = [] → cff α r kd n f = 0) := by
  intro n
  induction n with
  | zero => intro f; exact ⟨fun _ => rfl, fun h => absurd rfl h⟩
  | succ n ih =>
    intro f
    obtain ⟨i1, i2⟩ := ih (f + 1)
    show (cki α r kd f ++ ckf α r kd n (f + 1) = [] → (if α 14 (20 * kd + f) = 0 then cff α r kd n (f + 1) else if α 10 (20 * r + f) = 0 then 0 else cff α r kd n (f + 1)) = 1) ∧ (¬ cki α r kd f ++ ckf α r kd n (f + 1) = [] → (if α 14 (20 * kd + f) = 0 then cff α r kd n (f + 1) else if α 10 (20 * r + f) = 0 then 0 else cff α r kd n (f + 1)) = 0)
    unfold cki
    by_cases h1 : α 14 (20 * kd + f) = 0
    · rw [if_pos h1, if_pos h1]; exact ⟨i1, i2⟩
    · rw [if_neg h1, if_neg h1]
      by_cases h2 : α 10 (20 * r + f) = 0
      · rw [if_pos h2, if_pos h2]
        exact ⟨fun z => by simp at z, fun _ => rfl⟩
      · rw [if_neg h2, if_neg h2]; exact ⟨i1, i2⟩
theorem cfr_nil {α : Nat → Nat → Int32} {r : Nat} : ∀ (n q : Nat), (ckr α r n q = [] → cfr α r n q = 1) ∧ (¬ ckr α r n q = [] → cfr α r n q = 0) := by
  intro n
  induction n with
  | zero => intro f; exact ⟨fun _ => rfl, fun h => absurd rfl h⟩
  | succ n ih =>
    intro q
    obtain ⟨i1, i2⟩ := ih (q + 1)
    show (ckj α r q ++ ckr α r n (q + 1) = [] → (if mvd α r q ≤ 0 then cfr α r n (q + 1) else 0) = 1) ∧ (¬ ckj α r q ++ ckr α r n (q + 1) = [] → (if mvd α r q ≤ 0 then cfr α r n (q + 1) else 0) = 0)
    unfold ckj
    by_cases h1 : mvd α r q ≤ 0
    · rw [if_pos h1, if_pos h1]; exact ⟨i1, i2⟩
    · rw [if_neg h1, if_neg h1]
      exact ⟨fun z => by simp at z, fun _ => rfl⟩
/-- how many are open -/
def onn (g : Nat → Int32) (b : Nat) : Nat → Nat → Nat
  | 0, _ => 0
  | k + 1, i => (if g (b + i) = 0 then 0 else 1) + onn g b k (i + 1)
theorem opn_onn (g : Nat → Int32) (b : Nat) : ∀ (k i c : Nat), opn g b k i (nI c) = nI (c + onn g b k i) := by
  intro k
  induction k with
  | zero => intro i c; rfl
  | succ k ih =>
    intro i c
    show opn g b k (i + 1) (if g (b + i) = 0 then nI c else nI c + 1) = nI (c + ((if g (b + i) = 0 then 0 else 1) + onn g b k (i + 1)))
    split
    · rw [ih]; congr 1; omega
    · rw [nI_1, ih]; congr 1; omega
theorem onn_le (g : Nat → Int32) (b : Nat) : ∀ (k i : Nat), onn g b k i ≤ k := by
  intro k
  induction k with
  | zero => intro i; exact Nat.le_refl _
  | succ k ih =>
    intro i
    have := ih (i + 1)
    show (if g (b + i) = 0 then 0 else 1) + onn g b k (i + 1) ≤ k + 1
    split <;> omega
theorem onn_0 (g : Nat → Int32) (b : Nat) : ∀ (k i : Nat), onn g b k i = 0 ↔ ∀ f, i ≤ f → f < i + k → g (b + f) = 0 := by
  intro k
  induction k with
  | zero => intro i; exact ⟨fun _ f h1 h2 => absurd h2 (by omega), fun _ => rfl⟩
  | succ k ih =>
    intro i
    show (if g (b + i) = 0 then 0 else 1) + onn g b k (i + 1) = 0 ↔ _
    constructor
    · intro h f h1 h2
      by_cases e : f = i
      · subst e
        split at h
        · rename_i z; exact z
        · omega
      · exact (ih (i + 1)).mp (by omega) f (by omega) (by omega)
    · intro h
      rw [if_pos (h i (Nat.le_refl _) (by omega)), (ih (i + 1)).mpr (fun f h1 h2 => h f (by omega) (by omega))]
theorem opn_0 {g : Nat → Int32} {b : Nat} : 0 < opn g b 20 0 0 ↔ ¬ ∀ f, f < 20 → g (b + f) = 0 := by
  have e := opn_onn g b 20 0 0
  rw [show (0 : Int32) = nI 0 from rfl, e, Nat.zero_add, nI_ltI (by omega) (by have := onn_le g b 20 0; omega)]
  have := onn_0 g b 20 0
  constructor
  · intro h w
    have := this.mpr (fun f _ h2 => w f (by omega))
    omega
  · intro h
    rcases Nat.eq_zero_or_pos (onn g b 20 0) with z | z
    · exact absurd (fun f hf => this.mp z f (Nat.zero_le _) (by omega)) h
    · exact z
theorem sgl_rhs {α : Nat → Nat → Int32} {w : Nat → Int32} {r : Nat} {p : Int32} {c : Nat} (h : ∀ k, k < c → α 9 (3 * r + k) = w k) : ∀ (n k : Nat), k + n = c → (rhs w p n k = 0 → sgl α r p n k = 1) ∧ (¬ rhs w p n k = 0 → sgl α r p n k = 0) := by
  intro n
  induction n with
  | zero => intro k _; exact ⟨fun _ => rfl, fun z => absurd rfl z⟩
  | succ n ih =>
    intro k hk
    obtain ⟨i1, i2⟩ := ih (k + 1) (by omega)
    show ((if w k = p then 1 else rhs w p n (k + 1)) = 0 → (if α 9 (3 * r + k) = p then 0 else sgl α r p n (k + 1)) = 1) ∧ (¬ (if w k = p then 1 else rhs w p n (k + 1)) = 0 → (if α 9 (3 * r + k) = p then 0 else sgl α r p n (k + 1)) = 0)
    rw [h k (by omega)]
    by_cases e : w k = p
    · rw [if_pos e, if_pos e]
      exact ⟨fun z => absurd z (by decide), fun _ => rfl⟩
    · rw [if_neg e, if_neg e]; exact ⟨i1, i2⟩
/-- signing: the reference's word, the class's list and its own look -/
theorem cg_eq {α : Nat → Nat → Int32} {ζ w : Nat → Int32} {r kd c nq : Nat} {p : Int32} (hc : c ≤ 3) (h4 : ζ 4 = nI c) (h3 : ∃ m : Nat, m ≤ 99 ∧ ζ 3 = nI m ∧ α 6 r = nI m) (h2 : ∀ f, f < 32 → (xhs (ζ 2) (nI f) = 1 ↔ f < 20 ∧ ¬ α 12 (20 * r + f) = 0)) (hs : ∀ k, k < c → α 9 (3 * r + k) = w k) :
    (mcg α r kd c nq p = 1 ↔ ckl α r kd nq = [] ∧ ¬ rrd ζ w c p = 0) ∧ (mcg α r kd c nq p = 0 ∨ mcg α r kd c nq p = 1) := by
  obtain ⟨m, hm, e3, e6⟩ := h3
  have z3 : 0 < α 6 r ↔ ¬ ζ 3 = 0 := by
    rw [e3, e6, show (0 : Int32) = nI 0 from rfl, nI_ltI (by omega) (by omega), nI_eq (by omega) (by omega)]
    omega
  have z2 : 0 < opn (α 12) (20 * r) 20 0 0 ↔ ¬ ζ 2 = 0 := by
    rw [opn_0, xhs_z]
    constructor
    · intro h q
      exact h (fun f hf => by
        by_cases y : α 12 (20 * r + f) = 0
        · exact y
        · have := (h2 f (by omega)).mpr ⟨hf, y⟩
          rw [q f (by omega)] at this
          exact absurd this (by decide))
    · intro h q
      exact h (fun f hf => (xhs_01 (ζ 2) hf).resolve_right (fun y => by
        obtain ⟨y1, y2⟩ := (h2 f hf).mp y
        exact y2 (q f y1)))
  have zc : rcl ζ = 0 ↔ ¬ c = 3 := by
    unfold rcl
    rw [h4]
    by_cases e : c = 3
    · rw [if_neg (show ¬ nI c < 3 by rw [e]; decide)]
      exact ⟨fun y => absurd y (by decide), fun y => absurd e y⟩
    · rw [if_pos (show nI c < (3 : Int32) from nI_lt (b := 3) (by omega) (by omega))]
      exact ⟨fun _ => e, fun _ => rfl⟩
  obtain ⟨s1, s2⟩ := sgl_rhs (p := p) hs c 0 (by omega)
  obtain ⟨f1, f2⟩ := cff_nil (α := α) (r := r) (kd := kd) 20 0
  obtain ⟨r1, r2⟩ := cfr_nil (α := α) (r := r) nq 0
  have hl : ckl α r kd nq = [] ↔ ckf α r kd 20 0 = [] ∧ ckr α r nq 0 = [] := List.append_eq_nil_iff
  rw [hl]
  unfold mcg rrd
  by_cases a3 : ζ 3 = 0
  · rw [if_pos a3, if_neg (fun y => z3.mp y a3)]
    by_cases a2 : ζ 2 = 0
    · rw [if_pos a2, if_neg (fun y => z2.mp y a2)]
      by_cases ac : rcl ζ = 0
      · rw [if_pos ac, if_neg (zc.mp ac)]
        by_cases as : rhs w p c 0 = 0
        · rw [if_pos as, s1 as, if_neg (show ¬ (1 : Int32) = 0 by decide)]
          by_cases af : ckf α r kd 20 0 = []
          · rw [f1 af, if_neg (show ¬ (1 : Int32) = 0 by decide)]
            by_cases ar : ckr α r nq 0 = []
            · rw [r1 ar]
              exact ⟨⟨fun _ => ⟨⟨af, ar⟩, by decide⟩, fun _ => rfl⟩, Or.inr rfl⟩
            · rw [r2 ar]
              exact ⟨⟨fun y => absurd y (by decide), fun y => absurd y.1.2 ar⟩, Or.inl rfl⟩
          · rw [f2 af, if_pos rfl]
            exact ⟨⟨fun y => absurd y (by decide), fun y => absurd y.1.1 af⟩, Or.inl rfl⟩
        · rw [if_neg as, s2 as, if_pos rfl]
          exact ⟨⟨fun y => absurd y (by decide), fun y => absurd rfl y.2⟩, Or.inl rfl⟩
      · rw [if_neg ac]
        have c3 : c = 3 := by
          rcases Nat.lt_or_ge c 3 with y | y
          · exact absurd (zc.mpr (by omega)) ac
          · omega
        rw [if_pos c3]
        exact ⟨⟨fun y => absurd y (by decide), fun y => absurd rfl y.2⟩, Or.inl rfl⟩
    · rw [if_neg a2, if_pos (z2.mpr a2)]
      exact ⟨⟨fun y => absurd y (by decide), fun y => absurd rfl y.2⟩, Or.inl rfl⟩
  · rw [if_neg a3, if_pos (z3.mpr a3)]
    exact ⟨⟨fun y => absurd y (by decide), fun y => absurd rfl y.2⟩, Or.inl rfl⟩
/-- codes -/
theorem dl_eq {α : Nat → Nat → Int32} {g : Nat → Int32} {r p : Nat} {z0 hb : Int32} (hg : ∀ f, f < 20 → g f = α 13 (20 * r + f)) (hfl : ∀ f, f < 20 → (xhs z0 (nI f) = 1 ↔ ¬ α 10 (20 * r + f) = 0)) (hh : ∀ f, f < 20 → (xhs hb (nI f) = 1 ↔ ¬ α 15 (20 * f + p) = 0)) : ∀ (n f : Nat), f + n = 20 → cdl α r p n f = xdl z0 g hb n f := by
  intro n
  induction n with
  | zero => intro f _; rfl
  | succ n ih =>
    intro f hf
    show cdi α r p f ++ cdl α r p n (f + 1) = xdi z0 g hb f ++ xdl z0 g hb n (f + 1)
    rw [ih (f + 1) (by omega)]
    congr 1
    unfold cdi xdi
    by_cases h1 : α 10 (20 * r + f) = 0
    · have : xhs z0 (nI f) = 0 := (xhs_01 z0 (by omega)).resolve_right (fun y => (hfl f (by omega)).mp y h1)
      rw [if_pos h1, if_pos this]
    · have : ¬ xhs z0 (nI f) = 0 := by rw [(hfl f (by omega)).mpr h1]; decide
      rw [if_neg h1, if_neg this, hg f (by omega)]
      by_cases h2 : α 15 (20 * f + p) = 0
      · have y2 : xhs hb (nI f) = 0 := (xhs_01 hb (by omega)).resolve_right (fun y => (hh f (by omega)).mp y h2)
        rw [if_pos h2, if_pos y2]
        simp
      · have y2 : ¬ xhs hb (nI f) = 0 := by rw [(hh f (by omega)).mpr h2]; decide
        rw [if_neg h2, if_neg y2]
        simp
theorem dw_eq {α : Nat → Nat → Int32} {g : Nat → Int32} {r p i : Nat} {z0 hb : Int32} (hg : ∀ f, f < 20 → g f = α 13 (20 * r + f)) (hfl : ∀ f, f < 20 → (xhs z0 (nI f) = 1 ↔ ¬ α 10 (20 * r + f) = 0)) (hh : ∀ f, f < 20 → (xhs hb (nI f) = 1 ↔ ¬ α 15 (20 * f + p) = 0)) : cdw α r p i = xdw z0 g hb i := by
  unfold cdw xdw
  rw [dl_eq hg hfl hh 20 0 rfl]
  simp
