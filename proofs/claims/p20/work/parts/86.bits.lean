/-! ===== sets of fields as bits ===== -/
theorem xhs_t (a : Int32) {f : Nat} (hf : f < 32) : xhs a (nI f) = if a.toBitVec.getLsbD f = true then 1 else 0 := by
  have hs : (((nI f).toUInt32 &&& Int32.toUInt32 31).toBitVec % 32).toNat = f := by
    have z : ∀ k : Fin 32, (((nI k).toUInt32 &&& Int32.toUInt32 31).toBitVec % 32).toNat = k := by decide +kernel
    exact z ⟨f, hf⟩
  have h1 := pk_ushr a (nI f) f hs
  have h2 := pk_and ((a.toUInt32 >>> ((nI f).toUInt32 &&& Int32.toUInt32 31)).toInt32) (m := 1) 1 (by decide)
  unfold xhs
  rw [h2, h1]
  have hb : a.toBitVec.getLsbD f = (a.toBitVec.toNat / 2 ^ f % 2 == 1) := by
    rw [BitVec.getLsbD, Nat.testBit_eq_decide_div_mod_eq]
    rfl
  rw [hb]
  have hm : a.toBitVec.toNat / 2 ^ f % 2 = 0 ∨ a.toBitVec.toNat / 2 ^ f % 2 = 1 := by omega
  rcases hm with z | z
  · rw [show (2 : Nat) ^ 1 = 2 from rfl, z]; decide
  · rw [show (2 : Nat) ^ 1 = 2 from rfl, z]; decide
theorem xhs_01 (a : Int32) {f : Nat} (hf : f < 32) : xhs a (nI f) = 0 ∨ xhs a (nI f) = 1 := by
  rw [xhs_t a hf]
  split
  · exact Or.inr rfl
  · exact Or.inl rfl
theorem shl_bit {f g : Nat} (hf : f < 32) (hg : g < 32) : ((1 : Int32) <<< (nI f &&& 31)).toBitVec.getLsbD g = decide (g = f) := by
  have z : ∀ k j : Fin 32, ((1 : Int32) <<< (nI k &&& 31)).toBitVec.getLsbD j = decide ((j : Nat) = (k : Nat)) := by decide +kernel
  exact z ⟨f, hf⟩ ⟨g, hg⟩
theorem m1_bit {g : Nat} (hg : g < 32) : (-1 : Int32).toBitVec.getLsbD g = true := by
  have z : ∀ j : Fin 32, (-1 : Int32).toBitVec.getLsbD j = true := by decide +kernel
  exact z ⟨g, hg⟩
theorem xhs_ch (a on : Int32) {f g : Nat} (hf : f < 32) (hg : g < 32) : xhs (xch a (nI f) on) (nI g) = if g = f then (if on = 0 then 0 else 1) else xhs a (nI g) := by
  rw [xhs_t _ hg, xhs_t _ hg]
  unfold xch
  by_cases h0 : on = 0
  · rw [if_pos h0, if_pos h0]
    rw [Int32.toBitVec_and, Int32.toBitVec_xor, BitVec.getLsbD_and, BitVec.getLsbD_xor, shl_bit hf hg, m1_bit hg]
    by_cases e : g = f
    · rw [if_pos e]
      simp [e]
    · rw [if_neg e]
      simp [e]
  · rw [if_neg h0, if_neg h0]
    rw [Int32.toBitVec_or, BitVec.getLsbD_or, shl_bit hf hg]
    by_cases e : g = f
    · rw [if_pos e]
      simp [e]
    · rw [if_neg e]
      simp [e]
theorem xhs_an (a z : Int32) {f : Nat} (hf : f < 32) : xhs (a &&& (z ^^^ -1)) (nI f) = if xhs a (nI f) = 1 ∧ xhs z (nI f) = 0 then 1 else 0 := by
  rw [xhs_t _ hf, xhs_t _ hf, xhs_t _ hf, Int32.toBitVec_and, Int32.toBitVec_xor, BitVec.getLsbD_and, BitVec.getLsbD_xor, m1_bit hf]
  cases a.toBitVec.getLsbD f <;> cases z.toBitVec.getLsbD f <;> simp
theorem xhs_ext {a z : Int32} (h : ∀ f, f < 32 → xhs a (nI f) = xhs z (nI f)) : a = z := by
  apply Int32.toBitVec_inj.mp
  apply BitVec.eq_of_getLsbD_eq
  intro f hf
  have := h f hf
  rw [xhs_t a hf, xhs_t z hf] at this
  cases ha : a.toBitVec.getLsbD f <;> cases hz : z.toBitVec.getLsbD f <;> rw [ha, hz] at this <;> simp at this ⊢
theorem xhs_0 {f : Nat} (hf : f < 32) : xhs 0 (nI f) = 0 := by
  have z : ∀ k : Fin 32, xhs 0 (nI k) = 0 := by decide +kernel
  exact z ⟨f, hf⟩
/-- none set -/
theorem xhs_z {a : Int32} : a = 0 ↔ ∀ f, f < 32 → xhs a (nI f) = 0 := by
  constructor
  · intro h f hf
    rw [h]
    exact xhs_0 hf
  · intro h
    exact xhs_ext (fun f hf => by rw [h f hf, xhs_0 hf])
/-- all that is told is there -/
theorem xhs_sub {a z : Int32} : a &&& (z ^^^ -1) = 0 ↔ ∀ f, f < 32 → xhs a (nI f) = 1 → xhs z (nI f) = 1 := by
  rw [xhs_z]
  constructor
  · intro h f hf h1
    have := h f hf
    rw [xhs_an a z hf] at this
    rcases xhs_01 z hf with y | y
    · rw [if_pos ⟨h1, y⟩] at this
      exact absurd this (by decide)
    · exact y
  · intro h f hf
    rw [xhs_an a z hf]
    split
    · rename_i y
      have := h f hf y.1
      rw [y.2] at this
      exact absurd this (by decide)
    · rfl
/-! ===== sums and rules, reckoned by the class and by the reference ===== -/
abbrev Tm : Type := Int32 × Int32 × Option Int32
abbrev Ru : Type := List Tm × Int32 × List Tm
/-- a factor as it is read: a number, or a field -/
def fkb (x : Int32) : Prop := (∃ m : Nat, m ≤ 99999 ∧ x = nI m) ∨ ∃ f : Nat, f < 20 ∧ x = -1 - nI f
def tok (y : Tm) : Prop := (y.1 = 1 ∨ y.1 = 2) ∧ fkb y.2.1 ∧ ∀ d, y.2.2 = some d → fkb d
/-- the sum's value; none: something is divided by 0 -/
def ev (val : Int32 → Int32) : List Tm → Int32 → Option Int32
  | [], s => some s
  | y :: ts, s => match y.2.2 with
    | none => ev val ts (if y.1 = 1 then s + val y.2.1 else s - val y.2.1)
    | some d => if val d = 0 then none else ev val ts (if y.1 = 1 then s + val y.2.1 / val d else s - val y.2.1 / val d)
theorem m1n (f : Nat) : -1 - (-1 - nI f) = nI f := by grind
theorem neg1_lt {f : Nat} (hf : f < 20) : (-1 - nI f : Int32) < 0 := by
  have z : ∀ k : Fin 20, (-1 - nI k : Int32) < 0 := by decide +kernel
  exact z ⟨f, hf⟩
theorem fac_eq {α : Nat → Nat → Int32} {g : Nat → Int32} {r : Nat} {x : Int32} (hx : fkb x) (hr : r < 30) (hg : ∀ f, f < 20 → g f = α 13 (20 * r + f)) : xfo g x = mof α (nI r) x := by
  rcases hx with ⟨m, hm, rfl⟩ | ⟨f, hf, rfl⟩
  · unfold xfo mof
    have h1 : (-1 - nI m : Int32) < 0 := by
      rw [Int32.lt_iff_toInt_lt]
      have e : (-1 - nI m : Int32).toInt = -1 - (m : Int) := by
        rw [Int32.toInt_sub, nI_toInt (by omega), show (-1 : Int32).toInt = -1 by decide]
        apply Int.bmod_eq_of_le <;> omega
      rw [e, show (0 : Int32).toInt = 0 by decide]
      omega
    rw [if_pos h1, if_neg (nI_pos (by omega))]
  · unfold xfo mof
    rw [m1n, if_neg (nI_pos (by omega)), if_neg (show ¬ (20 : Int32) ≤ nI f from nI_ge (b := 20) hf (by omega)), if_pos (neg1_lt hf), fx_ix, nI_clamp (by omega), nI_clamp (by omega)]
    exact hg f hf
theorem vok_fac {α : Nat → Nat → Int32} {r : Nat} {x : Int32} (hx : fkb x) (hr : r < 30) (hv : ∀ f, f < 20 → vok (α 13 (20 * r + f))) : vok (mof α (nI r) x) := by
  rcases hx with ⟨m, hm, rfl⟩ | ⟨f, hf, rfl⟩
  · unfold mof
    rw [if_neg (nI_pos (by omega))]
    exact Or.inl ⟨m, hm, rfl⟩
  · unfold mof
    rw [if_pos (neg1_lt hf), fx_ix, nI_clamp (by omega)]
    exact hv f hf
/-- the class's sum -/
def SumX (dd dv sb : Nat → Int32) (k : Nat) (ts : List Tm) : Prop := ∀ (i : Nat) (y : Tm), ts[i]? = some y → dd (k + i) = y.2.1 ∧ sb (k + i) = (if y.1 = 2 then 1 else 0) ∧ dv (k + i) = y.2.2.getD 1
theorem SumX_t {dd dv sb : Nat → Int32} {k : Nat} {y : Tm} {ts : List Tm} (h : SumX dd dv sb k (y :: ts)) : SumX dd dv sb (k + 1) ts := by
  intro i z hz
  have := h (i + 1) z hz
  rw [show k + (i + 1) = k + 1 + i by omega] at this
  exact this
theorem div1 (x : Int32) : x / 1 = x := by
  apply Int32.toBitVec_inj.mp
  show x.toBitVec.sdiv 1#32 = x.toBitVec
  exact BitVec.sdiv_one
theorem xsm_ev {dd dv sb g : Nat → Int32} : ∀ (ts : List Tm) (k : Nat) (s : Int32), (∀ y ∈ ts, tok y) → SumX dd dv sb k ts → xsm dv dd sb g ts.length k s = (ev (xfo g) ts s).getD (-1000000000)
  | [], _, _, _, _ => rfl
  | y :: ts, k, s, ht, h => by
    have ih := fun s' => xsm_ev (g := g) ts (k + 1) s' (fun z hz => ht z (List.mem_cons_of_mem _ hz)) (SumX_t h)
    obtain ⟨h1, h2, h3⟩ := h 0 y rfl
    rw [Nat.add_zero] at h1 h2 h3
    have hy := (ht y List.mem_cons_self).1
    obtain ⟨hw, x, o⟩ := y
    have h1 : dd k = x := h1
    have h2 : sb k = if hw = 2 then 1 else 0 := h2
    have hy : hw = 1 ∨ hw = 2 := hy
    show (if xfo g (dv k) = 0 then -1000000000 else xsm dv dd sb g ts.length (k + 1) (s + (if sb k = 0 then xfo g (dd k) / xfo g (dv k) else -(xfo g (dd k) / xfo g (dv k))))) = _
    have hx1 : xfo g 1 = 1 := by
      unfold xfo
      rw [if_pos (by decide)]
    have hsg : ∀ q : Int32, s + (if sb k = 0 then q else -q) = if hw = 1 then s + q else s - q := by
      intro q
      rw [h2]
      rcases hy with z | z
      · rw [z, if_neg (show ¬ (1 : Int32) = 2 by decide), if_pos rfl, if_pos rfl]
      · rw [z, if_pos rfl, if_neg (show ¬ (1 : Int32) = 0 by decide), if_neg (show ¬ (2 : Int32) = 1 by decide), Int32.sub_eq_add_neg]
    rw [hsg, h1]
    cases o with
    | none =>
      have h3 : dv k = 1 := h3
      rw [h3, hx1, if_neg (show ¬ (1 : Int32) = 0 by decide), ih, div1]
      rfl
    | some d =>
      have h3 : dv k = d := h3
      rw [h3]
      show _ = ((if xfo g d = 0 then none else ev (xfo g) ts (if hw = 1 then s + xfo g x / xfo g d else s - xfo g x / xfo g d)).getD (-1000000000))
      by_cases e : xfo g d = 0
      · rw [if_pos e, if_pos e]
        rfl
      · rw [if_neg e, if_neg e, ih]
theorem ev_congr {v1 v2 : Int32 → Int32} : ∀ (ts : List Tm) (s : Int32), (∀ y ∈ ts, tok y) → (∀ x, fkb x → v1 x = v2 x) → ev v1 ts s = ev v2 ts s
  | [], _, _, _ => rfl
  | (hw, x, o) :: ts, s, ht, hv => by
    have hy := ht _ List.mem_cons_self
    have ih := fun s' => ev_congr ts s' (fun z hz => ht z (List.mem_cons_of_mem _ hz)) hv
    cases o with
    | none =>
      show ev v1 ts (if hw = 1 then s + v1 x else s - v1 x) = ev v2 ts (if hw = 1 then s + v2 x else s - v2 x)
      rw [hv x hy.2.1, ih]
    | some d =>
      show (if v1 d = 0 then none else ev v1 ts (if hw = 1 then s + v1 x / v1 d else s - v1 x / v1 d)) = (if v2 d = 0 then none else ev v2 ts (if hw = 1 then s + v2 x / v2 d else s - v2 x / v2 d))
      rw [hv x hy.2.1, hv d (hy.2.2 d rfl), ih]
/-- the reference's terms from k on, then nothing as far as z places more -/
def TmR (α : Nat → Nat → Int32) (k : Nat) (ts : List Tm) (z : Nat) : Prop := (∀ (i : Nat) (y : Tm), ts[i]? = some y → α 23 (k + i) = y.1 ∧ α 24 (k + i) = y.2.1 ∧ (y.2.2 = none → α 26 (k + i) = 0) ∧ ∀ d, y.2.2 = some d → α 26 (k + i) = 1 ∧ α 25 (k + i) = d) ∧ ∀ i, ts.length ≤ i → i < ts.length + z → α 23 (k + i) = 0
theorem TmR_t {α : Nat → Nat → Int32} {k z : Nat} {y : Tm} {ts : List Tm} (h : TmR α k (y :: ts) z) : TmR α (k + 1) ts z := by
  refine ⟨fun i x hx => ?_, fun i h1 h2 => ?_⟩
  · have := h.1 (i + 1) x hx
    rw [show k + (i + 1) = k + 1 + i by omega] at this
    exact this
  · have := h.2 (i + 1) (by rw [List.length_cons]; omega) (by rw [List.length_cons]; omega)
    rw [show k + (i + 1) = k + 1 + i by omega] at this
    exact this
theorem TmR_of {α : Nat → Nat → Int32} {k : Nat} {ts : List Tm} (h : TmA (α 23) (α 26) (α 24) (α 25) k ts) (hl : ts.length ≤ 4) : TmR α k ts (4 - ts.length) := ⟨fun i y hy => h.1 i y hy, fun i h1 h2 => h.2 i h1 (by omega)⟩
theorem rk0 {α : Nat → Nat → Int32} {r : Nat} : ∀ (z k : Nat) (s b : Int32), (∀ i, i < z → α 23 (k + i) = 0) → rkS α r z k s = s ∧ rkB α r z k b = b
  | 0, _, _, _, _ => ⟨rfl, rfl⟩
  | z + 1, k, s, b, h => by
    have h0 := h 0 (by omega)
    rw [Nat.add_zero] at h0
    have ih := rk0 (α := α) (r := r) z (k + 1) s b (fun i hi => by have := h (i + 1) (by omega); rw [show k + (i + 1) = k + 1 + i by omega] at this; exact this)
    have e1 : rks α r k s = s := by unfold rks; rw [if_pos h0]
    have e2 : rkb α r k b = b := by unfold rkb; rw [if_pos h0]
    refine ⟨?_, ?_⟩
    · show rkS α r z (k + 1) (rks α r k s) = s
      rw [e1]; exact ih.1
    · show rkB α r z (k + 1) (rkb α r k b) = b
      rw [e2]; exact ih.2
theorem rk1 {α : Nat → Nat → Int32} {r : Nat} : ∀ (z k : Nat), rkB α r z k 1 = 1
  | 0, _ => rfl
  | z + 1, k => by
    have e2 : rkb α r k 1 = 1 := by
      unfold rkb
      split
      · rfl
      · split
        · rfl
        · rw [if_neg (by decide)]
    show rkB α r z (k + 1) (rkb α r k 1) = 1
    rw [e2]
    exact rk1 z (k + 1)
theorem rk_ev {α : Nat → Nat → Int32} {r : Nat} : ∀ (ts : List Tm) (z k : Nat) (s : Int32), (∀ y ∈ ts, tok y) → TmR α k ts z → (∀ v, ev (mof α (nI r)) ts s = some v → rkS α r (ts.length + z) k s = v ∧ rkB α r (ts.length + z) k 0 = 0) ∧ (ev (mof α (nI r)) ts s = none → rkB α r (ts.length + z) k 0 = 1)
  | [], z, k, s, _, h => by
    have := rk0 (α := α) (r := r) z k s 0 (fun i hi => h.2 i (Nat.zero_le _) (by simpa using hi))
    refine ⟨fun v hv => ?_, fun hv => by cases hv⟩
    cases hv
    rw [List.length_nil, Nat.zero_add]
    exact this
  | (hw, x, o) :: ts, z, k, s, ht, h => by
    have hy := ht _ List.mem_cons_self
    have ih := fun s' => rk_ev (α := α) (r := r) ts z (k + 1) s' (fun y hz => ht y (List.mem_cons_of_mem _ hz)) (TmR_t h)
    obtain ⟨h1, h2, h3, h4⟩ := h.1 0 (hw, x, o) rfl
    rw [Nat.add_zero] at h1 h2 h3 h4
    have el : ((hw, x, o) :: ts).length + z = (ts.length + z) + 1 := by rw [List.length_cons]; omega
    rw [el]
    have hn0 : ¬ hw = 0 := by
      rcases hy.1 with q | q
      · have q' : hw = 1 := q
        rw [q']; decide
      · have q' : hw = 2 := q
        rw [q']; decide
    have sh1 : ∀ t, rkS α r (ts.length + z + 1) k t = rkS α r (ts.length + z) (k + 1) (rks α r k t) := fun _ => rfl
    have sh2 : ∀ t, rkB α r (ts.length + z + 1) k t = rkB α r (ts.length + z) (k + 1) (rkb α r k t) := fun _ => rfl
    cases o with
    | none =>
      have e26 := h3 rfl
      have e1 : rks α r k s = if hw = 1 then s + mof α (nI r) x else s - mof α (nI r) x := by
        unfold rks rkV
        rw [show α 23 k = hw from h1, if_neg hn0, e26, if_pos rfl, show α 24 k = x from h2]
      have e2 : rkb α r k 0 = 0 := by
        unfold rkb
        rw [show α 23 k = hw from h1, if_neg hn0, e26, if_pos rfl]
      have := ih (if hw = 1 then s + mof α (nI r) x else s - mof α (nI r) x)
      refine ⟨fun v hv => ?_, fun hv => ?_⟩
      · rw [sh1, sh2, e1, e2]
        exact this.1 v hv
      · rw [sh2, e2]
        exact this.2 hv
    | some d =>
      obtain ⟨e26, e25⟩ := h4 d rfl
      have e26' : ¬ α 26 k = 0 := by rw [e26]; decide
      by_cases e : mof α (nI r) d = 0
      · have e2 : rkb α r k 0 = 1 := by
          unfold rkb
          rw [show α 23 k = hw from h1, if_neg hn0, if_neg e26', if_pos rfl, e25, if_pos e]
        have en : ev (mof α (nI r)) ((hw, x, some d) :: ts) s = none := by
          show (if mof α (nI r) d = 0 then none else _) = none
          rw [if_pos e]
        refine ⟨fun v hv => (by rw [en] at hv; cases hv), fun _ => ?_⟩
        rw [sh2, e2]
        exact rk1 _ _
      · have e2 : rkb α r k 0 = 0 := by
          unfold rkb
          rw [show α 23 k = hw from h1, if_neg hn0, if_neg e26', if_pos rfl, e25, if_neg e]
        have e1 : rks α r k s = if hw = 1 then s + mof α (nI r) x / mof α (nI r) d else s - mof α (nI r) x / mof α (nI r) d := by
          unfold rks rkV
          rw [show α 23 k = hw from h1, if_neg hn0, if_neg e26', e25, if_neg e, show α 24 k = x from h2]
        have en : ev (mof α (nI r)) ((hw, x, some d) :: ts) s = ev (mof α (nI r)) ts (if hw = 1 then s + mof α (nI r) x / mof α (nI r) d else s - mof α (nI r) x / mof α (nI r) d) := by
          show (if mof α (nI r) d = 0 then none else _) = _
          rw [if_neg e]
        have := ih (if hw = 1 then s + mof α (nI r) x / mof α (nI r) d else s - mof α (nI r) x / mof α (nI r) d)
        rw [en]
        refine ⟨fun v hv => ?_, fun hv => ?_⟩
        · rw [sh1, sh2, e1, e2]
          exact this.1 v hv
        · rw [sh2, e2]
          exact this.2 hv
/-! ===== a rule's verdict, by the class and by the reference ===== -/
theorem vok_b {x : Int32} (h : vok x) : -99999 ≤ x.toInt ∧ x.toInt ≤ 99999 := by
  rcases h with ⟨m, hm, rfl⟩ | ⟨m, h1, hm, rfl⟩
  · rw [nI_toInt (by omega)]; omega
  · have e : (-(nI m)).toInt = -(m : Int) := by
      rw [Int32.toInt_neg, nI_toInt (by omega)]
      apply Int.bmod_eq_of_le <;> omega
    rw [e]; omega
theorem add_b {a c : Int32} {A C : Int} (ha : -A ≤ a.toInt ∧ a.toInt ≤ A) (hc : -C ≤ c.toInt ∧ c.toInt ≤ C) (h : A + C < 2147483648) : -(A + C) ≤ (a + c).toInt ∧ (a + c).toInt ≤ A + C := by
  have e : (a + c).toInt = a.toInt + c.toInt := by
    rw [Int32.toInt_add]
    apply Int.bmod_eq_of_le <;> omega
  rw [e]; omega
theorem sub_b {a c : Int32} {A C : Int} (ha : -A ≤ a.toInt ∧ a.toInt ≤ A) (hc : -C ≤ c.toInt ∧ c.toInt ≤ C) (h : A + C < 2147483648) : -(A + C) ≤ (a - c).toInt ∧ (a - c).toInt ≤ A + C := by
  have e : (a - c).toInt = a.toInt - c.toInt := by
    rw [Int32.toInt_sub]
    apply Int.bmod_eq_of_le <;> omega
  rw [e]; omega
theorem div_b {a c : Int32} {A : Int} (ha : -A ≤ a.toInt ∧ a.toInt ≤ A) (h : A < 2147483648) (h0 : 0 ≤ A) : -A ≤ (a / c).toInt ∧ (a / c).toInt ≤ A := by
  have h1 : (a.toInt.tdiv c.toInt).natAbs ≤ a.toInt.natAbs := by
    rw [Int.natAbs_tdiv]
    exact Nat.div_le_self _ _
  have e : (a / c).toInt = a.toInt.tdiv c.toInt := by
    rw [Int32.toInt_div]
    apply Int.bmod_eq_of_le <;> omega
  rw [e]; omega
theorem ev_b {val : Int32 → Int32} : ∀ (ts : List Tm) (s v : Int32) (A : Nat), (∀ y ∈ ts, tok y) → (∀ x, fkb x → vok (val x)) → -(A : Int) ≤ s.toInt ∧ s.toInt ≤ A → A + 99999 * ts.length < 2147483648 → ev val ts s = some v → -((A + 99999 * ts.length : Nat) : Int) ≤ v.toInt ∧ v.toInt ≤ ((A + 99999 * ts.length : Nat) : Int)
  | [], s, v, A, _, _, hs, _, he => by
    cases he
    simpa using hs
  | (hw, x, o) :: ts, s, v, A, ht, hv, hs, hA, he => by
    have hy := ht _ List.mem_cons_self
    rw [List.length_cons] at hA ⊢
    have hx := vok_b (hv x hy.2.1)
    have ih := fun s' v' (h1 : -((A + 99999 : Nat) : Int) ≤ s'.toInt ∧ s'.toInt ≤ ((A + 99999 : Nat) : Int)) h2 => ev_b ts s' v' (A + 99999) (fun z hz => ht z (List.mem_cons_of_mem _ hz)) hv h1 (by omega) h2
    have fin : ∀ (w : Int32), -99999 ≤ w.toInt ∧ w.toInt ≤ 99999 → ev val ts (if hw = 1 then s + w else s - w) = some v → -((A + 99999 * (ts.length + 1) : Nat) : Int) ≤ v.toInt ∧ v.toInt ≤ ((A + 99999 * (ts.length + 1) : Nat) : Int) := by
      intro w hw2 h2
      have h3 : -((A + 99999 : Nat) : Int) ≤ (if hw = 1 then s + w else s - w).toInt ∧ (if hw = 1 then s + w else s - w).toInt ≤ ((A + 99999 : Nat) : Int) := by
        split
        · have := add_b (A := A) (C := 99999) hs hw2 (by omega)
          omega
        · have := sub_b (A := A) (C := 99999) hs hw2 (by omega)
          omega
      have := ih _ _ h3 h2
      rw [show A + 99999 + 99999 * ts.length = A + 99999 * (ts.length + 1) by omega] at this
      exact this
    cases o with
    | none => exact fin (val x) hx he
    | some d =>
      have he : (if val d = 0 then none else ev val ts (if hw = 1 then s + val x / val d else s - val x / val d)) = some v := he
      split at he
      · cases he
      · exact fin (val x / val d) (div_b (A := 99999) hx (by omega) (by omega)) he
theorem ev_ne {val : Int32 → Int32} {ts : List Tm} {v : Int32} (ht : ∀ y ∈ ts, tok y) (hv : ∀ x, fkb x → vok (val x)) (hl : ts.length ≤ 4) (he : ev val ts 0 = some v) : ¬ v = -1000000000 := by
  intro z
  have := ev_b ts 0 v 0 ht hv (by decide) (by omega) he
  rw [z, show (-1000000000 : Int32).toInt = -1000000000 by decide] at this
  omega
/-- a factor is a number, or its field is there -/
def ful (α : Nat → Nat → Int32) (r : Nat) (x : Int32) : Prop := ¬ mhas α (nI r) x = 0
theorem mias_ts {α : Nat → Nat → Int32} {r : Nat} : ∀ (ts : List Tm) (z k n : Nat), (∀ y ∈ ts, tok y) → TmR α k ts z → ((∀ y ∈ ts, ful α r y.2.1 ∧ ∀ d, y.2.2 = some d → ful α r d) → mias α r (ts.length + z + n) k = mias α r n (k + ts.length + z)) ∧ (¬ (∀ y ∈ ts, ful α r y.2.1 ∧ ∀ d, y.2.2 = some d → ful α r d) → mias α r (ts.length + z + n) k = 0)
  | [], z, k, n, _, h => by
    refine ⟨fun _ => ?_, fun q => absurd (fun y hy => by cases hy) q⟩
    induction z generalizing k with
    | zero => simp
    | succ z ih =>
      have h0 := h.2 0 (Nat.zero_le _) (by simp)
      rw [Nat.add_zero] at h0
      have ih := ih (k + 1) ⟨fun i y hy => (by cases hy), fun i h1 h2 => by
        have := h.2 (i + 1) (Nat.zero_le _) (by simp at h2 ⊢; omega)
        rw [show k + (i + 1) = k + 1 + i by omega] at this
        exact this⟩
      rw [show ([] : List Tm).length + (z + 1) + n = ([] : List Tm).length + z + n + 1 by omega]
      show (if α 23 k ≤ 0 then mias α r (([] : List Tm).length + z + n) (k + 1) else _) = _
      rw [h0, if_pos (by decide), ih]
      congr 1
      simp
      omega
  | (hw, x, o) :: ts, z, k, n, ht, h => by
    have hy := ht _ List.mem_cons_self
    obtain ⟨ih1, ih2⟩ := mias_ts (α := α) (r := r) ts z (k + 1) n (fun y hz => ht y (List.mem_cons_of_mem _ hz)) (TmR_t h)
    obtain ⟨h1, h2, h3, h4⟩ := h.1 0 (hw, x, o) rfl
    rw [Nat.add_zero] at h1 h2 h3 h4
    have h1 : α 23 k = hw := h1
    have h2 : α 24 k = x := h2
    have hn0 : ¬ hw ≤ 0 := by
      rcases hy.1 with q | q
      · have q' : hw = 1 := q
        rw [q']; decide
      · have q' : hw = 2 := q
        rw [q']; decide
    rw [show ((hw, x, o) :: ts).length + z + n = ts.length + z + n + 1 by rw [List.length_cons]; omega, show k + ((hw, x, o) :: ts).length + z = k + 1 + ts.length + z by rw [List.length_cons]; omega]
    have sh : mias α r (ts.length + z + n + 1) k = if α 23 k ≤ 0 then mias α r (ts.length + z + n) (k + 1) else if mhas α (nI r) (α 24 k) = 0 then 0 else if α 26 k = 0 then mias α r (ts.length + z + n) (k + 1) else if mhas α (nI r) (α 25 k) = 0 then 0 else mias α r (ts.length + z + n) (k + 1) := rfl
    rw [sh, h1, h2, if_neg hn0]
    have rest : (∀ y ∈ (hw, x, o) :: ts, ful α r y.2.1 ∧ ∀ d, y.2.2 = some d → ful α r d) ↔ (ful α r x ∧ ∀ d, o = some d → ful α r d) ∧ ∀ y ∈ ts, ful α r y.2.1 ∧ ∀ d, y.2.2 = some d → ful α r d := List.forall_mem_cons
    rw [rest]
    by_cases hx : mhas α (nI r) x = 0
    · rw [if_pos hx]
      exact ⟨fun q => absurd hx q.1.1, fun _ => rfl⟩
    · rw [if_neg hx]
      cases o with
      | none =>
        rw [h3 rfl, if_pos rfl]
        refine ⟨fun q => ih1 q.2, fun q => ih2 (fun w => q ⟨⟨hx, fun d hd => by cases hd⟩, w⟩)⟩
      | some d =>
        obtain ⟨e26, e25⟩ := h4 d rfl
        rw [e26, if_neg (by decide), e25]
        by_cases hd : mhas α (nI r) d = 0
        · rw [if_pos hd]
          exact ⟨fun q => absurd hd (q.1.2 d rfl), fun _ => rfl⟩
        · rw [if_neg hd]
          refine ⟨fun q => ih1 q.2, fun q => ih2 (fun w => q ⟨⟨hx, fun d' hd' => by cases hd'; exact hd⟩, w⟩)⟩
/-- the bits of ft are the fields that the terms tell -/
def Told (ft : Int32) (ts : List Tm) : Prop := ∀ f, f < 32 → (xhs ft (nI f) = 1 ↔ ∃ y ∈ ts, y.2.1 = -1 - nI f ∨ y.2.2 = some (-1 - nI f))
theorem m1inj {f e : Nat} (hf : f < 32) (he : e < 32) (h : (-1 - nI f : Int32) = -1 - nI e) : f = e := by
  have z : ∀ a c : Fin 32, (-1 - nI a : Int32) = -1 - nI c → (a : Nat) = c := by decide +kernel
  exact z ⟨f, hf⟩ ⟨e, he⟩ h
theorem fkb_f {x : Int32} {f : Nat} (hx : fkb x) (hf : f < 32) (e : x = -1 - nI f) : f < 20 := by
  rcases hx with ⟨m, hm, rfl⟩ | ⟨g, hg, rfl⟩
  · have h1 : (-1 - nI f : Int32) < 0 := by
      have z : ∀ k : Fin 32, (-1 - nI k : Int32) < 0 := by decide +kernel
      exact z ⟨f, hf⟩
    rw [← e] at h1
    exact absurd h1 (nI_pos (by omega))
  · have := m1inj (by omega) hf e
    omega
theorem ful_n {α : Nat → Nat → Int32} {r m : Nat} (hm : m ≤ 99999) : ful α r (nI m) := by
  unfold ful mhas
  rw [if_pos (nI_pos' (by omega))]
  decide
theorem ful_f {α : Nat → Nat → Int32} {r f : Nat} (hr : r < 30) (hf : f < 20) : ful α r (-1 - nI f) ↔ ¬ α 10 (20 * r + f) = 0 := by
  unfold ful mhas
  rw [if_neg (Int32.not_le.mpr (neg1_lt hf)), fx_ix, nI_clamp (by omega)]
  split
  · rename_i h
    exact ⟨fun q => absurd rfl q, fun q => absurd h q⟩
  · rename_i h
    exact ⟨fun _ => h, fun _ => by decide⟩
theorem told_ful {α : Nat → Nat → Int32} {r : Nat} {ft fl : Int32} {ts : List Tm} (ht : ∀ y ∈ ts, tok y) (hr : r < 30) (hT : Told ft ts) (hfl : ∀ f, f < 20 → (xhs fl (nI f) = 1 ↔ ¬ α 10 (20 * r + f) = 0)) : ft &&& (fl ^^^ -1) = 0 ↔ ∀ y ∈ ts, ful α r y.2.1 ∧ ∀ d, y.2.2 = some d → ful α r d := by
  rw [xhs_sub]
  constructor
  · intro h y hy
    have hk := ht y hy
    have one : ∀ x, fkb x → (y.2.1 = x ∨ y.2.2 = some x) → ful α r x := by
      intro x hx hyx
      rcases hx with ⟨m, hm, rfl⟩ | ⟨f, hf, rfl⟩
      · exact ful_n hm
      · exact (ful_f hr hf).mpr ((hfl f hf).mp (h f (by omega) ((hT f (by omega)).mpr ⟨y, hy, hyx⟩)))
    exact ⟨one _ hk.2.1 (Or.inl rfl), fun d hd => one d (hk.2.2 d hd) (Or.inr hd)⟩
  · intro h f hf h1
    obtain ⟨y, hy, e⟩ := (hT f hf).mp h1
    have hk := ht y hy
    rcases e with e | e
    · have h20 := fkb_f hk.2.1 hf e
      have := (h y hy).1
      rw [e] at this
      exact (hfl f h20).mpr ((ful_f hr h20).mp this)
    · have h20 := fkb_f (hk.2.2 _ e) hf rfl
      exact (hfl f h20).mpr ((ful_f hr h20).mp ((h y hy).2 _ e))
/-- the class's rules rs in a book: comparisons, fields told, counts, dividends, divisors, subtracted -/
def RuX (c ft tc dd dv sb : Nat → Int32) (rs : List Ru) : Prop := ∀ (q : Nat) (x : Ru), rs[q]? = some x → c q = x.2.1 ∧ tc (2 * q) = nI x.1.length ∧ tc (2 * q + 1) = nI x.2.2.length ∧ SumX dd dv sb (8 * q) x.1 ∧ SumX dd dv sb (8 * q + 4) x.2.2 ∧ Told (ft q) (x.1 ++ x.2.2)
theorem vd_eq {α β : Nat → Nat → Int32} {r q bo : Nat} {z0 : Int32} {g : Nat → Int32} {rs : List Ru} {x : Ru} (hx : rs[q]? = some x) (hq : q < 20) (hr : r < 30) (hM : RuM α rs) (hX : RuX (β (bo + 1)) (β (bo + 2)) (β (bo + 3)) (β (bo + 4)) (β (bo + 5)) (β (bo + 6)) rs) (hLk : Lk rs) (ht1 : ∀ y ∈ x.1, tok y) (ht2 : ∀ y ∈ x.2.2, tok y)
    (hg : ∀ f, f < 20 → g f = α 13 (20 * r + f)) (hv : ∀ f, f < 20 → vok (α 13 (20 * r + f))) (hfl : ∀ f, f < 20 → (xhs z0 (nI f) = 1 ↔ ¬ α 10 (20 * r + f) = 0)) : (mvd α r q ≤ 0 ∧ bkF bo β z0 g q = -1) ∨ (¬ mvd α r q ≤ 0 ∧ bkF bo β z0 g q = mvd α r q) := by
  obtain ⟨m1, m2, m3⟩ := hM q x hx
  obtain ⟨x1, x2, x3, x4, x5, x6⟩ := hX q x hx
  obtain ⟨l1, l2⟩ := hLk q x hx
  have T1 := TmR_of m2 l1
  have T2 := TmR_of m3 l2
  have h12 : ∀ y ∈ x.1 ++ x.2.2, tok y := fun y hy => (List.mem_append.mp hy).elim (ht1 y) (ht2 y)
  have tf := told_ful (α := α) (fl := z0) h12 hr x6 hfl
  have hfac : ∀ w, fkb w → xfo g w = mof α (nI r) w := fun w hw => fac_eq hw hr hg
  have hvo : ∀ w, fkb w → vok (mof α (nI r) w) := fun w hw => vok_fac hw hr hv
  -- asked or not
  have ha1 := mias_ts (α := α) (r := r) x.1 (4 - x.1.length) (8 * q) 4 ht1 T1
  have ha2 := mias_ts (α := α) (r := r) x.2.2 (4 - x.2.2.length) (8 * q + 4) 0 ht2 T2
  rw [show x.1.length + (4 - x.1.length) + 4 = 8 by omega, show 8 * q + x.1.length + (4 - x.1.length) = 8 * q + 4 by omega] at ha1
  rw [show x.2.2.length + (4 - x.2.2.length) + 0 = 4 by omega] at ha2
  have hmi : (∀ y ∈ x.1 ++ x.2.2, ful α r y.2.1 ∧ ∀ d, y.2.2 = some d → ful α r d) → mias α r 8 (8 * q) = 1 := fun w => by
    rw [ha1.1 (fun y hy => w y (List.mem_append_left _ hy)), ha2.1 (fun y hy => w y (List.mem_append_right _ hy))]
    rfl
  have hm0 : ¬ (∀ y ∈ x.1 ++ x.2.2, ful α r y.2.1 ∧ ∀ d, y.2.2 = some d → ful α r d) → mias α r 8 (8 * q) = 0 := fun w => by
    by_cases w1 : ∀ y ∈ x.1, ful α r y.2.1 ∧ ∀ d, y.2.2 = some d → ful α r d
    · rw [ha1.1 w1]
      exact ha2.2 (fun w2 => w (fun y hy => (List.mem_append.mp hy).elim (w1 y) (w2 y)))
    · exact ha1.2 w1
  have eF : bkF bo β z0 g q = xft (β (bo + 2) q) z0 ((ev (mof α (nI r)) x.1 0).getD (-1000000000)) ((ev (mof α (nI r)) x.2.2 0).getD (-1000000000)) x.2.1 := by
    unfold bkF
    rw [x1, x2, x3, nI_clamp (by omega), nI_clamp (by omega), xsm_ev x.1 (8 * q) 0 ht1 x4, xsm_ev x.2.2 (8 * q + 4) 0 ht2 x5, ev_congr x.1 0 ht1 hfac, ev_congr x.2.2 0 ht2 hfac]
  rw [eF]
  unfold xft mvd
  by_cases hA : ∀ y ∈ x.1 ++ x.2.2, ful α r y.2.1 ∧ ∀ d, y.2.2 = some d → ful α r d
  · rw [if_pos (tf.mpr hA), hmi hA, if_neg (show ¬ (1 : Int32) = 0 by decide), m1]
    have k1 := rk_ev (α := α) (r := r) x.1 (4 - x.1.length) (8 * q) 0 ht1 T1
    have k2 := rk_ev (α := α) (r := r) x.2.2 (4 - x.2.2.length) (8 * q + 4) 0 ht2 T2
    rw [show x.1.length + (4 - x.1.length) = 4 by omega] at k1
    rw [show x.2.2.length + (4 - x.2.2.length) = 4 by omega] at k2
    cases e1 : ev (mof α (nI r)) x.1 0 with
    | none =>
      rw [k1.2 e1, rk1, if_neg (show ¬ (1 : Int32) = 0 by decide)]
      right
      refine ⟨by decide, ?_⟩
      show (if (-1000000000 : Int32) = -1000000000 then (3 : Int32) else _) = 3
      rw [if_pos rfl]
    | some v1 =>
      obtain ⟨s1, b1⟩ := k1.1 v1 e1
      have n1 := ev_ne ht1 hvo l1 e1
      rw [b1, s1]
      show (_ ∧ (if v1 = -1000000000 then (3 : Int32) else _) = -1) ∨ (_ ∧ (if v1 = -1000000000 then (3 : Int32) else _) = _)
      rw [if_neg n1]
      cases e2 : ev (mof α (nI r)) x.2.2 0 with
      | none =>
        rw [k2.2 e2, if_neg (show ¬ (1 : Int32) = 0 by decide)]
        right
        refine ⟨by decide, ?_⟩
        show (if (-1000000000 : Int32) = -1000000000 then (3 : Int32) else _) = 3
        rw [if_pos rfl]
      | some v2 =>
        obtain ⟨s2, b2⟩ := k2.1 v2 e2
        have n2 := ev_ne ht2 hvo l2 e2
        rw [b2, s2, if_pos rfl]
        show (_ ∧ (if v2 = -1000000000 then (3 : Int32) else _) = -1) ∨ (_ ∧ (if v2 = -1000000000 then (3 : Int32) else _) = _)
        rw [if_neg n2, show (some v1).getD (-1000000000) = v1 from rfl, show (some v2).getD (-1000000000) = v2 from rfl]
        unfold mcmp xho
        have l02 : (0 : Int32) ≤ 0 := by decide
        have l20 : ¬ (2 : Int32) ≤ 0 := by decide
        by_cases c60 : x.2.1 = 60
        · rw [if_pos c60, if_pos c60]
          by_cases w : v2 ≤ v1
          · rw [if_pos w, if_pos w, if_pos rfl]; exact Or.inr ⟨l20, rfl⟩
          · rw [if_neg w, if_neg w, if_neg (by decide)]; exact Or.inl ⟨l02, rfl⟩
        · rw [if_neg c60, if_neg c60]
          by_cases c61 : x.2.1 = 61
          · rw [if_pos c61, if_pos c61]
            by_cases w : v1 = v2
            · rw [if_pos w, if_pos w, if_neg (by decide)]; exact Or.inl ⟨l02, rfl⟩
            · rw [if_neg w, if_neg w, if_pos rfl]; exact Or.inr ⟨l20, rfl⟩
          · rw [if_neg c61, if_neg c61]
            by_cases w : v2 < v1
            · rw [if_pos w, if_pos w, if_pos rfl]; exact Or.inr ⟨l20, rfl⟩
            · rw [if_neg w, if_neg w, if_neg (by decide)]; exact Or.inl ⟨l02, rfl⟩
  · rw [if_neg (fun w => hA (tf.mp w)), hm0 hA, if_pos rfl]
    exact Or.inl ⟨by decide, rfl⟩
/-! ===== lists of what is wanting, signing, codes: class and reference ===== -/
theorem kf_eq {α : Nat → Nat → Int32} {r kd : Nat} {ak fl : Int32} (hA : ∀ f, f < 20 → (xhs ak (nI f) = 1 ↔ ¬ α 14 (20 * kd + f) = 0)) (hfl : ∀ f, f < 20 → (xhs fl (nI f) = 1 ↔ ¬ α 10 (20 * r + f) = 0)) : ∀ (n f : Nat), f + n = 20 → ckf α r kd n f = xkf (ak &&& (fl ^^^ -1)) n f := by
  intro n
  induction n with
  | zero => intro f _; rfl
  | succ n ih =>
    intro f hf
    show cki α r kd f ++ ckf α r kd n (f + 1) = (if xhs (ak &&& (fl ^^^ -1)) (nI f) = 0 then [] else [(1, nI f)]) ++ xkf (ak &&& (fl ^^^ -1)) n (f + 1)
    rw [ih (f + 1) (by omega), xhs_an ak fl (by omega)]
    congr 1
    unfold cki
    by_cases h1 : α 14 (20 * kd + f) = 0
    · rw [if_pos h1]
      have : ¬ xhs ak (nI f) = 1 := fun z => (hA f (by omega)).mp z h1
      rw [if_neg (show ¬ (xhs ak (nI f) = 1 ∧ xhs fl (nI f) = 0) from fun z => this z.1), if_pos rfl]
    · rw [if_neg h1]
      have a1 := (hA f (by omega)).mpr h1
      by_cases h2 : α 10 (20 * r + f) = 0
      · rw [if_pos h2]
        have a2 : xhs fl (nI f) = 0 := (xhs_01 fl (by omega)).resolve_right (fun z => (hfl f (by omega)).mp z h2)
        rw [if_pos (show xhs ak (nI f) = 1 ∧ xhs fl (nI f) = 0 from ⟨a1, a2⟩), if_neg (show ¬ (1 : Int32) = 0 by decide)]
      · rw [if_neg h2]
        have a2 := (hfl f (by omega)).mpr h2
        rw [if_neg (show ¬ (xhs ak (nI f) = 1 ∧ xhs fl (nI f) = 0) from fun z => absurd (a2.symm.trans z.2) (by decide)), if_pos rfl]
theorem kr_eq {α : Nat → Nat → Int32} {r : Nat} {F : Nat → Int32} {nq : Nat} (h : ∀ q, q < nq → (mvd α r q ≤ 0 ∧ F q = -1) ∨ (¬ mvd α r q ≤ 0 ∧ F q = mvd α r q)) : ∀ (n q : Nat), q + n = nq → ckr α r n q = xkr F n q := by
  intro n
  induction n with
  | zero => intro q _; rfl
  | succ n ih =>
    intro q hq
    show ckj α r q ++ ckr α r n (q + 1) = (if F q = -1 then [] else [(F q, nI q)]) ++ xkr F n (q + 1)
    rw [ih (q + 1) (by omega)]
    congr 1
    unfold ckj
    rcases h q (by omega) with ⟨h1, h2⟩ | ⟨h1, h2⟩
    · rw [if_pos h1, if_pos h2]
    · rw [if_neg h1, h2, if_neg (fun z => by rw [z] at h1; exact h1 (by decide))]
theorem kf_len {ms : Int32} : ∀ (n f : Nat), (xkf ms n f).length ≤ n := by
  intro n
  induction n with
  | zero => intro f; exact Nat.le_refl _
  | succ n ih =>
    intro f
    show ((if xhs ms (nI f) = 0 then [] else [(1, nI f)]) ++ xkf ms n (f + 1)).length ≤ n + 1
    rw [List.length_append]
    have := ih (f + 1)
    split
    · simp; omega
    · simp; omega
theorem kr_len {F : Nat → Int32} : ∀ (n q : Nat), (xkr F n q).length ≤ n := by
  intro n
  induction n with
  | zero => intro f; exact Nat.le_refl _
  | succ n ih =>
    intro q
    show ((if F q = -1 then [] else [(F q, nI q)]) ++ xkr F n (q + 1)).length ≤ n + 1
    rw [List.length_append]
    have := ih (q + 1)
    split
    · simp; omega
    · simp; omega
/-- all the fields asked are told, if and only if the list has none -/
theorem cff_nil {α : Nat → Nat → Int32} {r kd : Nat} : ∀ (n f : Nat), (ckf α r kd n f = [] → cff α r kd n f = 1) ∧ (¬ ckf α r kd n f = [] → cff α r kd n f = 0) := by
  intro n
  induction n with
  | zero => intro f; exact ⟨fun _ => rfl, fun h => absurd rfl h⟩
  | succ n ih =>
    intro f
    obtain ⟨i1, i2⟩ := ih (f + 1)
    show (cki α r kd f ++ ckf α r kd n (f + 1) = [] → (if α 14 (20 * kd + f) = 0 then cff α r kd n (f + 1) else if α 10 (20 * r + f) = 0 then 0 else cff α r kd n (f + 1)) = 1) ∧ (¬ cki α r kd f ++ ckf α r kd n (f + 1) = [] → (if α 14 (20 * kd + f) = 0 then cff α r kd n (f + 1) else if α 10 (20 * r + f) = 0 then 0 else cff α r kd n (f + 1)) = 0)
    unfold cki
    by_cases h1 : α 14 (20 * kd + f) = 0
    · rw [if_pos h1, if_pos h1]; exact ⟨i1, i2⟩
    · rw [if_neg h1, if_neg h1]
      by_cases h2 : α 10 (20 * r + f) = 0
      · rw [if_pos h2, if_pos h2]
        exact ⟨fun z => by simp at z, fun _ => rfl⟩
      · rw [if_neg h2, if_neg h2]; exact ⟨i1, i2⟩
theorem cfr_nil {α : Nat → Nat → Int32} {r : Nat} : ∀ (n q : Nat), (ckr α r n q = [] → cfr α r n q = 1) ∧ (¬ ckr α r n q = [] → cfr α r n q = 0) := by
  intro n
  induction n with
  | zero => intro f; exact ⟨fun _ => rfl, fun h => absurd rfl h⟩
  | succ n ih =>
    intro q
    obtain ⟨i1, i2⟩ := ih (q + 1)
    show (ckj α r q ++ ckr α r n (q + 1) = [] → (if mvd α r q ≤ 0 then cfr α r n (q + 1) else 0) = 1) ∧ (¬ ckj α r q ++ ckr α r n (q + 1) = [] → (if mvd α r q ≤ 0 then cfr α r n (q + 1) else 0) = 0)
    unfold ckj
    by_cases h1 : mvd α r q ≤ 0
    · rw [if_pos h1, if_pos h1]; exact ⟨i1, i2⟩
    · rw [if_neg h1, if_neg h1]
      exact ⟨fun z => by simp at z, fun _ => rfl⟩
/-- how many are open -/
def onn (g : Nat → Int32) (b : Nat) : Nat → Nat → Nat
  | 0, _ => 0
  | k + 1, i => (if g (b + i) = 0 then 0 else 1) + onn g b k (i + 1)
theorem opn_onn (g : Nat → Int32) (b : Nat) : ∀ (k i c : Nat), opn g b k i (nI c) = nI (c + onn g b k i) := by
  intro k
  induction k with
  | zero => intro i c; rfl
  | succ k ih =>
    intro i c
    show opn g b k (i + 1) (if g (b + i) = 0 then nI c else nI c + 1) = nI (c + ((if g (b + i) = 0 then 0 else 1) + onn g b k (i + 1)))
    split
    · rw [ih]; congr 1; omega
    · rw [nI_1, ih]; congr 1; omega
theorem onn_le (g : Nat → Int32) (b : Nat) : ∀ (k i : Nat), onn g b k i ≤ k := by
  intro k
  induction k with
  | zero => intro i; exact Nat.le_refl _
  | succ k ih =>
    intro i
    have := ih (i + 1)
    show (if g (b + i) = 0 then 0 else 1) + onn g b k (i + 1) ≤ k + 1
    split <;> omega
theorem onn_0 (g : Nat → Int32) (b : Nat) : ∀ (k i : Nat), onn g b k i = 0 ↔ ∀ f, i ≤ f → f < i + k → g (b + f) = 0 := by
  intro k
  induction k with
  | zero => intro i; exact ⟨fun _ f h1 h2 => absurd h2 (by omega), fun _ => rfl⟩
  | succ k ih =>
    intro i
    show (if g (b + i) = 0 then 0 else 1) + onn g b k (i + 1) = 0 ↔ _
    constructor
    · intro h f h1 h2
      by_cases e : f = i
      · subst e
        split at h
        · rename_i z; exact z
        · omega
      · exact (ih (i + 1)).mp (by omega) f (by omega) (by omega)
    · intro h
      rw [if_pos (h i (Nat.le_refl _) (by omega)), (ih (i + 1)).mpr (fun f h1 h2 => h f (by omega) (by omega))]
theorem opn_0 {g : Nat → Int32} {b : Nat} : 0 < opn g b 20 0 0 ↔ ¬ ∀ f, f < 20 → g (b + f) = 0 := by
  have e := opn_onn g b 20 0 0
  rw [show (0 : Int32) = nI 0 from rfl, e, Nat.zero_add, nI_ltI (by omega) (by have := onn_le g b 20 0; omega)]
  have := onn_0 g b 20 0
  constructor
  · intro h w
    have := this.mpr (fun f _ h2 => w f (by omega))
    omega
  · intro h
    rcases Nat.eq_zero_or_pos (onn g b 20 0) with z | z
    · exact absurd (fun f hf => this.mp z f (Nat.zero_le _) (by omega)) h
    · exact z
theorem sgl_rhs {α : Nat → Nat → Int32} {w : Nat → Int32} {r : Nat} {p : Int32} {c : Nat} (h : ∀ k, k < c → α 9 (3 * r + k) = w k) : ∀ (n k : Nat), k + n = c → (rhs w p n k = 0 → sgl α r p n k = 1) ∧ (¬ rhs w p n k = 0 → sgl α r p n k = 0) := by
  intro n
  induction n with
  | zero => intro k _; exact ⟨fun _ => rfl, fun z => absurd rfl z⟩
  | succ n ih =>
    intro k hk
    obtain ⟨i1, i2⟩ := ih (k + 1) (by omega)
    show ((if w k = p then 1 else rhs w p n (k + 1)) = 0 → (if α 9 (3 * r + k) = p then 0 else sgl α r p n (k + 1)) = 1) ∧ (¬ (if w k = p then 1 else rhs w p n (k + 1)) = 0 → (if α 9 (3 * r + k) = p then 0 else sgl α r p n (k + 1)) = 0)
    rw [h k (by omega)]
    by_cases e : w k = p
    · rw [if_pos e, if_pos e]
      exact ⟨fun z => absurd z (by decide), fun _ => rfl⟩
    · rw [if_neg e, if_neg e]; exact ⟨i1, i2⟩
/-- signing: the reference's word, the class's list and its own look -/
theorem cg_eq {α : Nat → Nat → Int32} {ζ w : Nat → Int32} {r kd c nq : Nat} {p : Int32} (hc : c ≤ 3) (h4 : ζ 4 = nI c) (h3 : ∃ m : Nat, m ≤ 99 ∧ ζ 3 = nI m ∧ α 6 r = nI m) (h2 : ∀ f, f < 32 → (xhs (ζ 2) (nI f) = 1 ↔ f < 20 ∧ ¬ α 12 (20 * r + f) = 0)) (hs : ∀ k, k < c → α 9 (3 * r + k) = w k) :
    (mcg α r kd c nq p = 1 ↔ ckl α r kd nq = [] ∧ ¬ rrd ζ w c p = 0) ∧ (mcg α r kd c nq p = 0 ∨ mcg α r kd c nq p = 1) := by
  obtain ⟨m, hm, e3, e6⟩ := h3
  have z3 : 0 < α 6 r ↔ ¬ ζ 3 = 0 := by
    rw [e3, e6, show (0 : Int32) = nI 0 from rfl, nI_ltI (by omega) (by omega), nI_eq (by omega) (by omega)]
    omega
  have z2 : 0 < opn (α 12) (20 * r) 20 0 0 ↔ ¬ ζ 2 = 0 := by
    rw [opn_0, xhs_z]
    constructor
    · intro h q
      exact h (fun f hf => by
        by_cases y : α 12 (20 * r + f) = 0
        · exact y
        · have := (h2 f (by omega)).mpr ⟨hf, y⟩
          rw [q f (by omega)] at this
          exact absurd this (by decide))
    · intro h q
      exact h (fun f hf => (xhs_01 (ζ 2) hf).resolve_right (fun y => by
        obtain ⟨y1, y2⟩ := (h2 f hf).mp y
        exact y2 (q f y1)))
  have zc : rcl ζ = 0 ↔ ¬ c = 3 := by
    unfold rcl
    rw [h4]
    by_cases e : c = 3
    · rw [if_neg (show ¬ nI c < 3 by rw [e]; decide)]
      exact ⟨fun y => absurd y (by decide), fun y => absurd e y⟩
    · rw [if_pos (show nI c < (3 : Int32) from nI_lt (b := 3) (by omega) (by omega))]
      exact ⟨fun _ => e, fun _ => rfl⟩
  obtain ⟨s1, s2⟩ := sgl_rhs (p := p) hs c 0 (by omega)
  obtain ⟨f1, f2⟩ := cff_nil (α := α) (r := r) (kd := kd) 20 0
  obtain ⟨r1, r2⟩ := cfr_nil (α := α) (r := r) nq 0
  have hl : ckl α r kd nq = [] ↔ ckf α r kd 20 0 = [] ∧ ckr α r nq 0 = [] := List.append_eq_nil_iff
  rw [hl]
  unfold mcg rrd
  by_cases a3 : ζ 3 = 0
  · rw [if_pos a3, if_neg (fun y => z3.mp y a3)]
    by_cases a2 : ζ 2 = 0
    · rw [if_pos a2, if_neg (fun y => z2.mp y a2)]
      by_cases ac : rcl ζ = 0
      · rw [if_pos ac, if_neg (zc.mp ac)]
        by_cases as : rhs w p c 0 = 0
        · rw [if_pos as, s1 as, if_neg (show ¬ (1 : Int32) = 0 by decide)]
          by_cases af : ckf α r kd 20 0 = []
          · rw [f1 af, if_neg (show ¬ (1 : Int32) = 0 by decide)]
            by_cases ar : ckr α r nq 0 = []
            · rw [r1 ar]
              exact ⟨⟨fun _ => ⟨⟨af, ar⟩, by decide⟩, fun _ => rfl⟩, Or.inr rfl⟩
            · rw [r2 ar]
              exact ⟨⟨fun y => absurd y (by decide), fun y => absurd y.1.2 ar⟩, Or.inl rfl⟩
          · rw [f2 af, if_pos rfl]
            exact ⟨⟨fun y => absurd y (by decide), fun y => absurd y.1.1 af⟩, Or.inl rfl⟩
        · rw [if_neg as, s2 as, if_pos rfl]
          exact ⟨⟨fun y => absurd y (by decide), fun y => absurd rfl y.2⟩, Or.inl rfl⟩
      · rw [if_neg ac]
        have c3 : c = 3 := by
          rcases Nat.lt_or_ge c 3 with y | y
          · exact absurd (zc.mpr (by omega)) ac
          · omega
        rw [if_pos c3]
        exact ⟨⟨fun y => absurd y (by decide), fun y => absurd rfl y.2⟩, Or.inl rfl⟩
    · rw [if_neg a2, if_pos (z2.mpr a2)]
      exact ⟨⟨fun y => absurd y (by decide), fun y => absurd rfl y.2⟩, Or.inl rfl⟩
  · rw [if_neg a3, if_pos (z3.mpr a3)]
    exact ⟨⟨fun y => absurd y (by decide), fun y => absurd rfl y.2⟩, Or.inl rfl⟩
/-- codes -/
theorem dl_eq {α : Nat → Nat → Int32} {g : Nat → Int32} {r p : Nat} {z0 hb : Int32} (hg : ∀ f, f < 20 → g f = α 13 (20 * r + f)) (hfl : ∀ f, f < 20 → (xhs z0 (nI f) = 1 ↔ ¬ α 10 (20 * r + f) = 0)) (hh : ∀ f, f < 20 → (xhs hb (nI f) = 1 ↔ ¬ α 15 (20 * f + p) = 0)) : ∀ (n f : Nat), f + n = 20 → cdl α r p n f = xdl z0 g hb n f := by
  intro n
  induction n with
  | zero => intro f _; rfl
  | succ n ih =>
    intro f hf
    show cdi α r p f ++ cdl α r p n (f + 1) = xdi z0 g hb f ++ xdl z0 g hb n (f + 1)
    rw [ih (f + 1) (by omega)]
    congr 1
    unfold cdi xdi
    by_cases h1 : α 10 (20 * r + f) = 0
    · have : xhs z0 (nI f) = 0 := (xhs_01 z0 (by omega)).resolve_right (fun y => (hfl f (by omega)).mp y h1)
      rw [if_pos h1, if_pos this]
    · have : ¬ xhs z0 (nI f) = 0 := by rw [(hfl f (by omega)).mpr h1]; decide
      rw [if_neg h1, if_neg this, hg f (by omega)]
      by_cases h2 : α 15 (20 * f + p) = 0
      · have y2 : xhs hb (nI f) = 0 := (xhs_01 hb (by omega)).resolve_right (fun y => (hh f (by omega)).mp y h2)
        rw [if_pos h2, if_pos y2]
        simp
      · have y2 : ¬ xhs hb (nI f) = 0 := by rw [(hh f (by omega)).mpr h2]; decide
        rw [if_neg h2, if_neg y2]
        simp
theorem dw_eq {α : Nat → Nat → Int32} {g : Nat → Int32} {r p i : Nat} {z0 hb : Int32} (hg : ∀ f, f < 20 → g f = α 13 (20 * r + f)) (hfl : ∀ f, f < 20 → (xhs z0 (nI f) = 1 ↔ ¬ α 10 (20 * r + f) = 0)) (hh : ∀ f, f < 20 → (xhs hb (nI f) = 1 ↔ ¬ α 15 (20 * f + p) = 0)) : cdw α r p i = xdw z0 g hb i := by
  unfold cdw xdw
  rw [dl_eq hg hfl hh 20 0 rfl]
  simp
/-! ===== the reports in the heap, one by one ===== -/
theorem ovR_id {r : Nat} {i k t f i' k' t' f' : Int32} {ζ ζ' g g' w w' : Nat → Int32} {h : AH} : ovR r i' k' t' f' ζ' g' w' (ovR r i k t f ζ g w h) = ovR r i' k' t' f' ζ' g' w' h := by
  have e1 : (rps r i k t f ζ g w).length = 3 := rfl
  have e2 : (rps r i' k' t' f' ζ' g' w').length = 3 := rfl
  funext j
  unfold ovR ovL
  rw [e1, e2]
  by_cases e : r ≤ j ∧ j < r + 3
  · rw [if_pos e, if_pos e]
  · rw [if_neg e, if_neg e, if_neg e]
theorem ovR_c2 {r a : Nat} {i k t f i' k' t' f' : Int32} {ζ ζ' g g' w w' : Nat → Int32} {h : AH} (hd : r + 3 ≤ a ∨ a + 3 ≤ r) : ovR a i' k' t' f' ζ' g' w' (ovR r i k t f ζ g w h) = ovR r i k t f ζ g w (ovR a i' k' t' f' ζ' g' w' h) := ovL_ovL (by rcases hd with z | z; exact Or.inr z; exact Or.inl z)
theorem ovM_Lc {mo a : Nat} {σ : Nat → Int32} {α : Nat → Nat → Int32} {cs : List AC} {h : AH} (hj : mo + 28 ≤ a) : ovL a cs (ovM mo σ α h) = ovM mo σ α (ovL a cs h) := by
  rw [ovM_L, ovM_L]
  exact ovL_ovL (Or.inr hj)
theorem ovM_R {mo r : Nat} {σ : Nat → Int32} {α : Nat → Nat → Int32} {i k t f : Int32} {ζ g w : Nat → Int32} {h : AH} (hd : mo + 28 ≤ r) : ovR r i k t f ζ g w (ovM mo σ α h) = ovM mo σ α (ovR r i k t f ζ g w h) := ovM_Lc hd
/-- the reports: where they lie (cs), what they hold -/
def Rpf (lo n : Nat) (ρ : Nat → Option Nat) (h : AH) (nr : Nat) (cs : Nat → Nat) (I K T F : Nat → Int32) (Z G W : Nat → Nat → Int32) : Prop :=
  (∀ j, j < nr → ρ j = some (cs j) ∧ lo ≤ cs j ∧ cs j + 3 ≤ n ∧ ovR (cs j) (I j) (K j) (T j) (F j) (Z j) (G j) (W j) h = h) ∧ ∀ i j, i < nr → j < nr → i ≠ j → cs i + 3 ≤ cs j ∨ cs j + 3 ≤ cs i
def fch {τ : Type} (f : Nat → τ) (j : Nat) (x : τ) : Nat → τ := fun i => if i = j then x else f i
theorem fch_s {τ : Type} (f : Nat → τ) (j : Nat) (x : τ) : fch f j x j = x := if_pos rfl
theorem fch_n {τ : Type} {f : Nat → τ} {j i : Nat} {x : τ} (h : i ≠ j) : fch f j x i = f i := if_neg h
theorem Rpf.toRps {xo lo n : Nat} {ρ : Nat → Option Nat} {h : AH} {nr : Nat} {cs : Nat → Nat} {I K T F : Nat → Int32} {Z G W : Nat → Nat → Int32} (hR : Rpf lo n ρ h nr cs I K T F Z G W) (hl : xo + 28 ≤ lo) : Rps xo n ρ h nr cs I K T F Z G W := fun j hj => by
  obtain ⟨h1, h2, h3, h4⟩ := hR.1 j hj
  exact ⟨h1, by omega, h3, h4⟩
theorem Rpf.put {lo n : Nat} {ρ : Nat → Option Nat} {h : AH} {nr : Nat} {cs : Nat → Nat} {I K T F : Nat → Int32} {Z G W : Nat → Nat → Int32} (hR : Rpf lo n ρ h nr cs I K T F Z G W) {j : Nat} (hj : j < nr) (ζ g w : Nat → Int32) : Rpf lo n ρ (ovR (cs j) (I j) (K j) (T j) (F j) ζ g w h) nr cs I K T F (fch Z j ζ) (fch G j g) (fch W j w) := by
  refine ⟨fun i hi => ?_, hR.2⟩
  obtain ⟨h1, h2, h3, h4⟩ := hR.1 i hi
  refine ⟨h1, h2, h3, ?_⟩
  by_cases e : i = j
  · subst e
    rw [fch_s, fch_s, fch_s]
    exact ovR_id
  · rw [fch_n e, fch_n e, fch_n e, ovR_c2 (hR.2 j i hj hi (Ne.symm e)), h4]
theorem Rpf.hu {lo n n' : Nat} {ρ : Nat → Option Nat} {h : AH} {nr : Nat} {cs : Nat → Nat} {I K T F : Nat → Int32} {Z G W : Nat → Nat → Int32} (hR : Rpf lo n ρ h nr cs I K T F Z G W) {a : Nat} {x : AC} (hn : n ≤ n') (ha : a < lo ∨ n ≤ a) : Rpf lo n' ρ (hu h a x) nr cs I K T F Z G W := by
  refine ⟨fun i hi => ?_, hR.2⟩
  obtain ⟨h1, h2, h3, h4⟩ := hR.1 i hi
  refine ⟨h1, h2, by omega, ?_⟩
  rw [← ovR_out (by omega), h4]
theorem Rpf.M {lo n mo : Nat} {ρ : Nat → Option Nat} {h : AH} {nr : Nat} {cs : Nat → Nat} {I K T F : Nat → Int32} {Z G W : Nat → Nat → Int32} (hR : Rpf lo n ρ h nr cs I K T F Z G W) (σ : Nat → Int32) (α : Nat → Nat → Int32) (hl : mo + 28 ≤ lo) : Rpf lo n ρ (ovM mo σ α h) nr cs I K T F Z G W := by
  refine ⟨fun i hi => ?_, hR.2⟩
  obtain ⟨h1, h2, h3, h4⟩ := hR.1 i hi
  exact ⟨h1, h2, h3, by rw [ovM_R (by omega), h4]⟩
theorem Rpf.add {lo n : Nat} {ρ : Nat → Option Nat} {h : AH} {nr : Nat} {cs : Nat → Nat} {I K T F : Nat → Int32} {Z G W : Nat → Nat → Int32} (hR : Rpf lo n ρ h nr cs I K T F Z G W) (hln : lo ≤ n) (i k t f : Int32) (ζ g w : Nat → Int32) : Rpf lo (n + 3) (va_up ρ nr (some n)) (ovR n i k t f ζ g w h) (nr + 1) (fch cs nr n) (fch I nr i) (fch K nr k) (fch T nr t) (fch F nr f) (fch Z nr ζ) (fch G nr g) (fch W nr w) := by
  refine ⟨fun j hj => ?_, fun a c ha hc hac => ?_⟩
  · by_cases e : j = nr
    · subst e
      rw [fch_s, fch_s, fch_s, fch_s, fch_s, fch_s, fch_s, fch_s]
      exact ⟨if_pos rfl, hln, Nat.le_refl _, ovR_id⟩
    · obtain ⟨h1, h2, h3, h4⟩ := hR.1 j (by omega)
      rw [fch_n e, fch_n e, fch_n e, fch_n e, fch_n e, fch_n e, fch_n e, fch_n e]
      refine ⟨(if_neg e).trans h1, h2, by omega, ?_⟩
      rw [ovR_c2 (Or.inr h3), h4]
  · by_cases e : a = nr
    · have e2 : c ≠ nr := fun z => hac (e.trans z.symm)
      obtain ⟨-, -, h3, -⟩ := hR.1 c (by omega)
      rw [e, fch_s, fch_n e2]
      exact Or.inr h3
    · by_cases e2 : c = nr
      · obtain ⟨-, -, h3, -⟩ := hR.1 a (by omega)
        rw [e2, fch_s, fch_n e]
        exact Or.inl h3
      · rw [fch_n e, fch_n e2]
        exact hR.2 a c (by omega) (by omega) hac
/-! ===== class and reference stand alike: part by part ===== -/
/-- a byte as the class holds it, as the reference does -/
def bre (x y : Int32) : Prop := (∃ c : Nat, c < 128 ∧ x = nI c ∧ y = nI c) ∨ (x < 0 ∧ ∃ c : Nat, 128 ≤ c ∧ c < 256 ∧ y = nI c)
def rlC (x y : Int32) : Prop := ∃ t : Nat, t ≤ 99999 ∧ x = nI t ∧ y = nI t
def rlT (x : Int32) (f : Nat → Int32) (y : Int32) (g : Nat → Int32) (t : Nat) : Prop := t ≤ 300 ∧ x = nI t ∧ y = nI t ∧ ∀ j, j < t → bre (f j) (g j)
def rlA (f g : Nat → Int32) : Prop := ∀ k e, k < 5 → e < 20 → (xhs (f k) (nI e) = 1 ↔ ¬ g (20 * k + e) = 0)
def rlH (f g : Nat → Int32) : Prop := ∀ q e, q < 20 → e < 20 → (xhs (f q) (nI e) = 1 ↔ ¬ g (20 * e + q) = 0)
/-- one report: incident, kind, made, former, numbers, values, signers against the reference's arrays -/
def rlR (j : Nat) (i k t f : Int32) (ζ g w : Nat → Int32) (a3 a4 a5 a6 a7 a8 a9 a10 a11 a12 a13 : Nat → Int32) : Prop :=
  (∃ m : Nat, m ≤ 9999 ∧ i = nI m ∧ a3 j = nI m) ∧ (∃ m : Nat, m < 5 ∧ k = nI m ∧ a4 j = nI m) ∧ t = a5 j ∧ f = a7 j ∧ (∃ m : Nat, m ≤ 99 ∧ ζ 3 = nI m ∧ a6 j = nI m) ∧ (∃ c : Nat, c ≤ 3 ∧ ζ 4 = nI c ∧ a8 j = nI c ∧ ∀ q, q < c → a9 (3 * j + q) = w q) ∧
  (∀ e, e < 20 → (xhs (ζ 0) (nI e) = 1 ↔ ¬ a10 (20 * j + e) = 0)) ∧ (∀ e, e < 20 → (xhs (ζ 1) (nI e) = 1 ↔ ¬ a11 (20 * j + e) = 0)) ∧ (∀ e, e < 32 → (xhs (ζ 2) (nI e) = 1 ↔ e < 20 ∧ ¬ a12 (20 * j + e) = 0)) ∧ ∀ e, e < 20 → g e = a13 (20 * j + e) ∧ vok (g e)
/-- places of reports that are not yet there -/
def rlF (nr : Nat) (a6 a8 a10 a11 a12 a13 : Nat → Int32) : Prop := ∀ j, nr ≤ j → j < 30 → a6 j = 0 ∧ a8 j = 0 ∧ ∀ e, e < 20 → a10 (20 * j + e) = 0 ∧ a11 (20 * j + e) = 0 ∧ a12 (20 * j + e) = 0 ∧ a13 (20 * j + e) = 0
def rlB (f : Nat → Int32) : Prop := ∀ j, vp_nar .boolean (f j) = f j
/-- what the latest check found -/
def rlK (x : Int32) (f1 f2 : Nat → Int32) (y : Int32) (g1 g2 : Nat → Int32) (q : List (Int32 × Int32)) : Prop := q.length ≤ 40 ∧ x = nI q.length ∧ y = nI q.length ∧ ∀ (j : Nat) (z : Int32 × Int32), q[j]? = some z → f1 j = z.1 ∧ f2 j = z.2 ∧ g1 j = z.1 ∧ g2 j = z.2
/-- the latest code -/
def rlL (x : Int32) (f : Nat → Int32) (y : Int32) (g : Nat → Int32) (q : List Int32) : Prop := q.length ≤ 206 ∧ x = nI q.length ∧ y = nI q.length ∧ ∀ (j : Nat) (z : Int32), q[j]? = some z → f j = z ∧ g j = z
/-- the rules -/
def rlU (bo : Nat) (z : Int32) (β : Nat → Nat → Int32) (y : Int32) (α : Nat → Nat → Int32) (rs : List Ru) : Prop := rs.length ≤ 20 ∧ z = nI rs.length ∧ y = nI rs.length ∧ RuM α rs ∧ RuX (β (bo + 1)) (β (bo + 2)) (β (bo + 3)) (β (bo + 4)) (β (bo + 5)) (β (bo + 6)) rs ∧ Lk rs ∧ (∀ (q : Nat) (x : Ru), rs[q]? = some x → (∀ t ∈ x.1, tok t) ∧ ∀ t ∈ x.2.2, tok t) ∧ FR α ∧ FRn α
theorem rlC0 : rlC (ξ0 1) (σ0 1) := ⟨0, by omega, by decide, by decide⟩
theorem rlT0 : rlT (ξ0 2) (β0 4) (σ0 16) (β0 17) 0 := ⟨by omega, by decide, by decide, fun j hj => absurd hj (by omega)⟩
theorem rlA0 : rlA (β0 2) (β0 14) := fun k e _ he => by
  show xhs 0 (nI e) = 1 ↔ ¬ (0 : Int32) = 0
  rw [xhs_0 (by omega)]
  decide
theorem rlH0 : rlH (β0 3) (β0 15) := fun k e _ he => by
  show xhs 0 (nI e) = 1 ↔ ¬ (0 : Int32) = 0
  rw [xhs_0 (by omega)]
  decide
theorem rlF0 : rlF 0 (β0 6) (β0 8) (β0 10) (β0 11) (β0 12) (β0 13) := fun _ _ _ => ⟨rfl, rfl, fun _ _ => ⟨rfl, rfl, rfl, rfl⟩⟩
theorem rlK0 : rlK (ξ0 8) (β0 21) (β0 22) (σ0 34) (β0 35) (β0 36) [] := ⟨by simp, by decide, by decide, fun j z h => by cases h⟩
theorem rlL0 : rlL (ξ0 10) (β0 27) (σ0 37) (β0 38) [] := ⟨by simp, by decide, by decide, fun j z h => by cases h⟩
theorem rlU0 : rlU 6 (ξ0 6) β0 (σ0 21) β0 [] := ⟨by simp, by decide, by decide, fun q x h => (by cases h), fun q x h => (by cases h), fun q x h => (by cases h), fun q x h => (by cases h), fun k _ => ⟨Or.inl (by show (0 : Int32) ≤ 0; decide), Or.inl (by show (0 : Int32) ≤ 0; decide)⟩, fun k _ => ⟨Or.inl (by show (0 : Int32) ≤ 0; decide), Or.inl (by show (0 : Int32) ≤ 0; decide)⟩⟩
theorem Rpf0 (lo n : Nat) (h : AH) (cs : Nat → Nat) (I K T F : Nat → Int32) (Z G W : Nat → Nat → Int32) : Rpf lo n ρ0 h 0 cs I K T F Z G W := ⟨fun j hj => absurd hj (by omega), fun i j hi => absurd hi (by omega)⟩
