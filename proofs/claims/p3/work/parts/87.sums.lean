/-! ===== sums and rules, reckoned by the class and by the reference ===== -/
abbrev Tm : Type := Int32 × Int32 × Option Int32
abbrev Ru : Type := List Tm × Int32 × List Tm
/-- a factor as it is read: a number, or a field -/
def fkb (x : Int32) : Prop := (∃ m : Nat, m ≤ 99999 ∧ x = nI m) ∨ ∃ f : Nat, f < 20 ∧ x = -1 - nI f
def tok (y : Tm) : Prop := (y.1 = 1 ∨ y.1 = 2) ∧ fkb y.2.1 ∧ ∀ d, y.2.2 = some d → fkb d
/-- the sum's value; none: something is divided by 0 -/
def ev (val : Int32 → Int32) : List Tm → Int32 → Option Int32
  | [], s => some s
  | y :: ts, s => match y.2.2 with
    | none => ev val ts (if y.1 = 1 then s + val y.2.1 else s - val y.2.1)
    | some d => if val d = 0 then none else ev val ts (if y.1 = 1 then s + val y.2.1 / val d else s - val y.2.1 / val d)
theorem m1n (f : Nat) : -1 - (-1 - nI f) = nI f := by grind
theorem neg1_lt {f : Nat} (hf : f < 20) : (-1 - nI f : Int32) < 0 := by
  have z : ∀ k : Fin 20, (-1 - nI k : Int32) < 0 := by decide +kernel
  exact z ⟨f, hf⟩
theorem fac_eq {α : Nat → Nat → Int32} {g : Nat → Int32} {r : Nat} {x : Int32} (hx : fkb x) (hr : r < 30) (hg : ∀ f, f < 20 → g f = α 13 (20 * r + f)) : xfo g x = mof α (nI r) x := by
  rcases hx with ⟨m, hm, rfl⟩ | ⟨f, hf, rfl⟩
  · unfold xfo mof
    have h1 : (-1 - nI m : Int32) < 0 := by
      rw [Int32.lt_iff_toInt_lt]
      have e : (-1 - nI m : Int32).toInt = -1 - (m : Int) := by
        rw [Int32.toInt_sub, nI_toInt (by omega), show (-1 : Int32).toInt = -1 by decide]
        apply Int.bmod_eq_of_le <;> omega
      rw [e, show (0 : Int32).toInt = 0 by decide]
      omega
    rw [if_pos h1, if_neg (nI_pos (by omega))]
  · unfold xfo mof
    rw [m1n, if_neg (nI_pos (by omega)), if_neg (show ¬ (20 : Int32) ≤ nI f from nI_ge (b := 20) hf (by omega)), if_pos (neg1_lt hf), fx_ix, nI_clamp (by omega), nI_clamp (by omega)]
    exact hg f hf
theorem vok_fac {α : Nat → Nat → Int32} {r : Nat} {x : Int32} (hx : fkb x) (hr : r < 30) (hv : ∀ f, f < 20 → vok (α 13 (20 * r + f))) : vok (mof α (nI r) x) := by
  rcases hx with ⟨m, hm, rfl⟩ | ⟨f, hf, rfl⟩
  · unfold mof
    rw [if_neg (nI_pos (by omega))]
    exact Or.inl ⟨m, hm, rfl⟩
  · unfold mof
    rw [if_pos (neg1_lt hf), fx_ix, nI_clamp (by omega)]
    exact hv f hf
/-- the class's sum -/
def SumX (dd dv sb : Nat → Int32) (k : Nat) (ts : List Tm) : Prop := ∀ (i : Nat) (y : Tm), ts[i]? = some y → dd (k + i) = y.2.1 ∧ sb (k + i) = (if y.1 = 2 then 1 else 0) ∧ dv (k + i) = y.2.2.getD 1
theorem SumX_t {dd dv sb : Nat → Int32} {k : Nat} {y : Tm} {ts : List Tm} (h : SumX dd dv sb k (y :: ts)) : SumX dd dv sb (k + 1) ts := by
  intro i z hz
  have := h (i + 1) z hz
  rw [show k + (i + 1) = k + 1 + i by omega] at this
  exact this
theorem div1 (x : Int32) : x / 1 = x := by
  apply Int32.toBitVec_inj.mp
  show x.toBitVec.sdiv 1#32 = x.toBitVec
  exact BitVec.sdiv_one
theorem xsm_ev {dd dv sb g : Nat → Int32} : ∀ (ts : List Tm) (k : Nat) (s : Int32), (∀ y ∈ ts, tok y) → SumX dd dv sb k ts → xsm dv dd sb g ts.length k s = (ev (xfo g) ts s).getD (-1000000000)
  | [], _, _, _, _ => rfl
  | y :: ts, k, s, ht, h => by
    have ih := fun s' => xsm_ev (g := g) ts (k + 1) s' (fun z hz => ht z (List.mem_cons_of_mem _ hz)) (SumX_t h)
    obtain ⟨h1, h2, h3⟩ := h 0 y rfl
    rw [Nat.add_zero] at h1 h2 h3
    have hy := (ht y List.mem_cons_self).1
    obtain ⟨hw, x, o⟩ := y
    have h1 : dd k = x := h1
    have h2 : sb k = if hw = 2 then 1 else 0 := h2
    have hy : hw = 1 ∨ hw = 2 := hy
    show (if xfo g (dv k) = 0 then -1000000000 else xsm dv dd sb g ts.length (k + 1) (s + (if sb k = 0 then xfo g (dd k) / xfo g (dv k) else -(xfo g (dd k) / xfo g (dv k))))) = _
    have hx1 : xfo g 1 = 1 := by
      unfold xfo
      rw [if_pos (by decide)]
    have hsg : ∀ q : Int32, s + (if sb k = 0 then q else -q) = if hw = 1 then s + q else s - q := by
      intro q
      rw [h2]
      rcases hy with z | z
      · rw [z, if_neg (show ¬ (1 : Int32) = 2 by decide), if_pos rfl, if_pos rfl]
      · rw [z, if_pos rfl, if_neg (show ¬ (1 : Int32) = 0 by decide), if_neg (show ¬ (2 : Int32) = 1 by decide), Int32.sub_eq_add_neg]
    rw [hsg, h1]
    cases o with
    | none =>
      have h3 : dv k = 1 := h3
      rw [h3, hx1, if_neg (show ¬ (1 : Int32) = 0 by decide), ih, div1]
      rfl
    | some d =>
      have h3 : dv k = d := h3
      rw [h3]
      show _ = ((if xfo g d = 0 then none else ev (xfo g) ts (if hw = 1 then s + xfo g x / xfo g d else s - xfo g x / xfo g d)).getD (-1000000000))
      by_cases e : xfo g d = 0
      · rw [if_pos e, if_pos e]
        rfl
      · rw [if_neg e, if_neg e, ih]
theorem ev_congr {v1 v2 : Int32 → Int32} : ∀ (ts : List Tm) (s : Int32), (∀ y ∈ ts, tok y) → (∀ x, fkb x → v1 x = v2 x) → ev v1 ts s = ev v2 ts s
  | [], _, _, _ => rfl
  | (hw, x, o) :: ts, s, ht, hv => by
    have hy := ht _ List.mem_cons_self
    have ih := fun s' => ev_congr ts s' (fun z hz => ht z (List.mem_cons_of_mem _ hz)) hv
    cases o with
    | none =>
      show ev v1 ts (if hw = 1 then s + v1 x else s - v1 x) = ev v2 ts (if hw = 1 then s + v2 x else s - v2 x)
      rw [hv x hy.2.1, ih]
    | some d =>
      show (if v1 d = 0 then none else ev v1 ts (if hw = 1 then s + v1 x / v1 d else s - v1 x / v1 d)) = (if v2 d = 0 then none else ev v2 ts (if hw = 1 then s + v2 x / v2 d else s - v2 x / v2 d))
      rw [hv x hy.2.1, hv d (hy.2.2 d rfl), ih]
/-- the reference's terms from k on, then nothing as far as z places more -/
def TmR (α : Nat → Nat → Int32) (k : Nat) (ts : List Tm) (z : Nat) : Prop := (∀ (i : Nat) (y : Tm), ts[i]? = some y → α 23 (k + i) = y.1 ∧ α 24 (k + i) = y.2.1 ∧ (y.2.2 = none → α 26 (k + i) = 0) ∧ ∀ d, y.2.2 = some d → α 26 (k + i) = 1 ∧ α 25 (k + i) = d) ∧ ∀ i, ts.length ≤ i → i < ts.length + z → α 23 (k + i) = 0
theorem TmR_t {α : Nat → Nat → Int32} {k z : Nat} {y : Tm} {ts : List Tm} (h : TmR α k (y :: ts) z) : TmR α (k + 1) ts z := by
  refine ⟨fun i x hx => ?_, fun i h1 h2 => ?_⟩
  · have := h.1 (i + 1) x hx
    rw [show k + (i + 1) = k + 1 + i by omega] at this
    exact this
  · have := h.2 (i + 1) (by rw [List.length_cons]; omega) (by rw [List.length_cons]; omega)
    rw [show k + (i + 1) = k + 1 + i by omega] at this
    exact this
theorem TmR_of {α : Nat → Nat → Int32} {k : Nat} {ts : List Tm} (h : TmA (α 23) (α 26) (α 24) (α 25) k ts) (hl : ts.length ≤ 4) : TmR α k ts (4 - ts.length) := ⟨fun i y hy => h.1 i y hy, fun i h1 h2 => h.2 i h1 (by omega)⟩
theorem rk0 {α : Nat → Nat → Int32} {r : Nat} : ∀ (z k : Nat) (s b : Int32), (∀ i, i < z → α 23 (k + i) = 0) → rkS α r z k s = s ∧ rkB α r z k b = b
  | 0, _, _, _, _ => ⟨rfl, rfl⟩
  | z + 1, k, s, b, h => by
    have h0 := h 0 (by omega)
    rw [Nat.add_zero] at h0
    have ih := rk0 (α := α) (r := r) z (k + 1) s b (fun i hi => by have := h (i + 1) (by omega); rw [show k + (i + 1) = k + 1 + i by omega] at this; exact this)
    have e1 : rks α r k s = s := by unfold rks; rw [if_pos h0]
    have e2 : rkb α r k b = b := by unfold rkb; rw [if_pos h0]
    refine ⟨?_, ?_⟩
    · show rkS α r z (k + 1) (rks α r k s) = s
      rw [e1]; exact ih.1
    · show rkB α r z (k + 1) (rkb α r k b) = b
      rw [e2]; exact ih.2
theorem rk1 {α : Nat → Nat → Int32} {r : Nat} : ∀ (z k : Nat), rkB α r z k 1 = 1
  | 0, _ => rfl
  | z + 1, k => by
    have e2 : rkb α r k 1 = 1 := by
      unfold rkb
      split
      · rfl
      · split
        · rfl
        · rw [if_neg (by decide)]
    show rkB α r z (k + 1) (rkb α r k 1) = 1
    rw [e2]
    exact rk1 z (k + 1)
theorem rk_ev {α : Nat → Nat → Int32} {r : Nat} : ∀ (ts : List Tm) (z k : Nat) (s : Int32), (∀ y ∈ ts, tok y) → TmR α k ts z → (∀ v, ev (mof α (nI r)) ts s = some v → rkS α r (ts.length + z) k s = v ∧ rkB α r (ts.length + z) k 0 = 0) ∧ (ev (mof α (nI r)) ts s = none → rkB α r (ts.length + z) k 0 = 1)
  | [], z, k, s, _, h => by
    have := rk0 (α := α) (r := r) z k s 0 (fun i hi => h.2 i (Nat.zero_le _) (by simpa using hi))
    refine ⟨fun v hv => ?_, fun hv => by cases hv⟩
    cases hv
    rw [List.length_nil, Nat.zero_add]
    exact this
  | (hw, x, o) :: ts, z, k, s, ht, h => by
    have hy := ht _ List.mem_cons_self
    have ih := fun s' => rk_ev (α := α) (r := r) ts z (k + 1) s' (fun y hz => ht y (List.mem_cons_of_mem _ hz)) (TmR_t h)
    obtain ⟨h1, h2, h3, h4⟩ := h.1 0 (hw, x, o) rfl
    rw [Nat.add_zero] at h1 h2 h3 h4
    have el : ((hw, x, o) :: ts).length + z = (ts.length + z) + 1 := by rw [List.length_cons]; omega
    rw [el]
    have hn0 : ¬ hw = 0 := by
      rcases hy.1 with q | q
      · have q' : hw = 1 := q
        rw [q']; decide
      · have q' : hw = 2 := q
        rw [q']; decide
    have sh1 : ∀ t, rkS α r (ts.length + z + 1) k t = rkS α r (ts.length + z) (k + 1) (rks α r k t) := fun _ => rfl
    have sh2 : ∀ t, rkB α r (ts.length + z + 1) k t = rkB α r (ts.length + z) (k + 1) (rkb α r k t) := fun _ => rfl
    cases o with
    | none =>
      have e26 := h3 rfl
      have e1 : rks α r k s = if hw = 1 then s + mof α (nI r) x else s - mof α (nI r) x := by
        unfold rks rkV
        rw [show α 23 k = hw from h1, if_neg hn0, e26, if_pos rfl, show α 24 k = x from h2]
      have e2 : rkb α r k 0 = 0 := by
        unfold rkb
        rw [show α 23 k = hw from h1, if_neg hn0, e26, if_pos rfl]
      have := ih (if hw = 1 then s + mof α (nI r) x else s - mof α (nI r) x)
      refine ⟨fun v hv => ?_, fun hv => ?_⟩
      · rw [sh1, sh2, e1, e2]
        exact this.1 v hv
      · rw [sh2, e2]
        exact this.2 hv
    | some d =>
      obtain ⟨e26, e25⟩ := h4 d rfl
      have e26' : ¬ α 26 k = 0 := by rw [e26]; decide
      by_cases e : mof α (nI r) d = 0
      · have e2 : rkb α r k 0 = 1 := by
          unfold rkb
          rw [show α 23 k = hw from h1, if_neg hn0, if_neg e26', if_pos rfl, e25, if_pos e]
        have en : ev (mof α (nI r)) ((hw, x, some d) :: ts) s = none := by
          show (if mof α (nI r) d = 0 then none else _) = none
          rw [if_pos e]
        refine ⟨fun v hv => (by rw [en] at hv; cases hv), fun _ => ?_⟩
        rw [sh2, e2]
        exact rk1 _ _
      · have e2 : rkb α r k 0 = 0 := by
          unfold rkb
          rw [show α 23 k = hw from h1, if_neg hn0, if_neg e26', if_pos rfl, e25, if_neg e]
        have e1 : rks α r k s = if hw = 1 then s + mof α (nI r) x / mof α (nI r) d else s - mof α (nI r) x / mof α (nI r) d := by
          unfold rks rkV
          rw [show α 23 k = hw from h1, if_neg hn0, if_neg e26', e25, if_neg e, show α 24 k = x from h2]
        have en : ev (mof α (nI r)) ((hw, x, some d) :: ts) s = ev (mof α (nI r)) ts (if hw = 1 then s + mof α (nI r) x / mof α (nI r) d else s - mof α (nI r) x / mof α (nI r) d) := by
          show (if mof α (nI r) d = 0 then none else _) = _
          rw [if_neg e]
        have := ih (if hw = 1 then s + mof α (nI r) x / mof α (nI r) d else s - mof α (nI r) x / mof α (nI r) d)
        rw [en]
        refine ⟨fun v hv => ?_, fun hv => ?_⟩
        · rw [sh1, sh2, e1, e2]
          exact this.1 v hv
        · rw [sh2, e2]
          exact this.2 hv
