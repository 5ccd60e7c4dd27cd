/-! ===== a rule's verdict, by the class and by the reference ===== -/
theorem vok_b {x : Int32} (h : vok x) : -99999 ≤ x.toInt ∧ x.toInt ≤ 99999 := by
  rcases h with ⟨m, hm, rfl⟩ | ⟨m, h1, hm, rfl⟩
  · rw [nI_toInt (by omega)]; omega
  · have e : (-(nI m)).toInt = -(m : Int) := by
      rw [Int32.toInt_neg, nI_toInt (by omega)]
      apply Int.bmod_eq_of_le <;> omega
    rw [e]; omega
theorem add_b {a c : Int32} {A C : Int} (ha : -A ≤ a.toInt ∧ a.toInt ≤ A) (hc : -C ≤ c.toInt ∧ c.toInt ≤ C) (h : A + C < 2147483648) : -(A + C) ≤ (a + c).toInt ∧ (a + c).toInt ≤ A + C := by
  have e : (a + c).toInt = a.toInt + c.toInt := by
    rw [Int32.toInt_add]
    apply Int.bmod_eq_of_le <;> omega
  rw [e]; omega
theorem sub_b {a c : Int32} {A C : Int} (ha : -A ≤ a.toInt ∧ a.toInt ≤ A) (hc : -C ≤ c.toInt ∧ c.toInt ≤ C) (h : A + C < 2147483648) : -(A + C) ≤ (a - c).toInt ∧ (a - c).toInt ≤ A + C := by
  have e : (a - c).toInt = a.toInt - c.toInt := by
    rw [Int32.toInt_sub]
    apply Int.bmod_eq_of_le <;> omega
  rw [e]; omega
theorem div_b {a c : Int32} {A : Int} (ha : -A ≤ a.toInt ∧ a.toInt ≤ A) (h : A < 2147483648) (h0 : 0 ≤ A) : -A ≤ (a / c).toInt ∧ (a / c).toInt ≤ A := by
  have h1 : (a.toInt.tdiv c.toInt).natAbs ≤ a.toInt.natAbs := by
    rw [Int.natAbs_tdiv]
    exact Nat.div_le_self _ _
  have e : (a / c).toInt = a.toInt.tdiv c.toInt := by
    rw [Int32.toInt_div]
    apply Int.bmod_eq_of_le <;> omega
  rw [e]; omega
theorem ev_b {val : Int32 → Int32} : ∀ (ts : List Tm) (s v : Int32) (A : Nat), (∀ y ∈ ts, tok y) → (∀ x, fkb x → vok (val x)) → -(A : Int) ≤ s.toInt ∧ s.toInt ≤ A → A + 99999 * ts.length < 2147483648 → ev val ts s = some v → -((A + 99999 * ts.length : Nat) : Int) ≤ v.toInt ∧ v.toInt ≤ ((A + 99999 * ts.length : Nat) : Int)
  | [], s, v, A, _, _, hs, _, he => by
    cases he
    simpa using hs
  | (hw, x, o) :: ts, s, v, A, ht, hv, hs, hA, he => by
    have hy := ht _ List.mem_cons_self
    rw [List.length_cons] at hA ⊢
    have hx := vok_b (hv x hy.2.1)
    have ih := fun s' v' (h1 : -((A + 99999 : Nat) : Int) ≤ s'.toInt ∧ s'.toInt ≤ ((A + 99999 : Nat) : Int)) h2 => ev_b ts s' v' (A + 99999) (fun z hz => ht z (List.mem_cons_of_mem _ hz)) hv h1 (by omega) h2
    have fin : ∀ (w : Int32), -99999 ≤ w.toInt ∧ w.toInt ≤ 99999 → ev val ts (if hw = 1 then s + w else s - w) = some v → -((A + 99999 * (ts.length + 1) : Nat) : Int) ≤ v.toInt ∧ v.toInt ≤ ((A + 99999 * (ts.length + 1) : Nat) : Int) := by
      intro w hw2 h2
      have h3 : -((A + 99999 : Nat) : Int) ≤ (if hw = 1 then s + w else s - w).toInt ∧ (if hw = 1 then s + w else s - w).toInt ≤ ((A + 99999 : Nat) : Int) := by
        split
        · have := add_b (A := A) (C := 99999) hs hw2 (by omega)
          omega
        · have := sub_b (A := A) (C := 99999) hs hw2 (by omega)
          omega
      have := ih _ _ h3 h2
      rw [show A + 99999 + 99999 * ts.length = A + 99999 * (ts.length + 1) by omega] at this
      exact this
    cases o with
    | none => exact fin (val x) hx he
    | some d =>
      have he : (if val d = 0 then none else ev val ts (if hw = 1 then s + val x / val d else s - val x / val d)) = some v := he
      split at he
      · cases he
      · exact fin (val x / val d) (div_b (A := 99999) hx (by omega) (by omega)) he
theorem ev_ne {val : Int32 → Int32} {ts : List Tm} {v : Int32} (ht : ∀ y ∈ ts, tok y) (hv : ∀ x, fkb x → vok (val x)) (hl : ts.length ≤ 4) (he : ev val ts 0 = some v) : ¬ v = -1000000000 := by
  intro z
  have := ev_b ts 0 v 0 ht hv (by decide) (by omega) he
  rw [z, show (-1000000000 : Int32).toInt = -1000000000 by decide] at this
  omega
/-- a factor is a number, or its field is there -/
def ful (α : Nat → Nat → Int32) (r : Nat) (x : Int32) : Prop := ¬ mhas α (nI r) x = 0
theorem mias_ts {α : Nat → Nat → Int32} {r : Nat} : ∀ (ts : List Tm) (z k n : Nat), (∀ y ∈ ts, tok y) → TmR α k ts z → ((∀ y ∈ ts, ful α r y.2.1 ∧ ∀ d, y.2.2 = some d → ful α r d) → mias α r (ts.length + z + n) k = mias α r n (k + ts.length + z)) ∧ (¬ (∀ y ∈ ts, ful α r y.2.1 ∧ ∀ d, y.2.2 = some d → ful α r d) → mias α r (ts.length + z + n) k = 0)
  | [], z, k, n, _, h => by
    refine ⟨fun _ => ?_, fun q => absurd (fun y hy => by cases hy) q⟩
    induction z generalizing k with
    | zero => simp
    | succ z ih =>
      have h0 := h.2 0 (Nat.zero_le _) (by simp)
      rw [Nat.add_zero] at h0
      have ih := ih (k + 1) ⟨fun i y hy => (by cases hy), fun i h1 h2 => by
        have := h.2 (i + 1) (Nat.zero_le _) (by simp at h2 ⊢; omega)
        rw [show k + (i + 1) = k + 1 + i by omega] at this
        exact this⟩
      rw [show ([] : List Tm).length + (z + 1) + n = ([] : List Tm).length + z + n + 1 by omega]
      show (if α 23 k ≤ 0 then mias α r (([] : List Tm).length + z + n) (k + 1) else _) = _
      rw [h0, if_pos (by decide), ih]
      congr 1
      simp
      omega
  | (hw, x, o) :: ts, z, k, n, ht, h => by
    have hy := ht _ List.mem_cons_self
    obtain ⟨ih1, ih2⟩ := mias_ts (α := α) (r := r) ts z (k + 1) n (fun y hz => ht y (List.mem_cons_of_mem _ hz)) (TmR_t h)
    obtain ⟨h1, h2, h3, h4⟩ := h.1 0 (hw, x, o) rfl
    rw [Nat.add_zero] at h1 h2 h3 h4
    have h1 : α 23 k = hw := h1
    have h2 : α 24 k = x := h2
    have hn0 : ¬ hw ≤ 0 := by
      rcases hy.1 with q | q
      · have q' : hw = 1 := q
        rw [q']; decide
      · have q' : hw = 2 := q
        rw [q']; decide
    rw [show ((hw, x, o) :: ts).length + z + n = ts.length + z + n + 1 by rw [List.length_cons]; omega, show k + ((hw, x, o) :: ts).length + z = k + 1 + ts.length + z by rw [List.length_cons]; omega]
    have sh : mias α r (ts.length + z + n + 1) k = if α 23 k ≤ 0 then mias α r (ts.length + z + n) (k + 1) else if mhas α (nI r) (α 24 k) = 0 then 0 else if α 26 k = 0 then mias α r (ts.length + z + n) (k + 1) else if mhas α (nI r) (α 25 k) = 0 then 0 else mias α r (ts.length + z + n) (k + 1) := rfl
    rw [sh, h1, h2, if_neg hn0]
    have rest : (∀ y ∈ (hw, x, o) :: ts, ful α r y.2.1 ∧ ∀ d, y.2.2 = some d → ful α r d) ↔ (ful α r x ∧ ∀ d, o = some d → ful α r d) ∧ ∀ y ∈ ts, ful α r y.2.1 ∧ ∀ d, y.2.2 = some d → ful α r d := List.forall_mem_cons
    rw [rest]
    by_cases hx : mhas α (nI r) x = 0
    · rw [if_pos hx]
      exact ⟨fun q => absurd hx q.1.1, fun _ => rfl⟩
    · rw [if_neg hx]
      cases o with
      | none =>
        rw [h3 rfl, if_pos rfl]
        refine ⟨fun q => ih1 q.2, fun q => ih2 (fun w => q ⟨⟨hx, fun d hd => by cases hd⟩, w⟩)⟩
      | some d =>
        obtain ⟨e26, e25⟩ := h4 d rfl
        rw [e26, if_neg (by decide), e25]
        by_cases hd : mhas α (nI r) d = 0
        · rw [if_pos hd]
          exact ⟨fun q => absurd hd (q.1.2 d rfl), fun _ => rfl⟩
        · rw [if_neg hd]
          refine ⟨fun q => ih1 q.2, fun q => ih2 (fun w => q ⟨⟨hx, fun d' hd' => by cases hd'; exact hd⟩, w⟩)⟩
/-- the bits of ft are the fields that the terms tell -/
def Told (ft : Int32) (ts : List Tm) : Prop := ∀ f, f < 32 → (xhs ft (nI f) = 1 ↔ ∃ y ∈ ts, y.2.1 = -1 - nI f ∨ y.2.2 = some (-1 - nI f))
theorem m1inj {f e : Nat} (hf : f < 32) (he : e < 32) (h : (-1 - nI f : Int32) = -1 - nI e) : f = e := by
  have z : ∀ a c : Fin 32, (-1 - nI a : Int32) = -1 - nI c → (a : Nat) = c := by decide +kernel
  exact z ⟨f, hf⟩ ⟨e, he⟩ h
theorem fkb_f {x : Int32} {f : Nat} (hx : fkb x) (hf : f < 32) (e : x = -1 - nI f) : f < 20 := by
  rcases hx with ⟨m, hm, rfl⟩ | ⟨g, hg, rfl⟩
  · have h1 : (-1 - nI f : Int32) < 0 := by
      have z : ∀ k : Fin 32, (-1 - nI k : Int32) < 0 := by decide +kernel
      exact z ⟨f, hf⟩
    rw [← e] at h1
    exact absurd h1 (nI_pos (by omega))
  · have := m1inj (by omega) hf e
    omega
theorem ful_n {α : Nat → Nat → Int32} {r m : Nat} (hm : m ≤ 99999) : ful α r (nI m) := by
  unfold ful mhas
  rw [if_pos (nI_pos' (by omega))]
  decide
theorem ful_f {α : Nat → Nat → Int32} {r f : Nat} (hr : r < 30) (hf : f < 20) : ful α r (-1 - nI f) ↔ ¬ α 10 (20 * r + f) = 0 := by
  unfold ful mhas
  rw [if_neg (Int32.not_le.mpr (neg1_lt hf)), fx_ix, nI_clamp (by omega)]
  split
  · rename_i h
    exact ⟨fun q => absurd rfl q, fun q => absurd h q⟩
  · rename_i h
    exact ⟨fun _ => h, fun _ => by decide⟩
theorem told_ful {α : Nat → Nat → Int32} {r : Nat} {ft fl : Int32} {ts : List Tm} (ht : ∀ y ∈ ts, tok y) (hr : r < 30) (hT : Told ft ts) (hfl : ∀ f, f < 20 → (xhs fl (nI f) = 1 ↔ ¬ α 10 (20 * r + f) = 0)) : ft &&& (fl ^^^ -1) = 0 ↔ ∀ y ∈ ts, ful α r y.2.1 ∧ ∀ d, y.2.2 = some d → ful α r d := by
  rw [xhs_sub]
  constructor
  · intro h y hy
    have hk := ht y hy
    have one : ∀ x, fkb x → (y.2.1 = x ∨ y.2.2 = some x) → ful α r x := by
      intro x hx hyx
      rcases hx with ⟨m, hm, rfl⟩ | ⟨f, hf, rfl⟩
      · exact ful_n hm
      · exact (ful_f hr hf).mpr ((hfl f hf).mp (h f (by omega) ((hT f (by omega)).mpr ⟨y, hy, hyx⟩)))
    exact ⟨one _ hk.2.1 (Or.inl rfl), fun d hd => one d (hk.2.2 d hd) (Or.inr hd)⟩
  · intro h f hf h1
    obtain ⟨y, hy, e⟩ := (hT f hf).mp h1
    have hk := ht y hy
    rcases e with e | e
    · have h20 := fkb_f hk.2.1 hf e
      have := (h y hy).1
      rw [e] at this
      exact (hfl f h20).mpr ((ful_f hr h20).mp this)
    · have h20 := fkb_f (hk.2.2 _ e) hf rfl
      exact (hfl f h20).mpr ((ful_f hr h20).mp ((h y hy).2 _ e))
/-- the class's rules rs in a book: comparisons, fields told, counts, dividends, divisors, subtracted -/
def RuX (c ft tc dd dv sb : Nat → Int32) (rs : List Ru) : Prop := ∀ (q : Nat) (x : Ru), rs[q]? = some x → c q = x.2.1 ∧ tc (2 * q) = nI x.1.length ∧ tc (2 * q + 1) = nI x.2.2.length ∧ SumX dd dv sb (8 * q) x.1 ∧ SumX dd dv sb (8 * q + 4) x.2.2 ∧ Told (ft q) (x.1 ++ x.2.2)
theorem vd_eq {α β : Nat → Nat → Int32} {r q bo : Nat} {z0 : Int32} {g : Nat → Int32} {rs : List Ru} {x : Ru} (hx : rs[q]? = some x) (hq : q < 20) (hr : r < 30) (hM : RuM α rs) (hX : RuX (β (bo + 1)) (β (bo + 2)) (β (bo + 3)) (β (bo + 4)) (β (bo + 5)) (β (bo + 6)) rs) (hLk : Lk rs) (ht1 : ∀ y ∈ x.1, tok y) (ht2 : ∀ y ∈ x.2.2, tok y)
    (hg : ∀ f, f < 20 → g f = α 13 (20 * r + f)) (hv : ∀ f, f < 20 → vok (α 13 (20 * r + f))) (hfl : ∀ f, f < 20 → (xhs z0 (nI f) = 1 ↔ ¬ α 10 (20 * r + f) = 0)) : (mvd α r q ≤ 0 ∧ bkF bo β z0 g q = -1) ∨ (¬ mvd α r q ≤ 0 ∧ bkF bo β z0 g q = mvd α r q) := by
  obtain ⟨m1, m2, m3⟩ := hM q x hx
  obtain ⟨x1, x2, x3, x4, x5, x6⟩ := hX q x hx
  obtain ⟨l1, l2⟩ := hLk q x hx
  have T1 := TmR_of m2 l1
  have T2 := TmR_of m3 l2
  have h12 : ∀ y ∈ x.1 ++ x.2.2, tok y := fun y hy => (List.mem_append.mp hy).elim (ht1 y) (ht2 y)
  have tf := told_ful (α := α) (fl := z0) h12 hr x6 hfl
  have hfac : ∀ w, fkb w → xfo g w = mof α (nI r) w := fun w hw => fac_eq hw hr hg
  have hvo : ∀ w, fkb w → vok (mof α (nI r) w) := fun w hw => vok_fac hw hr hv
  -- asked or not
  have ha1 := mias_ts (α := α) (r := r) x.1 (4 - x.1.length) (8 * q) 4 ht1 T1
  have ha2 := mias_ts (α := α) (r := r) x.2.2 (4 - x.2.2.length) (8 * q + 4) 0 ht2 T2
  rw [show x.1.length + (4 - x.1.length) + 4 = 8 by omega, show 8 * q + x.1.length + (4 - x.1.length) = 8 * q + 4 by omega] at ha1
  rw [show x.2.2.length + (4 - x.2.2.length) + 0 = 4 by omega] at ha2
  have hmi : (∀ y ∈ x.1 ++ x.2.2, ful α r y.2.1 ∧ ∀ d, y.2.2 = some d → ful α r d) → mias α r 8 (8 * q) = 1 := fun w => by
    rw [ha1.1 (fun y hy => w y (List.mem_append_left _ hy)), ha2.1 (fun y hy => w y (List.mem_append_right _ hy))]
    rfl
  have hm0 : ¬ (∀ y ∈ x.1 ++ x.2.2, ful α r y.2.1 ∧ ∀ d, y.2.2 = some d → ful α r d) → mias α r 8 (8 * q) = 0 := fun w => by
    by_cases w1 : ∀ y ∈ x.1, ful α r y.2.1 ∧ ∀ d, y.2.2 = some d → ful α r d
    · rw [ha1.1 w1]
      exact ha2.2 (fun w2 => w (fun y hy => (List.mem_append.mp hy).elim (w1 y) (w2 y)))
    · exact ha1.2 w1
  have eF : bkF bo β z0 g q = xft (β (bo + 2) q) z0 ((ev (mof α (nI r)) x.1 0).getD (-1000000000)) ((ev (mof α (nI r)) x.2.2 0).getD (-1000000000)) x.2.1 := by
    unfold bkF
    rw [x1, x2, x3, nI_clamp (by omega), nI_clamp (by omega), xsm_ev x.1 (8 * q) 0 ht1 x4, xsm_ev x.2.2 (8 * q + 4) 0 ht2 x5, ev_congr x.1 0 ht1 hfac, ev_congr x.2.2 0 ht2 hfac]
  rw [eF]
  unfold xft mvd
  by_cases hA : ∀ y ∈ x.1 ++ x.2.2, ful α r y.2.1 ∧ ∀ d, y.2.2 = some d → ful α r d
  · rw [if_pos (tf.mpr hA), hmi hA, if_neg (show ¬ (1 : Int32) = 0 by decide), m1]
    have k1 := rk_ev (α := α) (r := r) x.1 (4 - x.1.length) (8 * q) 0 ht1 T1
    have k2 := rk_ev (α := α) (r := r) x.2.2 (4 - x.2.2.length) (8 * q + 4) 0 ht2 T2
    rw [show x.1.length + (4 - x.1.length) = 4 by omega] at k1
    rw [show x.2.2.length + (4 - x.2.2.length) = 4 by omega] at k2
    cases e1 : ev (mof α (nI r)) x.1 0 with
    | none =>
      rw [k1.2 e1, rk1, if_neg (show ¬ (1 : Int32) = 0 by decide)]
      right
      refine ⟨by decide, ?_⟩
      show (if (-1000000000 : Int32) = -1000000000 then (3 : Int32) else _) = 3
      rw [if_pos rfl]
    | some v1 =>
      obtain ⟨s1, b1⟩ := k1.1 v1 e1
      have n1 := ev_ne ht1 hvo l1 e1
      rw [b1, s1]
      show (_ ∧ (if v1 = -1000000000 then (3 : Int32) else _) = -1) ∨ (_ ∧ (if v1 = -1000000000 then (3 : Int32) else _) = _)
      rw [if_neg n1]
      cases e2 : ev (mof α (nI r)) x.2.2 0 with
      | none =>
        rw [k2.2 e2, if_neg (show ¬ (1 : Int32) = 0 by decide)]
        right
        refine ⟨by decide, ?_⟩
        show (if (-1000000000 : Int32) = -1000000000 then (3 : Int32) else _) = 3
        rw [if_pos rfl]
      | some v2 =>
        obtain ⟨s2, b2⟩ := k2.1 v2 e2
        have n2 := ev_ne ht2 hvo l2 e2
        rw [b2, s2, if_pos rfl]
        show (_ ∧ (if v2 = -1000000000 then (3 : Int32) else _) = -1) ∨ (_ ∧ (if v2 = -1000000000 then (3 : Int32) else _) = _)
        rw [if_neg n2, show (some v1).getD (-1000000000) = v1 from rfl, show (some v2).getD (-1000000000) = v2 from rfl]
        unfold mcmp xho
        have l02 : (0 : Int32) ≤ 0 := by decide
        have l20 : ¬ (2 : Int32) ≤ 0 := by decide
        by_cases c60 : x.2.1 = 60
        · rw [if_pos c60, if_pos c60]
          by_cases w : v2 ≤ v1
          · rw [if_pos w, if_pos w, if_pos rfl]; exact Or.inr ⟨l20, rfl⟩
          · rw [if_neg w, if_neg w, if_neg (by decide)]; exact Or.inl ⟨l02, rfl⟩
        · rw [if_neg c60, if_neg c60]
          by_cases c61 : x.2.1 = 61
          · rw [if_pos c61, if_pos c61]
            by_cases w : v1 = v2
            · rw [if_pos w, if_pos w, if_neg (by decide)]; exact Or.inl ⟨l02, rfl⟩
            · rw [if_neg w, if_neg w, if_pos rfl]; exact Or.inr ⟨l20, rfl⟩
          · rw [if_neg c61, if_neg c61]
            by_cases w : v2 < v1
            · rw [if_pos w, if_pos w, if_pos rfl]; exact Or.inr ⟨l20, rfl⟩
            · rw [if_neg w, if_neg w, if_neg (by decide)]; exact Or.inl ⟨l02, rfl⟩
  · rw [if_neg (fun w => hA (tf.mp w)), hm0 hA, if_pos rfl]
    exact Or.inl ⟨by decide, rfl⟩
