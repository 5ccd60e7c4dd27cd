/-! ===== what the class reads: factors, and the book's rows ===== -/
theorem dig48 {x : Int32} (h0 : ¬ x - 48 < 0) (h1 : x - 48 ≤ 9) : ∃ d : Nat, d ≤ 9 ∧ x - 48 = nI d ∧ x = nI (48 + d) := by
  obtain ⟨d, hd, e⟩ := nI_of2 (n := 9) (show (9 : Int32).toInt = (9 : Nat) by decide) h0 h1
  refine ⟨d, by omega, e, ?_⟩
  have e2 : x = (x - 48) + 48 := by rw [Int32.sub_add_cancel]
  rw [e2, e, show (48 : Int32) = nI 48 from rfl, nI_add, Nat.add_comm]
theorem cnl_ok {g : Nat → Int32} {H : Nat} (hH : H ≤ 99999) : ∀ (k a : Nat) (w : Int32), (w = -1000000000 ∨ ∃ m : Nat, m ≤ H ∧ w = nI m) → (cnl g (nI H) k a w).2 = -1000000000 ∨ ∃ m : Nat, m ≤ H ∧ (cnl g (nI H) k a w).2 = nI m := by
  intro k
  induction k with
  | zero => intro a w hw; exact hw
  | succ k ih =>
    intro a w hw
    unfold cnl
    split
    · exact hw
    · rename_i h0
      split
      · rename_i h9
        obtain ⟨d, hd, e, -⟩ := dig48 h0 h9
        rw [e]
        split
        · split
          · exact Or.inl rfl
          · split
            · rename_i hle
              exact ih (a + 1) (nI d) (Or.inr ⟨d, (nI_leI (by omega) (by omega)).mp hle, rfl⟩)
            · exact Or.inl rfl
        · rename_i hno
          obtain ⟨m, hm, rfl⟩ := hw.resolve_left hno
          have e10 : 10 * nI m + nI d = nI (10 * m + d) := by rw [show (10 : Int32) = nI 10 from rfl, pk_mul, nI_add]
          rw [e10]
          split
          · exact Or.inl rfl
          · split
            · rename_i hle
              exact ih (a + 1) _ (Or.inr ⟨10 * m + d, (nI_leI (by omega) (by omega)).mp hle, rfl⟩)
            · exact Or.inl rfl
      · exact hw
theorem cfV_ok (g : Nat → Int32) (t a : Nat) : cfV g t a = -1000000000 ∨ fkb (cfV g t a) := by
  unfold cfV
  split
  · split
    · exact Or.inl rfl
    · rename_i h
      rcases cnl_ok (g := g) (H := 19) (by omega) (t - skp g t (skp g t a + 1)) (skp g t (skp g t a + 1)) (-1000000000) (Or.inl rfl) with z | ⟨m, hm, z⟩
      · exact absurd z h
      · refine Or.inr (Or.inr ⟨m, by omega, ?_⟩)
        rw [show (cnum g t (skp g t (skp g t a + 1)) 19).2 = nI m from z]
  · rcases cnl_ok (g := g) (H := 99999) (by omega) (t - skp g t (skp g t a)) (skp g t (skp g t a)) (-1000000000) (Or.inl rfl) with z | ⟨m, hm, z⟩
    · exact Or.inl z
    · exact Or.inr (Or.inl ⟨m, hm, z⟩)
theorem ctm_tok {g : Nat → Int32} {t a : Nat} {how : Int32} {q : Tm × Nat} (hh : how = 1 ∨ how = 2) (h : ctm g t how a = some q) : tok q.1 := by
  unfold ctm at h
  split at h
  · cases h
  · rename_i h1
    have f1 := (cfV_ok g t a).resolve_left h1
    split at h
    · split at h
      · cases h
      · rename_i h3
        have f2 := (cfV_ok g t (skp g t (cfA g t a) + 1)).resolve_left h3
        cases h
        exact ⟨hh, f1, fun d hd => by cases hd; exact f2⟩
    · cases h
      exact ⟨hh, f1, fun d hd => by cases hd⟩
/-- a field told, in the word v -/
def ntv (v x : Int32) : Int32 := if 0 ≤ x then v else xch v (-1 - x) 1
theorem nt_n {β : Nat → Nat → Int32} {ft q y : Nat} {x : Int32} (h : y ≠ ft) : nt β ft q x y = β y := by
  unfold nt
  split
  · rfl
  · exact upa_n h
theorem nt_q (β : Nat → Nat → Int32) (ft q : Nat) (x : Int32) : nt β ft q x ft q = ntv (β ft q) x := by
  unfold nt ntv
  split
  · rfl
  · rw [upa_s, pk_us]
theorem nt_j {β : Nat → Nat → Int32} {ft q j : Nat} {x : Int32} (h : j ≠ q) : nt β ft q x ft j = β ft j := by
  unfold nt
  split
  · rfl
  · rw [upa_s, pk_un h]
theorem m1neg {f : Nat} (hf : f < 32) : (-1 - nI f : Int32) < 0 := by
  have z : ∀ k : Fin 32, (-1 - nI k : Int32) < 0 := by decide +kernel
  exact z ⟨f, hf⟩
theorem ntv_t {v x : Int32} {S : Nat → Prop} (hv : ∀ f, f < 32 → (xhs v (nI f) = 1 ↔ S f)) (hx : fkb x) : ∀ f, f < 32 → (xhs (ntv v x) (nI f) = 1 ↔ (S f ∨ x = -1 - nI f)) := by
  intro f hf
  rcases hx with ⟨m, hm, rfl⟩ | ⟨e, he, rfl⟩
  · unfold ntv
    rw [if_pos (nI_pos' (by omega)), hv f hf]
    constructor
    · exact Or.inl
    · rintro (z | z)
      · exact z
      · have h1 := m1neg hf
        rw [← z] at h1
        exact absurd h1 (nI_pos (by omega))
  · unfold ntv
    rw [if_neg (Int32.not_le.mpr (neg1_lt he)), m1n, xhs_ch v 1 (by omega) hf]
    by_cases e2 : f = e
    · subst e2
      rw [if_pos rfl, if_neg (by decide)]
      exact ⟨fun _ => Or.inr rfl, fun _ => rfl⟩
    · rw [if_neg e2, hv f hf]
      constructor
      · exact Or.inl
      · rintro (z | z)
        · exact z
        · exact absurd (m1inj (by omega) hf z).symm e2
theorem told_snoc {v : Int32} {ts : List Tm} {tm : Tm} (hv : Told v ts) (ht : tok tm) : Told (ntv (ntv v tm.2.1) (tm.2.2.getD 1)) (ts ++ [tm]) := by
  obtain ⟨how, x, o⟩ := tm
  have fo : fkb (o.getD 1) := by
    cases o with
    | none => exact Or.inl ⟨1, by omega, rfl⟩
    | some d => exact ht.2.2 d rfl
  have h2 := ntv_t (ntv_t hv ht.2.1) fo
  intro f hf
  rw [h2 f hf]
  have eo : o.getD 1 = -1 - nI f ↔ o = some (-1 - nI f) := by
    cases o with
    | none =>
      constructor
      · intro z
        have h1 := m1neg hf
        rw [← z] at h1
        exact absurd h1 (by decide)
      · intro z; cases z
    | some d => exact ⟨fun z => congrArg some z, fun z => Option.some.inj z⟩
  constructor
  · rintro ((⟨y, hy, hz⟩ | z) | z)
    · exact ⟨y, List.mem_append_left _ hy, hz⟩
    · exact ⟨_, List.mem_append_right _ (List.mem_singleton.mpr rfl), Or.inl z⟩
    · exact ⟨_, List.mem_append_right _ (List.mem_singleton.mpr rfl), Or.inr (eo.mp z)⟩
  · rintro ⟨y, hy, hz⟩
    rcases List.mem_append.mp hy with w | w
    · exact Or.inl (Or.inl ⟨y, w, hz⟩)
    · obtain rfl := List.mem_singleton.mp w
      rcases hz with z | z
      · exact Or.inl (Or.inr z)
      · exact Or.inr (eo.mpr z)
theorem adT_o {bo : Nat} {β : Nat → Nat → Int32} {s c y0 : Nat} {x y m : Int32} (h : y0 < bo + 2 ∨ bo + 6 < y0) : adT bo β s c x y m y0 = β y0 := by
  unfold adT
  rw [nt_n (by omega), nt_n (by omega), upa_n (by omega), upa_n (by omega), upa_n (by omega), upa_n (by omega)]
theorem adT_3 (bo : Nat) (β : Nat → Nat → Int32) (s c : Nat) (x y m : Int32) : adT bo β s c x y m (bo + 3) = upd (β (bo + 3)) s (nI (c + 1)) := by
  unfold adT
  rw [nt_n (by omega), nt_n (by omega), upa_s]
theorem adT_6 (bo : Nat) (β : Nat → Nat → Int32) (s c : Nat) (x y m : Int32) : adT bo β s c x y m (bo + 6) = upd (β (bo + 6)) (4 * s + c) (vp_nar .boolean m) := by
  unfold adT
  rw [nt_n (by omega), nt_n (by omega), upa_n (by omega), upa_s]
theorem adT_5 (bo : Nat) (β : Nat → Nat → Int32) (s c : Nat) (x y m : Int32) : adT bo β s c x y m (bo + 5) = upd (β (bo + 5)) (4 * s + c) y := by
  unfold adT
  rw [nt_n (by omega), nt_n (by omega), upa_n (by omega), upa_n (by omega), upa_s]
theorem adT_4 (bo : Nat) (β : Nat → Nat → Int32) (s c : Nat) (x y m : Int32) : adT bo β s c x y m (bo + 4) = upd (β (bo + 4)) (4 * s + c) x := by
  unfold adT
  rw [nt_n (by omega), nt_n (by omega), upa_n (by omega), upa_n (by omega), upa_n (by omega), upa_s]
theorem adT_2q (bo : Nat) (β : Nat → Nat → Int32) (s c : Nat) (x y m : Int32) : adT bo β s c x y m (bo + 2) (s / 2) = ntv (ntv (β (bo + 2) (s / 2)) x) y := by
  unfold adT
  rw [nt_q, nt_q, upa_n (by omega), upa_n (by omega), upa_n (by omega), upa_n (by omega)]
theorem adT_2j {bo : Nat} {β : Nat → Nat → Int32} {s c j : Nat} {x y m : Int32} (h : j ≠ s / 2) : adT bo β s c x y m (bo + 2) j = β (bo + 2) j := by
  unfold adT
  rw [nt_j h, nt_j h, upa_n (by omega), upa_n (by omega), upa_n (by omega), upa_n (by omega)]
/-- the rows of the book bo alone may differ, its signs apart -/
def Ab (bo : Nat) (β1 β : Nat → Nat → Int32) : Prop := ∀ x, x < bo + 2 ∨ bo + 6 < x → β1 x = β x
theorem Ab_adT {bo : Nat} {β1 β : Nat → Nat → Int32} {s c : Nat} {x y m : Int32} (h : Ab bo β1 β) : Ab bo (adT bo β1 s c x y m) β := fun z hz => by
  rw [adT_o hz]; exact h z hz
/-- the terms ps stand in the sum s of the book bo, and all else of the book is as in β -/
def Bst (bo : Nat) (β : Nat → Nat → Int32) (s : Nat) (β1 : Nat → Nat → Int32) (ps : List Tm) : Prop :=
  Ab bo β1 β ∧ (∀ j, j < 4 * s ∨ 4 * s + ps.length ≤ j → β1 (bo + 4) j = β (bo + 4) j ∧ β1 (bo + 5) j = β (bo + 5) j ∧ β1 (bo + 6) j = β (bo + 6) j) ∧ SumX (β1 (bo + 4)) (β1 (bo + 5)) (β1 (bo + 6)) (4 * s) ps ∧ β1 (bo + 3) s = nI ps.length ∧ (∀ j, j ≠ s → β1 (bo + 3) j = β (bo + 3) j) ∧ (∀ q, q ≠ s / 2 → β1 (bo + 2) q = β (bo + 2) q) ∧ ∀ ts, Told (β (bo + 2) (s / 2)) ts → Told (β1 (bo + 2) (s / 2)) (ts ++ ps)
theorem Bst_nil {bo s : Nat} {β : Nat → Nat → Int32} (h : β (bo + 3) s = nI 0) : Bst bo β s β [] := ⟨fun _ _ => rfl, fun _ _ => ⟨rfl, rfl, rfl⟩, fun i y hy => (by cases hy), h, fun _ _ => rfl, fun _ _ => rfl, fun ts ht => (by rw [List.append_nil]; exact ht)⟩
theorem Bst_snoc {bo s : Nat} {β β1 : Nat → Nat → Int32} {ps : List Tm} {tm : Tm} {m : Int32} (h : Bst bo β s β1 ps) (ht : tok tm) (hm : m = if tm.1 = 2 then 1 else 0) : Bst bo β s (adT bo β1 s ps.length tm.2.1 (tm.2.2.getD 1) m) (ps ++ [tm]) := by
  obtain ⟨h1, h2, h3, h4, h5, h6, h7⟩ := h
  have hb : vp_nar .boolean m = m := by
    rw [hm]
    split
    · rfl
    · rfl
  refine ⟨Ab_adT h1, fun j hj => ?_, fun i y hy => ?_, ?_, fun j hj => ?_, fun q hq => ?_, fun ts hts => ?_⟩
  · rw [List.length_append, List.length_singleton] at hj
    have hne : j ≠ 4 * s + ps.length := by omega
    rw [adT_4, adT_5, adT_6, pk_un hne, pk_un hne, pk_un hne]
    exact h2 j (by omega)
  · rw [adT_4, adT_5, adT_6]
    by_cases e : i = ps.length
    · subst e
      rw [List.getElem?_append_right (Nat.le_refl _), Nat.sub_self] at hy
      cases hy
      rw [pk_us, pk_us, pk_us, hb]
      exact ⟨rfl, hm, rfl⟩
    · have hi : i < ps.length := by
        have := (List.getElem?_eq_some_iff.mp hy).1
        rw [List.length_append, List.length_singleton] at this
        omega
      rw [List.getElem?_append_left hi] at hy
      have hne : 4 * s + i ≠ 4 * s + ps.length := by omega
      rw [pk_un hne, pk_un hne, pk_un hne]
      exact h3 i y hy
  · rw [adT_3, pk_us, List.length_append, List.length_singleton]
  · rw [adT_3, pk_un hj]
    exact h5 j hj
  · rw [adT_2j hq]
    exact h6 q hq
  · rw [adT_2q, ← List.append_assoc]
    exact told_snoc (h7 ts hts) ht
/-- a sum as the class reads it -/
def csum (g : Nat → Int32) (t : Nat) : Nat → Int32 → Nat → Option (List Tm × Nat)
  | 0, _, _ => none
  | n + 1, how, a => match ctm g t how a with
    | none => none
    | some q => if n = 0 then some ([q.1], q.2)
      else if hr g t (skp g t q.2) = 45 then (csum g t n 2 (skp g t q.2 + 1)).map (fun z => (q.1 :: z.1, z.2))
      else if hr g t (skp g t (skp g t q.2)) = 43 then (csum g t n 1 (skp g t (skp g t q.2) + 1)).map (fun z => (q.1 :: z.1, z.2))
      else some ([q.1], skp g t (skp g t q.2))
theorem csum_n {g : Nat → Int32} {t n a : Nat} {how : Int32} (h : ctm g t how a = none) : csum g t (n + 1) how a = none := by
  show (match ctm g t how a with | none => none | some q => _) = none
  rw [h]
theorem csum_s {g : Nat → Int32} {t n a : Nat} {how : Int32} {q : Tm × Nat} (h : ctm g t how a = some q) : csum g t (n + 1) how a = if n = 0 then some ([q.1], q.2)
      else if hr g t (skp g t q.2) = 45 then (csum g t n 2 (skp g t q.2 + 1)).map (fun z => (q.1 :: z.1, z.2))
      else if hr g t (skp g t (skp g t q.2)) = 43 then (csum g t n 1 (skp g t (skp g t q.2) + 1)).map (fun z => (q.1 :: z.1, z.2))
      else some ([q.1], skp g t (skp g t q.2)) := by
  show (match ctm g t how a with | none => none | some q => _) = _
  rw [h]
theorem pz_1 {g : Nat → Int32} {t a : Nat} {x : Int32} (h : ¬ pz g t a x = 0) : pz g t a x = 1 := if_pos (pz_y h)
