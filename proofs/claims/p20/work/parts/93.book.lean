/-! ===== what the class reads: factors, and the book's rows ===== -/
theorem dig48 {x : Int32} (h0 : ¬ x - 48 < 0) (h1 : x - 48 ≤ 9) : ∃ d : Nat, d ≤ 9 ∧ x - 48 = nI d ∧ x = nI (48 + d) := by
  obtain ⟨d, hd, e⟩ := nI_of2 (n := 9) (show (9 : Int32).toInt = (9 : Nat) by decide) h0 h1
  refine ⟨d, by omega, e, ?_⟩
  have e2 : x = (x - 48) + 48 := by rw [Int32.sub_add_cancel]
  rw [e2, e, show (48 : Int32) = nI 48 from rfl, nI_add, Nat.add_comm]
theorem cnl_ok {g : Nat → Int32} {H : Nat} (hH : H ≤ 99999) : ∀ (k a : Nat) (w : Int32), (w = -1000000000 ∨ ∃ m : Nat, m ≤ H ∧ w = nI m) → (cnl g (nI H) k a w).2 = -1000000000 ∨ ∃ m : Nat, m ≤ H ∧ (cnl g (nI H) k a w).2 = nI m := by
  intro k
  induction k with
  | zero => intro a w hw; exact hw
  | succ k ih =>
    intro a w hw
    unfold cnl
    split
    · exact hw
    · rename_i h0
      split
      · rename_i h9
        obtain ⟨d, hd, e, -⟩ := dig48 h0 h9
        rw [e]
        split
        · split
          · exact Or.inl rfl
          · split
            · rename_i hle
              exact ih (a + 1) (nI d) (Or.inr ⟨d, (nI_leI (by omega) (by omega)).mp hle, rfl⟩)
            · exact Or.inl rfl
        · rename_i hno
          obtain ⟨m, hm, rfl⟩ := hw.resolve_left hno
          have e10 : 10 * nI m + nI d = nI (10 * m + d) := by rw [show (10 : Int32) = nI 10 from rfl, pk_mul, nI_add]
          rw [e10]
          split
          · exact Or.inl rfl
          · split
            · rename_i hle
              exact ih (a + 1) _ (Or.inr ⟨10 * m + d, (nI_leI (by omega) (by omega)).mp hle, rfl⟩)
            · exact Or.inl rfl
      · exact hw
theorem cfV_ok (g : Nat → Int32) (t a : Nat) : cfV g t a = -1000000000 ∨ fkb (cfV g t a) := by
  unfold cfV
  split
  · split
    · exact Or.inl rfl
    · rename_i h
      rcases cnl_ok (g := g) (H := 19) (by omega) (t - skp g t (skp g t a + 1)) (skp g t (skp g t a + 1)) (-1000000000) (Or.inl rfl) with z | ⟨m, hm, z⟩
      · exact absurd z h
      · refine Or.inr (Or.inr ⟨m, by omega, ?_⟩)
        rw [show (cnum g t (skp g t (skp g t a + 1)) 19).2 = nI m from z]
  · rcases cnl_ok (g := g) (H := 99999) (by omega) (t - skp g t (skp g t a)) (skp g t (skp g t a)) (-1000000000) (Or.inl rfl) with z | ⟨m, hm, z⟩
    · exact Or.inl z
    · exact Or.inr (Or.inl ⟨m, hm, z⟩)
theorem ctm_tok {g : Nat → Int32} {t a : Nat} {how : Int32} {q : Tm × Nat} (hh : how = 1 ∨ how = 2) (h : ctm g t how a = some q) : tok q.1 := by
  unfold ctm at h
  split at h
  · cases h
  · rename_i h1
    have f1 := (cfV_ok g t a).resolve_left h1
    split at h
    · split at h
      · cases h
      · rename_i h3
        have f2 := (cfV_ok g t (skp g t (cfA g t a) + 1)).resolve_left h3
        cases h
        exact ⟨hh, f1, fun d hd => by cases hd; exact f2⟩
    · cases h
      exact ⟨hh, f1, fun d hd => by cases hd⟩
/-- a field told, in the word v -/
def ntv (v x : Int32) : Int32 := if 0 ≤ x then v else xch v (-1 - x) 1
theorem nt_n {β : Nat → Nat → Int32} {ft q y : Nat} {x : Int32} (h : y ≠ ft) : nt β ft q x y = β y := by
  unfold nt
  split
  · rfl
  · exact upa_n h
theorem nt_q (β : Nat → Nat → Int32) (ft q : Nat) (x : Int32) : nt β ft q x ft q = ntv (β ft q) x := by
  unfold nt ntv
  split
  · rfl
  · rw [upa_s, pk_us]
theorem nt_j {β : Nat → Nat → Int32} {ft q j : Nat} {x : Int32} (h : j ≠ q) : nt β ft q x ft j = β ft j := by
  unfold nt
  split
  · rfl
  · rw [upa_s, pk_un h]
theorem m1neg {f : Nat} (hf : f < 32) : (-1 - nI f : Int32) < 0 := by
  have z : ∀ k : Fin 32, (-1 - nI k : Int32) < 0 := by decide +kernel
  exact z ⟨f, hf⟩
theorem ntv_t {v x : Int32} {S : Nat → Prop} (hv : ∀ f, f < 32 → (xhs v (nI f) = 1 ↔ S f)) (hx : fkb x) : ∀ f, f < 32 → (xhs (ntv v x) (nI f) = 1 ↔ (S f ∨ x = -1 - nI f)) := by
  intro f hf
  rcases hx with ⟨m, hm, rfl⟩ | ⟨e, he, rfl⟩
  · unfold ntv
    rw [if_pos (nI_pos' (by omega)), hv f hf]
    constructor
    · exact Or.inl
    · rintro (z | z)
      · exact z
      · have h1 := m1neg hf
        rw [← z] at h1
        exact absurd h1 (nI_pos (by omega))
  · unfold ntv
    rw [if_neg (Int32.not_le.mpr (neg1_lt he)), m1n, xhs_ch v 1 (by omega) hf]
    by_cases e2 : f = e
    · subst e2
      rw [if_pos rfl, if_neg (by decide)]
      exact ⟨fun _ => Or.inr rfl, fun _ => rfl⟩
    · rw [if_neg e2, hv f hf]
      constructor
      · exact Or.inl
      · rintro (z | z)
        · exact z
        · exact absurd (m1inj (by omega) hf z).symm e2
theorem told_snoc {v : Int32} {ts : List Tm} {tm : Tm} (hv : Told v ts) (ht : tok tm) : Told (ntv (ntv v tm.2.1) (tm.2.2.getD 1)) (ts ++ [tm]) := by
  obtain ⟨how, x, o⟩ := tm
  have fo : fkb (o.getD 1) := by
    cases o with
    | none => exact Or.inl ⟨1, by omega, rfl⟩
    | some d => exact ht.2.2 d rfl
  have h2 := ntv_t (ntv_t hv ht.2.1) fo
  intro f hf
  rw [h2 f hf]
  have eo : o.getD 1 = -1 - nI f ↔ o = some (-1 - nI f) := by
    cases o with
    | none =>
      constructor
      · intro z
        have h1 := m1neg hf
        rw [← z] at h1
        exact absurd h1 (by decide)
      · intro z; cases z
    | some d => exact ⟨fun z => congrArg some z, fun z => Option.some.inj z⟩
  constructor
  · rintro ((⟨y, hy, hz⟩ | z) | z)
    · exact ⟨y, List.mem_append_left _ hy, hz⟩
    · exact ⟨_, List.mem_append_right _ (List.mem_singleton.mpr rfl), Or.inl z⟩
    · exact ⟨_, List.mem_append_right _ (List.mem_singleton.mpr rfl), Or.inr (eo.mp z)⟩
  · rintro ⟨y, hy, hz⟩
    rcases List.mem_append.mp hy with w | w
    · exact Or.inl (Or.inl ⟨y, w, hz⟩)
    · obtain rfl := List.mem_singleton.mp w
      rcases hz with z | z
      · exact Or.inl (Or.inr z)
      · exact Or.inr (eo.mpr z)
theorem adT_o {bo : Nat} {β : Nat → Nat → Int32} {s c y0 : Nat} {x y m : Int32} (h : y0 < bo + 2 ∨ bo + 6 < y0) : adT bo β s c x y m y0 = β y0 := by
  unfold adT
  rw [nt_n (by omega), nt_n (by omega), upa_n (by omega), upa_n (by omega), upa_n (by omega), upa_n (by omega)]
theorem adT_3 (bo : Nat) (β : Nat → Nat → Int32) (s c : Nat) (x y m : Int32) : adT bo β s c x y m (bo + 3) = upd (β (bo + 3)) s (nI (c + 1)) := by
  unfold adT
  rw [nt_n (by omega), nt_n (by omega), upa_s]
theorem adT_6 (bo : Nat) (β : Nat → Nat → Int32) (s c : Nat) (x y m : Int32) : adT bo β s c x y m (bo + 6) = upd (β (bo + 6)) (4 * s + c) (vp_nar .boolean m) := by
  unfold adT
  rw [nt_n (by omega), nt_n (by omega), upa_n (by omega), upa_s]
theorem adT_5 (bo : Nat) (β : Nat → Nat → Int32) (s c : Nat) (x y m : Int32) : adT bo β s c x y m (bo + 5) = upd (β (bo + 5)) (4 * s + c) y := by
  unfold adT
  rw [nt_n (by omega), nt_n (by omega), upa_n (by omega), upa_n (by omega), upa_s]
theorem adT_4 (bo : Nat) (β : Nat → Nat → Int32) (s c : Nat) (x y m : Int32) : adT bo β s c x y m (bo + 4) = upd (β (bo + 4)) (4 * s + c) x := by
  unfold adT
  rw [nt_n (by omega), nt_n (by omega), upa_n (by omega), upa_n (by omega), upa_n (by omega), upa_s]
theorem adT_2q (bo : Nat) (β : Nat → Nat → Int32) (s c : Nat) (x y m : Int32) : adT bo β s c x y m (bo + 2) (s / 2) = ntv (ntv (β (bo + 2) (s / 2)) x) y := by
  unfold adT
  rw [nt_q, nt_q, upa_n (by omega), upa_n (by omega), upa_n (by omega), upa_n (by omega)]
theorem adT_2j {bo : Nat} {β : Nat → Nat → Int32} {s c j : Nat} {x y m : Int32} (h : j ≠ s / 2) : adT bo β s c x y m (bo + 2) j = β (bo + 2) j := by
  unfold adT
  rw [nt_j h, nt_j h, upa_n (by omega), upa_n (by omega), upa_n (by omega), upa_n (by omega)]
/-- the rows of the book bo alone may differ, its signs apart -/
def Ab (bo : Nat) (β1 β : Nat → Nat → Int32) : Prop := ∀ x, x < bo + 2 ∨ bo + 6 < x → β1 x = β x
theorem Ab_adT {bo : Nat} {β1 β : Nat → Nat → Int32} {s c : Nat} {x y m : Int32} (h : Ab bo β1 β) : Ab bo (adT bo β1 s c x y m) β := fun z hz => by
  rw [adT_o hz]; exact h z hz
/-- the terms ps stand in the sum s of the book bo, and all else of the book is as in β -/
def Bst (bo : Nat) (β : Nat → Nat → Int32) (s : Nat) (β1 : Nat → Nat → Int32) (ps : List Tm) : Prop :=
  Ab bo β1 β ∧ (∀ j, j < 4 * s ∨ 4 * s + ps.length ≤ j → β1 (bo + 4) j = β (bo + 4) j ∧ β1 (bo + 5) j = β (bo + 5) j ∧ β1 (bo + 6) j = β (bo + 6) j) ∧ SumX (β1 (bo + 4)) (β1 (bo + 5)) (β1 (bo + 6)) (4 * s) ps ∧ β1 (bo + 3) s = nI ps.length ∧ (∀ j, j ≠ s → β1 (bo + 3) j = β (bo + 3) j) ∧ (∀ q, q ≠ s / 2 → β1 (bo + 2) q = β (bo + 2) q) ∧ ∀ ts, Told (β (bo + 2) (s / 2)) ts → Told (β1 (bo + 2) (s / 2)) (ts ++ ps)
theorem Bst_nil {bo s : Nat} {β : Nat → Nat → Int32} (h : β (bo + 3) s = nI 0) : Bst bo β s β [] := ⟨fun _ _ => rfl, fun _ _ => ⟨rfl, rfl, rfl⟩, fun i y hy => (by cases hy), h, fun _ _ => rfl, fun _ _ => rfl, fun ts ht => (by rw [List.append_nil]; exact ht)⟩
theorem Bst_snoc {bo s : Nat} {β β1 : Nat → Nat → Int32} {ps : List Tm} {tm : Tm} {m : Int32} (h : Bst bo β s β1 ps) (ht : tok tm) (hm : m = if tm.1 = 2 then 1 else 0) : Bst bo β s (adT bo β1 s ps.length tm.2.1 (tm.2.2.getD 1) m) (ps ++ [tm]) := by
  obtain ⟨h1, h2, h3, h4, h5, h6, h7⟩ := h
  have hb : vp_nar .boolean m = m := by
    rw [hm]
    split
    · rfl
    · rfl
  refine ⟨Ab_adT h1, fun j hj => ?_, fun i y hy => ?_, ?_, fun j hj => ?_, fun q hq => ?_, fun ts hts => ?_⟩
  · rw [List.length_append, List.length_singleton] at hj
    have hne : j ≠ 4 * s + ps.length := by omega
    rw [adT_4, adT_5, adT_6, pk_un hne, pk_un hne, pk_un hne]
    exact h2 j (by omega)
  · rw [adT_4, adT_5, adT_6]
    by_cases e : i = ps.length
    · subst e
      rw [List.getElem?_append_right (Nat.le_refl _), Nat.sub_self] at hy
      cases hy
      rw [pk_us, pk_us, pk_us, hb]
      exact ⟨rfl, hm, rfl⟩
    · have hi : i < ps.length := by
        have := (List.getElem?_eq_some_iff.mp hy).1
        rw [List.length_append, List.length_singleton] at this
        omega
      rw [List.getElem?_append_left hi] at hy
      have hne : 4 * s + i ≠ 4 * s + ps.length := by omega
      rw [pk_un hne, pk_un hne, pk_un hne]
      exact h3 i y hy
  · rw [adT_3, pk_us, List.length_append, List.length_singleton]
  · rw [adT_3, pk_un hj]
    exact h5 j hj
  · rw [adT_2j hq]
    exact h6 q hq
  · rw [adT_2q, ← List.append_assoc]
    exact told_snoc (h7 ts hts) ht
/-- a sum as the class reads it -/
def csum (g : Nat → Int32) (t : Nat) : Nat → Int32 → Nat → Option (List Tm × Nat)
  | 0, _, _ => none
  | n + 1, how, a => match ctm g t how a with
    | none => none
    | some q => if n = 0 then some ([q.1], q.2)
      else if hr g t (skp g t q.2) = 45 then (csum g t n 2 (skp g t q.2 + 1)).map (fun z => (q.1 :: z.1, z.2))
      else if hr g t (skp g t (skp g t q.2)) = 43 then (csum g t n 1 (skp g t (skp g t q.2) + 1)).map (fun z => (q.1 :: z.1, z.2))
      else some ([q.1], skp g t (skp g t q.2))
theorem csum_n {g : Nat → Int32} {t n a : Nat} {how : Int32} (h : ctm g t how a = none) : csum g t (n + 1) how a = none := by
  show (match ctm g t how a with | none => none | some q => _) = none
  rw [h]
theorem csum_s {g : Nat → Int32} {t n a : Nat} {how : Int32} {q : Tm × Nat} (h : ctm g t how a = some q) : csum g t (n + 1) how a = if n = 0 then some ([q.1], q.2)
      else if hr g t (skp g t q.2) = 45 then (csum g t n 2 (skp g t q.2 + 1)).map (fun z => (q.1 :: z.1, z.2))
      else if hr g t (skp g t (skp g t q.2)) = 43 then (csum g t n 1 (skp g t (skp g t q.2) + 1)).map (fun z => (q.1 :: z.1, z.2))
      else some ([q.1], skp g t (skp g t q.2)) := by
  show (match ctm g t how a with | none => none | some q => _) = _
  rw [h]
theorem pz_1 {g : Nat → Int32} {t a : Nat} {x : Int32} (h : ¬ pz g t a x = 0) : pz g t a x = 1 := if_pos (pz_y h)
/-! ===== the class reads a text: sums: printed by program ===== -/
theorem c_RR_skipBlanksG {l : Launch} (hl : l.stackTraces = false) {D : va_G} {cA : Nat → ClassId} {b n : Nat} {xo : Nat} {ξ : Nat → Int32} {β : Nat → Nat → Int32} {ρ : Nat → Option Nat} {u v : Nat} (h : AH) (hn : xo + 28 ≤ n) (g : Nat → Int32) (hg : β 4 = g) (t a0 : Nat) (h4 : ξ 4 = nI t) (ht : t ≤ 300) (ha0 : a0 ≤ t) : Cn l D cA b y_RR_skipBlanks k_RR_skipBlanks 0 0 0 0 [.ref (xo + 5)] n (ovX xo (xq ξ a0) β ρ u v h) (Re none n (ovX xo (xq ξ (skp g t a0)) β ρ u v h)) := by
  subst hg
  exact c_RR_skipBlanks hl h hn t a0 h4 ht ha0
theorem c_RR_passesG {l : Launch} (hl : l.stackTraces = false) {D : va_G} {cA : Nat → ClassId} {b n : Nat} {xo : Nat} {ξ : Nat → Int32} {β : Nat → Nat → Int32} {ρ : Nat → Option Nat} {u v : Nat} (h : AH) (hn : xo + 28 ≤ n) (g : Nat → Int32) (hg : β 4 = g) (t a0 : Nat) (h4 : ξ 4 = nI t) (ht : t ≤ 300) (ha0 : a0 ≤ t) (x : Int32) (hx : ¬ x = -1) : Cn l D cA b y_RR_passes k_RR_passes 1 12 0 0 [.ref (xo + 5), .int x] n (ovX xo (xq ξ a0) β ρ u v h) (Re (some (.int (pz g t a0 x))) n (ovX xo (xq ξ (pp g t a0 x)) β ρ u v h)) := by
  subst hg
  exact c_RR_passes hl h hn t a0 h4 ht ha0 x hx
theorem c_RR_readTermG_6_s {l : Launch} (hl : l.stackTraces = false) {D : va_G} {cA : Nat → ClassId} {b n : Nat} {xo : Nat} {ξ : Nat → Int32} {β : Nat → Nat → Int32} {ρ : Nat → Option Nat} {u v : Nat} (h : AH) (hn : xo + 28 ≤ n) (g : Nat → Int32) (hg : β 4 = g) (t a0 : Nat) (h4 : ξ 4 = nI t) (ht : t ≤ 300) (ha0 : a0 ≤ t) (how : Int32) (s0 c0 : Nat) (hs : s0 < 40) (hc : β 9 s0 = nI c0) (hc4 : c0 < 4) (m0 : Int32) (tm : Int32 × Int32 × Option Int32) (P : Nat) (hS : ctm g t how a0 = some (tm, P)) : Cn l D cA b y_RR_readTerm k_RR_readTerm 3 48 0 0 [.ref (xo + 5), .ref (xo + 6), .int (nI s0), .int m0] n (ovX xo (xq ξ a0) β ρ u v h) (Re (some (.int 1)) n (ovX xo (xq ξ P) (adT 6 β s0 c0 tm.2.1 (tm.2.2.getD 1) m0) ρ u v h)) := by
  subst hg
  exact c_RR_readTerm_6_s hl h hn t a0 h4 ht ha0 how s0 c0 hs hc hc4 m0 tm P hS
theorem c_RR_readTermG_6_n {l : Launch} (hl : l.stackTraces = false) {D : va_G} {cA : Nat → ClassId} {b n : Nat} {xo : Nat} {ξ : Nat → Int32} {β : Nat → Nat → Int32} {ρ : Nat → Option Nat} {u v : Nat} (h : AH) (hn : xo + 28 ≤ n) (g : Nat → Int32) (hg : β 4 = g) (t a0 : Nat) (h4 : ξ 4 = nI t) (ht : t ≤ 300) (ha0 : a0 ≤ t) (how : Int32) (s0 c0 : Nat) (hs : s0 < 40) (hc : β 9 s0 = nI c0) (hc4 : c0 < 4) (m0 : Int32) (hS : ctm g t how a0 = none) : Cn l D cA b y_RR_readTerm k_RR_readTerm 3 48 0 0 [.ref (xo + 5), .ref (xo + 6), .int (nI s0), .int m0] n (ovX xo (xq ξ a0) β ρ u v h) (Re (some (.int 0)) n (ovX xo (xq ξ (ctp g t a0)) β ρ u v h)) := by
  subst hg
  exact c_RR_readTerm_6_n hl h hn t a0 h4 ht ha0 how s0 c0 hs hc hc4 m0 hS
set_option maxHeartbeats 4000000 in
set_option maxRecDepth 100000 in
theorem c_RR_readSum_6_s {l : Launch} (hl : l.stackTraces = false) {D : va_G} {cA : Nat → ClassId} {b n : Nat} {xo : Nat} {ξ : Nat → Int32} {β : Nat → Nat → Int32} {ρ : Nat → Option Nat} {u v : Nat} (h : AH) (hn : xo + 28 ≤ n) (t a0 : Nat) (h4 : ξ 4 = nI t) (ht : t ≤ 300) (ha0 : a0 ≤ t) (s0 : Nat) (hs : s0 < 40) (hc : β 9 s0 = nI 0) (q0 : List Tm × Nat) (hR : csum (β 4) t 4 1 a0 = some q0) : Cn l D cA b y_RR_readSum k_RR_readSum 4 65 0 0 [.ref (xo + 5), .ref (xo + 6), .int (nI s0)] n (ovX xo (xq ξ a0) β ρ u v h) (Rp (some (.int 1)) n (fun h' => ∃ β' : Nat → Nat → Int32, h' = ovX xo (xq ξ q0.2) β' ρ u v h ∧ Bst 6 β s0 β' q0.1)) := by
  refine Cn.of (cc := b_RR_readSum) (maxL := 5) (ret := (some .boolean)) (hh := []) (by decide +kernel) hl (Or.inl ⟨rfl, rfl⟩) (Nat.le_of_ble_eq_true rfl) ?_
  intro p e s m args below meth c C
  have loop : ∀ (n9 : Nat) (how : Int32) (a : Nat) (β1 : Nat → Nat → Int32) (ps : List Tm) (mi : Int32), ps.length + n9 = 3 → (how = 1 ∨ how = 2) → mi = (if how = 2 then 1 else 0) → Bst 6 β s0 β1 ps → a ≤ t → (csum (β 4) t (n9 + 1) how a).map (fun q => (ps ++ q.1, q.2)) = csum (β 4) t 4 1 a0 → J p l e { frames := 4, cells := 0, slots := 0, locals := 65 } s m args below meth c D cA b 5 (EndQ D cA b s below (Rp (some (.int 1)) n (fun h' => ∃ β' : Nat → Nat → Int32, h' = ovX xo (xq ξ q0.2) β' ρ u v h ∧ Bst 6 β s0 β' q0.1)) 0 0) n (ovX xo (xq ξ a) β1 ρ u v h) 0 0 5 [(4, .int (nI (ps.length + 1))), (3, .int mi), (0, .ref (xo + 5)), (1, .ref (xo + 6)), (2, .int (nI s0))] [] := by
    intro n9
    induction n9 with
    | zero =>
      intro how a β1 ps mi hi hh hm hB ha hv
      refine j_iload C d_RR_readSum_5 rfl ?_
      refine j_iconst (v := 4) C d_RR_readSum_7 (by decide) ?_
      refine j_icmp_gt (tgt := 57) C d_RR_readSum_8 (by decide) (fun c8 => ?_) (fun c8 => ?_)
      · exact absurd (show nI 4 < nI (ps.length + 1) from c8) (fun z => absurd (nI_le (a := ps.length + 1) (b := 4) (by omega) (by omega)) (Int32.not_le.mpr z))
      · refine j_aload_n C d_RR_readSum_11 rfl rfl ?_
        refine j_aload_n C d_RR_readSum_12 rfl rfl ?_
        refine j_iload_n C d_RR_readSum_13 rfl rfl ?_
        refine j_iload_n C d_RR_readSum_14 rfl rfl ?_
        cases hct : ctm (β 4) t how a with
        | none =>
          refine j_callV C d_RR_readSum_15 ml_RR_55 mc_RR_readTerm in_RR_readTerm rfl se_RR_readTerm (by omega) (ovX_c (o := 5) rfl) (c_RR_readTermG_6_n hl h hn (β 4) (hB.1 4 (by omega)) t a h4 ht ha how s0 ps.length hs hB.2.2.2.1 (by omega) mi hct) rfl rfl (Nat.le_of_ble_eq_true rfl) (Nat.le_of_ble_eq_true rfl) (Nat.le_of_ble_eq_true rfl) (Nat.le_of_ble_eq_true rfl) (jk_r ?_)
          refine j_if_ne (tgt := 23) C d_RR_readSum_18 (by decide) (fun c18 => ?_) (fun c18 => ?_)
          · exact absurd rfl c18
          · refine j_iconst (v := 0) C d_RR_readSum_21 (by decide) ?_
            have er : csum (β 4) t 4 1 a0 = none := by
              rw [← hv, csum_n hct]
              rfl
            rw [er] at hR
            cases hR
        | some q =>
          refine j_callV C d_RR_readSum_15 ml_RR_55 mc_RR_readTerm in_RR_readTerm rfl se_RR_readTerm (by omega) (ovX_c (o := 5) rfl) (c_RR_readTermG_6_s hl h hn (β 4) (hB.1 4 (by omega)) t a h4 ht ha how s0 ps.length hs hB.2.2.2.1 (by omega) mi q.1 q.2 hct) rfl rfl (Nat.le_of_ble_eq_true rfl) (Nat.le_of_ble_eq_true rfl) (Nat.le_of_ble_eq_true rfl) (Nat.le_of_ble_eq_true rfl) (jk_r ?_)
          have hq2 := ctm_le ha hct
          have hB2 := Bst_snoc (m := mi) hB (ctm_tok hh hct) (by rw [hq2.2]; exact hm)
          generalize hb2 : adT 6 β1 s0 ps.length q.1.2.1 (q.1.2.2.getD 1) mi = β2 at hB2 ⊢
          have hg2 : β2 4 = β 4 := hB2.1 4 (by omega)
          refine j_if_ne (tgt := 23) C d_RR_readSum_18 (by decide) (fun c18 => ?_) (fun c18 => ?_)
          · refine j_iload C d_RR_readSum_23 rfl ?_
            refine j_iconst (v := 4) C d_RR_readSum_25 (by decide) ?_
            refine j_icmp_ge (tgt := 51) C d_RR_readSum_26 (by decide) (fun c26 => ?_) (fun c26 => ?_)
            · refine j_iinc (v := nI ((ps ++ [q.1]).length + 1)) C d_RR_readSum_51 rfl (by rw [len_snoc]; exact nI_inc _) (by decide) rfl ?_
              refine j_goto (tgt := 5) C d_RR_readSum_54 (by decide) ?_
              refine j_iload C d_RR_readSum_5 rfl ?_
              refine j_iconst (v := 4) C d_RR_readSum_7 (by decide) ?_
              refine j_icmp_gt (tgt := 57) C d_RR_readSum_8 (by decide) (fun c8 => ?_) (fun c8 => ?_)
              · refine j_iconst (v := 1) C d_RR_readSum_57 (by decide) ?_
                have er : csum (β 4) t 4 1 a0 = some (ps ++ [q.1], q.2) := by
                  rw [← hv, csum_s hct, if_pos rfl]
                  rfl
                rw [er] at hR
                cases hR
                exact j_zreturn C d_RR_readSum_58 rfl (by decide) (by decide) (by decide) ⟨rfl, rfl, β2, rfl, hB2⟩
              · exact absurd (show nI 4 < nI ((ps ++ [q.1]).length + 1) from nI_lt (by rw [len_snoc]; omega) (by rw [len_snoc]; omega)) c8
            · exact absurd (show nI 4 ≤ nI (ps.length + 1) from nI_le (by omega) (by omega)) c26
          · exact absurd c18 (by decide)
    | succ n9 ih =>
      intro how a β1 ps mi hi hh hm hB ha hv
      refine j_iload C d_RR_readSum_5 rfl ?_
      refine j_iconst (v := 4) C d_RR_readSum_7 (by decide) ?_
      refine j_icmp_gt (tgt := 57) C d_RR_readSum_8 (by decide) (fun c8 => ?_) (fun c8 => ?_)
      · exact absurd (show nI 4 < nI (ps.length + 1) from c8) (fun z => absurd (nI_le (a := ps.length + 1) (b := 4) (by omega) (by omega)) (Int32.not_le.mpr z))
      · refine j_aload_n C d_RR_readSum_11 rfl rfl ?_
        refine j_aload_n C d_RR_readSum_12 rfl rfl ?_
        refine j_iload_n C d_RR_readSum_13 rfl rfl ?_
        refine j_iload_n C d_RR_readSum_14 rfl rfl ?_
        cases hct : ctm (β 4) t how a with
        | none =>
          refine j_callV C d_RR_readSum_15 ml_RR_55 mc_RR_readTerm in_RR_readTerm rfl se_RR_readTerm (by omega) (ovX_c (o := 5) rfl) (c_RR_readTermG_6_n hl h hn (β 4) (hB.1 4 (by omega)) t a h4 ht ha how s0 ps.length hs hB.2.2.2.1 (by omega) mi hct) rfl rfl (Nat.le_of_ble_eq_true rfl) (Nat.le_of_ble_eq_true rfl) (Nat.le_of_ble_eq_true rfl) (Nat.le_of_ble_eq_true rfl) (jk_r ?_)
          refine j_if_ne (tgt := 23) C d_RR_readSum_18 (by decide) (fun c18 => ?_) (fun c18 => ?_)
          · exact absurd rfl c18
          · refine j_iconst (v := 0) C d_RR_readSum_21 (by decide) ?_
            have er : csum (β 4) t 4 1 a0 = none := by
              rw [← hv, csum_n hct]
              rfl
            rw [er] at hR
            cases hR
        | some q =>
          refine j_callV C d_RR_readSum_15 ml_RR_55 mc_RR_readTerm in_RR_readTerm rfl se_RR_readTerm (by omega) (ovX_c (o := 5) rfl) (c_RR_readTermG_6_s hl h hn (β 4) (hB.1 4 (by omega)) t a h4 ht ha how s0 ps.length hs hB.2.2.2.1 (by omega) mi q.1 q.2 hct) rfl rfl (Nat.le_of_ble_eq_true rfl) (Nat.le_of_ble_eq_true rfl) (Nat.le_of_ble_eq_true rfl) (Nat.le_of_ble_eq_true rfl) (jk_r ?_)
          have hq2 := ctm_le ha hct
          have hB2 := Bst_snoc (m := mi) hB (ctm_tok hh hct) (by rw [hq2.2]; exact hm)
          generalize hb2 : adT 6 β1 s0 ps.length q.1.2.1 (q.1.2.2.getD 1) mi = β2 at hB2 ⊢
          have hg2 : β2 4 = β 4 := hB2.1 4 (by omega)
          refine j_if_ne (tgt := 23) C d_RR_readSum_18 (by decide) (fun c18 => ?_) (fun c18 => ?_)
          · refine j_iload C d_RR_readSum_23 rfl ?_
            refine j_iconst (v := 4) C d_RR_readSum_25 (by decide) ?_
            refine j_icmp_ge (tgt := 51) C d_RR_readSum_26 (by decide) (fun c26 => ?_) (fun c26 => ?_)
            · exact absurd (show nI 4 ≤ nI (ps.length + 1) from c26) (nI_ge (by omega) (by omega))
            · refine j_aload_n C d_RR_readSum_29 rfl rfl ?_
              refine j_bipush (v := 45) C d_RR_readSum_30 (by decide) ?_
              refine j_callV C d_RR_readSum_32 ml_RR_47 mc_RR_passes in_RR_passes rfl se_RR_passes (by omega) (ovX_c (o := 5) rfl) (c_RR_passesG hl h hn (β 4) hg2 t q.2 h4 ht hq2.1 45 (by decide)) rfl rfl (Nat.le_of_ble_eq_true rfl) (Nat.le_of_ble_eq_true rfl) (Nat.le_of_ble_eq_true rfl) (Nat.le_of_ble_eq_true rfl) (jk_r ?_)
              refine j_istore_n C d_RR_readSum_35 rfl (by decide) rfl ?_
              refine j_iload_n C d_RR_readSum_36 rfl rfl ?_
              refine j_if_ne (tgt := 51) C d_RR_readSum_37 (by decide) (fun c37 => ?_) (fun c37 => ?_)
              · rw [pz_1 c37, pp_y (pz_y c37)]
                refine j_iinc (v := nI ((ps ++ [q.1]).length + 1)) C d_RR_readSum_51 rfl (by rw [len_snoc]; exact nI_inc _) (by decide) rfl ?_
                refine j_goto (tgt := 5) C d_RR_readSum_54 (by decide) ?_
                exact j_pick [0, 1, 2, 3, 4] rfl (ih 2 (skp (β 4) t q.2 + 1) β2 (ps ++ [q.1]) 1 (by rw [len_snoc]; omega) (Or.inr rfl) rfl hB2 (hr_lt2 (pz_y c37) (by decide)) (by rw [← hv, csum_s hct, if_neg (by omega), if_pos (pz_y c37), Option.map_map]; congr 1; funext z; simp))
              · have hm45 := pz_n c37
                rw [c37, pp_n hm45]
                refine j_aload_n C d_RR_readSum_40 rfl rfl ?_
                refine j_bipush (v := 43) C d_RR_readSum_41 (by decide) ?_
                refine j_callV C d_RR_readSum_43 ml_RR_47 mc_RR_passes in_RR_passes rfl se_RR_passes (by omega) (ovX_c (o := 5) rfl) (c_RR_passesG hl h hn (β 4) hg2 t (skp (β 4) t q.2) h4 ht (skp_le _ hq2.1) 43 (by decide)) rfl rfl (Nat.le_of_ble_eq_true rfl) (Nat.le_of_ble_eq_true rfl) (Nat.le_of_ble_eq_true rfl) (Nat.le_of_ble_eq_true rfl) (jk_r ?_)
                refine j_if_ne (tgt := 51) C d_RR_readSum_46 (by decide) (fun c46 => ?_) (fun c46 => ?_)
                · rw [pp_y (pz_y c46)]
                  refine j_iinc (v := nI ((ps ++ [q.1]).length + 1)) C d_RR_readSum_51 rfl (by rw [len_snoc]; exact nI_inc _) (by decide) rfl ?_
                  refine j_goto (tgt := 5) C d_RR_readSum_54 (by decide) ?_
                  exact j_pick [0, 1, 2, 3, 4] rfl (ih 1 (skp (β 4) t (skp (β 4) t q.2) + 1) β2 (ps ++ [q.1]) 0 (by rw [len_snoc]; omega) (Or.inl rfl) rfl hB2 (hr_lt2 (pz_y c46) (by decide)) (by rw [← hv, csum_s hct, if_neg (by omega), if_neg hm45, if_pos (pz_y c46), Option.map_map]; congr 1; funext z; simp))
                · refine j_iconst (v := 1) C d_RR_readSum_49 (by decide) ?_
                  rw [pp_n (pz_n c46)]
                  have er : csum (β 4) t 4 1 a0 = some (ps ++ [q.1], skp (β 4) t (skp (β 4) t q.2)) := by
                    rw [← hv, csum_s hct, if_neg (by omega), if_neg hm45, if_neg (pz_n c46)]
                    rfl
                  rw [er] at hR
                  cases hR
                  exact j_zreturn C d_RR_readSum_50 rfl (by decide) (by decide) (by decide) ⟨rfl, rfl, β2, rfl, hB2⟩
          · exact absurd c18 (by decide)
  refine j_iconst (v := 0) C d_RR_readSum_0 (by decide) ?_
  refine j_istore_n C d_RR_readSum_1 rfl (by decide) rfl ?_
  refine j_iconst (v := 1) C d_RR_readSum_2 (by decide) ?_
  refine j_istore C d_RR_readSum_3 (by decide) rfl ?_
  exact j_pick [0, 1, 2, 3, 4] rfl (loop 3 1 a0 β [] 0 rfl (Or.inl rfl) rfl (Bst_nil hc) ha0 (by simp))

set_option maxHeartbeats 4000000 in
set_option maxRecDepth 100000 in
theorem c_RR_readSum_6_n {l : Launch} (hl : l.stackTraces = false) {D : va_G} {cA : Nat → ClassId} {b n : Nat} {xo : Nat} {ξ : Nat → Int32} {β : Nat → Nat → Int32} {ρ : Nat → Option Nat} {u v : Nat} (h : AH) (hn : xo + 28 ≤ n) (t a0 : Nat) (h4 : ξ 4 = nI t) (ht : t ≤ 300) (ha0 : a0 ≤ t) (s0 : Nat) (hs : s0 < 40) (hc : β 9 s0 = nI 0) (hR : csum (β 4) t 4 1 a0 = none) : Cn l D cA b y_RR_readSum k_RR_readSum 4 65 0 0 [.ref (xo + 5), .ref (xo + 6), .int (nI s0)] n (ovX xo (xq ξ a0) β ρ u v h) (Rp (some (.int 0)) n (fun h' => ∃ (a' : Nat) (β' : Nat → Nat → Int32), a' ≤ t ∧ h' = ovX xo (xq ξ a') β' ρ u v h ∧ Ab 6 β' β)) := by
  refine Cn.of (cc := b_RR_readSum) (maxL := 5) (ret := (some .boolean)) (hh := []) (by decide +kernel) hl (Or.inl ⟨rfl, rfl⟩) (Nat.le_of_ble_eq_true rfl) ?_
  intro p e s m args below meth c C
  have loop : ∀ (n9 : Nat) (how : Int32) (a : Nat) (β1 : Nat → Nat → Int32) (ps : List Tm) (mi : Int32), ps.length + n9 = 3 → (how = 1 ∨ how = 2) → mi = (if how = 2 then 1 else 0) → Bst 6 β s0 β1 ps → a ≤ t → (csum (β 4) t (n9 + 1) how a).map (fun q => (ps ++ q.1, q.2)) = csum (β 4) t 4 1 a0 → J p l e { frames := 4, cells := 0, slots := 0, locals := 65 } s m args below meth c D cA b 5 (EndQ D cA b s below (Rp (some (.int 0)) n (fun h' => ∃ (a' : Nat) (β' : Nat → Nat → Int32), a' ≤ t ∧ h' = ovX xo (xq ξ a') β' ρ u v h ∧ Ab 6 β' β)) 0 0) n (ovX xo (xq ξ a) β1 ρ u v h) 0 0 5 [(4, .int (nI (ps.length + 1))), (3, .int mi), (0, .ref (xo + 5)), (1, .ref (xo + 6)), (2, .int (nI s0))] [] := by
    intro n9
    induction n9 with
    | zero =>
      intro how a β1 ps mi hi hh hm hB ha hv
      refine j_iload C d_RR_readSum_5 rfl ?_
      refine j_iconst (v := 4) C d_RR_readSum_7 (by decide) ?_
      refine j_icmp_gt (tgt := 57) C d_RR_readSum_8 (by decide) (fun c8 => ?_) (fun c8 => ?_)
      · exact absurd (show nI 4 < nI (ps.length + 1) from c8) (fun z => absurd (nI_le (a := ps.length + 1) (b := 4) (by omega) (by omega)) (Int32.not_le.mpr z))
      · refine j_aload_n C d_RR_readSum_11 rfl rfl ?_
        refine j_aload_n C d_RR_readSum_12 rfl rfl ?_
        refine j_iload_n C d_RR_readSum_13 rfl rfl ?_
        refine j_iload_n C d_RR_readSum_14 rfl rfl ?_
        cases hct : ctm (β 4) t how a with
        | none =>
          refine j_callV C d_RR_readSum_15 ml_RR_55 mc_RR_readTerm in_RR_readTerm rfl se_RR_readTerm (by omega) (ovX_c (o := 5) rfl) (c_RR_readTermG_6_n hl h hn (β 4) (hB.1 4 (by omega)) t a h4 ht ha how s0 ps.length hs hB.2.2.2.1 (by omega) mi hct) rfl rfl (Nat.le_of_ble_eq_true rfl) (Nat.le_of_ble_eq_true rfl) (Nat.le_of_ble_eq_true rfl) (Nat.le_of_ble_eq_true rfl) (jk_r ?_)
          refine j_if_ne (tgt := 23) C d_RR_readSum_18 (by decide) (fun c18 => ?_) (fun c18 => ?_)
          · exact absurd rfl c18
          · refine j_iconst (v := 0) C d_RR_readSum_21 (by decide) ?_
            have er : csum (β 4) t 4 1 a0 = none := by
              rw [← hv, csum_n hct]
              rfl
            rw [er] at hR
            exact j_zreturn C d_RR_readSum_22 rfl (by decide) (by decide) (by decide) ⟨rfl, rfl, _, β1, ctp_le ha hct, rfl, hB.1⟩
        | some q =>
          refine j_callV C d_RR_readSum_15 ml_RR_55 mc_RR_readTerm in_RR_readTerm rfl se_RR_readTerm (by omega) (ovX_c (o := 5) rfl) (c_RR_readTermG_6_s hl h hn (β 4) (hB.1 4 (by omega)) t a h4 ht ha how s0 ps.length hs hB.2.2.2.1 (by omega) mi q.1 q.2 hct) rfl rfl (Nat.le_of_ble_eq_true rfl) (Nat.le_of_ble_eq_true rfl) (Nat.le_of_ble_eq_true rfl) (Nat.le_of_ble_eq_true rfl) (jk_r ?_)
          have hq2 := ctm_le ha hct
          have hB2 := Bst_snoc (m := mi) hB (ctm_tok hh hct) (by rw [hq2.2]; exact hm)
          generalize hb2 : adT 6 β1 s0 ps.length q.1.2.1 (q.1.2.2.getD 1) mi = β2 at hB2 ⊢
          have hg2 : β2 4 = β 4 := hB2.1 4 (by omega)
          refine j_if_ne (tgt := 23) C d_RR_readSum_18 (by decide) (fun c18 => ?_) (fun c18 => ?_)
          · refine j_iload C d_RR_readSum_23 rfl ?_
            refine j_iconst (v := 4) C d_RR_readSum_25 (by decide) ?_
            refine j_icmp_ge (tgt := 51) C d_RR_readSum_26 (by decide) (fun c26 => ?_) (fun c26 => ?_)
            · refine j_iinc (v := nI ((ps ++ [q.1]).length + 1)) C d_RR_readSum_51 rfl (by rw [len_snoc]; exact nI_inc _) (by decide) rfl ?_
              refine j_goto (tgt := 5) C d_RR_readSum_54 (by decide) ?_
              refine j_iload C d_RR_readSum_5 rfl ?_
              refine j_iconst (v := 4) C d_RR_readSum_7 (by decide) ?_
              refine j_icmp_gt (tgt := 57) C d_RR_readSum_8 (by decide) (fun c8 => ?_) (fun c8 => ?_)
              · refine j_iconst (v := 1) C d_RR_readSum_57 (by decide) ?_
                have er : csum (β 4) t 4 1 a0 = some (ps ++ [q.1], q.2) := by
                  rw [← hv, csum_s hct, if_pos rfl]
                  rfl
                rw [er] at hR
                cases hR
              · exact absurd (show nI 4 < nI ((ps ++ [q.1]).length + 1) from nI_lt (by rw [len_snoc]; omega) (by rw [len_snoc]; omega)) c8
            · exact absurd (show nI 4 ≤ nI (ps.length + 1) from nI_le (by omega) (by omega)) c26
          · exact absurd c18 (by decide)
    | succ n9 ih =>
      intro how a β1 ps mi hi hh hm hB ha hv
      refine j_iload C d_RR_readSum_5 rfl ?_
      refine j_iconst (v := 4) C d_RR_readSum_7 (by decide) ?_
      refine j_icmp_gt (tgt := 57) C d_RR_readSum_8 (by decide) (fun c8 => ?_) (fun c8 => ?_)
      · exact absurd (show nI 4 < nI (ps.length + 1) from c8) (fun z => absurd (nI_le (a := ps.length + 1) (b := 4) (by omega) (by omega)) (Int32.not_le.mpr z))
      · refine j_aload_n C d_RR_readSum_11 rfl rfl ?_
        refine j_aload_n C d_RR_readSum_12 rfl rfl ?_
        refine j_iload_n C d_RR_readSum_13 rfl rfl ?_
        refine j_iload_n C d_RR_readSum_14 rfl rfl ?_
        cases hct : ctm (β 4) t how a with
        | none =>
          refine j_callV C d_RR_readSum_15 ml_RR_55 mc_RR_readTerm in_RR_readTerm rfl se_RR_readTerm (by omega) (ovX_c (o := 5) rfl) (c_RR_readTermG_6_n hl h hn (β 4) (hB.1 4 (by omega)) t a h4 ht ha how s0 ps.length hs hB.2.2.2.1 (by omega) mi hct) rfl rfl (Nat.le_of_ble_eq_true rfl) (Nat.le_of_ble_eq_true rfl) (Nat.le_of_ble_eq_true rfl) (Nat.le_of_ble_eq_true rfl) (jk_r ?_)
          refine j_if_ne (tgt := 23) C d_RR_readSum_18 (by decide) (fun c18 => ?_) (fun c18 => ?_)
          · exact absurd rfl c18
          · refine j_iconst (v := 0) C d_RR_readSum_21 (by decide) ?_
            have er : csum (β 4) t 4 1 a0 = none := by
              rw [← hv, csum_n hct]
              rfl
            rw [er] at hR
            exact j_zreturn C d_RR_readSum_22 rfl (by decide) (by decide) (by decide) ⟨rfl, rfl, _, β1, ctp_le ha hct, rfl, hB.1⟩
        | some q =>
          refine j_callV C d_RR_readSum_15 ml_RR_55 mc_RR_readTerm in_RR_readTerm rfl se_RR_readTerm (by omega) (ovX_c (o := 5) rfl) (c_RR_readTermG_6_s hl h hn (β 4) (hB.1 4 (by omega)) t a h4 ht ha how s0 ps.length hs hB.2.2.2.1 (by omega) mi q.1 q.2 hct) rfl rfl (Nat.le_of_ble_eq_true rfl) (Nat.le_of_ble_eq_true rfl) (Nat.le_of_ble_eq_true rfl) (Nat.le_of_ble_eq_true rfl) (jk_r ?_)
          have hq2 := ctm_le ha hct
          have hB2 := Bst_snoc (m := mi) hB (ctm_tok hh hct) (by rw [hq2.2]; exact hm)
          generalize hb2 : adT 6 β1 s0 ps.length q.1.2.1 (q.1.2.2.getD 1) mi = β2 at hB2 ⊢
          have hg2 : β2 4 = β 4 := hB2.1 4 (by omega)
          refine j_if_ne (tgt := 23) C d_RR_readSum_18 (by decide) (fun c18 => ?_) (fun c18 => ?_)
          · refine j_iload C d_RR_readSum_23 rfl ?_
            refine j_iconst (v := 4) C d_RR_readSum_25 (by decide) ?_
            refine j_icmp_ge (tgt := 51) C d_RR_readSum_26 (by decide) (fun c26 => ?_) (fun c26 => ?_)
            · exact absurd (show nI 4 ≤ nI (ps.length + 1) from c26) (nI_ge (by omega) (by omega))
            · refine j_aload_n C d_RR_readSum_29 rfl rfl ?_
              refine j_bipush (v := 45) C d_RR_readSum_30 (by decide) ?_
              refine j_callV C d_RR_readSum_32 ml_RR_47 mc_RR_passes in_RR_passes rfl se_RR_passes (by omega) (ovX_c (o := 5) rfl) (c_RR_passesG hl h hn (β 4) hg2 t q.2 h4 ht hq2.1 45 (by decide)) rfl rfl (Nat.le_of_ble_eq_true rfl) (Nat.le_of_ble_eq_true rfl) (Nat.le_of_ble_eq_true rfl) (Nat.le_of_ble_eq_true rfl) (jk_r ?_)
              refine j_istore_n C d_RR_readSum_35 rfl (by decide) rfl ?_
              refine j_iload_n C d_RR_readSum_36 rfl rfl ?_
              refine j_if_ne (tgt := 51) C d_RR_readSum_37 (by decide) (fun c37 => ?_) (fun c37 => ?_)
              · rw [pz_1 c37, pp_y (pz_y c37)]
                refine j_iinc (v := nI ((ps ++ [q.1]).length + 1)) C d_RR_readSum_51 rfl (by rw [len_snoc]; exact nI_inc _) (by decide) rfl ?_
                refine j_goto (tgt := 5) C d_RR_readSum_54 (by decide) ?_
                exact j_pick [0, 1, 2, 3, 4] rfl (ih 2 (skp (β 4) t q.2 + 1) β2 (ps ++ [q.1]) 1 (by rw [len_snoc]; omega) (Or.inr rfl) rfl hB2 (hr_lt2 (pz_y c37) (by decide)) (by rw [← hv, csum_s hct, if_neg (by omega), if_pos (pz_y c37), Option.map_map]; congr 1; funext z; simp))
              · have hm45 := pz_n c37
                rw [c37, pp_n hm45]
                refine j_aload_n C d_RR_readSum_40 rfl rfl ?_
                refine j_bipush (v := 43) C d_RR_readSum_41 (by decide) ?_
                refine j_callV C d_RR_readSum_43 ml_RR_47 mc_RR_passes in_RR_passes rfl se_RR_passes (by omega) (ovX_c (o := 5) rfl) (c_RR_passesG hl h hn (β 4) hg2 t (skp (β 4) t q.2) h4 ht (skp_le _ hq2.1) 43 (by decide)) rfl rfl (Nat.le_of_ble_eq_true rfl) (Nat.le_of_ble_eq_true rfl) (Nat.le_of_ble_eq_true rfl) (Nat.le_of_ble_eq_true rfl) (jk_r ?_)
                refine j_if_ne (tgt := 51) C d_RR_readSum_46 (by decide) (fun c46 => ?_) (fun c46 => ?_)
                · rw [pp_y (pz_y c46)]
                  refine j_iinc (v := nI ((ps ++ [q.1]).length + 1)) C d_RR_readSum_51 rfl (by rw [len_snoc]; exact nI_inc _) (by decide) rfl ?_
                  refine j_goto (tgt := 5) C d_RR_readSum_54 (by decide) ?_
                  exact j_pick [0, 1, 2, 3, 4] rfl (ih 1 (skp (β 4) t (skp (β 4) t q.2) + 1) β2 (ps ++ [q.1]) 0 (by rw [len_snoc]; omega) (Or.inl rfl) rfl hB2 (hr_lt2 (pz_y c46) (by decide)) (by rw [← hv, csum_s hct, if_neg (by omega), if_neg hm45, if_pos (pz_y c46), Option.map_map]; congr 1; funext z; simp))
                · refine j_iconst (v := 1) C d_RR_readSum_49 (by decide) ?_
                  rw [pp_n (pz_n c46)]
                  have er : csum (β 4) t 4 1 a0 = some (ps ++ [q.1], skp (β 4) t (skp (β 4) t q.2)) := by
                    rw [← hv, csum_s hct, if_neg (by omega), if_neg hm45, if_neg (pz_n c46)]
                    rfl
                  rw [er] at hR
                  cases hR
          · exact absurd c18 (by decide)
  refine j_iconst (v := 0) C d_RR_readSum_0 (by decide) ?_
  refine j_istore_n C d_RR_readSum_1 rfl (by decide) rfl ?_
  refine j_iconst (v := 1) C d_RR_readSum_2 (by decide) ?_
  refine j_istore C d_RR_readSum_3 (by decide) rfl ?_
  exact j_pick [0, 1, 2, 3, 4] rfl (loop 3 1 a0 β [] 0 rfl (Or.inl rfl) rfl (Bst_nil hc) ha0 (by simp))

theorem c_RR_readTermG_13_s {l : Launch} (hl : l.stackTraces = false) {D : va_G} {cA : Nat → ClassId} {b n : Nat} {xo : Nat} {ξ : Nat → Int32} {β : Nat → Nat → Int32} {ρ : Nat → Option Nat} {u v : Nat} (h : AH) (hn : xo + 28 ≤ n) (g : Nat → Int32) (hg : β 4 = g) (t a0 : Nat) (h4 : ξ 4 = nI t) (ht : t ≤ 300) (ha0 : a0 ≤ t) (how : Int32) (s0 c0 : Nat) (hs : s0 < 40) (hc : β 16 s0 = nI c0) (hc4 : c0 < 4) (m0 : Int32) (tm : Int32 × Int32 × Option Int32) (P : Nat) (hS : ctm g t how a0 = some (tm, P)) : Cn l D cA b y_RR_readTerm k_RR_readTerm 3 48 0 0 [.ref (xo + 5), .ref (xo + 13), .int (nI s0), .int m0] n (ovX xo (xq ξ a0) β ρ u v h) (Re (some (.int 1)) n (ovX xo (xq ξ P) (adT 13 β s0 c0 tm.2.1 (tm.2.2.getD 1) m0) ρ u v h)) := by
  subst hg
  exact c_RR_readTerm_13_s hl h hn t a0 h4 ht ha0 how s0 c0 hs hc hc4 m0 tm P hS
theorem c_RR_readTermG_13_n {l : Launch} (hl : l.stackTraces = false) {D : va_G} {cA : Nat → ClassId} {b n : Nat} {xo : Nat} {ξ : Nat → Int32} {β : Nat → Nat → Int32} {ρ : Nat → Option Nat} {u v : Nat} (h : AH) (hn : xo + 28 ≤ n) (g : Nat → Int32) (hg : β 4 = g) (t a0 : Nat) (h4 : ξ 4 = nI t) (ht : t ≤ 300) (ha0 : a0 ≤ t) (how : Int32) (s0 c0 : Nat) (hs : s0 < 40) (hc : β 16 s0 = nI c0) (hc4 : c0 < 4) (m0 : Int32) (hS : ctm g t how a0 = none) : Cn l D cA b y_RR_readTerm k_RR_readTerm 3 48 0 0 [.ref (xo + 5), .ref (xo + 13), .int (nI s0), .int m0] n (ovX xo (xq ξ a0) β ρ u v h) (Re (some (.int 0)) n (ovX xo (xq ξ (ctp g t a0)) β ρ u v h)) := by
  subst hg
  exact c_RR_readTerm_13_n hl h hn t a0 h4 ht ha0 how s0 c0 hs hc hc4 m0 hS
set_option maxHeartbeats 4000000 in
set_option maxRecDepth 100000 in
theorem c_RR_readSum_13_s {l : Launch} (hl : l.stackTraces = false) {D : va_G} {cA : Nat → ClassId} {b n : Nat} {xo : Nat} {ξ : Nat → Int32} {β : Nat → Nat → Int32} {ρ : Nat → Option Nat} {u v : Nat} (h : AH) (hn : xo + 28 ≤ n) (t a0 : Nat) (h4 : ξ 4 = nI t) (ht : t ≤ 300) (ha0 : a0 ≤ t) (s0 : Nat) (hs : s0 < 40) (hc : β 16 s0 = nI 0) (q0 : List Tm × Nat) (hR : csum (β 4) t 4 1 a0 = some q0) : Cn l D cA b y_RR_readSum k_RR_readSum 4 65 0 0 [.ref (xo + 5), .ref (xo + 13), .int (nI s0)] n (ovX xo (xq ξ a0) β ρ u v h) (Rp (some (.int 1)) n (fun h' => ∃ β' : Nat → Nat → Int32, h' = ovX xo (xq ξ q0.2) β' ρ u v h ∧ Bst 13 β s0 β' q0.1)) := by
  refine Cn.of (cc := b_RR_readSum) (maxL := 5) (ret := (some .boolean)) (hh := []) (by decide +kernel) hl (Or.inl ⟨rfl, rfl⟩) (Nat.le_of_ble_eq_true rfl) ?_
  intro p e s m args below meth c C
  have loop : ∀ (n9 : Nat) (how : Int32) (a : Nat) (β1 : Nat → Nat → Int32) (ps : List Tm) (mi : Int32), ps.length + n9 = 3 → (how = 1 ∨ how = 2) → mi = (if how = 2 then 1 else 0) → Bst 13 β s0 β1 ps → a ≤ t → (csum (β 4) t (n9 + 1) how a).map (fun q => (ps ++ q.1, q.2)) = csum (β 4) t 4 1 a0 → J p l e { frames := 4, cells := 0, slots := 0, locals := 65 } s m args below meth c D cA b 5 (EndQ D cA b s below (Rp (some (.int 1)) n (fun h' => ∃ β' : Nat → Nat → Int32, h' = ovX xo (xq ξ q0.2) β' ρ u v h ∧ Bst 13 β s0 β' q0.1)) 0 0) n (ovX xo (xq ξ a) β1 ρ u v h) 0 0 5 [(4, .int (nI (ps.length + 1))), (3, .int mi), (0, .ref (xo + 5)), (1, .ref (xo + 13)), (2, .int (nI s0))] [] := by
    intro n9
    induction n9 with
    | zero =>
      intro how a β1 ps mi hi hh hm hB ha hv
      refine j_iload C d_RR_readSum_5 rfl ?_
      refine j_iconst (v := 4) C d_RR_readSum_7 (by decide) ?_
      refine j_icmp_gt (tgt := 57) C d_RR_readSum_8 (by decide) (fun c8 => ?_) (fun c8 => ?_)
      · exact absurd (show nI 4 < nI (ps.length + 1) from c8) (fun z => absurd (nI_le (a := ps.length + 1) (b := 4) (by omega) (by omega)) (Int32.not_le.mpr z))
      · refine j_aload_n C d_RR_readSum_11 rfl rfl ?_
        refine j_aload_n C d_RR_readSum_12 rfl rfl ?_
        refine j_iload_n C d_RR_readSum_13 rfl rfl ?_
        refine j_iload_n C d_RR_readSum_14 rfl rfl ?_
        cases hct : ctm (β 4) t how a with
        | none =>
          refine j_callV C d_RR_readSum_15 ml_RR_55 mc_RR_readTerm in_RR_readTerm rfl se_RR_readTerm (by omega) (ovX_c (o := 5) rfl) (c_RR_readTermG_13_n hl h hn (β 4) (hB.1 4 (by omega)) t a h4 ht ha how s0 ps.length hs hB.2.2.2.1 (by omega) mi hct) rfl rfl (Nat.le_of_ble_eq_true rfl) (Nat.le_of_ble_eq_true rfl) (Nat.le_of_ble_eq_true rfl) (Nat.le_of_ble_eq_true rfl) (jk_r ?_)
          refine j_if_ne (tgt := 23) C d_RR_readSum_18 (by decide) (fun c18 => ?_) (fun c18 => ?_)
          · exact absurd rfl c18
          · refine j_iconst (v := 0) C d_RR_readSum_21 (by decide) ?_
            have er : csum (β 4) t 4 1 a0 = none := by
              rw [← hv, csum_n hct]
              rfl
            rw [er] at hR
            cases hR
        | some q =>
          refine j_callV C d_RR_readSum_15 ml_RR_55 mc_RR_readTerm in_RR_readTerm rfl se_RR_readTerm (by omega) (ovX_c (o := 5) rfl) (c_RR_readTermG_13_s hl h hn (β 4) (hB.1 4 (by omega)) t a h4 ht ha how s0 ps.length hs hB.2.2.2.1 (by omega) mi q.1 q.2 hct) rfl rfl (Nat.le_of_ble_eq_true rfl) (Nat.le_of_ble_eq_true rfl) (Nat.le_of_ble_eq_true rfl) (Nat.le_of_ble_eq_true rfl) (jk_r ?_)
          have hq2 := ctm_le ha hct
          have hB2 := Bst_snoc (m := mi) hB (ctm_tok hh hct) (by rw [hq2.2]; exact hm)
          generalize hb2 : adT 13 β1 s0 ps.length q.1.2.1 (q.1.2.2.getD 1) mi = β2 at hB2 ⊢
          have hg2 : β2 4 = β 4 := hB2.1 4 (by omega)
          refine j_if_ne (tgt := 23) C d_RR_readSum_18 (by decide) (fun c18 => ?_) (fun c18 => ?_)
          · refine j_iload C d_RR_readSum_23 rfl ?_
            refine j_iconst (v := 4) C d_RR_readSum_25 (by decide) ?_
            refine j_icmp_ge (tgt := 51) C d_RR_readSum_26 (by decide) (fun c26 => ?_) (fun c26 => ?_)
            · refine j_iinc (v := nI ((ps ++ [q.1]).length + 1)) C d_RR_readSum_51 rfl (by rw [len_snoc]; exact nI_inc _) (by decide) rfl ?_
              refine j_goto (tgt := 5) C d_RR_readSum_54 (by decide) ?_
              refine j_iload C d_RR_readSum_5 rfl ?_
              refine j_iconst (v := 4) C d_RR_readSum_7 (by decide) ?_
              refine j_icmp_gt (tgt := 57) C d_RR_readSum_8 (by decide) (fun c8 => ?_) (fun c8 => ?_)
              · refine j_iconst (v := 1) C d_RR_readSum_57 (by decide) ?_
                have er : csum (β 4) t 4 1 a0 = some (ps ++ [q.1], q.2) := by
                  rw [← hv, csum_s hct, if_pos rfl]
                  rfl
                rw [er] at hR
                cases hR
                exact j_zreturn C d_RR_readSum_58 rfl (by decide) (by decide) (by decide) ⟨rfl, rfl, β2, rfl, hB2⟩
              · exact absurd (show nI 4 < nI ((ps ++ [q.1]).length + 1) from nI_lt (by rw [len_snoc]; omega) (by rw [len_snoc]; omega)) c8
            · exact absurd (show nI 4 ≤ nI (ps.length + 1) from nI_le (by omega) (by omega)) c26
          · exact absurd c18 (by decide)
    | succ n9 ih =>
      intro how a β1 ps mi hi hh hm hB ha hv
      refine j_iload C d_RR_readSum_5 rfl ?_
      refine j_iconst (v := 4) C d_RR_readSum_7 (by decide) ?_
      refine j_icmp_gt (tgt := 57) C d_RR_readSum_8 (by decide) (fun c8 => ?_) (fun c8 => ?_)
      · exact absurd (show nI 4 < nI (ps.length + 1) from c8) (fun z => absurd (nI_le (a := ps.length + 1) (b := 4) (by omega) (by omega)) (Int32.not_le.mpr z))
      · refine j_aload_n C d_RR_readSum_11 rfl rfl ?_
        refine j_aload_n C d_RR_readSum_12 rfl rfl ?_
        refine j_iload_n C d_RR_readSum_13 rfl rfl ?_
        refine j_iload_n C d_RR_readSum_14 rfl rfl ?_
        cases hct : ctm (β 4) t how a with
        | none =>
          refine j_callV C d_RR_readSum_15 ml_RR_55 mc_RR_readTerm in_RR_readTerm rfl se_RR_readTerm (by omega) (ovX_c (o := 5) rfl) (c_RR_readTermG_13_n hl h hn (β 4) (hB.1 4 (by omega)) t a h4 ht ha how s0 ps.length hs hB.2.2.2.1 (by omega) mi hct) rfl rfl (Nat.le_of_ble_eq_true rfl) (Nat.le_of_ble_eq_true rfl) (Nat.le_of_ble_eq_true rfl) (Nat.le_of_ble_eq_true rfl) (jk_r ?_)
          refine j_if_ne (tgt := 23) C d_RR_readSum_18 (by decide) (fun c18 => ?_) (fun c18 => ?_)
          · exact absurd rfl c18
          · refine j_iconst (v := 0) C d_RR_readSum_21 (by decide) ?_
            have er : csum (β 4) t 4 1 a0 = none := by
              rw [← hv, csum_n hct]
              rfl
            rw [er] at hR
            cases hR
        | some q =>
          refine j_callV C d_RR_readSum_15 ml_RR_55 mc_RR_readTerm in_RR_readTerm rfl se_RR_readTerm (by omega) (ovX_c (o := 5) rfl) (c_RR_readTermG_13_s hl h hn (β 4) (hB.1 4 (by omega)) t a h4 ht ha how s0 ps.length hs hB.2.2.2.1 (by omega) mi q.1 q.2 hct) rfl rfl (Nat.le_of_ble_eq_true rfl) (Nat.le_of_ble_eq_true rfl) (Nat.le_of_ble_eq_true rfl) (Nat.le_of_ble_eq_true rfl) (jk_r ?_)
          have hq2 := ctm_le ha hct
          have hB2 := Bst_snoc (m := mi) hB (ctm_tok hh hct) (by rw [hq2.2]; exact hm)
          generalize hb2 : adT 13 β1 s0 ps.length q.1.2.1 (q.1.2.2.getD 1) mi = β2 at hB2 ⊢
          have hg2 : β2 4 = β 4 := hB2.1 4 (by omega)
          refine j_if_ne (tgt := 23) C d_RR_readSum_18 (by decide) (fun c18 => ?_) (fun c18 => ?_)
          · refine j_iload C d_RR_readSum_23 rfl ?_
            refine j_iconst (v := 4) C d_RR_readSum_25 (by decide) ?_
            refine j_icmp_ge (tgt := 51) C d_RR_readSum_26 (by decide) (fun c26 => ?_) (fun c26 => ?_)
            · exact absurd (show nI 4 ≤ nI (ps.length + 1) from c26) (nI_ge (by omega) (by omega))
            · refine j_aload_n C d_RR_readSum_29 rfl rfl ?_
              refine j_bipush (v := 45) C d_RR_readSum_30 (by decide) ?_
              refine j_callV C d_RR_readSum_32 ml_RR_47 mc_RR_passes in_RR_passes rfl se_RR_passes (by omega) (ovX_c (o := 5) rfl) (c_RR_passesG hl h hn (β 4) hg2 t q.2 h4 ht hq2.1 45 (by decide)) rfl rfl (Nat.le_of_ble_eq_true rfl) (Nat.le_of_ble_eq_true rfl) (Nat.le_of_ble_eq_true rfl) (Nat.le_of_ble_eq_true rfl) (jk_r ?_)
              refine j_istore_n C d_RR_readSum_35 rfl (by decide) rfl ?_
              refine j_iload_n C d_RR_readSum_36 rfl rfl ?_
              refine j_if_ne (tgt := 51) C d_RR_readSum_37 (by decide) (fun c37 => ?_) (fun c37 => ?_)
              · rw [pz_1 c37, pp_y (pz_y c37)]
                refine j_iinc (v := nI ((ps ++ [q.1]).length + 1)) C d_RR_readSum_51 rfl (by rw [len_snoc]; exact nI_inc _) (by decide) rfl ?_
                refine j_goto (tgt := 5) C d_RR_readSum_54 (by decide) ?_
                exact j_pick [0, 1, 2, 3, 4] rfl (ih 2 (skp (β 4) t q.2 + 1) β2 (ps ++ [q.1]) 1 (by rw [len_snoc]; omega) (Or.inr rfl) rfl hB2 (hr_lt2 (pz_y c37) (by decide)) (by rw [← hv, csum_s hct, if_neg (by omega), if_pos (pz_y c37), Option.map_map]; congr 1; funext z; simp))
              · have hm45 := pz_n c37
                rw [c37, pp_n hm45]
                refine j_aload_n C d_RR_readSum_40 rfl rfl ?_
                refine j_bipush (v := 43) C d_RR_readSum_41 (by decide) ?_
                refine j_callV C d_RR_readSum_43 ml_RR_47 mc_RR_passes in_RR_passes rfl se_RR_passes (by omega) (ovX_c (o := 5) rfl) (c_RR_passesG hl h hn (β 4) hg2 t (skp (β 4) t q.2) h4 ht (skp_le _ hq2.1) 43 (by decide)) rfl rfl (Nat.le_of_ble_eq_true rfl) (Nat.le_of_ble_eq_true rfl) (Nat.le_of_ble_eq_true rfl) (Nat.le_of_ble_eq_true rfl) (jk_r ?_)
                refine j_if_ne (tgt := 51) C d_RR_readSum_46 (by decide) (fun c46 => ?_) (fun c46 => ?_)
                · rw [pp_y (pz_y c46)]
                  refine j_iinc (v := nI ((ps ++ [q.1]).length + 1)) C d_RR_readSum_51 rfl (by rw [len_snoc]; exact nI_inc _) (by decide) rfl ?_
                  refine j_goto (tgt := 5) C d_RR_readSum_54 (by decide) ?_
                  exact j_pick [0, 1, 2, 3, 4] rfl (ih 1 (skp (β 4) t (skp (β 4) t q.2) + 1) β2 (ps ++ [q.1]) 0 (by rw [len_snoc]; omega) (Or.inl rfl) rfl hB2 (hr_lt2 (pz_y c46) (by decide)) (by rw [← hv, csum_s hct, if_neg (by omega), if_neg hm45, if_pos (pz_y c46), Option.map_map]; congr 1; funext z; simp))
                · refine j_iconst (v := 1) C d_RR_readSum_49 (by decide) ?_
                  rw [pp_n (pz_n c46)]
                  have er : csum (β 4) t 4 1 a0 = some (ps ++ [q.1], skp (β 4) t (skp (β 4) t q.2)) := by
                    rw [← hv, csum_s hct, if_neg (by omega), if_neg hm45, if_neg (pz_n c46)]
                    rfl
                  rw [er] at hR
                  cases hR
                  exact j_zreturn C d_RR_readSum_50 rfl (by decide) (by decide) (by decide) ⟨rfl, rfl, β2, rfl, hB2⟩
          · exact absurd c18 (by decide)
  refine j_iconst (v := 0) C d_RR_readSum_0 (by decide) ?_
  refine j_istore_n C d_RR_readSum_1 rfl (by decide) rfl ?_
  refine j_iconst (v := 1) C d_RR_readSum_2 (by decide) ?_
  refine j_istore C d_RR_readSum_3 (by decide) rfl ?_
  exact j_pick [0, 1, 2, 3, 4] rfl (loop 3 1 a0 β [] 0 rfl (Or.inl rfl) rfl (Bst_nil hc) ha0 (by simp))

set_option maxHeartbeats 4000000 in
set_option maxRecDepth 100000 in
theorem c_RR_readSum_13_n {l : Launch} (hl : l.stackTraces = false) {D : va_G} {cA : Nat → ClassId} {b n : Nat} {xo : Nat} {ξ : Nat → Int32} {β : Nat → Nat → Int32} {ρ : Nat → Option Nat} {u v : Nat} (h : AH) (hn : xo + 28 ≤ n) (t a0 : Nat) (h4 : ξ 4 = nI t) (ht : t ≤ 300) (ha0 : a0 ≤ t) (s0 : Nat) (hs : s0 < 40) (hc : β 16 s0 = nI 0) (hR : csum (β 4) t 4 1 a0 = none) : Cn l D cA b y_RR_readSum k_RR_readSum 4 65 0 0 [.ref (xo + 5), .ref (xo + 13), .int (nI s0)] n (ovX xo (xq ξ a0) β ρ u v h) (Rp (some (.int 0)) n (fun h' => ∃ (a' : Nat) (β' : Nat → Nat → Int32), a' ≤ t ∧ h' = ovX xo (xq ξ a') β' ρ u v h ∧ Ab 13 β' β)) := by
  refine Cn.of (cc := b_RR_readSum) (maxL := 5) (ret := (some .boolean)) (hh := []) (by decide +kernel) hl (Or.inl ⟨rfl, rfl⟩) (Nat.le_of_ble_eq_true rfl) ?_
  intro p e s m args below meth c C
  have loop : ∀ (n9 : Nat) (how : Int32) (a : Nat) (β1 : Nat → Nat → Int32) (ps : List Tm) (mi : Int32), ps.length + n9 = 3 → (how = 1 ∨ how = 2) → mi = (if how = 2 then 1 else 0) → Bst 13 β s0 β1 ps → a ≤ t → (csum (β 4) t (n9 + 1) how a).map (fun q => (ps ++ q.1, q.2)) = csum (β 4) t 4 1 a0 → J p l e { frames := 4, cells := 0, slots := 0, locals := 65 } s m args below meth c D cA b 5 (EndQ D cA b s below (Rp (some (.int 0)) n (fun h' => ∃ (a' : Nat) (β' : Nat → Nat → Int32), a' ≤ t ∧ h' = ovX xo (xq ξ a') β' ρ u v h ∧ Ab 13 β' β)) 0 0) n (ovX xo (xq ξ a) β1 ρ u v h) 0 0 5 [(4, .int (nI (ps.length + 1))), (3, .int mi), (0, .ref (xo + 5)), (1, .ref (xo + 13)), (2, .int (nI s0))] [] := by
    intro n9
    induction n9 with
    | zero =>
      intro how a β1 ps mi hi hh hm hB ha hv
      refine j_iload C d_RR_readSum_5 rfl ?_
      refine j_iconst (v := 4) C d_RR_readSum_7 (by decide) ?_
      refine j_icmp_gt (tgt := 57) C d_RR_readSum_8 (by decide) (fun c8 => ?_) (fun c8 => ?_)
      · exact absurd (show nI 4 < nI (ps.length + 1) from c8) (fun z => absurd (nI_le (a := ps.length + 1) (b := 4) (by omega) (by omega)) (Int32.not_le.mpr z))
      · refine j_aload_n C d_RR_readSum_11 rfl rfl ?_
        refine j_aload_n C d_RR_readSum_12 rfl rfl ?_
        refine j_iload_n C d_RR_readSum_13 rfl rfl ?_
        refine j_iload_n C d_RR_readSum_14 rfl rfl ?_
        cases hct : ctm (β 4) t how a with
        | none =>
          refine j_callV C d_RR_readSum_15 ml_RR_55 mc_RR_readTerm in_RR_readTerm rfl se_RR_readTerm (by omega) (ovX_c (o := 5) rfl) (c_RR_readTermG_13_n hl h hn (β 4) (hB.1 4 (by omega)) t a h4 ht ha how s0 ps.length hs hB.2.2.2.1 (by omega) mi hct) rfl rfl (Nat.le_of_ble_eq_true rfl) (Nat.le_of_ble_eq_true rfl) (Nat.le_of_ble_eq_true rfl) (Nat.le_of_ble_eq_true rfl) (jk_r ?_)
          refine j_if_ne (tgt := 23) C d_RR_readSum_18 (by decide) (fun c18 => ?_) (fun c18 => ?_)
          · exact absurd rfl c18
          · refine j_iconst (v := 0) C d_RR_readSum_21 (by decide) ?_
            have er : csum (β 4) t 4 1 a0 = none := by
              rw [← hv, csum_n hct]
              rfl
            rw [er] at hR
            exact j_zreturn C d_RR_readSum_22 rfl (by decide) (by decide) (by decide) ⟨rfl, rfl, _, β1, ctp_le ha hct, rfl, hB.1⟩
        | some q =>
          refine j_callV C d_RR_readSum_15 ml_RR_55 mc_RR_readTerm in_RR_readTerm rfl se_RR_readTerm (by omega) (ovX_c (o := 5) rfl) (c_RR_readTermG_13_s hl h hn (β 4) (hB.1 4 (by omega)) t a h4 ht ha how s0 ps.length hs hB.2.2.2.1 (by omega) mi q.1 q.2 hct) rfl rfl (Nat.le_of_ble_eq_true rfl) (Nat.le_of_ble_eq_true rfl) (Nat.le_of_ble_eq_true rfl) (Nat.le_of_ble_eq_true rfl) (jk_r ?_)
          have hq2 := ctm_le ha hct
          have hB2 := Bst_snoc (m := mi) hB (ctm_tok hh hct) (by rw [hq2.2]; exact hm)
          generalize hb2 : adT 13 β1 s0 ps.length q.1.2.1 (q.1.2.2.getD 1) mi = β2 at hB2 ⊢
          have hg2 : β2 4 = β 4 := hB2.1 4 (by omega)
          refine j_if_ne (tgt := 23) C d_RR_readSum_18 (by decide) (fun c18 => ?_) (fun c18 => ?_)
          · refine j_iload C d_RR_readSum_23 rfl ?_
            refine j_iconst (v := 4) C d_RR_readSum_25 (by decide) ?_
            refine j_icmp_ge (tgt := 51) C d_RR_readSum_26 (by decide) (fun c26 => ?_) (fun c26 => ?_)
            · refine j_iinc (v := nI ((ps ++ [q.1]).length + 1)) C d_RR_readSum_51 rfl (by rw [len_snoc]; exact nI_inc _) (by decide) rfl ?_
              refine j_goto (tgt := 5) C d_RR_readSum_54 (by decide) ?_
              refine j_iload C d_RR_readSum_5 rfl ?_
              refine j_iconst (v := 4) C d_RR_readSum_7 (by decide) ?_
              refine j_icmp_gt (tgt := 57) C d_RR_readSum_8 (by decide) (fun c8 => ?_) (fun c8 => ?_)
              · refine j_iconst (v := 1) C d_RR_readSum_57 (by decide) ?_
                have er : csum (β 4) t 4 1 a0 = some (ps ++ [q.1], q.2) := by
                  rw [← hv, csum_s hct, if_pos rfl]
                  rfl
                rw [er] at hR
                cases hR
              · exact absurd (show nI 4 < nI ((ps ++ [q.1]).length + 1) from nI_lt (by rw [len_snoc]; omega) (by rw [len_snoc]; omega)) c8
            · exact absurd (show nI 4 ≤ nI (ps.length + 1) from nI_le (by omega) (by omega)) c26
          · exact absurd c18 (by decide)
    | succ n9 ih =>
      intro how a β1 ps mi hi hh hm hB ha hv
      refine j_iload C d_RR_readSum_5 rfl ?_
      refine j_iconst (v := 4) C d_RR_readSum_7 (by decide) ?_
      refine j_icmp_gt (tgt := 57) C d_RR_readSum_8 (by decide) (fun c8 => ?_) (fun c8 => ?_)
      · exact absurd (show nI 4 < nI (ps.length + 1) from c8) (fun z => absurd (nI_le (a := ps.length + 1) (b := 4) (by omega) (by omega)) (Int32.not_le.mpr z))
      · refine j_aload_n C d_RR_readSum_11 rfl rfl ?_
        refine j_aload_n C d_RR_readSum_12 rfl rfl ?_
        refine j_iload_n C d_RR_readSum_13 rfl rfl ?_
        refine j_iload_n C d_RR_readSum_14 rfl rfl ?_
        cases hct : ctm (β 4) t how a with
        | none =>
          refine j_callV C d_RR_readSum_15 ml_RR_55 mc_RR_readTerm in_RR_readTerm rfl se_RR_readTerm (by omega) (ovX_c (o := 5) rfl) (c_RR_readTermG_13_n hl h hn (β 4) (hB.1 4 (by omega)) t a h4 ht ha how s0 ps.length hs hB.2.2.2.1 (by omega) mi hct) rfl rfl (Nat.le_of_ble_eq_true rfl) (Nat.le_of_ble_eq_true rfl) (Nat.le_of_ble_eq_true rfl) (Nat.le_of_ble_eq_true rfl) (jk_r ?_)
          refine j_if_ne (tgt := 23) C d_RR_readSum_18 (by decide) (fun c18 => ?_) (fun c18 => ?_)
          · exact absurd rfl c18
          · refine j_iconst (v := 0) C d_RR_readSum_21 (by decide) ?_
            have er : csum (β 4) t 4 1 a0 = none := by
              rw [← hv, csum_n hct]
              rfl
            rw [er] at hR
            exact j_zreturn C d_RR_readSum_22 rfl (by decide) (by decide) (by decide) ⟨rfl, rfl, _, β1, ctp_le ha hct, rfl, hB.1⟩
        | some q =>
          refine j_callV C d_RR_readSum_15 ml_RR_55 mc_RR_readTerm in_RR_readTerm rfl se_RR_readTerm (by omega) (ovX_c (o := 5) rfl) (c_RR_readTermG_13_s hl h hn (β 4) (hB.1 4 (by omega)) t a h4 ht ha how s0 ps.length hs hB.2.2.2.1 (by omega) mi q.1 q.2 hct) rfl rfl (Nat.le_of_ble_eq_true rfl) (Nat.le_of_ble_eq_true rfl) (Nat.le_of_ble_eq_true rfl) (Nat.le_of_ble_eq_true rfl) (jk_r ?_)
          have hq2 := ctm_le ha hct
          have hB2 := Bst_snoc (m := mi) hB (ctm_tok hh hct) (by rw [hq2.2]; exact hm)
          generalize hb2 : adT 13 β1 s0 ps.length q.1.2.1 (q.1.2.2.getD 1) mi = β2 at hB2 ⊢
          have hg2 : β2 4 = β 4 := hB2.1 4 (by omega)
          refine j_if_ne (tgt := 23) C d_RR_readSum_18 (by decide) (fun c18 => ?_) (fun c18 => ?_)
          · refine j_iload C d_RR_readSum_23 rfl ?_
            refine j_iconst (v := 4) C d_RR_readSum_25 (by decide) ?_
            refine j_icmp_ge (tgt := 51) C d_RR_readSum_26 (by decide) (fun c26 => ?_) (fun c26 => ?_)
            · exact absurd (show nI 4 ≤ nI (ps.length + 1) from c26) (nI_ge (by omega) (by omega))
            · refine j_aload_n C d_RR_readSum_29 rfl rfl ?_
              refine j_bipush (v := 45) C d_RR_readSum_30 (by decide) ?_
              refine j_callV C d_RR_readSum_32 ml_RR_47 mc_RR_passes in_RR_passes rfl se_RR_passes (by omega) (ovX_c (o := 5) rfl) (c_RR_passesG hl h hn (β 4) hg2 t q.2 h4 ht hq2.1 45 (by decide)) rfl rfl (Nat.le_of_ble_eq_true rfl) (Nat.le_of_ble_eq_true rfl) (Nat.le_of_ble_eq_true rfl) (Nat.le_of_ble_eq_true rfl) (jk_r ?_)
              refine j_istore_n C d_RR_readSum_35 rfl (by decide) rfl ?_
              refine j_iload_n C d_RR_readSum_36 rfl rfl ?_
              refine j_if_ne (tgt := 51) C d_RR_readSum_37 (by decide) (fun c37 => ?_) (fun c37 => ?_)
              · rw [pz_1 c37, pp_y (pz_y c37)]
                refine j_iinc (v := nI ((ps ++ [q.1]).length + 1)) C d_RR_readSum_51 rfl (by rw [len_snoc]; exact nI_inc _) (by decide) rfl ?_
                refine j_goto (tgt := 5) C d_RR_readSum_54 (by decide) ?_
                exact j_pick [0, 1, 2, 3, 4] rfl (ih 2 (skp (β 4) t q.2 + 1) β2 (ps ++ [q.1]) 1 (by rw [len_snoc]; omega) (Or.inr rfl) rfl hB2 (hr_lt2 (pz_y c37) (by decide)) (by rw [← hv, csum_s hct, if_neg (by omega), if_pos (pz_y c37), Option.map_map]; congr 1; funext z; simp))
              · have hm45 := pz_n c37
                rw [c37, pp_n hm45]
                refine j_aload_n C d_RR_readSum_40 rfl rfl ?_
                refine j_bipush (v := 43) C d_RR_readSum_41 (by decide) ?_
                refine j_callV C d_RR_readSum_43 ml_RR_47 mc_RR_passes in_RR_passes rfl se_RR_passes (by omega) (ovX_c (o := 5) rfl) (c_RR_passesG hl h hn (β 4) hg2 t (skp (β 4) t q.2) h4 ht (skp_le _ hq2.1) 43 (by decide)) rfl rfl (Nat.le_of_ble_eq_true rfl) (Nat.le_of_ble_eq_true rfl) (Nat.le_of_ble_eq_true rfl) (Nat.le_of_ble_eq_true rfl) (jk_r ?_)
                refine j_if_ne (tgt := 51) C d_RR_readSum_46 (by decide) (fun c46 => ?_) (fun c46 => ?_)
                · rw [pp_y (pz_y c46)]
                  refine j_iinc (v := nI ((ps ++ [q.1]).length + 1)) C d_RR_readSum_51 rfl (by rw [len_snoc]; exact nI_inc _) (by decide) rfl ?_
                  refine j_goto (tgt := 5) C d_RR_readSum_54 (by decide) ?_
                  exact j_pick [0, 1, 2, 3, 4] rfl (ih 1 (skp (β 4) t (skp (β 4) t q.2) + 1) β2 (ps ++ [q.1]) 0 (by rw [len_snoc]; omega) (Or.inl rfl) rfl hB2 (hr_lt2 (pz_y c46) (by decide)) (by rw [← hv, csum_s hct, if_neg (by omega), if_neg hm45, if_pos (pz_y c46), Option.map_map]; congr 1; funext z; simp))
                · refine j_iconst (v := 1) C d_RR_readSum_49 (by decide) ?_
                  rw [pp_n (pz_n c46)]
                  have er : csum (β 4) t 4 1 a0 = some (ps ++ [q.1], skp (β 4) t (skp (β 4) t q.2)) := by
                    rw [← hv, csum_s hct, if_neg (by omega), if_neg hm45, if_neg (pz_n c46)]
                    rfl
                  rw [er] at hR
                  cases hR
          · exact absurd c18 (by decide)
  refine j_iconst (v := 0) C d_RR_readSum_0 (by decide) ?_
  refine j_istore_n C d_RR_readSum_1 rfl (by decide) rfl ?_
  refine j_iconst (v := 1) C d_RR_readSum_2 (by decide) ?_
  refine j_istore C d_RR_readSum_3 (by decide) rfl ?_
  exact j_pick [0, 1, 2, 3, 4] rfl (loop 3 1 a0 β [] 0 rfl (Or.inl rfl) rfl (Bst_nil hc) ha0 (by simp))
/-! ===== the class and the reference read alike ===== -/
abbrev NOn : Int32 := -1000000000
theorem nI_no {m : Nat} (hm : m < 2 ^ 31) : ¬ nI m = -1000000000 := fun z => by
  have h1 : (0 : Int32) ≤ nI m := nI_pos' hm
  rw [z] at h1
  exact absurd h1 (by decide)
theorem dg_y {g : Nat → Int32} {t a : Nat} (h : ¬ inI (hr g t a) 48 57 = 0) : ∃ d : Nat, d ≤ 9 ∧ hr g t a = nI (48 + d) ∧ g a - 48 = nI d ∧ ¬ g a - 48 < 0 ∧ g a - 48 ≤ 9 ∧ a < t := by
  obtain ⟨d, hd, e⟩ := dig_of h
  have hlt := hr_lt h
  have eg : g a - 48 = nI d := by
    rw [← hr_g (g := g) hlt, e, show (48 : Int32) = nI 48 from rfl, pk_sub (by omega)]
    congr 1
    omega
  refine ⟨d, hd, e, eg, ?_, ?_, hlt⟩
  · rw [eg]; exact nI_pos (by omega)
  · rw [eg]; exact nI_le (b := 9) (by omega) (by omega)
theorem dg_n {g : Nat → Int32} {t a : Nat} (h : inI (hr g t a) 48 57 = 0) (hlt : a < t) : g a - 48 < 0 ∨ ¬ g a - 48 ≤ 9 := by
  apply Classical.byContradiction
  intro z
  have h0 : ¬ g a - 48 < 0 := fun y => z (Or.inl y)
  have h9 : g a - 48 ≤ 9 := Classical.byContradiction (fun y => z (Or.inr y))
  obtain ⟨d, hd, -, e⟩ := dig48 h0 h9
  have hin : inI (nI (48 + d)) 48 57 = 1 := in_ok (show ¬ nI (48 + d) < nI 48 from fun y => absurd (nI_le (a := 48) (b := 48 + d) (by omega) (by omega)) (Int32.not_le.mpr y)) (show nI (48 + d) ≤ nI 57 from nI_le (by omega) (by omega))
  rw [hr_g hlt, e, hin] at h
  exact absurd h (by decide)
theorem cnl_stop {g : Nat → Int32} {t a : Nat} (hi w : Int32) (h : inI (hr g t a) 48 57 = 0) (ha : a ≤ t) : cnl g hi (t - a) a w = (a, w) := by
  by_cases e : a = t
  · subst e
    rw [Nat.sub_self]
    rfl
  · have hlt : a < t := by omega
    rw [show t - a = (t - a - 1) + 1 by omega]
    rcases dg_n h hlt with z | z
    · exact if_pos z
    · by_cases z0 : g a - 48 < 0
      · exact if_pos z0
      · exact (if_neg z0).trans (if_neg z)
theorem cnl_go {g : Nat → Int32} {t a d m H : Nat} (h0 : ¬ g a - 48 < 0) (h9 : g a - 48 ≤ 9) (eg : g a - 48 = nI d) (hlt : a < t) (hm : 0 < m) (hm2 : m ≤ 99999) (hd : d ≤ 9) (hH : H ≤ 99999) : cnl g (nI H) (t - a) a (nI m) = if 10 * m + d ≤ H then cnl g (nI H) (t - (a + 1)) (a + 1) (nI (10 * m + d)) else (a, -1000000000) := by
  have e10 : 10 * nI m + (g a - 48) = nI (10 * m + d) := by rw [eg, show (10 : Int32) = nI 10 from rfl, pk_mul, nI_add]
  rw [show t - a = (t - (a + 1)) + 1 by omega]
  refine (if_neg h0).trans ((if_pos h9).trans ((if_neg (nI_no (by omega))).trans ((if_neg (nI_ne0 hm (by omega))).trans ?_)))
  rw [e10]
  by_cases e : 10 * m + d ≤ H
  · rw [if_pos e, if_pos (nI_le e (by omega))]
  · rw [if_neg e, if_neg (nI_ge (by omega) (by omega))]
theorem cnl_z {g : Nat → Int32} {t a : Nat} {hi : Int32} (h0 : ¬ g a - 48 < 0) (h9 : g a - 48 ≤ 9) (hlt : a < t) : cnl g hi (t - a) a (nI 0) = (a, -1000000000) := by
  rw [show t - a = (t - (a + 1)) + 1 by omega]
  exact (if_neg h0).trans ((if_pos h9).trans ((if_neg (nI_no (by omega))).trans (if_pos rfl)))
theorem cnl_1 {g : Nat → Int32} {t a d H : Nat} (h0 : ¬ g a - 48 < 0) (h9 : g a - 48 ≤ 9) (eg : g a - 48 = nI d) (hlt : a < t) (hd : d ≤ 9) (h9H : 9 ≤ H) (hH : H ≤ 99999) : cnl g (nI H) (t - a) a (-1000000000) = cnl g (nI H) (t - (a + 1)) (a + 1) (nI d) := by
  rw [show t - a = (t - (a + 1)) + 1 by omega]
  refine (if_neg h0).trans ((if_pos h9).trans ((if_pos rfl).trans ((if_neg (by decide)).trans ?_)))
  rw [eg, if_pos (nI_le (by omega) (by omega))]
theorem nlp_st {g : Nat → Int32} {t j a : Nat} {v : Int32} (h : inI (hr g t a) 48 57 = 0) : nlp g t (j + 1) a v = (a, v, j + 1) := if_pos h
theorem nlp_go {g : Nat → Int32} {t j a d m : Nat} (h : ¬ inI (hr g t a) 48 57 = 0) (hj : ¬ j = 4) (hm : 0 < m) (hm2 : m ≤ 99999) (e : hr g t a = nI (48 + d)) : nlp g t (j + 1) a (nI m) = nlp g t j (a + 1) (nI (10 * m + d)) := by
  refine (if_neg h).trans ((if_neg hj).trans ((if_neg ?_).trans ?_))
  · intro z
    exact absurd (show nI m ≤ nI 0 from z) (nI_ge hm (by omega))
  · rw [e, dig_next]
theorem nlp_mono (g : Nat → Int32) (t : Nat) : ∀ (k a w : Nat), k ≤ 4 → 1 ≤ w → w < 10 ^ (5 - k) → ∃ w' : Nat, w ≤ w' ∧ w' < 100000 ∧ (nlp g t k a (nI w)).2.1 = nI w' := by
  intro k
  induction k with
  | zero => intro a w hk h1 hw; exact ⟨w, Nat.le_refl _, hw, rfl⟩
  | succ k ih =>
    intro a w hk h1 hw
    have hw5 : w < 100000 := Nat.lt_of_lt_of_le hw (Nat.pow_le_pow_right (by omega) (by omega : 5 - (k + 1) ≤ 5))
    by_cases hd : inI (hr g t a) 48 57 = 0
    · rw [nlp_st hd]
      exact ⟨w, Nat.le_refl _, hw5, rfl⟩
    · obtain ⟨d, hd9, e, -⟩ := dg_y hd
      rw [nlp_go hd (by omega) (by omega) (by omega) e]
      have hp : 10 * w + d < 10 ^ (5 - k) := by
        have e5 : 5 - k = (5 - (k + 1)) + 1 := by omega
        rw [e5, Nat.pow_succ]
        omega
      obtain ⟨w', h2, h3, h4⟩ := ih (a + 1) (10 * w + d) (by omega) (by omega) hp
      exact ⟨w', by omega, h3, h4⟩
theorem cn_n {g : Nat → Int32} {t H : Nat} (hH : H ≤ 99999) : ∀ (j a m : Nat), j ≤ 4 → a ≤ t → m ≤ H → m < 10 ^ (5 - j) → ((m = 0 ∧ j = 4) ∨ 10 ^ (4 - j) ≤ m) →
    (∃ v : Nat, v ≤ H ∧ (nlp g t j a (nI m)).2.1 = nI v ∧ inI (hr g t (nlp g t j a (nI m)).1) 48 57 = 0 ∧ cnl g (nI H) (t - a) a (nI m) = ((nlp g t j a (nI m)).1, nI v))
    ∨ ((cnl g (nI H) (t - a) a (nI m)).2 = -1000000000 ∧ ((∃ v : Nat, H < v ∧ v < 100000 ∧ (nlp g t j a (nI m)).2.1 = nI v) ∨ ¬ inI (hr g t (nlp g t j a (nI m)).1) 48 57 = 0)) := by
  intro j
  induction j with
  | zero =>
    intro a m hj ha hm hm5 hpos
    by_cases hd : inI (hr g t a) 48 57 = 0
    · exact Or.inl ⟨m, hm, rfl, hd, cnl_stop _ _ hd ha⟩
    · obtain ⟨d, hd9, e, eg, h0, h9, hlt⟩ := dg_y hd
      have hp4 : 10000 ≤ m := by
        rcases hpos with ⟨-, z⟩ | z
        · omega
        · exact z
      refine Or.inr ⟨?_, Or.inr hd⟩
      rw [cnl_go h0 h9 eg hlt (by omega) (by omega) hd9 hH, if_neg (by omega)]
  | succ j ih =>
    intro a m hj ha hm hm5 hpos
    by_cases hd : inI (hr g t a) 48 57 = 0
    · rw [nlp_st hd]
      exact Or.inl ⟨m, hm, rfl, hd, cnl_stop _ _ hd ha⟩
    · obtain ⟨d, hd9, e, eg, h0, h9, hlt⟩ := dg_y hd
      by_cases hz : m = 0
      · subst hz
        have en : nlp g t (j + 1) a (nI 0) = (a, nI 0, j + 1) := (if_neg hd).trans ((if_neg (by omega)).trans (if_pos (by decide)))
        rw [en]
        refine Or.inr ⟨?_, Or.inr hd⟩
        rw [cnl_z h0 h9 hlt]
      · rw [nlp_go hd (by omega) (by omega) (by omega) e, cnl_go h0 h9 eg hlt (by omega) (by omega) hd9 hH]
        have hp : 10 * m + d < 10 ^ (5 - j) := by
          have e5 : 5 - j = (5 - (j + 1)) + 1 := by omega
          rw [e5, Nat.pow_succ]
          omega
        by_cases hle : 10 * m + d ≤ H
        · rw [if_pos hle]
          refine ih (a + 1) (10 * m + d) (by omega) hlt hle hp (Or.inr ?_)
          have hq : 10 ^ (4 - (j + 1)) ≤ m := by
            rcases hpos with ⟨z, -⟩ | z
            · exact absurd z hz
            · exact z
          have e4 : 4 - j = (4 - (j + 1)) + 1 := by omega
          rw [e4, Nat.pow_succ]
          omega
        · rw [if_neg hle]
          refine Or.inr ⟨rfl, Or.inl ?_⟩
          obtain ⟨w', h2, h3, h4⟩ := nlp_mono g t j (a + 1) (10 * m + d) (by omega) (by omega) hp
          exact ⟨w', by omega, h3, h4⟩
theorem cn_mn {g : Nat → Int32} {t a H : Nat} (ha : a ≤ t) (ht : t ≤ 300) (h9H : 9 ≤ H) (hH : H ≤ 99999) :
    ((mnum g t a (nI H)).2.2 = -1 ∧ inI (hr g t (mnum g t a (nI H)).1) 48 57 = 0 ∧ cnum g t (skp g t a) (nI H) = ((mnum g t a (nI H)).1, (mnum g t a (nI H)).2.1) ∧ ∃ v : Nat, v ≤ H ∧ (mnum g t a (nI H)).2.1 = nI v)
    ∨ ((cnum g t (skp g t a) (nI H)).2 = -1000000000 ∧ (¬ (mnum g t a (nI H)).2.2 = -1 ∨ ¬ inI (hr g t (mnum g t a (nI H)).1) 48 57 = 0)) := by
  have hs := skp_le g ha
  unfold mnum cnum
  by_cases hd : inI (hr g t (skp g t a)) 48 57 = 0
  · rw [if_pos hd, cnl_stop _ _ hd hs]
    refine Or.inr ⟨rfl, Or.inl (fun z => ?_)⟩
    have h1 : (0 : Int32) ≤ nI (skp g t a) := nI_pos' (by omega)
    rw [show nI (skp g t a) = -1 from z] at h1
    exact absurd h1 (by decide)
  · rw [if_neg hd]
    obtain ⟨d, hd9, e, eg, h0, h9, hlt⟩ := dg_y hd
    have e0 : nlp g t 5 (skp g t a) 0 = nlp g t 4 (skp g t a + 1) (nI d) := by
      show (if inI (hr g t (skp g t a)) 48 57 = 0 then _ else if (4 : Nat) = 4 then nlp g t 4 (skp g t a + 1) (10 * 0 + hr g t (skp g t a) - 48) else _) = _
      rw [if_neg hd, if_pos rfl, e]
      have := dig_next 0 d
      rw [Nat.mul_zero, Nat.zero_add] at this
      rw [← this]
      rfl
    rw [e0, cnl_1 h0 h9 eg hlt hd9 h9H hH]
    obtain ⟨k1, k2, k3, -⟩ := nlp_ok g t 4 (skp g t a + 1) d (by omega) hlt (by omega)
    rcases cn_n (g := g) (t := t) hH 4 (skp g t a + 1) d (by omega) hlt (by omega) (by omega) (by omega) with ⟨v, hv, ev, hnd, ec⟩ | ⟨hno, hbad⟩
    · refine Or.inl ⟨?_, hnd, ?_, v, hv, ?_⟩
      · unfold ntl
        rw [ev, if_pos (nI_le hv (by omega)), if_pos hnd]
        split <;> rfl
      · rw [ec]
        unfold ntl
        rw [ev, if_pos (nI_le hv (by omega)), if_pos hnd]
        split <;> rfl
      · unfold ntl
        rw [ev, if_pos (nI_le hv (by omega)), if_pos hnd]
        split <;> rfl
    · refine Or.inr ⟨hno, ?_⟩
      rcases hbad with ⟨v, hv, hv5, ev⟩ | z
      · refine Or.inl ?_
        unfold ntl
        rw [ev, if_neg (nI_ge hv (by omega))]
        intro z
        have h1 := nIp (a := (nlp g t 4 (skp g t a + 1) (nI d)).1) (by omega) (by omega)
        rw [show nI (nlp g t 4 (skp g t a + 1) (nI d)).1 - 1 = -1 from z] at h1
        exact absurd h1 (by decide)
      · exact Or.inr z
theorem fkb_no {x : Int32} (h : fkb x) : ¬ x = -1000000000 := by
  rcases h with ⟨m, hm, rfl⟩ | ⟨f, hf, rfl⟩
  · exact nI_no (by omega)
  · have z : ∀ k : Fin 20, ¬ (-1 - nI k : Int32) = -1000000000 := by decide +kernel
    exact z ⟨f, hf⟩
/-- the class's factor and the reference's -/
theorem cf_mf {g : Nat → Int32} {t a : Nat} (ha : a ≤ t) (ht : t ≤ 300) :
    (mfW g t a = -1 ∧ inI (hr g t (mfA g t a)) 48 57 = 0 ∧ cfA g t a = mfA g t a ∧ cfV g t a = mfV g t a ∧ ¬ cfV g t a = -1000000000 ∧ mfA g t a ≤ t)
    ∨ (cfV g t a = -1000000000 ∧ (¬ mfW g t a = -1 ∨ ¬ inI (hr g t (mfA g t a)) 48 57 = 0)) := by
  have hle := (mf_ok (g := g) ha ht).1
  have hs := skp_le g ha
  unfold mfA at hle
  unfold mfW mfA mfV cfA cfV
  by_cases h : hr g t (skp g t a) = 102
  · have hlt : skp g t a + 1 ≤ t := hr_lt2 h (by decide)
    rw [if_pos h] at hle
    rw [if_pos h, if_pos h, if_pos h, if_pos h, if_pos h]
    rcases cn_mn (g := g) (H := 19) hlt ht (by omega) (by omega) with ⟨h1, h2, h3, v, hv, h4⟩ | ⟨h1, h2⟩
    · have h3' : cnum g t (skp g t (skp g t a + 1)) 19 = ((mnum g t (skp g t a + 1) 19).1, (mnum g t (skp g t a + 1) 19).2.1) := h3
      have h4' : (mnum g t (skp g t a + 1) 19).2.1 = nI v := h4
      have hne : ¬ (mnum g t (skp g t a + 1) 19).2.1 = -1000000000 := by rw [h4']; exact nI_no (by omega)
      rw [h3']
      refine Or.inl ⟨h1, h2, rfl, if_neg hne, ?_, hle⟩
      rw [if_neg hne]
      exact fkb_no (Or.inr ⟨v, by omega, by rw [h4']⟩)
    · have h1' : (cnum g t (skp g t (skp g t a + 1)) 19).2 = -1000000000 := h1
      rw [if_pos h1']
      exact Or.inr ⟨rfl, h2⟩
  · rw [if_neg h] at hle
    rw [if_neg h, if_neg h, if_neg h, if_neg h, if_neg h]
    rcases cn_mn (g := g) (H := 99999) hs ht (by omega) (by omega) with ⟨h1, h2, h3, v, hv, h4⟩ | ⟨h1, h2⟩
    · have h3' : cnum g t (skp g t (skp g t a)) 99999 = ((mnum g t (skp g t a) 99999).1, (mnum g t (skp g t a) 99999).2.1) := h3
      have h4' : (mnum g t (skp g t a) 99999).2.1 = nI v := h4
      rw [h3']
      refine Or.inl ⟨h1, h2, rfl, rfl, ?_, hle⟩
      rw [h4']
      exact nI_no (by omega)
    · exact Or.inr ⟨h1, h2⟩
theorem skp_dig {g : Nat → Int32} {t a : Nat} (h : ¬ inI (hr g t a) 48 57 = 0) : skp g t a = a := by
  have hlt := hr_lt h
  unfold skp
  rw [show t - a = (t - a - 1) + 1 by omega]
  refine if_neg (fun z => h ?_)
  rw [z]
  decide
theorem dig_ne {g : Nat → Int32} {t a : Nat} {x : Int32} (h : ¬ inI (hr g t a) 48 57 = 0) (hx : inI x 48 57 = 0) : ¬ hr g t a = x := fun z => h (by rw [z]; exact hx)
/-- the class's answer x and the reference's y: alike, or the class stops where the reference finds a digit in its way -/
def CP (g : Nat → Int32) (t : Nat) (x y : Option (List Tm × Nat)) : Prop := (∃ q, x = some q ∧ y = some q) ∨ (x = none ∧ (y = none ∨ ∃ q, y = some q ∧ ¬ inI (hr g t (skp g t q.2)) 48 57 = 0))
theorem CP_map {g : Nat → Int32} {t : Nat} {x y : Option (List Tm × Nat)} (tm : Tm) (h : CP g t x y) : CP g t (x.map (fun z => (tm :: z.1, z.2))) (y.map (fun z => (tm :: z.1, z.2))) := by
  rcases h with ⟨q, rfl, rfl⟩ | ⟨rfl, rfl | ⟨q, rfl, hq⟩⟩
  · exact Or.inl ⟨_, rfl, rfl⟩
  · exact Or.inr ⟨rfl, Or.inl rfl⟩
  · exact Or.inr ⟨rfl, Or.inr ⟨_, rfl, hq⟩⟩
theorem cs_ps {g : Nat → Int32} {t : Nat} (ht : t ≤ 300) : ∀ (n : Nat) (how : Int32) (a : Nat), a ≤ t → CP g t (csum g t n how a) (psum g t n how a) := by
  intro n
  induction n with
  | zero => intro how a ha; exact Or.inr ⟨rfl, Or.inl rfl⟩
  | succ n ih =>
    intro how a ha
    rcases cf_mf ha ht with ⟨w1, d1, eA, eV, hne, hAt⟩ | ⟨hno, hbad⟩
    · by_cases h47 : hr g t (skp g t (mfA g t a)) = 47
      · have ha2 : skp g t (mfA g t a) + 1 ≤ t := hr_lt2 h47 (by decide)
        rcases cf_mf ha2 ht with ⟨w2, d2, eA2, eV2, hne2, hAt2⟩ | ⟨hno2, hbad2⟩
        · have hc : ctm g t how a = some ((how, mfV g t a, some (mfV g t (skp g t (mfA g t a) + 1))), mfA g t (skp g t (mfA g t a) + 1)) := by
            unfold ctm
            rw [if_neg hne, eA, if_pos h47, if_neg hne2, eA2, eV, eV2]
          rw [csum_s hc]
          conv =>
            arg 4
            unfold psum
          rw [if_pos w1, if_pos h47, if_pos w2]
          by_cases h0 : n = 0
          · rw [if_pos h0, if_pos h0]
            exact Or.inl ⟨_, rfl, rfl⟩
          · rw [if_neg h0, if_neg h0]
            have hss := skp_skp (g := g) hAt2
            show CP g t (if hr g t (skp g t (mfA g t (skp g t (mfA g t a) + 1))) = 45 then _ else if hr g t (skp g t (skp g t (mfA g t (skp g t (mfA g t a) + 1)))) = 43 then _ else some (_, skp g t (skp g t (mfA g t (skp g t (mfA g t a) + 1))))) _
            rw [hss]
            by_cases h45 : hr g t (skp g t (mfA g t (skp g t (mfA g t a) + 1))) = 45
            · rw [if_pos h45, if_neg (by rw [h45]; decide), if_pos h45]
              exact CP_map _ (ih 2 _ (hr_lt2 h45 (by decide)))
            · rw [if_neg h45]
              by_cases h43 : hr g t (skp g t (mfA g t (skp g t (mfA g t a) + 1))) = 43
              · rw [if_pos h43, if_pos h43]
                exact CP_map _ (ih 1 _ (hr_lt2 h43 (by decide)))
              · rw [if_neg h43, if_neg h43, if_neg h45]
                exact Or.inl ⟨_, rfl, rfl⟩
        · have hc : ctm g t how a = none := by
            unfold ctm
            rw [if_neg hne, eA, if_pos h47, if_pos hno2]
          rw [csum_n hc]
          refine Or.inr ⟨rfl, ?_⟩
          by_cases w2 : mfW g t (skp g t (mfA g t a) + 1) = -1
          · have hd2 := hbad2.resolve_left (fun z => z w2)
            have e2 := skp_dig hd2
            refine Or.inr ?_
            conv =>
              arg 1
              intro q
              arg 1
              lhs
              unfold psum
            rw [if_pos w1, if_pos h47, if_pos w2, e2, if_neg (dig_ne hd2 (by decide)), if_neg (dig_ne hd2 (by decide))]
            split
            · exact ⟨_, rfl, by show ¬ inI (hr g t (skp g t (mfA g t (skp g t (mfA g t a) + 1)))) 48 57 = 0; rw [e2]; exact hd2⟩
            · exact ⟨_, rfl, by show ¬ inI (hr g t (skp g t (mfA g t (skp g t (mfA g t a) + 1)))) 48 57 = 0; rw [e2]; exact hd2⟩
          · refine Or.inl ?_
            conv =>
              lhs
              unfold psum
            rw [if_pos w1, if_pos h47, if_neg w2]
      · have hc : ctm g t how a = some ((how, mfV g t a, none), skp g t (mfA g t a)) := by
          unfold ctm
          rw [if_neg hne, eA, if_neg h47, eV]
        rw [csum_s hc]
        conv =>
          arg 4
          unfold psum
        rw [if_pos w1, if_neg h47]
        by_cases h0 : n = 0
        · rw [if_pos h0, if_pos h0]
          exact Or.inl ⟨_, rfl, rfl⟩
        · rw [if_neg h0, if_neg h0]
          have hss := skp_skp (g := g) hAt
          show CP g t (if hr g t (skp g t (skp g t (mfA g t a))) = 45 then _ else if hr g t (skp g t (skp g t (skp g t (mfA g t a)))) = 43 then _ else some (_, skp g t (skp g t (skp g t (mfA g t a))))) _
          rw [hss, hss]
          by_cases h45 : hr g t (skp g t (mfA g t a)) = 45
          · rw [if_pos h45, if_neg (by rw [h45]; decide), if_pos h45]
            exact CP_map _ (ih 2 _ (hr_lt2 h45 (by decide)))
          · rw [if_neg h45]
            by_cases h43 : hr g t (skp g t (mfA g t a)) = 43
            · rw [if_pos h43, if_pos h43]
              exact CP_map _ (ih 1 _ (hr_lt2 h43 (by decide)))
            · rw [if_neg h43, if_neg h43, if_neg h45]
              exact Or.inl ⟨_, rfl, rfl⟩
    · have hc : ctm g t how a = none := by
        unfold ctm
        rw [if_pos hno]
      rw [csum_n hc]
      refine Or.inr ⟨rfl, ?_⟩
      by_cases w1 : mfW g t a = -1
      · have hd1 := hbad.resolve_left (fun z => z w1)
        have e1 := skp_dig hd1
        refine Or.inr ?_
        conv =>
          arg 1
          intro q
          arg 1
          lhs
          unfold psum
        rw [if_pos w1, e1, if_neg (dig_ne hd1 (by decide)), e1, if_neg (dig_ne hd1 (by decide)), if_neg (dig_ne hd1 (by decide))]
        split
        · exact ⟨_, rfl, by show ¬ inI (hr g t (skp g t (mfA g t a))) 48 57 = 0; rw [e1]; exact hd1⟩
        · exact ⟨_, rfl, by show ¬ inI (hr g t (skp g t (mfA g t a))) 48 57 = 0; rw [e1]; exact hd1⟩
      · refine Or.inl ?_
        conv =>
          lhs
          unfold psum
        rw [if_neg w1]
/-! ===== rules: what the class reads ===== -/
theorem csum_le {g : Nat → Int32} {t : Nat} : ∀ (n : Nat) (how : Int32) (a : Nat) (q : List Tm × Nat), a ≤ t → csum g t n how a = some q → q.2 ≤ t := by
  intro n
  induction n with
  | zero => intro how a q ha h; cases h
  | succ n ih =>
    intro how a q ha h
    cases hc : ctm g t how a with
    | none => rw [csum_n hc] at h; cases h
    | some p =>
      have hp := (ctm_le ha hc).1
      rw [csum_s hc] at h
      split at h
      · cases h; exact hp
      · split at h
        · rename_i h45
          cases hs : csum g t n 2 (skp g t p.2 + 1) with
          | none => rw [hs] at h; cases h
          | some z => rw [hs] at h; cases h; exact ih _ _ z (hr_lt2 h45 (by decide)) hs
        · split at h
          · rename_i h43
            cases hs : csum g t n 1 (skp g t (skp g t p.2) + 1) with
            | none => rw [hs] at h; cases h
            | some z => rw [hs] at h; cases h; exact ih _ _ z (hr_lt2 h43 (by decide)) hs
          · cases h
            exact skp_le _ (skp_le _ hp)
theorem csum_tok {g : Nat → Int32} {t : Nat} : ∀ (n : Nat) (how : Int32) (a : Nat) (q : List Tm × Nat), (how = 1 ∨ how = 2) → csum g t n how a = some q → ∀ y ∈ q.1, tok y := by
  intro n
  induction n with
  | zero => intro how a q ha h; cases h
  | succ n ih =>
    intro how a q hh h
    cases hc : ctm g t how a with
    | none => rw [csum_n hc] at h; cases h
    | some p =>
      have hp := ctm_tok hh hc
      rw [csum_s hc] at h
      split at h
      · cases h
        intro y hy
        rw [List.mem_singleton.mp hy]
        exact hp
      · split at h
        · cases hs : csum g t n 2 (skp g t p.2 + 1) with
          | none => rw [hs] at h; cases h
          | some z =>
            rw [hs] at h; cases h
            intro y hy
            rcases List.mem_cons.mp hy with e | e
            · rw [e]; exact hp
            · exact ih _ _ z (Or.inr rfl) hs y e
        · split at h
          · cases hs : csum g t n 1 (skp g t (skp g t p.2) + 1) with
            | none => rw [hs] at h; cases h
            | some z =>
              rw [hs] at h; cases h
              intro y hy
              rcases List.mem_cons.mp hy with e | e
              · rw [e]; exact hp
              · exact ih _ _ z (Or.inl rfl) hs y e
          · cases h
            intro y hy
            rw [List.mem_singleton.mp hy]
            exact hp
theorem ps_of {g : Nat → Int32} {t a : Nat} {q : List Tm × Nat} (ht : t ≤ 300) (ha : a ≤ t) (h : csum g t 4 1 a = some q) : psum g t 4 1 a = some q := by
  rcases cs_ps ht 4 1 a ha (g := g) with ⟨p, h1, h2⟩ | ⟨h1, -⟩
  · rw [h] at h1
    cases h1
    exact h2
  · rw [h] at h1
    cases h1
theorem ps_no {g : Nat → Int32} {t a : Nat} (ht : t ≤ 300) (ha : a ≤ t) (h : csum g t 4 1 a = none) : psum g t 4 1 a = none ∨ ∃ q, psum g t 4 1 a = some q ∧ ¬ inI (hr g t (skp g t q.2)) 48 57 = 0 := by
  rcases cs_ps ht 4 1 a ha (g := g) with ⟨p, h1, h2⟩ | ⟨-, h2⟩
  · rw [h] at h1
    cases h1
  · exact h2
def sgn3 (x : Int32) : Prop := x = 60 ∨ x = 61 ∨ x = 33
theorem pr_n1 {g : Nat → Int32} {t a : Nat} (ht : t ≤ 300) (ha : a ≤ t) (h : csum g t 4 1 a = none) : prule g t a = none := by
  unfold prule
  rcases ps_no ht ha h with z | ⟨q, z, hd⟩
  · rw [z]
  · rw [z]
    refine if_neg ?_
    rintro (y | y | y)
    · exact dig_ne hd (by decide) y
    · exact dig_ne hd (by decide) y
    · exact dig_ne hd (by decide) y
theorem pr_n2 {g : Nat → Int32} {t a : Nat} {q : List Tm × Nat} (ht : t ≤ 300) (ha : a ≤ t) (h : csum g t 4 1 a = some q) (hs : ¬ (hr g t (skp g t q.2) = 60 ∨ hr g t (skp g t q.2) = 61 ∨ hr g t (skp g t q.2) = 33)) : prule g t a = none := by
  unfold prule
  rw [ps_of ht ha h]
  exact if_neg hs
theorem pr_n3 {g : Nat → Int32} {t a : Nat} {q : List Tm × Nat} (ht : t ≤ 300) (ha : a ≤ t) (h : csum g t 4 1 a = some q) (hs : hr g t (skp g t q.2) = 60 ∨ hr g t (skp g t q.2) = 61 ∨ hr g t (skp g t q.2) = 33) (hlt : skp g t q.2 + 1 ≤ t) (h2 : csum g t 4 1 (skp g t q.2 + 1) = none) : prule g t a = none := by
  unfold prule
  rw [ps_of ht ha h]
  refine (if_pos hs).trans ?_
  rcases ps_no ht hlt h2 with z | ⟨u, z, hd⟩
  · rw [z]
  · rw [z]
    exact if_neg (dig_ne hd (by decide))
theorem pr_e {g : Nat → Int32} {t a : Nat} {q u : List Tm × Nat} (ht : t ≤ 300) (ha : a ≤ t) (h : csum g t 4 1 a = some q) (hs : hr g t (skp g t q.2) = 60 ∨ hr g t (skp g t q.2) = 61 ∨ hr g t (skp g t q.2) = 33) (hlt : skp g t q.2 + 1 ≤ t) (h2 : csum g t 4 1 (skp g t q.2 + 1) = some u) : prule g t a = if hr g t (skp g t u.2) = 59 then some ((q.1, hr g t (skp g t q.2), u.1), skp g t u.2 + 1) else none := by
  unfold prule
  rw [ps_of ht ha h]
  refine (if_pos hs).trans ?_
  rw [ps_of ht hlt h2]
/-- the rules of a text, as the class reads them -/
def crul (g : Nat → Int32) (t : Nat) : Nat → Nat → List Ru → Option (List Ru)
  | 0, _, _ => none
  | n + 1, a, rs => if t ≤ skp g t a then some rs else if rs.length = 20 then none else (match prule g t (skp g t a) with
    | none => none
    | some q => crul g t n q.2 (rs ++ [q.1]))
theorem crul_e {g : Nat → Int32} {t n a : Nat} {rs : List Ru} (h : t ≤ skp g t a) : crul g t (n + 1) a rs = some rs := if_pos h
theorem crul_f {g : Nat → Int32} {t n a : Nat} {rs : List Ru} (h : ¬ t ≤ skp g t a) (h2 : rs.length = 20) : crul g t (n + 1) a rs = none := (if_neg h).trans (if_pos h2)
theorem crul_n {g : Nat → Int32} {t n a : Nat} {rs : List Ru} (h : ¬ t ≤ skp g t a) (h2 : prule g t (skp g t a) = none) : crul g t (n + 1) a rs = none := by
  refine (if_neg h).trans ?_
  split
  · rfl
  · rw [h2]
theorem crul_s {g : Nat → Int32} {t n a : Nat} {rs : List Ru} {q : Ru × Nat} (h : ¬ t ≤ skp g t a) (h3 : ¬ rs.length = 20) (h2 : prule g t (skp g t a) = some q) : crul g t (n + 1) a rs = crul g t n q.2 (rs ++ [q.1]) := by
  refine (if_neg h).trans ((if_neg h3).trans ?_)
  rw [h2]
/-- the rows of the book bo alone may differ -/
def Abw (bo : Nat) (β1 β : Nat → Nat → Int32) : Prop := ∀ x, x < bo + 1 ∨ bo + 6 < x → β1 x = β x
theorem Abw_t {bo : Nat} {β2 β1 β : Nat → Nat → Int32} (h : Abw bo β2 β1) (h2 : Abw bo β1 β) : Abw bo β2 β := fun x hx => (h x hx).trans (h2 x hx)
theorem Ab_w {bo : Nat} {β1 β : Nat → Nat → Int32} (h : Ab bo β1 β) : Abw bo β1 β := fun x hx => h x (by omega)
theorem Abw_c {bo : Nat} {β : Nat → Nat → Int32} {f : Nat → Int32} : Abw bo (upa β (bo + 1) f) β := fun x hx => upa_n (by omega)
theorem stR_w {bo q : Nat} {β : Nat → Nat → Int32} : Ab bo (stR bo β q) β := fun x hx => by
  unfold stR
  rw [upa_n (by omega), upa_n (by omega)]
theorem stR_a (bo : Nat) (β : Nat → Nat → Int32) (q : Nat) : stR bo β q (bo + 3) (2 * q) = nI 0 := by
  unfold stR
  rw [upa_s, pk_un (by omega), pk_us]
  rfl
theorem stR_b (bo : Nat) (β : Nat → Nat → Int32) (q : Nat) : stR bo β q (bo + 3) (2 * q + 1) = nI 0 := by
  unfold stR
  rw [upa_s, pk_us]
  rfl
theorem stR_tj {bo q j : Nat} {β : Nat → Nat → Int32} (h : j < 2 * q) : stR bo β q (bo + 3) j = β (bo + 3) j := by
  unfold stR
  rw [upa_s, pk_un (by omega), pk_un (by omega)]
theorem stR_f (bo : Nat) (β : Nat → Nat → Int32) (q : Nat) : stR bo β q (bo + 2) q = 0 := by
  unfold stR
  rw [upa_n (by omega), upa_s, pk_us]
theorem stR_fj {bo q j : Nat} {β : Nat → Nat → Int32} (h : j ≠ q) : stR bo β q (bo + 2) j = β (bo + 2) j := by
  unfold stR
  rw [upa_n (by omega), upa_s, pk_un h]
theorem stR_x {bo q x : Nat} {β : Nat → Nat → Int32} (h2 : x ≠ bo + 2) (h3 : x ≠ bo + 3) : stR bo β q x = β x := by
  unfold stR
  rw [upa_n h3, upa_n h2]
theorem told_0 : Told 0 [] := fun f hf => ⟨fun z => by rw [xhs_0 hf] at z; exact absurd z (by decide), fun ⟨y, hy, _⟩ => by cases hy⟩
/-- one rule more in the book -/
theorem RuX_snoc {bo : Nat} {β1 β2 β4 : Nat → Nat → Int32} {rs : List Ru} {p w : List Tm} {x : Int32} (hX : RuX (β1 (bo + 1)) (β1 (bo + 2)) (β1 (bo + 3)) (β1 (bo + 4)) (β1 (bo + 5)) (β1 (bo + 6)) rs) (hLk : Lk rs) (hp : p.length ≤ 4)
    (h2 : Bst bo (stR bo β1 rs.length) (2 * rs.length) β2 p) (h4 : Bst bo (upa β2 (bo + 1) (upd (β2 (bo + 1)) rs.length x)) (2 * rs.length + 1) β4 w) :
    RuX (β4 (bo + 1)) (β4 (bo + 2)) (β4 (bo + 3)) (β4 (bo + 4)) (β4 (bo + 5)) (β4 (bo + 6)) (rs ++ [(p, x, w)]) := by
  obtain ⟨a1, a2, a3, a4, a5, a6, a7⟩ := h2
  obtain ⟨b1, b2, b3, b4, b5, b6, b7⟩ := h4
  have d1 : 2 * rs.length / 2 = rs.length := by omega
  have d2 : (2 * rs.length + 1) / 2 = rs.length := by omega
  rw [d1] at a6 a7
  rw [d2] at b6 b7
  have u : ∀ k, k ≠ bo + 1 → upa β2 (bo + 1) (upd (β2 (bo + 1)) rs.length x) k = β2 k := fun k hk => upa_n hk
  rw [u (bo + 2) (by omega)] at b6 b7
  rw [u (bo + 3) (by omega)] at b5
  rw [u (bo + 4) (by omega), u (bo + 5) (by omega), u (bo + 6) (by omega)] at b2
  rw [stR_x (by omega) (by omega), stR_x (by omega) (by omega), stR_x (by omega) (by omega)] at a2
  have ec : β4 (bo + 1) = upd (β2 (bo + 1)) rs.length x := by rw [b1 (bo + 1) (by omega), upa_s]
  have e2 : β2 (bo + 1) = β1 (bo + 1) := by rw [a1 (bo + 1) (by omega), stR_x (by omega) (by omega)]
  intro q y hy
  by_cases e : q = rs.length
  · subst e
    rw [List.getElem?_append_right (Nat.le_refl _), Nat.sub_self] at hy
    cases hy
    refine ⟨by rw [ec, pk_us], by rw [b5 _ (by omega)]; exact a4, b4, fun i z hz => ?_, ?_, ?_⟩
    · have hi := (List.getElem?_eq_some_iff.mp hz).1
      have hi : i < p.length := hi
      obtain ⟨c1, c2, c3⟩ := b2 (8 * rs.length + i) (by omega)
      rw [c1, c2, c3]
      have := a3 i z hz
      rw [show 4 * (2 * rs.length) = 8 * rs.length by omega] at this
      exact this
    · have := b3
      rw [show 4 * (2 * rs.length + 1) = 8 * rs.length + 4 by omega] at this
      exact this
    · exact b7 p (a7 [] (by rw [stR_f]; exact told_0))
  · have hi : q < rs.length := by
      have := (List.getElem?_eq_some_iff.mp hy).1
      rw [List.length_append, List.length_singleton] at this
      omega
    rw [List.getElem?_append_left hi] at hy
    obtain ⟨x1, x2, x3, x4, x5, x6⟩ := hX q y hy
    obtain ⟨l1, l2⟩ := hLk q y hy
    have row : ∀ j, j < 8 * rs.length → β4 (bo + 4) j = β1 (bo + 4) j ∧ β4 (bo + 5) j = β1 (bo + 5) j ∧ β4 (bo + 6) j = β1 (bo + 6) j := fun j hj => by
      obtain ⟨c1, c2, c3⟩ := b2 j (by omega)
      obtain ⟨c4, c5, c6⟩ := a2 j (by omega)
      exact ⟨c1.trans c4, c2.trans c5, c3.trans c6⟩
    refine ⟨by rw [ec, pk_un e, e2]; exact x1, ?_, ?_, fun i z hz => ?_, fun i z hz => ?_, ?_⟩
    · rw [b5 _ (by omega), a5 _ (by omega), stR_tj (by omega)]; exact x2
    · rw [b5 _ (by omega), a5 _ (by omega), stR_tj (by omega)]; exact x3
    · have hi2 : i < y.1.length := (List.getElem?_eq_some_iff.mp hz).1
      obtain ⟨c1, c2, c3⟩ := row (8 * q + i) (by omega)
      rw [c1, c2, c3]
      exact x4 i z hz
    · have hi2 : i < y.2.2.length := (List.getElem?_eq_some_iff.mp hz).1
      obtain ⟨c1, c2, c3⟩ := row (8 * q + 4 + i) (by omega)
      rw [c1, c2, c3]
      exact x5 i z hz
    · rw [b6 _ e, a6 _ e, stR_fj e]; exact x6
/-- a number answered, and what holds of the heap with it -/
def Rw (n1 : Nat) (P : Int32 → AH → Prop) : Rz → Nat → AH → Prop := fun r n h => ∃ w, r = .inl (some (.int w)) ∧ n = n1 ∧ P w h
section JRw
variable {p : Program} {l : Launch} {e : Env} {R : Room} {s : State} {m : MethodId} {args : Array Value} {below : List Frame} {meth : Method} {c : Code} {D : va_G} {cA : Nat → ClassId} {b nL : Nat} {Q : State → Prop} {n : Nat} {kc ks pc : Nat} {L : List (Nat × Value)} {st : List Value}
theorem jk_w {P : Int32 → AH → Prop} (k : ∀ w h, P w h → J p l e R s m args below meth c D cA b nL Q n h kc ks (pc + 3) L (.int w :: st)) : JK p l e R s m args below meth c D cA b nL Q kc ks pc L st (Rw n P) := by
  refine ⟨fun v' n' h' hq => ?_, fun ci n' h' q hq => by obtain ⟨w, e1, -⟩ := hq; cases e1⟩
  obtain ⟨w, e1, rfl, hp⟩ := hq
  cases e1
  exact k w h' hp
end JRw
