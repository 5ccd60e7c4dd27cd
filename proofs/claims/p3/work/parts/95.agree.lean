/-! ===== the class and the reference read alike ===== -/
abbrev NOn : Int32 := -1000000000
theorem nI_no {m : Nat} (hm : m < 2 ^ 31) : ¬ nI m = -1000000000 := fun z => by
  have h1 : (0 : Int32) ≤ nI m := nI_pos' hm
  rw [z] at h1
  exact absurd h1 (by decide)
theorem dg_y {g : Nat → Int32} {t a : Nat} (h : ¬ inI (hr g t a) 48 57 = 0) : ∃ d : Nat, d ≤ 9 ∧ hr g t a = nI (48 + d) ∧ g a - 48 = nI d ∧ ¬ g a - 48 < 0 ∧ g a - 48 ≤ 9 ∧ a < t := by
  obtain ⟨d, hd, e⟩ := dig_of h
  have hlt := hr_lt h
  have eg : g a - 48 = nI d := by
    rw [← hr_g (g := g) hlt, e, show (48 : Int32) = nI 48 from rfl, pk_sub (by omega)]
    congr 1
    omega
  refine ⟨d, hd, e, eg, ?_, ?_, hlt⟩
  · rw [eg]; exact nI_pos (by omega)
  · rw [eg]; exact nI_le (b := 9) (by omega) (by omega)
theorem dg_n {g : Nat → Int32} {t a : Nat} (h : inI (hr g t a) 48 57 = 0) (hlt : a < t) : g a - 48 < 0 ∨ ¬ g a - 48 ≤ 9 := by
  apply Classical.byContradiction
  intro z
  have h0 : ¬ g a - 48 < 0 := fun y => z (Or.inl y)
  have h9 : g a - 48 ≤ 9 := Classical.byContradiction (fun y => z (Or.inr y))
  obtain ⟨d, hd, -, e⟩ := dig48 h0 h9
  have hin : inI (nI (48 + d)) 48 57 = 1 := in_ok (show ¬ nI (48 + d) < nI 48 from fun y => absurd (nI_le (a := 48) (b := 48 + d) (by omega) (by omega)) (Int32.not_le.mpr y)) (show nI (48 + d) ≤ nI 57 from nI_le (by omega) (by omega))
  rw [hr_g hlt, e, hin] at h
  exact absurd h (by decide)
theorem cnl_stop {g : Nat → Int32} {t a : Nat} (hi w : Int32) (h : inI (hr g t a) 48 57 = 0) (ha : a ≤ t) : cnl g hi (t - a) a w = (a, w) := by
  by_cases e : a = t
  · subst e
    rw [Nat.sub_self]
    rfl
  · have hlt : a < t := by omega
    rw [show t - a = (t - a - 1) + 1 by omega]
    rcases dg_n h hlt with z | z
    · exact if_pos z
    · by_cases z0 : g a - 48 < 0
      · exact if_pos z0
      · exact (if_neg z0).trans (if_neg z)
theorem cnl_go {g : Nat → Int32} {t a d m H : Nat} (h0 : ¬ g a - 48 < 0) (h9 : g a - 48 ≤ 9) (eg : g a - 48 = nI d) (hlt : a < t) (hm : 0 < m) (hm2 : m ≤ 99999) (hd : d ≤ 9) (hH : H ≤ 99999) : cnl g (nI H) (t - a) a (nI m) = if 10 * m + d ≤ H then cnl g (nI H) (t - (a + 1)) (a + 1) (nI (10 * m + d)) else (a, -1000000000) := by
  have e10 : 10 * nI m + (g a - 48) = nI (10 * m + d) := by rw [eg, show (10 : Int32) = nI 10 from rfl, pk_mul, nI_add]
  rw [show t - a = (t - (a + 1)) + 1 by omega]
  refine (if_neg h0).trans ((if_pos h9).trans ((if_neg (nI_no (by omega))).trans ((if_neg (nI_ne0 hm (by omega))).trans ?_)))
  rw [e10]
  by_cases e : 10 * m + d ≤ H
  · rw [if_pos e, if_pos (nI_le e (by omega))]
  · rw [if_neg e, if_neg (nI_ge (by omega) (by omega))]
theorem cnl_z {g : Nat → Int32} {t a : Nat} {hi : Int32} (h0 : ¬ g a - 48 < 0) (h9 : g a - 48 ≤ 9) (hlt : a < t) : cnl g hi (t - a) a (nI 0) = (a, -1000000000) := by
  rw [show t - a = (t - (a + 1)) + 1 by omega]
  exact (if_neg h0).trans ((if_pos h9).trans ((if_neg (nI_no (by omega))).trans (if_pos rfl)))
theorem cnl_1 {g : Nat → Int32} {t a d H : Nat} (h0 : ¬ g a - 48 < 0) (h9 : g a - 48 ≤ 9) (eg : g a - 48 = nI d) (hlt : a < t) (hd : d ≤ 9) (h9H : 9 ≤ H) (hH : H ≤ 99999) : cnl g (nI H) (t - a) a (-1000000000) = cnl g (nI H) (t - (a + 1)) (a + 1) (nI d) := by
  rw [show t - a = (t - (a + 1)) + 1 by omega]
  refine (if_neg h0).trans ((if_pos h9).trans ((if_pos rfl).trans ((if_neg (by decide)).trans ?_)))
  rw [eg, if_pos (nI_le (by omega) (by omega))]
theorem nlp_st {g : Nat → Int32} {t j a : Nat} {v : Int32} (h : inI (hr g t a) 48 57 = 0) : nlp g t (j + 1) a v = (a, v, j + 1) := if_pos h
theorem nlp_go {g : Nat → Int32} {t j a d m : Nat} (h : ¬ inI (hr g t a) 48 57 = 0) (hj : ¬ j = 4) (hm : 0 < m) (hm2 : m ≤ 99999) (e : hr g t a = nI (48 + d)) : nlp g t (j + 1) a (nI m) = nlp g t j (a + 1) (nI (10 * m + d)) := by
  refine (if_neg h).trans ((if_neg hj).trans ((if_neg ?_).trans ?_))
  · intro z
    exact absurd (show nI m ≤ nI 0 from z) (nI_ge hm (by omega))
  · rw [e, dig_next]
theorem nlp_mono (g : Nat → Int32) (t : Nat) : ∀ (k a w : Nat), k ≤ 4 → 1 ≤ w → w < 10 ^ (5 - k) → ∃ w' : Nat, w ≤ w' ∧ w' < 100000 ∧ (nlp g t k a (nI w)).2.1 = nI w' := by
  intro k
  induction k with
  | zero => intro a w hk h1 hw; exact ⟨w, Nat.le_refl _, hw, rfl⟩
  | succ k ih =>
    intro a w hk h1 hw
    have hw5 : w < 100000 := Nat.lt_of_lt_of_le hw (Nat.pow_le_pow_right (by omega) (by omega : 5 - (k + 1) ≤ 5))
    by_cases hd : inI (hr g t a) 48 57 = 0
    · rw [nlp_st hd]
      exact ⟨w, Nat.le_refl _, hw5, rfl⟩
    · obtain ⟨d, hd9, e, -⟩ := dg_y hd
      rw [nlp_go hd (by omega) (by omega) (by omega) e]
      have hp : 10 * w + d < 10 ^ (5 - k) := by
        have e5 : 5 - k = (5 - (k + 1)) + 1 := by omega
        rw [e5, Nat.pow_succ]
        omega
      obtain ⟨w', h2, h3, h4⟩ := ih (a + 1) (10 * w + d) (by omega) (by omega) hp
      exact ⟨w', by omega, h3, h4⟩
theorem cn_n {g : Nat → Int32} {t H : Nat} (hH : H ≤ 99999) : ∀ (j a m : Nat), j ≤ 4 → a ≤ t → m ≤ H → m < 10 ^ (5 - j) → ((m = 0 ∧ j = 4) ∨ 10 ^ (4 - j) ≤ m) →
    (∃ v : Nat, v ≤ H ∧ (nlp g t j a (nI m)).2.1 = nI v ∧ inI (hr g t (nlp g t j a (nI m)).1) 48 57 = 0 ∧ cnl g (nI H) (t - a) a (nI m) = ((nlp g t j a (nI m)).1, nI v))
    ∨ ((cnl g (nI H) (t - a) a (nI m)).2 = -1000000000 ∧ ((∃ v : Nat, H < v ∧ v < 100000 ∧ (nlp g t j a (nI m)).2.1 = nI v) ∨ ¬ inI (hr g t (nlp g t j a (nI m)).1) 48 57 = 0)) := by
  intro j
  induction j with
  | zero =>
    intro a m hj ha hm hm5 hpos
    by_cases hd : inI (hr g t a) 48 57 = 0
    · exact Or.inl ⟨m, hm, rfl, hd, cnl_stop _ _ hd ha⟩
    · obtain ⟨d, hd9, e, eg, h0, h9, hlt⟩ := dg_y hd
      have hp4 : 10000 ≤ m := by
        rcases hpos with ⟨-, z⟩ | z
        · omega
        · exact z
      refine Or.inr ⟨?_, Or.inr hd⟩
      rw [cnl_go h0 h9 eg hlt (by omega) (by omega) hd9 hH, if_neg (by omega)]
  | succ j ih =>
    intro a m hj ha hm hm5 hpos
    by_cases hd : inI (hr g t a) 48 57 = 0
    · rw [nlp_st hd]
      exact Or.inl ⟨m, hm, rfl, hd, cnl_stop _ _ hd ha⟩
    · obtain ⟨d, hd9, e, eg, h0, h9, hlt⟩ := dg_y hd
      by_cases hz : m = 0
      · subst hz
        have en : nlp g t (j + 1) a (nI 0) = (a, nI 0, j + 1) := (if_neg hd).trans ((if_neg (by omega)).trans (if_pos (by decide)))
        rw [en]
        refine Or.inr ⟨?_, Or.inr hd⟩
        rw [cnl_z h0 h9 hlt]
      · rw [nlp_go hd (by omega) (by omega) (by omega) e, cnl_go h0 h9 eg hlt (by omega) (by omega) hd9 hH]
        have hp : 10 * m + d < 10 ^ (5 - j) := by
          have e5 : 5 - j = (5 - (j + 1)) + 1 := by omega
          rw [e5, Nat.pow_succ]
          omega
        by_cases hle : 10 * m + d ≤ H
        · rw [if_pos hle]
          refine ih (a + 1) (10 * m + d) (by omega) hlt hle hp (Or.inr ?_)
          have hq : 10 ^ (4 - (j + 1)) ≤ m := by
            rcases hpos with ⟨z, -⟩ | z
            · exact absurd z hz
            · exact z
          have e4 : 4 - j = (4 - (j + 1)) + 1 := by omega
          rw [e4, Nat.pow_succ]
          omega
        · rw [if_neg hle]
          refine Or.inr ⟨rfl, Or.inl ?_⟩
          obtain ⟨w', h2, h3, h4⟩ := nlp_mono g t j (a + 1) (10 * m + d) (by omega) (by omega) hp
          exact ⟨w', by omega, h3, h4⟩
theorem cn_mn {g : Nat → Int32} {t a H : Nat} (ha : a ≤ t) (ht : t ≤ 300) (h9H : 9 ≤ H) (hH : H ≤ 99999) :
    ((mnum g t a (nI H)).2.2 = -1 ∧ inI (hr g t (mnum g t a (nI H)).1) 48 57 = 0 ∧ cnum g t (skp g t a) (nI H) = ((mnum g t a (nI H)).1, (mnum g t a (nI H)).2.1) ∧ ∃ v : Nat, v ≤ H ∧ (mnum g t a (nI H)).2.1 = nI v)
    ∨ ((cnum g t (skp g t a) (nI H)).2 = -1000000000 ∧ (¬ (mnum g t a (nI H)).2.2 = -1 ∨ ¬ inI (hr g t (mnum g t a (nI H)).1) 48 57 = 0)) := by
  have hs := skp_le g ha
  unfold mnum cnum
  by_cases hd : inI (hr g t (skp g t a)) 48 57 = 0
  · rw [if_pos hd, cnl_stop _ _ hd hs]
    refine Or.inr ⟨rfl, Or.inl (fun z => ?_)⟩
    have h1 : (0 : Int32) ≤ nI (skp g t a) := nI_pos' (by omega)
    rw [show nI (skp g t a) = -1 from z] at h1
    exact absurd h1 (by decide)
  · rw [if_neg hd]
    obtain ⟨d, hd9, e, eg, h0, h9, hlt⟩ := dg_y hd
    have e0 : nlp g t 5 (skp g t a) 0 = nlp g t 4 (skp g t a + 1) (nI d) := by
      show (if inI (hr g t (skp g t a)) 48 57 = 0 then _ else if (4 : Nat) = 4 then nlp g t 4 (skp g t a + 1) (10 * 0 + hr g t (skp g t a) - 48) else _) = _
      rw [if_neg hd, if_pos rfl, e]
      have := dig_next 0 d
      rw [Nat.mul_zero, Nat.zero_add] at this
      rw [← this]
      rfl
    rw [e0, cnl_1 h0 h9 eg hlt hd9 h9H hH]
    obtain ⟨k1, k2, k3, -⟩ := nlp_ok g t 4 (skp g t a + 1) d (by omega) hlt (by omega)
    rcases cn_n (g := g) (t := t) hH 4 (skp g t a + 1) d (by omega) hlt (by omega) (by omega) (by omega) with ⟨v, hv, ev, hnd, ec⟩ | ⟨hno, hbad⟩
    · refine Or.inl ⟨?_, hnd, ?_, v, hv, ?_⟩
      · unfold ntl
        rw [ev, if_pos (nI_le hv (by omega)), if_pos hnd]
        split <;> rfl
      · rw [ec]
        unfold ntl
        rw [ev, if_pos (nI_le hv (by omega)), if_pos hnd]
        split <;> rfl
      · unfold ntl
        rw [ev, if_pos (nI_le hv (by omega)), if_pos hnd]
        split <;> rfl
    · refine Or.inr ⟨hno, ?_⟩
      rcases hbad with ⟨v, hv, hv5, ev⟩ | z
      · refine Or.inl ?_
        unfold ntl
        rw [ev, if_neg (nI_ge hv (by omega))]
        intro z
        have h1 := nIp (a := (nlp g t 4 (skp g t a + 1) (nI d)).1) (by omega) (by omega)
        rw [show nI (nlp g t 4 (skp g t a + 1) (nI d)).1 - 1 = -1 from z] at h1
        exact absurd h1 (by decide)
      · exact Or.inr z
theorem fkb_no {x : Int32} (h : fkb x) : ¬ x = -1000000000 := by
  rcases h with ⟨m, hm, rfl⟩ | ⟨f, hf, rfl⟩
  · exact nI_no (by omega)
  · have z : ∀ k : Fin 20, ¬ (-1 - nI k : Int32) = -1000000000 := by decide +kernel
    exact z ⟨f, hf⟩
/-- the class's factor and the reference's -/
theorem cf_mf {g : Nat → Int32} {t a : Nat} (ha : a ≤ t) (ht : t ≤ 300) :
    (mfW g t a = -1 ∧ inI (hr g t (mfA g t a)) 48 57 = 0 ∧ cfA g t a = mfA g t a ∧ cfV g t a = mfV g t a ∧ ¬ cfV g t a = -1000000000 ∧ mfA g t a ≤ t)
    ∨ (cfV g t a = -1000000000 ∧ (¬ mfW g t a = -1 ∨ ¬ inI (hr g t (mfA g t a)) 48 57 = 0)) := by
  have hle := (mf_ok (g := g) ha ht).1
  have hs := skp_le g ha
  unfold mfA at hle
  unfold mfW mfA mfV cfA cfV
  by_cases h : hr g t (skp g t a) = 102
  · have hlt : skp g t a + 1 ≤ t := hr_lt2 h (by decide)
    rw [if_pos h] at hle
    rw [if_pos h, if_pos h, if_pos h, if_pos h, if_pos h]
    rcases cn_mn (g := g) (H := 19) hlt ht (by omega) (by omega) with ⟨h1, h2, h3, v, hv, h4⟩ | ⟨h1, h2⟩
    · have h3' : cnum g t (skp g t (skp g t a + 1)) 19 = ((mnum g t (skp g t a + 1) 19).1, (mnum g t (skp g t a + 1) 19).2.1) := h3
      have h4' : (mnum g t (skp g t a + 1) 19).2.1 = nI v := h4
      have hne : ¬ (mnum g t (skp g t a + 1) 19).2.1 = -1000000000 := by rw [h4']; exact nI_no (by omega)
      rw [h3']
      refine Or.inl ⟨h1, h2, rfl, if_neg hne, ?_, hle⟩
      rw [if_neg hne]
      exact fkb_no (Or.inr ⟨v, by omega, by rw [h4']⟩)
    · have h1' : (cnum g t (skp g t (skp g t a + 1)) 19).2 = -1000000000 := h1
      rw [if_pos h1']
      exact Or.inr ⟨rfl, h2⟩
  · rw [if_neg h] at hle
    rw [if_neg h, if_neg h, if_neg h, if_neg h, if_neg h]
    rcases cn_mn (g := g) (H := 99999) hs ht (by omega) (by omega) with ⟨h1, h2, h3, v, hv, h4⟩ | ⟨h1, h2⟩
    · have h3' : cnum g t (skp g t (skp g t a)) 99999 = ((mnum g t (skp g t a) 99999).1, (mnum g t (skp g t a) 99999).2.1) := h3
      have h4' : (mnum g t (skp g t a) 99999).2.1 = nI v := h4
      rw [h3']
      refine Or.inl ⟨h1, h2, rfl, rfl, ?_, hle⟩
      rw [h4']
      exact nI_no (by omega)
    · exact Or.inr ⟨h1, h2⟩
theorem skp_dig {g : Nat → Int32} {t a : Nat} (h : ¬ inI (hr g t a) 48 57 = 0) : skp g t a = a := by
  have hlt := hr_lt h
  unfold skp
  rw [show t - a = (t - a - 1) + 1 by omega]
  refine if_neg (fun z => h ?_)
  rw [z]
  decide
theorem dig_ne {g : Nat → Int32} {t a : Nat} {x : Int32} (h : ¬ inI (hr g t a) 48 57 = 0) (hx : inI x 48 57 = 0) : ¬ hr g t a = x := fun z => h (by rw [z]; exact hx)
/-- the class's answer x and the reference's y: alike, or the class stops where the reference finds a digit in its way -/
def CP (g : Nat → Int32) (t : Nat) (x y : Option (List Tm × Nat)) : Prop := (∃ q, x = some q ∧ y = some q) ∨ (x = none ∧ (y = none ∨ ∃ q, y = some q ∧ ¬ inI (hr g t (skp g t q.2)) 48 57 = 0))
theorem CP_map {g : Nat → Int32} {t : Nat} {x y : Option (List Tm × Nat)} (tm : Tm) (h : CP g t x y) : CP g t (x.map (fun z => (tm :: z.1, z.2))) (y.map (fun z => (tm :: z.1, z.2))) := by
  rcases h with ⟨q, rfl, rfl⟩ | ⟨rfl, rfl | ⟨q, rfl, hq⟩⟩
  · exact Or.inl ⟨_, rfl, rfl⟩
  · exact Or.inr ⟨rfl, Or.inl rfl⟩
  · exact Or.inr ⟨rfl, Or.inr ⟨_, rfl, hq⟩⟩
theorem cs_ps {g : Nat → Int32} {t : Nat} (ht : t ≤ 300) : ∀ (n : Nat) (how : Int32) (a : Nat), a ≤ t → CP g t (csum g t n how a) (psum g t n how a) := by
  intro n
  induction n with
  | zero => intro how a ha; exact Or.inr ⟨rfl, Or.inl rfl⟩
  | succ n ih =>
    intro how a ha
    rcases cf_mf ha ht with ⟨w1, d1, eA, eV, hne, hAt⟩ | ⟨hno, hbad⟩
    · by_cases h47 : hr g t (skp g t (mfA g t a)) = 47
      · have ha2 : skp g t (mfA g t a) + 1 ≤ t := hr_lt2 h47 (by decide)
        rcases cf_mf ha2 ht with ⟨w2, d2, eA2, eV2, hne2, hAt2⟩ | ⟨hno2, hbad2⟩
        · have hc : ctm g t how a = some ((how, mfV g t a, some (mfV g t (skp g t (mfA g t a) + 1))), mfA g t (skp g t (mfA g t a) + 1)) := by
            unfold ctm
            rw [if_neg hne, eA, if_pos h47, if_neg hne2, eA2, eV, eV2]
          rw [csum_s hc]
          conv =>
            arg 4
            unfold psum
          rw [if_pos w1, if_pos h47, if_pos w2]
          by_cases h0 : n = 0
          · rw [if_pos h0, if_pos h0]
            exact Or.inl ⟨_, rfl, rfl⟩
          · rw [if_neg h0, if_neg h0]
            have hss := skp_skp (g := g) hAt2
            show CP g t (if hr g t (skp g t (mfA g t (skp g t (mfA g t a) + 1))) = 45 then _ else if hr g t (skp g t (skp g t (mfA g t (skp g t (mfA g t a) + 1)))) = 43 then _ else some (_, skp g t (skp g t (mfA g t (skp g t (mfA g t a) + 1))))) _
            rw [hss]
            by_cases h45 : hr g t (skp g t (mfA g t (skp g t (mfA g t a) + 1))) = 45
            · rw [if_pos h45, if_neg (by rw [h45]; decide), if_pos h45]
              exact CP_map _ (ih 2 _ (hr_lt2 h45 (by decide)))
            · rw [if_neg h45]
              by_cases h43 : hr g t (skp g t (mfA g t (skp g t (mfA g t a) + 1))) = 43
              · rw [if_pos h43, if_pos h43]
                exact CP_map _ (ih 1 _ (hr_lt2 h43 (by decide)))
              · rw [if_neg h43, if_neg h43, if_neg h45]
                exact Or.inl ⟨_, rfl, rfl⟩
        · have hc : ctm g t how a = none := by
            unfold ctm
            rw [if_neg hne, eA, if_pos h47, if_pos hno2]
          rw [csum_n hc]
          refine Or.inr ⟨rfl, ?_⟩
          by_cases w2 : mfW g t (skp g t (mfA g t a) + 1) = -1
          · have hd2 := hbad2.resolve_left (fun z => z w2)
            have e2 := skp_dig hd2
            refine Or.inr ?_
            conv =>
              arg 1
              intro q
              arg 1
              lhs
              unfold psum
            rw [if_pos w1, if_pos h47, if_pos w2, e2, if_neg (dig_ne hd2 (by decide)), if_neg (dig_ne hd2 (by decide))]
            split
            · exact ⟨_, rfl, by show ¬ inI (hr g t (skp g t (mfA g t (skp g t (mfA g t a) + 1)))) 48 57 = 0; rw [e2]; exact hd2⟩
            · exact ⟨_, rfl, by show ¬ inI (hr g t (skp g t (mfA g t (skp g t (mfA g t a) + 1)))) 48 57 = 0; rw [e2]; exact hd2⟩
          · refine Or.inl ?_
            conv =>
              lhs
              unfold psum
            rw [if_pos w1, if_pos h47, if_neg w2]
      · have hc : ctm g t how a = some ((how, mfV g t a, none), skp g t (mfA g t a)) := by
          unfold ctm
          rw [if_neg hne, eA, if_neg h47, eV]
        rw [csum_s hc]
        conv =>
          arg 4
          unfold psum
        rw [if_pos w1, if_neg h47]
        by_cases h0 : n = 0
        · rw [if_pos h0, if_pos h0]
          exact Or.inl ⟨_, rfl, rfl⟩
        · rw [if_neg h0, if_neg h0]
          have hss := skp_skp (g := g) hAt
          show CP g t (if hr g t (skp g t (skp g t (mfA g t a))) = 45 then _ else if hr g t (skp g t (skp g t (skp g t (mfA g t a)))) = 43 then _ else some (_, skp g t (skp g t (skp g t (mfA g t a))))) _
          rw [hss, hss]
          by_cases h45 : hr g t (skp g t (mfA g t a)) = 45
          · rw [if_pos h45, if_neg (by rw [h45]; decide), if_pos h45]
            exact CP_map _ (ih 2 _ (hr_lt2 h45 (by decide)))
          · rw [if_neg h45]
            by_cases h43 : hr g t (skp g t (mfA g t a)) = 43
            · rw [if_pos h43, if_pos h43]
              exact CP_map _ (ih 1 _ (hr_lt2 h43 (by decide)))
            · rw [if_neg h43, if_neg h43, if_neg h45]
              exact Or.inl ⟨_, rfl, rfl⟩
    · have hc : ctm g t how a = none := by
        unfold ctm
        rw [if_pos hno]
      rw [csum_n hc]
      refine Or.inr ⟨rfl, ?_⟩
      by_cases w1 : mfW g t a = -1
      · have hd1 := hbad.resolve_left (fun z => z w1)
        have e1 := skp_dig hd1
        refine Or.inr ?_
        conv =>
          arg 1
          intro q
          arg 1
          lhs
          unfold psum
        rw [if_pos w1, e1, if_neg (dig_ne hd1 (by decide)), e1, if_neg (dig_ne hd1 (by decide)), if_neg (dig_ne hd1 (by decide))]
        split
        · exact ⟨_, rfl, by show ¬ inI (hr g t (skp g t (mfA g t a))) 48 57 = 0; rw [e1]; exact hd1⟩
        · exact ⟨_, rfl, by show ¬ inI (hr g t (skp g t (mfA g t a))) 48 57 = 0; rw [e1]; exact hd1⟩
      · refine Or.inl ?_
        conv =>
          lhs
          unfold psum
        rw [if_neg w1]
