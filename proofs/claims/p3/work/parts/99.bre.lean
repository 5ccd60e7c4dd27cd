/-! ===== the class's bytes and the reference's: the text reads alike ===== -/
def Bre (g g' : Nat → Int32) (t : Nat) : Prop := ∀ j, j < t → bre (g j) (g' j)
theorem hb_eq {g g' : Nat → Int32} {t : Nat} (hE : Bre g g' t) (a : Nat) {c : Nat} (hc : c < 128) : hr g t a = nI c ↔ hr g' t a = nI c := by
  by_cases ha : a < t
  · rw [hr_g ha, hr_g ha]
    rcases hE a ha with ⟨d, hd, h1, h2⟩ | ⟨h1, d, hd1, hd2, h2⟩
    · rw [h1, h2]
    · constructor
      · intro z
        rw [z] at h1
        exact absurd h1 (nI_pos (by omega))
      · intro z
        rw [h2] at z
        have := (nI_eq (by omega) (by omega)).mp z
        omega
  · have e1 : hr g t a = -1 := if_pos (by omega)
    have e2 : hr g' t a = -1 := if_pos (by omega)
    rw [e1, e2]
theorem hb_d {g g' : Nat → Int32} {t : Nat} (hE : Bre g g' t) (a : Nat) : inI (hr g t a) 48 57 = inI (hr g' t a) 48 57 := by
  by_cases ha : a < t
  · rw [hr_g ha, hr_g ha]
    rcases hE a ha with ⟨d, hd, h1, h2⟩ | ⟨h1, d, hd1, hd2, h2⟩
    · rw [h1, h2]
    · have z : inI (nI d) 48 57 = 0 := in_bad (Or.inr (show ¬ nI d ≤ nI 57 from nI_ge (by omega) (by omega)))
      rw [in_bad (Or.inl (Int32.lt_trans h1 (by decide))), h2, z]
  · have e1 : hr g t a = -1 := if_pos (by omega)
    have e2 : hr g' t a = -1 := if_pos (by omega)
    rw [e1, e2]
theorem hb_v {g g' : Nat → Int32} {t : Nat} (hE : Bre g g' t) {a : Nat} (h : ¬ inI (hr g t a) 48 57 = 0) : hr g t a = hr g' t a := by
  obtain ⟨d, hd, e⟩ := dig_of h
  rw [e, (hb_eq hE a (by omega)).mp e]
theorem skf_b {g g' : Nat → Int32} {t : Nat} (hE : Bre g g' t) : ∀ k a, skf g t k a = skf g' t k a := by
  intro k
  induction k with
  | zero => intro a; rfl
  | succ k ih =>
    intro a
    by_cases h : hr g t a = 32
    · have h' : hr g' t a = 32 := (hb_eq hE a (c := 32) (by omega)).mp h
      exact (if_pos h).trans ((ih (a + 1)).trans (if_pos h').symm)
    · have h' : ¬ hr g' t a = 32 := fun z => h ((hb_eq hE a (c := 32) (by omega)).mpr z)
      exact (if_neg h).trans (if_neg h').symm
theorem skp_b {g g' : Nat → Int32} {t : Nat} (hE : Bre g g' t) (a : Nat) : skp g t a = skp g' t a := skf_b hE (t - a) a
theorem nlp_b {g g' : Nat → Int32} {t : Nat} (hE : Bre g g' t) : ∀ k a v, nlp g t k a v = nlp g' t k a v := by
  intro k
  induction k with
  | zero => intro a v; rfl
  | succ k ih =>
    intro a v
    have hd := hb_d hE a
    by_cases h : inI (hr g t a) 48 57 = 0
    · have h' : inI (hr g' t a) 48 57 = 0 := by rw [← hd]; exact h
      exact (if_pos h).trans (if_pos h').symm
    · have h' : ¬ inI (hr g' t a) 48 57 = 0 := by rw [← hd]; exact h
      have hv := hb_v hE h
      by_cases h4 : k = 4
      · refine (if_neg h).trans ((if_pos h4).trans (Eq.trans ?_ ((if_neg h').trans (if_pos h4)).symm))
        rw [hv]; exact ih _ _
      · by_cases h0 : v ≤ 0
        · exact (if_neg h).trans ((if_neg h4).trans ((if_pos h0).trans ((if_neg h').trans ((if_neg h4).trans (if_pos h0))).symm))
        · refine (if_neg h).trans ((if_neg h4).trans ((if_neg h0).trans (Eq.trans ?_ ((if_neg h').trans ((if_neg h4).trans (if_neg h0))).symm)))
          rw [hv]; exact ih _ _
theorem ntl_b {g g' : Nat → Int32} {t : Nat} (hE : Bre g g' t) (a : Nat) (v : Int32) (d : Nat) (bd : Int32) : ntl g t a v d bd = ntl g' t a v d bd := by
  unfold ntl
  rw [hb_d hE a]
theorem mnum_b {g g' : Nat → Int32} {t : Nat} (hE : Bre g g' t) (a : Nat) (bd : Int32) : mnum g t a bd = mnum g' t a bd := by
  unfold mnum
  rw [skp_b hE a, hb_d hE, nlp_b hE, ntl_b hE]
theorem mfA_b {g g' : Nat → Int32} {t : Nat} (hE : Bre g g' t) (a : Nat) : mfA g t a = mfA g' t a := by
  have e : (hr g t (skp g' t a) = 102) = (hr g' t (skp g' t a) = 102) := propext (hb_eq hE (skp g' t a) (c := 102) (by omega))
  unfold mfA
  rw [skp_b hE a, mnum_b hE, mnum_b hE]
  by_cases h : hr g' t (skp g' t a) = 102
  · rw [if_pos h, if_pos (show hr g t (skp g' t a) = 102 by rw [e]; exact h)]
  · rw [if_neg h, if_neg (show ¬ hr g t (skp g' t a) = 102 by rw [e]; exact h)]
theorem mfV_b {g g' : Nat → Int32} {t : Nat} (hE : Bre g g' t) (a : Nat) : mfV g t a = mfV g' t a := by
  have e : (hr g t (skp g' t a) = 102) = (hr g' t (skp g' t a) = 102) := propext (hb_eq hE (skp g' t a) (c := 102) (by omega))
  unfold mfV
  rw [skp_b hE a, mnum_b hE, mnum_b hE]
  by_cases h : hr g' t (skp g' t a) = 102
  · rw [if_pos h, if_pos (show hr g t (skp g' t a) = 102 by rw [e]; exact h)]
  · rw [if_neg h, if_neg (show ¬ hr g t (skp g' t a) = 102 by rw [e]; exact h)]
theorem mfW_b {g g' : Nat → Int32} {t : Nat} (hE : Bre g g' t) (a : Nat) : mfW g t a = mfW g' t a := by
  have e : (hr g t (skp g' t a) = 102) = (hr g' t (skp g' t a) = 102) := propext (hb_eq hE (skp g' t a) (c := 102) (by omega))
  unfold mfW
  rw [skp_b hE a, mnum_b hE, mnum_b hE]
  by_cases h : hr g' t (skp g' t a) = 102
  · rw [if_pos h, if_pos (show hr g t (skp g' t a) = 102 by rw [e]; exact h)]
  · rw [if_neg h, if_neg (show ¬ hr g t (skp g' t a) = 102 by rw [e]; exact h)]
theorem psum_b {g g' : Nat → Int32} {t : Nat} (hE : Bre g g' t) : ∀ n how a, psum g t n how a = psum g' t n how a := by
  have t47 : ∀ a, (hr g t a = 47) = (hr g' t a = 47) := fun a => propext (hb_eq hE a (c := 47) (by omega))
  have t43 : ∀ a, (hr g t a = 43) = (hr g' t a = 43) := fun a => propext (hb_eq hE a (c := 43) (by omega))
  have t45 : ∀ a, (hr g t a = 45) = (hr g' t a = 45) := fun a => propext (hb_eq hE a (c := 45) (by omega))
  intro n
  induction n with
  | zero => intro how a; rfl
  | succ n ih =>
    intro how a
    unfold psum
    simp only [t47, t43, t45, mfA_b hE, mfV_b hE, mfW_b hE, skp_b hE, ih]
theorem prule_b {g g' : Nat → Int32} {t : Nat} (hE : Bre g g' t) (a : Nat) : prule g t a = prule g' t a := by
  have e : ∀ (c : Nat), c < 128 → ∀ a, (hr g t a = nI c) = (hr g' t a = nI c) := fun c hc a => propext (hb_eq hE a hc)
  have t60 : ∀ a, (hr g t a = 60) = (hr g' t a = 60) := e 60 (by omega)
  have t61 : ∀ a, (hr g t a = 61) = (hr g' t a = 61) := e 61 (by omega)
  have t33 : ∀ a, (hr g t a = 33) = (hr g' t a = 33) := e 33 (by omega)
  have t59 : ∀ a, (hr g t a = 59) = (hr g' t a = 59) := e 59 (by omega)
  unfold prule
  rw [psum_b hE]
  cases psum g' t 4 1 a with
  | none => rfl
  | some q =>
    simp only [t60, t61, t33, t59, skp_b hE, psum_b hE]
    by_cases h : hr g' t (skp g' t q.2) = 60 ∨ hr g' t (skp g' t q.2) = 61 ∨ hr g' t (skp g' t q.2) = 33
    · rw [if_pos h, if_pos h]
      have ev : hr g t (skp g' t q.2) = hr g' t (skp g' t q.2) := by
        rcases h with z | z | z
        · rw [z, t60]; exact z
        · rw [z, t61]; exact z
        · rw [z, t33]; exact z
      rw [ev]
    · rw [if_neg h, if_neg h]
theorem crul_prul {g g' : Nat → Int32} {t : Nat} (hE : Bre g g' t) : ∀ (n a : Nat) (rs : List Ru), crul g t n a rs = prul g' t n a rs := by
  intro n
  induction n with
  | zero => intro a rs; rfl
  | succ n ih =>
    intro a rs
    have es := skp_b hE a
    by_cases h : t ≤ skp g t a
    · have h' : hr g' t (skp g' t a) < 0 := by
        rw [← es]
        have e : hr g' t (skp g t a) = -1 := if_pos h
        rw [e]; decide
      exact (if_pos h).trans (if_pos h').symm
    · have h' : ¬ hr g' t (skp g' t a) < 0 := by
        rw [← es, hr_g (by omega)]
        rcases hE (skp g t a) (by omega) with ⟨d, hd, h1, h2⟩ | ⟨h1, d, hd1, hd2, h2⟩
        · rw [h2]; exact nI_pos (by omega)
        · rw [h2]; exact nI_pos (by omega)
      refine (if_neg h).trans (Eq.trans ?_ (if_neg h').symm)
      rw [prule_b hE, es]
      by_cases h20 : rs.length = 20
      · rw [if_pos h20, if_pos h20]
      · rw [if_neg h20, if_neg h20]
        cases prule g' t (skp g' t a) with
        | none => rfl
        | some q => exact ih _ _
/-- what is read is in order -/
def RuO (rs : List Ru) : Prop := ∀ (q : Nat) (x : Ru), rs[q]? = some x → (∀ y ∈ x.1, tok y) ∧ ∀ y ∈ x.2.2, tok y
theorem prule_tok {g : Nat → Int32} {t a : Nat} {q : Ru × Nat} (ht : t ≤ 300) (ha : a ≤ t) (h : prule g t a = some q) : (∀ y ∈ q.1.1, tok y) ∧ ∀ y ∈ q.1.2.2, tok y := by
  cases h1 : csum g t 4 1 a with
  | none => rw [pr_n1 ht ha h1] at h; cases h
  | some p =>
    by_cases hs : hr g t (skp g t p.2) = 60 ∨ hr g t (skp g t p.2) = 61 ∨ hr g t (skp g t p.2) = 33
    · have hlt : skp g t p.2 + 1 ≤ t := by
        rcases hs with z | z | z
        · exact hr_lt2 z (by decide)
        · exact hr_lt2 z (by decide)
        · exact hr_lt2 z (by decide)
      cases h2 : csum g t 4 1 (skp g t p.2 + 1) with
      | none => rw [pr_n3 ht ha h1 hs hlt h2] at h; cases h
      | some u =>
        rw [pr_e ht ha h1 hs hlt h2] at h
        split at h
        · cases h
          exact ⟨csum_tok 4 1 a p (Or.inl rfl) h1, csum_tok 4 1 _ u (Or.inl rfl) h2⟩
        · cases h
    · rw [pr_n2 ht ha h1 hs] at h; cases h
theorem prule_le {g : Nat → Int32} {t a : Nat} {q : Ru × Nat} (ht : t ≤ 300) (h : prule g t a = some q) : q.2 ≤ t := by
  unfold prule at h
  split at h
  · cases h
  · split at h
    · split at h
      · cases h
      · split at h
        · rename_i h59
          cases h
          exact hr_lt2 h59 (by decide)
        · cases h
    · cases h
theorem crul_ok {g : Nat → Int32} {t : Nat} (ht : t ≤ 300) : ∀ (n a : Nat) (rs rs' : List Ru), a ≤ t → rs.length ≤ 20 → Lk rs → RuO rs → crul g t n a rs = some rs' → rs'.length ≤ 20 ∧ Lk rs' ∧ RuO rs' := by
  intro n
  induction n with
  | zero => intro a rs rs' ha hl hk ho h; cases h
  | succ n ih =>
    intro a rs rs' ha hl hk ho h
    by_cases h1 : t ≤ skp g t a
    · rw [crul_e h1] at h
      cases h
      exact ⟨hl, hk, ho⟩
    · by_cases h2 : rs.length = 20
      · rw [crul_f h1 h2] at h; cases h
      · cases hp : prule g t (skp g t a) with
        | none => rw [crul_n h1 hp] at h; cases h
        | some q =>
          rw [crul_s h1 h2 hp] at h
          obtain ⟨-, g2, g3⟩ := prule_gt ht (skp_le _ ha) hp
          obtain ⟨o1, o2⟩ := prule_tok ht (skp_le _ ha) hp
          refine ih q.2 (rs ++ [q.1]) rs' (prule_le ht hp) (by rw [len_snoc]; omega) (Lk_snoc hk g2 g3) (fun i x hx => ?_) h
          by_cases e : i < rs.length
          · rw [List.getElem?_append_left e] at hx
            exact ho i x hx
          · have hi : i = rs.length := by
              have := (List.getElem?_eq_some_iff.mp hx).1
              rw [List.length_append, List.length_singleton] at this
              omega
            subst hi
            rw [List.getElem?_append_right (Nat.le_refl _), Nat.sub_self] at hx
            cases hx
            exact ⟨o1, o2⟩
