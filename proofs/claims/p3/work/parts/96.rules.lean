/-! ===== rules: what the class reads ===== -/
theorem csum_le {g : Nat → Int32} {t : Nat} : ∀ (n : Nat) (how : Int32) (a : Nat) (q : List Tm × Nat), a ≤ t → csum g t n how a = some q → q.2 ≤ t := by
  intro n
  induction n with
  | zero => intro how a q ha h; cases h
  | succ n ih =>
    intro how a q ha h
    cases hc : ctm g t how a with
    | none => rw [csum_n hc] at h; cases h
    | some p =>
      have hp := (ctm_le ha hc).1
      rw [csum_s hc] at h
      split at h
      · cases h; exact hp
      · split at h
        · rename_i h45
          cases hs : csum g t n 2 (skp g t p.2 + 1) with
          | none => rw [hs] at h; cases h
          | some z => rw [hs] at h; cases h; exact ih _ _ z (hr_lt2 h45 (by decide)) hs
        · split at h
          · rename_i h43
            cases hs : csum g t n 1 (skp g t (skp g t p.2) + 1) with
            | none => rw [hs] at h; cases h
            | some z => rw [hs] at h; cases h; exact ih _ _ z (hr_lt2 h43 (by decide)) hs
          · cases h
            exact skp_le _ (skp_le _ hp)
theorem csum_tok {g : Nat → Int32} {t : Nat} : ∀ (n : Nat) (how : Int32) (a : Nat) (q : List Tm × Nat), (how = 1 ∨ how = 2) → csum g t n how a = some q → ∀ y ∈ q.1, tok y := by
  intro n
  induction n with
  | zero => intro how a q ha h; cases h
  | succ n ih =>
    intro how a q hh h
    cases hc : ctm g t how a with
    | none => rw [csum_n hc] at h; cases h
    | some p =>
      have hp := ctm_tok hh hc
      rw [csum_s hc] at h
      split at h
      · cases h
        intro y hy
        rw [List.mem_singleton.mp hy]
        exact hp
      · split at h
        · cases hs : csum g t n 2 (skp g t p.2 + 1) with
          | none => rw [hs] at h; cases h
          | some z =>
            rw [hs] at h; cases h
            intro y hy
            rcases List.mem_cons.mp hy with e | e
            · rw [e]; exact hp
            · exact ih _ _ z (Or.inr rfl) hs y e
        · split at h
          · cases hs : csum g t n 1 (skp g t (skp g t p.2) + 1) with
            | none => rw [hs] at h; cases h
            | some z =>
              rw [hs] at h; cases h
              intro y hy
              rcases List.mem_cons.mp hy with e | e
              · rw [e]; exact hp
              · exact ih _ _ z (Or.inl rfl) hs y e
          · cases h
            intro y hy
            rw [List.mem_singleton.mp hy]
            exact hp
theorem ps_of {g : Nat → Int32} {t a : Nat} {q : List Tm × Nat} (ht : t ≤ 300) (ha : a ≤ t) (h : csum g t 4 1 a = some q) : psum g t 4 1 a = some q := by
  rcases cs_ps ht 4 1 a ha (g := g) with ⟨p, h1, h2⟩ | ⟨h1, -⟩
  · rw [h] at h1
    cases h1
    exact h2
  · rw [h] at h1
    cases h1
theorem ps_no {g : Nat → Int32} {t a : Nat} (ht : t ≤ 300) (ha : a ≤ t) (h : csum g t 4 1 a = none) : psum g t 4 1 a = none ∨ ∃ q, psum g t 4 1 a = some q ∧ ¬ inI (hr g t (skp g t q.2)) 48 57 = 0 := by
  rcases cs_ps ht 4 1 a ha (g := g) with ⟨p, h1, h2⟩ | ⟨-, h2⟩
  · rw [h] at h1
    cases h1
  · exact h2
def sgn3 (x : Int32) : Prop := x = 60 ∨ x = 61 ∨ x = 33
theorem pr_n1 {g : Nat → Int32} {t a : Nat} (ht : t ≤ 300) (ha : a ≤ t) (h : csum g t 4 1 a = none) : prule g t a = none := by
  unfold prule
  rcases ps_no ht ha h with z | ⟨q, z, hd⟩
  · rw [z]
  · rw [z]
    refine if_neg ?_
    rintro (y | y | y)
    · exact dig_ne hd (by decide) y
    · exact dig_ne hd (by decide) y
    · exact dig_ne hd (by decide) y
theorem pr_n2 {g : Nat → Int32} {t a : Nat} {q : List Tm × Nat} (ht : t ≤ 300) (ha : a ≤ t) (h : csum g t 4 1 a = some q) (hs : ¬ (hr g t (skp g t q.2) = 60 ∨ hr g t (skp g t q.2) = 61 ∨ hr g t (skp g t q.2) = 33)) : prule g t a = none := by
  unfold prule
  rw [ps_of ht ha h]
  exact if_neg hs
theorem pr_n3 {g : Nat → Int32} {t a : Nat} {q : List Tm × Nat} (ht : t ≤ 300) (ha : a ≤ t) (h : csum g t 4 1 a = some q) (hs : hr g t (skp g t q.2) = 60 ∨ hr g t (skp g t q.2) = 61 ∨ hr g t (skp g t q.2) = 33) (hlt : skp g t q.2 + 1 ≤ t) (h2 : csum g t 4 1 (skp g t q.2 + 1) = none) : prule g t a = none := by
  unfold prule
  rw [ps_of ht ha h]
  refine (if_pos hs).trans ?_
  rcases ps_no ht hlt h2 with z | ⟨u, z, hd⟩
  · rw [z]
  · rw [z]
    exact if_neg (dig_ne hd (by decide))
theorem pr_e {g : Nat → Int32} {t a : Nat} {q u : List Tm × Nat} (ht : t ≤ 300) (ha : a ≤ t) (h : csum g t 4 1 a = some q) (hs : hr g t (skp g t q.2) = 60 ∨ hr g t (skp g t q.2) = 61 ∨ hr g t (skp g t q.2) = 33) (hlt : skp g t q.2 + 1 ≤ t) (h2 : csum g t 4 1 (skp g t q.2 + 1) = some u) : prule g t a = if hr g t (skp g t u.2) = 59 then some ((q.1, hr g t (skp g t q.2), u.1), skp g t u.2 + 1) else none := by
  unfold prule
  rw [ps_of ht ha h]
  refine (if_pos hs).trans ?_
  rw [ps_of ht hlt h2]
/-- the rules of a text, as the class reads them -/
def crul (g : Nat → Int32) (t : Nat) : Nat → Nat → List Ru → Option (List Ru)
  | 0, _, _ => none
  | n + 1, a, rs => if t ≤ skp g t a then some rs else if rs.length = 20 then none else (match prule g t (skp g t a) with
    | none => none
    | some q => crul g t n q.2 (rs ++ [q.1]))
theorem crul_e {g : Nat → Int32} {t n a : Nat} {rs : List Ru} (h : t ≤ skp g t a) : crul g t (n + 1) a rs = some rs := if_pos h
theorem crul_f {g : Nat → Int32} {t n a : Nat} {rs : List Ru} (h : ¬ t ≤ skp g t a) (h2 : rs.length = 20) : crul g t (n + 1) a rs = none := (if_neg h).trans (if_pos h2)
theorem crul_n {g : Nat → Int32} {t n a : Nat} {rs : List Ru} (h : ¬ t ≤ skp g t a) (h2 : prule g t (skp g t a) = none) : crul g t (n + 1) a rs = none := by
  refine (if_neg h).trans ?_
  split
  · rfl
  · rw [h2]
theorem crul_s {g : Nat → Int32} {t n a : Nat} {rs : List Ru} {q : Ru × Nat} (h : ¬ t ≤ skp g t a) (h3 : ¬ rs.length = 20) (h2 : prule g t (skp g t a) = some q) : crul g t (n + 1) a rs = crul g t n q.2 (rs ++ [q.1]) := by
  refine (if_neg h).trans ((if_neg h3).trans ?_)
  rw [h2]
/-- the rows of the book bo alone may differ -/
def Abw (bo : Nat) (β1 β : Nat → Nat → Int32) : Prop := ∀ x, x < bo + 1 ∨ bo + 6 < x → β1 x = β x
theorem Abw_t {bo : Nat} {β2 β1 β : Nat → Nat → Int32} (h : Abw bo β2 β1) (h2 : Abw bo β1 β) : Abw bo β2 β := fun x hx => (h x hx).trans (h2 x hx)
theorem Ab_w {bo : Nat} {β1 β : Nat → Nat → Int32} (h : Ab bo β1 β) : Abw bo β1 β := fun x hx => h x (by omega)
theorem Abw_c {bo : Nat} {β : Nat → Nat → Int32} {f : Nat → Int32} : Abw bo (upa β (bo + 1) f) β := fun x hx => upa_n (by omega)
theorem stR_w {bo q : Nat} {β : Nat → Nat → Int32} : Ab bo (stR bo β q) β := fun x hx => by
  unfold stR
  rw [upa_n (by omega), upa_n (by omega)]
theorem stR_a (bo : Nat) (β : Nat → Nat → Int32) (q : Nat) : stR bo β q (bo + 3) (2 * q) = nI 0 := by
  unfold stR
  rw [upa_s, pk_un (by omega), pk_us]
  rfl
theorem stR_b (bo : Nat) (β : Nat → Nat → Int32) (q : Nat) : stR bo β q (bo + 3) (2 * q + 1) = nI 0 := by
  unfold stR
  rw [upa_s, pk_us]
  rfl
theorem stR_tj {bo q j : Nat} {β : Nat → Nat → Int32} (h : j < 2 * q) : stR bo β q (bo + 3) j = β (bo + 3) j := by
  unfold stR
  rw [upa_s, pk_un (by omega), pk_un (by omega)]
theorem stR_f (bo : Nat) (β : Nat → Nat → Int32) (q : Nat) : stR bo β q (bo + 2) q = 0 := by
  unfold stR
  rw [upa_n (by omega), upa_s, pk_us]
theorem stR_fj {bo q j : Nat} {β : Nat → Nat → Int32} (h : j ≠ q) : stR bo β q (bo + 2) j = β (bo + 2) j := by
  unfold stR
  rw [upa_n (by omega), upa_s, pk_un h]
theorem stR_x {bo q x : Nat} {β : Nat → Nat → Int32} (h2 : x ≠ bo + 2) (h3 : x ≠ bo + 3) : stR bo β q x = β x := by
  unfold stR
  rw [upa_n h3, upa_n h2]
theorem told_0 : Told 0 [] := fun f hf => ⟨fun z => by rw [xhs_0 hf] at z; exact absurd z (by decide), fun ⟨y, hy, _⟩ => by cases hy⟩
/-- one rule more in the book -/
theorem RuX_snoc {bo : Nat} {β1 β2 β4 : Nat → Nat → Int32} {rs : List Ru} {p w : List Tm} {x : Int32} (hX : RuX (β1 (bo + 1)) (β1 (bo + 2)) (β1 (bo + 3)) (β1 (bo + 4)) (β1 (bo + 5)) (β1 (bo + 6)) rs) (hLk : Lk rs) (hp : p.length ≤ 4)
    (h2 : Bst bo (stR bo β1 rs.length) (2 * rs.length) β2 p) (h4 : Bst bo (upa β2 (bo + 1) (upd (β2 (bo + 1)) rs.length x)) (2 * rs.length + 1) β4 w) :
    RuX (β4 (bo + 1)) (β4 (bo + 2)) (β4 (bo + 3)) (β4 (bo + 4)) (β4 (bo + 5)) (β4 (bo + 6)) (rs ++ [(p, x, w)]) := by
  obtain ⟨a1, a2, a3, a4, a5, a6, a7⟩ := h2
  obtain ⟨b1, b2, b3, b4, b5, b6, b7⟩ := h4
  have d1 : 2 * rs.length / 2 = rs.length := by omega
  have d2 : (2 * rs.length + 1) / 2 = rs.length := by omega
  rw [d1] at a6 a7
  rw [d2] at b6 b7
  have u : ∀ k, k ≠ bo + 1 → upa β2 (bo + 1) (upd (β2 (bo + 1)) rs.length x) k = β2 k := fun k hk => upa_n hk
  rw [u (bo + 2) (by omega)] at b6 b7
  rw [u (bo + 3) (by omega)] at b5
  rw [u (bo + 4) (by omega), u (bo + 5) (by omega), u (bo + 6) (by omega)] at b2
  rw [stR_x (by omega) (by omega), stR_x (by omega) (by omega), stR_x (by omega) (by omega)] at a2
  have ec : β4 (bo + 1) = upd (β2 (bo + 1)) rs.length x := by rw [b1 (bo + 1) (by omega), upa_s]
  have e2 : β2 (bo + 1) = β1 (bo + 1) := by rw [a1 (bo + 1) (by omega), stR_x (by omega) (by omega)]
  intro q y hy
  by_cases e : q = rs.length
  · subst e
    rw [List.getElem?_append_right (Nat.le_refl _), Nat.sub_self] at hy
    cases hy
    refine ⟨by rw [ec, pk_us], by rw [b5 _ (by omega)]; exact a4, b4, fun i z hz => ?_, ?_, ?_⟩
    · have hi := (List.getElem?_eq_some_iff.mp hz).1
      have hi : i < p.length := hi
      obtain ⟨c1, c2, c3⟩ := b2 (8 * rs.length + i) (by omega)
      rw [c1, c2, c3]
      have := a3 i z hz
      rw [show 4 * (2 * rs.length) = 8 * rs.length by omega] at this
      exact this
    · have := b3
      rw [show 4 * (2 * rs.length + 1) = 8 * rs.length + 4 by omega] at this
      exact this
    · exact b7 p (a7 [] (by rw [stR_f]; exact told_0))
  · have hi : q < rs.length := by
      have := (List.getElem?_eq_some_iff.mp hy).1
      rw [List.length_append, List.length_singleton] at this
      omega
    rw [List.getElem?_append_left hi] at hy
    obtain ⟨x1, x2, x3, x4, x5, x6⟩ := hX q y hy
    obtain ⟨l1, l2⟩ := hLk q y hy
    have row : ∀ j, j < 8 * rs.length → β4 (bo + 4) j = β1 (bo + 4) j ∧ β4 (bo + 5) j = β1 (bo + 5) j ∧ β4 (bo + 6) j = β1 (bo + 6) j := fun j hj => by
      obtain ⟨c1, c2, c3⟩ := b2 j (by omega)
      obtain ⟨c4, c5, c6⟩ := a2 j (by omega)
      exact ⟨c1.trans c4, c2.trans c5, c3.trans c6⟩
    refine ⟨by rw [ec, pk_un e, e2]; exact x1, ?_, ?_, fun i z hz => ?_, fun i z hz => ?_, ?_⟩
    · rw [b5 _ (by omega), a5 _ (by omega), stR_tj (by omega)]; exact x2
    · rw [b5 _ (by omega), a5 _ (by omega), stR_tj (by omega)]; exact x3
    · have hi2 : i < y.1.length := (List.getElem?_eq_some_iff.mp hz).1
      obtain ⟨c1, c2, c3⟩ := row (8 * q + i) (by omega)
      rw [c1, c2, c3]
      exact x4 i z hz
    · have hi2 : i < y.2.2.length := (List.getElem?_eq_some_iff.mp hz).1
      obtain ⟨c1, c2, c3⟩ := row (8 * q + 4 + i) (by omega)
      rw [c1, c2, c3]
      exact x5 i z hz
    · rw [b6 _ e, a6 _ e, stR_fj e]; exact x6
/-- a number answered, and what holds of the heap with it -/
def Rw (n1 : Nat) (P : Int32 → AH → Prop) : Rz → Nat → AH → Prop := fun r n h => ∃ w, r = .inl (some (.int w)) ∧ n = n1 ∧ P w h
section JRw
variable {p : Program} {l : Launch} {e : Env} {R : Room} {s : State} {m : MethodId} {args : Array Value} {below : List Frame} {meth : Method} {c : Code} {D : va_G} {cA : Nat → ClassId} {b nL : Nat} {Q : State → Prop} {n : Nat} {kc ks pc : Nat} {L : List (Nat × Value)} {st : List Value}
theorem jk_w {P : Int32 → AH → Prop} (k : ∀ w h, P w h → J p l e R s m args below meth c D cA b nL Q n h kc ks (pc + 3) L (.int w :: st)) : JK p l e R s m args below meth c D cA b nL Q kc ks pc L st (Rw n P) := by
  refine ⟨fun v' n' h' hq => ?_, fun ci n' h' q hq => by obtain ⟨w, e1, -⟩ := hq; cases e1⟩
  obtain ⟨w, e1, rfl, hp⟩ := hq
  cases e1
  exact k w h' hp
end JRw
