/-! ===== the calls: rules, check, put ===== -/
section RB
variable {lo n : Nat} {ξ : Nat → Int32} {β : Nat → Nat → Int32} {ρ : Nat → Option Nat} {u v : Nat} {h : AH} {σ : Nat → Int32} {α : Nat → Nat → Int32}
theorem Rel.bk (hR : Rel lo n ξ β ρ u v h σ α) : ∃ rs, (u = 6 ∧ v = 13 ∧ rlU 6 (ξ 6) β (σ 21) α rs) ∨ (u = 13 ∧ v = 6 ∧ rlU 13 (ξ 7) β (σ 21) α rs) := by
  obtain ⟨nr, cs, I, K, T, F, Z, G, W, t, rs, qk, ql, h1, h2, h3, h4, h5, h6, h7, h8, h9, h10, h11, h12⟩ := hR
  exact ⟨rs, h11⟩
theorem Rel.frn (hR : Rel lo n ξ β ρ u v h σ α) : FRn α := by
  obtain ⟨rs, ⟨-, -, h⟩ | ⟨-, -, h⟩⟩ := hR.bk
  · exact h.2.2.2.2.2.2.2.2
  · exact h.2.2.2.2.2.2.2.2
/-- what the latest check found is told -/
theorem Rel.chk (hR : Rel lo n ξ β ρ u v h σ α) {q : List (Int32 × Int32)} {x : Int32} {α1 : Nat → Nat → Int32} (hq : q.length ≤ 40) (hW : Wl α1 q) (hA : Aw α1 α) : Rel lo n (upd ξ 8 (nI q.length)) (upa (upa β 21 (wl (β 21) (q.map Prod.fst))) 22 (wl (β 22) (q.map Prod.snd))) ρ u v h (upd (upd (upd σ 0 0) 34 (nI q.length)) 33 x) α1 := by
  obtain ⟨nr, cs, I, K, T, F, Z, G, W, t, rs, qk, ql, h1, h2, h3, h4, h5, h6, h7, h8, h9, h10, h11, h12⟩ := hR
  have a : ∀ k, k < 35 → α1 k = α k := fun k hk => hA k (by omega) (by omega)
  have a38 : α1 38 = α 38 := hA 38 (by omega) (by omega)
  have e1 : ∀ (g : Nat → Int32) (w : List Int32) (j : Nat) (y : Int32), w[j]? = some y → wl g w j = y := fun g w j y hy => by
    have hj := (List.getElem?_eq_some_iff.mp hy).1
    unfold wl
    rw [if_pos hj, List.getD_eq_getElem?_getD, hy]
    rfl
  refine ⟨nr, cs, I, K, T, F, Z, G, W, t, rs, q, ql, h1, h2, ?_, ?_, h5, ?_, ?_, ?_, ⟨hq, rfl, rfl, fun j z hz => ⟨e1 _ _ _ _ (by rw [List.getElem?_map, hz]; rfl), e1 _ _ _ _ (by rw [List.getElem?_map, hz]; rfl), (hW j z hz).1, (hW j z hz).2⟩⟩, ?_, ?_, ?_⟩
  · intro j hj
    rw [a 3 (by omega), a 4 (by omega), a 5 (by omega), a 6 (by omega), a 7 (by omega), a 8 (by omega), a 9 (by omega), a 10 (by omega), a 11 (by omega), a 12 (by omega), a 13 (by omega)]
    exact h3 j hj
  · rw [a 6 (by omega), a 8 (by omega), a 10 (by omega), a 11 (by omega), a 12 (by omega), a 13 (by omega)]
    exact h4
  · rw [a 17 (by omega)]
    exact h6
  · rw [a 14 (by omega)]
    exact h7
  · rw [a 15 (by omega)]
    exact h8
  · rw [a38]
    exact h10
  · rcases h11 with ⟨e1, e2, z⟩ | ⟨e1, e2, z⟩
    · exact Or.inl ⟨e1, e2, rlU_al (α := α) z (a 22 (by omega)) (a 23 (by omega)) (a 24 (by omega)) (a 25 (by omega)) (a 26 (by omega)) (a 30 (by omega)) (a 31 (by omega))⟩
    · exact Or.inr ⟨e1, e2, rlU_al (α := α) z (a 22 (by omega)) (a 23 (by omega)) (a 24 (by omega)) (a 25 (by omega)) (a 26 (by omega)) (a 30 (by omega)) (a 31 (by omega))⟩
  · rw [a 10 (by omega), a 11 (by omega), a 12 (by omega), a 14 (by omega), a 15 (by omega)]
    exact h12
/-- what signing looks for itself is of no account -/
theorem Rel.f23 (hR : Rel lo n ξ β ρ u v h σ α) (x y : Int32) (f g : Nat → Int32) : Rel lo n (upd ξ 9 x) (upa (upa β 24 f) 25 g) ρ u v h (upd σ 33 y) α := by
  obtain ⟨nr, cs, I, K, T, F, Z, G, W, t, rs, qk, ql, h1, h2, h3, h4, h5, h6, h7, h8, h9, h10, h11, h12⟩ := hR
  refine ⟨nr, cs, I, K, T, F, Z, G, W, t, rs, qk, ql, h1, h2, h3, h4, h5, h6, h7, h8, h9, h10, ?_, h12⟩
  rcases h11 with ⟨e1, e2, z⟩ | ⟨e1, e2, z⟩
  · exact Or.inl ⟨e1, e2, z⟩
  · exact Or.inr ⟨e1, e2, z⟩
end RB
theorem cap_f (ms : Int32) : ∀ (n f : Nat), (xkf ms n f).length ≤ n := by
  intro n
  induction n with
  | zero => intro f; exact Nat.le_refl _
  | succ n ih =>
    intro f
    show ((if xhs ms (nI f) = 0 then [] else [(1, nI f)]) ++ xkf ms n (f + 1)).length ≤ n + 1
    rw [List.length_append]
    have := ih (f + 1)
    split
    · simp only [List.length_nil]; omega
    · simp only [List.length_singleton]; omega
theorem cap_r (F : Nat → Int32) : ∀ (n q : Nat), (xkr F n q).length ≤ n := by
  intro n
  induction n with
  | zero => intro f; exact Nat.le_refl _
  | succ n ih =>
    intro q
    show ((if F q = -1 then [] else [(F q, nI q)]) ++ xkr F n (q + 1)).length ≤ n + 1
    rw [List.length_append]
    have := ih (q + 1)
    split
    · simp only [List.length_nil]; omega
    · simp only [List.length_singleton]; omega
/-- the book's counts of terms -/
theorem tc_c {bo : Nat} {z y : Int32} {β α : Nat → Nat → Int32} {rs : List Ru} (h : rlU bo z β y α rs) : ∀ s, s < 2 * rs.length → ∃ c, c ≤ 4 ∧ β (bo + 3) s = nI c := by
  intro s hs
  obtain ⟨-, -, -, -, hX, hL, -⟩ := h
  have hq : s / 2 < rs.length := by omega
  obtain ⟨-, x1, x2, -⟩ := hX (s / 2) rs[s / 2] (List.getElem?_eq_getElem hq)
  obtain ⟨l1, l2⟩ := hL (s / 2) rs[s / 2] (List.getElem?_eq_getElem hq)
  rcases Nat.mod_two_eq_zero_or_one s with e | e
  · rw [show 2 * (s / 2) = s by omega] at x1
    exact ⟨_, l1, x1⟩
  · rw [show 2 * (s / 2) + 1 = s by omega] at x2
    exact ⟨_, l2, x2⟩
/-- both find the same -/
theorem ck_eq {bo : Nat} {z y : Int32} {β α : Nat → Nat → Int32} {rs : List Ru} (h : rlU bo z β y α rs) (hA : rlA (β 2) (α 14)) {j kd : Nat} {i k t f : Int32} {ζ g w : Nat → Int32} (hQ : rlQ j i k t f ζ g w α) (hj : j < 30) (hkd : kd < 5) : xkf (β 2 kd &&& (ζ 0 ^^^ -1)) 20 0 ++ xkr (bkF bo β (ζ 0) g) rs.length 0 = ckl α j kd rs.length := by
  obtain ⟨h1, h2, h3, h4, h5, h6, h7, h8, h9, h10⟩ := hQ
  obtain ⟨u1, -, -, u4, u5, u6, u7, -, -⟩ := h
  unfold ckl
  rw [kf_eq (ak := β 2 kd) (fl := ζ 0) (fun f hf => hA kd f hkd hf) h7 20 0 (by omega), kr_eq (F := bkF bo β (ζ 0) g) (nq := rs.length) (fun q hq => ?_) rs.length 0 (by omega)]
  exact vd_eq (rs := rs) (x := rs[q]) (List.getElem?_eq_getElem hq) (by omega) hj u4 u5 u6 (u7 q rs[q] (List.getElem?_eq_getElem hq)).1 (u7 q rs[q] (List.getElem?_eq_getElem hq)).2 (fun f hf => (h10 f hf).1) (fun f hf => by rw [← (h10 f hf).1]; exact (h10 f hf).2) h7
theorem mg_rules {l : Launch} (hl : l.stackTraces = false) {D : va_G} {cA : Nat → ClassId} {b n : Nat} {σ : Nat → Int32} {α : Nat → Nat → Int32} (h1 : AH) (hn : 57 ≤ n) (t : Nat) (h16 : σ 16 = nI t) (ht : t ≤ 300) (hFn : FRn α) : Cn l D cA b y_M_rules k_M_rules 6 85 0 0 [.ref 28] n (ovM 28 σ α h1) (Mg n h1 (fun v s a => v = rvl (prules (α 17) t) ∧ KeS s σ ∧ s 16 = 0 ∧ FRn a ∧ (∀ x, x < 22 ∨ 32 < x → a x = α x) ∧ (prules (α 17) t = none → s 0 = 1 ∧ s 21 = σ 21 ∧ 0 ≤ s 18 ∧ ∀ x, x < 28 → a x = α x) ∧ ∀ rs, prules (α 17) t = some rs → s 0 = 0 ∧ s 21 = nI rs.length ∧ s 18 = -1 ∧ RuM a rs ∧ FR a ∧ rs.length ≤ 20 ∧ Lk rs)) :=
  (c_M_rules_r hl σ α h1 (by omega) t h16 ht hFn).mono (fun r n' h' hq => by
    obtain ⟨e1, e2, s, a, e3, e4⟩ := hq
    exact ⟨e2, _, s, a, e1, e3, rfl, e4⟩)
theorem s_rules {l : Launch} (hl : l.stackTraces = false) {D : va_G} {cA : Nat → ClassId} {b n : Nat} {h : AH} (hS : St n h) : Cn l D cA b y_L_rules k_L_rules 7 112 1 6 [.ref 0, .ref 56] n h (Wq l D cA b y_M_rules k_M_rules 6 85 [.ref 28]) := by
  obtain ⟨k0, f0, ξ, β, ρ, u, w, σ, α, h0, h57, rfl, ho, hR, -⟩ := hS
  obtain ⟨t, t1, t2, t3, t4⟩ := hR.tp
  obtain ⟨rs, hU⟩ := hR.bk
  have hcp : crul (β 4) t (t + 1) 0 [] = prules (α 17) t := crul_prul t4 _ _ _
  rcases hU with ⟨rfl, rfl, -⟩ | ⟨rfl, rfl, -⟩
  · cases hc : crul (β 4) t (t + 1) 0 [] with
    | none =>
      refine (w_rules_t (xo := 0) hl (by omega) (ovX_c (xo := 0) (o := 0) rfl) (c_X_rules_13_n hl (ovM 28 σ α h0) (by omega) t t1 t2 hc)).mono (fun r n' h' hq => ?_)
      obtain ⟨rfl, rfl, a', k', β', ha, rfl, hA⟩ := hq
      refine ⟨1, rfl, ?_⟩
      rw [ovX_out (Or.inr (by omega)), ovM_hu (by omega), ovX_M (by omega)]
      refine ⟨by omega, ⟨_, ovM_o _ _ _ _⟩, ?_⟩
      refine e_q (mg_rules hl _ (by omega) t t3 t1 hR.frn) (by omega) (by rw [hu_n (by omega)]; exact ho) (fun v s a hg => ?_)
      obtain ⟨g1, g2, g3, g4, g5, g6, -⟩ := hg
      obtain ⟨g7, g8, -, g9⟩ := g6 (by rw [← hcp]; exact hc)
      exact ⟨(hR.rules_13_n hA g2 g3 g4 g5 g8 g9).hu (by omega) (Or.inr (Nat.le_refl _)), g7, fun z => absurd z (by decide)⟩
    | some rs0 =>
      refine (w_rules_p (xo := 0) (f := f0) hl (by omega) (ovX_c (xo := 0) (o := 0) rfl) (c_X_rules_13_s hl (ovM 28 σ α h0) (by omega) t t1 t2 rs0 hc) (by omega) (fun h1 hP => ?_)).mono (fun r n' h' hq => ?_)
      · obtain ⟨a', β', rfl, -, -⟩ := hP
        exact outX ho
      · obtain ⟨rfl, rfl, h1, ⟨a', β', rfl, hA, hX⟩, rfl⟩ := hq
        refine ⟨0, rfl, ?_⟩
        rw [ovX_out (Or.inr (by omega)), ovM_hu (by omega), ovX_M (by omega)]
        refine ⟨by omega, ⟨_, ovM_o _ _ _ _⟩, ?_⟩
        refine e_q (mg_rules hl _ (by omega) t t3 t1 hR.frn) (by omega) (hu_s _ _ _) (fun v s a hg => ?_)
        obtain ⟨g1, g2, g3, g4, g5, -, g6⟩ := hg
        have hps : prules (α 17) t = some rs0 := by rw [← hcp]; exact hc
        obtain ⟨g7, g8, -, g9, g10, -, -⟩ := g6 rs0 hps
        refine ⟨(hR.rules_13_s t1 hc hA hX g2 g3 g4 g5 g8 g9 g10).hu (Nat.le_refl _) (Or.inl (by omega)), g7, fun _ => ?_⟩
        rw [g1, hps]
        exact fch0 _ _
  · cases hc : crul (β 4) t (t + 1) 0 [] with
    | none =>
      refine (w_rules_t (xo := 0) hl (by omega) (ovX_c (xo := 0) (o := 0) rfl) (c_X_rules_6_n hl (ovM 28 σ α h0) (by omega) t t1 t2 hc)).mono (fun r n' h' hq => ?_)
      obtain ⟨rfl, rfl, a', k', β', ha, rfl, hA⟩ := hq
      refine ⟨1, rfl, ?_⟩
      rw [ovX_out (Or.inr (by omega)), ovM_hu (by omega), ovX_M (by omega)]
      refine ⟨by omega, ⟨_, ovM_o _ _ _ _⟩, ?_⟩
      refine e_q (mg_rules hl _ (by omega) t t3 t1 hR.frn) (by omega) (by rw [hu_n (by omega)]; exact ho) (fun v s a hg => ?_)
      obtain ⟨g1, g2, g3, g4, g5, g6, -⟩ := hg
      obtain ⟨g7, g8, -, g9⟩ := g6 (by rw [← hcp]; exact hc)
      exact ⟨(hR.rules_6_n hA g2 g3 g4 g5 g8 g9).hu (by omega) (Or.inr (Nat.le_refl _)), g7, fun z => absurd z (by decide)⟩
    | some rs0 =>
      refine (w_rules_p (xo := 0) (f := f0) hl (by omega) (ovX_c (xo := 0) (o := 0) rfl) (c_X_rules_6_s hl (ovM 28 σ α h0) (by omega) t t1 t2 rs0 hc) (by omega) (fun h1 hP => ?_)).mono (fun r n' h' hq => ?_)
      · obtain ⟨a', β', rfl, -, -⟩ := hP
        exact outX ho
      · obtain ⟨rfl, rfl, h1, ⟨a', β', rfl, hA, hX⟩, rfl⟩ := hq
        refine ⟨0, rfl, ?_⟩
        rw [ovX_out (Or.inr (by omega)), ovM_hu (by omega), ovX_M (by omega)]
        refine ⟨by omega, ⟨_, ovM_o _ _ _ _⟩, ?_⟩
        refine e_q (mg_rules hl _ (by omega) t t3 t1 hR.frn) (by omega) (hu_s _ _ _) (fun v s a hg => ?_)
        obtain ⟨g1, g2, g3, g4, g5, -, g6⟩ := hg
        have hps : prules (α 17) t = some rs0 := by rw [← hcp]; exact hc
        obtain ⟨g7, g8, -, g9, g10, -, -⟩ := g6 rs0 hps
        refine ⟨(hR.rules_6_s t1 hc hA hX g2 g3 g4 g5 g8 g9 g10).hu (Nat.le_refl _) (Or.inl (by omega)), g7, fun _ => ?_⟩
        rw [g1, hps]
        exact fch0 _ _
theorem mg_check {l : Launch} (hl : l.stackTraces = false) {D : va_G} {cA : Nat → ClassId} {b n : Nat} {σ : Nat → Int32} {α : Nat → Nat → Int32} (h1 : AH) (hn : 57 ≤ n) (r : Nat) (nr : Nat) (hnr : σ 2 = nI nr) (hle : nr ≤ 30) (hr : r < nr) (kd : Nat) (hkd : α 4 r = nI kd) (hkl : kd < 5) (nq : Nat) (hnq : σ 21 = nI nq) (hql : nq ≤ 20) (hF : FR α) : Cn l D cA b y_M_check k_M_check 3 49 0 0 [.ref 28, .int (nI r)] n (ovM 28 σ α h1) (Mg n h1 (fun v s a => v = nI (ckl α r kd nq).length ∧ ∃ w, s = upd (upd (upd σ 0 0) 34 (nI (ckl α r kd nq).length)) 33 w ∧ Wl a (ckl α r kd nq) ∧ Aw a α)) :=
  (c_M_check_r hl r σ α h1 (by omega) nr hnr hle hr kd hkd hkl nq hnq hql hF).mono (fun r n' h' hq => by
    obtain ⟨e1, e2, w, a, e3, e4, e5⟩ := hq
    exact ⟨e2, _, _, a, e1, e3, rfl, w, rfl, e4, e5⟩)
theorem s_check {l : Launch} (hl : l.stackTraces = false) {D : va_G} {cA : Nat → ClassId} {b n : Nat} {h : AH} (hS : St n h) (r : Int32) : Cn l D cA b y_L_check k_L_check 8 112 1 6 [.ref 0, .int r, .ref 56] n h (Wq l D cA b y_M_check k_M_check 3 49 [.ref 28, .int r]) := by
  obtain ⟨k0, f0, ξ, β, ρ, u, w, σ, α, h0, h57, rfl, ho, hR, -⟩ := hS
  obtain ⟨nr, hle, hx, hy⟩ := hR.cnt
  rcases rep_c hx hy hle r with ⟨ha, hb⟩ | ⟨j, hj, rfl, j1, hb⟩
  · exact th_q (w_check_7 hl _ (by omega) (ovX_c (xo := 0) (o := 0) rfl) (c_X_check_u hl _ (by omega) _ ha)) (fun h1 => c_M_check_u hl _ _ _ h1 (by omega) hb) h57 ho (by decide) (hR.thrown 1) rfl
  · obtain ⟨c, i, kd0, t, fo, ζ, g, ws, hρ, c1, c2, hE, hQ, -⟩ := hR.rep (j := j) (by omega) j1
    have hE' := repM (σ := σ) (α := α) c1 hE
    obtain ⟨kd, hkl, hkd, hkd2⟩ := hQ.2.1
    obtain ⟨rs, hU⟩ := hR.bk
    rcases hU with ⟨rfl, rfl, hU⟩ | ⟨rfl, rfl, hU⟩
    · have ek := ck_eq hU hR.ak.1 hQ (show j < 30 by omega) hkl
      have cX := c_X_check_6 hl (D := D) (cA := cA) (b := b) (n := n) (xo := 0) (ξ := ξ) (β := β) (ρ := ρ) (r := c) (i0 := i) (k0 := kd0) (t0 := t) (f0 := fo) (ζ := ζ) (g := g) (w := ws) (ovM 28 σ α h0) (by omega) c2 j (by omega) j1 hρ kd rs.length hkd hkl hU.2.1 hU.1 (tc_c hU)
      rw [hE', ek] at cX
      have hlen : (ckl α j kd rs.length).length ≤ 40 := by
        rw [← ek, List.length_append]
        have a1 := cap_f (β 2 kd &&& (ζ 0 ^^^ -1)) 20 0
        have a2 := cap_r (bkF 6 β (ζ 0) g) rs.length 0
        have a3 := hU.1
        omega
      refine rt_g (w_check_r hl _ (by omega) (ovX_c (xo := 0) (o := 0) rfl) cX (by omega) (outX ho)) (fun h1 => mg_check hl h1 h57 j nr hy hle hj kd hkd2 hkl rs.length hU.2.2.1 hU.1 hU.2.2.2.2.2.2.2.1) h57 (fun v s a hg => ?_)
      obtain ⟨rfl, x, rfl, hW, hA⟩ := hg
      exact ⟨hR.chk hlen hW hA, rfl, fun _ => fch0 _ _⟩
    · have ek := ck_eq hU hR.ak.1 hQ (show j < 30 by omega) hkl
      have cX := c_X_check_13 hl (D := D) (cA := cA) (b := b) (n := n) (xo := 0) (ξ := ξ) (β := β) (ρ := ρ) (r := c) (i0 := i) (k0 := kd0) (t0 := t) (f0 := fo) (ζ := ζ) (g := g) (w := ws) (ovM 28 σ α h0) (by omega) c2 j (by omega) j1 hρ kd rs.length hkd hkl hU.2.1 hU.1 (tc_c hU)
      rw [hE', ek] at cX
      have hlen : (ckl α j kd rs.length).length ≤ 40 := by
        rw [← ek, List.length_append]
        have a1 := cap_f (β 2 kd &&& (ζ 0 ^^^ -1)) 20 0
        have a2 := cap_r (bkF 13 β (ζ 0) g) rs.length 0
        have a3 := hU.1
        omega
      refine rt_g (w_check_r hl _ (by omega) (ovX_c (xo := 0) (o := 0) rfl) cX (by omega) (outX ho)) (fun h1 => mg_check hl h1 h57 j nr hy hle hj kd hkd2 hkl rs.length hU.2.2.1 hU.1 hU.2.2.2.2.2.2.2.1) h57 (fun v s a hg => ?_)
      obtain ⟨rfl, x, rfl, hW, hA⟩ := hg
      exact ⟨hR.chk hlen hW hA, rfl, fun _ => fch0 _ _⟩
theorem s_put {l : Launch} (hl : l.stackTraces = false) {D : va_G} {cA : Nat → ClassId} {b n : Nat} {h : AH} (hS : St n h) (r x : Int32) : Cn l D cA b y_L_put k_L_put 8 113 1 6 [.ref 0, .int r, .int x, .ref 56] n h (Wq l D cA b y_M_put k_M_put 4 65 [.ref 28, .int r, .int x]) := by
  obtain ⟨k0, f0, ξ, β, ρ, u, w, σ, α, h0, h57, rfl, ho, hR, -⟩ := hS
  obtain ⟨nr, hle, hx, hy⟩ := hR.cnt
  rcases rep_c hx hy hle r with ⟨ha, hb⟩ | ⟨j, hj, rfl, j1, hb⟩
  · exact th_q (w_put_7 hl _ _ (by omega) (ovX_c (xo := 0) (o := 0) rfl) (c_X_put_u hl _ (by omega) _ _ ha)) (fun h1 => c_M_put_u hl _ _ _ _ h1 (by omega) hb) h57 ho (by decide) (hR.thrown 1) rfl
  · obtain ⟨c, i, kd0, t, fo, ζ, g, ws, hρ, c1, c2, hE, hQ, hP⟩ := hR.rep (j := j) (by omega) j1
    have hE' := repM (σ := σ) (α := α) c1 hE
    obtain ⟨kd, hkl, hkd, hkd2⟩ := hQ.2.1
    obtain ⟨c0, hc3, h4, h8, hs9⟩ := hQ.2.2.2.2.2.1
    obtain ⟨rs, hU⟩ := hR.bk
    rcases hU with ⟨rfl, rfl, hU⟩ | ⟨rfl, rfl, hU⟩
    · have ek := ck_eq hU hR.ak.1 hQ (show j < 30 by omega) hkl
      have hlen : (ckl α j kd rs.length).length ≤ 40 := by
        rw [← ek, List.length_append]
        have a1 := cap_f (β 2 kd &&& (ζ 0 ^^^ -1)) 20 0
        have a2 := cap_r (bkF 6 β (ζ 0) g) rs.length 0
        have a3 := hU.1
        omega
      rcases fld_c 19 (by omega) x with ⟨ha, hb2⟩ | ⟨e, he, rfl, a3, a4, hb2⟩
      · have cX := c_X_put_a_6 hl (D := D) (cA := cA) (b := b) (n := n) (xo := 0) (ξ := ξ) (β := β) (ρ := ρ) (r := c) (i0 := i) (k0 := kd0) (t0 := t) (f0 := fo) (ζ := ζ) (g := g) (w := ws) (ovM 28 σ α h0) (by omega) c2 j (by omega) j1 hρ kd rs.length hkd hkl hU.2.1 hU.1 (tc_c hU) x ha
        rw [hE'] at cX
        exact th_q (w_put_7 hl _ _ (by omega) (ovX_c (xo := 0) (o := 0) rfl) cX) (fun h1 => c_M_put_p hl j x _ _ h1 (by omega) nr hy hle hj hb2) h57 ho (by decide) (hR.thrown 1) rfl
      · obtain ⟨hcg, hcg2⟩ := cg_eq (α := α) (ζ := ζ) (w := ws) (r := j) (kd := kd) (c := c0) (nq := rs.length) (p := nI e) hc3 h4 hQ.2.2.2.2.1 hQ.2.2.2.2.2.2.2.2.1 hs9
        have hno : ¬ (ckl α j kd rs.length = [] ∧ ¬ rrd ζ ws c0 (nI e) = 0) → Cn l D cA b y_L_put k_L_put 8 113 1 6 [.ref 0, .int (nI j), .int (nI e), .ref 56] n (ovX 0 ξ β ρ 6 13 (ovM 28 σ α h0)) (Re (some (.int 2)) (n + 1) (hu (ovF23 0 ξ β ρ 6 13 (ovM 28 σ α h0) (ckl α j kd rs.length)) n (.inr (9, [])))) → Cn l D cA b y_L_put k_L_put 8 113 1 6 [.ref 0, .int (nI j), .int (nI e), .ref 56] n (ovX 0 ξ β ρ 6 13 (ovM 28 σ α h0)) (Wq l D cA b y_M_put k_M_put 4 65 [.ref 28, .int (nI j), .int (nI e)]) := by
          intro hn hW
          have hm : mcg α j kd c0 rs.length (nI e) = 0 := hcg2.resolve_right (fun z => hn (hcg.mp z))
          refine hW.mono (fun r n' h' hq => ?_)
          obtain ⟨rfl, rfl, rfl⟩ := hq
          refine ⟨2, rfl, ?_⟩
          unfold ovF23
          rw [ovX_out (Or.inr (by omega)), ovM_hu (by omega), ovX_M (by omega)]
          refine ⟨by omega, ⟨_, ovM_o _ _ _ _⟩, ?_⟩
          refine e_q (G := fun v s a => ∃ y, s = upd (upd σ 33 y) 0 2 ∧ a = α) ((c_M_put_2 hl j (nI e) σ α _ (by omega) nr hy hle hj hb2 kd hkd2 hkl c0 h8 hc3 rs.length hU.2.2.1 hU.1 hU.2.2.2.2.2.2.2.1 hm).mono (fun r n' h' hq => ?_)) (by omega) (by rw [hu_n (by omega)]; exact ho) (fun v s a hg => ?_)
          · obtain ⟨y, e1, e2, e3⟩ := hq
            exact ⟨e2, 0, _, _, e1, e3, y, rfl, rfl⟩
          · obtain ⟨y, rfl, rfl⟩ := hg
            exact ⟨((hR.f23 _ y _ _).thrown 2).hu (by omega) (Or.inr (Nat.le_refl _)), rfl, fun z => absurd z (by decide)⟩
        by_cases hk : ckl α j kd rs.length = []
        · have hk0 : (ckl α j kd rs.length).length = 0 := by rw [hk]; rfl
          by_cases hrd : rrd ζ ws c0 (nI e) = 0
          · have cX := c_X_put_c_6 hl (D := D) (cA := cA) (b := b) (n := n) (xo := 0) (ξ := ξ) (β := β) (ρ := ρ) (r := c) (i0 := i) (k0 := kd0) (t0 := t) (f0 := fo) (ζ := ζ) (g := g) (w := ws) (ovM 28 σ α h0) (by omega) c2 j (by omega) j1 hρ kd rs.length hkd hkl hU.2.1 hU.1 (tc_c hU) (nI e) a3 a4 c0 h4 hc3 (by rw [ek]; exact hk0) hrd
            rw [hE', ek] at cX
            exact hno (fun z => z.2 hrd) (w_put_9 hl _ _ (by omega) (ovX_c (xo := 0) (o := 0) rfl) cX)
          · have hc : c0 < 3 := by
              rcases Nat.lt_or_ge c0 3 with z | z
              · exact z
              · exfalso
                apply hrd
                have e3 : c0 = 3 := by omega
                unfold rrd
                have : rcl ζ = 1 := by unfold rcl; rw [h4, e3]; decide
                rw [this]
                split
                · split
                  · rfl
                  · rfl
                · rfl
            have cX := c_X_put_r_6 hl (D := D) (cA := cA) (b := b) (n := n) (xo := 0) (ξ := ξ) (β := β) (ρ := ρ) (r := c) (i0 := i) (k0 := kd0) (t0 := t) (f0 := fo) (ζ := ζ) (g := g) (w := ws) (ovM 28 σ α h0) (by omega) c2 j (by omega) j1 hρ kd rs.length hkd hkl hU.2.1 hU.1 (tc_c hU) (nI e) a3 a4 c0 h4 hc3 (by rw [ek]; exact hk0) hrd hc
            rw [hE', ek, ovM_R (by omega)] at cX
            have hN := hP _ _ _ _ (SAr_u (SAr_u (SAr_r α) (x := 9) (by omega) (by omega) (by omega)) (x := 8) (by omega) (by omega) (by omega)) (SRw_sign hc) (rlQ_sign (y := nI e) hQ h4 hc) hR.bb.1 hR.bb.2.1 hR.bb.2.2.1
            refine rt_g (w_put_r hl _ _ (by omega) (ovX_c (xo := 0) (o := 0) rfl) cX (by omega) (outX (oR c1 ho))) (G := fun v s a => v = nI (c0 + 1) ∧ ∃ y, s = upd (upd σ 33 y) 0 0 ∧ a = upa (upa α 9 (upd (α 9) (3 * j + c0) (nI e))) 8 (upd (α 8) j (nI (c0 + 1)))) (fun h1 => (c_M_put_r hl j (nI e) σ α h1 (by omega) nr hy hle hj hb2 kd hkd2 hkl c0 h8 hc3 rs.length hU.2.2.1 hU.1 hU.2.2.2.2.2.2.2.1 (hcg.mpr ⟨hk, hrd⟩)).mono (fun r n' h' hq => ?_)) h57 (fun v s a hg => ?_)
            · obtain ⟨y, e1, e2, e3⟩ := hq
              exact ⟨e2, _, _, _, e1, e3, rfl, y, rfl, rfl⟩
            · obtain ⟨rfl, y, rfl, rfl⟩ := hg
              exact ⟨(hN.f23 _ y _ _).thrown 0, rfl, fun _ => fch0 _ _⟩
        · have cX := c_X_put_b_6 hl (D := D) (cA := cA) (b := b) (n := n) (xo := 0) (ξ := ξ) (β := β) (ρ := ρ) (r := c) (i0 := i) (k0 := kd0) (t0 := t) (f0 := fo) (ζ := ζ) (g := g) (w := ws) (ovM 28 σ α h0) (by omega) c2 j (by omega) j1 hρ kd rs.length hkd hkl hU.2.1 hU.1 (tc_c hU) (nI e) a3 a4 (by rw [ek]; exact List.length_pos_iff.mpr hk) (by rw [ek]; exact hlen)
          rw [hE', ek] at cX
          exact hno (fun z => hk z.1) (w_put_9 hl _ _ (by omega) (ovX_c (xo := 0) (o := 0) rfl) cX)
    · have ek := ck_eq hU hR.ak.1 hQ (show j < 30 by omega) hkl
      have hlen : (ckl α j kd rs.length).length ≤ 40 := by
        rw [← ek, List.length_append]
        have a1 := cap_f (β 2 kd &&& (ζ 0 ^^^ -1)) 20 0
        have a2 := cap_r (bkF 13 β (ζ 0) g) rs.length 0
        have a3 := hU.1
        omega
      rcases fld_c 19 (by omega) x with ⟨ha, hb2⟩ | ⟨e, he, rfl, a3, a4, hb2⟩
      · have cX := c_X_put_a_13 hl (D := D) (cA := cA) (b := b) (n := n) (xo := 0) (ξ := ξ) (β := β) (ρ := ρ) (r := c) (i0 := i) (k0 := kd0) (t0 := t) (f0 := fo) (ζ := ζ) (g := g) (w := ws) (ovM 28 σ α h0) (by omega) c2 j (by omega) j1 hρ kd rs.length hkd hkl hU.2.1 hU.1 (tc_c hU) x ha
        rw [hE'] at cX
        exact th_q (w_put_7 hl _ _ (by omega) (ovX_c (xo := 0) (o := 0) rfl) cX) (fun h1 => c_M_put_p hl j x _ _ h1 (by omega) nr hy hle hj hb2) h57 ho (by decide) (hR.thrown 1) rfl
      · obtain ⟨hcg, hcg2⟩ := cg_eq (α := α) (ζ := ζ) (w := ws) (r := j) (kd := kd) (c := c0) (nq := rs.length) (p := nI e) hc3 h4 hQ.2.2.2.2.1 hQ.2.2.2.2.2.2.2.2.1 hs9
        have hno : ¬ (ckl α j kd rs.length = [] ∧ ¬ rrd ζ ws c0 (nI e) = 0) → Cn l D cA b y_L_put k_L_put 8 113 1 6 [.ref 0, .int (nI j), .int (nI e), .ref 56] n (ovX 0 ξ β ρ 13 6 (ovM 28 σ α h0)) (Re (some (.int 2)) (n + 1) (hu (ovF23 0 ξ β ρ 13 6 (ovM 28 σ α h0) (ckl α j kd rs.length)) n (.inr (9, [])))) → Cn l D cA b y_L_put k_L_put 8 113 1 6 [.ref 0, .int (nI j), .int (nI e), .ref 56] n (ovX 0 ξ β ρ 13 6 (ovM 28 σ α h0)) (Wq l D cA b y_M_put k_M_put 4 65 [.ref 28, .int (nI j), .int (nI e)]) := by
          intro hn hW
          have hm : mcg α j kd c0 rs.length (nI e) = 0 := hcg2.resolve_right (fun z => hn (hcg.mp z))
          refine hW.mono (fun r n' h' hq => ?_)
          obtain ⟨rfl, rfl, rfl⟩ := hq
          refine ⟨2, rfl, ?_⟩
          unfold ovF23
          rw [ovX_out (Or.inr (by omega)), ovM_hu (by omega), ovX_M (by omega)]
          refine ⟨by omega, ⟨_, ovM_o _ _ _ _⟩, ?_⟩
          refine e_q (G := fun v s a => ∃ y, s = upd (upd σ 33 y) 0 2 ∧ a = α) ((c_M_put_2 hl j (nI e) σ α _ (by omega) nr hy hle hj hb2 kd hkd2 hkl c0 h8 hc3 rs.length hU.2.2.1 hU.1 hU.2.2.2.2.2.2.2.1 hm).mono (fun r n' h' hq => ?_)) (by omega) (by rw [hu_n (by omega)]; exact ho) (fun v s a hg => ?_)
          · obtain ⟨y, e1, e2, e3⟩ := hq
            exact ⟨e2, 0, _, _, e1, e3, y, rfl, rfl⟩
          · obtain ⟨y, rfl, rfl⟩ := hg
            exact ⟨((hR.f23 _ y _ _).thrown 2).hu (by omega) (Or.inr (Nat.le_refl _)), rfl, fun z => absurd z (by decide)⟩
        by_cases hk : ckl α j kd rs.length = []
        · have hk0 : (ckl α j kd rs.length).length = 0 := by rw [hk]; rfl
          by_cases hrd : rrd ζ ws c0 (nI e) = 0
          · have cX := c_X_put_c_13 hl (D := D) (cA := cA) (b := b) (n := n) (xo := 0) (ξ := ξ) (β := β) (ρ := ρ) (r := c) (i0 := i) (k0 := kd0) (t0 := t) (f0 := fo) (ζ := ζ) (g := g) (w := ws) (ovM 28 σ α h0) (by omega) c2 j (by omega) j1 hρ kd rs.length hkd hkl hU.2.1 hU.1 (tc_c hU) (nI e) a3 a4 c0 h4 hc3 (by rw [ek]; exact hk0) hrd
            rw [hE', ek] at cX
            exact hno (fun z => z.2 hrd) (w_put_9 hl _ _ (by omega) (ovX_c (xo := 0) (o := 0) rfl) cX)
          · have hc : c0 < 3 := by
              rcases Nat.lt_or_ge c0 3 with z | z
              · exact z
              · exfalso
                apply hrd
                have e3 : c0 = 3 := by omega
                unfold rrd
                have : rcl ζ = 1 := by unfold rcl; rw [h4, e3]; decide
                rw [this]
                split
                · split
                  · rfl
                  · rfl
                · rfl
            have cX := c_X_put_r_13 hl (D := D) (cA := cA) (b := b) (n := n) (xo := 0) (ξ := ξ) (β := β) (ρ := ρ) (r := c) (i0 := i) (k0 := kd0) (t0 := t) (f0 := fo) (ζ := ζ) (g := g) (w := ws) (ovM 28 σ α h0) (by omega) c2 j (by omega) j1 hρ kd rs.length hkd hkl hU.2.1 hU.1 (tc_c hU) (nI e) a3 a4 c0 h4 hc3 (by rw [ek]; exact hk0) hrd hc
            rw [hE', ek, ovM_R (by omega)] at cX
            have hN := hP _ _ _ _ (SAr_u (SAr_u (SAr_r α) (x := 9) (by omega) (by omega) (by omega)) (x := 8) (by omega) (by omega) (by omega)) (SRw_sign hc) (rlQ_sign (y := nI e) hQ h4 hc) hR.bb.1 hR.bb.2.1 hR.bb.2.2.1
            refine rt_g (w_put_r hl _ _ (by omega) (ovX_c (xo := 0) (o := 0) rfl) cX (by omega) (outX (oR c1 ho))) (G := fun v s a => v = nI (c0 + 1) ∧ ∃ y, s = upd (upd σ 33 y) 0 0 ∧ a = upa (upa α 9 (upd (α 9) (3 * j + c0) (nI e))) 8 (upd (α 8) j (nI (c0 + 1)))) (fun h1 => (c_M_put_r hl j (nI e) σ α h1 (by omega) nr hy hle hj hb2 kd hkd2 hkl c0 h8 hc3 rs.length hU.2.2.1 hU.1 hU.2.2.2.2.2.2.2.1 (hcg.mpr ⟨hk, hrd⟩)).mono (fun r n' h' hq => ?_)) h57 (fun v s a hg => ?_)
            · obtain ⟨y, e1, e2, e3⟩ := hq
              exact ⟨e2, _, _, _, e1, e3, rfl, y, rfl, rfl⟩
            · obtain ⟨rfl, y, rfl, rfl⟩ := hg
              exact ⟨(hN.f23 _ y _ _).thrown 0, rfl, fun _ => fch0 _ _⟩
        · have cX := c_X_put_b_13 hl (D := D) (cA := cA) (b := b) (n := n) (xo := 0) (ξ := ξ) (β := β) (ρ := ρ) (r := c) (i0 := i) (k0 := kd0) (t0 := t) (f0 := fo) (ζ := ζ) (g := g) (w := ws) (ovM 28 σ α h0) (by omega) c2 j (by omega) j1 hρ kd rs.length hkd hkl hU.2.1 hU.1 (tc_c hU) (nI e) a3 a4 (by rw [ek]; exact List.length_pos_iff.mpr hk) (by rw [ek]; exact hlen)
          rw [hE', ek] at cX
          exact hno (fun z => hk z.1) (w_put_9 hl _ _ (by omega) (ovX_c (xo := 0) (o := 0) rfl) cX)
/-! ===== the reference's refusals that were left: edition, code ===== -/
set_option maxHeartbeats 4000000 in
set_option maxRecDepth 100000 in
theorem c_M_edition_2 {l : Launch} (hl : l.stackTraces = false) {D : va_G} {cA : Nat → ClassId} {b n mo : Nat} (r : Nat) (σ : Nat → Int32) (α : Nat → Nat → Int32) (h : AH) (hmo : mo + 27 < n) (nr : Nat) (hnr : σ 2 = nI nr) (hle : nr ≤ 30) (hr : r < nr) (h8 : ¬ α 8 r = 3) : Cn l D cA b y_M_edition k_M_edition 2 29 0 0 [.ref mo, .int (nI r)] n (ovM mo σ α h) (Re (some (.int 0)) n (ovM mo (upd σ 0 2) α h)) := by
  refine Cn.of (cc := b_M_edition) (maxL := 4) (ret := (some .int)) (hh := []) (by decide +kernel) hl (Or.inl ⟨rfl, rfl⟩) (Nat.le_of_ble_eq_true rfl) ?_
  intro p e s m args below meth c C
  refine j_aload_n C d_M_edition_0 rfl rfl ?_
  refine j_aload_n C d_M_edition_1 rfl rfl ?_
  refine j_iload_n C d_M_edition_2 rfl rfl ?_
  refine j_callV C d_M_edition_3 ml_M_121 mc_M_isReport in_M_isReport rfl se_M_isReport (by omega) (ovM_o _ _ _ _) (c_M_isReportK hl _ _ _ _ hmo (in_rep hnr (by omega) hr)) rfl rfl (Nat.le_of_ble_eq_true rfl) (Nat.le_of_ble_eq_true rfl) (Nat.le_of_ble_eq_true rfl) (Nat.le_of_ble_eq_true rfl) (jk_r ?_)
  refine j_aload_n C d_M_edition_6 rfl rfl ?_
  refine j_iload_n C d_M_edition_7 rfl rfl ?_
  refine j_callV C d_M_edition_8 ml_M_121 mc_M_isReport in_M_isReport rfl se_M_isReport (by omega) (ovM_o _ _ _ _) (c_M_isReportK hl _ _ _ _ hmo (in_rep hnr (by omega) hr)) rfl rfl (Nat.le_of_ble_eq_true rfl) (Nat.le_of_ble_eq_true rfl) (Nat.le_of_ble_eq_true rfl) (Nat.le_of_ble_eq_true rfl) (jk_r ?_)
  refine j_if_eq (tgt := 28) C d_M_edition_11 (by decide) (fun c11 => ?_) (fun c11 => ?_)
  · exact absurd c11 (by decide)
  · refine j_aload_n C d_M_edition_14 rfl rfl ?_
    refine jm_get C fl_6_25 d_M_edition_15 hmo rfl ?_
    refine j_iload_n C d_M_edition_18 rfl rfl ?_
    refine jm_ialdn C 5 (r) d_M_edition_19 (by decide) rfl hmo rfl (by omega) (by omega) ?_
    refine j_iconst (v := 3) C d_M_edition_20 (by decide) ?_
    refine j_icmp_ne (tgt := 28) C d_M_edition_21 (by decide) (fun c21 => ?_) (fun c21 => ?_)
    · refine j_iconst (v := 0) C d_M_edition_28 (by decide) ?_
      refine j_aload_n C d_M_edition_29 rfl rfl ?_
      refine jm_get C fl_6_99 d_M_edition_30 hmo rfl ?_
      refine j_bipush (v := 30) C d_M_edition_33 (by decide) ?_
      refine j_icmp_ge (tgt := 42) C d_M_edition_35 (by decide) (fun c35 => ?_) (fun c35 => ?_)
      · refine j_iconst (v := 0) C d_M_edition_42 (by decide) ?_
        refine j_callV C d_M_edition_43 ml_M_109 mc_M_goes in_M_goes rfl se_M_goes (by omega) (ovM_o _ _ _ _) (c_M_goesK hl _ _ _ _ _ _ hmo (show gsI _ 0 _ = 2 from gs_2 (by decide) _)) rfl rfl (Nat.le_of_ble_eq_true rfl) (Nat.le_of_ble_eq_true rfl) (Nat.le_of_ble_eq_true rfl) (Nat.le_of_ble_eq_true rfl) (jk_r ?_)
        refine j_if_ne (tgt := 51) C d_M_edition_46 (by decide) (fun c46 => ?_) (fun c46 => ?_)
        · exact absurd (by decide) c46
        · refine j_iconst (v := 0) C d_M_edition_49 (by decide) ?_
          exact j_ireturn C d_M_edition_50 rfl (by decide) (by decide) ⟨rfl, rfl, rfl⟩
      · refine j_iconst (v := 1) C d_M_edition_38 (by decide) ?_
        refine j_goto (tgt := 43) C d_M_edition_39 (by decide) ?_
        refine j_callV C d_M_edition_43 ml_M_109 mc_M_goes in_M_goes rfl se_M_goes (by omega) (ovM_o _ _ _ _) (c_M_goesK hl _ _ _ _ _ _ hmo (show gsI _ 0 _ = 2 from gs_2 (by decide) _)) rfl rfl (Nat.le_of_ble_eq_true rfl) (Nat.le_of_ble_eq_true rfl) (Nat.le_of_ble_eq_true rfl) (Nat.le_of_ble_eq_true rfl) (jk_r ?_)
        refine j_if_ne (tgt := 51) C d_M_edition_46 (by decide) (fun c46 => ?_) (fun c46 => ?_)
        · exact absurd (by decide) c46
        · refine j_iconst (v := 0) C d_M_edition_49 (by decide) ?_
          exact j_ireturn C d_M_edition_50 rfl (by decide) (by decide) ⟨rfl, rfl, rfl⟩
    · exact absurd c21 h8

set_option maxHeartbeats 4000000 in
set_option maxRecDepth 100000 in
theorem c_M_edition_3 {l : Launch} (hl : l.stackTraces = false) {D : va_G} {cA : Nat → ClassId} {b n mo : Nat} (r : Nat) (σ : Nat → Int32) (α : Nat → Nat → Int32) (h : AH) (hmo : mo + 27 < n) (nr : Nat) (hnr : σ 2 = nI nr) (hle : nr = 30) (hr : r < nr) (h8 : α 8 r = 3) : Cn l D cA b y_M_edition k_M_edition 2 29 0 0 [.ref mo, .int (nI r)] n (ovM mo σ α h) (Re (some (.int 0)) n (ovM mo (upd σ 0 3) α h)) := by
  refine Cn.of (cc := b_M_edition) (maxL := 4) (ret := (some .int)) (hh := []) (by decide +kernel) hl (Or.inl ⟨rfl, rfl⟩) (Nat.le_of_ble_eq_true rfl) ?_
  intro p e s m args below meth c C
  refine j_aload_n C d_M_edition_0 rfl rfl ?_
  refine j_aload_n C d_M_edition_1 rfl rfl ?_
  refine j_iload_n C d_M_edition_2 rfl rfl ?_
  refine j_callV C d_M_edition_3 ml_M_121 mc_M_isReport in_M_isReport rfl se_M_isReport (by omega) (ovM_o _ _ _ _) (c_M_isReportK hl _ _ _ _ hmo (in_rep hnr (by omega) hr)) rfl rfl (Nat.le_of_ble_eq_true rfl) (Nat.le_of_ble_eq_true rfl) (Nat.le_of_ble_eq_true rfl) (Nat.le_of_ble_eq_true rfl) (jk_r ?_)
  refine j_aload_n C d_M_edition_6 rfl rfl ?_
  refine j_iload_n C d_M_edition_7 rfl rfl ?_
  refine j_callV C d_M_edition_8 ml_M_121 mc_M_isReport in_M_isReport rfl se_M_isReport (by omega) (ovM_o _ _ _ _) (c_M_isReportK hl _ _ _ _ hmo (in_rep hnr (by omega) hr)) rfl rfl (Nat.le_of_ble_eq_true rfl) (Nat.le_of_ble_eq_true rfl) (Nat.le_of_ble_eq_true rfl) (Nat.le_of_ble_eq_true rfl) (jk_r ?_)
  refine j_if_eq (tgt := 28) C d_M_edition_11 (by decide) (fun c11 => ?_) (fun c11 => ?_)
  · exact absurd c11 (by decide)
  · refine j_aload_n C d_M_edition_14 rfl rfl ?_
    refine jm_get C fl_6_25 d_M_edition_15 hmo rfl ?_
    refine j_iload_n C d_M_edition_18 rfl rfl ?_
    refine jm_ialdn C 5 (r) d_M_edition_19 (by decide) rfl hmo rfl (by omega) (by omega) ?_
    refine j_iconst (v := 3) C d_M_edition_20 (by decide) ?_
    refine j_icmp_ne (tgt := 28) C d_M_edition_21 (by decide) (fun c21 => ?_) (fun c21 => ?_)
    · exact absurd h8 c21
    · refine j_iconst (v := 1) C d_M_edition_24 (by decide) ?_
      refine j_goto (tgt := 29) C d_M_edition_25 (by decide) ?_
      refine j_aload_n C d_M_edition_29 rfl rfl ?_
      refine jm_get C fl_6_99 d_M_edition_30 hmo rfl ?_
      refine j_bipush (v := 30) C d_M_edition_33 (by decide) ?_
      refine j_icmp_ge (tgt := 42) C d_M_edition_35 (by decide) (fun c35 => ?_) (fun c35 => ?_)
      · refine j_iconst (v := 0) C d_M_edition_42 (by decide) ?_
        refine j_callV C d_M_edition_43 ml_M_109 mc_M_goes in_M_goes rfl se_M_goes (by omega) (ovM_o _ _ _ _) (c_M_goesK hl _ _ _ _ _ _ hmo (show gsI 1 1 0 = 3 by decide)) rfl rfl (Nat.le_of_ble_eq_true rfl) (Nat.le_of_ble_eq_true rfl) (Nat.le_of_ble_eq_true rfl) (Nat.le_of_ble_eq_true rfl) (jk_r ?_)
        refine j_if_ne (tgt := 51) C d_M_edition_46 (by decide) (fun c46 => ?_) (fun c46 => ?_)
        · exact absurd (by decide) c46
        · refine j_iconst (v := 0) C d_M_edition_49 (by decide) ?_
          exact j_ireturn C d_M_edition_50 rfl (by decide) (by decide) ⟨rfl, rfl, rfl⟩
      · exact absurd (show (30 : Int32) ≤ σ 2 by rw [hnr, hle]; decide) c35

set_option maxHeartbeats 4000000 in
set_option maxRecDepth 100000 in
theorem c_M_code_p {l : Launch} (hl : l.stackTraces = false) {D : va_G} {cA : Nat → ClassId} {b n mo : Nat} (r : Nat) (p0 : Int32) (σ : Nat → Int32) (α : Nat → Nat → Int32) (h : AH) (hmo : mo + 27 < n) (nr : Nat) (hnr : σ 2 = nI nr) (hle : nr ≤ 30) (hr : r < nr) (hp : inI p0 0 19 = 0) : Cn l D cA b y_M_code k_M_code 2 28 0 0 [.ref mo, .int (nI r), .int p0] n (ovM mo σ α h) (Re (some (.int 0)) n (ovM mo (upd σ 0 1) α h)) := by
  refine Cn.of (cc := b_M_code) (maxL := 4) (ret := (some .int)) (hh := []) (by decide +kernel) hl (Or.inl ⟨rfl, rfl⟩) (Nat.le_of_ble_eq_true rfl) ?_
  intro p e s m args below meth c C
  refine j_aload_n C d_M_code_0 rfl rfl ?_
  refine j_aload_n C d_M_code_1 rfl rfl ?_
  refine j_iload_n C d_M_code_2 rfl rfl ?_
  refine j_callV C d_M_code_3 ml_M_121 mc_M_isReport in_M_isReport rfl se_M_isReport (by omega) (ovM_o _ _ _ _) (c_M_isReportK hl _ _ _ _ hmo (in_rep hnr hle hr)) rfl rfl (Nat.le_of_ble_eq_true rfl) (Nat.le_of_ble_eq_true rfl) (Nat.le_of_ble_eq_true rfl) (Nat.le_of_ble_eq_true rfl) (jk_r ?_)
  refine j_if_eq (tgt := 20) C d_M_code_6 (by decide) (fun c6 => ?_) (fun c6 => ?_)
  · exact absurd c6 (by decide)
  · refine j_iload_n C d_M_code_9 rfl rfl ?_
    refine j_callS C d_M_code_10 ml_M_200 mc_M_isPerson st_M_isPerson (c_M_isPersonK hl _ _ hp) rfl rfl (Nat.le_of_ble_eq_true rfl) (Nat.le_of_ble_eq_true rfl) (Nat.le_of_ble_eq_true rfl) (Nat.le_of_ble_eq_true rfl) (jk_r ?_)
    refine j_if_eq (tgt := 20) C d_M_code_13 (by decide) (fun c13 => ?_) (fun c13 => ?_)
    · refine j_iconst (v := 0) C d_M_code_20 (by decide) ?_
      refine j_iconst (v := 1) C d_M_code_21 (by decide) ?_
      refine j_iconst (v := 1) C d_M_code_22 (by decide) ?_
      refine j_callV C d_M_code_23 ml_M_109 mc_M_goes in_M_goes rfl se_M_goes (by omega) (ovM_o _ _ _ _) (c_M_goesK hl _ _ _ _ _ _ hmo (gs_1 _ _)) rfl rfl (Nat.le_of_ble_eq_true rfl) (Nat.le_of_ble_eq_true rfl) (Nat.le_of_ble_eq_true rfl) (Nat.le_of_ble_eq_true rfl) (jk_r ?_)
      refine j_if_ne (tgt := 31) C d_M_code_26 (by decide) (fun c26 => ?_) (fun c26 => ?_)
      · exact absurd (by decide) c26
      · refine j_iconst (v := 0) C d_M_code_29 (by decide) ?_
        exact j_ireturn C d_M_code_30 rfl (by decide) (by decide) ⟨rfl, rfl, rfl⟩
    · exact absurd rfl c13
/-! ===== the calls: code, edition, place ===== -/
theorem cdl_len {α : Nat → Nat → Int32} {r p : Nat} (hv : ∀ f, f < 20 → vok (α 13 (20 * r + f))) : ∀ (n f : Nat), f + n = 20 → (cdl α r p n f).length ≤ 10 * n := by
  intro n
  induction n with
  | zero => intro f _; exact Nat.le_refl _
  | succ n ih =>
    intro f hf
    show (cdi α r p f ++ cdl α r p n (f + 1)).length ≤ 10 * (n + 1)
    rw [List.length_append]
    have a := cdi_len (α := α) (r := r) (p := p) (f := f) (by omega) (hv f (by omega))
    have c := ih (f + 1) (by omega)
    omega
theorem cdw_len {α : Nat → Nat → Int32} {r p i : Nat} (hi : i ≤ 9999) (hv : ∀ f, f < 20 → vok (α 13 (20 * r + f))) : (cdw α r p i).length ≤ 206 := by
  unfold cdw
  have a := cdl_len (α := α) (r := r) (p := p) hv 20 0 (by omega)
  have d : dn i ≤ 4 := by
    unfold dn
    split
    · omega
    · split
      · omega
      · split
        · omega
        · split
          · omega
          · omega
  rw [List.length_cons, List.length_append, nb_len, List.length_cons]
  omega
/-- a code is written -/
theorem Rel.cod {lo n : Nat} {ξ : Nat → Int32} {β : Nat → Nat → Int32} {ρ : Nat → Option Nat} {u v : Nat} {h : AH} {σ : Nat → Int32} {α : Nat → Nat → Int32} (hR : Rel lo n ξ β ρ u v h σ α) {q : List Int32} (hq : q.length ≤ 206) : Rel lo n (upd ξ 10 (nI q.length)) (upa β 27 (wl (β 27) q)) ρ u v h (upd σ 37 (nI q.length)) (upa α 38 (wl (α 38) q)) := by
  obtain ⟨nr, cs, I, K, T, F, Z, G, W, t, rs, qk, ql, h1, h2, h3, h4, h5, h6, h7, h8, h9, h10, h11, h12⟩ := hR
  have e1 : ∀ (g : Nat → Int32) (w : List Int32) (j : Nat) (y : Int32), w[j]? = some y → wl g w j = y := fun g w j y hy => by
    have hj := (List.getElem?_eq_some_iff.mp hy).1
    unfold wl
    rw [if_pos hj, List.getD_eq_getElem?_getD, hy]
    rfl
  refine ⟨nr, cs, I, K, T, F, Z, G, W, t, rs, qk, q, h1, h2, h3, h4, h5, h6, h7, h8, h9, ⟨hq, rfl, rfl, fun j z hz => ⟨e1 _ _ _ _ hz, e1 _ _ _ _ hz⟩⟩, ?_, h12⟩
  rcases h11 with ⟨e1, e2, z⟩ | ⟨e1, e2, z⟩
  · exact Or.inl ⟨e1, e2, z⟩
  · exact Or.inr ⟨e1, e2, z⟩
theorem s_code {l : Launch} (hl : l.stackTraces = false) {D : va_G} {cA : Nat → ClassId} {b n : Nat} {h : AH} (hS : St n h) (r x : Int32) : Cn l D cA b y_L_code k_L_code 8 113 1 6 [.ref 0, .int r, .int x, .ref 56] n h (Wq l D cA b y_M_code k_M_code 2 28 [.ref 28, .int r, .int x]) := by
  obtain ⟨k0, f0, ξ, β, ρ, u, w, σ, α, h0, h57, rfl, ho, hR, -⟩ := hS
  obtain ⟨nr, hle, hx, hy⟩ := hR.cnt
  rcases rep_c hx hy hle r with ⟨ha, hb⟩ | ⟨j, hj, rfl, j1, hb⟩
  · exact th_q (w_code_7 hl _ _ (by omega) (ovX_c (xo := 0) (o := 0) rfl) (c_X_code_u hl _ (by omega) _ _ ha)) (fun h1 => c_M_code_u hl _ _ _ _ h1 (by omega) hb) h57 ho (by decide) (hR.thrown 1) rfl
  · obtain ⟨c, i, kd, t, fo, ζ, g, ws, hρ, c1, c2, hE, hQ, -⟩ := hR.rep (j := j) (by omega) j1
    have hE' := repM (σ := σ) (α := α) c1 hE
    obtain ⟨⟨m0, hm, e1, e2⟩, -, -, -, -, -, p7, -, -, p10⟩ := id hQ
    rcases fld_c 19 (by omega) x with ⟨ha, hb2⟩ | ⟨e, he, rfl, a3, a4, hb2⟩
    · have cX := c_X_code_a hl (D := D) (cA := cA) (b := b) (n := n) (xo := 0) (ξ := ξ) (β := β) (ρ := ρ) (u := u) (v := w) (r := c) (i0 := i) (k0 := kd) (t0 := t) (f0 := fo) (ζ := ζ) (g := g) (w := ws) (ovM 28 σ α h0) (by omega) c2 j (by omega) j1 hρ x ha
      rw [hE'] at cX
      exact th_q (w_code_7 hl _ _ (by omega) (ovX_c (xo := 0) (o := 0) rfl) cX) (fun h1 => c_M_code_p hl j _ _ _ h1 (by omega) nr hy hle hj hb2) h57 ho (by decide) (hR.thrown 1) rfl
    · have hvk : ∀ f, f < 20 → vok (α 13 (20 * j + f)) := fun f hf => by rw [← (p10 f hf).1]; exact (p10 f hf).2
      have cX := c_X_code_r hl (D := D) (cA := cA) (b := b) (n := n) (xo := 0) (ξ := ξ) (β := β) (ρ := ρ) (u := u) (v := w) (r := c) (i0 := i) (k0 := kd) (t0 := t) (f0 := fo) (ζ := ζ) (g := g) (w := ws) (ovM 28 σ α h0) (by omega) c2 j (by omega) j1 hρ (nI e) a3 a4 (vp_in_nI (by omega) (by omega)) m0 e1 hm (fun f hf => (p10 f hf).2)
      have ed := dw_eq (α := α) (g := g) (r := j) (p := e) (i := m0) (z0 := ζ 0) (hb := β 3 e) (fun f hf => (p10 f hf).1) p7 (fun f hf => hR.ak.2 e f (by omega) hf)
      rw [hE', nI_clamp (by omega), ← ed] at cX
      exact rt_q (w_code_r hl _ _ (by omega) (ovX_c (xo := 0) (o := 0) rfl) cX (by omega) (outX ho)) (fun h1 => c_M_code_r hl j e _ _ h1 (by omega) nr hy hle hj (by omega) m0 e2 hm hvk) h57 ((hR.thrown 0).cod (cdw_len hm hvk)) rfl (fch0 _ _)
theorem rlQ_p {j : Nat} {i k t f : Int32} {ζ g w : Nat → Int32} {α α' : Nat → Nat → Int32} (h : rlQ j i k t f ζ g w α) (h3 : α' 3 j = α 3 j) (h4 : α' 4 j = α 4 j) (h5 : α' 5 j = α 5 j) (h7 : α' 7 j = α 7 j) (h6 : α' 6 j = α 6 j) (h8 : α' 8 j = α 8 j) (h9 : ∀ q, q < 3 → α' 9 (3 * j + q) = α 9 (3 * j + q)) (h10 : ∀ e, e < 20 → α' 10 (20 * j + e) = α 10 (20 * j + e) ∧ α' 11 (20 * j + e) = α 11 (20 * j + e) ∧ α' 12 (20 * j + e) = α 12 (20 * j + e) ∧ α' 13 (20 * j + e) = α 13 (20 * j + e)) : rlQ j i k t f ζ g w α' := by
  obtain ⟨z1, z2, z3, z4, z5, ⟨c, z6, z61, z62, z63⟩, z7, z8, z9, z10⟩ := h
  refine ⟨by rw [h3]; exact z1, by rw [h4]; exact z2, by rw [h5]; exact z3, by rw [h7]; exact z4, by rw [h6]; exact z5, ⟨c, z6, z61, by rw [h8]; exact z62, fun q hq => by rw [h9 q (by omega)]; exact z63 q hq⟩, fun e he => by rw [(h10 e he).1]; exact z7 e he, fun e he => by rw [(h10 e he).2.1]; exact z8 e he, fun e he => ?_, fun e he => by rw [(h10 e he).2.2.2]; exact z10 e he⟩
  by_cases y : e < 20
  · rw [(h10 e y).2.2.1]
    exact z9 e he
  · exact ⟨fun q => absurd ((z9 e he).mp q).1 y, fun q => absurd q.1 y⟩
theorem cpf_in {g : Nat → Int32} {d r e : Nat} (he : e < 20) : cpf g d r 20 (20 * d + e) = g (20 * r + e) := by
  unfold cpf
  rw [if_pos (by omega), show 20 * d + e - 20 * d = e by omega]
theorem cpf_out {g : Nat → Int32} {d r i e : Nat} (he : e < 20) (hi : i ≠ d) : cpf g d r 20 (20 * i + e) = g (20 * i + e) := by
  unfold cpf
  rw [if_neg (by omega)]
theorem cpf_B {g : Nat → Int32} {d r : Nat} (h : rlB g) : rlB (cpf g d r 20) := fun j => by
  unfold cpf
  split
  · exact h _
  · exact h _
/-- an edition is made -/
theorem Rel.edit {lo n : Nat} {ξ : Nat → Int32} {β : Nat → Nat → Int32} {ρ : Nat → Option Nat} {u v : Nat} {h : AH} {σ : Nat → Int32} {α : Nat → Nat → Int32} (hR : Rel lo n ξ β ρ u v h σ α) (hln : lo ≤ n) {nr : Nat} (hnr : nr < 30) (e1 : ξ 0 = nI nr) {j0 : Nat} (hj0 : j0 < nr) {i k t f : Int32} {ζ g w : Nat → Int32} (hQ : rlQ j0 i k t f ζ g w α) :
    Rel lo (n + 3) (upd ξ 0 (ξ 0 + 1)) β (va_up ρ (ξ 0).toNatClampNeg (some n)) u v (ovR n i k (ξ 1) (nI j0) (upd (upd (fun _ => 0) 0 (ζ 0)) 1 (ζ 1)) (va_cpy g (fun _ => 0) 0 0 20) (fun _ => 0) h) (mmakes σ α (α 3 j0) (α 4 j0) (nI j0)).1 (med (mmakes σ α (α 3 j0) (α 4 j0) (nI j0)).2 nr j0 20) := by
  obtain ⟨nr1, cs, I, K, T, F, Z, G, W, t1, rs1, qk, ql, ⟨n30, e0, e2⟩, h2, h3, h4, h5, h6, h7, h8, h9, h10, h11, h12⟩ := hR
  obtain rfl : nr1 = nr := by
    rw [e1] at e0
    exact ((nI_eq (by omega) (by omega)).mp e0).symm
  have ec : (ξ 0).toNatClampNeg = nr1 := by rw [e1, nI_clamp (by omega)]
  have er : (σ 2).toNatClampNeg = nr1 := by rw [e2, nI_clamp (by omega)]
  have e5 : ξ 1 = σ 1 := by
    obtain ⟨t, -, z1, z2⟩ := h5
    rw [z1, z2]
  generalize hα : med (mmakes σ α (α 3 j0) (α 4 j0) (nI j0)).2 nr1 j0 20 = α'
  have a3 : α' 3 = upd (α 3) nr1 (α 3 j0) := by rw [← hα]; show upd (α 3) (σ 2).toNatClampNeg (α 3 j0) = _; rw [er]
  have a4 : α' 4 = upd (α 4) nr1 (α 4 j0) := by rw [← hα]; show upd (α 4) (σ 2).toNatClampNeg (α 4 j0) = _; rw [er]
  have a5 : α' 5 = upd (α 5) nr1 (σ 1) := by rw [← hα]; show upd (α 5) (σ 2).toNatClampNeg (σ 1) = _; rw [er]
  have a7 : α' 7 = upd (α 7) nr1 (nI j0) := by rw [← hα]; show upd (α 7) (σ 2).toNatClampNeg (nI j0) = _; rw [er]
  have a10 : α' 10 = cpf (α 10) nr1 j0 20 := by rw [← hα]; rfl
  have a11 : α' 11 = cpf (α 11) nr1 j0 20 := by rw [← hα]; rfl
  have a13 : α' 13 = cpf (α 13) nr1 j0 20 := by rw [← hα]; rfl
  have ao : ∀ x, x ≠ 3 → x ≠ 4 → x ≠ 5 → x ≠ 7 → x ≠ 10 → x ≠ 11 → x ≠ 13 → α' x = α x := fun x y3 y4 y5 y7 y10 y11 y13 => by
    rw [← hα]
    unfold med
    rw [upa_n y13, upa_n y11, upa_n y10]
    show upa (upa (upa (upa α 3 _) 4 _) 5 _) 7 _ x = _
    rw [upa_n y7, upa_n y5, upa_n y4, upa_n y3]
  have o6 := ao 6 (by decide) (by decide) (by decide) (by decide) (by decide) (by decide) (by decide)
  have o8 := ao 8 (by decide) (by decide) (by decide) (by decide) (by decide) (by decide) (by decide)
  have o9 := ao 9 (by decide) (by decide) (by decide) (by decide) (by decide) (by decide) (by decide)
  have o12 := ao 12 (by decide) (by decide) (by decide) (by decide) (by decide) (by decide) (by decide)
  have o14 := ao 14 (by decide) (by decide) (by decide) (by decide) (by decide) (by decide) (by decide)
  have o15 := ao 15 (by decide) (by decide) (by decide) (by decide) (by decide) (by decide) (by decide)
  rw [ec]
  refine ⟨nr1 + 1, fch cs nr1 n, fch I nr1 i, fch K nr1 k, fch T nr1 (ξ 1), fch F nr1 (nI j0), fch Z nr1 (upd (upd (fun _ => 0) 0 (ζ 0)) 1 (ζ 1)), fch G nr1 (va_cpy g (fun _ => 0) 0 0 20), fch W nr1 (fun _ => 0), t1, rs1, qk, ql, ⟨by omega, ?_, ?_⟩, h2.add hln _ _ _ _ _ _ _, fun j hj => ?_, ?_, h5, ?_, ?_, ?_, ?_, ?_, ?_, ?_⟩
  · show ξ 0 + 1 = _
    rw [e1, nI_1]
  · show σ 2 + 1 = _
    rw [e2, nI_1]
  · by_cases e : j = nr1
    · subst e
      rw [fch_s, fch_s, fch_s, fch_s, fch_s, fch_s, fch_s]
      obtain ⟨f6, f8, f⟩ := h4 j (Nat.le_refl _) hnr
      obtain ⟨⟨m, hm, m1, m2⟩, ⟨kd, hk, k1, k2⟩, -, -, -, -, z7, z8, -, z10⟩ := hQ
      rw [a3, a4, a5, a7, o6, o8, o9, a10, a11, o12, a13]
      refine ⟨⟨m, hm, m1, by rw [pk_us]; exact m2⟩, ⟨kd, hk, k1, by rw [pk_us]; exact k2⟩, by rw [pk_us]; exact e5, pk_us.symm, ⟨0, by omega, rfl, f6⟩, ⟨0, by omega, rfl, f8, fun q hq => absurd hq (by omega)⟩, fun e he => ?_, fun e he => ?_, fun e he => ?_, fun e he => ?_⟩
      · rw [cpf_in he]; exact z7 e he
      · rw [cpf_in he]; exact z8 e he
      · show xhs 0 (nI e) = 1 ↔ _
        rw [xhs_0 he]
        constructor
        · intro z; exact absurd z (by decide)
        · rintro ⟨y1, y2⟩; exact absurd (f e y1).2.2.1 y2
      · rw [cpf_in he]
        have : va_cpy g (fun _ => 0) 0 0 20 e = g e := by
          unfold va_cpy
          rw [if_pos ⟨Nat.zero_le _, by omega⟩, Nat.zero_add, Nat.sub_zero]
        rw [this]
        exact z10 e he
    · rw [fch_n e, fch_n e, fch_n e, fch_n e, fch_n e, fch_n e, fch_n e]
      exact rlQ_p (h3 j (by omega)) (by rw [a3, pk_un e]) (by rw [a4, pk_un e]) (by rw [a5, pk_un e]) (by rw [a7, pk_un e]) (by rw [o6]) (by rw [o8]) (fun q _ => by rw [o9]) (fun q hq => ⟨by rw [a10, cpf_out hq e], by rw [a11, cpf_out hq e], by rw [o12], by rw [a13, cpf_out hq e]⟩)
  · rw [o6, o8, o12]
    exact fun j y1 y2 => ⟨(h4 j (by omega) y2).1, (h4 j (by omega) y2).2.1, fun e he => ⟨by rw [a10, cpf_out he (by omega)]; exact ((h4 j (by omega) y2).2.2 e he).1, by rw [a11, cpf_out he (by omega)]; exact ((h4 j (by omega) y2).2.2 e he).2.1, ((h4 j (by omega) y2).2.2 e he).2.2.1, by rw [a13, cpf_out he (by omega)]; exact ((h4 j (by omega) y2).2.2 e he).2.2.2⟩⟩
  · rw [ao 17 (by decide) (by decide) (by decide) (by decide) (by decide) (by decide) (by decide)]; exact h6
  · rw [o14]; exact h7
  · rw [o15]; exact h8
  · rw [ao 35 (by decide) (by decide) (by decide) (by decide) (by decide) (by decide) (by decide), ao 36 (by decide) (by decide) (by decide) (by decide) (by decide) (by decide) (by decide)]; exact h9
  · rw [ao 38 (by decide) (by decide) (by decide) (by decide) (by decide) (by decide) (by decide)]; exact h10
  · have hal : ∀ {bo : Nat} {z y : Int32}, rlU bo z β y α rs1 → rlU bo z β y α' rs1 := fun z => rlU_al z (ao 22 (by decide) (by decide) (by decide) (by decide) (by decide) (by decide) (by decide)) (ao 23 (by decide) (by decide) (by decide) (by decide) (by decide) (by decide) (by decide)) (ao 24 (by decide) (by decide) (by decide) (by decide) (by decide) (by decide) (by decide)) (ao 25 (by decide) (by decide) (by decide) (by decide) (by decide) (by decide) (by decide)) (ao 26 (by decide) (by decide) (by decide) (by decide) (by decide) (by decide) (by decide)) (ao 30 (by decide) (by decide) (by decide) (by decide) (by decide) (by decide) (by decide)) (ao 31 (by decide) (by decide) (by decide) (by decide) (by decide) (by decide) (by decide))
    rcases h11 with ⟨y1, y2, z⟩ | ⟨y1, y2, z⟩
    · exact Or.inl ⟨y1, y2, hal z⟩
    · exact Or.inr ⟨y1, y2, hal z⟩
  · rw [a10, a11, o12, o14, o15]
    exact ⟨cpf_B h12.1, cpf_B h12.2.1, h12.2.2⟩
theorem s_edition {l : Launch} (hl : l.stackTraces = false) {D : va_G} {cA : Nat → ClassId} {b n : Nat} {h : AH} (hS : St n h) (r : Int32) : Cn l D cA b y_L_edition k_L_edition 8 113 3 34 [.ref 0, .int r, .ref 56] n h (Wq l D cA b y_M_edition k_M_edition 2 29 [.ref 28, .int r]) := by
  obtain ⟨k0, f0, ξ, β, ρ, u, w, σ, α, h0, h57, rfl, ho, hR, -⟩ := hS
  obtain ⟨nr, hle, hx, hy⟩ := hR.cnt
  rcases rep_c hx hy hle r with ⟨ha, hb⟩ | ⟨j, hj, rfl, j1, hb⟩
  · exact th_q (w_edition_7 hl _ (by omega) (ovX_c (xo := 0) (o := 0) rfl) (c_X_edition_u hl _ (by omega) _ ha)) (fun h1 => c_M_edition_u hl _ _ _ h1 (by omega) hb) h57 ho (by decide) (hR.thrown 1) rfl
  · obtain ⟨c, i, kd, t, fo, ζ, g, ws, hρ, c1, c2, hE, hQ, -⟩ := hR.rep (j := j) (by omega) j1
    have hE' := repM (σ := σ) (α := α) c1 hE
    have hcl := rcl_c hQ
    by_cases z : α 8 j = 3
    · by_cases e30 : nr = 30
      · have cX := c_X_edition_c hl (D := D) (cA := cA) (b := b) (n := n) (xo := 0) (ξ := ξ) (β := β) (ρ := ρ) (u := u) (v := w) (r := c) (i0 := i) (k0 := kd) (t0 := t) (f0 := fo) (ζ := ζ) (g := g) (w := ws) (ovM 28 σ α h0) (by omega) c2 j (by omega) j1 hρ (fun q => hcl.mp q z) (by rw [hx, e30]; decide)
        rw [hE'] at cX
        exact th_q (w_edition_10 hl _ (by omega) (ovX_c (xo := 0) (o := 0) rfl) cX) (fun h1 => c_M_edition_3 hl j _ _ h1 (by omega) nr hy e30 hj z) h57 ho (by decide) (hR.thrown 3) rfl
      · have hlt : ξ 0 < 30 := by rw [hx]; exact nI_lt (b := 30) (by omega) (by omega)
        have cX := c_X_edition_r hl (D := D) (cA := cA) (b := b) (n := n) (xo := 0) (ξ := ξ) (β := β) (ρ := ρ) (u := u) (v := w) (r := c) (i0 := i) (k0 := kd) (t0 := t) (f0 := fo) (ζ := ζ) (g := g) (w := ws) (ovM 28 σ α h0) (by omega) c2 j (by omega) j1 hρ (fun q => hcl.mp q z) hlt (by rw [hx]; exact vp_in_nI (by omega) (by omega))
        rw [hE', ovR_c2 (Or.inr c2), hE', ovM_R (by omega)] at cX
        exact rt_q (w_edition_r hl _ (by omega) (ovX_c (xo := 0) (o := 0) rfl) cX (by omega) (outX (oR (by omega) ho))) (fun h1 => c_M_edition_r hl j _ _ h1 (by omega) nr hy (by omega) hj z hR.bb.1 hR.bb.2.1) (by omega) ((hR.thrown 0).edit h57 (show nr < 30 by omega) hx hj hQ) rfl (by rw [fch0, hx])
    · have cX := c_X_edition_b hl (D := D) (cA := cA) (b := b) (n := n) (xo := 0) (ξ := ξ) (β := β) (ρ := ρ) (u := u) (v := w) (r := c) (i0 := i) (k0 := kd) (t0 := t) (f0 := fo) (ζ := ζ) (g := g) (w := ws) (ovM 28 σ α h0) (by omega) c2 j (by omega) j1 hρ (hcl.mpr z)
      rw [hE'] at cX
      exact th_q (w_edition_9 hl _ (by omega) (ovX_c (xo := 0) (o := 0) rfl) cX) (fun h1 => c_M_edition_2 hl j _ _ h1 (by omega) nr hy hle hj z) h57 ho (by decide) (hR.thrown 2) rfl
/-- place: called straight; what it answers is not compared -/
theorem s_place {l : Launch} (hl : l.stackTraces = false) {D : va_G} {cA : Nat → ClassId} {b n : Nat} {h : AH} (hS : St n h) : Cn l D cA b y_X_place k_X_place 0 0 0 0 [.ref 0] n h (fun r n' h' => n' = n ∧ h' = h ∧ ∃ v : Int32, r = .inl (some (.int v))) ∧ Cn l D cA b y_M_place k_M_place 0 0 0 0 [.ref 28] n h (fun r n' h' => n' = n ∧ St n h' ∧ ∃ v : Int32, r = .inl (some (.int v))) := by
  obtain ⟨k0, f0, ξ, β, ρ, u, w, σ, α, h0, h57, rfl, ho, hR, -⟩ := hS
  refine ⟨(c_X_place hl _ (by omega)).mono (fun r n' h' hq => ⟨hq.2.1, hq.2.2, _, hq.1⟩), ?_⟩
  rw [ovX_M (by omega)]
  refine (c_M_place hl _ _ _ (by omega)).mono (fun r n' h' hq => ⟨hq.2.1, ⟨_, f0, ξ, β, ρ, u, w, _, α, h0, h57, ?_, ho, hR.thrown 0, rfl⟩, _, hq.1⟩)
  rw [hq.2.2, ovX_M (by omega)]
theorem st_0 (h : AH) : St 57 (ovX 0 ξ0 β0 ρ0 6 13 (ovM 28 σ0 β0 (hu h 56 (oc (fun _ => 0))))) :=
  ⟨_, _, ξ0, β0, ρ0, 6, 13, σ0, β0, _, Nat.le_refl _, rfl, hu_s _ _ _, Rel0 _ _ _, rfl⟩
theorem Mz.st {P : Int32 → Int64 → Int32 → Prop} {n n' : Nat} {k : Int32} {r : Rz} {h' : AH} (hq : Mz P n k r n' h') : St n' h' := by
  obtain ⟨rfl, v, f, -, hB, -⟩ := hq
  exact ⟨k, f, hB⟩
theorem Mv.st {n n' : Nat} {k : Int32} {r : Rz} {h' : AH} (hq : Mv n k r n' h') : St n' h' := by
  obtain ⟨rfl, -, f, hB⟩ := hq
  exact ⟨k, f, hB⟩
theorem Bo.m {n : Nat} {h : AH} {k : Int32} {f : Nat → Int64} (hB : Bo n h k f) : ∃ fs, h 28 = .inr (6, fs) := by
  obtain ⟨ξ, β, ρ, u, w, σ, α, h0, h57, rfl, ho, hR, hk⟩ := hB
  rw [ovX_M (by omega)]
  exact ⟨_, ovM_o _ _ _ _⟩
theorem Bo.x {n : Nat} {h : AH} {k : Int32} {f : Nat → Int64} (hB : Bo n h k f) : 57 ≤ n ∧ ∃ fs, h 0 = .inr (0, fs) := by
  obtain ⟨ξ, β, ρ, u, w, σ, α, h0, h57, rfl, ho, hR, hk⟩ := hB
  exact ⟨h57, _, ovX_c (xo := 0) (o := 0) rfl⟩
theorem Bo.out {n : Nat} {h : AH} {k : Int32} {f : Nat → Int64} (hB : Bo n h k f) : h 56 = .inl (4, 1, .inr (.inl f)) := by
  obtain ⟨ξ, β, ρ, u, w, σ, α, h0, h57, rfl, ho, hR, hk⟩ := hB
  exact outX ho
theorem Bo.th {l : Launch} (hl : l.stackTraces = false) {D : va_G} {cA : Nat → ClassId} {b n : Nat} {h : AH} {k : Int32} {f : Nat → Int64} (hB : Bo n h k f) : Cn l D cA b y_M_thrown k_M_thrown 0 0 0 0 [.ref 28] n h (Re (some (.int k)) n h) := by
  obtain ⟨ξ, β, ρ, u, w, σ, α, h0, h57, rfl, ho, hR, rfl⟩ := hB
  rw [ovX_M (by omega)]
  exact c_M_thrown hl _ _ _ (by omega)
theorem St.x {n : Nat} {h : AH} (hS : St n h) : 57 ≤ n ∧ ∃ fs, h 0 = .inr (0, fs) := by
  obtain ⟨k, f, hB⟩ := hS
  exact hB.x
theorem St.m {n : Nat} {h : AH} (hS : St n h) : ∃ fs, h 28 = .inr (6, fs) := by
  obtain ⟨k, f, hB⟩ := hS
  exact hB.m
/-! ===== the law's script, and where its calls lead ===== -/
section JLW
variable {p : Program} {l : Launch} {e : Env} {R : Room} {s : State} {m : MethodId} {args : Array Value} {below : List Frame} {meth : Method} {c : Code} {D : va_G} {cA : Nat → ClassId} {b nL : Nat} {Q : State → Prop} {n : Nat} {h : AH} {kc ks pc : Nat} {L : List (Nat × Value)} {st : List Value} {own mn : String} {cc : ByteArray} {ret : Option FieldType} {hh : List (Nat × Nat × Nat × Nat)}
theorem j_aloadr_n (C : Cx p l s m meth c D cA b nL own mn cc ret hh) {i : Fin 4} {j : Nat} {x : Nat} (hd : decode cc pc = .ok (.aload_n i, 1)) (hi : (i : Nat) = j) (hx : List.lookup j L = some (.retAddr x)) (k : J p l e R s m args below meth c D cA b nL Q n h kc ks (pc + 1) L (.retAddr x :: st)) : J p l e R s m args below meth c D cA b nL Q n h kc ks pc L st :=
  fun H locs ls hp hS hl => lv_aload_n C.1 C.2.1 hd hi (show ls[j]? = some (.val (.ref x)) from sL_at hl hx) (k H locs ls hp hS hl)
theorem j_sld (C : Cx p l s m meth c D cA b nL own mn cc ret hh) {sc len : Nat} {xs : Nat → Int32} {i w : Int32} (hX : va_X sc len xs s s.heap) (hsc : sc < s.heap.size) (hscb : sc < b) (hd : decode cc pc = .ok (.iaload, 1)) (hi : vp_in i len) (hv : xs i.toNatClampNeg = w) (k : J p l e R s m args below meth c D cA b nL Q n h kc ks (pc + 1) L (.int w :: st)) : J p l e R s m args below meth c D cA b nL Q n h kc ks pc L (.int i :: .retAddr sc :: st) := by
  intro H locs ls hp hS hl
  subst hv
  exact va_sld C.1 C.2.1 hX hsc (Nat.not_le.mpr hscb) hS hi hd (k H locs ls hp hS hl)
theorem j_slen (C : Cx p l s m meth c D cA b nL own mn cc ret hh) {sc len : Nat} {xs : Nat → Int32} (hX : va_X sc len xs s s.heap) (hsc : sc < s.heap.size) (hscb : sc < b) (hd : decode cc pc = .ok (.arraylength, 1)) (k : J p l e R s m args below meth c D cA b nL Q n h kc ks (pc + 1) L (.int (nI len) :: st)) : J p l e R s m args below meth c D cA b nL Q n h kc ks pc L (.retAddr sc :: st) := by
  intro H locs ls hp hS hl
  exact va_slen C.1 C.2.1 hX hsc (Nat.not_le.mpr hscb) hS hd (k H locs ls hp hS hl)
variable {y : MethodName} {cd : Cond} {fr lo : Nat} {vs : List Value} {P : Int32 → Int64 → Int32 → Prop} {k0 : Int32}
theorem jk_wz (k : ∀ (k1 : Int32) (n1 : Nat) (h1 : AH), 57 ≤ n1 → (∃ fs, h1 28 = .inr (6, fs)) → Cn l D cA b y cd fr lo 0 0 vs n1 h1 (Mz P n1 k1) → J p l e R s m args below meth c D cA b nL Q n1 h1 kc ks (pc + 3) L (.int k1 :: st)) : JK p l e R s m args below meth c D cA b nL Q kc ks pc L st (Wz P l D cA b y cd fr lo vs) := by
  refine ⟨fun v n' h' hq => ?_, fun ci n' h' q hq => ?_⟩
  · obtain ⟨k1, e1, h57, hf, hc⟩ := hq
    cases e1
    exact k k1 n' h' h57 hf hc
  · obtain ⟨k1, e1, -⟩ := hq
    cases e1
theorem jk_wv (k : ∀ (k1 : Int32) (n1 : Nat) (h1 : AH), 57 ≤ n1 → (∃ fs, h1 28 = .inr (6, fs)) → Cn l D cA b y cd fr lo 0 0 vs n1 h1 (Mv n1 k1) → J p l e R s m args below meth c D cA b nL Q n1 h1 kc ks (pc + 3) L (.int k1 :: st)) : JK p l e R s m args below meth c D cA b nL Q kc ks pc L st (Wv l D cA b y cd fr lo vs) := by
  refine ⟨fun v n' h' hq => ?_, fun ci n' h' q hq => ?_⟩
  · obtain ⟨k1, e1, h57, hf, hc⟩ := hq
    cases e1
    exact k k1 n' h' h57 hf hc
  · obtain ⟨k1, e1, -⟩ := hq
    cases e1
theorem jk_mz (k : ∀ (v2 : Int32) (f2 : Nat → Int64) (h2 : AH), Bo n h2 k0 f2 → P k0 (f2 0) v2 → J p l e R s m args below meth c D cA b nL Q n h2 kc ks (pc + 3) L (.int v2 :: st)) : JK p l e R s m args below meth c D cA b nL Q kc ks pc L st (Mz P n k0) := by
  refine ⟨fun v n' h' hq => ?_, fun ci n' h' q hq => ?_⟩
  · obtain ⟨rfl, v2, f2, e1, hB, hP⟩ := hq
    cases e1
    exact k v2 f2 h' hB hP
  · obtain ⟨rfl, v2, f2, e1, -⟩ := hq
    cases e1
theorem jk_mv (k : ∀ (f2 : Nat → Int64) (h2 : AH), Bo n h2 k0 f2 → J p l e R s m args below meth c D cA b nL Q n h2 kc ks (pc + 3) L st) : JK p l e R s m args below meth c D cA b nL Q kc ks pc L st (Mv n k0) := by
  refine ⟨fun v n' h' hq => ?_, fun ci n' h' q hq => ?_⟩
  · obtain ⟨rfl, e1, f2, hB⟩ := hq
    cases e1
    exact k f2 h' hB
  · obtain ⟨rfl, e1, -⟩ := hq
    cases e1
theorem jk_px (k : ∀ v1 : Int32, J p l e R s m args below meth c D cA b nL Q n h kc ks (pc + 3) L (.int v1 :: st)) : JK p l e R s m args below meth c D cA b nL Q kc ks pc L st (fun r n' h' => n' = n ∧ h' = h ∧ ∃ v : Int32, r = .inl (some (.int v))) := by
  refine ⟨fun v n' h' hq => ?_, fun ci n' h' q hq => ?_⟩
  · obtain ⟨rfl, rfl, v1, e1⟩ := hq
    cases e1
    exact k v1
  · obtain ⟨-, -, v1, e1⟩ := hq
    cases e1
theorem jk_pm (k : ∀ (v2 : Int32) (h2 : AH), St n h2 → J p l e R s m args below meth c D cA b nL Q n h2 kc ks (pc + 3) L (.int v2 :: st)) : JK p l e R s m args below meth c D cA b nL Q kc ks pc L st (fun r n' h' => n' = n ∧ St n h' ∧ ∃ v : Int32, r = .inl (some (.int v))) := by
  refine ⟨fun v n' h' hq => ?_, fun ci n' h' q hq => ?_⟩
  · obtain ⟨rfl, hS, v2, e1⟩ := hq
    cases e1
    exact k v2 h' hS
  · obtain ⟨-, -, v2, e1⟩ := hq
    cases e1
end JLW
theorem six {q k len : Nat} (h : q + k < len) (hl : len < 2 ^ 31) : vp_in (nI q + nI k) len := by
  rw [nI_add]
  exact vp_in_nI h hl
theorem sixc {xs : Nat → Int32} {q k len : Nat} (h : q + k < len) (hl : len < 2 ^ 31) : xs (nI q + nI k).toNatClampNeg = xs (q + k) := by
  rw [nI_add, nI_clamp (by omega)]
theorem lcz {a b : Int64} (h : a = b) : lg_cmp a b = 0 := by
  subst h
  unfold lg_cmp
  simp
theorem i64_0 {v : Int32} (h : v = 0) : v.toInt64 = 0 := by
  subst h
  rfl
theorem i64_1 {v : Int32} (h : v = 1) : v.toInt64 = 1 := by
  subst h
  rfl
theorem lexit {len q : Nat} (h1 : len ≤ 2048) (h2 : q ≤ 2052) : nI len - nI 4 < nI q ↔ len < q + 4 := by
  rw [Int32.lt_iff_toInt_lt, Int32.toInt_sub, nI_toInt (by omega), nI_toInt (by omega), nI_toInt (by omega)]
  have e : ((len : Int) - (4 : Nat)).bmod (2 ^ 32) = (len : Int) - 4 := Int.bmod_eq_of_le (by omega) (by omega)
  rw [e]
  omega
