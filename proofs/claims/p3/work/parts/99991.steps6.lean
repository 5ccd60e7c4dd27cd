/-! ===== the calls: rules, check, put ===== -/
section RB
variable {lo n : Nat} {ξ : Nat → Int32} {β : Nat → Nat → Int32} {ρ : Nat → Option Nat} {u v : Nat} {h : AH} {σ : Nat → Int32} {α : Nat → Nat → Int32}
theorem Rel.bk (hR : Rel lo n ξ β ρ u v h σ α) : ∃ rs, (u = 6 ∧ v = 13 ∧ rlU 6 (ξ 6) β (σ 21) α rs) ∨ (u = 13 ∧ v = 6 ∧ rlU 13 (ξ 7) β (σ 21) α rs) := by
  obtain ⟨nr, cs, I, K, T, F, Z, G, W, t, rs, qk, ql, h1, h2, h3, h4, h5, h6, h7, h8, h9, h10, h11, h12⟩ := hR
  exact ⟨rs, h11⟩
theorem Rel.frn (hR : Rel lo n ξ β ρ u v h σ α) : FRn α := by
  obtain ⟨rs, ⟨-, -, h⟩ | ⟨-, -, h⟩⟩ := hR.bk
  · exact h.2.2.2.2.2.2.2.2
  · exact h.2.2.2.2.2.2.2.2
/-- what the latest check found is told -/
theorem Rel.chk (hR : Rel lo n ξ β ρ u v h σ α) {q : List (Int32 × Int32)} {x : Int32} {α1 : Nat → Nat → Int32} (hq : q.length ≤ 40) (hW : Wl α1 q) (hA : Aw α1 α) : Rel lo n (upd ξ 8 (nI q.length)) (upa (upa β 21 (wl (β 21) (q.map Prod.fst))) 22 (wl (β 22) (q.map Prod.snd))) ρ u v h (upd (upd (upd σ 0 0) 34 (nI q.length)) 33 x) α1 := by
  obtain ⟨nr, cs, I, K, T, F, Z, G, W, t, rs, qk, ql, h1, h2, h3, h4, h5, h6, h7, h8, h9, h10, h11, h12⟩ := hR
  have a : ∀ k, k < 35 → α1 k = α k := fun k hk => hA k (by omega) (by omega)
  have a38 : α1 38 = α 38 := hA 38 (by omega) (by omega)
  have e1 : ∀ (g : Nat → Int32) (w : List Int32) (j : Nat) (y : Int32), w[j]? = some y → wl g w j = y := fun g w j y hy => by
    have hj := (List.getElem?_eq_some_iff.mp hy).1
    unfold wl
    rw [if_pos hj, List.getD_eq_getElem?_getD, hy]
    rfl
  refine ⟨nr, cs, I, K, T, F, Z, G, W, t, rs, q, ql, h1, h2, ?_, ?_, h5, ?_, ?_, ?_, ⟨hq, rfl, rfl, fun j z hz => ⟨e1 _ _ _ _ (by rw [List.getElem?_map, hz]; rfl), e1 _ _ _ _ (by rw [List.getElem?_map, hz]; rfl), (hW j z hz).1, (hW j z hz).2⟩⟩, ?_, ?_, ?_⟩
  · intro j hj
    rw [a 3 (by omega), a 4 (by omega), a 5 (by omega), a 6 (by omega), a 7 (by omega), a 8 (by omega), a 9 (by omega), a 10 (by omega), a 11 (by omega), a 12 (by omega), a 13 (by omega)]
    exact h3 j hj
  · rw [a 6 (by omega), a 8 (by omega), a 10 (by omega), a 11 (by omega), a 12 (by omega), a 13 (by omega)]
    exact h4
  · rw [a 17 (by omega)]
    exact h6
  · rw [a 14 (by omega)]
    exact h7
  · rw [a 15 (by omega)]
    exact h8
  · rw [a38]
    exact h10
  · rcases h11 with ⟨e1, e2, z⟩ | ⟨e1, e2, z⟩
    · exact Or.inl ⟨e1, e2, rlU_al (α := α) z (a 22 (by omega)) (a 23 (by omega)) (a 24 (by omega)) (a 25 (by omega)) (a 26 (by omega)) (a 30 (by omega)) (a 31 (by omega))⟩
    · exact Or.inr ⟨e1, e2, rlU_al (α := α) z (a 22 (by omega)) (a 23 (by omega)) (a 24 (by omega)) (a 25 (by omega)) (a 26 (by omega)) (a 30 (by omega)) (a 31 (by omega))⟩
  · rw [a 10 (by omega), a 11 (by omega), a 12 (by omega), a 14 (by omega), a 15 (by omega)]
    exact h12
/-- what signing looks for itself is of no account -/
theorem Rel.f23 (hR : Rel lo n ξ β ρ u v h σ α) (x y : Int32) (f g : Nat → Int32) : Rel lo n (upd ξ 9 x) (upa (upa β 24 f) 25 g) ρ u v h (upd σ 33 y) α := by
  obtain ⟨nr, cs, I, K, T, F, Z, G, W, t, rs, qk, ql, h1, h2, h3, h4, h5, h6, h7, h8, h9, h10, h11, h12⟩ := hR
  refine ⟨nr, cs, I, K, T, F, Z, G, W, t, rs, qk, ql, h1, h2, h3, h4, h5, h6, h7, h8, h9, h10, ?_, h12⟩
  rcases h11 with ⟨e1, e2, z⟩ | ⟨e1, e2, z⟩
  · exact Or.inl ⟨e1, e2, z⟩
  · exact Or.inr ⟨e1, e2, z⟩
end RB
theorem cap_f (ms : Int32) : ∀ (n f : Nat), (xkf ms n f).length ≤ n := by
  intro n
  induction n with
  | zero => intro f; exact Nat.le_refl _
  | succ n ih =>
    intro f
    show ((if xhs ms (nI f) = 0 then [] else [(1, nI f)]) ++ xkf ms n (f + 1)).length ≤ n + 1
    rw [List.length_append]
    have := ih (f + 1)
    split
    · simp only [List.length_nil]; omega
    · simp only [List.length_singleton]; omega
theorem cap_r (F : Nat → Int32) : ∀ (n q : Nat), (xkr F n q).length ≤ n := by
  intro n
  induction n with
  | zero => intro f; exact Nat.le_refl _
  | succ n ih =>
    intro q
    show ((if F q = -1 then [] else [(F q, nI q)]) ++ xkr F n (q + 1)).length ≤ n + 1
    rw [List.length_append]
    have := ih (q + 1)
    split
    · simp only [List.length_nil]; omega
    · simp only [List.length_singleton]; omega
/-- the book's counts of terms -/
theorem tc_c {bo : Nat} {z y : Int32} {β α : Nat → Nat → Int32} {rs : List Ru} (h : rlU bo z β y α rs) : ∀ s, s < 2 * rs.length → ∃ c, c ≤ 4 ∧ β (bo + 3) s = nI c := by
  intro s hs
  obtain ⟨-, -, -, -, hX, hL, -⟩ := h
  have hq : s / 2 < rs.length := by omega
  obtain ⟨-, x1, x2, -⟩ := hX (s / 2) rs[s / 2] (List.getElem?_eq_getElem hq)
  obtain ⟨l1, l2⟩ := hL (s / 2) rs[s / 2] (List.getElem?_eq_getElem hq)
  rcases Nat.mod_two_eq_zero_or_one s with e | e
  · rw [show 2 * (s / 2) = s by omega] at x1
    exact ⟨_, l1, x1⟩
  · rw [show 2 * (s / 2) + 1 = s by omega] at x2
    exact ⟨_, l2, x2⟩
/-- both find the same -/
theorem ck_eq {bo : Nat} {z y : Int32} {β α : Nat → Nat → Int32} {rs : List Ru} (h : rlU bo z β y α rs) (hA : rlA (β 2) (α 14)) {j kd : Nat} {i k t f : Int32} {ζ g w : Nat → Int32} (hQ : rlQ j i k t f ζ g w α) (hj : j < 30) (hkd : kd < 5) : xkf (β 2 kd &&& (ζ 0 ^^^ -1)) 20 0 ++ xkr (bkF bo β (ζ 0) g) rs.length 0 = ckl α j kd rs.length := by
  obtain ⟨h1, h2, h3, h4, h5, h6, h7, h8, h9, h10⟩ := hQ
  obtain ⟨u1, -, -, u4, u5, u6, u7, -, -⟩ := h
  unfold ckl
  rw [kf_eq (ak := β 2 kd) (fl := ζ 0) (fun f hf => hA kd f hkd hf) h7 20 0 (by omega), kr_eq (F := bkF bo β (ζ 0) g) (nq := rs.length) (fun q hq => ?_) rs.length 0 (by omega)]
  exact vd_eq (rs := rs) (x := rs[q]) (List.getElem?_eq_getElem hq) (by omega) hj u4 u5 u6 (u7 q rs[q] (List.getElem?_eq_getElem hq)).1 (u7 q rs[q] (List.getElem?_eq_getElem hq)).2 (fun f hf => (h10 f hf).1) (fun f hf => by rw [← (h10 f hf).1]; exact (h10 f hf).2) h7
theorem mg_rules {l : Launch} (hl : l.stackTraces = false) {D : va_G} {cA : Nat → ClassId} {b n : Nat} {σ : Nat → Int32} {α : Nat → Nat → Int32} (h1 : AH) (hn : 57 ≤ n) (t : Nat) (h16 : σ 16 = nI t) (ht : t ≤ 300) (hFn : FRn α) : Cn l D cA b y_M_rules k_M_rules 6 85 0 0 [.ref 28] n (ovM 28 σ α h1) (Mg n h1 (fun v s a => v = rvl (prules (α 17) t) ∧ KeS s σ ∧ s 16 = 0 ∧ FRn a ∧ (∀ x, x < 22 ∨ 32 < x → a x = α x) ∧ (prules (α 17) t = none → s 0 = 1 ∧ s 21 = σ 21 ∧ 0 ≤ s 18 ∧ ∀ x, x < 28 → a x = α x) ∧ ∀ rs, prules (α 17) t = some rs → s 0 = 0 ∧ s 21 = nI rs.length ∧ s 18 = -1 ∧ RuM a rs ∧ FR a ∧ rs.length ≤ 20 ∧ Lk rs)) :=
  (c_M_rules_r hl σ α h1 (by omega) t h16 ht hFn).mono (fun r n' h' hq => by
    obtain ⟨e1, e2, s, a, e3, e4⟩ := hq
    exact ⟨e2, _, s, a, e1, e3, rfl, e4⟩)
theorem s_rules {l : Launch} (hl : l.stackTraces = false) {D : va_G} {cA : Nat → ClassId} {b n : Nat} {h : AH} (hS : St n h) : Cn l D cA b y_L_rules k_L_rules 7 112 1 6 [.ref 0, .ref 56] n h (Wq l D cA b y_M_rules k_M_rules 6 85 [.ref 28]) := by
  obtain ⟨k0, f0, ξ, β, ρ, u, w, σ, α, h0, h57, rfl, ho, hR, -⟩ := hS
  obtain ⟨t, t1, t2, t3, t4⟩ := hR.tp
  obtain ⟨rs, hU⟩ := hR.bk
  have hcp : crul (β 4) t (t + 1) 0 [] = prules (α 17) t := crul_prul t4 _ _ _
  rcases hU with ⟨rfl, rfl, -⟩ | ⟨rfl, rfl, -⟩
  · cases hc : crul (β 4) t (t + 1) 0 [] with
    | none =>
      refine (w_rules_t (xo := 0) hl (by omega) (ovX_c (xo := 0) (o := 0) rfl) (c_X_rules_13_n hl (ovM 28 σ α h0) (by omega) t t1 t2 hc)).mono (fun r n' h' hq => ?_)
      obtain ⟨rfl, rfl, a', k', β', ha, rfl, hA⟩ := hq
      refine ⟨1, rfl, ?_⟩
      rw [ovX_out (Or.inr (by omega)), ovM_hu (by omega), ovX_M (by omega)]
      refine ⟨by omega, ⟨_, ovM_o _ _ _ _⟩, ?_⟩
      refine e_q (mg_rules hl _ (by omega) t t3 t1 hR.frn) (by omega) (by rw [hu_n (by omega)]; exact ho) (fun v s a hg => ?_)
      obtain ⟨g1, g2, g3, g4, g5, g6, -⟩ := hg
      obtain ⟨g7, g8, -, g9⟩ := g6 (by rw [← hcp]; exact hc)
      exact ⟨(hR.rules_13_n hA g2 g3 g4 g5 g8 g9).hu (by omega) (Or.inr (Nat.le_refl _)), g7, fun z => absurd z (by decide)⟩
    | some rs0 =>
      refine (w_rules_p (xo := 0) (f := f0) hl (by omega) (ovX_c (xo := 0) (o := 0) rfl) (c_X_rules_13_s hl (ovM 28 σ α h0) (by omega) t t1 t2 rs0 hc) (by omega) (fun h1 hP => ?_)).mono (fun r n' h' hq => ?_)
      · obtain ⟨a', β', rfl, -, -⟩ := hP
        exact outX ho
      · obtain ⟨rfl, rfl, h1, ⟨a', β', rfl, hA, hX⟩, rfl⟩ := hq
        refine ⟨0, rfl, ?_⟩
        rw [ovX_out (Or.inr (by omega)), ovM_hu (by omega), ovX_M (by omega)]
        refine ⟨by omega, ⟨_, ovM_o _ _ _ _⟩, ?_⟩
        refine e_q (mg_rules hl _ (by omega) t t3 t1 hR.frn) (by omega) (hu_s _ _ _) (fun v s a hg => ?_)
        obtain ⟨g1, g2, g3, g4, g5, -, g6⟩ := hg
        have hps : prules (α 17) t = some rs0 := by rw [← hcp]; exact hc
        obtain ⟨g7, g8, -, g9, g10, -, -⟩ := g6 rs0 hps
        refine ⟨(hR.rules_13_s t1 hc hA hX g2 g3 g4 g5 g8 g9 g10).hu (Nat.le_refl _) (Or.inl (by omega)), g7, fun _ => ?_⟩
        rw [g1, hps]
        exact fch0 _ _
  · cases hc : crul (β 4) t (t + 1) 0 [] with
    | none =>
      refine (w_rules_t (xo := 0) hl (by omega) (ovX_c (xo := 0) (o := 0) rfl) (c_X_rules_6_n hl (ovM 28 σ α h0) (by omega) t t1 t2 hc)).mono (fun r n' h' hq => ?_)
      obtain ⟨rfl, rfl, a', k', β', ha, rfl, hA⟩ := hq
      refine ⟨1, rfl, ?_⟩
      rw [ovX_out (Or.inr (by omega)), ovM_hu (by omega), ovX_M (by omega)]
      refine ⟨by omega, ⟨_, ovM_o _ _ _ _⟩, ?_⟩
      refine e_q (mg_rules hl _ (by omega) t t3 t1 hR.frn) (by omega) (by rw [hu_n (by omega)]; exact ho) (fun v s a hg => ?_)
      obtain ⟨g1, g2, g3, g4, g5, g6, -⟩ := hg
      obtain ⟨g7, g8, -, g9⟩ := g6 (by rw [← hcp]; exact hc)
      exact ⟨(hR.rules_6_n hA g2 g3 g4 g5 g8 g9).hu (by omega) (Or.inr (Nat.le_refl _)), g7, fun z => absurd z (by decide)⟩
    | some rs0 =>
      refine (w_rules_p (xo := 0) (f := f0) hl (by omega) (ovX_c (xo := 0) (o := 0) rfl) (c_X_rules_6_s hl (ovM 28 σ α h0) (by omega) t t1 t2 rs0 hc) (by omega) (fun h1 hP => ?_)).mono (fun r n' h' hq => ?_)
      · obtain ⟨a', β', rfl, -, -⟩ := hP
        exact outX ho
      · obtain ⟨rfl, rfl, h1, ⟨a', β', rfl, hA, hX⟩, rfl⟩ := hq
        refine ⟨0, rfl, ?_⟩
        rw [ovX_out (Or.inr (by omega)), ovM_hu (by omega), ovX_M (by omega)]
        refine ⟨by omega, ⟨_, ovM_o _ _ _ _⟩, ?_⟩
        refine e_q (mg_rules hl _ (by omega) t t3 t1 hR.frn) (by omega) (hu_s _ _ _) (fun v s a hg => ?_)
        obtain ⟨g1, g2, g3, g4, g5, -, g6⟩ := hg
        have hps : prules (α 17) t = some rs0 := by rw [← hcp]; exact hc
        obtain ⟨g7, g8, -, g9, g10, -, -⟩ := g6 rs0 hps
        refine ⟨(hR.rules_6_s t1 hc hA hX g2 g3 g4 g5 g8 g9 g10).hu (Nat.le_refl _) (Or.inl (by omega)), g7, fun _ => ?_⟩
        rw [g1, hps]
        exact fch0 _ _
theorem mg_check {l : Launch} (hl : l.stackTraces = false) {D : va_G} {cA : Nat → ClassId} {b n : Nat} {σ : Nat → Int32} {α : Nat → Nat → Int32} (h1 : AH) (hn : 57 ≤ n) (r : Nat) (nr : Nat) (hnr : σ 2 = nI nr) (hle : nr ≤ 30) (hr : r < nr) (kd : Nat) (hkd : α 4 r = nI kd) (hkl : kd < 5) (nq : Nat) (hnq : σ 21 = nI nq) (hql : nq ≤ 20) (hF : FR α) : Cn l D cA b y_M_check k_M_check 3 49 0 0 [.ref 28, .int (nI r)] n (ovM 28 σ α h1) (Mg n h1 (fun v s a => v = nI (ckl α r kd nq).length ∧ ∃ w, s = upd (upd (upd σ 0 0) 34 (nI (ckl α r kd nq).length)) 33 w ∧ Wl a (ckl α r kd nq) ∧ Aw a α)) :=
  (c_M_check_r hl r σ α h1 (by omega) nr hnr hle hr kd hkd hkl nq hnq hql hF).mono (fun r n' h' hq => by
    obtain ⟨e1, e2, w, a, e3, e4, e5⟩ := hq
    exact ⟨e2, _, _, a, e1, e3, rfl, w, rfl, e4, e5⟩)
theorem s_check {l : Launch} (hl : l.stackTraces = false) {D : va_G} {cA : Nat → ClassId} {b n : Nat} {h : AH} (hS : St n h) (r : Int32) : Cn l D cA b y_L_check k_L_check 8 112 1 6 [.ref 0, .int r, .ref 56] n h (Wq l D cA b y_M_check k_M_check 3 49 [.ref 28, .int r]) := by
  obtain ⟨k0, f0, ξ, β, ρ, u, w, σ, α, h0, h57, rfl, ho, hR, -⟩ := hS
  obtain ⟨nr, hle, hx, hy⟩ := hR.cnt
  rcases rep_c hx hy hle r with ⟨ha, hb⟩ | ⟨j, hj, rfl, j1, hb⟩
  · exact th_q (w_check_7 hl _ (by omega) (ovX_c (xo := 0) (o := 0) rfl) (c_X_check_u hl _ (by omega) _ ha)) (fun h1 => c_M_check_u hl _ _ _ h1 (by omega) hb) h57 ho (by decide) (hR.thrown 1) rfl
  · obtain ⟨c, i, kd0, t, fo, ζ, g, ws, hρ, c1, c2, hE, hQ, -⟩ := hR.rep (j := j) (by omega) j1
    have hE' := repM (σ := σ) (α := α) c1 hE
    obtain ⟨kd, hkl, hkd, hkd2⟩ := hQ.2.1
    obtain ⟨rs, hU⟩ := hR.bk
    rcases hU with ⟨rfl, rfl, hU⟩ | ⟨rfl, rfl, hU⟩
    · have ek := ck_eq hU hR.ak.1 hQ (show j < 30 by omega) hkl
      have cX := c_X_check_6 hl (D := D) (cA := cA) (b := b) (n := n) (xo := 0) (ξ := ξ) (β := β) (ρ := ρ) (r := c) (i0 := i) (k0 := kd0) (t0 := t) (f0 := fo) (ζ := ζ) (g := g) (w := ws) (ovM 28 σ α h0) (by omega) c2 j (by omega) j1 hρ kd rs.length hkd hkl hU.2.1 hU.1 (tc_c hU)
      rw [hE', ek] at cX
      have hlen : (ckl α j kd rs.length).length ≤ 40 := by
        rw [← ek, List.length_append]
        have a1 := cap_f (β 2 kd &&& (ζ 0 ^^^ -1)) 20 0
        have a2 := cap_r (bkF 6 β (ζ 0) g) rs.length 0
        have a3 := hU.1
        omega
      refine rt_g (w_check_r hl _ (by omega) (ovX_c (xo := 0) (o := 0) rfl) cX (by omega) (outX ho)) (fun h1 => mg_check hl h1 h57 j nr hy hle hj kd hkd2 hkl rs.length hU.2.2.1 hU.1 hU.2.2.2.2.2.2.2.1) h57 (fun v s a hg => ?_)
      obtain ⟨rfl, x, rfl, hW, hA⟩ := hg
      exact ⟨hR.chk hlen hW hA, rfl, fun _ => fch0 _ _⟩
    · have ek := ck_eq hU hR.ak.1 hQ (show j < 30 by omega) hkl
      have cX := c_X_check_13 hl (D := D) (cA := cA) (b := b) (n := n) (xo := 0) (ξ := ξ) (β := β) (ρ := ρ) (r := c) (i0 := i) (k0 := kd0) (t0 := t) (f0 := fo) (ζ := ζ) (g := g) (w := ws) (ovM 28 σ α h0) (by omega) c2 j (by omega) j1 hρ kd rs.length hkd hkl hU.2.1 hU.1 (tc_c hU)
      rw [hE', ek] at cX
      have hlen : (ckl α j kd rs.length).length ≤ 40 := by
        rw [← ek, List.length_append]
        have a1 := cap_f (β 2 kd &&& (ζ 0 ^^^ -1)) 20 0
        have a2 := cap_r (bkF 13 β (ζ 0) g) rs.length 0
        have a3 := hU.1
        omega
      refine rt_g (w_check_r hl _ (by omega) (ovX_c (xo := 0) (o := 0) rfl) cX (by omega) (outX ho)) (fun h1 => mg_check hl h1 h57 j nr hy hle hj kd hkd2 hkl rs.length hU.2.2.1 hU.1 hU.2.2.2.2.2.2.2.1) h57 (fun v s a hg => ?_)
      obtain ⟨rfl, x, rfl, hW, hA⟩ := hg
      exact ⟨hR.chk hlen hW hA, rfl, fun _ => fch0 _ _⟩
theorem s_put {l : Launch} (hl : l.stackTraces = false) {D : va_G} {cA : Nat → ClassId} {b n : Nat} {h : AH} (hS : St n h) (r x : Int32) : Cn l D cA b y_L_put k_L_put 8 113 1 6 [.ref 0, .int r, .int x, .ref 56] n h (Wq l D cA b y_M_put k_M_put 4 65 [.ref 28, .int r, .int x]) := by
  obtain ⟨k0, f0, ξ, β, ρ, u, w, σ, α, h0, h57, rfl, ho, hR, -⟩ := hS
  obtain ⟨nr, hle, hx, hy⟩ := hR.cnt
  rcases rep_c hx hy hle r with ⟨ha, hb⟩ | ⟨j, hj, rfl, j1, hb⟩
  · exact th_q (w_put_7 hl _ _ (by omega) (ovX_c (xo := 0) (o := 0) rfl) (c_X_put_u hl _ (by omega) _ _ ha)) (fun h1 => c_M_put_u hl _ _ _ _ h1 (by omega) hb) h57 ho (by decide) (hR.thrown 1) rfl
  · obtain ⟨c, i, kd0, t, fo, ζ, g, ws, hρ, c1, c2, hE, hQ, hP⟩ := hR.rep (j := j) (by omega) j1
    have hE' := repM (σ := σ) (α := α) c1 hE
    obtain ⟨kd, hkl, hkd, hkd2⟩ := hQ.2.1
    obtain ⟨c0, hc3, h4, h8, hs9⟩ := hQ.2.2.2.2.2.1
    obtain ⟨rs, hU⟩ := hR.bk
    rcases hU with ⟨rfl, rfl, hU⟩ | ⟨rfl, rfl, hU⟩
    · have ek := ck_eq hU hR.ak.1 hQ (show j < 30 by omega) hkl
      have hlen : (ckl α j kd rs.length).length ≤ 40 := by
        rw [← ek, List.length_append]
        have a1 := cap_f (β 2 kd &&& (ζ 0 ^^^ -1)) 20 0
        have a2 := cap_r (bkF 6 β (ζ 0) g) rs.length 0
        have a3 := hU.1
        omega
      rcases fld_c 19 (by omega) x with ⟨ha, hb2⟩ | ⟨e, he, rfl, a3, a4, hb2⟩
      · have cX := c_X_put_a_6 hl (D := D) (cA := cA) (b := b) (n := n) (xo := 0) (ξ := ξ) (β := β) (ρ := ρ) (r := c) (i0 := i) (k0 := kd0) (t0 := t) (f0 := fo) (ζ := ζ) (g := g) (w := ws) (ovM 28 σ α h0) (by omega) c2 j (by omega) j1 hρ kd rs.length hkd hkl hU.2.1 hU.1 (tc_c hU) x ha
        rw [hE'] at cX
        exact th_q (w_put_7 hl _ _ (by omega) (ovX_c (xo := 0) (o := 0) rfl) cX) (fun h1 => c_M_put_p hl j x _ _ h1 (by omega) nr hy hle hj hb2) h57 ho (by decide) (hR.thrown 1) rfl
      · obtain ⟨hcg, hcg2⟩ := cg_eq (α := α) (ζ := ζ) (w := ws) (r := j) (kd := kd) (c := c0) (nq := rs.length) (p := nI e) hc3 h4 hQ.2.2.2.2.1 hQ.2.2.2.2.2.2.2.2.1 hs9
        have hno : ¬ (ckl α j kd rs.length = [] ∧ ¬ rrd ζ ws c0 (nI e) = 0) → Cn l D cA b y_L_put k_L_put 8 113 1 6 [.ref 0, .int (nI j), .int (nI e), .ref 56] n (ovX 0 ξ β ρ 6 13 (ovM 28 σ α h0)) (Re (some (.int 2)) (n + 1) (hu (ovF23 0 ξ β ρ 6 13 (ovM 28 σ α h0) (ckl α j kd rs.length)) n (.inr (9, [])))) → Cn l D cA b y_L_put k_L_put 8 113 1 6 [.ref 0, .int (nI j), .int (nI e), .ref 56] n (ovX 0 ξ β ρ 6 13 (ovM 28 σ α h0)) (Wq l D cA b y_M_put k_M_put 4 65 [.ref 28, .int (nI j), .int (nI e)]) := by
          intro hn hW
          have hm : mcg α j kd c0 rs.length (nI e) = 0 := hcg2.resolve_right (fun z => hn (hcg.mp z))
          refine hW.mono (fun r n' h' hq => ?_)
          obtain ⟨rfl, rfl, rfl⟩ := hq
          refine ⟨2, rfl, ?_⟩
          unfold ovF23
          rw [ovX_out (Or.inr (by omega)), ovM_hu (by omega), ovX_M (by omega)]
          refine ⟨by omega, ⟨_, ovM_o _ _ _ _⟩, ?_⟩
          refine e_q (G := fun v s a => ∃ y, s = upd (upd σ 33 y) 0 2 ∧ a = α) ((c_M_put_2 hl j (nI e) σ α _ (by omega) nr hy hle hj hb2 kd hkd2 hkl c0 h8 hc3 rs.length hU.2.2.1 hU.1 hU.2.2.2.2.2.2.2.1 hm).mono (fun r n' h' hq => ?_)) (by omega) (by rw [hu_n (by omega)]; exact ho) (fun v s a hg => ?_)
          · obtain ⟨y, e1, e2, e3⟩ := hq
            exact ⟨e2, 0, _, _, e1, e3, y, rfl, rfl⟩
          · obtain ⟨y, rfl, rfl⟩ := hg
            exact ⟨((hR.f23 _ y _ _).thrown 2).hu (by omega) (Or.inr (Nat.le_refl _)), rfl, fun z => absurd z (by decide)⟩
        by_cases hk : ckl α j kd rs.length = []
        · have hk0 : (ckl α j kd rs.length).length = 0 := by rw [hk]; rfl
          by_cases hrd : rrd ζ ws c0 (nI e) = 0
          · have cX := c_X_put_c_6 hl (D := D) (cA := cA) (b := b) (n := n) (xo := 0) (ξ := ξ) (β := β) (ρ := ρ) (r := c) (i0 := i) (k0 := kd0) (t0 := t) (f0 := fo) (ζ := ζ) (g := g) (w := ws) (ovM 28 σ α h0) (by omega) c2 j (by omega) j1 hρ kd rs.length hkd hkl hU.2.1 hU.1 (tc_c hU) (nI e) a3 a4 c0 h4 hc3 (by rw [ek]; exact hk0) hrd
            rw [hE', ek] at cX
            exact hno (fun z => z.2 hrd) (w_put_9 hl _ _ (by omega) (ovX_c (xo := 0) (o := 0) rfl) cX)
          · have hc : c0 < 3 := by
              rcases Nat.lt_or_ge c0 3 with z | z
              · exact z
              · exfalso
                apply hrd
                have e3 : c0 = 3 := by omega
                unfold rrd
                have : rcl ζ = 1 := by unfold rcl; rw [h4, e3]; decide
                rw [this]
                split
                · split
                  · rfl
                  · rfl
                · rfl
            have cX := c_X_put_r_6 hl (D := D) (cA := cA) (b := b) (n := n) (xo := 0) (ξ := ξ) (β := β) (ρ := ρ) (r := c) (i0 := i) (k0 := kd0) (t0 := t) (f0 := fo) (ζ := ζ) (g := g) (w := ws) (ovM 28 σ α h0) (by omega) c2 j (by omega) j1 hρ kd rs.length hkd hkl hU.2.1 hU.1 (tc_c hU) (nI e) a3 a4 c0 h4 hc3 (by rw [ek]; exact hk0) hrd hc
            rw [hE', ek, ovM_R (by omega)] at cX
            have hN := hP _ _ _ _ (SAr_u (SAr_u (SAr_r α) (x := 9) (by omega) (by omega) (by omega)) (x := 8) (by omega) (by omega) (by omega)) (SRw_sign hc) (rlQ_sign (y := nI e) hQ h4 hc) hR.bb.1 hR.bb.2.1 hR.bb.2.2.1
            refine rt_g (w_put_r hl _ _ (by omega) (ovX_c (xo := 0) (o := 0) rfl) cX (by omega) (outX (oR c1 ho))) (G := fun v s a => v = nI (c0 + 1) ∧ ∃ y, s = upd (upd σ 33 y) 0 0 ∧ a = upa (upa α 9 (upd (α 9) (3 * j + c0) (nI e))) 8 (upd (α 8) j (nI (c0 + 1)))) (fun h1 => (c_M_put_r hl j (nI e) σ α h1 (by omega) nr hy hle hj hb2 kd hkd2 hkl c0 h8 hc3 rs.length hU.2.2.1 hU.1 hU.2.2.2.2.2.2.2.1 (hcg.mpr ⟨hk, hrd⟩)).mono (fun r n' h' hq => ?_)) h57 (fun v s a hg => ?_)
            · obtain ⟨y, e1, e2, e3⟩ := hq
              exact ⟨e2, _, _, _, e1, e3, rfl, y, rfl, rfl⟩
            · obtain ⟨rfl, y, rfl, rfl⟩ := hg
              exact ⟨(hN.f23 _ y _ _).thrown 0, rfl, fun _ => fch0 _ _⟩
        · have cX := c_X_put_b_6 hl (D := D) (cA := cA) (b := b) (n := n) (xo := 0) (ξ := ξ) (β := β) (ρ := ρ) (r := c) (i0 := i) (k0 := kd0) (t0 := t) (f0 := fo) (ζ := ζ) (g := g) (w := ws) (ovM 28 σ α h0) (by omega) c2 j (by omega) j1 hρ kd rs.length hkd hkl hU.2.1 hU.1 (tc_c hU) (nI e) a3 a4 (by rw [ek]; exact List.length_pos_iff.mpr hk) (by rw [ek]; exact hlen)
          rw [hE', ek] at cX
          exact hno (fun z => hk z.1) (w_put_9 hl _ _ (by omega) (ovX_c (xo := 0) (o := 0) rfl) cX)
    · have ek := ck_eq hU hR.ak.1 hQ (show j < 30 by omega) hkl
      have hlen : (ckl α j kd rs.length).length ≤ 40 := by
        rw [← ek, List.length_append]
        have a1 := cap_f (β 2 kd &&& (ζ 0 ^^^ -1)) 20 0
        have a2 := cap_r (bkF 13 β (ζ 0) g) rs.length 0
        have a3 := hU.1
        omega
      rcases fld_c 19 (by omega) x with ⟨ha, hb2⟩ | ⟨e, he, rfl, a3, a4, hb2⟩
      · have cX := c_X_put_a_13 hl (D := D) (cA := cA) (b := b) (n := n) (xo := 0) (ξ := ξ) (β := β) (ρ := ρ) (r := c) (i0 := i) (k0 := kd0) (t0 := t) (f0 := fo) (ζ := ζ) (g := g) (w := ws) (ovM 28 σ α h0) (by omega) c2 j (by omega) j1 hρ kd rs.length hkd hkl hU.2.1 hU.1 (tc_c hU) x ha
        rw [hE'] at cX
        exact th_q (w_put_7 hl _ _ (by omega) (ovX_c (xo := 0) (o := 0) rfl) cX) (fun h1 => c_M_put_p hl j x _ _ h1 (by omega) nr hy hle hj hb2) h57 ho (by decide) (hR.thrown 1) rfl
      · obtain ⟨hcg, hcg2⟩ := cg_eq (α := α) (ζ := ζ) (w := ws) (r := j) (kd := kd) (c := c0) (nq := rs.length) (p := nI e) hc3 h4 hQ.2.2.2.2.1 hQ.2.2.2.2.2.2.2.2.1 hs9
        have hno : ¬ (ckl α j kd rs.length = [] ∧ ¬ rrd ζ ws c0 (nI e) = 0) → Cn l D cA b y_L_put k_L_put 8 113 1 6 [.ref 0, .int (nI j), .int (nI e), .ref 56] n (ovX 0 ξ β ρ 13 6 (ovM 28 σ α h0)) (Re (some (.int 2)) (n + 1) (hu (ovF23 0 ξ β ρ 13 6 (ovM 28 σ α h0) (ckl α j kd rs.length)) n (.inr (9, [])))) → Cn l D cA b y_L_put k_L_put 8 113 1 6 [.ref 0, .int (nI j), .int (nI e), .ref 56] n (ovX 0 ξ β ρ 13 6 (ovM 28 σ α h0)) (Wq l D cA b y_M_put k_M_put 4 65 [.ref 28, .int (nI j), .int (nI e)]) := by
          intro hn hW
          have hm : mcg α j kd c0 rs.length (nI e) = 0 := hcg2.resolve_right (fun z => hn (hcg.mp z))
          refine hW.mono (fun r n' h' hq => ?_)
          obtain ⟨rfl, rfl, rfl⟩ := hq
          refine ⟨2, rfl, ?_⟩
          unfold ovF23
          rw [ovX_out (Or.inr (by omega)), ovM_hu (by omega), ovX_M (by omega)]
          refine ⟨by omega, ⟨_, ovM_o _ _ _ _⟩, ?_⟩
          refine e_q (G := fun v s a => ∃ y, s = upd (upd σ 33 y) 0 2 ∧ a = α) ((c_M_put_2 hl j (nI e) σ α _ (by omega) nr hy hle hj hb2 kd hkd2 hkl c0 h8 hc3 rs.length hU.2.2.1 hU.1 hU.2.2.2.2.2.2.2.1 hm).mono (fun r n' h' hq => ?_)) (by omega) (by rw [hu_n (by omega)]; exact ho) (fun v s a hg => ?_)
          · obtain ⟨y, e1, e2, e3⟩ := hq
            exact ⟨e2, 0, _, _, e1, e3, y, rfl, rfl⟩
          · obtain ⟨y, rfl, rfl⟩ := hg
            exact ⟨((hR.f23 _ y _ _).thrown 2).hu (by omega) (Or.inr (Nat.le_refl _)), rfl, fun z => absurd z (by decide)⟩
        by_cases hk : ckl α j kd rs.length = []
        · have hk0 : (ckl α j kd rs.length).length = 0 := by rw [hk]; rfl
          by_cases hrd : rrd ζ ws c0 (nI e) = 0
          · have cX := c_X_put_c_13 hl (D := D) (cA := cA) (b := b) (n := n) (xo := 0) (ξ := ξ) (β := β) (ρ := ρ) (r := c) (i0 := i) (k0 := kd0) (t0 := t) (f0 := fo) (ζ := ζ) (g := g) (w := ws) (ovM 28 σ α h0) (by omega) c2 j (by omega) j1 hρ kd rs.length hkd hkl hU.2.1 hU.1 (tc_c hU) (nI e) a3 a4 c0 h4 hc3 (by rw [ek]; exact hk0) hrd
            rw [hE', ek] at cX
            exact hno (fun z => z.2 hrd) (w_put_9 hl _ _ (by omega) (ovX_c (xo := 0) (o := 0) rfl) cX)
          · have hc : c0 < 3 := by
              rcases Nat.lt_or_ge c0 3 with z | z
              · exact z
              · exfalso
                apply hrd
                have e3 : c0 = 3 := by omega
                unfold rrd
                have : rcl ζ = 1 := by unfold rcl; rw [h4, e3]; decide
                rw [this]
                split
                · split
                  · rfl
                  · rfl
                · rfl
            have cX := c_X_put_r_13 hl (D := D) (cA := cA) (b := b) (n := n) (xo := 0) (ξ := ξ) (β := β) (ρ := ρ) (r := c) (i0 := i) (k0 := kd0) (t0 := t) (f0 := fo) (ζ := ζ) (g := g) (w := ws) (ovM 28 σ α h0) (by omega) c2 j (by omega) j1 hρ kd rs.length hkd hkl hU.2.1 hU.1 (tc_c hU) (nI e) a3 a4 c0 h4 hc3 (by rw [ek]; exact hk0) hrd hc
            rw [hE', ek, ovM_R (by omega)] at cX
            have hN := hP _ _ _ _ (SAr_u (SAr_u (SAr_r α) (x := 9) (by omega) (by omega) (by omega)) (x := 8) (by omega) (by omega) (by omega)) (SRw_sign hc) (rlQ_sign (y := nI e) hQ h4 hc) hR.bb.1 hR.bb.2.1 hR.bb.2.2.1
            refine rt_g (w_put_r hl _ _ (by omega) (ovX_c (xo := 0) (o := 0) rfl) cX (by omega) (outX (oR c1 ho))) (G := fun v s a => v = nI (c0 + 1) ∧ ∃ y, s = upd (upd σ 33 y) 0 0 ∧ a = upa (upa α 9 (upd (α 9) (3 * j + c0) (nI e))) 8 (upd (α 8) j (nI (c0 + 1)))) (fun h1 => (c_M_put_r hl j (nI e) σ α h1 (by omega) nr hy hle hj hb2 kd hkd2 hkl c0 h8 hc3 rs.length hU.2.2.1 hU.1 hU.2.2.2.2.2.2.2.1 (hcg.mpr ⟨hk, hrd⟩)).mono (fun r n' h' hq => ?_)) h57 (fun v s a hg => ?_)
            · obtain ⟨y, e1, e2, e3⟩ := hq
              exact ⟨e2, _, _, _, e1, e3, rfl, y, rfl, rfl⟩
            · obtain ⟨rfl, y, rfl, rfl⟩ := hg
              exact ⟨(hN.f23 _ y _ _).thrown 0, rfl, fun _ => fch0 _ _⟩
        · have cX := c_X_put_b_13 hl (D := D) (cA := cA) (b := b) (n := n) (xo := 0) (ξ := ξ) (β := β) (ρ := ρ) (r := c) (i0 := i) (k0 := kd0) (t0 := t) (f0 := fo) (ζ := ζ) (g := g) (w := ws) (ovM 28 σ α h0) (by omega) c2 j (by omega) j1 hρ kd rs.length hkd hkl hU.2.1 hU.1 (tc_c hU) (nI e) a3 a4 (by rw [ek]; exact List.length_pos_iff.mpr hk) (by rw [ek]; exact hlen)
          rw [hE', ek] at cX
          exact hno (fun z => hk z.1) (w_put_9 hl _ _ (by omega) (ovX_c (xo := 0) (o := 0) rfl) cX)
