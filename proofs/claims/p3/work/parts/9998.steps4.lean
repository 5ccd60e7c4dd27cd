/-! ===== the calls: act, reportAt, late, count ===== -/
theorem mact_t {σ : Nat → Int32} {α : Nat → Nat → Int32} {r k t g : Int32} (h : gsI (kn2 (inI r 0 (σ 2 - 1)) (inI k 0 9)) (inI t 0 (σ 1)) (if kn2 (inI r 0 (σ 2 - 1)) (inI k 0 9) = 0 then 0 else if α 8 r.toNatClampNeg = 0 then 1 else 0) = g) (hg : bz g = 0) : mact σ α r k t = (0, upd σ 0 g, α) := by
  subst h
  exact if_pos hg
theorem mact_r {σ : Nat → Int32} {α : Nat → Nat → Int32} {r k t : Int32} (h : gsI (kn2 (inI r 0 (σ 2 - 1)) (inI k 0 9)) (inI t 0 (σ 1)) (if kn2 (inI r 0 (σ 2 - 1)) (inI k 0 9) = 0 then 0 else if α 8 r.toNatClampNeg = 0 then 1 else 0) = 0) : mact σ α r k t = if α 10 (20 * r + k).toNatClampNeg = 0 ∨ (¬ α 11 (20 * r + k).toNatClampNeg = 0 ∧ t < α 13 (20 * r + k).toNatClampNeg) then (1, upd σ 0 0, upa (upa (upa α 10 (upd (α 10) (20 * r + k).toNatClampNeg 1)) 11 (upd (α 11) (20 * r + k).toNatClampNeg 1)) 13 (upd (α 13) (20 * r + k).toNatClampNeg t)) else (0, upd σ 0 0, α) := by
  have e : mact σ α r k t = if α 10 (20 * r + k).toNatClampNeg = 0 ∨ (¬ α 11 (20 * r + k).toNatClampNeg = 0 ∧ t < α 13 (20 * r + k).toNatClampNeg) then (1, upd σ 0 (gsI (kn2 (inI r 0 (σ 2 - 1)) (inI k 0 9)) (inI t 0 (σ 1)) (if kn2 (inI r 0 (σ 2 - 1)) (inI k 0 9) = 0 then 0 else if α 8 r.toNatClampNeg = 0 then 1 else 0)), upa (upa (upa α 10 (upd (α 10) (20 * r + k).toNatClampNeg 1)) 11 (upd (α 11) (20 * r + k).toNatClampNeg 1)) 13 (upd (α 13) (20 * r + k).toNatClampNeg t)) else (0, upd σ 0 (gsI (kn2 (inI r 0 (σ 2 - 1)) (inI k 0 9)) (inI t 0 (σ 1)) (if kn2 (inI r 0 (σ 2 - 1)) (inI k 0 9) = 0 then 0 else if α 8 r.toNatClampNeg = 0 then 1 else 0)), α) := if_neg (by rw [h]; decide)
  rw [e, h]
theorem clk_c {x y : Int32} (hc : rlC x y) (t : Int32) : ((t < 0 ∨ ¬ t ≤ x) ∧ inI t 0 y = 0) ∨ (¬ t < 0 ∧ t ≤ x ∧ inI t 0 y = 1 ∧ vok t) := by
  obtain ⟨T, hT, rfl, rfl⟩ := hc
  by_cases h0 : t < 0
  · exact Or.inl ⟨Or.inl h0, in_bad (Or.inl h0)⟩
  · by_cases h1 : t ≤ nI T
    · refine Or.inr ⟨h0, h1, in_ok h0 h1, ?_⟩
      obtain ⟨m, hm, rfl⟩ := nI_of h0
      have := Int32.le_iff_toInt_le.mp h1
      rw [nI_toInt hm, nI_toInt (by omega)] at this
      exact Or.inl ⟨m, by omega, rfl⟩
    · exact Or.inl ⟨Or.inr h1, in_bad (Or.inr h1)⟩
theorem rlQ_y {j : Nat} {i k t f : Int32} {ζ g w g' : Nat → Int32} {α : Nat → Nat → Int32} {A0 A1 : Int32} {b10 b11 b13 : Nat → Int32} (h : rlQ j i k t f ζ g w α) (k7 : ∀ e, e < 20 → (xhs A0 (nI e) = 1 ↔ ¬ b10 (20 * j + e) = 0)) (k8 : ∀ e, e < 20 → (xhs A1 (nI e) = 1 ↔ ¬ b11 (20 * j + e) = 0)) (k10 : ∀ e, e < 20 → g' e = b13 (20 * j + e) ∧ vok (g' e)) : rlQ j i k t f (upd (upd ζ 0 A0) 1 A1) g' w (upa (upa (upa α 10 b10) 11 b11) 13 b13) := by
  obtain ⟨h1, h2, h3, h4, h5, h6, h7, h8, h9, h10⟩ := h
  exact ⟨h1, h2, h3, h4, h5, h6, k7, k8, h9, k10⟩
theorem rlQ_act {j : Nat} {i k t f : Int32} {ζ g w : Nat → Int32} {α : Nat → Nat → Int32} {e : Nat} {y : Int32} (h : rlQ j i k t f ζ g w α) (he : e < 20) (hy : vok y) : rlQ j i k t f (upd (upd ζ 0 (xch (ζ 0) (nI e) 1)) 1 (xch (ζ 1) (nI e) 1)) (upd g e y) w (upa (upa (upa α 10 (upd (α 10) (20 * j + e) 1)) 11 (upd (α 11) (20 * j + e) 1)) 13 (upd (α 13) (20 * j + e) y)) := by
  have hh := h
  obtain ⟨h1, h2, h3, h4, h5, h6, h7, h8, h9, h10⟩ := hh
  refine rlQ_y h (bit_set (A := α 10) h7 he (Or.inr rfl)) (bit_set (A := α 11) h8 he (Or.inr rfl)) (fun e' he' => ?_)
  by_cases e2 : e' = e
  · subst e2
    rw [pk_us, pk_us]
    exact ⟨rfl, hy⟩
  · rw [pk_un e2, pk_un (by omega)]
    exact h10 e' he'
theorem SRw_act {α : Nat → Nat → Int32} {j e : Nat} {x y z : Int32} (he : e < 20) : ∀ i, i < 30 → i ≠ j → SRw i α (upa (upa (upa α 10 (upd (α 10) (20 * j + e) x)) 11 (upd (α 11) (20 * j + e) y)) 13 (upd (α 13) (20 * j + e) z)) := by
  intro i _ hne
  refine ⟨rfl, rfl, fun _ _ => rfl, fun e' he' => ⟨?_, ?_, rfl, ?_⟩⟩
  · show upd (α 10) (20 * j + e) x (20 * i + e') = _
    rw [pk_un (by omega)]
  · show upd (α 11) (20 * j + e) y (20 * i + e') = _
    rw [pk_un (by omega)]
  · show upd (α 13) (20 * j + e) z (20 * i + e') = _
    rw [pk_un (by omega)]
theorem rfa_c {j : Nat} {i k t f : Int32} {ζ g w : Nat → Int32} {α : Nat → Nat → Int32} {e : Nat} {y : Int32} (h : rlQ j i k t f ζ g w α) (he : e < 20) : (rfa ζ g (nI e) y = 1 ∧ (α 10 (20 * j + e) = 0 ∨ (¬ α 11 (20 * j + e) = 0 ∧ y < α 13 (20 * j + e)))) ∨ (rfa ζ g (nI e) y = 0 ∧ ¬ (α 10 (20 * j + e) = 0 ∨ (¬ α 11 (20 * j + e) = 0 ∧ y < α 13 (20 * j + e)))) := by
  obtain ⟨h1, h2, h3, h4, h5, h6, h7, h8, h9, h10⟩ := h
  have a := xhs_c (h7 e he) (by omega)
  have c := xhs_c (h8 e he) (by omega)
  have d := (h10 e he).1
  unfold rfa
  rw [nI_clamp (by omega), d]
  by_cases z : α 10 (20 * j + e) = 0
  · exact Or.inl ⟨if_pos (a.mpr z), Or.inl z⟩
  · rw [if_neg (fun q => z (a.mp q))]
    by_cases z2 : α 11 (20 * j + e) = 0
    · rw [if_pos (c.mpr z2)]
      exact Or.inr ⟨rfl, fun q => q.elim z (fun q => q.1 z2)⟩
    · rw [if_neg (fun q => z2 (c.mp q))]
      by_cases z3 : α 13 (20 * j + e) ≤ y
      · rw [if_pos z3]
        exact Or.inr ⟨rfl, fun q => q.elim z (fun q => absurd q.2 (Int32.not_lt.mpr z3))⟩
      · rw [if_neg z3]
        exact Or.inl ⟨rfl, Or.inr ⟨z2, Int32.not_le.mp z3⟩⟩
theorem s_act {l : Launch} (hl : l.stackTraces = false) {D : va_G} {cA : Nat → ClassId} {b n : Nat} {h : AH} (hS : St n h) (r f y : Int32) : Cn l D cA b y_L_act k_L_act 8 114 1 6 [.ref 0, .int r, .int f, .int y, .ref 56] n h (Wz pB l D cA b y_M_act k_M_act 2 27 [.ref 28, .int r, .int f, .int y]) := by
  obtain ⟨k0, f0, ξ, β, ρ, u, w, σ, α, h0, h57, rfl, ho, hR, -⟩ := hS
  obtain ⟨nr, hle, hx, hy⟩ := hR.cnt
  have hth : ∀ (v2 k : Int32) (σ' : Nat → Int32) (α' : Nat → Nat → Int32) (x : AC), Cn l D cA b y_L_act k_L_act 8 114 1 6 [.ref 0, .int r, .int f, .int y, .ref 56] n (ovX 0 ξ β ρ u w (ovM 28 σ α h0)) (Re (some (.int k)) (n + 1) (hu (ovX 0 ξ β ρ u w (ovM 28 σ α h0)) n x)) → ¬ k = 0 → mact σ α r f y = (0, upd σ 0 k, α) → Cn l D cA b y_L_act k_L_act 8 114 1 6 [.ref 0, .int r, .int f, .int y, .ref 56] n (ovX 0 ξ β ρ u w (ovM 28 σ α h0)) (Wz pB l D cA b y_M_act k_M_act 2 27 [.ref 28, .int r, .int f, .int y]) := by
    intro v2 k σ' α' x hW hk0 e
    refine th_g hW (fun h1 => mg_of (c_M_act hl r f y σ α h1 (by omega) nr hy hle)) h57 ho (fun v s a hg => ?_)
    rw [e] at hg
    obtain ⟨rfl, rfl, rfl⟩ := hg
    exact ⟨hR.thrown k, rfl, Or.inl rfl, fun z => absurd z hk0⟩
  rcases rep_c hx hy hle r with ⟨ha, hb⟩ | ⟨j, hj, rfl, j1, hb⟩
  · exact hth 0 1 σ α _ (w_act_7 hl _ _ _ (by omega) (ovX_c (xo := 0) (o := 0) rfl) (c_X_act_u hl _ (by omega) _ _ _ ha)) (by decide) (mact_t (by rw [kn2_0 (Or.inl hb)]; rfl) (by decide))
  · obtain ⟨c, i, kd, t, fo, ζ, g, ws, hρ, c1, c2, hE, hQ, hP⟩ := hR.rep (j := j) (by omega) j1
    have hE' := repM (σ := σ) (α := α) c1 hE
    rcases fld_c 9 (by omega) f with ⟨ha, hb2⟩ | ⟨e, he, rfl, a3, a4, hb2⟩
    · have cX := c_X_act_a hl (D := D) (cA := cA) (b := b) (n := n) (xo := 0) (ξ := ξ) (β := β) (ρ := ρ) (u := u) (v := w) (r := c) (i0 := i) (k0 := kd) (t0 := t) (f0 := fo) (ζ := ζ) (g := g) (w := ws) (ovM 28 σ α h0) (by omega) c2 j (by omega) j1 hρ f y ha
      rw [hE'] at cX
      exact hth 0 1 σ α _ (w_act_7 hl _ _ _ (by omega) (ovX_c (xo := 0) (o := 0) rfl) cX) (by decide) (mact_t (by rw [kn2_0 (Or.inr (show inI f 0 9 = 0 from hb2))]; rfl) (by decide))
    · have hkn : kn2 (inI (nI j) 0 (σ 2 - 1)) (inI (nI e) 0 9) = 1 := kn2_1 hb hb2
      rcases clk_c hR.clk y with ⟨ha, hb3⟩ | ⟨t1, t2, hb3, hv⟩
      · have cX := c_X_act_b hl (D := D) (cA := cA) (b := b) (n := n) (xo := 0) (ξ := ξ) (β := β) (ρ := ρ) (u := u) (v := w) (r := c) (i0 := i) (k0 := kd) (t0 := t) (f0 := fo) (ζ := ζ) (g := g) (w := ws) (ovM 28 σ α h0) (by omega) c2 j (by omega) j1 hρ (nI e) y a3 a4 ha
        rw [hE'] at cX
        exact hth 0 2 σ α _ (w_act_8 hl _ _ _ (by omega) (ovX_c (xo := 0) (o := 0) rfl) cX) (by decide) (mact_t (by rw [hkn, hb3]; rfl) (by decide))
      · have hsg := sg_c hQ
        by_cases z : α 8 j = 0
        · have eM := mact_r (σ := σ) (α := α) (r := nI j) (k := nI e) (t := y) (by rw [hkn, hb3, nI_clamp (by omega), if_neg (by decide), if_pos z]; rfl)
          rw [e20, nI_clamp (by omega)] at eM
          rcases rfa_c (y := y) hQ (show e < 20 by omega) with ⟨hr, hz⟩ | ⟨hr, hz⟩
          · have cX := c_X_act_1 hl (D := D) (cA := cA) (b := b) (n := n) (xo := 0) (ξ := ξ) (β := β) (ρ := ρ) (u := u) (v := w) (r := c) (i0 := i) (k0 := kd) (t0 := t) (f0 := fo) (ζ := ζ) (g := g) (w := ws) (ovM 28 σ α h0) (by omega) c2 j (by omega) j1 hρ (nI e) y a3 a4 t1 t2 (hsg.mpr z) (vp_in_nI (by omega) (by omega)) hr
            rw [hE', nI_clamp (by omega), ovM_R (by omega)] at cX
            rw [if_pos hz] at eM
            have hN := hP _ _ _ _ (SAr_u (SAr_u (SAr_u (SAr_r α) (x := 10) (by omega) (by omega) (by omega)) (x := 11) (by omega) (by omega) (by omega)) (x := 13) (by omega) (by omega) (by omega)) (SRw_act (by omega)) (rlQ_act hQ (show e < 20 by omega) hv) (bl_upd hR.bb.1 rfl) (bl_upd hR.bb.2.1 rfl) hR.bb.2.2.1
            refine rt_g (w_act_r1 hl _ _ _ (by omega) (ovX_c (xo := 0) (o := 0) rfl) cX (by decide) (by omega) (outX (oR c1 ho))) (fun h1 => mg_of (c_M_act hl _ _ _ _ _ h1 (by omega) nr hy hle)) h57 (fun v s a hg => ?_)
            rw [eM] at hg
            obtain ⟨rfl, rfl, rfl⟩ := hg
            exact ⟨hN.thrown 0, rfl, Or.inr rfl, fun _ => rfl⟩
          · have cX := c_X_act_0 hl (D := D) (cA := cA) (b := b) (n := n) (xo := 0) (ξ := ξ) (β := β) (ρ := ρ) (u := u) (v := w) (r := c) (i0 := i) (k0 := kd) (t0 := t) (f0 := fo) (ζ := ζ) (g := g) (w := ws) (ovM 28 σ α h0) (by omega) c2 j (by omega) j1 hρ (nI e) y a3 a4 t1 t2 (hsg.mpr z) (vp_in_nI (by omega) (by omega)) hr
            rw [hE'] at cX
            rw [if_neg hz] at eM
            refine rt_g (w_act_r0 hl _ _ _ (by omega) (ovX_c (xo := 0) (o := 0) rfl) cX rfl (by omega) (outX ho)) (fun h1 => mg_of (c_M_act hl _ _ _ _ _ h1 (by omega) nr hy hle)) h57 (fun v s a hg => ?_)
            rw [eM] at hg
            obtain ⟨rfl, rfl, rfl⟩ := hg
            exact ⟨hR.thrown 0, rfl, Or.inl rfl, fun _ => rfl⟩
        · have cX := c_X_act_c hl (D := D) (cA := cA) (b := b) (n := n) (xo := 0) (ξ := ξ) (β := β) (ρ := ρ) (u := u) (v := w) (r := c) (i0 := i) (k0 := kd) (t0 := t) (f0 := fo) (ζ := ζ) (g := g) (w := ws) (ovM 28 σ α h0) (by omega) c2 j (by omega) j1 hρ (nI e) y a3 a4 t1 t2 (fun q => z (hsg.mp q))
          rw [hE'] at cX
          exact hth 0 3 σ α _ (w_act_9 hl _ _ _ (by omega) (ovX_c (xo := 0) (o := 0) rfl) cX) (by decide) (mact_t (by rw [hkn, hb3, nI_clamp (by omega), if_neg (by decide), if_neg z]; rfl) (by decide))
