/-! ===== the calls: code, edition, place ===== -/
theorem cdl_len {α : Nat → Nat → Int32} {r p : Nat} (hv : ∀ f, f < 20 → vok (α 13 (20 * r + f))) : ∀ (n f : Nat), f + n = 20 → (cdl α r p n f).length ≤ 10 * n := by
  intro n
  induction n with
  | zero => intro f _; exact Nat.le_refl _
  | succ n ih =>
    intro f hf
    show (cdi α r p f ++ cdl α r p n (f + 1)).length ≤ 10 * (n + 1)
    rw [List.length_append]
    have a := cdi_len (α := α) (r := r) (p := p) (f := f) (by omega) (hv f (by omega))
    have c := ih (f + 1) (by omega)
    omega
theorem cdw_len {α : Nat → Nat → Int32} {r p i : Nat} (hi : i ≤ 9999) (hv : ∀ f, f < 20 → vok (α 13 (20 * r + f))) : (cdw α r p i).length ≤ 206 := by
  unfold cdw
  have a := cdl_len (α := α) (r := r) (p := p) hv 20 0 (by omega)
  have d : dn i ≤ 4 := by
    unfold dn
    split
    · omega
    · split
      · omega
      · split
        · omega
        · split
          · omega
          · omega
  rw [List.length_cons, List.length_append, nb_len, List.length_cons]
  omega
/-- a code is written -/
theorem Rel.cod {lo n : Nat} {ξ : Nat → Int32} {β : Nat → Nat → Int32} {ρ : Nat → Option Nat} {u v : Nat} {h : AH} {σ : Nat → Int32} {α : Nat → Nat → Int32} (hR : Rel lo n ξ β ρ u v h σ α) {q : List Int32} (hq : q.length ≤ 206) : Rel lo n (upd ξ 10 (nI q.length)) (upa β 27 (wl (β 27) q)) ρ u v h (upd σ 37 (nI q.length)) (upa α 38 (wl (α 38) q)) := by
  obtain ⟨nr, cs, I, K, T, F, Z, G, W, t, rs, qk, ql, h1, h2, h3, h4, h5, h6, h7, h8, h9, h10, h11, h12⟩ := hR
  have e1 : ∀ (g : Nat → Int32) (w : List Int32) (j : Nat) (y : Int32), w[j]? = some y → wl g w j = y := fun g w j y hy => by
    have hj := (List.getElem?_eq_some_iff.mp hy).1
    unfold wl
    rw [if_pos hj, List.getD_eq_getElem?_getD, hy]
    rfl
  refine ⟨nr, cs, I, K, T, F, Z, G, W, t, rs, qk, q, h1, h2, h3, h4, h5, h6, h7, h8, h9, ⟨hq, rfl, rfl, fun j z hz => ⟨e1 _ _ _ _ hz, e1 _ _ _ _ hz⟩⟩, ?_, h12⟩
  rcases h11 with ⟨e1, e2, z⟩ | ⟨e1, e2, z⟩
  · exact Or.inl ⟨e1, e2, z⟩
  · exact Or.inr ⟨e1, e2, z⟩
theorem s_code {l : Launch} (hl : l.stackTraces = false) {D : va_G} {cA : Nat → ClassId} {b n : Nat} {h : AH} (hS : St n h) (r x : Int32) : Cn l D cA b y_L_code k_L_code 8 113 1 6 [.ref 0, .int r, .int x, .ref 56] n h (Wq l D cA b y_M_code k_M_code 2 28 [.ref 28, .int r, .int x]) := by
  obtain ⟨k0, f0, ξ, β, ρ, u, w, σ, α, h0, h57, rfl, ho, hR, -⟩ := hS
  obtain ⟨nr, hle, hx, hy⟩ := hR.cnt
  rcases rep_c hx hy hle r with ⟨ha, hb⟩ | ⟨j, hj, rfl, j1, hb⟩
  · exact th_q (w_code_7 hl _ _ (by omega) (ovX_c (xo := 0) (o := 0) rfl) (c_X_code_u hl _ (by omega) _ _ ha)) (fun h1 => c_M_code_u hl _ _ _ _ h1 (by omega) hb) h57 ho (by decide) (hR.thrown 1) rfl
  · obtain ⟨c, i, kd, t, fo, ζ, g, ws, hρ, c1, c2, hE, hQ, -⟩ := hR.rep (j := j) (by omega) j1
    have hE' := repM (σ := σ) (α := α) c1 hE
    obtain ⟨⟨m0, hm, e1, e2⟩, -, -, -, -, -, p7, -, -, p10⟩ := id hQ
    rcases fld_c 19 (by omega) x with ⟨ha, hb2⟩ | ⟨e, he, rfl, a3, a4, hb2⟩
    · have cX := c_X_code_a hl (D := D) (cA := cA) (b := b) (n := n) (xo := 0) (ξ := ξ) (β := β) (ρ := ρ) (u := u) (v := w) (r := c) (i0 := i) (k0 := kd) (t0 := t) (f0 := fo) (ζ := ζ) (g := g) (w := ws) (ovM 28 σ α h0) (by omega) c2 j (by omega) j1 hρ x ha
      rw [hE'] at cX
      exact th_q (w_code_7 hl _ _ (by omega) (ovX_c (xo := 0) (o := 0) rfl) cX) (fun h1 => c_M_code_p hl j _ _ _ h1 (by omega) nr hy hle hj hb2) h57 ho (by decide) (hR.thrown 1) rfl
    · have hvk : ∀ f, f < 20 → vok (α 13 (20 * j + f)) := fun f hf => by rw [← (p10 f hf).1]; exact (p10 f hf).2
      have cX := c_X_code_r hl (D := D) (cA := cA) (b := b) (n := n) (xo := 0) (ξ := ξ) (β := β) (ρ := ρ) (u := u) (v := w) (r := c) (i0 := i) (k0 := kd) (t0 := t) (f0 := fo) (ζ := ζ) (g := g) (w := ws) (ovM 28 σ α h0) (by omega) c2 j (by omega) j1 hρ (nI e) a3 a4 (vp_in_nI (by omega) (by omega)) m0 e1 hm (fun f hf => (p10 f hf).2)
      have ed := dw_eq (α := α) (g := g) (r := j) (p := e) (i := m0) (z0 := ζ 0) (hb := β 3 e) (fun f hf => (p10 f hf).1) p7 (fun f hf => hR.ak.2 e f (by omega) hf)
      rw [hE', nI_clamp (by omega), ← ed] at cX
      exact rt_q (w_code_r hl _ _ (by omega) (ovX_c (xo := 0) (o := 0) rfl) cX (by omega) (outX ho)) (fun h1 => c_M_code_r hl j e _ _ h1 (by omega) nr hy hle hj (by omega) m0 e2 hm hvk) h57 ((hR.thrown 0).cod (cdw_len hm hvk)) rfl (fch0 _ _)
theorem rlQ_p {j : Nat} {i k t f : Int32} {ζ g w : Nat → Int32} {α α' : Nat → Nat → Int32} (h : rlQ j i k t f ζ g w α) (h3 : α' 3 j = α 3 j) (h4 : α' 4 j = α 4 j) (h5 : α' 5 j = α 5 j) (h7 : α' 7 j = α 7 j) (h6 : α' 6 j = α 6 j) (h8 : α' 8 j = α 8 j) (h9 : ∀ q, q < 3 → α' 9 (3 * j + q) = α 9 (3 * j + q)) (h10 : ∀ e, e < 20 → α' 10 (20 * j + e) = α 10 (20 * j + e) ∧ α' 11 (20 * j + e) = α 11 (20 * j + e) ∧ α' 12 (20 * j + e) = α 12 (20 * j + e) ∧ α' 13 (20 * j + e) = α 13 (20 * j + e)) : rlQ j i k t f ζ g w α' := by
  obtain ⟨z1, z2, z3, z4, z5, ⟨c, z6, z61, z62, z63⟩, z7, z8, z9, z10⟩ := h
  refine ⟨by rw [h3]; exact z1, by rw [h4]; exact z2, by rw [h5]; exact z3, by rw [h7]; exact z4, by rw [h6]; exact z5, ⟨c, z6, z61, by rw [h8]; exact z62, fun q hq => by rw [h9 q (by omega)]; exact z63 q hq⟩, fun e he => by rw [(h10 e he).1]; exact z7 e he, fun e he => by rw [(h10 e he).2.1]; exact z8 e he, fun e he => ?_, fun e he => by rw [(h10 e he).2.2.2]; exact z10 e he⟩
  by_cases y : e < 20
  · rw [(h10 e y).2.2.1]
    exact z9 e he
  · exact ⟨fun q => absurd ((z9 e he).mp q).1 y, fun q => absurd q.1 y⟩
theorem cpf_in {g : Nat → Int32} {d r e : Nat} (he : e < 20) : cpf g d r 20 (20 * d + e) = g (20 * r + e) := by
  unfold cpf
  rw [if_pos (by omega), show 20 * d + e - 20 * d = e by omega]
theorem cpf_out {g : Nat → Int32} {d r i e : Nat} (he : e < 20) (hi : i ≠ d) : cpf g d r 20 (20 * i + e) = g (20 * i + e) := by
  unfold cpf
  rw [if_neg (by omega)]
theorem cpf_B {g : Nat → Int32} {d r : Nat} (h : rlB g) : rlB (cpf g d r 20) := fun j => by
  unfold cpf
  split
  · exact h _
  · exact h _
/-- an edition is made -/
theorem Rel.edit {lo n : Nat} {ξ : Nat → Int32} {β : Nat → Nat → Int32} {ρ : Nat → Option Nat} {u v : Nat} {h : AH} {σ : Nat → Int32} {α : Nat → Nat → Int32} (hR : Rel lo n ξ β ρ u v h σ α) (hln : lo ≤ n) {nr : Nat} (hnr : nr < 30) (e1 : ξ 0 = nI nr) {j0 : Nat} (hj0 : j0 < nr) {i k t f : Int32} {ζ g w : Nat → Int32} (hQ : rlQ j0 i k t f ζ g w α) :
    Rel lo (n + 3) (upd ξ 0 (ξ 0 + 1)) β (va_up ρ (ξ 0).toNatClampNeg (some n)) u v (ovR n i k (ξ 1) (nI j0) (upd (upd (fun _ => 0) 0 (ζ 0)) 1 (ζ 1)) (va_cpy g (fun _ => 0) 0 0 20) (fun _ => 0) h) (mmakes σ α (α 3 j0) (α 4 j0) (nI j0)).1 (med (mmakes σ α (α 3 j0) (α 4 j0) (nI j0)).2 nr j0 20) := by
  obtain ⟨nr1, cs, I, K, T, F, Z, G, W, t1, rs1, qk, ql, ⟨n30, e0, e2⟩, h2, h3, h4, h5, h6, h7, h8, h9, h10, h11, h12⟩ := hR
  obtain rfl : nr1 = nr := by
    rw [e1] at e0
    exact ((nI_eq (by omega) (by omega)).mp e0).symm
  have ec : (ξ 0).toNatClampNeg = nr1 := by rw [e1, nI_clamp (by omega)]
  have er : (σ 2).toNatClampNeg = nr1 := by rw [e2, nI_clamp (by omega)]
  have e5 : ξ 1 = σ 1 := by
    obtain ⟨t, -, z1, z2⟩ := h5
    rw [z1, z2]
  generalize hα : med (mmakes σ α (α 3 j0) (α 4 j0) (nI j0)).2 nr1 j0 20 = α'
  have a3 : α' 3 = upd (α 3) nr1 (α 3 j0) := by rw [← hα]; show upd (α 3) (σ 2).toNatClampNeg (α 3 j0) = _; rw [er]
  have a4 : α' 4 = upd (α 4) nr1 (α 4 j0) := by rw [← hα]; show upd (α 4) (σ 2).toNatClampNeg (α 4 j0) = _; rw [er]
  have a5 : α' 5 = upd (α 5) nr1 (σ 1) := by rw [← hα]; show upd (α 5) (σ 2).toNatClampNeg (σ 1) = _; rw [er]
  have a7 : α' 7 = upd (α 7) nr1 (nI j0) := by rw [← hα]; show upd (α 7) (σ 2).toNatClampNeg (nI j0) = _; rw [er]
  have a10 : α' 10 = cpf (α 10) nr1 j0 20 := by rw [← hα]; rfl
  have a11 : α' 11 = cpf (α 11) nr1 j0 20 := by rw [← hα]; rfl
  have a13 : α' 13 = cpf (α 13) nr1 j0 20 := by rw [← hα]; rfl
  have ao : ∀ x, x ≠ 3 → x ≠ 4 → x ≠ 5 → x ≠ 7 → x ≠ 10 → x ≠ 11 → x ≠ 13 → α' x = α x := fun x y3 y4 y5 y7 y10 y11 y13 => by
    rw [← hα]
    unfold med
    rw [upa_n y13, upa_n y11, upa_n y10]
    show upa (upa (upa (upa α 3 _) 4 _) 5 _) 7 _ x = _
    rw [upa_n y7, upa_n y5, upa_n y4, upa_n y3]
  have o6 := ao 6 (by decide) (by decide) (by decide) (by decide) (by decide) (by decide) (by decide)
  have o8 := ao 8 (by decide) (by decide) (by decide) (by decide) (by decide) (by decide) (by decide)
  have o9 := ao 9 (by decide) (by decide) (by decide) (by decide) (by decide) (by decide) (by decide)
  have o12 := ao 12 (by decide) (by decide) (by decide) (by decide) (by decide) (by decide) (by decide)
  have o14 := ao 14 (by decide) (by decide) (by decide) (by decide) (by decide) (by decide) (by decide)
  have o15 := ao 15 (by decide) (by decide) (by decide) (by decide) (by decide) (by decide) (by decide)
  rw [ec]
  refine ⟨nr1 + 1, fch cs nr1 n, fch I nr1 i, fch K nr1 k, fch T nr1 (ξ 1), fch F nr1 (nI j0), fch Z nr1 (upd (upd (fun _ => 0) 0 (ζ 0)) 1 (ζ 1)), fch G nr1 (va_cpy g (fun _ => 0) 0 0 20), fch W nr1 (fun _ => 0), t1, rs1, qk, ql, ⟨by omega, ?_, ?_⟩, h2.add hln _ _ _ _ _ _ _, fun j hj => ?_, ?_, h5, ?_, ?_, ?_, ?_, ?_, ?_, ?_⟩
  · show ξ 0 + 1 = _
    rw [e1, nI_1]
  · show σ 2 + 1 = _
    rw [e2, nI_1]
  · by_cases e : j = nr1
    · subst e
      rw [fch_s, fch_s, fch_s, fch_s, fch_s, fch_s, fch_s]
      obtain ⟨f6, f8, f⟩ := h4 j (Nat.le_refl _) hnr
      obtain ⟨⟨m, hm, m1, m2⟩, ⟨kd, hk, k1, k2⟩, -, -, -, -, z7, z8, -, z10⟩ := hQ
      rw [a3, a4, a5, a7, o6, o8, o9, a10, a11, o12, a13]
      refine ⟨⟨m, hm, m1, by rw [pk_us]; exact m2⟩, ⟨kd, hk, k1, by rw [pk_us]; exact k2⟩, by rw [pk_us]; exact e5, pk_us.symm, ⟨0, by omega, rfl, f6⟩, ⟨0, by omega, rfl, f8, fun q hq => absurd hq (by omega)⟩, fun e he => ?_, fun e he => ?_, fun e he => ?_, fun e he => ?_⟩
      · rw [cpf_in he]; exact z7 e he
      · rw [cpf_in he]; exact z8 e he
      · show xhs 0 (nI e) = 1 ↔ _
        rw [xhs_0 he]
        constructor
        · intro z; exact absurd z (by decide)
        · rintro ⟨y1, y2⟩; exact absurd (f e y1).2.2.1 y2
      · rw [cpf_in he]
        have : va_cpy g (fun _ => 0) 0 0 20 e = g e := by
          unfold va_cpy
          rw [if_pos ⟨Nat.zero_le _, by omega⟩, Nat.zero_add, Nat.sub_zero]
        rw [this]
        exact z10 e he
    · rw [fch_n e, fch_n e, fch_n e, fch_n e, fch_n e, fch_n e, fch_n e]
      exact rlQ_p (h3 j (by omega)) (by rw [a3, pk_un e]) (by rw [a4, pk_un e]) (by rw [a5, pk_un e]) (by rw [a7, pk_un e]) (by rw [o6]) (by rw [o8]) (fun q _ => by rw [o9]) (fun q hq => ⟨by rw [a10, cpf_out hq e], by rw [a11, cpf_out hq e], by rw [o12], by rw [a13, cpf_out hq e]⟩)
  · rw [o6, o8, o12]
    exact fun j y1 y2 => ⟨(h4 j (by omega) y2).1, (h4 j (by omega) y2).2.1, fun e he => ⟨by rw [a10, cpf_out he (by omega)]; exact ((h4 j (by omega) y2).2.2 e he).1, by rw [a11, cpf_out he (by omega)]; exact ((h4 j (by omega) y2).2.2 e he).2.1, ((h4 j (by omega) y2).2.2 e he).2.2.1, by rw [a13, cpf_out he (by omega)]; exact ((h4 j (by omega) y2).2.2 e he).2.2.2⟩⟩
  · rw [ao 17 (by decide) (by decide) (by decide) (by decide) (by decide) (by decide) (by decide)]; exact h6
  · rw [o14]; exact h7
  · rw [o15]; exact h8
  · rw [ao 35 (by decide) (by decide) (by decide) (by decide) (by decide) (by decide) (by decide), ao 36 (by decide) (by decide) (by decide) (by decide) (by decide) (by decide) (by decide)]; exact h9
  · rw [ao 38 (by decide) (by decide) (by decide) (by decide) (by decide) (by decide) (by decide)]; exact h10
  · have hal : ∀ {bo : Nat} {z y : Int32}, rlU bo z β y α rs1 → rlU bo z β y α' rs1 := fun z => rlU_al z (ao 22 (by decide) (by decide) (by decide) (by decide) (by decide) (by decide) (by decide)) (ao 23 (by decide) (by decide) (by decide) (by decide) (by decide) (by decide) (by decide)) (ao 24 (by decide) (by decide) (by decide) (by decide) (by decide) (by decide) (by decide)) (ao 25 (by decide) (by decide) (by decide) (by decide) (by decide) (by decide) (by decide)) (ao 26 (by decide) (by decide) (by decide) (by decide) (by decide) (by decide) (by decide)) (ao 30 (by decide) (by decide) (by decide) (by decide) (by decide) (by decide) (by decide)) (ao 31 (by decide) (by decide) (by decide) (by decide) (by decide) (by decide) (by decide))
    rcases h11 with ⟨y1, y2, z⟩ | ⟨y1, y2, z⟩
    · exact Or.inl ⟨y1, y2, hal z⟩
    · exact Or.inr ⟨y1, y2, hal z⟩
  · rw [a10, a11, o12, o14, o15]
    exact ⟨cpf_B h12.1, cpf_B h12.2.1, h12.2.2⟩
theorem s_edition {l : Launch} (hl : l.stackTraces = false) {D : va_G} {cA : Nat → ClassId} {b n : Nat} {h : AH} (hS : St n h) (r : Int32) : Cn l D cA b y_L_edition k_L_edition 8 113 3 34 [.ref 0, .int r, .ref 56] n h (Wq l D cA b y_M_edition k_M_edition 2 29 [.ref 28, .int r]) := by
  obtain ⟨k0, f0, ξ, β, ρ, u, w, σ, α, h0, h57, rfl, ho, hR, -⟩ := hS
  obtain ⟨nr, hle, hx, hy⟩ := hR.cnt
  rcases rep_c hx hy hle r with ⟨ha, hb⟩ | ⟨j, hj, rfl, j1, hb⟩
  · exact th_q (w_edition_7 hl _ (by omega) (ovX_c (xo := 0) (o := 0) rfl) (c_X_edition_u hl _ (by omega) _ ha)) (fun h1 => c_M_edition_u hl _ _ _ h1 (by omega) hb) h57 ho (by decide) (hR.thrown 1) rfl
  · obtain ⟨c, i, kd, t, fo, ζ, g, ws, hρ, c1, c2, hE, hQ, -⟩ := hR.rep (j := j) (by omega) j1
    have hE' := repM (σ := σ) (α := α) c1 hE
    have hcl := rcl_c hQ
    by_cases z : α 8 j = 3
    · by_cases e30 : nr = 30
      · have cX := c_X_edition_c hl (D := D) (cA := cA) (b := b) (n := n) (xo := 0) (ξ := ξ) (β := β) (ρ := ρ) (u := u) (v := w) (r := c) (i0 := i) (k0 := kd) (t0 := t) (f0 := fo) (ζ := ζ) (g := g) (w := ws) (ovM 28 σ α h0) (by omega) c2 j (by omega) j1 hρ (fun q => hcl.mp q z) (by rw [hx, e30]; decide)
        rw [hE'] at cX
        exact th_q (w_edition_10 hl _ (by omega) (ovX_c (xo := 0) (o := 0) rfl) cX) (fun h1 => c_M_edition_3 hl j _ _ h1 (by omega) nr hy e30 hj z) h57 ho (by decide) (hR.thrown 3) rfl
      · have hlt : ξ 0 < 30 := by rw [hx]; exact nI_lt (b := 30) (by omega) (by omega)
        have cX := c_X_edition_r hl (D := D) (cA := cA) (b := b) (n := n) (xo := 0) (ξ := ξ) (β := β) (ρ := ρ) (u := u) (v := w) (r := c) (i0 := i) (k0 := kd) (t0 := t) (f0 := fo) (ζ := ζ) (g := g) (w := ws) (ovM 28 σ α h0) (by omega) c2 j (by omega) j1 hρ (fun q => hcl.mp q z) hlt (by rw [hx]; exact vp_in_nI (by omega) (by omega))
        rw [hE', ovR_c2 (Or.inr c2), hE', ovM_R (by omega)] at cX
        exact rt_q (w_edition_r hl _ (by omega) (ovX_c (xo := 0) (o := 0) rfl) cX (by omega) (outX (oR (by omega) ho))) (fun h1 => c_M_edition_r hl j _ _ h1 (by omega) nr hy (by omega) hj z hR.bb.1 hR.bb.2.1) (by omega) ((hR.thrown 0).edit h57 (show nr < 30 by omega) hx hj hQ) rfl (by rw [fch0, hx])
    · have cX := c_X_edition_b hl (D := D) (cA := cA) (b := b) (n := n) (xo := 0) (ξ := ξ) (β := β) (ρ := ρ) (u := u) (v := w) (r := c) (i0 := i) (k0 := kd) (t0 := t) (f0 := fo) (ζ := ζ) (g := g) (w := ws) (ovM 28 σ α h0) (by omega) c2 j (by omega) j1 hρ (hcl.mpr z)
      rw [hE'] at cX
      exact th_q (w_edition_9 hl _ (by omega) (ovX_c (xo := 0) (o := 0) rfl) cX) (fun h1 => c_M_edition_2 hl j _ _ h1 (by omega) nr hy hle hj z) h57 ho (by decide) (hR.thrown 2) rfl
/-- place: called straight; what it answers is not compared -/
theorem s_place {l : Launch} (hl : l.stackTraces = false) {D : va_G} {cA : Nat → ClassId} {b n : Nat} {h : AH} (hS : St n h) : Cn l D cA b y_X_place k_X_place 0 0 0 0 [.ref 0] n h (fun r n' h' => n' = n ∧ h' = h ∧ ∃ v : Int32, r = .inl (some (.int v))) ∧ Cn l D cA b y_M_place k_M_place 0 0 0 0 [.ref 28] n h (fun r n' h' => n' = n ∧ St n h' ∧ ∃ v : Int32, r = .inl (some (.int v))) := by
  obtain ⟨k0, f0, ξ, β, ρ, u, w, σ, α, h0, h57, rfl, ho, hR, -⟩ := hS
  refine ⟨(c_X_place hl _ (by omega)).mono (fun r n' h' hq => ⟨hq.2.1, hq.2.2, _, hq.1⟩), ?_⟩
  rw [ovX_M (by omega)]
  refine (c_M_place hl _ _ _ (by omega)).mono (fun r n' h' hq => ⟨hq.2.1, ⟨_, f0, ξ, β, ρ, u, w, _, α, h0, h57, ?_, ho, hR.thrown 0, rfl⟩, _, hq.1⟩)
  rw [hq.2.2, ovX_M (by omega)]
theorem st_0 (h : AH) : St 57 (ovX 0 ξ0 β0 ρ0 6 13 (ovM 28 σ0 β0 (hu h 56 (oc (fun _ => 0))))) :=
  ⟨_, _, ξ0, β0, ρ0, 6, 13, σ0, β0, _, Nat.le_refl _, rfl, hu_s _ _ _, Rel0 _ _ _, rfl⟩
theorem Mz.st {P : Int32 → Int64 → Int32 → Prop} {n n' : Nat} {k : Int32} {r : Rz} {h' : AH} (hq : Mz P n k r n' h') : St n' h' := by
  obtain ⟨rfl, v, f, -, hB, -⟩ := hq
  exact ⟨k, f, hB⟩
theorem Mv.st {n n' : Nat} {k : Int32} {r : Rz} {h' : AH} (hq : Mv n k r n' h') : St n' h' := by
  obtain ⟨rfl, -, f, hB⟩ := hq
  exact ⟨k, f, hB⟩
theorem Bo.m {n : Nat} {h : AH} {k : Int32} {f : Nat → Int64} (hB : Bo n h k f) : ∃ fs, h 28 = .inr (6, fs) := by
  obtain ⟨ξ, β, ρ, u, w, σ, α, h0, h57, rfl, ho, hR, hk⟩ := hB
  rw [ovX_M (by omega)]
  exact ⟨_, ovM_o _ _ _ _⟩
theorem Bo.x {n : Nat} {h : AH} {k : Int32} {f : Nat → Int64} (hB : Bo n h k f) : 57 ≤ n ∧ ∃ fs, h 0 = .inr (0, fs) := by
  obtain ⟨ξ, β, ρ, u, w, σ, α, h0, h57, rfl, ho, hR, hk⟩ := hB
  exact ⟨h57, _, ovX_c (xo := 0) (o := 0) rfl⟩
theorem Bo.out {n : Nat} {h : AH} {k : Int32} {f : Nat → Int64} (hB : Bo n h k f) : h 56 = .inl (4, 1, .inr (.inl f)) := by
  obtain ⟨ξ, β, ρ, u, w, σ, α, h0, h57, rfl, ho, hR, hk⟩ := hB
  exact outX ho
theorem Bo.th {l : Launch} (hl : l.stackTraces = false) {D : va_G} {cA : Nat → ClassId} {b n : Nat} {h : AH} {k : Int32} {f : Nat → Int64} (hB : Bo n h k f) : Cn l D cA b y_M_thrown k_M_thrown 0 0 0 0 [.ref 28] n h (Re (some (.int k)) n h) := by
  obtain ⟨ξ, β, ρ, u, w, σ, α, h0, h57, rfl, ho, hR, rfl⟩ := hB
  rw [ovX_M (by omega)]
  exact c_M_thrown hl _ _ _ (by omega)
theorem St.x {n : Nat} {h : AH} (hS : St n h) : 57 ≤ n ∧ ∃ fs, h 0 = .inr (0, fs) := by
  obtain ⟨k, f, hB⟩ := hS
  exact hB.x
theorem St.m {n : Nat} {h : AH} (hS : St n h) : ∃ fs, h 28 = .inr (6, fs) := by
  obtain ⟨k, f, hB⟩ := hS
  exact hB.m
