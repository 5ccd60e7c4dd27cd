/-! ===== the calls: act, reportAt, late, count ===== -/
theorem mact_t {σ : Nat → Int32} {α : Nat → Nat → Int32} {r k t g : Int32} (h : gsI (kn2 (inI r 0 (σ 2 - 1)) (inI k 0 9)) (inI t 0 (σ 1)) (if kn2 (inI r 0 (σ 2 - 1)) (inI k 0 9) = 0 then 0 else if α 8 r.toNatClampNeg = 0 then 1 else 0) = g) (hg : bz g = 0) : mact σ α r k t = (0, upd σ 0 g, α) := by
  subst h
  exact if_pos hg
theorem mact_r {σ : Nat → Int32} {α : Nat → Nat → Int32} {r k t : Int32} (h : gsI (kn2 (inI r 0 (σ 2 - 1)) (inI k 0 9)) (inI t 0 (σ 1)) (if kn2 (inI r 0 (σ 2 - 1)) (inI k 0 9) = 0 then 0 else if α 8 r.toNatClampNeg = 0 then 1 else 0) = 0) : mact σ α r k t = if α 10 (20 * r + k).toNatClampNeg = 0 ∨ (¬ α 11 (20 * r + k).toNatClampNeg = 0 ∧ t < α 13 (20 * r + k).toNatClampNeg) then (1, upd σ 0 0, upa (upa (upa α 10 (upd (α 10) (20 * r + k).toNatClampNeg 1)) 11 (upd (α 11) (20 * r + k).toNatClampNeg 1)) 13 (upd (α 13) (20 * r + k).toNatClampNeg t)) else (0, upd σ 0 0, α) := by
  have e : mact σ α r k t = if α 10 (20 * r + k).toNatClampNeg = 0 ∨ (¬ α 11 (20 * r + k).toNatClampNeg = 0 ∧ t < α 13 (20 * r + k).toNatClampNeg) then (1, upd σ 0 (gsI (kn2 (inI r 0 (σ 2 - 1)) (inI k 0 9)) (inI t 0 (σ 1)) (if kn2 (inI r 0 (σ 2 - 1)) (inI k 0 9) = 0 then 0 else if α 8 r.toNatClampNeg = 0 then 1 else 0)), upa (upa (upa α 10 (upd (α 10) (20 * r + k).toNatClampNeg 1)) 11 (upd (α 11) (20 * r + k).toNatClampNeg 1)) 13 (upd (α 13) (20 * r + k).toNatClampNeg t)) else (0, upd σ 0 (gsI (kn2 (inI r 0 (σ 2 - 1)) (inI k 0 9)) (inI t 0 (σ 1)) (if kn2 (inI r 0 (σ 2 - 1)) (inI k 0 9) = 0 then 0 else if α 8 r.toNatClampNeg = 0 then 1 else 0)), α) := if_neg (by rw [h]; decide)
  rw [e, h]
theorem clk_c {x y : Int32} (hc : rlC x y) (t : Int32) : ((t < 0 ∨ ¬ t ≤ x) ∧ inI t 0 y = 0) ∨ (¬ t < 0 ∧ t ≤ x ∧ inI t 0 y = 1 ∧ vok t) := by
  obtain ⟨T, hT, rfl, rfl⟩ := hc
  by_cases h0 : t < 0
  · exact Or.inl ⟨Or.inl h0, in_bad (Or.inl h0)⟩
  · by_cases h1 : t ≤ nI T
    · refine Or.inr ⟨h0, h1, in_ok h0 h1, ?_⟩
      obtain ⟨m, hm, rfl⟩ := nI_of h0
      have := Int32.le_iff_toInt_le.mp h1
      rw [nI_toInt hm, nI_toInt (by omega)] at this
      exact Or.inl ⟨m, by omega, rfl⟩
    · exact Or.inl ⟨Or.inr h1, in_bad (Or.inr h1)⟩
theorem rlQ_y {j : Nat} {i k t f : Int32} {ζ g w g' : Nat → Int32} {α : Nat → Nat → Int32} {A0 A1 : Int32} {b10 b11 b13 : Nat → Int32} (h : rlQ j i k t f ζ g w α) (k7 : ∀ e, e < 20 → (xhs A0 (nI e) = 1 ↔ ¬ b10 (20 * j + e) = 0)) (k8 : ∀ e, e < 20 → (xhs A1 (nI e) = 1 ↔ ¬ b11 (20 * j + e) = 0)) (k10 : ∀ e, e < 20 → g' e = b13 (20 * j + e) ∧ vok (g' e)) : rlQ j i k t f (upd (upd ζ 0 A0) 1 A1) g' w (upa (upa (upa α 10 b10) 11 b11) 13 b13) := by
  obtain ⟨h1, h2, h3, h4, h5, h6, h7, h8, h9, h10⟩ := h
  exact ⟨h1, h2, h3, h4, h5, h6, k7, k8, h9, k10⟩
theorem rlQ_act {j : Nat} {i k t f : Int32} {ζ g w : Nat → Int32} {α : Nat → Nat → Int32} {e : Nat} {y : Int32} (h : rlQ j i k t f ζ g w α) (he : e < 20) (hy : vok y) : rlQ j i k t f (upd (upd ζ 0 (xch (ζ 0) (nI e) 1)) 1 (xch (ζ 1) (nI e) 1)) (upd g e y) w (upa (upa (upa α 10 (upd (α 10) (20 * j + e) 1)) 11 (upd (α 11) (20 * j + e) 1)) 13 (upd (α 13) (20 * j + e) y)) := by
  have hh := h
  obtain ⟨h1, h2, h3, h4, h5, h6, h7, h8, h9, h10⟩ := hh
  refine rlQ_y h (bit_set (A := α 10) h7 he (Or.inr rfl)) (bit_set (A := α 11) h8 he (Or.inr rfl)) (fun e' he' => ?_)
  by_cases e2 : e' = e
  · subst e2
    rw [pk_us, pk_us]
    exact ⟨rfl, hy⟩
  · rw [pk_un e2, pk_un (by omega)]
    exact h10 e' he'
theorem SRw_act {α : Nat → Nat → Int32} {j e : Nat} {x y z : Int32} (he : e < 20) : ∀ i, i < 30 → i ≠ j → SRw i α (upa (upa (upa α 10 (upd (α 10) (20 * j + e) x)) 11 (upd (α 11) (20 * j + e) y)) 13 (upd (α 13) (20 * j + e) z)) := by
  intro i _ hne
  refine ⟨rfl, rfl, fun _ _ => rfl, fun e' he' => ⟨?_, ?_, rfl, ?_⟩⟩
  · show upd (α 10) (20 * j + e) x (20 * i + e') = _
    rw [pk_un (by omega)]
  · show upd (α 11) (20 * j + e) y (20 * i + e') = _
    rw [pk_un (by omega)]
  · show upd (α 13) (20 * j + e) z (20 * i + e') = _
    rw [pk_un (by omega)]
theorem rfa_c {j : Nat} {i k t f : Int32} {ζ g w : Nat → Int32} {α : Nat → Nat → Int32} {e : Nat} {y : Int32} (h : rlQ j i k t f ζ g w α) (he : e < 20) : (rfa ζ g (nI e) y = 1 ∧ (α 10 (20 * j + e) = 0 ∨ (¬ α 11 (20 * j + e) = 0 ∧ y < α 13 (20 * j + e)))) ∨ (rfa ζ g (nI e) y = 0 ∧ ¬ (α 10 (20 * j + e) = 0 ∨ (¬ α 11 (20 * j + e) = 0 ∧ y < α 13 (20 * j + e)))) := by
  obtain ⟨h1, h2, h3, h4, h5, h6, h7, h8, h9, h10⟩ := h
  have a := xhs_c (h7 e he) (by omega)
  have c := xhs_c (h8 e he) (by omega)
  have d := (h10 e he).1
  unfold rfa
  rw [nI_clamp (by omega), d]
  by_cases z : α 10 (20 * j + e) = 0
  · exact Or.inl ⟨if_pos (a.mpr z), Or.inl z⟩
  · rw [if_neg (fun q => z (a.mp q))]
    by_cases z2 : α 11 (20 * j + e) = 0
    · rw [if_pos (c.mpr z2)]
      exact Or.inr ⟨rfl, fun q => q.elim z (fun q => q.1 z2)⟩
    · rw [if_neg (fun q => z2 (c.mp q))]
      by_cases z3 : α 13 (20 * j + e) ≤ y
      · rw [if_pos z3]
        exact Or.inr ⟨rfl, fun q => q.elim z (fun q => absurd q.2 (Int32.not_lt.mpr z3))⟩
      · rw [if_neg z3]
        exact Or.inl ⟨rfl, Or.inr ⟨z2, Int32.not_le.mp z3⟩⟩
theorem s_act {l : Launch} (hl : l.stackTraces = false) {D : va_G} {cA : Nat → ClassId} {b n : Nat} {h : AH} (hS : St n h) (r f y : Int32) : Cn l D cA b y_L_act k_L_act 8 114 1 6 [.ref 0, .int r, .int f, .int y, .ref 56] n h (Wz pB l D cA b y_M_act k_M_act 2 27 [.ref 28, .int r, .int f, .int y]) := by
  obtain ⟨k0, f0, ξ, β, ρ, u, w, σ, α, h0, h57, rfl, ho, hR, -⟩ := hS
  obtain ⟨nr, hle, hx, hy⟩ := hR.cnt
  have hth : ∀ (v2 k : Int32) (σ' : Nat → Int32) (α' : Nat → Nat → Int32) (x : AC), Cn l D cA b y_L_act k_L_act 8 114 1 6 [.ref 0, .int r, .int f, .int y, .ref 56] n (ovX 0 ξ β ρ u w (ovM 28 σ α h0)) (Re (some (.int k)) (n + 1) (hu (ovX 0 ξ β ρ u w (ovM 28 σ α h0)) n x)) → ¬ k = 0 → mact σ α r f y = (0, upd σ 0 k, α) → Cn l D cA b y_L_act k_L_act 8 114 1 6 [.ref 0, .int r, .int f, .int y, .ref 56] n (ovX 0 ξ β ρ u w (ovM 28 σ α h0)) (Wz pB l D cA b y_M_act k_M_act 2 27 [.ref 28, .int r, .int f, .int y]) := by
    intro v2 k σ' α' x hW hk0 e
    refine th_g hW (fun h1 => mg_of (c_M_act hl r f y σ α h1 (by omega) nr hy hle)) h57 ho (fun v s a hg => ?_)
    rw [e] at hg
    obtain ⟨rfl, rfl, rfl⟩ := hg
    exact ⟨hR.thrown k, rfl, Or.inl rfl, fun z => absurd z hk0⟩
  rcases rep_c hx hy hle r with ⟨ha, hb⟩ | ⟨j, hj, rfl, j1, hb⟩
  · exact hth 0 1 σ α _ (w_act_7 hl _ _ _ (by omega) (ovX_c (xo := 0) (o := 0) rfl) (c_X_act_u hl _ (by omega) _ _ _ ha)) (by decide) (mact_t (by rw [kn2_0 (Or.inl hb)]; rfl) (by decide))
  · obtain ⟨c, i, kd, t, fo, ζ, g, ws, hρ, c1, c2, hE, hQ, hP⟩ := hR.rep (j := j) (by omega) j1
    have hE' := repM (σ := σ) (α := α) c1 hE
    rcases fld_c 9 (by omega) f with ⟨ha, hb2⟩ | ⟨e, he, rfl, a3, a4, hb2⟩
    · have cX := c_X_act_a hl (D := D) (cA := cA) (b := b) (n := n) (xo := 0) (ξ := ξ) (β := β) (ρ := ρ) (u := u) (v := w) (r := c) (i0 := i) (k0 := kd) (t0 := t) (f0 := fo) (ζ := ζ) (g := g) (w := ws) (ovM 28 σ α h0) (by omega) c2 j (by omega) j1 hρ f y ha
      rw [hE'] at cX
      exact hth 0 1 σ α _ (w_act_7 hl _ _ _ (by omega) (ovX_c (xo := 0) (o := 0) rfl) cX) (by decide) (mact_t (by rw [kn2_0 (Or.inr (show inI f 0 9 = 0 from hb2))]; rfl) (by decide))
    · have hkn : kn2 (inI (nI j) 0 (σ 2 - 1)) (inI (nI e) 0 9) = 1 := kn2_1 hb hb2
      rcases clk_c hR.clk y with ⟨ha, hb3⟩ | ⟨t1, t2, hb3, hv⟩
      · have cX := c_X_act_b hl (D := D) (cA := cA) (b := b) (n := n) (xo := 0) (ξ := ξ) (β := β) (ρ := ρ) (u := u) (v := w) (r := c) (i0 := i) (k0 := kd) (t0 := t) (f0 := fo) (ζ := ζ) (g := g) (w := ws) (ovM 28 σ α h0) (by omega) c2 j (by omega) j1 hρ (nI e) y a3 a4 ha
        rw [hE'] at cX
        exact hth 0 2 σ α _ (w_act_8 hl _ _ _ (by omega) (ovX_c (xo := 0) (o := 0) rfl) cX) (by decide) (mact_t (by rw [hkn, hb3]; rfl) (by decide))
      · have hsg := sg_c hQ
        by_cases z : α 8 j = 0
        · have eM := mact_r (σ := σ) (α := α) (r := nI j) (k := nI e) (t := y) (by rw [hkn, hb3, nI_clamp (by omega), if_neg (by decide), if_pos z]; rfl)
          rw [e20, nI_clamp (by omega)] at eM
          rcases rfa_c (y := y) hQ (show e < 20 by omega) with ⟨hr, hz⟩ | ⟨hr, hz⟩
          · have cX := c_X_act_1 hl (D := D) (cA := cA) (b := b) (n := n) (xo := 0) (ξ := ξ) (β := β) (ρ := ρ) (u := u) (v := w) (r := c) (i0 := i) (k0 := kd) (t0 := t) (f0 := fo) (ζ := ζ) (g := g) (w := ws) (ovM 28 σ α h0) (by omega) c2 j (by omega) j1 hρ (nI e) y a3 a4 t1 t2 (hsg.mpr z) (vp_in_nI (by omega) (by omega)) hr
            rw [hE', nI_clamp (by omega), ovM_R (by omega)] at cX
            rw [if_pos hz] at eM
            have hN := hP _ _ _ _ (SAr_u (SAr_u (SAr_u (SAr_r α) (x := 10) (by omega) (by omega) (by omega)) (x := 11) (by omega) (by omega) (by omega)) (x := 13) (by omega) (by omega) (by omega)) (SRw_act (by omega)) (rlQ_act hQ (show e < 20 by omega) hv) (bl_upd hR.bb.1 rfl) (bl_upd hR.bb.2.1 rfl) hR.bb.2.2.1
            refine rt_g (w_act_r1 hl _ _ _ (by omega) (ovX_c (xo := 0) (o := 0) rfl) cX (by decide) (by omega) (outX (oR c1 ho))) (fun h1 => mg_of (c_M_act hl _ _ _ _ _ h1 (by omega) nr hy hle)) h57 (fun v s a hg => ?_)
            rw [eM] at hg
            obtain ⟨rfl, rfl, rfl⟩ := hg
            exact ⟨hN.thrown 0, rfl, Or.inr rfl, fun _ => rfl⟩
          · have cX := c_X_act_0 hl (D := D) (cA := cA) (b := b) (n := n) (xo := 0) (ξ := ξ) (β := β) (ρ := ρ) (u := u) (v := w) (r := c) (i0 := i) (k0 := kd) (t0 := t) (f0 := fo) (ζ := ζ) (g := g) (w := ws) (ovM 28 σ α h0) (by omega) c2 j (by omega) j1 hρ (nI e) y a3 a4 t1 t2 (hsg.mpr z) (vp_in_nI (by omega) (by omega)) hr
            rw [hE'] at cX
            rw [if_neg hz] at eM
            refine rt_g (w_act_r0 hl _ _ _ (by omega) (ovX_c (xo := 0) (o := 0) rfl) cX rfl (by omega) (outX ho)) (fun h1 => mg_of (c_M_act hl _ _ _ _ _ h1 (by omega) nr hy hle)) h57 (fun v s a hg => ?_)
            rw [eM] at hg
            obtain ⟨rfl, rfl, rfl⟩ := hg
            exact ⟨hR.thrown 0, rfl, Or.inl rfl, fun _ => rfl⟩
        · have cX := c_X_act_c hl (D := D) (cA := cA) (b := b) (n := n) (xo := 0) (ξ := ξ) (β := β) (ρ := ρ) (u := u) (v := w) (r := c) (i0 := i) (k0 := kd) (t0 := t) (f0 := fo) (ζ := ζ) (g := g) (w := ws) (ovM 28 σ α h0) (by omega) c2 j (by omega) j1 hρ (nI e) y a3 a4 t1 t2 (fun q => z (hsg.mp q))
          rw [hE'] at cX
          exact hth 0 3 σ α _ (w_act_9 hl _ _ _ (by omega) (ovX_c (xo := 0) (o := 0) rfl) cX) (by decide) (mact_t (by rw [hkn, hb3, nI_clamp (by omega), if_neg (by decide), if_neg z]; rfl) (by decide))
/-! ===== the calls: late, count, reportAt ===== -/
theorem Rel.late {lo n : Nat} {ξ : Nat → Int32} {β : Nat → Nat → Int32} {ρ : Nat → Option Nat} {u v : Nat} {h : AH} {σ : Nat → Int32} {α : Nat → Nat → Int32} (hR : Rel lo n ξ β ρ u v h σ α) (hl : 28 ≤ lo) : ∃ (nr : Nat) (cs : Nat → Nat) (I K T F : Nat → Int32) (Z G W : Nat → Nat → Int32), nr ≤ 30 ∧ ξ 0 = nI nr ∧ σ 2 = nI nr ∧ Rps 0 n ρ h nr cs I K T F Z G W ∧ ∀ j, j < nr → rlQ j (I j) (K j) (T j) (F j) (Z j) (G j) (W j) α := by
  obtain ⟨nr, cs, I, K, T, F, Z, G, W, t, rs, qk, ql, ⟨h1, h2, h3⟩, h4, h5, h6⟩ := hR
  exact ⟨nr, cs, I, K, T, F, Z, G, W, h1, h2, h3, h4.toRps (by omega), h5⟩
theorem rla_c {j : Nat} {i k t f : Int32} {ζ g w : Nat → Int32} {α : Nat → Nat → Int32} {now mi : Int32} (h : rlQ j i k t f ζ g w α) : rla ζ t now mi = 0 ↔ (α 8 j = 3 ∨ ¬ mi < now - α 5 j) := by
  have hcl := rcl_c h
  have ht : t = α 5 j := h.2.2.1
  unfold rla
  rw [ht]
  by_cases z : α 8 j = 3
  · rw [if_neg (fun q => hcl.mp q z)]
    exact ⟨fun _ => Or.inl z, fun _ => rfl⟩
  · rw [if_pos (hcl.mpr z)]
    by_cases y : now - α 5 j ≤ mi
    · rw [if_pos y]
      exact ⟨fun _ => Or.inr (Int32.not_lt.mpr y), fun _ => rfl⟩
    · rw [if_neg y]
      exact ⟨fun q => absurd q (by decide), fun q => q.elim (fun q => absurd q z) (fun q => absurd (Int32.not_le.mp y) q)⟩
theorem i_sub0 {i c : Int32} (h : i - c = 0) : c = i := by
  have e := Int32.sub_add_cancel i c
  rw [h, Int32.zero_add] at e
  exact e
theorem i_sub1 (i c : Int32) : i - (c + 1) = i - c - 1 := by
  apply Int32.toBitVec_inj.1
  show i.toBitVec - (c.toBitVec + 1#32) = i.toBitVec - c.toBitVec - 1#32
  bv_omega
theorem lt_eq {σ : Nat → Int32} {α : Nat → Nat → Int32} {T : Nat → Int32} {Z : Nat → Nat → Int32} {mi i : Int32} {nr : Nat} (h : ∀ j, j < nr → (rla (Z j) (T j) (σ 1) mi = 0 ↔ (α 8 j = 3 ∨ ¬ mi < σ 1 - α 5 j))) : ∀ (k j : Nat) (bf : Int32), j + k = nr → xlt T Z (σ 1) mi i k j bf = ltr σ α mi k j (i - bf) := by
  intro k
  induction k with
  | zero => intro j bf _; rfl
  | succ k ih =>
    intro j bf hj
    have hc := h j (by omega)
    show (if rla (Z j) (T j) (σ 1) mi = 0 then xlt T Z (σ 1) mi i k (j + 1) bf else if bf = i then nI j else xlt T Z (σ 1) mi i k (j + 1) (bf + 1)) = (if α 8 j = 3 then ltr σ α mi k (j + 1) (i - bf) else if mi < σ 1 - α 5 j then (if i - bf = 0 then nI j else ltr σ α mi k (j + 1) (i - bf - 1)) else ltr σ α mi k (j + 1) (i - bf))
    rw [ih (j + 1) bf (by omega), ih (j + 1) (bf + 1) (by omega)]
    by_cases z : α 8 j = 3
    · rw [if_pos (hc.mpr (Or.inl z)), if_pos z]
    · rw [if_neg z]
      by_cases y : mi < σ 1 - α 5 j
      · rw [if_neg (fun q => (hc.mp q).elim z (fun q => q y)), if_pos y]
        by_cases e : bf = i
        · rw [if_pos e, if_pos (by rw [e]; exact Int32.sub_self _)]
        · rw [if_neg e, if_neg (fun q => e (i_sub0 q)), i_sub1]
      · rw [if_pos (hc.mpr (Or.inr y)), if_neg y]
theorem mlate_1 {σ : Nat → Int32} {α : Nat → Nat → Int32} {nr : Nat} {mi i : Int32} (h : mi < 0 ∨ 99999 < mi ∨ i < 0) : mlate σ α nr mi i = (0, upd σ 0 1) := by
  unfold mlate
  by_cases z : inI mi 0 99999 = 0
  · rw [if_pos z]
  · rw [if_neg z]
    rcases h with q | q | q
    · exact absurd (in_bad (Or.inl q)) z
    · exact absurd (in_bad (Or.inr (Int32.not_le.mpr q))) z
    · rw [if_pos q]
theorem mlate_2 {σ : Nat → Int32} {α : Nat → Nat → Int32} {nr : Nat} {mi i : Int32} (h0 : ¬ mi < 0) (h1 : ¬ 99999 < mi) (h2 : ¬ i < 0) : mlate σ α nr mi i = (ltr σ α mi nr 0 i, upd σ 0 0) := by
  unfold mlate
  rw [in_ok h0 (Int32.not_lt.mp h1), if_neg (by decide), if_neg h2]
theorem s_late {l : Launch} (hl : l.stackTraces = false) {D : va_G} {cA : Nat → ClassId} {b n : Nat} {h : AH} (hS : St n h) (x i : Int32) : Cn l D cA b y_L_late k_L_late 7 101 1 6 [.ref 0, .int x, .int i, .ref 56] n h (Wq l D cA b y_M_late k_M_late 1 15 [.ref 28, .int x, .int i]) := by
  obtain ⟨k0, f0, ξ, β, ρ, u, w, σ, α, h0, h57, rfl, ho, hR, -⟩ := hS
  obtain ⟨nr, cs, I, K, T, F, Z, G, W, hle, hx, hy, hP, hQ⟩ := (hR.M (mo := 28) σ α (by omega)).late (by omega)
  by_cases hz : x < 0 ∨ 99999 < x ∨ i < 0
  · exact th_q (w_late_8 hl _ _ (by omega) (ovX_c (xo := 0) (o := 0) rfl) (c_X_late_t hl _ (by omega) _ _ hz)) (fun h1 => c_M_late hl _ _ _ _ h1 (by omega) nr hy hle) h57 ho (by decide) (by rw [mlate_1 hz]; exact hR.thrown 1) (by rw [mlate_1 hz]; rfl)
  · have z1 : ¬ x < 0 := fun q => hz (Or.inl q)
    have z2 : ¬ 99999 < x := fun q => hz (Or.inr (Or.inl q))
    have z3 : ¬ i < 0 := fun q => hz (Or.inr (Or.inr q))
    have eM := mlate_2 (σ := σ) (α := α) (nr := nr) z1 z2 z3
    have e1 : ξ 1 = σ 1 := by
      obtain ⟨t, -, q1, q2⟩ := hR.clk
      rw [q1, q2]
    have e2 : xlt T Z (ξ 1) x i nr 0 0 = ltr σ α x nr 0 i := by
      rw [e1, lt_eq (fun j hj => rla_c (hQ j hj)) nr 0 0 (by omega), Int32.sub_zero]
    exact rt_q (w_late_r hl _ _ (by omega) (ovX_c (xo := 0) (o := 0) rfl) (c_X_late_r hl _ (by omega) hx hle hP _ _ z1 z2 (Int32.not_lt.mp z3)) (by omega) (outX ho)) (fun h1 => c_M_late hl _ _ _ _ h1 (by omega) nr hy hle) h57 (by rw [eM]; exact hR.thrown 0) (by rw [eM]; rfl) (by rw [eM, fch0, e2])
theorem opn_z {A : Int32} {g : Nat → Int32} {c : Nat} (h2 : ∀ f, f < 32 → (xhs A (nI f) = 1 ↔ f < 20 ∧ ¬ g (c + f) = 0)) : A = 0 ↔ opn g c 20 0 0 = 0 := by
  have e : opn g c 20 0 0 = nI (onn g c 20 0) := by
    have := opn_onn g c 20 0 0
    rw [Nat.zero_add] at this
    exact this
  rw [e]
  have h3 : nI (onn g c 20 0) = 0 ↔ onn g c 20 0 = 0 := nI_eq (b := 0) (by have := onn_le g c 20 0; omega) (by omega)
  rw [h3, onn_0]
  refine ⟨fun q f _ hf => ?_, fun q => ?_⟩
  · have := h2 f (by omega)
    rw [q, xhs_0 (by omega)] at this
    exact Decidable.not_not.mp (fun z => absurd (this.mpr ⟨by omega, z⟩) (by decide))
  · exact xhs_z.mpr (fun f hf => by
      rcases xhs_01 A hf with z | z
      · exact z
      · obtain ⟨z1, z2⟩ := (h2 f hf).mp z
        exact absurd (q f (by omega) (by omega)) z2)
theorem cs_eq {j : Nat} {i k t fo : Int32} {ζ g w : Nat → Int32} {α : Nat → Nat → Int32} {f : Nat} {lo hi c : Int32} (h : rlQ j i k t fo ζ g w α) (hf : f < 20) : (if rse ζ = 0 then c else if rbt ζ g (nI f) lo hi = 0 then c else c + 1) = mcs α f lo hi j c := by
  have hcl := rcl_c h
  have hop := opn_z (g := α 12) (c := 20 * j) h.2.2.2.2.2.2.2.2.1
  have hxf := xhs_c (h.2.2.2.2.2.2.1 f hf) (by omega)
  have hg := (h.2.2.2.2.2.2.2.2.2 f hf).1
  unfold mcs rse
  by_cases z : α 8 j = 3
  · rw [if_pos z, if_neg (fun q => hcl.mp q z)]
    by_cases y : ζ 2 = 0
    · rw [if_pos y, if_pos (hop.mp y), if_neg (by decide)]
      unfold rbt
      rw [nI_clamp (by omega), hg]
      by_cases x : α 10 (20 * j + f) = 0
      · rw [if_pos x, if_pos (hxf.mpr x), if_pos rfl]
      · rw [if_neg x, if_neg (fun q => x (hxf.mp q))]
        rfl
    · rw [if_neg y, if_neg (fun q => y (hop.mpr q)), if_pos rfl]
  · rw [if_neg z, if_pos (hcl.mpr z), if_pos rfl]
theorem cn_eq {α : Nat → Nat → Int32} {nr : Nat} {I K T F : Nat → Int32} {Z G W : Nat → Nat → Int32} {f : Nat} {lo hi : Int32} (h : ∀ j, j < nr → rlQ j (I j) (K j) (T j) (F j) (Z j) (G j) (W j) α) (hf : f < 20) : ∀ (k j : Nat) (c : Int32), j + k = nr → xcn Z G (nI f) lo hi k j c = mcn α f lo hi k j c := by
  intro k
  induction k with
  | zero => intro j c _; rfl
  | succ k ih =>
    intro j c hj
    show xcn Z G (nI f) lo hi k (j + 1) (if rse (Z j) = 0 then c else if rbt (Z j) (G j) (nI f) lo hi = 0 then c else c + 1) = mcn α f lo hi k (j + 1) (mcs α f lo hi j c)
    rw [cs_eq (h j (by omega)) hf]
    exact ih _ _ (by omega)
theorem s_count {l : Launch} (hl : l.stackTraces = false) {D : va_G} {cA : Nat → ClassId} {b n : Nat} {h : AH} (hS : St n h) (f lo hi : Int32) : Cn l D cA b y_L_count k_L_count 8 114 1 6 [.ref 0, .int f, .int lo, .int hi, .ref 56] n h (Wq l D cA b y_M_count k_M_count 2 27 [.ref 28, .int f, .int lo, .int hi]) := by
  obtain ⟨k0, f0, ξ, β, ρ, u, w, σ, α, h0, h57, rfl, ho, hR, -⟩ := hS
  obtain ⟨nr, cs, I, K, T, F, Z, G, W, hle, hx, hy, hP, hQ⟩ := (hR.M (mo := 28) σ α (by omega)).late (by omega)
  rcases fld_c 19 (by omega) f with ⟨ha, hb⟩ | ⟨e, he, rfl, a3, a4, hb⟩
  · exact th_q (w_count_7 hl _ _ _ (by omega) (ovX_c (xo := 0) (o := 0) rfl) (c_X_count_a hl _ (by omega) _ _ _ ha)) (fun h1 => c_M_count_1 hl _ _ _ _ _ h1 (by omega) hb) h57 ho (by decide) (hR.thrown 1) rfl
  · by_cases hk : lo ≤ hi
    · exact rt_q (w_count_r hl _ _ _ (by omega) (ovX_c (xo := 0) (o := 0) rfl) (c_X_count_r hl _ (by omega) hx hle hP _ _ _ a3 a4 hk (vp_in_nI (by omega) (by omega))) (by omega) (outX ho)) (fun h1 => c_M_count_r hl e _ _ _ _ h1 (by omega) nr hy hle (by omega) hk) h57 (hR.thrown 0) rfl (by rw [fch0, cn_eq hQ (by omega) nr 0 0 (by omega)])
    · exact th_q (w_count_8 hl _ _ _ (by omega) (ovX_c (xo := 0) (o := 0) rfl) (c_X_count_b hl _ (by omega) _ _ _ a3 a4 hk)) (fun h1 => c_M_count_2 hl _ _ _ _ _ h1 (by omega) hb hk) h57 ho (by decide) (hR.thrown 2) rfl
theorem Rel.sg {lo n : Nat} {ξ : Nat → Int32} {β : Nat → Nat → Int32} {ρ : Nat → Option Nat} {u v : Nat} {h : AH} {σ : Nat → Int32} {α : Nat → Nat → Int32} (hR : Rel lo n ξ β ρ u v h σ α) : ∀ j, j < 30 → ∃ k, k ≤ 3 ∧ α 8 j = nI k := by
  obtain ⟨nr, cs, I, K, T, F, Z, G, W, t, rs, qk, ql, h1, h2, h3, h4, h5⟩ := hR
  intro j hj
  by_cases e : j < nr
  · obtain ⟨-, -, -, -, -, ⟨c, hc, -, z, -⟩, -⟩ := h3 j e
    exact ⟨c, hc, z⟩
  · exact ⟨0, by omega, (h4 j (by omega) hj).2.1⟩
theorem mra_1 {σ : Nat → Int32} {α : Nat → Nat → Int32} {r w : Int32} (h : inI r 0 (σ 2 - 1) = 0 ∨ inI w 0 7 = 0) : mreportAt σ α r w = (0, upd σ 0 1) := if_pos (kn2_0 h)
theorem mra_2 {σ : Nat → Int32} {α : Nat → Nat → Int32} {r w : Int32} (h1 : inI r 0 (σ 2 - 1) = 1) (h2 : inI w 0 7 = 1) : mreportAt σ α r w = (if w = 4 then (if α 8 r.toNatClampNeg = 0 then -1 else α 9 (3 * r + α 8 r.toNatClampNeg - 1).toNatClampNeg) else if w = 0 then α 3 r.toNatClampNeg else if w = 1 then α 4 r.toNatClampNeg else if w = 2 then α 5 r.toNatClampNeg else if w = 3 then α 8 r.toNatClampNeg else if w = 5 then α 6 r.toNatClampNeg else if w = 6 then opn (α 12) (20 * r.toNatClampNeg) 20 0 0 else α 7 r.toNatClampNeg, upd σ 0 0) := if_neg (by rw [kn2_1 h1 h2]; decide)
theorem rls_c {j : Nat} {i k t f : Int32} {ζ g w : Nat → Int32} {α : Nat → Nat → Int32} (h : rlQ j i k t f ζ g w α) (hj : j < 30) : ∃ c, ζ 4 = nI c ∧ c ≤ 3 ∧ rls ζ w c = (if α 8 j = 0 then -1 else α 9 (3 * nI j + α 8 j - 1).toNatClampNeg) := by
  have hsg := sg_c h
  obtain ⟨h1, h2, h3, h4, h5, ⟨c, hc, z1, z2, z3⟩, h7, h8, h9, h10⟩ := h
  refine ⟨c, z1, hc, ?_⟩
  unfold rls
  by_cases z : α 8 j = 0
  · rw [if_pos z, if_pos (hsg.mpr z)]
  · rw [if_neg z, if_neg (fun q => z (hsg.mp q)), z2]
    have hc0 : 1 ≤ c := by
      rcases Nat.eq_zero_or_pos c with q | q
      · subst q
        exact absurd z2 z
      · exact q
    have e : (3 : Int32) * nI j + nI c - 1 = nI (3 * j + (c - 1)) := by
      rw [e3, show 3 * j + c = 3 * j + (c - 1) + 1 by omega, nI_succ, Int32.add_sub_cancel]
    rw [e, nI_clamp (by omega), z3 (c - 1) (by omega)]
/-- the bits of an int, counted -/
def BCt : Prop := ∀ (A : Int32) (g : Nat → Int32) (c : Nat), (∀ f, f < 32 → (xhs A (nI f) = 1 ↔ f < 20 ∧ ¬ g (c + f) = 0)) → xbc A = opn g c 20 0 0
abbrev pR (x : Int32) : Int32 → Int64 → Int32 → Prop := fun k o v => (x = 6 → BCt) → k = 0 → o = v.toInt64
theorem s_reportAt {l : Launch} (hl : l.stackTraces = false) {D : va_G} {cA : Nat → ClassId} {b n : Nat} {h : AH} (hS : St n h) (r x : Int32) : Cn l D cA b y_L_reportAt k_L_reportAt 8 113 1 6 [.ref 0, .int r, .int x, .ref 56] n h (Wz (pR x) l D cA b y_M_reportAt k_M_reportAt 2 28 [.ref 28, .int r, .int x]) := by
  obtain ⟨k0, f0, ξ, β, ρ, u, w, σ, α, h0, h57, rfl, ho, hR, -⟩ := hS
  obtain ⟨nr, hle, hx, hy⟩ := hR.cnt
  have hth : ∀ (k : Int32) (x0 : AC), Cn l D cA b y_L_reportAt k_L_reportAt 8 113 1 6 [.ref 0, .int r, .int x, .ref 56] n (ovX 0 ξ β ρ u w (ovM 28 σ α h0)) (Re (some (.int k)) (n + 1) (hu (ovX 0 ξ β ρ u w (ovM 28 σ α h0)) n x0)) → ¬ k = 0 → mreportAt σ α r x = (0, upd σ 0 k) → Cn l D cA b y_L_reportAt k_L_reportAt 8 113 1 6 [.ref 0, .int r, .int x, .ref 56] n (ovX 0 ξ β ρ u w (ovM 28 σ α h0)) (Wz (pR x) l D cA b y_M_reportAt k_M_reportAt 2 28 [.ref 28, .int r, .int x]) := by
    intro k x0 hW hk0 e
    refine th_g hW (fun h1 => mg_of (c_M_reportAt hl _ _ _ _ h1 (by omega) nr hy hle hR.sg)) h57 ho (fun v s a hg => ?_)
    rw [e] at hg
    obtain ⟨rfl, rfl, rfl⟩ := hg
    exact ⟨hR.thrown k, rfl, fun _ z => absurd z hk0⟩
  rcases rep_c hx hy hle r with ⟨ha, hb⟩ | ⟨j, hj, rfl, j1, hb⟩
  · exact hth 1 _ (w_reportAt_7 hl _ _ (by omega) (ovX_c (xo := 0) (o := 0) rfl) (c_X_reportAt_u hl _ (by omega) _ _ ha)) (by decide) (mra_1 (Or.inl hb))
  · obtain ⟨c, i, kd, t, fo, ζ, g, ws, hρ, c1, c2, hE, hQ, hP⟩ := hR.rep (j := j) (by omega) j1
    have hE' := repM (σ := σ) (α := α) c1 hE
    rcases fld_c 7 (by omega) x with ⟨ha, hb2⟩ | ⟨e, he, rfl, a3, a4, hb2⟩
    · have hx7 : x.toInt < 0 ∨ 7 < x.toInt := by
        rcases ha with z | z
        · exact Or.inl (by have := Int32.lt_iff_toInt_lt.mp z; rwa [show (0 : Int32).toInt = 0 by decide] at this)
        · refine Or.inr ?_
          have := Int32.le_iff_toInt_le.mp (Int32.not_lt.mp z)
          rw [show (nI (7 + 1)).toInt = 8 by decide] at this
          omega
      have cX := c_X_reportAt_b hl (D := D) (cA := cA) (b := b) (n := n) (xo := 0) (ξ := ξ) (β := β) (ρ := ρ) (u := u) (v := w) (r := c) (i0 := i) (k0 := kd) (t0 := t) (f0 := fo) (ζ := ζ) (g := g) (w := ws) (ovM 28 σ α h0) (by omega) c2 j (by omega) j1 hρ x hx7
      rw [hE'] at cX
      exact hth 1 _ (w_reportAt_7 hl _ _ (by omega) (ovX_c (xo := 0) (o := 0) rfl) cX) (by decide) (mra_1 (Or.inr hb2))
    · have eM := mra_2 (σ := σ) (α := α) hb (show inI (nI e) 0 7 = 1 from hb2)
      rw [nI_clamp (show j < 2 ^ 31 by omega)] at eM
      have hrt : ∀ z : Int32, Cn l D cA b y_X_reportAt k_X_reportAt 7 96 1 6 [.ref 0, .int (nI j), .int (nI e)] n (ovX 0 ξ β ρ u w (ovR c i kd t fo ζ g ws (ovM 28 σ α h0))) (Re (some (.int z)) n (ovX 0 ξ β ρ u w (ovR c i kd t fo ζ g ws (ovM 28 σ α h0)))) → ((nI e = 6 → BCt) → z = (mreportAt σ α (nI j) (nI e)).1) → Cn l D cA b y_L_reportAt k_L_reportAt 8 113 1 6 [.ref 0, .int (nI j), .int (nI e), .ref 56] n (ovX 0 ξ β ρ u w (ovM 28 σ α h0)) (Wz (pR (nI e)) l D cA b y_M_reportAt k_M_reportAt 2 28 [.ref 28, .int (nI j), .int (nI e)]) := by
        intro z cX hz
        rw [hE'] at cX
        refine rt_g (w_reportAt_r hl _ _ (by omega) (ovX_c (xo := 0) (o := 0) rfl) cX (by omega) (outX ho)) (fun h1 => mg_of (c_M_reportAt hl _ _ _ _ h1 (by omega) nr hy hle hR.sg)) h57 (fun v s a hg => ?_)
        obtain ⟨rfl, rfl, rfl⟩ := hg
        refine ⟨by rw [eM]; exact hR.thrown 0, by rw [eM]; rfl, fun hB _ => ?_⟩
        rw [fch0, hz hB]
      rw [eM] at hrt
      obtain ⟨⟨q0, -, p1, p2⟩, ⟨q1, -, p3, p4⟩, p5, p6, ⟨q2, -, p7, p8⟩, ⟨q3, -, p9, p10, -⟩, -, -, p12, -⟩ := id hQ
      rcases (show e = 0 ∨ e = 1 ∨ e = 2 ∨ e = 3 ∨ e = 4 ∨ e = 5 ∨ e = 6 ∨ e = 7 by omega) with rfl | rfl | rfl | rfl | rfl | rfl | rfl | rfl
      · exact hrt _ (c_X_reportAt_0 hl _ (by omega) c2 j (by omega) j1 hρ) (fun _ => p1.trans p2.symm)
      · exact hrt _ (c_X_reportAt_1 hl _ (by omega) c2 j (by omega) j1 hρ) (fun _ => p3.trans p4.symm)
      · exact hrt _ (c_X_reportAt_2 hl _ (by omega) c2 j (by omega) j1 hρ) (fun _ => p5)
      · exact hrt _ (c_X_reportAt_3 hl _ (by omega) c2 j (by omega) j1 hρ) (fun _ => p9.trans p10.symm)
      · obtain ⟨c0, g1, g2, g3⟩ := rls_c hQ (by omega)
        exact hrt _ (c_X_reportAt_4 hl _ (by omega) c2 j (by omega) j1 hρ c0 g1 g2) (fun _ => g3)
      · exact hrt _ (c_X_reportAt_5 hl _ (by omega) c2 j (by omega) j1 hρ) (fun _ => p7.trans p8.symm)
      · exact hrt _ (c_X_reportAt_6 hl _ (by omega) c2 j (by omega) j1 hρ) (fun hB => hB rfl _ _ _ p12)
      · exact hrt _ (c_X_reportAt_7 hl _ (by omega) c2 j (by omega) j1 hρ) (fun _ => p6)
