/-! ===== the calls: field, fault, inside, act ===== -/
theorem s_field {l : Launch} (hl : l.stackTraces = false) {D : va_G} {cA : Nat → ClassId} {b n : Nat} {h : AH} (hS : St n h) (r f y : Int32) : Cn l D cA b y_L_field k_L_field 8 112 1 6 [.ref 0, .int r, .int f, .int y] n h (Wv l D cA b y_M_field k_M_field 2 27 [.ref 28, .int r, .int f, .int y]) := by
  obtain ⟨k0, f0, ξ, β, ρ, u, w, σ, α, h0, h57, rfl, ho, hR, -⟩ := hS
  obtain ⟨nr, hle, hx, hy⟩ := hR.cnt
  rcases rep_c hx hy hle r with ⟨ha, hb⟩ | ⟨j, hj, rfl, j1, hb⟩
  · exact th_v (w_field_7 hl _ _ _ (by omega) (ovX_c (xo := 0) (o := 0) rfl) (c_X_field_u hl _ (by omega) _ _ _ ha)) (fun h1 => c_M_field hl _ _ _ _ _ h1 (by omega) nr hy hle) h57 ho (by rw [mfield_1 (Or.inl hb)]; exact hR.thrown 1) (by rw [mfield_1 (Or.inl hb)]; rfl)
  · obtain ⟨c, i, kd, t, fo, ζ, g, ws, hρ, c1, c2, hE, hQ, hP⟩ := hR.rep (j := j) (by omega) j1
    have hE' := repM (σ := σ) (α := α) c1 hE
    rcases fld_c 19 (by omega) f with ⟨ha, hb2⟩ | ⟨e, he, rfl, a3, a4, hb2⟩
    · have cX := c_X_field_a hl (D := D) (cA := cA) (b := b) (n := n) (xo := 0) (ξ := ξ) (β := β) (ρ := ρ) (u := u) (v := w) (r := c) (i0 := i) (k0 := kd) (t0 := t) (f0 := fo) (ζ := ζ) (g := g) (w := ws) (ovM 28 σ α h0) (by omega) c2 j (by omega) j1 hρ f y ha
      rw [hE'] at cX
      exact th_v (w_field_7 hl _ _ _ (by omega) (ovX_c (xo := 0) (o := 0) rfl) cX) (fun h1 => c_M_field hl _ _ _ _ _ h1 (by omega) nr hy hle) h57 ho (by rw [mfield_1 (Or.inr hb2)]; exact hR.thrown 1) (by rw [mfield_1 (Or.inr hb2)]; rfl)
    · rcases vok_c y with ⟨hv, hv2⟩ | ⟨v1, v2, v3, v4⟩
      · have cX := c_X_field_b hl (D := D) (cA := cA) (b := b) (n := n) (xo := 0) (ξ := ξ) (β := β) (ρ := ρ) (u := u) (v := w) (r := c) (i0 := i) (k0 := kd) (t0 := t) (f0 := fo) (ζ := ζ) (g := g) (w := ws) (ovM 28 σ α h0) (by omega) c2 j (by omega) j1 hρ (nI e) y a3 a4 hv
        rw [hE'] at cX
        have eM := mfield_2 (σ := σ) (α := α) hb hb2 hv2
        exact th_v (w_field_8 hl _ _ _ (by omega) (ovX_c (xo := 0) (o := 0) rfl) cX) (fun h1 => c_M_field hl _ _ _ _ _ h1 (by omega) nr hy hle) h57 ho (by rw [eM]; exact hR.thrown 2) (by rw [eM]; rfl)
      · have hct := rct_c hQ (e := e) (by omega)
        by_cases z : α 8 j = 0 ∨ ¬ α 12 (20 * j + e) = 0
        · have cX := c_X_field_r hl (D := D) (cA := cA) (b := b) (n := n) (xo := 0) (ξ := ξ) (β := β) (ρ := ρ) (u := u) (v := w) (r := c) (i0 := i) (k0 := kd) (t0 := t) (f0 := fo) (ζ := ζ) (g := g) (w := ws) (ovM 28 σ α h0) (by omega) c2 j (by omega) j1 hρ (nI e) y a3 a4 v1 v2 (fun q => hct.mp q z) (vp_in_nI (by omega) (by omega))
          rw [hE', nI_clamp (by omega), ovM_R (by omega)] at cX
          have eM := mfield_4 (σ := σ) (α := α) hb hb2 v3 (by omega) (by omega) z
          have hN := hP _ _ _ _ (SAr_tell (α := α) (k := 20 * j + e) (x := y)) (SRw_tell (by omega)) (rlQ_tell hQ (by omega) v4) (bl_upd hR.bb.1 rfl) (bl_upd hR.bb.2.1 rfl) (bl_upd hR.bb.2.2.1 rfl)
          exact rt_v (w_field_r hl _ _ _ (by omega) (ovX_c (xo := 0) (o := 0) rfl) cX) (fun h1 => c_M_field hl _ _ _ _ _ h1 (by omega) nr hy hle) h57 (oR c1 ho) (by rw [eM]; exact hN.thrown 0) (by rw [eM]; rfl)
        · have cX := c_X_field_c hl (D := D) (cA := cA) (b := b) (n := n) (xo := 0) (ξ := ξ) (β := β) (ρ := ρ) (u := u) (v := w) (r := c) (i0 := i) (k0 := kd) (t0 := t) (f0 := fo) (ζ := ζ) (g := g) (w := ws) (ovM 28 σ α h0) (by omega) c2 j (by omega) j1 hρ (nI e) y a3 a4 v1 v2 (hct.mpr z)
          rw [hE'] at cX
          have eM := mfield_3 (σ := σ) (α := α) hb hb2 v3 (by omega) (by omega) (fun q => z (Or.inl q)) (Decidable.not_not.mp (fun q => z (Or.inr q)))
          exact th_v (w_field_9 hl _ _ _ (by omega) (ovX_c (xo := 0) (o := 0) rfl) cX) (fun h1 => c_M_field hl _ _ _ _ _ h1 (by omega) nr hy hle) h57 ho (by rw [eM]; exact hR.thrown 3) (by rw [eM]; rfl)
theorem s_fault {l : Launch} (hl : l.stackTraces = false) {D : va_G} {cA : Nat → ClassId} {b n : Nat} {h : AH} (hS : St n h) (r f : Int32) : Cn l D cA b y_L_fault k_L_fault 8 111 1 6 [.ref 0, .int r, .int f] n h (Wv l D cA b y_M_fault k_M_fault 2 27 [.ref 28, .int r, .int f]) := by
  obtain ⟨k0, f0, ξ, β, ρ, u, w, σ, α, h0, h57, rfl, ho, hR, -⟩ := hS
  obtain ⟨nr, hle, hx, hy⟩ := hR.cnt
  rcases rep_c hx hy hle r with ⟨ha, hb⟩ | ⟨j, hj, rfl, j1, hb⟩
  · exact th_v (w_fault_7 hl _ _ (by omega) (ovX_c (xo := 0) (o := 0) rfl) (c_X_fault_u hl _ (by omega) _ _ ha)) (fun h1 => c_M_fault hl _ _ _ _ h1 (by omega) nr hy hle) h57 ho (by rw [mfault_1 (Or.inl hb)]; exact hR.thrown 1) (by rw [mfault_1 (Or.inl hb)]; rfl)
  · obtain ⟨c, i, kd, t, fo, ζ, g, ws, hρ, c1, c2, hE, hQ, hP⟩ := hR.rep (j := j) (by omega) j1
    have hE' := repM (σ := σ) (α := α) c1 hE
    rcases fld_c 19 (by omega) f with ⟨ha, hb2⟩ | ⟨e, he, rfl, a3, a4, hb2⟩
    · have cX := c_X_fault_a hl (D := D) (cA := cA) (b := b) (n := n) (xo := 0) (ξ := ξ) (β := β) (ρ := ρ) (u := u) (v := w) (r := c) (i0 := i) (k0 := kd) (t0 := t) (f0 := fo) (ζ := ζ) (g := g) (w := ws) (ovM 28 σ α h0) (by omega) c2 j (by omega) j1 hρ f ha
      rw [hE'] at cX
      exact th_v (w_fault_7 hl _ _ (by omega) (ovX_c (xo := 0) (o := 0) rfl) cX) (fun h1 => c_M_fault hl _ _ _ _ h1 (by omega) nr hy hle) h57 ho (by rw [mfault_1 (Or.inr hb2)]; exact hR.thrown 1) (by rw [mfault_1 (Or.inr hb2)]; rfl)
    · have hcl := rcl_c hQ
      have hop : xhs (ζ 2) (nI e) = 0 ↔ α 12 (20 * j + e) = 0 := by
        refine xhs_c ⟨fun z => ((hQ.2.2.2.2.2.2.2.2.1 e (by omega)).mp z).2, fun z => (hQ.2.2.2.2.2.2.2.2.1 e (by omega)).mpr ⟨by omega, z⟩⟩ (by omega)
      by_cases z : α 8 j = 3
      · by_cases z2 : α 12 (20 * j + e) = 0
        · have cX := c_X_fault_r hl (D := D) (cA := cA) (b := b) (n := n) (xo := 0) (ξ := ξ) (β := β) (ρ := ρ) (u := u) (v := w) (r := c) (i0 := i) (k0 := kd) (t0 := t) (f0 := fo) (ζ := ζ) (g := g) (w := ws) (ovM 28 σ α h0) (by omega) c2 j (by omega) j1 hρ (nI e) a3 a4 (fun q => hcl.mp q z) (hop.mpr z2)
          rw [hE', ovM_R (by omega)] at cX
          have eM := mfault_3 (σ := σ) (α := α) hb hb2 (by omega) (by omega) z z2
          have hN := hP _ _ _ _ (SAr_u (SAr_r α) (by omega) (by omega) (by omega)) (SRw_12 (by omega)) (rlQ_fault hQ (by omega)) hR.bb.1 hR.bb.2.1 (bl_upd hR.bb.2.2.1 rfl)
          exact rt_v (w_fault_r hl _ _ (by omega) (ovX_c (xo := 0) (o := 0) rfl) cX) (fun h1 => c_M_fault hl _ _ _ _ h1 (by omega) nr hy hle) h57 (oR c1 ho) (by rw [eM]; exact hN.thrown 0) (by rw [eM]; rfl)
        · have cX := c_X_fault_c hl (D := D) (cA := cA) (b := b) (n := n) (xo := 0) (ξ := ξ) (β := β) (ρ := ρ) (u := u) (v := w) (r := c) (i0 := i) (k0 := kd) (t0 := t) (f0 := fo) (ζ := ζ) (g := g) (w := ws) (ovM 28 σ α h0) (by omega) c2 j (by omega) j1 hρ (nI e) a3 a4 (fun q => hcl.mp q z) (fun q => z2 (hop.mp q))
          rw [hE'] at cX
          have eM := mfault_2 (σ := σ) (α := α) hb hb2 (by omega) (by omega) (Or.inr z2)
          exact th_v (w_fault_9 hl _ _ (by omega) (ovX_c (xo := 0) (o := 0) rfl) cX) (fun h1 => c_M_fault hl _ _ _ _ h1 (by omega) nr hy hle) h57 ho (by rw [eM]; exact hR.thrown 2) (by rw [eM]; rfl)
      · have cX := c_X_fault_b hl (D := D) (cA := cA) (b := b) (n := n) (xo := 0) (ξ := ξ) (β := β) (ρ := ρ) (u := u) (v := w) (r := c) (i0 := i) (k0 := kd) (t0 := t) (f0 := fo) (ζ := ζ) (g := g) (w := ws) (ovM 28 σ α h0) (by omega) c2 j (by omega) j1 hρ (nI e) a3 a4 (hcl.mpr z)
        rw [hE'] at cX
        have eM := mfault_2 (σ := σ) (α := α) hb hb2 (by omega) (by omega) (Or.inl z)
        exact th_v (w_fault_9 hl _ _ (by omega) (ovX_c (xo := 0) (o := 0) rfl) cX) (fun h1 => c_M_fault hl _ _ _ _ h1 (by omega) nr hy hle) h57 ho (by rw [eM]; exact hR.thrown 2) (by rw [eM]; rfl)
theorem minside_t {σ : Nat → Int32} {α : Nat → Nat → Int32} {r k t : Int32} (h : gsI (inI r 0 (σ 2 - 1)) (inI k 0 99) (if inI r 0 (σ 2 - 1) = 0 then 0 else if α 8 r.toNatClampNeg = 0 then 1 else 0) = t) (ht : bz t = 0) : minside σ α r k = (upd σ 0 t, α) := by
  subst h
  exact if_pos ht
theorem minside_r {σ : Nat → Int32} {α : Nat → Nat → Int32} {r k : Int32} (h : gsI (inI r 0 (σ 2 - 1)) (inI k 0 99) (if inI r 0 (σ 2 - 1) = 0 then 0 else if α 8 r.toNatClampNeg = 0 then 1 else 0) = 0) : minside σ α r k = (upd σ 0 0, upa α 6 (upd (α 6) r.toNatClampNeg k)) := by
  have e : minside σ α r k = (upd σ 0 (gsI (inI r 0 (σ 2 - 1)) (inI k 0 99) (if inI r 0 (σ 2 - 1) = 0 then 0 else if α 8 r.toNatClampNeg = 0 then 1 else 0)), upa α 6 (upd (α 6) r.toNatClampNeg k)) := if_neg (by rw [h]; decide)
  rw [e, h]
theorem sg_c {j : Nat} {i k t f : Int32} {ζ g w : Nat → Int32} {α : Nat → Nat → Int32} (h : rlQ j i k t f ζ g w α) : ζ 4 ≤ 0 ↔ α 8 j = 0 := by
  obtain ⟨h1, h2, h3, h4, h5, ⟨c, hc, z1, z2, -⟩, h7, h8, h9, h10⟩ := h
  rw [z1, z2]
  rcases (show c = 0 ∨ c = 1 ∨ c = 2 ∨ c = 3 by omega) with rfl | rfl | rfl | rfl <;> decide
theorem s_inside {l : Launch} (hl : l.stackTraces = false) {D : va_G} {cA : Nat → ClassId} {b n : Nat} {h : AH} (hS : St n h) (r y : Int32) : Cn l D cA b y_L_inside k_L_inside 8 111 1 6 [.ref 0, .int r, .int y] n h (Wv l D cA b y_M_inside k_M_inside 2 30 [.ref 28, .int r, .int y]) := by
  obtain ⟨k0, f0, ξ, β, ρ, u, w, σ, α, h0, h57, rfl, ho, hR, -⟩ := hS
  obtain ⟨nr, hle, hx, hy⟩ := hR.cnt
  rcases rep_c hx hy hle r with ⟨ha, hb⟩ | ⟨j, hj, rfl, j1, hb⟩
  · have eM := minside_t (σ := σ) (α := α) (r := r) (k := y) (t := 1) (by rw [hb]; rfl) (by decide)
    exact th_v (w_inside_7 hl _ _ (by omega) (ovX_c (xo := 0) (o := 0) rfl) (c_X_inside_u hl _ (by omega) _ _ ha)) (fun h1 => c_M_inside hl _ _ _ _ h1 (by omega) nr hy hle) h57 ho (by rw [eM]; exact hR.thrown 1) (by rw [eM]; rfl)
  · obtain ⟨c, i, kd, t, fo, ζ, g, ws, hρ, c1, c2, hE, hQ, hP⟩ := hR.rep (j := j) (by omega) j1
    have hE' := repM (σ := σ) (α := α) c1 hE
    rcases fld_c 99 (by omega) y with ⟨ha, hb2⟩ | ⟨e, he, rfl, a3, a4, hb2⟩
    · have ha' : y < 0 ∨ ¬ y ≤ 99 := ha.imp id (fun z q => z (by
        have h1 := Int32.le_iff_toInt_le.mp q
        rw [Int32.lt_iff_toInt_lt]
        have h2 : (99 : Int32).toInt = 99 := by decide
        have h3 : (nI (99 + 1)).toInt = 100 := by decide
        omega))
      have cX := c_X_inside_b hl (D := D) (cA := cA) (b := b) (n := n) (xo := 0) (ξ := ξ) (β := β) (ρ := ρ) (u := u) (v := w) (r := c) (i0 := i) (k0 := kd) (t0 := t) (f0 := fo) (ζ := ζ) (g := g) (w := ws) (ovM 28 σ α h0) (by omega) c2 j (by omega) j1 hρ y ha'
      rw [hE'] at cX
      have eM := minside_t (σ := σ) (α := α) (r := nI j) (k := y) (t := 2) (by rw [hb, show inI y 0 99 = 0 from hb2]; rfl) (by decide)
      exact th_v (w_inside_8 hl _ _ (by omega) (ovX_c (xo := 0) (o := 0) rfl) cX) (fun h1 => c_M_inside hl _ _ _ _ h1 (by omega) nr hy hle) h57 ho (by rw [eM]; exact hR.thrown 2) (by rw [eM]; rfl)
    · have hb3 : inI (nI e) 0 99 = 1 := hb2
      have y1 : nI e ≤ 99 := nI_le (b := 99) (by omega) (by omega)
      have hsg := sg_c hQ
      by_cases z : α 8 j = 0
      · have cX := c_X_inside_r hl (D := D) (cA := cA) (b := b) (n := n) (xo := 0) (ξ := ξ) (β := β) (ρ := ρ) (u := u) (v := w) (r := c) (i0 := i) (k0 := kd) (t0 := t) (f0 := fo) (ζ := ζ) (g := g) (w := ws) (ovM 28 σ α h0) (by omega) c2 j (by omega) j1 hρ (nI e) a3 y1 (hsg.mpr z)
        rw [hE', ovM_R (by omega)] at cX
        have eM := minside_r (σ := σ) (α := α) (r := nI j) (k := nI e) (by rw [hb, hb3, nI_clamp (by omega), if_neg (by decide), if_pos z]; rfl)
        rw [nI_clamp (by omega)] at eM
        have hN := hP _ _ _ _ (SAr_6 (α := α)) SRw_in (rlQ_in hQ (show e ≤ 99 by omega)) hR.bb.1 hR.bb.2.1 hR.bb.2.2.1
        exact rt_v (w_inside_r hl _ _ (by omega) (ovX_c (xo := 0) (o := 0) rfl) cX) (fun h1 => c_M_inside hl _ _ _ _ h1 (by omega) nr hy hle) h57 (oR c1 ho) (by rw [eM]; exact hN.thrown 0) (by rw [eM]; rfl)
      · have cX := c_X_inside_c hl (D := D) (cA := cA) (b := b) (n := n) (xo := 0) (ξ := ξ) (β := β) (ρ := ρ) (u := u) (v := w) (r := c) (i0 := i) (k0 := kd) (t0 := t) (f0 := fo) (ζ := ζ) (g := g) (w := ws) (ovM 28 σ α h0) (by omega) c2 j (by omega) j1 hρ (nI e) a3 y1 (fun q => z (hsg.mp q))
        rw [hE'] at cX
        have eM := minside_t (σ := σ) (α := α) (r := nI j) (k := nI e) (t := 3) (by rw [hb, hb3, nI_clamp (by omega), if_neg (by decide), if_neg z]; rfl) (by decide)
        exact th_v (w_inside_9 hl _ _ (by omega) (ovX_c (xo := 0) (o := 0) rfl) cX) (fun h1 => c_M_inside hl _ _ _ _ h1 (by omega) nr hy hle) h57 ho (by rw [eM]; exact hR.thrown 3) (by rw [eM]; rfl)
