/-! ===== the calls: wanting, report, value, field, fault, inside ===== -/
/-- as rep_c, with another bound -/
theorem rep_g {t y : Int32} {nr N : Nat} (ht : t = nI nr) (hy : y = nI nr) (hle : nr ≤ N) (hN : N < 2 ^ 30) (r : Int32) : ((r < 0 ∨ ¬ r < t) ∧ inI r 0 (y - 1) = 0) ∨ ∃ j : Nat, j < nr ∧ r = nI j ∧ ¬ nI j < 0 ∧ nI j < t ∧ inI r 0 (y - 1) = 1 := by
  have e : (nI nr - 1 : Int32).toInt = (nr : Int) - 1 := by
    rw [Int32.toInt_sub, nI_toInt (by omega), show (1 : Int32).toInt = 1 by decide]
    apply Int.bmod_eq_of_le <;> omega
  by_cases h0 : r < 0
  · exact Or.inl ⟨Or.inl h0, in_bad (Or.inl h0)⟩
  · obtain ⟨j, hj, rfl⟩ := nI_of h0
    by_cases h1 : j < nr
    · refine Or.inr ⟨j, h1, rfl, h0, by rw [ht]; exact nI_lt h1 (by omega), in_ok h0 ?_⟩
      rw [hy, Int32.le_iff_toInt_le, nI_toInt hj, e]
      omega
    · refine Or.inl ⟨Or.inr ?_, in_bad (Or.inr ?_)⟩
      · rw [ht]
        exact fun z => absurd (nI_le (a := nr) (b := j) (by omega) hj) (Int32.not_le.mpr z)
      · rw [hy]
        intro z
        rw [Int32.le_iff_toInt_le, nI_toInt hj, e] at z
        omega
theorem kn2_0 {a c : Int32} (h : a = 0 ∨ c = 0) : kn2 a c = 0 := by
  unfold kn2
  rcases h with z | z
  · rw [if_pos z]
  · by_cases y : a = 0
    · rw [if_pos y]
    · rw [if_neg y, if_pos z]
theorem kn2_1 {a c : Int32} (h1 : a = 1) (h2 : c = 1) : kn2 a c = 1 := by
  rw [h1, h2]
  rfl
theorem mwanting_1 {σ : Nat → Int32} {α : Nat → Nat → Int32} {i w : Int32} (h : inI i 0 (σ 34 - 1) = 0 ∨ inI w 0 1 = 0) : mwanting σ α i w = (0, upd σ 0 1) := if_pos (kn2_0 h)
theorem mwanting_2 {σ : Nat → Int32} {α : Nat → Nat → Int32} {i w : Int32} (h1 : inI i 0 (σ 34 - 1) = 1) (h2 : inI w 0 1 = 1) : mwanting σ α i w = (if w = 0 then α 35 i.toNatClampNeg else α 36 i.toNatClampNeg, upd σ 0 0) := if_neg (by rw [kn2_1 h1 h2]; decide)
theorem s_wanting {l : Launch} (hl : l.stackTraces = false) {D : va_G} {cA : Nat → ClassId} {b n : Nat} {h : AH} (hS : St n h) (x y : Int32) : Cn l D cA b y_L_wanting k_L_wanting 7 98 1 6 [.ref 0, .int x, .int y, .ref 56] n h (Wq l D cA b y_M_wanting k_M_wanting 1 15 [.ref 28, .int x, .int y]) := by
  obtain ⟨k0, f0, ξ, β, ρ, u, w, σ, α, h0, h57, rfl, ho, hR, -⟩ := hS
  obtain ⟨q, q1, q2, q3, q4⟩ := hR.kk
  rcases rep_g q2 q3 q1 (by omega) x with ⟨ha, hb⟩ | ⟨j, hj, rfl, j0, j1, hb⟩
  · exact th_q (w_wanting_7 hl _ _ (by omega) (ovX_c (xo := 0) (o := 0) rfl) (c_X_wanting_u hl _ (by omega) _ _ ha)) (fun h1 => c_M_wanting hl _ _ _ _ h1 (by omega) _ q3 q1) h57 ho (by decide) (by rw [mwanting_1 (Or.inl hb)]; exact hR.thrown 1) (by rw [mwanting_1 (Or.inl hb)]; rfl)
  · have hz := q4 j q[j] (List.getElem?_eq_getElem hj)
    by_cases y0 : y = 0
    · subst y0
      exact rt_q (w_wanting_r hl _ _ (by omega) (ovX_c (xo := 0) (o := 0) rfl) (c_X_wanting_0 hl _ (by omega) _ j0 j1 (vp_in_nI (by omega) (by omega))) (by omega) (outX ho)) (fun h1 => c_M_wanting hl _ _ _ _ h1 (by omega) _ q3 q1) h57 (by rw [mwanting_2 hb (by decide)]; exact hR.thrown 0) (by rw [mwanting_2 hb (by decide)]; rfl) (by rw [mwanting_2 hb (by decide), fch0]; show (β 21 (nI j).toNatClampNeg).toInt64 = (α 35 (nI j).toNatClampNeg).toInt64; rw [nI_clamp (by omega), hz.1, hz.2.2.1])
    · by_cases y1 : y = 1
      · subst y1
        exact rt_q (w_wanting_r hl _ _ (by omega) (ovX_c (xo := 0) (o := 0) rfl) (c_X_wanting_1 hl _ (by omega) _ j0 j1 (vp_in_nI (by omega) (by omega))) (by omega) (outX ho)) (fun h1 => c_M_wanting hl _ _ _ _ h1 (by omega) _ q3 q1) h57 (by rw [mwanting_2 hb (by decide)]; exact hR.thrown 0) (by rw [mwanting_2 hb (by decide)]; rfl) (by rw [mwanting_2 hb (by decide), fch0]; show (β 22 (nI j).toNatClampNeg).toInt64 = (α 36 (nI j).toNatClampNeg).toInt64; rw [nI_clamp (by omega), hz.2.1, hz.2.2.2])
      · have hy : inI y 0 1 = 0 := by
          rcases fld_c 1 (by omega) y with ⟨-, z⟩ | ⟨e, he, rfl, -, -, -⟩
          · exact z
          · rcases (show e = 0 ∨ e = 1 by omega) with rfl | rfl
            · exact absurd rfl y0
            · exact absurd rfl y1
        exact th_q (w_wanting_7 hl _ _ (by omega) (ovX_c (xo := 0) (o := 0) rfl) (c_X_wanting_b hl _ (by omega) _ _ j0 j1 y0 y1)) (fun h1 => c_M_wanting hl _ _ _ _ h1 (by omega) _ q3 q1) h57 ho (by decide) (by rw [mwanting_1 (Or.inr hy)]; exact hR.thrown 1) (by rw [mwanting_1 (Or.inr hy)]; rfl)
theorem mreport_t {σ : Nat → Int32} {α : Nat → Nat → Int32} {i k t : Int32} (h : gsI (inI k 0 4) (inI i 0 9999) (if 30 ≤ σ 2 then 0 else 1) = t) (ht : bz t = 0) : mreport σ α i k = (0, upd σ 0 t, α) := by
  subst h
  exact if_pos ht
theorem mreport_r {σ : Nat → Int32} {α : Nat → Nat → Int32} {i k : Int32} (h : gsI (inI k 0 4) (inI i 0 9999) (if 30 ≤ σ 2 then 0 else 1) = 0) : mreport σ α i k = (σ 2 + 1 - 1, mmakes (upd σ 0 0) α i k (-1)) := by
  have e : mreport σ α i k = (σ 2 + 1 - 1, mmakes (upd σ 0 (gsI (inI k 0 4) (inI i 0 9999) (if 30 ≤ σ 2 then 0 else 1))) α i k (-1)) := if_neg (by rw [h]; decide)
  rw [e, h]
theorem s_report {l : Launch} (hl : l.stackTraces = false) {D : va_G} {cA : Nat → ClassId} {b n : Nat} {h : AH} (hS : St n h) (i k : Int32) : Cn l D cA b y_L_report k_L_report 8 110 3 34 [.ref 0, .int i, .int k, .ref 56] n h (Wq l D cA b y_M_report k_M_report 1 16 [.ref 28, .int i, .int k]) := by
  obtain ⟨k0, f0, ξ, β, ρ, u, w, σ, α, h0, h57, rfl, ho, hR, -⟩ := hS
  obtain ⟨nr, hle, hx, hy⟩ := hR.cnt
  have hrm : ¬ 30 ≤ σ 2 → vp_in (σ 2) 30 := fun z => by
    rw [hy] at z ⊢
    by_cases e : nr = 30
    · subst e
      exact absurd (by decide) z
    · exact vp_in_nI (by omega) (by omega)
  rcases fld_c 4 (by omega) k with ⟨ha, hb⟩ | ⟨k, hk, rfl, a1, a2, hb⟩
  · have e := mreport_t (σ := σ) (α := α) (i := i) (k := k) (t := 1) (by rw [show inI k 0 4 = 0 from hb]; rfl) (by decide)
    exact th_q (w_report_7 hl _ _ (by omega) (ovX_c (xo := 0) (o := 0) rfl) (c_X_report_t7 hl _ (by omega) _ _ ha)) (fun h1 => c_M_report hl _ _ _ _ h1 (by omega) hrm) h57 ho (by decide) (by rw [e]; exact hR.thrown 1) (by rw [e]; rfl)
  · have hb' : inI (nI k) 0 4 = 1 := hb
    rcases fld_c 9999 (by omega) i with ⟨hi, hb2⟩ | ⟨i, hi, rfl, a3, a4, hb2⟩
    · have e := mreport_t (σ := σ) (α := α) (i := i) (k := nI k) (t := 2) (by rw [hb', show inI i 0 9999 = 0 from hb2]; rfl) (by decide)
      have hi' : i < 0 ∨ ¬ i ≤ 9999 := hi.imp id (fun z q => z (by
        have h1 := Int32.le_iff_toInt_le.mp q
        rw [Int32.lt_iff_toInt_lt]
        have h2 : (9999 : Int32).toInt = 9999 := by decide
        have h3 : (nI (9999 + 1)).toInt = 10000 := by decide
        omega))
      exact th_q (w_report_8 hl _ _ (by omega) (ovX_c (xo := 0) (o := 0) rfl) (c_X_report_t8 hl _ (by omega) _ _ a1 a2 hi')) (fun h1 => c_M_report hl _ _ _ _ h1 (by omega) hrm) h57 ho (by decide) (by rw [e]; exact hR.thrown 2) (by rw [e]; rfl)
    · have hb3 : inI (nI i) 0 9999 = 1 := hb2
      have i1 : nI i ≤ 9999 := nI_le (b := 9999) (by omega) (by omega)
      by_cases e30 : nr = 30
      · have e2 : (if (30 : Int32) ≤ σ 2 then (0 : Int32) else 1) = 0 := by rw [hy, e30]; decide
        have e := mreport_t (σ := σ) (α := α) (i := nI i) (k := nI k) (t := 3) (by rw [hb', hb3, e2]; rfl) (by decide)
        exact th_q (w_report_10 hl _ _ (by omega) (ovX_c (xo := 0) (o := 0) rfl) (c_X_report_t10 hl _ (by omega) _ _ a1 a2 a3 i1 (by rw [hx, e30]; decide))) (fun h1 => c_M_report hl _ _ _ _ h1 (by omega) hrm) h57 ho (by decide) (by rw [e]; exact hR.thrown 3) (by rw [e]; rfl)
      · have e2 : (if (30 : Int32) ≤ σ 2 then (0 : Int32) else 1) = 1 := if_neg (by rw [hy]; exact nI_ge (b := 30) (by omega) (by omega))
        have e := mreport_r (σ := σ) (α := α) (i := nI i) (k := nI k) (by rw [hb', hb3, e2]; rfl)
        have hlt : ξ 0 < 30 := by rw [hx]; exact nI_lt (b := 30) (by omega) (by omega)
        have c := c_X_report_r hl (D := D) (cA := cA) (b := b) (n := n) (xo := 0) (ξ := ξ) (β := β) (ρ := ρ) (u := u) (v := w) (ovM 28 σ α h0) (by omega) (nI i) (nI k) a1 a2 a3 i1 hlt (by rw [hx]; exact vp_in_nI (by omega) (by omega))
        rw [ovM_Lc (by omega)] at c
        have hM := (hR.thrown 0).make h57 hlt (show i ≤ 9999 by omega) (show k < 5 by omega)
        exact rt_q (w_report_r hl _ _ (by omega) (ovX_c (xo := 0) (o := 0) rfl) c (by omega) (outX (by rw [ovL_n (Or.inl (by omega))]; exact ho))) (fun h1 => c_M_report hl _ _ _ _ h1 (by omega) hrm) (by omega) (by rw [e]; exact hM) (by rw [e]; rfl) (by rw [e, fch0, hx, hy]; show _ = (nI nr + 1 - 1).toInt64; rw [Int32.add_sub_cancel])
section RW
variable {lo n : Nat} {ξ : Nat → Int32} {β : Nat → Nat → Int32} {ρ : Nat → Option Nat} {u v : Nat} {h : AH} {σ : Nat → Int32} {α : Nat → Nat → Int32}
theorem xhs_c {A : Int32} {e : Nat} {P : Prop} [Decidable P] (h : xhs A (nI e) = 1 ↔ ¬ P) (he : e < 32) : xhs A (nI e) = 0 ↔ P := by
  rcases xhs_01 A he with z | z
  · exact ⟨fun _ => Decidable.not_not.mp (fun q => by have := h.mpr q; rw [z] at this; exact absurd this (by decide)), fun _ => z⟩
  · exact ⟨fun q => (by rw [z] at q; exact absurd q (by decide)), fun q => absurd q (h.mp z)⟩
end RW
theorem s_value {l : Launch} (hl : l.stackTraces = false) {D : va_G} {cA : Nat → ClassId} {b n : Nat} {h : AH} (hS : St n h) (r f : Int32) : Cn l D cA b y_L_value k_L_value 8 113 1 6 [.ref 0, .int r, .int f, .ref 56] n h (Wq l D cA b y_M_value k_M_value 2 27 [.ref 28, .int r, .int f]) := by
  obtain ⟨k0, f0, ξ, β, ρ, u, w, σ, α, h0, h57, rfl, ho, hR, -⟩ := hS
  obtain ⟨nr, hle, hx, hy⟩ := hR.cnt
  rcases rep_c hx hy hle r with ⟨ha, hb⟩ | ⟨j, hj, rfl, j1, hb⟩
  · exact th_q (w_value_7 hl _ _ (by omega) (ovX_c (xo := 0) (o := 0) rfl) (c_X_value_u hl _ (by omega) _ _ ha)) (fun h1 => c_M_value hl _ _ _ _ h1 (by omega) nr hy hle) h57 ho (by decide) (by rw [mvalue_1 (Or.inl hb)]; exact hR.thrown 1) (by rw [mvalue_1 (Or.inl hb)]; rfl)
  · obtain ⟨c, i, kd, t, fo, ζ, g, ws, hρ, c1, c2, hE, hQ, -⟩ := hR.rep (j := j) (by omega) j1
    have hE' := repM (σ := σ) (α := α) c1 hE
    rcases fld_c 19 (by omega) f with ⟨ha, hb2⟩ | ⟨e, he, rfl, a3, a4, hb2⟩
    · have cX := c_X_value_a hl (D := D) (cA := cA) (b := b) (n := n) (xo := 0) (ξ := ξ) (β := β) (ρ := ρ) (u := u) (v := w) (r := c) (i0 := i) (k0 := kd) (t0 := t) (f0 := fo) (ζ := ζ) (g := g) (w := ws) (ovM 28 σ α h0) (by omega) c2 j (by omega) j1 hρ f ha
      rw [hE'] at cX
      exact th_q (w_value_7 hl _ _ (by omega) (ovX_c (xo := 0) (o := 0) rfl) cX) (fun h1 => c_M_value hl _ _ _ _ h1 (by omega) nr hy hle) h57 ho (by decide) (by rw [mvalue_1 (Or.inr hb2)]; exact hR.thrown 1) (by rw [mvalue_1 (Or.inr hb2)]; rfl)
    · have hf := xhs_c (hQ.2.2.2.2.2.2.1 e (by omega)) (by omega)
      by_cases y : α 10 (20 * j + e) = 0
      · have cX := c_X_value_b hl (D := D) (cA := cA) (b := b) (n := n) (xo := 0) (ξ := ξ) (β := β) (ρ := ρ) (u := u) (v := w) (r := c) (i0 := i) (k0 := kd) (t0 := t) (f0 := fo) (ζ := ζ) (g := g) (w := ws) (ovM 28 σ α h0) (by omega) c2 j (by omega) j1 hρ (nI e) a3 a4 (hf.mpr y)
        rw [hE'] at cX
        have eM := mvalue_2 (σ := σ) (α := α) hb hb2 (by omega) (by omega) y
        exact th_q (w_value_9 hl _ _ (by omega) (ovX_c (xo := 0) (o := 0) rfl) cX) (fun h1 => c_M_value hl _ _ _ _ h1 (by omega) nr hy hle) h57 ho (by decide) (by rw [eM]; exact hR.thrown 2) (by rw [eM]; rfl)
      · have cX := c_X_value_r hl (D := D) (cA := cA) (b := b) (n := n) (xo := 0) (ξ := ξ) (β := β) (ρ := ρ) (u := u) (v := w) (r := c) (i0 := i) (k0 := kd) (t0 := t) (f0 := fo) (ζ := ζ) (g := g) (w := ws) (ovM 28 σ α h0) (by omega) c2 j (by omega) j1 hρ (nI e) a3 a4 (fun z => y (hf.mp z)) (vp_in_nI (by omega) (by omega))
        rw [hE', nI_clamp (by omega)] at cX
        have eM := mvalue_3 (σ := σ) (α := α) hb hb2 (by omega) (by omega) y
        exact rt_q (w_value_r hl _ _ (by omega) (ovX_c (xo := 0) (o := 0) rfl) cX (by omega) (outX ho)) (fun h1 => c_M_value hl _ _ _ _ h1 (by omega) nr hy hle) h57 (by rw [eM]; exact hR.thrown 0) (by rw [eM]; rfl) (by rw [eM, fch0, (hQ.2.2.2.2.2.2.2.2.2 e (by omega)).1])
theorem vok_c (v : Int32) : ((v < -99999 ∨ ¬ v ≤ 99999) ∧ inI v (-99999) 99999 = 0) ∨ (¬ v < -99999 ∧ v ≤ 99999 ∧ inI v (-99999) 99999 = 1 ∧ vok v) := by
  by_cases h0 : v < -99999
  · exact Or.inl ⟨Or.inl h0, in_bad (Or.inl h0)⟩
  · by_cases h1 : v ≤ 99999
    · refine Or.inr ⟨h0, h1, in_ok h0 h1, ?_⟩
      have a1 := Int32.le_iff_toInt_le.mp (Int32.not_lt.mp h0)
      have a2 := Int32.le_iff_toInt_le.mp h1
      rw [show (-99999 : Int32).toInt = -99999 by decide] at a1
      rw [show (99999 : Int32).toInt = 99999 by decide] at a2
      by_cases z : v < 0
      · have a3 := Int32.lt_iff_toInt_lt.mp z
        rw [show (0 : Int32).toInt = 0 by decide] at a3
        refine Or.inr ⟨(-v.toInt).toNat, by omega, by omega, ?_⟩
        apply Int32.toInt.inj
        rw [Int32.toInt_neg, nI_toInt (by omega)]
        have : ((-v.toInt).toNat : Int) = -v.toInt := by omega
        rw [this, Int.neg_neg]
        exact (Int.bmod_eq_of_le (by omega) (by omega)).symm
      · obtain ⟨k, hk, rfl⟩ := nI_of z
        rw [nI_toInt hk] at a2
        exact Or.inl ⟨k, by omega, rfl⟩
    · exact Or.inl ⟨Or.inr h1, in_bad (Or.inr h1)⟩
theorem bl_upd {f : Nat → Int32} {k : Nat} {x : Int32} (h : rlB f) (hx : vp_nar .boolean x = x) : rlB (upd f k x) := fun j => by
  by_cases e : j = k
  · subst e
    rw [pk_us, hx]
  · rw [pk_un e]
    exact h j
theorem oR {r : Nat} {i k t f : Int32} {ζ g w : Nat → Int32} {h : AH} {fo : Nat → Int64} (hr : 57 ≤ r) (ho : h 56 = oc fo) : ovR r i k t f ζ g w h 56 = oc fo := by
  unfold ovR
  rw [ovL_n (Or.inl (by omega)), ho]
