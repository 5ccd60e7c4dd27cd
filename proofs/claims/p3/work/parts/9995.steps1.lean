/-! ===== the calls, one by one: tick, ask, hide, sign, at, wanting, report ===== -/
section RA
variable {lo n : Nat} {ξ : Nat → Int32} {β : Nat → Nat → Int32} {ρ : Nat → Option Nat} {u v : Nat} {h : AH} {σ : Nat → Int32} {α : Nat → Nat → Int32}
theorem Rel.clk (hR : Rel lo n ξ β ρ u v h σ α) : rlC (ξ 1) (σ 1) := by
  obtain ⟨nr, cs, I, K, T, F, Z, G, W, t, rs, qk, ql, h1, h2, h3, h4, h5, h6, h7, h8, h9, h10, h11, h12⟩ := hR
  exact h5
theorem Rel.tp (hR : Rel lo n ξ β ρ u v h σ α) : ∃ t, rlT (ξ 2) (β 4) (σ 16) (α 17) t := by
  obtain ⟨nr, cs, I, K, T, F, Z, G, W, t, rs, qk, ql, h1, h2, h3, h4, h5, h6, h7, h8, h9, h10, h11, h12⟩ := hR
  exact ⟨t, h6⟩
theorem Rel.ak (hR : Rel lo n ξ β ρ u v h σ α) : rlA (β 2) (α 14) ∧ rlH (β 3) (α 15) := by
  obtain ⟨nr, cs, I, K, T, F, Z, G, W, t, rs, qk, ql, h1, h2, h3, h4, h5, h6, h7, h8, h9, h10, h11, h12⟩ := hR
  exact ⟨h7, h8⟩
theorem Rel.kk (hR : Rel lo n ξ β ρ u v h σ α) : ∃ q, rlK (ξ 8) (β 21) (β 22) (σ 34) (α 35) (α 36) q := by
  obtain ⟨nr, cs, I, K, T, F, Z, G, W, t, rs, qk, ql, h1, h2, h3, h4, h5, h6, h7, h8, h9, h10, h11, h12⟩ := hR
  exact ⟨qk, h9⟩
theorem Rel.ll (hR : Rel lo n ξ β ρ u v h σ α) : ∃ q, rlL (ξ 10) (β 27) (σ 37) (α 38) q := by
  obtain ⟨nr, cs, I, K, T, F, Z, G, W, t, rs, qk, ql, h1, h2, h3, h4, h5, h6, h7, h8, h9, h10, h11, h12⟩ := hR
  exact ⟨ql, h10⟩
theorem Rel.bb (hR : Rel lo n ξ β ρ u v h σ α) : rlB (α 10) ∧ rlB (α 11) ∧ rlB (α 12) ∧ rlB (α 14) ∧ rlB (α 15) := by
  obtain ⟨nr, cs, I, K, T, F, Z, G, W, t, rs, qk, ql, h1, h2, h3, h4, h5, h6, h7, h8, h9, h10, h11, h12⟩ := hR
  exact h12
end RA
theorem outX {ξ : Nat → Int32} {β : Nat → Nat → Int32} {ρ : Nat → Option Nat} {u w : Nat} {σ : Nat → Int32} {α : Nat → Nat → Int32} {h0 : AH} {f : Nat → Int64} (ho : h0 56 = oc f) : ovX 0 ξ β ρ u w (ovM 28 σ α h0) 56 = oc f := by
  rw [ovX_n (Or.inr (by omega)), ovM_n (Or.inr (by omega)), ho]
theorem s_tick {l : Launch} (hl : l.stackTraces = false) {D : va_G} {cA : Nat → ClassId} {b n : Nat} {h : AH} (hS : St n h) (x : Int32) : Cn l D cA b y_L_tick k_L_tick 7 97 1 6 [.ref 0, .int x, .ref 56] n h (Wq l D cA b y_M_tick k_M_tick 1 15 [.ref 28, .int x]) := by
  obtain ⟨k0, f0, ξ, β, ρ, u, w, σ, α, h0, h57, rfl, ho, hR, -⟩ := hS
  rcases tick_c hR.clk x with ⟨ha, hb⟩ | ⟨a1, a2, a3, b1, b2, e, hc'⟩
  · exact th_q (w_tick_8 hl _ (by omega) (ovX_c (xo := 0) (o := 0) rfl) (c_X_tick_t hl _ (by omega) _ ha)) (fun h1 => c_M_tick hl _ _ _ h1 (by omega)) h57 ho (by decide) (by rw [mtick_1 hb]; exact hR.thrown 1) (by rw [mtick_1 hb]; rfl)
  · exact rt_q (w_tick_r hl _ (by omega) (ovX_c (xo := 0) (o := 0) rfl) (c_X_tick_r hl _ (by omega) _ a1 a2 a3) (by omega) (outX ho)) (fun h1 => c_M_tick hl _ _ _ h1 (by omega)) h57 (by rw [mtick_2 b1 b2]; exact (hR.thrown 0).now hc') (by rw [mtick_2 b1 b2]; rfl) (by rw [mtick_2 b1 b2, fch0, e])
theorem mask_1 {σ : Nat → Int32} {α : Nat → Nat → Int32} {k f on : Int32} (h : inI k 0 4 = 0 ∨ inI f 0 19 = 0) : mask σ α k f on = (upd σ 0 1, α) := by
  unfold mask kn2
  rcases h with z | z
  · rw [if_pos z]; rfl
  · rw [z]
    by_cases y : inI k 0 4 = 0
    · rw [if_pos y]; rfl
    · rw [if_neg y]; rfl
theorem mask_2 {σ : Nat → Int32} {α : Nat → Nat → Int32} {k f : Nat} {on : Int32} (h1 : inI (nI k) 0 4 = 1) (h2 : inI (nI f) 0 19 = 1) (hk : k < 5) (hf : f < 20) : mask σ α (nI k) (nI f) on = (upd σ 0 0, upa α 14 (upd (α 14) (20 * k + f) (vp_nar .boolean on))) := by
  unfold mask
  rw [h1, h2, e20, nI_clamp (by omega)]
  rfl
theorem mhide_1 {σ : Nat → Int32} {α : Nat → Nat → Int32} {k f on : Int32} (h : inI k 0 19 = 0 ∨ inI f 0 19 = 0) : mhide σ α k f on = (upd σ 0 1, α) := by
  unfold mhide kn2
  rcases h with z | z
  · rw [if_pos z]; rfl
  · rw [z]
    by_cases y : inI k 0 19 = 0
    · rw [if_pos y]; rfl
    · rw [if_neg y]; rfl
theorem mhide_2 {σ : Nat → Int32} {α : Nat → Nat → Int32} {k f : Nat} {on : Int32} (h1 : inI (nI k) 0 19 = 1) (h2 : inI (nI f) 0 19 = 1) (hk : k < 20) (hf : f < 20) : mhide σ α (nI k) (nI f) on = (upd σ 0 0, upa α 15 (upd (α 15) (20 * k + f) (vp_nar .boolean on))) := by
  unfold mhide
  rw [h1, h2, e20, nI_clamp (by omega)]
  rfl
theorem s_ask {l : Launch} (hl : l.stackTraces = false) {D : va_G} {cA : Nat → ClassId} {b n : Nat} {h : AH} (hS : St n h) (k f on : Int32) (hon : on = 0 ∨ on = 1) : Cn l D cA b y_L_ask k_L_ask 8 109 1 6 [.ref 0, .int k, .int f, .int on] n h (Wv l D cA b y_M_ask k_M_ask 2 27 [.ref 28, .int k, .int f, .int on]) := by
  obtain ⟨k0, f0, ξ, β, ρ, u, w, σ, α, h0, h57, rfl, ho, hR, -⟩ := hS
  rcases fld_c 4 (by omega) k with ⟨ha, hb⟩ | ⟨k, hk, rfl, a1, a2, hb⟩
  · exact th_v (w_ask_7 hl _ _ _ (by omega) (ovX_c (xo := 0) (o := 0) rfl) (c_X_ask_a hl _ (by omega) _ _ _ ha)) (fun h1 => c_M_ask hl _ _ _ _ _ h1 (by omega)) h57 ho (by rw [mask_1 (Or.inl hb)]; exact hR.thrown 1) (by rw [mask_1 (Or.inl hb)]; rfl)
  · rcases fld_c 19 (by omega) f with ⟨ha, hb2⟩ | ⟨f, hf, rfl, a3, a4, hb2⟩
    · exact th_v (w_ask_7 hl _ _ _ (by omega) (ovX_c (xo := 0) (o := 0) rfl) (c_X_ask_b hl _ (by omega) _ _ _ a1 a2 ha)) (fun h1 => c_M_ask hl _ _ _ _ _ h1 (by omega)) h57 ho (by rw [mask_1 (Or.inr hb2)]; exact hR.thrown 1) (by rw [mask_1 (Or.inr hb2)]; rfl)
    · have c := c_X_ask_r hl (D := D) (cA := cA) (b := b) (n := n) (xo := 0) (ξ := ξ) (β := β) (ρ := ρ) (u := u) (v := w) (ovM 28 σ α h0) (by omega) (nI k) (nI f) on a1 a2 a3 a4 (vp_in_nI (by omega) (by omega))
      rw [nI_clamp (by omega)] at c
      exact rt_v (w_ask_r hl _ _ _ (by omega) (ovX_c (xo := 0) (o := 0) rfl) c) (fun h1 => c_M_ask hl _ _ _ _ _ h1 (by omega)) h57 ho (by rw [mask_2 hb hb2 (by omega) (by omega)]; exact (hR.thrown 0).ask (by omega) (by omega) hon) (by rw [mask_2 hb hb2 (by omega) (by omega)]; rfl)
theorem s_hide {l : Launch} (hl : l.stackTraces = false) {D : va_G} {cA : Nat → ClassId} {b n : Nat} {h : AH} (hS : St n h) (k f on : Int32) (hon : on = 0 ∨ on = 1) : Cn l D cA b y_L_hide k_L_hide 8 109 1 6 [.ref 0, .int k, .int f, .int on] n h (Wv l D cA b y_M_hide k_M_hide 2 27 [.ref 28, .int k, .int f, .int on]) := by
  obtain ⟨k0, f0, ξ, β, ρ, u, w, σ, α, h0, h57, rfl, ho, hR, -⟩ := hS
  rcases fld_c 19 (by omega) k with ⟨ha, hb⟩ | ⟨k, hk, rfl, a1, a2, hb⟩
  · exact th_v (w_hide_7 hl _ _ _ (by omega) (ovX_c (xo := 0) (o := 0) rfl) (c_X_hide_a hl _ (by omega) _ _ _ ha)) (fun h1 => c_M_hide hl _ _ _ _ _ h1 (by omega)) h57 ho (by rw [mhide_1 (Or.inl hb)]; exact hR.thrown 1) (by rw [mhide_1 (Or.inl hb)]; rfl)
  · rcases fld_c 19 (by omega) f with ⟨ha, hb2⟩ | ⟨f, hf, rfl, a3, a4, hb2⟩
    · exact th_v (w_hide_7 hl _ _ _ (by omega) (ovX_c (xo := 0) (o := 0) rfl) (c_X_hide_b hl _ (by omega) _ _ _ a1 a2 ha)) (fun h1 => c_M_hide hl _ _ _ _ _ h1 (by omega)) h57 ho (by rw [mhide_1 (Or.inr hb2)]; exact hR.thrown 1) (by rw [mhide_1 (Or.inr hb2)]; rfl)
    · have c := c_X_hide_r hl (D := D) (cA := cA) (b := b) (n := n) (xo := 0) (ξ := ξ) (β := β) (ρ := ρ) (u := u) (v := w) (ovM 28 σ α h0) (by omega) (nI k) (nI f) on a1 a2 a3 a4 (vp_in_nI (by omega) (by omega))
      rw [nI_clamp (by omega)] at c
      exact rt_v (w_hide_r hl _ _ _ (by omega) (ovX_c (xo := 0) (o := 0) rfl) c) (fun h1 => c_M_hide hl _ _ _ _ _ h1 (by omega)) h57 ho (by rw [mhide_2 hb hb2 (by omega) (by omega)]; exact (hR.thrown 0).hide (by omega) (by omega) hon) (by rw [mhide_2 hb hb2 (by omega) (by omega)]; rfl)
theorem s_sign {l : Launch} (hl : l.stackTraces = false) {D : va_G} {cA : Nat → ClassId} {b n : Nat} {h : AH} (hS : St n h) (B : Int64) (x : Int32) : Cn l D cA b y_L_sign k_L_sign 7 100 1 6 [.ref 0, .long B, .int x, .ref 56] n h (Wq l D cA b y_M_sign k_M_sign 1 15 [.ref 28, .long B, .int x]) := by
  obtain ⟨k0, f0, ξ, β, ρ, u, w, σ, α, h0, h57, rfl, ho, hR, -⟩ := hS
  by_cases hx : x < 1 ∨ ¬ x ≤ 8
  · exact th_q (w_sign_8 hl _ _ (by omega) (ovX_c (xo := 0) (o := 0) rfl) (c_X_sign_t8 hl _ (by omega) _ _ hx)) (fun h1 => c_M_sign_1 hl _ _ _ _ h1 (by omega) hx) h57 ho (by decide) (hR.thrown 1) rfl
  · have x1 : ¬ x < 1 := fun z => hx (Or.inl z)
    have x8 : x ≤ 8 := Decidable.not_not.mp (fun z => hx (Or.inr z))
    have x0 : ¬ x < 0 := fun z => x1 (Int32.lt_trans z (by decide))
    obtain ⟨k, hk8, rfl⟩ := nI_of2 (n := 8) (show (8 : Int32).toInt = (8 : Nat) by decide) x0 x8
    have hk1 : 1 ≤ k := by
      rcases Nat.eq_zero_or_pos k with z | z
      · subst z
        exact absurd (show nI 0 < 1 by decide) x1
      · exact z
    obtain ⟨t, ht⟩ := hR.tp
    obtain ⟨t1, t2, t3, -⟩ := id ht
    by_cases hs : t + k ≤ 300
    · exact rt_q (w_sign_r hl _ _ (by omega) (ovX_c (xo := 0) (o := 0) rfl) (c_X_sign_r hl _ (by omega) _ k t t2 hk1 hk8 hs) (by omega) (outX ho)) (fun h1 => c_M_sign_r hl _ k t _ _ h1 (by omega) t3 hk1 hk8 hs) h57 ((hR.thrown 0).tape (rlT_sign B ht hk8 hs)) rfl (fch0 _ _)
    · have e1 : ¬ nI t + nI k ≤ 300 := by
        rw [nI_add]
        exact nI_ge (a := 300) (by omega) (by omega)
      exact th_q (w_sign_10 hl _ _ (by omega) (ovX_c (xo := 0) (o := 0) rfl) (c_X_sign_t10 hl _ (by omega) _ _ x1 x8 (by rw [t2]; exact e1))) (fun h1 => c_M_sign_2 hl _ _ _ _ h1 (by omega) x1 x8 (by rw [t3]; exact e1)) h57 ho (by decide) (hR.thrown 2) rfl
theorem mat_1 {σ : Nat → Int32} {α : Nat → Nat → Int32} {i : Int32} (h : i < 0) : mat σ α i = (0, upd σ 0 1) := if_pos h
theorem mat_2 {σ : Nat → Int32} {α : Nat → Nat → Int32} {i : Int32} (h : ¬ i < 0) (h2 : σ 37 ≤ i) : mat σ α i = (-1, upd σ 0 0) := by
  unfold mat
  rw [if_neg h, if_pos h2]
theorem mat_3 {σ : Nat → Int32} {α : Nat → Nat → Int32} {i : Int32} (h : ¬ i < 0) (h2 : ¬ σ 37 ≤ i) : mat σ α i = (α 38 i.toNatClampNeg, upd σ 0 0) := by
  unfold mat
  rw [if_neg h, if_neg h2]
theorem s_at {l : Launch} (hl : l.stackTraces = false) {D : va_G} {cA : Nat → ClassId} {b n : Nat} {h : AH} (hS : St n h) (x : Int32) : Cn l D cA b y_L_at k_L_at 7 97 1 6 [.ref 0, .int x, .ref 56] n h (Wq l D cA b y_M_at k_M_at 1 15 [.ref 28, .int x]) := by
  obtain ⟨k0, f0, ξ, β, ρ, u, w, σ, α, h0, h57, rfl, ho, hR, -⟩ := hS
  obtain ⟨q, q1, q2, q3, q4⟩ := hR.ll
  have hcd : ¬ x < 0 → ¬ σ 37 ≤ x → ∃ j : Nat, j < q.length ∧ x = nI j := fun z1 z2 => by
    obtain ⟨j, hj, rfl⟩ := nI_of z1
    refine ⟨j, ?_, rfl⟩
    rw [q3] at z2
    by_cases e : j < q.length
    · exact e
    · exact absurd (nI_le (by omega) hj) z2
  have cM : ∀ h1, Cn l D cA b y_M_at k_M_at 1 15 0 0 [.ref 28, .int x] n (ovM 28 σ α h1) (Re (some (.int (mat σ α x).1)) n (ovM 28 (mat σ α x).2 α h1)) := fun h1 => c_M_at hl _ _ _ h1 (by omega) (fun z1 z2 => by
    obtain ⟨j, hj, rfl⟩ := hcd z1 z2
    exact vp_in_nI (by omega) (by omega))
  by_cases hx : x < 0
  · exact th_q (w_at_8 hl _ (by omega) (ovX_c (xo := 0) (o := 0) rfl) (c_X_at_t hl _ (by omega) _ hx)) (fun h1 => c_M_at hl _ _ _ h1 (by omega) (fun z => absurd hx z)) h57 ho (by decide) (by rw [mat_1 hx]; exact hR.thrown 1) (by rw [mat_1 hx]; rfl)
  · by_cases hy : σ 37 ≤ x
    · exact rt_q (w_at_r hl _ (by omega) (ovX_c (xo := 0) (o := 0) rfl) (c_X_at_n hl _ (by omega) _ (Int32.not_lt.mp hx) (by rw [q2, ← q3]; exact hy)) (by omega) (outX ho)) cM h57 (by rw [mat_2 hx hy]; exact hR.thrown 0) (by rw [mat_2 hx hy]; rfl) (by rw [mat_2 hx hy]; exact fch0 _ _)
    · obtain ⟨j, hj, rfl⟩ := hcd hx hy
      have hz := q4 j q[j] (List.getElem?_eq_getElem hj)
      exact rt_q (w_at_r hl _ (by omega) (ovX_c (xo := 0) (o := 0) rfl) (c_X_at_r hl _ (by omega) _ (Int32.not_lt.mp hx) (by rw [q2, ← q3]; exact hy) (vp_in_nI (by omega) (by omega))) (by omega) (outX ho)) cM h57 (by rw [mat_3 hx hy]; exact hR.thrown 0) (by rw [mat_3 hx hy]; rfl) (by rw [mat_3 hx hy, fch0]; show (β 27 (nI j).toNatClampNeg).toInt64 = (α 38 (nI j).toNatClampNeg).toInt64; rw [nI_clamp (by omega), hz.1, hz.2])
