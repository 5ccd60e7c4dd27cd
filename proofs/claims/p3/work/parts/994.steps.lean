/-! ===== what asks, hides and signs change ===== -/
theorem nb01 {on : Int32} (h : on = 0 ∨ on = 1) : vp_nar .boolean on = on := by
  rcases h with rfl | rfl
  · rfl
  · rfl
theorem rlA_ask {f g : Nat → Int32} {k e : Nat} {on : Int32} (h : rlA f g) (hk : k < 5) (he : e < 20) (ho : on = 0 ∨ on = 1) : rlA (upd f k (xch (f k) (nI e) on)) (upd g (20 * k + e) (vp_nar .boolean on)) := by
  intro k' e' hk' he'
  rw [nb01 ho]
  by_cases e1 : k' = k
  · subst e1
    rw [pk_us, xhs_ch _ _ (by omega) (by omega)]
    by_cases e2 : e' = e
    · subst e2
      rw [if_pos rfl, pk_us]
      rcases ho with rfl | rfl
      · decide
      · decide
    · rw [if_neg e2, pk_un (by omega)]
      exact h k' e' hk' he'
  · rw [pk_un e1, pk_un (by omega)]
    exact h k' e' hk' he'
theorem rlH_hide {f g : Nat → Int32} {q e : Nat} {on : Int32} (h : rlH f g) (hq : q < 20) (he : e < 20) (ho : on = 0 ∨ on = 1) : rlH (upd f q (xch (f q) (nI e) on)) (upd g (20 * e + q) (vp_nar .boolean on)) := by
  intro q' e' hq' he'
  rw [nb01 ho]
  by_cases e1 : q' = q
  · subst e1
    rw [pk_us, xhs_ch _ _ (by omega) (by omega)]
    by_cases e2 : e' = e
    · subst e2
      rw [if_pos rfl, pk_us]
      rcases ho with rfl | rfl
      · decide
      · decide
    · rw [if_neg e2, pk_un (by omega)]
      exact h q' e' hq' he'
  · rw [pk_un e1, pk_un (by omega)]
    exact h q' e' hq' he'
theorem rlB_u {g : Nat → Int32} {k : Nat} {on : Int32} (h : rlB g) (ho : on = 0 ∨ on = 1) : rlB (upd g k (vp_nar .boolean on)) := fun j => by
  by_cases e : j = k
  · subst e
    rw [pk_us, nb01 ho, nb01 ho]
  · rw [pk_un e]
    exact h j
theorem rlT_sign {x y : Int32} {f g : Nat → Int32} {t k : Nat} (B : Int64) (h : rlT x f y g t) (hk : k ≤ 8) (ht : t + k ≤ 300) : rlT (nI (t + k)) (xsl B k t f) (nI (t + k)) (msl B k t g) (t + k) :=
  ⟨ht, rfl, rfl, sl_bre B k t f g hk h.2.2.2⟩
theorem Rel.ask {lo n : Nat} {ξ : Nat → Int32} {β : Nat → Nat → Int32} {ρ : Nat → Option Nat} {u v : Nat} {h : AH} {σ : Nat → Int32} {α : Nat → Nat → Int32} (hR : Rel lo n ξ β ρ u v h σ α) {k e : Nat} {on : Int32} (hk : k < 5) (he : e < 20) (ho : on = 0 ∨ on = 1) : Rel lo n ξ (upa β 2 (upd (β 2) k (xch (β 2 k) (nI e) on))) ρ u v h σ (upa α 14 (upd (α 14) (20 * k + e) (vp_nar .boolean on))) := by
  have hR' := hR
  obtain ⟨nr, cs, I, K, T, F, Z, G, W, t0, rs, qk, ql, h1, h2, h3, h4, h5, h6, h7, h8, h9, h10, h11, h12⟩ := hR'
  exact hR.asks (rlA_ask h7 hk he ho) (rlB_u h12.2.2.2.1 ho)
theorem Rel.hide {lo n : Nat} {ξ : Nat → Int32} {β : Nat → Nat → Int32} {ρ : Nat → Option Nat} {u v : Nat} {h : AH} {σ : Nat → Int32} {α : Nat → Nat → Int32} (hR : Rel lo n ξ β ρ u v h σ α) {q e : Nat} {on : Int32} (hq : q < 20) (he : e < 20) (ho : on = 0 ∨ on = 1) : Rel lo n ξ (upa β 3 (upd (β 3) q (xch (β 3 q) (nI e) on))) ρ u v h σ (upa α 15 (upd (α 15) (20 * e + q) (vp_nar .boolean on))) := by
  have hR' := hR
  obtain ⟨nr, cs, I, K, T, F, Z, G, W, t0, rs, qk, ql, h1, h2, h3, h4, h5, h6, h7, h8, h9, h10, h11, h12⟩ := hR'
  exact hR.hides (rlH_hide h8 hq he ho) (rlB_u h12.2.2.2.2 ho)
