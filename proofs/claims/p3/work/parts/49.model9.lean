/-! ===== contracts of the reference: reading the text: here, see, isDigit ===== -/
theorem j_h {p : Program} {l : Launch} {e : Env} {R : Room} {s : State} {m : MethodId} {args : Array Value} {below : List Frame} {meth : Method} {c : Code} {D : va_G} {cA : Nat → ClassId} {b nL : Nat} {Q : State → Prop} {n : Nat} {h h' : AH} {kc ks pc : Nat} {L : List (Nat × Value)} {st : List Value} (eh : h = h') (k : J p l e R s m args below meth c D cA b nL Q n h' kc ks pc L st) : J p l e R s m args below meth c D cA b nL Q n h kc ks pc L st := by
  rw [eh]; exact k
theorem upd_self {f : Nat → Int32} {k : Nat} {x : Int32} (hk : f k = x) : upd f k x = f := by
  funext j
  by_cases hj : j = k
  · subst hj; rw [pk_us, hk]
  · rw [pk_un hj]
/-- the byte at a, of t bytes; -1 behind them -/
def hr (g : Nat → Int32) (t a : Nat) : Int32 := if t ≤ a then -1 else g a
/-- past the blanks, from a on -/
def skf (g : Nat → Int32) (t : Nat) : Nat → Nat → Nat
  | 0, a => a
  | k + 1, a => if hr g t a = 32 then skf g t k (a + 1) else a
def skp (g : Nat → Int32) (t a : Nat) : Nat := skf g t (t - a) a
theorem c_M_hereN {l : Launch} (hl : l.stackTraces = false) {D : va_G} {cA : Nat → ClassId} {b n mo : Nat} (σ : Nat → Int32) (α : Nat → Nat → Int32) (h : AH) (hmo : mo + 27 < n) (t a : Nat) (h16 : σ 16 = nI t) (h19 : σ 19 = nI a) (ht : t ≤ 300) (ha : a < 2 ^ 31) : Cn l D cA b y_M_here k_M_here 0 0 0 0 [.ref mo] n (ovM mo σ α h) (Re (some (.int (hr (α 17) t a))) n (ovM mo σ α h)) := by
  have h1 := c_M_here hl (D := D) (cA := cA) (b := b) σ α h hmo (fun q => by
    rw [h16, h19] at q
    have q2 : ¬ t ≤ a := fun z => q (nI_le z (by omega))
    rw [h19]
    exact vp_in_nI (by omega) (by omega))
  have e : (if σ 16 ≤ σ 19 then -1 else α 17 (σ 19).toNatClampNeg) = hr (α 17) t a := by
    rw [h16, h19, nI_clamp ha]
    unfold hr
    by_cases q : t ≤ a
    · rw [if_pos q, if_pos (nI_le q ha)]
    · rw [if_neg q, if_neg (nI_ge (by omega) (by omega))]
  rw [e] at h1
  exact h1
set_option maxHeartbeats 4000000 in
set_option maxRecDepth 100000 in
theorem c_M_see {l : Launch} (hl : l.stackTraces = false) {D : va_G} {cA : Nat → ClassId} {b n mo : Nat} (σ : Nat → Int32) (α : Nat → Nat → Int32) (h : AH) (hmo : mo + 27 < n) (t a : Nat) (h16 : σ 16 = nI t) (h19 : σ 19 = nI a) (ht : t ≤ 300) (hat : a ≤ t) : Cn l D cA b y_M_see k_M_see 1 12 0 0 [.ref mo] n (ovM mo σ α h) (Re (some (.int (hr (α 17) t (skp (α 17) t a)))) n (ovM mo (upd σ 19 (nI (skp (α 17) t a))) α h)) := by
  refine Cn.of (cc := b_M_see) (maxL := 1) (ret := (some .int)) (hh := []) (by decide +kernel) hl (Or.inl ⟨rfl, rfl⟩) (Nat.le_of_ble_eq_true rfl) ?_
  intro p e s m args below meth c C
  have loop : ∀ (k a1 : Nat), a1 + k = t → skf (α 17) t k a1 = skp (α 17) t a → J p l e { frames := 1, cells := 0, slots := 0, locals := 12 } s m args below meth c D cA b 1 (EndQ D cA b s below (Re (some (.int (hr (α 17) t (skp (α 17) t a)))) n (ovM mo (upd σ 19 (nI (skp (α 17) t a))) α h)) 0 0) n (ovM mo (upd σ 19 (nI a1)) α h) 0 0 0 [(0, .ref mo)] [] := by
    intro k
    induction k with
    | zero =>
      intro a1 ha1 hv
      obtain rfl : t = a1 := by omega
      refine j_aload_n C d_M_see_0 rfl rfl ?_
      refine j_callV C d_M_see_1 ml_M_132 mc_M_here in_M_here rfl se_M_here (by omega) (ovM_o _ _ _ _) (c_M_hereN hl _ _ _ hmo t t h16 pk_us ht (by omega)) rfl rfl (Nat.le_of_ble_eq_true rfl) (Nat.le_of_ble_eq_true rfl) (Nat.le_of_ble_eq_true rfl) (Nat.le_of_ble_eq_true rfl) (jk_r ?_)
      refine j_bipush (v := 32) C d_M_see_4 (by decide) ?_
      refine j_icmp_ne (tgt := 22) C d_M_see_6 (by decide) (fun c6 => ?_) (fun c6 => ?_)
      · refine j_aload_n C d_M_see_22 rfl rfl ?_
        refine j_callV C d_M_see_23 ml_M_132 mc_M_here in_M_here rfl se_M_here (by omega) (ovM_o _ _ _ _) (c_M_hereN hl _ _ _ hmo t t h16 pk_us ht (by omega)) rfl rfl (Nat.le_of_ble_eq_true rfl) (Nat.le_of_ble_eq_true rfl) (Nat.le_of_ble_eq_true rfl) (Nat.le_of_ble_eq_true rfl) (jk_r ?_)
        exact j_ireturn C d_M_see_26 rfl (by decide) (by decide) ⟨by rw [← hv]; rfl, rfl, by rw [← hv]; rfl⟩
      · exact absurd c6 (by unfold hr; rw [if_pos (Nat.le_refl _)]; decide)
    | succ k ih =>
      intro a1 ha1 hv
      refine j_aload_n C d_M_see_0 rfl rfl ?_
      refine j_callV C d_M_see_1 ml_M_132 mc_M_here in_M_here rfl se_M_here (by omega) (ovM_o _ _ _ _) (c_M_hereN hl _ _ _ hmo t a1 h16 pk_us ht (by omega)) rfl rfl (Nat.le_of_ble_eq_true rfl) (Nat.le_of_ble_eq_true rfl) (Nat.le_of_ble_eq_true rfl) (Nat.le_of_ble_eq_true rfl) (jk_r ?_)
      refine j_bipush (v := 32) C d_M_see_4 (by decide) ?_
      refine j_icmp_ne (tgt := 22) C d_M_see_6 (by decide) (fun c6 => ?_) (fun c6 => ?_)
      · refine j_aload_n C d_M_see_22 rfl rfl ?_
        refine j_callV C d_M_see_23 ml_M_132 mc_M_here in_M_here rfl se_M_here (by omega) (ovM_o _ _ _ _) (c_M_hereN hl _ _ _ hmo t a1 h16 pk_us ht (by omega)) rfl rfl (Nat.le_of_ble_eq_true rfl) (Nat.le_of_ble_eq_true rfl) (Nat.le_of_ble_eq_true rfl) (Nat.le_of_ble_eq_true rfl) (jk_r ?_)
        exact j_ireturn C d_M_see_26 rfl (by decide) (by decide) ⟨by rw [← hv]; unfold skf; rw [if_neg c6], rfl, by rw [← hv]; unfold skf; rw [if_neg c6]⟩
      · refine j_aload_n C d_M_see_9 rfl rfl ?_
        refine j_dup C d_M_see_10 rfl ?_
        refine jm_get C fl_6_129 d_M_see_11 hmo rfl ?_
        refine j_iconst (v := 1) C d_M_see_14 (by decide) ?_
        refine j_iadd C d_M_see_15 ?_
        refine jm_puti 19 C fp_6_129 d_M_see_16 hmo (by decide) (by first | rfl | assumption) rfl rfl ?_
        refine j_goto (tgt := 0) C d_M_see_19 (by decide) ?_
        exact j_h (by rw [upd_uu, pk_us, nI_1]) (ih (a1 + 1) (by omega) (by rw [← hv]; show _ = (if hr (α 17) t a1 = 32 then skf (α 17) t k (a1 + 1) else a1); rw [if_pos c6]))
  exact j_h (by rw [upd_self h19]) (loop (t - a) a (by omega) rfl)
  

