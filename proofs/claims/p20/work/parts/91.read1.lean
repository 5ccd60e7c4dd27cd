/-! ===== the class reads a text: blanks, signs, numbers, factors: printed by program ===== -/
/-- the reader stands at a -/
def xq (ξ : Nat → Int32) (a : Nat) : Nat → Int32 := upd ξ 5 (nI a)
theorem xq_i (ξ : Nat → Int32) (a : Nat) : upd (xq ξ a) 5 (xq ξ a 5 + 1) = xq ξ (a + 1) := by
  unfold xq
  rw [upd_s, upd_uu, nI_1]
theorem hr_g {g : Nat → Int32} {t a : Nat} (h : a < t) : hr g t a = g a := if_neg (by omega)
/-- does the sign x stand behind the blanks, and where is the reader then -/
def pz (g : Nat → Int32) (t a : Nat) (x : Int32) : Int32 := if hr g t (skp g t a) = x then 1 else 0
def pp (g : Nat → Int32) (t a : Nat) (x : Int32) : Nat := if hr g t (skp g t a) = x then skp g t a + 1 else skp g t a
theorem pz_n {g : Nat → Int32} {t a : Nat} {x : Int32} (h : pz g t a x = 0) : ¬ hr g t (skp g t a) = x := by
  intro z
  unfold pz at h
  rw [if_pos z] at h
  exact absurd h (by decide)
theorem pz_y {g : Nat → Int32} {t a : Nat} {x : Int32} (h : ¬ pz g t a x = 0) : hr g t (skp g t a) = x := by
  apply Classical.byContradiction
  intro z
  exact h (if_neg z)
theorem pp_n {g : Nat → Int32} {t a : Nat} {x : Int32} (h : ¬ hr g t (skp g t a) = x) : pp g t a x = skp g t a := if_neg h
theorem pp_y {g : Nat → Int32} {t a : Nat} {x : Int32} (h : hr g t (skp g t a) = x) : pp g t a x = skp g t a + 1 := if_pos h
theorem pp_le {g : Nat → Int32} {t a : Nat} {x : Int32} (ha : a ≤ t) (hx : ¬ x = -1) : pp g t a x ≤ t := by
  by_cases h : hr g t (skp g t a) = x
  · rw [pp_y h]; exact hr_lt2 h hx
  · rw [pp_n h]; exact skp_le g ha
/-- a number as the class reads it: where it stops, what it is -/
def cnl (g : Nat → Int32) (hi : Int32) : Nat → Nat → Int32 → Nat × Int32
  | 0, a, w => (a, w)
  | k + 1, a, w => if g a - 48 < 0 then (a, w) else if g a - 48 ≤ 9 then
      (if w = (-1000000000) then (if w = 0 then (a, (-1000000000)) else if g a - 48 ≤ hi then cnl g hi k (a + 1) (g a - 48) else (a, (-1000000000)))
       else (if w = 0 then (a, (-1000000000)) else if 10 * w + (g a - 48) ≤ hi then cnl g hi k (a + 1) (10 * w + (g a - 48)) else (a, (-1000000000)))) else (a, w)
def cnum (g : Nat → Int32) (t : Nat) (a : Nat) (hi : Int32) : Nat × Int32 := cnl g hi (t - a) a (-1000000000)
theorem cnl_le (g : Nat → Int32) (hi : Int32) : ∀ (k a : Nat) (w : Int32), (cnl g hi k a w).1 ≤ a + k ∧ a ≤ (cnl g hi k a w).1 := by
  intro k
  induction k with
  | zero => intro a w; exact ⟨Nat.le_refl _, Nat.le_refl _⟩
  | succ k ih =>
    intro a w
    have s : a ≤ a + (k + 1) ∧ a ≤ a := ⟨by omega, Nat.le_refl _⟩
    have t1 := ih (a + 1) (g a - 48)
    have t2 := ih (a + 1) (10 * w + (g a - 48))
    unfold cnl
    split
    · exact s
    · split
      · split
        · split
          · exact s
          · split
            · exact ⟨by omega, by omega⟩
            · exact s
        · split
          · exact s
          · split
            · exact ⟨by omega, by omega⟩
            · exact s
      · exact s
theorem cnum_le {g : Nat → Int32} {t a : Nat} {hi : Int32} (ha : a ≤ t) : (cnum g t a hi).1 ≤ t := by
  have z := (cnl_le g hi (t - a) a (-1000000000)).1
  unfold cnum
  omega
/-- a factor as the class reads it -/
def cfA (g : Nat → Int32) (t a : Nat) : Nat := if hr g t (skp g t a) = 102 then (cnum g t (skp g t (skp g t a + 1)) 19).1 else (cnum g t (skp g t (skp g t a)) 99999).1
def cfV (g : Nat → Int32) (t a : Nat) : Int32 := if hr g t (skp g t a) = 102 then (if (cnum g t (skp g t (skp g t a + 1)) 19).2 = (-1000000000) then (-1000000000) else -1 - (cnum g t (skp g t (skp g t a + 1)) 19).2) else (cnum g t (skp g t (skp g t a)) 99999).2
theorem cfA_le {g : Nat → Int32} {t a : Nat} (ha : a ≤ t) : cfA g t a ≤ t := by
  unfold cfA
  split
  · rename_i h
    exact cnum_le (skp_le _ (hr_lt2 h (by decide)))
  · exact cnum_le (skp_le _ (skp_le _ ha))
set_option maxHeartbeats 4000000 in
set_option maxRecDepth 100000 in
theorem c_RR_skipBlanks {l : Launch} (hl : l.stackTraces = false) {D : va_G} {cA : Nat → ClassId} {b n : Nat} {xo : Nat} {ξ : Nat → Int32} {β : Nat → Nat → Int32} {ρ : Nat → Option Nat} {u v : Nat} (h : AH) (hn : xo + 28 ≤ n) (t a0 : Nat) (h4 : ξ 4 = nI t) (ht : t ≤ 300) (ha0 : a0 ≤ t) : Cn l D cA b y_RR_skipBlanks k_RR_skipBlanks 0 0 0 0 [.ref (xo + 5)] n (ovX xo (xq ξ a0) β ρ u v h) (Re none n (ovX xo (xq ξ (skp (β 4) t a0)) β ρ u v h)) := by
  refine Cn.of (cc := b_RR_skipBlanks) (maxL := 1) (ret := none) (hh := []) (by decide +kernel) hl (Or.inl ⟨rfl, rfl⟩) (Nat.le_of_ble_eq_true rfl) ?_
  intro p e s m args below meth c C
  have loop : ∀ (k9 a : Nat), a + k9 = t → skf (β 4) t k9 a = skp (β 4) t a0 → J p l e { frames := 0, cells := 0, slots := 0, locals := 0 } s m args below meth c D cA b 1 (EndQ D cA b s below (Re none n (ovX xo (xq ξ (skp (β 4) t a0)) β ρ u v h)) 0 0) n (ovX xo (xq ξ a) β ρ u v h) 0 0 0 [(0, .ref (xo + 5))] [] := by
    intro k9
    induction k9 with
    | zero =>
      intro a ha hv
      obtain rfl : t = a := by omega
      refine j_aload_n C d_RR_skipBlanks_0 rfl rfl ?_
      refine jx_get 5 C fl_1_15 d_RR_skipBlanks_1 hn rfl rfl ?_
      refine j_aload_n C d_RR_skipBlanks_4 rfl rfl ?_
      refine jx_get 5 C fl_1_9 d_RR_skipBlanks_5 hn rfl rfl ?_
      refine j_icmp_ge (tgt := 38) C d_RR_skipBlanks_8 (by decide) (fun c8 => ?_) (fun c8 => ?_)
      · exact j_vreturn C d_RR_skipBlanks_38 rfl (by decide) (by decide) ⟨rfl, rfl, by rw [← hv]; rfl⟩
      · exact absurd (show ξ 4 ≤ nI t by rw [h4]; exact nI_le (Nat.le_refl _) (by omega)) c8
    | succ k9 ih =>
      intro a ha hv
      have hlt : a < t := by omega
      refine j_aload_n C d_RR_skipBlanks_0 rfl rfl ?_
      refine jx_get 5 C fl_1_15 d_RR_skipBlanks_1 hn rfl rfl ?_
      refine j_aload_n C d_RR_skipBlanks_4 rfl rfl ?_
      refine jx_get 5 C fl_1_9 d_RR_skipBlanks_5 hn rfl rfl ?_
      refine j_icmp_ge (tgt := 38) C d_RR_skipBlanks_8 (by decide) (fun c8 => ?_) (fun c8 => ?_)
      · exact absurd (show nI t ≤ nI a from h4 ▸ (show ξ 4 ≤ nI a from c8)) (nI_ge hlt (by omega))
      · refine j_aload_n C d_RR_skipBlanks_11 rfl rfl ?_
        refine jx_get 5 C fl_1_18 d_RR_skipBlanks_12 hn rfl rfl ?_
        refine j_aload_n C d_RR_skipBlanks_15 rfl rfl ?_
        refine jx_get 5 C fl_1_15 d_RR_skipBlanks_16 hn rfl rfl ?_
        refine jx_bald (w := β 4 a) 4 C d_RR_skipBlanks_19 hn rfl (show vp_in (nI a) 300 from vp_in_nI (by omega) (by omega)) (show β 4 (nI a).toNatClampNeg = β 4 a by rw [nI_clamp (by omega)]) ?_
        refine j_bipush (v := 32) C d_RR_skipBlanks_20 (by decide) ?_
        refine j_icmp_ne (tgt := 38) C d_RR_skipBlanks_22 (by decide) (fun c22 => ?_) (fun c22 => ?_)
        · have ev : skf (β 4) t (k9 + 1) a = a := if_neg (by rw [hr_g hlt]; exact c22)
          exact j_vreturn C d_RR_skipBlanks_38 rfl (by decide) (by decide) ⟨rfl, rfl, by rw [← hv, ev]⟩
        · refine j_aload_n C d_RR_skipBlanks_25 rfl rfl ?_
          refine j_dup C d_RR_skipBlanks_26 rfl ?_
          refine jx_get 5 C fl_1_15 d_RR_skipBlanks_27 hn rfl rfl ?_
          refine j_iconst (v := 1) C d_RR_skipBlanks_30 (by decide) ?_
          refine j_iadd C d_RR_skipBlanks_31 ?_
          refine jx_puti 5 5 C fp_1_15 d_RR_skipBlanks_32 hn rfl (Nat.le_of_ble_eq_true rfl) rfl rfl rfl ?_
          refine j_h (h' := (ovX xo (xq ξ (a + 1)) β ρ u v h)) (by rw [xq_i]) ?_
          refine j_goto (tgt := 0) C d_RR_skipBlanks_35 (by decide) ?_
          exact j_pick [0] rfl (ih (a + 1) (by omega) (by rw [← hv]; exact (if_pos (by rw [hr_g hlt]; exact c22)).symm))
  exact j_pick [0] rfl (loop (t - a0) a0 (by omega) rfl)

set_option maxHeartbeats 4000000 in
set_option maxRecDepth 100000 in
theorem c_RR_passes {l : Launch} (hl : l.stackTraces = false) {D : va_G} {cA : Nat → ClassId} {b n : Nat} {xo : Nat} {ξ : Nat → Int32} {β : Nat → Nat → Int32} {ρ : Nat → Option Nat} {u v : Nat} (h : AH) (hn : xo + 28 ≤ n) (t a0 : Nat) (h4 : ξ 4 = nI t) (ht : t ≤ 300) (ha0 : a0 ≤ t) (x : Int32) (hx : ¬ x = -1) : Cn l D cA b y_RR_passes k_RR_passes 1 12 0 0 [.ref (xo + 5), .int x] n (ovX xo (xq ξ a0) β ρ u v h) (Re (some (.int (pz (β 4) t a0 x))) n (ovX xo (xq ξ (pp (β 4) t a0 x)) β ρ u v h)) := by
  refine Cn.of (cc := b_RR_passes) (maxL := 2) (ret := (some .boolean)) (hh := []) (by decide +kernel) hl (Or.inl ⟨rfl, rfl⟩) (Nat.le_of_ble_eq_true rfl) ?_
  intro p e s m args below meth c C
  refine j_aload_n C d_RR_passes_0 rfl rfl ?_
  refine j_callV C d_RR_passes_1 ml_RR_33 mc_RR_skipBlanks in_RR_skipBlanks rfl se_RR_skipBlanks (by omega) (ovX_c (o := 5) rfl) (c_RR_skipBlanks hl h hn t a0 h4 ht ha0) rfl rfl (Nat.le_of_ble_eq_true rfl) (Nat.le_of_ble_eq_true rfl) (Nat.le_of_ble_eq_true rfl) (Nat.le_of_ble_eq_true rfl) (jk_v ?_)
  generalize ea : (skp (β 4) t a0) = a
  have hle : a ≤ t := ea ▸ skp_le (β 4) ha0
  refine j_aload_n C d_RR_passes_4 rfl rfl ?_
  refine jx_get 5 C fl_1_15 d_RR_passes_5 hn rfl rfl ?_
  refine j_aload_n C d_RR_passes_8 rfl rfl ?_
  refine jx_get 5 C fl_1_9 d_RR_passes_9 hn rfl rfl ?_
  refine j_icmp_ge (tgt := 28) C d_RR_passes_12 (by decide) (fun c12 => ?_) (fun c12 => ?_)
  · have hne : ¬ hr (β 4) t a = x := fun z => by
      have hge : t ≤ a := Nat.le_of_not_lt (fun y => absurd (show nI t ≤ nI a from h4 ▸ (show ξ 4 ≤ nI a from c12)) (nI_ge y (by omega)))
      unfold hr at z
      rw [if_pos hge] at z
      exact hx z.symm
    refine j_iconst (v := 0) C d_RR_passes_28 (by decide) ?_
    exact j_zreturn C d_RR_passes_29 rfl (by decide) (by decide) (by decide) ⟨by unfold pz; rw [ea, if_neg hne], rfl, by unfold pp; rw [ea, if_neg hne]⟩
  · refine j_aload_n C d_RR_passes_15 rfl rfl ?_
    have hlt : a < t := Nat.lt_of_not_le (fun z => c12 (show ξ 4 ≤ nI a by rw [h4]; exact nI_le z (by omega)))
    refine jx_get 5 C fl_1_18 d_RR_passes_16 hn rfl rfl ?_
    refine j_aload_n C d_RR_passes_19 rfl rfl ?_
    refine jx_get 5 C fl_1_15 d_RR_passes_20 hn rfl rfl ?_
    refine jx_bald (w := β 4 a) 4 C d_RR_passes_23 hn rfl (show vp_in (nI a) 300 from vp_in_nI (by omega) (by omega)) (show β 4 (nI a).toNatClampNeg = β 4 a by rw [nI_clamp (by omega)]) ?_
    refine j_iload_n C d_RR_passes_24 rfl rfl ?_
    refine j_icmp_eq (tgt := 30) C d_RR_passes_25 (by decide) (fun c25 => ?_) (fun c25 => ?_)
    · refine j_aload_n C d_RR_passes_30 rfl rfl ?_
      refine j_dup C d_RR_passes_31 rfl ?_
      refine jx_get 5 C fl_1_15 d_RR_passes_32 hn rfl rfl ?_
      refine j_iconst (v := 1) C d_RR_passes_35 (by decide) ?_
      refine j_iadd C d_RR_passes_36 ?_
      refine jx_puti 5 5 C fp_1_15 d_RR_passes_37 hn rfl (Nat.le_of_ble_eq_true rfl) rfl rfl rfl ?_
      refine j_h (h' := (ovX xo (xq ξ (a + 1)) β ρ u v h)) (by rw [xq_i]) ?_
      refine j_iconst (v := 1) C d_RR_passes_40 (by decide) ?_
      exact j_zreturn C d_RR_passes_41 rfl (by decide) (by decide) (by decide) ⟨by unfold pz; rw [ea, if_pos (show hr (β 4) t a = x by rw [hr_g hlt]; exact c25)], rfl, by unfold pp; rw [ea, if_pos (show hr (β 4) t a = x by rw [hr_g hlt]; exact c25)]⟩
    · have hne : ¬ hr (β 4) t a = x := fun z => c25 (by rw [hr_g hlt] at z; exact z)
      refine j_iconst (v := 0) C d_RR_passes_28 (by decide) ?_
      exact j_zreturn C d_RR_passes_29 rfl (by decide) (by decide) (by decide) ⟨by unfold pz; rw [ea, if_neg hne], rfl, by unfold pp; rw [ea, if_neg hne]⟩

set_option maxHeartbeats 4000000 in
set_option maxRecDepth 100000 in
theorem c_RR_readNumber {l : Launch} (hl : l.stackTraces = false) {D : va_G} {cA : Nat → ClassId} {b n : Nat} {xo : Nat} {ξ : Nat → Int32} {β : Nat → Nat → Int32} {ρ : Nat → Option Nat} {u v : Nat} (h : AH) (hn : xo + 28 ≤ n) (t a0 : Nat) (h4 : ξ 4 = nI t) (ht : t ≤ 300) (ha0 : a0 ≤ t) (hi : Int32) : Cn l D cA b y_RR_readNumber k_RR_readNumber 0 0 0 0 [.ref (xo + 5), .int hi] n (ovX xo (xq ξ a0) β ρ u v h) (Re (some (.int (cnum (β 4) t a0 hi).2)) n (ovX xo (xq ξ (cnum (β 4) t a0 hi).1) β ρ u v h)) := by
  refine Cn.of (cc := b_RR_readNumber) (maxL := 5) (ret := (some .int)) (hh := []) (by decide +kernel) hl (Or.inl ⟨rfl, rfl⟩) (Nat.le_of_ble_eq_true rfl) ?_
  intro p e s m args below meth c C
  have loop : ∀ (k9 a : Nat) (w : Int32), a + k9 = t → cnl (β 4) hi k9 a w = (cnum (β 4) t a0 hi) → J p l e { frames := 0, cells := 0, slots := 0, locals := 0 } s m args below meth c D cA b 5 (EndQ D cA b s below (Re (some (.int (cnum (β 4) t a0 hi).2)) n (ovX xo (xq ξ (cnum (β 4) t a0 hi).1) β ρ u v h)) 0 0) n (ovX xo (xq ξ a) β ρ u v h) 0 0 3 [(2, .int w), (0, .ref (xo + 5)), (1, .int hi)] [] := by
    intro k9
    induction k9 with
    | zero =>
      intro a w ha hv
      obtain rfl : t = a := by omega
      refine j_aload_n C d_RR_readNumber_3 rfl rfl ?_
      refine jx_get 5 C fl_1_15 d_RR_readNumber_4 hn rfl rfl ?_
      refine j_aload_n C d_RR_readNumber_7 rfl rfl ?_
      refine jx_get 5 C fl_1_9 d_RR_readNumber_8 hn rfl rfl ?_
      refine j_icmp_ge (tgt := 86) C d_RR_readNumber_11 (by decide) (fun c11 => ?_) (fun c11 => ?_)
      · refine j_iload_n C d_RR_readNumber_86 rfl rfl ?_
        exact j_ireturn C d_RR_readNumber_87 rfl (by decide) (by decide) ⟨by rw [← hv]; rfl, rfl, by rw [← hv]; rfl⟩
      · exact absurd (show ξ 4 ≤ nI t by rw [h4]; exact nI_le (Nat.le_refl _) (by omega)) c11
    | succ k9 ih =>
      intro a w ha hv
      have hlt : a < t := by omega
      refine j_aload_n C d_RR_readNumber_3 rfl rfl ?_
      refine jx_get 5 C fl_1_15 d_RR_readNumber_4 hn rfl rfl ?_
      refine j_aload_n C d_RR_readNumber_7 rfl rfl ?_
      refine jx_get 5 C fl_1_9 d_RR_readNumber_8 hn rfl rfl ?_
      refine j_icmp_ge (tgt := 86) C d_RR_readNumber_11 (by decide) (fun c11 => ?_) (fun c11 => ?_)
      · exact absurd (show nI t ≤ nI a from h4 ▸ (show ξ 4 ≤ nI a from c11)) (nI_ge hlt (by omega))
      · refine j_aload_n C d_RR_readNumber_14 rfl rfl ?_
        refine jx_get 5 C fl_1_18 d_RR_readNumber_15 hn rfl rfl ?_
        refine j_aload_n C d_RR_readNumber_18 rfl rfl ?_
        refine jx_get 5 C fl_1_15 d_RR_readNumber_19 hn rfl rfl ?_
        refine jx_bald (w := β 4 a) 4 C d_RR_readNumber_22 hn rfl (show vp_in (nI a) 300 from vp_in_nI (by omega) (by omega)) (show β 4 (nI a).toNatClampNeg = β 4 a by rw [nI_clamp (by omega)]) ?_
        refine j_bipush (v := 48) C d_RR_readNumber_23 (by decide) ?_
        refine j_isub C d_RR_readNumber_25 ?_
        refine j_istore_n C d_RR_readNumber_26 rfl (by decide) rfl ?_
        refine j_iload_n C d_RR_readNumber_27 rfl rfl ?_
        refine j_if_lt (tgt := 37) C d_RR_readNumber_28 (by decide) (fun c28 => ?_) (fun c28 => ?_)
        · refine j_iload_n C d_RR_readNumber_37 rfl rfl ?_
          have ev : cnl (β 4) hi (k9 + 1) a w = (a, w) := if_pos c28
          exact j_ireturn C d_RR_readNumber_38 rfl (by decide) (by decide) ⟨by rw [← hv, ev], rfl, by rw [← hv, ev]⟩
        · refine j_iload_n C d_RR_readNumber_31 rfl rfl ?_
          refine j_bipush (v := 9) C d_RR_readNumber_32 (by decide) ?_
          refine j_icmp_le (tgt := 39) C d_RR_readNumber_34 (by decide) (fun c34 => ?_) (fun c34 => ?_)
          · refine j_iload_n C d_RR_readNumber_39 rfl rfl ?_
            refine j_ldc (v := (-1000000000)) C d_RR_readNumber_40 lc_RR_63 ?_
            refine j_icmp_ne (tgt := 49) C d_RR_readNumber_42 (by decide) (fun c42 => ?_) (fun c42 => ?_)
            · refine j_bipush (v := 10) C d_RR_readNumber_49 (by decide) ?_
              refine j_iload_n C d_RR_readNumber_51 rfl rfl ?_
              refine j_imul C d_RR_readNumber_52 ?_
              refine j_iload_n C d_RR_readNumber_53 rfl rfl ?_
              refine j_iadd C d_RR_readNumber_54 ?_
              refine j_istore C d_RR_readNumber_55 (by decide) rfl ?_
              refine j_iload_n C d_RR_readNumber_57 rfl rfl ?_
              refine j_if_eq (tgt := 67) C d_RR_readNumber_58 (by decide) (fun c58 => ?_) (fun c58 => ?_)
              · refine j_ldc (v := (-1000000000)) C d_RR_readNumber_67 lc_RR_63 ?_
                have ev : cnl (β 4) hi (k9 + 1) a w = (a, (-1000000000)) := (if_neg c28).trans ((if_pos c34).trans ((if_neg c42).trans (if_pos c58)))
                exact j_ireturn C d_RR_readNumber_69 rfl (by decide) (by decide) ⟨by rw [← hv, ev], rfl, by rw [← hv, ev]⟩
              · refine j_iload C d_RR_readNumber_61 rfl ?_
                refine j_iload_n C d_RR_readNumber_63 rfl rfl ?_
                refine j_icmp_le (tgt := 70) C d_RR_readNumber_64 (by decide) (fun c64 => ?_) (fun c64 => ?_)
                · refine j_iload C d_RR_readNumber_70 rfl ?_
                  refine j_istore_n C d_RR_readNumber_72 rfl (by decide) rfl ?_
                  refine j_aload_n C d_RR_readNumber_73 rfl rfl ?_
                  refine j_dup C d_RR_readNumber_74 rfl ?_
                  refine jx_get 5 C fl_1_15 d_RR_readNumber_75 hn rfl rfl ?_
                  refine j_iconst (v := 1) C d_RR_readNumber_78 (by decide) ?_
                  refine j_iadd C d_RR_readNumber_79 ?_
                  refine jx_puti 5 5 C fp_1_15 d_RR_readNumber_80 hn rfl (Nat.le_of_ble_eq_true rfl) rfl rfl rfl ?_
                  refine j_h (h' := (ovX xo (xq ξ (a + 1)) β ρ u v h)) (by rw [xq_i]) ?_
                  have ev : cnl (β 4) hi (k9 + 1) a w = cnl (β 4) hi k9 (a + 1) (10 * w + (β 4 a - 48)) := (if_neg c28).trans ((if_pos c34).trans ((if_neg c42).trans ((if_neg c58).trans (if_pos c64))))
                  refine j_goto (tgt := 3) C d_RR_readNumber_83 (by decide) ?_
                  exact j_pick [0, 3, 4] rfl (ih (a + 1) (10 * w + (β 4 a - 48)) (by omega) (by rw [← hv, ev]))
                · refine j_ldc (v := (-1000000000)) C d_RR_readNumber_67 lc_RR_63 ?_
                  have ev : cnl (β 4) hi (k9 + 1) a w = (a, (-1000000000)) := (if_neg c28).trans ((if_pos c34).trans ((if_neg c42).trans ((if_neg c58).trans (if_neg c64))))
                  exact j_ireturn C d_RR_readNumber_69 rfl (by decide) (by decide) ⟨by rw [← hv, ev], rfl, by rw [← hv, ev]⟩
            · refine j_iload_n C d_RR_readNumber_45 rfl rfl ?_
              refine j_goto (tgt := 55) C d_RR_readNumber_46 (by decide) ?_
              refine j_istore C d_RR_readNumber_55 (by decide) rfl ?_
              refine j_iload_n C d_RR_readNumber_57 rfl rfl ?_
              refine j_if_eq (tgt := 67) C d_RR_readNumber_58 (by decide) (fun c58 => ?_) (fun c58 => ?_)
              · refine j_ldc (v := (-1000000000)) C d_RR_readNumber_67 lc_RR_63 ?_
                have ev : cnl (β 4) hi (k9 + 1) a w = (a, (-1000000000)) := (if_neg c28).trans ((if_pos c34).trans ((if_pos c42).trans (if_pos c58)))
                exact j_ireturn C d_RR_readNumber_69 rfl (by decide) (by decide) ⟨by rw [← hv, ev], rfl, by rw [← hv, ev]⟩
              · refine j_iload C d_RR_readNumber_61 rfl ?_
                refine j_iload_n C d_RR_readNumber_63 rfl rfl ?_
                refine j_icmp_le (tgt := 70) C d_RR_readNumber_64 (by decide) (fun c64 => ?_) (fun c64 => ?_)
                · refine j_iload C d_RR_readNumber_70 rfl ?_
                  refine j_istore_n C d_RR_readNumber_72 rfl (by decide) rfl ?_
                  refine j_aload_n C d_RR_readNumber_73 rfl rfl ?_
                  refine j_dup C d_RR_readNumber_74 rfl ?_
                  refine jx_get 5 C fl_1_15 d_RR_readNumber_75 hn rfl rfl ?_
                  refine j_iconst (v := 1) C d_RR_readNumber_78 (by decide) ?_
                  refine j_iadd C d_RR_readNumber_79 ?_
                  refine jx_puti 5 5 C fp_1_15 d_RR_readNumber_80 hn rfl (Nat.le_of_ble_eq_true rfl) rfl rfl rfl ?_
                  refine j_h (h' := (ovX xo (xq ξ (a + 1)) β ρ u v h)) (by rw [xq_i]) ?_
                  have ev : cnl (β 4) hi (k9 + 1) a w = cnl (β 4) hi k9 (a + 1) (β 4 a - 48) := (if_neg c28).trans ((if_pos c34).trans ((if_pos c42).trans ((if_neg c58).trans (if_pos c64))))
                  refine j_goto (tgt := 3) C d_RR_readNumber_83 (by decide) ?_
                  exact j_pick [0, 3, 4] rfl (ih (a + 1) (β 4 a - 48) (by omega) (by rw [← hv, ev]))
                · refine j_ldc (v := (-1000000000)) C d_RR_readNumber_67 lc_RR_63 ?_
                  have ev : cnl (β 4) hi (k9 + 1) a w = (a, (-1000000000)) := (if_neg c28).trans ((if_pos c34).trans ((if_pos c42).trans ((if_neg c58).trans (if_neg c64))))
                  exact j_ireturn C d_RR_readNumber_69 rfl (by decide) (by decide) ⟨by rw [← hv, ev], rfl, by rw [← hv, ev]⟩
          · refine j_iload_n C d_RR_readNumber_37 rfl rfl ?_
            have ev : cnl (β 4) hi (k9 + 1) a w = (a, w) := (if_neg c28).trans (if_neg c34)
            exact j_ireturn C d_RR_readNumber_38 rfl (by decide) (by decide) ⟨by rw [← hv, ev], rfl, by rw [← hv, ev]⟩
  refine j_ldc (v := (-1000000000)) C d_RR_readNumber_0 lc_RR_63 ?_
  refine j_istore_n C d_RR_readNumber_2 rfl (by decide) rfl ?_
  exact j_pick [0, 1, 2] rfl (loop (t - a0) a0 (-1000000000) (by omega) rfl)

set_option maxHeartbeats 4000000 in
set_option maxRecDepth 100000 in
theorem c_RB_factorOfField {l : Launch} (hl : l.stackTraces = false) {D : va_G} {cA : Nat → ClassId} {b n : Nat} (h : AH) (x : Int32) : Cn l D cA b y_RB_factorOfField k_RB_factorOfField 0 0 0 0 [.int x] n h (Re (some (.int (-1 - x))) n h) := by
  refine Cn.of (cc := b_RB_factorOfField) (maxL := 1) (ret := (some .int)) (hh := []) (by decide +kernel) hl (Or.inl ⟨rfl, rfl⟩) (Nat.le_of_ble_eq_true rfl) ?_
  intro p e s m args below meth c C
  refine j_iconst (v := (-1)) C d_RB_factorOfField_0 (by decide) ?_
  refine j_iload_n C d_RB_factorOfField_1 rfl rfl ?_
  refine j_isub C d_RB_factorOfField_2 ?_
  exact j_ireturn C d_RB_factorOfField_3 rfl (by decide) (by decide) ⟨rfl, rfl, rfl⟩

set_option maxHeartbeats 4000000 in
set_option maxRecDepth 100000 in
theorem c_RR_readFactor {l : Launch} (hl : l.stackTraces = false) {D : va_G} {cA : Nat → ClassId} {b n : Nat} {xo : Nat} {ξ : Nat → Int32} {β : Nat → Nat → Int32} {ρ : Nat → Option Nat} {u v : Nat} (h : AH) (hn : xo + 28 ≤ n) (t a0 : Nat) (h4 : ξ 4 = nI t) (ht : t ≤ 300) (ha0 : a0 ≤ t) : Cn l D cA b y_RR_readFactor k_RR_readFactor 2 25 0 0 [.ref (xo + 5)] n (ovX xo (xq ξ a0) β ρ u v h) (Re (some (.int (cfV (β 4) t a0))) n (ovX xo (xq ξ (cfA (β 4) t a0)) β ρ u v h)) := by
  refine Cn.of (cc := b_RR_readFactor) (maxL := 3) (ret := (some .int)) (hh := []) (by decide +kernel) hl (Or.inl ⟨rfl, rfl⟩) (Nat.le_of_ble_eq_true rfl) ?_
  intro p e s m args below meth c C
  refine j_aload_n C d_RR_readFactor_0 rfl rfl ?_
  refine j_bipush (v := 102) C d_RR_readFactor_1 (by decide) ?_
  refine j_callV C d_RR_readFactor_3 ml_RR_47 mc_RR_passes in_RR_passes rfl se_RR_passes (by omega) (ovX_c (o := 5) rfl) (c_RR_passes hl h hn t a0 h4 ht ha0 102 (by decide)) rfl rfl (Nat.le_of_ble_eq_true rfl) (Nat.le_of_ble_eq_true rfl) (Nat.le_of_ble_eq_true rfl) (Nat.le_of_ble_eq_true rfl) (jk_r ?_)
  refine j_istore_n C d_RR_readFactor_6 rfl (by decide) rfl ?_
  refine j_aload_n C d_RR_readFactor_7 rfl rfl ?_
  refine j_callV C d_RR_readFactor_8 ml_RR_33 mc_RR_skipBlanks in_RR_skipBlanks rfl se_RR_skipBlanks (by omega) (ovX_c (o := 5) rfl) (c_RR_skipBlanks hl h hn t (pp (β 4) t a0 102) h4 ht (pp_le ha0 (by decide))) rfl rfl (Nat.le_of_ble_eq_true rfl) (Nat.le_of_ble_eq_true rfl) (Nat.le_of_ble_eq_true rfl) (Nat.le_of_ble_eq_true rfl) (jk_v ?_)
  refine j_aload_n C d_RR_readFactor_11 rfl rfl ?_
  refine j_iload_n C d_RR_readFactor_12 rfl rfl ?_
  refine j_if_eq (tgt := 21) C d_RR_readFactor_13 (by decide) (fun c13 => ?_) (fun c13 => ?_)
  · have hy := pz_n c13
    rw [pp_n hy]
    refine j_ldc (v := 99999) C d_RR_readFactor_21 lc_RR_68 ?_
    refine j_callV C d_RR_readFactor_23 ml_RR_69 mc_RR_readNumber in_RR_readNumber rfl se_RR_readNumber (by omega) (ovX_c (o := 5) rfl) (c_RR_readNumber hl h hn t (skp (β 4) t (skp (β 4) t a0)) h4 ht (skp_le _ (skp_le _ ha0)) 99999) rfl rfl (Nat.le_of_ble_eq_true rfl) (Nat.le_of_ble_eq_true rfl) (Nat.le_of_ble_eq_true rfl) (Nat.le_of_ble_eq_true rfl) (jk_r ?_)
    refine j_istore_n C d_RR_readFactor_26 rfl (by decide) rfl ?_
    refine j_iload_n C d_RR_readFactor_27 rfl rfl ?_
    refine j_if_eq (tgt := 44) C d_RR_readFactor_28 (by decide) (fun c28 => ?_) (fun c28 => ?_)
    · refine j_iload_n C d_RR_readFactor_44 rfl rfl ?_
      exact j_ireturn C d_RR_readFactor_45 rfl (by decide) (by decide) ⟨by unfold cfV; rw [if_neg hy], rfl, by unfold cfA; rw [if_neg hy]⟩
    · exact absurd c13 c28
  · have hy := pz_y c13
    rw [pp_y hy]
    have hA : (skp (β 4) t a0) + 1 ≤ t := hr_lt2 hy (by decide)
    refine j_bipush (v := 19) C d_RR_readFactor_16 (by decide) ?_
    refine j_goto (tgt := 23) C d_RR_readFactor_18 (by decide) ?_
    refine j_callV C d_RR_readFactor_23 ml_RR_69 mc_RR_readNumber in_RR_readNumber rfl se_RR_readNumber (by omega) (ovX_c (o := 5) rfl) (c_RR_readNumber hl h hn t (skp (β 4) t ((skp (β 4) t a0) + 1)) h4 ht (skp_le _ hA) 19) rfl rfl (Nat.le_of_ble_eq_true rfl) (Nat.le_of_ble_eq_true rfl) (Nat.le_of_ble_eq_true rfl) (Nat.le_of_ble_eq_true rfl) (jk_r ?_)
    refine j_istore_n C d_RR_readFactor_26 rfl (by decide) rfl ?_
    refine j_iload_n C d_RR_readFactor_27 rfl rfl ?_
    refine j_if_eq (tgt := 44) C d_RR_readFactor_28 (by decide) (fun c28 => ?_) (fun c28 => ?_)
    · exact absurd c28 c13
    · refine j_iload_n C d_RR_readFactor_31 rfl rfl ?_
      refine j_ldc (v := (-1000000000)) C d_RR_readFactor_32 lc_RR_63 ?_
      refine j_icmp_eq (tgt := 44) C d_RR_readFactor_34 (by decide) (fun c34 => ?_) (fun c34 => ?_)
      · refine j_iload_n C d_RR_readFactor_44 rfl rfl ?_
        exact j_ireturn C d_RR_readFactor_45 rfl (by decide) (by decide) ⟨by unfold cfV; rw [if_pos hy, if_pos c34]; exact congrArg (fun z => Sum.inl (some (Value.int z))) c34, rfl, by unfold cfA; rw [if_pos hy]⟩
      · refine j_iload_n C d_RR_readFactor_37 rfl rfl ?_
        refine j_callS C d_RR_readFactor_38 ml_RR_73 mc_RB_factorOfField st_RB_factorOfField (c_RB_factorOfField hl _ _) rfl rfl (Nat.le_of_ble_eq_true rfl) (Nat.le_of_ble_eq_true rfl) (Nat.le_of_ble_eq_true rfl) (Nat.le_of_ble_eq_true rfl) (jk_r ?_)
        refine j_goto (tgt := 45) C d_RR_readFactor_41 (by decide) ?_
        exact j_ireturn C d_RR_readFactor_45 rfl (by decide) (by decide) ⟨by unfold cfV; rw [if_pos hy, if_neg c34], rfl, by unfold cfA; rw [if_pos hy]⟩
/-! ===== the class reads a text: terms, comparisons: printed by program ===== -/
/-- a field told in a rule -/
def nt (β : Nat → Nat → Int32) (ft q : Nat) (x : Int32) : Nat → Nat → Int32 := if 0 ≤ x then β else upa β ft (upd (β ft) q (xch (β ft q) (-1 - x) 1))
/-- the book bo with one term more in the sum s -/
def adT (bo : Nat) (β : Nat → Nat → Int32) (s c : Nat) (x y m : Int32) : Nat → Nat → Int32 :=
  nt (nt (upa (upa (upa (upa β (bo + 4) (upd (β (bo + 4)) (4 * s + c) x)) (bo + 5) (upd (β (bo + 5)) (4 * s + c) y)) (bo + 6) (upd (β (bo + 6)) (4 * s + c) (vp_nar .boolean m))) (bo + 3) (upd (β (bo + 3)) s (nI (c + 1)))) (bo + 2) (s / 2) x) (bo + 2) (s / 2) y
def stR (bo : Nat) (β : Nat → Nat → Int32) (q : Nat) : Nat → Nat → Int32 := upa (upa β (bo + 2) (upd (β (bo + 2)) q 0)) (bo + 3) (upd (upd (β (bo + 3)) (2 * q) 0) (2 * q + 1) 0)
theorem e2d {s : Nat} (hs : s < 40) : nI s / 2 = nI (s / 2) := pk_div (d := 2) (by omega) (by omega) (by omega)
/-- a term as the class reads it -/
def ctm (g : Nat → Int32) (t : Nat) (how : Int32) (a : Nat) : Option ((Int32 × Int32 × Option Int32) × Nat) :=
  if cfV g t a = (-1000000000) then none else if hr g t (skp g t (cfA g t a)) = 47 then (if cfV g t (skp g t (cfA g t a) + 1) = (-1000000000) then none else some ((how, cfV g t a, some (cfV g t (skp g t (cfA g t a) + 1))), cfA g t (skp g t (cfA g t a) + 1))) else some ((how, cfV g t a, none), skp g t (cfA g t a))
def ctp (g : Nat → Int32) (t : Nat) (a : Nat) : Nat := if cfV g t a = (-1000000000) then cfA g t a else cfA g t (skp g t (cfA g t a) + 1)
theorem ctp_le {g : Nat → Int32} {t a : Nat} {how : Int32} (ha : a ≤ t) (h : ctm g t how a = none) : ctp g t a ≤ t := by
  unfold ctm at h
  unfold ctp
  split at h
  · rename_i h1
    rw [if_pos h1]; exact cfA_le ha
  · rename_i h1
    rw [if_neg h1]
    split at h
    · rename_i h2
      exact cfA_le (hr_lt2 h2 (by decide))
    · cases h
theorem ctm_le {g : Nat → Int32} {t a : Nat} {how : Int32} {q : (Int32 × Int32 × Option Int32) × Nat} (ha : a ≤ t) (h : ctm g t how a = some q) : q.2 ≤ t ∧ q.1.1 = how := by
  unfold ctm at h
  split at h
  · cases h
  · split at h
    · rename_i h2
      split at h
      · cases h
      · cases h
        exact ⟨cfA_le (hr_lt2 h2 (by decide)), rfl⟩
    · cases h
      exact ⟨skp_le _ (cfA_le ha), rfl⟩
theorem skf_st (g : Nat → Int32) (t : Nat) : ∀ (k a : Nat), a + k = t → skf g t (t - skf g t k a) (skf g t k a) = skf g t k a
  | 0, a, h => by
    show skf g t (t - a) a = a
    rw [show t - a = 0 by omega]
    rfl
  | k + 1, a, h => by
    by_cases e : hr g t a = 32
    · have ev : skf g t (k + 1) a = skf g t k (a + 1) := if_pos e
      rw [ev]
      exact skf_st g t k (a + 1) (by omega)
    · have ev : skf g t (k + 1) a = a := if_neg e
      rw [ev, show t - a = k + 1 by omega, ev]
theorem skp_skp {g : Nat → Int32} {t a : Nat} (ha : a ≤ t) : skp g t (skp g t a) = skp g t a := skf_st g t (t - a) a (by omega)
set_option maxHeartbeats 4000000 in
set_option maxRecDepth 100000 in
theorem c_RB_noteField_6 {l : Launch} (hl : l.stackTraces = false) {D : va_G} {cA : Nat → ClassId} {b n : Nat} {xo : Nat} {ξ : Nat → Int32} {β : Nat → Nat → Int32} {ρ : Nat → Option Nat} {u v : Nat} (h : AH) (hn : xo + 28 ≤ n) (q0 : Nat) (hq : q0 < 20) (x : Int32) : Cn l D cA b y_RB_noteField k_RB_noteField 1 16 0 0 [.ref (xo + 6), .int (nI q0), .int x] n (ovX xo ξ β ρ u v h) (Re none n (ovX xo ξ (nt β (6 + 2) q0 x) ρ u v h)) := by
  refine Cn.of (cc := b_RB_noteField) (maxL := 3) (ret := none) (hh := []) (by decide +kernel) hl (Or.inl ⟨rfl, rfl⟩) (Nat.le_of_ble_eq_true rfl) ?_
  intro p e s m args below meth c C
  refine j_iload_n C d_RB_noteField_0 rfl rfl ?_
  refine j_if_ge (tgt := 23) C d_RB_noteField_1 (by decide) (fun c1 => ?_) (fun c1 => ?_)
  · exact j_vreturn C d_RB_noteField_23 rfl (by decide) (by decide) ⟨rfl, rfl, by unfold nt; rw [if_pos c1]⟩
  · refine j_aload_n C d_RB_noteField_4 rfl rfl ?_
    refine jx_get 6 C fl_2_19 d_RB_noteField_5 hn rfl rfl ?_
    refine j_iload_n C d_RB_noteField_8 rfl rfl ?_
    refine j_aload_n C d_RB_noteField_9 rfl rfl ?_
    refine jx_get 6 C fl_2_19 d_RB_noteField_10 hn rfl rfl ?_
    refine j_iload_n C d_RB_noteField_13 rfl rfl ?_
    refine jx_iald (w := β 8 q0) 8 C d_RB_noteField_14 hn rfl (vp_in_nI (by omega) (by omega)) (by rw [nI_clamp (by omega)]) ?_
    refine j_iconst (v := (-1)) C d_RB_noteField_15 (by decide) ?_
    refine j_iload_n C d_RB_noteField_16 rfl rfl ?_
    refine j_isub C d_RB_noteField_17 ?_
    refine j_iconst (v := 1) C d_RB_noteField_18 (by decide) ?_
    refine j_callS C d_RB_noteField_19 ml_RB_40 mc_X_changed st_X_changed (c_X_changed hl _ _ _ _) rfl rfl (Nat.le_of_ble_eq_true rfl) (Nat.le_of_ble_eq_true rfl) (Nat.le_of_ble_eq_true rfl) (Nat.le_of_ble_eq_true rfl) (jk_r ?_)
    refine jx_iast 8 C d_RB_noteField_22 hn rfl (vp_in_nI (by omega) (by omega)) rfl ?_
    rw [nI_clamp (by omega)]
    exact j_vreturn C d_RB_noteField_23 rfl (by decide) (by decide) ⟨rfl, rfl, by unfold nt; rw [if_neg c1]⟩

set_option maxHeartbeats 4000000 in
set_option maxRecDepth 100000 in
theorem c_RB_startRule_6 {l : Launch} (hl : l.stackTraces = false) {D : va_G} {cA : Nat → ClassId} {b n : Nat} {xo : Nat} {ξ : Nat → Int32} {β : Nat → Nat → Int32} {ρ : Nat → Option Nat} {u v : Nat} (h : AH) (hn : xo + 28 ≤ n) (q0 : Nat) (hq : q0 < 20) : Cn l D cA b y_RB_startRule k_RB_startRule 0 0 0 0 [.ref (xo + 6), .int (nI q0)] n (ovX xo ξ β ρ u v h) (Re none n (ovX xo ξ (stR 6 β q0) ρ u v h)) := by
  refine Cn.of (cc := b_RB_startRule) (maxL := 2) (ret := none) (hh := []) (by decide +kernel) hl (Or.inl ⟨rfl, rfl⟩) (Nat.le_of_ble_eq_true rfl) ?_
  intro p e s m args below meth c C
  refine j_aload_n C d_RB_startRule_0 rfl rfl ?_
  refine jx_get 6 C fl_2_19 d_RB_startRule_1 hn rfl rfl ?_
  refine j_iload_n C d_RB_startRule_4 rfl rfl ?_
  refine j_iconst (v := 0) C d_RB_startRule_5 (by decide) ?_
  refine jx_iast 8 C d_RB_startRule_6 hn rfl (vp_in_nI (by omega) (by omega)) rfl ?_
  rw [nI_clamp (by omega)]
  refine j_aload_n C d_RB_startRule_7 rfl rfl ?_
  refine jx_get 6 C fl_2_23 d_RB_startRule_8 hn rfl rfl ?_
  refine j_iconst (v := 2) C d_RB_startRule_11 (by decide) ?_
  refine j_iload_n C d_RB_startRule_12 rfl rfl ?_
  refine j_imul C d_RB_startRule_13 ?_
  rw [e2q]
  refine j_iconst (v := 0) C d_RB_startRule_14 (by decide) ?_
  refine jx_iast 9 C d_RB_startRule_15 hn rfl (vp_in_nI (by omega) (by omega)) rfl ?_
  rw [nI_clamp (by omega)]
  refine j_aload_n C d_RB_startRule_16 rfl rfl ?_
  refine jx_get 6 C fl_2_23 d_RB_startRule_17 hn rfl rfl ?_
  refine j_iconst (v := 2) C d_RB_startRule_20 (by decide) ?_
  refine j_iload_n C d_RB_startRule_21 rfl rfl ?_
  refine j_imul C d_RB_startRule_22 ?_
  refine j_iconst (v := 1) C d_RB_startRule_23 (by decide) ?_
  refine j_iadd C d_RB_startRule_24 ?_
  rw [e2q1]
  refine j_iconst (v := 0) C d_RB_startRule_25 (by decide) ?_
  refine jx_iast 9 C d_RB_startRule_26 hn rfl (vp_in_nI (by omega) (by omega)) rfl ?_
  rw [nI_clamp (by omega)]
  exact j_vreturn C d_RB_startRule_27 rfl (by decide) (by decide) ⟨rfl, rfl, by unfold stR; rw [upa_uu]; rfl⟩

set_option maxHeartbeats 4000000 in
set_option maxRecDepth 100000 in
theorem c_RB_addTerm_6 {l : Launch} (hl : l.stackTraces = false) {D : va_G} {cA : Nat → ClassId} {b n : Nat} {xo : Nat} {ξ : Nat → Int32} {β : Nat → Nat → Int32} {ρ : Nat → Option Nat} {u v : Nat} (h : AH) (hn : xo + 28 ≤ n) (s0 c0 : Nat) (hs : s0 < 40) (hc : β 9 s0 = nI c0) (hc4 : c0 < 4) (x y m0 : Int32) : Cn l D cA b y_RB_addTerm k_RB_addTerm 2 30 0 0 [.ref (xo + 6), .int (nI s0), .int x, .int y, .int m0] n (ovX xo ξ β ρ u v h) (Re none n (ovX xo ξ (adT 6 β s0 c0 x y m0) ρ u v h)) := by
  refine Cn.of (cc := b_RB_addTerm) (maxL := 7) (ret := none) (hh := []) (by decide +kernel) hl (Or.inl ⟨rfl, rfl⟩) (Nat.le_of_ble_eq_true rfl) ?_
  intro p e s m args below meth c C
  refine j_aload_n C d_RB_addTerm_0 rfl rfl ?_
  refine jx_get 6 C fl_2_23 d_RB_addTerm_1 hn rfl rfl ?_
  refine j_iload_n C d_RB_addTerm_4 rfl rfl ?_
  refine jx_iald (w := nI c0) 9 C d_RB_addTerm_5 hn rfl (vp_in_nI (by omega) (by omega)) (by rw [nI_clamp (by omega)]; exact hc) ?_
  refine j_istore C d_RB_addTerm_6 (by decide) rfl ?_
  refine j_iload C d_RB_addTerm_8 rfl ?_
  refine j_iconst (v := 4) C d_RB_addTerm_10 (by decide) ?_
  refine j_icmp_lt (tgt := 15) C d_RB_addTerm_11 (by decide) (fun c11 => ?_) (fun c11 => ?_)
  · refine j_iload_n C d_RB_addTerm_15 rfl rfl ?_
    refine j_iconst (v := 4) C d_RB_addTerm_16 (by decide) ?_
    refine j_imul C d_RB_addTerm_17 ?_
    refine j_iload C d_RB_addTerm_18 rfl ?_
    refine j_iadd C d_RB_addTerm_20 ?_
    rw [e4s]
    refine j_istore C d_RB_addTerm_21 (by decide) rfl ?_
    refine j_aload_n C d_RB_addTerm_23 rfl rfl ?_
    refine jx_get 6 C fl_2_26 d_RB_addTerm_24 hn rfl rfl ?_
    refine j_iload C d_RB_addTerm_27 rfl ?_
    refine j_iload_n C d_RB_addTerm_29 rfl rfl ?_
    refine jx_iast 10 C d_RB_addTerm_30 hn rfl (vp_in_nI (by omega) (by omega)) rfl ?_
    rw [nI_clamp (by omega)]
    refine j_aload_n C d_RB_addTerm_31 rfl rfl ?_
    refine jx_get 6 C fl_2_29 d_RB_addTerm_32 hn rfl rfl ?_
    refine j_iload C d_RB_addTerm_35 rfl ?_
    refine j_iload_n C d_RB_addTerm_37 rfl rfl ?_
    refine jx_iast 11 C d_RB_addTerm_38 hn rfl (vp_in_nI (by omega) (by omega)) rfl ?_
    rw [nI_clamp (by omega)]
    refine j_aload_n C d_RB_addTerm_39 rfl rfl ?_
    refine jx_get 6 C fl_2_32 d_RB_addTerm_40 hn rfl rfl ?_
    refine j_iload C d_RB_addTerm_43 rfl ?_
    refine j_iload C d_RB_addTerm_45 rfl ?_
    refine jx_zast 12 C d_RB_addTerm_47 hn rfl (vp_in_nI (by omega) (by omega)) rfl ?_
    rw [nI_clamp (by omega)]
    refine j_aload_n C d_RB_addTerm_48 rfl rfl ?_
    refine jx_get 6 C fl_2_23 d_RB_addTerm_49 hn rfl rfl ?_
    refine j_iload_n C d_RB_addTerm_52 rfl rfl ?_
    refine j_iload C d_RB_addTerm_53 rfl ?_
    refine j_iconst (v := 1) C d_RB_addTerm_55 (by decide) ?_
    refine j_iadd C d_RB_addTerm_56 ?_
    rw [nI_1]
    refine jx_iast 9 C d_RB_addTerm_57 hn rfl (vp_in_nI (by omega) (by omega)) rfl ?_
    rw [nI_clamp (by omega)]
    refine j_aload_n C d_RB_addTerm_58 rfl rfl ?_
    refine j_iload_n C d_RB_addTerm_59 rfl rfl ?_
    refine j_iconst (v := 2) C d_RB_addTerm_60 (by decide) ?_
    refine j_idiv C d_RB_addTerm_61 (by decide) ?_
    rw [e2d hs]
    refine j_iload_n C d_RB_addTerm_62 rfl rfl ?_
    refine j_callV C d_RB_addTerm_63 ml_RB_36 mc_RB_noteField in_RB_noteField rfl se_RB_noteField (by omega) (ovX_c (o := 6) rfl) (c_RB_noteField_6 hl h hn (s0 / 2) (by omega) x) rfl rfl (Nat.le_of_ble_eq_true rfl) (Nat.le_of_ble_eq_true rfl) (Nat.le_of_ble_eq_true rfl) (Nat.le_of_ble_eq_true rfl) (jk_v ?_)
    refine j_aload_n C d_RB_addTerm_66 rfl rfl ?_
    refine j_iload_n C d_RB_addTerm_67 rfl rfl ?_
    refine j_iconst (v := 2) C d_RB_addTerm_68 (by decide) ?_
    refine j_idiv C d_RB_addTerm_69 (by decide) ?_
    rw [e2d hs]
    refine j_iload_n C d_RB_addTerm_70 rfl rfl ?_
    refine j_callV C d_RB_addTerm_71 ml_RB_36 mc_RB_noteField in_RB_noteField rfl se_RB_noteField (by omega) (ovX_c (o := 6) rfl) (c_RB_noteField_6 hl h hn (s0 / 2) (by omega) y) rfl rfl (Nat.le_of_ble_eq_true rfl) (Nat.le_of_ble_eq_true rfl) (Nat.le_of_ble_eq_true rfl) (Nat.le_of_ble_eq_true rfl) (jk_v ?_)
    exact j_vreturn C d_RB_addTerm_74 rfl (by decide) (by decide) ⟨rfl, rfl, rfl⟩
  · exact absurd (show nI c0 < nI 4 from nI_lt hc4 (by omega)) c11

set_option maxHeartbeats 4000000 in
set_option maxRecDepth 100000 in
theorem c_RR_readTerm_6_s {l : Launch} (hl : l.stackTraces = false) {D : va_G} {cA : Nat → ClassId} {b n : Nat} {xo : Nat} {ξ : Nat → Int32} {β : Nat → Nat → Int32} {ρ : Nat → Option Nat} {u v : Nat} (h : AH) (hn : xo + 28 ≤ n) (t a0 : Nat) (h4 : ξ 4 = nI t) (ht : t ≤ 300) (ha0 : a0 ≤ t) (how : Int32) (s0 c0 : Nat) (hs : s0 < 40) (hc : β 9 s0 = nI c0) (hc4 : c0 < 4) (m0 : Int32) (tm : Int32 × Int32 × Option Int32) (P : Nat) (hS : ctm (β 4) t how a0 = some (tm, P)) : Cn l D cA b y_RR_readTerm k_RR_readTerm 3 48 0 0 [.ref (xo + 5), .ref (xo + 6), .int (nI s0), .int m0] n (ovX xo (xq ξ a0) β ρ u v h) (Re (some (.int 1)) n (ovX xo (xq ξ P) (adT 6 β s0 c0 tm.2.1 (tm.2.2.getD 1) m0) ρ u v h)) := by
  refine Cn.of (cc := b_RR_readTerm) (maxL := 6) (ret := (some .boolean)) (hh := []) (by decide +kernel) hl (Or.inl ⟨rfl, rfl⟩) (Nat.le_of_ble_eq_true rfl) ?_
  intro p e s m args below meth c C
  refine j_aload_n C d_RR_readTerm_0 rfl rfl ?_
  refine j_callV C d_RR_readTerm_1 ml_RR_59 mc_RR_readFactor in_RR_readFactor rfl se_RR_readFactor (by omega) (ovX_c (o := 5) rfl) (c_RR_readFactor hl h hn t a0 h4 ht ha0) rfl rfl (Nat.le_of_ble_eq_true rfl) (Nat.le_of_ble_eq_true rfl) (Nat.le_of_ble_eq_true rfl) (Nat.le_of_ble_eq_true rfl) (jk_r ?_)
  refine j_istore C d_RR_readTerm_4 (by decide) rfl ?_
  refine j_iload C d_RR_readTerm_6 rfl ?_
  refine j_ldc (v := (-1000000000)) C d_RR_readTerm_8 lc_RR_63 ?_
  refine j_icmp_ne (tgt := 15) C d_RR_readTerm_10 (by decide) (fun c10 => ?_) (fun c10 => ?_)
  · refine j_aload_n C d_RR_readTerm_15 rfl rfl ?_
    refine j_bipush (v := 47) C d_RR_readTerm_16 (by decide) ?_
    refine j_callV C d_RR_readTerm_18 ml_RR_47 mc_RR_passes in_RR_passes rfl se_RR_passes (by omega) (ovX_c (o := 5) rfl) (c_RR_passes hl h hn t (cfA (β 4) t a0) h4 ht (cfA_le ha0) 47 (by decide)) rfl rfl (Nat.le_of_ble_eq_true rfl) (Nat.le_of_ble_eq_true rfl) (Nat.le_of_ble_eq_true rfl) (Nat.le_of_ble_eq_true rfl) (jk_r ?_)
    refine j_if_eq (tgt := 31) C d_RR_readTerm_21 (by decide) (fun c21 => ?_) (fun c21 => ?_)
    · have hy := pz_n c21
      rw [pp_n hy]
      refine j_iconst (v := 1) C d_RR_readTerm_31 (by decide) ?_
      refine j_istore C d_RR_readTerm_32 (by decide) rfl ?_
      refine j_iload C d_RR_readTerm_34 rfl ?_
      refine j_ldc (v := (-1000000000)) C d_RR_readTerm_36 lc_RR_63 ?_
      refine j_icmp_ne (tgt := 43) C d_RR_readTerm_38 (by decide) (fun c38 => ?_) (fun c38 => ?_)
      · refine j_aload_n C d_RR_readTerm_43 rfl rfl ?_
        refine j_iload_n C d_RR_readTerm_44 rfl rfl ?_
        refine j_iload C d_RR_readTerm_45 rfl ?_
        refine j_iload C d_RR_readTerm_47 rfl ?_
        refine j_iload_n C d_RR_readTerm_49 rfl rfl ?_
        have ev : ctm (β 4) t how a0 = some ((how, (cfV (β 4) t a0), none), (skp (β 4) t (cfA (β 4) t a0))) := (if_neg c10).trans (if_neg hy)
        rw [ev] at hS
        cases hS
        refine j_callV C d_RR_readTerm_50 ml_RR_64 mc_RB_addTerm in_RB_addTerm rfl se_RB_addTerm (by omega) (ovX_c (o := 6) rfl) (c_RB_addTerm_6 hl h hn s0 c0 hs hc hc4 (cfV (β 4) t a0) 1 m0) rfl rfl (Nat.le_of_ble_eq_true rfl) (Nat.le_of_ble_eq_true rfl) (Nat.le_of_ble_eq_true rfl) (Nat.le_of_ble_eq_true rfl) (jk_v ?_)
        refine j_iconst (v := 1) C d_RR_readTerm_53 rfl ?_
        exact j_zreturn C d_RR_readTerm_54 rfl (by decide) (by decide) (by decide) ⟨rfl, rfl, rfl⟩
      · exact absurd c38 (by decide)
    · have hy := pz_y c21
      rw [pp_y hy]
      have hA : (skp (β 4) t (cfA (β 4) t a0)) + 1 ≤ t := hr_lt2 hy (by decide)
      refine j_aload_n C d_RR_readTerm_24 rfl rfl ?_
      refine j_callV C d_RR_readTerm_25 ml_RR_59 mc_RR_readFactor in_RR_readFactor rfl se_RR_readFactor (by omega) (ovX_c (o := 5) rfl) (c_RR_readFactor hl h hn t ((skp (β 4) t (cfA (β 4) t a0)) + 1) h4 ht hA) rfl rfl (Nat.le_of_ble_eq_true rfl) (Nat.le_of_ble_eq_true rfl) (Nat.le_of_ble_eq_true rfl) (Nat.le_of_ble_eq_true rfl) (jk_r ?_)
      refine j_goto (tgt := 32) C d_RR_readTerm_28 (by decide) ?_
      refine j_istore C d_RR_readTerm_32 (by decide) rfl ?_
      refine j_iload C d_RR_readTerm_34 rfl ?_
      refine j_ldc (v := (-1000000000)) C d_RR_readTerm_36 lc_RR_63 ?_
      refine j_icmp_ne (tgt := 43) C d_RR_readTerm_38 (by decide) (fun c38 => ?_) (fun c38 => ?_)
      · refine j_aload_n C d_RR_readTerm_43 rfl rfl ?_
        refine j_iload_n C d_RR_readTerm_44 rfl rfl ?_
        refine j_iload C d_RR_readTerm_45 rfl ?_
        refine j_iload C d_RR_readTerm_47 rfl ?_
        refine j_iload_n C d_RR_readTerm_49 rfl rfl ?_
        have ev : ctm (β 4) t how a0 = some ((how, (cfV (β 4) t a0), some (cfV (β 4) t ((skp (β 4) t (cfA (β 4) t a0)) + 1))), (cfA (β 4) t ((skp (β 4) t (cfA (β 4) t a0)) + 1))) := (if_neg c10).trans ((if_pos hy).trans (if_neg c38))
        rw [ev] at hS
        cases hS
        refine j_callV C d_RR_readTerm_50 ml_RR_64 mc_RB_addTerm in_RB_addTerm rfl se_RB_addTerm (by omega) (ovX_c (o := 6) rfl) (c_RB_addTerm_6 hl h hn s0 c0 hs hc hc4 (cfV (β 4) t a0) (cfV (β 4) t ((skp (β 4) t (cfA (β 4) t a0)) + 1)) m0) rfl rfl (Nat.le_of_ble_eq_true rfl) (Nat.le_of_ble_eq_true rfl) (Nat.le_of_ble_eq_true rfl) (Nat.le_of_ble_eq_true rfl) (jk_v ?_)
        refine j_iconst (v := 1) C d_RR_readTerm_53 rfl ?_
        exact j_zreturn C d_RR_readTerm_54 rfl (by decide) (by decide) (by decide) ⟨rfl, rfl, rfl⟩
      · refine j_iconst (v := 0) C d_RR_readTerm_41 (by decide) ?_
        have ev : ctm (β 4) t how a0 = none := (if_neg c10).trans ((if_pos hy).trans (if_pos c38))
        rw [ev] at hS
        cases hS
  · refine j_iconst (v := 0) C d_RR_readTerm_13 (by decide) ?_
    have ev : ctm (β 4) t how a0 = none := if_pos c10
    rw [ev] at hS
    cases hS

set_option maxHeartbeats 4000000 in
set_option maxRecDepth 100000 in
theorem c_RR_readTerm_6_n {l : Launch} (hl : l.stackTraces = false) {D : va_G} {cA : Nat → ClassId} {b n : Nat} {xo : Nat} {ξ : Nat → Int32} {β : Nat → Nat → Int32} {ρ : Nat → Option Nat} {u v : Nat} (h : AH) (hn : xo + 28 ≤ n) (t a0 : Nat) (h4 : ξ 4 = nI t) (ht : t ≤ 300) (ha0 : a0 ≤ t) (how : Int32) (s0 c0 : Nat) (hs : s0 < 40) (hc : β 9 s0 = nI c0) (hc4 : c0 < 4) (m0 : Int32) (hS : ctm (β 4) t how a0 = none) : Cn l D cA b y_RR_readTerm k_RR_readTerm 3 48 0 0 [.ref (xo + 5), .ref (xo + 6), .int (nI s0), .int m0] n (ovX xo (xq ξ a0) β ρ u v h) (Re (some (.int 0)) n (ovX xo (xq ξ (ctp (β 4) t a0)) β ρ u v h)) := by
  refine Cn.of (cc := b_RR_readTerm) (maxL := 6) (ret := (some .boolean)) (hh := []) (by decide +kernel) hl (Or.inl ⟨rfl, rfl⟩) (Nat.le_of_ble_eq_true rfl) ?_
  intro p e s m args below meth c C
  refine j_aload_n C d_RR_readTerm_0 rfl rfl ?_
  refine j_callV C d_RR_readTerm_1 ml_RR_59 mc_RR_readFactor in_RR_readFactor rfl se_RR_readFactor (by omega) (ovX_c (o := 5) rfl) (c_RR_readFactor hl h hn t a0 h4 ht ha0) rfl rfl (Nat.le_of_ble_eq_true rfl) (Nat.le_of_ble_eq_true rfl) (Nat.le_of_ble_eq_true rfl) (Nat.le_of_ble_eq_true rfl) (jk_r ?_)
  refine j_istore C d_RR_readTerm_4 (by decide) rfl ?_
  refine j_iload C d_RR_readTerm_6 rfl ?_
  refine j_ldc (v := (-1000000000)) C d_RR_readTerm_8 lc_RR_63 ?_
  refine j_icmp_ne (tgt := 15) C d_RR_readTerm_10 (by decide) (fun c10 => ?_) (fun c10 => ?_)
  · refine j_aload_n C d_RR_readTerm_15 rfl rfl ?_
    refine j_bipush (v := 47) C d_RR_readTerm_16 (by decide) ?_
    refine j_callV C d_RR_readTerm_18 ml_RR_47 mc_RR_passes in_RR_passes rfl se_RR_passes (by omega) (ovX_c (o := 5) rfl) (c_RR_passes hl h hn t (cfA (β 4) t a0) h4 ht (cfA_le ha0) 47 (by decide)) rfl rfl (Nat.le_of_ble_eq_true rfl) (Nat.le_of_ble_eq_true rfl) (Nat.le_of_ble_eq_true rfl) (Nat.le_of_ble_eq_true rfl) (jk_r ?_)
    refine j_if_eq (tgt := 31) C d_RR_readTerm_21 (by decide) (fun c21 => ?_) (fun c21 => ?_)
    · have hy := pz_n c21
      rw [pp_n hy]
      refine j_iconst (v := 1) C d_RR_readTerm_31 (by decide) ?_
      refine j_istore C d_RR_readTerm_32 (by decide) rfl ?_
      refine j_iload C d_RR_readTerm_34 rfl ?_
      refine j_ldc (v := (-1000000000)) C d_RR_readTerm_36 lc_RR_63 ?_
      refine j_icmp_ne (tgt := 43) C d_RR_readTerm_38 (by decide) (fun c38 => ?_) (fun c38 => ?_)
      · refine j_aload_n C d_RR_readTerm_43 rfl rfl ?_
        refine j_iload_n C d_RR_readTerm_44 rfl rfl ?_
        refine j_iload C d_RR_readTerm_45 rfl ?_
        refine j_iload C d_RR_readTerm_47 rfl ?_
        refine j_iload_n C d_RR_readTerm_49 rfl rfl ?_
        have ev : ctm (β 4) t how a0 = some ((how, (cfV (β 4) t a0), none), (skp (β 4) t (cfA (β 4) t a0))) := (if_neg c10).trans (if_neg hy)
        rw [ev] at hS
        cases hS
      · exact absurd c38 (by decide)
    · have hy := pz_y c21
      rw [pp_y hy]
      have hA : (skp (β 4) t (cfA (β 4) t a0)) + 1 ≤ t := hr_lt2 hy (by decide)
      refine j_aload_n C d_RR_readTerm_24 rfl rfl ?_
      refine j_callV C d_RR_readTerm_25 ml_RR_59 mc_RR_readFactor in_RR_readFactor rfl se_RR_readFactor (by omega) (ovX_c (o := 5) rfl) (c_RR_readFactor hl h hn t ((skp (β 4) t (cfA (β 4) t a0)) + 1) h4 ht hA) rfl rfl (Nat.le_of_ble_eq_true rfl) (Nat.le_of_ble_eq_true rfl) (Nat.le_of_ble_eq_true rfl) (Nat.le_of_ble_eq_true rfl) (jk_r ?_)
      refine j_goto (tgt := 32) C d_RR_readTerm_28 (by decide) ?_
      refine j_istore C d_RR_readTerm_32 (by decide) rfl ?_
      refine j_iload C d_RR_readTerm_34 rfl ?_
      refine j_ldc (v := (-1000000000)) C d_RR_readTerm_36 lc_RR_63 ?_
      refine j_icmp_ne (tgt := 43) C d_RR_readTerm_38 (by decide) (fun c38 => ?_) (fun c38 => ?_)
      · refine j_aload_n C d_RR_readTerm_43 rfl rfl ?_
        refine j_iload_n C d_RR_readTerm_44 rfl rfl ?_
        refine j_iload C d_RR_readTerm_45 rfl ?_
        refine j_iload C d_RR_readTerm_47 rfl ?_
        refine j_iload_n C d_RR_readTerm_49 rfl rfl ?_
        have ev : ctm (β 4) t how a0 = some ((how, (cfV (β 4) t a0), some (cfV (β 4) t ((skp (β 4) t (cfA (β 4) t a0)) + 1))), (cfA (β 4) t ((skp (β 4) t (cfA (β 4) t a0)) + 1))) := (if_neg c10).trans ((if_pos hy).trans (if_neg c38))
        rw [ev] at hS
        cases hS
      · refine j_iconst (v := 0) C d_RR_readTerm_41 (by decide) ?_
        exact j_zreturn C d_RR_readTerm_42 rfl (by decide) (by decide) (by decide) ⟨rfl, rfl, by unfold ctp; rw [if_neg c10]⟩
  · refine j_iconst (v := 0) C d_RR_readTerm_13 (by decide) ?_
    exact j_zreturn C d_RR_readTerm_14 rfl (by decide) (by decide) (by decide) ⟨rfl, rfl, by unfold ctp; rw [if_pos c10]⟩

set_option maxHeartbeats 4000000 in
set_option maxRecDepth 100000 in
theorem c_RR_readComparison_6_0 {l : Launch} (hl : l.stackTraces = false) {D : va_G} {cA : Nat → ClassId} {b n : Nat} {xo : Nat} {ξ : Nat → Int32} {β : Nat → Nat → Int32} {ρ : Nat → Option Nat} {u v : Nat} (h : AH) (hn : xo + 28 ≤ n) (t a0 : Nat) (h4 : ξ 4 = nI t) (ht : t ≤ 300) (ha0 : a0 ≤ t) (q0 : Nat) (hq : q0 < 20) (hS : hr (β 4) t (skp (β 4) t a0) = 60) : Cn l D cA b y_RR_readComparison k_RR_readComparison 2 25 0 0 [.ref (xo + 5), .ref (xo + 6), .int (nI q0)] n (ovX xo (xq ξ a0) β ρ u v h) (Re (some (.int 1)) n (ovX xo (xq ξ ((skp (β 4) t a0) + 1)) (upa β 7 (upd (β 7) q0 60)) ρ u v h)) := by
  refine Cn.of (cc := b_RR_readComparison) (maxL := 3) (ret := (some .boolean)) (hh := []) (by decide +kernel) hl (Or.inl ⟨rfl, rfl⟩) (Nat.le_of_ble_eq_true rfl) ?_
  intro p e s m args below meth c C
  refine j_aload_n C d_RR_readComparison_0 rfl rfl ?_
  refine j_bipush (v := 60) C d_RR_readComparison_1 (by decide) ?_
  refine j_callV C d_RR_readComparison_3 ml_RR_47 mc_RR_passes in_RR_passes rfl se_RR_passes (by omega) (ovX_c (o := 5) rfl) (c_RR_passes hl h hn t a0 h4 ht ha0 60 (by decide)) rfl rfl (Nat.le_of_ble_eq_true rfl) (Nat.le_of_ble_eq_true rfl) (Nat.le_of_ble_eq_true rfl) (Nat.le_of_ble_eq_true rfl) (jk_r ?_)
  refine j_if_eq (tgt := 20) C d_RR_readComparison_6 (by decide) (fun c6 => ?_) (fun c6 => ?_)
  · exact absurd (hS) (pz_n c6)
  · refine j_aload_n C d_RR_readComparison_9 rfl rfl ?_
    refine jx_get 6 C fl_1_51 d_RR_readComparison_10 hn rfl rfl ?_
    refine j_iload_n C d_RR_readComparison_13 rfl rfl ?_
    refine j_bipush (v := 60) C d_RR_readComparison_14 (by decide) ?_
    refine jx_cast 7 C d_RR_readComparison_16 hn rfl (vp_in_nI (by omega) (by omega)) rfl ?_
    rw [nI_clamp (by omega), pp_y (pz_y c6)]
    refine j_goto (tgt := 62) C d_RR_readComparison_17 (by decide) ?_
    refine j_iconst (v := 1) C d_RR_readComparison_62 (by decide) ?_
    exact j_zreturn C d_RR_readComparison_63 rfl (by decide) (by decide) (by decide) ⟨rfl, rfl, rfl⟩

set_option maxHeartbeats 4000000 in
set_option maxRecDepth 100000 in
theorem c_RR_readComparison_6_1 {l : Launch} (hl : l.stackTraces = false) {D : va_G} {cA : Nat → ClassId} {b n : Nat} {xo : Nat} {ξ : Nat → Int32} {β : Nat → Nat → Int32} {ρ : Nat → Option Nat} {u v : Nat} (h : AH) (hn : xo + 28 ≤ n) (t a0 : Nat) (h4 : ξ 4 = nI t) (ht : t ≤ 300) (ha0 : a0 ≤ t) (q0 : Nat) (hq : q0 < 20) (hS : hr (β 4) t (skp (β 4) t a0) = 61) : Cn l D cA b y_RR_readComparison k_RR_readComparison 2 25 0 0 [.ref (xo + 5), .ref (xo + 6), .int (nI q0)] n (ovX xo (xq ξ a0) β ρ u v h) (Re (some (.int 1)) n (ovX xo (xq ξ ((skp (β 4) t a0) + 1)) (upa β 7 (upd (β 7) q0 61)) ρ u v h)) := by
  refine Cn.of (cc := b_RR_readComparison) (maxL := 3) (ret := (some .boolean)) (hh := []) (by decide +kernel) hl (Or.inl ⟨rfl, rfl⟩) (Nat.le_of_ble_eq_true rfl) ?_
  intro p e s m args below meth c C
  refine j_aload_n C d_RR_readComparison_0 rfl rfl ?_
  refine j_bipush (v := 60) C d_RR_readComparison_1 (by decide) ?_
  refine j_callV C d_RR_readComparison_3 ml_RR_47 mc_RR_passes in_RR_passes rfl se_RR_passes (by omega) (ovX_c (o := 5) rfl) (c_RR_passes hl h hn t a0 h4 ht ha0 60 (by decide)) rfl rfl (Nat.le_of_ble_eq_true rfl) (Nat.le_of_ble_eq_true rfl) (Nat.le_of_ble_eq_true rfl) (Nat.le_of_ble_eq_true rfl) (jk_r ?_)
  refine j_if_eq (tgt := 20) C d_RR_readComparison_6 (by decide) (fun c6 => ?_) (fun c6 => ?_)
  · have hy6 := pz_n c6
    rw [pp_n hy6]
    refine j_aload_n C d_RR_readComparison_20 rfl rfl ?_
    refine j_bipush (v := 61) C d_RR_readComparison_21 (by decide) ?_
    refine j_callV C d_RR_readComparison_23 ml_RR_47 mc_RR_passes in_RR_passes rfl se_RR_passes (by omega) (ovX_c (o := 5) rfl) (c_RR_passes hl h hn t (skp (β 4) t a0) h4 ht (skp_le _ ha0) 61 (by decide)) rfl rfl (Nat.le_of_ble_eq_true rfl) (Nat.le_of_ble_eq_true rfl) (Nat.le_of_ble_eq_true rfl) (Nat.le_of_ble_eq_true rfl) (jk_r ?_)
    refine j_if_eq (tgt := 40) C d_RR_readComparison_26 (by decide) (fun c26 => ?_) (fun c26 => ?_)
    · exact absurd (by rw [skp_skp ha0]; exact hS) (pz_n c26)
    · refine j_aload_n C d_RR_readComparison_29 rfl rfl ?_
      refine jx_get 6 C fl_1_51 d_RR_readComparison_30 hn rfl rfl ?_
      refine j_iload_n C d_RR_readComparison_33 rfl rfl ?_
      refine j_bipush (v := 61) C d_RR_readComparison_34 (by decide) ?_
      refine jx_cast 7 C d_RR_readComparison_36 hn rfl (vp_in_nI (by omega) (by omega)) rfl ?_
      rw [nI_clamp (by omega), pp_y (pz_y c26), skp_skp ha0]
      refine j_goto (tgt := 62) C d_RR_readComparison_37 (by decide) ?_
      refine j_iconst (v := 1) C d_RR_readComparison_62 (by decide) ?_
      exact j_zreturn C d_RR_readComparison_63 rfl (by decide) (by decide) (by decide) ⟨rfl, rfl, rfl⟩
  · exact absurd ((pz_y c6).symm.trans (hS)) (by decide)

set_option maxHeartbeats 4000000 in
set_option maxRecDepth 100000 in
theorem c_RR_readComparison_6_2 {l : Launch} (hl : l.stackTraces = false) {D : va_G} {cA : Nat → ClassId} {b n : Nat} {xo : Nat} {ξ : Nat → Int32} {β : Nat → Nat → Int32} {ρ : Nat → Option Nat} {u v : Nat} (h : AH) (hn : xo + 28 ≤ n) (t a0 : Nat) (h4 : ξ 4 = nI t) (ht : t ≤ 300) (ha0 : a0 ≤ t) (q0 : Nat) (hq : q0 < 20) (hS : hr (β 4) t (skp (β 4) t a0) = 33) : Cn l D cA b y_RR_readComparison k_RR_readComparison 2 25 0 0 [.ref (xo + 5), .ref (xo + 6), .int (nI q0)] n (ovX xo (xq ξ a0) β ρ u v h) (Re (some (.int 1)) n (ovX xo (xq ξ ((skp (β 4) t a0) + 1)) (upa β 7 (upd (β 7) q0 33)) ρ u v h)) := by
  refine Cn.of (cc := b_RR_readComparison) (maxL := 3) (ret := (some .boolean)) (hh := []) (by decide +kernel) hl (Or.inl ⟨rfl, rfl⟩) (Nat.le_of_ble_eq_true rfl) ?_
  intro p e s m args below meth c C
  refine j_aload_n C d_RR_readComparison_0 rfl rfl ?_
  refine j_bipush (v := 60) C d_RR_readComparison_1 (by decide) ?_
  refine j_callV C d_RR_readComparison_3 ml_RR_47 mc_RR_passes in_RR_passes rfl se_RR_passes (by omega) (ovX_c (o := 5) rfl) (c_RR_passes hl h hn t a0 h4 ht ha0 60 (by decide)) rfl rfl (Nat.le_of_ble_eq_true rfl) (Nat.le_of_ble_eq_true rfl) (Nat.le_of_ble_eq_true rfl) (Nat.le_of_ble_eq_true rfl) (jk_r ?_)
  refine j_if_eq (tgt := 20) C d_RR_readComparison_6 (by decide) (fun c6 => ?_) (fun c6 => ?_)
  · have hy6 := pz_n c6
    rw [pp_n hy6]
    refine j_aload_n C d_RR_readComparison_20 rfl rfl ?_
    refine j_bipush (v := 61) C d_RR_readComparison_21 (by decide) ?_
    refine j_callV C d_RR_readComparison_23 ml_RR_47 mc_RR_passes in_RR_passes rfl se_RR_passes (by omega) (ovX_c (o := 5) rfl) (c_RR_passes hl h hn t (skp (β 4) t a0) h4 ht (skp_le _ ha0) 61 (by decide)) rfl rfl (Nat.le_of_ble_eq_true rfl) (Nat.le_of_ble_eq_true rfl) (Nat.le_of_ble_eq_true rfl) (Nat.le_of_ble_eq_true rfl) (jk_r ?_)
    refine j_if_eq (tgt := 40) C d_RR_readComparison_26 (by decide) (fun c26 => ?_) (fun c26 => ?_)
    · have hy26 := pz_n c26
      rw [pp_n hy26, skp_skp ha0]
      refine j_aload_n C d_RR_readComparison_40 rfl rfl ?_
      refine j_bipush (v := 33) C d_RR_readComparison_41 (by decide) ?_
      refine j_callV C d_RR_readComparison_43 ml_RR_47 mc_RR_passes in_RR_passes rfl se_RR_passes (by omega) (ovX_c (o := 5) rfl) (c_RR_passes hl h hn t (skp (β 4) t a0) h4 ht (skp_le _ ha0) 33 (by decide)) rfl rfl (Nat.le_of_ble_eq_true rfl) (Nat.le_of_ble_eq_true rfl) (Nat.le_of_ble_eq_true rfl) (Nat.le_of_ble_eq_true rfl) (jk_r ?_)
      refine j_if_eq (tgt := 60) C d_RR_readComparison_46 (by decide) (fun c46 => ?_) (fun c46 => ?_)
      · exact absurd (by rw [skp_skp ha0]; exact hS) (pz_n c46)
      · refine j_aload_n C d_RR_readComparison_49 rfl rfl ?_
        refine jx_get 6 C fl_1_51 d_RR_readComparison_50 hn rfl rfl ?_
        refine j_iload_n C d_RR_readComparison_53 rfl rfl ?_
        refine j_bipush (v := 33) C d_RR_readComparison_54 (by decide) ?_
        refine jx_cast 7 C d_RR_readComparison_56 hn rfl (vp_in_nI (by omega) (by omega)) rfl ?_
        rw [nI_clamp (by omega), pp_y (pz_y c46), skp_skp ha0]
        refine j_goto (tgt := 62) C d_RR_readComparison_57 (by decide) ?_
        refine j_iconst (v := 1) C d_RR_readComparison_62 (by decide) ?_
        exact j_zreturn C d_RR_readComparison_63 rfl (by decide) (by decide) (by decide) ⟨rfl, rfl, rfl⟩
    · exact absurd ((pz_y c26).symm.trans (show hr (β 4) t (skp (β 4) t (skp (β 4) t a0)) = 33 by rw [skp_skp ha0]; exact hS)) (by decide)
  · exact absurd ((pz_y c6).symm.trans (hS)) (by decide)

set_option maxHeartbeats 4000000 in
set_option maxRecDepth 100000 in
theorem c_RR_readComparison_6_3 {l : Launch} (hl : l.stackTraces = false) {D : va_G} {cA : Nat → ClassId} {b n : Nat} {xo : Nat} {ξ : Nat → Int32} {β : Nat → Nat → Int32} {ρ : Nat → Option Nat} {u v : Nat} (h : AH) (hn : xo + 28 ≤ n) (t a0 : Nat) (h4 : ξ 4 = nI t) (ht : t ≤ 300) (ha0 : a0 ≤ t) (q0 : Nat) (hq : q0 < 20) (hS : ¬ (hr (β 4) t (skp (β 4) t a0) = 60 ∨ hr (β 4) t (skp (β 4) t a0) = 61 ∨ hr (β 4) t (skp (β 4) t a0) = 33)) : Cn l D cA b y_RR_readComparison k_RR_readComparison 2 25 0 0 [.ref (xo + 5), .ref (xo + 6), .int (nI q0)] n (ovX xo (xq ξ a0) β ρ u v h) (Re (some (.int 0)) n (ovX xo (xq ξ (skp (β 4) t a0)) β ρ u v h)) := by
  refine Cn.of (cc := b_RR_readComparison) (maxL := 3) (ret := (some .boolean)) (hh := []) (by decide +kernel) hl (Or.inl ⟨rfl, rfl⟩) (Nat.le_of_ble_eq_true rfl) ?_
  intro p e s m args below meth c C
  refine j_aload_n C d_RR_readComparison_0 rfl rfl ?_
  refine j_bipush (v := 60) C d_RR_readComparison_1 (by decide) ?_
  refine j_callV C d_RR_readComparison_3 ml_RR_47 mc_RR_passes in_RR_passes rfl se_RR_passes (by omega) (ovX_c (o := 5) rfl) (c_RR_passes hl h hn t a0 h4 ht ha0 60 (by decide)) rfl rfl (Nat.le_of_ble_eq_true rfl) (Nat.le_of_ble_eq_true rfl) (Nat.le_of_ble_eq_true rfl) (Nat.le_of_ble_eq_true rfl) (jk_r ?_)
  refine j_if_eq (tgt := 20) C d_RR_readComparison_6 (by decide) (fun c6 => ?_) (fun c6 => ?_)
  · have hy6 := pz_n c6
    rw [pp_n hy6]
    refine j_aload_n C d_RR_readComparison_20 rfl rfl ?_
    refine j_bipush (v := 61) C d_RR_readComparison_21 (by decide) ?_
    refine j_callV C d_RR_readComparison_23 ml_RR_47 mc_RR_passes in_RR_passes rfl se_RR_passes (by omega) (ovX_c (o := 5) rfl) (c_RR_passes hl h hn t (skp (β 4) t a0) h4 ht (skp_le _ ha0) 61 (by decide)) rfl rfl (Nat.le_of_ble_eq_true rfl) (Nat.le_of_ble_eq_true rfl) (Nat.le_of_ble_eq_true rfl) (Nat.le_of_ble_eq_true rfl) (jk_r ?_)
    refine j_if_eq (tgt := 40) C d_RR_readComparison_26 (by decide) (fun c26 => ?_) (fun c26 => ?_)
    · have hy26 := pz_n c26
      rw [pp_n hy26, skp_skp ha0]
      refine j_aload_n C d_RR_readComparison_40 rfl rfl ?_
      refine j_bipush (v := 33) C d_RR_readComparison_41 (by decide) ?_
      refine j_callV C d_RR_readComparison_43 ml_RR_47 mc_RR_passes in_RR_passes rfl se_RR_passes (by omega) (ovX_c (o := 5) rfl) (c_RR_passes hl h hn t (skp (β 4) t a0) h4 ht (skp_le _ ha0) 33 (by decide)) rfl rfl (Nat.le_of_ble_eq_true rfl) (Nat.le_of_ble_eq_true rfl) (Nat.le_of_ble_eq_true rfl) (Nat.le_of_ble_eq_true rfl) (jk_r ?_)
      refine j_if_eq (tgt := 60) C d_RR_readComparison_46 (by decide) (fun c46 => ?_) (fun c46 => ?_)
      · have hy46 := pz_n c46
        rw [pp_n hy46, skp_skp ha0]
        refine j_iconst (v := 0) C d_RR_readComparison_60 (by decide) ?_
        exact j_zreturn C d_RR_readComparison_61 rfl (by decide) (by decide) (by decide) ⟨rfl, rfl, rfl⟩
      · exact absurd (Or.inr (Or.inr (by have z := pz_y c46; rw [skp_skp ha0] at z; exact z))) hS
    · exact absurd (Or.inr (Or.inl (by have z := pz_y c26; rw [skp_skp ha0] at z; exact z))) hS
  · exact absurd (Or.inl (pz_y c6)) hS

set_option maxHeartbeats 4000000 in
set_option maxRecDepth 100000 in
theorem c_RB_noteField_13 {l : Launch} (hl : l.stackTraces = false) {D : va_G} {cA : Nat → ClassId} {b n : Nat} {xo : Nat} {ξ : Nat → Int32} {β : Nat → Nat → Int32} {ρ : Nat → Option Nat} {u v : Nat} (h : AH) (hn : xo + 28 ≤ n) (q0 : Nat) (hq : q0 < 20) (x : Int32) : Cn l D cA b y_RB_noteField k_RB_noteField 1 16 0 0 [.ref (xo + 13), .int (nI q0), .int x] n (ovX xo ξ β ρ u v h) (Re none n (ovX xo ξ (nt β (13 + 2) q0 x) ρ u v h)) := by
  refine Cn.of (cc := b_RB_noteField) (maxL := 3) (ret := none) (hh := []) (by decide +kernel) hl (Or.inl ⟨rfl, rfl⟩) (Nat.le_of_ble_eq_true rfl) ?_
  intro p e s m args below meth c C
  refine j_iload_n C d_RB_noteField_0 rfl rfl ?_
  refine j_if_ge (tgt := 23) C d_RB_noteField_1 (by decide) (fun c1 => ?_) (fun c1 => ?_)
  · exact j_vreturn C d_RB_noteField_23 rfl (by decide) (by decide) ⟨rfl, rfl, by unfold nt; rw [if_pos c1]⟩
  · refine j_aload_n C d_RB_noteField_4 rfl rfl ?_
    refine jx_get 13 C fl_2_19 d_RB_noteField_5 hn rfl rfl ?_
    refine j_iload_n C d_RB_noteField_8 rfl rfl ?_
    refine j_aload_n C d_RB_noteField_9 rfl rfl ?_
    refine jx_get 13 C fl_2_19 d_RB_noteField_10 hn rfl rfl ?_
    refine j_iload_n C d_RB_noteField_13 rfl rfl ?_
    refine jx_iald (w := β 15 q0) 15 C d_RB_noteField_14 hn rfl (vp_in_nI (by omega) (by omega)) (by rw [nI_clamp (by omega)]) ?_
    refine j_iconst (v := (-1)) C d_RB_noteField_15 (by decide) ?_
    refine j_iload_n C d_RB_noteField_16 rfl rfl ?_
    refine j_isub C d_RB_noteField_17 ?_
    refine j_iconst (v := 1) C d_RB_noteField_18 (by decide) ?_
    refine j_callS C d_RB_noteField_19 ml_RB_40 mc_X_changed st_X_changed (c_X_changed hl _ _ _ _) rfl rfl (Nat.le_of_ble_eq_true rfl) (Nat.le_of_ble_eq_true rfl) (Nat.le_of_ble_eq_true rfl) (Nat.le_of_ble_eq_true rfl) (jk_r ?_)
    refine jx_iast 15 C d_RB_noteField_22 hn rfl (vp_in_nI (by omega) (by omega)) rfl ?_
    rw [nI_clamp (by omega)]
    exact j_vreturn C d_RB_noteField_23 rfl (by decide) (by decide) ⟨rfl, rfl, by unfold nt; rw [if_neg c1]⟩

set_option maxHeartbeats 4000000 in
set_option maxRecDepth 100000 in
theorem c_RB_startRule_13 {l : Launch} (hl : l.stackTraces = false) {D : va_G} {cA : Nat → ClassId} {b n : Nat} {xo : Nat} {ξ : Nat → Int32} {β : Nat → Nat → Int32} {ρ : Nat → Option Nat} {u v : Nat} (h : AH) (hn : xo + 28 ≤ n) (q0 : Nat) (hq : q0 < 20) : Cn l D cA b y_RB_startRule k_RB_startRule 0 0 0 0 [.ref (xo + 13), .int (nI q0)] n (ovX xo ξ β ρ u v h) (Re none n (ovX xo ξ (stR 13 β q0) ρ u v h)) := by
  refine Cn.of (cc := b_RB_startRule) (maxL := 2) (ret := none) (hh := []) (by decide +kernel) hl (Or.inl ⟨rfl, rfl⟩) (Nat.le_of_ble_eq_true rfl) ?_
  intro p e s m args below meth c C
  refine j_aload_n C d_RB_startRule_0 rfl rfl ?_
  refine jx_get 13 C fl_2_19 d_RB_startRule_1 hn rfl rfl ?_
  refine j_iload_n C d_RB_startRule_4 rfl rfl ?_
  refine j_iconst (v := 0) C d_RB_startRule_5 (by decide) ?_
  refine jx_iast 15 C d_RB_startRule_6 hn rfl (vp_in_nI (by omega) (by omega)) rfl ?_
  rw [nI_clamp (by omega)]
  refine j_aload_n C d_RB_startRule_7 rfl rfl ?_
  refine jx_get 13 C fl_2_23 d_RB_startRule_8 hn rfl rfl ?_
  refine j_iconst (v := 2) C d_RB_startRule_11 (by decide) ?_
  refine j_iload_n C d_RB_startRule_12 rfl rfl ?_
  refine j_imul C d_RB_startRule_13 ?_
  rw [e2q]
  refine j_iconst (v := 0) C d_RB_startRule_14 (by decide) ?_
  refine jx_iast 16 C d_RB_startRule_15 hn rfl (vp_in_nI (by omega) (by omega)) rfl ?_
  rw [nI_clamp (by omega)]
  refine j_aload_n C d_RB_startRule_16 rfl rfl ?_
  refine jx_get 13 C fl_2_23 d_RB_startRule_17 hn rfl rfl ?_
  refine j_iconst (v := 2) C d_RB_startRule_20 (by decide) ?_
  refine j_iload_n C d_RB_startRule_21 rfl rfl ?_
  refine j_imul C d_RB_startRule_22 ?_
  refine j_iconst (v := 1) C d_RB_startRule_23 (by decide) ?_
  refine j_iadd C d_RB_startRule_24 ?_
  rw [e2q1]
  refine j_iconst (v := 0) C d_RB_startRule_25 (by decide) ?_
  refine jx_iast 16 C d_RB_startRule_26 hn rfl (vp_in_nI (by omega) (by omega)) rfl ?_
  rw [nI_clamp (by omega)]
  exact j_vreturn C d_RB_startRule_27 rfl (by decide) (by decide) ⟨rfl, rfl, by unfold stR; rw [upa_uu]; rfl⟩

set_option maxHeartbeats 4000000 in
set_option maxRecDepth 100000 in
theorem c_RB_addTerm_13 {l : Launch} (hl : l.stackTraces = false) {D : va_G} {cA : Nat → ClassId} {b n : Nat} {xo : Nat} {ξ : Nat → Int32} {β : Nat → Nat → Int32} {ρ : Nat → Option Nat} {u v : Nat} (h : AH) (hn : xo + 28 ≤ n) (s0 c0 : Nat) (hs : s0 < 40) (hc : β 16 s0 = nI c0) (hc4 : c0 < 4) (x y m0 : Int32) : Cn l D cA b y_RB_addTerm k_RB_addTerm 2 30 0 0 [.ref (xo + 13), .int (nI s0), .int x, .int y, .int m0] n (ovX xo ξ β ρ u v h) (Re none n (ovX xo ξ (adT 13 β s0 c0 x y m0) ρ u v h)) := by
  refine Cn.of (cc := b_RB_addTerm) (maxL := 7) (ret := none) (hh := []) (by decide +kernel) hl (Or.inl ⟨rfl, rfl⟩) (Nat.le_of_ble_eq_true rfl) ?_
  intro p e s m args below meth c C
  refine j_aload_n C d_RB_addTerm_0 rfl rfl ?_
  refine jx_get 13 C fl_2_23 d_RB_addTerm_1 hn rfl rfl ?_
  refine j_iload_n C d_RB_addTerm_4 rfl rfl ?_
  refine jx_iald (w := nI c0) 16 C d_RB_addTerm_5 hn rfl (vp_in_nI (by omega) (by omega)) (by rw [nI_clamp (by omega)]; exact hc) ?_
  refine j_istore C d_RB_addTerm_6 (by decide) rfl ?_
  refine j_iload C d_RB_addTerm_8 rfl ?_
  refine j_iconst (v := 4) C d_RB_addTerm_10 (by decide) ?_
  refine j_icmp_lt (tgt := 15) C d_RB_addTerm_11 (by decide) (fun c11 => ?_) (fun c11 => ?_)
  · refine j_iload_n C d_RB_addTerm_15 rfl rfl ?_
    refine j_iconst (v := 4) C d_RB_addTerm_16 (by decide) ?_
    refine j_imul C d_RB_addTerm_17 ?_
    refine j_iload C d_RB_addTerm_18 rfl ?_
    refine j_iadd C d_RB_addTerm_20 ?_
    rw [e4s]
    refine j_istore C d_RB_addTerm_21 (by decide) rfl ?_
    refine j_aload_n C d_RB_addTerm_23 rfl rfl ?_
    refine jx_get 13 C fl_2_26 d_RB_addTerm_24 hn rfl rfl ?_
    refine j_iload C d_RB_addTerm_27 rfl ?_
    refine j_iload_n C d_RB_addTerm_29 rfl rfl ?_
    refine jx_iast 17 C d_RB_addTerm_30 hn rfl (vp_in_nI (by omega) (by omega)) rfl ?_
    rw [nI_clamp (by omega)]
    refine j_aload_n C d_RB_addTerm_31 rfl rfl ?_
    refine jx_get 13 C fl_2_29 d_RB_addTerm_32 hn rfl rfl ?_
    refine j_iload C d_RB_addTerm_35 rfl ?_
    refine j_iload_n C d_RB_addTerm_37 rfl rfl ?_
    refine jx_iast 18 C d_RB_addTerm_38 hn rfl (vp_in_nI (by omega) (by omega)) rfl ?_
    rw [nI_clamp (by omega)]
    refine j_aload_n C d_RB_addTerm_39 rfl rfl ?_
    refine jx_get 13 C fl_2_32 d_RB_addTerm_40 hn rfl rfl ?_
    refine j_iload C d_RB_addTerm_43 rfl ?_
    refine j_iload C d_RB_addTerm_45 rfl ?_
    refine jx_zast 19 C d_RB_addTerm_47 hn rfl (vp_in_nI (by omega) (by omega)) rfl ?_
    rw [nI_clamp (by omega)]
    refine j_aload_n C d_RB_addTerm_48 rfl rfl ?_
    refine jx_get 13 C fl_2_23 d_RB_addTerm_49 hn rfl rfl ?_
    refine j_iload_n C d_RB_addTerm_52 rfl rfl ?_
    refine j_iload C d_RB_addTerm_53 rfl ?_
    refine j_iconst (v := 1) C d_RB_addTerm_55 (by decide) ?_
    refine j_iadd C d_RB_addTerm_56 ?_
    rw [nI_1]
    refine jx_iast 16 C d_RB_addTerm_57 hn rfl (vp_in_nI (by omega) (by omega)) rfl ?_
    rw [nI_clamp (by omega)]
    refine j_aload_n C d_RB_addTerm_58 rfl rfl ?_
    refine j_iload_n C d_RB_addTerm_59 rfl rfl ?_
    refine j_iconst (v := 2) C d_RB_addTerm_60 (by decide) ?_
    refine j_idiv C d_RB_addTerm_61 (by decide) ?_
    rw [e2d hs]
    refine j_iload_n C d_RB_addTerm_62 rfl rfl ?_
    refine j_callV C d_RB_addTerm_63 ml_RB_36 mc_RB_noteField in_RB_noteField rfl se_RB_noteField (by omega) (ovX_c (o := 13) rfl) (c_RB_noteField_13 hl h hn (s0 / 2) (by omega) x) rfl rfl (Nat.le_of_ble_eq_true rfl) (Nat.le_of_ble_eq_true rfl) (Nat.le_of_ble_eq_true rfl) (Nat.le_of_ble_eq_true rfl) (jk_v ?_)
    refine j_aload_n C d_RB_addTerm_66 rfl rfl ?_
    refine j_iload_n C d_RB_addTerm_67 rfl rfl ?_
    refine j_iconst (v := 2) C d_RB_addTerm_68 (by decide) ?_
    refine j_idiv C d_RB_addTerm_69 (by decide) ?_
    rw [e2d hs]
    refine j_iload_n C d_RB_addTerm_70 rfl rfl ?_
    refine j_callV C d_RB_addTerm_71 ml_RB_36 mc_RB_noteField in_RB_noteField rfl se_RB_noteField (by omega) (ovX_c (o := 13) rfl) (c_RB_noteField_13 hl h hn (s0 / 2) (by omega) y) rfl rfl (Nat.le_of_ble_eq_true rfl) (Nat.le_of_ble_eq_true rfl) (Nat.le_of_ble_eq_true rfl) (Nat.le_of_ble_eq_true rfl) (jk_v ?_)
    exact j_vreturn C d_RB_addTerm_74 rfl (by decide) (by decide) ⟨rfl, rfl, rfl⟩
  · exact absurd (show nI c0 < nI 4 from nI_lt hc4 (by omega)) c11

set_option maxHeartbeats 4000000 in
set_option maxRecDepth 100000 in
theorem c_RR_readTerm_13_s {l : Launch} (hl : l.stackTraces = false) {D : va_G} {cA : Nat → ClassId} {b n : Nat} {xo : Nat} {ξ : Nat → Int32} {β : Nat → Nat → Int32} {ρ : Nat → Option Nat} {u v : Nat} (h : AH) (hn : xo + 28 ≤ n) (t a0 : Nat) (h4 : ξ 4 = nI t) (ht : t ≤ 300) (ha0 : a0 ≤ t) (how : Int32) (s0 c0 : Nat) (hs : s0 < 40) (hc : β 16 s0 = nI c0) (hc4 : c0 < 4) (m0 : Int32) (tm : Int32 × Int32 × Option Int32) (P : Nat) (hS : ctm (β 4) t how a0 = some (tm, P)) : Cn l D cA b y_RR_readTerm k_RR_readTerm 3 48 0 0 [.ref (xo + 5), .ref (xo + 13), .int (nI s0), .int m0] n (ovX xo (xq ξ a0) β ρ u v h) (Re (some (.int 1)) n (ovX xo (xq ξ P) (adT 13 β s0 c0 tm.2.1 (tm.2.2.getD 1) m0) ρ u v h)) := by
  refine Cn.of (cc := b_RR_readTerm) (maxL := 6) (ret := (some .boolean)) (hh := []) (by decide +kernel) hl (Or.inl ⟨rfl, rfl⟩) (Nat.le_of_ble_eq_true rfl) ?_
  intro p e s m args below meth c C
  refine j_aload_n C d_RR_readTerm_0 rfl rfl ?_
  refine j_callV C d_RR_readTerm_1 ml_RR_59 mc_RR_readFactor in_RR_readFactor rfl se_RR_readFactor (by omega) (ovX_c (o := 5) rfl) (c_RR_readFactor hl h hn t a0 h4 ht ha0) rfl rfl (Nat.le_of_ble_eq_true rfl) (Nat.le_of_ble_eq_true rfl) (Nat.le_of_ble_eq_true rfl) (Nat.le_of_ble_eq_true rfl) (jk_r ?_)
  refine j_istore C d_RR_readTerm_4 (by decide) rfl ?_
  refine j_iload C d_RR_readTerm_6 rfl ?_
  refine j_ldc (v := (-1000000000)) C d_RR_readTerm_8 lc_RR_63 ?_
  refine j_icmp_ne (tgt := 15) C d_RR_readTerm_10 (by decide) (fun c10 => ?_) (fun c10 => ?_)
  · refine j_aload_n C d_RR_readTerm_15 rfl rfl ?_
    refine j_bipush (v := 47) C d_RR_readTerm_16 (by decide) ?_
    refine j_callV C d_RR_readTerm_18 ml_RR_47 mc_RR_passes in_RR_passes rfl se_RR_passes (by omega) (ovX_c (o := 5) rfl) (c_RR_passes hl h hn t (cfA (β 4) t a0) h4 ht (cfA_le ha0) 47 (by decide)) rfl rfl (Nat.le_of_ble_eq_true rfl) (Nat.le_of_ble_eq_true rfl) (Nat.le_of_ble_eq_true rfl) (Nat.le_of_ble_eq_true rfl) (jk_r ?_)
    refine j_if_eq (tgt := 31) C d_RR_readTerm_21 (by decide) (fun c21 => ?_) (fun c21 => ?_)
    · have hy := pz_n c21
      rw [pp_n hy]
      refine j_iconst (v := 1) C d_RR_readTerm_31 (by decide) ?_
      refine j_istore C d_RR_readTerm_32 (by decide) rfl ?_
      refine j_iload C d_RR_readTerm_34 rfl ?_
      refine j_ldc (v := (-1000000000)) C d_RR_readTerm_36 lc_RR_63 ?_
      refine j_icmp_ne (tgt := 43) C d_RR_readTerm_38 (by decide) (fun c38 => ?_) (fun c38 => ?_)
      · refine j_aload_n C d_RR_readTerm_43 rfl rfl ?_
        refine j_iload_n C d_RR_readTerm_44 rfl rfl ?_
        refine j_iload C d_RR_readTerm_45 rfl ?_
        refine j_iload C d_RR_readTerm_47 rfl ?_
        refine j_iload_n C d_RR_readTerm_49 rfl rfl ?_
        have ev : ctm (β 4) t how a0 = some ((how, (cfV (β 4) t a0), none), (skp (β 4) t (cfA (β 4) t a0))) := (if_neg c10).trans (if_neg hy)
        rw [ev] at hS
        cases hS
        refine j_callV C d_RR_readTerm_50 ml_RR_64 mc_RB_addTerm in_RB_addTerm rfl se_RB_addTerm (by omega) (ovX_c (o := 13) rfl) (c_RB_addTerm_13 hl h hn s0 c0 hs hc hc4 (cfV (β 4) t a0) 1 m0) rfl rfl (Nat.le_of_ble_eq_true rfl) (Nat.le_of_ble_eq_true rfl) (Nat.le_of_ble_eq_true rfl) (Nat.le_of_ble_eq_true rfl) (jk_v ?_)
        refine j_iconst (v := 1) C d_RR_readTerm_53 rfl ?_
        exact j_zreturn C d_RR_readTerm_54 rfl (by decide) (by decide) (by decide) ⟨rfl, rfl, rfl⟩
      · exact absurd c38 (by decide)
    · have hy := pz_y c21
      rw [pp_y hy]
      have hA : (skp (β 4) t (cfA (β 4) t a0)) + 1 ≤ t := hr_lt2 hy (by decide)
      refine j_aload_n C d_RR_readTerm_24 rfl rfl ?_
      refine j_callV C d_RR_readTerm_25 ml_RR_59 mc_RR_readFactor in_RR_readFactor rfl se_RR_readFactor (by omega) (ovX_c (o := 5) rfl) (c_RR_readFactor hl h hn t ((skp (β 4) t (cfA (β 4) t a0)) + 1) h4 ht hA) rfl rfl (Nat.le_of_ble_eq_true rfl) (Nat.le_of_ble_eq_true rfl) (Nat.le_of_ble_eq_true rfl) (Nat.le_of_ble_eq_true rfl) (jk_r ?_)
      refine j_goto (tgt := 32) C d_RR_readTerm_28 (by decide) ?_
      refine j_istore C d_RR_readTerm_32 (by decide) rfl ?_
      refine j_iload C d_RR_readTerm_34 rfl ?_
      refine j_ldc (v := (-1000000000)) C d_RR_readTerm_36 lc_RR_63 ?_
      refine j_icmp_ne (tgt := 43) C d_RR_readTerm_38 (by decide) (fun c38 => ?_) (fun c38 => ?_)
      · refine j_aload_n C d_RR_readTerm_43 rfl rfl ?_
        refine j_iload_n C d_RR_readTerm_44 rfl rfl ?_
        refine j_iload C d_RR_readTerm_45 rfl ?_
        refine j_iload C d_RR_readTerm_47 rfl ?_
        refine j_iload_n C d_RR_readTerm_49 rfl rfl ?_
        have ev : ctm (β 4) t how a0 = some ((how, (cfV (β 4) t a0), some (cfV (β 4) t ((skp (β 4) t (cfA (β 4) t a0)) + 1))), (cfA (β 4) t ((skp (β 4) t (cfA (β 4) t a0)) + 1))) := (if_neg c10).trans ((if_pos hy).trans (if_neg c38))
        rw [ev] at hS
        cases hS
        refine j_callV C d_RR_readTerm_50 ml_RR_64 mc_RB_addTerm in_RB_addTerm rfl se_RB_addTerm (by omega) (ovX_c (o := 13) rfl) (c_RB_addTerm_13 hl h hn s0 c0 hs hc hc4 (cfV (β 4) t a0) (cfV (β 4) t ((skp (β 4) t (cfA (β 4) t a0)) + 1)) m0) rfl rfl (Nat.le_of_ble_eq_true rfl) (Nat.le_of_ble_eq_true rfl) (Nat.le_of_ble_eq_true rfl) (Nat.le_of_ble_eq_true rfl) (jk_v ?_)
        refine j_iconst (v := 1) C d_RR_readTerm_53 rfl ?_
        exact j_zreturn C d_RR_readTerm_54 rfl (by decide) (by decide) (by decide) ⟨rfl, rfl, rfl⟩
      · refine j_iconst (v := 0) C d_RR_readTerm_41 (by decide) ?_
        have ev : ctm (β 4) t how a0 = none := (if_neg c10).trans ((if_pos hy).trans (if_pos c38))
        rw [ev] at hS
        cases hS
  · refine j_iconst (v := 0) C d_RR_readTerm_13 (by decide) ?_
    have ev : ctm (β 4) t how a0 = none := if_pos c10
    rw [ev] at hS
    cases hS

set_option maxHeartbeats 4000000 in
set_option maxRecDepth 100000 in
theorem c_RR_readTerm_13_n {l : Launch} (hl : l.stackTraces = false) {D : va_G} {cA : Nat → ClassId} {b n : Nat} {xo : Nat} {ξ : Nat → Int32} {β : Nat → Nat → Int32} {ρ : Nat → Option Nat} {u v : Nat} (h : AH) (hn : xo + 28 ≤ n) (t a0 : Nat) (h4 : ξ 4 = nI t) (ht : t ≤ 300) (ha0 : a0 ≤ t) (how : Int32) (s0 c0 : Nat) (hs : s0 < 40) (hc : β 16 s0 = nI c0) (hc4 : c0 < 4) (m0 : Int32) (hS : ctm (β 4) t how a0 = none) : Cn l D cA b y_RR_readTerm k_RR_readTerm 3 48 0 0 [.ref (xo + 5), .ref (xo + 13), .int (nI s0), .int m0] n (ovX xo (xq ξ a0) β ρ u v h) (Re (some (.int 0)) n (ovX xo (xq ξ (ctp (β 4) t a0)) β ρ u v h)) := by
  refine Cn.of (cc := b_RR_readTerm) (maxL := 6) (ret := (some .boolean)) (hh := []) (by decide +kernel) hl (Or.inl ⟨rfl, rfl⟩) (Nat.le_of_ble_eq_true rfl) ?_
  intro p e s m args below meth c C
  refine j_aload_n C d_RR_readTerm_0 rfl rfl ?_
  refine j_callV C d_RR_readTerm_1 ml_RR_59 mc_RR_readFactor in_RR_readFactor rfl se_RR_readFactor (by omega) (ovX_c (o := 5) rfl) (c_RR_readFactor hl h hn t a0 h4 ht ha0) rfl rfl (Nat.le_of_ble_eq_true rfl) (Nat.le_of_ble_eq_true rfl) (Nat.le_of_ble_eq_true rfl) (Nat.le_of_ble_eq_true rfl) (jk_r ?_)
  refine j_istore C d_RR_readTerm_4 (by decide) rfl ?_
  refine j_iload C d_RR_readTerm_6 rfl ?_
  refine j_ldc (v := (-1000000000)) C d_RR_readTerm_8 lc_RR_63 ?_
  refine j_icmp_ne (tgt := 15) C d_RR_readTerm_10 (by decide) (fun c10 => ?_) (fun c10 => ?_)
  · refine j_aload_n C d_RR_readTerm_15 rfl rfl ?_
    refine j_bipush (v := 47) C d_RR_readTerm_16 (by decide) ?_
    refine j_callV C d_RR_readTerm_18 ml_RR_47 mc_RR_passes in_RR_passes rfl se_RR_passes (by omega) (ovX_c (o := 5) rfl) (c_RR_passes hl h hn t (cfA (β 4) t a0) h4 ht (cfA_le ha0) 47 (by decide)) rfl rfl (Nat.le_of_ble_eq_true rfl) (Nat.le_of_ble_eq_true rfl) (Nat.le_of_ble_eq_true rfl) (Nat.le_of_ble_eq_true rfl) (jk_r ?_)
    refine j_if_eq (tgt := 31) C d_RR_readTerm_21 (by decide) (fun c21 => ?_) (fun c21 => ?_)
    · have hy := pz_n c21
      rw [pp_n hy]
      refine j_iconst (v := 1) C d_RR_readTerm_31 (by decide) ?_
      refine j_istore C d_RR_readTerm_32 (by decide) rfl ?_
      refine j_iload C d_RR_readTerm_34 rfl ?_
      refine j_ldc (v := (-1000000000)) C d_RR_readTerm_36 lc_RR_63 ?_
      refine j_icmp_ne (tgt := 43) C d_RR_readTerm_38 (by decide) (fun c38 => ?_) (fun c38 => ?_)
      · refine j_aload_n C d_RR_readTerm_43 rfl rfl ?_
        refine j_iload_n C d_RR_readTerm_44 rfl rfl ?_
        refine j_iload C d_RR_readTerm_45 rfl ?_
        refine j_iload C d_RR_readTerm_47 rfl ?_
        refine j_iload_n C d_RR_readTerm_49 rfl rfl ?_
        have ev : ctm (β 4) t how a0 = some ((how, (cfV (β 4) t a0), none), (skp (β 4) t (cfA (β 4) t a0))) := (if_neg c10).trans (if_neg hy)
        rw [ev] at hS
        cases hS
      · exact absurd c38 (by decide)
    · have hy := pz_y c21
      rw [pp_y hy]
      have hA : (skp (β 4) t (cfA (β 4) t a0)) + 1 ≤ t := hr_lt2 hy (by decide)
      refine j_aload_n C d_RR_readTerm_24 rfl rfl ?_
      refine j_callV C d_RR_readTerm_25 ml_RR_59 mc_RR_readFactor in_RR_readFactor rfl se_RR_readFactor (by omega) (ovX_c (o := 5) rfl) (c_RR_readFactor hl h hn t ((skp (β 4) t (cfA (β 4) t a0)) + 1) h4 ht hA) rfl rfl (Nat.le_of_ble_eq_true rfl) (Nat.le_of_ble_eq_true rfl) (Nat.le_of_ble_eq_true rfl) (Nat.le_of_ble_eq_true rfl) (jk_r ?_)
      refine j_goto (tgt := 32) C d_RR_readTerm_28 (by decide) ?_
      refine j_istore C d_RR_readTerm_32 (by decide) rfl ?_
      refine j_iload C d_RR_readTerm_34 rfl ?_
      refine j_ldc (v := (-1000000000)) C d_RR_readTerm_36 lc_RR_63 ?_
      refine j_icmp_ne (tgt := 43) C d_RR_readTerm_38 (by decide) (fun c38 => ?_) (fun c38 => ?_)
      · refine j_aload_n C d_RR_readTerm_43 rfl rfl ?_
        refine j_iload_n C d_RR_readTerm_44 rfl rfl ?_
        refine j_iload C d_RR_readTerm_45 rfl ?_
        refine j_iload C d_RR_readTerm_47 rfl ?_
        refine j_iload_n C d_RR_readTerm_49 rfl rfl ?_
        have ev : ctm (β 4) t how a0 = some ((how, (cfV (β 4) t a0), some (cfV (β 4) t ((skp (β 4) t (cfA (β 4) t a0)) + 1))), (cfA (β 4) t ((skp (β 4) t (cfA (β 4) t a0)) + 1))) := (if_neg c10).trans ((if_pos hy).trans (if_neg c38))
        rw [ev] at hS
        cases hS
      · refine j_iconst (v := 0) C d_RR_readTerm_41 (by decide) ?_
        exact j_zreturn C d_RR_readTerm_42 rfl (by decide) (by decide) (by decide) ⟨rfl, rfl, by unfold ctp; rw [if_neg c10]⟩
  · refine j_iconst (v := 0) C d_RR_readTerm_13 (by decide) ?_
    exact j_zreturn C d_RR_readTerm_14 rfl (by decide) (by decide) (by decide) ⟨rfl, rfl, by unfold ctp; rw [if_pos c10]⟩

set_option maxHeartbeats 4000000 in
set_option maxRecDepth 100000 in
theorem c_RR_readComparison_13_0 {l : Launch} (hl : l.stackTraces = false) {D : va_G} {cA : Nat → ClassId} {b n : Nat} {xo : Nat} {ξ : Nat → Int32} {β : Nat → Nat → Int32} {ρ : Nat → Option Nat} {u v : Nat} (h : AH) (hn : xo + 28 ≤ n) (t a0 : Nat) (h4 : ξ 4 = nI t) (ht : t ≤ 300) (ha0 : a0 ≤ t) (q0 : Nat) (hq : q0 < 20) (hS : hr (β 4) t (skp (β 4) t a0) = 60) : Cn l D cA b y_RR_readComparison k_RR_readComparison 2 25 0 0 [.ref (xo + 5), .ref (xo + 13), .int (nI q0)] n (ovX xo (xq ξ a0) β ρ u v h) (Re (some (.int 1)) n (ovX xo (xq ξ ((skp (β 4) t a0) + 1)) (upa β 14 (upd (β 14) q0 60)) ρ u v h)) := by
  refine Cn.of (cc := b_RR_readComparison) (maxL := 3) (ret := (some .boolean)) (hh := []) (by decide +kernel) hl (Or.inl ⟨rfl, rfl⟩) (Nat.le_of_ble_eq_true rfl) ?_
  intro p e s m args below meth c C
  refine j_aload_n C d_RR_readComparison_0 rfl rfl ?_
  refine j_bipush (v := 60) C d_RR_readComparison_1 (by decide) ?_
  refine j_callV C d_RR_readComparison_3 ml_RR_47 mc_RR_passes in_RR_passes rfl se_RR_passes (by omega) (ovX_c (o := 5) rfl) (c_RR_passes hl h hn t a0 h4 ht ha0 60 (by decide)) rfl rfl (Nat.le_of_ble_eq_true rfl) (Nat.le_of_ble_eq_true rfl) (Nat.le_of_ble_eq_true rfl) (Nat.le_of_ble_eq_true rfl) (jk_r ?_)
  refine j_if_eq (tgt := 20) C d_RR_readComparison_6 (by decide) (fun c6 => ?_) (fun c6 => ?_)
  · exact absurd (hS) (pz_n c6)
  · refine j_aload_n C d_RR_readComparison_9 rfl rfl ?_
    refine jx_get 13 C fl_1_51 d_RR_readComparison_10 hn rfl rfl ?_
    refine j_iload_n C d_RR_readComparison_13 rfl rfl ?_
    refine j_bipush (v := 60) C d_RR_readComparison_14 (by decide) ?_
    refine jx_cast 14 C d_RR_readComparison_16 hn rfl (vp_in_nI (by omega) (by omega)) rfl ?_
    rw [nI_clamp (by omega), pp_y (pz_y c6)]
    refine j_goto (tgt := 62) C d_RR_readComparison_17 (by decide) ?_
    refine j_iconst (v := 1) C d_RR_readComparison_62 (by decide) ?_
    exact j_zreturn C d_RR_readComparison_63 rfl (by decide) (by decide) (by decide) ⟨rfl, rfl, rfl⟩

set_option maxHeartbeats 4000000 in
set_option maxRecDepth 100000 in
theorem c_RR_readComparison_13_1 {l : Launch} (hl : l.stackTraces = false) {D : va_G} {cA : Nat → ClassId} {b n : Nat} {xo : Nat} {ξ : Nat → Int32} {β : Nat → Nat → Int32} {ρ : Nat → Option Nat} {u v : Nat} (h : AH) (hn : xo + 28 ≤ n) (t a0 : Nat) (h4 : ξ 4 = nI t) (ht : t ≤ 300) (ha0 : a0 ≤ t) (q0 : Nat) (hq : q0 < 20) (hS : hr (β 4) t (skp (β 4) t a0) = 61) : Cn l D cA b y_RR_readComparison k_RR_readComparison 2 25 0 0 [.ref (xo + 5), .ref (xo + 13), .int (nI q0)] n (ovX xo (xq ξ a0) β ρ u v h) (Re (some (.int 1)) n (ovX xo (xq ξ ((skp (β 4) t a0) + 1)) (upa β 14 (upd (β 14) q0 61)) ρ u v h)) := by
  refine Cn.of (cc := b_RR_readComparison) (maxL := 3) (ret := (some .boolean)) (hh := []) (by decide +kernel) hl (Or.inl ⟨rfl, rfl⟩) (Nat.le_of_ble_eq_true rfl) ?_
  intro p e s m args below meth c C
  refine j_aload_n C d_RR_readComparison_0 rfl rfl ?_
  refine j_bipush (v := 60) C d_RR_readComparison_1 (by decide) ?_
  refine j_callV C d_RR_readComparison_3 ml_RR_47 mc_RR_passes in_RR_passes rfl se_RR_passes (by omega) (ovX_c (o := 5) rfl) (c_RR_passes hl h hn t a0 h4 ht ha0 60 (by decide)) rfl rfl (Nat.le_of_ble_eq_true rfl) (Nat.le_of_ble_eq_true rfl) (Nat.le_of_ble_eq_true rfl) (Nat.le_of_ble_eq_true rfl) (jk_r ?_)
  refine j_if_eq (tgt := 20) C d_RR_readComparison_6 (by decide) (fun c6 => ?_) (fun c6 => ?_)
  · have hy6 := pz_n c6
    rw [pp_n hy6]
    refine j_aload_n C d_RR_readComparison_20 rfl rfl ?_
    refine j_bipush (v := 61) C d_RR_readComparison_21 (by decide) ?_
    refine j_callV C d_RR_readComparison_23 ml_RR_47 mc_RR_passes in_RR_passes rfl se_RR_passes (by omega) (ovX_c (o := 5) rfl) (c_RR_passes hl h hn t (skp (β 4) t a0) h4 ht (skp_le _ ha0) 61 (by decide)) rfl rfl (Nat.le_of_ble_eq_true rfl) (Nat.le_of_ble_eq_true rfl) (Nat.le_of_ble_eq_true rfl) (Nat.le_of_ble_eq_true rfl) (jk_r ?_)
    refine j_if_eq (tgt := 40) C d_RR_readComparison_26 (by decide) (fun c26 => ?_) (fun c26 => ?_)
    · exact absurd (by rw [skp_skp ha0]; exact hS) (pz_n c26)
    · refine j_aload_n C d_RR_readComparison_29 rfl rfl ?_
      refine jx_get 13 C fl_1_51 d_RR_readComparison_30 hn rfl rfl ?_
      refine j_iload_n C d_RR_readComparison_33 rfl rfl ?_
      refine j_bipush (v := 61) C d_RR_readComparison_34 (by decide) ?_
      refine jx_cast 14 C d_RR_readComparison_36 hn rfl (vp_in_nI (by omega) (by omega)) rfl ?_
      rw [nI_clamp (by omega), pp_y (pz_y c26), skp_skp ha0]
      refine j_goto (tgt := 62) C d_RR_readComparison_37 (by decide) ?_
      refine j_iconst (v := 1) C d_RR_readComparison_62 (by decide) ?_
      exact j_zreturn C d_RR_readComparison_63 rfl (by decide) (by decide) (by decide) ⟨rfl, rfl, rfl⟩
  · exact absurd ((pz_y c6).symm.trans (hS)) (by decide)

set_option maxHeartbeats 4000000 in
set_option maxRecDepth 100000 in
theorem c_RR_readComparison_13_2 {l : Launch} (hl : l.stackTraces = false) {D : va_G} {cA : Nat → ClassId} {b n : Nat} {xo : Nat} {ξ : Nat → Int32} {β : Nat → Nat → Int32} {ρ : Nat → Option Nat} {u v : Nat} (h : AH) (hn : xo + 28 ≤ n) (t a0 : Nat) (h4 : ξ 4 = nI t) (ht : t ≤ 300) (ha0 : a0 ≤ t) (q0 : Nat) (hq : q0 < 20) (hS : hr (β 4) t (skp (β 4) t a0) = 33) : Cn l D cA b y_RR_readComparison k_RR_readComparison 2 25 0 0 [.ref (xo + 5), .ref (xo + 13), .int (nI q0)] n (ovX xo (xq ξ a0) β ρ u v h) (Re (some (.int 1)) n (ovX xo (xq ξ ((skp (β 4) t a0) + 1)) (upa β 14 (upd (β 14) q0 33)) ρ u v h)) := by
  refine Cn.of (cc := b_RR_readComparison) (maxL := 3) (ret := (some .boolean)) (hh := []) (by decide +kernel) hl (Or.inl ⟨rfl, rfl⟩) (Nat.le_of_ble_eq_true rfl) ?_
  intro p e s m args below meth c C
  refine j_aload_n C d_RR_readComparison_0 rfl rfl ?_
  refine j_bipush (v := 60) C d_RR_readComparison_1 (by decide) ?_
  refine j_callV C d_RR_readComparison_3 ml_RR_47 mc_RR_passes in_RR_passes rfl se_RR_passes (by omega) (ovX_c (o := 5) rfl) (c_RR_passes hl h hn t a0 h4 ht ha0 60 (by decide)) rfl rfl (Nat.le_of_ble_eq_true rfl) (Nat.le_of_ble_eq_true rfl) (Nat.le_of_ble_eq_true rfl) (Nat.le_of_ble_eq_true rfl) (jk_r ?_)
  refine j_if_eq (tgt := 20) C d_RR_readComparison_6 (by decide) (fun c6 => ?_) (fun c6 => ?_)
  · have hy6 := pz_n c6
    rw [pp_n hy6]
    refine j_aload_n C d_RR_readComparison_20 rfl rfl ?_
    refine j_bipush (v := 61) C d_RR_readComparison_21 (by decide) ?_
    refine j_callV C d_RR_readComparison_23 ml_RR_47 mc_RR_passes in_RR_passes rfl se_RR_passes (by omega) (ovX_c (o := 5) rfl) (c_RR_passes hl h hn t (skp (β 4) t a0) h4 ht (skp_le _ ha0) 61 (by decide)) rfl rfl (Nat.le_of_ble_eq_true rfl) (Nat.le_of_ble_eq_true rfl) (Nat.le_of_ble_eq_true rfl) (Nat.le_of_ble_eq_true rfl) (jk_r ?_)
    refine j_if_eq (tgt := 40) C d_RR_readComparison_26 (by decide) (fun c26 => ?_) (fun c26 => ?_)
    · have hy26 := pz_n c26
      rw [pp_n hy26, skp_skp ha0]
      refine j_aload_n C d_RR_readComparison_40 rfl rfl ?_
      refine j_bipush (v := 33) C d_RR_readComparison_41 (by decide) ?_
      refine j_callV C d_RR_readComparison_43 ml_RR_47 mc_RR_passes in_RR_passes rfl se_RR_passes (by omega) (ovX_c (o := 5) rfl) (c_RR_passes hl h hn t (skp (β 4) t a0) h4 ht (skp_le _ ha0) 33 (by decide)) rfl rfl (Nat.le_of_ble_eq_true rfl) (Nat.le_of_ble_eq_true rfl) (Nat.le_of_ble_eq_true rfl) (Nat.le_of_ble_eq_true rfl) (jk_r ?_)
      refine j_if_eq (tgt := 60) C d_RR_readComparison_46 (by decide) (fun c46 => ?_) (fun c46 => ?_)
      · exact absurd (by rw [skp_skp ha0]; exact hS) (pz_n c46)
      · refine j_aload_n C d_RR_readComparison_49 rfl rfl ?_
        refine jx_get 13 C fl_1_51 d_RR_readComparison_50 hn rfl rfl ?_
        refine j_iload_n C d_RR_readComparison_53 rfl rfl ?_
        refine j_bipush (v := 33) C d_RR_readComparison_54 (by decide) ?_
        refine jx_cast 14 C d_RR_readComparison_56 hn rfl (vp_in_nI (by omega) (by omega)) rfl ?_
        rw [nI_clamp (by omega), pp_y (pz_y c46), skp_skp ha0]
        refine j_goto (tgt := 62) C d_RR_readComparison_57 (by decide) ?_
        refine j_iconst (v := 1) C d_RR_readComparison_62 (by decide) ?_
        exact j_zreturn C d_RR_readComparison_63 rfl (by decide) (by decide) (by decide) ⟨rfl, rfl, rfl⟩
    · exact absurd ((pz_y c26).symm.trans (show hr (β 4) t (skp (β 4) t (skp (β 4) t a0)) = 33 by rw [skp_skp ha0]; exact hS)) (by decide)
  · exact absurd ((pz_y c6).symm.trans (hS)) (by decide)

set_option maxHeartbeats 4000000 in
set_option maxRecDepth 100000 in
theorem c_RR_readComparison_13_3 {l : Launch} (hl : l.stackTraces = false) {D : va_G} {cA : Nat → ClassId} {b n : Nat} {xo : Nat} {ξ : Nat → Int32} {β : Nat → Nat → Int32} {ρ : Nat → Option Nat} {u v : Nat} (h : AH) (hn : xo + 28 ≤ n) (t a0 : Nat) (h4 : ξ 4 = nI t) (ht : t ≤ 300) (ha0 : a0 ≤ t) (q0 : Nat) (hq : q0 < 20) (hS : ¬ (hr (β 4) t (skp (β 4) t a0) = 60 ∨ hr (β 4) t (skp (β 4) t a0) = 61 ∨ hr (β 4) t (skp (β 4) t a0) = 33)) : Cn l D cA b y_RR_readComparison k_RR_readComparison 2 25 0 0 [.ref (xo + 5), .ref (xo + 13), .int (nI q0)] n (ovX xo (xq ξ a0) β ρ u v h) (Re (some (.int 0)) n (ovX xo (xq ξ (skp (β 4) t a0)) β ρ u v h)) := by
  refine Cn.of (cc := b_RR_readComparison) (maxL := 3) (ret := (some .boolean)) (hh := []) (by decide +kernel) hl (Or.inl ⟨rfl, rfl⟩) (Nat.le_of_ble_eq_true rfl) ?_
  intro p e s m args below meth c C
  refine j_aload_n C d_RR_readComparison_0 rfl rfl ?_
  refine j_bipush (v := 60) C d_RR_readComparison_1 (by decide) ?_
  refine j_callV C d_RR_readComparison_3 ml_RR_47 mc_RR_passes in_RR_passes rfl se_RR_passes (by omega) (ovX_c (o := 5) rfl) (c_RR_passes hl h hn t a0 h4 ht ha0 60 (by decide)) rfl rfl (Nat.le_of_ble_eq_true rfl) (Nat.le_of_ble_eq_true rfl) (Nat.le_of_ble_eq_true rfl) (Nat.le_of_ble_eq_true rfl) (jk_r ?_)
  refine j_if_eq (tgt := 20) C d_RR_readComparison_6 (by decide) (fun c6 => ?_) (fun c6 => ?_)
  · have hy6 := pz_n c6
    rw [pp_n hy6]
    refine j_aload_n C d_RR_readComparison_20 rfl rfl ?_
    refine j_bipush (v := 61) C d_RR_readComparison_21 (by decide) ?_
    refine j_callV C d_RR_readComparison_23 ml_RR_47 mc_RR_passes in_RR_passes rfl se_RR_passes (by omega) (ovX_c (o := 5) rfl) (c_RR_passes hl h hn t (skp (β 4) t a0) h4 ht (skp_le _ ha0) 61 (by decide)) rfl rfl (Nat.le_of_ble_eq_true rfl) (Nat.le_of_ble_eq_true rfl) (Nat.le_of_ble_eq_true rfl) (Nat.le_of_ble_eq_true rfl) (jk_r ?_)
    refine j_if_eq (tgt := 40) C d_RR_readComparison_26 (by decide) (fun c26 => ?_) (fun c26 => ?_)
    · have hy26 := pz_n c26
      rw [pp_n hy26, skp_skp ha0]
      refine j_aload_n C d_RR_readComparison_40 rfl rfl ?_
      refine j_bipush (v := 33) C d_RR_readComparison_41 (by decide) ?_
      refine j_callV C d_RR_readComparison_43 ml_RR_47 mc_RR_passes in_RR_passes rfl se_RR_passes (by omega) (ovX_c (o := 5) rfl) (c_RR_passes hl h hn t (skp (β 4) t a0) h4 ht (skp_le _ ha0) 33 (by decide)) rfl rfl (Nat.le_of_ble_eq_true rfl) (Nat.le_of_ble_eq_true rfl) (Nat.le_of_ble_eq_true rfl) (Nat.le_of_ble_eq_true rfl) (jk_r ?_)
      refine j_if_eq (tgt := 60) C d_RR_readComparison_46 (by decide) (fun c46 => ?_) (fun c46 => ?_)
      · have hy46 := pz_n c46
        rw [pp_n hy46, skp_skp ha0]
        refine j_iconst (v := 0) C d_RR_readComparison_60 (by decide) ?_
        exact j_zreturn C d_RR_readComparison_61 rfl (by decide) (by decide) (by decide) ⟨rfl, rfl, rfl⟩
      · exact absurd (Or.inr (Or.inr (by have z := pz_y c46; rw [skp_skp ha0] at z; exact z))) hS
    · exact absurd (Or.inr (Or.inl (by have z := pz_y c26; rw [skp_skp ha0] at z; exact z))) hS
  · exact absurd (Or.inl (pz_y c6)) hS
