/-! ===== the class reads a text: terms, comparisons: printed by program ===== -/
/-- a field told in a rule -/
def nt (β : Nat → Nat → Int32) (ft q : Nat) (x : Int32) : Nat → Nat → Int32 := if 0 ≤ x then β else upa β ft (upd (β ft) q (xch (β ft q) (-1 - x) 1))
/-- the book bo with one term more in the sum s -/
def adT (bo : Nat) (β : Nat → Nat → Int32) (s c : Nat) (x y m : Int32) : Nat → Nat → Int32 :=
  nt (nt (upa (upa (upa (upa β (bo + 4) (upd (β (bo + 4)) (4 * s + c) x)) (bo + 5) (upd (β (bo + 5)) (4 * s + c) y)) (bo + 6) (upd (β (bo + 6)) (4 * s + c) (vp_nar .boolean m))) (bo + 3) (upd (β (bo + 3)) s (nI (c + 1)))) (bo + 2) (s / 2) x) (bo + 2) (s / 2) y
def stR (bo : Nat) (β : Nat → Nat → Int32) (q : Nat) : Nat → Nat → Int32 := upa (upa β (bo + 2) (upd (β (bo + 2)) q 0)) (bo + 3) (upd (upd (β (bo + 3)) (2 * q) 0) (2 * q + 1) 0)
theorem e2d {s : Nat} (hs : s < 40) : nI s / 2 = nI (s / 2) := pk_div (d := 2) (by omega) (by omega) (by omega)
/-- a term as the class reads it -/
def ctm (g : Nat → Int32) (t : Nat) (how : Int32) (a : Nat) : Option ((Int32 × Int32 × Option Int32) × Nat) :=
  if cfV g t a = (-1000000000) then none else if hr g t (skp g t (cfA g t a)) = 47 then (if cfV g t (skp g t (cfA g t a) + 1) = (-1000000000) then none else some ((how, cfV g t a, some (cfV g t (skp g t (cfA g t a) + 1))), cfA g t (skp g t (cfA g t a) + 1))) else some ((how, cfV g t a, none), skp g t (cfA g t a))
def ctp (g : Nat → Int32) (t : Nat) (a : Nat) : Nat := if cfV g t a = (-1000000000) then cfA g t a else cfA g t (skp g t (cfA g t a) + 1)
theorem ctp_le {g : Nat → Int32} {t a : Nat} {how : Int32} (ha : a ≤ t) (h : ctm g t how a = none) : ctp g t a ≤ t := by
  unfold ctm at h
  unfold ctp
  split at h
  · rename_i h1
    rw [if_pos h1]; exact cfA_le ha
  · rename_i h1
    rw [if_neg h1]
    split at h
    · rename_i h2
      exact cfA_le (hr_lt2 h2 (by decide))
    · cases h
theorem ctm_le {g : Nat → Int32} {t a : Nat} {how : Int32} {q : (Int32 × Int32 × Option Int32) × Nat} (ha : a ≤ t) (h : ctm g t how a = some q) : q.2 ≤ t ∧ q.1.1 = how := by
  unfold ctm at h
  split at h
  · cases h
  · split at h
    · rename_i h2
      split at h
      · cases h
      · cases h
        exact ⟨cfA_le (hr_lt2 h2 (by decide)), rfl⟩
    · cases h
      exact ⟨skp_le _ (cfA_le ha), rfl⟩
theorem skf_st (g : Nat → Int32) (t : Nat) : ∀ (k a : Nat), a + k = t → skf g t (t - skf g t k a) (skf g t k a) = skf g t k a
  | 0, a, h => by
    show skf g t (t - a) a = a
    rw [show t - a = 0 by omega]
    rfl
  | k + 1, a, h => by
    by_cases e : hr g t a = 32
    · have ev : skf g t (k + 1) a = skf g t k (a + 1) := if_pos e
      rw [ev]
      exact skf_st g t k (a + 1) (by omega)
    · have ev : skf g t (k + 1) a = a := if_neg e
      rw [ev, show t - a = k + 1 by omega, ev]
theorem skp_skp {g : Nat → Int32} {t a : Nat} (ha : a ≤ t) : skp g t (skp g t a) = skp g t a := skf_st g t (t - a) a (by omega)
set_option maxHeartbeats 4000000 in
set_option maxRecDepth 100000 in
theorem c_RB_noteField_6 {l : Launch} (hl : l.stackTraces = false) {D : va_G} {cA : Nat → ClassId} {b n : Nat} {xo : Nat} {ξ : Nat → Int32} {β : Nat → Nat → Int32} {ρ : Nat → Option Nat} {u v : Nat} (h : AH) (hn : xo + 28 ≤ n) (q0 : Nat) (hq : q0 < 20) (x : Int32) : Cn l D cA b y_RB_noteField k_RB_noteField 1 16 0 0 [.ref (xo + 6), .int (nI q0), .int x] n (ovX xo ξ β ρ u v h) (Re none n (ovX xo ξ (nt β (6 + 2) q0 x) ρ u v h)) := by
  refine Cn.of (cc := b_RB_noteField) (maxL := 3) (ret := none) (hh := []) (by decide +kernel) hl (Or.inl ⟨rfl, rfl⟩) (Nat.le_of_ble_eq_true rfl) ?_
  intro p e s m args below meth c C
  refine j_iload_n C d_RB_noteField_0 rfl rfl ?_
  refine j_if_ge (tgt := 23) C d_RB_noteField_1 (by decide) (fun c1 => ?_) (fun c1 => ?_)
  · exact j_vreturn C d_RB_noteField_23 rfl (by decide) (by decide) ⟨rfl, rfl, by unfold nt; rw [if_pos c1]⟩
  · refine j_aload_n C d_RB_noteField_4 rfl rfl ?_
    refine jx_get 6 C fl_2_19 d_RB_noteField_5 hn rfl rfl ?_
    refine j_iload_n C d_RB_noteField_8 rfl rfl ?_
    refine j_aload_n C d_RB_noteField_9 rfl rfl ?_
    refine jx_get 6 C fl_2_19 d_RB_noteField_10 hn rfl rfl ?_
    refine j_iload_n C d_RB_noteField_13 rfl rfl ?_
    refine jx_iald (w := β 8 q0) 8 C d_RB_noteField_14 hn rfl (vp_in_nI (by omega) (by omega)) (by rw [nI_clamp (by omega)]) ?_
    refine j_iconst (v := (-1)) C d_RB_noteField_15 (by decide) ?_
    refine j_iload_n C d_RB_noteField_16 rfl rfl ?_
    refine j_isub C d_RB_noteField_17 ?_
    refine j_iconst (v := 1) C d_RB_noteField_18 (by decide) ?_
    refine j_callS C d_RB_noteField_19 ml_RB_40 mc_X_changed st_X_changed (c_X_changed hl _ _ _ _) rfl rfl (Nat.le_of_ble_eq_true rfl) (Nat.le_of_ble_eq_true rfl) (Nat.le_of_ble_eq_true rfl) (Nat.le_of_ble_eq_true rfl) (jk_r ?_)
    refine jx_iast 8 C d_RB_noteField_22 hn rfl (vp_in_nI (by omega) (by omega)) rfl ?_
    rw [nI_clamp (by omega)]
    exact j_vreturn C d_RB_noteField_23 rfl (by decide) (by decide) ⟨rfl, rfl, by unfold nt; rw [if_neg c1]⟩

set_option maxHeartbeats 4000000 in
set_option maxRecDepth 100000 in
theorem c_RB_startRule_6 {l : Launch} (hl : l.stackTraces = false) {D : va_G} {cA : Nat → ClassId} {b n : Nat} {xo : Nat} {ξ : Nat → Int32} {β : Nat → Nat → Int32} {ρ : Nat → Option Nat} {u v : Nat} (h : AH) (hn : xo + 28 ≤ n) (q0 : Nat) (hq : q0 < 20) : Cn l D cA b y_RB_startRule k_RB_startRule 0 0 0 0 [.ref (xo + 6), .int (nI q0)] n (ovX xo ξ β ρ u v h) (Re none n (ovX xo ξ (stR 6 β q0) ρ u v h)) := by
  refine Cn.of (cc := b_RB_startRule) (maxL := 2) (ret := none) (hh := []) (by decide +kernel) hl (Or.inl ⟨rfl, rfl⟩) (Nat.le_of_ble_eq_true rfl) ?_
  intro p e s m args below meth c C
  refine j_aload_n C d_RB_startRule_0 rfl rfl ?_
  refine jx_get 6 C fl_2_19 d_RB_startRule_1 hn rfl rfl ?_
  refine j_iload_n C d_RB_startRule_4 rfl rfl ?_
  refine j_iconst (v := 0) C d_RB_startRule_5 (by decide) ?_
  refine jx_iast 8 C d_RB_startRule_6 hn rfl (vp_in_nI (by omega) (by omega)) rfl ?_
  rw [nI_clamp (by omega)]
  refine j_aload_n C d_RB_startRule_7 rfl rfl ?_
  refine jx_get 6 C fl_2_23 d_RB_startRule_8 hn rfl rfl ?_
  refine j_iconst (v := 2) C d_RB_startRule_11 (by decide) ?_
  refine j_iload_n C d_RB_startRule_12 rfl rfl ?_
  refine j_imul C d_RB_startRule_13 ?_
  rw [e2q]
  refine j_iconst (v := 0) C d_RB_startRule_14 (by decide) ?_
  refine jx_iast 9 C d_RB_startRule_15 hn rfl (vp_in_nI (by omega) (by omega)) rfl ?_
  rw [nI_clamp (by omega)]
  refine j_aload_n C d_RB_startRule_16 rfl rfl ?_
  refine jx_get 6 C fl_2_23 d_RB_startRule_17 hn rfl rfl ?_
  refine j_iconst (v := 2) C d_RB_startRule_20 (by decide) ?_
  refine j_iload_n C d_RB_startRule_21 rfl rfl ?_
  refine j_imul C d_RB_startRule_22 ?_
  refine j_iconst (v := 1) C d_RB_startRule_23 (by decide) ?_
  refine j_iadd C d_RB_startRule_24 ?_
  rw [e2q1]
  refine j_iconst (v := 0) C d_RB_startRule_25 (by decide) ?_
  refine jx_iast 9 C d_RB_startRule_26 hn rfl (vp_in_nI (by omega) (by omega)) rfl ?_
  rw [nI_clamp (by omega)]
  exact j_vreturn C d_RB_startRule_27 rfl (by decide) (by decide) ⟨rfl, rfl, by unfold stR; rw [upa_uu]; rfl⟩

set_option maxHeartbeats 4000000 in
set_option maxRecDepth 100000 in
theorem c_RB_addTerm_6 {l : Launch} (hl : l.stackTraces = false) {D : va_G} {cA : Nat → ClassId} {b n : Nat} {xo : Nat} {ξ : Nat → Int32} {β : Nat → Nat → Int32} {ρ : Nat → Option Nat} {u v : Nat} (h : AH) (hn : xo + 28 ≤ n) (s0 c0 : Nat) (hs : s0 < 40) (hc : β 9 s0 = nI c0) (hc4 : c0 < 4) (x y m0 : Int32) : Cn l D cA b y_RB_addTerm k_RB_addTerm 2 30 0 0 [.ref (xo + 6), .int (nI s0), .int x, .int y, .int m0] n (ovX xo ξ β ρ u v h) (Re none n (ovX xo ξ (adT 6 β s0 c0 x y m0) ρ u v h)) := by
  refine Cn.of (cc := b_RB_addTerm) (maxL := 7) (ret := none) (hh := []) (by decide +kernel) hl (Or.inl ⟨rfl, rfl⟩) (Nat.le_of_ble_eq_true rfl) ?_
  intro p e s m args below meth c C
  refine j_aload_n C d_RB_addTerm_0 rfl rfl ?_
  refine jx_get 6 C fl_2_23 d_RB_addTerm_1 hn rfl rfl ?_
  refine j_iload_n C d_RB_addTerm_4 rfl rfl ?_
  refine jx_iald (w := nI c0) 9 C d_RB_addTerm_5 hn rfl (vp_in_nI (by omega) (by omega)) (by rw [nI_clamp (by omega)]; exact hc) ?_
  refine j_istore C d_RB_addTerm_6 (by decide) rfl ?_
  refine j_iload C d_RB_addTerm_8 rfl ?_
  refine j_iconst (v := 4) C d_RB_addTerm_10 (by decide) ?_
  refine j_icmp_lt (tgt := 15) C d_RB_addTerm_11 (by decide) (fun c11 => ?_) (fun c11 => ?_)
  · refine j_iload_n C d_RB_addTerm_15 rfl rfl ?_
    refine j_iconst (v := 4) C d_RB_addTerm_16 (by decide) ?_
    refine j_imul C d_RB_addTerm_17 ?_
    refine j_iload C d_RB_addTerm_18 rfl ?_
    refine j_iadd C d_RB_addTerm_20 ?_
    rw [e4s]
    refine j_istore C d_RB_addTerm_21 (by decide) rfl ?_
    refine j_aload_n C d_RB_addTerm_23 rfl rfl ?_
    refine jx_get 6 C fl_2_26 d_RB_addTerm_24 hn rfl rfl ?_
    refine j_iload C d_RB_addTerm_27 rfl ?_
    refine j_iload_n C d_RB_addTerm_29 rfl rfl ?_
    refine jx_iast 10 C d_RB_addTerm_30 hn rfl (vp_in_nI (by omega) (by omega)) rfl ?_
    rw [nI_clamp (by omega)]
    refine j_aload_n C d_RB_addTerm_31 rfl rfl ?_
    refine jx_get 6 C fl_2_29 d_RB_addTerm_32 hn rfl rfl ?_
    refine j_iload C d_RB_addTerm_35 rfl ?_
    refine j_iload_n C d_RB_addTerm_37 rfl rfl ?_
    refine jx_iast 11 C d_RB_addTerm_38 hn rfl (vp_in_nI (by omega) (by omega)) rfl ?_
    rw [nI_clamp (by omega)]
    refine j_aload_n C d_RB_addTerm_39 rfl rfl ?_
    refine jx_get 6 C fl_2_32 d_RB_addTerm_40 hn rfl rfl ?_
    refine j_iload C d_RB_addTerm_43 rfl ?_
    refine j_iload C d_RB_addTerm_45 rfl ?_
    refine jx_zast 12 C d_RB_addTerm_47 hn rfl (vp_in_nI (by omega) (by omega)) rfl ?_
    rw [nI_clamp (by omega)]
    refine j_aload_n C d_RB_addTerm_48 rfl rfl ?_
    refine jx_get 6 C fl_2_23 d_RB_addTerm_49 hn rfl rfl ?_
    refine j_iload_n C d_RB_addTerm_52 rfl rfl ?_
    refine j_iload C d_RB_addTerm_53 rfl ?_
    refine j_iconst (v := 1) C d_RB_addTerm_55 (by decide) ?_
    refine j_iadd C d_RB_addTerm_56 ?_
    rw [nI_1]
    refine jx_iast 9 C d_RB_addTerm_57 hn rfl (vp_in_nI (by omega) (by omega)) rfl ?_
    rw [nI_clamp (by omega)]
    refine j_aload_n C d_RB_addTerm_58 rfl rfl ?_
    refine j_iload_n C d_RB_addTerm_59 rfl rfl ?_
    refine j_iconst (v := 2) C d_RB_addTerm_60 (by decide) ?_
    refine j_idiv C d_RB_addTerm_61 (by decide) ?_
    rw [e2d hs]
    refine j_iload_n C d_RB_addTerm_62 rfl rfl ?_
    refine j_callV C d_RB_addTerm_63 ml_RB_36 mc_RB_noteField in_RB_noteField rfl se_RB_noteField (by omega) (ovX_c (o := 6) rfl) (c_RB_noteField_6 hl h hn (s0 / 2) (by omega) x) rfl rfl (Nat.le_of_ble_eq_true rfl) (Nat.le_of_ble_eq_true rfl) (Nat.le_of_ble_eq_true rfl) (Nat.le_of_ble_eq_true rfl) (jk_v ?_)
    refine j_aload_n C d_RB_addTerm_66 rfl rfl ?_
    refine j_iload_n C d_RB_addTerm_67 rfl rfl ?_
    refine j_iconst (v := 2) C d_RB_addTerm_68 (by decide) ?_
    refine j_idiv C d_RB_addTerm_69 (by decide) ?_
    rw [e2d hs]
    refine j_iload_n C d_RB_addTerm_70 rfl rfl ?_
    refine j_callV C d_RB_addTerm_71 ml_RB_36 mc_RB_noteField in_RB_noteField rfl se_RB_noteField (by omega) (ovX_c (o := 6) rfl) (c_RB_noteField_6 hl h hn (s0 / 2) (by omega) y) rfl rfl (Nat.le_of_ble_eq_true rfl) (Nat.le_of_ble_eq_true rfl) (Nat.le_of_ble_eq_true rfl) (Nat.le_of_ble_eq_true rfl) (jk_v ?_)
    exact j_vreturn C d_RB_addTerm_74 rfl (by decide) (by decide) ⟨rfl, rfl, rfl⟩
  · exact absurd (show nI c0 < nI 4 from nI_lt hc4 (by omega)) c11

set_option maxHeartbeats 4000000 in
set_option maxRecDepth 100000 in
theorem c_RR_readTerm_6_s {l : Launch} (hl : l.stackTraces = false) {D : va_G} {cA : Nat → ClassId} {b n : Nat} {xo : Nat} {ξ : Nat → Int32} {β : Nat → Nat → Int32} {ρ : Nat → Option Nat} {u v : Nat} (h : AH) (hn : xo + 28 ≤ n) (t a0 : Nat) (h4 : ξ 4 = nI t) (ht : t ≤ 300) (ha0 : a0 ≤ t) (how : Int32) (s0 c0 : Nat) (hs : s0 < 40) (hc : β 9 s0 = nI c0) (hc4 : c0 < 4) (m0 : Int32) (tm : Int32 × Int32 × Option Int32) (P : Nat) (hS : ctm (β 4) t how a0 = some (tm, P)) : Cn l D cA b y_RR_readTerm k_RR_readTerm 3 48 0 0 [.ref (xo + 5), .ref (xo + 6), .int (nI s0), .int m0] n (ovX xo (xq ξ a0) β ρ u v h) (Re (some (.int 1)) n (ovX xo (xq ξ P) (adT 6 β s0 c0 tm.2.1 (tm.2.2.getD 1) m0) ρ u v h)) := by
  refine Cn.of (cc := b_RR_readTerm) (maxL := 6) (ret := (some .boolean)) (hh := []) (by decide +kernel) hl (Or.inl ⟨rfl, rfl⟩) (Nat.le_of_ble_eq_true rfl) ?_
  intro p e s m args below meth c C
  refine j_aload_n C d_RR_readTerm_0 rfl rfl ?_
  refine j_callV C d_RR_readTerm_1 ml_RR_59 mc_RR_readFactor in_RR_readFactor rfl se_RR_readFactor (by omega) (ovX_c (o := 5) rfl) (c_RR_readFactor hl h hn t a0 h4 ht ha0) rfl rfl (Nat.le_of_ble_eq_true rfl) (Nat.le_of_ble_eq_true rfl) (Nat.le_of_ble_eq_true rfl) (Nat.le_of_ble_eq_true rfl) (jk_r ?_)
  refine j_istore C d_RR_readTerm_4 (by decide) rfl ?_
  refine j_iload C d_RR_readTerm_6 rfl ?_
  refine j_ldc (v := (-1000000000)) C d_RR_readTerm_8 lc_RR_63 ?_
  refine j_icmp_ne (tgt := 15) C d_RR_readTerm_10 (by decide) (fun c10 => ?_) (fun c10 => ?_)
  · refine j_aload_n C d_RR_readTerm_15 rfl rfl ?_
    refine j_bipush (v := 47) C d_RR_readTerm_16 (by decide) ?_
    refine j_callV C d_RR_readTerm_18 ml_RR_47 mc_RR_passes in_RR_passes rfl se_RR_passes (by omega) (ovX_c (o := 5) rfl) (c_RR_passes hl h hn t (cfA (β 4) t a0) h4 ht (cfA_le ha0) 47 (by decide)) rfl rfl (Nat.le_of_ble_eq_true rfl) (Nat.le_of_ble_eq_true rfl) (Nat.le_of_ble_eq_true rfl) (Nat.le_of_ble_eq_true rfl) (jk_r ?_)
    refine j_if_eq (tgt := 31) C d_RR_readTerm_21 (by decide) (fun c21 => ?_) (fun c21 => ?_)
    · have hy := pz_n c21
      rw [pp_n hy]
      refine j_iconst (v := 1) C d_RR_readTerm_31 (by decide) ?_
      refine j_istore C d_RR_readTerm_32 (by decide) rfl ?_
      refine j_iload C d_RR_readTerm_34 rfl ?_
      refine j_ldc (v := (-1000000000)) C d_RR_readTerm_36 lc_RR_63 ?_
      refine j_icmp_ne (tgt := 43) C d_RR_readTerm_38 (by decide) (fun c38 => ?_) (fun c38 => ?_)
      · refine j_aload_n C d_RR_readTerm_43 rfl rfl ?_
        refine j_iload_n C d_RR_readTerm_44 rfl rfl ?_
        refine j_iload C d_RR_readTerm_45 rfl ?_
        refine j_iload C d_RR_readTerm_47 rfl ?_
        refine j_iload_n C d_RR_readTerm_49 rfl rfl ?_
        have ev : ctm (β 4) t how a0 = some ((how, (cfV (β 4) t a0), none), (skp (β 4) t (cfA (β 4) t a0))) := (if_neg c10).trans (if_neg hy)
        rw [ev] at hS
        cases hS
        refine j_callV C d_RR_readTerm_50 ml_RR_64 mc_RB_addTerm in_RB_addTerm rfl se_RB_addTerm (by omega) (ovX_c (o := 6) rfl) (c_RB_addTerm_6 hl h hn s0 c0 hs hc hc4 (cfV (β 4) t a0) 1 m0) rfl rfl (Nat.le_of_ble_eq_true rfl) (Nat.le_of_ble_eq_true rfl) (Nat.le_of_ble_eq_true rfl) (Nat.le_of_ble_eq_true rfl) (jk_v ?_)
        refine j_iconst (v := 1) C d_RR_readTerm_53 rfl ?_
        exact j_zreturn C d_RR_readTerm_54 rfl (by decide) (by decide) (by decide) ⟨rfl, rfl, rfl⟩
      · exact absurd c38 (by decide)
    · have hy := pz_y c21
      rw [pp_y hy]
      have hA : (skp (β 4) t (cfA (β 4) t a0)) + 1 ≤ t := hr_lt2 hy (by decide)
      refine j_aload_n C d_RR_readTerm_24 rfl rfl ?_
      refine j_callV C d_RR_readTerm_25 ml_RR_59 mc_RR_readFactor in_RR_readFactor rfl se_RR_readFactor (by omega) (ovX_c (o := 5) rfl) (c_RR_readFactor hl h hn t ((skp (β 4) t (cfA (β 4) t a0)) + 1) h4 ht hA) rfl rfl (Nat.le_of_ble_eq_true rfl) (Nat.le_of_ble_eq_true rfl) (Nat.le_of_ble_eq_true rfl) (Nat.le_of_ble_eq_true rfl) (jk_r ?_)
      refine j_goto (tgt := 32) C d_RR_readTerm_28 (by decide) ?_
      refine j_istore C d_RR_readTerm_32 (by decide) rfl ?_
      refine j_iload C d_RR_readTerm_34 rfl ?_
      refine j_ldc (v := (-1000000000)) C d_RR_readTerm_36 lc_RR_63 ?_
      refine j_icmp_ne (tgt := 43) C d_RR_readTerm_38 (by decide) (fun c38 => ?_) (fun c38 => ?_)
      · refine j_aload_n C d_RR_readTerm_43 rfl rfl ?_
        refine j_iload_n C d_RR_readTerm_44 rfl rfl ?_
        refine j_iload C d_RR_readTerm_45 rfl ?_
        refine j_iload C d_RR_readTerm_47 rfl ?_
        refine j_iload_n C d_RR_readTerm_49 rfl rfl ?_
        have ev : ctm (β 4) t how a0 = some ((how, (cfV (β 4) t a0), some (cfV (β 4) t ((skp (β 4) t (cfA (β 4) t a0)) + 1))), (cfA (β 4) t ((skp (β 4) t (cfA (β 4) t a0)) + 1))) := (if_neg c10).trans ((if_pos hy).trans (if_neg c38))
        rw [ev] at hS
        cases hS
        refine j_callV C d_RR_readTerm_50 ml_RR_64 mc_RB_addTerm in_RB_addTerm rfl se_RB_addTerm (by omega) (ovX_c (o := 6) rfl) (c_RB_addTerm_6 hl h hn s0 c0 hs hc hc4 (cfV (β 4) t a0) (cfV (β 4) t ((skp (β 4) t (cfA (β 4) t a0)) + 1)) m0) rfl rfl (Nat.le_of_ble_eq_true rfl) (Nat.le_of_ble_eq_true rfl) (Nat.le_of_ble_eq_true rfl) (Nat.le_of_ble_eq_true rfl) (jk_v ?_)
        refine j_iconst (v := 1) C d_RR_readTerm_53 rfl ?_
        exact j_zreturn C d_RR_readTerm_54 rfl (by decide) (by decide) (by decide) ⟨rfl, rfl, rfl⟩
      · refine j_iconst (v := 0) C d_RR_readTerm_41 (by decide) ?_
        have ev : ctm (β 4) t how a0 = none := (if_neg c10).trans ((if_pos hy).trans (if_pos c38))
        rw [ev] at hS
        cases hS
  · refine j_iconst (v := 0) C d_RR_readTerm_13 (by decide) ?_
    have ev : ctm (β 4) t how a0 = none := if_pos c10
    rw [ev] at hS
    cases hS

set_option maxHeartbeats 4000000 in
set_option maxRecDepth 100000 in
theorem c_RR_readTerm_6_n {l : Launch} (hl : l.stackTraces = false) {D : va_G} {cA : Nat → ClassId} {b n : Nat} {xo : Nat} {ξ : Nat → Int32} {β : Nat → Nat → Int32} {ρ : Nat → Option Nat} {u v : Nat} (h : AH) (hn : xo + 28 ≤ n) (t a0 : Nat) (h4 : ξ 4 = nI t) (ht : t ≤ 300) (ha0 : a0 ≤ t) (how : Int32) (s0 c0 : Nat) (hs : s0 < 40) (hc : β 9 s0 = nI c0) (hc4 : c0 < 4) (m0 : Int32) (hS : ctm (β 4) t how a0 = none) : Cn l D cA b y_RR_readTerm k_RR_readTerm 3 48 0 0 [.ref (xo + 5), .ref (xo + 6), .int (nI s0), .int m0] n (ovX xo (xq ξ a0) β ρ u v h) (Re (some (.int 0)) n (ovX xo (xq ξ (ctp (β 4) t a0)) β ρ u v h)) := by
  refine Cn.of (cc := b_RR_readTerm) (maxL := 6) (ret := (some .boolean)) (hh := []) (by decide +kernel) hl (Or.inl ⟨rfl, rfl⟩) (Nat.le_of_ble_eq_true rfl) ?_
  intro p e s m args below meth c C
  refine j_aload_n C d_RR_readTerm_0 rfl rfl ?_
  refine j_callV C d_RR_readTerm_1 ml_RR_59 mc_RR_readFactor in_RR_readFactor rfl se_RR_readFactor (by omega) (ovX_c (o := 5) rfl) (c_RR_readFactor hl h hn t a0 h4 ht ha0) rfl rfl (Nat.le_of_ble_eq_true rfl) (Nat.le_of_ble_eq_true rfl) (Nat.le_of_ble_eq_true rfl) (Nat.le_of_ble_eq_true rfl) (jk_r ?_)
  refine j_istore C d_RR_readTerm_4 (by decide) rfl ?_
  refine j_iload C d_RR_readTerm_6 rfl ?_
  refine j_ldc (v := (-1000000000)) C d_RR_readTerm_8 lc_RR_63 ?_
  refine j_icmp_ne (tgt := 15) C d_RR_readTerm_10 (by decide) (fun c10 => ?_) (fun c10 => ?_)
  · refine j_aload_n C d_RR_readTerm_15 rfl rfl ?_
    refine j_bipush (v := 47) C d_RR_readTerm_16 (by decide) ?_
    refine j_callV C d_RR_readTerm_18 ml_RR_47 mc_RR_passes in_RR_passes rfl se_RR_passes (by omega) (ovX_c (o := 5) rfl) (c_RR_passes hl h hn t (cfA (β 4) t a0) h4 ht (cfA_le ha0) 47 (by decide)) rfl rfl (Nat.le_of_ble_eq_true rfl) (Nat.le_of_ble_eq_true rfl) (Nat.le_of_ble_eq_true rfl) (Nat.le_of_ble_eq_true rfl) (jk_r ?_)
    refine j_if_eq (tgt := 31) C d_RR_readTerm_21 (by decide) (fun c21 => ?_) (fun c21 => ?_)
    · have hy := pz_n c21
      rw [pp_n hy]
      refine j_iconst (v := 1) C d_RR_readTerm_31 (by decide) ?_
      refine j_istore C d_RR_readTerm_32 (by decide) rfl ?_
      refine j_iload C d_RR_readTerm_34 rfl ?_
      refine j_ldc (v := (-1000000000)) C d_RR_readTerm_36 lc_RR_63 ?_
      refine j_icmp_ne (tgt := 43) C d_RR_readTerm_38 (by decide) (fun c38 => ?_) (fun c38 => ?_)
      · refine j_aload_n C d_RR_readTerm_43 rfl rfl ?_
        refine j_iload_n C d_RR_readTerm_44 rfl rfl ?_
        refine j_iload C d_RR_readTerm_45 rfl ?_
        refine j_iload C d_RR_readTerm_47 rfl ?_
        refine j_iload_n C d_RR_readTerm_49 rfl rfl ?_
        have ev : ctm (β 4) t how a0 = some ((how, (cfV (β 4) t a0), none), (skp (β 4) t (cfA (β 4) t a0))) := (if_neg c10).trans (if_neg hy)
        rw [ev] at hS
        cases hS
      · exact absurd c38 (by decide)
    · have hy := pz_y c21
      rw [pp_y hy]
      have hA : (skp (β 4) t (cfA (β 4) t a0)) + 1 ≤ t := hr_lt2 hy (by decide)
      refine j_aload_n C d_RR_readTerm_24 rfl rfl ?_
      refine j_callV C d_RR_readTerm_25 ml_RR_59 mc_RR_readFactor in_RR_readFactor rfl se_RR_readFactor (by omega) (ovX_c (o := 5) rfl) (c_RR_readFactor hl h hn t ((skp (β 4) t (cfA (β 4) t a0)) + 1) h4 ht hA) rfl rfl (Nat.le_of_ble_eq_true rfl) (Nat.le_of_ble_eq_true rfl) (Nat.le_of_ble_eq_true rfl) (Nat.le_of_ble_eq_true rfl) (jk_r ?_)
      refine j_goto (tgt := 32) C d_RR_readTerm_28 (by decide) ?_
      refine j_istore C d_RR_readTerm_32 (by decide) rfl ?_
      refine j_iload C d_RR_readTerm_34 rfl ?_
      refine j_ldc (v := (-1000000000)) C d_RR_readTerm_36 lc_RR_63 ?_
      refine j_icmp_ne (tgt := 43) C d_RR_readTerm_38 (by decide) (fun c38 => ?_) (fun c38 => ?_)
      · refine j_aload_n C d_RR_readTerm_43 rfl rfl ?_
        refine j_iload_n C d_RR_readTerm_44 rfl rfl ?_
        refine j_iload C d_RR_readTerm_45 rfl ?_
        refine j_iload C d_RR_readTerm_47 rfl ?_
        refine j_iload_n C d_RR_readTerm_49 rfl rfl ?_
        have ev : ctm (β 4) t how a0 = some ((how, (cfV (β 4) t a0), some (cfV (β 4) t ((skp (β 4) t (cfA (β 4) t a0)) + 1))), (cfA (β 4) t ((skp (β 4) t (cfA (β 4) t a0)) + 1))) := (if_neg c10).trans ((if_pos hy).trans (if_neg c38))
        rw [ev] at hS
        cases hS
      · refine j_iconst (v := 0) C d_RR_readTerm_41 (by decide) ?_
        exact j_zreturn C d_RR_readTerm_42 rfl (by decide) (by decide) (by decide) ⟨rfl, rfl, by unfold ctp; rw [if_neg c10]⟩
  · refine j_iconst (v := 0) C d_RR_readTerm_13 (by decide) ?_
    exact j_zreturn C d_RR_readTerm_14 rfl (by decide) (by decide) (by decide) ⟨rfl, rfl, by unfold ctp; rw [if_pos c10]⟩

set_option maxHeartbeats 4000000 in
set_option maxRecDepth 100000 in
theorem c_RR_readComparison_6_0 {l : Launch} (hl : l.stackTraces = false) {D : va_G} {cA : Nat → ClassId} {b n : Nat} {xo : Nat} {ξ : Nat → Int32} {β : Nat → Nat → Int32} {ρ : Nat → Option Nat} {u v : Nat} (h : AH) (hn : xo + 28 ≤ n) (t a0 : Nat) (h4 : ξ 4 = nI t) (ht : t ≤ 300) (ha0 : a0 ≤ t) (q0 : Nat) (hq : q0 < 20) (hS : hr (β 4) t (skp (β 4) t a0) = 60) : Cn l D cA b y_RR_readComparison k_RR_readComparison 2 25 0 0 [.ref (xo + 5), .ref (xo + 6), .int (nI q0)] n (ovX xo (xq ξ a0) β ρ u v h) (Re (some (.int 1)) n (ovX xo (xq ξ ((skp (β 4) t a0) + 1)) (upa β 7 (upd (β 7) q0 60)) ρ u v h)) := by
  refine Cn.of (cc := b_RR_readComparison) (maxL := 3) (ret := (some .boolean)) (hh := []) (by decide +kernel) hl (Or.inl ⟨rfl, rfl⟩) (Nat.le_of_ble_eq_true rfl) ?_
  intro p e s m args below meth c C
  refine j_aload_n C d_RR_readComparison_0 rfl rfl ?_
  refine j_bipush (v := 60) C d_RR_readComparison_1 (by decide) ?_
  refine j_callV C d_RR_readComparison_3 ml_RR_47 mc_RR_passes in_RR_passes rfl se_RR_passes (by omega) (ovX_c (o := 5) rfl) (c_RR_passes hl h hn t a0 h4 ht ha0 60 (by decide)) rfl rfl (Nat.le_of_ble_eq_true rfl) (Nat.le_of_ble_eq_true rfl) (Nat.le_of_ble_eq_true rfl) (Nat.le_of_ble_eq_true rfl) (jk_r ?_)
  refine j_if_eq (tgt := 20) C d_RR_readComparison_6 (by decide) (fun c6 => ?_) (fun c6 => ?_)
  · exact absurd (hS) (pz_n c6)
  · refine j_aload_n C d_RR_readComparison_9 rfl rfl ?_
    refine jx_get 6 C fl_1_51 d_RR_readComparison_10 hn rfl rfl ?_
    refine j_iload_n C d_RR_readComparison_13 rfl rfl ?_
    refine j_bipush (v := 60) C d_RR_readComparison_14 (by decide) ?_
    refine jx_cast 7 C d_RR_readComparison_16 hn rfl (vp_in_nI (by omega) (by omega)) rfl ?_
    rw [nI_clamp (by omega), pp_y (pz_y c6)]
    refine j_goto (tgt := 62) C d_RR_readComparison_17 (by decide) ?_
    refine j_iconst (v := 1) C d_RR_readComparison_62 (by decide) ?_
    exact j_zreturn C d_RR_readComparison_63 rfl (by decide) (by decide) (by decide) ⟨rfl, rfl, rfl⟩

set_option maxHeartbeats 4000000 in
set_option maxRecDepth 100000 in
theorem c_RR_readComparison_6_1 {l : Launch} (hl : l.stackTraces = false) {D : va_G} {cA : Nat → ClassId} {b n : Nat} {xo : Nat} {ξ : Nat → Int32} {β : Nat → Nat → Int32} {ρ : Nat → Option Nat} {u v : Nat} (h : AH) (hn : xo + 28 ≤ n) (t a0 : Nat) (h4 : ξ 4 = nI t) (ht : t ≤ 300) (ha0 : a0 ≤ t) (q0 : Nat) (hq : q0 < 20) (hS : hr (β 4) t (skp (β 4) t a0) = 61) : Cn l D cA b y_RR_readComparison k_RR_readComparison 2 25 0 0 [.ref (xo + 5), .ref (xo + 6), .int (nI q0)] n (ovX xo (xq ξ a0) β ρ u v h) (Re (some (.int 1)) n (ovX xo (xq ξ ((skp (β 4) t a0) + 1)) (upa β 7 (upd (β 7) q0 61)) ρ u v h)) := by
  refine Cn.of (cc := b_RR_readComparison) (maxL := 3) (ret := (some .boolean)) (hh := []) (by decide +kernel) hl (Or.inl ⟨rfl, rfl⟩) (Nat.le_of_ble_eq_true rfl) ?_
  intro p e s m args below meth c C
  refine j_aload_n C d_RR_readComparison_0 rfl rfl ?_
  refine j_bipush (v := 60) C d_RR_readComparison_1 (by decide) ?_
  refine j_callV C d_RR_readComparison_3 ml_RR_47 mc_RR_passes in_RR_passes rfl se_RR_passes (by omega) (ovX_c (o := 5) rfl) (c_RR_passes hl h hn t a0 h4 ht ha0 60 (by decide)) rfl rfl (Nat.le_of_ble_eq_true rfl) (Nat.le_of_ble_eq_true rfl) (Nat.le_of_ble_eq_true rfl) (Nat.le_of_ble_eq_true rfl) (jk_r ?_)
  refine j_if_eq (tgt := 20) C d_RR_readComparison_6 (by decide) (fun c6 => ?_) (fun c6 => ?_)
  · have hy6 := pz_n c6
    rw [pp_n hy6]
    refine j_aload_n C d_RR_readComparison_20 rfl rfl ?_
    refine j_bipush (v := 61) C d_RR_readComparison_21 (by decide) ?_
    refine j_callV C d_RR_readComparison_23 ml_RR_47 mc_RR_passes in_RR_passes rfl se_RR_passes (by omega) (ovX_c (o := 5) rfl) (c_RR_passes hl h hn t (skp (β 4) t a0) h4 ht (skp_le _ ha0) 61 (by decide)) rfl rfl (Nat.le_of_ble_eq_true rfl) (Nat.le_of_ble_eq_true rfl) (Nat.le_of_ble_eq_true rfl) (Nat.le_of_ble_eq_true rfl) (jk_r ?_)
    refine j_if_eq (tgt := 40) C d_RR_readComparison_26 (by decide) (fun c26 => ?_) (fun c26 => ?_)
    · exact absurd (by rw [skp_skp ha0]; exact hS) (pz_n c26)
    · refine j_aload_n C d_RR_readComparison_29 rfl rfl ?_
      refine jx_get 6 C fl_1_51 d_RR_readComparison_30 hn rfl rfl ?_
      refine j_iload_n C d_RR_readComparison_33 rfl rfl ?_
      refine j_bipush (v := 61) C d_RR_readComparison_34 (by decide) ?_
      refine jx_cast 7 C d_RR_readComparison_36 hn rfl (vp_in_nI (by omega) (by omega)) rfl ?_
      rw [nI_clamp (by omega), pp_y (pz_y c26), skp_skp ha0]
      refine j_goto (tgt := 62) C d_RR_readComparison_37 (by decide) ?_
      refine j_iconst (v := 1) C d_RR_readComparison_62 (by decide) ?_
      exact j_zreturn C d_RR_readComparison_63 rfl (by decide) (by decide) (by decide) ⟨rfl, rfl, rfl⟩
  · exact absurd ((pz_y c6).symm.trans (hS)) (by decide)

set_option maxHeartbeats 4000000 in
set_option maxRecDepth 100000 in
theorem c_RR_readComparison_6_2 {l : Launch} (hl : l.stackTraces = false) {D : va_G} {cA : Nat → ClassId} {b n : Nat} {xo : Nat} {ξ : Nat → Int32} {β : Nat → Nat → Int32} {ρ : Nat → Option Nat} {u v : Nat} (h : AH) (hn : xo + 28 ≤ n) (t a0 : Nat) (h4 : ξ 4 = nI t) (ht : t ≤ 300) (ha0 : a0 ≤ t) (q0 : Nat) (hq : q0 < 20) (hS : hr (β 4) t (skp (β 4) t a0) = 33) : Cn l D cA b y_RR_readComparison k_RR_readComparison 2 25 0 0 [.ref (xo + 5), .ref (xo + 6), .int (nI q0)] n (ovX xo (xq ξ a0) β ρ u v h) (Re (some (.int 1)) n (ovX xo (xq ξ ((skp (β 4) t a0) + 1)) (upa β 7 (upd (β 7) q0 33)) ρ u v h)) := by
  refine Cn.of (cc := b_RR_readComparison) (maxL := 3) (ret := (some .boolean)) (hh := []) (by decide +kernel) hl (Or.inl ⟨rfl, rfl⟩) (Nat.le_of_ble_eq_true rfl) ?_
  intro p e s m args below meth c C
  refine j_aload_n C d_RR_readComparison_0 rfl rfl ?_
  refine j_bipush (v := 60) C d_RR_readComparison_1 (by decide) ?_
  refine j_callV C d_RR_readComparison_3 ml_RR_47 mc_RR_passes in_RR_passes rfl se_RR_passes (by omega) (ovX_c (o := 5) rfl) (c_RR_passes hl h hn t a0 h4 ht ha0 60 (by decide)) rfl rfl (Nat.le_of_ble_eq_true rfl) (Nat.le_of_ble_eq_true rfl) (Nat.le_of_ble_eq_true rfl) (Nat.le_of_ble_eq_true rfl) (jk_r ?_)
  refine j_if_eq (tgt := 20) C d_RR_readComparison_6 (by decide) (fun c6 => ?_) (fun c6 => ?_)
  · have hy6 := pz_n c6
    rw [pp_n hy6]
    refine j_aload_n C d_RR_readComparison_20 rfl rfl ?_
    refine j_bipush (v := 61) C d_RR_readComparison_21 (by decide) ?_
    refine j_callV C d_RR_readComparison_23 ml_RR_47 mc_RR_passes in_RR_passes rfl se_RR_passes (by omega) (ovX_c (o := 5) rfl) (c_RR_passes hl h hn t (skp (β 4) t a0) h4 ht (skp_le _ ha0) 61 (by decide)) rfl rfl (Nat.le_of_ble_eq_true rfl) (Nat.le_of_ble_eq_true rfl) (Nat.le_of_ble_eq_true rfl) (Nat.le_of_ble_eq_true rfl) (jk_r ?_)
    refine j_if_eq (tgt := 40) C d_RR_readComparison_26 (by decide) (fun c26 => ?_) (fun c26 => ?_)
    · have hy26 := pz_n c26
      rw [pp_n hy26, skp_skp ha0]
      refine j_aload_n C d_RR_readComparison_40 rfl rfl ?_
      refine j_bipush (v := 33) C d_RR_readComparison_41 (by decide) ?_
      refine j_callV C d_RR_readComparison_43 ml_RR_47 mc_RR_passes in_RR_passes rfl se_RR_passes (by omega) (ovX_c (o := 5) rfl) (c_RR_passes hl h hn t (skp (β 4) t a0) h4 ht (skp_le _ ha0) 33 (by decide)) rfl rfl (Nat.le_of_ble_eq_true rfl) (Nat.le_of_ble_eq_true rfl) (Nat.le_of_ble_eq_true rfl) (Nat.le_of_ble_eq_true rfl) (jk_r ?_)
      refine j_if_eq (tgt := 60) C d_RR_readComparison_46 (by decide) (fun c46 => ?_) (fun c46 => ?_)
      · exact absurd (by rw [skp_skp ha0]; exact hS) (pz_n c46)
      · refine j_aload_n C d_RR_readComparison_49 rfl rfl ?_
        refine jx_get 6 C fl_1_51 d_RR_readComparison_50 hn rfl rfl ?_
        refine j_iload_n C d_RR_readComparison_53 rfl rfl ?_
        refine j_bipush (v := 33) C d_RR_readComparison_54 (by decide) ?_
        refine jx_cast 7 C d_RR_readComparison_56 hn rfl (vp_in_nI (by omega) (by omega)) rfl ?_
        rw [nI_clamp (by omega), pp_y (pz_y c46), skp_skp ha0]
        refine j_goto (tgt := 62) C d_RR_readComparison_57 (by decide) ?_
        refine j_iconst (v := 1) C d_RR_readComparison_62 (by decide) ?_
        exact j_zreturn C d_RR_readComparison_63 rfl (by decide) (by decide) (by decide) ⟨rfl, rfl, rfl⟩
    · exact absurd ((pz_y c26).symm.trans (show hr (β 4) t (skp (β 4) t (skp (β 4) t a0)) = 33 by rw [skp_skp ha0]; exact hS)) (by decide)
  · exact absurd ((pz_y c6).symm.trans (hS)) (by decide)

set_option maxHeartbeats 4000000 in
set_option maxRecDepth 100000 in
theorem c_RR_readComparison_6_3 {l : Launch} (hl : l.stackTraces = false) {D : va_G} {cA : Nat → ClassId} {b n : Nat} {xo : Nat} {ξ : Nat → Int32} {β : Nat → Nat → Int32} {ρ : Nat → Option Nat} {u v : Nat} (h : AH) (hn : xo + 28 ≤ n) (t a0 : Nat) (h4 : ξ 4 = nI t) (ht : t ≤ 300) (ha0 : a0 ≤ t) (q0 : Nat) (hq : q0 < 20) (hS : ¬ (hr (β 4) t (skp (β 4) t a0) = 60 ∨ hr (β 4) t (skp (β 4) t a0) = 61 ∨ hr (β 4) t (skp (β 4) t a0) = 33)) : Cn l D cA b y_RR_readComparison k_RR_readComparison 2 25 0 0 [.ref (xo + 5), .ref (xo + 6), .int (nI q0)] n (ovX xo (xq ξ a0) β ρ u v h) (Re (some (.int 0)) n (ovX xo (xq ξ (skp (β 4) t a0)) β ρ u v h)) := by
  refine Cn.of (cc := b_RR_readComparison) (maxL := 3) (ret := (some .boolean)) (hh := []) (by decide +kernel) hl (Or.inl ⟨rfl, rfl⟩) (Nat.le_of_ble_eq_true rfl) ?_
  intro p e s m args below meth c C
  refine j_aload_n C d_RR_readComparison_0 rfl rfl ?_
  refine j_bipush (v := 60) C d_RR_readComparison_1 (by decide) ?_
  refine j_callV C d_RR_readComparison_3 ml_RR_47 mc_RR_passes in_RR_passes rfl se_RR_passes (by omega) (ovX_c (o := 5) rfl) (c_RR_passes hl h hn t a0 h4 ht ha0 60 (by decide)) rfl rfl (Nat.le_of_ble_eq_true rfl) (Nat.le_of_ble_eq_true rfl) (Nat.le_of_ble_eq_true rfl) (Nat.le_of_ble_eq_true rfl) (jk_r ?_)
  refine j_if_eq (tgt := 20) C d_RR_readComparison_6 (by decide) (fun c6 => ?_) (fun c6 => ?_)
  · have hy6 := pz_n c6
    rw [pp_n hy6]
    refine j_aload_n C d_RR_readComparison_20 rfl rfl ?_
    refine j_bipush (v := 61) C d_RR_readComparison_21 (by decide) ?_
    refine j_callV C d_RR_readComparison_23 ml_RR_47 mc_RR_passes in_RR_passes rfl se_RR_passes (by omega) (ovX_c (o := 5) rfl) (c_RR_passes hl h hn t (skp (β 4) t a0) h4 ht (skp_le _ ha0) 61 (by decide)) rfl rfl (Nat.le_of_ble_eq_true rfl) (Nat.le_of_ble_eq_true rfl) (Nat.le_of_ble_eq_true rfl) (Nat.le_of_ble_eq_true rfl) (jk_r ?_)
    refine j_if_eq (tgt := 40) C d_RR_readComparison_26 (by decide) (fun c26 => ?_) (fun c26 => ?_)
    · have hy26 := pz_n c26
      rw [pp_n hy26, skp_skp ha0]
      refine j_aload_n C d_RR_readComparison_40 rfl rfl ?_
      refine j_bipush (v := 33) C d_RR_readComparison_41 (by decide) ?_
      refine j_callV C d_RR_readComparison_43 ml_RR_47 mc_RR_passes in_RR_passes rfl se_RR_passes (by omega) (ovX_c (o := 5) rfl) (c_RR_passes hl h hn t (skp (β 4) t a0) h4 ht (skp_le _ ha0) 33 (by decide)) rfl rfl (Nat.le_of_ble_eq_true rfl) (Nat.le_of_ble_eq_true rfl) (Nat.le_of_ble_eq_true rfl) (Nat.le_of_ble_eq_true rfl) (jk_r ?_)
      refine j_if_eq (tgt := 60) C d_RR_readComparison_46 (by decide) (fun c46 => ?_) (fun c46 => ?_)
      · have hy46 := pz_n c46
        rw [pp_n hy46, skp_skp ha0]
        refine j_iconst (v := 0) C d_RR_readComparison_60 (by decide) ?_
        exact j_zreturn C d_RR_readComparison_61 rfl (by decide) (by decide) (by decide) ⟨rfl, rfl, rfl⟩
      · exact absurd (Or.inr (Or.inr (by have z := pz_y c46; rw [skp_skp ha0] at z; exact z))) hS
    · exact absurd (Or.inr (Or.inl (by have z := pz_y c26; rw [skp_skp ha0] at z; exact z))) hS
  · exact absurd (Or.inl (pz_y c6)) hS

set_option maxHeartbeats 4000000 in
set_option maxRecDepth 100000 in
theorem c_RB_noteField_13 {l : Launch} (hl : l.stackTraces = false) {D : va_G} {cA : Nat → ClassId} {b n : Nat} {xo : Nat} {ξ : Nat → Int32} {β : Nat → Nat → Int32} {ρ : Nat → Option Nat} {u v : Nat} (h : AH) (hn : xo + 28 ≤ n) (q0 : Nat) (hq : q0 < 20) (x : Int32) : Cn l D cA b y_RB_noteField k_RB_noteField 1 16 0 0 [.ref (xo + 13), .int (nI q0), .int x] n (ovX xo ξ β ρ u v h) (Re none n (ovX xo ξ (nt β (13 + 2) q0 x) ρ u v h)) := by
  refine Cn.of (cc := b_RB_noteField) (maxL := 3) (ret := none) (hh := []) (by decide +kernel) hl (Or.inl ⟨rfl, rfl⟩) (Nat.le_of_ble_eq_true rfl) ?_
  intro p e s m args below meth c C
  refine j_iload_n C d_RB_noteField_0 rfl rfl ?_
  refine j_if_ge (tgt := 23) C d_RB_noteField_1 (by decide) (fun c1 => ?_) (fun c1 => ?_)
  · exact j_vreturn C d_RB_noteField_23 rfl (by decide) (by decide) ⟨rfl, rfl, by unfold nt; rw [if_pos c1]⟩
  · refine j_aload_n C d_RB_noteField_4 rfl rfl ?_
    refine jx_get 13 C fl_2_19 d_RB_noteField_5 hn rfl rfl ?_
    refine j_iload_n C d_RB_noteField_8 rfl rfl ?_
    refine j_aload_n C d_RB_noteField_9 rfl rfl ?_
    refine jx_get 13 C fl_2_19 d_RB_noteField_10 hn rfl rfl ?_
    refine j_iload_n C d_RB_noteField_13 rfl rfl ?_
    refine jx_iald (w := β 15 q0) 15 C d_RB_noteField_14 hn rfl (vp_in_nI (by omega) (by omega)) (by rw [nI_clamp (by omega)]) ?_
    refine j_iconst (v := (-1)) C d_RB_noteField_15 (by decide) ?_
    refine j_iload_n C d_RB_noteField_16 rfl rfl ?_
    refine j_isub C d_RB_noteField_17 ?_
    refine j_iconst (v := 1) C d_RB_noteField_18 (by decide) ?_
    refine j_callS C d_RB_noteField_19 ml_RB_40 mc_X_changed st_X_changed (c_X_changed hl _ _ _ _) rfl rfl (Nat.le_of_ble_eq_true rfl) (Nat.le_of_ble_eq_true rfl) (Nat.le_of_ble_eq_true rfl) (Nat.le_of_ble_eq_true rfl) (jk_r ?_)
    refine jx_iast 15 C d_RB_noteField_22 hn rfl (vp_in_nI (by omega) (by omega)) rfl ?_
    rw [nI_clamp (by omega)]
    exact j_vreturn C d_RB_noteField_23 rfl (by decide) (by decide) ⟨rfl, rfl, by unfold nt; rw [if_neg c1]⟩

set_option maxHeartbeats 4000000 in
set_option maxRecDepth 100000 in
theorem c_RB_startRule_13 {l : Launch} (hl : l.stackTraces = false) {D : va_G} {cA : Nat → ClassId} {b n : Nat} {xo : Nat} {ξ : Nat → Int32} {β : Nat → Nat → Int32} {ρ : Nat → Option Nat} {u v : Nat} (h : AH) (hn : xo + 28 ≤ n) (q0 : Nat) (hq : q0 < 20) : Cn l D cA b y_RB_startRule k_RB_startRule 0 0 0 0 [.ref (xo + 13), .int (nI q0)] n (ovX xo ξ β ρ u v h) (Re none n (ovX xo ξ (stR 13 β q0) ρ u v h)) := by
  refine Cn.of (cc := b_RB_startRule) (maxL := 2) (ret := none) (hh := []) (by decide +kernel) hl (Or.inl ⟨rfl, rfl⟩) (Nat.le_of_ble_eq_true rfl) ?_
  intro p e s m args below meth c C
  refine j_aload_n C d_RB_startRule_0 rfl rfl ?_
  refine jx_get 13 C fl_2_19 d_RB_startRule_1 hn rfl rfl ?_
  refine j_iload_n C d_RB_startRule_4 rfl rfl ?_
  refine j_iconst (v := 0) C d_RB_startRule_5 (by decide) ?_
  refine jx_iast 15 C d_RB_startRule_6 hn rfl (vp_in_nI (by omega) (by omega)) rfl ?_
  rw [nI_clamp (by omega)]
  refine j_aload_n C d_RB_startRule_7 rfl rfl ?_
  refine jx_get 13 C fl_2_23 d_RB_startRule_8 hn rfl rfl ?_
  refine j_iconst (v := 2) C d_RB_startRule_11 (by decide) ?_
  refine j_iload_n C d_RB_startRule_12 rfl rfl ?_
  refine j_imul C d_RB_startRule_13 ?_
  rw [e2q]
  refine j_iconst (v := 0) C d_RB_startRule_14 (by decide) ?_
  refine jx_iast 16 C d_RB_startRule_15 hn rfl (vp_in_nI (by omega) (by omega)) rfl ?_
  rw [nI_clamp (by omega)]
  refine j_aload_n C d_RB_startRule_16 rfl rfl ?_
  refine jx_get 13 C fl_2_23 d_RB_startRule_17 hn rfl rfl ?_
  refine j_iconst (v := 2) C d_RB_startRule_20 (by decide) ?_
  refine j_iload_n C d_RB_startRule_21 rfl rfl ?_
  refine j_imul C d_RB_startRule_22 ?_
  refine j_iconst (v := 1) C d_RB_startRule_23 (by decide) ?_
  refine j_iadd C d_RB_startRule_24 ?_
  rw [e2q1]
  refine j_iconst (v := 0) C d_RB_startRule_25 (by decide) ?_
  refine jx_iast 16 C d_RB_startRule_26 hn rfl (vp_in_nI (by omega) (by omega)) rfl ?_
  rw [nI_clamp (by omega)]
  exact j_vreturn C d_RB_startRule_27 rfl (by decide) (by decide) ⟨rfl, rfl, by unfold stR; rw [upa_uu]; rfl⟩

set_option maxHeartbeats 4000000 in
set_option maxRecDepth 100000 in
theorem c_RB_addTerm_13 {l : Launch} (hl : l.stackTraces = false) {D : va_G} {cA : Nat → ClassId} {b n : Nat} {xo : Nat} {ξ : Nat → Int32} {β : Nat → Nat → Int32} {ρ : Nat → Option Nat} {u v : Nat} (h : AH) (hn : xo + 28 ≤ n) (s0 c0 : Nat) (hs : s0 < 40) (hc : β 16 s0 = nI c0) (hc4 : c0 < 4) (x y m0 : Int32) : Cn l D cA b y_RB_addTerm k_RB_addTerm 2 30 0 0 [.ref (xo + 13), .int (nI s0), .int x, .int y, .int m0] n (ovX xo ξ β ρ u v h) (Re none n (ovX xo ξ (adT 13 β s0 c0 x y m0) ρ u v h)) := by
  refine Cn.of (cc := b_RB_addTerm) (maxL := 7) (ret := none) (hh := []) (by decide +kernel) hl (Or.inl ⟨rfl, rfl⟩) (Nat.le_of_ble_eq_true rfl) ?_
  intro p e s m args below meth c C
  refine j_aload_n C d_RB_addTerm_0 rfl rfl ?_
  refine jx_get 13 C fl_2_23 d_RB_addTerm_1 hn rfl rfl ?_
  refine j_iload_n C d_RB_addTerm_4 rfl rfl ?_
  refine jx_iald (w := nI c0) 16 C d_RB_addTerm_5 hn rfl (vp_in_nI (by omega) (by omega)) (by rw [nI_clamp (by omega)]; exact hc) ?_
  refine j_istore C d_RB_addTerm_6 (by decide) rfl ?_
  refine j_iload C d_RB_addTerm_8 rfl ?_
  refine j_iconst (v := 4) C d_RB_addTerm_10 (by decide) ?_
  refine j_icmp_lt (tgt := 15) C d_RB_addTerm_11 (by decide) (fun c11 => ?_) (fun c11 => ?_)
  · refine j_iload_n C d_RB_addTerm_15 rfl rfl ?_
    refine j_iconst (v := 4) C d_RB_addTerm_16 (by decide) ?_
    refine j_imul C d_RB_addTerm_17 ?_
    refine j_iload C d_RB_addTerm_18 rfl ?_
    refine j_iadd C d_RB_addTerm_20 ?_
    rw [e4s]
    refine j_istore C d_RB_addTerm_21 (by decide) rfl ?_
    refine j_aload_n C d_RB_addTerm_23 rfl rfl ?_
    refine jx_get 13 C fl_2_26 d_RB_addTerm_24 hn rfl rfl ?_
    refine j_iload C d_RB_addTerm_27 rfl ?_
    refine j_iload_n C d_RB_addTerm_29 rfl rfl ?_
    refine jx_iast 17 C d_RB_addTerm_30 hn rfl (vp_in_nI (by omega) (by omega)) rfl ?_
    rw [nI_clamp (by omega)]
    refine j_aload_n C d_RB_addTerm_31 rfl rfl ?_
    refine jx_get 13 C fl_2_29 d_RB_addTerm_32 hn rfl rfl ?_
    refine j_iload C d_RB_addTerm_35 rfl ?_
    refine j_iload_n C d_RB_addTerm_37 rfl rfl ?_
    refine jx_iast 18 C d_RB_addTerm_38 hn rfl (vp_in_nI (by omega) (by omega)) rfl ?_
    rw [nI_clamp (by omega)]
    refine j_aload_n C d_RB_addTerm_39 rfl rfl ?_
    refine jx_get 13 C fl_2_32 d_RB_addTerm_40 hn rfl rfl ?_
    refine j_iload C d_RB_addTerm_43 rfl ?_
    refine j_iload C d_RB_addTerm_45 rfl ?_
    refine jx_zast 19 C d_RB_addTerm_47 hn rfl (vp_in_nI (by omega) (by omega)) rfl ?_
    rw [nI_clamp (by omega)]
    refine j_aload_n C d_RB_addTerm_48 rfl rfl ?_
    refine jx_get 13 C fl_2_23 d_RB_addTerm_49 hn rfl rfl ?_
    refine j_iload_n C d_RB_addTerm_52 rfl rfl ?_
    refine j_iload C d_RB_addTerm_53 rfl ?_
    refine j_iconst (v := 1) C d_RB_addTerm_55 (by decide) ?_
    refine j_iadd C d_RB_addTerm_56 ?_
    rw [nI_1]
    refine jx_iast 16 C d_RB_addTerm_57 hn rfl (vp_in_nI (by omega) (by omega)) rfl ?_
    rw [nI_clamp (by omega)]
    refine j_aload_n C d_RB_addTerm_58 rfl rfl ?_
    refine j_iload_n C d_RB_addTerm_59 rfl rfl ?_
    refine j_iconst (v := 2) C d_RB_addTerm_60 (by decide) ?_
    refine j_idiv C d_RB_addTerm_61 (by decide) ?_
    rw [e2d hs]
    refine j_iload_n C d_RB_addTerm_62 rfl rfl ?_
    refine j_callV C d_RB_addTerm_63 ml_RB_36 mc_RB_noteField in_RB_noteField rfl se_RB_noteField (by omega) (ovX_c (o := 13) rfl) (c_RB_noteField_13 hl h hn (s0 / 2) (by omega) x) rfl rfl (Nat.le_of_ble_eq_true rfl) (Nat.le_of_ble_eq_true rfl) (Nat.le_of_ble_eq_true rfl) (Nat.le_of_ble_eq_true rfl) (jk_v ?_)
    refine j_aload_n C d_RB_addTerm_66 rfl rfl ?_
    refine j_iload_n C d_RB_addTerm_67 rfl rfl ?_
    refine j_iconst (v := 2) C d_RB_addTerm_68 (by decide) ?_
    refine j_idiv C d_RB_addTerm_69 (by decide) ?_
    rw [e2d hs]
    refine j_iload_n C d_RB_addTerm_70 rfl rfl ?_
    refine j_callV C d_RB_addTerm_71 ml_RB_36 mc_RB_noteField in_RB_noteField rfl se_RB_noteField (by omega) (ovX_c (o := 13) rfl) (c_RB_noteField_13 hl h hn (s0 / 2) (by omega) y) rfl rfl (Nat.le_of_ble_eq_true rfl) (Nat.le_of_ble_eq_true rfl) (Nat.le_of_ble_eq_true rfl) (Nat.le_of_ble_eq_true rfl) (jk_v ?_)
    exact j_vreturn C d_RB_addTerm_74 rfl (by decide) (by decide) ⟨rfl, rfl, rfl⟩
  · exact absurd (show nI c0 < nI 4 from nI_lt hc4 (by omega)) c11

set_option maxHeartbeats 4000000 in
set_option maxRecDepth 100000 in
theorem c_RR_readTerm_13_s {l : Launch} (hl : l.stackTraces = false) {D : va_G} {cA : Nat → ClassId} {b n : Nat} {xo : Nat} {ξ : Nat → Int32} {β : Nat → Nat → Int32} {ρ : Nat → Option Nat} {u v : Nat} (h : AH) (hn : xo + 28 ≤ n) (t a0 : Nat) (h4 : ξ 4 = nI t) (ht : t ≤ 300) (ha0 : a0 ≤ t) (how : Int32) (s0 c0 : Nat) (hs : s0 < 40) (hc : β 16 s0 = nI c0) (hc4 : c0 < 4) (m0 : Int32) (tm : Int32 × Int32 × Option Int32) (P : Nat) (hS : ctm (β 4) t how a0 = some (tm, P)) : Cn l D cA b y_RR_readTerm k_RR_readTerm 3 48 0 0 [.ref (xo + 5), .ref (xo + 13), .int (nI s0), .int m0] n (ovX xo (xq ξ a0) β ρ u v h) (Re (some (.int 1)) n (ovX xo (xq ξ P) (adT 13 β s0 c0 tm.2.1 (tm.2.2.getD 1) m0) ρ u v h)) := by
  refine Cn.of (cc := b_RR_readTerm) (maxL := 6) (ret := (some .boolean)) (hh := []) (by decide +kernel) hl (Or.inl ⟨rfl, rfl⟩) (Nat.le_of_ble_eq_true rfl) ?_
  intro p e s m args below meth c C
  refine j_aload_n C d_RR_readTerm_0 rfl rfl ?_
  refine j_callV C d_RR_readTerm_1 ml_RR_59 mc_RR_readFactor in_RR_readFactor rfl se_RR_readFactor (by omega) (ovX_c (o := 5) rfl) (c_RR_readFactor hl h hn t a0 h4 ht ha0) rfl rfl (Nat.le_of_ble_eq_true rfl) (Nat.le_of_ble_eq_true rfl) (Nat.le_of_ble_eq_true rfl) (Nat.le_of_ble_eq_true rfl) (jk_r ?_)
  refine j_istore C d_RR_readTerm_4 (by decide) rfl ?_
  refine j_iload C d_RR_readTerm_6 rfl ?_
  refine j_ldc (v := (-1000000000)) C d_RR_readTerm_8 lc_RR_63 ?_
  refine j_icmp_ne (tgt := 15) C d_RR_readTerm_10 (by decide) (fun c10 => ?_) (fun c10 => ?_)
  · refine j_aload_n C d_RR_readTerm_15 rfl rfl ?_
    refine j_bipush (v := 47) C d_RR_readTerm_16 (by decide) ?_
    refine j_callV C d_RR_readTerm_18 ml_RR_47 mc_RR_passes in_RR_passes rfl se_RR_passes (by omega) (ovX_c (o := 5) rfl) (c_RR_passes hl h hn t (cfA (β 4) t a0) h4 ht (cfA_le ha0) 47 (by decide)) rfl rfl (Nat.le_of_ble_eq_true rfl) (Nat.le_of_ble_eq_true rfl) (Nat.le_of_ble_eq_true rfl) (Nat.le_of_ble_eq_true rfl) (jk_r ?_)
    refine j_if_eq (tgt := 31) C d_RR_readTerm_21 (by decide) (fun c21 => ?_) (fun c21 => ?_)
    · have hy := pz_n c21
      rw [pp_n hy]
      refine j_iconst (v := 1) C d_RR_readTerm_31 (by decide) ?_
      refine j_istore C d_RR_readTerm_32 (by decide) rfl ?_
      refine j_iload C d_RR_readTerm_34 rfl ?_
      refine j_ldc (v := (-1000000000)) C d_RR_readTerm_36 lc_RR_63 ?_
      refine j_icmp_ne (tgt := 43) C d_RR_readTerm_38 (by decide) (fun c38 => ?_) (fun c38 => ?_)
      · refine j_aload_n C d_RR_readTerm_43 rfl rfl ?_
        refine j_iload_n C d_RR_readTerm_44 rfl rfl ?_
        refine j_iload C d_RR_readTerm_45 rfl ?_
        refine j_iload C d_RR_readTerm_47 rfl ?_
        refine j_iload_n C d_RR_readTerm_49 rfl rfl ?_
        have ev : ctm (β 4) t how a0 = some ((how, (cfV (β 4) t a0), none), (skp (β 4) t (cfA (β 4) t a0))) := (if_neg c10).trans (if_neg hy)
        rw [ev] at hS
        cases hS
        refine j_callV C d_RR_readTerm_50 ml_RR_64 mc_RB_addTerm in_RB_addTerm rfl se_RB_addTerm (by omega) (ovX_c (o := 13) rfl) (c_RB_addTerm_13 hl h hn s0 c0 hs hc hc4 (cfV (β 4) t a0) 1 m0) rfl rfl (Nat.le_of_ble_eq_true rfl) (Nat.le_of_ble_eq_true rfl) (Nat.le_of_ble_eq_true rfl) (Nat.le_of_ble_eq_true rfl) (jk_v ?_)
        refine j_iconst (v := 1) C d_RR_readTerm_53 rfl ?_
        exact j_zreturn C d_RR_readTerm_54 rfl (by decide) (by decide) (by decide) ⟨rfl, rfl, rfl⟩
      · exact absurd c38 (by decide)
    · have hy := pz_y c21
      rw [pp_y hy]
      have hA : (skp (β 4) t (cfA (β 4) t a0)) + 1 ≤ t := hr_lt2 hy (by decide)
      refine j_aload_n C d_RR_readTerm_24 rfl rfl ?_
      refine j_callV C d_RR_readTerm_25 ml_RR_59 mc_RR_readFactor in_RR_readFactor rfl se_RR_readFactor (by omega) (ovX_c (o := 5) rfl) (c_RR_readFactor hl h hn t ((skp (β 4) t (cfA (β 4) t a0)) + 1) h4 ht hA) rfl rfl (Nat.le_of_ble_eq_true rfl) (Nat.le_of_ble_eq_true rfl) (Nat.le_of_ble_eq_true rfl) (Nat.le_of_ble_eq_true rfl) (jk_r ?_)
      refine j_goto (tgt := 32) C d_RR_readTerm_28 (by decide) ?_
      refine j_istore C d_RR_readTerm_32 (by decide) rfl ?_
      refine j_iload C d_RR_readTerm_34 rfl ?_
      refine j_ldc (v := (-1000000000)) C d_RR_readTerm_36 lc_RR_63 ?_
      refine j_icmp_ne (tgt := 43) C d_RR_readTerm_38 (by decide) (fun c38 => ?_) (fun c38 => ?_)
      · refine j_aload_n C d_RR_readTerm_43 rfl rfl ?_
        refine j_iload_n C d_RR_readTerm_44 rfl rfl ?_
        refine j_iload C d_RR_readTerm_45 rfl ?_
        refine j_iload C d_RR_readTerm_47 rfl ?_
        refine j_iload_n C d_RR_readTerm_49 rfl rfl ?_
        have ev : ctm (β 4) t how a0 = some ((how, (cfV (β 4) t a0), some (cfV (β 4) t ((skp (β 4) t (cfA (β 4) t a0)) + 1))), (cfA (β 4) t ((skp (β 4) t (cfA (β 4) t a0)) + 1))) := (if_neg c10).trans ((if_pos hy).trans (if_neg c38))
        rw [ev] at hS
        cases hS
        refine j_callV C d_RR_readTerm_50 ml_RR_64 mc_RB_addTerm in_RB_addTerm rfl se_RB_addTerm (by omega) (ovX_c (o := 13) rfl) (c_RB_addTerm_13 hl h hn s0 c0 hs hc hc4 (cfV (β 4) t a0) (cfV (β 4) t ((skp (β 4) t (cfA (β 4) t a0)) + 1)) m0) rfl rfl (Nat.le_of_ble_eq_true rfl) (Nat.le_of_ble_eq_true rfl) (Nat.le_of_ble_eq_true rfl) (Nat.le_of_ble_eq_true rfl) (jk_v ?_)
        refine j_iconst (v := 1) C d_RR_readTerm_53 rfl ?_
        exact j_zreturn C d_RR_readTerm_54 rfl (by decide) (by decide) (by decide) ⟨rfl, rfl, rfl⟩
      · refine j_iconst (v := 0) C d_RR_readTerm_41 (by decide) ?_
        have ev : ctm (β 4) t how a0 = none := (if_neg c10).trans ((if_pos hy).trans (if_pos c38))
        rw [ev] at hS
        cases hS
  · refine j_iconst (v := 0) C d_RR_readTerm_13 (by decide) ?_
    have ev : ctm (β 4) t how a0 = none := if_pos c10
    rw [ev] at hS
    cases hS

set_option maxHeartbeats 4000000 in
set_option maxRecDepth 100000 in
theorem c_RR_readTerm_13_n {l : Launch} (hl : l.stackTraces = false) {D : va_G} {cA : Nat → ClassId} {b n : Nat} {xo : Nat} {ξ : Nat → Int32} {β : Nat → Nat → Int32} {ρ : Nat → Option Nat} {u v : Nat} (h : AH) (hn : xo + 28 ≤ n) (t a0 : Nat) (h4 : ξ 4 = nI t) (ht : t ≤ 300) (ha0 : a0 ≤ t) (how : Int32) (s0 c0 : Nat) (hs : s0 < 40) (hc : β 16 s0 = nI c0) (hc4 : c0 < 4) (m0 : Int32) (hS : ctm (β 4) t how a0 = none) : Cn l D cA b y_RR_readTerm k_RR_readTerm 3 48 0 0 [.ref (xo + 5), .ref (xo + 13), .int (nI s0), .int m0] n (ovX xo (xq ξ a0) β ρ u v h) (Re (some (.int 0)) n (ovX xo (xq ξ (ctp (β 4) t a0)) β ρ u v h)) := by
  refine Cn.of (cc := b_RR_readTerm) (maxL := 6) (ret := (some .boolean)) (hh := []) (by decide +kernel) hl (Or.inl ⟨rfl, rfl⟩) (Nat.le_of_ble_eq_true rfl) ?_
  intro p e s m args below meth c C
  refine j_aload_n C d_RR_readTerm_0 rfl rfl ?_
  refine j_callV C d_RR_readTerm_1 ml_RR_59 mc_RR_readFactor in_RR_readFactor rfl se_RR_readFactor (by omega) (ovX_c (o := 5) rfl) (c_RR_readFactor hl h hn t a0 h4 ht ha0) rfl rfl (Nat.le_of_ble_eq_true rfl) (Nat.le_of_ble_eq_true rfl) (Nat.le_of_ble_eq_true rfl) (Nat.le_of_ble_eq_true rfl) (jk_r ?_)
  refine j_istore C d_RR_readTerm_4 (by decide) rfl ?_
  refine j_iload C d_RR_readTerm_6 rfl ?_
  refine j_ldc (v := (-1000000000)) C d_RR_readTerm_8 lc_RR_63 ?_
  refine j_icmp_ne (tgt := 15) C d_RR_readTerm_10 (by decide) (fun c10 => ?_) (fun c10 => ?_)
  · refine j_aload_n C d_RR_readTerm_15 rfl rfl ?_
    refine j_bipush (v := 47) C d_RR_readTerm_16 (by decide) ?_
    refine j_callV C d_RR_readTerm_18 ml_RR_47 mc_RR_passes in_RR_passes rfl se_RR_passes (by omega) (ovX_c (o := 5) rfl) (c_RR_passes hl h hn t (cfA (β 4) t a0) h4 ht (cfA_le ha0) 47 (by decide)) rfl rfl (Nat.le_of_ble_eq_true rfl) (Nat.le_of_ble_eq_true rfl) (Nat.le_of_ble_eq_true rfl) (Nat.le_of_ble_eq_true rfl) (jk_r ?_)
    refine j_if_eq (tgt := 31) C d_RR_readTerm_21 (by decide) (fun c21 => ?_) (fun c21 => ?_)
    · have hy := pz_n c21
      rw [pp_n hy]
      refine j_iconst (v := 1) C d_RR_readTerm_31 (by decide) ?_
      refine j_istore C d_RR_readTerm_32 (by decide) rfl ?_
      refine j_iload C d_RR_readTerm_34 rfl ?_
      refine j_ldc (v := (-1000000000)) C d_RR_readTerm_36 lc_RR_63 ?_
      refine j_icmp_ne (tgt := 43) C d_RR_readTerm_38 (by decide) (fun c38 => ?_) (fun c38 => ?_)
      · refine j_aload_n C d_RR_readTerm_43 rfl rfl ?_
        refine j_iload_n C d_RR_readTerm_44 rfl rfl ?_
        refine j_iload C d_RR_readTerm_45 rfl ?_
        refine j_iload C d_RR_readTerm_47 rfl ?_
        refine j_iload_n C d_RR_readTerm_49 rfl rfl ?_
        have ev : ctm (β 4) t how a0 = some ((how, (cfV (β 4) t a0), none), (skp (β 4) t (cfA (β 4) t a0))) := (if_neg c10).trans (if_neg hy)
        rw [ev] at hS
        cases hS
      · exact absurd c38 (by decide)
    · have hy := pz_y c21
      rw [pp_y hy]
      have hA : (skp (β 4) t (cfA (β 4) t a0)) + 1 ≤ t := hr_lt2 hy (by decide)
      refine j_aload_n C d_RR_readTerm_24 rfl rfl ?_
      refine j_callV C d_RR_readTerm_25 ml_RR_59 mc_RR_readFactor in_RR_readFactor rfl se_RR_readFactor (by omega) (ovX_c (o := 5) rfl) (c_RR_readFactor hl h hn t ((skp (β 4) t (cfA (β 4) t a0)) + 1) h4 ht hA) rfl rfl (Nat.le_of_ble_eq_true rfl) (Nat.le_of_ble_eq_true rfl) (Nat.le_of_ble_eq_true rfl) (Nat.le_of_ble_eq_true rfl) (jk_r ?_)
      refine j_goto (tgt := 32) C d_RR_readTerm_28 (by decide) ?_
      refine j_istore C d_RR_readTerm_32 (by decide) rfl ?_
      refine j_iload C d_RR_readTerm_34 rfl ?_
      refine j_ldc (v := (-1000000000)) C d_RR_readTerm_36 lc_RR_63 ?_
      refine j_icmp_ne (tgt := 43) C d_RR_readTerm_38 (by decide) (fun c38 => ?_) (fun c38 => ?_)
      · refine j_aload_n C d_RR_readTerm_43 rfl rfl ?_
        refine j_iload_n C d_RR_readTerm_44 rfl rfl ?_
        refine j_iload C d_RR_readTerm_45 rfl ?_
        refine j_iload C d_RR_readTerm_47 rfl ?_
        refine j_iload_n C d_RR_readTerm_49 rfl rfl ?_
        have ev : ctm (β 4) t how a0 = some ((how, (cfV (β 4) t a0), some (cfV (β 4) t ((skp (β 4) t (cfA (β 4) t a0)) + 1))), (cfA (β 4) t ((skp (β 4) t (cfA (β 4) t a0)) + 1))) := (if_neg c10).trans ((if_pos hy).trans (if_neg c38))
        rw [ev] at hS
        cases hS
      · refine j_iconst (v := 0) C d_RR_readTerm_41 (by decide) ?_
        exact j_zreturn C d_RR_readTerm_42 rfl (by decide) (by decide) (by decide) ⟨rfl, rfl, by unfold ctp; rw [if_neg c10]⟩
  · refine j_iconst (v := 0) C d_RR_readTerm_13 (by decide) ?_
    exact j_zreturn C d_RR_readTerm_14 rfl (by decide) (by decide) (by decide) ⟨rfl, rfl, by unfold ctp; rw [if_pos c10]⟩

set_option maxHeartbeats 4000000 in
set_option maxRecDepth 100000 in
theorem c_RR_readComparison_13_0 {l : Launch} (hl : l.stackTraces = false) {D : va_G} {cA : Nat → ClassId} {b n : Nat} {xo : Nat} {ξ : Nat → Int32} {β : Nat → Nat → Int32} {ρ : Nat → Option Nat} {u v : Nat} (h : AH) (hn : xo + 28 ≤ n) (t a0 : Nat) (h4 : ξ 4 = nI t) (ht : t ≤ 300) (ha0 : a0 ≤ t) (q0 : Nat) (hq : q0 < 20) (hS : hr (β 4) t (skp (β 4) t a0) = 60) : Cn l D cA b y_RR_readComparison k_RR_readComparison 2 25 0 0 [.ref (xo + 5), .ref (xo + 13), .int (nI q0)] n (ovX xo (xq ξ a0) β ρ u v h) (Re (some (.int 1)) n (ovX xo (xq ξ ((skp (β 4) t a0) + 1)) (upa β 14 (upd (β 14) q0 60)) ρ u v h)) := by
  refine Cn.of (cc := b_RR_readComparison) (maxL := 3) (ret := (some .boolean)) (hh := []) (by decide +kernel) hl (Or.inl ⟨rfl, rfl⟩) (Nat.le_of_ble_eq_true rfl) ?_
  intro p e s m args below meth c C
  refine j_aload_n C d_RR_readComparison_0 rfl rfl ?_
  refine j_bipush (v := 60) C d_RR_readComparison_1 (by decide) ?_
  refine j_callV C d_RR_readComparison_3 ml_RR_47 mc_RR_passes in_RR_passes rfl se_RR_passes (by omega) (ovX_c (o := 5) rfl) (c_RR_passes hl h hn t a0 h4 ht ha0 60 (by decide)) rfl rfl (Nat.le_of_ble_eq_true rfl) (Nat.le_of_ble_eq_true rfl) (Nat.le_of_ble_eq_true rfl) (Nat.le_of_ble_eq_true rfl) (jk_r ?_)
  refine j_if_eq (tgt := 20) C d_RR_readComparison_6 (by decide) (fun c6 => ?_) (fun c6 => ?_)
  · exact absurd (hS) (pz_n c6)
  · refine j_aload_n C d_RR_readComparison_9 rfl rfl ?_
    refine jx_get 13 C fl_1_51 d_RR_readComparison_10 hn rfl rfl ?_
    refine j_iload_n C d_RR_readComparison_13 rfl rfl ?_
    refine j_bipush (v := 60) C d_RR_readComparison_14 (by decide) ?_
    refine jx_cast 14 C d_RR_readComparison_16 hn rfl (vp_in_nI (by omega) (by omega)) rfl ?_
    rw [nI_clamp (by omega), pp_y (pz_y c6)]
    refine j_goto (tgt := 62) C d_RR_readComparison_17 (by decide) ?_
    refine j_iconst (v := 1) C d_RR_readComparison_62 (by decide) ?_
    exact j_zreturn C d_RR_readComparison_63 rfl (by decide) (by decide) (by decide) ⟨rfl, rfl, rfl⟩

set_option maxHeartbeats 4000000 in
set_option maxRecDepth 100000 in
theorem c_RR_readComparison_13_1 {l : Launch} (hl : l.stackTraces = false) {D : va_G} {cA : Nat → ClassId} {b n : Nat} {xo : Nat} {ξ : Nat → Int32} {β : Nat → Nat → Int32} {ρ : Nat → Option Nat} {u v : Nat} (h : AH) (hn : xo + 28 ≤ n) (t a0 : Nat) (h4 : ξ 4 = nI t) (ht : t ≤ 300) (ha0 : a0 ≤ t) (q0 : Nat) (hq : q0 < 20) (hS : hr (β 4) t (skp (β 4) t a0) = 61) : Cn l D cA b y_RR_readComparison k_RR_readComparison 2 25 0 0 [.ref (xo + 5), .ref (xo + 13), .int (nI q0)] n (ovX xo (xq ξ a0) β ρ u v h) (Re (some (.int 1)) n (ovX xo (xq ξ ((skp (β 4) t a0) + 1)) (upa β 14 (upd (β 14) q0 61)) ρ u v h)) := by
  refine Cn.of (cc := b_RR_readComparison) (maxL := 3) (ret := (some .boolean)) (hh := []) (by decide +kernel) hl (Or.inl ⟨rfl, rfl⟩) (Nat.le_of_ble_eq_true rfl) ?_
  intro p e s m args below meth c C
  refine j_aload_n C d_RR_readComparison_0 rfl rfl ?_
  refine j_bipush (v := 60) C d_RR_readComparison_1 (by decide) ?_
  refine j_callV C d_RR_readComparison_3 ml_RR_47 mc_RR_passes in_RR_passes rfl se_RR_passes (by omega) (ovX_c (o := 5) rfl) (c_RR_passes hl h hn t a0 h4 ht ha0 60 (by decide)) rfl rfl (Nat.le_of_ble_eq_true rfl) (Nat.le_of_ble_eq_true rfl) (Nat.le_of_ble_eq_true rfl) (Nat.le_of_ble_eq_true rfl) (jk_r ?_)
  refine j_if_eq (tgt := 20) C d_RR_readComparison_6 (by decide) (fun c6 => ?_) (fun c6 => ?_)
  · have hy6 := pz_n c6
    rw [pp_n hy6]
    refine j_aload_n C d_RR_readComparison_20 rfl rfl ?_
    refine j_bipush (v := 61) C d_RR_readComparison_21 (by decide) ?_
    refine j_callV C d_RR_readComparison_23 ml_RR_47 mc_RR_passes in_RR_passes rfl se_RR_passes (by omega) (ovX_c (o := 5) rfl) (c_RR_passes hl h hn t (skp (β 4) t a0) h4 ht (skp_le _ ha0) 61 (by decide)) rfl rfl (Nat.le_of_ble_eq_true rfl) (Nat.le_of_ble_eq_true rfl) (Nat.le_of_ble_eq_true rfl) (Nat.le_of_ble_eq_true rfl) (jk_r ?_)
    refine j_if_eq (tgt := 40) C d_RR_readComparison_26 (by decide) (fun c26 => ?_) (fun c26 => ?_)
    · exact absurd (by rw [skp_skp ha0]; exact hS) (pz_n c26)
    · refine j_aload_n C d_RR_readComparison_29 rfl rfl ?_
      refine jx_get 13 C fl_1_51 d_RR_readComparison_30 hn rfl rfl ?_
      refine j_iload_n C d_RR_readComparison_33 rfl rfl ?_
      refine j_bipush (v := 61) C d_RR_readComparison_34 (by decide) ?_
      refine jx_cast 14 C d_RR_readComparison_36 hn rfl (vp_in_nI (by omega) (by omega)) rfl ?_
      rw [nI_clamp (by omega), pp_y (pz_y c26), skp_skp ha0]
      refine j_goto (tgt := 62) C d_RR_readComparison_37 (by decide) ?_
      refine j_iconst (v := 1) C d_RR_readComparison_62 (by decide) ?_
      exact j_zreturn C d_RR_readComparison_63 rfl (by decide) (by decide) (by decide) ⟨rfl, rfl, rfl⟩
  · exact absurd ((pz_y c6).symm.trans (hS)) (by decide)

set_option maxHeartbeats 4000000 in
set_option maxRecDepth 100000 in
theorem c_RR_readComparison_13_2 {l : Launch} (hl : l.stackTraces = false) {D : va_G} {cA : Nat → ClassId} {b n : Nat} {xo : Nat} {ξ : Nat → Int32} {β : Nat → Nat → Int32} {ρ : Nat → Option Nat} {u v : Nat} (h : AH) (hn : xo + 28 ≤ n) (t a0 : Nat) (h4 : ξ 4 = nI t) (ht : t ≤ 300) (ha0 : a0 ≤ t) (q0 : Nat) (hq : q0 < 20) (hS : hr (β 4) t (skp (β 4) t a0) = 33) : Cn l D cA b y_RR_readComparison k_RR_readComparison 2 25 0 0 [.ref (xo + 5), .ref (xo + 13), .int (nI q0)] n (ovX xo (xq ξ a0) β ρ u v h) (Re (some (.int 1)) n (ovX xo (xq ξ ((skp (β 4) t a0) + 1)) (upa β 14 (upd (β 14) q0 33)) ρ u v h)) := by
  refine Cn.of (cc := b_RR_readComparison) (maxL := 3) (ret := (some .boolean)) (hh := []) (by decide +kernel) hl (Or.inl ⟨rfl, rfl⟩) (Nat.le_of_ble_eq_true rfl) ?_
  intro p e s m args below meth c C
  refine j_aload_n C d_RR_readComparison_0 rfl rfl ?_
  refine j_bipush (v := 60) C d_RR_readComparison_1 (by decide) ?_
  refine j_callV C d_RR_readComparison_3 ml_RR_47 mc_RR_passes in_RR_passes rfl se_RR_passes (by omega) (ovX_c (o := 5) rfl) (c_RR_passes hl h hn t a0 h4 ht ha0 60 (by decide)) rfl rfl (Nat.le_of_ble_eq_true rfl) (Nat.le_of_ble_eq_true rfl) (Nat.le_of_ble_eq_true rfl) (Nat.le_of_ble_eq_true rfl) (jk_r ?_)
  refine j_if_eq (tgt := 20) C d_RR_readComparison_6 (by decide) (fun c6 => ?_) (fun c6 => ?_)
  · have hy6 := pz_n c6
    rw [pp_n hy6]
    refine j_aload_n C d_RR_readComparison_20 rfl rfl ?_
    refine j_bipush (v := 61) C d_RR_readComparison_21 (by decide) ?_
    refine j_callV C d_RR_readComparison_23 ml_RR_47 mc_RR_passes in_RR_passes rfl se_RR_passes (by omega) (ovX_c (o := 5) rfl) (c_RR_passes hl h hn t (skp (β 4) t a0) h4 ht (skp_le _ ha0) 61 (by decide)) rfl rfl (Nat.le_of_ble_eq_true rfl) (Nat.le_of_ble_eq_true rfl) (Nat.le_of_ble_eq_true rfl) (Nat.le_of_ble_eq_true rfl) (jk_r ?_)
    refine j_if_eq (tgt := 40) C d_RR_readComparison_26 (by decide) (fun c26 => ?_) (fun c26 => ?_)
    · have hy26 := pz_n c26
      rw [pp_n hy26, skp_skp ha0]
      refine j_aload_n C d_RR_readComparison_40 rfl rfl ?_
      refine j_bipush (v := 33) C d_RR_readComparison_41 (by decide) ?_
      refine j_callV C d_RR_readComparison_43 ml_RR_47 mc_RR_passes in_RR_passes rfl se_RR_passes (by omega) (ovX_c (o := 5) rfl) (c_RR_passes hl h hn t (skp (β 4) t a0) h4 ht (skp_le _ ha0) 33 (by decide)) rfl rfl (Nat.le_of_ble_eq_true rfl) (Nat.le_of_ble_eq_true rfl) (Nat.le_of_ble_eq_true rfl) (Nat.le_of_ble_eq_true rfl) (jk_r ?_)
      refine j_if_eq (tgt := 60) C d_RR_readComparison_46 (by decide) (fun c46 => ?_) (fun c46 => ?_)
      · exact absurd (by rw [skp_skp ha0]; exact hS) (pz_n c46)
      · refine j_aload_n C d_RR_readComparison_49 rfl rfl ?_
        refine jx_get 13 C fl_1_51 d_RR_readComparison_50 hn rfl rfl ?_
        refine j_iload_n C d_RR_readComparison_53 rfl rfl ?_
        refine j_bipush (v := 33) C d_RR_readComparison_54 (by decide) ?_
        refine jx_cast 14 C d_RR_readComparison_56 hn rfl (vp_in_nI (by omega) (by omega)) rfl ?_
        rw [nI_clamp (by omega), pp_y (pz_y c46), skp_skp ha0]
        refine j_goto (tgt := 62) C d_RR_readComparison_57 (by decide) ?_
        refine j_iconst (v := 1) C d_RR_readComparison_62 (by decide) ?_
        exact j_zreturn C d_RR_readComparison_63 rfl (by decide) (by decide) (by decide) ⟨rfl, rfl, rfl⟩
    · exact absurd ((pz_y c26).symm.trans (show hr (β 4) t (skp (β 4) t (skp (β 4) t a0)) = 33 by rw [skp_skp ha0]; exact hS)) (by decide)
  · exact absurd ((pz_y c6).symm.trans (hS)) (by decide)

set_option maxHeartbeats 4000000 in
set_option maxRecDepth 100000 in
theorem c_RR_readComparison_13_3 {l : Launch} (hl : l.stackTraces = false) {D : va_G} {cA : Nat → ClassId} {b n : Nat} {xo : Nat} {ξ : Nat → Int32} {β : Nat → Nat → Int32} {ρ : Nat → Option Nat} {u v : Nat} (h : AH) (hn : xo + 28 ≤ n) (t a0 : Nat) (h4 : ξ 4 = nI t) (ht : t ≤ 300) (ha0 : a0 ≤ t) (q0 : Nat) (hq : q0 < 20) (hS : ¬ (hr (β 4) t (skp (β 4) t a0) = 60 ∨ hr (β 4) t (skp (β 4) t a0) = 61 ∨ hr (β 4) t (skp (β 4) t a0) = 33)) : Cn l D cA b y_RR_readComparison k_RR_readComparison 2 25 0 0 [.ref (xo + 5), .ref (xo + 13), .int (nI q0)] n (ovX xo (xq ξ a0) β ρ u v h) (Re (some (.int 0)) n (ovX xo (xq ξ (skp (β 4) t a0)) β ρ u v h)) := by
  refine Cn.of (cc := b_RR_readComparison) (maxL := 3) (ret := (some .boolean)) (hh := []) (by decide +kernel) hl (Or.inl ⟨rfl, rfl⟩) (Nat.le_of_ble_eq_true rfl) ?_
  intro p e s m args below meth c C
  refine j_aload_n C d_RR_readComparison_0 rfl rfl ?_
  refine j_bipush (v := 60) C d_RR_readComparison_1 (by decide) ?_
  refine j_callV C d_RR_readComparison_3 ml_RR_47 mc_RR_passes in_RR_passes rfl se_RR_passes (by omega) (ovX_c (o := 5) rfl) (c_RR_passes hl h hn t a0 h4 ht ha0 60 (by decide)) rfl rfl (Nat.le_of_ble_eq_true rfl) (Nat.le_of_ble_eq_true rfl) (Nat.le_of_ble_eq_true rfl) (Nat.le_of_ble_eq_true rfl) (jk_r ?_)
  refine j_if_eq (tgt := 20) C d_RR_readComparison_6 (by decide) (fun c6 => ?_) (fun c6 => ?_)
  · have hy6 := pz_n c6
    rw [pp_n hy6]
    refine j_aload_n C d_RR_readComparison_20 rfl rfl ?_
    refine j_bipush (v := 61) C d_RR_readComparison_21 (by decide) ?_
    refine j_callV C d_RR_readComparison_23 ml_RR_47 mc_RR_passes in_RR_passes rfl se_RR_passes (by omega) (ovX_c (o := 5) rfl) (c_RR_passes hl h hn t (skp (β 4) t a0) h4 ht (skp_le _ ha0) 61 (by decide)) rfl rfl (Nat.le_of_ble_eq_true rfl) (Nat.le_of_ble_eq_true rfl) (Nat.le_of_ble_eq_true rfl) (Nat.le_of_ble_eq_true rfl) (jk_r ?_)
    refine j_if_eq (tgt := 40) C d_RR_readComparison_26 (by decide) (fun c26 => ?_) (fun c26 => ?_)
    · have hy26 := pz_n c26
      rw [pp_n hy26, skp_skp ha0]
      refine j_aload_n C d_RR_readComparison_40 rfl rfl ?_
      refine j_bipush (v := 33) C d_RR_readComparison_41 (by decide) ?_
      refine j_callV C d_RR_readComparison_43 ml_RR_47 mc_RR_passes in_RR_passes rfl se_RR_passes (by omega) (ovX_c (o := 5) rfl) (c_RR_passes hl h hn t (skp (β 4) t a0) h4 ht (skp_le _ ha0) 33 (by decide)) rfl rfl (Nat.le_of_ble_eq_true rfl) (Nat.le_of_ble_eq_true rfl) (Nat.le_of_ble_eq_true rfl) (Nat.le_of_ble_eq_true rfl) (jk_r ?_)
      refine j_if_eq (tgt := 60) C d_RR_readComparison_46 (by decide) (fun c46 => ?_) (fun c46 => ?_)
      · have hy46 := pz_n c46
        rw [pp_n hy46, skp_skp ha0]
        refine j_iconst (v := 0) C d_RR_readComparison_60 (by decide) ?_
        exact j_zreturn C d_RR_readComparison_61 rfl (by decide) (by decide) (by decide) ⟨rfl, rfl, rfl⟩
      · exact absurd (Or.inr (Or.inr (by have z := pz_y c46; rw [skp_skp ha0] at z; exact z))) hS
    · exact absurd (Or.inr (Or.inl (by have z := pz_y c26; rw [skp_skp ha0] at z; exact z))) hS
  · exact absurd (Or.inl (pz_y c6)) hS

