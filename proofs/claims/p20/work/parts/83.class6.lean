/-! ===== the class: rules reckoned, what is wanting: printed by program ===== -/
def xfo (g : Nat → Int32) (x : Int32) : Int32 := if -1 - x < 0 then x else if 20 ≤ -1 - x then x else g (-1 - x).toNatClampNeg
theorem vp20 {x : Int32} (h0 : ¬ x < 0) (h1 : ¬ 20 ≤ x) : vp_in x 20 := by
  obtain ⟨j, hj, rfl⟩ := nI_of h0
  refine vp_in_nI ?_ (by omega)
  rcases Nat.lt_or_ge j 20 with z | z
  · exact z
  · exact absurd (show nI 20 ≤ nI j from nI_le z (by omega)) h1
set_option maxHeartbeats 4000000 in
set_option maxRecDepth 100000 in
theorem c_RB_factorOf {l : Launch} (hl : l.stackTraces = false) {D : va_G} {cA : Nat → ClassId} {b n : Nat} (h : AH) (x : Int32) (a : Nat) (g : Nat → Int32) (ha : a < n) (hx : h a = .inl (0, 20, .inl g)) : Cn l D cA b y_RB_factorOf k_RB_factorOf 0 0 0 0 [.int x, .ref a] n h (Re (some (.int (xfo g x))) n h) := by
  refine Cn.of (cc := b_RB_factorOf) (maxL := 3) (ret := (some .int)) (hh := []) (by decide +kernel) hl (Or.inl ⟨rfl, rfl⟩) (Nat.le_of_ble_eq_true rfl) ?_
  intro p e s m args below meth c C
  refine j_iconst (v := (-1)) C d_RB_factorOf_0 (by decide) ?_
  refine j_iload_n C d_RB_factorOf_1 rfl rfl ?_
  refine j_isub C d_RB_factorOf_2 ?_
  refine j_istore_n C d_RB_factorOf_3 rfl (by decide) rfl ?_
  refine j_iload_n C d_RB_factorOf_4 rfl rfl ?_
  refine j_if_lt (tgt := 20) C d_RB_factorOf_5 (by decide) (fun c5 => ?_) (fun c5 => ?_)
  · refine j_iload_n C d_RB_factorOf_20 rfl rfl ?_
    exact j_ireturn C d_RB_factorOf_21 rfl (by decide) (by decide) ⟨by unfold xfo; simp only [c5, if_true, if_false], rfl, rfl⟩
  · refine j_iload_n C d_RB_factorOf_8 rfl rfl ?_
    refine j_aload_n C d_RB_factorOf_9 rfl rfl ?_
    refine j_alen (v := 20) C d_RB_factorOf_10 (show (g_ty cA)[0]? = some (cA 0, .int) from rfl) ha hx rfl ?_
    refine j_icmp_ge (tgt := 20) C d_RB_factorOf_11 (by decide) (fun c11 => ?_) (fun c11 => ?_)
    · refine j_iload_n C d_RB_factorOf_20 rfl rfl ?_
      exact j_ireturn C d_RB_factorOf_21 rfl (by decide) (by decide) ⟨by unfold xfo; simp only [c5, c11, if_true, if_false], rfl, rfl⟩
    · refine j_aload_n C d_RB_factorOf_14 rfl rfl ?_
      refine j_iload_n C d_RB_factorOf_15 rfl rfl ?_
      refine j_iald C d_RB_factorOf_16 rfl ha hx (vp20 c5 c11) rfl ?_
      refine j_goto (tgt := 21) C d_RB_factorOf_17 (by decide) ?_
      exact j_ireturn C d_RB_factorOf_21 rfl (by decide) (by decide) ⟨by unfold xfo; simp only [c5, c11, if_true, if_false], rfl, rfl⟩

def xsm (dv dd sb : Nat → Int32) (g : Nat → Int32) : Nat → Nat → Int32 → Int32
  | 0, _, s => s
  | n + 1, k, s => if xfo g (dv k) = 0 then -1000000000 else xsm dv dd sb g n (k + 1) (s + (if sb k = 0 then xfo g (dd k) / xfo g (dv k) else -(xfo g (dd k) / xfo g (dv k))))
theorem e4s (s k : Nat) : nI s * 4 + nI k = nI (4 * s + k) := by
  rw [show (4 : Int32) = nI 4 from rfl, pk_mul, nI_add, Nat.mul_comm]
theorem e2q (q : Nat) : (2 : Int32) * nI q = nI (2 * q) := pk_mul 2 q
theorem e2q1 (q : Nat) : (2 : Int32) * nI q + 1 = nI (2 * q + 1) := by rw [e2q]; exact nI_1 _
def xho (c a z : Int32) : Int32 := if c = 60 then (if z ≤ a then 0 else 1) else if c = 61 then (if a = z then 1 else 0) else (if z < a then 0 else 1)
def xft (ft fl s1 s2 c : Int32) : Int32 := if ft &&& (fl ^^^ -1) = 0 then (if s1 = -1000000000 then 3 else if s2 = -1000000000 then 3 else if xho c s1 s2 = 0 then 2 else -1) else -1
theorem lk_no2 {x : Int32} (h0 : ¬ x = 60) (h1 : ¬ x = 61) (d a c : Int) : Op.lookupswitch.offset [(60, a), (61, c)] d x.toInt = d := by
  have g0 : x.toInt ≠ 60 := fun z => h0 (Int32.toInt_inj.mp (z.trans (by decide)))
  have g1 : x.toInt ≠ 61 := fun z => h1 (Int32.toInt_inj.mp (z.trans (by decide)))
  simp [Op.lookupswitch.offset, Ne.symm g0, Ne.symm g1, g0, g1]
set_option maxHeartbeats 4000000 in
set_option maxRecDepth 100000 in
theorem c_RB_holds {l : Launch} (hl : l.stackTraces = false) {D : va_G} {cA : Nat → ClassId} {b n : Nat} (h : AH) (c0 a z : Int32) : Cn l D cA b y_RB_holds k_RB_holds 0 0 0 0 [.int c0, .int a, .int z] n h (Re (some (.int (xho c0 a z))) n h) := by
  refine Cn.of (cc := b_RB_holds) (maxL := 3) (ret := (some .boolean)) (hh := []) (by decide +kernel) hl (Or.inl ⟨rfl, rfl⟩) (Nat.le_of_ble_eq_true rfl) ?_
  intro p e s m args below meth c C
  refine j_iload_n C d_RB_holds_0 rfl rfl ?_
  by_cases hc0 : c0 = 60
  · subst hc0
    have hc0 : (60 : Int32) = 60 := rfl
    refine j_lookup (off := 27) (tgt := 28) C d_RB_holds_1 (by decide) (by decide +kernel) (by decide) ?_
    refine j_iload_n C d_RB_holds_28 rfl rfl ?_
    refine j_iload_n C d_RB_holds_29 rfl rfl ?_
    refine j_icmp_ge (tgt := 37) C d_RB_holds_30 (by decide) (fun c30 => ?_) (fun c30 => ?_)
    · refine j_iconst (v := 0) C d_RB_holds_37 (by decide) ?_
      exact j_zreturn C d_RB_holds_38 rfl (by decide) (by decide) (by decide) ⟨by unfold xho; rw [if_pos hc0, if_pos c30], rfl, rfl⟩
    · refine j_iconst (v := 1) C d_RB_holds_33 (by decide) ?_
      refine j_goto (tgt := 38) C d_RB_holds_34 (by decide) ?_
      exact j_zreturn C d_RB_holds_38 rfl (by decide) (by decide) (by decide) ⟨by unfold xho; rw [if_pos hc0, if_neg c30], rfl, rfl⟩
  · by_cases hc1 : c0 = 61
    · subst hc1
      have hc1 : (61 : Int32) = 61 := rfl
      refine j_lookup (off := 38) (tgt := 39) C d_RB_holds_1 (by decide) (by decide +kernel) (by decide) ?_
      refine j_iload_n C d_RB_holds_39 rfl rfl ?_
      refine j_iload_n C d_RB_holds_40 rfl rfl ?_
      refine j_icmp_ne (tgt := 48) C d_RB_holds_41 (by decide) (fun c41 => ?_) (fun c41 => ?_)
      · refine j_iconst (v := 0) C d_RB_holds_48 (by decide) ?_
        exact j_zreturn C d_RB_holds_49 rfl (by decide) (by decide) (by decide) ⟨by unfold xho; rw [if_neg hc0, if_pos hc1, if_neg c41], rfl, rfl⟩
      · refine j_iconst (v := 1) C d_RB_holds_44 (by decide) ?_
        refine j_goto (tgt := 49) C d_RB_holds_45 (by decide) ?_
        exact j_zreturn C d_RB_holds_49 rfl (by decide) (by decide) (by decide) ⟨by unfold xho; rw [if_neg hc0, if_pos hc1, if_pos c41], rfl, rfl⟩
    · refine j_lookup (off := 49) (tgt := 50) C d_RB_holds_1 (by decide) (lk_no2 hc0 hc1 _ _ _) (by decide) ?_
      refine j_iload_n C d_RB_holds_50 rfl rfl ?_
      refine j_iload_n C d_RB_holds_51 rfl rfl ?_
      refine j_icmp_gt (tgt := 59) C d_RB_holds_52 (by decide) (fun c52 => ?_) (fun c52 => ?_)
      · refine j_iconst (v := 0) C d_RB_holds_59 (by decide) ?_
        exact j_zreturn C d_RB_holds_60 rfl (by decide) (by decide) (by decide) ⟨by unfold xho; rw [if_neg hc0, if_neg hc1, if_pos c52], rfl, rfl⟩
      · refine j_iconst (v := 1) C d_RB_holds_55 (by decide) ?_
        refine j_goto (tgt := 60) C d_RB_holds_56 (by decide) ?_
        exact j_zreturn C d_RB_holds_60 rfl (by decide) (by decide) (by decide) ⟨by unfold xho; rw [if_neg hc0, if_neg hc1, if_neg c52], rfl, rfl⟩

set_option maxHeartbeats 4000000 in
set_option maxRecDepth 100000 in
theorem c_RB_sumOf_6 {l : Launch} (hl : l.stackTraces = false) {D : va_G} {cA : Nat → ClassId} {b n : Nat} {xo : Nat} {ξ : Nat → Int32} {β : Nat → Nat → Int32} {ρ : Nat → Option Nat} {u v : Nat} (h : AH) (hn : xo + 28 ≤ n) (s0 c0 a : Nat) (g : Nat → Int32) (hs : s0 < 40) (hc : β 9 s0 = nI c0) (hcl : c0 ≤ 4) (ha : xo + 28 ≤ a) (han : a < n) (hva : h a = .inl (0, 20, .inl g)) : Cn l D cA b y_RB_sumOf k_RB_sumOf 1 14 0 0 [.ref (xo + 6), .int (nI s0), .ref a] n (ovX xo ξ β ρ u v h) (Re (some (.int (xsm (β 11) (β 10) (β 12) g c0 (4 * s0) 0))) n (ovX xo ξ β ρ u v h)) := by
  refine Cn.of (cc := b_RB_sumOf) (maxL := 8) (ret := (some .int)) (hh := []) (by decide +kernel) hl (Or.inl ⟨rfl, rfl⟩) (Nat.le_of_ble_eq_true rfl) ?_
  intro p e s m args below meth c C
  have loop : ∀ (m9 k : Nat) (tot : Int32), k + m9 = c0 → xsm (β 11) (β 10) (β 12) g m9 (4 * s0 + k) tot = (xsm (β 11) (β 10) (β 12) g c0 (4 * s0) 0) → J p l e { frames := 1, cells := 0, slots := 0, locals := 14 } s m args below meth c D cA b 8 (EndQ D cA b s below (Re (some (.int (xsm (β 11) (β 10) (β 12) g c0 (4 * s0) 0))) n (ovX xo ξ β ρ u v h)) 0 0) n (ovX xo ξ β ρ u v h) 0 0 5 [(4, .int (nI k)), (3, .int tot), (0, .ref (xo + 6)), (1, .int (nI s0)), (2, .ref a)] [] := by
    intro m9
    induction m9 with
    | zero =>
      intro k tot hk hv
      obtain rfl : c0 = k := by omega
      refine j_iload C d_RB_sumOf_5 rfl ?_
      refine j_aload_n C d_RB_sumOf_7 rfl rfl ?_
      refine jx_get 6 C fl_2_23 d_RB_sumOf_8 hn rfl rfl ?_
      refine j_iload_n C d_RB_sumOf_11 rfl rfl ?_
      refine jx_iald (w := nI c0) 9 C d_RB_sumOf_12 hn rfl (vp_in_nI (by omega) (by omega)) (by rw [nI_clamp (by omega)]; exact hc) ?_
      refine j_icmp_ge (tgt := 88) C d_RB_sumOf_13 (by decide) (fun c13 => ?_) (fun c13 => ?_)
      · refine j_iload_n C d_RB_sumOf_88 rfl rfl ?_
        exact j_ireturn C d_RB_sumOf_89 rfl (by decide) (by decide) ⟨by rw [← hv]; rfl, rfl, rfl⟩
      · exact absurd (show nI c0 ≤ nI c0 from nI_le (Nat.le_refl _) (by omega)) c13
    | succ m9 ih =>
      intro k tot hk hv
      refine j_iload C d_RB_sumOf_5 rfl ?_
      refine j_aload_n C d_RB_sumOf_7 rfl rfl ?_
      refine jx_get 6 C fl_2_23 d_RB_sumOf_8 hn rfl rfl ?_
      refine j_iload_n C d_RB_sumOf_11 rfl rfl ?_
      refine jx_iald (w := nI c0) 9 C d_RB_sumOf_12 hn rfl (vp_in_nI (by omega) (by omega)) (by rw [nI_clamp (by omega)]; exact hc) ?_
      refine j_icmp_ge (tgt := 88) C d_RB_sumOf_13 (by decide) (fun c13 => ?_) (fun c13 => ?_)
      · exact absurd (show nI c0 ≤ nI k from c13) (nI_ge (by omega) (by omega))
      · refine j_iload_n C d_RB_sumOf_16 rfl rfl ?_
        refine j_iconst (v := 4) C d_RB_sumOf_17 (by decide) ?_
        refine j_imul C d_RB_sumOf_18 ?_
        refine j_iload C d_RB_sumOf_19 rfl ?_
        refine j_iadd C d_RB_sumOf_21 ?_
        rw [e4s]
        refine j_istore C d_RB_sumOf_22 (by decide) rfl ?_
        refine j_aload_n C d_RB_sumOf_24 rfl rfl ?_
        refine jx_get 6 C fl_2_29 d_RB_sumOf_25 hn rfl rfl ?_
        refine j_iload C d_RB_sumOf_28 rfl ?_
        refine jx_iald (w := β 11 (4 * s0 + k)) 11 C d_RB_sumOf_30 hn rfl (vp_in_nI (by omega) (by omega)) (by rw [nI_clamp (by omega)]) ?_
        refine j_aload_n C d_RB_sumOf_31 rfl rfl ?_
        refine j_callS C d_RB_sumOf_32 ml_RB_61 mc_RB_factorOf st_RB_factorOf (c_RB_factorOf hl _ _ a g han ((ovX_n (Or.inr ha)).trans hva)) rfl rfl (Nat.le_of_ble_eq_true rfl) (Nat.le_of_ble_eq_true rfl) (Nat.le_of_ble_eq_true rfl) (Nat.le_of_ble_eq_true rfl) (jk_r ?_)
        refine j_istore C d_RB_sumOf_35 (by decide) rfl ?_
        refine j_iload C d_RB_sumOf_37 rfl ?_
        refine j_if_ne (tgt := 45) C d_RB_sumOf_39 (by decide) (fun c39 => ?_) (fun c39 => ?_)
        · refine j_aload_n C d_RB_sumOf_45 rfl rfl ?_
          refine jx_get 6 C fl_2_26 d_RB_sumOf_46 hn rfl rfl ?_
          refine j_iload C d_RB_sumOf_49 rfl ?_
          refine jx_iald (w := β 10 (4 * s0 + k)) 10 C d_RB_sumOf_51 hn rfl (vp_in_nI (by omega) (by omega)) (by rw [nI_clamp (by omega)]) ?_
          refine j_aload_n C d_RB_sumOf_52 rfl rfl ?_
          refine j_callS C d_RB_sumOf_53 ml_RB_61 mc_RB_factorOf st_RB_factorOf (c_RB_factorOf hl _ _ a g han ((ovX_n (Or.inr ha)).trans hva)) rfl rfl (Nat.le_of_ble_eq_true rfl) (Nat.le_of_ble_eq_true rfl) (Nat.le_of_ble_eq_true rfl) (Nat.le_of_ble_eq_true rfl) (jk_r ?_)
          refine j_iload C d_RB_sumOf_56 rfl ?_
          refine j_idiv C d_RB_sumOf_58 c39 ?_
          refine j_istore C d_RB_sumOf_59 (by decide) rfl ?_
          refine j_iload_n C d_RB_sumOf_61 rfl rfl ?_
          refine j_aload_n C d_RB_sumOf_62 rfl rfl ?_
          refine jx_get 6 C fl_2_32 d_RB_sumOf_63 hn rfl rfl ?_
          refine j_iload C d_RB_sumOf_66 rfl ?_
          refine jx_zald (w := β 12 (4 * s0 + k)) 12 C d_RB_sumOf_68 hn rfl (vp_in_nI (by omega) (by omega)) (by rw [nI_clamp (by omega)]) ?_
          refine j_if_eq (tgt := 78) C d_RB_sumOf_69 (by decide) (fun c69 => ?_) (fun c69 => ?_)
          · refine j_iload C d_RB_sumOf_78 rfl ?_
            refine j_iadd C d_RB_sumOf_80 ?_
            refine j_istore_n C d_RB_sumOf_81 rfl (by decide) rfl ?_
            refine j_iinc (v := nI (k + 1)) C d_RB_sumOf_82 rfl (nI_inc k) (by decide) rfl ?_
            refine j_goto (tgt := 5) C d_RB_sumOf_85 (by decide) ?_
            exact j_pick [0, 1, 5, 6, 7] rfl (ih (k + 1) (tot + xfo g (β 10 (4 * s0 + k)) / xfo g (β 11 (4 * s0 + k))) (by omega) (by rw [← hv]; show _ = (if xfo g (β 11 (4 * s0 + k)) = 0 then -1000000000 else xsm (β 11) (β 10) (β 12) g m9 (4 * s0 + k + 1) (tot + (if β 12 (4 * s0 + k) = 0 then xfo g (β 10 (4 * s0 + k)) / xfo g (β 11 (4 * s0 + k)) else -(xfo g (β 10 (4 * s0 + k)) / xfo g (β 11 (4 * s0 + k)))))); rw [if_neg c39, if_pos c69]; rfl))
          · refine j_iload C d_RB_sumOf_72 rfl ?_
            refine j_ineg C d_RB_sumOf_74 ?_
            refine j_goto (tgt := 80) C d_RB_sumOf_75 (by decide) ?_
            refine j_iadd C d_RB_sumOf_80 ?_
            refine j_istore_n C d_RB_sumOf_81 rfl (by decide) rfl ?_
            refine j_iinc (v := nI (k + 1)) C d_RB_sumOf_82 rfl (nI_inc k) (by decide) rfl ?_
            refine j_goto (tgt := 5) C d_RB_sumOf_85 (by decide) ?_
            exact j_pick [0, 1, 5, 6, 7] rfl (ih (k + 1) (tot + -(xfo g (β 10 (4 * s0 + k)) / xfo g (β 11 (4 * s0 + k)))) (by omega) (by rw [← hv]; show _ = (if xfo g (β 11 (4 * s0 + k)) = 0 then -1000000000 else xsm (β 11) (β 10) (β 12) g m9 (4 * s0 + k + 1) (tot + (if β 12 (4 * s0 + k) = 0 then xfo g (β 10 (4 * s0 + k)) / xfo g (β 11 (4 * s0 + k)) else -(xfo g (β 10 (4 * s0 + k)) / xfo g (β 11 (4 * s0 + k)))))); rw [if_neg c39, if_neg c69]; rfl))
        · refine j_ldc (v := (-1000000000)) C d_RB_sumOf_42 lc_RB_56 ?_
          have e9 : xsm (β 11) (β 10) (β 12) g (m9 + 1) (4 * s0 + k) tot = -1000000000 := if_pos c39
          exact j_ireturn C d_RB_sumOf_44 rfl (by decide) (by decide) ⟨by rw [← hv, e9], rfl, rfl⟩
  refine j_iconst (v := 0) C d_RB_sumOf_0 (by decide) ?_
  refine j_istore_n C d_RB_sumOf_1 rfl (by decide) rfl ?_
  refine j_iconst (v := 0) C d_RB_sumOf_2 (by decide) ?_
  refine j_istore C d_RB_sumOf_3 (by decide) rfl ?_
  exact j_pick [0, 1, 2, 3, 4] rfl (loop c0 0 0 (by omega) rfl)

set_option maxHeartbeats 4000000 in
set_option maxRecDepth 100000 in
theorem c_RB_faultOf_6 {l : Launch} (hl : l.stackTraces = false) {D : va_G} {cA : Nat → ClassId} {b n : Nat} {xo : Nat} {ξ : Nat → Int32} {β : Nat → Nat → Int32} {ρ : Nat → Option Nat} {u v : Nat} {r : Nat} {i0 k0 t0 f0 : Int32} {ζ : Nat → Int32} {g w : Nat → Int32} (h : AH) (hn : xo + 28 ≤ n) (hr : xo + 28 ≤ r) (hrn : r + 3 ≤ n) (q0 c1 c2 : Nat) (hq : q0 < 20) (h1 : β 9 (2 * q0) = nI c1) (l1 : c1 ≤ 4) (h2 : β 9 (2 * q0 + 1) = nI c2) (l2 : c2 ≤ 4) : Cn l D cA b y_RB_faultOf k_RB_faultOf 2 33 0 0 [.ref (xo + 6), .int (nI q0), .ref r] n (ovX xo ξ β ρ u v (ovR r i0 k0 t0 f0 ζ g w h)) (Re (some (.int (xft (β 8 q0) (ζ 0) (xsm (β 11) (β 10) (β 12) g c1 (8 * q0) 0) (xsm (β 11) (β 10) (β 12) g c2 (8 * q0 + 4) 0) (β 7 q0)))) n (ovX xo ξ β ρ u v (ovR r i0 k0 t0 f0 ζ g w h))) := by
  refine Cn.of (cc := b_RB_faultOf) (maxL := 5) (ret := (some .int)) (hh := []) (by decide +kernel) hl (Or.inl ⟨rfl, rfl⟩) (Nat.le_of_ble_eq_true rfl) ?_
  intro p e s m args below meth c C
  refine j_aload_n C d_RB_faultOf_0 rfl rfl ?_
  refine jx_get 6 C fl_2_19 d_RB_faultOf_1 hn rfl rfl ?_
  refine j_iload_n C d_RB_faultOf_4 rfl rfl ?_
  refine jx_iald (w := β 8 q0) 8 C d_RB_faultOf_5 hn rfl (vp_in_nI (by omega) (by omega)) (by rw [nI_clamp (by omega)]) ?_
  refine j_aload_n C d_RB_faultOf_6 rfl rfl ?_
  refine jq_get C fl_2_44 d_RB_faultOf_7 hr hrn rfl ?_
  refine j_iconst (v := (-1)) C d_RB_faultOf_10 (by decide) ?_
  refine j_ixor C d_RB_faultOf_11 ?_
  refine j_iand C d_RB_faultOf_12 ?_
  refine j_if_eq (tgt := 18) C d_RB_faultOf_13 (by decide) (fun c13 => ?_) (fun c13 => ?_)
  · refine j_aload_n C d_RB_faultOf_18 rfl rfl ?_
    refine j_iconst (v := 2) C d_RB_faultOf_19 (by decide) ?_
    refine j_iload_n C d_RB_faultOf_20 rfl rfl ?_
    refine j_imul C d_RB_faultOf_21 ?_
    rw [e2q]
    refine j_aload_n C d_RB_faultOf_22 rfl rfl ?_
    refine jq_get C fl_2_49 d_RB_faultOf_23 hr hrn rfl ?_
    refine j_callV C d_RB_faultOf_26 ml_RB_52 mc_RB_sumOf in_RB_sumOf rfl se_RB_sumOf (by omega) (ovX_c (o := 6) rfl) (c_RB_sumOf_6 hl _ hn (2 * q0) c1 (r + 1) g (by omega) h1 l1 (by omega) (by omega) (ovR_v _ _ _ _ _ _ _ _ _)) rfl rfl (Nat.le_of_ble_eq_true rfl) (Nat.le_of_ble_eq_true rfl) (Nat.le_of_ble_eq_true rfl) (Nat.le_of_ble_eq_true rfl) (jk_r ?_)
    refine j_istore_n C d_RB_faultOf_29 rfl (by decide) rfl ?_
    refine j_aload_n C d_RB_faultOf_30 rfl rfl ?_
    refine j_iconst (v := 2) C d_RB_faultOf_31 (by decide) ?_
    refine j_iload_n C d_RB_faultOf_32 rfl rfl ?_
    refine j_imul C d_RB_faultOf_33 ?_
    refine j_iconst (v := 1) C d_RB_faultOf_34 (by decide) ?_
    refine j_iadd C d_RB_faultOf_35 ?_
    rw [e2q1]
    refine j_aload_n C d_RB_faultOf_36 rfl rfl ?_
    refine jq_get C fl_2_49 d_RB_faultOf_37 hr hrn rfl ?_
    refine j_callV C d_RB_faultOf_40 ml_RB_52 mc_RB_sumOf in_RB_sumOf rfl se_RB_sumOf (by omega) (ovX_c (o := 6) rfl) (c_RB_sumOf_6 hl _ hn (2 * q0 + 1) c2 (r + 1) g (by omega) h2 l2 (by omega) (by omega) (ovR_v _ _ _ _ _ _ _ _ _)) rfl rfl (Nat.le_of_ble_eq_true rfl) (Nat.le_of_ble_eq_true rfl) (Nat.le_of_ble_eq_true rfl) (Nat.le_of_ble_eq_true rfl) (jk_r ?_)
    rw [show 4 * (2 * q0) = 8 * q0 by omega, show 4 * (2 * q0 + 1) = 8 * q0 + 4 by omega]
    refine j_istore C d_RB_faultOf_43 (by decide) rfl ?_
    refine j_iload_n C d_RB_faultOf_45 rfl rfl ?_
    refine j_ldc (v := (-1000000000)) C d_RB_faultOf_46 lc_RB_56 ?_
    refine j_icmp_eq (tgt := 58) C d_RB_faultOf_48 (by decide) (fun c48 => ?_) (fun c48 => ?_)
    · refine j_iconst (v := 3) C d_RB_faultOf_58 (by decide) ?_
      exact j_ireturn C d_RB_faultOf_59 rfl (by decide) (by decide) ⟨by unfold xft; simp only [c13, c48, if_true, if_false, not_false_eq_true, true_or, or_true, or_false, false_or], rfl, rfl⟩
    · refine j_iload C d_RB_faultOf_51 rfl ?_
      refine j_ldc (v := (-1000000000)) C d_RB_faultOf_53 lc_RB_56 ?_
      refine j_icmp_ne (tgt := 60) C d_RB_faultOf_55 (by decide) (fun c55 => ?_) (fun c55 => ?_)
      · refine j_aload_n C d_RB_faultOf_60 rfl rfl ?_
        refine jx_get 6 C fl_2_15 d_RB_faultOf_61 hn rfl rfl ?_
        refine j_iload_n C d_RB_faultOf_64 rfl rfl ?_
        refine jx_cald (w := β 7 q0) 7 C d_RB_faultOf_65 hn rfl (vp_in_nI (by omega) (by omega)) (by rw [nI_clamp (by omega)]) ?_
        refine j_iload_n C d_RB_faultOf_66 rfl rfl ?_
        refine j_iload C d_RB_faultOf_67 rfl ?_
        refine j_callS C d_RB_faultOf_69 ml_RB_57 mc_RB_holds st_RB_holds (c_RB_holds hl _ _ _ _) rfl rfl (Nat.le_of_ble_eq_true rfl) (Nat.le_of_ble_eq_true rfl) (Nat.le_of_ble_eq_true rfl) (Nat.le_of_ble_eq_true rfl) (jk_r ?_)
        refine j_if_eq (tgt := 79) C d_RB_faultOf_72 (by decide) (fun c72 => ?_) (fun c72 => ?_)
        · refine j_iconst (v := 2) C d_RB_faultOf_79 (by decide) ?_
          exact j_ireturn C d_RB_faultOf_80 rfl (by decide) (by decide) ⟨by unfold xft; simp only [c13, c48, c55, c72, if_true, if_false, not_false_eq_true, or_false, false_or, or_self], rfl, rfl⟩
        · refine j_iconst (v := (-1)) C d_RB_faultOf_75 (by decide) ?_
          refine j_goto (tgt := 80) C d_RB_faultOf_76 (by decide) ?_
          exact j_ireturn C d_RB_faultOf_80 rfl (by decide) (by decide) ⟨by unfold xft; simp only [c13, c48, c55, c72, if_true, if_false, not_false_eq_true, or_false, false_or, or_self], rfl, rfl⟩
      · refine j_iconst (v := 3) C d_RB_faultOf_58 (by decide) ?_
        exact j_ireturn C d_RB_faultOf_59 rfl (by decide) (by decide) ⟨by unfold xft; simp only [c13, c48, c55, if_true, if_false, not_false_eq_true, true_or, or_true, or_false, false_or], rfl, rfl⟩
  · refine j_iconst (v := (-1)) C d_RB_faultOf_16 (by decide) ?_
    exact j_ireturn C d_RB_faultOf_17 rfl (by decide) (by decide) ⟨by unfold xft; simp only [c13, if_true, if_false, not_false_eq_true], rfl, rfl⟩

set_option maxHeartbeats 4000000 in
set_option maxRecDepth 100000 in
theorem c_RB_sumOf_13 {l : Launch} (hl : l.stackTraces = false) {D : va_G} {cA : Nat → ClassId} {b n : Nat} {xo : Nat} {ξ : Nat → Int32} {β : Nat → Nat → Int32} {ρ : Nat → Option Nat} {u v : Nat} (h : AH) (hn : xo + 28 ≤ n) (s0 c0 a : Nat) (g : Nat → Int32) (hs : s0 < 40) (hc : β 16 s0 = nI c0) (hcl : c0 ≤ 4) (ha : xo + 28 ≤ a) (han : a < n) (hva : h a = .inl (0, 20, .inl g)) : Cn l D cA b y_RB_sumOf k_RB_sumOf 1 14 0 0 [.ref (xo + 13), .int (nI s0), .ref a] n (ovX xo ξ β ρ u v h) (Re (some (.int (xsm (β 18) (β 17) (β 19) g c0 (4 * s0) 0))) n (ovX xo ξ β ρ u v h)) := by
  refine Cn.of (cc := b_RB_sumOf) (maxL := 8) (ret := (some .int)) (hh := []) (by decide +kernel) hl (Or.inl ⟨rfl, rfl⟩) (Nat.le_of_ble_eq_true rfl) ?_
  intro p e s m args below meth c C
  have loop : ∀ (m9 k : Nat) (tot : Int32), k + m9 = c0 → xsm (β 18) (β 17) (β 19) g m9 (4 * s0 + k) tot = (xsm (β 18) (β 17) (β 19) g c0 (4 * s0) 0) → J p l e { frames := 1, cells := 0, slots := 0, locals := 14 } s m args below meth c D cA b 8 (EndQ D cA b s below (Re (some (.int (xsm (β 18) (β 17) (β 19) g c0 (4 * s0) 0))) n (ovX xo ξ β ρ u v h)) 0 0) n (ovX xo ξ β ρ u v h) 0 0 5 [(4, .int (nI k)), (3, .int tot), (0, .ref (xo + 13)), (1, .int (nI s0)), (2, .ref a)] [] := by
    intro m9
    induction m9 with
    | zero =>
      intro k tot hk hv
      obtain rfl : c0 = k := by omega
      refine j_iload C d_RB_sumOf_5 rfl ?_
      refine j_aload_n C d_RB_sumOf_7 rfl rfl ?_
      refine jx_get 13 C fl_2_23 d_RB_sumOf_8 hn rfl rfl ?_
      refine j_iload_n C d_RB_sumOf_11 rfl rfl ?_
      refine jx_iald (w := nI c0) 16 C d_RB_sumOf_12 hn rfl (vp_in_nI (by omega) (by omega)) (by rw [nI_clamp (by omega)]; exact hc) ?_
      refine j_icmp_ge (tgt := 88) C d_RB_sumOf_13 (by decide) (fun c13 => ?_) (fun c13 => ?_)
      · refine j_iload_n C d_RB_sumOf_88 rfl rfl ?_
        exact j_ireturn C d_RB_sumOf_89 rfl (by decide) (by decide) ⟨by rw [← hv]; rfl, rfl, rfl⟩
      · exact absurd (show nI c0 ≤ nI c0 from nI_le (Nat.le_refl _) (by omega)) c13
    | succ m9 ih =>
      intro k tot hk hv
      refine j_iload C d_RB_sumOf_5 rfl ?_
      refine j_aload_n C d_RB_sumOf_7 rfl rfl ?_
      refine jx_get 13 C fl_2_23 d_RB_sumOf_8 hn rfl rfl ?_
      refine j_iload_n C d_RB_sumOf_11 rfl rfl ?_
      refine jx_iald (w := nI c0) 16 C d_RB_sumOf_12 hn rfl (vp_in_nI (by omega) (by omega)) (by rw [nI_clamp (by omega)]; exact hc) ?_
      refine j_icmp_ge (tgt := 88) C d_RB_sumOf_13 (by decide) (fun c13 => ?_) (fun c13 => ?_)
      · exact absurd (show nI c0 ≤ nI k from c13) (nI_ge (by omega) (by omega))
      · refine j_iload_n C d_RB_sumOf_16 rfl rfl ?_
        refine j_iconst (v := 4) C d_RB_sumOf_17 (by decide) ?_
        refine j_imul C d_RB_sumOf_18 ?_
        refine j_iload C d_RB_sumOf_19 rfl ?_
        refine j_iadd C d_RB_sumOf_21 ?_
        rw [e4s]
        refine j_istore C d_RB_sumOf_22 (by decide) rfl ?_
        refine j_aload_n C d_RB_sumOf_24 rfl rfl ?_
        refine jx_get 13 C fl_2_29 d_RB_sumOf_25 hn rfl rfl ?_
        refine j_iload C d_RB_sumOf_28 rfl ?_
        refine jx_iald (w := β 18 (4 * s0 + k)) 18 C d_RB_sumOf_30 hn rfl (vp_in_nI (by omega) (by omega)) (by rw [nI_clamp (by omega)]) ?_
        refine j_aload_n C d_RB_sumOf_31 rfl rfl ?_
        refine j_callS C d_RB_sumOf_32 ml_RB_61 mc_RB_factorOf st_RB_factorOf (c_RB_factorOf hl _ _ a g han ((ovX_n (Or.inr ha)).trans hva)) rfl rfl (Nat.le_of_ble_eq_true rfl) (Nat.le_of_ble_eq_true rfl) (Nat.le_of_ble_eq_true rfl) (Nat.le_of_ble_eq_true rfl) (jk_r ?_)
        refine j_istore C d_RB_sumOf_35 (by decide) rfl ?_
        refine j_iload C d_RB_sumOf_37 rfl ?_
        refine j_if_ne (tgt := 45) C d_RB_sumOf_39 (by decide) (fun c39 => ?_) (fun c39 => ?_)
        · refine j_aload_n C d_RB_sumOf_45 rfl rfl ?_
          refine jx_get 13 C fl_2_26 d_RB_sumOf_46 hn rfl rfl ?_
          refine j_iload C d_RB_sumOf_49 rfl ?_
          refine jx_iald (w := β 17 (4 * s0 + k)) 17 C d_RB_sumOf_51 hn rfl (vp_in_nI (by omega) (by omega)) (by rw [nI_clamp (by omega)]) ?_
          refine j_aload_n C d_RB_sumOf_52 rfl rfl ?_
          refine j_callS C d_RB_sumOf_53 ml_RB_61 mc_RB_factorOf st_RB_factorOf (c_RB_factorOf hl _ _ a g han ((ovX_n (Or.inr ha)).trans hva)) rfl rfl (Nat.le_of_ble_eq_true rfl) (Nat.le_of_ble_eq_true rfl) (Nat.le_of_ble_eq_true rfl) (Nat.le_of_ble_eq_true rfl) (jk_r ?_)
          refine j_iload C d_RB_sumOf_56 rfl ?_
          refine j_idiv C d_RB_sumOf_58 c39 ?_
          refine j_istore C d_RB_sumOf_59 (by decide) rfl ?_
          refine j_iload_n C d_RB_sumOf_61 rfl rfl ?_
          refine j_aload_n C d_RB_sumOf_62 rfl rfl ?_
          refine jx_get 13 C fl_2_32 d_RB_sumOf_63 hn rfl rfl ?_
          refine j_iload C d_RB_sumOf_66 rfl ?_
          refine jx_zald (w := β 19 (4 * s0 + k)) 19 C d_RB_sumOf_68 hn rfl (vp_in_nI (by omega) (by omega)) (by rw [nI_clamp (by omega)]) ?_
          refine j_if_eq (tgt := 78) C d_RB_sumOf_69 (by decide) (fun c69 => ?_) (fun c69 => ?_)
          · refine j_iload C d_RB_sumOf_78 rfl ?_
            refine j_iadd C d_RB_sumOf_80 ?_
            refine j_istore_n C d_RB_sumOf_81 rfl (by decide) rfl ?_
            refine j_iinc (v := nI (k + 1)) C d_RB_sumOf_82 rfl (nI_inc k) (by decide) rfl ?_
            refine j_goto (tgt := 5) C d_RB_sumOf_85 (by decide) ?_
            exact j_pick [0, 1, 5, 6, 7] rfl (ih (k + 1) (tot + xfo g (β 17 (4 * s0 + k)) / xfo g (β 18 (4 * s0 + k))) (by omega) (by rw [← hv]; show _ = (if xfo g (β 18 (4 * s0 + k)) = 0 then -1000000000 else xsm (β 18) (β 17) (β 19) g m9 (4 * s0 + k + 1) (tot + (if β 19 (4 * s0 + k) = 0 then xfo g (β 17 (4 * s0 + k)) / xfo g (β 18 (4 * s0 + k)) else -(xfo g (β 17 (4 * s0 + k)) / xfo g (β 18 (4 * s0 + k)))))); rw [if_neg c39, if_pos c69]; rfl))
          · refine j_iload C d_RB_sumOf_72 rfl ?_
            refine j_ineg C d_RB_sumOf_74 ?_
            refine j_goto (tgt := 80) C d_RB_sumOf_75 (by decide) ?_
            refine j_iadd C d_RB_sumOf_80 ?_
            refine j_istore_n C d_RB_sumOf_81 rfl (by decide) rfl ?_
            refine j_iinc (v := nI (k + 1)) C d_RB_sumOf_82 rfl (nI_inc k) (by decide) rfl ?_
            refine j_goto (tgt := 5) C d_RB_sumOf_85 (by decide) ?_
            exact j_pick [0, 1, 5, 6, 7] rfl (ih (k + 1) (tot + -(xfo g (β 17 (4 * s0 + k)) / xfo g (β 18 (4 * s0 + k)))) (by omega) (by rw [← hv]; show _ = (if xfo g (β 18 (4 * s0 + k)) = 0 then -1000000000 else xsm (β 18) (β 17) (β 19) g m9 (4 * s0 + k + 1) (tot + (if β 19 (4 * s0 + k) = 0 then xfo g (β 17 (4 * s0 + k)) / xfo g (β 18 (4 * s0 + k)) else -(xfo g (β 17 (4 * s0 + k)) / xfo g (β 18 (4 * s0 + k)))))); rw [if_neg c39, if_neg c69]; rfl))
        · refine j_ldc (v := (-1000000000)) C d_RB_sumOf_42 lc_RB_56 ?_
          have e9 : xsm (β 18) (β 17) (β 19) g (m9 + 1) (4 * s0 + k) tot = -1000000000 := if_pos c39
          exact j_ireturn C d_RB_sumOf_44 rfl (by decide) (by decide) ⟨by rw [← hv, e9], rfl, rfl⟩
  refine j_iconst (v := 0) C d_RB_sumOf_0 (by decide) ?_
  refine j_istore_n C d_RB_sumOf_1 rfl (by decide) rfl ?_
  refine j_iconst (v := 0) C d_RB_sumOf_2 (by decide) ?_
  refine j_istore C d_RB_sumOf_3 (by decide) rfl ?_
  exact j_pick [0, 1, 2, 3, 4] rfl (loop c0 0 0 (by omega) rfl)

set_option maxHeartbeats 4000000 in
set_option maxRecDepth 100000 in
theorem c_RB_faultOf_13 {l : Launch} (hl : l.stackTraces = false) {D : va_G} {cA : Nat → ClassId} {b n : Nat} {xo : Nat} {ξ : Nat → Int32} {β : Nat → Nat → Int32} {ρ : Nat → Option Nat} {u v : Nat} {r : Nat} {i0 k0 t0 f0 : Int32} {ζ : Nat → Int32} {g w : Nat → Int32} (h : AH) (hn : xo + 28 ≤ n) (hr : xo + 28 ≤ r) (hrn : r + 3 ≤ n) (q0 c1 c2 : Nat) (hq : q0 < 20) (h1 : β 16 (2 * q0) = nI c1) (l1 : c1 ≤ 4) (h2 : β 16 (2 * q0 + 1) = nI c2) (l2 : c2 ≤ 4) : Cn l D cA b y_RB_faultOf k_RB_faultOf 2 33 0 0 [.ref (xo + 13), .int (nI q0), .ref r] n (ovX xo ξ β ρ u v (ovR r i0 k0 t0 f0 ζ g w h)) (Re (some (.int (xft (β 15 q0) (ζ 0) (xsm (β 18) (β 17) (β 19) g c1 (8 * q0) 0) (xsm (β 18) (β 17) (β 19) g c2 (8 * q0 + 4) 0) (β 14 q0)))) n (ovX xo ξ β ρ u v (ovR r i0 k0 t0 f0 ζ g w h))) := by
  refine Cn.of (cc := b_RB_faultOf) (maxL := 5) (ret := (some .int)) (hh := []) (by decide +kernel) hl (Or.inl ⟨rfl, rfl⟩) (Nat.le_of_ble_eq_true rfl) ?_
  intro p e s m args below meth c C
  refine j_aload_n C d_RB_faultOf_0 rfl rfl ?_
  refine jx_get 13 C fl_2_19 d_RB_faultOf_1 hn rfl rfl ?_
  refine j_iload_n C d_RB_faultOf_4 rfl rfl ?_
  refine jx_iald (w := β 15 q0) 15 C d_RB_faultOf_5 hn rfl (vp_in_nI (by omega) (by omega)) (by rw [nI_clamp (by omega)]) ?_
  refine j_aload_n C d_RB_faultOf_6 rfl rfl ?_
  refine jq_get C fl_2_44 d_RB_faultOf_7 hr hrn rfl ?_
  refine j_iconst (v := (-1)) C d_RB_faultOf_10 (by decide) ?_
  refine j_ixor C d_RB_faultOf_11 ?_
  refine j_iand C d_RB_faultOf_12 ?_
  refine j_if_eq (tgt := 18) C d_RB_faultOf_13 (by decide) (fun c13 => ?_) (fun c13 => ?_)
  · refine j_aload_n C d_RB_faultOf_18 rfl rfl ?_
    refine j_iconst (v := 2) C d_RB_faultOf_19 (by decide) ?_
    refine j_iload_n C d_RB_faultOf_20 rfl rfl ?_
    refine j_imul C d_RB_faultOf_21 ?_
    rw [e2q]
    refine j_aload_n C d_RB_faultOf_22 rfl rfl ?_
    refine jq_get C fl_2_49 d_RB_faultOf_23 hr hrn rfl ?_
    refine j_callV C d_RB_faultOf_26 ml_RB_52 mc_RB_sumOf in_RB_sumOf rfl se_RB_sumOf (by omega) (ovX_c (o := 13) rfl) (c_RB_sumOf_13 hl _ hn (2 * q0) c1 (r + 1) g (by omega) h1 l1 (by omega) (by omega) (ovR_v _ _ _ _ _ _ _ _ _)) rfl rfl (Nat.le_of_ble_eq_true rfl) (Nat.le_of_ble_eq_true rfl) (Nat.le_of_ble_eq_true rfl) (Nat.le_of_ble_eq_true rfl) (jk_r ?_)
    refine j_istore_n C d_RB_faultOf_29 rfl (by decide) rfl ?_
    refine j_aload_n C d_RB_faultOf_30 rfl rfl ?_
    refine j_iconst (v := 2) C d_RB_faultOf_31 (by decide) ?_
    refine j_iload_n C d_RB_faultOf_32 rfl rfl ?_
    refine j_imul C d_RB_faultOf_33 ?_
    refine j_iconst (v := 1) C d_RB_faultOf_34 (by decide) ?_
    refine j_iadd C d_RB_faultOf_35 ?_
    rw [e2q1]
    refine j_aload_n C d_RB_faultOf_36 rfl rfl ?_
    refine jq_get C fl_2_49 d_RB_faultOf_37 hr hrn rfl ?_
    refine j_callV C d_RB_faultOf_40 ml_RB_52 mc_RB_sumOf in_RB_sumOf rfl se_RB_sumOf (by omega) (ovX_c (o := 13) rfl) (c_RB_sumOf_13 hl _ hn (2 * q0 + 1) c2 (r + 1) g (by omega) h2 l2 (by omega) (by omega) (ovR_v _ _ _ _ _ _ _ _ _)) rfl rfl (Nat.le_of_ble_eq_true rfl) (Nat.le_of_ble_eq_true rfl) (Nat.le_of_ble_eq_true rfl) (Nat.le_of_ble_eq_true rfl) (jk_r ?_)
    rw [show 4 * (2 * q0) = 8 * q0 by omega, show 4 * (2 * q0 + 1) = 8 * q0 + 4 by omega]
    refine j_istore C d_RB_faultOf_43 (by decide) rfl ?_
    refine j_iload_n C d_RB_faultOf_45 rfl rfl ?_
    refine j_ldc (v := (-1000000000)) C d_RB_faultOf_46 lc_RB_56 ?_
    refine j_icmp_eq (tgt := 58) C d_RB_faultOf_48 (by decide) (fun c48 => ?_) (fun c48 => ?_)
    · refine j_iconst (v := 3) C d_RB_faultOf_58 (by decide) ?_
      exact j_ireturn C d_RB_faultOf_59 rfl (by decide) (by decide) ⟨by unfold xft; simp only [c13, c48, if_true, if_false, not_false_eq_true, true_or, or_true, or_false, false_or], rfl, rfl⟩
    · refine j_iload C d_RB_faultOf_51 rfl ?_
      refine j_ldc (v := (-1000000000)) C d_RB_faultOf_53 lc_RB_56 ?_
      refine j_icmp_ne (tgt := 60) C d_RB_faultOf_55 (by decide) (fun c55 => ?_) (fun c55 => ?_)
      · refine j_aload_n C d_RB_faultOf_60 rfl rfl ?_
        refine jx_get 13 C fl_2_15 d_RB_faultOf_61 hn rfl rfl ?_
        refine j_iload_n C d_RB_faultOf_64 rfl rfl ?_
        refine jx_cald (w := β 14 q0) 14 C d_RB_faultOf_65 hn rfl (vp_in_nI (by omega) (by omega)) (by rw [nI_clamp (by omega)]) ?_
        refine j_iload_n C d_RB_faultOf_66 rfl rfl ?_
        refine j_iload C d_RB_faultOf_67 rfl ?_
        refine j_callS C d_RB_faultOf_69 ml_RB_57 mc_RB_holds st_RB_holds (c_RB_holds hl _ _ _ _) rfl rfl (Nat.le_of_ble_eq_true rfl) (Nat.le_of_ble_eq_true rfl) (Nat.le_of_ble_eq_true rfl) (Nat.le_of_ble_eq_true rfl) (jk_r ?_)
        refine j_if_eq (tgt := 79) C d_RB_faultOf_72 (by decide) (fun c72 => ?_) (fun c72 => ?_)
        · refine j_iconst (v := 2) C d_RB_faultOf_79 (by decide) ?_
          exact j_ireturn C d_RB_faultOf_80 rfl (by decide) (by decide) ⟨by unfold xft; simp only [c13, c48, c55, c72, if_true, if_false, not_false_eq_true, or_false, false_or, or_self], rfl, rfl⟩
        · refine j_iconst (v := (-1)) C d_RB_faultOf_75 (by decide) ?_
          refine j_goto (tgt := 80) C d_RB_faultOf_76 (by decide) ?_
          exact j_ireturn C d_RB_faultOf_80 rfl (by decide) (by decide) ⟨by unfold xft; simp only [c13, c48, c55, c72, if_true, if_false, not_false_eq_true, or_false, false_or, or_self], rfl, rfl⟩
      · refine j_iconst (v := 3) C d_RB_faultOf_58 (by decide) ?_
        exact j_ireturn C d_RB_faultOf_59 rfl (by decide) (by decide) ⟨by unfold xft; simp only [c13, c48, c55, if_true, if_false, not_false_eq_true, true_or, or_true, or_false, false_or], rfl, rfl⟩
  · refine j_iconst (v := (-1)) C d_RB_faultOf_16 (by decide) ?_
    exact j_ireturn C d_RB_faultOf_17 rfl (by decide) (by decide) ⟨by unfold xft; simp only [c13, if_true, if_false, not_false_eq_true], rfl, rfl⟩

