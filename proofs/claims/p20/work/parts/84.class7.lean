/-! ===== the class: what is wanting, check, put, late, count: printed by program ===== -/
def xkf (ms : Int32) : Nat → Nat → List (Int32 × Int32)
  | 0, _ => []
  | n + 1, f => (if xhs ms (nI f) = 0 then [] else [(1, nI f)]) ++ xkf ms n (f + 1)
def xkr (F : Nat → Int32) : Nat → Nat → List (Int32 × Int32)
  | 0, _ => []
  | n + 1, q => (if F q = -1 then [] else [(F q, nI q)]) ++ xkr F n (q + 1)
def bkF (b : Nat) (β : Nat → Nat → Int32) (z0 : Int32) (g : Nat → Int32) (q : Nat) : Int32 := xft (β (b + 2) q) z0 (xsm (β (b + 5)) (β (b + 4)) (β (b + 6)) g (β (b + 3) (2 * q)).toNatClampNeg (8 * q) 0) (xsm (β (b + 5)) (β (b + 4)) (β (b + 6)) g (β (b + 3) (2 * q + 1)).toNatClampNeg (8 * q + 4) 0) (β (b + 1) q)
def ovF20 (xo : Nat) (ξ : Nat → Int32) (β : Nat → Nat → Int32) (ρ : Nat → Option Nat) (u v : Nat) (h : AH) (q : List (Int32 × Int32)) : AH := ovX xo (upd ξ 8 (nI q.length)) (upa (upa β 21 (wl (β 21) (q.map Prod.fst))) 22 (wl (β 22) (q.map Prod.snd))) ρ u v h
theorem ovF20_o (xo : Nat) (ξ : Nat → Int32) (β : Nat → Nat → Int32) (ρ : Nat → Option Nat) (u v : Nat) (h : AH) (q : List (Int32 × Int32)) : ovF20 xo ξ β ρ u v h q (xo + 20) = .inr (3, [.ref (xo + 21), .ref (xo + 22), .int (nI q.length)]) := ovX_c (o := 20) rfl
theorem ovF20_s (xo : Nat) (ξ : Nat → Int32) (β : Nat → Nat → Int32) (ρ : Nat → Option Nat) (u v : Nat) (h : AH) (q : List (Int32 × Int32)) (x y : Int32) (hq : q.length < 40) : ovX xo (upd (upd ξ 8 (nI q.length)) 8 (upd ξ 8 (nI q.length) 8 + 1)) (upa (upa (upa (upa β 21 (wl (β 21) (q.map Prod.fst))) 22 (wl (β 22) (q.map Prod.snd))) 21 (upd (upa (upa β 21 (wl (β 21) (q.map Prod.fst))) 22 (wl (β 22) (q.map Prod.snd)) 21) (upd ξ 8 (nI q.length) 8).toNatClampNeg x)) 22 (upd (upa (upa (upa β 21 (wl (β 21) (q.map Prod.fst))) 22 (wl (β 22) (q.map Prod.snd))) 21 (upd (upa (upa β 21 (wl (β 21) (q.map Prod.fst))) 22 (wl (β 22) (q.map Prod.snd)) 21) (upd ξ 8 (nI q.length) 8).toNatClampNeg x) 22) (upd ξ 8 (nI q.length) 8).toNatClampNeg y)) ρ u v h = ovF20 xo ξ β ρ u v h (q ++ [(x, y)]) := by
  have e1 : upa (upa β 21 (wl (β 21) (q.map Prod.fst))) 22 (wl (β 22) (q.map Prod.snd)) 21 = wl (β 21) (q.map Prod.fst) := rfl
  have e2 : upa (upa (upa β 21 (wl (β 21) (q.map Prod.fst))) 22 (wl (β 22) (q.map Prod.snd))) 21 (upd (wl (β 21) (q.map Prod.fst)) q.length x) 22 = wl (β 22) (q.map Prod.snd) := rfl
  have l1 : q.length = (q.map Prod.fst).length := by rw [List.length_map]
  have l2 : q.length = (q.map Prod.snd).length := by rw [List.length_map]
  have w1 : upd (wl (β 21) (q.map Prod.fst)) q.length x = wl (β 21) ((q ++ [(x, y)]).map Prod.fst) := by
    rw [List.map_append]
    exact (congrArg (fun k => upd (wl (β 21) (q.map Prod.fst)) k x) l1).trans (wl_snoc _ _ _)
  have w2 : upd (wl (β 22) (q.map Prod.snd)) q.length y = wl (β 22) ((q ++ [(x, y)]).map Prod.snd) := by
    rw [List.map_append]
    exact (congrArg (fun k => upd (wl (β 22) (q.map Prod.snd)) k y) l2).trans (wl_snoc _ _ _)
  rw [upd_uu, upd_s, nI_clamp (by omega), e1, e2, nI_1, w1, w2, upa_x (show (22 : Nat) ≠ 21 by decide), upa_uu, upa_uu]
  unfold ovF20
  rw [len_snoc]
set_option maxHeartbeats 4000000 in
set_option maxRecDepth 100000 in
theorem c_FN_add_20 {l : Launch} (hl : l.stackTraces = false) {D : va_G} {cA : Nat → ClassId} {b n : Nat} {xo : Nat} {ξ : Nat → Int32} {β : Nat → Nat → Int32} {ρ : Nat → Option Nat} {u v : Nat} (h : AH) (hn : xo + 28 ≤ n) (x y : Int32) (q : List (Int32 × Int32)) (hq : q.length < 40) : Cn l D cA b y_FN_add k_FN_add 0 0 0 0 [.ref (xo + 20), .int x, .int y] n (ovF20 xo ξ β ρ u v h q) (Re none n (ovF20 xo ξ β ρ u v h (q ++ [(x, y)]))) := by
  refine Cn.of (cc := b_FN_add) (maxL := 3) (ret := none) (hh := []) (by decide +kernel) hl (Or.inl ⟨rfl, rfl⟩) (Nat.le_of_ble_eq_true rfl) ?_
  intro p e s m args below meth c C
  refine j_aload_n C d_FN_add_0 rfl rfl ?_
  refine jx_get 20 C fl_3_18 d_FN_add_1 hn rfl rfl ?_
  refine j_aload_n C d_FN_add_4 rfl rfl ?_
  refine jx_get 20 C fl_3_9 d_FN_add_5 hn rfl rfl ?_
  refine jx_alen 21 C d_FN_add_8 rfl hn rfl rfl ?_
  refine j_icmp_ge (tgt := 54) C d_FN_add_9 (by decide) (fun c9 => ?_) (fun c9 => ?_)
  · exact absurd (show nI 40 ≤ nI q.length from c9) (nI_ge hq (by omega))
  · refine j_aload_n C d_FN_add_12 rfl rfl ?_
    refine jx_get 20 C fl_3_18 d_FN_add_13 hn rfl rfl ?_
    refine j_aload_n C d_FN_add_16 rfl rfl ?_
    refine jx_get 20 C fl_3_15 d_FN_add_17 hn rfl rfl ?_
    refine jx_alen 22 C d_FN_add_20 rfl hn rfl rfl ?_
    refine j_icmp_ge (tgt := 54) C d_FN_add_21 (by decide) (fun c21 => ?_) (fun c21 => ?_)
    · exact absurd (show nI 40 ≤ nI q.length from c21) (nI_ge hq (by omega))
    · refine j_aload_n C d_FN_add_24 rfl rfl ?_
      refine jx_get 20 C fl_3_9 d_FN_add_25 hn rfl rfl ?_
      refine j_aload_n C d_FN_add_28 rfl rfl ?_
      refine jx_get 20 C fl_3_18 d_FN_add_29 hn rfl rfl ?_
      refine j_iload_n C d_FN_add_32 rfl rfl ?_
      refine jx_iast 21 C d_FN_add_33 hn rfl (show vp_in (nI q.length) 40 from vp_in_nI hq (by omega)) rfl ?_
      refine j_aload_n C d_FN_add_34 rfl rfl ?_
      refine jx_get 20 C fl_3_15 d_FN_add_35 hn rfl rfl ?_
      refine j_aload_n C d_FN_add_38 rfl rfl ?_
      refine jx_get 20 C fl_3_18 d_FN_add_39 hn rfl rfl ?_
      refine j_iload_n C d_FN_add_42 rfl rfl ?_
      refine jx_iast 22 C d_FN_add_43 hn rfl (show vp_in (nI q.length) 40 from vp_in_nI hq (by omega)) rfl ?_
      refine j_aload_n C d_FN_add_44 rfl rfl ?_
      refine j_dup C d_FN_add_45 rfl ?_
      refine jx_get 20 C fl_3_18 d_FN_add_46 hn rfl rfl ?_
      refine j_iconst (v := 1) C d_FN_add_49 (by decide) ?_
      refine j_iadd C d_FN_add_50 ?_
      refine jx_puti 20 8 C fp_3_18 d_FN_add_51 hn rfl (Nat.le_of_ble_eq_true rfl) rfl rfl rfl ?_
      exact j_vreturn C d_FN_add_54 rfl (by decide) (by decide) ⟨rfl, rfl, ovF20_s xo ξ β ρ u v h q x y hq⟩

def ovF23 (xo : Nat) (ξ : Nat → Int32) (β : Nat → Nat → Int32) (ρ : Nat → Option Nat) (u v : Nat) (h : AH) (q : List (Int32 × Int32)) : AH := ovX xo (upd ξ 9 (nI q.length)) (upa (upa β 24 (wl (β 24) (q.map Prod.fst))) 25 (wl (β 25) (q.map Prod.snd))) ρ u v h
theorem ovF23_o (xo : Nat) (ξ : Nat → Int32) (β : Nat → Nat → Int32) (ρ : Nat → Option Nat) (u v : Nat) (h : AH) (q : List (Int32 × Int32)) : ovF23 xo ξ β ρ u v h q (xo + 23) = .inr (3, [.ref (xo + 24), .ref (xo + 25), .int (nI q.length)]) := ovX_c (o := 23) rfl
theorem ovF23_s (xo : Nat) (ξ : Nat → Int32) (β : Nat → Nat → Int32) (ρ : Nat → Option Nat) (u v : Nat) (h : AH) (q : List (Int32 × Int32)) (x y : Int32) (hq : q.length < 40) : ovX xo (upd (upd ξ 9 (nI q.length)) 9 (upd ξ 9 (nI q.length) 9 + 1)) (upa (upa (upa (upa β 24 (wl (β 24) (q.map Prod.fst))) 25 (wl (β 25) (q.map Prod.snd))) 24 (upd (upa (upa β 24 (wl (β 24) (q.map Prod.fst))) 25 (wl (β 25) (q.map Prod.snd)) 24) (upd ξ 9 (nI q.length) 9).toNatClampNeg x)) 25 (upd (upa (upa (upa β 24 (wl (β 24) (q.map Prod.fst))) 25 (wl (β 25) (q.map Prod.snd))) 24 (upd (upa (upa β 24 (wl (β 24) (q.map Prod.fst))) 25 (wl (β 25) (q.map Prod.snd)) 24) (upd ξ 9 (nI q.length) 9).toNatClampNeg x) 25) (upd ξ 9 (nI q.length) 9).toNatClampNeg y)) ρ u v h = ovF23 xo ξ β ρ u v h (q ++ [(x, y)]) := by
  have e1 : upa (upa β 24 (wl (β 24) (q.map Prod.fst))) 25 (wl (β 25) (q.map Prod.snd)) 24 = wl (β 24) (q.map Prod.fst) := rfl
  have e2 : upa (upa (upa β 24 (wl (β 24) (q.map Prod.fst))) 25 (wl (β 25) (q.map Prod.snd))) 24 (upd (wl (β 24) (q.map Prod.fst)) q.length x) 25 = wl (β 25) (q.map Prod.snd) := rfl
  have l1 : q.length = (q.map Prod.fst).length := by rw [List.length_map]
  have l2 : q.length = (q.map Prod.snd).length := by rw [List.length_map]
  have w1 : upd (wl (β 24) (q.map Prod.fst)) q.length x = wl (β 24) ((q ++ [(x, y)]).map Prod.fst) := by
    rw [List.map_append]
    exact (congrArg (fun k => upd (wl (β 24) (q.map Prod.fst)) k x) l1).trans (wl_snoc _ _ _)
  have w2 : upd (wl (β 25) (q.map Prod.snd)) q.length y = wl (β 25) ((q ++ [(x, y)]).map Prod.snd) := by
    rw [List.map_append]
    exact (congrArg (fun k => upd (wl (β 25) (q.map Prod.snd)) k y) l2).trans (wl_snoc _ _ _)
  rw [upd_uu, upd_s, nI_clamp (by omega), e1, e2, nI_1, w1, w2, upa_x (show (25 : Nat) ≠ 24 by decide), upa_uu, upa_uu]
  unfold ovF23
  rw [len_snoc]
set_option maxHeartbeats 4000000 in
set_option maxRecDepth 100000 in
theorem c_FN_add_23 {l : Launch} (hl : l.stackTraces = false) {D : va_G} {cA : Nat → ClassId} {b n : Nat} {xo : Nat} {ξ : Nat → Int32} {β : Nat → Nat → Int32} {ρ : Nat → Option Nat} {u v : Nat} (h : AH) (hn : xo + 28 ≤ n) (x y : Int32) (q : List (Int32 × Int32)) (hq : q.length < 40) : Cn l D cA b y_FN_add k_FN_add 0 0 0 0 [.ref (xo + 23), .int x, .int y] n (ovF23 xo ξ β ρ u v h q) (Re none n (ovF23 xo ξ β ρ u v h (q ++ [(x, y)]))) := by
  refine Cn.of (cc := b_FN_add) (maxL := 3) (ret := none) (hh := []) (by decide +kernel) hl (Or.inl ⟨rfl, rfl⟩) (Nat.le_of_ble_eq_true rfl) ?_
  intro p e s m args below meth c C
  refine j_aload_n C d_FN_add_0 rfl rfl ?_
  refine jx_get 23 C fl_3_18 d_FN_add_1 hn rfl rfl ?_
  refine j_aload_n C d_FN_add_4 rfl rfl ?_
  refine jx_get 23 C fl_3_9 d_FN_add_5 hn rfl rfl ?_
  refine jx_alen 24 C d_FN_add_8 rfl hn rfl rfl ?_
  refine j_icmp_ge (tgt := 54) C d_FN_add_9 (by decide) (fun c9 => ?_) (fun c9 => ?_)
  · exact absurd (show nI 40 ≤ nI q.length from c9) (nI_ge hq (by omega))
  · refine j_aload_n C d_FN_add_12 rfl rfl ?_
    refine jx_get 23 C fl_3_18 d_FN_add_13 hn rfl rfl ?_
    refine j_aload_n C d_FN_add_16 rfl rfl ?_
    refine jx_get 23 C fl_3_15 d_FN_add_17 hn rfl rfl ?_
    refine jx_alen 25 C d_FN_add_20 rfl hn rfl rfl ?_
    refine j_icmp_ge (tgt := 54) C d_FN_add_21 (by decide) (fun c21 => ?_) (fun c21 => ?_)
    · exact absurd (show nI 40 ≤ nI q.length from c21) (nI_ge hq (by omega))
    · refine j_aload_n C d_FN_add_24 rfl rfl ?_
      refine jx_get 23 C fl_3_9 d_FN_add_25 hn rfl rfl ?_
      refine j_aload_n C d_FN_add_28 rfl rfl ?_
      refine jx_get 23 C fl_3_18 d_FN_add_29 hn rfl rfl ?_
      refine j_iload_n C d_FN_add_32 rfl rfl ?_
      refine jx_iast 24 C d_FN_add_33 hn rfl (show vp_in (nI q.length) 40 from vp_in_nI hq (by omega)) rfl ?_
      refine j_aload_n C d_FN_add_34 rfl rfl ?_
      refine jx_get 23 C fl_3_15 d_FN_add_35 hn rfl rfl ?_
      refine j_aload_n C d_FN_add_38 rfl rfl ?_
      refine jx_get 23 C fl_3_18 d_FN_add_39 hn rfl rfl ?_
      refine j_iload_n C d_FN_add_42 rfl rfl ?_
      refine jx_iast 25 C d_FN_add_43 hn rfl (show vp_in (nI q.length) 40 from vp_in_nI hq (by omega)) rfl ?_
      refine j_aload_n C d_FN_add_44 rfl rfl ?_
      refine j_dup C d_FN_add_45 rfl ?_
      refine jx_get 23 C fl_3_18 d_FN_add_46 hn rfl rfl ?_
      refine j_iconst (v := 1) C d_FN_add_49 (by decide) ?_
      refine j_iadd C d_FN_add_50 ?_
      refine jx_puti 23 9 C fp_3_18 d_FN_add_51 hn rfl (Nat.le_of_ble_eq_true rfl) rfl rfl rfl ?_
      exact j_vreturn C d_FN_add_54 rfl (by decide) (by decide) ⟨rfl, rfl, ovF23_s xo ξ β ρ u v h q x y hq⟩

set_option maxHeartbeats 4000000 in
set_option maxRecDepth 100000 in
theorem c_X_findWanting_6_20 {l : Launch} (hl : l.stackTraces = false) {D : va_G} {cA : Nat → ClassId} {b n : Nat} {xo : Nat} {ξ : Nat → Int32} {β : Nat → Nat → Int32} {ρ : Nat → Option Nat} {r : Nat} {i0 k0 t0 f0 : Int32} {ζ : Nat → Int32} {g w : Nat → Int32} (h : AH) (hn : xo + 28 ≤ n) (hr : xo + 28 ≤ r) (hrn : r + 3 ≤ n) (kd nq : Nat) (hkd : k0 = nI kd) (hkl : kd < 5) (hnq : ξ 6 = nI nq) (hql : nq ≤ 20) (hcn : ∀ s, s < 2 * nq → ∃ c, c ≤ 4 ∧ β 9 s = nI c) : Cn l D cA b y_X_findWanting k_X_findWanting 3 49 0 0 [.ref xo, .ref r, .ref (xo + 20)] n (ovX xo ξ β ρ 6 13 (ovR r i0 k0 t0 f0 ζ g w h)) (Re none n (ovF20 xo ξ β ρ 6 13 (ovR r i0 k0 t0 f0 ζ g w h) (xkf (β 2 kd &&& (ζ 0 ^^^ -1)) 20 0 ++ xkr (bkF 6 β (ζ 0) g) nq 0))) := by
  refine Cn.of (cc := b_X_findWanting) (maxL := 6) (ret := none) (hh := []) (by decide +kernel) hl (Or.inl ⟨rfl, rfl⟩) (Nat.le_of_ble_eq_true rfl) ?_
  intro p e s m args below meth c C
  have loop2 : ∀ (m9 k : Nat) (q : List (Int32 × Int32)), k + m9 = nq → q.length ≤ 20 + k → q ++ xkr (bkF 6 β (ζ 0) g) m9 k = (xkf (β 2 kd &&& (ζ 0 ^^^ -1)) 20 0 ++ xkr (bkF 6 β (ζ 0) g) nq 0) → J p l e { frames := 3, cells := 0, slots := 0, locals := 49 } s m args below meth c D cA b 6 (EndQ D cA b s below (Re none n (ovF20 xo ξ β ρ 6 13 (ovR r i0 k0 t0 f0 ζ g w h) (xkf (β 2 kd &&& (ζ 0 ^^^ -1)) 20 0 ++ xkr (bkF 6 β (ζ 0) g) nq 0))) 0 0) n (ovF20 xo ξ β ρ 6 13 (ovR r i0 k0 t0 f0 ζ g w h) q) 0 0 57 [(4, .int (nI k)), (0, .ref xo), (1, .ref r), (2, .ref (xo + 20))] [] := by
    intro m9
    induction m9 with
    | zero =>
      intro k q hk hlen hv
      obtain rfl : nq = k := by omega
      refine j_iload C d_X_findWanting_57 rfl ?_
      refine j_aload_n C d_X_findWanting_59 rfl rfl ?_
      refine jx_get 0 C fl_0_48 d_X_findWanting_60 hn rfl rfl ?_
      refine jx_get 6 C fl_0_157 d_X_findWanting_63 hn rfl rfl ?_
      refine j_icmp_ge (tgt := 101) C d_X_findWanting_66 (by decide) (fun c66 => ?_) (fun c66 => ?_)
      · exact j_vreturn C d_X_findWanting_101 rfl (by decide) (by decide) ⟨rfl, rfl, by rw [← hv]; show _ = ovF20 xo ξ β ρ 6 13 _ (q ++ []); rw [List.append_nil]; rfl⟩
      · exact absurd (show ξ 6 ≤ nI nq by rw [hnq]; exact nI_le (Nat.le_refl _) (by omega)) c66
    | succ m9 ih =>
      intro k q hk hlen hv
      refine j_iload C d_X_findWanting_57 rfl ?_
      refine j_aload_n C d_X_findWanting_59 rfl rfl ?_
      refine jx_get 0 C fl_0_48 d_X_findWanting_60 hn rfl rfl ?_
      refine jx_get 6 C fl_0_157 d_X_findWanting_63 hn rfl rfl ?_
      refine j_icmp_ge (tgt := 101) C d_X_findWanting_66 (by decide) (fun c66 => ?_) (fun c66 => ?_)
      · exact absurd (show ξ 6 ≤ nI k from c66) (by rw [hnq]; exact nI_ge (by omega) (by omega))
      · obtain ⟨c1, l1, e1⟩ := hcn (2 * k) (by omega)
        obtain ⟨c2, l2, e2⟩ := hcn (2 * k + 1) (by omega)
        have eF : (bkF 6 β (ζ 0) g) k = xft (β 8 k) (ζ 0) (xsm (β 11) (β 10) (β 12) g c1 (8 * k) 0) (xsm (β 11) (β 10) (β 12) g c2 (8 * k + 4) 0) (β 7 k) := by
          unfold bkF
          rw [show β (6 + 3) (2 * k) = nI c1 from e1, show β (6 + 3) (2 * k + 1) = nI c2 from e2, nI_clamp (by omega), nI_clamp (by omega)]
        refine j_aload_n C d_X_findWanting_69 rfl rfl ?_
        refine jx_get 0 C fl_0_48 d_X_findWanting_70 hn rfl rfl ?_
        refine j_iload C d_X_findWanting_73 rfl ?_
        refine j_aload_n C d_X_findWanting_75 rfl rfl ?_
        refine j_callV C d_X_findWanting_76 ml_X_282 mc_RB_faultOf in_RB_faultOf rfl se_RB_faultOf (by omega) (ovX_c (o := 6) rfl) (c_RB_faultOf_6 hl h hn hr hrn k c1 c2 (by omega) (show β 9 (2 * k) = nI c1 from e1) l1 (show β 9 (2 * k + 1) = nI c2 from e2) l2) rfl rfl (Nat.le_of_ble_eq_true rfl) (Nat.le_of_ble_eq_true rfl) (Nat.le_of_ble_eq_true rfl) (Nat.le_of_ble_eq_true rfl) (jk_r ?_)
        refine j_h (h' := (ovF20 xo ξ β ρ 6 13 (ovR r i0 k0 t0 f0 ζ g w h) q)) rfl ?_
        rw [show xft ((upa (upa β 21 (wl (β 21) (q.map Prod.fst))) 22 (wl (β 22) (q.map Prod.snd))) 8 k) (ζ 0) (xsm ((upa (upa β 21 (wl (β 21) (q.map Prod.fst))) 22 (wl (β 22) (q.map Prod.snd))) 11) ((upa (upa β 21 (wl (β 21) (q.map Prod.fst))) 22 (wl (β 22) (q.map Prod.snd))) 10) ((upa (upa β 21 (wl (β 21) (q.map Prod.fst))) 22 (wl (β 22) (q.map Prod.snd))) 12) g c1 (8 * k) 0) (xsm ((upa (upa β 21 (wl (β 21) (q.map Prod.fst))) 22 (wl (β 22) (q.map Prod.snd))) 11) ((upa (upa β 21 (wl (β 21) (q.map Prod.fst))) 22 (wl (β 22) (q.map Prod.snd))) 10) ((upa (upa β 21 (wl (β 21) (q.map Prod.fst))) 22 (wl (β 22) (q.map Prod.snd))) 12) g c2 (8 * k + 4) 0) ((upa (upa β 21 (wl (β 21) (q.map Prod.fst))) 22 (wl (β 22) (q.map Prod.snd))) 7 k) = (bkF 6 β (ζ 0) g) k from eF.symm]
        refine j_istore C d_X_findWanting_79 (by decide) rfl ?_
        refine j_iload C d_X_findWanting_81 rfl ?_
        refine j_iconst (v := (-1)) C d_X_findWanting_83 (by decide) ?_
        refine j_icmp_eq (tgt := 95) C d_X_findWanting_84 (by decide) (fun c84 => ?_) (fun c84 => ?_)
        · refine j_iinc (v := nI (k + 1)) C d_X_findWanting_95 rfl (nI_inc k) (by decide) rfl ?_
          refine j_goto (tgt := 57) C d_X_findWanting_98 (by decide) ?_
          exact j_pick [0, 2, 3, 4] rfl (ih (k + 1) q (by omega) (by omega) (by rw [← hv]; show _ = q ++ ((if (bkF 6 β (ζ 0) g) k = -1 then [] else [((bkF 6 β (ζ 0) g) k, nI k)]) ++ _); rw [if_pos c84]; rfl))
        · refine j_aload_n C d_X_findWanting_87 rfl rfl ?_
          refine j_iload C d_X_findWanting_88 rfl ?_
          refine j_iload C d_X_findWanting_90 rfl ?_
          refine j_callV C d_X_findWanting_92 ml_X_279 mc_FN_add in_FN_add rfl se_FN_add (by omega) (ovF20_o _ _ _ _ _ _ _ _) (c_FN_add_20 hl _ hn _ (nI k) q (by omega)) rfl rfl (Nat.le_of_ble_eq_true rfl) (Nat.le_of_ble_eq_true rfl) (Nat.le_of_ble_eq_true rfl) (Nat.le_of_ble_eq_true rfl) (jk_v ?_)
          refine j_iinc (v := nI (k + 1)) C d_X_findWanting_95 rfl (nI_inc k) (by decide) rfl ?_
          refine j_goto (tgt := 57) C d_X_findWanting_98 (by decide) ?_
          exact j_pick [0, 2, 3, 4] rfl (ih (k + 1) (q ++ [((bkF 6 β (ζ 0) g) k, nI k)]) (by omega) (by rw [len_snoc]; omega) (by rw [← hv]; show _ = q ++ ((if (bkF 6 β (ζ 0) g) k = -1 then [] else [((bkF 6 β (ζ 0) g) k, nI k)]) ++ _); rw [if_neg c84]; simp))
  have loop1 : ∀ (m9 f : Nat) (q : List (Int32 × Int32)), f + m9 = 20 → q.length ≤ f → q ++ xkf (β 2 kd &&& (ζ 0 ^^^ -1)) m9 f ++ xkr (bkF 6 β (ζ 0) g) nq 0 = (xkf (β 2 kd &&& (ζ 0 ^^^ -1)) 20 0 ++ xkr (bkF 6 β (ζ 0) g) nq 0) → J p l e { frames := 3, cells := 0, slots := 0, locals := 49 } s m args below meth c D cA b 6 (EndQ D cA b s below (Re none n (ovF20 xo ξ β ρ 6 13 (ovR r i0 k0 t0 f0 ζ g w h) (xkf (β 2 kd &&& (ζ 0 ^^^ -1)) 20 0 ++ xkr (bkF 6 β (ζ 0) g) nq 0))) 0 0) n (ovF20 xo ξ β ρ 6 13 (ovR r i0 k0 t0 f0 ζ g w h) q) 0 0 25 [(4, .int (nI f)), (3, .int (β 2 kd &&& (ζ 0 ^^^ -1))), (0, .ref xo), (1, .ref r), (2, .ref (xo + 20))] [] := by
    intro m9
    induction m9 with
    | zero =>
      intro f q hf hlen hv
      obtain rfl : f = 20 := by omega
      have hv : q ++ xkr (bkF 6 β (ζ 0) g) nq 0 = (xkf (β 2 kd &&& (ζ 0 ^^^ -1)) 20 0 ++ xkr (bkF 6 β (ζ 0) g) nq 0) := by rw [← hv]; show _ = q ++ [] ++ _; rw [List.append_nil]
      refine j_iload C d_X_findWanting_25 rfl ?_
      refine j_bipush (v := 20) C d_X_findWanting_27 (by decide) ?_
      refine j_icmp_ge (tgt := 54) C d_X_findWanting_29 (by decide) (fun c29 => ?_) (fun c29 => ?_)
      · refine j_iconst (v := 0) C d_X_findWanting_54 (by decide) ?_
        refine j_istore C d_X_findWanting_55 (by decide) rfl ?_
        exact j_pick [0, 2, 3, 4] rfl (loop2 nq 0 q (by omega) (by omega) hv)
      · exact absurd (by decide) c29
    | succ m9 ih =>
      intro f q hf hlen hv
      refine j_iload C d_X_findWanting_25 rfl ?_
      refine j_bipush (v := 20) C d_X_findWanting_27 (by decide) ?_
      refine j_icmp_ge (tgt := 54) C d_X_findWanting_29 (by decide) (fun c29 => ?_) (fun c29 => ?_)
      · exact absurd (show nI 20 ≤ nI f from c29) (nI_ge (by omega) (by omega))
      · refine j_iload_n C d_X_findWanting_32 rfl rfl ?_
        refine j_iload C d_X_findWanting_33 rfl ?_
        refine j_callS C d_X_findWanting_35 ml_X_204 mc_X_has st_X_has (c_X_has hl _ _ _) rfl rfl (Nat.le_of_ble_eq_true rfl) (Nat.le_of_ble_eq_true rfl) (Nat.le_of_ble_eq_true rfl) (Nat.le_of_ble_eq_true rfl) (jk_r ?_)
        refine j_if_eq (tgt := 48) C d_X_findWanting_38 (by decide) (fun c38 => ?_) (fun c38 => ?_)
        · refine j_iinc (v := nI (f + 1)) C d_X_findWanting_48 rfl (nI_inc f) (by decide) rfl ?_
          refine j_goto (tgt := 25) C d_X_findWanting_51 (by decide) ?_
          exact j_pick [0, 1, 2, 3, 4] rfl (ih (f + 1) q (by omega) (by omega) (by rw [← hv]; show _ = q ++ ((if xhs (β 2 kd &&& (ζ 0 ^^^ -1)) (nI f) = 0 then [] else [(1, nI f)]) ++ _) ++ _; rw [if_pos c38]; rfl))
        · refine j_aload_n C d_X_findWanting_41 rfl rfl ?_
          refine j_iconst (v := 1) C d_X_findWanting_42 (by decide) ?_
          refine j_iload C d_X_findWanting_43 rfl ?_
          refine j_callV C d_X_findWanting_45 ml_X_279 mc_FN_add in_FN_add rfl se_FN_add (by omega) (ovF20_o _ _ _ _ _ _ _ _) (c_FN_add_20 hl _ hn 1 (nI f) q (by omega)) rfl rfl (Nat.le_of_ble_eq_true rfl) (Nat.le_of_ble_eq_true rfl) (Nat.le_of_ble_eq_true rfl) (Nat.le_of_ble_eq_true rfl) (jk_v ?_)
          refine j_iinc (v := nI (f + 1)) C d_X_findWanting_48 rfl (nI_inc f) (by decide) rfl ?_
          refine j_goto (tgt := 25) C d_X_findWanting_51 (by decide) ?_
          exact j_pick [0, 1, 2, 3, 4] rfl (ih (f + 1) (q ++ [(1, nI f)]) (by omega) (by rw [len_snoc]; omega) (by rw [← hv]; show _ = q ++ ((if xhs (β 2 kd &&& (ζ 0 ^^^ -1)) (nI f) = 0 then [] else [(1, nI f)]) ++ _) ++ _; rw [if_neg c38]; simp))
  refine j_aload_n C d_X_findWanting_0 rfl rfl ?_
  refine j_iconst (v := 0) C d_X_findWanting_1 (by decide) ?_
  refine jx_puti 20 8 C fp_0_164 d_X_findWanting_2 hn rfl (Nat.le_of_ble_eq_true rfl) rfl rfl rfl ?_
  refine j_h (h' := (ovF20 xo ξ β ρ 6 13 (ovR r i0 k0 t0 f0 ζ g w h) [])) (by unfold ovF20; rw [List.map_nil, List.map_nil, wl_nil, wl_nil, upa_self rfl, upa_self rfl]; rfl) ?_
  refine j_aload_n C d_X_findWanting_5 rfl rfl ?_
  refine jx_get 0 C fl_0_19 d_X_findWanting_6 hn rfl rfl ?_
  refine j_aload_n C d_X_findWanting_9 rfl rfl ?_
  refine jq_get C fl_0_195 d_X_findWanting_10 hr hrn rfl ?_
  refine jx_iald (w := β 2 kd) 2 C d_X_findWanting_13 hn rfl (by rw [hkd]; exact vp_in_nI (by omega) (by omega)) (by rw [hkd, nI_clamp (by omega)]; rfl) ?_
  refine j_aload_n C d_X_findWanting_14 rfl rfl ?_
  refine jq_get C fl_0_252 d_X_findWanting_15 hr hrn rfl ?_
  refine j_iconst (v := (-1)) C d_X_findWanting_18 (by decide) ?_
  refine j_ixor C d_X_findWanting_19 ?_
  refine j_iand C d_X_findWanting_20 ?_
  refine j_istore_n C d_X_findWanting_21 rfl (by decide) rfl ?_
  refine j_iconst (v := 0) C d_X_findWanting_22 (by decide) ?_
  refine j_istore C d_X_findWanting_23 (by decide) rfl ?_
  refine j_h (h' := (ovF20 xo ξ β ρ 6 13 (ovR r i0 k0 t0 f0 ζ g w h) [])) rfl ?_
  exact j_pick [0, 1, 2, 3, 4] rfl (loop1 20 0 [] rfl (by simp) rfl)

set_option maxHeartbeats 4000000 in
set_option maxRecDepth 100000 in
theorem c_X_findWanting_6_23 {l : Launch} (hl : l.stackTraces = false) {D : va_G} {cA : Nat → ClassId} {b n : Nat} {xo : Nat} {ξ : Nat → Int32} {β : Nat → Nat → Int32} {ρ : Nat → Option Nat} {r : Nat} {i0 k0 t0 f0 : Int32} {ζ : Nat → Int32} {g w : Nat → Int32} (h : AH) (hn : xo + 28 ≤ n) (hr : xo + 28 ≤ r) (hrn : r + 3 ≤ n) (kd nq : Nat) (hkd : k0 = nI kd) (hkl : kd < 5) (hnq : ξ 6 = nI nq) (hql : nq ≤ 20) (hcn : ∀ s, s < 2 * nq → ∃ c, c ≤ 4 ∧ β 9 s = nI c) : Cn l D cA b y_X_findWanting k_X_findWanting 3 49 0 0 [.ref xo, .ref r, .ref (xo + 23)] n (ovX xo ξ β ρ 6 13 (ovR r i0 k0 t0 f0 ζ g w h)) (Re none n (ovF23 xo ξ β ρ 6 13 (ovR r i0 k0 t0 f0 ζ g w h) (xkf (β 2 kd &&& (ζ 0 ^^^ -1)) 20 0 ++ xkr (bkF 6 β (ζ 0) g) nq 0))) := by
  refine Cn.of (cc := b_X_findWanting) (maxL := 6) (ret := none) (hh := []) (by decide +kernel) hl (Or.inl ⟨rfl, rfl⟩) (Nat.le_of_ble_eq_true rfl) ?_
  intro p e s m args below meth c C
  have loop2 : ∀ (m9 k : Nat) (q : List (Int32 × Int32)), k + m9 = nq → q.length ≤ 20 + k → q ++ xkr (bkF 6 β (ζ 0) g) m9 k = (xkf (β 2 kd &&& (ζ 0 ^^^ -1)) 20 0 ++ xkr (bkF 6 β (ζ 0) g) nq 0) → J p l e { frames := 3, cells := 0, slots := 0, locals := 49 } s m args below meth c D cA b 6 (EndQ D cA b s below (Re none n (ovF23 xo ξ β ρ 6 13 (ovR r i0 k0 t0 f0 ζ g w h) (xkf (β 2 kd &&& (ζ 0 ^^^ -1)) 20 0 ++ xkr (bkF 6 β (ζ 0) g) nq 0))) 0 0) n (ovF23 xo ξ β ρ 6 13 (ovR r i0 k0 t0 f0 ζ g w h) q) 0 0 57 [(4, .int (nI k)), (0, .ref xo), (1, .ref r), (2, .ref (xo + 23))] [] := by
    intro m9
    induction m9 with
    | zero =>
      intro k q hk hlen hv
      obtain rfl : nq = k := by omega
      refine j_iload C d_X_findWanting_57 rfl ?_
      refine j_aload_n C d_X_findWanting_59 rfl rfl ?_
      refine jx_get 0 C fl_0_48 d_X_findWanting_60 hn rfl rfl ?_
      refine jx_get 6 C fl_0_157 d_X_findWanting_63 hn rfl rfl ?_
      refine j_icmp_ge (tgt := 101) C d_X_findWanting_66 (by decide) (fun c66 => ?_) (fun c66 => ?_)
      · exact j_vreturn C d_X_findWanting_101 rfl (by decide) (by decide) ⟨rfl, rfl, by rw [← hv]; show _ = ovF23 xo ξ β ρ 6 13 _ (q ++ []); rw [List.append_nil]; rfl⟩
      · exact absurd (show ξ 6 ≤ nI nq by rw [hnq]; exact nI_le (Nat.le_refl _) (by omega)) c66
    | succ m9 ih =>
      intro k q hk hlen hv
      refine j_iload C d_X_findWanting_57 rfl ?_
      refine j_aload_n C d_X_findWanting_59 rfl rfl ?_
      refine jx_get 0 C fl_0_48 d_X_findWanting_60 hn rfl rfl ?_
      refine jx_get 6 C fl_0_157 d_X_findWanting_63 hn rfl rfl ?_
      refine j_icmp_ge (tgt := 101) C d_X_findWanting_66 (by decide) (fun c66 => ?_) (fun c66 => ?_)
      · exact absurd (show ξ 6 ≤ nI k from c66) (by rw [hnq]; exact nI_ge (by omega) (by omega))
      · obtain ⟨c1, l1, e1⟩ := hcn (2 * k) (by omega)
        obtain ⟨c2, l2, e2⟩ := hcn (2 * k + 1) (by omega)
        have eF : (bkF 6 β (ζ 0) g) k = xft (β 8 k) (ζ 0) (xsm (β 11) (β 10) (β 12) g c1 (8 * k) 0) (xsm (β 11) (β 10) (β 12) g c2 (8 * k + 4) 0) (β 7 k) := by
          unfold bkF
          rw [show β (6 + 3) (2 * k) = nI c1 from e1, show β (6 + 3) (2 * k + 1) = nI c2 from e2, nI_clamp (by omega), nI_clamp (by omega)]
        refine j_aload_n C d_X_findWanting_69 rfl rfl ?_
        refine jx_get 0 C fl_0_48 d_X_findWanting_70 hn rfl rfl ?_
        refine j_iload C d_X_findWanting_73 rfl ?_
        refine j_aload_n C d_X_findWanting_75 rfl rfl ?_
        refine j_callV C d_X_findWanting_76 ml_X_282 mc_RB_faultOf in_RB_faultOf rfl se_RB_faultOf (by omega) (ovX_c (o := 6) rfl) (c_RB_faultOf_6 hl h hn hr hrn k c1 c2 (by omega) (show β 9 (2 * k) = nI c1 from e1) l1 (show β 9 (2 * k + 1) = nI c2 from e2) l2) rfl rfl (Nat.le_of_ble_eq_true rfl) (Nat.le_of_ble_eq_true rfl) (Nat.le_of_ble_eq_true rfl) (Nat.le_of_ble_eq_true rfl) (jk_r ?_)
        refine j_h (h' := (ovF23 xo ξ β ρ 6 13 (ovR r i0 k0 t0 f0 ζ g w h) q)) rfl ?_
        rw [show xft ((upa (upa β 24 (wl (β 24) (q.map Prod.fst))) 25 (wl (β 25) (q.map Prod.snd))) 8 k) (ζ 0) (xsm ((upa (upa β 24 (wl (β 24) (q.map Prod.fst))) 25 (wl (β 25) (q.map Prod.snd))) 11) ((upa (upa β 24 (wl (β 24) (q.map Prod.fst))) 25 (wl (β 25) (q.map Prod.snd))) 10) ((upa (upa β 24 (wl (β 24) (q.map Prod.fst))) 25 (wl (β 25) (q.map Prod.snd))) 12) g c1 (8 * k) 0) (xsm ((upa (upa β 24 (wl (β 24) (q.map Prod.fst))) 25 (wl (β 25) (q.map Prod.snd))) 11) ((upa (upa β 24 (wl (β 24) (q.map Prod.fst))) 25 (wl (β 25) (q.map Prod.snd))) 10) ((upa (upa β 24 (wl (β 24) (q.map Prod.fst))) 25 (wl (β 25) (q.map Prod.snd))) 12) g c2 (8 * k + 4) 0) ((upa (upa β 24 (wl (β 24) (q.map Prod.fst))) 25 (wl (β 25) (q.map Prod.snd))) 7 k) = (bkF 6 β (ζ 0) g) k from eF.symm]
        refine j_istore C d_X_findWanting_79 (by decide) rfl ?_
        refine j_iload C d_X_findWanting_81 rfl ?_
        refine j_iconst (v := (-1)) C d_X_findWanting_83 (by decide) ?_
        refine j_icmp_eq (tgt := 95) C d_X_findWanting_84 (by decide) (fun c84 => ?_) (fun c84 => ?_)
        · refine j_iinc (v := nI (k + 1)) C d_X_findWanting_95 rfl (nI_inc k) (by decide) rfl ?_
          refine j_goto (tgt := 57) C d_X_findWanting_98 (by decide) ?_
          exact j_pick [0, 2, 3, 4] rfl (ih (k + 1) q (by omega) (by omega) (by rw [← hv]; show _ = q ++ ((if (bkF 6 β (ζ 0) g) k = -1 then [] else [((bkF 6 β (ζ 0) g) k, nI k)]) ++ _); rw [if_pos c84]; rfl))
        · refine j_aload_n C d_X_findWanting_87 rfl rfl ?_
          refine j_iload C d_X_findWanting_88 rfl ?_
          refine j_iload C d_X_findWanting_90 rfl ?_
          refine j_callV C d_X_findWanting_92 ml_X_279 mc_FN_add in_FN_add rfl se_FN_add (by omega) (ovF23_o _ _ _ _ _ _ _ _) (c_FN_add_23 hl _ hn _ (nI k) q (by omega)) rfl rfl (Nat.le_of_ble_eq_true rfl) (Nat.le_of_ble_eq_true rfl) (Nat.le_of_ble_eq_true rfl) (Nat.le_of_ble_eq_true rfl) (jk_v ?_)
          refine j_iinc (v := nI (k + 1)) C d_X_findWanting_95 rfl (nI_inc k) (by decide) rfl ?_
          refine j_goto (tgt := 57) C d_X_findWanting_98 (by decide) ?_
          exact j_pick [0, 2, 3, 4] rfl (ih (k + 1) (q ++ [((bkF 6 β (ζ 0) g) k, nI k)]) (by omega) (by rw [len_snoc]; omega) (by rw [← hv]; show _ = q ++ ((if (bkF 6 β (ζ 0) g) k = -1 then [] else [((bkF 6 β (ζ 0) g) k, nI k)]) ++ _); rw [if_neg c84]; simp))
  have loop1 : ∀ (m9 f : Nat) (q : List (Int32 × Int32)), f + m9 = 20 → q.length ≤ f → q ++ xkf (β 2 kd &&& (ζ 0 ^^^ -1)) m9 f ++ xkr (bkF 6 β (ζ 0) g) nq 0 = (xkf (β 2 kd &&& (ζ 0 ^^^ -1)) 20 0 ++ xkr (bkF 6 β (ζ 0) g) nq 0) → J p l e { frames := 3, cells := 0, slots := 0, locals := 49 } s m args below meth c D cA b 6 (EndQ D cA b s below (Re none n (ovF23 xo ξ β ρ 6 13 (ovR r i0 k0 t0 f0 ζ g w h) (xkf (β 2 kd &&& (ζ 0 ^^^ -1)) 20 0 ++ xkr (bkF 6 β (ζ 0) g) nq 0))) 0 0) n (ovF23 xo ξ β ρ 6 13 (ovR r i0 k0 t0 f0 ζ g w h) q) 0 0 25 [(4, .int (nI f)), (3, .int (β 2 kd &&& (ζ 0 ^^^ -1))), (0, .ref xo), (1, .ref r), (2, .ref (xo + 23))] [] := by
    intro m9
    induction m9 with
    | zero =>
      intro f q hf hlen hv
      obtain rfl : f = 20 := by omega
      have hv : q ++ xkr (bkF 6 β (ζ 0) g) nq 0 = (xkf (β 2 kd &&& (ζ 0 ^^^ -1)) 20 0 ++ xkr (bkF 6 β (ζ 0) g) nq 0) := by rw [← hv]; show _ = q ++ [] ++ _; rw [List.append_nil]
      refine j_iload C d_X_findWanting_25 rfl ?_
      refine j_bipush (v := 20) C d_X_findWanting_27 (by decide) ?_
      refine j_icmp_ge (tgt := 54) C d_X_findWanting_29 (by decide) (fun c29 => ?_) (fun c29 => ?_)
      · refine j_iconst (v := 0) C d_X_findWanting_54 (by decide) ?_
        refine j_istore C d_X_findWanting_55 (by decide) rfl ?_
        exact j_pick [0, 2, 3, 4] rfl (loop2 nq 0 q (by omega) (by omega) hv)
      · exact absurd (by decide) c29
    | succ m9 ih =>
      intro f q hf hlen hv
      refine j_iload C d_X_findWanting_25 rfl ?_
      refine j_bipush (v := 20) C d_X_findWanting_27 (by decide) ?_
      refine j_icmp_ge (tgt := 54) C d_X_findWanting_29 (by decide) (fun c29 => ?_) (fun c29 => ?_)
      · exact absurd (show nI 20 ≤ nI f from c29) (nI_ge (by omega) (by omega))
      · refine j_iload_n C d_X_findWanting_32 rfl rfl ?_
        refine j_iload C d_X_findWanting_33 rfl ?_
        refine j_callS C d_X_findWanting_35 ml_X_204 mc_X_has st_X_has (c_X_has hl _ _ _) rfl rfl (Nat.le_of_ble_eq_true rfl) (Nat.le_of_ble_eq_true rfl) (Nat.le_of_ble_eq_true rfl) (Nat.le_of_ble_eq_true rfl) (jk_r ?_)
        refine j_if_eq (tgt := 48) C d_X_findWanting_38 (by decide) (fun c38 => ?_) (fun c38 => ?_)
        · refine j_iinc (v := nI (f + 1)) C d_X_findWanting_48 rfl (nI_inc f) (by decide) rfl ?_
          refine j_goto (tgt := 25) C d_X_findWanting_51 (by decide) ?_
          exact j_pick [0, 1, 2, 3, 4] rfl (ih (f + 1) q (by omega) (by omega) (by rw [← hv]; show _ = q ++ ((if xhs (β 2 kd &&& (ζ 0 ^^^ -1)) (nI f) = 0 then [] else [(1, nI f)]) ++ _) ++ _; rw [if_pos c38]; rfl))
        · refine j_aload_n C d_X_findWanting_41 rfl rfl ?_
          refine j_iconst (v := 1) C d_X_findWanting_42 (by decide) ?_
          refine j_iload C d_X_findWanting_43 rfl ?_
          refine j_callV C d_X_findWanting_45 ml_X_279 mc_FN_add in_FN_add rfl se_FN_add (by omega) (ovF23_o _ _ _ _ _ _ _ _) (c_FN_add_23 hl _ hn 1 (nI f) q (by omega)) rfl rfl (Nat.le_of_ble_eq_true rfl) (Nat.le_of_ble_eq_true rfl) (Nat.le_of_ble_eq_true rfl) (Nat.le_of_ble_eq_true rfl) (jk_v ?_)
          refine j_iinc (v := nI (f + 1)) C d_X_findWanting_48 rfl (nI_inc f) (by decide) rfl ?_
          refine j_goto (tgt := 25) C d_X_findWanting_51 (by decide) ?_
          exact j_pick [0, 1, 2, 3, 4] rfl (ih (f + 1) (q ++ [(1, nI f)]) (by omega) (by rw [len_snoc]; omega) (by rw [← hv]; show _ = q ++ ((if xhs (β 2 kd &&& (ζ 0 ^^^ -1)) (nI f) = 0 then [] else [(1, nI f)]) ++ _) ++ _; rw [if_neg c38]; simp))
  refine j_aload_n C d_X_findWanting_0 rfl rfl ?_
  refine j_iconst (v := 0) C d_X_findWanting_1 (by decide) ?_
  refine jx_puti 23 9 C fp_0_164 d_X_findWanting_2 hn rfl (Nat.le_of_ble_eq_true rfl) rfl rfl rfl ?_
  refine j_h (h' := (ovF23 xo ξ β ρ 6 13 (ovR r i0 k0 t0 f0 ζ g w h) [])) (by unfold ovF23; rw [List.map_nil, List.map_nil, wl_nil, wl_nil, upa_self rfl, upa_self rfl]; rfl) ?_
  refine j_aload_n C d_X_findWanting_5 rfl rfl ?_
  refine jx_get 0 C fl_0_19 d_X_findWanting_6 hn rfl rfl ?_
  refine j_aload_n C d_X_findWanting_9 rfl rfl ?_
  refine jq_get C fl_0_195 d_X_findWanting_10 hr hrn rfl ?_
  refine jx_iald (w := β 2 kd) 2 C d_X_findWanting_13 hn rfl (by rw [hkd]; exact vp_in_nI (by omega) (by omega)) (by rw [hkd, nI_clamp (by omega)]; rfl) ?_
  refine j_aload_n C d_X_findWanting_14 rfl rfl ?_
  refine jq_get C fl_0_252 d_X_findWanting_15 hr hrn rfl ?_
  refine j_iconst (v := (-1)) C d_X_findWanting_18 (by decide) ?_
  refine j_ixor C d_X_findWanting_19 ?_
  refine j_iand C d_X_findWanting_20 ?_
  refine j_istore_n C d_X_findWanting_21 rfl (by decide) rfl ?_
  refine j_iconst (v := 0) C d_X_findWanting_22 (by decide) ?_
  refine j_istore C d_X_findWanting_23 (by decide) rfl ?_
  refine j_h (h' := (ovF23 xo ξ β ρ 6 13 (ovR r i0 k0 t0 f0 ζ g w h) [])) rfl ?_
  exact j_pick [0, 1, 2, 3, 4] rfl (loop1 20 0 [] rfl (by simp) rfl)

set_option maxHeartbeats 4000000 in
set_option maxRecDepth 100000 in
theorem c_X_findWanting_13_20 {l : Launch} (hl : l.stackTraces = false) {D : va_G} {cA : Nat → ClassId} {b n : Nat} {xo : Nat} {ξ : Nat → Int32} {β : Nat → Nat → Int32} {ρ : Nat → Option Nat} {r : Nat} {i0 k0 t0 f0 : Int32} {ζ : Nat → Int32} {g w : Nat → Int32} (h : AH) (hn : xo + 28 ≤ n) (hr : xo + 28 ≤ r) (hrn : r + 3 ≤ n) (kd nq : Nat) (hkd : k0 = nI kd) (hkl : kd < 5) (hnq : ξ 7 = nI nq) (hql : nq ≤ 20) (hcn : ∀ s, s < 2 * nq → ∃ c, c ≤ 4 ∧ β 16 s = nI c) : Cn l D cA b y_X_findWanting k_X_findWanting 3 49 0 0 [.ref xo, .ref r, .ref (xo + 20)] n (ovX xo ξ β ρ 13 6 (ovR r i0 k0 t0 f0 ζ g w h)) (Re none n (ovF20 xo ξ β ρ 13 6 (ovR r i0 k0 t0 f0 ζ g w h) (xkf (β 2 kd &&& (ζ 0 ^^^ -1)) 20 0 ++ xkr (bkF 13 β (ζ 0) g) nq 0))) := by
  refine Cn.of (cc := b_X_findWanting) (maxL := 6) (ret := none) (hh := []) (by decide +kernel) hl (Or.inl ⟨rfl, rfl⟩) (Nat.le_of_ble_eq_true rfl) ?_
  intro p e s m args below meth c C
  have loop2 : ∀ (m9 k : Nat) (q : List (Int32 × Int32)), k + m9 = nq → q.length ≤ 20 + k → q ++ xkr (bkF 13 β (ζ 0) g) m9 k = (xkf (β 2 kd &&& (ζ 0 ^^^ -1)) 20 0 ++ xkr (bkF 13 β (ζ 0) g) nq 0) → J p l e { frames := 3, cells := 0, slots := 0, locals := 49 } s m args below meth c D cA b 6 (EndQ D cA b s below (Re none n (ovF20 xo ξ β ρ 13 6 (ovR r i0 k0 t0 f0 ζ g w h) (xkf (β 2 kd &&& (ζ 0 ^^^ -1)) 20 0 ++ xkr (bkF 13 β (ζ 0) g) nq 0))) 0 0) n (ovF20 xo ξ β ρ 13 6 (ovR r i0 k0 t0 f0 ζ g w h) q) 0 0 57 [(4, .int (nI k)), (0, .ref xo), (1, .ref r), (2, .ref (xo + 20))] [] := by
    intro m9
    induction m9 with
    | zero =>
      intro k q hk hlen hv
      obtain rfl : nq = k := by omega
      refine j_iload C d_X_findWanting_57 rfl ?_
      refine j_aload_n C d_X_findWanting_59 rfl rfl ?_
      refine jx_get 0 C fl_0_48 d_X_findWanting_60 hn rfl rfl ?_
      refine jx_get 13 C fl_0_157 d_X_findWanting_63 hn rfl rfl ?_
      refine j_icmp_ge (tgt := 101) C d_X_findWanting_66 (by decide) (fun c66 => ?_) (fun c66 => ?_)
      · exact j_vreturn C d_X_findWanting_101 rfl (by decide) (by decide) ⟨rfl, rfl, by rw [← hv]; show _ = ovF20 xo ξ β ρ 13 6 _ (q ++ []); rw [List.append_nil]; rfl⟩
      · exact absurd (show ξ 7 ≤ nI nq by rw [hnq]; exact nI_le (Nat.le_refl _) (by omega)) c66
    | succ m9 ih =>
      intro k q hk hlen hv
      refine j_iload C d_X_findWanting_57 rfl ?_
      refine j_aload_n C d_X_findWanting_59 rfl rfl ?_
      refine jx_get 0 C fl_0_48 d_X_findWanting_60 hn rfl rfl ?_
      refine jx_get 13 C fl_0_157 d_X_findWanting_63 hn rfl rfl ?_
      refine j_icmp_ge (tgt := 101) C d_X_findWanting_66 (by decide) (fun c66 => ?_) (fun c66 => ?_)
      · exact absurd (show ξ 7 ≤ nI k from c66) (by rw [hnq]; exact nI_ge (by omega) (by omega))
      · obtain ⟨c1, l1, e1⟩ := hcn (2 * k) (by omega)
        obtain ⟨c2, l2, e2⟩ := hcn (2 * k + 1) (by omega)
        have eF : (bkF 13 β (ζ 0) g) k = xft (β 15 k) (ζ 0) (xsm (β 18) (β 17) (β 19) g c1 (8 * k) 0) (xsm (β 18) (β 17) (β 19) g c2 (8 * k + 4) 0) (β 14 k) := by
          unfold bkF
          rw [show β (13 + 3) (2 * k) = nI c1 from e1, show β (13 + 3) (2 * k + 1) = nI c2 from e2, nI_clamp (by omega), nI_clamp (by omega)]
        refine j_aload_n C d_X_findWanting_69 rfl rfl ?_
        refine jx_get 0 C fl_0_48 d_X_findWanting_70 hn rfl rfl ?_
        refine j_iload C d_X_findWanting_73 rfl ?_
        refine j_aload_n C d_X_findWanting_75 rfl rfl ?_
        refine j_callV C d_X_findWanting_76 ml_X_282 mc_RB_faultOf in_RB_faultOf rfl se_RB_faultOf (by omega) (ovX_c (o := 13) rfl) (c_RB_faultOf_13 hl h hn hr hrn k c1 c2 (by omega) (show β 16 (2 * k) = nI c1 from e1) l1 (show β 16 (2 * k + 1) = nI c2 from e2) l2) rfl rfl (Nat.le_of_ble_eq_true rfl) (Nat.le_of_ble_eq_true rfl) (Nat.le_of_ble_eq_true rfl) (Nat.le_of_ble_eq_true rfl) (jk_r ?_)
        refine j_h (h' := (ovF20 xo ξ β ρ 13 6 (ovR r i0 k0 t0 f0 ζ g w h) q)) rfl ?_
        rw [show xft ((upa (upa β 21 (wl (β 21) (q.map Prod.fst))) 22 (wl (β 22) (q.map Prod.snd))) 15 k) (ζ 0) (xsm ((upa (upa β 21 (wl (β 21) (q.map Prod.fst))) 22 (wl (β 22) (q.map Prod.snd))) 18) ((upa (upa β 21 (wl (β 21) (q.map Prod.fst))) 22 (wl (β 22) (q.map Prod.snd))) 17) ((upa (upa β 21 (wl (β 21) (q.map Prod.fst))) 22 (wl (β 22) (q.map Prod.snd))) 19) g c1 (8 * k) 0) (xsm ((upa (upa β 21 (wl (β 21) (q.map Prod.fst))) 22 (wl (β 22) (q.map Prod.snd))) 18) ((upa (upa β 21 (wl (β 21) (q.map Prod.fst))) 22 (wl (β 22) (q.map Prod.snd))) 17) ((upa (upa β 21 (wl (β 21) (q.map Prod.fst))) 22 (wl (β 22) (q.map Prod.snd))) 19) g c2 (8 * k + 4) 0) ((upa (upa β 21 (wl (β 21) (q.map Prod.fst))) 22 (wl (β 22) (q.map Prod.snd))) 14 k) = (bkF 13 β (ζ 0) g) k from eF.symm]
        refine j_istore C d_X_findWanting_79 (by decide) rfl ?_
        refine j_iload C d_X_findWanting_81 rfl ?_
        refine j_iconst (v := (-1)) C d_X_findWanting_83 (by decide) ?_
        refine j_icmp_eq (tgt := 95) C d_X_findWanting_84 (by decide) (fun c84 => ?_) (fun c84 => ?_)
        · refine j_iinc (v := nI (k + 1)) C d_X_findWanting_95 rfl (nI_inc k) (by decide) rfl ?_
          refine j_goto (tgt := 57) C d_X_findWanting_98 (by decide) ?_
          exact j_pick [0, 2, 3, 4] rfl (ih (k + 1) q (by omega) (by omega) (by rw [← hv]; show _ = q ++ ((if (bkF 13 β (ζ 0) g) k = -1 then [] else [((bkF 13 β (ζ 0) g) k, nI k)]) ++ _); rw [if_pos c84]; rfl))
        · refine j_aload_n C d_X_findWanting_87 rfl rfl ?_
          refine j_iload C d_X_findWanting_88 rfl ?_
          refine j_iload C d_X_findWanting_90 rfl ?_
          refine j_callV C d_X_findWanting_92 ml_X_279 mc_FN_add in_FN_add rfl se_FN_add (by omega) (ovF20_o _ _ _ _ _ _ _ _) (c_FN_add_20 hl _ hn _ (nI k) q (by omega)) rfl rfl (Nat.le_of_ble_eq_true rfl) (Nat.le_of_ble_eq_true rfl) (Nat.le_of_ble_eq_true rfl) (Nat.le_of_ble_eq_true rfl) (jk_v ?_)
          refine j_iinc (v := nI (k + 1)) C d_X_findWanting_95 rfl (nI_inc k) (by decide) rfl ?_
          refine j_goto (tgt := 57) C d_X_findWanting_98 (by decide) ?_
          exact j_pick [0, 2, 3, 4] rfl (ih (k + 1) (q ++ [((bkF 13 β (ζ 0) g) k, nI k)]) (by omega) (by rw [len_snoc]; omega) (by rw [← hv]; show _ = q ++ ((if (bkF 13 β (ζ 0) g) k = -1 then [] else [((bkF 13 β (ζ 0) g) k, nI k)]) ++ _); rw [if_neg c84]; simp))
  have loop1 : ∀ (m9 f : Nat) (q : List (Int32 × Int32)), f + m9 = 20 → q.length ≤ f → q ++ xkf (β 2 kd &&& (ζ 0 ^^^ -1)) m9 f ++ xkr (bkF 13 β (ζ 0) g) nq 0 = (xkf (β 2 kd &&& (ζ 0 ^^^ -1)) 20 0 ++ xkr (bkF 13 β (ζ 0) g) nq 0) → J p l e { frames := 3, cells := 0, slots := 0, locals := 49 } s m args below meth c D cA b 6 (EndQ D cA b s below (Re none n (ovF20 xo ξ β ρ 13 6 (ovR r i0 k0 t0 f0 ζ g w h) (xkf (β 2 kd &&& (ζ 0 ^^^ -1)) 20 0 ++ xkr (bkF 13 β (ζ 0) g) nq 0))) 0 0) n (ovF20 xo ξ β ρ 13 6 (ovR r i0 k0 t0 f0 ζ g w h) q) 0 0 25 [(4, .int (nI f)), (3, .int (β 2 kd &&& (ζ 0 ^^^ -1))), (0, .ref xo), (1, .ref r), (2, .ref (xo + 20))] [] := by
    intro m9
    induction m9 with
    | zero =>
      intro f q hf hlen hv
      obtain rfl : f = 20 := by omega
      have hv : q ++ xkr (bkF 13 β (ζ 0) g) nq 0 = (xkf (β 2 kd &&& (ζ 0 ^^^ -1)) 20 0 ++ xkr (bkF 13 β (ζ 0) g) nq 0) := by rw [← hv]; show _ = q ++ [] ++ _; rw [List.append_nil]
      refine j_iload C d_X_findWanting_25 rfl ?_
      refine j_bipush (v := 20) C d_X_findWanting_27 (by decide) ?_
      refine j_icmp_ge (tgt := 54) C d_X_findWanting_29 (by decide) (fun c29 => ?_) (fun c29 => ?_)
      · refine j_iconst (v := 0) C d_X_findWanting_54 (by decide) ?_
        refine j_istore C d_X_findWanting_55 (by decide) rfl ?_
        exact j_pick [0, 2, 3, 4] rfl (loop2 nq 0 q (by omega) (by omega) hv)
      · exact absurd (by decide) c29
    | succ m9 ih =>
      intro f q hf hlen hv
      refine j_iload C d_X_findWanting_25 rfl ?_
      refine j_bipush (v := 20) C d_X_findWanting_27 (by decide) ?_
      refine j_icmp_ge (tgt := 54) C d_X_findWanting_29 (by decide) (fun c29 => ?_) (fun c29 => ?_)
      · exact absurd (show nI 20 ≤ nI f from c29) (nI_ge (by omega) (by omega))
      · refine j_iload_n C d_X_findWanting_32 rfl rfl ?_
        refine j_iload C d_X_findWanting_33 rfl ?_
        refine j_callS C d_X_findWanting_35 ml_X_204 mc_X_has st_X_has (c_X_has hl _ _ _) rfl rfl (Nat.le_of_ble_eq_true rfl) (Nat.le_of_ble_eq_true rfl) (Nat.le_of_ble_eq_true rfl) (Nat.le_of_ble_eq_true rfl) (jk_r ?_)
        refine j_if_eq (tgt := 48) C d_X_findWanting_38 (by decide) (fun c38 => ?_) (fun c38 => ?_)
        · refine j_iinc (v := nI (f + 1)) C d_X_findWanting_48 rfl (nI_inc f) (by decide) rfl ?_
          refine j_goto (tgt := 25) C d_X_findWanting_51 (by decide) ?_
          exact j_pick [0, 1, 2, 3, 4] rfl (ih (f + 1) q (by omega) (by omega) (by rw [← hv]; show _ = q ++ ((if xhs (β 2 kd &&& (ζ 0 ^^^ -1)) (nI f) = 0 then [] else [(1, nI f)]) ++ _) ++ _; rw [if_pos c38]; rfl))
        · refine j_aload_n C d_X_findWanting_41 rfl rfl ?_
          refine j_iconst (v := 1) C d_X_findWanting_42 (by decide) ?_
          refine j_iload C d_X_findWanting_43 rfl ?_
          refine j_callV C d_X_findWanting_45 ml_X_279 mc_FN_add in_FN_add rfl se_FN_add (by omega) (ovF20_o _ _ _ _ _ _ _ _) (c_FN_add_20 hl _ hn 1 (nI f) q (by omega)) rfl rfl (Nat.le_of_ble_eq_true rfl) (Nat.le_of_ble_eq_true rfl) (Nat.le_of_ble_eq_true rfl) (Nat.le_of_ble_eq_true rfl) (jk_v ?_)
          refine j_iinc (v := nI (f + 1)) C d_X_findWanting_48 rfl (nI_inc f) (by decide) rfl ?_
          refine j_goto (tgt := 25) C d_X_findWanting_51 (by decide) ?_
          exact j_pick [0, 1, 2, 3, 4] rfl (ih (f + 1) (q ++ [(1, nI f)]) (by omega) (by rw [len_snoc]; omega) (by rw [← hv]; show _ = q ++ ((if xhs (β 2 kd &&& (ζ 0 ^^^ -1)) (nI f) = 0 then [] else [(1, nI f)]) ++ _) ++ _; rw [if_neg c38]; simp))
  refine j_aload_n C d_X_findWanting_0 rfl rfl ?_
  refine j_iconst (v := 0) C d_X_findWanting_1 (by decide) ?_
  refine jx_puti 20 8 C fp_0_164 d_X_findWanting_2 hn rfl (Nat.le_of_ble_eq_true rfl) rfl rfl rfl ?_
  refine j_h (h' := (ovF20 xo ξ β ρ 13 6 (ovR r i0 k0 t0 f0 ζ g w h) [])) (by unfold ovF20; rw [List.map_nil, List.map_nil, wl_nil, wl_nil, upa_self rfl, upa_self rfl]; rfl) ?_
  refine j_aload_n C d_X_findWanting_5 rfl rfl ?_
  refine jx_get 0 C fl_0_19 d_X_findWanting_6 hn rfl rfl ?_
  refine j_aload_n C d_X_findWanting_9 rfl rfl ?_
  refine jq_get C fl_0_195 d_X_findWanting_10 hr hrn rfl ?_
  refine jx_iald (w := β 2 kd) 2 C d_X_findWanting_13 hn rfl (by rw [hkd]; exact vp_in_nI (by omega) (by omega)) (by rw [hkd, nI_clamp (by omega)]; rfl) ?_
  refine j_aload_n C d_X_findWanting_14 rfl rfl ?_
  refine jq_get C fl_0_252 d_X_findWanting_15 hr hrn rfl ?_
  refine j_iconst (v := (-1)) C d_X_findWanting_18 (by decide) ?_
  refine j_ixor C d_X_findWanting_19 ?_
  refine j_iand C d_X_findWanting_20 ?_
  refine j_istore_n C d_X_findWanting_21 rfl (by decide) rfl ?_
  refine j_iconst (v := 0) C d_X_findWanting_22 (by decide) ?_
  refine j_istore C d_X_findWanting_23 (by decide) rfl ?_
  refine j_h (h' := (ovF20 xo ξ β ρ 13 6 (ovR r i0 k0 t0 f0 ζ g w h) [])) rfl ?_
  exact j_pick [0, 1, 2, 3, 4] rfl (loop1 20 0 [] rfl (by simp) rfl)

set_option maxHeartbeats 4000000 in
set_option maxRecDepth 100000 in
theorem c_X_findWanting_13_23 {l : Launch} (hl : l.stackTraces = false) {D : va_G} {cA : Nat → ClassId} {b n : Nat} {xo : Nat} {ξ : Nat → Int32} {β : Nat → Nat → Int32} {ρ : Nat → Option Nat} {r : Nat} {i0 k0 t0 f0 : Int32} {ζ : Nat → Int32} {g w : Nat → Int32} (h : AH) (hn : xo + 28 ≤ n) (hr : xo + 28 ≤ r) (hrn : r + 3 ≤ n) (kd nq : Nat) (hkd : k0 = nI kd) (hkl : kd < 5) (hnq : ξ 7 = nI nq) (hql : nq ≤ 20) (hcn : ∀ s, s < 2 * nq → ∃ c, c ≤ 4 ∧ β 16 s = nI c) : Cn l D cA b y_X_findWanting k_X_findWanting 3 49 0 0 [.ref xo, .ref r, .ref (xo + 23)] n (ovX xo ξ β ρ 13 6 (ovR r i0 k0 t0 f0 ζ g w h)) (Re none n (ovF23 xo ξ β ρ 13 6 (ovR r i0 k0 t0 f0 ζ g w h) (xkf (β 2 kd &&& (ζ 0 ^^^ -1)) 20 0 ++ xkr (bkF 13 β (ζ 0) g) nq 0))) := by
  refine Cn.of (cc := b_X_findWanting) (maxL := 6) (ret := none) (hh := []) (by decide +kernel) hl (Or.inl ⟨rfl, rfl⟩) (Nat.le_of_ble_eq_true rfl) ?_
  intro p e s m args below meth c C
  have loop2 : ∀ (m9 k : Nat) (q : List (Int32 × Int32)), k + m9 = nq → q.length ≤ 20 + k → q ++ xkr (bkF 13 β (ζ 0) g) m9 k = (xkf (β 2 kd &&& (ζ 0 ^^^ -1)) 20 0 ++ xkr (bkF 13 β (ζ 0) g) nq 0) → J p l e { frames := 3, cells := 0, slots := 0, locals := 49 } s m args below meth c D cA b 6 (EndQ D cA b s below (Re none n (ovF23 xo ξ β ρ 13 6 (ovR r i0 k0 t0 f0 ζ g w h) (xkf (β 2 kd &&& (ζ 0 ^^^ -1)) 20 0 ++ xkr (bkF 13 β (ζ 0) g) nq 0))) 0 0) n (ovF23 xo ξ β ρ 13 6 (ovR r i0 k0 t0 f0 ζ g w h) q) 0 0 57 [(4, .int (nI k)), (0, .ref xo), (1, .ref r), (2, .ref (xo + 23))] [] := by
    intro m9
    induction m9 with
    | zero =>
      intro k q hk hlen hv
      obtain rfl : nq = k := by omega
      refine j_iload C d_X_findWanting_57 rfl ?_
      refine j_aload_n C d_X_findWanting_59 rfl rfl ?_
      refine jx_get 0 C fl_0_48 d_X_findWanting_60 hn rfl rfl ?_
      refine jx_get 13 C fl_0_157 d_X_findWanting_63 hn rfl rfl ?_
      refine j_icmp_ge (tgt := 101) C d_X_findWanting_66 (by decide) (fun c66 => ?_) (fun c66 => ?_)
      · exact j_vreturn C d_X_findWanting_101 rfl (by decide) (by decide) ⟨rfl, rfl, by rw [← hv]; show _ = ovF23 xo ξ β ρ 13 6 _ (q ++ []); rw [List.append_nil]; rfl⟩
      · exact absurd (show ξ 7 ≤ nI nq by rw [hnq]; exact nI_le (Nat.le_refl _) (by omega)) c66
    | succ m9 ih =>
      intro k q hk hlen hv
      refine j_iload C d_X_findWanting_57 rfl ?_
      refine j_aload_n C d_X_findWanting_59 rfl rfl ?_
      refine jx_get 0 C fl_0_48 d_X_findWanting_60 hn rfl rfl ?_
      refine jx_get 13 C fl_0_157 d_X_findWanting_63 hn rfl rfl ?_
      refine j_icmp_ge (tgt := 101) C d_X_findWanting_66 (by decide) (fun c66 => ?_) (fun c66 => ?_)
      · exact absurd (show ξ 7 ≤ nI k from c66) (by rw [hnq]; exact nI_ge (by omega) (by omega))
      · obtain ⟨c1, l1, e1⟩ := hcn (2 * k) (by omega)
        obtain ⟨c2, l2, e2⟩ := hcn (2 * k + 1) (by omega)
        have eF : (bkF 13 β (ζ 0) g) k = xft (β 15 k) (ζ 0) (xsm (β 18) (β 17) (β 19) g c1 (8 * k) 0) (xsm (β 18) (β 17) (β 19) g c2 (8 * k + 4) 0) (β 14 k) := by
          unfold bkF
          rw [show β (13 + 3) (2 * k) = nI c1 from e1, show β (13 + 3) (2 * k + 1) = nI c2 from e2, nI_clamp (by omega), nI_clamp (by omega)]
        refine j_aload_n C d_X_findWanting_69 rfl rfl ?_
        refine jx_get 0 C fl_0_48 d_X_findWanting_70 hn rfl rfl ?_
        refine j_iload C d_X_findWanting_73 rfl ?_
        refine j_aload_n C d_X_findWanting_75 rfl rfl ?_
        refine j_callV C d_X_findWanting_76 ml_X_282 mc_RB_faultOf in_RB_faultOf rfl se_RB_faultOf (by omega) (ovX_c (o := 13) rfl) (c_RB_faultOf_13 hl h hn hr hrn k c1 c2 (by omega) (show β 16 (2 * k) = nI c1 from e1) l1 (show β 16 (2 * k + 1) = nI c2 from e2) l2) rfl rfl (Nat.le_of_ble_eq_true rfl) (Nat.le_of_ble_eq_true rfl) (Nat.le_of_ble_eq_true rfl) (Nat.le_of_ble_eq_true rfl) (jk_r ?_)
        refine j_h (h' := (ovF23 xo ξ β ρ 13 6 (ovR r i0 k0 t0 f0 ζ g w h) q)) rfl ?_
        rw [show xft ((upa (upa β 24 (wl (β 24) (q.map Prod.fst))) 25 (wl (β 25) (q.map Prod.snd))) 15 k) (ζ 0) (xsm ((upa (upa β 24 (wl (β 24) (q.map Prod.fst))) 25 (wl (β 25) (q.map Prod.snd))) 18) ((upa (upa β 24 (wl (β 24) (q.map Prod.fst))) 25 (wl (β 25) (q.map Prod.snd))) 17) ((upa (upa β 24 (wl (β 24) (q.map Prod.fst))) 25 (wl (β 25) (q.map Prod.snd))) 19) g c1 (8 * k) 0) (xsm ((upa (upa β 24 (wl (β 24) (q.map Prod.fst))) 25 (wl (β 25) (q.map Prod.snd))) 18) ((upa (upa β 24 (wl (β 24) (q.map Prod.fst))) 25 (wl (β 25) (q.map Prod.snd))) 17) ((upa (upa β 24 (wl (β 24) (q.map Prod.fst))) 25 (wl (β 25) (q.map Prod.snd))) 19) g c2 (8 * k + 4) 0) ((upa (upa β 24 (wl (β 24) (q.map Prod.fst))) 25 (wl (β 25) (q.map Prod.snd))) 14 k) = (bkF 13 β (ζ 0) g) k from eF.symm]
        refine j_istore C d_X_findWanting_79 (by decide) rfl ?_
        refine j_iload C d_X_findWanting_81 rfl ?_
        refine j_iconst (v := (-1)) C d_X_findWanting_83 (by decide) ?_
        refine j_icmp_eq (tgt := 95) C d_X_findWanting_84 (by decide) (fun c84 => ?_) (fun c84 => ?_)
        · refine j_iinc (v := nI (k + 1)) C d_X_findWanting_95 rfl (nI_inc k) (by decide) rfl ?_
          refine j_goto (tgt := 57) C d_X_findWanting_98 (by decide) ?_
          exact j_pick [0, 2, 3, 4] rfl (ih (k + 1) q (by omega) (by omega) (by rw [← hv]; show _ = q ++ ((if (bkF 13 β (ζ 0) g) k = -1 then [] else [((bkF 13 β (ζ 0) g) k, nI k)]) ++ _); rw [if_pos c84]; rfl))
        · refine j_aload_n C d_X_findWanting_87 rfl rfl ?_
          refine j_iload C d_X_findWanting_88 rfl ?_
          refine j_iload C d_X_findWanting_90 rfl ?_
          refine j_callV C d_X_findWanting_92 ml_X_279 mc_FN_add in_FN_add rfl se_FN_add (by omega) (ovF23_o _ _ _ _ _ _ _ _) (c_FN_add_23 hl _ hn _ (nI k) q (by omega)) rfl rfl (Nat.le_of_ble_eq_true rfl) (Nat.le_of_ble_eq_true rfl) (Nat.le_of_ble_eq_true rfl) (Nat.le_of_ble_eq_true rfl) (jk_v ?_)
          refine j_iinc (v := nI (k + 1)) C d_X_findWanting_95 rfl (nI_inc k) (by decide) rfl ?_
          refine j_goto (tgt := 57) C d_X_findWanting_98 (by decide) ?_
          exact j_pick [0, 2, 3, 4] rfl (ih (k + 1) (q ++ [((bkF 13 β (ζ 0) g) k, nI k)]) (by omega) (by rw [len_snoc]; omega) (by rw [← hv]; show _ = q ++ ((if (bkF 13 β (ζ 0) g) k = -1 then [] else [((bkF 13 β (ζ 0) g) k, nI k)]) ++ _); rw [if_neg c84]; simp))
  have loop1 : ∀ (m9 f : Nat) (q : List (Int32 × Int32)), f + m9 = 20 → q.length ≤ f → q ++ xkf (β 2 kd &&& (ζ 0 ^^^ -1)) m9 f ++ xkr (bkF 13 β (ζ 0) g) nq 0 = (xkf (β 2 kd &&& (ζ 0 ^^^ -1)) 20 0 ++ xkr (bkF 13 β (ζ 0) g) nq 0) → J p l e { frames := 3, cells := 0, slots := 0, locals := 49 } s m args below meth c D cA b 6 (EndQ D cA b s below (Re none n (ovF23 xo ξ β ρ 13 6 (ovR r i0 k0 t0 f0 ζ g w h) (xkf (β 2 kd &&& (ζ 0 ^^^ -1)) 20 0 ++ xkr (bkF 13 β (ζ 0) g) nq 0))) 0 0) n (ovF23 xo ξ β ρ 13 6 (ovR r i0 k0 t0 f0 ζ g w h) q) 0 0 25 [(4, .int (nI f)), (3, .int (β 2 kd &&& (ζ 0 ^^^ -1))), (0, .ref xo), (1, .ref r), (2, .ref (xo + 23))] [] := by
    intro m9
    induction m9 with
    | zero =>
      intro f q hf hlen hv
      obtain rfl : f = 20 := by omega
      have hv : q ++ xkr (bkF 13 β (ζ 0) g) nq 0 = (xkf (β 2 kd &&& (ζ 0 ^^^ -1)) 20 0 ++ xkr (bkF 13 β (ζ 0) g) nq 0) := by rw [← hv]; show _ = q ++ [] ++ _; rw [List.append_nil]
      refine j_iload C d_X_findWanting_25 rfl ?_
      refine j_bipush (v := 20) C d_X_findWanting_27 (by decide) ?_
      refine j_icmp_ge (tgt := 54) C d_X_findWanting_29 (by decide) (fun c29 => ?_) (fun c29 => ?_)
      · refine j_iconst (v := 0) C d_X_findWanting_54 (by decide) ?_
        refine j_istore C d_X_findWanting_55 (by decide) rfl ?_
        exact j_pick [0, 2, 3, 4] rfl (loop2 nq 0 q (by omega) (by omega) hv)
      · exact absurd (by decide) c29
    | succ m9 ih =>
      intro f q hf hlen hv
      refine j_iload C d_X_findWanting_25 rfl ?_
      refine j_bipush (v := 20) C d_X_findWanting_27 (by decide) ?_
      refine j_icmp_ge (tgt := 54) C d_X_findWanting_29 (by decide) (fun c29 => ?_) (fun c29 => ?_)
      · exact absurd (show nI 20 ≤ nI f from c29) (nI_ge (by omega) (by omega))
      · refine j_iload_n C d_X_findWanting_32 rfl rfl ?_
        refine j_iload C d_X_findWanting_33 rfl ?_
        refine j_callS C d_X_findWanting_35 ml_X_204 mc_X_has st_X_has (c_X_has hl _ _ _) rfl rfl (Nat.le_of_ble_eq_true rfl) (Nat.le_of_ble_eq_true rfl) (Nat.le_of_ble_eq_true rfl) (Nat.le_of_ble_eq_true rfl) (jk_r ?_)
        refine j_if_eq (tgt := 48) C d_X_findWanting_38 (by decide) (fun c38 => ?_) (fun c38 => ?_)
        · refine j_iinc (v := nI (f + 1)) C d_X_findWanting_48 rfl (nI_inc f) (by decide) rfl ?_
          refine j_goto (tgt := 25) C d_X_findWanting_51 (by decide) ?_
          exact j_pick [0, 1, 2, 3, 4] rfl (ih (f + 1) q (by omega) (by omega) (by rw [← hv]; show _ = q ++ ((if xhs (β 2 kd &&& (ζ 0 ^^^ -1)) (nI f) = 0 then [] else [(1, nI f)]) ++ _) ++ _; rw [if_pos c38]; rfl))
        · refine j_aload_n C d_X_findWanting_41 rfl rfl ?_
          refine j_iconst (v := 1) C d_X_findWanting_42 (by decide) ?_
          refine j_iload C d_X_findWanting_43 rfl ?_
          refine j_callV C d_X_findWanting_45 ml_X_279 mc_FN_add in_FN_add rfl se_FN_add (by omega) (ovF23_o _ _ _ _ _ _ _ _) (c_FN_add_23 hl _ hn 1 (nI f) q (by omega)) rfl rfl (Nat.le_of_ble_eq_true rfl) (Nat.le_of_ble_eq_true rfl) (Nat.le_of_ble_eq_true rfl) (Nat.le_of_ble_eq_true rfl) (jk_v ?_)
          refine j_iinc (v := nI (f + 1)) C d_X_findWanting_48 rfl (nI_inc f) (by decide) rfl ?_
          refine j_goto (tgt := 25) C d_X_findWanting_51 (by decide) ?_
          exact j_pick [0, 1, 2, 3, 4] rfl (ih (f + 1) (q ++ [(1, nI f)]) (by omega) (by rw [len_snoc]; omega) (by rw [← hv]; show _ = q ++ ((if xhs (β 2 kd &&& (ζ 0 ^^^ -1)) (nI f) = 0 then [] else [(1, nI f)]) ++ _) ++ _; rw [if_neg c38]; simp))
  refine j_aload_n C d_X_findWanting_0 rfl rfl ?_
  refine j_iconst (v := 0) C d_X_findWanting_1 (by decide) ?_
  refine jx_puti 23 9 C fp_0_164 d_X_findWanting_2 hn rfl (Nat.le_of_ble_eq_true rfl) rfl rfl rfl ?_
  refine j_h (h' := (ovF23 xo ξ β ρ 13 6 (ovR r i0 k0 t0 f0 ζ g w h) [])) (by unfold ovF23; rw [List.map_nil, List.map_nil, wl_nil, wl_nil, upa_self rfl, upa_self rfl]; rfl) ?_
  refine j_aload_n C d_X_findWanting_5 rfl rfl ?_
  refine jx_get 0 C fl_0_19 d_X_findWanting_6 hn rfl rfl ?_
  refine j_aload_n C d_X_findWanting_9 rfl rfl ?_
  refine jq_get C fl_0_195 d_X_findWanting_10 hr hrn rfl ?_
  refine jx_iald (w := β 2 kd) 2 C d_X_findWanting_13 hn rfl (by rw [hkd]; exact vp_in_nI (by omega) (by omega)) (by rw [hkd, nI_clamp (by omega)]; rfl) ?_
  refine j_aload_n C d_X_findWanting_14 rfl rfl ?_
  refine jq_get C fl_0_252 d_X_findWanting_15 hr hrn rfl ?_
  refine j_iconst (v := (-1)) C d_X_findWanting_18 (by decide) ?_
  refine j_ixor C d_X_findWanting_19 ?_
  refine j_iand C d_X_findWanting_20 ?_
  refine j_istore_n C d_X_findWanting_21 rfl (by decide) rfl ?_
  refine j_iconst (v := 0) C d_X_findWanting_22 (by decide) ?_
  refine j_istore C d_X_findWanting_23 (by decide) rfl ?_
  refine j_h (h' := (ovF23 xo ξ β ρ 13 6 (ovR r i0 k0 t0 f0 ζ g w h) [])) rfl ?_
  exact j_pick [0, 1, 2, 3, 4] rfl (loop1 20 0 [] rfl (by simp) rfl)

