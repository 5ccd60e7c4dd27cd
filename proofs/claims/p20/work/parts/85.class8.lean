/-! ===== the class: check, put, late, count: printed by program ===== -/
set_option maxHeartbeats 4000000 in
set_option maxRecDepth 100000 in
theorem c_X_check_6 {l : Launch} (hl : l.stackTraces = false) {D : va_G} {cA : Nat → ClassId} {b n : Nat} {xo : Nat} {ξ : Nat → Int32} {β : Nat → Nat → Int32} {ρ : Nat → Option Nat} {r : Nat} {i0 k0 t0 f0 : Int32} {ζ : Nat → Int32} {g w : Nat → Int32} (h : AH) (hr : xo + 28 ≤ r) (hrn : r + 3 ≤ n) (j : Nat) (hj : j < 30) (hj0 : nI j < ξ 0) (hρ : ρ j = some r) (kd nq : Nat) (hkd : k0 = nI kd) (hkl : kd < 5) (hnq : ξ 6 = nI nq) (hql : nq ≤ 20) (hcn : ∀ s, s < 2 * nq → ∃ c, c ≤ 4 ∧ β 9 s = nI c)  : Cn l D cA b y_X_check k_X_check 7 97 1 6 [.ref xo, .int (nI j)] n (ovX xo ξ β ρ 6 13 (ovR r i0 k0 t0 f0 ζ g w h)) (Re (some (.int (nI (xkf (β 2 kd &&& (ζ 0 ^^^ -1)) 20 0 ++ xkr (bkF 6 β (ζ 0) g) nq 0).length))) n (ovF20 xo ξ β ρ 6 13 (ovR r i0 k0 t0 f0 ζ g w h) (xkf (β 2 kd &&& (ζ 0 ^^^ -1)) 20 0 ++ xkr (bkF 6 β (ζ 0) g) nq 0))) := by
  refine Cn.of (cc := b_X_check) (maxL := 2) (ret := (some .int)) (hh := []) (by decide +kernel) hl (Or.inl ⟨rfl, rfl⟩) (Nat.le_of_ble_eq_true rfl) ?_
  intro p e s m args below meth c C
  have hn : xo + 28 ≤ n := by omega
  refine j_aload_n C d_X_check_0 rfl rfl ?_
  refine j_aload_n C d_X_check_1 rfl rfl ?_
  refine j_iload_n C d_X_check_2 rfl rfl ?_
  refine j_callV C d_X_check_3 ml_X_103 mc_X_known in_X_known rfl se_X_known (by omega) (ovX_c (o := 0) rfl) (c_X_known_0 hl _ hn j r hj hj0 hρ) rfl rfl (Nat.le_of_ble_eq_true rfl) (Nat.le_of_ble_eq_true rfl) (Nat.le_of_ble_eq_true rfl) (Nat.le_of_ble_eq_true rfl) (jk_r ?_)
  refine j_aload_n C d_X_check_6 rfl rfl ?_
  refine jx_get 0 C fl_0_61 d_X_check_7 hn rfl rfl ?_
  refine j_callV C d_X_check_10 ml_X_160 mc_X_findWanting in_X_findWanting rfl se_X_findWanting (by omega) (ovX_c (o := 0) rfl) (c_X_findWanting_6_20 hl h hn hr hrn kd nq hkd hkl hnq hql hcn) rfl rfl (Nat.le_of_ble_eq_true rfl) (Nat.le_of_ble_eq_true rfl) (Nat.le_of_ble_eq_true rfl) (Nat.le_of_ble_eq_true rfl) (jk_v ?_)
  refine j_aload_n C d_X_check_13 rfl rfl ?_
  refine jx_get 0 C fl_0_61 d_X_check_14 hn rfl rfl ?_
  refine jx_get 20 C fl_0_164 d_X_check_17 hn rfl rfl ?_
  exact j_ireturn C d_X_check_20 rfl (by decide) (by decide) ⟨rfl, rfl, rfl⟩

set_option maxHeartbeats 4000000 in
set_option maxRecDepth 100000 in
theorem c_X_put_a_6 {l : Launch} (hl : l.stackTraces = false) {D : va_G} {cA : Nat → ClassId} {b n : Nat} {xo : Nat} {ξ : Nat → Int32} {β : Nat → Nat → Int32} {ρ : Nat → Option Nat} {r : Nat} {i0 k0 t0 f0 : Int32} {ζ : Nat → Int32} {g w : Nat → Int32} (h : AH) (hr : xo + 28 ≤ r) (hrn : r + 3 ≤ n) (j : Nat) (hj : j < 30) (hj0 : nI j < ξ 0) (hρ : ρ j = some r) (kd nq : Nat) (hkd : k0 = nI kd) (hkl : kd < 5) (hnq : ξ 6 = nI nq) (hql : nq ≤ 20) (hcn : ∀ s, s < 2 * nq → ∃ c, c ≤ 4 ∧ β 9 s = nI c) (x : Int32) (hk : x < 0 ∨ ¬ x < 20) : Cn l D cA b y_X_put k_X_put 7 96 1 6 [.ref xo, .int (nI j), .int x] n (ovX xo ξ β ρ 6 13 (ovR r i0 k0 t0 f0 ζ g w h)) (Th 7 n (ovX xo ξ β ρ 6 13 (ovR r i0 k0 t0 f0 ζ g w h))) := by
  refine Cn.of (cc := b_X_put) (maxL := 4) (ret := (some .int)) (hh := []) (by decide +kernel) hl (Or.inl ⟨rfl, rfl⟩) (Nat.le_of_ble_eq_true rfl) ?_
  intro p e s m args below meth c C
  have hn : xo + 28 ≤ n := by omega
  refine j_aload_n C d_X_put_0 rfl rfl ?_
  refine j_iload_n C d_X_put_1 rfl rfl ?_
  refine j_callV C d_X_put_2 ml_X_103 mc_X_known in_X_known rfl se_X_known (by omega) (ovX_c (o := 0) rfl) (c_X_known_0 hl _ hn j r hj hj0 hρ) rfl rfl (Nat.le_of_ble_eq_true rfl) (Nat.le_of_ble_eq_true rfl) (Nat.le_of_ble_eq_true rfl) (Nat.le_of_ble_eq_true rfl) (jk_r ?_)
  refine j_astore_n C d_X_put_5 rfl (by decide) rfl ?_
  refine j_iload_n C d_X_put_6 rfl rfl ?_
  exact j_callS C d_X_put_7 ml_X_175 mc_X_requirePerson st_X_requirePerson (c_X_requirePerson_1 hl _ x hk) rfl rfl (Nat.le_of_ble_eq_true rfl) (Nat.le_of_ble_eq_true rfl) (Nat.le_of_ble_eq_true rfl) (Nat.le_of_ble_eq_true rfl) (jk_x C rfl (Nat.le_of_ble_eq_true rfl) (Nat.le_of_ble_eq_true rfl) ⟨rfl, rfl, rfl⟩)

set_option maxHeartbeats 4000000 in
set_option maxRecDepth 100000 in
theorem c_X_put_b_6 {l : Launch} (hl : l.stackTraces = false) {D : va_G} {cA : Nat → ClassId} {b n : Nat} {xo : Nat} {ξ : Nat → Int32} {β : Nat → Nat → Int32} {ρ : Nat → Option Nat} {r : Nat} {i0 k0 t0 f0 : Int32} {ζ : Nat → Int32} {g w : Nat → Int32} (h : AH) (hr : xo + 28 ≤ r) (hrn : r + 3 ≤ n) (j : Nat) (hj : j < 30) (hj0 : nI j < ξ 0) (hρ : ρ j = some r) (kd nq : Nat) (hkd : k0 = nI kd) (hkl : kd < 5) (hnq : ξ 6 = nI nq) (hql : nq ≤ 20) (hcn : ∀ s, s < 2 * nq → ∃ c, c ≤ 4 ∧ β 9 s = nI c) (x : Int32) (fa : ¬ x < 0) (fb : x < 20) (hw : 0 < (xkf (β 2 kd &&& (ζ 0 ^^^ -1)) 20 0 ++ xkr (bkF 6 β (ζ 0) g) nq 0).length) (hlen : (xkf (β 2 kd &&& (ζ 0 ^^^ -1)) 20 0 ++ xkr (bkF 6 β (ζ 0) g) nq 0).length ≤ 40) : Cn l D cA b y_X_put k_X_put 7 96 1 6 [.ref xo, .int (nI j), .int x] n (ovX xo ξ β ρ 6 13 (ovR r i0 k0 t0 f0 ζ g w h)) (Th 9 n (ovF23 xo ξ β ρ 6 13 (ovR r i0 k0 t0 f0 ζ g w h) (xkf (β 2 kd &&& (ζ 0 ^^^ -1)) 20 0 ++ xkr (bkF 6 β (ζ 0) g) nq 0))) := by
  refine Cn.of (cc := b_X_put) (maxL := 4) (ret := (some .int)) (hh := []) (by decide +kernel) hl (Or.inl ⟨rfl, rfl⟩) (Nat.le_of_ble_eq_true rfl) ?_
  intro p e s m args below meth c C
  have hn : xo + 28 ≤ n := by omega
  refine j_aload_n C d_X_put_0 rfl rfl ?_
  refine j_iload_n C d_X_put_1 rfl rfl ?_
  refine j_callV C d_X_put_2 ml_X_103 mc_X_known in_X_known rfl se_X_known (by omega) (ovX_c (o := 0) rfl) (c_X_known_0 hl _ hn j r hj hj0 hρ) rfl rfl (Nat.le_of_ble_eq_true rfl) (Nat.le_of_ble_eq_true rfl) (Nat.le_of_ble_eq_true rfl) (Nat.le_of_ble_eq_true rfl) (jk_r ?_)
  refine j_astore_n C d_X_put_5 rfl (by decide) rfl ?_
  refine j_iload_n C d_X_put_6 rfl rfl ?_
  refine j_callS C d_X_put_7 ml_X_175 mc_X_requirePerson st_X_requirePerson (c_X_requirePerson_0 hl _ x fa fb) rfl rfl (Nat.le_of_ble_eq_true rfl) (Nat.le_of_ble_eq_true rfl) (Nat.le_of_ble_eq_true rfl) (Nat.le_of_ble_eq_true rfl) (jk_v ?_)
  refine j_aload_n C d_X_put_10 rfl rfl ?_
  refine j_aload_n C d_X_put_11 rfl rfl ?_
  refine j_aload_n C d_X_put_12 rfl rfl ?_
  refine jx_get 0 C fl_0_65 d_X_put_13 hn rfl rfl ?_
  refine j_callV C d_X_put_16 ml_X_160 mc_X_findWanting in_X_findWanting rfl se_X_findWanting (by omega) (ovX_c (o := 0) rfl) (c_X_findWanting_6_23 hl h hn hr hrn kd nq hkd hkl hnq hql hcn) rfl rfl (Nat.le_of_ble_eq_true rfl) (Nat.le_of_ble_eq_true rfl) (Nat.le_of_ble_eq_true rfl) (Nat.le_of_ble_eq_true rfl) (jk_v ?_)
  refine j_aload_n C d_X_put_19 rfl rfl ?_
  refine jx_get 0 C fl_0_65 d_X_put_20 hn rfl rfl ?_
  refine jx_get 23 C fl_0_164 d_X_put_23 hn rfl rfl ?_
  refine j_if_gt (tgt := 37) C d_X_put_26 (by decide) (fun c26 => ?_) (fun c26 => ?_)
  · exact j_throwS (text := "the report can't be signed by that person") C th_9 (by decide +kernel) rfl d_X_put_37 d_X_put_40 d_X_put_41 d_X_put_43 d_X_put_46 (Nat.le_of_ble_eq_true rfl) (Nat.le_of_ble_eq_true rfl) (Nat.le_of_ble_eq_true rfl) (Nat.le_of_ble_eq_true rfl) (Nat.le_of_ble_eq_true rfl) (Nat.le_of_ble_eq_true rfl) ⟨rfl, rfl, rfl⟩
  · exact absurd (show nI 0 < nI (xkf (β 2 kd &&& (ζ 0 ^^^ -1)) 20 0 ++ xkr (bkF 6 β (ζ 0) g) nq 0).length from nI_lt hw (by omega)) c26

set_option maxHeartbeats 4000000 in
set_option maxRecDepth 100000 in
theorem c_X_put_c_6 {l : Launch} (hl : l.stackTraces = false) {D : va_G} {cA : Nat → ClassId} {b n : Nat} {xo : Nat} {ξ : Nat → Int32} {β : Nat → Nat → Int32} {ρ : Nat → Option Nat} {r : Nat} {i0 k0 t0 f0 : Int32} {ζ : Nat → Int32} {g w : Nat → Int32} (h : AH) (hr : xo + 28 ≤ r) (hrn : r + 3 ≤ n) (j : Nat) (hj : j < 30) (hj0 : nI j < ξ 0) (hρ : ρ j = some r) (kd nq : Nat) (hkd : k0 = nI kd) (hkl : kd < 5) (hnq : ξ 6 = nI nq) (hql : nq ≤ 20) (hcn : ∀ s, s < 2 * nq → ∃ c, c ≤ 4 ∧ β 9 s = nI c) (x : Int32) (fa : ¬ x < 0) (fb : x < 20) (c0 : Nat) (h4 : ζ 4 = nI c0) (hc : c0 ≤ 3) (hw : (xkf (β 2 kd &&& (ζ 0 ^^^ -1)) 20 0 ++ xkr (bkF 6 β (ζ 0) g) nq 0).length = 0) (hrd : rrd ζ w c0 x = 0) : Cn l D cA b y_X_put k_X_put 7 96 1 6 [.ref xo, .int (nI j), .int x] n (ovX xo ξ β ρ 6 13 (ovR r i0 k0 t0 f0 ζ g w h)) (Th 9 n (ovF23 xo ξ β ρ 6 13 (ovR r i0 k0 t0 f0 ζ g w h) (xkf (β 2 kd &&& (ζ 0 ^^^ -1)) 20 0 ++ xkr (bkF 6 β (ζ 0) g) nq 0))) := by
  refine Cn.of (cc := b_X_put) (maxL := 4) (ret := (some .int)) (hh := []) (by decide +kernel) hl (Or.inl ⟨rfl, rfl⟩) (Nat.le_of_ble_eq_true rfl) ?_
  intro p e s m args below meth c C
  have hn : xo + 28 ≤ n := by omega
  refine j_aload_n C d_X_put_0 rfl rfl ?_
  refine j_iload_n C d_X_put_1 rfl rfl ?_
  refine j_callV C d_X_put_2 ml_X_103 mc_X_known in_X_known rfl se_X_known (by omega) (ovX_c (o := 0) rfl) (c_X_known_0 hl _ hn j r hj hj0 hρ) rfl rfl (Nat.le_of_ble_eq_true rfl) (Nat.le_of_ble_eq_true rfl) (Nat.le_of_ble_eq_true rfl) (Nat.le_of_ble_eq_true rfl) (jk_r ?_)
  refine j_astore_n C d_X_put_5 rfl (by decide) rfl ?_
  refine j_iload_n C d_X_put_6 rfl rfl ?_
  refine j_callS C d_X_put_7 ml_X_175 mc_X_requirePerson st_X_requirePerson (c_X_requirePerson_0 hl _ x fa fb) rfl rfl (Nat.le_of_ble_eq_true rfl) (Nat.le_of_ble_eq_true rfl) (Nat.le_of_ble_eq_true rfl) (Nat.le_of_ble_eq_true rfl) (jk_v ?_)
  refine j_aload_n C d_X_put_10 rfl rfl ?_
  refine j_aload_n C d_X_put_11 rfl rfl ?_
  refine j_aload_n C d_X_put_12 rfl rfl ?_
  refine jx_get 0 C fl_0_65 d_X_put_13 hn rfl rfl ?_
  refine j_callV C d_X_put_16 ml_X_160 mc_X_findWanting in_X_findWanting rfl se_X_findWanting (by omega) (ovX_c (o := 0) rfl) (c_X_findWanting_6_23 hl h hn hr hrn kd nq hkd hkl hnq hql hcn) rfl rfl (Nat.le_of_ble_eq_true rfl) (Nat.le_of_ble_eq_true rfl) (Nat.le_of_ble_eq_true rfl) (Nat.le_of_ble_eq_true rfl) (jk_v ?_)
  refine j_aload_n C d_X_put_19 rfl rfl ?_
  refine jx_get 0 C fl_0_65 d_X_put_20 hn rfl rfl ?_
  refine jx_get 23 C fl_0_164 d_X_put_23 hn rfl rfl ?_
  refine j_if_gt (tgt := 37) C d_X_put_26 (by decide) (fun c26 => ?_) (fun c26 => ?_)
  · exact absurd (show (0 : Int32) < nI 0 by rw [← hw]; exact c26) (by decide)
  · refine j_h (h' := ovX xo (upd ξ 9 (nI (xkf (β 2 kd &&& (ζ 0 ^^^ -1)) 20 0 ++ xkr (bkF 6 β (ζ 0) g) nq 0).length)) (upa (upa β 24 (wl (β 24) ((xkf (β 2 kd &&& (ζ 0 ^^^ -1)) 20 0 ++ xkr (bkF 6 β (ζ 0) g) nq 0).map Prod.fst))) 25 (wl (β 25) ((xkf (β 2 kd &&& (ζ 0 ^^^ -1)) 20 0 ++ xkr (bkF 6 β (ζ 0) g) nq 0).map Prod.snd))) ρ 6 13 (ovR r i0 k0 t0 f0 ζ g w h)) rfl ?_
    refine j_aload_n C d_X_put_29 rfl rfl ?_
    refine j_iload_n C d_X_put_30 rfl rfl ?_
    refine j_h (ovX_R hr) ?_
    refine j_callV C d_X_put_31 ml_X_178 mc_RP_isReadyFor in_RP_isReadyFor rfl se_RP_isReadyFor (by omega) (ovR_o _ _ _ _ _ _ _ _ _) (c_RP_isReadyFor hl _ hrn x c0 h4 hc) rfl rfl (Nat.le_of_ble_eq_true rfl) (Nat.le_of_ble_eq_true rfl) (Nat.le_of_ble_eq_true rfl) (Nat.le_of_ble_eq_true rfl) (jk_r ?_)
    refine j_h (ovX_R hr).symm ?_
    refine j_if_ne (tgt := 47) C d_X_put_34 (by decide) (fun c34 => ?_) (fun c34 => ?_)
    · exact absurd hrd c34
    · exact j_throwS (text := "the report can't be signed by that person") C th_9 (by decide +kernel) rfl d_X_put_37 d_X_put_40 d_X_put_41 d_X_put_43 d_X_put_46 (Nat.le_of_ble_eq_true rfl) (Nat.le_of_ble_eq_true rfl) (Nat.le_of_ble_eq_true rfl) (Nat.le_of_ble_eq_true rfl) (Nat.le_of_ble_eq_true rfl) (Nat.le_of_ble_eq_true rfl) ⟨rfl, rfl, rfl⟩

set_option maxHeartbeats 4000000 in
set_option maxRecDepth 100000 in
theorem c_X_put_r_6 {l : Launch} (hl : l.stackTraces = false) {D : va_G} {cA : Nat → ClassId} {b n : Nat} {xo : Nat} {ξ : Nat → Int32} {β : Nat → Nat → Int32} {ρ : Nat → Option Nat} {r : Nat} {i0 k0 t0 f0 : Int32} {ζ : Nat → Int32} {g w : Nat → Int32} (h : AH) (hr : xo + 28 ≤ r) (hrn : r + 3 ≤ n) (j : Nat) (hj : j < 30) (hj0 : nI j < ξ 0) (hρ : ρ j = some r) (kd nq : Nat) (hkd : k0 = nI kd) (hkl : kd < 5) (hnq : ξ 6 = nI nq) (hql : nq ≤ 20) (hcn : ∀ s, s < 2 * nq → ∃ c, c ≤ 4 ∧ β 9 s = nI c) (x : Int32) (fa : ¬ x < 0) (fb : x < 20) (c0 : Nat) (h4 : ζ 4 = nI c0) (hc : c0 ≤ 3) (hw : (xkf (β 2 kd &&& (ζ 0 ^^^ -1)) 20 0 ++ xkr (bkF 6 β (ζ 0) g) nq 0).length = 0) (hrd : ¬ rrd ζ w c0 x = 0) (hc3 : c0 < 3) : Cn l D cA b y_X_put k_X_put 7 96 1 6 [.ref xo, .int (nI j), .int x] n (ovX xo ξ β ρ 6 13 (ovR r i0 k0 t0 f0 ζ g w h)) (Re (some (.int (nI (c0 + 1)))) n (ovF23 xo ξ β ρ 6 13 (ovR r i0 k0 t0 f0 (upd ζ 4 (nI (c0 + 1))) g (upd w c0 x) h) (xkf (β 2 kd &&& (ζ 0 ^^^ -1)) 20 0 ++ xkr (bkF 6 β (ζ 0) g) nq 0))) := by
  refine Cn.of (cc := b_X_put) (maxL := 4) (ret := (some .int)) (hh := []) (by decide +kernel) hl (Or.inl ⟨rfl, rfl⟩) (Nat.le_of_ble_eq_true rfl) ?_
  intro p e s m args below meth c C
  have hn : xo + 28 ≤ n := by omega
  refine j_aload_n C d_X_put_0 rfl rfl ?_
  refine j_iload_n C d_X_put_1 rfl rfl ?_
  refine j_callV C d_X_put_2 ml_X_103 mc_X_known in_X_known rfl se_X_known (by omega) (ovX_c (o := 0) rfl) (c_X_known_0 hl _ hn j r hj hj0 hρ) rfl rfl (Nat.le_of_ble_eq_true rfl) (Nat.le_of_ble_eq_true rfl) (Nat.le_of_ble_eq_true rfl) (Nat.le_of_ble_eq_true rfl) (jk_r ?_)
  refine j_astore_n C d_X_put_5 rfl (by decide) rfl ?_
  refine j_iload_n C d_X_put_6 rfl rfl ?_
  refine j_callS C d_X_put_7 ml_X_175 mc_X_requirePerson st_X_requirePerson (c_X_requirePerson_0 hl _ x fa fb) rfl rfl (Nat.le_of_ble_eq_true rfl) (Nat.le_of_ble_eq_true rfl) (Nat.le_of_ble_eq_true rfl) (Nat.le_of_ble_eq_true rfl) (jk_v ?_)
  refine j_aload_n C d_X_put_10 rfl rfl ?_
  refine j_aload_n C d_X_put_11 rfl rfl ?_
  refine j_aload_n C d_X_put_12 rfl rfl ?_
  refine jx_get 0 C fl_0_65 d_X_put_13 hn rfl rfl ?_
  refine j_callV C d_X_put_16 ml_X_160 mc_X_findWanting in_X_findWanting rfl se_X_findWanting (by omega) (ovX_c (o := 0) rfl) (c_X_findWanting_6_23 hl h hn hr hrn kd nq hkd hkl hnq hql hcn) rfl rfl (Nat.le_of_ble_eq_true rfl) (Nat.le_of_ble_eq_true rfl) (Nat.le_of_ble_eq_true rfl) (Nat.le_of_ble_eq_true rfl) (jk_v ?_)
  refine j_aload_n C d_X_put_19 rfl rfl ?_
  refine jx_get 0 C fl_0_65 d_X_put_20 hn rfl rfl ?_
  refine jx_get 23 C fl_0_164 d_X_put_23 hn rfl rfl ?_
  refine j_if_gt (tgt := 37) C d_X_put_26 (by decide) (fun c26 => ?_) (fun c26 => ?_)
  · exact absurd (show (0 : Int32) < nI 0 by rw [← hw]; exact c26) (by decide)
  · refine j_h (h' := ovX xo (upd ξ 9 (nI (xkf (β 2 kd &&& (ζ 0 ^^^ -1)) 20 0 ++ xkr (bkF 6 β (ζ 0) g) nq 0).length)) (upa (upa β 24 (wl (β 24) ((xkf (β 2 kd &&& (ζ 0 ^^^ -1)) 20 0 ++ xkr (bkF 6 β (ζ 0) g) nq 0).map Prod.fst))) 25 (wl (β 25) ((xkf (β 2 kd &&& (ζ 0 ^^^ -1)) 20 0 ++ xkr (bkF 6 β (ζ 0) g) nq 0).map Prod.snd))) ρ 6 13 (ovR r i0 k0 t0 f0 ζ g w h)) rfl ?_
    refine j_aload_n C d_X_put_29 rfl rfl ?_
    refine j_iload_n C d_X_put_30 rfl rfl ?_
    refine j_h (ovX_R hr) ?_
    refine j_callV C d_X_put_31 ml_X_178 mc_RP_isReadyFor in_RP_isReadyFor rfl se_RP_isReadyFor (by omega) (ovR_o _ _ _ _ _ _ _ _ _) (c_RP_isReadyFor hl _ hrn x c0 h4 hc) rfl rfl (Nat.le_of_ble_eq_true rfl) (Nat.le_of_ble_eq_true rfl) (Nat.le_of_ble_eq_true rfl) (Nat.le_of_ble_eq_true rfl) (jk_r ?_)
    refine j_h (ovX_R hr).symm ?_
    refine j_if_ne (tgt := 47) C d_X_put_34 (by decide) (fun c34 => ?_) (fun c34 => ?_)
    · refine j_aload_n C d_X_put_47 rfl rfl ?_
      refine j_iload_n C d_X_put_48 rfl rfl ?_
      refine j_h (ovX_R hr) ?_
      refine j_callV C d_X_put_49 ml_X_183 mc_RP_addSignature in_RP_addSignature rfl se_RP_addSignature (by omega) (ovR_o _ _ _ _ _ _ _ _ _) (c_RP_addSignature hl _ hrn x c0 h4 hc3) rfl rfl (Nat.le_of_ble_eq_true rfl) (Nat.le_of_ble_eq_true rfl) (Nat.le_of_ble_eq_true rfl) (Nat.le_of_ble_eq_true rfl) (jk_v ?_)
      refine j_h (ovX_R hr).symm ?_
      refine j_aload_n C d_X_put_52 rfl rfl ?_
      refine jq_get C fl_0_186 d_X_put_53 hr hrn rfl ?_
      exact j_ireturn C d_X_put_56 rfl (by decide) (by decide) ⟨rfl, rfl, rfl⟩
    · exact absurd c34 hrd

set_option maxHeartbeats 4000000 in
set_option maxRecDepth 100000 in
theorem c_X_check_13 {l : Launch} (hl : l.stackTraces = false) {D : va_G} {cA : Nat → ClassId} {b n : Nat} {xo : Nat} {ξ : Nat → Int32} {β : Nat → Nat → Int32} {ρ : Nat → Option Nat} {r : Nat} {i0 k0 t0 f0 : Int32} {ζ : Nat → Int32} {g w : Nat → Int32} (h : AH) (hr : xo + 28 ≤ r) (hrn : r + 3 ≤ n) (j : Nat) (hj : j < 30) (hj0 : nI j < ξ 0) (hρ : ρ j = some r) (kd nq : Nat) (hkd : k0 = nI kd) (hkl : kd < 5) (hnq : ξ 7 = nI nq) (hql : nq ≤ 20) (hcn : ∀ s, s < 2 * nq → ∃ c, c ≤ 4 ∧ β 16 s = nI c)  : Cn l D cA b y_X_check k_X_check 7 97 1 6 [.ref xo, .int (nI j)] n (ovX xo ξ β ρ 13 6 (ovR r i0 k0 t0 f0 ζ g w h)) (Re (some (.int (nI (xkf (β 2 kd &&& (ζ 0 ^^^ -1)) 20 0 ++ xkr (bkF 13 β (ζ 0) g) nq 0).length))) n (ovF20 xo ξ β ρ 13 6 (ovR r i0 k0 t0 f0 ζ g w h) (xkf (β 2 kd &&& (ζ 0 ^^^ -1)) 20 0 ++ xkr (bkF 13 β (ζ 0) g) nq 0))) := by
  refine Cn.of (cc := b_X_check) (maxL := 2) (ret := (some .int)) (hh := []) (by decide +kernel) hl (Or.inl ⟨rfl, rfl⟩) (Nat.le_of_ble_eq_true rfl) ?_
  intro p e s m args below meth c C
  have hn : xo + 28 ≤ n := by omega
  refine j_aload_n C d_X_check_0 rfl rfl ?_
  refine j_aload_n C d_X_check_1 rfl rfl ?_
  refine j_iload_n C d_X_check_2 rfl rfl ?_
  refine j_callV C d_X_check_3 ml_X_103 mc_X_known in_X_known rfl se_X_known (by omega) (ovX_c (o := 0) rfl) (c_X_known_0 hl _ hn j r hj hj0 hρ) rfl rfl (Nat.le_of_ble_eq_true rfl) (Nat.le_of_ble_eq_true rfl) (Nat.le_of_ble_eq_true rfl) (Nat.le_of_ble_eq_true rfl) (jk_r ?_)
  refine j_aload_n C d_X_check_6 rfl rfl ?_
  refine jx_get 0 C fl_0_61 d_X_check_7 hn rfl rfl ?_
  refine j_callV C d_X_check_10 ml_X_160 mc_X_findWanting in_X_findWanting rfl se_X_findWanting (by omega) (ovX_c (o := 0) rfl) (c_X_findWanting_13_20 hl h hn hr hrn kd nq hkd hkl hnq hql hcn) rfl rfl (Nat.le_of_ble_eq_true rfl) (Nat.le_of_ble_eq_true rfl) (Nat.le_of_ble_eq_true rfl) (Nat.le_of_ble_eq_true rfl) (jk_v ?_)
  refine j_aload_n C d_X_check_13 rfl rfl ?_
  refine jx_get 0 C fl_0_61 d_X_check_14 hn rfl rfl ?_
  refine jx_get 20 C fl_0_164 d_X_check_17 hn rfl rfl ?_
  exact j_ireturn C d_X_check_20 rfl (by decide) (by decide) ⟨rfl, rfl, rfl⟩

set_option maxHeartbeats 4000000 in
set_option maxRecDepth 100000 in
theorem c_X_put_a_13 {l : Launch} (hl : l.stackTraces = false) {D : va_G} {cA : Nat → ClassId} {b n : Nat} {xo : Nat} {ξ : Nat → Int32} {β : Nat → Nat → Int32} {ρ : Nat → Option Nat} {r : Nat} {i0 k0 t0 f0 : Int32} {ζ : Nat → Int32} {g w : Nat → Int32} (h : AH) (hr : xo + 28 ≤ r) (hrn : r + 3 ≤ n) (j : Nat) (hj : j < 30) (hj0 : nI j < ξ 0) (hρ : ρ j = some r) (kd nq : Nat) (hkd : k0 = nI kd) (hkl : kd < 5) (hnq : ξ 7 = nI nq) (hql : nq ≤ 20) (hcn : ∀ s, s < 2 * nq → ∃ c, c ≤ 4 ∧ β 16 s = nI c) (x : Int32) (hk : x < 0 ∨ ¬ x < 20) : Cn l D cA b y_X_put k_X_put 7 96 1 6 [.ref xo, .int (nI j), .int x] n (ovX xo ξ β ρ 13 6 (ovR r i0 k0 t0 f0 ζ g w h)) (Th 7 n (ovX xo ξ β ρ 13 6 (ovR r i0 k0 t0 f0 ζ g w h))) := by
  refine Cn.of (cc := b_X_put) (maxL := 4) (ret := (some .int)) (hh := []) (by decide +kernel) hl (Or.inl ⟨rfl, rfl⟩) (Nat.le_of_ble_eq_true rfl) ?_
  intro p e s m args below meth c C
  have hn : xo + 28 ≤ n := by omega
  refine j_aload_n C d_X_put_0 rfl rfl ?_
  refine j_iload_n C d_X_put_1 rfl rfl ?_
  refine j_callV C d_X_put_2 ml_X_103 mc_X_known in_X_known rfl se_X_known (by omega) (ovX_c (o := 0) rfl) (c_X_known_0 hl _ hn j r hj hj0 hρ) rfl rfl (Nat.le_of_ble_eq_true rfl) (Nat.le_of_ble_eq_true rfl) (Nat.le_of_ble_eq_true rfl) (Nat.le_of_ble_eq_true rfl) (jk_r ?_)
  refine j_astore_n C d_X_put_5 rfl (by decide) rfl ?_
  refine j_iload_n C d_X_put_6 rfl rfl ?_
  exact j_callS C d_X_put_7 ml_X_175 mc_X_requirePerson st_X_requirePerson (c_X_requirePerson_1 hl _ x hk) rfl rfl (Nat.le_of_ble_eq_true rfl) (Nat.le_of_ble_eq_true rfl) (Nat.le_of_ble_eq_true rfl) (Nat.le_of_ble_eq_true rfl) (jk_x C rfl (Nat.le_of_ble_eq_true rfl) (Nat.le_of_ble_eq_true rfl) ⟨rfl, rfl, rfl⟩)

set_option maxHeartbeats 4000000 in
set_option maxRecDepth 100000 in
theorem c_X_put_b_13 {l : Launch} (hl : l.stackTraces = false) {D : va_G} {cA : Nat → ClassId} {b n : Nat} {xo : Nat} {ξ : Nat → Int32} {β : Nat → Nat → Int32} {ρ : Nat → Option Nat} {r : Nat} {i0 k0 t0 f0 : Int32} {ζ : Nat → Int32} {g w : Nat → Int32} (h : AH) (hr : xo + 28 ≤ r) (hrn : r + 3 ≤ n) (j : Nat) (hj : j < 30) (hj0 : nI j < ξ 0) (hρ : ρ j = some r) (kd nq : Nat) (hkd : k0 = nI kd) (hkl : kd < 5) (hnq : ξ 7 = nI nq) (hql : nq ≤ 20) (hcn : ∀ s, s < 2 * nq → ∃ c, c ≤ 4 ∧ β 16 s = nI c) (x : Int32) (fa : ¬ x < 0) (fb : x < 20) (hw : 0 < (xkf (β 2 kd &&& (ζ 0 ^^^ -1)) 20 0 ++ xkr (bkF 13 β (ζ 0) g) nq 0).length) (hlen : (xkf (β 2 kd &&& (ζ 0 ^^^ -1)) 20 0 ++ xkr (bkF 13 β (ζ 0) g) nq 0).length ≤ 40) : Cn l D cA b y_X_put k_X_put 7 96 1 6 [.ref xo, .int (nI j), .int x] n (ovX xo ξ β ρ 13 6 (ovR r i0 k0 t0 f0 ζ g w h)) (Th 9 n (ovF23 xo ξ β ρ 13 6 (ovR r i0 k0 t0 f0 ζ g w h) (xkf (β 2 kd &&& (ζ 0 ^^^ -1)) 20 0 ++ xkr (bkF 13 β (ζ 0) g) nq 0))) := by
  refine Cn.of (cc := b_X_put) (maxL := 4) (ret := (some .int)) (hh := []) (by decide +kernel) hl (Or.inl ⟨rfl, rfl⟩) (Nat.le_of_ble_eq_true rfl) ?_
  intro p e s m args below meth c C
  have hn : xo + 28 ≤ n := by omega
  refine j_aload_n C d_X_put_0 rfl rfl ?_
  refine j_iload_n C d_X_put_1 rfl rfl ?_
  refine j_callV C d_X_put_2 ml_X_103 mc_X_known in_X_known rfl se_X_known (by omega) (ovX_c (o := 0) rfl) (c_X_known_0 hl _ hn j r hj hj0 hρ) rfl rfl (Nat.le_of_ble_eq_true rfl) (Nat.le_of_ble_eq_true rfl) (Nat.le_of_ble_eq_true rfl) (Nat.le_of_ble_eq_true rfl) (jk_r ?_)
  refine j_astore_n C d_X_put_5 rfl (by decide) rfl ?_
  refine j_iload_n C d_X_put_6 rfl rfl ?_
  refine j_callS C d_X_put_7 ml_X_175 mc_X_requirePerson st_X_requirePerson (c_X_requirePerson_0 hl _ x fa fb) rfl rfl (Nat.le_of_ble_eq_true rfl) (Nat.le_of_ble_eq_true rfl) (Nat.le_of_ble_eq_true rfl) (Nat.le_of_ble_eq_true rfl) (jk_v ?_)
  refine j_aload_n C d_X_put_10 rfl rfl ?_
  refine j_aload_n C d_X_put_11 rfl rfl ?_
  refine j_aload_n C d_X_put_12 rfl rfl ?_
  refine jx_get 0 C fl_0_65 d_X_put_13 hn rfl rfl ?_
  refine j_callV C d_X_put_16 ml_X_160 mc_X_findWanting in_X_findWanting rfl se_X_findWanting (by omega) (ovX_c (o := 0) rfl) (c_X_findWanting_13_23 hl h hn hr hrn kd nq hkd hkl hnq hql hcn) rfl rfl (Nat.le_of_ble_eq_true rfl) (Nat.le_of_ble_eq_true rfl) (Nat.le_of_ble_eq_true rfl) (Nat.le_of_ble_eq_true rfl) (jk_v ?_)
  refine j_aload_n C d_X_put_19 rfl rfl ?_
  refine jx_get 0 C fl_0_65 d_X_put_20 hn rfl rfl ?_
  refine jx_get 23 C fl_0_164 d_X_put_23 hn rfl rfl ?_
  refine j_if_gt (tgt := 37) C d_X_put_26 (by decide) (fun c26 => ?_) (fun c26 => ?_)
  · exact j_throwS (text := "the report can't be signed by that person") C th_9 (by decide +kernel) rfl d_X_put_37 d_X_put_40 d_X_put_41 d_X_put_43 d_X_put_46 (Nat.le_of_ble_eq_true rfl) (Nat.le_of_ble_eq_true rfl) (Nat.le_of_ble_eq_true rfl) (Nat.le_of_ble_eq_true rfl) (Nat.le_of_ble_eq_true rfl) (Nat.le_of_ble_eq_true rfl) ⟨rfl, rfl, rfl⟩
  · exact absurd (show nI 0 < nI (xkf (β 2 kd &&& (ζ 0 ^^^ -1)) 20 0 ++ xkr (bkF 13 β (ζ 0) g) nq 0).length from nI_lt hw (by omega)) c26

set_option maxHeartbeats 4000000 in
set_option maxRecDepth 100000 in
theorem c_X_put_c_13 {l : Launch} (hl : l.stackTraces = false) {D : va_G} {cA : Nat → ClassId} {b n : Nat} {xo : Nat} {ξ : Nat → Int32} {β : Nat → Nat → Int32} {ρ : Nat → Option Nat} {r : Nat} {i0 k0 t0 f0 : Int32} {ζ : Nat → Int32} {g w : Nat → Int32} (h : AH) (hr : xo + 28 ≤ r) (hrn : r + 3 ≤ n) (j : Nat) (hj : j < 30) (hj0 : nI j < ξ 0) (hρ : ρ j = some r) (kd nq : Nat) (hkd : k0 = nI kd) (hkl : kd < 5) (hnq : ξ 7 = nI nq) (hql : nq ≤ 20) (hcn : ∀ s, s < 2 * nq → ∃ c, c ≤ 4 ∧ β 16 s = nI c) (x : Int32) (fa : ¬ x < 0) (fb : x < 20) (c0 : Nat) (h4 : ζ 4 = nI c0) (hc : c0 ≤ 3) (hw : (xkf (β 2 kd &&& (ζ 0 ^^^ -1)) 20 0 ++ xkr (bkF 13 β (ζ 0) g) nq 0).length = 0) (hrd : rrd ζ w c0 x = 0) : Cn l D cA b y_X_put k_X_put 7 96 1 6 [.ref xo, .int (nI j), .int x] n (ovX xo ξ β ρ 13 6 (ovR r i0 k0 t0 f0 ζ g w h)) (Th 9 n (ovF23 xo ξ β ρ 13 6 (ovR r i0 k0 t0 f0 ζ g w h) (xkf (β 2 kd &&& (ζ 0 ^^^ -1)) 20 0 ++ xkr (bkF 13 β (ζ 0) g) nq 0))) := by
  refine Cn.of (cc := b_X_put) (maxL := 4) (ret := (some .int)) (hh := []) (by decide +kernel) hl (Or.inl ⟨rfl, rfl⟩) (Nat.le_of_ble_eq_true rfl) ?_
  intro p e s m args below meth c C
  have hn : xo + 28 ≤ n := by omega
  refine j_aload_n C d_X_put_0 rfl rfl ?_
  refine j_iload_n C d_X_put_1 rfl rfl ?_
  refine j_callV C d_X_put_2 ml_X_103 mc_X_known in_X_known rfl se_X_known (by omega) (ovX_c (o := 0) rfl) (c_X_known_0 hl _ hn j r hj hj0 hρ) rfl rfl (Nat.le_of_ble_eq_true rfl) (Nat.le_of_ble_eq_true rfl) (Nat.le_of_ble_eq_true rfl) (Nat.le_of_ble_eq_true rfl) (jk_r ?_)
  refine j_astore_n C d_X_put_5 rfl (by decide) rfl ?_
  refine j_iload_n C d_X_put_6 rfl rfl ?_
  refine j_callS C d_X_put_7 ml_X_175 mc_X_requirePerson st_X_requirePerson (c_X_requirePerson_0 hl _ x fa fb) rfl rfl (Nat.le_of_ble_eq_true rfl) (Nat.le_of_ble_eq_true rfl) (Nat.le_of_ble_eq_true rfl) (Nat.le_of_ble_eq_true rfl) (jk_v ?_)
  refine j_aload_n C d_X_put_10 rfl rfl ?_
  refine j_aload_n C d_X_put_11 rfl rfl ?_
  refine j_aload_n C d_X_put_12 rfl rfl ?_
  refine jx_get 0 C fl_0_65 d_X_put_13 hn rfl rfl ?_
  refine j_callV C d_X_put_16 ml_X_160 mc_X_findWanting in_X_findWanting rfl se_X_findWanting (by omega) (ovX_c (o := 0) rfl) (c_X_findWanting_13_23 hl h hn hr hrn kd nq hkd hkl hnq hql hcn) rfl rfl (Nat.le_of_ble_eq_true rfl) (Nat.le_of_ble_eq_true rfl) (Nat.le_of_ble_eq_true rfl) (Nat.le_of_ble_eq_true rfl) (jk_v ?_)
  refine j_aload_n C d_X_put_19 rfl rfl ?_
  refine jx_get 0 C fl_0_65 d_X_put_20 hn rfl rfl ?_
  refine jx_get 23 C fl_0_164 d_X_put_23 hn rfl rfl ?_
  refine j_if_gt (tgt := 37) C d_X_put_26 (by decide) (fun c26 => ?_) (fun c26 => ?_)
  · exact absurd (show (0 : Int32) < nI 0 by rw [← hw]; exact c26) (by decide)
  · refine j_h (h' := ovX xo (upd ξ 9 (nI (xkf (β 2 kd &&& (ζ 0 ^^^ -1)) 20 0 ++ xkr (bkF 13 β (ζ 0) g) nq 0).length)) (upa (upa β 24 (wl (β 24) ((xkf (β 2 kd &&& (ζ 0 ^^^ -1)) 20 0 ++ xkr (bkF 13 β (ζ 0) g) nq 0).map Prod.fst))) 25 (wl (β 25) ((xkf (β 2 kd &&& (ζ 0 ^^^ -1)) 20 0 ++ xkr (bkF 13 β (ζ 0) g) nq 0).map Prod.snd))) ρ 13 6 (ovR r i0 k0 t0 f0 ζ g w h)) rfl ?_
    refine j_aload_n C d_X_put_29 rfl rfl ?_
    refine j_iload_n C d_X_put_30 rfl rfl ?_
    refine j_h (ovX_R hr) ?_
    refine j_callV C d_X_put_31 ml_X_178 mc_RP_isReadyFor in_RP_isReadyFor rfl se_RP_isReadyFor (by omega) (ovR_o _ _ _ _ _ _ _ _ _) (c_RP_isReadyFor hl _ hrn x c0 h4 hc) rfl rfl (Nat.le_of_ble_eq_true rfl) (Nat.le_of_ble_eq_true rfl) (Nat.le_of_ble_eq_true rfl) (Nat.le_of_ble_eq_true rfl) (jk_r ?_)
    refine j_h (ovX_R hr).symm ?_
    refine j_if_ne (tgt := 47) C d_X_put_34 (by decide) (fun c34 => ?_) (fun c34 => ?_)
    · exact absurd hrd c34
    · exact j_throwS (text := "the report can't be signed by that person") C th_9 (by decide +kernel) rfl d_X_put_37 d_X_put_40 d_X_put_41 d_X_put_43 d_X_put_46 (Nat.le_of_ble_eq_true rfl) (Nat.le_of_ble_eq_true rfl) (Nat.le_of_ble_eq_true rfl) (Nat.le_of_ble_eq_true rfl) (Nat.le_of_ble_eq_true rfl) (Nat.le_of_ble_eq_true rfl) ⟨rfl, rfl, rfl⟩

set_option maxHeartbeats 4000000 in
set_option maxRecDepth 100000 in
theorem c_X_put_r_13 {l : Launch} (hl : l.stackTraces = false) {D : va_G} {cA : Nat → ClassId} {b n : Nat} {xo : Nat} {ξ : Nat → Int32} {β : Nat → Nat → Int32} {ρ : Nat → Option Nat} {r : Nat} {i0 k0 t0 f0 : Int32} {ζ : Nat → Int32} {g w : Nat → Int32} (h : AH) (hr : xo + 28 ≤ r) (hrn : r + 3 ≤ n) (j : Nat) (hj : j < 30) (hj0 : nI j < ξ 0) (hρ : ρ j = some r) (kd nq : Nat) (hkd : k0 = nI kd) (hkl : kd < 5) (hnq : ξ 7 = nI nq) (hql : nq ≤ 20) (hcn : ∀ s, s < 2 * nq → ∃ c, c ≤ 4 ∧ β 16 s = nI c) (x : Int32) (fa : ¬ x < 0) (fb : x < 20) (c0 : Nat) (h4 : ζ 4 = nI c0) (hc : c0 ≤ 3) (hw : (xkf (β 2 kd &&& (ζ 0 ^^^ -1)) 20 0 ++ xkr (bkF 13 β (ζ 0) g) nq 0).length = 0) (hrd : ¬ rrd ζ w c0 x = 0) (hc3 : c0 < 3) : Cn l D cA b y_X_put k_X_put 7 96 1 6 [.ref xo, .int (nI j), .int x] n (ovX xo ξ β ρ 13 6 (ovR r i0 k0 t0 f0 ζ g w h)) (Re (some (.int (nI (c0 + 1)))) n (ovF23 xo ξ β ρ 13 6 (ovR r i0 k0 t0 f0 (upd ζ 4 (nI (c0 + 1))) g (upd w c0 x) h) (xkf (β 2 kd &&& (ζ 0 ^^^ -1)) 20 0 ++ xkr (bkF 13 β (ζ 0) g) nq 0))) := by
  refine Cn.of (cc := b_X_put) (maxL := 4) (ret := (some .int)) (hh := []) (by decide +kernel) hl (Or.inl ⟨rfl, rfl⟩) (Nat.le_of_ble_eq_true rfl) ?_
  intro p e s m args below meth c C
  have hn : xo + 28 ≤ n := by omega
  refine j_aload_n C d_X_put_0 rfl rfl ?_
  refine j_iload_n C d_X_put_1 rfl rfl ?_
  refine j_callV C d_X_put_2 ml_X_103 mc_X_known in_X_known rfl se_X_known (by omega) (ovX_c (o := 0) rfl) (c_X_known_0 hl _ hn j r hj hj0 hρ) rfl rfl (Nat.le_of_ble_eq_true rfl) (Nat.le_of_ble_eq_true rfl) (Nat.le_of_ble_eq_true rfl) (Nat.le_of_ble_eq_true rfl) (jk_r ?_)
  refine j_astore_n C d_X_put_5 rfl (by decide) rfl ?_
  refine j_iload_n C d_X_put_6 rfl rfl ?_
  refine j_callS C d_X_put_7 ml_X_175 mc_X_requirePerson st_X_requirePerson (c_X_requirePerson_0 hl _ x fa fb) rfl rfl (Nat.le_of_ble_eq_true rfl) (Nat.le_of_ble_eq_true rfl) (Nat.le_of_ble_eq_true rfl) (Nat.le_of_ble_eq_true rfl) (jk_v ?_)
  refine j_aload_n C d_X_put_10 rfl rfl ?_
  refine j_aload_n C d_X_put_11 rfl rfl ?_
  refine j_aload_n C d_X_put_12 rfl rfl ?_
  refine jx_get 0 C fl_0_65 d_X_put_13 hn rfl rfl ?_
  refine j_callV C d_X_put_16 ml_X_160 mc_X_findWanting in_X_findWanting rfl se_X_findWanting (by omega) (ovX_c (o := 0) rfl) (c_X_findWanting_13_23 hl h hn hr hrn kd nq hkd hkl hnq hql hcn) rfl rfl (Nat.le_of_ble_eq_true rfl) (Nat.le_of_ble_eq_true rfl) (Nat.le_of_ble_eq_true rfl) (Nat.le_of_ble_eq_true rfl) (jk_v ?_)
  refine j_aload_n C d_X_put_19 rfl rfl ?_
  refine jx_get 0 C fl_0_65 d_X_put_20 hn rfl rfl ?_
  refine jx_get 23 C fl_0_164 d_X_put_23 hn rfl rfl ?_
  refine j_if_gt (tgt := 37) C d_X_put_26 (by decide) (fun c26 => ?_) (fun c26 => ?_)
  · exact absurd (show (0 : Int32) < nI 0 by rw [← hw]; exact c26) (by decide)
  · refine j_h (h' := ovX xo (upd ξ 9 (nI (xkf (β 2 kd &&& (ζ 0 ^^^ -1)) 20 0 ++ xkr (bkF 13 β (ζ 0) g) nq 0).length)) (upa (upa β 24 (wl (β 24) ((xkf (β 2 kd &&& (ζ 0 ^^^ -1)) 20 0 ++ xkr (bkF 13 β (ζ 0) g) nq 0).map Prod.fst))) 25 (wl (β 25) ((xkf (β 2 kd &&& (ζ 0 ^^^ -1)) 20 0 ++ xkr (bkF 13 β (ζ 0) g) nq 0).map Prod.snd))) ρ 13 6 (ovR r i0 k0 t0 f0 ζ g w h)) rfl ?_
    refine j_aload_n C d_X_put_29 rfl rfl ?_
    refine j_iload_n C d_X_put_30 rfl rfl ?_
    refine j_h (ovX_R hr) ?_
    refine j_callV C d_X_put_31 ml_X_178 mc_RP_isReadyFor in_RP_isReadyFor rfl se_RP_isReadyFor (by omega) (ovR_o _ _ _ _ _ _ _ _ _) (c_RP_isReadyFor hl _ hrn x c0 h4 hc) rfl rfl (Nat.le_of_ble_eq_true rfl) (Nat.le_of_ble_eq_true rfl) (Nat.le_of_ble_eq_true rfl) (Nat.le_of_ble_eq_true rfl) (jk_r ?_)
    refine j_h (ovX_R hr).symm ?_
    refine j_if_ne (tgt := 47) C d_X_put_34 (by decide) (fun c34 => ?_) (fun c34 => ?_)
    · refine j_aload_n C d_X_put_47 rfl rfl ?_
      refine j_iload_n C d_X_put_48 rfl rfl ?_
      refine j_h (ovX_R hr) ?_
      refine j_callV C d_X_put_49 ml_X_183 mc_RP_addSignature in_RP_addSignature rfl se_RP_addSignature (by omega) (ovR_o _ _ _ _ _ _ _ _ _) (c_RP_addSignature hl _ hrn x c0 h4 hc3) rfl rfl (Nat.le_of_ble_eq_true rfl) (Nat.le_of_ble_eq_true rfl) (Nat.le_of_ble_eq_true rfl) (Nat.le_of_ble_eq_true rfl) (jk_v ?_)
      refine j_h (ovX_R hr).symm ?_
      refine j_aload_n C d_X_put_52 rfl rfl ?_
      refine jq_get C fl_0_186 d_X_put_53 hr hrn rfl ?_
      exact j_ireturn C d_X_put_56 rfl (by decide) (by decide) ⟨rfl, rfl, rfl⟩
    · exact absurd c34 hrd

def Rps (xo n : Nat) (ρ : Nat → Option Nat) (h : AH) (nr : Nat) (cs : Nat → Nat) (I K T F : Nat → Int32) (Z G W : Nat → Nat → Int32) : Prop := ∀ j, j < nr → ρ j = some (cs j) ∧ xo + 28 ≤ cs j ∧ cs j + 3 ≤ n ∧ ovR (cs j) (I j) (K j) (T j) (F j) (Z j) (G j) (W j) h = h
def xlt (T : Nat → Int32) (Z : Nat → Nat → Int32) (now mi i : Int32) : Nat → Nat → Int32 → Int32
  | 0, _, _ => -1
  | k + 1, j, bf => if rla (Z j) (T j) now mi = 0 then xlt T Z now mi i k (j + 1) bf else if bf = i then nI j else xlt T Z now mi i k (j + 1) (bf + 1)
def xcn (Z G : Nat → Nat → Int32) (f lo hi : Int32) : Nat → Nat → Int32 → Int32
  | 0, _, c => c
  | k + 1, j, c => xcn Z G f lo hi k (j + 1) (if rse (Z j) = 0 then c else if rbt (Z j) (G j) f lo hi = 0 then c else c + 1)
set_option maxHeartbeats 4000000 in
set_option maxRecDepth 100000 in
theorem c_X_late_r {l : Launch} (hl : l.stackTraces = false) {D : va_G} {cA : Nat → ClassId} {b n : Nat} {xo : Nat} {ξ : Nat → Int32} {β : Nat → Nat → Int32} {ρ : Nat → Option Nat} {u v : Nat} {nr : Nat} {cs : Nat → Nat} {I K T F : Nat → Int32} {Z G W : Nat → Nat → Int32} (h : AH) (hn : xo + 28 ≤ n) (hnr : ξ 0 = nI nr) (hle : nr ≤ 30) (hR : Rps xo n ρ h nr cs I K T F Z G W) (mi i : Int32) (h0 : ¬ mi < 0) (h1 : ¬ 99999 < mi) (h2 : 0 ≤ i) : Cn l D cA b y_X_late k_X_late 6 82 1 6 [.ref xo, .int mi, .int i] n (ovX xo ξ β ρ u v h) (Re (some (.int (xlt T Z (ξ 1) mi i nr 0 0))) n (ovX xo ξ β ρ u v h)) := by
  refine Cn.of (cc := b_X_late) (maxL := 6) (ret := (some .int)) (hh := []) (by decide +kernel) hl (Or.inl ⟨rfl, rfl⟩) (Nat.le_of_ble_eq_true rfl) ?_
  intro p e s m args below meth c C
  have loop : ∀ (m9 j : Nat) (bf : Int32), j + m9 = nr → xlt T Z (ξ 1) mi i m9 j bf = xlt T Z (ξ 1) mi i nr 0 0 → J p l e { frames := 6, cells := 1, slots := 6, locals := 82 } s m args below meth c D cA b 6 (EndQ D cA b s below (Re (some (.int (xlt T Z (ξ 1) mi i nr 0 0))) n (ovX xo ξ β ρ u v h)) 1 6) n (ovX xo ξ β ρ u v h) 0 0 29 [(4, .int (nI j)), (3, .int bf), (0, .ref xo), (1, .int mi), (2, .int i)] [] := by
    intro m9
    induction m9 with
    | zero =>
      intro j bf hj hv
      obtain rfl : nr = j := by omega
      refine j_iload C d_X_late_29 rfl ?_
      refine j_aload_n C d_X_late_31 rfl rfl ?_
      refine jx_get 0 C fl_0_15 d_X_late_32 hn rfl rfl ?_
      refine j_icmp_ge (tgt := 82) C d_X_late_35 (by decide) (fun c35 => ?_) (fun c35 => ?_)
      · refine j_iconst (v := (-1)) C d_X_late_82 (by decide) ?_
        exact j_ireturn C d_X_late_83 rfl (by decide) (by decide) ⟨by rw [← hv]; rfl, rfl, rfl⟩
      · exact absurd (show ξ 0 ≤ nI nr by rw [hnr]; exact nI_le (Nat.le_refl _) (by omega)) c35
    | succ m9 ih =>
      intro j bf hj hv
      refine j_iload C d_X_late_29 rfl ?_
      refine j_aload_n C d_X_late_31 rfl rfl ?_
      refine jx_get 0 C fl_0_15 d_X_late_32 hn rfl rfl ?_
      refine j_icmp_ge (tgt := 82) C d_X_late_35 (by decide) (fun c35 => ?_) (fun c35 => ?_)
      · exact absurd (show ξ 0 ≤ nI j from c35) (by rw [hnr]; exact nI_ge (by omega) (by omega))
      · refine j_aload_n C d_X_late_38 rfl rfl ?_
        refine jx_get 0 C fl_0_11 d_X_late_39 hn rfl rfl ?_
        refine j_iload C d_X_late_42 rfl ?_
        obtain ⟨hρ, hr, hrn, hS⟩ := hR j (by omega)
        refine jx_aald (w := .ref (cs j)) C d_X_late_44 hn (vp_in_nI (by omega) (by omega)) (by rw [nI_clamp (by omega), hρ]; rfl) ?_
        refine j_astore C d_X_late_45 (by decide) rfl ?_
        refine j_aload C d_X_late_47 rfl ?_
        refine j_ifnull C d_X_late_49 ?_
        refine j_aload C d_X_late_52 rfl ?_
        refine j_aload_n C d_X_late_54 rfl rfl ?_
        refine jx_get 0 C fl_0_26 d_X_late_55 hn rfl rfl ?_
        refine j_iload_n C d_X_late_58 rfl rfl ?_
        refine j_h (h' := ovR (cs j) (I j) (K j) (T j) (F j) (Z j) (G j) (W j) (ovX xo ξ β ρ u v h)) (by rw [← ovX_R (by omega), hS]) ?_
        refine j_callV C d_X_late_59 ml_X_223 mc_RP_isLate in_RP_isLate rfl se_RP_isLate (by omega) (ovR_o _ _ _ _ _ _ _ _ _) (c_RP_isLate hl _ hrn _ _) rfl rfl (Nat.le_of_ble_eq_true rfl) (Nat.le_of_ble_eq_true rfl) (Nat.le_of_ble_eq_true rfl) (Nat.le_of_ble_eq_true rfl) (jk_r ?_)
        refine j_h (h' := ovX xo ξ β ρ u v h) (by rw [← ovX_R (by omega), hS]) ?_
        refine j_if_eq (tgt := 76) C d_X_late_62 (by decide) (fun c62 => ?_) (fun c62 => ?_)
        · refine j_iinc (v := nI (j + 1)) C d_X_late_76 rfl (nI_inc j) (by decide) rfl ?_
          refine j_goto (tgt := 29) C d_X_late_79 (by decide) ?_
          exact j_pick [0, 2, 3, 4, 5] rfl (ih (j + 1) bf (by omega) (by rw [← hv]; show _ = (if rla (Z j) (T j) (ξ 1) mi = 0 then xlt T Z (ξ 1) mi i m9 (j + 1) bf else if bf = i then nI j else xlt T Z (ξ 1) mi i m9 (j + 1) (bf + 1)); rw [if_pos c62]))
        · refine j_iload_n C d_X_late_65 rfl rfl ?_
          refine j_iload_n C d_X_late_66 rfl rfl ?_
          refine j_icmp_ne (tgt := 73) C d_X_late_67 (by decide) (fun c67 => ?_) (fun c67 => ?_)
          · refine j_iinc (v := bf + 1) C d_X_late_73 rfl rfl (by decide) rfl ?_
            refine j_iinc (v := nI (j + 1)) C d_X_late_76 rfl (nI_inc j) (by decide) rfl ?_
            refine j_goto (tgt := 29) C d_X_late_79 (by decide) ?_
            exact j_pick [0, 1, 3, 4, 5] rfl (ih (j + 1) (bf + 1) (by omega) (by rw [← hv]; show _ = (if rla (Z j) (T j) (ξ 1) mi = 0 then xlt T Z (ξ 1) mi i m9 (j + 1) bf else if bf = i then nI j else xlt T Z (ξ 1) mi i m9 (j + 1) (bf + 1)); rw [if_neg c62, if_neg c67]))
          · refine j_iload C d_X_late_70 rfl ?_
            exact j_ireturn C d_X_late_72 rfl (by decide) (by decide) ⟨by rw [← hv]; congr 3; symm; show (if rla (Z j) (T j) (ξ 1) mi = 0 then xlt T Z (ξ 1) mi i m9 (j + 1) bf else if bf = i then nI j else xlt T Z (ξ 1) mi i m9 (j + 1) (bf + 1)) = nI j; rw [if_neg c62, if_pos c67], rfl, rfl⟩
  refine j_iload_n C d_X_late_0 rfl rfl ?_
  refine j_if_lt (tgt := 14) C d_X_late_1 (by decide) (fun c1 => ?_) (fun c1 => ?_)
  · exact absurd c1 h0
  · refine j_iload_n C d_X_late_4 rfl rfl ?_
    refine j_ldc (v := 99999) C d_X_late_5 lc_X_108 ?_
    refine j_icmp_gt (tgt := 14) C d_X_late_7 (by decide) (fun c7 => ?_) (fun c7 => ?_)
    · exact absurd c7 h1
    · refine j_iload_n C d_X_late_10 rfl rfl ?_
      refine j_if_ge (tgt := 24) C d_X_late_11 (by decide) (fun c11 => ?_) (fun c11 => ?_)
      · refine j_iconst (v := 0) C d_X_late_24 (by decide) ?_
        refine j_istore_n C d_X_late_25 rfl (by decide) rfl ?_
        refine j_iconst (v := 0) C d_X_late_26 (by decide) ?_
        refine j_istore C d_X_late_27 (by decide) rfl ?_
        exact j_pick [0, 1, 2, 3, 4] rfl (loop nr 0 0 (by omega) rfl)
      · exact absurd h2 c11

set_option maxHeartbeats 4000000 in
set_option maxRecDepth 100000 in
theorem c_X_count_r {l : Launch} (hl : l.stackTraces = false) {D : va_G} {cA : Nat → ClassId} {b n : Nat} {xo : Nat} {ξ : Nat → Int32} {β : Nat → Nat → Int32} {ρ : Nat → Option Nat} {u v : Nat} {nr : Nat} {cs : Nat → Nat} {I K T F : Nat → Int32} {Z G W : Nat → Nat → Int32} (h : AH) (hn : xo + 28 ≤ n) (hnr : ξ 0 = nI nr) (hle : nr ≤ 30) (hR : Rps xo n ρ h nr cs I K T F Z G W) (f lo hi : Int32) (fa : ¬ f < 0) (fb : f < 20) (hk : lo ≤ hi) (hi0 : vp_in f 20) : Cn l D cA b y_X_count k_X_count 7 94 1 6 [.ref xo, .int f, .int lo, .int hi] n (ovX xo ξ β ρ u v h) (Re (some (.int (xcn Z G f lo hi nr 0 0))) n (ovX xo ξ β ρ u v h)) := by
  refine Cn.of (cc := b_X_count) (maxL := 7) (ret := (some .int)) (hh := []) (by decide +kernel) hl (Or.inl ⟨rfl, rfl⟩) (Nat.le_of_ble_eq_true rfl) ?_
  intro p e s m args below meth c C
  have loop : ∀ (m9 j : Nat) (c0 : Int32), j + m9 = nr → xcn Z G f lo hi m9 j c0 = xcn Z G f lo hi nr 0 0 → J p l e { frames := 7, cells := 1, slots := 6, locals := 94 } s m args below meth c D cA b 7 (EndQ D cA b s below (Re (some (.int (xcn Z G f lo hi nr 0 0))) n (ovX xo ξ β ρ u v h)) 1 6) n (ovX xo ξ β ρ u v h) 0 0 25 [(5, .int (nI j)), (4, .int c0), (0, .ref xo), (1, .int f), (2, .int lo), (3, .int hi)] [] := by
    intro m9
    induction m9 with
    | zero =>
      intro j c0 hj hv
      obtain rfl : nr = j := by omega
      refine j_iload C d_X_count_25 rfl ?_
      refine j_aload_n C d_X_count_27 rfl rfl ?_
      refine jx_get 0 C fl_0_15 d_X_count_28 hn rfl rfl ?_
      refine j_icmp_ge (tgt := 76) C d_X_count_31 (by decide) (fun c31 => ?_) (fun c31 => ?_)
      · refine j_iload C d_X_count_76 rfl ?_
        exact j_ireturn C d_X_count_78 rfl (by decide) (by decide) ⟨by rw [← hv]; rfl, rfl, rfl⟩
      · exact absurd (show ξ 0 ≤ nI nr by rw [hnr]; exact nI_le (Nat.le_refl _) (by omega)) c31
    | succ m9 ih =>
      intro j c0 hj hv
      refine j_iload C d_X_count_25 rfl ?_
      refine j_aload_n C d_X_count_27 rfl rfl ?_
      refine jx_get 0 C fl_0_15 d_X_count_28 hn rfl rfl ?_
      refine j_icmp_ge (tgt := 76) C d_X_count_31 (by decide) (fun c31 => ?_) (fun c31 => ?_)
      · exact absurd (show ξ 0 ≤ nI j from c31) (by rw [hnr]; exact nI_ge (by omega) (by omega))
      · refine j_aload_n C d_X_count_34 rfl rfl ?_
        refine jx_get 0 C fl_0_11 d_X_count_35 hn rfl rfl ?_
        refine j_iload C d_X_count_38 rfl ?_
        obtain ⟨hρ, hr, hrn, hS⟩ := hR j (by omega)
        refine jx_aald (w := .ref (cs j)) C d_X_count_40 hn (vp_in_nI (by omega) (by omega)) (by rw [nI_clamp (by omega), hρ]; rfl) ?_
        refine j_astore C d_X_count_41 (by decide) rfl ?_
        refine j_aload C d_X_count_43 rfl ?_
        refine j_ifnull C d_X_count_45 ?_
        refine j_aload C d_X_count_48 rfl ?_
        refine j_h (h' := ovR (cs j) (I j) (K j) (T j) (F j) (Z j) (G j) (W j) (ovX xo ξ β ρ u v h)) (by rw [← ovX_R (by omega), hS]) ?_
        refine j_callV C d_X_count_50 ml_X_228 mc_RP_isSettled in_RP_isSettled rfl se_RP_isSettled (by omega) (ovR_o _ _ _ _ _ _ _ _ _) (c_RP_isSettled hl _ hrn) rfl rfl (Nat.le_of_ble_eq_true rfl) (Nat.le_of_ble_eq_true rfl) (Nat.le_of_ble_eq_true rfl) (Nat.le_of_ble_eq_true rfl) (jk_r ?_)
        refine j_h (h' := ovX xo ξ β ρ u v h) (by rw [← ovX_R (by omega), hS]) ?_
        refine j_if_eq (tgt := 70) C d_X_count_53 (by decide) (fun c53 => ?_) (fun c53 => ?_)
        · refine j_iinc (v := nI (j + 1)) C d_X_count_70 rfl (nI_inc j) (by decide) rfl ?_
          refine j_goto (tgt := 25) C d_X_count_73 (by decide) ?_
          exact j_pick [0, 2, 3, 4, 5, 6] rfl (ih (j + 1) c0 (by omega) (by rw [← hv]; show _ = xcn Z G f lo hi m9 (j + 1) (if rse (Z j) = 0 then c0 else if rbt (Z j) (G j) f lo hi = 0 then c0 else c0 + 1); rw [if_pos c53]))
        · refine j_aload C d_X_count_56 rfl ?_
          refine j_iload_n C d_X_count_58 rfl rfl ?_
          refine j_iload_n C d_X_count_59 rfl rfl ?_
          refine j_iload_n C d_X_count_60 rfl rfl ?_
          refine j_h (h' := ovR (cs j) (I j) (K j) (T j) (F j) (Z j) (G j) (W j) (ovX xo ξ β ρ u v h)) (by rw [← ovX_R (by omega), hS]) ?_
          refine j_callV C d_X_count_61 ml_X_232 mc_RP_isBetween in_RP_isBetween rfl se_RP_isBetween (by omega) (ovR_o _ _ _ _ _ _ _ _ _) (c_RP_isBetween hl _ hrn _ _ _ hi0) rfl rfl (Nat.le_of_ble_eq_true rfl) (Nat.le_of_ble_eq_true rfl) (Nat.le_of_ble_eq_true rfl) (Nat.le_of_ble_eq_true rfl) (jk_r ?_)
          refine j_h (h' := ovX xo ξ β ρ u v h) (by rw [← ovX_R (by omega), hS]) ?_
          refine j_if_eq (tgt := 70) C d_X_count_64 (by decide) (fun c64 => ?_) (fun c64 => ?_)
          · refine j_iinc (v := nI (j + 1)) C d_X_count_70 rfl (nI_inc j) (by decide) rfl ?_
            refine j_goto (tgt := 25) C d_X_count_73 (by decide) ?_
            exact j_pick [0, 2, 3, 4, 5, 6] rfl (ih (j + 1) c0 (by omega) (by rw [← hv]; show _ = xcn Z G f lo hi m9 (j + 1) (if rse (Z j) = 0 then c0 else if rbt (Z j) (G j) f lo hi = 0 then c0 else c0 + 1); rw [if_neg c53, if_pos c64]))
          · refine j_iinc (v := c0 + 1) C d_X_count_67 rfl rfl (by decide) rfl ?_
            refine j_iinc (v := nI (j + 1)) C d_X_count_70 rfl (nI_inc j) (by decide) rfl ?_
            refine j_goto (tgt := 25) C d_X_count_73 (by decide) ?_
            exact j_pick [0, 1, 3, 4, 5, 6] rfl (ih (j + 1) (c0 + 1) (by omega) (by rw [← hv]; show _ = xcn Z G f lo hi m9 (j + 1) (if rse (Z j) = 0 then c0 else if rbt (Z j) (G j) f lo hi = 0 then c0 else c0 + 1); rw [if_neg c53, if_neg c64]))
  refine j_iload_n C d_X_count_0 rfl rfl ?_
  refine j_callS C d_X_count_1 ml_X_96 mc_X_requireField st_X_requireField (c_X_requireField_0 hl _ f fa fb) rfl rfl (Nat.le_of_ble_eq_true rfl) (Nat.le_of_ble_eq_true rfl) (Nat.le_of_ble_eq_true rfl) (Nat.le_of_ble_eq_true rfl) (jk_v ?_)
  refine j_iload_n C d_X_count_4 rfl rfl ?_
  refine j_iload_n C d_X_count_5 rfl rfl ?_
  refine j_icmp_le (tgt := 19) C d_X_count_6 (by decide) (fun c6 => ?_) (fun c6 => ?_)
  · refine j_iconst (v := 0) C d_X_count_19 (by decide) ?_
    refine j_istore C d_X_count_20 (by decide) rfl ?_
    refine j_iconst (v := 0) C d_X_count_22 (by decide) ?_
    refine j_istore C d_X_count_23 (by decide) rfl ?_
    exact j_pick [0, 1, 2, 3, 4, 5] rfl (loop nr 0 0 (by omega) rfl)
  · exact absurd hk c6

