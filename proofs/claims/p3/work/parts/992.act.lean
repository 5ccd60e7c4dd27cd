/-! ===== the law's wrapper of act, where it answers: printed by program ===== -/
set_option maxHeartbeats 4000000 in
set_option maxRecDepth 100000 in
theorem w_act_r0 {l : Launch} (hl : l.stackTraces = false) {D : va_G} {cA : Nat → ClassId} {b n n1 xo oo mc ms : Nat} {h h1 : AH} {fs : List Value} (a0 : Int32) (a1 : Int32) (a2 : Int32) {z : Int32} {f : Nat → Int64} (hxn : xo < n) (hxo : h xo = .inr (0, fs)) (hX : Cn l D cA b y_X_act k_X_act 7 96 mc ms [.ref xo, .int a0, .int a1, .int a2] n h (Re (some (.int z)) n1 h1)) (hz : z = 0) (hoo : oo < n1) (hout : h1 oo = .inl (4, 1, .inr (.inl f))) : Cn l D cA b y_L_act k_L_act 8 114 mc ms [.ref xo, .int a0, .int a1, .int a2, .ref oo] n h (Re (some (.int 0)) n1 (hu h1 oo (.inl (4, 1, .inr (.inl (vp_updL f (0 : Int32).toNatClampNeg 0)))))) := by
  refine Cn.of (cc := b_L_act) (maxL := 6) (ret := (some .int)) (hh := [(0, 19, 22, 13), (0, 19, 26, 15), (0, 19, 30, 27)]) (by decide +kernel) hl (Or.inr rfl) (Nat.le_of_ble_eq_true rfl) ?_
  intro p e s m args below meth c C
  refine j_aload C d_L_act_0 rfl ?_
  refine j_iconst (v := 0) C d_L_act_2 (by decide) ?_
  refine j_aload_n C d_L_act_3 rfl rfl ?_
  refine j_iload_n C d_L_act_4 rfl rfl ?_
  refine j_iload_n C d_L_act_5 rfl rfl ?_
  refine j_iload_n C d_L_act_6 rfl rfl ?_
  refine j_callV C d_L_act_7 ml_L_29 mc_X_act in_X_act rfl se_X_act hxn hxo hX rfl rfl (Nat.le_of_ble_eq_true rfl) (Nat.le_of_ble_eq_true rfl) (Nat.le_of_eq (Nat.zero_add _)) (Nat.le_of_eq (Nat.zero_add _)) (jk_r ?_)
  refine j_if_eq (tgt := 17) C d_L_act_10 (by decide) (fun c10 => ?_) (fun c10 => ?_)
  · refine j_lconst (v := 0) C d_L_act_17 rfl ?_
    refine j_last (t := 4) (N := 1) C d_L_act_18 rfl hoo hout (vp_in_nI (n := 0) (by omega) (by omega)) rfl ?_
    refine j_goto (tgt := 34) C d_L_act_19 (by decide) ?_
    refine j_iconst (v := 0) C d_L_act_34 (by decide) ?_
    exact j_ireturn C d_L_act_35 rfl (Nat.le_of_eq (Nat.zero_add _)) (Nat.le_of_eq (Nat.zero_add _)) ⟨rfl, rfl, rfl⟩
  · exact absurd hz c10

set_option maxHeartbeats 4000000 in
set_option maxRecDepth 100000 in
theorem w_act_r1 {l : Launch} (hl : l.stackTraces = false) {D : va_G} {cA : Nat → ClassId} {b n n1 xo oo mc ms : Nat} {h h1 : AH} {fs : List Value} (a0 : Int32) (a1 : Int32) (a2 : Int32) {z : Int32} {f : Nat → Int64} (hxn : xo < n) (hxo : h xo = .inr (0, fs)) (hX : Cn l D cA b y_X_act k_X_act 7 96 mc ms [.ref xo, .int a0, .int a1, .int a2] n h (Re (some (.int z)) n1 h1)) (hz : ¬ z = 0) (hoo : oo < n1) (hout : h1 oo = .inl (4, 1, .inr (.inl f))) : Cn l D cA b y_L_act k_L_act 8 114 mc ms [.ref xo, .int a0, .int a1, .int a2, .ref oo] n h (Re (some (.int 0)) n1 (hu h1 oo (.inl (4, 1, .inr (.inl (vp_updL f (0 : Int32).toNatClampNeg 1)))))) := by
  refine Cn.of (cc := b_L_act) (maxL := 6) (ret := (some .int)) (hh := [(0, 19, 22, 13), (0, 19, 26, 15), (0, 19, 30, 27)]) (by decide +kernel) hl (Or.inr rfl) (Nat.le_of_ble_eq_true rfl) ?_
  intro p e s m args below meth c C
  refine j_aload C d_L_act_0 rfl ?_
  refine j_iconst (v := 0) C d_L_act_2 (by decide) ?_
  refine j_aload_n C d_L_act_3 rfl rfl ?_
  refine j_iload_n C d_L_act_4 rfl rfl ?_
  refine j_iload_n C d_L_act_5 rfl rfl ?_
  refine j_iload_n C d_L_act_6 rfl rfl ?_
  refine j_callV C d_L_act_7 ml_L_29 mc_X_act in_X_act rfl se_X_act hxn hxo hX rfl rfl (Nat.le_of_ble_eq_true rfl) (Nat.le_of_ble_eq_true rfl) (Nat.le_of_eq (Nat.zero_add _)) (Nat.le_of_eq (Nat.zero_add _)) (jk_r ?_)
  refine j_if_eq (tgt := 17) C d_L_act_10 (by decide) (fun c10 => ?_) (fun c10 => ?_)
  · exact absurd c10 hz
  · refine j_lconst (v := 1) C d_L_act_13 rfl ?_
    refine j_goto (tgt := 18) C d_L_act_14 (by decide) ?_
    refine j_last (t := 4) (N := 1) C d_L_act_18 rfl hoo hout (vp_in_nI (n := 0) (by omega) (by omega)) rfl ?_
    refine j_goto (tgt := 34) C d_L_act_19 (by decide) ?_
    refine j_iconst (v := 0) C d_L_act_34 (by decide) ?_
    exact j_ireturn C d_L_act_35 rfl (Nat.le_of_eq (Nat.zero_add _)) (Nat.le_of_eq (Nat.zero_add _)) ⟨rfl, rfl, rfl⟩

