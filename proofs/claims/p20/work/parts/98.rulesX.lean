/-! ===== the class's rules of any text: printed by program ===== -/
/-- it throws one of the class ci, with a heap so that P -/
def Tp (ci n1 : Nat) (P : AH → Prop) : Rz → Nat → AH → Prop := fun r n h => r = .inr ci ∧ n = n1 ∧ P h
section JTp
variable {p : Program} {l : Launch} {e : Env} {R : Room} {s : State} {m : MethodId} {args : Array Value} {below : List Frame} {meth : Method} {c : Code} {D : va_G} {cA : Nat → ClassId} {b nL : Nat} {Q : State → Prop} {n : Nat} {h : AH} {kc ks pc : Nat} {L : List (Nat × Value)} {st : List Value} {own mn : String} {cc : ByteArray} {ret : Option FieldType} {hh : List (Nat × Nat × Nat × Nat)} {Qa : Rz → Nat → AH → Prop} {mc ms : Nat}
theorem jk_cp (C : Cx p l s m meth c D cA b nL own mn cc ret hh) {ci n1 : Nat} {P : AH → Prop} {E name : String} {T0 : u_T} (hE : g_cl[ci]? = some (E, T0, 0)) (pre : List ExceptionTableEntry) (x : ExceptionTableEntry) (suf : List ExceptionTableEntry) (hsplit : tableOf hh = pre ++ x :: suf)
    (hpass : ∀ z ∈ pre, covers z pc = false ∨ (z.catchType ≠ 0 ∧ ∃ nm : String, Cond.classLink own z.catchType nm ∈ g_ws ∧ (E, nm) ∈ g_nc)) (hcv : covers x pc = true) (h0 : x.catchType ≠ 0)
    (hlink : Cond.classLink own x.catchType name ∈ g_ws) (hcast : Cond.castable E name ∈ g_ws)
    (kk : ∀ q h1, P h1 → J p l e R s m args below meth c D cA b nL Q n1 h1 kc ks x.handlerPc L [.ref q]) : JK p l e R s m args below meth c D cA b nL Q kc ks pc L st (Tp ci n1 P) := by
  refine ⟨fun v n' h' hq => (by cases hq.1), fun ci' n' h' q hq hqn hqx => ?_⟩
  obtain ⟨e1, rfl, hp⟩ := hq
  cases e1
  exact jx_catch C hE pre x suf hsplit hpass hcv h0 hlink hcast hqn hqx (kk q h' hp)
end JTp
set_option maxHeartbeats 4000000 in
set_option maxRecDepth 100000 in
theorem w_rules_t {l : Launch} (hl : l.stackTraces = false) {D : va_G} {cA : Nat → ClassId} {b n n1 xo oo mc ms : Nat} {h : AH} {P : AH → Prop} {fs : List Value} (hxn : xo < n) (hxo : h xo = .inr (0, fs)) (hX : Cn l D cA b y_X_rules k_X_rules 6 97 mc ms [.ref xo] n h (Tp 9 n1 P)) : Cn l D cA b y_L_rules k_L_rules 7 112 mc ms [.ref xo, .ref oo] n h (Rp (some (.int 1)) n1 P) := by
  refine Cn.of (cc := b_L_rules) (maxL := 3) (ret := (some .int)) (hh := [(0, 8, 11, 27)]) (by decide +kernel) hl (Or.inr rfl) (Nat.le_of_ble_eq_true rfl) ?_
  intro p e s m args below meth c C
  refine j_aload_n C d_L_rules_0 rfl rfl ?_
  refine j_iconst (v := 0) C d_L_rules_1 (by decide) ?_
  refine j_aload_n C d_L_rules_2 rfl rfl ?_
  refine j_callV C d_L_rules_3 ml_L_41 mc_X_rules in_X_rules rfl se_X_rules hxn hxo hX rfl rfl (Nat.le_of_ble_eq_true rfl) (Nat.le_of_ble_eq_true rfl) (Nat.le_of_eq (Nat.zero_add _)) (Nat.le_of_eq (Nat.zero_add _)) (jk_cp C (E := cR9) rfl [] ⟨0, 8, 11, 27⟩ [] rfl (fun z hz => nomatch hz) (by decide) (by decide) cl_L_27 ca_9 (fun q h1 hP => ?_))
  refine j_astore_n C d_L_rules_11 rfl (by decide) rfl ?_
  refine j_iconst (v := 1) C d_L_rules_12 (by decide) ?_
  exact j_ireturn C d_L_rules_13 rfl (Nat.le_of_eq (Nat.zero_add _)) (Nat.le_of_eq (Nat.zero_add _)) ⟨rfl, rfl, hP⟩

set_option maxHeartbeats 4000000 in
set_option maxRecDepth 100000 in
theorem w_rules_p {l : Launch} (hl : l.stackTraces = false) {D : va_G} {cA : Nat → ClassId} {b n n1 xo oo mc ms : Nat} {h : AH} {P : AH → Prop} {fs : List Value} (hxn : xo < n) (hxo : h xo = .inr (0, fs)) {z : Int32} {f : Nat → Int64} (hX : Cn l D cA b y_X_rules k_X_rules 6 97 mc ms [.ref xo] n h (Rp (some (.int z)) n1 P)) (hoo : oo < n1) (hout : ∀ h1, P h1 → h1 oo = .inl (4, 1, .inr (.inl f))) : Cn l D cA b y_L_rules k_L_rules 7 112 mc ms [.ref xo, .ref oo] n h (Rp (some (.int 0)) n1 (fun h' => ∃ h1, P h1 ∧ h' = hu h1 oo (.inl (4, 1, .inr (.inl (vp_updL f (0 : Int32).toNatClampNeg z.toInt64)))))) := by
  refine Cn.of (cc := b_L_rules) (maxL := 3) (ret := (some .int)) (hh := [(0, 8, 11, 27)]) (by decide +kernel) hl (Or.inr rfl) (Nat.le_of_ble_eq_true rfl) ?_
  intro p e s m args below meth c C
  refine j_aload_n C d_L_rules_0 rfl rfl ?_
  refine j_iconst (v := 0) C d_L_rules_1 (by decide) ?_
  refine j_aload_n C d_L_rules_2 rfl rfl ?_
  refine j_callV C d_L_rules_3 ml_L_41 mc_X_rules in_X_rules rfl se_X_rules hxn hxo hX rfl rfl (Nat.le_of_ble_eq_true rfl) (Nat.le_of_ble_eq_true rfl) (Nat.le_of_eq (Nat.zero_add _)) (Nat.le_of_eq (Nat.zero_add _)) (jk_p (fun h1 hP => ?_))
  refine j_i2l C d_L_rules_6 rfl ?_
  refine j_last (t := 4) (N := 1) C d_L_rules_7 rfl hoo (hout h1 hP) (vp_in_nI (n := 0) (by omega) (by omega)) rfl ?_
  refine j_goto (tgt := 14) C d_L_rules_8 (by decide) ?_
  refine j_iconst (v := 0) C d_L_rules_14 (by decide) ?_
  exact j_ireturn C d_L_rules_15 rfl (Nat.le_of_eq (Nat.zero_add _)) (Nat.le_of_eq (Nat.zero_add _)) ⟨rfl, rfl, h1, hP, rfl⟩

set_option maxHeartbeats 4000000 in
set_option maxRecDepth 100000 in
theorem c_X_rules_6_s {l : Launch} (hl : l.stackTraces = false) {D : va_G} {cA : Nat → ClassId} {b n : Nat} {xo : Nat} {ξ : Nat → Int32} {β : Nat → Nat → Int32} {ρ : Nat → Option Nat} (h : AH) (hn : xo + 28 ≤ n) (t : Nat) (ht : t ≤ 300) (hz : ξ 2 = nI t) (rs0 : List Ru) (hR : crul (β 4) t (t + 1) 0 [] = some rs0) : Cn l D cA b y_X_rules k_X_rules 6 97 1 6 [.ref xo] n (ovX xo ξ β ρ 13 6 h) (Rp (some (.int (nI rs0.length))) n (fun h' => ∃ (a' : Nat) (β' : Nat → Nat → Int32), h' = ovX xo (upd (upd (xq (upd (upd ξ 4 (nI t)) 6 (nI rs0.length)) a') 3 (-1)) 2 0) β' ρ 6 13 h ∧ Abw 6 β' β ∧ RuX (β' (6 + 1)) (β' (6 + 2)) (β' (6 + 3)) (β' (6 + 4)) (β' (6 + 5)) (β' (6 + 6)) rs0)) := by
  refine Cn.of (cc := b_X_rules) (maxL := 2) (ret := (some .int)) (hh := []) (by decide +kernel) hl (Or.inl ⟨rfl, rfl⟩) (Nat.le_of_ble_eq_true rfl) ?_
  intro p e s m args below meth c C
  refine j_aload_n C d_X_rules_0 rfl rfl ?_
  refine j_aload_n C d_X_rules_1 rfl rfl ?_
  refine jx_get 0 C fl_0_41 d_X_rules_2 hn rfl rfl ?_
  refine j_aload_n C d_X_rules_5 rfl rfl ?_
  refine jx_get 0 C fl_0_52 d_X_rules_6 hn rfl rfl ?_
  refine j_aload_n C d_X_rules_9 rfl rfl ?_
  refine jx_get 0 C fl_0_33 d_X_rules_10 hn rfl rfl ?_
  rw [hz]
  refine j_callV C d_X_rules_13 ml_X_151 mc_RR_readInto in_RR_readInto rfl se_RR_readInto (by omega) (ovX_c (o := 5) rfl) (c_RR_readInto_6_s hl h hn t ht rs0 hR) rfl rfl (Nat.le_of_ble_eq_true rfl) (Nat.le_of_ble_eq_true rfl) (Nat.le_of_ble_eq_true rfl) (Nat.le_of_ble_eq_true rfl) (jk_p (fun h9 hP9 => ?_))
  obtain ⟨a9, β9, rfl, hA9, hX9⟩ := hP9
  refine jx_puti 0 3 C fp_0_55 d_X_rules_16 hn rfl (Nat.le_of_ble_eq_true rfl) rfl rfl rfl ?_
  refine j_aload_n C d_X_rules_19 rfl rfl ?_
  refine j_iconst (v := 0) C d_X_rules_20 (by decide) ?_
  refine jx_puti 0 2 C fp_0_33 d_X_rules_21 hn rfl (Nat.le_of_ble_eq_true rfl) rfl rfl rfl ?_
  refine j_aload_n C d_X_rules_24 rfl rfl ?_
  refine jx_get 0 C fl_0_55 d_X_rules_25 hn rfl rfl ?_
  refine j_iconst (v := (-1)) C d_X_rules_28 (by decide) ?_
  refine j_icmp_eq (tgt := 42) C d_X_rules_29 (by decide) (fun c29 => ?_) (fun c29 => ?_)
  · refine j_aload_n C d_X_rules_42 rfl rfl ?_
    refine jx_get 0 C fl_0_48 d_X_rules_43 hn rfl rfl ?_
    refine j_astore_n C d_X_rules_46 rfl (by decide) rfl ?_
    refine j_aload_n C d_X_rules_47 rfl rfl ?_
    refine j_aload_n C d_X_rules_48 rfl rfl ?_
    refine jx_get 0 C fl_0_52 d_X_rules_49 hn rfl rfl ?_
    refine jx_put (ξ' := (upd (upd (xq (upd (upd ξ 4 (nI t)) 6 (nI rs0.length)) a9) 3 (-1)) 2 0)) (β' := β9) (ρ' := ρ) (u' := 6) (v' := 6) 0 C fp_0_48 d_X_rules_52 hn rfl (Nat.le_of_ble_eq_true rfl) rfl rfl rfl ?_
    refine j_aload_n C d_X_rules_55 rfl rfl ?_
    refine j_aload_n C d_X_rules_56 rfl rfl ?_
    refine jx_put (ξ' := (upd (upd (xq (upd (upd ξ 4 (nI t)) 6 (nI rs0.length)) a9) 3 (-1)) 2 0)) (β' := β9) (ρ' := ρ) (u' := 6) (v' := 13) 0 C fp_0_52 d_X_rules_57 hn rfl (Nat.le_of_ble_eq_true rfl) rfl rfl rfl ?_
    refine j_aload_n C d_X_rules_60 rfl rfl ?_
    refine jx_get 0 C fl_0_48 d_X_rules_61 hn rfl rfl ?_
    refine jx_get 6 C fl_0_157 d_X_rules_64 hn rfl rfl ?_
    exact j_ireturn C d_X_rules_67 rfl (by decide) (by decide) ⟨rfl, rfl, a9, β9, rfl, hA9, hX9⟩
  · exact absurd rfl c29

set_option maxHeartbeats 4000000 in
set_option maxRecDepth 100000 in
theorem c_X_rules_6_n {l : Launch} (hl : l.stackTraces = false) {D : va_G} {cA : Nat → ClassId} {b n : Nat} {xo : Nat} {ξ : Nat → Int32} {β : Nat → Nat → Int32} {ρ : Nat → Option Nat} (h : AH) (hn : xo + 28 ≤ n) (t : Nat) (ht : t ≤ 300) (hz : ξ 2 = nI t) (hR : crul (β 4) t (t + 1) 0 [] = none) : Cn l D cA b y_X_rules k_X_rules 6 97 1 6 [.ref xo] n (ovX xo ξ β ρ 13 6 h) (Tp 9 (n + 1) (fun h' => ∃ (a' k' : Nat) (β' : Nat → Nat → Int32), a' ≤ t ∧ h' = hu (ovX xo (upd (upd (xq (upd (upd ξ 4 (nI t)) 6 (nI k')) a') 3 (nI a')) 2 0) β' ρ 13 6 h) n (.inr (9, [])) ∧ Abw 6 β' β)) := by
  refine Cn.of (cc := b_X_rules) (maxL := 2) (ret := (some .int)) (hh := []) (by decide +kernel) hl (Or.inl ⟨rfl, rfl⟩) (Nat.le_of_ble_eq_true rfl) ?_
  intro p e s m args below meth c C
  refine j_aload_n C d_X_rules_0 rfl rfl ?_
  refine j_aload_n C d_X_rules_1 rfl rfl ?_
  refine jx_get 0 C fl_0_41 d_X_rules_2 hn rfl rfl ?_
  refine j_aload_n C d_X_rules_5 rfl rfl ?_
  refine jx_get 0 C fl_0_52 d_X_rules_6 hn rfl rfl ?_
  refine j_aload_n C d_X_rules_9 rfl rfl ?_
  refine jx_get 0 C fl_0_33 d_X_rules_10 hn rfl rfl ?_
  rw [hz]
  refine j_callV C d_X_rules_13 ml_X_151 mc_RR_readInto in_RR_readInto rfl se_RR_readInto (by omega) (ovX_c (o := 5) rfl) (c_RR_readInto_6_n hl h hn t ht hR) rfl rfl (Nat.le_of_ble_eq_true rfl) (Nat.le_of_ble_eq_true rfl) (Nat.le_of_ble_eq_true rfl) (Nat.le_of_ble_eq_true rfl) (jk_w (fun w9 h9 hP9 => ?_))
  obtain ⟨a9, k9, β9, ha9, rfl, rfl, hA9⟩ := hP9
  refine jx_puti 0 3 C fp_0_55 d_X_rules_16 hn rfl (Nat.le_of_ble_eq_true rfl) rfl rfl rfl ?_
  refine j_aload_n C d_X_rules_19 rfl rfl ?_
  refine j_iconst (v := 0) C d_X_rules_20 (by decide) ?_
  refine jx_puti 0 2 C fp_0_33 d_X_rules_21 hn rfl (Nat.le_of_ble_eq_true rfl) rfl rfl rfl ?_
  refine j_aload_n C d_X_rules_24 rfl rfl ?_
  refine jx_get 0 C fl_0_55 d_X_rules_25 hn rfl rfl ?_
  refine j_iconst (v := (-1)) C d_X_rules_28 (by decide) ?_
  refine j_icmp_eq (tgt := 42) C d_X_rules_29 (by decide) (fun c29 => ?_) (fun c29 => ?_)
  · exact absurd (show nI a9 = -1 from c29) (fun y => absurd (show (0 : Int32) ≤ -1 from y ▸ nI_pos' (by omega)) (by decide))
  · exact j_throwS (text := "the text is wrong") C th_9 (by decide +kernel) rfl d_X_rules_32 d_X_rules_35 d_X_rules_36 d_X_rules_38 d_X_rules_41 (Nat.le_of_ble_eq_true rfl) (Nat.le_of_ble_eq_true rfl) (Nat.le_of_ble_eq_true rfl) (Nat.le_of_ble_eq_true rfl) (Nat.le_of_ble_eq_true rfl) (Nat.le_of_ble_eq_true rfl) ⟨rfl, rfl, a9, k9, β9, ha9, rfl, hA9⟩

set_option maxHeartbeats 4000000 in
set_option maxRecDepth 100000 in
theorem c_X_rules_13_s {l : Launch} (hl : l.stackTraces = false) {D : va_G} {cA : Nat → ClassId} {b n : Nat} {xo : Nat} {ξ : Nat → Int32} {β : Nat → Nat → Int32} {ρ : Nat → Option Nat} (h : AH) (hn : xo + 28 ≤ n) (t : Nat) (ht : t ≤ 300) (hz : ξ 2 = nI t) (rs0 : List Ru) (hR : crul (β 4) t (t + 1) 0 [] = some rs0) : Cn l D cA b y_X_rules k_X_rules 6 97 1 6 [.ref xo] n (ovX xo ξ β ρ 6 13 h) (Rp (some (.int (nI rs0.length))) n (fun h' => ∃ (a' : Nat) (β' : Nat → Nat → Int32), h' = ovX xo (upd (upd (xq (upd (upd ξ 4 (nI t)) 7 (nI rs0.length)) a') 3 (-1)) 2 0) β' ρ 13 6 h ∧ Abw 13 β' β ∧ RuX (β' (13 + 1)) (β' (13 + 2)) (β' (13 + 3)) (β' (13 + 4)) (β' (13 + 5)) (β' (13 + 6)) rs0)) := by
  refine Cn.of (cc := b_X_rules) (maxL := 2) (ret := (some .int)) (hh := []) (by decide +kernel) hl (Or.inl ⟨rfl, rfl⟩) (Nat.le_of_ble_eq_true rfl) ?_
  intro p e s m args below meth c C
  refine j_aload_n C d_X_rules_0 rfl rfl ?_
  refine j_aload_n C d_X_rules_1 rfl rfl ?_
  refine jx_get 0 C fl_0_41 d_X_rules_2 hn rfl rfl ?_
  refine j_aload_n C d_X_rules_5 rfl rfl ?_
  refine jx_get 0 C fl_0_52 d_X_rules_6 hn rfl rfl ?_
  refine j_aload_n C d_X_rules_9 rfl rfl ?_
  refine jx_get 0 C fl_0_33 d_X_rules_10 hn rfl rfl ?_
  rw [hz]
  refine j_callV C d_X_rules_13 ml_X_151 mc_RR_readInto in_RR_readInto rfl se_RR_readInto (by omega) (ovX_c (o := 5) rfl) (c_RR_readInto_13_s hl h hn t ht rs0 hR) rfl rfl (Nat.le_of_ble_eq_true rfl) (Nat.le_of_ble_eq_true rfl) (Nat.le_of_ble_eq_true rfl) (Nat.le_of_ble_eq_true rfl) (jk_p (fun h9 hP9 => ?_))
  obtain ⟨a9, β9, rfl, hA9, hX9⟩ := hP9
  refine jx_puti 0 3 C fp_0_55 d_X_rules_16 hn rfl (Nat.le_of_ble_eq_true rfl) rfl rfl rfl ?_
  refine j_aload_n C d_X_rules_19 rfl rfl ?_
  refine j_iconst (v := 0) C d_X_rules_20 (by decide) ?_
  refine jx_puti 0 2 C fp_0_33 d_X_rules_21 hn rfl (Nat.le_of_ble_eq_true rfl) rfl rfl rfl ?_
  refine j_aload_n C d_X_rules_24 rfl rfl ?_
  refine jx_get 0 C fl_0_55 d_X_rules_25 hn rfl rfl ?_
  refine j_iconst (v := (-1)) C d_X_rules_28 (by decide) ?_
  refine j_icmp_eq (tgt := 42) C d_X_rules_29 (by decide) (fun c29 => ?_) (fun c29 => ?_)
  · refine j_aload_n C d_X_rules_42 rfl rfl ?_
    refine jx_get 0 C fl_0_48 d_X_rules_43 hn rfl rfl ?_
    refine j_astore_n C d_X_rules_46 rfl (by decide) rfl ?_
    refine j_aload_n C d_X_rules_47 rfl rfl ?_
    refine j_aload_n C d_X_rules_48 rfl rfl ?_
    refine jx_get 0 C fl_0_52 d_X_rules_49 hn rfl rfl ?_
    refine jx_put (ξ' := (upd (upd (xq (upd (upd ξ 4 (nI t)) 7 (nI rs0.length)) a9) 3 (-1)) 2 0)) (β' := β9) (ρ' := ρ) (u' := 13) (v' := 13) 0 C fp_0_48 d_X_rules_52 hn rfl (Nat.le_of_ble_eq_true rfl) rfl rfl rfl ?_
    refine j_aload_n C d_X_rules_55 rfl rfl ?_
    refine j_aload_n C d_X_rules_56 rfl rfl ?_
    refine jx_put (ξ' := (upd (upd (xq (upd (upd ξ 4 (nI t)) 7 (nI rs0.length)) a9) 3 (-1)) 2 0)) (β' := β9) (ρ' := ρ) (u' := 13) (v' := 6) 0 C fp_0_52 d_X_rules_57 hn rfl (Nat.le_of_ble_eq_true rfl) rfl rfl rfl ?_
    refine j_aload_n C d_X_rules_60 rfl rfl ?_
    refine jx_get 0 C fl_0_48 d_X_rules_61 hn rfl rfl ?_
    refine jx_get 13 C fl_0_157 d_X_rules_64 hn rfl rfl ?_
    exact j_ireturn C d_X_rules_67 rfl (by decide) (by decide) ⟨rfl, rfl, a9, β9, rfl, hA9, hX9⟩
  · exact absurd rfl c29

set_option maxHeartbeats 4000000 in
set_option maxRecDepth 100000 in
theorem c_X_rules_13_n {l : Launch} (hl : l.stackTraces = false) {D : va_G} {cA : Nat → ClassId} {b n : Nat} {xo : Nat} {ξ : Nat → Int32} {β : Nat → Nat → Int32} {ρ : Nat → Option Nat} (h : AH) (hn : xo + 28 ≤ n) (t : Nat) (ht : t ≤ 300) (hz : ξ 2 = nI t) (hR : crul (β 4) t (t + 1) 0 [] = none) : Cn l D cA b y_X_rules k_X_rules 6 97 1 6 [.ref xo] n (ovX xo ξ β ρ 6 13 h) (Tp 9 (n + 1) (fun h' => ∃ (a' k' : Nat) (β' : Nat → Nat → Int32), a' ≤ t ∧ h' = hu (ovX xo (upd (upd (xq (upd (upd ξ 4 (nI t)) 7 (nI k')) a') 3 (nI a')) 2 0) β' ρ 6 13 h) n (.inr (9, [])) ∧ Abw 13 β' β)) := by
  refine Cn.of (cc := b_X_rules) (maxL := 2) (ret := (some .int)) (hh := []) (by decide +kernel) hl (Or.inl ⟨rfl, rfl⟩) (Nat.le_of_ble_eq_true rfl) ?_
  intro p e s m args below meth c C
  refine j_aload_n C d_X_rules_0 rfl rfl ?_
  refine j_aload_n C d_X_rules_1 rfl rfl ?_
  refine jx_get 0 C fl_0_41 d_X_rules_2 hn rfl rfl ?_
  refine j_aload_n C d_X_rules_5 rfl rfl ?_
  refine jx_get 0 C fl_0_52 d_X_rules_6 hn rfl rfl ?_
  refine j_aload_n C d_X_rules_9 rfl rfl ?_
  refine jx_get 0 C fl_0_33 d_X_rules_10 hn rfl rfl ?_
  rw [hz]
  refine j_callV C d_X_rules_13 ml_X_151 mc_RR_readInto in_RR_readInto rfl se_RR_readInto (by omega) (ovX_c (o := 5) rfl) (c_RR_readInto_13_n hl h hn t ht hR) rfl rfl (Nat.le_of_ble_eq_true rfl) (Nat.le_of_ble_eq_true rfl) (Nat.le_of_ble_eq_true rfl) (Nat.le_of_ble_eq_true rfl) (jk_w (fun w9 h9 hP9 => ?_))
  obtain ⟨a9, k9, β9, ha9, rfl, rfl, hA9⟩ := hP9
  refine jx_puti 0 3 C fp_0_55 d_X_rules_16 hn rfl (Nat.le_of_ble_eq_true rfl) rfl rfl rfl ?_
  refine j_aload_n C d_X_rules_19 rfl rfl ?_
  refine j_iconst (v := 0) C d_X_rules_20 (by decide) ?_
  refine jx_puti 0 2 C fp_0_33 d_X_rules_21 hn rfl (Nat.le_of_ble_eq_true rfl) rfl rfl rfl ?_
  refine j_aload_n C d_X_rules_24 rfl rfl ?_
  refine jx_get 0 C fl_0_55 d_X_rules_25 hn rfl rfl ?_
  refine j_iconst (v := (-1)) C d_X_rules_28 (by decide) ?_
  refine j_icmp_eq (tgt := 42) C d_X_rules_29 (by decide) (fun c29 => ?_) (fun c29 => ?_)
  · exact absurd (show nI a9 = -1 from c29) (fun y => absurd (show (0 : Int32) ≤ -1 from y ▸ nI_pos' (by omega)) (by decide))
  · exact j_throwS (text := "the text is wrong") C th_9 (by decide +kernel) rfl d_X_rules_32 d_X_rules_35 d_X_rules_36 d_X_rules_38 d_X_rules_41 (Nat.le_of_ble_eq_true rfl) (Nat.le_of_ble_eq_true rfl) (Nat.le_of_ble_eq_true rfl) (Nat.le_of_ble_eq_true rfl) (Nat.le_of_ble_eq_true rfl) (Nat.le_of_ble_eq_true rfl) ⟨rfl, rfl, a9, k9, β9, ha9, rfl, hA9⟩
/-! ===== the class's bytes and the reference's: the text reads alike ===== -/
def Bre (g g' : Nat → Int32) (t : Nat) : Prop := ∀ j, j < t → bre (g j) (g' j)
theorem hb_eq {g g' : Nat → Int32} {t : Nat} (hE : Bre g g' t) (a : Nat) {c : Nat} (hc : c < 128) : hr g t a = nI c ↔ hr g' t a = nI c := by
  by_cases ha : a < t
  · rw [hr_g ha, hr_g ha]
    rcases hE a ha with ⟨d, hd, h1, h2⟩ | ⟨h1, d, hd1, hd2, h2⟩
    · rw [h1, h2]
    · constructor
      · intro z
        rw [z] at h1
        exact absurd h1 (nI_pos (by omega))
      · intro z
        rw [h2] at z
        have := (nI_eq (by omega) (by omega)).mp z
        omega
  · have e1 : hr g t a = -1 := if_pos (by omega)
    have e2 : hr g' t a = -1 := if_pos (by omega)
    rw [e1, e2]
theorem hb_d {g g' : Nat → Int32} {t : Nat} (hE : Bre g g' t) (a : Nat) : inI (hr g t a) 48 57 = inI (hr g' t a) 48 57 := by
  by_cases ha : a < t
  · rw [hr_g ha, hr_g ha]
    rcases hE a ha with ⟨d, hd, h1, h2⟩ | ⟨h1, d, hd1, hd2, h2⟩
    · rw [h1, h2]
    · have z : inI (nI d) 48 57 = 0 := in_bad (Or.inr (show ¬ nI d ≤ nI 57 from nI_ge (by omega) (by omega)))
      rw [in_bad (Or.inl (Int32.lt_trans h1 (by decide))), h2, z]
  · have e1 : hr g t a = -1 := if_pos (by omega)
    have e2 : hr g' t a = -1 := if_pos (by omega)
    rw [e1, e2]
theorem hb_v {g g' : Nat → Int32} {t : Nat} (hE : Bre g g' t) {a : Nat} (h : ¬ inI (hr g t a) 48 57 = 0) : hr g t a = hr g' t a := by
  obtain ⟨d, hd, e⟩ := dig_of h
  rw [e, (hb_eq hE a (by omega)).mp e]
theorem skf_b {g g' : Nat → Int32} {t : Nat} (hE : Bre g g' t) : ∀ k a, skf g t k a = skf g' t k a := by
  intro k
  induction k with
  | zero => intro a; rfl
  | succ k ih =>
    intro a
    by_cases h : hr g t a = 32
    · have h' : hr g' t a = 32 := (hb_eq hE a (c := 32) (by omega)).mp h
      exact (if_pos h).trans ((ih (a + 1)).trans (if_pos h').symm)
    · have h' : ¬ hr g' t a = 32 := fun z => h ((hb_eq hE a (c := 32) (by omega)).mpr z)
      exact (if_neg h).trans (if_neg h').symm
theorem skp_b {g g' : Nat → Int32} {t : Nat} (hE : Bre g g' t) (a : Nat) : skp g t a = skp g' t a := skf_b hE (t - a) a
theorem nlp_b {g g' : Nat → Int32} {t : Nat} (hE : Bre g g' t) : ∀ k a v, nlp g t k a v = nlp g' t k a v := by
  intro k
  induction k with
  | zero => intro a v; rfl
  | succ k ih =>
    intro a v
    have hd := hb_d hE a
    by_cases h : inI (hr g t a) 48 57 = 0
    · have h' : inI (hr g' t a) 48 57 = 0 := by rw [← hd]; exact h
      exact (if_pos h).trans (if_pos h').symm
    · have h' : ¬ inI (hr g' t a) 48 57 = 0 := by rw [← hd]; exact h
      have hv := hb_v hE h
      by_cases h4 : k = 4
      · refine (if_neg h).trans ((if_pos h4).trans (Eq.trans ?_ ((if_neg h').trans (if_pos h4)).symm))
        rw [hv]; exact ih _ _
      · by_cases h0 : v ≤ 0
        · exact (if_neg h).trans ((if_neg h4).trans ((if_pos h0).trans ((if_neg h').trans ((if_neg h4).trans (if_pos h0))).symm))
        · refine (if_neg h).trans ((if_neg h4).trans ((if_neg h0).trans (Eq.trans ?_ ((if_neg h').trans ((if_neg h4).trans (if_neg h0))).symm)))
          rw [hv]; exact ih _ _
theorem ntl_b {g g' : Nat → Int32} {t : Nat} (hE : Bre g g' t) (a : Nat) (v : Int32) (d : Nat) (bd : Int32) : ntl g t a v d bd = ntl g' t a v d bd := by
  unfold ntl
  rw [hb_d hE a]
theorem mnum_b {g g' : Nat → Int32} {t : Nat} (hE : Bre g g' t) (a : Nat) (bd : Int32) : mnum g t a bd = mnum g' t a bd := by
  unfold mnum
  rw [skp_b hE a, hb_d hE, nlp_b hE, ntl_b hE]
theorem mfA_b {g g' : Nat → Int32} {t : Nat} (hE : Bre g g' t) (a : Nat) : mfA g t a = mfA g' t a := by
  have e : (hr g t (skp g' t a) = 102) = (hr g' t (skp g' t a) = 102) := propext (hb_eq hE (skp g' t a) (c := 102) (by omega))
  unfold mfA
  rw [skp_b hE a, mnum_b hE, mnum_b hE]
  by_cases h : hr g' t (skp g' t a) = 102
  · rw [if_pos h, if_pos (show hr g t (skp g' t a) = 102 by rw [e]; exact h)]
  · rw [if_neg h, if_neg (show ¬ hr g t (skp g' t a) = 102 by rw [e]; exact h)]
theorem mfV_b {g g' : Nat → Int32} {t : Nat} (hE : Bre g g' t) (a : Nat) : mfV g t a = mfV g' t a := by
  have e : (hr g t (skp g' t a) = 102) = (hr g' t (skp g' t a) = 102) := propext (hb_eq hE (skp g' t a) (c := 102) (by omega))
  unfold mfV
  rw [skp_b hE a, mnum_b hE, mnum_b hE]
  by_cases h : hr g' t (skp g' t a) = 102
  · rw [if_pos h, if_pos (show hr g t (skp g' t a) = 102 by rw [e]; exact h)]
  · rw [if_neg h, if_neg (show ¬ hr g t (skp g' t a) = 102 by rw [e]; exact h)]
theorem mfW_b {g g' : Nat → Int32} {t : Nat} (hE : Bre g g' t) (a : Nat) : mfW g t a = mfW g' t a := by
  have e : (hr g t (skp g' t a) = 102) = (hr g' t (skp g' t a) = 102) := propext (hb_eq hE (skp g' t a) (c := 102) (by omega))
  unfold mfW
  rw [skp_b hE a, mnum_b hE, mnum_b hE]
  by_cases h : hr g' t (skp g' t a) = 102
  · rw [if_pos h, if_pos (show hr g t (skp g' t a) = 102 by rw [e]; exact h)]
  · rw [if_neg h, if_neg (show ¬ hr g t (skp g' t a) = 102 by rw [e]; exact h)]
theorem psum_b {g g' : Nat → Int32} {t : Nat} (hE : Bre g g' t) : ∀ n how a, psum g t n how a = psum g' t n how a := by
  have t47 : ∀ a, (hr g t a = 47) = (hr g' t a = 47) := fun a => propext (hb_eq hE a (c := 47) (by omega))
  have t43 : ∀ a, (hr g t a = 43) = (hr g' t a = 43) := fun a => propext (hb_eq hE a (c := 43) (by omega))
  have t45 : ∀ a, (hr g t a = 45) = (hr g' t a = 45) := fun a => propext (hb_eq hE a (c := 45) (by omega))
  intro n
  induction n with
  | zero => intro how a; rfl
  | succ n ih =>
    intro how a
    unfold psum
    simp only [t47, t43, t45, mfA_b hE, mfV_b hE, mfW_b hE, skp_b hE, ih]
theorem prule_b {g g' : Nat → Int32} {t : Nat} (hE : Bre g g' t) (a : Nat) : prule g t a = prule g' t a := by
  have e : ∀ (c : Nat), c < 128 → ∀ a, (hr g t a = nI c) = (hr g' t a = nI c) := fun c hc a => propext (hb_eq hE a hc)
  have t60 : ∀ a, (hr g t a = 60) = (hr g' t a = 60) := e 60 (by omega)
  have t61 : ∀ a, (hr g t a = 61) = (hr g' t a = 61) := e 61 (by omega)
  have t33 : ∀ a, (hr g t a = 33) = (hr g' t a = 33) := e 33 (by omega)
  have t59 : ∀ a, (hr g t a = 59) = (hr g' t a = 59) := e 59 (by omega)
  unfold prule
  rw [psum_b hE]
  cases psum g' t 4 1 a with
  | none => rfl
  | some q =>
    simp only [t60, t61, t33, t59, skp_b hE, psum_b hE]
    by_cases h : hr g' t (skp g' t q.2) = 60 ∨ hr g' t (skp g' t q.2) = 61 ∨ hr g' t (skp g' t q.2) = 33
    · rw [if_pos h, if_pos h]
      have ev : hr g t (skp g' t q.2) = hr g' t (skp g' t q.2) := by
        rcases h with z | z | z
        · rw [z, t60]; exact z
        · rw [z, t61]; exact z
        · rw [z, t33]; exact z
      rw [ev]
    · rw [if_neg h, if_neg h]
theorem crul_prul {g g' : Nat → Int32} {t : Nat} (hE : Bre g g' t) : ∀ (n a : Nat) (rs : List Ru), crul g t n a rs = prul g' t n a rs := by
  intro n
  induction n with
  | zero => intro a rs; rfl
  | succ n ih =>
    intro a rs
    have es := skp_b hE a
    by_cases h : t ≤ skp g t a
    · have h' : hr g' t (skp g' t a) < 0 := by
        rw [← es]
        have e : hr g' t (skp g t a) = -1 := if_pos h
        rw [e]; decide
      exact (if_pos h).trans (if_pos h').symm
    · have h' : ¬ hr g' t (skp g' t a) < 0 := by
        rw [← es, hr_g (by omega)]
        rcases hE (skp g t a) (by omega) with ⟨d, hd, h1, h2⟩ | ⟨h1, d, hd1, hd2, h2⟩
        · rw [h2]; exact nI_pos (by omega)
        · rw [h2]; exact nI_pos (by omega)
      refine (if_neg h).trans (Eq.trans ?_ (if_neg h').symm)
      rw [prule_b hE, es]
      by_cases h20 : rs.length = 20
      · rw [if_pos h20, if_pos h20]
      · rw [if_neg h20, if_neg h20]
        cases prule g' t (skp g' t a) with
        | none => rfl
        | some q => exact ih _ _
/-- what is read is in order -/
def RuO (rs : List Ru) : Prop := ∀ (q : Nat) (x : Ru), rs[q]? = some x → (∀ y ∈ x.1, tok y) ∧ ∀ y ∈ x.2.2, tok y
theorem prule_tok {g : Nat → Int32} {t a : Nat} {q : Ru × Nat} (ht : t ≤ 300) (ha : a ≤ t) (h : prule g t a = some q) : (∀ y ∈ q.1.1, tok y) ∧ ∀ y ∈ q.1.2.2, tok y := by
  cases h1 : csum g t 4 1 a with
  | none => rw [pr_n1 ht ha h1] at h; cases h
  | some p =>
    by_cases hs : hr g t (skp g t p.2) = 60 ∨ hr g t (skp g t p.2) = 61 ∨ hr g t (skp g t p.2) = 33
    · have hlt : skp g t p.2 + 1 ≤ t := by
        rcases hs with z | z | z
        · exact hr_lt2 z (by decide)
        · exact hr_lt2 z (by decide)
        · exact hr_lt2 z (by decide)
      cases h2 : csum g t 4 1 (skp g t p.2 + 1) with
      | none => rw [pr_n3 ht ha h1 hs hlt h2] at h; cases h
      | some u =>
        rw [pr_e ht ha h1 hs hlt h2] at h
        split at h
        · cases h
          exact ⟨csum_tok 4 1 a p (Or.inl rfl) h1, csum_tok 4 1 _ u (Or.inl rfl) h2⟩
        · cases h
    · rw [pr_n2 ht ha h1 hs] at h; cases h
theorem prule_le {g : Nat → Int32} {t a : Nat} {q : Ru × Nat} (ht : t ≤ 300) (h : prule g t a = some q) : q.2 ≤ t := by
  unfold prule at h
  split at h
  · cases h
  · split at h
    · split at h
      · cases h
      · split at h
        · rename_i h59
          cases h
          exact hr_lt2 h59 (by decide)
        · cases h
    · cases h
theorem crul_ok {g : Nat → Int32} {t : Nat} (ht : t ≤ 300) : ∀ (n a : Nat) (rs rs' : List Ru), a ≤ t → rs.length ≤ 20 → Lk rs → RuO rs → crul g t n a rs = some rs' → rs'.length ≤ 20 ∧ Lk rs' ∧ RuO rs' := by
  intro n
  induction n with
  | zero => intro a rs rs' ha hl hk ho h; cases h
  | succ n ih =>
    intro a rs rs' ha hl hk ho h
    by_cases h1 : t ≤ skp g t a
    · rw [crul_e h1] at h
      cases h
      exact ⟨hl, hk, ho⟩
    · by_cases h2 : rs.length = 20
      · rw [crul_f h1 h2] at h; cases h
      · cases hp : prule g t (skp g t a) with
        | none => rw [crul_n h1 hp] at h; cases h
        | some q =>
          rw [crul_s h1 h2 hp] at h
          obtain ⟨-, g2, g3⟩ := prule_gt ht (skp_le _ ha) hp
          obtain ⟨o1, o2⟩ := prule_tok ht (skp_le _ ha) hp
          refine ih q.2 (rs ++ [q.1]) rs' (prule_le ht hp) (by rw [len_snoc]; omega) (Lk_snoc hk g2 g3) (fun i x hx => ?_) h
          by_cases e : i < rs.length
          · rw [List.getElem?_append_left e] at hx
            exact ho i x hx
          · have hi : i = rs.length := by
              have := (List.getElem?_eq_some_iff.mp hx).1
              rw [List.length_append, List.length_singleton] at this
              omega
            subst hi
            rw [List.getElem?_append_right (Nat.le_refl _), Nat.sub_self] at hx
            cases hx
            exact ⟨o1, o2⟩
/-! ===== the bytes of sign, in the class and in the reference ===== -/
theorem bre_c : ∀ c : BitVec 8, bre (Int32.ofBitVec (c.signExtend 32)) (Int32.ofBitVec (c.setWidth 32)) := by
  intro c
  have h1 : ∀ k : Fin 128, Int32.ofBitVec ((BitVec.ofNat 8 k).signExtend 32) = nI k ∧ Int32.ofBitVec ((BitVec.ofNat 8 k).setWidth 32) = nI k := by decide +kernel
  have h2 : ∀ k : Fin 128, Int32.ofBitVec ((BitVec.ofNat 8 (128 + k)).signExtend 32) < 0 ∧ Int32.ofBitVec ((BitVec.ofNat 8 (128 + k)).setWidth 32) = nI (128 + k) := by decide +kernel
  have hc : c = BitVec.ofNat 8 c.toNat := by simp
  have hlt : c.toNat < 256 := c.isLt
  rcases Nat.lt_or_ge c.toNat 128 with z | z
  · obtain ⟨a1, a2⟩ := h1 ⟨c.toNat, z⟩
    rw [← hc] at a1 a2
    exact Or.inl ⟨c.toNat, z, a1, a2⟩
  · obtain ⟨a1, a2⟩ := h2 ⟨c.toNat - 128, by omega⟩
    have e : 128 + (c.toNat - 128) = c.toNat := by omega
    rw [show ((⟨c.toNat - 128, by omega⟩ : Fin 128) : Nat) = c.toNat - 128 from rfl, e, ← hc] at a1 a2
    exact Or.inr ⟨a1, c.toNat, z, hlt, a2⟩
theorem b255 : ∀ j : Fin 32, (255#32).getLsbD j = decide ((j : Nat) < 8) := by decide +kernel
theorem mby_c (B : Int64) {k : Nat} (hk : k < 8) : mby B k = Int32.ofBitVec ((BitVec.setWidth 8 (B.toBitVec >>> (8 * k))).setWidth 32) := by
  have hs : ((8 * nI k).toInt64 &&& 63) = Int64.ofNat (8 * k) := by
    have z : ∀ j : Fin 8, ((8 * nI j).toInt64 &&& 63) = Int64.ofNat (8 * (j : Nat)) := by decide +kernel
    exact z ⟨k, hk⟩
  unfold mby
  rw [hs]
  apply Int32.toBitVec_inj.mp
  have hsm : ((Int64.ofNat (8 * k)).toBitVec.smod 64).toNat = 8 * k := by
    have z : ∀ j : Fin 8, ((Int64.ofNat (8 * (j : Nat))).toBitVec.smod 64).toNat = 8 * (j : Nat) := by decide +kernel
    exact z ⟨k, hk⟩
  have e : (B >>> Int64.ofNat (8 * k)).toBitVec = B.toBitVec.sshiftRight (8 * k) := by
    rw [Int64.toBitVec_shiftRight]
    exact congrArg (B.toBitVec.sshiftRight) hsm
  have e2 : ((B >>> Int64.ofNat (8 * k)).toInt32 &&& 255).toBitVec = (B.toBitVec.sshiftRight (8 * k)).signExtend 32 &&& 255#32 := by
    rw [← e]
    rfl
  refine e2.trans ?_
  rw [BitVec.signExtend_eq_setWidth_of_le (B.toBitVec.sshiftRight (8 * k)) (by decide)]
  apply BitVec.eq_of_getLsbD_eq
  intro i hi
  have h255 : (255#32).getLsbD i = decide (i < 8) := b255 ⟨i, hi⟩
  rw [BitVec.getLsbD_and, h255, BitVec.getLsbD_setWidth, BitVec.getLsbD_sshiftRight]
  by_cases h8 : i < 8
  · simp [h8, hi]
    rw [if_pos (by omega)]
    have z : ¬ 64 ≤ i := by omega
    simp [z]
  · simp [h8]
theorem xby_c (B : Int64) {k : Nat} (hk : k < 8) : xby B k = Int32.ofBitVec ((BitVec.setWidth 8 (B.toBitVec >>> (8 * k))).signExtend 32) := by
  have hs : ((8 * nI k).toInt64.toUInt64 &&& Int64.toUInt64 63) = UInt64.ofNat (8 * k) := by
    have z : ∀ j : Fin 8, ((8 * nI j).toInt64.toUInt64 &&& Int64.toUInt64 63) = UInt64.ofNat (8 * (j : Nat)) := by decide +kernel
    exact z ⟨k, hk⟩
  unfold xby
  rw [hs]
  apply Int32.toBitVec_inj.mp
  have hm : (UInt64.ofNat (8 * k)).toBitVec % 64 = BitVec.ofNat 64 (8 * k) := by
    have z : ∀ j : Fin 8, (UInt64.ofNat (8 * (j : Nat))).toBitVec % 64 = BitVec.ofNat 64 (8 * (j : Nat)) := by decide +kernel
    exact z ⟨k, hk⟩
  show ((((B.toUInt64 >>> UInt64.ofNat (8 * k)).toInt64.toInt32.toInt8.toInt32).toInt8.toInt32)).toBitVec = _
  simp
  rw [show 8 * k % 64 = 8 * k by omega, BitVec.signExtend_eq_setWidth_of_le (B.toBitVec >>> (8 * k)) (by decide)]
theorem by_bre (B : Int64) {k : Nat} (hk : k < 8) : bre (xby B k) (mby B k) := by
  rw [xby_c B hk, mby_c B hk]
  exact bre_c _
theorem sl_bre (B : Int64) : ∀ (k t : Nat) (f g : Nat → Int32), k ≤ 8 → (∀ j, j < t → bre (f j) (g j)) → ∀ j, j < t + k → bre (xsl B k t f j) (msl B k t g j) := by
  intro k
  induction k with
  | zero => intro t f g hk h j hj; exact h j hj
  | succ k ih =>
    intro t f g hk h j hj
    refine ih (t + 1) (upd f t (xby B k)) (upd g t (mby B k)) (by omega) (fun i hi => ?_) j (by omega)
    by_cases e : i = t
    · subst e
      rw [pk_us, pk_us]
      exact by_bre B (by omega)
    · rw [pk_un e, pk_un e]
      exact h i (by omega)
/-! ===== the law's wrapper of act, where it answers: printed by program ===== -/
set_option maxHeartbeats 4000000 in
set_option maxRecDepth 100000 in
theorem w_act_r0 {l : Launch} (hl : l.stackTraces = false) {D : va_G} {cA : Nat → ClassId} {b n n1 xo oo mc ms : Nat} {h h1 : AH} {fs : List Value} (a0 : Int32) (a1 : Int32) (a2 : Int32) {z : Int32} {f : Nat → Int64} (hxn : xo < n) (hxo : h xo = .inr (0, fs)) (hX : Cn l D cA b y_X_act k_X_act 7 96 mc ms [.ref xo, .int a0, .int a1, .int a2] n h (Re (some (.int z)) n1 h1)) (hz : z = 0) (hoo : oo < n1) (hout : h1 oo = .inl (4, 1, .inr (.inl f))) : Cn l D cA b y_L_act k_L_act 8 114 mc ms [.ref xo, .int a0, .int a1, .int a2, .ref oo] n h (Re (some (.int 0)) n1 (hu h1 oo (.inl (4, 1, .inr (.inl (vp_updL f (0 : Int32).toNatClampNeg 0)))))) := by
  refine Cn.of (cc := b_L_act) (maxL := 6) (ret := (some .int)) (hh := [(0, 19, 22, 13), (0, 19, 26, 15), (0, 19, 30, 27)]) (by decide +kernel) hl (Or.inr rfl) (Nat.le_of_ble_eq_true rfl) ?_
  intro p e s m args below meth c C
  refine j_aload C d_L_act_0 rfl ?_
  refine j_iconst (v := 0) C d_L_act_2 (by decide) ?_
  refine j_aload_n C d_L_act_3 rfl rfl ?_
  refine j_iload_n C d_L_act_4 rfl rfl ?_
  refine j_iload_n C d_L_act_5 rfl rfl ?_
  refine j_iload_n C d_L_act_6 rfl rfl ?_
  refine j_callV C d_L_act_7 ml_L_29 mc_X_act in_X_act rfl se_X_act hxn hxo hX rfl rfl (Nat.le_of_ble_eq_true rfl) (Nat.le_of_ble_eq_true rfl) (Nat.le_of_eq (Nat.zero_add _)) (Nat.le_of_eq (Nat.zero_add _)) (jk_r ?_)
  refine j_if_eq (tgt := 17) C d_L_act_10 (by decide) (fun c10 => ?_) (fun c10 => ?_)
  · refine j_lconst (v := 0) C d_L_act_17 rfl ?_
    refine j_last (t := 4) (N := 1) C d_L_act_18 rfl hoo hout (vp_in_nI (n := 0) (by omega) (by omega)) rfl ?_
    refine j_goto (tgt := 34) C d_L_act_19 (by decide) ?_
    refine j_iconst (v := 0) C d_L_act_34 (by decide) ?_
    exact j_ireturn C d_L_act_35 rfl (Nat.le_of_eq (Nat.zero_add _)) (Nat.le_of_eq (Nat.zero_add _)) ⟨rfl, rfl, rfl⟩
  · exact absurd hz c10

set_option maxHeartbeats 4000000 in
set_option maxRecDepth 100000 in
theorem w_act_r1 {l : Launch} (hl : l.stackTraces = false) {D : va_G} {cA : Nat → ClassId} {b n n1 xo oo mc ms : Nat} {h h1 : AH} {fs : List Value} (a0 : Int32) (a1 : Int32) (a2 : Int32) {z : Int32} {f : Nat → Int64} (hxn : xo < n) (hxo : h xo = .inr (0, fs)) (hX : Cn l D cA b y_X_act k_X_act 7 96 mc ms [.ref xo, .int a0, .int a1, .int a2] n h (Re (some (.int z)) n1 h1)) (hz : ¬ z = 0) (hoo : oo < n1) (hout : h1 oo = .inl (4, 1, .inr (.inl f))) : Cn l D cA b y_L_act k_L_act 8 114 mc ms [.ref xo, .int a0, .int a1, .int a2, .ref oo] n h (Re (some (.int 0)) n1 (hu h1 oo (.inl (4, 1, .inr (.inl (vp_updL f (0 : Int32).toNatClampNeg 1)))))) := by
  refine Cn.of (cc := b_L_act) (maxL := 6) (ret := (some .int)) (hh := [(0, 19, 22, 13), (0, 19, 26, 15), (0, 19, 30, 27)]) (by decide +kernel) hl (Or.inr rfl) (Nat.le_of_ble_eq_true rfl) ?_
  intro p e s m args below meth c C
  refine j_aload C d_L_act_0 rfl ?_
  refine j_iconst (v := 0) C d_L_act_2 (by decide) ?_
  refine j_aload_n C d_L_act_3 rfl rfl ?_
  refine j_iload_n C d_L_act_4 rfl rfl ?_
  refine j_iload_n C d_L_act_5 rfl rfl ?_
  refine j_iload_n C d_L_act_6 rfl rfl ?_
  refine j_callV C d_L_act_7 ml_L_29 mc_X_act in_X_act rfl se_X_act hxn hxo hX rfl rfl (Nat.le_of_ble_eq_true rfl) (Nat.le_of_ble_eq_true rfl) (Nat.le_of_eq (Nat.zero_add _)) (Nat.le_of_eq (Nat.zero_add _)) (jk_r ?_)
  refine j_if_eq (tgt := 17) C d_L_act_10 (by decide) (fun c10 => ?_) (fun c10 => ?_)
  · exact absurd c10 hz
  · refine j_lconst (v := 1) C d_L_act_13 rfl ?_
    refine j_goto (tgt := 18) C d_L_act_14 (by decide) ?_
    refine j_last (t := 4) (N := 1) C d_L_act_18 rfl hoo hout (vp_in_nI (n := 0) (by omega) (by omega)) rfl ?_
    refine j_goto (tgt := 34) C d_L_act_19 (by decide) ?_
    refine j_iconst (v := 0) C d_L_act_34 (by decide) ?_
    exact j_ireturn C d_L_act_35 rfl (Nat.le_of_eq (Nat.zero_add _)) (Nat.le_of_eq (Nat.zero_add _)) ⟨rfl, rfl, rfl⟩
/-! ===== class and reference stand alike ===== -/
def Rel (lo n : Nat) (ξ : Nat → Int32) (β : Nat → Nat → Int32) (ρ : Nat → Option Nat) (u v : Nat) (h : AH) (σ : Nat → Int32) (α : Nat → Nat → Int32) : Prop :=
  ∃ (nr : Nat) (cs : Nat → Nat) (I K T F : Nat → Int32) (Z G W : Nat → Nat → Int32) (t : Nat) (rs : List Ru) (qk : List (Int32 × Int32)) (ql : List Int32),
    (nr ≤ 30 ∧ ξ 0 = nI nr ∧ σ 2 = nI nr) ∧ Rpf lo n ρ h nr cs I K T F Z G W ∧ (∀ j, j < nr → rlR j (I j) (K j) (T j) (F j) (Z j) (G j) (W j) (α 3) (α 4) (α 5) (α 6) (α 7) (α 8) (α 9) (α 10) (α 11) (α 12) (α 13)) ∧ rlF nr (α 6) (α 8) (α 10) (α 11) (α 12) (α 13) ∧
    rlC (ξ 1) (σ 1) ∧ rlT (ξ 2) (β 4) (σ 16) (α 17) t ∧ rlA (β 2) (α 14) ∧ rlH (β 3) (α 15) ∧ rlK (ξ 8) (β 21) (β 22) (σ 34) (α 35) (α 36) qk ∧ rlL (ξ 10) (β 27) (σ 37) (α 38) ql ∧
    ((u = 6 ∧ v = 13 ∧ rlU 6 (ξ 6) β (σ 21) α rs) ∨ (u = 13 ∧ v = 6 ∧ rlU 13 (ξ 7) β (σ 21) α rs)) ∧ (rlB (α 10) ∧ rlB (α 11) ∧ rlB (α 12) ∧ rlB (α 14) ∧ rlB (α 15))
theorem Rel0 (lo n : Nat) (h : AH) : Rel lo n ξ0 β0 ρ0 6 13 h σ0 β0 :=
  ⟨0, fun _ => 0, fun _ => 0, fun _ => 0, fun _ => 0, fun _ => 0, fun _ _ => 0, fun _ _ => 0, fun _ _ => 0, 0, [], [], [], ⟨by omega, by decide, by decide⟩, Rpf0 _ _ _ _ _ _ _ _ _ _ _, fun j hj => absurd hj (by omega), rlF0, rlC0, rlT0, rlA0, rlH0, rlK0, rlL0, Or.inl ⟨rfl, rfl, rlU0⟩, fun _ => show vp_nar .boolean 0 = 0 from rfl, fun _ => show vp_nar .boolean 0 = 0 from rfl, fun _ => show vp_nar .boolean 0 = 0 from rfl, fun _ => show vp_nar .boolean 0 = 0 from rfl, fun _ => show vp_nar .boolean 0 = 0 from rfl⟩
/-- a cell that is none of the reports' changes, or is new -/
theorem Rel.hu {lo n n' : Nat} {ξ : Nat → Int32} {β : Nat → Nat → Int32} {ρ : Nat → Option Nat} {u v : Nat} {h : AH} {σ : Nat → Int32} {α : Nat → Nat → Int32} (hR : Rel lo n ξ β ρ u v h σ α) {a : Nat} {x : AC} (hn : n ≤ n') (ha : a < lo ∨ n ≤ a) : Rel lo n' ξ β ρ u v (hu h a x) σ α := by
  obtain ⟨nr, cs, I, K, T, F, Z, G, W, t, rs, qk, ql, h1, h2, h3⟩ := hR
  exact ⟨nr, cs, I, K, T, F, Z, G, W, t, rs, qk, ql, h1, h2.hu hn ha, h3⟩
theorem Rel.M {lo n mo : Nat} {ξ : Nat → Int32} {β : Nat → Nat → Int32} {ρ : Nat → Option Nat} {u v : Nat} {h : AH} {σ : Nat → Int32} {α : Nat → Nat → Int32} (hR : Rel lo n ξ β ρ u v h σ α) (σ' : Nat → Int32) (α' : Nat → Nat → Int32) (hl : mo + 28 ≤ lo) : Rel lo n ξ β ρ u v (ovM mo σ' α' h) σ α := by
  obtain ⟨nr, cs, I, K, T, F, Z, G, W, t, rs, qk, ql, h1, h2, h3⟩ := hR
  exact ⟨nr, cs, I, K, T, F, Z, G, W, t, rs, qk, ql, h1, h2.M σ' α' hl, h3⟩
/-- what was thrown, and the place, are of no account -/
theorem Rel.thrown {lo n : Nat} {ξ : Nat → Int32} {β : Nat → Nat → Int32} {ρ : Nat → Option Nat} {u v : Nat} {h : AH} {σ : Nat → Int32} {α : Nat → Nat → Int32} (hR : Rel lo n ξ β ρ u v h σ α) (x : Int32) : Rel lo n ξ β ρ u v h (upd σ 0 x) α := hR
theorem Rel.place {lo n : Nat} {ξ : Nat → Int32} {β : Nat → Nat → Int32} {ρ : Nat → Option Nat} {u v : Nat} {h : AH} {σ : Nat → Int32} {α : Nat → Nat → Int32} (hR : Rel lo n ξ β ρ u v h σ α) (x : Int32) : Rel lo n ξ β ρ u v h (upd σ 18 x) α := hR
/-- the clock -/
theorem Rel.now {lo n : Nat} {ξ : Nat → Int32} {β : Nat → Nat → Int32} {ρ : Nat → Option Nat} {u v : Nat} {h : AH} {σ : Nat → Int32} {α : Nat → Nat → Int32} (hR : Rel lo n ξ β ρ u v h σ α) {x y : Int32} (hc : rlC x y) : Rel lo n (upd ξ 1 x) β ρ u v h (upd σ 1 y) α := by
  obtain ⟨nr, cs, I, K, T, F, Z, G, W, t, rs, qk, ql, h1, h2, h3, h4, h5, h6, h7, h8, h9, h10, h11, h12⟩ := hR
  exact ⟨nr, cs, I, K, T, F, Z, G, W, t, rs, qk, ql, h1, h2, h3, h4, hc, h6, h7, h8, h9, h10, h11, h12⟩
/-- the tape -/
theorem Rel.tape {lo n : Nat} {ξ : Nat → Int32} {β : Nat → Nat → Int32} {ρ : Nat → Option Nat} {u v : Nat} {h : AH} {σ : Nat → Int32} {α : Nat → Nat → Int32} (hR : Rel lo n ξ β ρ u v h σ α) {x y : Int32} {f g : Nat → Int32} {t : Nat} (hc : rlT x f y g t) : Rel lo n (upd ξ 2 x) (upa β 4 f) ρ u v h (upd σ 16 y) (upa α 17 g) := by
  obtain ⟨nr, cs, I, K, T, F, Z, G, W, t0, rs, qk, ql, h1, h2, h3, h4, h5, h6, h7, h8, h9, h10, h11, h12⟩ := hR
  refine ⟨nr, cs, I, K, T, F, Z, G, W, t, rs, qk, ql, h1, h2, h3, h4, h5, hc, h7, h8, h9, h10, ?_, h12⟩
  rcases h11 with ⟨e1, e2, z⟩ | ⟨e1, e2, z⟩
  · exact Or.inl ⟨e1, e2, z⟩
  · exact Or.inr ⟨e1, e2, z⟩
/-- the fields asked -/
theorem Rel.asks {lo n : Nat} {ξ : Nat → Int32} {β : Nat → Nat → Int32} {ρ : Nat → Option Nat} {u v : Nat} {h : AH} {σ : Nat → Int32} {α : Nat → Nat → Int32} (hR : Rel lo n ξ β ρ u v h σ α) {f g : Nat → Int32} (hc : rlA f g) (hb : rlB g) : Rel lo n ξ (upa β 2 f) ρ u v h σ (upa α 14 g) := by
  obtain ⟨nr, cs, I, K, T, F, Z, G, W, t0, rs, qk, ql, h1, h2, h3, h4, h5, h6, h7, h8, h9, h10, h11, h12⟩ := hR
  refine ⟨nr, cs, I, K, T, F, Z, G, W, t0, rs, qk, ql, h1, h2, h3, h4, h5, h6, hc, h8, h9, h10, ?_, h12.1, h12.2.1, h12.2.2.1, hb, h12.2.2.2.2⟩
  rcases h11 with ⟨e1, e2, z⟩ | ⟨e1, e2, z⟩
  · exact Or.inl ⟨e1, e2, z⟩
  · exact Or.inr ⟨e1, e2, z⟩
/-- the fields hidden -/
theorem Rel.hides {lo n : Nat} {ξ : Nat → Int32} {β : Nat → Nat → Int32} {ρ : Nat → Option Nat} {u v : Nat} {h : AH} {σ : Nat → Int32} {α : Nat → Nat → Int32} (hR : Rel lo n ξ β ρ u v h σ α) {f g : Nat → Int32} (hc : rlH f g) (hb : rlB g) : Rel lo n ξ (upa β 3 f) ρ u v h σ (upa α 15 g) := by
  obtain ⟨nr, cs, I, K, T, F, Z, G, W, t0, rs, qk, ql, h1, h2, h3, h4, h5, h6, h7, h8, h9, h10, h11, h12⟩ := hR
  refine ⟨nr, cs, I, K, T, F, Z, G, W, t0, rs, qk, ql, h1, h2, h3, h4, h5, h6, h7, hc, h9, h10, ?_, h12.1, h12.2.1, h12.2.2.1, h12.2.2.2.1, hb⟩
  rcases h11 with ⟨e1, e2, z⟩ | ⟨e1, e2, z⟩
  · exact Or.inl ⟨e1, e2, z⟩
  · exact Or.inr ⟨e1, e2, z⟩
/-! ===== what asks, hides and signs change ===== -/
theorem nb01 {on : Int32} (h : on = 0 ∨ on = 1) : vp_nar .boolean on = on := by
  rcases h with rfl | rfl
  · rfl
  · rfl
theorem rlA_ask {f g : Nat → Int32} {k e : Nat} {on : Int32} (h : rlA f g) (hk : k < 5) (he : e < 20) (ho : on = 0 ∨ on = 1) : rlA (upd f k (xch (f k) (nI e) on)) (upd g (20 * k + e) (vp_nar .boolean on)) := by
  intro k' e' hk' he'
  rw [nb01 ho]
  by_cases e1 : k' = k
  · subst e1
    rw [pk_us, xhs_ch _ _ (by omega) (by omega)]
    by_cases e2 : e' = e
    · subst e2
      rw [if_pos rfl, pk_us]
      rcases ho with rfl | rfl
      · decide
      · decide
    · rw [if_neg e2, pk_un (by omega)]
      exact h k' e' hk' he'
  · rw [pk_un e1, pk_un (by omega)]
    exact h k' e' hk' he'
theorem rlH_hide {f g : Nat → Int32} {q e : Nat} {on : Int32} (h : rlH f g) (hq : q < 20) (he : e < 20) (ho : on = 0 ∨ on = 1) : rlH (upd f q (xch (f q) (nI e) on)) (upd g (20 * e + q) (vp_nar .boolean on)) := by
  intro q' e' hq' he'
  rw [nb01 ho]
  by_cases e1 : q' = q
  · subst e1
    rw [pk_us, xhs_ch _ _ (by omega) (by omega)]
    by_cases e2 : e' = e
    · subst e2
      rw [if_pos rfl, pk_us]
      rcases ho with rfl | rfl
      · decide
      · decide
    · rw [if_neg e2, pk_un (by omega)]
      exact h q' e' hq' he'
  · rw [pk_un e1, pk_un (by omega)]
    exact h q' e' hq' he'
theorem rlB_u {g : Nat → Int32} {k : Nat} {on : Int32} (h : rlB g) (ho : on = 0 ∨ on = 1) : rlB (upd g k (vp_nar .boolean on)) := fun j => by
  by_cases e : j = k
  · subst e
    rw [pk_us, nb01 ho, nb01 ho]
  · rw [pk_un e]
    exact h j
theorem rlT_sign {x y : Int32} {f g : Nat → Int32} {t k : Nat} (B : Int64) (h : rlT x f y g t) (hk : k ≤ 8) (ht : t + k ≤ 300) : rlT (nI (t + k)) (xsl B k t f) (nI (t + k)) (msl B k t g) (t + k) :=
  ⟨ht, rfl, rfl, sl_bre B k t f g hk h.2.2.2⟩
theorem Rel.ask {lo n : Nat} {ξ : Nat → Int32} {β : Nat → Nat → Int32} {ρ : Nat → Option Nat} {u v : Nat} {h : AH} {σ : Nat → Int32} {α : Nat → Nat → Int32} (hR : Rel lo n ξ β ρ u v h σ α) {k e : Nat} {on : Int32} (hk : k < 5) (he : e < 20) (ho : on = 0 ∨ on = 1) : Rel lo n ξ (upa β 2 (upd (β 2) k (xch (β 2 k) (nI e) on))) ρ u v h σ (upa α 14 (upd (α 14) (20 * k + e) (vp_nar .boolean on))) := by
  have hR' := hR
  obtain ⟨nr, cs, I, K, T, F, Z, G, W, t0, rs, qk, ql, h1, h2, h3, h4, h5, h6, h7, h8, h9, h10, h11, h12⟩ := hR'
  exact hR.asks (rlA_ask h7 hk he ho) (rlB_u h12.2.2.2.1 ho)
theorem Rel.hide {lo n : Nat} {ξ : Nat → Int32} {β : Nat → Nat → Int32} {ρ : Nat → Option Nat} {u v : Nat} {h : AH} {σ : Nat → Int32} {α : Nat → Nat → Int32} (hR : Rel lo n ξ β ρ u v h σ α) {q e : Nat} {on : Int32} (hq : q < 20) (he : e < 20) (ho : on = 0 ∨ on = 1) : Rel lo n ξ (upa β 3 (upd (β 3) q (xch (β 3 q) (nI e) on))) ρ u v h σ (upa α 15 (upd (α 15) (20 * e + q) (vp_nar .boolean on))) := by
  have hR' := hR
  obtain ⟨nr, cs, I, K, T, F, Z, G, W, t0, rs, qk, ql, h1, h2, h3, h4, h5, h6, h7, h8, h9, h10, h11, h12⟩ := hR'
  exact hR.hides (rlH_hide h8 hq he ho) (rlB_u h12.2.2.2.2 ho)
