/-! ===== the class's rules of any text: printed by program ===== -/
/-- it throws one of the class ci, with a heap so that P -/
def Tp (ci n1 : Nat) (P : AH → Prop) : Rz → Nat → AH → Prop := fun r n h => r = .inr ci ∧ n = n1 ∧ P h
section JTp
variable {p : Program} {l : Launch} {e : Env} {R : Room} {s : State} {m : MethodId} {args : Array Value} {below : List Frame} {meth : Method} {c : Code} {D : va_G} {cA : Nat → ClassId} {b nL : Nat} {Q : State → Prop} {n : Nat} {h : AH} {kc ks pc : Nat} {L : List (Nat × Value)} {st : List Value} {own mn : String} {cc : ByteArray} {ret : Option FieldType} {hh : List (Nat × Nat × Nat × Nat)} {Qa : Rz → Nat → AH → Prop} {mc ms : Nat}
theorem jk_cp (C : Cx p l s m meth c D cA b nL own mn cc ret hh) {ci n1 : Nat} {P : AH → Prop} {E name : String} {T0 : u_T} (hE : g_cl[ci]? = some (E, T0, 0)) (pre : List ExceptionTableEntry) (x : ExceptionTableEntry) (suf : List ExceptionTableEntry) (hsplit : tableOf hh = pre ++ x :: suf)
    (hpass : ∀ z ∈ pre, covers z pc = false ∨ (z.catchType ≠ 0 ∧ ∃ nm : String, Cond.classLink own z.catchType nm ∈ g_ws ∧ (E, nm) ∈ g_nc)) (hcv : covers x pc = true) (h0 : x.catchType ≠ 0)
    (hlink : Cond.classLink own x.catchType name ∈ g_ws) (hcast : Cond.castable E name ∈ g_ws)
    (kk : ∀ q h1, P h1 → J p l e R s m args below meth c D cA b nL Q n1 h1 kc ks x.handlerPc L [.ref q]) : JK p l e R s m args below meth c D cA b nL Q kc ks pc L st (Tp ci n1 P) := by
  refine ⟨fun v n' h' hq => (by cases hq.1), fun ci' n' h' q hq hqn hqx => ?_⟩
  obtain ⟨e1, rfl, hp⟩ := hq
  cases e1
  exact jx_catch C hE pre x suf hsplit hpass hcv h0 hlink hcast hqn hqx (kk q h' hp)
end JTp
set_option maxHeartbeats 4000000 in
set_option maxRecDepth 100000 in
theorem w_rules_t {l : Launch} (hl : l.stackTraces = false) {D : va_G} {cA : Nat → ClassId} {b n n1 xo oo mc ms : Nat} {h : AH} {P : AH → Prop} {fs : List Value} (hxn : xo < n) (hxo : h xo = .inr (0, fs)) (hX : Cn l D cA b y_X_rules k_X_rules 6 97 mc ms [.ref xo] n h (Tp 9 n1 P)) : Cn l D cA b y_L_rules k_L_rules 7 112 mc ms [.ref xo, .ref oo] n h (Rp (some (.int 1)) n1 P) := by
  refine Cn.of (cc := b_L_rules) (maxL := 3) (ret := (some .int)) (hh := [(0, 8, 11, 27)]) (by decide +kernel) hl (Or.inr rfl) (Nat.le_of_ble_eq_true rfl) ?_
  intro p e s m args below meth c C
  refine j_aload_n C d_L_rules_0 rfl rfl ?_
  refine j_iconst (v := 0) C d_L_rules_1 (by decide) ?_
  refine j_aload_n C d_L_rules_2 rfl rfl ?_
  refine j_callV C d_L_rules_3 ml_L_41 mc_X_rules in_X_rules rfl se_X_rules hxn hxo hX rfl rfl (Nat.le_of_ble_eq_true rfl) (Nat.le_of_ble_eq_true rfl) (Nat.le_of_eq (Nat.zero_add _)) (Nat.le_of_eq (Nat.zero_add _)) (jk_cp C (E := cR9) rfl [] ⟨0, 8, 11, 27⟩ [] rfl (fun z hz => nomatch hz) (by decide) (by decide) cl_L_27 ca_9 (fun q h1 hP => ?_))
  refine j_astore_n C d_L_rules_11 rfl (by decide) rfl ?_
  refine j_iconst (v := 1) C d_L_rules_12 (by decide) ?_
  exact j_ireturn C d_L_rules_13 rfl (Nat.le_of_eq (Nat.zero_add _)) (Nat.le_of_eq (Nat.zero_add _)) ⟨rfl, rfl, hP⟩

set_option maxHeartbeats 4000000 in
set_option maxRecDepth 100000 in
theorem w_rules_p {l : Launch} (hl : l.stackTraces = false) {D : va_G} {cA : Nat → ClassId} {b n n1 xo oo mc ms : Nat} {h : AH} {P : AH → Prop} {fs : List Value} (hxn : xo < n) (hxo : h xo = .inr (0, fs)) {z : Int32} {f : Nat → Int64} (hX : Cn l D cA b y_X_rules k_X_rules 6 97 mc ms [.ref xo] n h (Rp (some (.int z)) n1 P)) (hoo : oo < n1) (hout : ∀ h1, P h1 → h1 oo = .inl (4, 1, .inr (.inl f))) : Cn l D cA b y_L_rules k_L_rules 7 112 mc ms [.ref xo, .ref oo] n h (Rp (some (.int 0)) n1 (fun h' => ∃ h1, P h1 ∧ h' = hu h1 oo (.inl (4, 1, .inr (.inl (vp_updL f (0 : Int32).toNatClampNeg z.toInt64)))))) := by
  refine Cn.of (cc := b_L_rules) (maxL := 3) (ret := (some .int)) (hh := [(0, 8, 11, 27)]) (by decide +kernel) hl (Or.inr rfl) (Nat.le_of_ble_eq_true rfl) ?_
  intro p e s m args below meth c C
  refine j_aload_n C d_L_rules_0 rfl rfl ?_
  refine j_iconst (v := 0) C d_L_rules_1 (by decide) ?_
  refine j_aload_n C d_L_rules_2 rfl rfl ?_
  refine j_callV C d_L_rules_3 ml_L_41 mc_X_rules in_X_rules rfl se_X_rules hxn hxo hX rfl rfl (Nat.le_of_ble_eq_true rfl) (Nat.le_of_ble_eq_true rfl) (Nat.le_of_eq (Nat.zero_add _)) (Nat.le_of_eq (Nat.zero_add _)) (jk_p (fun h1 hP => ?_))
  refine j_i2l C d_L_rules_6 rfl ?_
  refine j_last (t := 4) (N := 1) C d_L_rules_7 rfl hoo (hout h1 hP) (vp_in_nI (n := 0) (by omega) (by omega)) rfl ?_
  refine j_goto (tgt := 14) C d_L_rules_8 (by decide) ?_
  refine j_iconst (v := 0) C d_L_rules_14 (by decide) ?_
  exact j_ireturn C d_L_rules_15 rfl (Nat.le_of_eq (Nat.zero_add _)) (Nat.le_of_eq (Nat.zero_add _)) ⟨rfl, rfl, h1, hP, rfl⟩

set_option maxHeartbeats 4000000 in
set_option maxRecDepth 100000 in
theorem c_X_rules_6_s {l : Launch} (hl : l.stackTraces = false) {D : va_G} {cA : Nat → ClassId} {b n : Nat} {xo : Nat} {ξ : Nat → Int32} {β : Nat → Nat → Int32} {ρ : Nat → Option Nat} (h : AH) (hn : xo + 28 ≤ n) (t : Nat) (ht : t ≤ 300) (hz : ξ 2 = nI t) (rs0 : List Ru) (hR : crul (β 4) t (t + 1) 0 [] = some rs0) : Cn l D cA b y_X_rules k_X_rules 6 97 1 6 [.ref xo] n (ovX xo ξ β ρ 13 6 h) (Rp (some (.int (nI rs0.length))) n (fun h' => ∃ (a' : Nat) (β' : Nat → Nat → Int32), h' = ovX xo (upd (upd (xq (upd (upd ξ 4 (nI t)) 6 (nI rs0.length)) a') 3 (-1)) 2 0) β' ρ 6 13 h ∧ Abw 6 β' β ∧ RuX (β' (6 + 1)) (β' (6 + 2)) (β' (6 + 3)) (β' (6 + 4)) (β' (6 + 5)) (β' (6 + 6)) rs0)) := by
  refine Cn.of (cc := b_X_rules) (maxL := 2) (ret := (some .int)) (hh := []) (by decide +kernel) hl (Or.inl ⟨rfl, rfl⟩) (Nat.le_of_ble_eq_true rfl) ?_
  intro p e s m args below meth c C
  refine j_aload_n C d_X_rules_0 rfl rfl ?_
  refine j_aload_n C d_X_rules_1 rfl rfl ?_
  refine jx_get 0 C fl_0_41 d_X_rules_2 hn rfl rfl ?_
  refine j_aload_n C d_X_rules_5 rfl rfl ?_
  refine jx_get 0 C fl_0_52 d_X_rules_6 hn rfl rfl ?_
  refine j_aload_n C d_X_rules_9 rfl rfl ?_
  refine jx_get 0 C fl_0_33 d_X_rules_10 hn rfl rfl ?_
  rw [hz]
  refine j_callV C d_X_rules_13 ml_X_151 mc_RR_readInto in_RR_readInto rfl se_RR_readInto (by omega) (ovX_c (o := 5) rfl) (c_RR_readInto_6_s hl h hn t ht rs0 hR) rfl rfl (Nat.le_of_ble_eq_true rfl) (Nat.le_of_ble_eq_true rfl) (Nat.le_of_ble_eq_true rfl) (Nat.le_of_ble_eq_true rfl) (jk_p (fun h9 hP9 => ?_))
  obtain ⟨a9, β9, rfl, hA9, hX9⟩ := hP9
  refine jx_puti 0 3 C fp_0_55 d_X_rules_16 hn rfl (Nat.le_of_ble_eq_true rfl) rfl rfl rfl ?_
  refine j_aload_n C d_X_rules_19 rfl rfl ?_
  refine j_iconst (v := 0) C d_X_rules_20 (by decide) ?_
  refine jx_puti 0 2 C fp_0_33 d_X_rules_21 hn rfl (Nat.le_of_ble_eq_true rfl) rfl rfl rfl ?_
  refine j_aload_n C d_X_rules_24 rfl rfl ?_
  refine jx_get 0 C fl_0_55 d_X_rules_25 hn rfl rfl ?_
  refine j_iconst (v := (-1)) C d_X_rules_28 (by decide) ?_
  refine j_icmp_eq (tgt := 42) C d_X_rules_29 (by decide) (fun c29 => ?_) (fun c29 => ?_)
  · refine j_aload_n C d_X_rules_42 rfl rfl ?_
    refine jx_get 0 C fl_0_48 d_X_rules_43 hn rfl rfl ?_
    refine j_astore_n C d_X_rules_46 rfl (by decide) rfl ?_
    refine j_aload_n C d_X_rules_47 rfl rfl ?_
    refine j_aload_n C d_X_rules_48 rfl rfl ?_
    refine jx_get 0 C fl_0_52 d_X_rules_49 hn rfl rfl ?_
    refine jx_put (ξ' := (upd (upd (xq (upd (upd ξ 4 (nI t)) 6 (nI rs0.length)) a9) 3 (-1)) 2 0)) (β' := β9) (ρ' := ρ) (u' := 6) (v' := 6) 0 C fp_0_48 d_X_rules_52 hn rfl (Nat.le_of_ble_eq_true rfl) rfl rfl rfl ?_
    refine j_aload_n C d_X_rules_55 rfl rfl ?_
    refine j_aload_n C d_X_rules_56 rfl rfl ?_
    refine jx_put (ξ' := (upd (upd (xq (upd (upd ξ 4 (nI t)) 6 (nI rs0.length)) a9) 3 (-1)) 2 0)) (β' := β9) (ρ' := ρ) (u' := 6) (v' := 13) 0 C fp_0_52 d_X_rules_57 hn rfl (Nat.le_of_ble_eq_true rfl) rfl rfl rfl ?_
    refine j_aload_n C d_X_rules_60 rfl rfl ?_
    refine jx_get 0 C fl_0_48 d_X_rules_61 hn rfl rfl ?_
    refine jx_get 6 C fl_0_157 d_X_rules_64 hn rfl rfl ?_
    exact j_ireturn C d_X_rules_67 rfl (by decide) (by decide) ⟨rfl, rfl, a9, β9, rfl, hA9, hX9⟩
  · exact absurd rfl c29

set_option maxHeartbeats 4000000 in
set_option maxRecDepth 100000 in
theorem c_X_rules_6_n {l : Launch} (hl : l.stackTraces = false) {D : va_G} {cA : Nat → ClassId} {b n : Nat} {xo : Nat} {ξ : Nat → Int32} {β : Nat → Nat → Int32} {ρ : Nat → Option Nat} (h : AH) (hn : xo + 28 ≤ n) (t : Nat) (ht : t ≤ 300) (hz : ξ 2 = nI t) (hR : crul (β 4) t (t + 1) 0 [] = none) : Cn l D cA b y_X_rules k_X_rules 6 97 1 6 [.ref xo] n (ovX xo ξ β ρ 13 6 h) (Tp 9 (n + 1) (fun h' => ∃ (a' k' : Nat) (β' : Nat → Nat → Int32), a' ≤ t ∧ h' = hu (ovX xo (upd (upd (xq (upd (upd ξ 4 (nI t)) 6 (nI k')) a') 3 (nI a')) 2 0) β' ρ 13 6 h) n (.inr (9, [])) ∧ Abw 6 β' β)) := by
  refine Cn.of (cc := b_X_rules) (maxL := 2) (ret := (some .int)) (hh := []) (by decide +kernel) hl (Or.inl ⟨rfl, rfl⟩) (Nat.le_of_ble_eq_true rfl) ?_
  intro p e s m args below meth c C
  refine j_aload_n C d_X_rules_0 rfl rfl ?_
  refine j_aload_n C d_X_rules_1 rfl rfl ?_
  refine jx_get 0 C fl_0_41 d_X_rules_2 hn rfl rfl ?_
  refine j_aload_n C d_X_rules_5 rfl rfl ?_
  refine jx_get 0 C fl_0_52 d_X_rules_6 hn rfl rfl ?_
  refine j_aload_n C d_X_rules_9 rfl rfl ?_
  refine jx_get 0 C fl_0_33 d_X_rules_10 hn rfl rfl ?_
  rw [hz]
  refine j_callV C d_X_rules_13 ml_X_151 mc_RR_readInto in_RR_readInto rfl se_RR_readInto (by omega) (ovX_c (o := 5) rfl) (c_RR_readInto_6_n hl h hn t ht hR) rfl rfl (Nat.le_of_ble_eq_true rfl) (Nat.le_of_ble_eq_true rfl) (Nat.le_of_ble_eq_true rfl) (Nat.le_of_ble_eq_true rfl) (jk_w (fun w9 h9 hP9 => ?_))
  obtain ⟨a9, k9, β9, ha9, rfl, rfl, hA9⟩ := hP9
  refine jx_puti 0 3 C fp_0_55 d_X_rules_16 hn rfl (Nat.le_of_ble_eq_true rfl) rfl rfl rfl ?_
  refine j_aload_n C d_X_rules_19 rfl rfl ?_
  refine j_iconst (v := 0) C d_X_rules_20 (by decide) ?_
  refine jx_puti 0 2 C fp_0_33 d_X_rules_21 hn rfl (Nat.le_of_ble_eq_true rfl) rfl rfl rfl ?_
  refine j_aload_n C d_X_rules_24 rfl rfl ?_
  refine jx_get 0 C fl_0_55 d_X_rules_25 hn rfl rfl ?_
  refine j_iconst (v := (-1)) C d_X_rules_28 (by decide) ?_
  refine j_icmp_eq (tgt := 42) C d_X_rules_29 (by decide) (fun c29 => ?_) (fun c29 => ?_)
  · exact absurd (show nI a9 = -1 from c29) (fun y => absurd (show (0 : Int32) ≤ -1 from y ▸ nI_pos' (by omega)) (by decide))
  · exact j_throwS (text := "the text is wrong") C th_9 (by decide +kernel) rfl d_X_rules_32 d_X_rules_35 d_X_rules_36 d_X_rules_38 d_X_rules_41 (Nat.le_of_ble_eq_true rfl) (Nat.le_of_ble_eq_true rfl) (Nat.le_of_ble_eq_true rfl) (Nat.le_of_ble_eq_true rfl) (Nat.le_of_ble_eq_true rfl) (Nat.le_of_ble_eq_true rfl) ⟨rfl, rfl, a9, k9, β9, ha9, rfl, hA9⟩

set_option maxHeartbeats 4000000 in
set_option maxRecDepth 100000 in
theorem c_X_rules_13_s {l : Launch} (hl : l.stackTraces = false) {D : va_G} {cA : Nat → ClassId} {b n : Nat} {xo : Nat} {ξ : Nat → Int32} {β : Nat → Nat → Int32} {ρ : Nat → Option Nat} (h : AH) (hn : xo + 28 ≤ n) (t : Nat) (ht : t ≤ 300) (hz : ξ 2 = nI t) (rs0 : List Ru) (hR : crul (β 4) t (t + 1) 0 [] = some rs0) : Cn l D cA b y_X_rules k_X_rules 6 97 1 6 [.ref xo] n (ovX xo ξ β ρ 6 13 h) (Rp (some (.int (nI rs0.length))) n (fun h' => ∃ (a' : Nat) (β' : Nat → Nat → Int32), h' = ovX xo (upd (upd (xq (upd (upd ξ 4 (nI t)) 7 (nI rs0.length)) a') 3 (-1)) 2 0) β' ρ 13 6 h ∧ Abw 13 β' β ∧ RuX (β' (13 + 1)) (β' (13 + 2)) (β' (13 + 3)) (β' (13 + 4)) (β' (13 + 5)) (β' (13 + 6)) rs0)) := by
  refine Cn.of (cc := b_X_rules) (maxL := 2) (ret := (some .int)) (hh := []) (by decide +kernel) hl (Or.inl ⟨rfl, rfl⟩) (Nat.le_of_ble_eq_true rfl) ?_
  intro p e s m args below meth c C
  refine j_aload_n C d_X_rules_0 rfl rfl ?_
  refine j_aload_n C d_X_rules_1 rfl rfl ?_
  refine jx_get 0 C fl_0_41 d_X_rules_2 hn rfl rfl ?_
  refine j_aload_n C d_X_rules_5 rfl rfl ?_
  refine jx_get 0 C fl_0_52 d_X_rules_6 hn rfl rfl ?_
  refine j_aload_n C d_X_rules_9 rfl rfl ?_
  refine jx_get 0 C fl_0_33 d_X_rules_10 hn rfl rfl ?_
  rw [hz]
  refine j_callV C d_X_rules_13 ml_X_151 mc_RR_readInto in_RR_readInto rfl se_RR_readInto (by omega) (ovX_c (o := 5) rfl) (c_RR_readInto_13_s hl h hn t ht rs0 hR) rfl rfl (Nat.le_of_ble_eq_true rfl) (Nat.le_of_ble_eq_true rfl) (Nat.le_of_ble_eq_true rfl) (Nat.le_of_ble_eq_true rfl) (jk_p (fun h9 hP9 => ?_))
  obtain ⟨a9, β9, rfl, hA9, hX9⟩ := hP9
  refine jx_puti 0 3 C fp_0_55 d_X_rules_16 hn rfl (Nat.le_of_ble_eq_true rfl) rfl rfl rfl ?_
  refine j_aload_n C d_X_rules_19 rfl rfl ?_
  refine j_iconst (v := 0) C d_X_rules_20 (by decide) ?_
  refine jx_puti 0 2 C fp_0_33 d_X_rules_21 hn rfl (Nat.le_of_ble_eq_true rfl) rfl rfl rfl ?_
  refine j_aload_n C d_X_rules_24 rfl rfl ?_
  refine jx_get 0 C fl_0_55 d_X_rules_25 hn rfl rfl ?_
  refine j_iconst (v := (-1)) C d_X_rules_28 (by decide) ?_
  refine j_icmp_eq (tgt := 42) C d_X_rules_29 (by decide) (fun c29 => ?_) (fun c29 => ?_)
  · refine j_aload_n C d_X_rules_42 rfl rfl ?_
    refine jx_get 0 C fl_0_48 d_X_rules_43 hn rfl rfl ?_
    refine j_astore_n C d_X_rules_46 rfl (by decide) rfl ?_
    refine j_aload_n C d_X_rules_47 rfl rfl ?_
    refine j_aload_n C d_X_rules_48 rfl rfl ?_
    refine jx_get 0 C fl_0_52 d_X_rules_49 hn rfl rfl ?_
    refine jx_put (ξ' := (upd (upd (xq (upd (upd ξ 4 (nI t)) 7 (nI rs0.length)) a9) 3 (-1)) 2 0)) (β' := β9) (ρ' := ρ) (u' := 13) (v' := 13) 0 C fp_0_48 d_X_rules_52 hn rfl (Nat.le_of_ble_eq_true rfl) rfl rfl rfl ?_
    refine j_aload_n C d_X_rules_55 rfl rfl ?_
    refine j_aload_n C d_X_rules_56 rfl rfl ?_
    refine jx_put (ξ' := (upd (upd (xq (upd (upd ξ 4 (nI t)) 7 (nI rs0.length)) a9) 3 (-1)) 2 0)) (β' := β9) (ρ' := ρ) (u' := 13) (v' := 6) 0 C fp_0_52 d_X_rules_57 hn rfl (Nat.le_of_ble_eq_true rfl) rfl rfl rfl ?_
    refine j_aload_n C d_X_rules_60 rfl rfl ?_
    refine jx_get 0 C fl_0_48 d_X_rules_61 hn rfl rfl ?_
    refine jx_get 13 C fl_0_157 d_X_rules_64 hn rfl rfl ?_
    exact j_ireturn C d_X_rules_67 rfl (by decide) (by decide) ⟨rfl, rfl, a9, β9, rfl, hA9, hX9⟩
  · exact absurd rfl c29

set_option maxHeartbeats 4000000 in
set_option maxRecDepth 100000 in
theorem c_X_rules_13_n {l : Launch} (hl : l.stackTraces = false) {D : va_G} {cA : Nat → ClassId} {b n : Nat} {xo : Nat} {ξ : Nat → Int32} {β : Nat → Nat → Int32} {ρ : Nat → Option Nat} (h : AH) (hn : xo + 28 ≤ n) (t : Nat) (ht : t ≤ 300) (hz : ξ 2 = nI t) (hR : crul (β 4) t (t + 1) 0 [] = none) : Cn l D cA b y_X_rules k_X_rules 6 97 1 6 [.ref xo] n (ovX xo ξ β ρ 6 13 h) (Tp 9 (n + 1) (fun h' => ∃ (a' k' : Nat) (β' : Nat → Nat → Int32), a' ≤ t ∧ h' = hu (ovX xo (upd (upd (xq (upd (upd ξ 4 (nI t)) 7 (nI k')) a') 3 (nI a')) 2 0) β' ρ 6 13 h) n (.inr (9, [])) ∧ Abw 13 β' β)) := by
  refine Cn.of (cc := b_X_rules) (maxL := 2) (ret := (some .int)) (hh := []) (by decide +kernel) hl (Or.inl ⟨rfl, rfl⟩) (Nat.le_of_ble_eq_true rfl) ?_
  intro p e s m args below meth c C
  refine j_aload_n C d_X_rules_0 rfl rfl ?_
  refine j_aload_n C d_X_rules_1 rfl rfl ?_
  refine jx_get 0 C fl_0_41 d_X_rules_2 hn rfl rfl ?_
  refine j_aload_n C d_X_rules_5 rfl rfl ?_
  refine jx_get 0 C fl_0_52 d_X_rules_6 hn rfl rfl ?_
  refine j_aload_n C d_X_rules_9 rfl rfl ?_
  refine jx_get 0 C fl_0_33 d_X_rules_10 hn rfl rfl ?_
  rw [hz]
  refine j_callV C d_X_rules_13 ml_X_151 mc_RR_readInto in_RR_readInto rfl se_RR_readInto (by omega) (ovX_c (o := 5) rfl) (c_RR_readInto_13_n hl h hn t ht hR) rfl rfl (Nat.le_of_ble_eq_true rfl) (Nat.le_of_ble_eq_true rfl) (Nat.le_of_ble_eq_true rfl) (Nat.le_of_ble_eq_true rfl) (jk_w (fun w9 h9 hP9 => ?_))
  obtain ⟨a9, k9, β9, ha9, rfl, rfl, hA9⟩ := hP9
  refine jx_puti 0 3 C fp_0_55 d_X_rules_16 hn rfl (Nat.le_of_ble_eq_true rfl) rfl rfl rfl ?_
  refine j_aload_n C d_X_rules_19 rfl rfl ?_
  refine j_iconst (v := 0) C d_X_rules_20 (by decide) ?_
  refine jx_puti 0 2 C fp_0_33 d_X_rules_21 hn rfl (Nat.le_of_ble_eq_true rfl) rfl rfl rfl ?_
  refine j_aload_n C d_X_rules_24 rfl rfl ?_
  refine jx_get 0 C fl_0_55 d_X_rules_25 hn rfl rfl ?_
  refine j_iconst (v := (-1)) C d_X_rules_28 (by decide) ?_
  refine j_icmp_eq (tgt := 42) C d_X_rules_29 (by decide) (fun c29 => ?_) (fun c29 => ?_)
  · exact absurd (show nI a9 = -1 from c29) (fun y => absurd (show (0 : Int32) ≤ -1 from y ▸ nI_pos' (by omega)) (by decide))
  · exact j_throwS (text := "the text is wrong") C th_9 (by decide +kernel) rfl d_X_rules_32 d_X_rules_35 d_X_rules_36 d_X_rules_38 d_X_rules_41 (Nat.le_of_ble_eq_true rfl) (Nat.le_of_ble_eq_true rfl) (Nat.le_of_ble_eq_true rfl) (Nat.le_of_ble_eq_true rfl) (Nat.le_of_ble_eq_true rfl) (Nat.le_of_ble_eq_true rfl) ⟨rfl, rfl, a9, k9, β9, ha9, rfl, hA9⟩

