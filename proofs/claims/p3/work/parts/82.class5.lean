/-! ===== the class: CodeText, code: printed by program ===== -/
/-- the class with the bytes q written -/
def ovC (xo : Nat) (ξ : Nat → Int32) (β : Nat → Nat → Int32) (ρ : Nat → Option Nat) (u v : Nat) (h : AH) (q : List Int32) : AH := ovX xo (upd ξ 10 (nI q.length)) (upa β 27 (wl (β 27) q)) ρ u v h
theorem ovC_o (xo : Nat) (ξ : Nat → Int32) (β : Nat → Nat → Int32) (ρ : Nat → Option Nat) (u v : Nat) (h : AH) (q : List Int32) : ovC xo ξ β ρ u v h q (xo + 26) = .inr (4, [.ref (xo + 27), .int (nI q.length)]) := ovX_c (o := 26) rfl
def b7 (x : Int32) : Prop := vp_nar .byte x.toInt8.toInt32 = x
theorem b7_n : ∀ k : Nat, k < 128 → b7 (nI k) := by
  have z : ∀ k : Fin 128, vp_nar .byte (nI k).toInt8.toInt32 = nI k := by decide +kernel
  exact fun k hk => z ⟨k, hk⟩
set_option maxHeartbeats 4000000 in
set_option maxRecDepth 100000 in
theorem c_CT_addByte {l : Launch} (hl : l.stackTraces = false) {D : va_G} {cA : Nat → ClassId} {b n : Nat} {xo : Nat} {ξ : Nat → Int32} {β : Nat → Nat → Int32} {ρ : Nat → Option Nat} {u v : Nat} (h : AH) (hn : xo + 28 ≤ n) (x : Int32) (q : List Int32) (hq : q.length < 206) (hx : b7 x) : Cn l D cA b y_CT_addByte k_CT_addByte 0 0 0 0 [.ref (xo + 26), .int x] n (ovC xo ξ β ρ u v h q) (Re none n (ovC xo ξ β ρ u v h (q ++ [x]))) := by
  refine Cn.of (cc := b_CT_addByte) (maxL := 2) (ret := none) (hh := []) (by decide +kernel) hl (Or.inl ⟨rfl, rfl⟩) (Nat.le_of_ble_eq_true rfl) ?_
  intro p e s m args below meth c C
  refine j_aload_n C d_CT_addByte_0 rfl rfl ?_
  refine jx_get 26 C fl_4_15 d_CT_addByte_1 hn rfl rfl ?_
  refine j_aload_n C d_CT_addByte_4 rfl rfl ?_
  refine jx_get 26 C fl_4_9 d_CT_addByte_5 hn rfl rfl ?_
  refine jx_alen 27 C d_CT_addByte_8 rfl hn rfl rfl ?_
  refine j_icmp_ge (tgt := 33) C d_CT_addByte_9 (by decide) (fun c9 => ?_) (fun c9 => ?_)
  · exact absurd (show nI 206 ≤ nI q.length from c9) (nI_ge hq (by omega))
  · refine j_aload_n C d_CT_addByte_12 rfl rfl ?_
    refine jx_get 26 C fl_4_9 d_CT_addByte_13 hn rfl rfl ?_
    refine j_aload_n C d_CT_addByte_16 rfl rfl ?_
    refine jx_get 26 C fl_4_15 d_CT_addByte_17 hn rfl rfl ?_
    refine j_iload_n C d_CT_addByte_20 rfl rfl ?_
    refine j_i2b C d_CT_addByte_21 rfl ?_
    refine jx_bast 27 C d_CT_addByte_22 hn rfl (show vp_in (nI q.length) 206 from vp_in_nI hq (by omega)) rfl ?_
    refine j_aload_n C d_CT_addByte_23 rfl rfl ?_
    refine j_dup C d_CT_addByte_24 rfl ?_
    refine jx_get 26 C fl_4_15 d_CT_addByte_25 hn rfl rfl ?_
    refine j_iconst (v := 1) C d_CT_addByte_28 (by decide) ?_
    refine j_iadd C d_CT_addByte_29 ?_
    refine jx_puti 26 10 C fp_4_15 d_CT_addByte_30 hn rfl (Nat.le_of_ble_eq_true rfl) rfl rfl rfl ?_
    exact j_vreturn C d_CT_addByte_33 rfl (by decide) (by decide) ⟨rfl, rfl, by show ovX xo (upd (upd ξ 10 (nI q.length)) 10 (upd ξ 10 (nI q.length) 10 + 1)) (upa (upa β 27 (wl (β 27) q)) 27 (upd (upa β 27 (wl (β 27) q) 27) (upd ξ 10 (nI q.length) 10).toNatClampNeg (vp_nar .byte x.toInt8.toInt32))) ρ u v h = _; rw [upd_uu, upd_s, nI_1, upa_uu, upa_s, nI_clamp (by omega), hx, wl_snoc]; unfold ovC; rw [len_snoc]⟩

theorem dn_em {m k : Nat} (hm : m ≤ 99999) (hk : k ≤ 4) : (10 ^ k ≤ m ∨ k = 0) ↔ k + 1 ≤ dn m := by
  have hc := dn_c m
  rcases (show k = 0 ∨ k = 1 ∨ k = 2 ∨ k = 3 ∨ k = 4 by omega) with rfl | rfl | rfl | rfl | rfl
  · constructor
    · intro _; omega
    · intro _; exact Or.inr rfl
  · rw [show (10 : Nat) ^ 1 = 10 from rfl]; omega
  · rw [show (10 : Nat) ^ 2 = 100 from rfl]; omega
  · rw [show (10 : Nat) ^ 3 = 1000 from rfl]; omega
  · rw [show (10 : Nat) ^ 4 = 10000 from rfl]; omega
/-- what is still to be written, with k places left -/
def rst (m k : Nat) : List Int32 := if k ≤ dn m then dgs m k else nb m
theorem rst_y {m k : Nat} (h : k + 1 ≤ dn m) : rst m (k + 1) = nI (48 + m / 10 ^ k % 10) :: rst m k := by
  unfold rst
  rw [if_pos h, if_pos (by omega)]
  rfl
theorem rst_n {m k : Nat} (h : ¬ k + 1 ≤ dn m) : rst m (k + 1) = rst m k := by
  unfold rst
  rw [if_neg h]
  split
  · rename_i h2
    have e : k = dn m := by omega
    rw [e]; rfl
  · rfl
theorem rst_5 (m : Nat) : rst m 5 = nb m := by
  unfold rst
  have := dn_le m
  split
  · rename_i h2
    have e : 5 = dn m := by omega
    rw [e]; rfl
  · rfl
theorem rst_0 (m : Nat) : rst m 0 = [] := by
  unfold rst
  rw [if_pos (Nat.zero_le _)]
  rfl
theorem p10_1 {e : Nat} (he : e ≤ 5) (h : nI (10 ^ e) = 1) : e = 0 := by
  have z := (nI_eq (p10_lt he).1 (by omega)).mp (show nI (10 ^ e) = nI 1 from h)
  rcases (show e = 0 ∨ e = 1 ∨ e = 2 ∨ e = 3 ∨ e = 4 ∨ e = 5 by omega) with rfl | rfl | rfl | rfl | rfl | rfl
  · rfl
  all_goals exact absurd z (by decide)
set_option maxHeartbeats 4000000 in
set_option maxRecDepth 100000 in
theorem c_CT_addNumber_p {l : Launch} (hl : l.stackTraces = false) {D : va_G} {cA : Nat → ClassId} {b n : Nat} {xo : Nat} {ξ : Nat → Int32} {β : Nat → Nat → Int32} {ρ : Nat → Option Nat} {u v : Nat} (h : AH) (hn : xo + 28 ≤ n) (m0 : Nat) (q : List Int32) (hm : m0 ≤ 99999) (hq : q.length + 6 ≤ 206) : Cn l D cA b y_CT_addNumber k_CT_addNumber 1 14 0 0 [.ref (xo + 26), .int (nI m0)] n (ovC xo ξ β ρ u v h q) (Re none n (ovC xo ξ β ρ u v h (q ++ nb m0))) := by
  refine Cn.of (cc := b_CT_addNumber) (maxL := 4) (ret := none) (hh := []) (by decide +kernel) hl (Or.inl ⟨rfl, rfl⟩) (Nat.le_of_ble_eq_true rfl) ?_
  intro p e s m args below meth c C
  have loop : ∀ (e9 : Nat) (w1 : List Int32), e9 ≤ 5 → w1 ++ rst m0 e9 = (q ++ nb m0) → w1.length + e9 ≤ 206 → J p l e { frames := 1, cells := 0, slots := 0, locals := 14 } s m args below meth c D cA b 4 (EndQ D cA b s below (Re none n (ovC xo ξ β ρ u v h (q ++ nb m0))) 0 0) n (ovC xo ξ β ρ u v h w1) 0 0 19 [(3, .int (nI (pw e9))), (2, .int (nI m0)), (0, .ref (xo + 26)), (1, .int (nI m0))] [] := by
    intro e9
    induction e9 with
    | zero =>
      intro w1 he hv hw1
      refine j_iload_n C d_CT_addNumber_19 rfl rfl ?_
      refine j_if_le (tgt := 54) C d_CT_addNumber_20 (by decide) (fun c20 => ?_) (fun c20 => ?_)
      · exact j_vreturn C d_CT_addNumber_54 rfl (by decide) (by decide) ⟨rfl, rfl, by rw [← hv, rst_0, List.append_nil]⟩
      · exact absurd (by decide) c20
    | succ e9 ih =>
      intro w1 he hv hw1
      rw [show pw (e9 + 1) = 10 ^ e9 from rfl]
      refine j_iload_n C d_CT_addNumber_19 rfl rfl ?_
      refine j_if_le (tgt := 54) C d_CT_addNumber_20 (by decide) (fun c20 => ?_) (fun c20 => ?_)
      · exact absurd c20 (nI_nle (p10_lt (by omega)).2 (p10_lt (by omega)).1)
      · refine j_iload_n C d_CT_addNumber_23 rfl rfl ?_
        refine j_iload_n C d_CT_addNumber_24 rfl rfl ?_
        refine j_icmp_ge (tgt := 33) C d_CT_addNumber_25 (by decide) (fun c25 => ?_) (fun c25 => ?_)
        · refine j_aload_n C d_CT_addNumber_33 rfl rfl ?_
          refine j_bipush (v := 48) C d_CT_addNumber_34 (by decide) ?_
          refine j_iload_n C d_CT_addNumber_36 rfl rfl ?_
          refine j_iload_n C d_CT_addNumber_37 rfl rfl ?_
          refine j_idiv C d_CT_addNumber_38 (nI_ne0 (p10_lt (by omega)).2 (p10_lt (by omega)).1) ?_
          rw [pk_div (by omega) (p10_lt (by omega)).2 (p10_lt (by omega)).1]
          refine j_bipush (v := 10) C d_CT_addNumber_39 (by decide) ?_
          refine j_irem C d_CT_addNumber_41 (by decide) ?_
          rw [show (10 : Int32) = nI 10 from rfl, pk_rem (Nat.lt_of_le_of_lt (Nat.div_le_self _ _) (by omega)) (by omega) (by omega)]
          refine j_iadd C d_CT_addNumber_42 ?_
          rw [show (48 : Int32) = nI 48 from rfl, nI_add]
          refine j_callV C d_CT_addNumber_43 ml_CT_19 mc_CT_addByte in_CT_addByte rfl se_CT_addByte (by omega) (ovC_o _ _ _ _ _ _ _ _) (c_CT_addByte hl _ hn _ w1 (by omega) (b7_n _ (by omega))) rfl rfl (Nat.le_of_ble_eq_true rfl) (Nat.le_of_ble_eq_true rfl) (Nat.le_of_ble_eq_true rfl) (Nat.le_of_ble_eq_true rfl) (jk_v ?_)
          refine j_iload_n C d_CT_addNumber_46 rfl rfl ?_
          refine j_bipush (v := 10) C d_CT_addNumber_47 (by decide) ?_
          refine j_idiv C d_CT_addNumber_49 (by decide) ?_
          rw [show (10 : Int32) = nI 10 from rfl, pk_div (p10_lt (by omega)).1 (by omega) (by omega), p10_d e9]
          refine j_istore_n C d_CT_addNumber_50 rfl (by decide) rfl ?_
          have hy := (dn_em (k := e9) hm (by omega)).mp (Or.inl ((nI_leI (p10_lt (by omega)).1 (by omega)).mp c25))
          refine j_goto (tgt := 19) C d_CT_addNumber_51 (by decide) ?_
          exact j_pick [0, 1, 2, 3] rfl (ih (w1 ++ [nI (48 + m0 / 10 ^ e9 % 10)]) (by omega) (by rw [← hv, rst_y hy]; simp) (by rw [len_snoc]; omega))
        · refine j_iload_n C d_CT_addNumber_28 rfl rfl ?_
          refine j_iconst (v := 1) C d_CT_addNumber_29 (by decide) ?_
          refine j_icmp_ne (tgt := 46) C d_CT_addNumber_30 (by decide) (fun c30 => ?_) (fun c30 => ?_)
          · refine j_iload_n C d_CT_addNumber_46 rfl rfl ?_
            refine j_bipush (v := 10) C d_CT_addNumber_47 (by decide) ?_
            refine j_idiv C d_CT_addNumber_49 (by decide) ?_
            rw [show (10 : Int32) = nI 10 from rfl, pk_div (p10_lt (by omega)).1 (by omega) (by omega), p10_d e9]
            refine j_istore_n C d_CT_addNumber_50 rfl (by decide) rfl ?_
            have hy : ¬ e9 + 1 ≤ dn m0 := fun z => ((dn_em (k := e9) hm (by omega)).mpr z).elim (fun y => c25 (nI_le y (by omega))) (fun y => c30 (by rw [y]; rfl))
            refine j_goto (tgt := 19) C d_CT_addNumber_51 (by decide) ?_
            exact j_pick [0, 1, 2, 3] rfl (ih w1 (by omega) (by rw [← hv, rst_n hy]) (by omega))
          · refine j_aload_n C d_CT_addNumber_33 rfl rfl ?_
            refine j_bipush (v := 48) C d_CT_addNumber_34 (by decide) ?_
            refine j_iload_n C d_CT_addNumber_36 rfl rfl ?_
            refine j_iload_n C d_CT_addNumber_37 rfl rfl ?_
            refine j_idiv C d_CT_addNumber_38 (nI_ne0 (p10_lt (by omega)).2 (p10_lt (by omega)).1) ?_
            rw [pk_div (by omega) (p10_lt (by omega)).2 (p10_lt (by omega)).1]
            refine j_bipush (v := 10) C d_CT_addNumber_39 (by decide) ?_
            refine j_irem C d_CT_addNumber_41 (by decide) ?_
            rw [show (10 : Int32) = nI 10 from rfl, pk_rem (Nat.lt_of_le_of_lt (Nat.div_le_self _ _) (by omega)) (by omega) (by omega)]
            refine j_iadd C d_CT_addNumber_42 ?_
            rw [show (48 : Int32) = nI 48 from rfl, nI_add]
            refine j_callV C d_CT_addNumber_43 ml_CT_19 mc_CT_addByte in_CT_addByte rfl se_CT_addByte (by omega) (ovC_o _ _ _ _ _ _ _ _) (c_CT_addByte hl _ hn _ w1 (by omega) (b7_n _ (by omega))) rfl rfl (Nat.le_of_ble_eq_true rfl) (Nat.le_of_ble_eq_true rfl) (Nat.le_of_ble_eq_true rfl) (Nat.le_of_ble_eq_true rfl) (jk_v ?_)
            refine j_iload_n C d_CT_addNumber_46 rfl rfl ?_
            refine j_bipush (v := 10) C d_CT_addNumber_47 (by decide) ?_
            refine j_idiv C d_CT_addNumber_49 (by decide) ?_
            rw [show (10 : Int32) = nI 10 from rfl, pk_div (p10_lt (by omega)).1 (by omega) (by omega), p10_d e9]
            refine j_istore_n C d_CT_addNumber_50 rfl (by decide) rfl ?_
            have hy := (dn_em (k := e9) hm (by omega)).mp (Or.inr (p10_1 (by omega) c30))
            refine j_goto (tgt := 19) C d_CT_addNumber_51 (by decide) ?_
            exact j_pick [0, 1, 2, 3] rfl (ih (w1 ++ [nI (48 + m0 / 10 ^ e9 % 10)]) (by omega) (by rw [← hv, rst_y hy]; simp) (by rw [len_snoc]; omega))
  refine j_iload_n C d_CT_addNumber_0 rfl rfl ?_
  refine j_if_ge (tgt := 10) C d_CT_addNumber_1 (by decide) (fun c1 => ?_) (fun c1 => ?_)
  · refine j_iload_n C d_CT_addNumber_10 rfl rfl ?_
    refine j_mabs (v := nI m0) C d_CT_addNumber_11 mm_CT_46 mm_st_abs mm_ini mm_co_abs (Nat.le_of_ble_eq_true rfl) (Nat.le_of_ble_eq_true rfl) (Nat.le_of_ble_eq_true rfl) (Nat.le_of_ble_eq_true rfl) (by rw [if_pos (nI_pos' (by omega))]) ?_
    refine j_istore_n C d_CT_addNumber_14 rfl (by decide) rfl ?_
    refine j_sipush (v := 10000) C d_CT_addNumber_15 (by decide) ?_
    refine j_istore_n C d_CT_addNumber_18 rfl (by decide) rfl ?_
    exact j_pick [0, 1, 2, 3] rfl (loop 5 q (by omega) (by rw [rst_5]) (by omega))
  · exact absurd (nI_pos' (by omega)) c1

set_option maxHeartbeats 4000000 in
set_option maxRecDepth 100000 in
theorem c_CT_addNumber_n {l : Launch} (hl : l.stackTraces = false) {D : va_G} {cA : Nat → ClassId} {b n : Nat} {xo : Nat} {ξ : Nat → Int32} {β : Nat → Nat → Int32} {ρ : Nat → Option Nat} {u v : Nat} (h : AH) (hn : xo + 28 ≤ n) (m0 : Nat) (q : List Int32) (h1 : 1 ≤ m0) (hm : m0 ≤ 99999) (hq : q.length + 6 ≤ 206) : Cn l D cA b y_CT_addNumber k_CT_addNumber 1 14 0 0 [.ref (xo + 26), .int (-(nI m0))] n (ovC xo ξ β ρ u v h q) (Re none n (ovC xo ξ β ρ u v h (q ++ (45 :: nb m0)))) := by
  refine Cn.of (cc := b_CT_addNumber) (maxL := 4) (ret := none) (hh := []) (by decide +kernel) hl (Or.inl ⟨rfl, rfl⟩) (Nat.le_of_ble_eq_true rfl) ?_
  intro p e s m args below meth c C
  have loop : ∀ (e9 : Nat) (w1 : List Int32), e9 ≤ 5 → w1 ++ rst m0 e9 = (q ++ (45 :: nb m0)) → w1.length + e9 ≤ 206 → J p l e { frames := 1, cells := 0, slots := 0, locals := 14 } s m args below meth c D cA b 4 (EndQ D cA b s below (Re none n (ovC xo ξ β ρ u v h (q ++ (45 :: nb m0)))) 0 0) n (ovC xo ξ β ρ u v h w1) 0 0 19 [(3, .int (nI (pw e9))), (2, .int (nI m0)), (0, .ref (xo + 26)), (1, .int (-(nI m0)))] [] := by
    intro e9
    induction e9 with
    | zero =>
      intro w1 he hv hw1
      refine j_iload_n C d_CT_addNumber_19 rfl rfl ?_
      refine j_if_le (tgt := 54) C d_CT_addNumber_20 (by decide) (fun c20 => ?_) (fun c20 => ?_)
      · exact j_vreturn C d_CT_addNumber_54 rfl (by decide) (by decide) ⟨rfl, rfl, by rw [← hv, rst_0, List.append_nil]⟩
      · exact absurd (by decide) c20
    | succ e9 ih =>
      intro w1 he hv hw1
      rw [show pw (e9 + 1) = 10 ^ e9 from rfl]
      refine j_iload_n C d_CT_addNumber_19 rfl rfl ?_
      refine j_if_le (tgt := 54) C d_CT_addNumber_20 (by decide) (fun c20 => ?_) (fun c20 => ?_)
      · exact absurd c20 (nI_nle (p10_lt (by omega)).2 (p10_lt (by omega)).1)
      · refine j_iload_n C d_CT_addNumber_23 rfl rfl ?_
        refine j_iload_n C d_CT_addNumber_24 rfl rfl ?_
        refine j_icmp_ge (tgt := 33) C d_CT_addNumber_25 (by decide) (fun c25 => ?_) (fun c25 => ?_)
        · refine j_aload_n C d_CT_addNumber_33 rfl rfl ?_
          refine j_bipush (v := 48) C d_CT_addNumber_34 (by decide) ?_
          refine j_iload_n C d_CT_addNumber_36 rfl rfl ?_
          refine j_iload_n C d_CT_addNumber_37 rfl rfl ?_
          refine j_idiv C d_CT_addNumber_38 (nI_ne0 (p10_lt (by omega)).2 (p10_lt (by omega)).1) ?_
          rw [pk_div (by omega) (p10_lt (by omega)).2 (p10_lt (by omega)).1]
          refine j_bipush (v := 10) C d_CT_addNumber_39 (by decide) ?_
          refine j_irem C d_CT_addNumber_41 (by decide) ?_
          rw [show (10 : Int32) = nI 10 from rfl, pk_rem (Nat.lt_of_le_of_lt (Nat.div_le_self _ _) (by omega)) (by omega) (by omega)]
          refine j_iadd C d_CT_addNumber_42 ?_
          rw [show (48 : Int32) = nI 48 from rfl, nI_add]
          refine j_callV C d_CT_addNumber_43 ml_CT_19 mc_CT_addByte in_CT_addByte rfl se_CT_addByte (by omega) (ovC_o _ _ _ _ _ _ _ _) (c_CT_addByte hl _ hn _ w1 (by omega) (b7_n _ (by omega))) rfl rfl (Nat.le_of_ble_eq_true rfl) (Nat.le_of_ble_eq_true rfl) (Nat.le_of_ble_eq_true rfl) (Nat.le_of_ble_eq_true rfl) (jk_v ?_)
          refine j_iload_n C d_CT_addNumber_46 rfl rfl ?_
          refine j_bipush (v := 10) C d_CT_addNumber_47 (by decide) ?_
          refine j_idiv C d_CT_addNumber_49 (by decide) ?_
          rw [show (10 : Int32) = nI 10 from rfl, pk_div (p10_lt (by omega)).1 (by omega) (by omega), p10_d e9]
          refine j_istore_n C d_CT_addNumber_50 rfl (by decide) rfl ?_
          have hy := (dn_em (k := e9) hm (by omega)).mp (Or.inl ((nI_leI (p10_lt (by omega)).1 (by omega)).mp c25))
          refine j_goto (tgt := 19) C d_CT_addNumber_51 (by decide) ?_
          exact j_pick [0, 1, 2, 3] rfl (ih (w1 ++ [nI (48 + m0 / 10 ^ e9 % 10)]) (by omega) (by rw [← hv, rst_y hy]; simp) (by rw [len_snoc]; omega))
        · refine j_iload_n C d_CT_addNumber_28 rfl rfl ?_
          refine j_iconst (v := 1) C d_CT_addNumber_29 (by decide) ?_
          refine j_icmp_ne (tgt := 46) C d_CT_addNumber_30 (by decide) (fun c30 => ?_) (fun c30 => ?_)
          · refine j_iload_n C d_CT_addNumber_46 rfl rfl ?_
            refine j_bipush (v := 10) C d_CT_addNumber_47 (by decide) ?_
            refine j_idiv C d_CT_addNumber_49 (by decide) ?_
            rw [show (10 : Int32) = nI 10 from rfl, pk_div (p10_lt (by omega)).1 (by omega) (by omega), p10_d e9]
            refine j_istore_n C d_CT_addNumber_50 rfl (by decide) rfl ?_
            have hy : ¬ e9 + 1 ≤ dn m0 := fun z => ((dn_em (k := e9) hm (by omega)).mpr z).elim (fun y => c25 (nI_le y (by omega))) (fun y => c30 (by rw [y]; rfl))
            refine j_goto (tgt := 19) C d_CT_addNumber_51 (by decide) ?_
            exact j_pick [0, 1, 2, 3] rfl (ih w1 (by omega) (by rw [← hv, rst_n hy]) (by omega))
          · refine j_aload_n C d_CT_addNumber_33 rfl rfl ?_
            refine j_bipush (v := 48) C d_CT_addNumber_34 (by decide) ?_
            refine j_iload_n C d_CT_addNumber_36 rfl rfl ?_
            refine j_iload_n C d_CT_addNumber_37 rfl rfl ?_
            refine j_idiv C d_CT_addNumber_38 (nI_ne0 (p10_lt (by omega)).2 (p10_lt (by omega)).1) ?_
            rw [pk_div (by omega) (p10_lt (by omega)).2 (p10_lt (by omega)).1]
            refine j_bipush (v := 10) C d_CT_addNumber_39 (by decide) ?_
            refine j_irem C d_CT_addNumber_41 (by decide) ?_
            rw [show (10 : Int32) = nI 10 from rfl, pk_rem (Nat.lt_of_le_of_lt (Nat.div_le_self _ _) (by omega)) (by omega) (by omega)]
            refine j_iadd C d_CT_addNumber_42 ?_
            rw [show (48 : Int32) = nI 48 from rfl, nI_add]
            refine j_callV C d_CT_addNumber_43 ml_CT_19 mc_CT_addByte in_CT_addByte rfl se_CT_addByte (by omega) (ovC_o _ _ _ _ _ _ _ _) (c_CT_addByte hl _ hn _ w1 (by omega) (b7_n _ (by omega))) rfl rfl (Nat.le_of_ble_eq_true rfl) (Nat.le_of_ble_eq_true rfl) (Nat.le_of_ble_eq_true rfl) (Nat.le_of_ble_eq_true rfl) (jk_v ?_)
            refine j_iload_n C d_CT_addNumber_46 rfl rfl ?_
            refine j_bipush (v := 10) C d_CT_addNumber_47 (by decide) ?_
            refine j_idiv C d_CT_addNumber_49 (by decide) ?_
            rw [show (10 : Int32) = nI 10 from rfl, pk_div (p10_lt (by omega)).1 (by omega) (by omega), p10_d e9]
            refine j_istore_n C d_CT_addNumber_50 rfl (by decide) rfl ?_
            have hy := (dn_em (k := e9) hm (by omega)).mp (Or.inr (p10_1 (by omega) c30))
            refine j_goto (tgt := 19) C d_CT_addNumber_51 (by decide) ?_
            exact j_pick [0, 1, 2, 3] rfl (ih (w1 ++ [nI (48 + m0 / 10 ^ e9 % 10)]) (by omega) (by rw [← hv, rst_y hy]; simp) (by rw [len_snoc]; omega))
  refine j_iload_n C d_CT_addNumber_0 rfl rfl ?_
  refine j_if_ge (tgt := 10) C d_CT_addNumber_1 (by decide) (fun c1 => ?_) (fun c1 => ?_)
  · exact absurd (show (0 : Int32) ≤ -(nI m0) from c1) (neg_lt h1 hm)
  · refine j_aload_n C d_CT_addNumber_4 rfl rfl ?_
    refine j_bipush (v := 45) C d_CT_addNumber_5 (by decide) ?_
    refine j_callV C d_CT_addNumber_7 ml_CT_19 mc_CT_addByte in_CT_addByte rfl se_CT_addByte (by omega) (ovC_o _ _ _ _ _ _ _ _) (c_CT_addByte hl _ hn _ q (by omega) (b7_n 45 (by omega))) rfl rfl (Nat.le_of_ble_eq_true rfl) (Nat.le_of_ble_eq_true rfl) (Nat.le_of_ble_eq_true rfl) (Nat.le_of_ble_eq_true rfl) (jk_v ?_)
    refine j_iload_n C d_CT_addNumber_10 rfl rfl ?_
    refine j_mabs (v := nI m0) C d_CT_addNumber_11 mm_CT_46 mm_st_abs mm_ini mm_co_abs (Nat.le_of_ble_eq_true rfl) (Nat.le_of_ble_eq_true rfl) (Nat.le_of_ble_eq_true rfl) (Nat.le_of_ble_eq_true rfl) (by rw [if_neg (neg_lt h1 hm), Int32.sub_eq_add_neg, Int32.neg_neg, Int32.zero_add]) ?_
    refine j_istore_n C d_CT_addNumber_14 rfl (by decide) rfl ?_
    refine j_sipush (v := 10000) C d_CT_addNumber_15 (by decide) ?_
    refine j_istore_n C d_CT_addNumber_18 rfl (by decide) rfl ?_
    exact j_pick [0, 1, 2, 3] rfl (loop 5 (q ++ [45]) (by omega) (by rw [rst_5]; simp) (by rw [len_snoc]; omega))

theorem c_CT_addNumber_v {l : Launch} (hl : l.stackTraces = false) {D : va_G} {cA : Nat → ClassId} {b n : Nat} {xo : Nat} {ξ : Nat → Int32} {β : Nat → Nat → Int32} {ρ : Nat → Option Nat} {u v : Nat} (h : AH) (hn : xo + 28 ≤ n) (x : Int32) (q : List Int32) (hx : vok x) (hq : q.length + 6 ≤ 206) : Cn l D cA b y_CT_addNumber k_CT_addNumber 1 14 0 0 [.ref (xo + 26), .int x] n (ovC xo ξ β ρ u v h q) (Re none n (ovC xo ξ β ρ u v h (q ++ vb x))) := by
  rcases hx with ⟨m, hm, rfl⟩ | ⟨m, h1, hm, rfl⟩
  · rw [vb_p hm]
    exact c_CT_addNumber_p hl h hn m q hm hq
  · rw [vb_n h1 hm]
    exact c_CT_addNumber_n hl h hn m q h1 hm hq
set_option maxHeartbeats 4000000 in
set_option maxRecDepth 100000 in
theorem c_CT_addField_h {l : Launch} (hl : l.stackTraces = false) {D : va_G} {cA : Nat → ClassId} {b n : Nat} {xo : Nat} {ξ : Nat → Int32} {β : Nat → Nat → Int32} {ρ : Nat → Option Nat} {u v : Nat} (h : AH) (hn : xo + 28 ≤ n) (f : Nat) (y hd : Int32) (q : List Int32) (hf : f < 20) (hy : vok y) (hq : q.length + 10 ≤ 206) (hd0 : ¬ hd = 0) : Cn l D cA b y_CT_addField k_CT_addField 2 29 0 0 [.ref (xo + 26), .int (nI f), .int y, .int hd] n (ovC xo ξ β ρ u v h q) (Re none n (ovC xo ξ β ρ u v h (q ++ nb f ++ [58] ++ [42] ++ [59]))) := by
  refine Cn.of (cc := b_CT_addField) (maxL := 4) (ret := none) (hh := []) (by decide +kernel) hl (Or.inl ⟨rfl, rfl⟩) (Nat.le_of_ble_eq_true rfl) ?_
  intro p e s m args below meth c C
  refine j_aload_n C d_CT_addField_0 rfl rfl ?_
  refine j_iload_n C d_CT_addField_1 rfl rfl ?_
  refine j_callV C d_CT_addField_2 ml_CT_28 mc_CT_addNumber in_CT_addNumber rfl se_CT_addNumber (by omega) (ovC_o _ _ _ _ _ _ _ _) (c_CT_addNumber_p hl _ hn f q (by omega) (by omega)) rfl rfl (Nat.le_of_ble_eq_true rfl) (Nat.le_of_ble_eq_true rfl) (Nat.le_of_ble_eq_true rfl) (Nat.le_of_ble_eq_true rfl) (jk_v ?_)
  refine j_aload_n C d_CT_addField_5 rfl rfl ?_
  refine j_bipush (v := 58) C d_CT_addField_6 (by decide) ?_
  refine j_callV C d_CT_addField_8 ml_CT_19 mc_CT_addByte in_CT_addByte rfl se_CT_addByte (by omega) (ovC_o _ _ _ _ _ _ _ _) (c_CT_addByte hl _ hn 58 (q ++ nb f) (by simp only [List.length_append, List.length_singleton]; have z1 := nb_len f; have z2 := dn_c f; have z3 := vb_len hy; omega) (b7_n 58 (by omega))) rfl rfl (Nat.le_of_ble_eq_true rfl) (Nat.le_of_ble_eq_true rfl) (Nat.le_of_ble_eq_true rfl) (Nat.le_of_ble_eq_true rfl) (jk_v ?_)
  refine j_iload_n C d_CT_addField_11 rfl rfl ?_
  refine j_if_eq (tgt := 24) C d_CT_addField_12 (by decide) (fun c12 => ?_) (fun c12 => ?_)
  · exact absurd c12 hd0
  · refine j_aload_n C d_CT_addField_15 rfl rfl ?_
    refine j_bipush (v := 42) C d_CT_addField_16 (by decide) ?_
    refine j_callV C d_CT_addField_18 ml_CT_19 mc_CT_addByte in_CT_addByte rfl se_CT_addByte (by omega) (ovC_o _ _ _ _ _ _ _ _) (c_CT_addByte hl _ hn 42 (q ++ nb f ++ [58]) (by simp only [List.length_append, List.length_singleton]; have z1 := nb_len f; have z2 := dn_c f; have z3 := vb_len hy; omega) (b7_n 42 (by omega))) rfl rfl (Nat.le_of_ble_eq_true rfl) (Nat.le_of_ble_eq_true rfl) (Nat.le_of_ble_eq_true rfl) (Nat.le_of_ble_eq_true rfl) (jk_v ?_)
    refine j_goto (tgt := 29) C d_CT_addField_21 (by decide) ?_
    refine j_aload_n C d_CT_addField_29 rfl rfl ?_
    refine j_bipush (v := 59) C d_CT_addField_30 (by decide) ?_
    refine j_callV C d_CT_addField_32 ml_CT_19 mc_CT_addByte in_CT_addByte rfl se_CT_addByte (by omega) (ovC_o _ _ _ _ _ _ _ _) (c_CT_addByte hl _ hn 59 (q ++ nb f ++ [58] ++ [42]) (by simp only [List.length_append, List.length_singleton]; have z1 := nb_len f; have z2 := dn_c f; have z3 := vb_len hy; omega) (b7_n 59 (by omega))) rfl rfl (Nat.le_of_ble_eq_true rfl) (Nat.le_of_ble_eq_true rfl) (Nat.le_of_ble_eq_true rfl) (Nat.le_of_ble_eq_true rfl) (jk_v ?_)
    exact j_vreturn C d_CT_addField_35 rfl (by decide) (by decide) ⟨rfl, rfl, rfl⟩

set_option maxHeartbeats 4000000 in
set_option maxRecDepth 100000 in
theorem c_CT_addField_v {l : Launch} (hl : l.stackTraces = false) {D : va_G} {cA : Nat → ClassId} {b n : Nat} {xo : Nat} {ξ : Nat → Int32} {β : Nat → Nat → Int32} {ρ : Nat → Option Nat} {u v : Nat} (h : AH) (hn : xo + 28 ≤ n) (f : Nat) (y hd : Int32) (q : List Int32) (hf : f < 20) (hy : vok y) (hq : q.length + 10 ≤ 206) (hd0 : hd = 0) : Cn l D cA b y_CT_addField k_CT_addField 2 29 0 0 [.ref (xo + 26), .int (nI f), .int y, .int hd] n (ovC xo ξ β ρ u v h q) (Re none n (ovC xo ξ β ρ u v h (q ++ nb f ++ [58] ++ vb y ++ [59]))) := by
  refine Cn.of (cc := b_CT_addField) (maxL := 4) (ret := none) (hh := []) (by decide +kernel) hl (Or.inl ⟨rfl, rfl⟩) (Nat.le_of_ble_eq_true rfl) ?_
  intro p e s m args below meth c C
  refine j_aload_n C d_CT_addField_0 rfl rfl ?_
  refine j_iload_n C d_CT_addField_1 rfl rfl ?_
  refine j_callV C d_CT_addField_2 ml_CT_28 mc_CT_addNumber in_CT_addNumber rfl se_CT_addNumber (by omega) (ovC_o _ _ _ _ _ _ _ _) (c_CT_addNumber_p hl _ hn f q (by omega) (by omega)) rfl rfl (Nat.le_of_ble_eq_true rfl) (Nat.le_of_ble_eq_true rfl) (Nat.le_of_ble_eq_true rfl) (Nat.le_of_ble_eq_true rfl) (jk_v ?_)
  refine j_aload_n C d_CT_addField_5 rfl rfl ?_
  refine j_bipush (v := 58) C d_CT_addField_6 (by decide) ?_
  refine j_callV C d_CT_addField_8 ml_CT_19 mc_CT_addByte in_CT_addByte rfl se_CT_addByte (by omega) (ovC_o _ _ _ _ _ _ _ _) (c_CT_addByte hl _ hn 58 (q ++ nb f) (by simp only [List.length_append, List.length_singleton]; have z1 := nb_len f; have z2 := dn_c f; have z3 := vb_len hy; omega) (b7_n 58 (by omega))) rfl rfl (Nat.le_of_ble_eq_true rfl) (Nat.le_of_ble_eq_true rfl) (Nat.le_of_ble_eq_true rfl) (Nat.le_of_ble_eq_true rfl) (jk_v ?_)
  refine j_iload_n C d_CT_addField_11 rfl rfl ?_
  refine j_if_eq (tgt := 24) C d_CT_addField_12 (by decide) (fun c12 => ?_) (fun c12 => ?_)
  · refine j_aload_n C d_CT_addField_24 rfl rfl ?_
    refine j_iload_n C d_CT_addField_25 rfl rfl ?_
    refine j_callV C d_CT_addField_26 ml_CT_28 mc_CT_addNumber in_CT_addNumber rfl se_CT_addNumber (by omega) (ovC_o _ _ _ _ _ _ _ _) (c_CT_addNumber_v hl _ hn y (q ++ nb f ++ [58]) hy (by simp only [List.length_append, List.length_singleton]; have z1 := nb_len f; have z2 := dn_c f; have z3 := vb_len hy; omega)) rfl rfl (Nat.le_of_ble_eq_true rfl) (Nat.le_of_ble_eq_true rfl) (Nat.le_of_ble_eq_true rfl) (Nat.le_of_ble_eq_true rfl) (jk_v ?_)
    refine j_aload_n C d_CT_addField_29 rfl rfl ?_
    refine j_bipush (v := 59) C d_CT_addField_30 (by decide) ?_
    refine j_callV C d_CT_addField_32 ml_CT_19 mc_CT_addByte in_CT_addByte rfl se_CT_addByte (by omega) (ovC_o _ _ _ _ _ _ _ _) (c_CT_addByte hl _ hn 59 (q ++ nb f ++ [58] ++ vb y) (by simp only [List.length_append, List.length_singleton]; have z1 := nb_len f; have z2 := dn_c f; have z3 := vb_len hy; omega) (b7_n 59 (by omega))) rfl rfl (Nat.le_of_ble_eq_true rfl) (Nat.le_of_ble_eq_true rfl) (Nat.le_of_ble_eq_true rfl) (Nat.le_of_ble_eq_true rfl) (jk_v ?_)
    exact j_vreturn C d_CT_addField_35 rfl (by decide) (by decide) ⟨rfl, rfl, rfl⟩
  · exact absurd hd0 c12

def xdi (z : Int32) (g : Nat → Int32) (hb : Int32) (f : Nat) : List Int32 := if xhs z (nI f) = 0 then [] else nb f ++ [58] ++ (if xhs hb (nI f) = 0 then vb (g f) else [42]) ++ [59]
def xdl (z : Int32) (g : Nat → Int32) (hb : Int32) : Nat → Nat → List Int32
  | 0, _ => []
  | n + 1, f => xdi z g hb f ++ xdl z g hb n (f + 1)
def xdw (z : Int32) (g : Nat → Int32) (hb : Int32) (i : Nat) : List Int32 := [82] ++ nb i ++ [44] ++ xdl z g hb 20 0
set_option maxHeartbeats 4000000 in
set_option maxRecDepth 100000 in
theorem c_CT_write {l : Launch} (hl : l.stackTraces = false) {D : va_G} {cA : Nat → ClassId} {b n : Nat} {xo : Nat} {ξ : Nat → Int32} {β : Nat → Nat → Int32} {ρ : Nat → Option Nat} {u v : Nat} {r : Nat} {i0 k0 t0 f0 : Int32} {ζ : Nat → Int32} {g w : Nat → Int32} (h : AH) (hn : xo + 28 ≤ n) (hr : xo + 28 ≤ r) (hrn : r + 3 ≤ n) (hb : Int32) (m0 : Nat) (hi : i0 = nI m0) (hm : m0 ≤ 9999) (hvk : ∀ f, f < 20 → vok (g f)) : Cn l D cA b y_CT_write k_CT_write 3 44 0 0 [.ref (xo + 26), .ref r, .int hb] n (ovX xo ξ β ρ u v (ovR r i0 k0 t0 f0 ζ g w h)) (Re none n (ovC xo ξ β ρ u v (ovR r i0 k0 t0 f0 ζ g w h) (xdw (ζ 0) g hb m0))) := by
  refine Cn.of (cc := b_CT_write) (maxL := 4) (ret := none) (hh := []) (by decide +kernel) hl (Or.inl ⟨rfl, rfl⟩) (Nat.le_of_ble_eq_true rfl) ?_
  intro p e s m args below meth c C
  have loop : ∀ (m9 f : Nat) (q : List Int32), f + m9 = 20 → q.length ≤ 6 + 10 * f → q ++ xdl (ζ 0) g hb m9 f = (xdw (ζ 0) g hb m0) → J p l e { frames := 3, cells := 0, slots := 0, locals := 44 } s m args below meth c D cA b 4 (EndQ D cA b s below (Re none n (ovC xo ξ β ρ u v (ovR r i0 k0 t0 f0 ζ g w h) (xdw (ζ 0) g hb m0))) 0 0) n (ovC xo ξ β ρ u v (ovR r i0 k0 t0 f0 ζ g w h) q) 0 0 27 [(3, .int (nI f)), (0, .ref (xo + 26)), (1, .ref r), (2, .int hb)] [] := by
    intro m9
    induction m9 with
    | zero =>
      intro f q hf hlen hv
      obtain rfl : f = 20 := by omega
      refine j_iload_n C d_CT_write_27 rfl rfl ?_
      refine j_bipush (v := 20) C d_CT_write_28 (by decide) ?_
      refine j_icmp_ge (tgt := 66) C d_CT_write_30 (by decide) (fun c30 => ?_) (fun c30 => ?_)
      · exact j_vreturn C d_CT_write_66 rfl (by decide) (by decide) ⟨rfl, rfl, by rw [← hv]; show _ = ovC xo ξ β ρ u v _ (q ++ []); rw [List.append_nil]⟩
      · exact absurd (by decide) c30
    | succ m9 ih =>
      intro f q hf hlen hv
      refine j_iload_n C d_CT_write_27 rfl rfl ?_
      refine j_bipush (v := 20) C d_CT_write_28 (by decide) ?_
      refine j_icmp_ge (tgt := 66) C d_CT_write_30 (by decide) (fun c30 => ?_) (fun c30 => ?_)
      · exact absurd (show nI 20 ≤ nI f from c30) (nI_ge (by omega) (by omega))
      · refine j_aload_n C d_CT_write_33 rfl rfl ?_
        refine jq_get C fl_4_31 d_CT_write_34 hr hrn rfl ?_
        refine j_iload_n C d_CT_write_37 rfl rfl ?_
        refine j_callS C d_CT_write_38 ml_CT_34 mc_X_has st_X_has (c_X_has hl _ _ _) rfl rfl (Nat.le_of_ble_eq_true rfl) (Nat.le_of_ble_eq_true rfl) (Nat.le_of_ble_eq_true rfl) (Nat.le_of_ble_eq_true rfl) (jk_r ?_)
        refine j_if_eq (tgt := 60) C d_CT_write_41 (by decide) (fun c41 => ?_) (fun c41 => ?_)
        · have e9 : xdi (ζ 0) g hb f = [] := by unfold xdi; rw [if_pos c41]
          refine j_iinc (v := nI (f + 1)) C d_CT_write_60 rfl (nI_inc f) (by decide) rfl ?_
          refine j_goto (tgt := 27) C d_CT_write_63 (by decide) ?_
          exact j_pick [0, 1, 2, 3] rfl (ih (f + 1) q (by omega) (by omega) (by rw [← hv]; show _ = q ++ (xdi (ζ 0) g hb f ++ _); rw [e9]; rfl))
        · refine j_aload_n C d_CT_write_44 rfl rfl ?_
          refine j_iload_n C d_CT_write_45 rfl rfl ?_
          refine j_aload_n C d_CT_write_46 rfl rfl ?_
          refine jq_get C fl_4_38 d_CT_write_47 hr hrn rfl ?_
          refine j_iload_n C d_CT_write_50 rfl rfl ?_
          refine jq_ld1 (y := g f) C d_CT_write_51 hr hrn (vp_in_nI (by omega) (by omega)) (by rw [nI_clamp (by omega)]) ?_
          refine j_iload_n C d_CT_write_52 rfl rfl ?_
          refine j_iload_n C d_CT_write_53 rfl rfl ?_
          refine j_callS C d_CT_write_54 ml_CT_34 mc_X_has st_X_has (c_X_has hl _ _ _) rfl rfl (Nat.le_of_ble_eq_true rfl) (Nat.le_of_ble_eq_true rfl) (Nat.le_of_ble_eq_true rfl) (Nat.le_of_ble_eq_true rfl) (jk_r ?_)
          refine j_h (h' := (ovC xo ξ β ρ u v (ovR r i0 k0 t0 f0 ζ g w h) q)) rfl ?_
          by_cases hd0 : xhs hb (nI f) = 0
          · have e9 : xdi (ζ 0) g hb f = nb f ++ [58] ++ vb (g f) ++ [59] := by unfold xdi; rw [if_neg c41, if_pos hd0]
            refine j_callV C d_CT_write_57 ml_CT_42 mc_CT_addField in_CT_addField rfl se_CT_addField (by omega) (ovC_o _ _ _ _ _ _ _ _) (c_CT_addField_v hl _ hn f (g f) _ q (by omega) (hvk f (by omega)) (by omega) hd0) rfl rfl (Nat.le_of_ble_eq_true rfl) (Nat.le_of_ble_eq_true rfl) (Nat.le_of_ble_eq_true rfl) (Nat.le_of_ble_eq_true rfl) (jk_v ?_)
            refine j_iinc (v := nI (f + 1)) C d_CT_write_60 rfl (nI_inc f) (by decide) rfl ?_
            refine j_goto (tgt := 27) C d_CT_write_63 (by decide) ?_
            exact j_pick [0, 1, 2, 3] rfl (ih (f + 1) (q ++ nb f ++ [58] ++ vb (g f) ++ [59]) (by omega) (by have z1 := nb_len f; have z2 := dn_c f; have z3 := vb_len (hvk f (by omega)); simp only [List.length_append, List.length_singleton]; omega) (by rw [← hv]; show _ = q ++ (xdi (ζ 0) g hb f ++ _); rw [e9]; simp))
          · have e9 : xdi (ζ 0) g hb f = nb f ++ [58] ++ [42] ++ [59] := by unfold xdi; rw [if_neg c41, if_neg hd0]
            refine j_callV C d_CT_write_57 ml_CT_42 mc_CT_addField in_CT_addField rfl se_CT_addField (by omega) (ovC_o _ _ _ _ _ _ _ _) (c_CT_addField_h hl _ hn f (g f) _ q (by omega) (hvk f (by omega)) (by omega) hd0) rfl rfl (Nat.le_of_ble_eq_true rfl) (Nat.le_of_ble_eq_true rfl) (Nat.le_of_ble_eq_true rfl) (Nat.le_of_ble_eq_true rfl) (jk_v ?_)
            refine j_iinc (v := nI (f + 1)) C d_CT_write_60 rfl (nI_inc f) (by decide) rfl ?_
            refine j_goto (tgt := 27) C d_CT_write_63 (by decide) ?_
            exact j_pick [0, 1, 2, 3] rfl (ih (f + 1) (q ++ nb f ++ [58] ++ [42] ++ [59]) (by omega) (by have z1 := nb_len f; have z2 := dn_c f; have z3 := vb_len (hvk f (by omega)); simp only [List.length_append, List.length_singleton]; omega) (by rw [← hv]; show _ = q ++ (xdi (ζ 0) g hb f ++ _); rw [e9]; simp))
  refine j_aload_n C d_CT_write_0 rfl rfl ?_
  refine j_iconst (v := 0) C d_CT_write_1 (by decide) ?_
  refine jx_puti 26 10 C fp_4_15 d_CT_write_2 hn rfl (Nat.le_of_ble_eq_true rfl) rfl rfl rfl ?_
  refine j_h (h' := (ovC xo ξ β ρ u v (ovR r i0 k0 t0 f0 ζ g w h) [])) (by unfold ovC; rw [wl_nil, upa_self rfl]; rfl) ?_
  refine j_aload_n C d_CT_write_5 rfl rfl ?_
  refine j_bipush (v := 82) C d_CT_write_6 (by decide) ?_
  refine j_callV C d_CT_write_8 ml_CT_19 mc_CT_addByte in_CT_addByte rfl se_CT_addByte (by omega) (ovC_o _ _ _ _ _ _ _ _) (c_CT_addByte hl _ hn 82 [] (by simp) (b7_n 82 (by omega))) rfl rfl (Nat.le_of_ble_eq_true rfl) (Nat.le_of_ble_eq_true rfl) (Nat.le_of_ble_eq_true rfl) (Nat.le_of_ble_eq_true rfl) (jk_v ?_)
  refine j_aload_n C d_CT_write_11 rfl rfl ?_
  refine j_aload_n C d_CT_write_12 rfl rfl ?_
  refine jq_get C fl_4_23 d_CT_write_13 hr hrn rfl ?_
  rw [show (Value.int i0) = Value.int (nI m0) from by rw [hi]]
  refine j_h (h' := (ovC xo ξ β ρ u v (ovR r i0 k0 t0 f0 ζ g w h) [82])) rfl ?_
  refine j_callV C d_CT_write_16 ml_CT_28 mc_CT_addNumber in_CT_addNumber rfl se_CT_addNumber (by omega) (ovC_o _ _ _ _ _ _ _ _) (c_CT_addNumber_p hl _ hn m0 [82] (by omega) (by simp)) rfl rfl (Nat.le_of_ble_eq_true rfl) (Nat.le_of_ble_eq_true rfl) (Nat.le_of_ble_eq_true rfl) (Nat.le_of_ble_eq_true rfl) (jk_v ?_)
  refine j_aload_n C d_CT_write_19 rfl rfl ?_
  refine j_bipush (v := 44) C d_CT_write_20 (by decide) ?_
  refine j_callV C d_CT_write_22 ml_CT_19 mc_CT_addByte in_CT_addByte rfl se_CT_addByte (by omega) (ovC_o _ _ _ _ _ _ _ _) (c_CT_addByte hl _ hn 44 ([82] ++ nb m0) (by simp only [List.length_append, List.length_singleton]; have z1 := nb_len m0; have z2 := dn_le m0; omega) (b7_n 44 (by omega))) rfl rfl (Nat.le_of_ble_eq_true rfl) (Nat.le_of_ble_eq_true rfl) (Nat.le_of_ble_eq_true rfl) (Nat.le_of_ble_eq_true rfl) (jk_v ?_)
  refine j_iconst (v := 0) C d_CT_write_25 (by decide) ?_
  refine j_istore_n C d_CT_write_26 rfl (by decide) rfl ?_
  exact j_pick [0, 1, 2, 3] rfl (loop 20 0 ([82] ++ nb m0 ++ [44]) rfl (by simp only [List.length_append, List.length_singleton]; have z1 := nb_len m0; have z2 := dn_c m0; omega) rfl)

set_option maxHeartbeats 4000000 in
set_option maxRecDepth 100000 in
theorem c_X_code_a {l : Launch} (hl : l.stackTraces = false) {D : va_G} {cA : Nat → ClassId} {b n : Nat} {xo : Nat} {ξ : Nat → Int32} {β : Nat → Nat → Int32} {ρ : Nat → Option Nat} {u v : Nat} {r : Nat} {i0 k0 t0 f0 : Int32} {ζ : Nat → Int32} {g w : Nat → Int32} (h : AH) (hr : xo + 28 ≤ r) (hrn : r + 3 ≤ n) (j : Nat) (hj : j < 30) (hj0 : nI j < ξ 0) (hρ : ρ j = some r) (q : Int32) (hk : q < 0 ∨ ¬ q < 20) : Cn l D cA b y_X_code k_X_code 7 96 1 6 [.ref xo, .int (nI j), .int q] n (ovX xo ξ β ρ u v (ovR r i0 k0 t0 f0 ζ g w h)) (Th 7 n (ovX xo ξ β ρ u v (ovR r i0 k0 t0 f0 ζ g w h))) := by
  refine Cn.of (cc := b_X_code) (maxL := 4) (ret := (some .int)) (hh := []) (by decide +kernel) hl (Or.inl ⟨rfl, rfl⟩) (Nat.le_of_ble_eq_true rfl) ?_
  intro p e s m args below meth c C
  have hn : xo + 28 ≤ n := by omega
  refine j_aload_n C d_X_code_0 rfl rfl ?_
  refine j_iload_n C d_X_code_1 rfl rfl ?_
  refine j_callV C d_X_code_2 ml_X_103 mc_X_known in_X_known rfl se_X_known (by omega) (ovX_c (o := 0) rfl) (c_X_known_0 hl _ hn j r hj hj0 hρ) rfl rfl (Nat.le_of_ble_eq_true rfl) (Nat.le_of_ble_eq_true rfl) (Nat.le_of_ble_eq_true rfl) (Nat.le_of_ble_eq_true rfl) (jk_r ?_)
  refine j_astore_n C d_X_code_5 rfl (by decide) rfl ?_
  refine j_iload_n C d_X_code_6 rfl rfl ?_
  exact j_callS C d_X_code_7 ml_X_175 mc_X_requirePerson st_X_requirePerson (c_X_requirePerson_1 hl _ q hk) rfl rfl (Nat.le_of_ble_eq_true rfl) (Nat.le_of_ble_eq_true rfl) (Nat.le_of_ble_eq_true rfl) (Nat.le_of_ble_eq_true rfl) (jk_x C rfl (Nat.le_of_ble_eq_true rfl) (Nat.le_of_ble_eq_true rfl) ⟨rfl, rfl, rfl⟩)

set_option maxHeartbeats 4000000 in
set_option maxRecDepth 100000 in
theorem c_X_code_r {l : Launch} (hl : l.stackTraces = false) {D : va_G} {cA : Nat → ClassId} {b n : Nat} {xo : Nat} {ξ : Nat → Int32} {β : Nat → Nat → Int32} {ρ : Nat → Option Nat} {u v : Nat} {r : Nat} {i0 k0 t0 f0 : Int32} {ζ : Nat → Int32} {g w : Nat → Int32} (h : AH) (hr : xo + 28 ≤ r) (hrn : r + 3 ≤ n) (j : Nat) (hj : j < 30) (hj0 : nI j < ξ 0) (hρ : ρ j = some r) (q : Int32) (fa : ¬ q < 0) (fb : q < 20) (hi : vp_in q 20) (m0 : Nat) (he : i0 = nI m0) (hm : m0 ≤ 9999) (hvk : ∀ f, f < 20 → vok (g f)) : Cn l D cA b y_X_code k_X_code 7 96 1 6 [.ref xo, .int (nI j), .int q] n (ovX xo ξ β ρ u v (ovR r i0 k0 t0 f0 ζ g w h)) (Re (some (.int (nI (xdw (ζ 0) g (β 3 q.toNatClampNeg) m0).length))) n (ovC xo ξ β ρ u v (ovR r i0 k0 t0 f0 ζ g w h) (xdw (ζ 0) g (β 3 q.toNatClampNeg) m0))) := by
  refine Cn.of (cc := b_X_code) (maxL := 4) (ret := (some .int)) (hh := []) (by decide +kernel) hl (Or.inl ⟨rfl, rfl⟩) (Nat.le_of_ble_eq_true rfl) ?_
  intro p e s m args below meth c C
  have hn : xo + 28 ≤ n := by omega
  refine j_aload_n C d_X_code_0 rfl rfl ?_
  refine j_iload_n C d_X_code_1 rfl rfl ?_
  refine j_callV C d_X_code_2 ml_X_103 mc_X_known in_X_known rfl se_X_known (by omega) (ovX_c (o := 0) rfl) (c_X_known_0 hl _ hn j r hj hj0 hρ) rfl rfl (Nat.le_of_ble_eq_true rfl) (Nat.le_of_ble_eq_true rfl) (Nat.le_of_ble_eq_true rfl) (Nat.le_of_ble_eq_true rfl) (jk_r ?_)
  refine j_astore_n C d_X_code_5 rfl (by decide) rfl ?_
  refine j_iload_n C d_X_code_6 rfl rfl ?_
  refine j_callS C d_X_code_7 ml_X_175 mc_X_requirePerson st_X_requirePerson (c_X_requirePerson_0 hl _ q fa fb) rfl rfl (Nat.le_of_ble_eq_true rfl) (Nat.le_of_ble_eq_true rfl) (Nat.le_of_ble_eq_true rfl) (Nat.le_of_ble_eq_true rfl) (jk_v ?_)
  refine j_aload_n C d_X_code_10 rfl rfl ?_
  refine jx_get 0 C fl_0_71 d_X_code_11 hn rfl rfl ?_
  refine j_aload_n C d_X_code_14 rfl rfl ?_
  refine j_aload_n C d_X_code_15 rfl rfl ?_
  refine jx_get 0 C fl_0_23 d_X_code_16 hn rfl rfl ?_
  refine j_iload_n C d_X_code_19 rfl rfl ?_
  refine jx_iald 3 C d_X_code_20 hn rfl hi rfl ?_
  refine j_callV C d_X_code_21 ml_X_209 mc_CT_write in_CT_write rfl se_CT_write (by omega) (ovX_c (o := 26) rfl) (c_CT_write hl h hn hr hrn _ m0 he hm hvk) rfl rfl (Nat.le_of_ble_eq_true rfl) (Nat.le_of_ble_eq_true rfl) (Nat.le_of_ble_eq_true rfl) (Nat.le_of_ble_eq_true rfl) (jk_v ?_)
  refine j_aload_n C d_X_code_24 rfl rfl ?_
  refine jx_get 0 C fl_0_71 d_X_code_25 hn rfl rfl ?_
  refine jx_get 26 C fl_0_213 d_X_code_28 hn rfl rfl ?_
  exact j_ireturn C d_X_code_31 rfl (by decide) (by decide) ⟨rfl, rfl, rfl⟩

