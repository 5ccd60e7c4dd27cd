/-! ===== the class: edition, reportAt, at, wanting: printed by program ===== -/
theorem ac_ini : Cond.initialized "java/lang/System" ∈ g_ws := g_in (List.mem_of_getElem? (i := 72) (by decide +kernel)) (by decide +kernel)
theorem ac_ml : Cond.methodLink cR5 54 arraycopyName ∈ g_ws := g_in (List.mem_of_getElem? (i := 627) (by decide +kernel)) (by decide +kernel)
theorem ac_st : Cond.static arraycopyName ∈ g_ws := g_in (List.mem_of_getElem? (i := 628) (by decide +kernel)) (by decide +kernel)
theorem ac_na : Cond.native arraycopyName ∈ g_ws := g_in (List.mem_of_getElem? (i := 629) (by decide +kernel)) (by decide +kernel)
def y_I_bitCount : MethodName := ⟨"java/lang/Integer", "bitCount", "(I)I"⟩
abbrev b_I_bitCount : ByteArray := prog_13_method_49_code
abbrev k_I_bitCount : Cond := .code y_I_bitCount b_I_bitCount 1 (some .int)
theorem mc_I_bitCount : MC y_I_bitCount k_I_bitCount b_I_bitCount 1 (some .int) [] 1 := ⟨g_in (List.mem_of_getElem? (i := 721) (by decide +kernel)) (by decide +kernel), Or.inl ⟨rfl, rfl⟩, g_in (List.mem_of_getElem? (i := 73) (by decide +kernel)) (by decide +kernel), by decide, by decide +kernel⟩
theorem st_I_bitCount : Cond.static y_I_bitCount ∈ g_ws := g_in (List.mem_of_getElem? (i := 720) (by decide +kernel)) (by decide +kernel)
theorem ml_X_243 : ML cR0 243 y_I_bitCount := Or.inl (g_in (List.mem_of_getElem? (i := 719) (by decide +kernel)) (by decide +kernel))
theorem lc_I_265 : Cond.constant "java/lang/Integer" 265 1431655765 ∈ g_ws := g_in (List.mem_of_getElem? (i := 722) (by decide +kernel)) (by decide +kernel)
theorem lc_I_266 : Cond.constant "java/lang/Integer" 266 858993459 ∈ g_ws := g_in (List.mem_of_getElem? (i := 723) (by decide +kernel)) (by decide +kernel)
theorem lc_I_267 : Cond.constant "java/lang/Integer" 267 252645135 ∈ g_ws := g_in (List.mem_of_getElem? (i := 724) (by decide +kernel)) (by decide +kernel)
theorem d_I_bitCount_0 : decode b_I_bitCount 0 = .ok (.iload_n 0, 1) := by decide +kernel
theorem d_I_bitCount_1 : decode b_I_bitCount 1 = .ok (.iload_n 0, 1) := by decide +kernel
theorem d_I_bitCount_2 : decode b_I_bitCount 2 = .ok (.iconst 1, 1) := by decide +kernel
theorem d_I_bitCount_3 : decode b_I_bitCount 3 = .ok (.iushr, 1) := by decide +kernel
theorem d_I_bitCount_4 : decode b_I_bitCount 4 = .ok (.ldc_w 265, 3) := by decide +kernel
theorem d_I_bitCount_7 : decode b_I_bitCount 7 = .ok (.iand, 1) := by decide +kernel
theorem d_I_bitCount_8 : decode b_I_bitCount 8 = .ok (.isub, 1) := by decide +kernel
theorem d_I_bitCount_9 : decode b_I_bitCount 9 = .ok (.istore_n 0, 1) := by decide +kernel
theorem d_I_bitCount_10 : decode b_I_bitCount 10 = .ok (.iload_n 0, 1) := by decide +kernel
theorem d_I_bitCount_11 : decode b_I_bitCount 11 = .ok (.ldc_w 266, 3) := by decide +kernel
theorem d_I_bitCount_14 : decode b_I_bitCount 14 = .ok (.iand, 1) := by decide +kernel
theorem d_I_bitCount_15 : decode b_I_bitCount 15 = .ok (.iload_n 0, 1) := by decide +kernel
theorem d_I_bitCount_16 : decode b_I_bitCount 16 = .ok (.iconst 2, 1) := by decide +kernel
theorem d_I_bitCount_17 : decode b_I_bitCount 17 = .ok (.iushr, 1) := by decide +kernel
theorem d_I_bitCount_18 : decode b_I_bitCount 18 = .ok (.ldc_w 266, 3) := by decide +kernel
theorem d_I_bitCount_21 : decode b_I_bitCount 21 = .ok (.iand, 1) := by decide +kernel
theorem d_I_bitCount_22 : decode b_I_bitCount 22 = .ok (.iadd, 1) := by decide +kernel
theorem d_I_bitCount_23 : decode b_I_bitCount 23 = .ok (.istore_n 0, 1) := by decide +kernel
theorem d_I_bitCount_24 : decode b_I_bitCount 24 = .ok (.iload_n 0, 1) := by decide +kernel
theorem d_I_bitCount_25 : decode b_I_bitCount 25 = .ok (.iload_n 0, 1) := by decide +kernel
theorem d_I_bitCount_26 : decode b_I_bitCount 26 = .ok (.iconst 4, 1) := by decide +kernel
theorem d_I_bitCount_27 : decode b_I_bitCount 27 = .ok (.iushr, 1) := by decide +kernel
theorem d_I_bitCount_28 : decode b_I_bitCount 28 = .ok (.iadd, 1) := by decide +kernel
theorem d_I_bitCount_29 : decode b_I_bitCount 29 = .ok (.ldc_w 267, 3) := by decide +kernel
theorem d_I_bitCount_32 : decode b_I_bitCount 32 = .ok (.iand, 1) := by decide +kernel
theorem d_I_bitCount_33 : decode b_I_bitCount 33 = .ok (.istore_n 0, 1) := by decide +kernel
theorem d_I_bitCount_34 : decode b_I_bitCount 34 = .ok (.iload_n 0, 1) := by decide +kernel
theorem d_I_bitCount_35 : decode b_I_bitCount 35 = .ok (.iload_n 0, 1) := by decide +kernel
theorem d_I_bitCount_36 : decode b_I_bitCount 36 = .ok (.bipush 8, 2) := by decide +kernel
theorem d_I_bitCount_38 : decode b_I_bitCount 38 = .ok (.iushr, 1) := by decide +kernel
theorem d_I_bitCount_39 : decode b_I_bitCount 39 = .ok (.iadd, 1) := by decide +kernel
theorem d_I_bitCount_40 : decode b_I_bitCount 40 = .ok (.istore_n 0, 1) := by decide +kernel
theorem d_I_bitCount_41 : decode b_I_bitCount 41 = .ok (.iload_n 0, 1) := by decide +kernel
theorem d_I_bitCount_42 : decode b_I_bitCount 42 = .ok (.iload_n 0, 1) := by decide +kernel
theorem d_I_bitCount_43 : decode b_I_bitCount 43 = .ok (.bipush 16, 2) := by decide +kernel
theorem d_I_bitCount_45 : decode b_I_bitCount 45 = .ok (.iushr, 1) := by decide +kernel
theorem d_I_bitCount_46 : decode b_I_bitCount 46 = .ok (.iadd, 1) := by decide +kernel
theorem d_I_bitCount_47 : decode b_I_bitCount 47 = .ok (.istore_n 0, 1) := by decide +kernel
theorem d_I_bitCount_48 : decode b_I_bitCount 48 = .ok (.iload_n 0, 1) := by decide +kernel
theorem d_I_bitCount_49 : decode b_I_bitCount 49 = .ok (.bipush 63, 2) := by decide +kernel
theorem d_I_bitCount_51 : decode b_I_bitCount 51 = .ok (.iand, 1) := by decide +kernel
theorem d_I_bitCount_52 : decode b_I_bitCount 52 = .ok (.ireturn, 1) := by decide +kernel
def ush (x k : Int32) : Int32 := (x.toUInt32 >>> (k.toUInt32 &&& Int32.toUInt32 31)).toInt32
def xb1 (x : Int32) : Int32 := x - (ush x 1 &&& 1431655765)
def xb2 (x : Int32) : Int32 := (xb1 x &&& 858993459) + (ush (xb1 x) 2 &&& 858993459)
def xb3 (x : Int32) : Int32 := (xb2 x + ush (xb2 x) 4) &&& 252645135
def xb4 (x : Int32) : Int32 := xb3 x + ush (xb3 x) 8
def xbc (x : Int32) : Int32 := (xb4 x + ush (xb4 x) 16) &&& 63
set_option maxHeartbeats 4000000 in
set_option maxRecDepth 100000 in
theorem c_I_bitCount {l : Launch} (hl : l.stackTraces = false) {D : va_G} {cA : Nat → ClassId} {b n : Nat} (x : Int32) (h : AH) : Cn l D cA b y_I_bitCount k_I_bitCount 0 0 0 0 [.int x] n h (Re (some (.int (xbc x))) n h) := by
  refine Cn.of (cc := b_I_bitCount) (maxL := 1) (ret := (some .int)) (hh := []) (by decide +kernel) hl (Or.inl ⟨rfl, rfl⟩) (Nat.le_of_ble_eq_true rfl) ?_
  intro p e s m args below meth c C
  refine j_iload_n C d_I_bitCount_0 rfl rfl ?_
  refine j_iload_n C d_I_bitCount_1 rfl rfl ?_
  refine j_iconst (v := 1) C d_I_bitCount_2 (by decide) ?_
  refine j_iushr C d_I_bitCount_3 rfl ?_
  refine j_ldcw (v := 1431655765) C d_I_bitCount_4 lc_I_265 ?_
  refine j_iand C d_I_bitCount_7 ?_
  refine j_isub C d_I_bitCount_8 ?_
  refine j_istore_n C d_I_bitCount_9 rfl (by decide) rfl ?_
  refine j_iload_n C d_I_bitCount_10 rfl rfl ?_
  refine j_ldcw (v := 858993459) C d_I_bitCount_11 lc_I_266 ?_
  refine j_iand C d_I_bitCount_14 ?_
  refine j_iload_n C d_I_bitCount_15 rfl rfl ?_
  refine j_iconst (v := 2) C d_I_bitCount_16 (by decide) ?_
  refine j_iushr C d_I_bitCount_17 rfl ?_
  refine j_ldcw (v := 858993459) C d_I_bitCount_18 lc_I_266 ?_
  refine j_iand C d_I_bitCount_21 ?_
  refine j_iadd C d_I_bitCount_22 ?_
  refine j_istore_n C d_I_bitCount_23 rfl (by decide) rfl ?_
  refine j_iload_n C d_I_bitCount_24 rfl rfl ?_
  refine j_iload_n C d_I_bitCount_25 rfl rfl ?_
  refine j_iconst (v := 4) C d_I_bitCount_26 (by decide) ?_
  refine j_iushr C d_I_bitCount_27 rfl ?_
  refine j_iadd C d_I_bitCount_28 ?_
  refine j_ldcw (v := 252645135) C d_I_bitCount_29 lc_I_267 ?_
  refine j_iand C d_I_bitCount_32 ?_
  refine j_istore_n C d_I_bitCount_33 rfl (by decide) rfl ?_
  refine j_iload_n C d_I_bitCount_34 rfl rfl ?_
  refine j_iload_n C d_I_bitCount_35 rfl rfl ?_
  refine j_bipush (v := 8) C d_I_bitCount_36 (by decide) ?_
  refine j_iushr C d_I_bitCount_38 rfl ?_
  refine j_iadd C d_I_bitCount_39 ?_
  refine j_istore_n C d_I_bitCount_40 rfl (by decide) rfl ?_
  refine j_iload_n C d_I_bitCount_41 rfl rfl ?_
  refine j_iload_n C d_I_bitCount_42 rfl rfl ?_
  refine j_bipush (v := 16) C d_I_bitCount_43 (by decide) ?_
  refine j_iushr C d_I_bitCount_45 rfl ?_
  refine j_iadd C d_I_bitCount_46 ?_
  refine j_istore_n C d_I_bitCount_47 rfl (by decide) rfl ?_
  refine j_iload_n C d_I_bitCount_48 rfl rfl ?_
  refine j_bipush (v := 63) C d_I_bitCount_49 (by decide) ?_
  refine j_iand C d_I_bitCount_51 ?_
  exact j_ireturn C d_I_bitCount_52 rfl (by decide) (by decide) ⟨rfl, rfl, rfl⟩

theorem ovR_n {r : Nat} {i k t f : Int32} {ζ : Nat → Int32} {g w : Nat → Int32} {h : AH} {j : Nat} (hj : j < r ∨ r + 3 ≤ j) : ovR r i k t f ζ g w h j = h j := ovL_n hj
set_option maxHeartbeats 4000000 in
set_option maxRecDepth 100000 in
theorem c_RP_copyValues {l : Launch} (hl : l.stackTraces = false) {D : va_G} {cA : Nat → ClassId} {b n : Nat} {r : Nat} {i0 k0 t0 f0 : Int32} {ζ : Nat → Int32} {g w : Nat → Int32} {r1 : Nat} {i1 k1 t1 f1 : Int32} {ζ1 g1 w1 : Nat → Int32} (h : AH) (hr : r1 + 3 ≤ r) (hn : r + 3 ≤ n) : Cn l D cA b y_RP_copyValues k_RP_copyValues 1 40 0 0 [.ref r, .ref r1] n (ovR r i0 k0 t0 f0 ζ g w (ovR r1 i1 k1 t1 f1 ζ1 g1 w1 h)) (Re none n (ovR r i0 k0 t0 f0 (upd (upd ζ 0 (ζ1 0)) 1 (ζ1 1)) (va_cpy g1 g 0 0 20) w (ovR r1 i1 k1 t1 f1 ζ1 g1 w1 h))) := by
  refine Cn.of (cc := b_RP_copyValues) (maxL := 2) (ret := none) (hh := []) (by decide +kernel) hl (Or.inl ⟨rfl, rfl⟩) (Nat.le_of_ble_eq_true rfl) ?_
  intro p e s m args below meth c C
  refine j_aload_n C d_RP_copyValues_0 rfl rfl ?_
  refine j_get C fl_5_9 d_RP_copyValues_1 (by omega) ((ovR_n (Or.inl (by omega))).trans (ovR_o _ _ _ _ _ _ _ _ _)) rfl ?_
  refine j_iconst (v := 0) C d_RP_copyValues_4 (by decide) ?_
  refine j_aload_n C d_RP_copyValues_5 rfl rfl ?_
  refine jr_get C fl_5_9 d_RP_copyValues_6 hn rfl ?_
  refine j_iconst (v := 0) C d_RP_copyValues_9 (by decide) ?_
  refine j_bipush (v := 20) C d_RP_copyValues_10 (by decide) ?_
  refine j_copyi (t := 0) C d_RP_copyValues_12 ac_ml ac_na ac_st ac_ini rfl (by omega) ((ovR_n (Or.inl (by omega))).trans (ovR_v _ _ _ _ _ _ _ _ _)) (by omega) (ovR_v _ _ _ _ _ _ _ _ _) (by decide) (by decide) (by decide) (by decide) (by decide) (Nat.le_of_ble_eq_true rfl) (Nat.le_of_ble_eq_true rfl) rfl ?_
  refine j_h (h' := (ovR r i0 k0 t0 f0 ζ (va_cpy g1 g 0 0 20) w (ovR r1 i1 k1 t1 f1 ζ1 g1 w1 h))) (ovR_u (o := 1) (by decide) rfl) ?_
  refine j_aload_n C d_RP_copyValues_15 rfl rfl ?_
  refine j_aload_n C d_RP_copyValues_16 rfl rfl ?_
  refine j_get C fl_5_15 d_RP_copyValues_17 (by omega) ((ovR_n (Or.inl (by omega))).trans (ovR_o _ _ _ _ _ _ _ _ _)) rfl ?_
  refine jr_puti 0 C fp_5_15 d_RP_copyValues_20 hn (Nat.le_of_ble_eq_true rfl) rfl rfl rfl ?_
  refine j_aload_n C d_RP_copyValues_23 rfl rfl ?_
  refine j_aload_n C d_RP_copyValues_24 rfl rfl ?_
  refine j_get C fl_5_19 d_RP_copyValues_25 (by omega) ((ovR_n (Or.inl (by omega))).trans (ovR_o _ _ _ _ _ _ _ _ _)) rfl ?_
  refine jr_puti 1 C fp_5_19 d_RP_copyValues_28 hn (Nat.le_of_ble_eq_true rfl) rfl rfl rfl ?_
  exact j_vreturn C d_RP_copyValues_31 rfl (Nat.le_of_ble_eq_true rfl) (Nat.le_of_ble_eq_true rfl) ⟨rfl, rfl, rfl⟩

set_option maxHeartbeats 4000000 in
set_option maxRecDepth 100000 in
theorem c_X_edition_b {l : Launch} (hl : l.stackTraces = false) {D : va_G} {cA : Nat → ClassId} {b n : Nat} {xo : Nat} {ξ : Nat → Int32} {β : Nat → Nat → Int32} {ρ : Nat → Option Nat} {u v : Nat} {r : Nat} {i0 k0 t0 f0 : Int32} {ζ : Nat → Int32} {g w : Nat → Int32} (h : AH) (hr : xo + 28 ≤ r) (hrn : r + 3 ≤ n) (j : Nat) (hj : j < 30) (hj0 : nI j < ξ 0) (hρ : ρ j = some r) (hc : rcl ζ = 0) : Cn l D cA b y_X_edition k_X_edition 7 96 3 34 [.ref xo, .int (nI j)] n (ovX xo ξ β ρ u v (ovR r i0 k0 t0 f0 ζ g w h)) (Th 9 n (ovX xo ξ β ρ u v (ovR r i0 k0 t0 f0 ζ g w h))) := by
  refine Cn.of (cc := b_X_edition) (maxL := 4) (ret := (some .int)) (hh := []) (by decide +kernel) hl (Or.inl ⟨rfl, rfl⟩) (Nat.le_of_ble_eq_true rfl) ?_
  intro p e s m args below meth c C
  have hn : xo + 28 ≤ n := by omega
  refine j_aload_n C d_X_edition_0 rfl rfl ?_
  refine j_iload_n C d_X_edition_1 rfl rfl ?_
  refine j_callV C d_X_edition_2 ml_X_103 mc_X_known in_X_known rfl se_X_known (by omega) (ovX_c (o := 0) rfl) (c_X_known_0 hl _ hn j r hj hj0 hρ) rfl rfl (Nat.le_of_ble_eq_true rfl) (Nat.le_of_ble_eq_true rfl) (Nat.le_of_ble_eq_true rfl) (Nat.le_of_ble_eq_true rfl) (jk_r ?_)
  refine j_astore_n C d_X_edition_5 rfl (by decide) rfl ?_
  refine j_aload_n C d_X_edition_6 rfl rfl ?_
  refine j_h (ovX_R hr) ?_
  exact j_callS C d_X_edition_7 ml_X_189 mc_X_requireClosed st_X_requireClosed (c_X_requireClosed_1 hl _ hrn hc) rfl rfl (Nat.le_of_ble_eq_true rfl) (Nat.le_of_ble_eq_true rfl) (Nat.le_of_ble_eq_true rfl) (Nat.le_of_ble_eq_true rfl) (jk_x C rfl (Nat.le_of_ble_eq_true rfl) (Nat.le_of_ble_eq_true rfl) ⟨rfl, rfl, by rw [ovX_R hr]⟩)

set_option maxHeartbeats 4000000 in
set_option maxRecDepth 100000 in
theorem c_X_edition_c {l : Launch} (hl : l.stackTraces = false) {D : va_G} {cA : Nat → ClassId} {b n : Nat} {xo : Nat} {ξ : Nat → Int32} {β : Nat → Nat → Int32} {ρ : Nat → Option Nat} {u v : Nat} {r : Nat} {i0 k0 t0 f0 : Int32} {ζ : Nat → Int32} {g w : Nat → Int32} (h : AH) (hr : xo + 28 ≤ r) (hrn : r + 3 ≤ n) (j : Nat) (hj : j < 30) (hj0 : nI j < ξ 0) (hρ : ρ j = some r) (hc : ¬ rcl ζ = 0) (hf : ¬ ξ 0 < 30) : Cn l D cA b y_X_edition k_X_edition 7 96 3 34 [.ref xo, .int (nI j)] n (ovX xo ξ β ρ u v (ovR r i0 k0 t0 f0 ζ g w h)) (Th 10 n (ovX xo ξ β ρ u v (ovR r i0 k0 t0 f0 ζ g w h))) := by
  refine Cn.of (cc := b_X_edition) (maxL := 4) (ret := (some .int)) (hh := []) (by decide +kernel) hl (Or.inl ⟨rfl, rfl⟩) (Nat.le_of_ble_eq_true rfl) ?_
  intro p e s m args below meth c C
  have hn : xo + 28 ≤ n := by omega
  refine j_aload_n C d_X_edition_0 rfl rfl ?_
  refine j_iload_n C d_X_edition_1 rfl rfl ?_
  refine j_callV C d_X_edition_2 ml_X_103 mc_X_known in_X_known rfl se_X_known (by omega) (ovX_c (o := 0) rfl) (c_X_known_0 hl _ hn j r hj hj0 hρ) rfl rfl (Nat.le_of_ble_eq_true rfl) (Nat.le_of_ble_eq_true rfl) (Nat.le_of_ble_eq_true rfl) (Nat.le_of_ble_eq_true rfl) (jk_r ?_)
  refine j_astore_n C d_X_edition_5 rfl (by decide) rfl ?_
  refine j_aload_n C d_X_edition_6 rfl rfl ?_
  refine j_h (ovX_R hr) ?_
  refine j_callS C d_X_edition_7 ml_X_189 mc_X_requireClosed st_X_requireClosed (c_X_requireClosed_0 hl _ hrn hc) rfl rfl (Nat.le_of_ble_eq_true rfl) (Nat.le_of_ble_eq_true rfl) (Nat.le_of_ble_eq_true rfl) (Nat.le_of_ble_eq_true rfl) (jk_v ?_)
  refine j_h (ovX_R hr).symm ?_
  refine j_aload_n C d_X_edition_10 rfl rfl ?_
  exact j_callV C d_X_edition_11 ml_X_86 mc_X_requireRoomForReport in_X_requireRoomForReport rfl se_X_requireRoomForReport (by omega) (ovX_c (o := 0) rfl) (c_X_requireRoomForReport_1 hl _ hn hf) rfl rfl (Nat.le_of_ble_eq_true rfl) (Nat.le_of_ble_eq_true rfl) (Nat.le_of_ble_eq_true rfl) (Nat.le_of_ble_eq_true rfl) (jk_x C rfl (Nat.le_of_ble_eq_true rfl) (Nat.le_of_ble_eq_true rfl) ⟨rfl, rfl, rfl⟩)

theorem ovR_R {r a : Nat} {i k t f i' k' t' f' : Int32} {ζ ζ' : Nat → Int32} {g w g' w' : Nat → Int32} {h : AH} (hd : r + 3 ≤ a) : ovR a i' k' t' f' ζ' g' w' (ovR r i k t f ζ g w h) = ovR r i k t f ζ g w (ovR a i' k' t' f' ζ' g' w' h) := ovL_ovL (Or.inr hd)
set_option maxHeartbeats 4000000 in
set_option maxRecDepth 100000 in
theorem c_X_edition_r {l : Launch} (hl : l.stackTraces = false) {D : va_G} {cA : Nat → ClassId} {b n : Nat} {xo : Nat} {ξ : Nat → Int32} {β : Nat → Nat → Int32} {ρ : Nat → Option Nat} {u v : Nat} {r : Nat} {i0 k0 t0 f0 : Int32} {ζ : Nat → Int32} {g w : Nat → Int32} (h : AH) (hr : xo + 28 ≤ r) (hrn : r + 3 ≤ n) (j : Nat) (hj : j < 30) (hj0 : nI j < ξ 0) (hρ : ρ j = some r) (hc : ¬ rcl ζ = 0) (hf : ξ 0 < 30) (hi : vp_in (ξ 0) 30) : Cn l D cA b y_X_edition k_X_edition 7 96 3 34 [.ref xo, .int (nI j)] n (ovX xo ξ β ρ u v (ovR r i0 k0 t0 f0 ζ g w h)) (Re (some (.int (ξ 0))) (n + 3) (ovX xo (upd ξ 0 (ξ 0 + 1)) β (va_up ρ (ξ 0).toNatClampNeg (some n)) u v (ovR r i0 k0 t0 f0 ζ g w (ovR n i0 k0 (ξ 1) (nI j) (upd (upd (fun _ => 0) 0 (ζ 0)) 1 (ζ 1)) (va_cpy g (fun _ => 0) 0 0 20) (fun _ => 0) h)))) := by
  refine Cn.of (cc := b_X_edition) (maxL := 4) (ret := (some .int)) (hh := []) (by decide +kernel) hl (Or.inl ⟨rfl, rfl⟩) (Nat.le_of_ble_eq_true rfl) ?_
  intro p e s m args below meth c C
  have hn : xo + 28 ≤ n := by omega
  refine j_aload_n C d_X_edition_0 rfl rfl ?_
  refine j_iload_n C d_X_edition_1 rfl rfl ?_
  refine j_callV C d_X_edition_2 ml_X_103 mc_X_known in_X_known rfl se_X_known (by omega) (ovX_c (o := 0) rfl) (c_X_known_0 hl _ hn j r hj hj0 hρ) rfl rfl (Nat.le_of_ble_eq_true rfl) (Nat.le_of_ble_eq_true rfl) (Nat.le_of_ble_eq_true rfl) (Nat.le_of_ble_eq_true rfl) (jk_r ?_)
  refine j_astore_n C d_X_edition_5 rfl (by decide) rfl ?_
  refine j_aload_n C d_X_edition_6 rfl rfl ?_
  refine j_h (ovX_R hr) ?_
  refine j_callS C d_X_edition_7 ml_X_189 mc_X_requireClosed st_X_requireClosed (c_X_requireClosed_0 hl _ hrn hc) rfl rfl (Nat.le_of_ble_eq_true rfl) (Nat.le_of_ble_eq_true rfl) (Nat.le_of_ble_eq_true rfl) (Nat.le_of_ble_eq_true rfl) (jk_v ?_)
  refine j_h (ovX_R hr).symm ?_
  refine j_aload_n C d_X_edition_10 rfl rfl ?_
  refine j_callV C d_X_edition_11 ml_X_86 mc_X_requireRoomForReport in_X_requireRoomForReport rfl se_X_requireRoomForReport (by omega) (ovX_c (o := 0) rfl) (c_X_requireRoomForReport_0 hl _ hn hf) rfl rfl (Nat.le_of_ble_eq_true rfl) (Nat.le_of_ble_eq_true rfl) (Nat.le_of_ble_eq_true rfl) (Nat.le_of_ble_eq_true rfl) (jk_v ?_)
  refine j_new C nl_X_9 d_X_edition_14 (Nat.le_of_ble_eq_true rfl) (Nat.le_of_ble_eq_true rfl) ?_
  refine j_h (h' := ovX xo ξ β ρ u v (ovR r i0 k0 t0 f0 ζ g w (hu h n (.inr (5, [.int 0, .int 0, .int 0, .int 0, .null, .int 0, .int 0, .int 0, .int 0, .null, .int 0]))))) (show hu (ovX xo ξ β ρ u v (ovR r i0 k0 t0 f0 ζ g w h)) n _ = _ by rw [ovX_out (Or.inr hn), ovR_out (Or.inr hrn)]) ?_
  refine j_dup C d_X_edition_17 rfl ?_
  refine j_aload_n C d_X_edition_18 rfl rfl ?_
  refine jq_get C fl_0_192 d_X_edition_19 hr (by omega) rfl ?_
  refine j_aload_n C d_X_edition_22 rfl rfl ?_
  refine jq_get C fl_0_195 d_X_edition_23 hr (by omega) rfl ?_
  refine j_aload_n C d_X_edition_26 rfl rfl ?_
  refine jx_get 0 C fl_0_26 d_X_edition_27 (by omega) rfl rfl ?_
  refine j_iload_n C d_X_edition_30 rfl rfl ?_
  refine j_h (h' := hu (ovX xo ξ β ρ u v (ovR r i0 k0 t0 f0 ζ g w h)) n (.inr (5, [.int 0, .int 0, .int 0, .int 0, .null, .int 0, .int 0, .int 0, .int 0, .null, .int 0]))) (by rw [ovX_out (Or.inr hn), ovR_out (Or.inr hrn)]) ?_
  refine j_callI C d_X_edition_31 rfl ml_X_89 mc_RP_init in_RP_init (c_RP_init hl n i0 k0 (ξ 1) (nI j) (ovX xo ξ β ρ u v (ovR r i0 k0 t0 f0 ζ g w h))) rfl rfl (Nat.le_of_ble_eq_true rfl) (Nat.le_of_ble_eq_true rfl) (Nat.le_of_ble_eq_true rfl) (Nat.le_of_ble_eq_true rfl) (jk_v ?_)
  refine j_h (h' := ovR n i0 k0 (ξ 1) (nI j) (fun _ => 0) (fun _ => 0) (fun _ => 0) (ovR r i0 k0 t0 f0 ζ g w (ovX xo ξ β ρ u v h))) (by rw [← ovX_R hr]; rfl) ?_
  refine j_astore_n C d_X_edition_34 rfl (by decide) rfl ?_
  refine j_aload_n C d_X_edition_35 rfl rfl ?_
  refine j_aload_n C d_X_edition_36 rfl rfl ?_
  refine j_callV C d_X_edition_37 ml_X_198 mc_RP_copyValues in_RP_copyValues rfl se_RP_copyValues (by omega) (ovR_o _ _ _ _ _ _ _ _ _) (c_RP_copyValues hl _ hrn (by omega)) rfl rfl (Nat.le_of_ble_eq_true rfl) (Nat.le_of_ble_eq_true rfl) (Nat.le_of_ble_eq_true rfl) (Nat.le_of_ble_eq_true rfl) (jk_v ?_)
  refine j_h (h' := ovX xo ξ β ρ u v (ovR n i0 k0 (ξ 1) (nI j) (upd (upd (fun _ => 0) 0 (ζ 0)) 1 (ζ 1)) (va_cpy g (fun _ => 0) 0 0 20) (fun _ => 0) (ovR r i0 k0 t0 f0 ζ g w h))) (by rw [← ovX_R hr]; exact (ovX_R (by omega)).symm) ?_
  refine j_aload_n C d_X_edition_40 rfl rfl ?_
  refine j_aload_n C d_X_edition_41 rfl rfl ?_
  refine j_callV C d_X_edition_42 ml_X_92 mc_X_keep in_X_keep rfl se_X_keep (by omega) (ovX_c (o := 0) rfl) (c_X_keep hl _ (by omega) n (by omega) (by omega) (ovR_o _ _ _ _ _ _ _ _ _) hi) rfl rfl (Nat.le_of_ble_eq_true rfl) (Nat.le_of_ble_eq_true rfl) (Nat.le_of_ble_eq_true rfl) (Nat.le_of_ble_eq_true rfl) (jk_r ?_)
  exact j_ireturn C d_X_edition_45 rfl (by decide) (by decide) ⟨rfl, rfl, congrArg (fun z => ovX xo (upd ξ 0 (ξ 0 + 1)) β (va_up ρ (ξ 0).toNatClampNeg (some n)) u v z) (ovR_R hrn)⟩

set_option maxHeartbeats 4000000 in
set_option maxRecDepth 100000 in
theorem c_X_reportAt_0 {l : Launch} (hl : l.stackTraces = false) {D : va_G} {cA : Nat → ClassId} {b n : Nat} {xo : Nat} {ξ : Nat → Int32} {β : Nat → Nat → Int32} {ρ : Nat → Option Nat} {u v : Nat} {r : Nat} {i0 k0 t0 f0 : Int32} {ζ : Nat → Int32} {g w : Nat → Int32} (h : AH) (hr : xo + 28 ≤ r) (hrn : r + 3 ≤ n) (j : Nat) (hj : j < 30) (hj0 : nI j < ξ 0) (hρ : ρ j = some r)  : Cn l D cA b y_X_reportAt k_X_reportAt 7 96 1 6 [.ref xo, .int (nI j), .int 0] n (ovX xo ξ β ρ u v (ovR r i0 k0 t0 f0 ζ g w h)) (Re (some (.int i0)) n (ovX xo ξ β ρ u v (ovR r i0 k0 t0 f0 ζ g w h))) := by
  refine Cn.of (cc := b_X_reportAt) (maxL := 4) (ret := (some .int)) (hh := []) (by decide +kernel) hl (Or.inl ⟨rfl, rfl⟩) (Nat.le_of_ble_eq_true rfl) ?_
  intro p e s m args below meth c C
  have hn : xo + 28 ≤ n := by omega
  refine j_aload_n C d_X_reportAt_0 rfl rfl ?_
  refine j_iload_n C d_X_reportAt_1 rfl rfl ?_
  refine j_callV C d_X_reportAt_2 ml_X_103 mc_X_known in_X_known rfl se_X_known (by omega) (ovX_c (o := 0) rfl) (c_X_known_0 hl _ hn j r hj hj0 hρ) rfl rfl (Nat.le_of_ble_eq_true rfl) (Nat.le_of_ble_eq_true rfl) (Nat.le_of_ble_eq_true rfl) (Nat.le_of_ble_eq_true rfl) (jk_r ?_)
  refine j_astore_n C d_X_reportAt_5 rfl (by decide) rfl ?_
  refine j_iload_n C d_X_reportAt_6 rfl rfl ?_
  refine j_tableIn (off := 45) (tgt := 52) C d_X_reportAt_7 (by decide) (by decide) (by decide +kernel) (by decide) ?_
  refine j_aload_n C d_X_reportAt_52 rfl rfl ?_
  refine jq_get C fl_0_192 d_X_reportAt_53 hr hrn rfl ?_
  exact j_ireturn C d_X_reportAt_56 rfl (by decide) (by decide) ⟨rfl, rfl, rfl⟩

set_option maxHeartbeats 4000000 in
set_option maxRecDepth 100000 in
theorem c_X_reportAt_1 {l : Launch} (hl : l.stackTraces = false) {D : va_G} {cA : Nat → ClassId} {b n : Nat} {xo : Nat} {ξ : Nat → Int32} {β : Nat → Nat → Int32} {ρ : Nat → Option Nat} {u v : Nat} {r : Nat} {i0 k0 t0 f0 : Int32} {ζ : Nat → Int32} {g w : Nat → Int32} (h : AH) (hr : xo + 28 ≤ r) (hrn : r + 3 ≤ n) (j : Nat) (hj : j < 30) (hj0 : nI j < ξ 0) (hρ : ρ j = some r)  : Cn l D cA b y_X_reportAt k_X_reportAt 7 96 1 6 [.ref xo, .int (nI j), .int 1] n (ovX xo ξ β ρ u v (ovR r i0 k0 t0 f0 ζ g w h)) (Re (some (.int k0)) n (ovX xo ξ β ρ u v (ovR r i0 k0 t0 f0 ζ g w h))) := by
  refine Cn.of (cc := b_X_reportAt) (maxL := 4) (ret := (some .int)) (hh := []) (by decide +kernel) hl (Or.inl ⟨rfl, rfl⟩) (Nat.le_of_ble_eq_true rfl) ?_
  intro p e s m args below meth c C
  have hn : xo + 28 ≤ n := by omega
  refine j_aload_n C d_X_reportAt_0 rfl rfl ?_
  refine j_iload_n C d_X_reportAt_1 rfl rfl ?_
  refine j_callV C d_X_reportAt_2 ml_X_103 mc_X_known in_X_known rfl se_X_known (by omega) (ovX_c (o := 0) rfl) (c_X_known_0 hl _ hn j r hj hj0 hρ) rfl rfl (Nat.le_of_ble_eq_true rfl) (Nat.le_of_ble_eq_true rfl) (Nat.le_of_ble_eq_true rfl) (Nat.le_of_ble_eq_true rfl) (jk_r ?_)
  refine j_astore_n C d_X_reportAt_5 rfl (by decide) rfl ?_
  refine j_iload_n C d_X_reportAt_6 rfl rfl ?_
  refine j_tableIn (off := 50) (tgt := 57) C d_X_reportAt_7 (by decide) (by decide) (by decide +kernel) (by decide) ?_
  refine j_aload_n C d_X_reportAt_57 rfl rfl ?_
  refine jq_get C fl_0_195 d_X_reportAt_58 hr hrn rfl ?_
  exact j_ireturn C d_X_reportAt_61 rfl (by decide) (by decide) ⟨rfl, rfl, rfl⟩

set_option maxHeartbeats 4000000 in
set_option maxRecDepth 100000 in
theorem c_X_reportAt_2 {l : Launch} (hl : l.stackTraces = false) {D : va_G} {cA : Nat → ClassId} {b n : Nat} {xo : Nat} {ξ : Nat → Int32} {β : Nat → Nat → Int32} {ρ : Nat → Option Nat} {u v : Nat} {r : Nat} {i0 k0 t0 f0 : Int32} {ζ : Nat → Int32} {g w : Nat → Int32} (h : AH) (hr : xo + 28 ≤ r) (hrn : r + 3 ≤ n) (j : Nat) (hj : j < 30) (hj0 : nI j < ξ 0) (hρ : ρ j = some r)  : Cn l D cA b y_X_reportAt k_X_reportAt 7 96 1 6 [.ref xo, .int (nI j), .int 2] n (ovX xo ξ β ρ u v (ovR r i0 k0 t0 f0 ζ g w h)) (Re (some (.int t0)) n (ovX xo ξ β ρ u v (ovR r i0 k0 t0 f0 ζ g w h))) := by
  refine Cn.of (cc := b_X_reportAt) (maxL := 4) (ret := (some .int)) (hh := []) (by decide +kernel) hl (Or.inl ⟨rfl, rfl⟩) (Nat.le_of_ble_eq_true rfl) ?_
  intro p e s m args below meth c C
  have hn : xo + 28 ≤ n := by omega
  refine j_aload_n C d_X_reportAt_0 rfl rfl ?_
  refine j_iload_n C d_X_reportAt_1 rfl rfl ?_
  refine j_callV C d_X_reportAt_2 ml_X_103 mc_X_known in_X_known rfl se_X_known (by omega) (ovX_c (o := 0) rfl) (c_X_known_0 hl _ hn j r hj hj0 hρ) rfl rfl (Nat.le_of_ble_eq_true rfl) (Nat.le_of_ble_eq_true rfl) (Nat.le_of_ble_eq_true rfl) (Nat.le_of_ble_eq_true rfl) (jk_r ?_)
  refine j_astore_n C d_X_reportAt_5 rfl (by decide) rfl ?_
  refine j_iload_n C d_X_reportAt_6 rfl rfl ?_
  refine j_tableIn (off := 55) (tgt := 62) C d_X_reportAt_7 (by decide) (by decide) (by decide +kernel) (by decide) ?_
  refine j_aload_n C d_X_reportAt_62 rfl rfl ?_
  refine jq_get C fl_0_236 d_X_reportAt_63 hr hrn rfl ?_
  exact j_ireturn C d_X_reportAt_66 rfl (by decide) (by decide) ⟨rfl, rfl, rfl⟩

set_option maxHeartbeats 4000000 in
set_option maxRecDepth 100000 in
theorem c_X_reportAt_3 {l : Launch} (hl : l.stackTraces = false) {D : va_G} {cA : Nat → ClassId} {b n : Nat} {xo : Nat} {ξ : Nat → Int32} {β : Nat → Nat → Int32} {ρ : Nat → Option Nat} {u v : Nat} {r : Nat} {i0 k0 t0 f0 : Int32} {ζ : Nat → Int32} {g w : Nat → Int32} (h : AH) (hr : xo + 28 ≤ r) (hrn : r + 3 ≤ n) (j : Nat) (hj : j < 30) (hj0 : nI j < ξ 0) (hρ : ρ j = some r)  : Cn l D cA b y_X_reportAt k_X_reportAt 7 96 1 6 [.ref xo, .int (nI j), .int 3] n (ovX xo ξ β ρ u v (ovR r i0 k0 t0 f0 ζ g w h)) (Re (some (.int (ζ 4))) n (ovX xo ξ β ρ u v (ovR r i0 k0 t0 f0 ζ g w h))) := by
  refine Cn.of (cc := b_X_reportAt) (maxL := 4) (ret := (some .int)) (hh := []) (by decide +kernel) hl (Or.inl ⟨rfl, rfl⟩) (Nat.le_of_ble_eq_true rfl) ?_
  intro p e s m args below meth c C
  have hn : xo + 28 ≤ n := by omega
  refine j_aload_n C d_X_reportAt_0 rfl rfl ?_
  refine j_iload_n C d_X_reportAt_1 rfl rfl ?_
  refine j_callV C d_X_reportAt_2 ml_X_103 mc_X_known in_X_known rfl se_X_known (by omega) (ovX_c (o := 0) rfl) (c_X_known_0 hl _ hn j r hj hj0 hρ) rfl rfl (Nat.le_of_ble_eq_true rfl) (Nat.le_of_ble_eq_true rfl) (Nat.le_of_ble_eq_true rfl) (Nat.le_of_ble_eq_true rfl) (jk_r ?_)
  refine j_astore_n C d_X_reportAt_5 rfl (by decide) rfl ?_
  refine j_iload_n C d_X_reportAt_6 rfl rfl ?_
  refine j_tableIn (off := 60) (tgt := 67) C d_X_reportAt_7 (by decide) (by decide) (by decide +kernel) (by decide) ?_
  refine j_aload_n C d_X_reportAt_67 rfl rfl ?_
  refine jq_get C fl_0_186 d_X_reportAt_68 hr hrn rfl ?_
  exact j_ireturn C d_X_reportAt_71 rfl (by decide) (by decide) ⟨rfl, rfl, rfl⟩

set_option maxHeartbeats 4000000 in
set_option maxRecDepth 100000 in
theorem c_X_reportAt_4 {l : Launch} (hl : l.stackTraces = false) {D : va_G} {cA : Nat → ClassId} {b n : Nat} {xo : Nat} {ξ : Nat → Int32} {β : Nat → Nat → Int32} {ρ : Nat → Option Nat} {u v : Nat} {r : Nat} {i0 k0 t0 f0 : Int32} {ζ : Nat → Int32} {g w : Nat → Int32} (h : AH) (hr : xo + 28 ≤ r) (hrn : r + 3 ≤ n) (j : Nat) (hj : j < 30) (hj0 : nI j < ξ 0) (hρ : ρ j = some r) (c0 : Nat) (h4 : ζ 4 = nI c0) (hc : c0 ≤ 3) : Cn l D cA b y_X_reportAt k_X_reportAt 7 96 1 6 [.ref xo, .int (nI j), .int 4] n (ovX xo ξ β ρ u v (ovR r i0 k0 t0 f0 ζ g w h)) (Re (some (.int (rls ζ w c0))) n (ovX xo ξ β ρ u v (ovR r i0 k0 t0 f0 ζ g w h))) := by
  refine Cn.of (cc := b_X_reportAt) (maxL := 4) (ret := (some .int)) (hh := []) (by decide +kernel) hl (Or.inl ⟨rfl, rfl⟩) (Nat.le_of_ble_eq_true rfl) ?_
  intro p e s m args below meth c C
  have hn : xo + 28 ≤ n := by omega
  refine j_aload_n C d_X_reportAt_0 rfl rfl ?_
  refine j_iload_n C d_X_reportAt_1 rfl rfl ?_
  refine j_callV C d_X_reportAt_2 ml_X_103 mc_X_known in_X_known rfl se_X_known (by omega) (ovX_c (o := 0) rfl) (c_X_known_0 hl _ hn j r hj hj0 hρ) rfl rfl (Nat.le_of_ble_eq_true rfl) (Nat.le_of_ble_eq_true rfl) (Nat.le_of_ble_eq_true rfl) (Nat.le_of_ble_eq_true rfl) (jk_r ?_)
  refine j_astore_n C d_X_reportAt_5 rfl (by decide) rfl ?_
  refine j_iload_n C d_X_reportAt_6 rfl rfl ?_
  refine j_tableIn (off := 65) (tgt := 72) C d_X_reportAt_7 (by decide) (by decide) (by decide +kernel) (by decide) ?_
  refine j_aload_n C d_X_reportAt_72 rfl rfl ?_
  refine j_h (ovX_R hr) ?_
  refine j_callV C d_X_reportAt_73 ml_X_239 mc_RP_lastSigner in_RP_lastSigner rfl se_RP_lastSigner (by omega) (ovR_o _ _ _ _ _ _ _ _ _) (c_RP_lastSigner hl _ hrn c0 h4 hc) rfl rfl (Nat.le_of_ble_eq_true rfl) (Nat.le_of_ble_eq_true rfl) (Nat.le_of_ble_eq_true rfl) (Nat.le_of_ble_eq_true rfl) (jk_r ?_)
  refine j_h (ovX_R hr).symm ?_
  exact j_ireturn C d_X_reportAt_76 rfl (by decide) (by decide) ⟨rfl, rfl, rfl⟩

set_option maxHeartbeats 4000000 in
set_option maxRecDepth 100000 in
theorem c_X_reportAt_5 {l : Launch} (hl : l.stackTraces = false) {D : va_G} {cA : Nat → ClassId} {b n : Nat} {xo : Nat} {ξ : Nat → Int32} {β : Nat → Nat → Int32} {ρ : Nat → Option Nat} {u v : Nat} {r : Nat} {i0 k0 t0 f0 : Int32} {ζ : Nat → Int32} {g w : Nat → Int32} (h : AH) (hr : xo + 28 ≤ r) (hrn : r + 3 ≤ n) (j : Nat) (hj : j < 30) (hj0 : nI j < ξ 0) (hρ : ρ j = some r)  : Cn l D cA b y_X_reportAt k_X_reportAt 7 96 1 6 [.ref xo, .int (nI j), .int 5] n (ovX xo ξ β ρ u v (ovR r i0 k0 t0 f0 ζ g w h)) (Re (some (.int (ζ 3))) n (ovX xo ξ β ρ u v (ovR r i0 k0 t0 f0 ζ g w h))) := by
  refine Cn.of (cc := b_X_reportAt) (maxL := 4) (ret := (some .int)) (hh := []) (by decide +kernel) hl (Or.inl ⟨rfl, rfl⟩) (Nat.le_of_ble_eq_true rfl) ?_
  intro p e s m args below meth c C
  have hn : xo + 28 ≤ n := by omega
  refine j_aload_n C d_X_reportAt_0 rfl rfl ?_
  refine j_iload_n C d_X_reportAt_1 rfl rfl ?_
  refine j_callV C d_X_reportAt_2 ml_X_103 mc_X_known in_X_known rfl se_X_known (by omega) (ovX_c (o := 0) rfl) (c_X_known_0 hl _ hn j r hj hj0 hρ) rfl rfl (Nat.le_of_ble_eq_true rfl) (Nat.le_of_ble_eq_true rfl) (Nat.le_of_ble_eq_true rfl) (Nat.le_of_ble_eq_true rfl) (jk_r ?_)
  refine j_astore_n C d_X_reportAt_5 rfl (by decide) rfl ?_
  refine j_iload_n C d_X_reportAt_6 rfl rfl ?_
  refine j_tableIn (off := 70) (tgt := 77) C d_X_reportAt_7 (by decide) (by decide) (by decide +kernel) (by decide) ?_
  refine j_aload_n C d_X_reportAt_77 rfl rfl ?_
  refine jq_get C fl_0_141 d_X_reportAt_78 hr hrn rfl ?_
  exact j_ireturn C d_X_reportAt_81 rfl (by decide) (by decide) ⟨rfl, rfl, rfl⟩

set_option maxHeartbeats 4000000 in
set_option maxRecDepth 100000 in
theorem c_X_reportAt_6 {l : Launch} (hl : l.stackTraces = false) {D : va_G} {cA : Nat → ClassId} {b n : Nat} {xo : Nat} {ξ : Nat → Int32} {β : Nat → Nat → Int32} {ρ : Nat → Option Nat} {u v : Nat} {r : Nat} {i0 k0 t0 f0 : Int32} {ζ : Nat → Int32} {g w : Nat → Int32} (h : AH) (hr : xo + 28 ≤ r) (hrn : r + 3 ≤ n) (j : Nat) (hj : j < 30) (hj0 : nI j < ξ 0) (hρ : ρ j = some r)  : Cn l D cA b y_X_reportAt k_X_reportAt 7 96 1 6 [.ref xo, .int (nI j), .int 6] n (ovX xo ξ β ρ u v (ovR r i0 k0 t0 f0 ζ g w h)) (Re (some (.int (xbc (ζ 2)))) n (ovX xo ξ β ρ u v (ovR r i0 k0 t0 f0 ζ g w h))) := by
  refine Cn.of (cc := b_X_reportAt) (maxL := 4) (ret := (some .int)) (hh := []) (by decide +kernel) hl (Or.inl ⟨rfl, rfl⟩) (Nat.le_of_ble_eq_true rfl) ?_
  intro p e s m args below meth c C
  have hn : xo + 28 ≤ n := by omega
  refine j_aload_n C d_X_reportAt_0 rfl rfl ?_
  refine j_iload_n C d_X_reportAt_1 rfl rfl ?_
  refine j_callV C d_X_reportAt_2 ml_X_103 mc_X_known in_X_known rfl se_X_known (by omega) (ovX_c (o := 0) rfl) (c_X_known_0 hl _ hn j r hj hj0 hρ) rfl rfl (Nat.le_of_ble_eq_true rfl) (Nat.le_of_ble_eq_true rfl) (Nat.le_of_ble_eq_true rfl) (Nat.le_of_ble_eq_true rfl) (jk_r ?_)
  refine j_astore_n C d_X_reportAt_5 rfl (by decide) rfl ?_
  refine j_iload_n C d_X_reportAt_6 rfl rfl ?_
  refine j_tableIn (off := 75) (tgt := 82) C d_X_reportAt_7 (by decide) (by decide) (by decide +kernel) (by decide) ?_
  refine j_aload_n C d_X_reportAt_82 rfl rfl ?_
  refine jq_get C fl_0_201 d_X_reportAt_83 hr hrn rfl ?_
  refine j_callS C d_X_reportAt_86 ml_X_243 mc_I_bitCount st_I_bitCount (c_I_bitCount hl _ _) rfl rfl (Nat.le_of_ble_eq_true rfl) (Nat.le_of_ble_eq_true rfl) (Nat.le_of_ble_eq_true rfl) (Nat.le_of_ble_eq_true rfl) (jk_r ?_)
  exact j_ireturn C d_X_reportAt_89 rfl (by decide) (by decide) ⟨rfl, rfl, rfl⟩

set_option maxHeartbeats 4000000 in
set_option maxRecDepth 100000 in
theorem c_X_reportAt_7 {l : Launch} (hl : l.stackTraces = false) {D : va_G} {cA : Nat → ClassId} {b n : Nat} {xo : Nat} {ξ : Nat → Int32} {β : Nat → Nat → Int32} {ρ : Nat → Option Nat} {u v : Nat} {r : Nat} {i0 k0 t0 f0 : Int32} {ζ : Nat → Int32} {g w : Nat → Int32} (h : AH) (hr : xo + 28 ≤ r) (hrn : r + 3 ≤ n) (j : Nat) (hj : j < 30) (hj0 : nI j < ξ 0) (hρ : ρ j = some r)  : Cn l D cA b y_X_reportAt k_X_reportAt 7 96 1 6 [.ref xo, .int (nI j), .int 7] n (ovX xo ξ β ρ u v (ovR r i0 k0 t0 f0 ζ g w h)) (Re (some (.int f0)) n (ovX xo ξ β ρ u v (ovR r i0 k0 t0 f0 ζ g w h))) := by
  refine Cn.of (cc := b_X_reportAt) (maxL := 4) (ret := (some .int)) (hh := []) (by decide +kernel) hl (Or.inl ⟨rfl, rfl⟩) (Nat.le_of_ble_eq_true rfl) ?_
  intro p e s m args below meth c C
  have hn : xo + 28 ≤ n := by omega
  refine j_aload_n C d_X_reportAt_0 rfl rfl ?_
  refine j_iload_n C d_X_reportAt_1 rfl rfl ?_
  refine j_callV C d_X_reportAt_2 ml_X_103 mc_X_known in_X_known rfl se_X_known (by omega) (ovX_c (o := 0) rfl) (c_X_known_0 hl _ hn j r hj hj0 hρ) rfl rfl (Nat.le_of_ble_eq_true rfl) (Nat.le_of_ble_eq_true rfl) (Nat.le_of_ble_eq_true rfl) (Nat.le_of_ble_eq_true rfl) (jk_r ?_)
  refine j_astore_n C d_X_reportAt_5 rfl (by decide) rfl ?_
  refine j_iload_n C d_X_reportAt_6 rfl rfl ?_
  refine j_tableIn (off := 83) (tgt := 90) C d_X_reportAt_7 (by decide) (by decide) (by decide +kernel) (by decide) ?_
  refine j_aload_n C d_X_reportAt_90 rfl rfl ?_
  refine jq_get C fl_0_249 d_X_reportAt_91 hr hrn rfl ?_
  exact j_ireturn C d_X_reportAt_94 rfl (by decide) (by decide) ⟨rfl, rfl, rfl⟩

set_option maxHeartbeats 4000000 in
set_option maxRecDepth 100000 in
theorem c_X_reportAt_b {l : Launch} (hl : l.stackTraces = false) {D : va_G} {cA : Nat → ClassId} {b n : Nat} {xo : Nat} {ξ : Nat → Int32} {β : Nat → Nat → Int32} {ρ : Nat → Option Nat} {u v : Nat} {r : Nat} {i0 k0 t0 f0 : Int32} {ζ : Nat → Int32} {g w : Nat → Int32} (h : AH) (hr : xo + 28 ≤ r) (hrn : r + 3 ≤ n) (j : Nat) (hj : j < 30) (hj0 : nI j < ξ 0) (hρ : ρ j = some r) (x : Int32) (hx : x.toInt < 0 ∨ 7 < x.toInt) : Cn l D cA b y_X_reportAt k_X_reportAt 7 96 1 6 [.ref xo, .int (nI j), .int x] n (ovX xo ξ β ρ u v (ovR r i0 k0 t0 f0 ζ g w h)) (Th 7 n (ovX xo ξ β ρ u v (ovR r i0 k0 t0 f0 ζ g w h))) := by
  refine Cn.of (cc := b_X_reportAt) (maxL := 4) (ret := (some .int)) (hh := []) (by decide +kernel) hl (Or.inl ⟨rfl, rfl⟩) (Nat.le_of_ble_eq_true rfl) ?_
  intro p e s m args below meth c C
  have hn : xo + 28 ≤ n := by omega
  refine j_aload_n C d_X_reportAt_0 rfl rfl ?_
  refine j_iload_n C d_X_reportAt_1 rfl rfl ?_
  refine j_callV C d_X_reportAt_2 ml_X_103 mc_X_known in_X_known rfl se_X_known (by omega) (ovX_c (o := 0) rfl) (c_X_known_0 hl _ hn j r hj hj0 hρ) rfl rfl (Nat.le_of_ble_eq_true rfl) (Nat.le_of_ble_eq_true rfl) (Nat.le_of_ble_eq_true rfl) (Nat.le_of_ble_eq_true rfl) (jk_r ?_)
  refine j_astore_n C d_X_reportAt_5 rfl (by decide) rfl ?_
  refine j_iload_n C d_X_reportAt_6 rfl rfl ?_
  refine j_tableOut (tgt := 95) C d_X_reportAt_7 hx (by decide) ?_
  exact j_throwS (text := "no such what") C th_7 (by decide +kernel) rfl d_X_reportAt_95 d_X_reportAt_98 d_X_reportAt_99 d_X_reportAt_101 d_X_reportAt_104 (Nat.le_of_ble_eq_true rfl) (Nat.le_of_ble_eq_true rfl) (Nat.le_of_ble_eq_true rfl) (Nat.le_of_ble_eq_true rfl) (Nat.le_of_ble_eq_true rfl) (Nat.le_of_ble_eq_true rfl) ⟨rfl, rfl, rfl⟩

set_option maxHeartbeats 4000000 in
set_option maxRecDepth 100000 in
theorem c_X_at_r {l : Launch} (hl : l.stackTraces = false) {D : va_G} {cA : Nat → ClassId} {b n : Nat} {xo : Nat} {ξ : Nat → Int32} {β : Nat → Nat → Int32} {ρ : Nat → Option Nat} {u v : Nat} (h : AH) (hn : xo + 28 ≤ n) (x : Int32) (h0 : 0 ≤ x) (h1 : ¬ ξ 10 ≤ x) (hi : vp_in x 206) : Cn l D cA b y_X_at k_X_at 6 82 1 6 [.ref xo, .int x] n (ovX xo ξ β ρ u v h) (Re (some (.int (β 27 x.toNatClampNeg))) n (ovX xo ξ β ρ u v h)) := by
  refine Cn.of (cc := b_X_at) (maxL := 2) (ret := (some .int)) (hh := []) (by decide +kernel) hl (Or.inl ⟨rfl, rfl⟩) (Nat.le_of_ble_eq_true rfl) ?_
  intro p e s m args below meth c C
  refine j_iload_n C d_X_at_0 rfl rfl ?_
  refine j_if_ge (tgt := 14) C d_X_at_1 (by decide) (fun c1 => ?_) (fun c1 => ?_)
  · refine j_iload_n C d_X_at_14 rfl rfl ?_
    refine j_aload_n C d_X_at_15 rfl rfl ?_
    refine jx_get 0 C fl_0_71 d_X_at_16 hn rfl rfl ?_
    refine jx_get 26 C fl_0_213 d_X_at_19 hn rfl rfl ?_
    refine j_icmp_ge (tgt := 37) C d_X_at_22 (by decide) (fun c22 => ?_) (fun c22 => ?_)
    · exact absurd c22 h1
    · refine j_aload_n C d_X_at_25 rfl rfl ?_
      refine jx_get 0 C fl_0_71 d_X_at_26 hn rfl rfl ?_
      refine jx_get 26 C fl_0_218 d_X_at_29 hn rfl rfl ?_
      refine j_iload_n C d_X_at_32 rfl rfl ?_
      refine jx_bald 27 C d_X_at_33 hn rfl (by assumption) rfl ?_
      refine j_goto (tgt := 38) C d_X_at_34 (by decide) ?_
      exact j_ireturn C d_X_at_38 rfl (by decide) (by decide) ⟨rfl, rfl, rfl⟩
  · exact absurd h0 c1

set_option maxHeartbeats 4000000 in
set_option maxRecDepth 100000 in
theorem c_X_wanting_0 {l : Launch} (hl : l.stackTraces = false) {D : va_G} {cA : Nat → ClassId} {b n : Nat} {xo : Nat} {ξ : Nat → Int32} {β : Nat → Nat → Int32} {ρ : Nat → Option Nat} {u v : Nat} (h : AH) (hn : xo + 28 ≤ n) (i : Int32) (h0 : ¬ i < 0) (h1 : i < ξ 8) (hi : vp_in i 40) : Cn l D cA b y_X_wanting k_X_wanting 6 82 1 6 [.ref xo, .int i, .int 0] n (ovX xo ξ β ρ u v h) (Re (some (.int (β 21 i.toNatClampNeg))) n (ovX xo ξ β ρ u v h)) := by
  refine Cn.of (cc := b_X_wanting) (maxL := 3) (ret := (some .int)) (hh := []) (by decide +kernel) hl (Or.inl ⟨rfl, rfl⟩) (Nat.le_of_ble_eq_true rfl) ?_
  intro p e s m args below meth c C
  refine j_iload_n C d_X_wanting_0 rfl rfl ?_
  refine j_if_lt (tgt := 15) C d_X_wanting_1 (by decide) (fun c1 => ?_) (fun c1 => ?_)
  · exact absurd c1 h0
  · refine j_iload_n C d_X_wanting_4 rfl rfl ?_
    refine j_aload_n C d_X_wanting_5 rfl rfl ?_
    refine jx_get 0 C fl_0_61 d_X_wanting_6 hn rfl rfl ?_
    refine jx_get 20 C fl_0_164 d_X_wanting_9 hn rfl rfl ?_
    refine j_icmp_lt (tgt := 25) C d_X_wanting_12 (by decide) (fun c12 => ?_) (fun c12 => ?_)
    · refine j_iload_n C d_X_wanting_25 rfl rfl ?_
      refine j_lookup (off := 26) (tgt := 52) C d_X_wanting_26 (by decide) (by decide +kernel) (by decide) ?_
      refine j_aload_n C d_X_wanting_52 rfl rfl ?_
      refine jx_get 0 C fl_0_61 d_X_wanting_53 hn rfl rfl ?_
      refine jx_get 20 C fl_0_167 d_X_wanting_56 hn rfl rfl ?_
      refine j_iload_n C d_X_wanting_59 rfl rfl ?_
      refine jx_iald 21 C d_X_wanting_60 hn rfl (by assumption) rfl ?_
      exact j_ireturn C d_X_wanting_61 rfl (by decide) (by decide) ⟨rfl, rfl, rfl⟩
    · exact absurd h1 c12

set_option maxHeartbeats 4000000 in
set_option maxRecDepth 100000 in
theorem c_X_wanting_1 {l : Launch} (hl : l.stackTraces = false) {D : va_G} {cA : Nat → ClassId} {b n : Nat} {xo : Nat} {ξ : Nat → Int32} {β : Nat → Nat → Int32} {ρ : Nat → Option Nat} {u v : Nat} (h : AH) (hn : xo + 28 ≤ n) (i : Int32) (h0 : ¬ i < 0) (h1 : i < ξ 8) (hi : vp_in i 40) : Cn l D cA b y_X_wanting k_X_wanting 6 82 1 6 [.ref xo, .int i, .int 1] n (ovX xo ξ β ρ u v h) (Re (some (.int (β 22 i.toNatClampNeg))) n (ovX xo ξ β ρ u v h)) := by
  refine Cn.of (cc := b_X_wanting) (maxL := 3) (ret := (some .int)) (hh := []) (by decide +kernel) hl (Or.inl ⟨rfl, rfl⟩) (Nat.le_of_ble_eq_true rfl) ?_
  intro p e s m args below meth c C
  refine j_iload_n C d_X_wanting_0 rfl rfl ?_
  refine j_if_lt (tgt := 15) C d_X_wanting_1 (by decide) (fun c1 => ?_) (fun c1 => ?_)
  · exact absurd c1 h0
  · refine j_iload_n C d_X_wanting_4 rfl rfl ?_
    refine j_aload_n C d_X_wanting_5 rfl rfl ?_
    refine jx_get 0 C fl_0_61 d_X_wanting_6 hn rfl rfl ?_
    refine jx_get 20 C fl_0_164 d_X_wanting_9 hn rfl rfl ?_
    refine j_icmp_lt (tgt := 25) C d_X_wanting_12 (by decide) (fun c12 => ?_) (fun c12 => ?_)
    · refine j_iload_n C d_X_wanting_25 rfl rfl ?_
      refine j_lookup (off := 36) (tgt := 62) C d_X_wanting_26 (by decide) (by decide +kernel) (by decide) ?_
      refine j_aload_n C d_X_wanting_62 rfl rfl ?_
      refine jx_get 0 C fl_0_61 d_X_wanting_63 hn rfl rfl ?_
      refine jx_get 20 C fl_0_170 d_X_wanting_66 hn rfl rfl ?_
      refine j_iload_n C d_X_wanting_69 rfl rfl ?_
      refine jx_iald 22 C d_X_wanting_70 hn rfl (by assumption) rfl ?_
      exact j_ireturn C d_X_wanting_71 rfl (by decide) (by decide) ⟨rfl, rfl, rfl⟩
    · exact absurd h1 c12

theorem lk_no {x : Int32} (h0 : ¬ x = 0) (h1 : ¬ x = 1) (d a c : Int) : Op.lookupswitch.offset [(0, a), (1, c)] d x.toInt = d := by
  have g0 : x.toInt ≠ 0 := fun z => h0 (Int32.toInt_inj.mp (z.trans (by decide)))
  have g1 : x.toInt ≠ 1 := fun z => h1 (Int32.toInt_inj.mp (z.trans (by decide)))
  simp [Op.lookupswitch.offset, Ne.symm g0, Ne.symm g1, g0, g1]
set_option maxHeartbeats 4000000 in
set_option maxRecDepth 100000 in
theorem c_X_wanting_b {l : Launch} (hl : l.stackTraces = false) {D : va_G} {cA : Nat → ClassId} {b n : Nat} {xo : Nat} {ξ : Nat → Int32} {β : Nat → Nat → Int32} {ρ : Nat → Option Nat} {u v : Nat} (h : AH) (hn : xo + 28 ≤ n) (i x : Int32) (h0 : ¬ i < 0) (h1 : i < ξ 8) (x0 : ¬ x = 0) (x1 : ¬ x = 1) : Cn l D cA b y_X_wanting k_X_wanting 6 82 1 6 [.ref xo, .int i, .int x] n (ovX xo ξ β ρ u v h) (Th 7 n (ovX xo ξ β ρ u v h)) := by
  refine Cn.of (cc := b_X_wanting) (maxL := 3) (ret := (some .int)) (hh := []) (by decide +kernel) hl (Or.inl ⟨rfl, rfl⟩) (Nat.le_of_ble_eq_true rfl) ?_
  intro p e s m args below meth c C
  refine j_iload_n C d_X_wanting_0 rfl rfl ?_
  refine j_if_lt (tgt := 15) C d_X_wanting_1 (by decide) (fun c1 => ?_) (fun c1 => ?_)
  · exact absurd c1 h0
  · refine j_iload_n C d_X_wanting_4 rfl rfl ?_
    refine j_aload_n C d_X_wanting_5 rfl rfl ?_
    refine jx_get 0 C fl_0_61 d_X_wanting_6 hn rfl rfl ?_
    refine jx_get 20 C fl_0_164 d_X_wanting_9 hn rfl rfl ?_
    refine j_icmp_lt (tgt := 25) C d_X_wanting_12 (by decide) (fun c12 => ?_) (fun c12 => ?_)
    · refine j_iload_n C d_X_wanting_25 rfl rfl ?_
      refine j_lookup (off := 46) (tgt := 72) C d_X_wanting_26 (by decide) (lk_no x0 x1 _ _ _) (by decide) ?_
      exact j_throwS (text := "no such what") C th_7 (by decide +kernel) rfl d_X_wanting_72 d_X_wanting_75 d_X_wanting_76 d_X_wanting_78 d_X_wanting_81 (Nat.le_of_ble_eq_true rfl) (Nat.le_of_ble_eq_true rfl) (Nat.le_of_ble_eq_true rfl) (Nat.le_of_ble_eq_true rfl) (Nat.le_of_ble_eq_true rfl) (Nat.le_of_ble_eq_true rfl) ⟨rfl, rfl, rfl⟩
    · exact absurd h1 c12
/-! ===== the class: CodeText, code: printed by program ===== -/
/-- the class with the bytes q written -/
def ovC (xo : Nat) (ξ : Nat → Int32) (β : Nat → Nat → Int32) (ρ : Nat → Option Nat) (u v : Nat) (h : AH) (q : List Int32) : AH := ovX xo (upd ξ 10 (nI q.length)) (upa β 27 (wl (β 27) q)) ρ u v h
theorem ovC_o (xo : Nat) (ξ : Nat → Int32) (β : Nat → Nat → Int32) (ρ : Nat → Option Nat) (u v : Nat) (h : AH) (q : List Int32) : ovC xo ξ β ρ u v h q (xo + 26) = .inr (4, [.ref (xo + 27), .int (nI q.length)]) := ovX_c (o := 26) rfl
def b7 (x : Int32) : Prop := vp_nar .byte x.toInt8.toInt32 = x
theorem b7_n : ∀ k : Nat, k < 128 → b7 (nI k) := by
  have z : ∀ k : Fin 128, vp_nar .byte (nI k).toInt8.toInt32 = nI k := by decide +kernel
  exact fun k hk => z ⟨k, hk⟩
set_option maxHeartbeats 4000000 in
set_option maxRecDepth 100000 in
theorem c_CT_addByte {l : Launch} (hl : l.stackTraces = false) {D : va_G} {cA : Nat → ClassId} {b n : Nat} {xo : Nat} {ξ : Nat → Int32} {β : Nat → Nat → Int32} {ρ : Nat → Option Nat} {u v : Nat} (h : AH) (hn : xo + 28 ≤ n) (x : Int32) (q : List Int32) (hq : q.length < 206) (hx : b7 x) : Cn l D cA b y_CT_addByte k_CT_addByte 0 0 0 0 [.ref (xo + 26), .int x] n (ovC xo ξ β ρ u v h q) (Re none n (ovC xo ξ β ρ u v h (q ++ [x]))) := by
  refine Cn.of (cc := b_CT_addByte) (maxL := 2) (ret := none) (hh := []) (by decide +kernel) hl (Or.inl ⟨rfl, rfl⟩) (Nat.le_of_ble_eq_true rfl) ?_
  intro p e s m args below meth c C
  refine j_aload_n C d_CT_addByte_0 rfl rfl ?_
  refine jx_get 26 C fl_4_15 d_CT_addByte_1 hn rfl rfl ?_
  refine j_aload_n C d_CT_addByte_4 rfl rfl ?_
  refine jx_get 26 C fl_4_9 d_CT_addByte_5 hn rfl rfl ?_
  refine jx_alen 27 C d_CT_addByte_8 rfl hn rfl rfl ?_
  refine j_icmp_ge (tgt := 33) C d_CT_addByte_9 (by decide) (fun c9 => ?_) (fun c9 => ?_)
  · exact absurd (show nI 206 ≤ nI q.length from c9) (nI_ge hq (by omega))
  · refine j_aload_n C d_CT_addByte_12 rfl rfl ?_
    refine jx_get 26 C fl_4_9 d_CT_addByte_13 hn rfl rfl ?_
    refine j_aload_n C d_CT_addByte_16 rfl rfl ?_
    refine jx_get 26 C fl_4_15 d_CT_addByte_17 hn rfl rfl ?_
    refine j_iload_n C d_CT_addByte_20 rfl rfl ?_
    refine j_i2b C d_CT_addByte_21 rfl ?_
    refine jx_bast 27 C d_CT_addByte_22 hn rfl (show vp_in (nI q.length) 206 from vp_in_nI hq (by omega)) rfl ?_
    refine j_aload_n C d_CT_addByte_23 rfl rfl ?_
    refine j_dup C d_CT_addByte_24 rfl ?_
    refine jx_get 26 C fl_4_15 d_CT_addByte_25 hn rfl rfl ?_
    refine j_iconst (v := 1) C d_CT_addByte_28 (by decide) ?_
    refine j_iadd C d_CT_addByte_29 ?_
    refine jx_puti 26 10 C fp_4_15 d_CT_addByte_30 hn rfl (Nat.le_of_ble_eq_true rfl) rfl rfl rfl ?_
    exact j_vreturn C d_CT_addByte_33 rfl (by decide) (by decide) ⟨rfl, rfl, by show ovX xo (upd (upd ξ 10 (nI q.length)) 10 (upd ξ 10 (nI q.length) 10 + 1)) (upa (upa β 27 (wl (β 27) q)) 27 (upd (upa β 27 (wl (β 27) q) 27) (upd ξ 10 (nI q.length) 10).toNatClampNeg (vp_nar .byte x.toInt8.toInt32))) ρ u v h = _; rw [upd_uu, upd_s, nI_1, upa_uu, upa_s, nI_clamp (by omega), hx, wl_snoc]; unfold ovC; rw [len_snoc]⟩

theorem dn_em {m k : Nat} (hm : m ≤ 99999) (hk : k ≤ 4) : (10 ^ k ≤ m ∨ k = 0) ↔ k + 1 ≤ dn m := by
  have hc := dn_c m
  rcases (show k = 0 ∨ k = 1 ∨ k = 2 ∨ k = 3 ∨ k = 4 by omega) with rfl | rfl | rfl | rfl | rfl
  · constructor
    · intro _; omega
    · intro _; exact Or.inr rfl
  · rw [show (10 : Nat) ^ 1 = 10 from rfl]; omega
  · rw [show (10 : Nat) ^ 2 = 100 from rfl]; omega
  · rw [show (10 : Nat) ^ 3 = 1000 from rfl]; omega
  · rw [show (10 : Nat) ^ 4 = 10000 from rfl]; omega
/-- what is still to be written, with k places left -/
def rst (m k : Nat) : List Int32 := if k ≤ dn m then dgs m k else nb m
theorem rst_y {m k : Nat} (h : k + 1 ≤ dn m) : rst m (k + 1) = nI (48 + m / 10 ^ k % 10) :: rst m k := by
  unfold rst
  rw [if_pos h, if_pos (by omega)]
  rfl
theorem rst_n {m k : Nat} (h : ¬ k + 1 ≤ dn m) : rst m (k + 1) = rst m k := by
  unfold rst
  rw [if_neg h]
  split
  · rename_i h2
    have e : k = dn m := by omega
    rw [e]; rfl
  · rfl
theorem rst_5 (m : Nat) : rst m 5 = nb m := by
  unfold rst
  have := dn_le m
  split
  · rename_i h2
    have e : 5 = dn m := by omega
    rw [e]; rfl
  · rfl
theorem rst_0 (m : Nat) : rst m 0 = [] := by
  unfold rst
  rw [if_pos (Nat.zero_le _)]
  rfl
theorem p10_1 {e : Nat} (he : e ≤ 5) (h : nI (10 ^ e) = 1) : e = 0 := by
  have z := (nI_eq (p10_lt he).1 (by omega)).mp (show nI (10 ^ e) = nI 1 from h)
  rcases (show e = 0 ∨ e = 1 ∨ e = 2 ∨ e = 3 ∨ e = 4 ∨ e = 5 by omega) with rfl | rfl | rfl | rfl | rfl | rfl
  · rfl
  all_goals exact absurd z (by decide)
set_option maxHeartbeats 4000000 in
set_option maxRecDepth 100000 in
theorem c_CT_addNumber_p {l : Launch} (hl : l.stackTraces = false) {D : va_G} {cA : Nat → ClassId} {b n : Nat} {xo : Nat} {ξ : Nat → Int32} {β : Nat → Nat → Int32} {ρ : Nat → Option Nat} {u v : Nat} (h : AH) (hn : xo + 28 ≤ n) (m0 : Nat) (q : List Int32) (hm : m0 ≤ 99999) (hq : q.length + 6 ≤ 206) : Cn l D cA b y_CT_addNumber k_CT_addNumber 1 14 0 0 [.ref (xo + 26), .int (nI m0)] n (ovC xo ξ β ρ u v h q) (Re none n (ovC xo ξ β ρ u v h (q ++ nb m0))) := by
  refine Cn.of (cc := b_CT_addNumber) (maxL := 4) (ret := none) (hh := []) (by decide +kernel) hl (Or.inl ⟨rfl, rfl⟩) (Nat.le_of_ble_eq_true rfl) ?_
  intro p e s m args below meth c C
  have loop : ∀ (e9 : Nat) (w1 : List Int32), e9 ≤ 5 → w1 ++ rst m0 e9 = (q ++ nb m0) → w1.length + e9 ≤ 206 → J p l e { frames := 1, cells := 0, slots := 0, locals := 14 } s m args below meth c D cA b 4 (EndQ D cA b s below (Re none n (ovC xo ξ β ρ u v h (q ++ nb m0))) 0 0) n (ovC xo ξ β ρ u v h w1) 0 0 19 [(3, .int (nI (pw e9))), (2, .int (nI m0)), (0, .ref (xo + 26)), (1, .int (nI m0))] [] := by
    intro e9
    induction e9 with
    | zero =>
      intro w1 he hv hw1
      refine j_iload_n C d_CT_addNumber_19 rfl rfl ?_
      refine j_if_le (tgt := 54) C d_CT_addNumber_20 (by decide) (fun c20 => ?_) (fun c20 => ?_)
      · exact j_vreturn C d_CT_addNumber_54 rfl (by decide) (by decide) ⟨rfl, rfl, by rw [← hv, rst_0, List.append_nil]⟩
      · exact absurd (by decide) c20
    | succ e9 ih =>
      intro w1 he hv hw1
      rw [show pw (e9 + 1) = 10 ^ e9 from rfl]
      refine j_iload_n C d_CT_addNumber_19 rfl rfl ?_
      refine j_if_le (tgt := 54) C d_CT_addNumber_20 (by decide) (fun c20 => ?_) (fun c20 => ?_)
      · exact absurd c20 (nI_nle (p10_lt (by omega)).2 (p10_lt (by omega)).1)
      · refine j_iload_n C d_CT_addNumber_23 rfl rfl ?_
        refine j_iload_n C d_CT_addNumber_24 rfl rfl ?_
        refine j_icmp_ge (tgt := 33) C d_CT_addNumber_25 (by decide) (fun c25 => ?_) (fun c25 => ?_)
        · refine j_aload_n C d_CT_addNumber_33 rfl rfl ?_
          refine j_bipush (v := 48) C d_CT_addNumber_34 (by decide) ?_
          refine j_iload_n C d_CT_addNumber_36 rfl rfl ?_
          refine j_iload_n C d_CT_addNumber_37 rfl rfl ?_
          refine j_idiv C d_CT_addNumber_38 (nI_ne0 (p10_lt (by omega)).2 (p10_lt (by omega)).1) ?_
          rw [pk_div (by omega) (p10_lt (by omega)).2 (p10_lt (by omega)).1]
          refine j_bipush (v := 10) C d_CT_addNumber_39 (by decide) ?_
          refine j_irem C d_CT_addNumber_41 (by decide) ?_
          rw [show (10 : Int32) = nI 10 from rfl, pk_rem (Nat.lt_of_le_of_lt (Nat.div_le_self _ _) (by omega)) (by omega) (by omega)]
          refine j_iadd C d_CT_addNumber_42 ?_
          rw [show (48 : Int32) = nI 48 from rfl, nI_add]
          refine j_callV C d_CT_addNumber_43 ml_CT_19 mc_CT_addByte in_CT_addByte rfl se_CT_addByte (by omega) (ovC_o _ _ _ _ _ _ _ _) (c_CT_addByte hl _ hn _ w1 (by omega) (b7_n _ (by omega))) rfl rfl (Nat.le_of_ble_eq_true rfl) (Nat.le_of_ble_eq_true rfl) (Nat.le_of_ble_eq_true rfl) (Nat.le_of_ble_eq_true rfl) (jk_v ?_)
          refine j_iload_n C d_CT_addNumber_46 rfl rfl ?_
          refine j_bipush (v := 10) C d_CT_addNumber_47 (by decide) ?_
          refine j_idiv C d_CT_addNumber_49 (by decide) ?_
          rw [show (10 : Int32) = nI 10 from rfl, pk_div (p10_lt (by omega)).1 (by omega) (by omega), p10_d e9]
          refine j_istore_n C d_CT_addNumber_50 rfl (by decide) rfl ?_
          have hy := (dn_em (k := e9) hm (by omega)).mp (Or.inl ((nI_leI (p10_lt (by omega)).1 (by omega)).mp c25))
          refine j_goto (tgt := 19) C d_CT_addNumber_51 (by decide) ?_
          exact j_pick [0, 1, 2, 3] rfl (ih (w1 ++ [nI (48 + m0 / 10 ^ e9 % 10)]) (by omega) (by rw [← hv, rst_y hy]; simp) (by rw [len_snoc]; omega))
        · refine j_iload_n C d_CT_addNumber_28 rfl rfl ?_
          refine j_iconst (v := 1) C d_CT_addNumber_29 (by decide) ?_
          refine j_icmp_ne (tgt := 46) C d_CT_addNumber_30 (by decide) (fun c30 => ?_) (fun c30 => ?_)
          · refine j_iload_n C d_CT_addNumber_46 rfl rfl ?_
            refine j_bipush (v := 10) C d_CT_addNumber_47 (by decide) ?_
            refine j_idiv C d_CT_addNumber_49 (by decide) ?_
            rw [show (10 : Int32) = nI 10 from rfl, pk_div (p10_lt (by omega)).1 (by omega) (by omega), p10_d e9]
            refine j_istore_n C d_CT_addNumber_50 rfl (by decide) rfl ?_
            have hy : ¬ e9 + 1 ≤ dn m0 := fun z => ((dn_em (k := e9) hm (by omega)).mpr z).elim (fun y => c25 (nI_le y (by omega))) (fun y => c30 (by rw [y]; rfl))
            refine j_goto (tgt := 19) C d_CT_addNumber_51 (by decide) ?_
            exact j_pick [0, 1, 2, 3] rfl (ih w1 (by omega) (by rw [← hv, rst_n hy]) (by omega))
          · refine j_aload_n C d_CT_addNumber_33 rfl rfl ?_
            refine j_bipush (v := 48) C d_CT_addNumber_34 (by decide) ?_
            refine j_iload_n C d_CT_addNumber_36 rfl rfl ?_
            refine j_iload_n C d_CT_addNumber_37 rfl rfl ?_
            refine j_idiv C d_CT_addNumber_38 (nI_ne0 (p10_lt (by omega)).2 (p10_lt (by omega)).1) ?_
            rw [pk_div (by omega) (p10_lt (by omega)).2 (p10_lt (by omega)).1]
            refine j_bipush (v := 10) C d_CT_addNumber_39 (by decide) ?_
            refine j_irem C d_CT_addNumber_41 (by decide) ?_
            rw [show (10 : Int32) = nI 10 from rfl, pk_rem (Nat.lt_of_le_of_lt (Nat.div_le_self _ _) (by omega)) (by omega) (by omega)]
            refine j_iadd C d_CT_addNumber_42 ?_
            rw [show (48 : Int32) = nI 48 from rfl, nI_add]
            refine j_callV C d_CT_addNumber_43 ml_CT_19 mc_CT_addByte in_CT_addByte rfl se_CT_addByte (by omega) (ovC_o _ _ _ _ _ _ _ _) (c_CT_addByte hl _ hn _ w1 (by omega) (b7_n _ (by omega))) rfl rfl (Nat.le_of_ble_eq_true rfl) (Nat.le_of_ble_eq_true rfl) (Nat.le_of_ble_eq_true rfl) (Nat.le_of_ble_eq_true rfl) (jk_v ?_)
            refine j_iload_n C d_CT_addNumber_46 rfl rfl ?_
            refine j_bipush (v := 10) C d_CT_addNumber_47 (by decide) ?_
            refine j_idiv C d_CT_addNumber_49 (by decide) ?_
            rw [show (10 : Int32) = nI 10 from rfl, pk_div (p10_lt (by omega)).1 (by omega) (by omega), p10_d e9]
            refine j_istore_n C d_CT_addNumber_50 rfl (by decide) rfl ?_
            have hy := (dn_em (k := e9) hm (by omega)).mp (Or.inr (p10_1 (by omega) c30))
            refine j_goto (tgt := 19) C d_CT_addNumber_51 (by decide) ?_
            exact j_pick [0, 1, 2, 3] rfl (ih (w1 ++ [nI (48 + m0 / 10 ^ e9 % 10)]) (by omega) (by rw [← hv, rst_y hy]; simp) (by rw [len_snoc]; omega))
  refine j_iload_n C d_CT_addNumber_0 rfl rfl ?_
  refine j_if_ge (tgt := 10) C d_CT_addNumber_1 (by decide) (fun c1 => ?_) (fun c1 => ?_)
  · refine j_iload_n C d_CT_addNumber_10 rfl rfl ?_
    refine j_mabs (v := nI m0) C d_CT_addNumber_11 mm_CT_46 mm_st_abs mm_ini mm_co_abs (Nat.le_of_ble_eq_true rfl) (Nat.le_of_ble_eq_true rfl) (Nat.le_of_ble_eq_true rfl) (Nat.le_of_ble_eq_true rfl) (by rw [if_pos (nI_pos' (by omega))]) ?_
    refine j_istore_n C d_CT_addNumber_14 rfl (by decide) rfl ?_
    refine j_sipush (v := 10000) C d_CT_addNumber_15 (by decide) ?_
    refine j_istore_n C d_CT_addNumber_18 rfl (by decide) rfl ?_
    exact j_pick [0, 1, 2, 3] rfl (loop 5 q (by omega) (by rw [rst_5]) (by omega))
  · exact absurd (nI_pos' (by omega)) c1

set_option maxHeartbeats 4000000 in
set_option maxRecDepth 100000 in
theorem c_CT_addNumber_n {l : Launch} (hl : l.stackTraces = false) {D : va_G} {cA : Nat → ClassId} {b n : Nat} {xo : Nat} {ξ : Nat → Int32} {β : Nat → Nat → Int32} {ρ : Nat → Option Nat} {u v : Nat} (h : AH) (hn : xo + 28 ≤ n) (m0 : Nat) (q : List Int32) (h1 : 1 ≤ m0) (hm : m0 ≤ 99999) (hq : q.length + 6 ≤ 206) : Cn l D cA b y_CT_addNumber k_CT_addNumber 1 14 0 0 [.ref (xo + 26), .int (-(nI m0))] n (ovC xo ξ β ρ u v h q) (Re none n (ovC xo ξ β ρ u v h (q ++ (45 :: nb m0)))) := by
  refine Cn.of (cc := b_CT_addNumber) (maxL := 4) (ret := none) (hh := []) (by decide +kernel) hl (Or.inl ⟨rfl, rfl⟩) (Nat.le_of_ble_eq_true rfl) ?_
  intro p e s m args below meth c C
  have loop : ∀ (e9 : Nat) (w1 : List Int32), e9 ≤ 5 → w1 ++ rst m0 e9 = (q ++ (45 :: nb m0)) → w1.length + e9 ≤ 206 → J p l e { frames := 1, cells := 0, slots := 0, locals := 14 } s m args below meth c D cA b 4 (EndQ D cA b s below (Re none n (ovC xo ξ β ρ u v h (q ++ (45 :: nb m0)))) 0 0) n (ovC xo ξ β ρ u v h w1) 0 0 19 [(3, .int (nI (pw e9))), (2, .int (nI m0)), (0, .ref (xo + 26)), (1, .int (-(nI m0)))] [] := by
    intro e9
    induction e9 with
    | zero =>
      intro w1 he hv hw1
      refine j_iload_n C d_CT_addNumber_19 rfl rfl ?_
      refine j_if_le (tgt := 54) C d_CT_addNumber_20 (by decide) (fun c20 => ?_) (fun c20 => ?_)
      · exact j_vreturn C d_CT_addNumber_54 rfl (by decide) (by decide) ⟨rfl, rfl, by rw [← hv, rst_0, List.append_nil]⟩
      · exact absurd (by decide) c20
    | succ e9 ih =>
      intro w1 he hv hw1
      rw [show pw (e9 + 1) = 10 ^ e9 from rfl]
      refine j_iload_n C d_CT_addNumber_19 rfl rfl ?_
      refine j_if_le (tgt := 54) C d_CT_addNumber_20 (by decide) (fun c20 => ?_) (fun c20 => ?_)
      · exact absurd c20 (nI_nle (p10_lt (by omega)).2 (p10_lt (by omega)).1)
      · refine j_iload_n C d_CT_addNumber_23 rfl rfl ?_
        refine j_iload_n C d_CT_addNumber_24 rfl rfl ?_
        refine j_icmp_ge (tgt := 33) C d_CT_addNumber_25 (by decide) (fun c25 => ?_) (fun c25 => ?_)
        · refine j_aload_n C d_CT_addNumber_33 rfl rfl ?_
          refine j_bipush (v := 48) C d_CT_addNumber_34 (by decide) ?_
          refine j_iload_n C d_CT_addNumber_36 rfl rfl ?_
          refine j_iload_n C d_CT_addNumber_37 rfl rfl ?_
          refine j_idiv C d_CT_addNumber_38 (nI_ne0 (p10_lt (by omega)).2 (p10_lt (by omega)).1) ?_
          rw [pk_div (by omega) (p10_lt (by omega)).2 (p10_lt (by omega)).1]
          refine j_bipush (v := 10) C d_CT_addNumber_39 (by decide) ?_
          refine j_irem C d_CT_addNumber_41 (by decide) ?_
          rw [show (10 : Int32) = nI 10 from rfl, pk_rem (Nat.lt_of_le_of_lt (Nat.div_le_self _ _) (by omega)) (by omega) (by omega)]
          refine j_iadd C d_CT_addNumber_42 ?_
          rw [show (48 : Int32) = nI 48 from rfl, nI_add]
          refine j_callV C d_CT_addNumber_43 ml_CT_19 mc_CT_addByte in_CT_addByte rfl se_CT_addByte (by omega) (ovC_o _ _ _ _ _ _ _ _) (c_CT_addByte hl _ hn _ w1 (by omega) (b7_n _ (by omega))) rfl rfl (Nat.le_of_ble_eq_true rfl) (Nat.le_of_ble_eq_true rfl) (Nat.le_of_ble_eq_true rfl) (Nat.le_of_ble_eq_true rfl) (jk_v ?_)
          refine j_iload_n C d_CT_addNumber_46 rfl rfl ?_
          refine j_bipush (v := 10) C d_CT_addNumber_47 (by decide) ?_
          refine j_idiv C d_CT_addNumber_49 (by decide) ?_
          rw [show (10 : Int32) = nI 10 from rfl, pk_div (p10_lt (by omega)).1 (by omega) (by omega), p10_d e9]
          refine j_istore_n C d_CT_addNumber_50 rfl (by decide) rfl ?_
          have hy := (dn_em (k := e9) hm (by omega)).mp (Or.inl ((nI_leI (p10_lt (by omega)).1 (by omega)).mp c25))
          refine j_goto (tgt := 19) C d_CT_addNumber_51 (by decide) ?_
          exact j_pick [0, 1, 2, 3] rfl (ih (w1 ++ [nI (48 + m0 / 10 ^ e9 % 10)]) (by omega) (by rw [← hv, rst_y hy]; simp) (by rw [len_snoc]; omega))
        · refine j_iload_n C d_CT_addNumber_28 rfl rfl ?_
          refine j_iconst (v := 1) C d_CT_addNumber_29 (by decide) ?_
          refine j_icmp_ne (tgt := 46) C d_CT_addNumber_30 (by decide) (fun c30 => ?_) (fun c30 => ?_)
          · refine j_iload_n C d_CT_addNumber_46 rfl rfl ?_
            refine j_bipush (v := 10) C d_CT_addNumber_47 (by decide) ?_
            refine j_idiv C d_CT_addNumber_49 (by decide) ?_
            rw [show (10 : Int32) = nI 10 from rfl, pk_div (p10_lt (by omega)).1 (by omega) (by omega), p10_d e9]
            refine j_istore_n C d_CT_addNumber_50 rfl (by decide) rfl ?_
            have hy : ¬ e9 + 1 ≤ dn m0 := fun z => ((dn_em (k := e9) hm (by omega)).mpr z).elim (fun y => c25 (nI_le y (by omega))) (fun y => c30 (by rw [y]; rfl))
            refine j_goto (tgt := 19) C d_CT_addNumber_51 (by decide) ?_
            exact j_pick [0, 1, 2, 3] rfl (ih w1 (by omega) (by rw [← hv, rst_n hy]) (by omega))
          · refine j_aload_n C d_CT_addNumber_33 rfl rfl ?_
            refine j_bipush (v := 48) C d_CT_addNumber_34 (by decide) ?_
            refine j_iload_n C d_CT_addNumber_36 rfl rfl ?_
            refine j_iload_n C d_CT_addNumber_37 rfl rfl ?_
            refine j_idiv C d_CT_addNumber_38 (nI_ne0 (p10_lt (by omega)).2 (p10_lt (by omega)).1) ?_
            rw [pk_div (by omega) (p10_lt (by omega)).2 (p10_lt (by omega)).1]
            refine j_bipush (v := 10) C d_CT_addNumber_39 (by decide) ?_
            refine j_irem C d_CT_addNumber_41 (by decide) ?_
            rw [show (10 : Int32) = nI 10 from rfl, pk_rem (Nat.lt_of_le_of_lt (Nat.div_le_self _ _) (by omega)) (by omega) (by omega)]
            refine j_iadd C d_CT_addNumber_42 ?_
            rw [show (48 : Int32) = nI 48 from rfl, nI_add]
            refine j_callV C d_CT_addNumber_43 ml_CT_19 mc_CT_addByte in_CT_addByte rfl se_CT_addByte (by omega) (ovC_o _ _ _ _ _ _ _ _) (c_CT_addByte hl _ hn _ w1 (by omega) (b7_n _ (by omega))) rfl rfl (Nat.le_of_ble_eq_true rfl) (Nat.le_of_ble_eq_true rfl) (Nat.le_of_ble_eq_true rfl) (Nat.le_of_ble_eq_true rfl) (jk_v ?_)
            refine j_iload_n C d_CT_addNumber_46 rfl rfl ?_
            refine j_bipush (v := 10) C d_CT_addNumber_47 (by decide) ?_
            refine j_idiv C d_CT_addNumber_49 (by decide) ?_
            rw [show (10 : Int32) = nI 10 from rfl, pk_div (p10_lt (by omega)).1 (by omega) (by omega), p10_d e9]
            refine j_istore_n C d_CT_addNumber_50 rfl (by decide) rfl ?_
            have hy := (dn_em (k := e9) hm (by omega)).mp (Or.inr (p10_1 (by omega) c30))
            refine j_goto (tgt := 19) C d_CT_addNumber_51 (by decide) ?_
            exact j_pick [0, 1, 2, 3] rfl (ih (w1 ++ [nI (48 + m0 / 10 ^ e9 % 10)]) (by omega) (by rw [← hv, rst_y hy]; simp) (by rw [len_snoc]; omega))
  refine j_iload_n C d_CT_addNumber_0 rfl rfl ?_
  refine j_if_ge (tgt := 10) C d_CT_addNumber_1 (by decide) (fun c1 => ?_) (fun c1 => ?_)
  · exact absurd (show (0 : Int32) ≤ -(nI m0) from c1) (neg_lt h1 hm)
  · refine j_aload_n C d_CT_addNumber_4 rfl rfl ?_
    refine j_bipush (v := 45) C d_CT_addNumber_5 (by decide) ?_
    refine j_callV C d_CT_addNumber_7 ml_CT_19 mc_CT_addByte in_CT_addByte rfl se_CT_addByte (by omega) (ovC_o _ _ _ _ _ _ _ _) (c_CT_addByte hl _ hn _ q (by omega) (b7_n 45 (by omega))) rfl rfl (Nat.le_of_ble_eq_true rfl) (Nat.le_of_ble_eq_true rfl) (Nat.le_of_ble_eq_true rfl) (Nat.le_of_ble_eq_true rfl) (jk_v ?_)
    refine j_iload_n C d_CT_addNumber_10 rfl rfl ?_
    refine j_mabs (v := nI m0) C d_CT_addNumber_11 mm_CT_46 mm_st_abs mm_ini mm_co_abs (Nat.le_of_ble_eq_true rfl) (Nat.le_of_ble_eq_true rfl) (Nat.le_of_ble_eq_true rfl) (Nat.le_of_ble_eq_true rfl) (by rw [if_neg (neg_lt h1 hm), Int32.sub_eq_add_neg, Int32.neg_neg, Int32.zero_add]) ?_
    refine j_istore_n C d_CT_addNumber_14 rfl (by decide) rfl ?_
    refine j_sipush (v := 10000) C d_CT_addNumber_15 (by decide) ?_
    refine j_istore_n C d_CT_addNumber_18 rfl (by decide) rfl ?_
    exact j_pick [0, 1, 2, 3] rfl (loop 5 (q ++ [45]) (by omega) (by rw [rst_5]; simp) (by rw [len_snoc]; omega))

theorem c_CT_addNumber_v {l : Launch} (hl : l.stackTraces = false) {D : va_G} {cA : Nat → ClassId} {b n : Nat} {xo : Nat} {ξ : Nat → Int32} {β : Nat → Nat → Int32} {ρ : Nat → Option Nat} {u v : Nat} (h : AH) (hn : xo + 28 ≤ n) (x : Int32) (q : List Int32) (hx : vok x) (hq : q.length + 6 ≤ 206) : Cn l D cA b y_CT_addNumber k_CT_addNumber 1 14 0 0 [.ref (xo + 26), .int x] n (ovC xo ξ β ρ u v h q) (Re none n (ovC xo ξ β ρ u v h (q ++ vb x))) := by
  rcases hx with ⟨m, hm, rfl⟩ | ⟨m, h1, hm, rfl⟩
  · rw [vb_p hm]
    exact c_CT_addNumber_p hl h hn m q hm hq
  · rw [vb_n h1 hm]
    exact c_CT_addNumber_n hl h hn m q h1 hm hq
set_option maxHeartbeats 4000000 in
set_option maxRecDepth 100000 in
theorem c_CT_addField_h {l : Launch} (hl : l.stackTraces = false) {D : va_G} {cA : Nat → ClassId} {b n : Nat} {xo : Nat} {ξ : Nat → Int32} {β : Nat → Nat → Int32} {ρ : Nat → Option Nat} {u v : Nat} (h : AH) (hn : xo + 28 ≤ n) (f : Nat) (y hd : Int32) (q : List Int32) (hf : f < 20) (hy : vok y) (hq : q.length + 10 ≤ 206) (hd0 : ¬ hd = 0) : Cn l D cA b y_CT_addField k_CT_addField 2 29 0 0 [.ref (xo + 26), .int (nI f), .int y, .int hd] n (ovC xo ξ β ρ u v h q) (Re none n (ovC xo ξ β ρ u v h (q ++ nb f ++ [58] ++ [42] ++ [59]))) := by
  refine Cn.of (cc := b_CT_addField) (maxL := 4) (ret := none) (hh := []) (by decide +kernel) hl (Or.inl ⟨rfl, rfl⟩) (Nat.le_of_ble_eq_true rfl) ?_
  intro p e s m args below meth c C
  refine j_aload_n C d_CT_addField_0 rfl rfl ?_
  refine j_iload_n C d_CT_addField_1 rfl rfl ?_
  refine j_callV C d_CT_addField_2 ml_CT_28 mc_CT_addNumber in_CT_addNumber rfl se_CT_addNumber (by omega) (ovC_o _ _ _ _ _ _ _ _) (c_CT_addNumber_p hl _ hn f q (by omega) (by omega)) rfl rfl (Nat.le_of_ble_eq_true rfl) (Nat.le_of_ble_eq_true rfl) (Nat.le_of_ble_eq_true rfl) (Nat.le_of_ble_eq_true rfl) (jk_v ?_)
  refine j_aload_n C d_CT_addField_5 rfl rfl ?_
  refine j_bipush (v := 58) C d_CT_addField_6 (by decide) ?_
  refine j_callV C d_CT_addField_8 ml_CT_19 mc_CT_addByte in_CT_addByte rfl se_CT_addByte (by omega) (ovC_o _ _ _ _ _ _ _ _) (c_CT_addByte hl _ hn 58 (q ++ nb f) (by simp only [List.length_append, List.length_singleton]; have z1 := nb_len f; have z2 := dn_c f; have z3 := vb_len hy; omega) (b7_n 58 (by omega))) rfl rfl (Nat.le_of_ble_eq_true rfl) (Nat.le_of_ble_eq_true rfl) (Nat.le_of_ble_eq_true rfl) (Nat.le_of_ble_eq_true rfl) (jk_v ?_)
  refine j_iload_n C d_CT_addField_11 rfl rfl ?_
  refine j_if_eq (tgt := 24) C d_CT_addField_12 (by decide) (fun c12 => ?_) (fun c12 => ?_)
  · exact absurd c12 hd0
  · refine j_aload_n C d_CT_addField_15 rfl rfl ?_
    refine j_bipush (v := 42) C d_CT_addField_16 (by decide) ?_
    refine j_callV C d_CT_addField_18 ml_CT_19 mc_CT_addByte in_CT_addByte rfl se_CT_addByte (by omega) (ovC_o _ _ _ _ _ _ _ _) (c_CT_addByte hl _ hn 42 (q ++ nb f ++ [58]) (by simp only [List.length_append, List.length_singleton]; have z1 := nb_len f; have z2 := dn_c f; have z3 := vb_len hy; omega) (b7_n 42 (by omega))) rfl rfl (Nat.le_of_ble_eq_true rfl) (Nat.le_of_ble_eq_true rfl) (Nat.le_of_ble_eq_true rfl) (Nat.le_of_ble_eq_true rfl) (jk_v ?_)
    refine j_goto (tgt := 29) C d_CT_addField_21 (by decide) ?_
    refine j_aload_n C d_CT_addField_29 rfl rfl ?_
    refine j_bipush (v := 59) C d_CT_addField_30 (by decide) ?_
    refine j_callV C d_CT_addField_32 ml_CT_19 mc_CT_addByte in_CT_addByte rfl se_CT_addByte (by omega) (ovC_o _ _ _ _ _ _ _ _) (c_CT_addByte hl _ hn 59 (q ++ nb f ++ [58] ++ [42]) (by simp only [List.length_append, List.length_singleton]; have z1 := nb_len f; have z2 := dn_c f; have z3 := vb_len hy; omega) (b7_n 59 (by omega))) rfl rfl (Nat.le_of_ble_eq_true rfl) (Nat.le_of_ble_eq_true rfl) (Nat.le_of_ble_eq_true rfl) (Nat.le_of_ble_eq_true rfl) (jk_v ?_)
    exact j_vreturn C d_CT_addField_35 rfl (by decide) (by decide) ⟨rfl, rfl, rfl⟩

set_option maxHeartbeats 4000000 in
set_option maxRecDepth 100000 in
theorem c_CT_addField_v {l : Launch} (hl : l.stackTraces = false) {D : va_G} {cA : Nat → ClassId} {b n : Nat} {xo : Nat} {ξ : Nat → Int32} {β : Nat → Nat → Int32} {ρ : Nat → Option Nat} {u v : Nat} (h : AH) (hn : xo + 28 ≤ n) (f : Nat) (y hd : Int32) (q : List Int32) (hf : f < 20) (hy : vok y) (hq : q.length + 10 ≤ 206) (hd0 : hd = 0) : Cn l D cA b y_CT_addField k_CT_addField 2 29 0 0 [.ref (xo + 26), .int (nI f), .int y, .int hd] n (ovC xo ξ β ρ u v h q) (Re none n (ovC xo ξ β ρ u v h (q ++ nb f ++ [58] ++ vb y ++ [59]))) := by
  refine Cn.of (cc := b_CT_addField) (maxL := 4) (ret := none) (hh := []) (by decide +kernel) hl (Or.inl ⟨rfl, rfl⟩) (Nat.le_of_ble_eq_true rfl) ?_
  intro p e s m args below meth c C
  refine j_aload_n C d_CT_addField_0 rfl rfl ?_
  refine j_iload_n C d_CT_addField_1 rfl rfl ?_
  refine j_callV C d_CT_addField_2 ml_CT_28 mc_CT_addNumber in_CT_addNumber rfl se_CT_addNumber (by omega) (ovC_o _ _ _ _ _ _ _ _) (c_CT_addNumber_p hl _ hn f q (by omega) (by omega)) rfl rfl (Nat.le_of_ble_eq_true rfl) (Nat.le_of_ble_eq_true rfl) (Nat.le_of_ble_eq_true rfl) (Nat.le_of_ble_eq_true rfl) (jk_v ?_)
  refine j_aload_n C d_CT_addField_5 rfl rfl ?_
  refine j_bipush (v := 58) C d_CT_addField_6 (by decide) ?_
  refine j_callV C d_CT_addField_8 ml_CT_19 mc_CT_addByte in_CT_addByte rfl se_CT_addByte (by omega) (ovC_o _ _ _ _ _ _ _ _) (c_CT_addByte hl _ hn 58 (q ++ nb f) (by simp only [List.length_append, List.length_singleton]; have z1 := nb_len f; have z2 := dn_c f; have z3 := vb_len hy; omega) (b7_n 58 (by omega))) rfl rfl (Nat.le_of_ble_eq_true rfl) (Nat.le_of_ble_eq_true rfl) (Nat.le_of_ble_eq_true rfl) (Nat.le_of_ble_eq_true rfl) (jk_v ?_)
  refine j_iload_n C d_CT_addField_11 rfl rfl ?_
  refine j_if_eq (tgt := 24) C d_CT_addField_12 (by decide) (fun c12 => ?_) (fun c12 => ?_)
  · refine j_aload_n C d_CT_addField_24 rfl rfl ?_
    refine j_iload_n C d_CT_addField_25 rfl rfl ?_
    refine j_callV C d_CT_addField_26 ml_CT_28 mc_CT_addNumber in_CT_addNumber rfl se_CT_addNumber (by omega) (ovC_o _ _ _ _ _ _ _ _) (c_CT_addNumber_v hl _ hn y (q ++ nb f ++ [58]) hy (by simp only [List.length_append, List.length_singleton]; have z1 := nb_len f; have z2 := dn_c f; have z3 := vb_len hy; omega)) rfl rfl (Nat.le_of_ble_eq_true rfl) (Nat.le_of_ble_eq_true rfl) (Nat.le_of_ble_eq_true rfl) (Nat.le_of_ble_eq_true rfl) (jk_v ?_)
    refine j_aload_n C d_CT_addField_29 rfl rfl ?_
    refine j_bipush (v := 59) C d_CT_addField_30 (by decide) ?_
    refine j_callV C d_CT_addField_32 ml_CT_19 mc_CT_addByte in_CT_addByte rfl se_CT_addByte (by omega) (ovC_o _ _ _ _ _ _ _ _) (c_CT_addByte hl _ hn 59 (q ++ nb f ++ [58] ++ vb y) (by simp only [List.length_append, List.length_singleton]; have z1 := nb_len f; have z2 := dn_c f; have z3 := vb_len hy; omega) (b7_n 59 (by omega))) rfl rfl (Nat.le_of_ble_eq_true rfl) (Nat.le_of_ble_eq_true rfl) (Nat.le_of_ble_eq_true rfl) (Nat.le_of_ble_eq_true rfl) (jk_v ?_)
    exact j_vreturn C d_CT_addField_35 rfl (by decide) (by decide) ⟨rfl, rfl, rfl⟩
  · exact absurd hd0 c12

def xdi (z : Int32) (g : Nat → Int32) (hb : Int32) (f : Nat) : List Int32 := if xhs z (nI f) = 0 then [] else nb f ++ [58] ++ (if xhs hb (nI f) = 0 then vb (g f) else [42]) ++ [59]
def xdl (z : Int32) (g : Nat → Int32) (hb : Int32) : Nat → Nat → List Int32
  | 0, _ => []
  | n + 1, f => xdi z g hb f ++ xdl z g hb n (f + 1)
def xdw (z : Int32) (g : Nat → Int32) (hb : Int32) (i : Nat) : List Int32 := [82] ++ nb i ++ [44] ++ xdl z g hb 20 0
set_option maxHeartbeats 4000000 in
set_option maxRecDepth 100000 in
theorem c_CT_write {l : Launch} (hl : l.stackTraces = false) {D : va_G} {cA : Nat → ClassId} {b n : Nat} {xo : Nat} {ξ : Nat → Int32} {β : Nat → Nat → Int32} {ρ : Nat → Option Nat} {u v : Nat} {r : Nat} {i0 k0 t0 f0 : Int32} {ζ : Nat → Int32} {g w : Nat → Int32} (h : AH) (hn : xo + 28 ≤ n) (hr : xo + 28 ≤ r) (hrn : r + 3 ≤ n) (hb : Int32) (m0 : Nat) (hi : i0 = nI m0) (hm : m0 ≤ 9999) (hvk : ∀ f, f < 20 → vok (g f)) : Cn l D cA b y_CT_write k_CT_write 3 44 0 0 [.ref (xo + 26), .ref r, .int hb] n (ovX xo ξ β ρ u v (ovR r i0 k0 t0 f0 ζ g w h)) (Re none n (ovC xo ξ β ρ u v (ovR r i0 k0 t0 f0 ζ g w h) (xdw (ζ 0) g hb m0))) := by
  refine Cn.of (cc := b_CT_write) (maxL := 4) (ret := none) (hh := []) (by decide +kernel) hl (Or.inl ⟨rfl, rfl⟩) (Nat.le_of_ble_eq_true rfl) ?_
  intro p e s m args below meth c C
  have loop : ∀ (m9 f : Nat) (q : List Int32), f + m9 = 20 → q.length ≤ 6 + 10 * f → q ++ xdl (ζ 0) g hb m9 f = (xdw (ζ 0) g hb m0) → J p l e { frames := 3, cells := 0, slots := 0, locals := 44 } s m args below meth c D cA b 4 (EndQ D cA b s below (Re none n (ovC xo ξ β ρ u v (ovR r i0 k0 t0 f0 ζ g w h) (xdw (ζ 0) g hb m0))) 0 0) n (ovC xo ξ β ρ u v (ovR r i0 k0 t0 f0 ζ g w h) q) 0 0 27 [(3, .int (nI f)), (0, .ref (xo + 26)), (1, .ref r), (2, .int hb)] [] := by
    intro m9
    induction m9 with
    | zero =>
      intro f q hf hlen hv
      obtain rfl : f = 20 := by omega
      refine j_iload_n C d_CT_write_27 rfl rfl ?_
      refine j_bipush (v := 20) C d_CT_write_28 (by decide) ?_
      refine j_icmp_ge (tgt := 66) C d_CT_write_30 (by decide) (fun c30 => ?_) (fun c30 => ?_)
      · exact j_vreturn C d_CT_write_66 rfl (by decide) (by decide) ⟨rfl, rfl, by rw [← hv]; show _ = ovC xo ξ β ρ u v _ (q ++ []); rw [List.append_nil]⟩
      · exact absurd (by decide) c30
    | succ m9 ih =>
      intro f q hf hlen hv
      refine j_iload_n C d_CT_write_27 rfl rfl ?_
      refine j_bipush (v := 20) C d_CT_write_28 (by decide) ?_
      refine j_icmp_ge (tgt := 66) C d_CT_write_30 (by decide) (fun c30 => ?_) (fun c30 => ?_)
      · exact absurd (show nI 20 ≤ nI f from c30) (nI_ge (by omega) (by omega))
      · refine j_aload_n C d_CT_write_33 rfl rfl ?_
        refine jq_get C fl_4_31 d_CT_write_34 hr hrn rfl ?_
        refine j_iload_n C d_CT_write_37 rfl rfl ?_
        refine j_callS C d_CT_write_38 ml_CT_34 mc_X_has st_X_has (c_X_has hl _ _ _) rfl rfl (Nat.le_of_ble_eq_true rfl) (Nat.le_of_ble_eq_true rfl) (Nat.le_of_ble_eq_true rfl) (Nat.le_of_ble_eq_true rfl) (jk_r ?_)
        refine j_if_eq (tgt := 60) C d_CT_write_41 (by decide) (fun c41 => ?_) (fun c41 => ?_)
        · have e9 : xdi (ζ 0) g hb f = [] := by unfold xdi; rw [if_pos c41]
          refine j_iinc (v := nI (f + 1)) C d_CT_write_60 rfl (nI_inc f) (by decide) rfl ?_
          refine j_goto (tgt := 27) C d_CT_write_63 (by decide) ?_
          exact j_pick [0, 1, 2, 3] rfl (ih (f + 1) q (by omega) (by omega) (by rw [← hv]; show _ = q ++ (xdi (ζ 0) g hb f ++ _); rw [e9]; rfl))
        · refine j_aload_n C d_CT_write_44 rfl rfl ?_
          refine j_iload_n C d_CT_write_45 rfl rfl ?_
          refine j_aload_n C d_CT_write_46 rfl rfl ?_
          refine jq_get C fl_4_38 d_CT_write_47 hr hrn rfl ?_
          refine j_iload_n C d_CT_write_50 rfl rfl ?_
          refine jq_ld1 (y := g f) C d_CT_write_51 hr hrn (vp_in_nI (by omega) (by omega)) (by rw [nI_clamp (by omega)]) ?_
          refine j_iload_n C d_CT_write_52 rfl rfl ?_
          refine j_iload_n C d_CT_write_53 rfl rfl ?_
          refine j_callS C d_CT_write_54 ml_CT_34 mc_X_has st_X_has (c_X_has hl _ _ _) rfl rfl (Nat.le_of_ble_eq_true rfl) (Nat.le_of_ble_eq_true rfl) (Nat.le_of_ble_eq_true rfl) (Nat.le_of_ble_eq_true rfl) (jk_r ?_)
          refine j_h (h' := (ovC xo ξ β ρ u v (ovR r i0 k0 t0 f0 ζ g w h) q)) rfl ?_
          by_cases hd0 : xhs hb (nI f) = 0
          · have e9 : xdi (ζ 0) g hb f = nb f ++ [58] ++ vb (g f) ++ [59] := by unfold xdi; rw [if_neg c41, if_pos hd0]
            refine j_callV C d_CT_write_57 ml_CT_42 mc_CT_addField in_CT_addField rfl se_CT_addField (by omega) (ovC_o _ _ _ _ _ _ _ _) (c_CT_addField_v hl _ hn f (g f) _ q (by omega) (hvk f (by omega)) (by omega) hd0) rfl rfl (Nat.le_of_ble_eq_true rfl) (Nat.le_of_ble_eq_true rfl) (Nat.le_of_ble_eq_true rfl) (Nat.le_of_ble_eq_true rfl) (jk_v ?_)
            refine j_iinc (v := nI (f + 1)) C d_CT_write_60 rfl (nI_inc f) (by decide) rfl ?_
            refine j_goto (tgt := 27) C d_CT_write_63 (by decide) ?_
            exact j_pick [0, 1, 2, 3] rfl (ih (f + 1) (q ++ nb f ++ [58] ++ vb (g f) ++ [59]) (by omega) (by have z1 := nb_len f; have z2 := dn_c f; have z3 := vb_len (hvk f (by omega)); simp only [List.length_append, List.length_singleton]; omega) (by rw [← hv]; show _ = q ++ (xdi (ζ 0) g hb f ++ _); rw [e9]; simp))
          · have e9 : xdi (ζ 0) g hb f = nb f ++ [58] ++ [42] ++ [59] := by unfold xdi; rw [if_neg c41, if_neg hd0]
            refine j_callV C d_CT_write_57 ml_CT_42 mc_CT_addField in_CT_addField rfl se_CT_addField (by omega) (ovC_o _ _ _ _ _ _ _ _) (c_CT_addField_h hl _ hn f (g f) _ q (by omega) (hvk f (by omega)) (by omega) hd0) rfl rfl (Nat.le_of_ble_eq_true rfl) (Nat.le_of_ble_eq_true rfl) (Nat.le_of_ble_eq_true rfl) (Nat.le_of_ble_eq_true rfl) (jk_v ?_)
            refine j_iinc (v := nI (f + 1)) C d_CT_write_60 rfl (nI_inc f) (by decide) rfl ?_
            refine j_goto (tgt := 27) C d_CT_write_63 (by decide) ?_
            exact j_pick [0, 1, 2, 3] rfl (ih (f + 1) (q ++ nb f ++ [58] ++ [42] ++ [59]) (by omega) (by have z1 := nb_len f; have z2 := dn_c f; have z3 := vb_len (hvk f (by omega)); simp only [List.length_append, List.length_singleton]; omega) (by rw [← hv]; show _ = q ++ (xdi (ζ 0) g hb f ++ _); rw [e9]; simp))
  refine j_aload_n C d_CT_write_0 rfl rfl ?_
  refine j_iconst (v := 0) C d_CT_write_1 (by decide) ?_
  refine jx_puti 26 10 C fp_4_15 d_CT_write_2 hn rfl (Nat.le_of_ble_eq_true rfl) rfl rfl rfl ?_
  refine j_h (h' := (ovC xo ξ β ρ u v (ovR r i0 k0 t0 f0 ζ g w h) [])) (by unfold ovC; rw [wl_nil, upa_self rfl]; rfl) ?_
  refine j_aload_n C d_CT_write_5 rfl rfl ?_
  refine j_bipush (v := 82) C d_CT_write_6 (by decide) ?_
  refine j_callV C d_CT_write_8 ml_CT_19 mc_CT_addByte in_CT_addByte rfl se_CT_addByte (by omega) (ovC_o _ _ _ _ _ _ _ _) (c_CT_addByte hl _ hn 82 [] (by simp) (b7_n 82 (by omega))) rfl rfl (Nat.le_of_ble_eq_true rfl) (Nat.le_of_ble_eq_true rfl) (Nat.le_of_ble_eq_true rfl) (Nat.le_of_ble_eq_true rfl) (jk_v ?_)
  refine j_aload_n C d_CT_write_11 rfl rfl ?_
  refine j_aload_n C d_CT_write_12 rfl rfl ?_
  refine jq_get C fl_4_23 d_CT_write_13 hr hrn rfl ?_
  rw [show (Value.int i0) = Value.int (nI m0) from by rw [hi]]
  refine j_h (h' := (ovC xo ξ β ρ u v (ovR r i0 k0 t0 f0 ζ g w h) [82])) rfl ?_
  refine j_callV C d_CT_write_16 ml_CT_28 mc_CT_addNumber in_CT_addNumber rfl se_CT_addNumber (by omega) (ovC_o _ _ _ _ _ _ _ _) (c_CT_addNumber_p hl _ hn m0 [82] (by omega) (by simp)) rfl rfl (Nat.le_of_ble_eq_true rfl) (Nat.le_of_ble_eq_true rfl) (Nat.le_of_ble_eq_true rfl) (Nat.le_of_ble_eq_true rfl) (jk_v ?_)
  refine j_aload_n C d_CT_write_19 rfl rfl ?_
  refine j_bipush (v := 44) C d_CT_write_20 (by decide) ?_
  refine j_callV C d_CT_write_22 ml_CT_19 mc_CT_addByte in_CT_addByte rfl se_CT_addByte (by omega) (ovC_o _ _ _ _ _ _ _ _) (c_CT_addByte hl _ hn 44 ([82] ++ nb m0) (by simp only [List.length_append, List.length_singleton]; have z1 := nb_len m0; have z2 := dn_le m0; omega) (b7_n 44 (by omega))) rfl rfl (Nat.le_of_ble_eq_true rfl) (Nat.le_of_ble_eq_true rfl) (Nat.le_of_ble_eq_true rfl) (Nat.le_of_ble_eq_true rfl) (jk_v ?_)
  refine j_iconst (v := 0) C d_CT_write_25 (by decide) ?_
  refine j_istore_n C d_CT_write_26 rfl (by decide) rfl ?_
  exact j_pick [0, 1, 2, 3] rfl (loop 20 0 ([82] ++ nb m0 ++ [44]) rfl (by simp only [List.length_append, List.length_singleton]; have z1 := nb_len m0; have z2 := dn_c m0; omega) rfl)

set_option maxHeartbeats 4000000 in
set_option maxRecDepth 100000 in
theorem c_X_code_a {l : Launch} (hl : l.stackTraces = false) {D : va_G} {cA : Nat → ClassId} {b n : Nat} {xo : Nat} {ξ : Nat → Int32} {β : Nat → Nat → Int32} {ρ : Nat → Option Nat} {u v : Nat} {r : Nat} {i0 k0 t0 f0 : Int32} {ζ : Nat → Int32} {g w : Nat → Int32} (h : AH) (hr : xo + 28 ≤ r) (hrn : r + 3 ≤ n) (j : Nat) (hj : j < 30) (hj0 : nI j < ξ 0) (hρ : ρ j = some r) (q : Int32) (hk : q < 0 ∨ ¬ q < 20) : Cn l D cA b y_X_code k_X_code 7 96 1 6 [.ref xo, .int (nI j), .int q] n (ovX xo ξ β ρ u v (ovR r i0 k0 t0 f0 ζ g w h)) (Th 7 n (ovX xo ξ β ρ u v (ovR r i0 k0 t0 f0 ζ g w h))) := by
  refine Cn.of (cc := b_X_code) (maxL := 4) (ret := (some .int)) (hh := []) (by decide +kernel) hl (Or.inl ⟨rfl, rfl⟩) (Nat.le_of_ble_eq_true rfl) ?_
  intro p e s m args below meth c C
  have hn : xo + 28 ≤ n := by omega
  refine j_aload_n C d_X_code_0 rfl rfl ?_
  refine j_iload_n C d_X_code_1 rfl rfl ?_
  refine j_callV C d_X_code_2 ml_X_103 mc_X_known in_X_known rfl se_X_known (by omega) (ovX_c (o := 0) rfl) (c_X_known_0 hl _ hn j r hj hj0 hρ) rfl rfl (Nat.le_of_ble_eq_true rfl) (Nat.le_of_ble_eq_true rfl) (Nat.le_of_ble_eq_true rfl) (Nat.le_of_ble_eq_true rfl) (jk_r ?_)
  refine j_astore_n C d_X_code_5 rfl (by decide) rfl ?_
  refine j_iload_n C d_X_code_6 rfl rfl ?_
  exact j_callS C d_X_code_7 ml_X_175 mc_X_requirePerson st_X_requirePerson (c_X_requirePerson_1 hl _ q hk) rfl rfl (Nat.le_of_ble_eq_true rfl) (Nat.le_of_ble_eq_true rfl) (Nat.le_of_ble_eq_true rfl) (Nat.le_of_ble_eq_true rfl) (jk_x C rfl (Nat.le_of_ble_eq_true rfl) (Nat.le_of_ble_eq_true rfl) ⟨rfl, rfl, rfl⟩)

set_option maxHeartbeats 4000000 in
set_option maxRecDepth 100000 in
theorem c_X_code_r {l : Launch} (hl : l.stackTraces = false) {D : va_G} {cA : Nat → ClassId} {b n : Nat} {xo : Nat} {ξ : Nat → Int32} {β : Nat → Nat → Int32} {ρ : Nat → Option Nat} {u v : Nat} {r : Nat} {i0 k0 t0 f0 : Int32} {ζ : Nat → Int32} {g w : Nat → Int32} (h : AH) (hr : xo + 28 ≤ r) (hrn : r + 3 ≤ n) (j : Nat) (hj : j < 30) (hj0 : nI j < ξ 0) (hρ : ρ j = some r) (q : Int32) (fa : ¬ q < 0) (fb : q < 20) (hi : vp_in q 20) (m0 : Nat) (he : i0 = nI m0) (hm : m0 ≤ 9999) (hvk : ∀ f, f < 20 → vok (g f)) : Cn l D cA b y_X_code k_X_code 7 96 1 6 [.ref xo, .int (nI j), .int q] n (ovX xo ξ β ρ u v (ovR r i0 k0 t0 f0 ζ g w h)) (Re (some (.int (nI (xdw (ζ 0) g (β 3 q.toNatClampNeg) m0).length))) n (ovC xo ξ β ρ u v (ovR r i0 k0 t0 f0 ζ g w h) (xdw (ζ 0) g (β 3 q.toNatClampNeg) m0))) := by
  refine Cn.of (cc := b_X_code) (maxL := 4) (ret := (some .int)) (hh := []) (by decide +kernel) hl (Or.inl ⟨rfl, rfl⟩) (Nat.le_of_ble_eq_true rfl) ?_
  intro p e s m args below meth c C
  have hn : xo + 28 ≤ n := by omega
  refine j_aload_n C d_X_code_0 rfl rfl ?_
  refine j_iload_n C d_X_code_1 rfl rfl ?_
  refine j_callV C d_X_code_2 ml_X_103 mc_X_known in_X_known rfl se_X_known (by omega) (ovX_c (o := 0) rfl) (c_X_known_0 hl _ hn j r hj hj0 hρ) rfl rfl (Nat.le_of_ble_eq_true rfl) (Nat.le_of_ble_eq_true rfl) (Nat.le_of_ble_eq_true rfl) (Nat.le_of_ble_eq_true rfl) (jk_r ?_)
  refine j_astore_n C d_X_code_5 rfl (by decide) rfl ?_
  refine j_iload_n C d_X_code_6 rfl rfl ?_
  refine j_callS C d_X_code_7 ml_X_175 mc_X_requirePerson st_X_requirePerson (c_X_requirePerson_0 hl _ q fa fb) rfl rfl (Nat.le_of_ble_eq_true rfl) (Nat.le_of_ble_eq_true rfl) (Nat.le_of_ble_eq_true rfl) (Nat.le_of_ble_eq_true rfl) (jk_v ?_)
  refine j_aload_n C d_X_code_10 rfl rfl ?_
  refine jx_get 0 C fl_0_71 d_X_code_11 hn rfl rfl ?_
  refine j_aload_n C d_X_code_14 rfl rfl ?_
  refine j_aload_n C d_X_code_15 rfl rfl ?_
  refine jx_get 0 C fl_0_23 d_X_code_16 hn rfl rfl ?_
  refine j_iload_n C d_X_code_19 rfl rfl ?_
  refine jx_iald 3 C d_X_code_20 hn rfl hi rfl ?_
  refine j_callV C d_X_code_21 ml_X_209 mc_CT_write in_CT_write rfl se_CT_write (by omega) (ovX_c (o := 26) rfl) (c_CT_write hl h hn hr hrn _ m0 he hm hvk) rfl rfl (Nat.le_of_ble_eq_true rfl) (Nat.le_of_ble_eq_true rfl) (Nat.le_of_ble_eq_true rfl) (Nat.le_of_ble_eq_true rfl) (jk_v ?_)
  refine j_aload_n C d_X_code_24 rfl rfl ?_
  refine jx_get 0 C fl_0_71 d_X_code_25 hn rfl rfl ?_
  refine jx_get 26 C fl_0_213 d_X_code_28 hn rfl rfl ?_
  exact j_ireturn C d_X_code_31 rfl (by decide) (by decide) ⟨rfl, rfl, rfl⟩
