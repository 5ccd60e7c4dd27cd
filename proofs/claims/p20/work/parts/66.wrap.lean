/-! ===== the law's wrappers: printed by program ===== -/
set_option maxHeartbeats 4000000 in
set_option maxRecDepth 100000 in
theorem w_report_7 {l : Launch} (hl : l.stackTraces = false) {D : va_G} {cA : Nat → ClassId} {b n n1 xo oo mc ms : Nat} {h h1 : AH} {fs : List Value} (a0 : Int32) (a1 : Int32) (hxn : xo < n) (hxo : h xo = .inr (0, fs)) (hX : Cn l D cA b y_X_report k_X_report 7 94 mc ms [.ref xo, .int a0, .int a1] n h (Tx 7 n1 h1)) : Cn l D cA b y_L_report k_L_report 8 110 mc ms [.ref xo, .int a0, .int a1, .ref oo] n h (Re (some (.int 1)) n1 h1) := by
  refine Cn.of (cc := b_L_report) (maxL := 5) (ret := (some .int)) (hh := [(0, 10, 13, 13), (0, 10, 17, 15), (0, 10, 21, 17)]) (by decide +kernel) hl (Or.inr rfl) (Nat.le_of_ble_eq_true rfl) ?_
  intro p e s m args below meth c C
  refine j_aload_n C d_L_report_0 rfl rfl ?_
  refine j_iconst (v := 0) C d_L_report_1 (by decide) ?_
  refine j_aload_n C d_L_report_2 rfl rfl ?_
  refine j_iload_n C d_L_report_3 rfl rfl ?_
  refine j_iload_n C d_L_report_4 rfl rfl ?_
  refine j_callV C d_L_report_5 ml_L_7 mc_X_report in_X_report rfl se_X_report hxn hxo hX rfl rfl (Nat.le_of_ble_eq_true rfl) (Nat.le_of_ble_eq_true rfl) (Nat.le_of_eq (Nat.zero_add _)) (Nat.le_of_eq (Nat.zero_add _)) (jk_c C (E := cR7) rfl [] ⟨0, 10, 13, 13⟩ [⟨0, 10, 17, 15⟩, ⟨0, 10, 21, 17⟩] rfl (fun z hz => nomatch hz) (by decide) (by decide) cl_L_13 ca_7 (fun q => ?_))
  refine j_astore C d_L_report_13 (by decide) rfl ?_
  refine j_iconst (v := 1) C d_L_report_15 (by decide) ?_
  exact j_ireturn C d_L_report_16 rfl (Nat.le_of_eq (Nat.zero_add _)) (Nat.le_of_eq (Nat.zero_add _)) ⟨rfl, rfl, rfl⟩

set_option maxHeartbeats 4000000 in
set_option maxRecDepth 100000 in
theorem w_report_8 {l : Launch} (hl : l.stackTraces = false) {D : va_G} {cA : Nat → ClassId} {b n n1 xo oo mc ms : Nat} {h h1 : AH} {fs : List Value} (a0 : Int32) (a1 : Int32) (hxn : xo < n) (hxo : h xo = .inr (0, fs)) (hX : Cn l D cA b y_X_report k_X_report 7 94 mc ms [.ref xo, .int a0, .int a1] n h (Tx 8 n1 h1)) : Cn l D cA b y_L_report k_L_report 8 110 mc ms [.ref xo, .int a0, .int a1, .ref oo] n h (Re (some (.int 2)) n1 h1) := by
  refine Cn.of (cc := b_L_report) (maxL := 5) (ret := (some .int)) (hh := [(0, 10, 13, 13), (0, 10, 17, 15), (0, 10, 21, 17)]) (by decide +kernel) hl (Or.inr rfl) (Nat.le_of_ble_eq_true rfl) ?_
  intro p e s m args below meth c C
  refine j_aload_n C d_L_report_0 rfl rfl ?_
  refine j_iconst (v := 0) C d_L_report_1 (by decide) ?_
  refine j_aload_n C d_L_report_2 rfl rfl ?_
  refine j_iload_n C d_L_report_3 rfl rfl ?_
  refine j_iload_n C d_L_report_4 rfl rfl ?_
  refine j_callV C d_L_report_5 ml_L_7 mc_X_report in_X_report rfl se_X_report hxn hxo hX rfl rfl (Nat.le_of_ble_eq_true rfl) (Nat.le_of_ble_eq_true rfl) (Nat.le_of_eq (Nat.zero_add _)) (Nat.le_of_eq (Nat.zero_add _)) (jk_c C (E := cR8) rfl [⟨0, 10, 13, 13⟩] ⟨0, 10, 17, 15⟩ [⟨0, 10, 21, 17⟩] rfl (List.forall_mem_cons.mpr ⟨Or.inr ⟨by decide, _, cl_L_13, by decide +kernel⟩, (fun z hz => nomatch hz)⟩) (by decide) (by decide) cl_L_15 ca_8 (fun q => ?_))
  refine j_astore C d_L_report_17 (by decide) rfl ?_
  refine j_iconst (v := 2) C d_L_report_19 (by decide) ?_
  exact j_ireturn C d_L_report_20 rfl (Nat.le_of_eq (Nat.zero_add _)) (Nat.le_of_eq (Nat.zero_add _)) ⟨rfl, rfl, rfl⟩

set_option maxHeartbeats 4000000 in
set_option maxRecDepth 100000 in
theorem w_report_10 {l : Launch} (hl : l.stackTraces = false) {D : va_G} {cA : Nat → ClassId} {b n n1 xo oo mc ms : Nat} {h h1 : AH} {fs : List Value} (a0 : Int32) (a1 : Int32) (hxn : xo < n) (hxo : h xo = .inr (0, fs)) (hX : Cn l D cA b y_X_report k_X_report 7 94 mc ms [.ref xo, .int a0, .int a1] n h (Tx 10 n1 h1)) : Cn l D cA b y_L_report k_L_report 8 110 mc ms [.ref xo, .int a0, .int a1, .ref oo] n h (Re (some (.int 3)) n1 h1) := by
  refine Cn.of (cc := b_L_report) (maxL := 5) (ret := (some .int)) (hh := [(0, 10, 13, 13), (0, 10, 17, 15), (0, 10, 21, 17)]) (by decide +kernel) hl (Or.inr rfl) (Nat.le_of_ble_eq_true rfl) ?_
  intro p e s m args below meth c C
  refine j_aload_n C d_L_report_0 rfl rfl ?_
  refine j_iconst (v := 0) C d_L_report_1 (by decide) ?_
  refine j_aload_n C d_L_report_2 rfl rfl ?_
  refine j_iload_n C d_L_report_3 rfl rfl ?_
  refine j_iload_n C d_L_report_4 rfl rfl ?_
  refine j_callV C d_L_report_5 ml_L_7 mc_X_report in_X_report rfl se_X_report hxn hxo hX rfl rfl (Nat.le_of_ble_eq_true rfl) (Nat.le_of_ble_eq_true rfl) (Nat.le_of_eq (Nat.zero_add _)) (Nat.le_of_eq (Nat.zero_add _)) (jk_c C (E := cR10) rfl [⟨0, 10, 13, 13⟩, ⟨0, 10, 17, 15⟩] ⟨0, 10, 21, 17⟩ [] rfl (List.forall_mem_cons.mpr ⟨Or.inr ⟨by decide, _, cl_L_13, by decide +kernel⟩, (List.forall_mem_cons.mpr ⟨Or.inr ⟨by decide, _, cl_L_15, by decide +kernel⟩, (fun z hz => nomatch hz)⟩)⟩) (by decide) (by decide) cl_L_17 ca_10 (fun q => ?_))
  refine j_astore C d_L_report_21 (by decide) rfl ?_
  refine j_iconst (v := 3) C d_L_report_23 (by decide) ?_
  exact j_ireturn C d_L_report_24 rfl (Nat.le_of_eq (Nat.zero_add _)) (Nat.le_of_eq (Nat.zero_add _)) ⟨rfl, rfl, rfl⟩

set_option maxHeartbeats 4000000 in
set_option maxRecDepth 100000 in
theorem w_report_r {l : Launch} (hl : l.stackTraces = false) {D : va_G} {cA : Nat → ClassId} {b n n1 xo oo mc ms : Nat} {h h1 : AH} {fs : List Value} (a0 : Int32) (a1 : Int32) {z : Int32} {f : Nat → Int64} (hxn : xo < n) (hxo : h xo = .inr (0, fs)) (hX : Cn l D cA b y_X_report k_X_report 7 94 mc ms [.ref xo, .int a0, .int a1] n h (Re (some (.int z)) n1 h1)) (hoo : oo < n1) (hout : h1 oo = .inl (4, 1, .inr (.inl f))) : Cn l D cA b y_L_report k_L_report 8 110 mc ms [.ref xo, .int a0, .int a1, .ref oo] n h (Re (some (.int 0)) n1 (hu h1 oo (.inl (4, 1, .inr (.inl (vp_updL f (0 : Int32).toNatClampNeg z.toInt64)))))) := by
  refine Cn.of (cc := b_L_report) (maxL := 5) (ret := (some .int)) (hh := [(0, 10, 13, 13), (0, 10, 17, 15), (0, 10, 21, 17)]) (by decide +kernel) hl (Or.inr rfl) (Nat.le_of_ble_eq_true rfl) ?_
  intro p e s m args below meth c C
  refine j_aload_n C d_L_report_0 rfl rfl ?_
  refine j_iconst (v := 0) C d_L_report_1 (by decide) ?_
  refine j_aload_n C d_L_report_2 rfl rfl ?_
  refine j_iload_n C d_L_report_3 rfl rfl ?_
  refine j_iload_n C d_L_report_4 rfl rfl ?_
  refine j_callV C d_L_report_5 ml_L_7 mc_X_report in_X_report rfl se_X_report hxn hxo hX rfl rfl (Nat.le_of_ble_eq_true rfl) (Nat.le_of_ble_eq_true rfl) (Nat.le_of_eq (Nat.zero_add _)) (Nat.le_of_eq (Nat.zero_add _)) (jk_r ?_)
  refine j_i2l C d_L_report_8 rfl ?_
  refine j_last (t := 4) (N := 1) C d_L_report_9 rfl hoo hout (vp_in_nI (n := 0) (by omega) (by omega)) rfl ?_
  refine j_goto (tgt := 25) C d_L_report_10 (by decide) ?_
  refine j_iconst (v := 0) C d_L_report_25 (by decide) ?_
  exact j_ireturn C d_L_report_26 rfl (Nat.le_of_eq (Nat.zero_add _)) (Nat.le_of_eq (Nat.zero_add _)) ⟨rfl, rfl, rfl⟩

set_option maxHeartbeats 4000000 in
set_option maxRecDepth 100000 in
theorem w_ask_7 {l : Launch} (hl : l.stackTraces = false) {D : va_G} {cA : Nat → ClassId} {b n n1 xo mc ms : Nat} {h h1 : AH} {fs : List Value} (a0 : Int32) (a1 : Int32) (a2 : Int32) (hxn : xo < n) (hxo : h xo = .inr (0, fs)) (hX : Cn l D cA b y_X_ask k_X_ask 7 94 mc ms [.ref xo, .int a0, .int a1, .int a2] n h (Tx 7 n1 h1)) : Cn l D cA b y_L_ask k_L_ask 8 109 mc ms [.ref xo, .int a0, .int a1, .int a2] n h (Re (some (.int 1)) n1 h1) := by
  refine Cn.of (cc := b_L_ask) (maxL := 5) (ret := (some .int)) (hh := [(0, 7, 10, 13)]) (by decide +kernel) hl (Or.inr rfl) (Nat.le_of_ble_eq_true rfl) ?_
  intro p e s m args below meth c C
  refine j_aload_n C d_L_ask_0 rfl rfl ?_
  refine j_iload_n C d_L_ask_1 rfl rfl ?_
  refine j_iload_n C d_L_ask_2 rfl rfl ?_
  refine j_iload_n C d_L_ask_3 rfl rfl ?_
  refine j_callV C d_L_ask_4 ml_L_19 mc_X_ask in_X_ask rfl se_X_ask hxn hxo hX rfl rfl (Nat.le_of_ble_eq_true rfl) (Nat.le_of_ble_eq_true rfl) (Nat.le_of_eq (Nat.zero_add _)) (Nat.le_of_eq (Nat.zero_add _)) (jk_c C (E := cR7) rfl [] ⟨0, 7, 10, 13⟩ [] rfl (fun z hz => nomatch hz) (by decide) (by decide) cl_L_13 ca_7 (fun q => ?_))
  refine j_astore C d_L_ask_10 (by decide) rfl ?_
  refine j_iconst (v := 1) C d_L_ask_12 (by decide) ?_
  exact j_ireturn C d_L_ask_13 rfl (Nat.le_of_eq (Nat.zero_add _)) (Nat.le_of_eq (Nat.zero_add _)) ⟨rfl, rfl, rfl⟩

set_option maxHeartbeats 4000000 in
set_option maxRecDepth 100000 in
theorem w_ask_r {l : Launch} (hl : l.stackTraces = false) {D : va_G} {cA : Nat → ClassId} {b n n1 xo mc ms : Nat} {h h1 : AH} {fs : List Value} (a0 : Int32) (a1 : Int32) (a2 : Int32) (hxn : xo < n) (hxo : h xo = .inr (0, fs)) (hX : Cn l D cA b y_X_ask k_X_ask 7 94 mc ms [.ref xo, .int a0, .int a1, .int a2] n h (Re none n1 h1)) : Cn l D cA b y_L_ask k_L_ask 8 109 mc ms [.ref xo, .int a0, .int a1, .int a2] n h (Re (some (.int 0)) n1 h1) := by
  refine Cn.of (cc := b_L_ask) (maxL := 5) (ret := (some .int)) (hh := [(0, 7, 10, 13)]) (by decide +kernel) hl (Or.inr rfl) (Nat.le_of_ble_eq_true rfl) ?_
  intro p e s m args below meth c C
  refine j_aload_n C d_L_ask_0 rfl rfl ?_
  refine j_iload_n C d_L_ask_1 rfl rfl ?_
  refine j_iload_n C d_L_ask_2 rfl rfl ?_
  refine j_iload_n C d_L_ask_3 rfl rfl ?_
  refine j_callV C d_L_ask_4 ml_L_19 mc_X_ask in_X_ask rfl se_X_ask hxn hxo hX rfl rfl (Nat.le_of_ble_eq_true rfl) (Nat.le_of_ble_eq_true rfl) (Nat.le_of_eq (Nat.zero_add _)) (Nat.le_of_eq (Nat.zero_add _)) (jk_v ?_)
  refine j_goto (tgt := 14) C d_L_ask_7 (by decide) ?_
  refine j_iconst (v := 0) C d_L_ask_14 (by decide) ?_
  exact j_ireturn C d_L_ask_15 rfl (Nat.le_of_eq (Nat.zero_add _)) (Nat.le_of_eq (Nat.zero_add _)) ⟨rfl, rfl, rfl⟩

set_option maxHeartbeats 4000000 in
set_option maxRecDepth 100000 in
theorem w_field_7 {l : Launch} (hl : l.stackTraces = false) {D : va_G} {cA : Nat → ClassId} {b n n1 xo mc ms : Nat} {h h1 : AH} {fs : List Value} (a0 : Int32) (a1 : Int32) (a2 : Int32) (hxn : xo < n) (hxo : h xo = .inr (0, fs)) (hX : Cn l D cA b y_X_field k_X_field 7 96 mc ms [.ref xo, .int a0, .int a1, .int a2] n h (Tx 7 n1 h1)) : Cn l D cA b y_L_field k_L_field 8 112 mc ms [.ref xo, .int a0, .int a1, .int a2] n h (Re (some (.int 1)) n1 h1) := by
  refine Cn.of (cc := b_L_field) (maxL := 5) (ret := (some .int)) (hh := [(0, 7, 10, 13), (0, 7, 14, 15), (0, 7, 18, 27)]) (by decide +kernel) hl (Or.inr rfl) (Nat.le_of_ble_eq_true rfl) ?_
  intro p e s m args below meth c C
  refine j_aload_n C d_L_field_0 rfl rfl ?_
  refine j_iload_n C d_L_field_1 rfl rfl ?_
  refine j_iload_n C d_L_field_2 rfl rfl ?_
  refine j_iload_n C d_L_field_3 rfl rfl ?_
  refine j_callV C d_L_field_4 ml_L_23 mc_X_field in_X_field rfl se_X_field hxn hxo hX rfl rfl (Nat.le_of_ble_eq_true rfl) (Nat.le_of_ble_eq_true rfl) (Nat.le_of_eq (Nat.zero_add _)) (Nat.le_of_eq (Nat.zero_add _)) (jk_c C (E := cR7) rfl [] ⟨0, 7, 10, 13⟩ [⟨0, 7, 14, 15⟩, ⟨0, 7, 18, 27⟩] rfl (fun z hz => nomatch hz) (by decide) (by decide) cl_L_13 ca_7 (fun q => ?_))
  refine j_astore C d_L_field_10 (by decide) rfl ?_
  refine j_iconst (v := 1) C d_L_field_12 (by decide) ?_
  exact j_ireturn C d_L_field_13 rfl (Nat.le_of_eq (Nat.zero_add _)) (Nat.le_of_eq (Nat.zero_add _)) ⟨rfl, rfl, rfl⟩

set_option maxHeartbeats 4000000 in
set_option maxRecDepth 100000 in
theorem w_field_8 {l : Launch} (hl : l.stackTraces = false) {D : va_G} {cA : Nat → ClassId} {b n n1 xo mc ms : Nat} {h h1 : AH} {fs : List Value} (a0 : Int32) (a1 : Int32) (a2 : Int32) (hxn : xo < n) (hxo : h xo = .inr (0, fs)) (hX : Cn l D cA b y_X_field k_X_field 7 96 mc ms [.ref xo, .int a0, .int a1, .int a2] n h (Tx 8 n1 h1)) : Cn l D cA b y_L_field k_L_field 8 112 mc ms [.ref xo, .int a0, .int a1, .int a2] n h (Re (some (.int 2)) n1 h1) := by
  refine Cn.of (cc := b_L_field) (maxL := 5) (ret := (some .int)) (hh := [(0, 7, 10, 13), (0, 7, 14, 15), (0, 7, 18, 27)]) (by decide +kernel) hl (Or.inr rfl) (Nat.le_of_ble_eq_true rfl) ?_
  intro p e s m args below meth c C
  refine j_aload_n C d_L_field_0 rfl rfl ?_
  refine j_iload_n C d_L_field_1 rfl rfl ?_
  refine j_iload_n C d_L_field_2 rfl rfl ?_
  refine j_iload_n C d_L_field_3 rfl rfl ?_
  refine j_callV C d_L_field_4 ml_L_23 mc_X_field in_X_field rfl se_X_field hxn hxo hX rfl rfl (Nat.le_of_ble_eq_true rfl) (Nat.le_of_ble_eq_true rfl) (Nat.le_of_eq (Nat.zero_add _)) (Nat.le_of_eq (Nat.zero_add _)) (jk_c C (E := cR8) rfl [⟨0, 7, 10, 13⟩] ⟨0, 7, 14, 15⟩ [⟨0, 7, 18, 27⟩] rfl (List.forall_mem_cons.mpr ⟨Or.inr ⟨by decide, _, cl_L_13, by decide +kernel⟩, (fun z hz => nomatch hz)⟩) (by decide) (by decide) cl_L_15 ca_8 (fun q => ?_))
  refine j_astore C d_L_field_14 (by decide) rfl ?_
  refine j_iconst (v := 2) C d_L_field_16 (by decide) ?_
  exact j_ireturn C d_L_field_17 rfl (Nat.le_of_eq (Nat.zero_add _)) (Nat.le_of_eq (Nat.zero_add _)) ⟨rfl, rfl, rfl⟩

set_option maxHeartbeats 4000000 in
set_option maxRecDepth 100000 in
theorem w_field_9 {l : Launch} (hl : l.stackTraces = false) {D : va_G} {cA : Nat → ClassId} {b n n1 xo mc ms : Nat} {h h1 : AH} {fs : List Value} (a0 : Int32) (a1 : Int32) (a2 : Int32) (hxn : xo < n) (hxo : h xo = .inr (0, fs)) (hX : Cn l D cA b y_X_field k_X_field 7 96 mc ms [.ref xo, .int a0, .int a1, .int a2] n h (Tx 9 n1 h1)) : Cn l D cA b y_L_field k_L_field 8 112 mc ms [.ref xo, .int a0, .int a1, .int a2] n h (Re (some (.int 3)) n1 h1) := by
  refine Cn.of (cc := b_L_field) (maxL := 5) (ret := (some .int)) (hh := [(0, 7, 10, 13), (0, 7, 14, 15), (0, 7, 18, 27)]) (by decide +kernel) hl (Or.inr rfl) (Nat.le_of_ble_eq_true rfl) ?_
  intro p e s m args below meth c C
  refine j_aload_n C d_L_field_0 rfl rfl ?_
  refine j_iload_n C d_L_field_1 rfl rfl ?_
  refine j_iload_n C d_L_field_2 rfl rfl ?_
  refine j_iload_n C d_L_field_3 rfl rfl ?_
  refine j_callV C d_L_field_4 ml_L_23 mc_X_field in_X_field rfl se_X_field hxn hxo hX rfl rfl (Nat.le_of_ble_eq_true rfl) (Nat.le_of_ble_eq_true rfl) (Nat.le_of_eq (Nat.zero_add _)) (Nat.le_of_eq (Nat.zero_add _)) (jk_c C (E := cR9) rfl [⟨0, 7, 10, 13⟩, ⟨0, 7, 14, 15⟩] ⟨0, 7, 18, 27⟩ [] rfl (List.forall_mem_cons.mpr ⟨Or.inr ⟨by decide, _, cl_L_13, by decide +kernel⟩, (List.forall_mem_cons.mpr ⟨Or.inr ⟨by decide, _, cl_L_15, by decide +kernel⟩, (fun z hz => nomatch hz)⟩)⟩) (by decide) (by decide) cl_L_27 ca_9 (fun q => ?_))
  refine j_astore C d_L_field_18 (by decide) rfl ?_
  refine j_iconst (v := 3) C d_L_field_20 (by decide) ?_
  exact j_ireturn C d_L_field_21 rfl (Nat.le_of_eq (Nat.zero_add _)) (Nat.le_of_eq (Nat.zero_add _)) ⟨rfl, rfl, rfl⟩

set_option maxHeartbeats 4000000 in
set_option maxRecDepth 100000 in
theorem w_field_r {l : Launch} (hl : l.stackTraces = false) {D : va_G} {cA : Nat → ClassId} {b n n1 xo mc ms : Nat} {h h1 : AH} {fs : List Value} (a0 : Int32) (a1 : Int32) (a2 : Int32) (hxn : xo < n) (hxo : h xo = .inr (0, fs)) (hX : Cn l D cA b y_X_field k_X_field 7 96 mc ms [.ref xo, .int a0, .int a1, .int a2] n h (Re none n1 h1)) : Cn l D cA b y_L_field k_L_field 8 112 mc ms [.ref xo, .int a0, .int a1, .int a2] n h (Re (some (.int 0)) n1 h1) := by
  refine Cn.of (cc := b_L_field) (maxL := 5) (ret := (some .int)) (hh := [(0, 7, 10, 13), (0, 7, 14, 15), (0, 7, 18, 27)]) (by decide +kernel) hl (Or.inr rfl) (Nat.le_of_ble_eq_true rfl) ?_
  intro p e s m args below meth c C
  refine j_aload_n C d_L_field_0 rfl rfl ?_
  refine j_iload_n C d_L_field_1 rfl rfl ?_
  refine j_iload_n C d_L_field_2 rfl rfl ?_
  refine j_iload_n C d_L_field_3 rfl rfl ?_
  refine j_callV C d_L_field_4 ml_L_23 mc_X_field in_X_field rfl se_X_field hxn hxo hX rfl rfl (Nat.le_of_ble_eq_true rfl) (Nat.le_of_ble_eq_true rfl) (Nat.le_of_eq (Nat.zero_add _)) (Nat.le_of_eq (Nat.zero_add _)) (jk_v ?_)
  refine j_goto (tgt := 22) C d_L_field_7 (by decide) ?_
  refine j_iconst (v := 0) C d_L_field_22 (by decide) ?_
  exact j_ireturn C d_L_field_23 rfl (Nat.le_of_eq (Nat.zero_add _)) (Nat.le_of_eq (Nat.zero_add _)) ⟨rfl, rfl, rfl⟩

set_option maxHeartbeats 4000000 in
set_option maxRecDepth 100000 in
theorem w_act_7 {l : Launch} (hl : l.stackTraces = false) {D : va_G} {cA : Nat → ClassId} {b n n1 xo oo mc ms : Nat} {h h1 : AH} {fs : List Value} (a0 : Int32) (a1 : Int32) (a2 : Int32) (hxn : xo < n) (hxo : h xo = .inr (0, fs)) (hX : Cn l D cA b y_X_act k_X_act 7 96 mc ms [.ref xo, .int a0, .int a1, .int a2] n h (Tx 7 n1 h1)) : Cn l D cA b y_L_act k_L_act 8 114 mc ms [.ref xo, .int a0, .int a1, .int a2, .ref oo] n h (Re (some (.int 1)) n1 h1) := by
  refine Cn.of (cc := b_L_act) (maxL := 6) (ret := (some .int)) (hh := [(0, 19, 22, 13), (0, 19, 26, 15), (0, 19, 30, 27)]) (by decide +kernel) hl (Or.inr rfl) (Nat.le_of_ble_eq_true rfl) ?_
  intro p e s m args below meth c C
  refine j_aload C d_L_act_0 rfl ?_
  refine j_iconst (v := 0) C d_L_act_2 (by decide) ?_
  refine j_aload_n C d_L_act_3 rfl rfl ?_
  refine j_iload_n C d_L_act_4 rfl rfl ?_
  refine j_iload_n C d_L_act_5 rfl rfl ?_
  refine j_iload_n C d_L_act_6 rfl rfl ?_
  refine j_callV C d_L_act_7 ml_L_29 mc_X_act in_X_act rfl se_X_act hxn hxo hX rfl rfl (Nat.le_of_ble_eq_true rfl) (Nat.le_of_ble_eq_true rfl) (Nat.le_of_eq (Nat.zero_add _)) (Nat.le_of_eq (Nat.zero_add _)) (jk_c C (E := cR7) rfl [] ⟨0, 19, 22, 13⟩ [⟨0, 19, 26, 15⟩, ⟨0, 19, 30, 27⟩] rfl (fun z hz => nomatch hz) (by decide) (by decide) cl_L_13 ca_7 (fun q => ?_))
  refine j_astore C d_L_act_22 (by decide) rfl ?_
  refine j_iconst (v := 1) C d_L_act_24 (by decide) ?_
  exact j_ireturn C d_L_act_25 rfl (Nat.le_of_eq (Nat.zero_add _)) (Nat.le_of_eq (Nat.zero_add _)) ⟨rfl, rfl, rfl⟩

set_option maxHeartbeats 4000000 in
set_option maxRecDepth 100000 in
theorem w_act_8 {l : Launch} (hl : l.stackTraces = false) {D : va_G} {cA : Nat → ClassId} {b n n1 xo oo mc ms : Nat} {h h1 : AH} {fs : List Value} (a0 : Int32) (a1 : Int32) (a2 : Int32) (hxn : xo < n) (hxo : h xo = .inr (0, fs)) (hX : Cn l D cA b y_X_act k_X_act 7 96 mc ms [.ref xo, .int a0, .int a1, .int a2] n h (Tx 8 n1 h1)) : Cn l D cA b y_L_act k_L_act 8 114 mc ms [.ref xo, .int a0, .int a1, .int a2, .ref oo] n h (Re (some (.int 2)) n1 h1) := by
  refine Cn.of (cc := b_L_act) (maxL := 6) (ret := (some .int)) (hh := [(0, 19, 22, 13), (0, 19, 26, 15), (0, 19, 30, 27)]) (by decide +kernel) hl (Or.inr rfl) (Nat.le_of_ble_eq_true rfl) ?_
  intro p e s m args below meth c C
  refine j_aload C d_L_act_0 rfl ?_
  refine j_iconst (v := 0) C d_L_act_2 (by decide) ?_
  refine j_aload_n C d_L_act_3 rfl rfl ?_
  refine j_iload_n C d_L_act_4 rfl rfl ?_
  refine j_iload_n C d_L_act_5 rfl rfl ?_
  refine j_iload_n C d_L_act_6 rfl rfl ?_
  refine j_callV C d_L_act_7 ml_L_29 mc_X_act in_X_act rfl se_X_act hxn hxo hX rfl rfl (Nat.le_of_ble_eq_true rfl) (Nat.le_of_ble_eq_true rfl) (Nat.le_of_eq (Nat.zero_add _)) (Nat.le_of_eq (Nat.zero_add _)) (jk_c C (E := cR8) rfl [⟨0, 19, 22, 13⟩] ⟨0, 19, 26, 15⟩ [⟨0, 19, 30, 27⟩] rfl (List.forall_mem_cons.mpr ⟨Or.inr ⟨by decide, _, cl_L_13, by decide +kernel⟩, (fun z hz => nomatch hz)⟩) (by decide) (by decide) cl_L_15 ca_8 (fun q => ?_))
  refine j_astore C d_L_act_26 (by decide) rfl ?_
  refine j_iconst (v := 2) C d_L_act_28 (by decide) ?_
  exact j_ireturn C d_L_act_29 rfl (Nat.le_of_eq (Nat.zero_add _)) (Nat.le_of_eq (Nat.zero_add _)) ⟨rfl, rfl, rfl⟩

set_option maxHeartbeats 4000000 in
set_option maxRecDepth 100000 in
theorem w_act_9 {l : Launch} (hl : l.stackTraces = false) {D : va_G} {cA : Nat → ClassId} {b n n1 xo oo mc ms : Nat} {h h1 : AH} {fs : List Value} (a0 : Int32) (a1 : Int32) (a2 : Int32) (hxn : xo < n) (hxo : h xo = .inr (0, fs)) (hX : Cn l D cA b y_X_act k_X_act 7 96 mc ms [.ref xo, .int a0, .int a1, .int a2] n h (Tx 9 n1 h1)) : Cn l D cA b y_L_act k_L_act 8 114 mc ms [.ref xo, .int a0, .int a1, .int a2, .ref oo] n h (Re (some (.int 3)) n1 h1) := by
  refine Cn.of (cc := b_L_act) (maxL := 6) (ret := (some .int)) (hh := [(0, 19, 22, 13), (0, 19, 26, 15), (0, 19, 30, 27)]) (by decide +kernel) hl (Or.inr rfl) (Nat.le_of_ble_eq_true rfl) ?_
  intro p e s m args below meth c C
  refine j_aload C d_L_act_0 rfl ?_
  refine j_iconst (v := 0) C d_L_act_2 (by decide) ?_
  refine j_aload_n C d_L_act_3 rfl rfl ?_
  refine j_iload_n C d_L_act_4 rfl rfl ?_
  refine j_iload_n C d_L_act_5 rfl rfl ?_
  refine j_iload_n C d_L_act_6 rfl rfl ?_
  refine j_callV C d_L_act_7 ml_L_29 mc_X_act in_X_act rfl se_X_act hxn hxo hX rfl rfl (Nat.le_of_ble_eq_true rfl) (Nat.le_of_ble_eq_true rfl) (Nat.le_of_eq (Nat.zero_add _)) (Nat.le_of_eq (Nat.zero_add _)) (jk_c C (E := cR9) rfl [⟨0, 19, 22, 13⟩, ⟨0, 19, 26, 15⟩] ⟨0, 19, 30, 27⟩ [] rfl (List.forall_mem_cons.mpr ⟨Or.inr ⟨by decide, _, cl_L_13, by decide +kernel⟩, (List.forall_mem_cons.mpr ⟨Or.inr ⟨by decide, _, cl_L_15, by decide +kernel⟩, (fun z hz => nomatch hz)⟩)⟩) (by decide) (by decide) cl_L_27 ca_9 (fun q => ?_))
  refine j_astore C d_L_act_30 (by decide) rfl ?_
  refine j_iconst (v := 3) C d_L_act_32 (by decide) ?_
  exact j_ireturn C d_L_act_33 rfl (Nat.le_of_eq (Nat.zero_add _)) (Nat.le_of_eq (Nat.zero_add _)) ⟨rfl, rfl, rfl⟩

set_option maxHeartbeats 4000000 in
set_option maxRecDepth 100000 in
theorem w_inside_7 {l : Launch} (hl : l.stackTraces = false) {D : va_G} {cA : Nat → ClassId} {b n n1 xo mc ms : Nat} {h h1 : AH} {fs : List Value} (a0 : Int32) (a1 : Int32) (hxn : xo < n) (hxo : h xo = .inr (0, fs)) (hX : Cn l D cA b y_X_inside k_X_inside 7 96 mc ms [.ref xo, .int a0, .int a1] n h (Tx 7 n1 h1)) : Cn l D cA b y_L_inside k_L_inside 8 111 mc ms [.ref xo, .int a0, .int a1] n h (Re (some (.int 1)) n1 h1) := by
  refine Cn.of (cc := b_L_inside) (maxL := 4) (ret := (some .int)) (hh := [(0, 6, 9, 13), (0, 6, 12, 15), (0, 6, 15, 27)]) (by decide +kernel) hl (Or.inr rfl) (Nat.le_of_ble_eq_true rfl) ?_
  intro p e s m args below meth c C
  refine j_aload_n C d_L_inside_0 rfl rfl ?_
  refine j_iload_n C d_L_inside_1 rfl rfl ?_
  refine j_iload_n C d_L_inside_2 rfl rfl ?_
  refine j_callV C d_L_inside_3 ml_L_33 mc_X_inside in_X_inside rfl se_X_inside hxn hxo hX rfl rfl (Nat.le_of_ble_eq_true rfl) (Nat.le_of_ble_eq_true rfl) (Nat.le_of_eq (Nat.zero_add _)) (Nat.le_of_eq (Nat.zero_add _)) (jk_c C (E := cR7) rfl [] ⟨0, 6, 9, 13⟩ [⟨0, 6, 12, 15⟩, ⟨0, 6, 15, 27⟩] rfl (fun z hz => nomatch hz) (by decide) (by decide) cl_L_13 ca_7 (fun q => ?_))
  refine j_astore_n C d_L_inside_9 rfl (by decide) rfl ?_
  refine j_iconst (v := 1) C d_L_inside_10 (by decide) ?_
  exact j_ireturn C d_L_inside_11 rfl (Nat.le_of_eq (Nat.zero_add _)) (Nat.le_of_eq (Nat.zero_add _)) ⟨rfl, rfl, rfl⟩

set_option maxHeartbeats 4000000 in
set_option maxRecDepth 100000 in
theorem w_inside_8 {l : Launch} (hl : l.stackTraces = false) {D : va_G} {cA : Nat → ClassId} {b n n1 xo mc ms : Nat} {h h1 : AH} {fs : List Value} (a0 : Int32) (a1 : Int32) (hxn : xo < n) (hxo : h xo = .inr (0, fs)) (hX : Cn l D cA b y_X_inside k_X_inside 7 96 mc ms [.ref xo, .int a0, .int a1] n h (Tx 8 n1 h1)) : Cn l D cA b y_L_inside k_L_inside 8 111 mc ms [.ref xo, .int a0, .int a1] n h (Re (some (.int 2)) n1 h1) := by
  refine Cn.of (cc := b_L_inside) (maxL := 4) (ret := (some .int)) (hh := [(0, 6, 9, 13), (0, 6, 12, 15), (0, 6, 15, 27)]) (by decide +kernel) hl (Or.inr rfl) (Nat.le_of_ble_eq_true rfl) ?_
  intro p e s m args below meth c C
  refine j_aload_n C d_L_inside_0 rfl rfl ?_
  refine j_iload_n C d_L_inside_1 rfl rfl ?_
  refine j_iload_n C d_L_inside_2 rfl rfl ?_
  refine j_callV C d_L_inside_3 ml_L_33 mc_X_inside in_X_inside rfl se_X_inside hxn hxo hX rfl rfl (Nat.le_of_ble_eq_true rfl) (Nat.le_of_ble_eq_true rfl) (Nat.le_of_eq (Nat.zero_add _)) (Nat.le_of_eq (Nat.zero_add _)) (jk_c C (E := cR8) rfl [⟨0, 6, 9, 13⟩] ⟨0, 6, 12, 15⟩ [⟨0, 6, 15, 27⟩] rfl (List.forall_mem_cons.mpr ⟨Or.inr ⟨by decide, _, cl_L_13, by decide +kernel⟩, (fun z hz => nomatch hz)⟩) (by decide) (by decide) cl_L_15 ca_8 (fun q => ?_))
  refine j_astore_n C d_L_inside_12 rfl (by decide) rfl ?_
  refine j_iconst (v := 2) C d_L_inside_13 (by decide) ?_
  exact j_ireturn C d_L_inside_14 rfl (Nat.le_of_eq (Nat.zero_add _)) (Nat.le_of_eq (Nat.zero_add _)) ⟨rfl, rfl, rfl⟩

set_option maxHeartbeats 4000000 in
set_option maxRecDepth 100000 in
theorem w_inside_9 {l : Launch} (hl : l.stackTraces = false) {D : va_G} {cA : Nat → ClassId} {b n n1 xo mc ms : Nat} {h h1 : AH} {fs : List Value} (a0 : Int32) (a1 : Int32) (hxn : xo < n) (hxo : h xo = .inr (0, fs)) (hX : Cn l D cA b y_X_inside k_X_inside 7 96 mc ms [.ref xo, .int a0, .int a1] n h (Tx 9 n1 h1)) : Cn l D cA b y_L_inside k_L_inside 8 111 mc ms [.ref xo, .int a0, .int a1] n h (Re (some (.int 3)) n1 h1) := by
  refine Cn.of (cc := b_L_inside) (maxL := 4) (ret := (some .int)) (hh := [(0, 6, 9, 13), (0, 6, 12, 15), (0, 6, 15, 27)]) (by decide +kernel) hl (Or.inr rfl) (Nat.le_of_ble_eq_true rfl) ?_
  intro p e s m args below meth c C
  refine j_aload_n C d_L_inside_0 rfl rfl ?_
  refine j_iload_n C d_L_inside_1 rfl rfl ?_
  refine j_iload_n C d_L_inside_2 rfl rfl ?_
  refine j_callV C d_L_inside_3 ml_L_33 mc_X_inside in_X_inside rfl se_X_inside hxn hxo hX rfl rfl (Nat.le_of_ble_eq_true rfl) (Nat.le_of_ble_eq_true rfl) (Nat.le_of_eq (Nat.zero_add _)) (Nat.le_of_eq (Nat.zero_add _)) (jk_c C (E := cR9) rfl [⟨0, 6, 9, 13⟩, ⟨0, 6, 12, 15⟩] ⟨0, 6, 15, 27⟩ [] rfl (List.forall_mem_cons.mpr ⟨Or.inr ⟨by decide, _, cl_L_13, by decide +kernel⟩, (List.forall_mem_cons.mpr ⟨Or.inr ⟨by decide, _, cl_L_15, by decide +kernel⟩, (fun z hz => nomatch hz)⟩)⟩) (by decide) (by decide) cl_L_27 ca_9 (fun q => ?_))
  refine j_astore_n C d_L_inside_15 rfl (by decide) rfl ?_
  refine j_iconst (v := 3) C d_L_inside_16 (by decide) ?_
  exact j_ireturn C d_L_inside_17 rfl (Nat.le_of_eq (Nat.zero_add _)) (Nat.le_of_eq (Nat.zero_add _)) ⟨rfl, rfl, rfl⟩

set_option maxHeartbeats 4000000 in
set_option maxRecDepth 100000 in
theorem w_inside_r {l : Launch} (hl : l.stackTraces = false) {D : va_G} {cA : Nat → ClassId} {b n n1 xo mc ms : Nat} {h h1 : AH} {fs : List Value} (a0 : Int32) (a1 : Int32) (hxn : xo < n) (hxo : h xo = .inr (0, fs)) (hX : Cn l D cA b y_X_inside k_X_inside 7 96 mc ms [.ref xo, .int a0, .int a1] n h (Re none n1 h1)) : Cn l D cA b y_L_inside k_L_inside 8 111 mc ms [.ref xo, .int a0, .int a1] n h (Re (some (.int 0)) n1 h1) := by
  refine Cn.of (cc := b_L_inside) (maxL := 4) (ret := (some .int)) (hh := [(0, 6, 9, 13), (0, 6, 12, 15), (0, 6, 15, 27)]) (by decide +kernel) hl (Or.inr rfl) (Nat.le_of_ble_eq_true rfl) ?_
  intro p e s m args below meth c C
  refine j_aload_n C d_L_inside_0 rfl rfl ?_
  refine j_iload_n C d_L_inside_1 rfl rfl ?_
  refine j_iload_n C d_L_inside_2 rfl rfl ?_
  refine j_callV C d_L_inside_3 ml_L_33 mc_X_inside in_X_inside rfl se_X_inside hxn hxo hX rfl rfl (Nat.le_of_ble_eq_true rfl) (Nat.le_of_ble_eq_true rfl) (Nat.le_of_eq (Nat.zero_add _)) (Nat.le_of_eq (Nat.zero_add _)) (jk_v ?_)
  refine j_goto (tgt := 18) C d_L_inside_6 (by decide) ?_
  refine j_iconst (v := 0) C d_L_inside_18 (by decide) ?_
  exact j_ireturn C d_L_inside_19 rfl (Nat.le_of_eq (Nat.zero_add _)) (Nat.le_of_eq (Nat.zero_add _)) ⟨rfl, rfl, rfl⟩

set_option maxHeartbeats 4000000 in
set_option maxRecDepth 100000 in
theorem w_sign_8 {l : Launch} (hl : l.stackTraces = false) {D : va_G} {cA : Nat → ClassId} {b n n1 xo oo mc ms : Nat} {h h1 : AH} {fs : List Value} (a0 : Int64) (a1 : Int32) (hxn : xo < n) (hxo : h xo = .inr (0, fs)) (hX : Cn l D cA b y_X_sign k_X_sign 6 82 mc ms [.ref xo, .long a0, .int a1] n h (Tx 8 n1 h1)) : Cn l D cA b y_L_sign k_L_sign 7 100 mc ms [.ref xo, .long a0, .int a1, .ref oo] n h (Re (some (.int 1)) n1 h1) := by
  refine Cn.of (cc := b_L_sign) (maxL := 6) (ret := (some .int)) (hh := [(0, 11, 14, 15), (0, 11, 18, 17)]) (by decide +kernel) hl (Or.inr rfl) (Nat.le_of_ble_eq_true rfl) ?_
  intro p e s m args below meth c C
  refine j_aload C d_L_sign_0 rfl ?_
  refine j_iconst (v := 0) C d_L_sign_2 (by decide) ?_
  refine j_aload_n C d_L_sign_3 rfl rfl ?_
  refine j_lload_n C d_L_sign_4 rfl rfl ?_
  refine j_iload_n C d_L_sign_5 rfl rfl ?_
  refine j_callV C d_L_sign_6 ml_L_37 mc_X_sign in_X_sign rfl se_X_sign hxn hxo hX rfl rfl (Nat.le_of_ble_eq_true rfl) (Nat.le_of_ble_eq_true rfl) (Nat.le_of_eq (Nat.zero_add _)) (Nat.le_of_eq (Nat.zero_add _)) (jk_c C (E := cR8) rfl [] ⟨0, 11, 14, 15⟩ [⟨0, 11, 18, 17⟩] rfl (fun z hz => nomatch hz) (by decide) (by decide) cl_L_15 ca_8 (fun q => ?_))
  refine j_astore C d_L_sign_14 (by decide) rfl ?_
  refine j_iconst (v := 1) C d_L_sign_16 (by decide) ?_
  exact j_ireturn C d_L_sign_17 rfl (Nat.le_of_eq (Nat.zero_add _)) (Nat.le_of_eq (Nat.zero_add _)) ⟨rfl, rfl, rfl⟩

set_option maxHeartbeats 4000000 in
set_option maxRecDepth 100000 in
theorem w_sign_10 {l : Launch} (hl : l.stackTraces = false) {D : va_G} {cA : Nat → ClassId} {b n n1 xo oo mc ms : Nat} {h h1 : AH} {fs : List Value} (a0 : Int64) (a1 : Int32) (hxn : xo < n) (hxo : h xo = .inr (0, fs)) (hX : Cn l D cA b y_X_sign k_X_sign 6 82 mc ms [.ref xo, .long a0, .int a1] n h (Tx 10 n1 h1)) : Cn l D cA b y_L_sign k_L_sign 7 100 mc ms [.ref xo, .long a0, .int a1, .ref oo] n h (Re (some (.int 2)) n1 h1) := by
  refine Cn.of (cc := b_L_sign) (maxL := 6) (ret := (some .int)) (hh := [(0, 11, 14, 15), (0, 11, 18, 17)]) (by decide +kernel) hl (Or.inr rfl) (Nat.le_of_ble_eq_true rfl) ?_
  intro p e s m args below meth c C
  refine j_aload C d_L_sign_0 rfl ?_
  refine j_iconst (v := 0) C d_L_sign_2 (by decide) ?_
  refine j_aload_n C d_L_sign_3 rfl rfl ?_
  refine j_lload_n C d_L_sign_4 rfl rfl ?_
  refine j_iload_n C d_L_sign_5 rfl rfl ?_
  refine j_callV C d_L_sign_6 ml_L_37 mc_X_sign in_X_sign rfl se_X_sign hxn hxo hX rfl rfl (Nat.le_of_ble_eq_true rfl) (Nat.le_of_ble_eq_true rfl) (Nat.le_of_eq (Nat.zero_add _)) (Nat.le_of_eq (Nat.zero_add _)) (jk_c C (E := cR10) rfl [⟨0, 11, 14, 15⟩] ⟨0, 11, 18, 17⟩ [] rfl (List.forall_mem_cons.mpr ⟨Or.inr ⟨by decide, _, cl_L_15, by decide +kernel⟩, (fun z hz => nomatch hz)⟩) (by decide) (by decide) cl_L_17 ca_10 (fun q => ?_))
  refine j_astore C d_L_sign_18 (by decide) rfl ?_
  refine j_iconst (v := 2) C d_L_sign_20 (by decide) ?_
  exact j_ireturn C d_L_sign_21 rfl (Nat.le_of_eq (Nat.zero_add _)) (Nat.le_of_eq (Nat.zero_add _)) ⟨rfl, rfl, rfl⟩

set_option maxHeartbeats 4000000 in
set_option maxRecDepth 100000 in
theorem w_sign_r {l : Launch} (hl : l.stackTraces = false) {D : va_G} {cA : Nat → ClassId} {b n n1 xo oo mc ms : Nat} {h h1 : AH} {fs : List Value} (a0 : Int64) (a1 : Int32) {z : Int32} {f : Nat → Int64} (hxn : xo < n) (hxo : h xo = .inr (0, fs)) (hX : Cn l D cA b y_X_sign k_X_sign 6 82 mc ms [.ref xo, .long a0, .int a1] n h (Re (some (.int z)) n1 h1)) (hoo : oo < n1) (hout : h1 oo = .inl (4, 1, .inr (.inl f))) : Cn l D cA b y_L_sign k_L_sign 7 100 mc ms [.ref xo, .long a0, .int a1, .ref oo] n h (Re (some (.int 0)) n1 (hu h1 oo (.inl (4, 1, .inr (.inl (vp_updL f (0 : Int32).toNatClampNeg z.toInt64)))))) := by
  refine Cn.of (cc := b_L_sign) (maxL := 6) (ret := (some .int)) (hh := [(0, 11, 14, 15), (0, 11, 18, 17)]) (by decide +kernel) hl (Or.inr rfl) (Nat.le_of_ble_eq_true rfl) ?_
  intro p e s m args below meth c C
  refine j_aload C d_L_sign_0 rfl ?_
  refine j_iconst (v := 0) C d_L_sign_2 (by decide) ?_
  refine j_aload_n C d_L_sign_3 rfl rfl ?_
  refine j_lload_n C d_L_sign_4 rfl rfl ?_
  refine j_iload_n C d_L_sign_5 rfl rfl ?_
  refine j_callV C d_L_sign_6 ml_L_37 mc_X_sign in_X_sign rfl se_X_sign hxn hxo hX rfl rfl (Nat.le_of_ble_eq_true rfl) (Nat.le_of_ble_eq_true rfl) (Nat.le_of_eq (Nat.zero_add _)) (Nat.le_of_eq (Nat.zero_add _)) (jk_r ?_)
  refine j_i2l C d_L_sign_9 rfl ?_
  refine j_last (t := 4) (N := 1) C d_L_sign_10 rfl hoo hout (vp_in_nI (n := 0) (by omega) (by omega)) rfl ?_
  refine j_goto (tgt := 22) C d_L_sign_11 (by decide) ?_
  refine j_iconst (v := 0) C d_L_sign_22 (by decide) ?_
  exact j_ireturn C d_L_sign_23 rfl (Nat.le_of_eq (Nat.zero_add _)) (Nat.le_of_eq (Nat.zero_add _)) ⟨rfl, rfl, rfl⟩

set_option maxHeartbeats 4000000 in
set_option maxRecDepth 100000 in
theorem w_rules_9 {l : Launch} (hl : l.stackTraces = false) {D : va_G} {cA : Nat → ClassId} {b n n1 xo oo mc ms : Nat} {h h1 : AH} {fs : List Value} (hxn : xo < n) (hxo : h xo = .inr (0, fs)) (hX : Cn l D cA b y_X_rules k_X_rules 6 97 mc ms [.ref xo] n h (Tx 9 n1 h1)) : Cn l D cA b y_L_rules k_L_rules 7 112 mc ms [.ref xo, .ref oo] n h (Re (some (.int 1)) n1 h1) := by
  refine Cn.of (cc := b_L_rules) (maxL := 3) (ret := (some .int)) (hh := [(0, 8, 11, 27)]) (by decide +kernel) hl (Or.inr rfl) (Nat.le_of_ble_eq_true rfl) ?_
  intro p e s m args below meth c C
  refine j_aload_n C d_L_rules_0 rfl rfl ?_
  refine j_iconst (v := 0) C d_L_rules_1 (by decide) ?_
  refine j_aload_n C d_L_rules_2 rfl rfl ?_
  refine j_callV C d_L_rules_3 ml_L_41 mc_X_rules in_X_rules rfl se_X_rules hxn hxo hX rfl rfl (Nat.le_of_ble_eq_true rfl) (Nat.le_of_ble_eq_true rfl) (Nat.le_of_eq (Nat.zero_add _)) (Nat.le_of_eq (Nat.zero_add _)) (jk_c C (E := cR9) rfl [] ⟨0, 8, 11, 27⟩ [] rfl (fun z hz => nomatch hz) (by decide) (by decide) cl_L_27 ca_9 (fun q => ?_))
  refine j_astore_n C d_L_rules_11 rfl (by decide) rfl ?_
  refine j_iconst (v := 1) C d_L_rules_12 (by decide) ?_
  exact j_ireturn C d_L_rules_13 rfl (Nat.le_of_eq (Nat.zero_add _)) (Nat.le_of_eq (Nat.zero_add _)) ⟨rfl, rfl, rfl⟩

set_option maxHeartbeats 4000000 in
set_option maxRecDepth 100000 in
theorem w_rules_r {l : Launch} (hl : l.stackTraces = false) {D : va_G} {cA : Nat → ClassId} {b n n1 xo oo mc ms : Nat} {h h1 : AH} {fs : List Value} {z : Int32} {f : Nat → Int64} (hxn : xo < n) (hxo : h xo = .inr (0, fs)) (hX : Cn l D cA b y_X_rules k_X_rules 6 97 mc ms [.ref xo] n h (Re (some (.int z)) n1 h1)) (hoo : oo < n1) (hout : h1 oo = .inl (4, 1, .inr (.inl f))) : Cn l D cA b y_L_rules k_L_rules 7 112 mc ms [.ref xo, .ref oo] n h (Re (some (.int 0)) n1 (hu h1 oo (.inl (4, 1, .inr (.inl (vp_updL f (0 : Int32).toNatClampNeg z.toInt64)))))) := by
  refine Cn.of (cc := b_L_rules) (maxL := 3) (ret := (some .int)) (hh := [(0, 8, 11, 27)]) (by decide +kernel) hl (Or.inr rfl) (Nat.le_of_ble_eq_true rfl) ?_
  intro p e s m args below meth c C
  refine j_aload_n C d_L_rules_0 rfl rfl ?_
  refine j_iconst (v := 0) C d_L_rules_1 (by decide) ?_
  refine j_aload_n C d_L_rules_2 rfl rfl ?_
  refine j_callV C d_L_rules_3 ml_L_41 mc_X_rules in_X_rules rfl se_X_rules hxn hxo hX rfl rfl (Nat.le_of_ble_eq_true rfl) (Nat.le_of_ble_eq_true rfl) (Nat.le_of_eq (Nat.zero_add _)) (Nat.le_of_eq (Nat.zero_add _)) (jk_r ?_)
  refine j_i2l C d_L_rules_6 rfl ?_
  refine j_last (t := 4) (N := 1) C d_L_rules_7 rfl hoo hout (vp_in_nI (n := 0) (by omega) (by omega)) rfl ?_
  refine j_goto (tgt := 14) C d_L_rules_8 (by decide) ?_
  refine j_iconst (v := 0) C d_L_rules_14 (by decide) ?_
  exact j_ireturn C d_L_rules_15 rfl (Nat.le_of_eq (Nat.zero_add _)) (Nat.le_of_eq (Nat.zero_add _)) ⟨rfl, rfl, rfl⟩

set_option maxHeartbeats 4000000 in
set_option maxRecDepth 100000 in
theorem w_check_7 {l : Launch} (hl : l.stackTraces = false) {D : va_G} {cA : Nat → ClassId} {b n n1 xo oo mc ms : Nat} {h h1 : AH} {fs : List Value} (a0 : Int32) (hxn : xo < n) (hxo : h xo = .inr (0, fs)) (hX : Cn l D cA b y_X_check k_X_check 7 97 mc ms [.ref xo, .int a0] n h (Tx 7 n1 h1)) : Cn l D cA b y_L_check k_L_check 8 112 mc ms [.ref xo, .int a0, .ref oo] n h (Re (some (.int 1)) n1 h1) := by
  refine Cn.of (cc := b_L_check) (maxL := 4) (ret := (some .int)) (hh := [(0, 9, 12, 13)]) (by decide +kernel) hl (Or.inr rfl) (Nat.le_of_ble_eq_true rfl) ?_
  intro p e s m args below meth c C
  refine j_aload_n C d_L_check_0 rfl rfl ?_
  refine j_iconst (v := 0) C d_L_check_1 (by decide) ?_
  refine j_aload_n C d_L_check_2 rfl rfl ?_
  refine j_iload_n C d_L_check_3 rfl rfl ?_
  refine j_callV C d_L_check_4 ml_L_45 mc_X_check in_X_check rfl se_X_check hxn hxo hX rfl rfl (Nat.le_of_ble_eq_true rfl) (Nat.le_of_ble_eq_true rfl) (Nat.le_of_eq (Nat.zero_add _)) (Nat.le_of_eq (Nat.zero_add _)) (jk_c C (E := cR7) rfl [] ⟨0, 9, 12, 13⟩ [] rfl (fun z hz => nomatch hz) (by decide) (by decide) cl_L_13 ca_7 (fun q => ?_))
  refine j_astore_n C d_L_check_12 rfl (by decide) rfl ?_
  refine j_iconst (v := 1) C d_L_check_13 (by decide) ?_
  exact j_ireturn C d_L_check_14 rfl (Nat.le_of_eq (Nat.zero_add _)) (Nat.le_of_eq (Nat.zero_add _)) ⟨rfl, rfl, rfl⟩

set_option maxHeartbeats 4000000 in
set_option maxRecDepth 100000 in
theorem w_check_r {l : Launch} (hl : l.stackTraces = false) {D : va_G} {cA : Nat → ClassId} {b n n1 xo oo mc ms : Nat} {h h1 : AH} {fs : List Value} (a0 : Int32) {z : Int32} {f : Nat → Int64} (hxn : xo < n) (hxo : h xo = .inr (0, fs)) (hX : Cn l D cA b y_X_check k_X_check 7 97 mc ms [.ref xo, .int a0] n h (Re (some (.int z)) n1 h1)) (hoo : oo < n1) (hout : h1 oo = .inl (4, 1, .inr (.inl f))) : Cn l D cA b y_L_check k_L_check 8 112 mc ms [.ref xo, .int a0, .ref oo] n h (Re (some (.int 0)) n1 (hu h1 oo (.inl (4, 1, .inr (.inl (vp_updL f (0 : Int32).toNatClampNeg z.toInt64)))))) := by
  refine Cn.of (cc := b_L_check) (maxL := 4) (ret := (some .int)) (hh := [(0, 9, 12, 13)]) (by decide +kernel) hl (Or.inr rfl) (Nat.le_of_ble_eq_true rfl) ?_
  intro p e s m args below meth c C
  refine j_aload_n C d_L_check_0 rfl rfl ?_
  refine j_iconst (v := 0) C d_L_check_1 (by decide) ?_
  refine j_aload_n C d_L_check_2 rfl rfl ?_
  refine j_iload_n C d_L_check_3 rfl rfl ?_
  refine j_callV C d_L_check_4 ml_L_45 mc_X_check in_X_check rfl se_X_check hxn hxo hX rfl rfl (Nat.le_of_ble_eq_true rfl) (Nat.le_of_ble_eq_true rfl) (Nat.le_of_eq (Nat.zero_add _)) (Nat.le_of_eq (Nat.zero_add _)) (jk_r ?_)
  refine j_i2l C d_L_check_7 rfl ?_
  refine j_last (t := 4) (N := 1) C d_L_check_8 rfl hoo hout (vp_in_nI (n := 0) (by omega) (by omega)) rfl ?_
  refine j_goto (tgt := 15) C d_L_check_9 (by decide) ?_
  refine j_iconst (v := 0) C d_L_check_15 (by decide) ?_
  exact j_ireturn C d_L_check_16 rfl (Nat.le_of_eq (Nat.zero_add _)) (Nat.le_of_eq (Nat.zero_add _)) ⟨rfl, rfl, rfl⟩

set_option maxHeartbeats 4000000 in
set_option maxRecDepth 100000 in
theorem w_wanting_7 {l : Launch} (hl : l.stackTraces = false) {D : va_G} {cA : Nat → ClassId} {b n n1 xo oo mc ms : Nat} {h h1 : AH} {fs : List Value} (a0 : Int32) (a1 : Int32) (hxn : xo < n) (hxo : h xo = .inr (0, fs)) (hX : Cn l D cA b y_X_wanting k_X_wanting 6 82 mc ms [.ref xo, .int a0, .int a1] n h (Tx 7 n1 h1)) : Cn l D cA b y_L_wanting k_L_wanting 7 98 mc ms [.ref xo, .int a0, .int a1, .ref oo] n h (Re (some (.int 1)) n1 h1) := by
  refine Cn.of (cc := b_L_wanting) (maxL := 5) (ret := (some .int)) (hh := [(0, 10, 13, 13)]) (by decide +kernel) hl (Or.inr rfl) (Nat.le_of_ble_eq_true rfl) ?_
  intro p e s m args below meth c C
  refine j_aload_n C d_L_wanting_0 rfl rfl ?_
  refine j_iconst (v := 0) C d_L_wanting_1 (by decide) ?_
  refine j_aload_n C d_L_wanting_2 rfl rfl ?_
  refine j_iload_n C d_L_wanting_3 rfl rfl ?_
  refine j_iload_n C d_L_wanting_4 rfl rfl ?_
  refine j_callV C d_L_wanting_5 ml_L_49 mc_X_wanting in_X_wanting rfl se_X_wanting hxn hxo hX rfl rfl (Nat.le_of_ble_eq_true rfl) (Nat.le_of_ble_eq_true rfl) (Nat.le_of_eq (Nat.zero_add _)) (Nat.le_of_eq (Nat.zero_add _)) (jk_c C (E := cR7) rfl [] ⟨0, 10, 13, 13⟩ [] rfl (fun z hz => nomatch hz) (by decide) (by decide) cl_L_13 ca_7 (fun q => ?_))
  refine j_astore C d_L_wanting_13 (by decide) rfl ?_
  refine j_iconst (v := 1) C d_L_wanting_15 (by decide) ?_
  exact j_ireturn C d_L_wanting_16 rfl (Nat.le_of_eq (Nat.zero_add _)) (Nat.le_of_eq (Nat.zero_add _)) ⟨rfl, rfl, rfl⟩

set_option maxHeartbeats 4000000 in
set_option maxRecDepth 100000 in
theorem w_wanting_r {l : Launch} (hl : l.stackTraces = false) {D : va_G} {cA : Nat → ClassId} {b n n1 xo oo mc ms : Nat} {h h1 : AH} {fs : List Value} (a0 : Int32) (a1 : Int32) {z : Int32} {f : Nat → Int64} (hxn : xo < n) (hxo : h xo = .inr (0, fs)) (hX : Cn l D cA b y_X_wanting k_X_wanting 6 82 mc ms [.ref xo, .int a0, .int a1] n h (Re (some (.int z)) n1 h1)) (hoo : oo < n1) (hout : h1 oo = .inl (4, 1, .inr (.inl f))) : Cn l D cA b y_L_wanting k_L_wanting 7 98 mc ms [.ref xo, .int a0, .int a1, .ref oo] n h (Re (some (.int 0)) n1 (hu h1 oo (.inl (4, 1, .inr (.inl (vp_updL f (0 : Int32).toNatClampNeg z.toInt64)))))) := by
  refine Cn.of (cc := b_L_wanting) (maxL := 5) (ret := (some .int)) (hh := [(0, 10, 13, 13)]) (by decide +kernel) hl (Or.inr rfl) (Nat.le_of_ble_eq_true rfl) ?_
  intro p e s m args below meth c C
  refine j_aload_n C d_L_wanting_0 rfl rfl ?_
  refine j_iconst (v := 0) C d_L_wanting_1 (by decide) ?_
  refine j_aload_n C d_L_wanting_2 rfl rfl ?_
  refine j_iload_n C d_L_wanting_3 rfl rfl ?_
  refine j_iload_n C d_L_wanting_4 rfl rfl ?_
  refine j_callV C d_L_wanting_5 ml_L_49 mc_X_wanting in_X_wanting rfl se_X_wanting hxn hxo hX rfl rfl (Nat.le_of_ble_eq_true rfl) (Nat.le_of_ble_eq_true rfl) (Nat.le_of_eq (Nat.zero_add _)) (Nat.le_of_eq (Nat.zero_add _)) (jk_r ?_)
  refine j_i2l C d_L_wanting_8 rfl ?_
  refine j_last (t := 4) (N := 1) C d_L_wanting_9 rfl hoo hout (vp_in_nI (n := 0) (by omega) (by omega)) rfl ?_
  refine j_goto (tgt := 17) C d_L_wanting_10 (by decide) ?_
  refine j_iconst (v := 0) C d_L_wanting_17 (by decide) ?_
  exact j_ireturn C d_L_wanting_18 rfl (Nat.le_of_eq (Nat.zero_add _)) (Nat.le_of_eq (Nat.zero_add _)) ⟨rfl, rfl, rfl⟩

set_option maxHeartbeats 4000000 in
set_option maxRecDepth 100000 in
theorem w_put_7 {l : Launch} (hl : l.stackTraces = false) {D : va_G} {cA : Nat → ClassId} {b n n1 xo oo mc ms : Nat} {h h1 : AH} {fs : List Value} (a0 : Int32) (a1 : Int32) (hxn : xo < n) (hxo : h xo = .inr (0, fs)) (hX : Cn l D cA b y_X_put k_X_put 7 96 mc ms [.ref xo, .int a0, .int a1] n h (Tx 7 n1 h1)) : Cn l D cA b y_L_put k_L_put 8 113 mc ms [.ref xo, .int a0, .int a1, .ref oo] n h (Re (some (.int 1)) n1 h1) := by
  refine Cn.of (cc := b_L_put) (maxL := 5) (ret := (some .int)) (hh := [(0, 10, 13, 13), (0, 10, 17, 27)]) (by decide +kernel) hl (Or.inr rfl) (Nat.le_of_ble_eq_true rfl) ?_
  intro p e s m args below meth c C
  refine j_aload_n C d_L_put_0 rfl rfl ?_
  refine j_iconst (v := 0) C d_L_put_1 (by decide) ?_
  refine j_aload_n C d_L_put_2 rfl rfl ?_
  refine j_iload_n C d_L_put_3 rfl rfl ?_
  refine j_iload_n C d_L_put_4 rfl rfl ?_
  refine j_callV C d_L_put_5 ml_L_52 mc_X_put in_X_put rfl se_X_put hxn hxo hX rfl rfl (Nat.le_of_ble_eq_true rfl) (Nat.le_of_ble_eq_true rfl) (Nat.le_of_eq (Nat.zero_add _)) (Nat.le_of_eq (Nat.zero_add _)) (jk_c C (E := cR7) rfl [] ⟨0, 10, 13, 13⟩ [⟨0, 10, 17, 27⟩] rfl (fun z hz => nomatch hz) (by decide) (by decide) cl_L_13 ca_7 (fun q => ?_))
  refine j_astore C d_L_put_13 (by decide) rfl ?_
  refine j_iconst (v := 1) C d_L_put_15 (by decide) ?_
  exact j_ireturn C d_L_put_16 rfl (Nat.le_of_eq (Nat.zero_add _)) (Nat.le_of_eq (Nat.zero_add _)) ⟨rfl, rfl, rfl⟩

set_option maxHeartbeats 4000000 in
set_option maxRecDepth 100000 in
theorem w_put_9 {l : Launch} (hl : l.stackTraces = false) {D : va_G} {cA : Nat → ClassId} {b n n1 xo oo mc ms : Nat} {h h1 : AH} {fs : List Value} (a0 : Int32) (a1 : Int32) (hxn : xo < n) (hxo : h xo = .inr (0, fs)) (hX : Cn l D cA b y_X_put k_X_put 7 96 mc ms [.ref xo, .int a0, .int a1] n h (Tx 9 n1 h1)) : Cn l D cA b y_L_put k_L_put 8 113 mc ms [.ref xo, .int a0, .int a1, .ref oo] n h (Re (some (.int 2)) n1 h1) := by
  refine Cn.of (cc := b_L_put) (maxL := 5) (ret := (some .int)) (hh := [(0, 10, 13, 13), (0, 10, 17, 27)]) (by decide +kernel) hl (Or.inr rfl) (Nat.le_of_ble_eq_true rfl) ?_
  intro p e s m args below meth c C
  refine j_aload_n C d_L_put_0 rfl rfl ?_
  refine j_iconst (v := 0) C d_L_put_1 (by decide) ?_
  refine j_aload_n C d_L_put_2 rfl rfl ?_
  refine j_iload_n C d_L_put_3 rfl rfl ?_
  refine j_iload_n C d_L_put_4 rfl rfl ?_
  refine j_callV C d_L_put_5 ml_L_52 mc_X_put in_X_put rfl se_X_put hxn hxo hX rfl rfl (Nat.le_of_ble_eq_true rfl) (Nat.le_of_ble_eq_true rfl) (Nat.le_of_eq (Nat.zero_add _)) (Nat.le_of_eq (Nat.zero_add _)) (jk_c C (E := cR9) rfl [⟨0, 10, 13, 13⟩] ⟨0, 10, 17, 27⟩ [] rfl (List.forall_mem_cons.mpr ⟨Or.inr ⟨by decide, _, cl_L_13, by decide +kernel⟩, (fun z hz => nomatch hz)⟩) (by decide) (by decide) cl_L_27 ca_9 (fun q => ?_))
  refine j_astore C d_L_put_17 (by decide) rfl ?_
  refine j_iconst (v := 2) C d_L_put_19 (by decide) ?_
  exact j_ireturn C d_L_put_20 rfl (Nat.le_of_eq (Nat.zero_add _)) (Nat.le_of_eq (Nat.zero_add _)) ⟨rfl, rfl, rfl⟩

set_option maxHeartbeats 4000000 in
set_option maxRecDepth 100000 in
theorem w_put_r {l : Launch} (hl : l.stackTraces = false) {D : va_G} {cA : Nat → ClassId} {b n n1 xo oo mc ms : Nat} {h h1 : AH} {fs : List Value} (a0 : Int32) (a1 : Int32) {z : Int32} {f : Nat → Int64} (hxn : xo < n) (hxo : h xo = .inr (0, fs)) (hX : Cn l D cA b y_X_put k_X_put 7 96 mc ms [.ref xo, .int a0, .int a1] n h (Re (some (.int z)) n1 h1)) (hoo : oo < n1) (hout : h1 oo = .inl (4, 1, .inr (.inl f))) : Cn l D cA b y_L_put k_L_put 8 113 mc ms [.ref xo, .int a0, .int a1, .ref oo] n h (Re (some (.int 0)) n1 (hu h1 oo (.inl (4, 1, .inr (.inl (vp_updL f (0 : Int32).toNatClampNeg z.toInt64)))))) := by
  refine Cn.of (cc := b_L_put) (maxL := 5) (ret := (some .int)) (hh := [(0, 10, 13, 13), (0, 10, 17, 27)]) (by decide +kernel) hl (Or.inr rfl) (Nat.le_of_ble_eq_true rfl) ?_
  intro p e s m args below meth c C
  refine j_aload_n C d_L_put_0 rfl rfl ?_
  refine j_iconst (v := 0) C d_L_put_1 (by decide) ?_
  refine j_aload_n C d_L_put_2 rfl rfl ?_
  refine j_iload_n C d_L_put_3 rfl rfl ?_
  refine j_iload_n C d_L_put_4 rfl rfl ?_
  refine j_callV C d_L_put_5 ml_L_52 mc_X_put in_X_put rfl se_X_put hxn hxo hX rfl rfl (Nat.le_of_ble_eq_true rfl) (Nat.le_of_ble_eq_true rfl) (Nat.le_of_eq (Nat.zero_add _)) (Nat.le_of_eq (Nat.zero_add _)) (jk_r ?_)
  refine j_i2l C d_L_put_8 rfl ?_
  refine j_last (t := 4) (N := 1) C d_L_put_9 rfl hoo hout (vp_in_nI (n := 0) (by omega) (by omega)) rfl ?_
  refine j_goto (tgt := 21) C d_L_put_10 (by decide) ?_
  refine j_iconst (v := 0) C d_L_put_21 (by decide) ?_
  exact j_ireturn C d_L_put_22 rfl (Nat.le_of_eq (Nat.zero_add _)) (Nat.le_of_eq (Nat.zero_add _)) ⟨rfl, rfl, rfl⟩

set_option maxHeartbeats 4000000 in
set_option maxRecDepth 100000 in
theorem w_edition_7 {l : Launch} (hl : l.stackTraces = false) {D : va_G} {cA : Nat → ClassId} {b n n1 xo oo mc ms : Nat} {h h1 : AH} {fs : List Value} (a0 : Int32) (hxn : xo < n) (hxo : h xo = .inr (0, fs)) (hX : Cn l D cA b y_X_edition k_X_edition 7 96 mc ms [.ref xo, .int a0] n h (Tx 7 n1 h1)) : Cn l D cA b y_L_edition k_L_edition 8 113 mc ms [.ref xo, .int a0, .ref oo] n h (Re (some (.int 1)) n1 h1) := by
  refine Cn.of (cc := b_L_edition) (maxL := 4) (ret := (some .int)) (hh := [(0, 9, 12, 13), (0, 9, 15, 27), (0, 9, 18, 17)]) (by decide +kernel) hl (Or.inr rfl) (Nat.le_of_ble_eq_true rfl) ?_
  intro p e s m args below meth c C
  refine j_aload_n C d_L_edition_0 rfl rfl ?_
  refine j_iconst (v := 0) C d_L_edition_1 (by decide) ?_
  refine j_aload_n C d_L_edition_2 rfl rfl ?_
  refine j_iload_n C d_L_edition_3 rfl rfl ?_
  refine j_callV C d_L_edition_4 ml_L_55 mc_X_edition in_X_edition rfl se_X_edition hxn hxo hX rfl rfl (Nat.le_of_ble_eq_true rfl) (Nat.le_of_ble_eq_true rfl) (Nat.le_of_eq (Nat.zero_add _)) (Nat.le_of_eq (Nat.zero_add _)) (jk_c C (E := cR7) rfl [] ⟨0, 9, 12, 13⟩ [⟨0, 9, 15, 27⟩, ⟨0, 9, 18, 17⟩] rfl (fun z hz => nomatch hz) (by decide) (by decide) cl_L_13 ca_7 (fun q => ?_))
  refine j_astore_n C d_L_edition_12 rfl (by decide) rfl ?_
  refine j_iconst (v := 1) C d_L_edition_13 (by decide) ?_
  exact j_ireturn C d_L_edition_14 rfl (Nat.le_of_eq (Nat.zero_add _)) (Nat.le_of_eq (Nat.zero_add _)) ⟨rfl, rfl, rfl⟩

set_option maxHeartbeats 4000000 in
set_option maxRecDepth 100000 in
theorem w_edition_9 {l : Launch} (hl : l.stackTraces = false) {D : va_G} {cA : Nat → ClassId} {b n n1 xo oo mc ms : Nat} {h h1 : AH} {fs : List Value} (a0 : Int32) (hxn : xo < n) (hxo : h xo = .inr (0, fs)) (hX : Cn l D cA b y_X_edition k_X_edition 7 96 mc ms [.ref xo, .int a0] n h (Tx 9 n1 h1)) : Cn l D cA b y_L_edition k_L_edition 8 113 mc ms [.ref xo, .int a0, .ref oo] n h (Re (some (.int 2)) n1 h1) := by
  refine Cn.of (cc := b_L_edition) (maxL := 4) (ret := (some .int)) (hh := [(0, 9, 12, 13), (0, 9, 15, 27), (0, 9, 18, 17)]) (by decide +kernel) hl (Or.inr rfl) (Nat.le_of_ble_eq_true rfl) ?_
  intro p e s m args below meth c C
  refine j_aload_n C d_L_edition_0 rfl rfl ?_
  refine j_iconst (v := 0) C d_L_edition_1 (by decide) ?_
  refine j_aload_n C d_L_edition_2 rfl rfl ?_
  refine j_iload_n C d_L_edition_3 rfl rfl ?_
  refine j_callV C d_L_edition_4 ml_L_55 mc_X_edition in_X_edition rfl se_X_edition hxn hxo hX rfl rfl (Nat.le_of_ble_eq_true rfl) (Nat.le_of_ble_eq_true rfl) (Nat.le_of_eq (Nat.zero_add _)) (Nat.le_of_eq (Nat.zero_add _)) (jk_c C (E := cR9) rfl [⟨0, 9, 12, 13⟩] ⟨0, 9, 15, 27⟩ [⟨0, 9, 18, 17⟩] rfl (List.forall_mem_cons.mpr ⟨Or.inr ⟨by decide, _, cl_L_13, by decide +kernel⟩, (fun z hz => nomatch hz)⟩) (by decide) (by decide) cl_L_27 ca_9 (fun q => ?_))
  refine j_astore_n C d_L_edition_15 rfl (by decide) rfl ?_
  refine j_iconst (v := 2) C d_L_edition_16 (by decide) ?_
  exact j_ireturn C d_L_edition_17 rfl (Nat.le_of_eq (Nat.zero_add _)) (Nat.le_of_eq (Nat.zero_add _)) ⟨rfl, rfl, rfl⟩

set_option maxHeartbeats 4000000 in
set_option maxRecDepth 100000 in
theorem w_edition_10 {l : Launch} (hl : l.stackTraces = false) {D : va_G} {cA : Nat → ClassId} {b n n1 xo oo mc ms : Nat} {h h1 : AH} {fs : List Value} (a0 : Int32) (hxn : xo < n) (hxo : h xo = .inr (0, fs)) (hX : Cn l D cA b y_X_edition k_X_edition 7 96 mc ms [.ref xo, .int a0] n h (Tx 10 n1 h1)) : Cn l D cA b y_L_edition k_L_edition 8 113 mc ms [.ref xo, .int a0, .ref oo] n h (Re (some (.int 3)) n1 h1) := by
  refine Cn.of (cc := b_L_edition) (maxL := 4) (ret := (some .int)) (hh := [(0, 9, 12, 13), (0, 9, 15, 27), (0, 9, 18, 17)]) (by decide +kernel) hl (Or.inr rfl) (Nat.le_of_ble_eq_true rfl) ?_
  intro p e s m args below meth c C
  refine j_aload_n C d_L_edition_0 rfl rfl ?_
  refine j_iconst (v := 0) C d_L_edition_1 (by decide) ?_
  refine j_aload_n C d_L_edition_2 rfl rfl ?_
  refine j_iload_n C d_L_edition_3 rfl rfl ?_
  refine j_callV C d_L_edition_4 ml_L_55 mc_X_edition in_X_edition rfl se_X_edition hxn hxo hX rfl rfl (Nat.le_of_ble_eq_true rfl) (Nat.le_of_ble_eq_true rfl) (Nat.le_of_eq (Nat.zero_add _)) (Nat.le_of_eq (Nat.zero_add _)) (jk_c C (E := cR10) rfl [⟨0, 9, 12, 13⟩, ⟨0, 9, 15, 27⟩] ⟨0, 9, 18, 17⟩ [] rfl (List.forall_mem_cons.mpr ⟨Or.inr ⟨by decide, _, cl_L_13, by decide +kernel⟩, (List.forall_mem_cons.mpr ⟨Or.inr ⟨by decide, _, cl_L_27, by decide +kernel⟩, (fun z hz => nomatch hz)⟩)⟩) (by decide) (by decide) cl_L_17 ca_10 (fun q => ?_))
  refine j_astore_n C d_L_edition_18 rfl (by decide) rfl ?_
  refine j_iconst (v := 3) C d_L_edition_19 (by decide) ?_
  exact j_ireturn C d_L_edition_20 rfl (Nat.le_of_eq (Nat.zero_add _)) (Nat.le_of_eq (Nat.zero_add _)) ⟨rfl, rfl, rfl⟩

set_option maxHeartbeats 4000000 in
set_option maxRecDepth 100000 in
theorem w_edition_r {l : Launch} (hl : l.stackTraces = false) {D : va_G} {cA : Nat → ClassId} {b n n1 xo oo mc ms : Nat} {h h1 : AH} {fs : List Value} (a0 : Int32) {z : Int32} {f : Nat → Int64} (hxn : xo < n) (hxo : h xo = .inr (0, fs)) (hX : Cn l D cA b y_X_edition k_X_edition 7 96 mc ms [.ref xo, .int a0] n h (Re (some (.int z)) n1 h1)) (hoo : oo < n1) (hout : h1 oo = .inl (4, 1, .inr (.inl f))) : Cn l D cA b y_L_edition k_L_edition 8 113 mc ms [.ref xo, .int a0, .ref oo] n h (Re (some (.int 0)) n1 (hu h1 oo (.inl (4, 1, .inr (.inl (vp_updL f (0 : Int32).toNatClampNeg z.toInt64)))))) := by
  refine Cn.of (cc := b_L_edition) (maxL := 4) (ret := (some .int)) (hh := [(0, 9, 12, 13), (0, 9, 15, 27), (0, 9, 18, 17)]) (by decide +kernel) hl (Or.inr rfl) (Nat.le_of_ble_eq_true rfl) ?_
  intro p e s m args below meth c C
  refine j_aload_n C d_L_edition_0 rfl rfl ?_
  refine j_iconst (v := 0) C d_L_edition_1 (by decide) ?_
  refine j_aload_n C d_L_edition_2 rfl rfl ?_
  refine j_iload_n C d_L_edition_3 rfl rfl ?_
  refine j_callV C d_L_edition_4 ml_L_55 mc_X_edition in_X_edition rfl se_X_edition hxn hxo hX rfl rfl (Nat.le_of_ble_eq_true rfl) (Nat.le_of_ble_eq_true rfl) (Nat.le_of_eq (Nat.zero_add _)) (Nat.le_of_eq (Nat.zero_add _)) (jk_r ?_)
  refine j_i2l C d_L_edition_7 rfl ?_
  refine j_last (t := 4) (N := 1) C d_L_edition_8 rfl hoo hout (vp_in_nI (n := 0) (by omega) (by omega)) rfl ?_
  refine j_goto (tgt := 21) C d_L_edition_9 (by decide) ?_
  refine j_iconst (v := 0) C d_L_edition_21 (by decide) ?_
  exact j_ireturn C d_L_edition_22 rfl (Nat.le_of_eq (Nat.zero_add _)) (Nat.le_of_eq (Nat.zero_add _)) ⟨rfl, rfl, rfl⟩

set_option maxHeartbeats 4000000 in
set_option maxRecDepth 100000 in
theorem w_fault_7 {l : Launch} (hl : l.stackTraces = false) {D : va_G} {cA : Nat → ClassId} {b n n1 xo mc ms : Nat} {h h1 : AH} {fs : List Value} (a0 : Int32) (a1 : Int32) (hxn : xo < n) (hxo : h xo = .inr (0, fs)) (hX : Cn l D cA b y_X_fault k_X_fault 7 96 mc ms [.ref xo, .int a0, .int a1] n h (Tx 7 n1 h1)) : Cn l D cA b y_L_fault k_L_fault 8 111 mc ms [.ref xo, .int a0, .int a1] n h (Re (some (.int 1)) n1 h1) := by
  refine Cn.of (cc := b_L_fault) (maxL := 4) (ret := (some .int)) (hh := [(0, 6, 9, 13), (0, 6, 12, 27)]) (by decide +kernel) hl (Or.inr rfl) (Nat.le_of_ble_eq_true rfl) ?_
  intro p e s m args below meth c C
  refine j_aload_n C d_L_fault_0 rfl rfl ?_
  refine j_iload_n C d_L_fault_1 rfl rfl ?_
  refine j_iload_n C d_L_fault_2 rfl rfl ?_
  refine j_callV C d_L_fault_3 ml_L_58 mc_X_fault in_X_fault rfl se_X_fault hxn hxo hX rfl rfl (Nat.le_of_ble_eq_true rfl) (Nat.le_of_ble_eq_true rfl) (Nat.le_of_eq (Nat.zero_add _)) (Nat.le_of_eq (Nat.zero_add _)) (jk_c C (E := cR7) rfl [] ⟨0, 6, 9, 13⟩ [⟨0, 6, 12, 27⟩] rfl (fun z hz => nomatch hz) (by decide) (by decide) cl_L_13 ca_7 (fun q => ?_))
  refine j_astore_n C d_L_fault_9 rfl (by decide) rfl ?_
  refine j_iconst (v := 1) C d_L_fault_10 (by decide) ?_
  exact j_ireturn C d_L_fault_11 rfl (Nat.le_of_eq (Nat.zero_add _)) (Nat.le_of_eq (Nat.zero_add _)) ⟨rfl, rfl, rfl⟩

set_option maxHeartbeats 4000000 in
set_option maxRecDepth 100000 in
theorem w_fault_9 {l : Launch} (hl : l.stackTraces = false) {D : va_G} {cA : Nat → ClassId} {b n n1 xo mc ms : Nat} {h h1 : AH} {fs : List Value} (a0 : Int32) (a1 : Int32) (hxn : xo < n) (hxo : h xo = .inr (0, fs)) (hX : Cn l D cA b y_X_fault k_X_fault 7 96 mc ms [.ref xo, .int a0, .int a1] n h (Tx 9 n1 h1)) : Cn l D cA b y_L_fault k_L_fault 8 111 mc ms [.ref xo, .int a0, .int a1] n h (Re (some (.int 2)) n1 h1) := by
  refine Cn.of (cc := b_L_fault) (maxL := 4) (ret := (some .int)) (hh := [(0, 6, 9, 13), (0, 6, 12, 27)]) (by decide +kernel) hl (Or.inr rfl) (Nat.le_of_ble_eq_true rfl) ?_
  intro p e s m args below meth c C
  refine j_aload_n C d_L_fault_0 rfl rfl ?_
  refine j_iload_n C d_L_fault_1 rfl rfl ?_
  refine j_iload_n C d_L_fault_2 rfl rfl ?_
  refine j_callV C d_L_fault_3 ml_L_58 mc_X_fault in_X_fault rfl se_X_fault hxn hxo hX rfl rfl (Nat.le_of_ble_eq_true rfl) (Nat.le_of_ble_eq_true rfl) (Nat.le_of_eq (Nat.zero_add _)) (Nat.le_of_eq (Nat.zero_add _)) (jk_c C (E := cR9) rfl [⟨0, 6, 9, 13⟩] ⟨0, 6, 12, 27⟩ [] rfl (List.forall_mem_cons.mpr ⟨Or.inr ⟨by decide, _, cl_L_13, by decide +kernel⟩, (fun z hz => nomatch hz)⟩) (by decide) (by decide) cl_L_27 ca_9 (fun q => ?_))
  refine j_astore_n C d_L_fault_12 rfl (by decide) rfl ?_
  refine j_iconst (v := 2) C d_L_fault_13 (by decide) ?_
  exact j_ireturn C d_L_fault_14 rfl (Nat.le_of_eq (Nat.zero_add _)) (Nat.le_of_eq (Nat.zero_add _)) ⟨rfl, rfl, rfl⟩

set_option maxHeartbeats 4000000 in
set_option maxRecDepth 100000 in
theorem w_fault_r {l : Launch} (hl : l.stackTraces = false) {D : va_G} {cA : Nat → ClassId} {b n n1 xo mc ms : Nat} {h h1 : AH} {fs : List Value} (a0 : Int32) (a1 : Int32) (hxn : xo < n) (hxo : h xo = .inr (0, fs)) (hX : Cn l D cA b y_X_fault k_X_fault 7 96 mc ms [.ref xo, .int a0, .int a1] n h (Re none n1 h1)) : Cn l D cA b y_L_fault k_L_fault 8 111 mc ms [.ref xo, .int a0, .int a1] n h (Re (some (.int 0)) n1 h1) := by
  refine Cn.of (cc := b_L_fault) (maxL := 4) (ret := (some .int)) (hh := [(0, 6, 9, 13), (0, 6, 12, 27)]) (by decide +kernel) hl (Or.inr rfl) (Nat.le_of_ble_eq_true rfl) ?_
  intro p e s m args below meth c C
  refine j_aload_n C d_L_fault_0 rfl rfl ?_
  refine j_iload_n C d_L_fault_1 rfl rfl ?_
  refine j_iload_n C d_L_fault_2 rfl rfl ?_
  refine j_callV C d_L_fault_3 ml_L_58 mc_X_fault in_X_fault rfl se_X_fault hxn hxo hX rfl rfl (Nat.le_of_ble_eq_true rfl) (Nat.le_of_ble_eq_true rfl) (Nat.le_of_eq (Nat.zero_add _)) (Nat.le_of_eq (Nat.zero_add _)) (jk_v ?_)
  refine j_goto (tgt := 15) C d_L_fault_6 (by decide) ?_
  refine j_iconst (v := 0) C d_L_fault_15 (by decide) ?_
  exact j_ireturn C d_L_fault_16 rfl (Nat.le_of_eq (Nat.zero_add _)) (Nat.le_of_eq (Nat.zero_add _)) ⟨rfl, rfl, rfl⟩

set_option maxHeartbeats 4000000 in
set_option maxRecDepth 100000 in
theorem w_hide_7 {l : Launch} (hl : l.stackTraces = false) {D : va_G} {cA : Nat → ClassId} {b n n1 xo mc ms : Nat} {h h1 : AH} {fs : List Value} (a0 : Int32) (a1 : Int32) (a2 : Int32) (hxn : xo < n) (hxo : h xo = .inr (0, fs)) (hX : Cn l D cA b y_X_hide k_X_hide 7 94 mc ms [.ref xo, .int a0, .int a1, .int a2] n h (Tx 7 n1 h1)) : Cn l D cA b y_L_hide k_L_hide 8 109 mc ms [.ref xo, .int a0, .int a1, .int a2] n h (Re (some (.int 1)) n1 h1) := by
  refine Cn.of (cc := b_L_hide) (maxL := 5) (ret := (some .int)) (hh := [(0, 7, 10, 13)]) (by decide +kernel) hl (Or.inr rfl) (Nat.le_of_ble_eq_true rfl) ?_
  intro p e s m args below meth c C
  refine j_aload_n C d_L_hide_0 rfl rfl ?_
  refine j_iload_n C d_L_hide_1 rfl rfl ?_
  refine j_iload_n C d_L_hide_2 rfl rfl ?_
  refine j_iload_n C d_L_hide_3 rfl rfl ?_
  refine j_callV C d_L_hide_4 ml_L_61 mc_X_hide in_X_hide rfl se_X_hide hxn hxo hX rfl rfl (Nat.le_of_ble_eq_true rfl) (Nat.le_of_ble_eq_true rfl) (Nat.le_of_eq (Nat.zero_add _)) (Nat.le_of_eq (Nat.zero_add _)) (jk_c C (E := cR7) rfl [] ⟨0, 7, 10, 13⟩ [] rfl (fun z hz => nomatch hz) (by decide) (by decide) cl_L_13 ca_7 (fun q => ?_))
  refine j_astore C d_L_hide_10 (by decide) rfl ?_
  refine j_iconst (v := 1) C d_L_hide_12 (by decide) ?_
  exact j_ireturn C d_L_hide_13 rfl (Nat.le_of_eq (Nat.zero_add _)) (Nat.le_of_eq (Nat.zero_add _)) ⟨rfl, rfl, rfl⟩

set_option maxHeartbeats 4000000 in
set_option maxRecDepth 100000 in
theorem w_hide_r {l : Launch} (hl : l.stackTraces = false) {D : va_G} {cA : Nat → ClassId} {b n n1 xo mc ms : Nat} {h h1 : AH} {fs : List Value} (a0 : Int32) (a1 : Int32) (a2 : Int32) (hxn : xo < n) (hxo : h xo = .inr (0, fs)) (hX : Cn l D cA b y_X_hide k_X_hide 7 94 mc ms [.ref xo, .int a0, .int a1, .int a2] n h (Re none n1 h1)) : Cn l D cA b y_L_hide k_L_hide 8 109 mc ms [.ref xo, .int a0, .int a1, .int a2] n h (Re (some (.int 0)) n1 h1) := by
  refine Cn.of (cc := b_L_hide) (maxL := 5) (ret := (some .int)) (hh := [(0, 7, 10, 13)]) (by decide +kernel) hl (Or.inr rfl) (Nat.le_of_ble_eq_true rfl) ?_
  intro p e s m args below meth c C
  refine j_aload_n C d_L_hide_0 rfl rfl ?_
  refine j_iload_n C d_L_hide_1 rfl rfl ?_
  refine j_iload_n C d_L_hide_2 rfl rfl ?_
  refine j_iload_n C d_L_hide_3 rfl rfl ?_
  refine j_callV C d_L_hide_4 ml_L_61 mc_X_hide in_X_hide rfl se_X_hide hxn hxo hX rfl rfl (Nat.le_of_ble_eq_true rfl) (Nat.le_of_ble_eq_true rfl) (Nat.le_of_eq (Nat.zero_add _)) (Nat.le_of_eq (Nat.zero_add _)) (jk_v ?_)
  refine j_goto (tgt := 14) C d_L_hide_7 (by decide) ?_
  refine j_iconst (v := 0) C d_L_hide_14 (by decide) ?_
  exact j_ireturn C d_L_hide_15 rfl (Nat.le_of_eq (Nat.zero_add _)) (Nat.le_of_eq (Nat.zero_add _)) ⟨rfl, rfl, rfl⟩

set_option maxHeartbeats 4000000 in
set_option maxRecDepth 100000 in
theorem w_code_7 {l : Launch} (hl : l.stackTraces = false) {D : va_G} {cA : Nat → ClassId} {b n n1 xo oo mc ms : Nat} {h h1 : AH} {fs : List Value} (a0 : Int32) (a1 : Int32) (hxn : xo < n) (hxo : h xo = .inr (0, fs)) (hX : Cn l D cA b y_X_code k_X_code 7 96 mc ms [.ref xo, .int a0, .int a1] n h (Tx 7 n1 h1)) : Cn l D cA b y_L_code k_L_code 8 113 mc ms [.ref xo, .int a0, .int a1, .ref oo] n h (Re (some (.int 1)) n1 h1) := by
  refine Cn.of (cc := b_L_code) (maxL := 5) (ret := (some .int)) (hh := [(0, 10, 13, 13)]) (by decide +kernel) hl (Or.inr rfl) (Nat.le_of_ble_eq_true rfl) ?_
  intro p e s m args below meth c C
  refine j_aload_n C d_L_code_0 rfl rfl ?_
  refine j_iconst (v := 0) C d_L_code_1 (by decide) ?_
  refine j_aload_n C d_L_code_2 rfl rfl ?_
  refine j_iload_n C d_L_code_3 rfl rfl ?_
  refine j_iload_n C d_L_code_4 rfl rfl ?_
  refine j_callV C d_L_code_5 ml_L_64 mc_X_code in_X_code rfl se_X_code hxn hxo hX rfl rfl (Nat.le_of_ble_eq_true rfl) (Nat.le_of_ble_eq_true rfl) (Nat.le_of_eq (Nat.zero_add _)) (Nat.le_of_eq (Nat.zero_add _)) (jk_c C (E := cR7) rfl [] ⟨0, 10, 13, 13⟩ [] rfl (fun z hz => nomatch hz) (by decide) (by decide) cl_L_13 ca_7 (fun q => ?_))
  refine j_astore C d_L_code_13 (by decide) rfl ?_
  refine j_iconst (v := 1) C d_L_code_15 (by decide) ?_
  exact j_ireturn C d_L_code_16 rfl (Nat.le_of_eq (Nat.zero_add _)) (Nat.le_of_eq (Nat.zero_add _)) ⟨rfl, rfl, rfl⟩

set_option maxHeartbeats 4000000 in
set_option maxRecDepth 100000 in
theorem w_code_r {l : Launch} (hl : l.stackTraces = false) {D : va_G} {cA : Nat → ClassId} {b n n1 xo oo mc ms : Nat} {h h1 : AH} {fs : List Value} (a0 : Int32) (a1 : Int32) {z : Int32} {f : Nat → Int64} (hxn : xo < n) (hxo : h xo = .inr (0, fs)) (hX : Cn l D cA b y_X_code k_X_code 7 96 mc ms [.ref xo, .int a0, .int a1] n h (Re (some (.int z)) n1 h1)) (hoo : oo < n1) (hout : h1 oo = .inl (4, 1, .inr (.inl f))) : Cn l D cA b y_L_code k_L_code 8 113 mc ms [.ref xo, .int a0, .int a1, .ref oo] n h (Re (some (.int 0)) n1 (hu h1 oo (.inl (4, 1, .inr (.inl (vp_updL f (0 : Int32).toNatClampNeg z.toInt64)))))) := by
  refine Cn.of (cc := b_L_code) (maxL := 5) (ret := (some .int)) (hh := [(0, 10, 13, 13)]) (by decide +kernel) hl (Or.inr rfl) (Nat.le_of_ble_eq_true rfl) ?_
  intro p e s m args below meth c C
  refine j_aload_n C d_L_code_0 rfl rfl ?_
  refine j_iconst (v := 0) C d_L_code_1 (by decide) ?_
  refine j_aload_n C d_L_code_2 rfl rfl ?_
  refine j_iload_n C d_L_code_3 rfl rfl ?_
  refine j_iload_n C d_L_code_4 rfl rfl ?_
  refine j_callV C d_L_code_5 ml_L_64 mc_X_code in_X_code rfl se_X_code hxn hxo hX rfl rfl (Nat.le_of_ble_eq_true rfl) (Nat.le_of_ble_eq_true rfl) (Nat.le_of_eq (Nat.zero_add _)) (Nat.le_of_eq (Nat.zero_add _)) (jk_r ?_)
  refine j_i2l C d_L_code_8 rfl ?_
  refine j_last (t := 4) (N := 1) C d_L_code_9 rfl hoo hout (vp_in_nI (n := 0) (by omega) (by omega)) rfl ?_
  refine j_goto (tgt := 17) C d_L_code_10 (by decide) ?_
  refine j_iconst (v := 0) C d_L_code_17 (by decide) ?_
  exact j_ireturn C d_L_code_18 rfl (Nat.le_of_eq (Nat.zero_add _)) (Nat.le_of_eq (Nat.zero_add _)) ⟨rfl, rfl, rfl⟩

set_option maxHeartbeats 4000000 in
set_option maxRecDepth 100000 in
theorem w_at_8 {l : Launch} (hl : l.stackTraces = false) {D : va_G} {cA : Nat → ClassId} {b n n1 xo oo mc ms : Nat} {h h1 : AH} {fs : List Value} (a0 : Int32) (hxn : xo < n) (hxo : h xo = .inr (0, fs)) (hX : Cn l D cA b y_X_at k_X_at 6 82 mc ms [.ref xo, .int a0] n h (Tx 8 n1 h1)) : Cn l D cA b y_L_at k_L_at 7 97 mc ms [.ref xo, .int a0, .ref oo] n h (Re (some (.int 1)) n1 h1) := by
  refine Cn.of (cc := b_L_at) (maxL := 4) (ret := (some .int)) (hh := [(0, 9, 12, 15)]) (by decide +kernel) hl (Or.inr rfl) (Nat.le_of_ble_eq_true rfl) ?_
  intro p e s m args below meth c C
  refine j_aload_n C d_L_at_0 rfl rfl ?_
  refine j_iconst (v := 0) C d_L_at_1 (by decide) ?_
  refine j_aload_n C d_L_at_2 rfl rfl ?_
  refine j_iload_n C d_L_at_3 rfl rfl ?_
  refine j_callV C d_L_at_4 ml_L_67 mc_X_at in_X_at rfl se_X_at hxn hxo hX rfl rfl (Nat.le_of_ble_eq_true rfl) (Nat.le_of_ble_eq_true rfl) (Nat.le_of_eq (Nat.zero_add _)) (Nat.le_of_eq (Nat.zero_add _)) (jk_c C (E := cR8) rfl [] ⟨0, 9, 12, 15⟩ [] rfl (fun z hz => nomatch hz) (by decide) (by decide) cl_L_15 ca_8 (fun q => ?_))
  refine j_astore_n C d_L_at_12 rfl (by decide) rfl ?_
  refine j_iconst (v := 1) C d_L_at_13 (by decide) ?_
  exact j_ireturn C d_L_at_14 rfl (Nat.le_of_eq (Nat.zero_add _)) (Nat.le_of_eq (Nat.zero_add _)) ⟨rfl, rfl, rfl⟩

set_option maxHeartbeats 4000000 in
set_option maxRecDepth 100000 in
theorem w_at_r {l : Launch} (hl : l.stackTraces = false) {D : va_G} {cA : Nat → ClassId} {b n n1 xo oo mc ms : Nat} {h h1 : AH} {fs : List Value} (a0 : Int32) {z : Int32} {f : Nat → Int64} (hxn : xo < n) (hxo : h xo = .inr (0, fs)) (hX : Cn l D cA b y_X_at k_X_at 6 82 mc ms [.ref xo, .int a0] n h (Re (some (.int z)) n1 h1)) (hoo : oo < n1) (hout : h1 oo = .inl (4, 1, .inr (.inl f))) : Cn l D cA b y_L_at k_L_at 7 97 mc ms [.ref xo, .int a0, .ref oo] n h (Re (some (.int 0)) n1 (hu h1 oo (.inl (4, 1, .inr (.inl (vp_updL f (0 : Int32).toNatClampNeg z.toInt64)))))) := by
  refine Cn.of (cc := b_L_at) (maxL := 4) (ret := (some .int)) (hh := [(0, 9, 12, 15)]) (by decide +kernel) hl (Or.inr rfl) (Nat.le_of_ble_eq_true rfl) ?_
  intro p e s m args below meth c C
  refine j_aload_n C d_L_at_0 rfl rfl ?_
  refine j_iconst (v := 0) C d_L_at_1 (by decide) ?_
  refine j_aload_n C d_L_at_2 rfl rfl ?_
  refine j_iload_n C d_L_at_3 rfl rfl ?_
  refine j_callV C d_L_at_4 ml_L_67 mc_X_at in_X_at rfl se_X_at hxn hxo hX rfl rfl (Nat.le_of_ble_eq_true rfl) (Nat.le_of_ble_eq_true rfl) (Nat.le_of_eq (Nat.zero_add _)) (Nat.le_of_eq (Nat.zero_add _)) (jk_r ?_)
  refine j_i2l C d_L_at_7 rfl ?_
  refine j_last (t := 4) (N := 1) C d_L_at_8 rfl hoo hout (vp_in_nI (n := 0) (by omega) (by omega)) rfl ?_
  refine j_goto (tgt := 15) C d_L_at_9 (by decide) ?_
  refine j_iconst (v := 0) C d_L_at_15 (by decide) ?_
  exact j_ireturn C d_L_at_16 rfl (Nat.le_of_eq (Nat.zero_add _)) (Nat.le_of_eq (Nat.zero_add _)) ⟨rfl, rfl, rfl⟩

set_option maxHeartbeats 4000000 in
set_option maxRecDepth 100000 in
theorem w_late_8 {l : Launch} (hl : l.stackTraces = false) {D : va_G} {cA : Nat → ClassId} {b n n1 xo oo mc ms : Nat} {h h1 : AH} {fs : List Value} (a0 : Int32) (a1 : Int32) (hxn : xo < n) (hxo : h xo = .inr (0, fs)) (hX : Cn l D cA b y_X_late k_X_late 6 82 mc ms [.ref xo, .int a0, .int a1] n h (Tx 8 n1 h1)) : Cn l D cA b y_L_late k_L_late 7 101 mc ms [.ref xo, .int a0, .int a1, .ref oo] n h (Re (some (.int 1)) n1 h1) := by
  refine Cn.of (cc := b_L_late) (maxL := 5) (ret := (some .int)) (hh := [(0, 10, 13, 15)]) (by decide +kernel) hl (Or.inr rfl) (Nat.le_of_ble_eq_true rfl) ?_
  intro p e s m args below meth c C
  refine j_aload_n C d_L_late_0 rfl rfl ?_
  refine j_iconst (v := 0) C d_L_late_1 (by decide) ?_
  refine j_aload_n C d_L_late_2 rfl rfl ?_
  refine j_iload_n C d_L_late_3 rfl rfl ?_
  refine j_iload_n C d_L_late_4 rfl rfl ?_
  refine j_callV C d_L_late_5 ml_L_70 mc_X_late in_X_late rfl se_X_late hxn hxo hX rfl rfl (Nat.le_of_ble_eq_true rfl) (Nat.le_of_ble_eq_true rfl) (Nat.le_of_eq (Nat.zero_add _)) (Nat.le_of_eq (Nat.zero_add _)) (jk_c C (E := cR8) rfl [] ⟨0, 10, 13, 15⟩ [] rfl (fun z hz => nomatch hz) (by decide) (by decide) cl_L_15 ca_8 (fun q => ?_))
  refine j_astore C d_L_late_13 (by decide) rfl ?_
  refine j_iconst (v := 1) C d_L_late_15 (by decide) ?_
  exact j_ireturn C d_L_late_16 rfl (Nat.le_of_eq (Nat.zero_add _)) (Nat.le_of_eq (Nat.zero_add _)) ⟨rfl, rfl, rfl⟩

set_option maxHeartbeats 4000000 in
set_option maxRecDepth 100000 in
theorem w_late_r {l : Launch} (hl : l.stackTraces = false) {D : va_G} {cA : Nat → ClassId} {b n n1 xo oo mc ms : Nat} {h h1 : AH} {fs : List Value} (a0 : Int32) (a1 : Int32) {z : Int32} {f : Nat → Int64} (hxn : xo < n) (hxo : h xo = .inr (0, fs)) (hX : Cn l D cA b y_X_late k_X_late 6 82 mc ms [.ref xo, .int a0, .int a1] n h (Re (some (.int z)) n1 h1)) (hoo : oo < n1) (hout : h1 oo = .inl (4, 1, .inr (.inl f))) : Cn l D cA b y_L_late k_L_late 7 101 mc ms [.ref xo, .int a0, .int a1, .ref oo] n h (Re (some (.int 0)) n1 (hu h1 oo (.inl (4, 1, .inr (.inl (vp_updL f (0 : Int32).toNatClampNeg z.toInt64)))))) := by
  refine Cn.of (cc := b_L_late) (maxL := 5) (ret := (some .int)) (hh := [(0, 10, 13, 15)]) (by decide +kernel) hl (Or.inr rfl) (Nat.le_of_ble_eq_true rfl) ?_
  intro p e s m args below meth c C
  refine j_aload_n C d_L_late_0 rfl rfl ?_
  refine j_iconst (v := 0) C d_L_late_1 (by decide) ?_
  refine j_aload_n C d_L_late_2 rfl rfl ?_
  refine j_iload_n C d_L_late_3 rfl rfl ?_
  refine j_iload_n C d_L_late_4 rfl rfl ?_
  refine j_callV C d_L_late_5 ml_L_70 mc_X_late in_X_late rfl se_X_late hxn hxo hX rfl rfl (Nat.le_of_ble_eq_true rfl) (Nat.le_of_ble_eq_true rfl) (Nat.le_of_eq (Nat.zero_add _)) (Nat.le_of_eq (Nat.zero_add _)) (jk_r ?_)
  refine j_i2l C d_L_late_8 rfl ?_
  refine j_last (t := 4) (N := 1) C d_L_late_9 rfl hoo hout (vp_in_nI (n := 0) (by omega) (by omega)) rfl ?_
  refine j_goto (tgt := 17) C d_L_late_10 (by decide) ?_
  refine j_iconst (v := 0) C d_L_late_17 (by decide) ?_
  exact j_ireturn C d_L_late_18 rfl (Nat.le_of_eq (Nat.zero_add _)) (Nat.le_of_eq (Nat.zero_add _)) ⟨rfl, rfl, rfl⟩

set_option maxHeartbeats 4000000 in
set_option maxRecDepth 100000 in
theorem w_count_7 {l : Launch} (hl : l.stackTraces = false) {D : va_G} {cA : Nat → ClassId} {b n n1 xo oo mc ms : Nat} {h h1 : AH} {fs : List Value} (a0 : Int32) (a1 : Int32) (a2 : Int32) (hxn : xo < n) (hxo : h xo = .inr (0, fs)) (hX : Cn l D cA b y_X_count k_X_count 7 94 mc ms [.ref xo, .int a0, .int a1, .int a2] n h (Tx 7 n1 h1)) : Cn l D cA b y_L_count k_L_count 8 114 mc ms [.ref xo, .int a0, .int a1, .int a2, .ref oo] n h (Re (some (.int 1)) n1 h1) := by
  refine Cn.of (cc := b_L_count) (maxL := 6) (ret := (some .int)) (hh := [(0, 12, 15, 13), (0, 12, 19, 15)]) (by decide +kernel) hl (Or.inr rfl) (Nat.le_of_ble_eq_true rfl) ?_
  intro p e s m args below meth c C
  refine j_aload C d_L_count_0 rfl ?_
  refine j_iconst (v := 0) C d_L_count_2 (by decide) ?_
  refine j_aload_n C d_L_count_3 rfl rfl ?_
  refine j_iload_n C d_L_count_4 rfl rfl ?_
  refine j_iload_n C d_L_count_5 rfl rfl ?_
  refine j_iload_n C d_L_count_6 rfl rfl ?_
  refine j_callV C d_L_count_7 ml_L_73 mc_X_count in_X_count rfl se_X_count hxn hxo hX rfl rfl (Nat.le_of_ble_eq_true rfl) (Nat.le_of_ble_eq_true rfl) (Nat.le_of_eq (Nat.zero_add _)) (Nat.le_of_eq (Nat.zero_add _)) (jk_c C (E := cR7) rfl [] ⟨0, 12, 15, 13⟩ [⟨0, 12, 19, 15⟩] rfl (fun z hz => nomatch hz) (by decide) (by decide) cl_L_13 ca_7 (fun q => ?_))
  refine j_astore C d_L_count_15 (by decide) rfl ?_
  refine j_iconst (v := 1) C d_L_count_17 (by decide) ?_
  exact j_ireturn C d_L_count_18 rfl (Nat.le_of_eq (Nat.zero_add _)) (Nat.le_of_eq (Nat.zero_add _)) ⟨rfl, rfl, rfl⟩

set_option maxHeartbeats 4000000 in
set_option maxRecDepth 100000 in
theorem w_count_8 {l : Launch} (hl : l.stackTraces = false) {D : va_G} {cA : Nat → ClassId} {b n n1 xo oo mc ms : Nat} {h h1 : AH} {fs : List Value} (a0 : Int32) (a1 : Int32) (a2 : Int32) (hxn : xo < n) (hxo : h xo = .inr (0, fs)) (hX : Cn l D cA b y_X_count k_X_count 7 94 mc ms [.ref xo, .int a0, .int a1, .int a2] n h (Tx 8 n1 h1)) : Cn l D cA b y_L_count k_L_count 8 114 mc ms [.ref xo, .int a0, .int a1, .int a2, .ref oo] n h (Re (some (.int 2)) n1 h1) := by
  refine Cn.of (cc := b_L_count) (maxL := 6) (ret := (some .int)) (hh := [(0, 12, 15, 13), (0, 12, 19, 15)]) (by decide +kernel) hl (Or.inr rfl) (Nat.le_of_ble_eq_true rfl) ?_
  intro p e s m args below meth c C
  refine j_aload C d_L_count_0 rfl ?_
  refine j_iconst (v := 0) C d_L_count_2 (by decide) ?_
  refine j_aload_n C d_L_count_3 rfl rfl ?_
  refine j_iload_n C d_L_count_4 rfl rfl ?_
  refine j_iload_n C d_L_count_5 rfl rfl ?_
  refine j_iload_n C d_L_count_6 rfl rfl ?_
  refine j_callV C d_L_count_7 ml_L_73 mc_X_count in_X_count rfl se_X_count hxn hxo hX rfl rfl (Nat.le_of_ble_eq_true rfl) (Nat.le_of_ble_eq_true rfl) (Nat.le_of_eq (Nat.zero_add _)) (Nat.le_of_eq (Nat.zero_add _)) (jk_c C (E := cR8) rfl [⟨0, 12, 15, 13⟩] ⟨0, 12, 19, 15⟩ [] rfl (List.forall_mem_cons.mpr ⟨Or.inr ⟨by decide, _, cl_L_13, by decide +kernel⟩, (fun z hz => nomatch hz)⟩) (by decide) (by decide) cl_L_15 ca_8 (fun q => ?_))
  refine j_astore C d_L_count_19 (by decide) rfl ?_
  refine j_iconst (v := 2) C d_L_count_21 (by decide) ?_
  exact j_ireturn C d_L_count_22 rfl (Nat.le_of_eq (Nat.zero_add _)) (Nat.le_of_eq (Nat.zero_add _)) ⟨rfl, rfl, rfl⟩

set_option maxHeartbeats 4000000 in
set_option maxRecDepth 100000 in
theorem w_count_r {l : Launch} (hl : l.stackTraces = false) {D : va_G} {cA : Nat → ClassId} {b n n1 xo oo mc ms : Nat} {h h1 : AH} {fs : List Value} (a0 : Int32) (a1 : Int32) (a2 : Int32) {z : Int32} {f : Nat → Int64} (hxn : xo < n) (hxo : h xo = .inr (0, fs)) (hX : Cn l D cA b y_X_count k_X_count 7 94 mc ms [.ref xo, .int a0, .int a1, .int a2] n h (Re (some (.int z)) n1 h1)) (hoo : oo < n1) (hout : h1 oo = .inl (4, 1, .inr (.inl f))) : Cn l D cA b y_L_count k_L_count 8 114 mc ms [.ref xo, .int a0, .int a1, .int a2, .ref oo] n h (Re (some (.int 0)) n1 (hu h1 oo (.inl (4, 1, .inr (.inl (vp_updL f (0 : Int32).toNatClampNeg z.toInt64)))))) := by
  refine Cn.of (cc := b_L_count) (maxL := 6) (ret := (some .int)) (hh := [(0, 12, 15, 13), (0, 12, 19, 15)]) (by decide +kernel) hl (Or.inr rfl) (Nat.le_of_ble_eq_true rfl) ?_
  intro p e s m args below meth c C
  refine j_aload C d_L_count_0 rfl ?_
  refine j_iconst (v := 0) C d_L_count_2 (by decide) ?_
  refine j_aload_n C d_L_count_3 rfl rfl ?_
  refine j_iload_n C d_L_count_4 rfl rfl ?_
  refine j_iload_n C d_L_count_5 rfl rfl ?_
  refine j_iload_n C d_L_count_6 rfl rfl ?_
  refine j_callV C d_L_count_7 ml_L_73 mc_X_count in_X_count rfl se_X_count hxn hxo hX rfl rfl (Nat.le_of_ble_eq_true rfl) (Nat.le_of_ble_eq_true rfl) (Nat.le_of_eq (Nat.zero_add _)) (Nat.le_of_eq (Nat.zero_add _)) (jk_r ?_)
  refine j_i2l C d_L_count_10 rfl ?_
  refine j_last (t := 4) (N := 1) C d_L_count_11 rfl hoo hout (vp_in_nI (n := 0) (by omega) (by omega)) rfl ?_
  refine j_goto (tgt := 23) C d_L_count_12 (by decide) ?_
  refine j_iconst (v := 0) C d_L_count_23 (by decide) ?_
  exact j_ireturn C d_L_count_24 rfl (Nat.le_of_eq (Nat.zero_add _)) (Nat.le_of_eq (Nat.zero_add _)) ⟨rfl, rfl, rfl⟩

set_option maxHeartbeats 4000000 in
set_option maxRecDepth 100000 in
theorem w_reportAt_7 {l : Launch} (hl : l.stackTraces = false) {D : va_G} {cA : Nat → ClassId} {b n n1 xo oo mc ms : Nat} {h h1 : AH} {fs : List Value} (a0 : Int32) (a1 : Int32) (hxn : xo < n) (hxo : h xo = .inr (0, fs)) (hX : Cn l D cA b y_X_reportAt k_X_reportAt 7 96 mc ms [.ref xo, .int a0, .int a1] n h (Tx 7 n1 h1)) : Cn l D cA b y_L_reportAt k_L_reportAt 8 113 mc ms [.ref xo, .int a0, .int a1, .ref oo] n h (Re (some (.int 1)) n1 h1) := by
  refine Cn.of (cc := b_L_reportAt) (maxL := 5) (ret := (some .int)) (hh := [(0, 10, 13, 13)]) (by decide +kernel) hl (Or.inr rfl) (Nat.le_of_ble_eq_true rfl) ?_
  intro p e s m args below meth c C
  refine j_aload_n C d_L_reportAt_0 rfl rfl ?_
  refine j_iconst (v := 0) C d_L_reportAt_1 (by decide) ?_
  refine j_aload_n C d_L_reportAt_2 rfl rfl ?_
  refine j_iload_n C d_L_reportAt_3 rfl rfl ?_
  refine j_iload_n C d_L_reportAt_4 rfl rfl ?_
  refine j_callV C d_L_reportAt_5 ml_L_77 mc_X_reportAt in_X_reportAt rfl se_X_reportAt hxn hxo hX rfl rfl (Nat.le_of_ble_eq_true rfl) (Nat.le_of_ble_eq_true rfl) (Nat.le_of_eq (Nat.zero_add _)) (Nat.le_of_eq (Nat.zero_add _)) (jk_c C (E := cR7) rfl [] ⟨0, 10, 13, 13⟩ [] rfl (fun z hz => nomatch hz) (by decide) (by decide) cl_L_13 ca_7 (fun q => ?_))
  refine j_astore C d_L_reportAt_13 (by decide) rfl ?_
  refine j_iconst (v := 1) C d_L_reportAt_15 (by decide) ?_
  exact j_ireturn C d_L_reportAt_16 rfl (Nat.le_of_eq (Nat.zero_add _)) (Nat.le_of_eq (Nat.zero_add _)) ⟨rfl, rfl, rfl⟩

set_option maxHeartbeats 4000000 in
set_option maxRecDepth 100000 in
theorem w_reportAt_r {l : Launch} (hl : l.stackTraces = false) {D : va_G} {cA : Nat → ClassId} {b n n1 xo oo mc ms : Nat} {h h1 : AH} {fs : List Value} (a0 : Int32) (a1 : Int32) {z : Int32} {f : Nat → Int64} (hxn : xo < n) (hxo : h xo = .inr (0, fs)) (hX : Cn l D cA b y_X_reportAt k_X_reportAt 7 96 mc ms [.ref xo, .int a0, .int a1] n h (Re (some (.int z)) n1 h1)) (hoo : oo < n1) (hout : h1 oo = .inl (4, 1, .inr (.inl f))) : Cn l D cA b y_L_reportAt k_L_reportAt 8 113 mc ms [.ref xo, .int a0, .int a1, .ref oo] n h (Re (some (.int 0)) n1 (hu h1 oo (.inl (4, 1, .inr (.inl (vp_updL f (0 : Int32).toNatClampNeg z.toInt64)))))) := by
  refine Cn.of (cc := b_L_reportAt) (maxL := 5) (ret := (some .int)) (hh := [(0, 10, 13, 13)]) (by decide +kernel) hl (Or.inr rfl) (Nat.le_of_ble_eq_true rfl) ?_
  intro p e s m args below meth c C
  refine j_aload_n C d_L_reportAt_0 rfl rfl ?_
  refine j_iconst (v := 0) C d_L_reportAt_1 (by decide) ?_
  refine j_aload_n C d_L_reportAt_2 rfl rfl ?_
  refine j_iload_n C d_L_reportAt_3 rfl rfl ?_
  refine j_iload_n C d_L_reportAt_4 rfl rfl ?_
  refine j_callV C d_L_reportAt_5 ml_L_77 mc_X_reportAt in_X_reportAt rfl se_X_reportAt hxn hxo hX rfl rfl (Nat.le_of_ble_eq_true rfl) (Nat.le_of_ble_eq_true rfl) (Nat.le_of_eq (Nat.zero_add _)) (Nat.le_of_eq (Nat.zero_add _)) (jk_r ?_)
  refine j_i2l C d_L_reportAt_8 rfl ?_
  refine j_last (t := 4) (N := 1) C d_L_reportAt_9 rfl hoo hout (vp_in_nI (n := 0) (by omega) (by omega)) rfl ?_
  refine j_goto (tgt := 17) C d_L_reportAt_10 (by decide) ?_
  refine j_iconst (v := 0) C d_L_reportAt_17 (by decide) ?_
  exact j_ireturn C d_L_reportAt_18 rfl (Nat.le_of_eq (Nat.zero_add _)) (Nat.le_of_eq (Nat.zero_add _)) ⟨rfl, rfl, rfl⟩

set_option maxHeartbeats 4000000 in
set_option maxRecDepth 100000 in
theorem w_value_7 {l : Launch} (hl : l.stackTraces = false) {D : va_G} {cA : Nat → ClassId} {b n n1 xo oo mc ms : Nat} {h h1 : AH} {fs : List Value} (a0 : Int32) (a1 : Int32) (hxn : xo < n) (hxo : h xo = .inr (0, fs)) (hX : Cn l D cA b y_X_value k_X_value 7 96 mc ms [.ref xo, .int a0, .int a1] n h (Tx 7 n1 h1)) : Cn l D cA b y_L_value k_L_value 8 113 mc ms [.ref xo, .int a0, .int a1, .ref oo] n h (Re (some (.int 1)) n1 h1) := by
  refine Cn.of (cc := b_L_value) (maxL := 5) (ret := (some .int)) (hh := [(0, 10, 13, 13), (0, 10, 17, 27)]) (by decide +kernel) hl (Or.inr rfl) (Nat.le_of_ble_eq_true rfl) ?_
  intro p e s m args below meth c C
  refine j_aload_n C d_L_value_0 rfl rfl ?_
  refine j_iconst (v := 0) C d_L_value_1 (by decide) ?_
  refine j_aload_n C d_L_value_2 rfl rfl ?_
  refine j_iload_n C d_L_value_3 rfl rfl ?_
  refine j_iload_n C d_L_value_4 rfl rfl ?_
  refine j_callV C d_L_value_5 ml_L_80 mc_X_value in_X_value rfl se_X_value hxn hxo hX rfl rfl (Nat.le_of_ble_eq_true rfl) (Nat.le_of_ble_eq_true rfl) (Nat.le_of_eq (Nat.zero_add _)) (Nat.le_of_eq (Nat.zero_add _)) (jk_c C (E := cR7) rfl [] ⟨0, 10, 13, 13⟩ [⟨0, 10, 17, 27⟩] rfl (fun z hz => nomatch hz) (by decide) (by decide) cl_L_13 ca_7 (fun q => ?_))
  refine j_astore C d_L_value_13 (by decide) rfl ?_
  refine j_iconst (v := 1) C d_L_value_15 (by decide) ?_
  exact j_ireturn C d_L_value_16 rfl (Nat.le_of_eq (Nat.zero_add _)) (Nat.le_of_eq (Nat.zero_add _)) ⟨rfl, rfl, rfl⟩

set_option maxHeartbeats 4000000 in
set_option maxRecDepth 100000 in
theorem w_value_9 {l : Launch} (hl : l.stackTraces = false) {D : va_G} {cA : Nat → ClassId} {b n n1 xo oo mc ms : Nat} {h h1 : AH} {fs : List Value} (a0 : Int32) (a1 : Int32) (hxn : xo < n) (hxo : h xo = .inr (0, fs)) (hX : Cn l D cA b y_X_value k_X_value 7 96 mc ms [.ref xo, .int a0, .int a1] n h (Tx 9 n1 h1)) : Cn l D cA b y_L_value k_L_value 8 113 mc ms [.ref xo, .int a0, .int a1, .ref oo] n h (Re (some (.int 2)) n1 h1) := by
  refine Cn.of (cc := b_L_value) (maxL := 5) (ret := (some .int)) (hh := [(0, 10, 13, 13), (0, 10, 17, 27)]) (by decide +kernel) hl (Or.inr rfl) (Nat.le_of_ble_eq_true rfl) ?_
  intro p e s m args below meth c C
  refine j_aload_n C d_L_value_0 rfl rfl ?_
  refine j_iconst (v := 0) C d_L_value_1 (by decide) ?_
  refine j_aload_n C d_L_value_2 rfl rfl ?_
  refine j_iload_n C d_L_value_3 rfl rfl ?_
  refine j_iload_n C d_L_value_4 rfl rfl ?_
  refine j_callV C d_L_value_5 ml_L_80 mc_X_value in_X_value rfl se_X_value hxn hxo hX rfl rfl (Nat.le_of_ble_eq_true rfl) (Nat.le_of_ble_eq_true rfl) (Nat.le_of_eq (Nat.zero_add _)) (Nat.le_of_eq (Nat.zero_add _)) (jk_c C (E := cR9) rfl [⟨0, 10, 13, 13⟩] ⟨0, 10, 17, 27⟩ [] rfl (List.forall_mem_cons.mpr ⟨Or.inr ⟨by decide, _, cl_L_13, by decide +kernel⟩, (fun z hz => nomatch hz)⟩) (by decide) (by decide) cl_L_27 ca_9 (fun q => ?_))
  refine j_astore C d_L_value_17 (by decide) rfl ?_
  refine j_iconst (v := 2) C d_L_value_19 (by decide) ?_
  exact j_ireturn C d_L_value_20 rfl (Nat.le_of_eq (Nat.zero_add _)) (Nat.le_of_eq (Nat.zero_add _)) ⟨rfl, rfl, rfl⟩

set_option maxHeartbeats 4000000 in
set_option maxRecDepth 100000 in
theorem w_value_r {l : Launch} (hl : l.stackTraces = false) {D : va_G} {cA : Nat → ClassId} {b n n1 xo oo mc ms : Nat} {h h1 : AH} {fs : List Value} (a0 : Int32) (a1 : Int32) {z : Int32} {f : Nat → Int64} (hxn : xo < n) (hxo : h xo = .inr (0, fs)) (hX : Cn l D cA b y_X_value k_X_value 7 96 mc ms [.ref xo, .int a0, .int a1] n h (Re (some (.int z)) n1 h1)) (hoo : oo < n1) (hout : h1 oo = .inl (4, 1, .inr (.inl f))) : Cn l D cA b y_L_value k_L_value 8 113 mc ms [.ref xo, .int a0, .int a1, .ref oo] n h (Re (some (.int 0)) n1 (hu h1 oo (.inl (4, 1, .inr (.inl (vp_updL f (0 : Int32).toNatClampNeg z.toInt64)))))) := by
  refine Cn.of (cc := b_L_value) (maxL := 5) (ret := (some .int)) (hh := [(0, 10, 13, 13), (0, 10, 17, 27)]) (by decide +kernel) hl (Or.inr rfl) (Nat.le_of_ble_eq_true rfl) ?_
  intro p e s m args below meth c C
  refine j_aload_n C d_L_value_0 rfl rfl ?_
  refine j_iconst (v := 0) C d_L_value_1 (by decide) ?_
  refine j_aload_n C d_L_value_2 rfl rfl ?_
  refine j_iload_n C d_L_value_3 rfl rfl ?_
  refine j_iload_n C d_L_value_4 rfl rfl ?_
  refine j_callV C d_L_value_5 ml_L_80 mc_X_value in_X_value rfl se_X_value hxn hxo hX rfl rfl (Nat.le_of_ble_eq_true rfl) (Nat.le_of_ble_eq_true rfl) (Nat.le_of_eq (Nat.zero_add _)) (Nat.le_of_eq (Nat.zero_add _)) (jk_r ?_)
  refine j_i2l C d_L_value_8 rfl ?_
  refine j_last (t := 4) (N := 1) C d_L_value_9 rfl hoo hout (vp_in_nI (n := 0) (by omega) (by omega)) rfl ?_
  refine j_goto (tgt := 21) C d_L_value_10 (by decide) ?_
  refine j_iconst (v := 0) C d_L_value_21 (by decide) ?_
  exact j_ireturn C d_L_value_22 rfl (Nat.le_of_eq (Nat.zero_add _)) (Nat.le_of_eq (Nat.zero_add _)) ⟨rfl, rfl, rfl⟩

set_option maxHeartbeats 4000000 in
set_option maxRecDepth 100000 in
theorem w_tick_8 {l : Launch} (hl : l.stackTraces = false) {D : va_G} {cA : Nat → ClassId} {b n n1 xo oo mc ms : Nat} {h h1 : AH} {fs : List Value} (a0 : Int32) (hxn : xo < n) (hxo : h xo = .inr (0, fs)) (hX : Cn l D cA b y_X_tick k_X_tick 6 82 mc ms [.ref xo, .int a0] n h (Tx 8 n1 h1)) : Cn l D cA b y_L_tick k_L_tick 7 97 mc ms [.ref xo, .int a0, .ref oo] n h (Re (some (.int 1)) n1 h1) := by
  refine Cn.of (cc := b_L_tick) (maxL := 4) (ret := (some .int)) (hh := [(0, 9, 12, 15)]) (by decide +kernel) hl (Or.inr rfl) (Nat.le_of_ble_eq_true rfl) ?_
  intro p e s m args below meth c C
  refine j_aload_n C d_L_tick_0 rfl rfl ?_
  refine j_iconst (v := 0) C d_L_tick_1 (by decide) ?_
  refine j_aload_n C d_L_tick_2 rfl rfl ?_
  refine j_iload_n C d_L_tick_3 rfl rfl ?_
  refine j_callV C d_L_tick_4 ml_L_83 mc_X_tick in_X_tick rfl se_X_tick hxn hxo hX rfl rfl (Nat.le_of_ble_eq_true rfl) (Nat.le_of_ble_eq_true rfl) (Nat.le_of_eq (Nat.zero_add _)) (Nat.le_of_eq (Nat.zero_add _)) (jk_c C (E := cR8) rfl [] ⟨0, 9, 12, 15⟩ [] rfl (fun z hz => nomatch hz) (by decide) (by decide) cl_L_15 ca_8 (fun q => ?_))
  refine j_astore_n C d_L_tick_12 rfl (by decide) rfl ?_
  refine j_iconst (v := 1) C d_L_tick_13 (by decide) ?_
  exact j_ireturn C d_L_tick_14 rfl (Nat.le_of_eq (Nat.zero_add _)) (Nat.le_of_eq (Nat.zero_add _)) ⟨rfl, rfl, rfl⟩

set_option maxHeartbeats 4000000 in
set_option maxRecDepth 100000 in
theorem w_tick_r {l : Launch} (hl : l.stackTraces = false) {D : va_G} {cA : Nat → ClassId} {b n n1 xo oo mc ms : Nat} {h h1 : AH} {fs : List Value} (a0 : Int32) {z : Int32} {f : Nat → Int64} (hxn : xo < n) (hxo : h xo = .inr (0, fs)) (hX : Cn l D cA b y_X_tick k_X_tick 6 82 mc ms [.ref xo, .int a0] n h (Re (some (.int z)) n1 h1)) (hoo : oo < n1) (hout : h1 oo = .inl (4, 1, .inr (.inl f))) : Cn l D cA b y_L_tick k_L_tick 7 97 mc ms [.ref xo, .int a0, .ref oo] n h (Re (some (.int 0)) n1 (hu h1 oo (.inl (4, 1, .inr (.inl (vp_updL f (0 : Int32).toNatClampNeg z.toInt64)))))) := by
  refine Cn.of (cc := b_L_tick) (maxL := 4) (ret := (some .int)) (hh := [(0, 9, 12, 15)]) (by decide +kernel) hl (Or.inr rfl) (Nat.le_of_ble_eq_true rfl) ?_
  intro p e s m args below meth c C
  refine j_aload_n C d_L_tick_0 rfl rfl ?_
  refine j_iconst (v := 0) C d_L_tick_1 (by decide) ?_
  refine j_aload_n C d_L_tick_2 rfl rfl ?_
  refine j_iload_n C d_L_tick_3 rfl rfl ?_
  refine j_callV C d_L_tick_4 ml_L_83 mc_X_tick in_X_tick rfl se_X_tick hxn hxo hX rfl rfl (Nat.le_of_ble_eq_true rfl) (Nat.le_of_ble_eq_true rfl) (Nat.le_of_eq (Nat.zero_add _)) (Nat.le_of_eq (Nat.zero_add _)) (jk_r ?_)
  refine j_i2l C d_L_tick_7 rfl ?_
  refine j_last (t := 4) (N := 1) C d_L_tick_8 rfl hoo hout (vp_in_nI (n := 0) (by omega) (by omega)) rfl ?_
  refine j_goto (tgt := 15) C d_L_tick_9 (by decide) ?_
  refine j_iconst (v := 0) C d_L_tick_15 (by decide) ?_
  exact j_ireturn C d_L_tick_16 rfl (Nat.le_of_eq (Nat.zero_add _)) (Nat.le_of_eq (Nat.zero_add _)) ⟨rfl, rfl, rfl⟩

