/-! ===== the law's cases on a fresh object: printed by program ===== -/
set_option maxHeartbeats 4000000 in
set_option maxRecDepth 100000 in
theorem lc_report_t7 {p : Program} {l : Launch} {e : Env} {R : Room} {s : State} {m : MethodId} {args : Array Value} {below : List Frame} {meth : Method} {c : Code} {D : va_G} {cA : Nat → ClassId} {b : Nat} {Q : State → Prop} {n : Nat} {h : AH} {kc ks xo mo oo sc q len : Nat} {xs : Nat → Int32} {f : Nat → Int64} (hl : l.stackTraces = false) (C : Cx p l s m meth c D cA b 7 "ReportChecks2Law" "law" b_L_law (some .boolean) []) (hX : va_X sc len xs s s.heap) (hsc : sc < s.heap.size) (hscb : sc < b) (hlen : len < 2 ^ 31) (hq : q + 3 < len) (hRf : 9 ≤ R.frames) (hRl : 200 ≤ R.locals) (hRc : kc + 4 ≤ R.cells) (hRs : ks + 40 ≤ R.slots) (hd1 : xo + 28 ≤ mo) (hd2 : mo + 28 ≤ oo) (hd3 : oo < n) (hout : h oo = .inl (4, 1, .inr (.inl f))) (kk : ∀ n' h' kc' ks', kc' ≤ kc + 4 → ks' ≤ ks + 40 → J p l e R s m args below meth c D cA b 7 Q n' h' kc' ks' 1468 [(4, .int (nI q)), (3, .ref oo), (2, .ref mo), (1, .ref xo), (0, .retAddr sc)] []) (hk : (xs (q + 2)) < 0 ∨ ¬ (xs (q + 2)) < 5) : J p l e R s m args below meth c D cA b 7 Q n (ovX xo ξ0 β0 ρ0 6 13 (ovM mo σ0 β0 h)) kc ks 136 [(4, .int (nI q)), (3, .ref oo), (2, .ref mo), (1, .ref xo), (0, .retAddr sc)] [] := by
  refine j_aload_n C d_L_law_136 rfl rfl ?_
  refine j_aloadr_n C d_L_law_137 rfl rfl ?_
  refine j_iload C d_L_law_138 rfl ?_
  refine j_iconst (v := 1) C d_L_law_140 (by decide) ?_
  refine j_iadd C d_L_law_141 ?_
  refine j_sld (w := xs (q + 1)) C hX hsc hscb d_L_law_142 (six (k := 1) (by omega) hlen) (sixc (k := 1) (by omega) hlen) ?_
  refine j_aloadr_n C d_L_law_143 rfl rfl ?_
  refine j_iload C d_L_law_144 rfl ?_
  refine j_iconst (v := 2) C d_L_law_146 (by decide) ?_
  refine j_iadd C d_L_law_147 ?_
  refine j_sld (w := xs (q + 2)) C hX hsc hscb d_L_law_148 (six (k := 2) (by omega) hlen) (sixc (k := 2) (by omega) hlen) ?_
  refine j_aload_n C d_L_law_149 rfl rfl ?_
  refine j_callS C d_L_law_150 ml_L_90 mc_L_report st_L_report (w_report_7 hl _ _ (by omega) (ovX_c (o := 0) rfl) (c_X_report_t7 hl _ (show xo + 28 ≤ n by omega) _ _ hk)) rfl rfl (Nat.le_trans (m := 9) (Nat.le_of_ble_eq_true rfl) hRf) (Nat.le_trans (m := 200) (Nat.le_of_ble_eq_true rfl) hRl) (by omega) (by omega) (jk_r ?_)
  refine j_h (lw_eT hd1 (by omega)) ?_
  refine j_istore C d_L_law_153 (by decide) rfl ?_
  refine j_aload_n C d_L_law_155 rfl rfl ?_
  refine j_aloadr_n C d_L_law_156 rfl rfl ?_
  refine j_iload C d_L_law_157 rfl ?_
  refine j_iconst (v := 1) C d_L_law_159 (by decide) ?_
  refine j_iadd C d_L_law_160 ?_
  refine j_sld (w := xs (q + 1)) C hX hsc hscb d_L_law_161 (six (k := 1) (by omega) hlen) (sixc (k := 1) (by omega) hlen) ?_
  refine j_aloadr_n C d_L_law_162 rfl rfl ?_
  refine j_iload C d_L_law_163 rfl ?_
  refine j_iconst (v := 2) C d_L_law_165 (by decide) ?_
  refine j_iadd C d_L_law_166 ?_
  refine j_sld (w := xs (q + 2)) C hX hsc hscb d_L_law_167 (six (k := 2) (by omega) hlen) (sixc (k := 2) (by omega) hlen) ?_
  refine j_callV C d_L_law_168 ml_L_95 mc_M_report in_M_report rfl se_M_report (by omega) (ovM_o _ _ _ _) (c_M_report hl _ _ _ _ _ (by omega) (fun _ => vp_in_nI (n := 0) (by omega) (by omega))) rfl rfl (Nat.le_trans (m := 9) (Nat.le_of_ble_eq_true rfl) hRf) (Nat.le_trans (m := 200) (Nat.le_of_ble_eq_true rfl) hRl) (by omega) (by omega) (jk_r ?_)
  refine j_istore C d_L_law_171 (by decide) rfl ?_
  refine j_aload_n C d_L_law_173 rfl rfl ?_
  refine j_callV C d_L_law_174 ml_L_96 mc_M_thrown in_M_thrown rfl se_M_thrown (by omega) (ovM_o _ _ _ _) (c_M_thrown hl _ _ _ (by omega)) rfl rfl (Nat.le_trans (m := 9) (Nat.le_of_ble_eq_true rfl) hRf) (Nat.le_trans (m := 200) (Nat.le_of_ble_eq_true rfl) hRl) (by omega) (by omega) (jk_r ?_)
  refine j_iload C d_L_law_177 rfl ?_
  refine j_icmp_eq (tgt := 184) C d_L_law_179 (by decide) (fun c179 => ?_) (fun c179 => ?_)
  · refine j_iload C d_L_law_184 rfl ?_
    refine j_if_ne (tgt := 201) C d_L_law_186 (by decide) (fun c186 => ?_) (fun c186 => ?_)
    · refine j_goto (tgt := 1468) C d_L_law_201 (by decide) ?_
      exact j_pick [2, 3, 4, 5, 6] rfl (kk _ _ _ _ (by omega) (by omega))
    · exact absurd c186 (by decide)
  · exact absurd (tr_report_1 σ0 β0 (xs (q + 1)) (xs (q + 2)) hk) c179

set_option maxHeartbeats 4000000 in
set_option maxRecDepth 100000 in
theorem lc_report_t8 {p : Program} {l : Launch} {e : Env} {R : Room} {s : State} {m : MethodId} {args : Array Value} {below : List Frame} {meth : Method} {c : Code} {D : va_G} {cA : Nat → ClassId} {b : Nat} {Q : State → Prop} {n : Nat} {h : AH} {kc ks xo mo oo sc q len : Nat} {xs : Nat → Int32} {f : Nat → Int64} (hl : l.stackTraces = false) (C : Cx p l s m meth c D cA b 7 "ReportChecks2Law" "law" b_L_law (some .boolean) []) (hX : va_X sc len xs s s.heap) (hsc : sc < s.heap.size) (hscb : sc < b) (hlen : len < 2 ^ 31) (hq : q + 3 < len) (hRf : 9 ≤ R.frames) (hRl : 200 ≤ R.locals) (hRc : kc + 4 ≤ R.cells) (hRs : ks + 40 ≤ R.slots) (hd1 : xo + 28 ≤ mo) (hd2 : mo + 28 ≤ oo) (hd3 : oo < n) (hout : h oo = .inl (4, 1, .inr (.inl f))) (kk : ∀ n' h' kc' ks', kc' ≤ kc + 4 → ks' ≤ ks + 40 → J p l e R s m args below meth c D cA b 7 Q n' h' kc' ks' 1468 [(4, .int (nI q)), (3, .ref oo), (2, .ref mo), (1, .ref xo), (0, .retAddr sc)] []) (k0 : ¬ (xs (q + 2)) < 0) (k1 : (xs (q + 2)) < 5) (hi : (xs (q + 1)) < 0 ∨ ¬ (xs (q + 1)) ≤ 9999) : J p l e R s m args below meth c D cA b 7 Q n (ovX xo ξ0 β0 ρ0 6 13 (ovM mo σ0 β0 h)) kc ks 136 [(4, .int (nI q)), (3, .ref oo), (2, .ref mo), (1, .ref xo), (0, .retAddr sc)] [] := by
  refine j_aload_n C d_L_law_136 rfl rfl ?_
  refine j_aloadr_n C d_L_law_137 rfl rfl ?_
  refine j_iload C d_L_law_138 rfl ?_
  refine j_iconst (v := 1) C d_L_law_140 (by decide) ?_
  refine j_iadd C d_L_law_141 ?_
  refine j_sld (w := xs (q + 1)) C hX hsc hscb d_L_law_142 (six (k := 1) (by omega) hlen) (sixc (k := 1) (by omega) hlen) ?_
  refine j_aloadr_n C d_L_law_143 rfl rfl ?_
  refine j_iload C d_L_law_144 rfl ?_
  refine j_iconst (v := 2) C d_L_law_146 (by decide) ?_
  refine j_iadd C d_L_law_147 ?_
  refine j_sld (w := xs (q + 2)) C hX hsc hscb d_L_law_148 (six (k := 2) (by omega) hlen) (sixc (k := 2) (by omega) hlen) ?_
  refine j_aload_n C d_L_law_149 rfl rfl ?_
  refine j_callS C d_L_law_150 ml_L_90 mc_L_report st_L_report (w_report_8 hl _ _ (by omega) (ovX_c (o := 0) rfl) (c_X_report_t8 hl _ (show xo + 28 ≤ n by omega) _ _ k0 k1 hi)) rfl rfl (Nat.le_trans (m := 9) (Nat.le_of_ble_eq_true rfl) hRf) (Nat.le_trans (m := 200) (Nat.le_of_ble_eq_true rfl) hRl) (by omega) (by omega) (jk_r ?_)
  refine j_h (lw_eT hd1 (by omega)) ?_
  refine j_istore C d_L_law_153 (by decide) rfl ?_
  refine j_aload_n C d_L_law_155 rfl rfl ?_
  refine j_aloadr_n C d_L_law_156 rfl rfl ?_
  refine j_iload C d_L_law_157 rfl ?_
  refine j_iconst (v := 1) C d_L_law_159 (by decide) ?_
  refine j_iadd C d_L_law_160 ?_
  refine j_sld (w := xs (q + 1)) C hX hsc hscb d_L_law_161 (six (k := 1) (by omega) hlen) (sixc (k := 1) (by omega) hlen) ?_
  refine j_aloadr_n C d_L_law_162 rfl rfl ?_
  refine j_iload C d_L_law_163 rfl ?_
  refine j_iconst (v := 2) C d_L_law_165 (by decide) ?_
  refine j_iadd C d_L_law_166 ?_
  refine j_sld (w := xs (q + 2)) C hX hsc hscb d_L_law_167 (six (k := 2) (by omega) hlen) (sixc (k := 2) (by omega) hlen) ?_
  refine j_callV C d_L_law_168 ml_L_95 mc_M_report in_M_report rfl se_M_report (by omega) (ovM_o _ _ _ _) (c_M_report hl _ _ _ _ _ (by omega) (fun _ => vp_in_nI (n := 0) (by omega) (by omega))) rfl rfl (Nat.le_trans (m := 9) (Nat.le_of_ble_eq_true rfl) hRf) (Nat.le_trans (m := 200) (Nat.le_of_ble_eq_true rfl) hRl) (by omega) (by omega) (jk_r ?_)
  refine j_istore C d_L_law_171 (by decide) rfl ?_
  refine j_aload_n C d_L_law_173 rfl rfl ?_
  refine j_callV C d_L_law_174 ml_L_96 mc_M_thrown in_M_thrown rfl se_M_thrown (by omega) (ovM_o _ _ _ _) (c_M_thrown hl _ _ _ (by omega)) rfl rfl (Nat.le_trans (m := 9) (Nat.le_of_ble_eq_true rfl) hRf) (Nat.le_trans (m := 200) (Nat.le_of_ble_eq_true rfl) hRl) (by omega) (by omega) (jk_r ?_)
  refine j_iload C d_L_law_177 rfl ?_
  refine j_icmp_eq (tgt := 184) C d_L_law_179 (by decide) (fun c179 => ?_) (fun c179 => ?_)
  · refine j_iload C d_L_law_184 rfl ?_
    refine j_if_ne (tgt := 201) C d_L_law_186 (by decide) (fun c186 => ?_) (fun c186 => ?_)
    · refine j_goto (tgt := 1468) C d_L_law_201 (by decide) ?_
      exact j_pick [2, 3, 4, 5, 6] rfl (kk _ _ _ _ (by omega) (by omega))
    · exact absurd c186 (by decide)
  · exact absurd (tr_report_2 σ0 β0 (xs (q + 1)) (xs (q + 2)) k0 k1 hi) c179

set_option maxHeartbeats 4000000 in
set_option maxRecDepth 100000 in
theorem lc_report_r {p : Program} {l : Launch} {e : Env} {R : Room} {s : State} {m : MethodId} {args : Array Value} {below : List Frame} {meth : Method} {c : Code} {D : va_G} {cA : Nat → ClassId} {b : Nat} {Q : State → Prop} {n : Nat} {h : AH} {kc ks xo mo oo sc q len : Nat} {xs : Nat → Int32} {f : Nat → Int64} (hl : l.stackTraces = false) (C : Cx p l s m meth c D cA b 7 "ReportChecks2Law" "law" b_L_law (some .boolean) []) (hX : va_X sc len xs s s.heap) (hsc : sc < s.heap.size) (hscb : sc < b) (hlen : len < 2 ^ 31) (hq : q + 3 < len) (hRf : 9 ≤ R.frames) (hRl : 200 ≤ R.locals) (hRc : kc + 4 ≤ R.cells) (hRs : ks + 40 ≤ R.slots) (hd1 : xo + 28 ≤ mo) (hd2 : mo + 28 ≤ oo) (hd3 : oo < n) (hout : h oo = .inl (4, 1, .inr (.inl f))) (kk : ∀ n' h' kc' ks', kc' ≤ kc + 4 → ks' ≤ ks + 40 → J p l e R s m args below meth c D cA b 7 Q n' h' kc' ks' 1468 [(4, .int (nI q)), (3, .ref oo), (2, .ref mo), (1, .ref xo), (0, .retAddr sc)] []) (k0 : ¬ (xs (q + 2)) < 0) (k1 : (xs (q + 2)) < 5) (i0 : ¬ (xs (q + 1)) < 0) (i1 : (xs (q + 1)) ≤ 9999) : J p l e R s m args below meth c D cA b 7 Q n (ovX xo ξ0 β0 ρ0 6 13 (ovM mo σ0 β0 h)) kc ks 136 [(4, .int (nI q)), (3, .ref oo), (2, .ref mo), (1, .ref xo), (0, .retAddr sc)] [] := by
  refine j_aload_n C d_L_law_136 rfl rfl ?_
  refine j_aloadr_n C d_L_law_137 rfl rfl ?_
  refine j_iload C d_L_law_138 rfl ?_
  refine j_iconst (v := 1) C d_L_law_140 (by decide) ?_
  refine j_iadd C d_L_law_141 ?_
  refine j_sld (w := xs (q + 1)) C hX hsc hscb d_L_law_142 (six (k := 1) (by omega) hlen) (sixc (k := 1) (by omega) hlen) ?_
  refine j_aloadr_n C d_L_law_143 rfl rfl ?_
  refine j_iload C d_L_law_144 rfl ?_
  refine j_iconst (v := 2) C d_L_law_146 (by decide) ?_
  refine j_iadd C d_L_law_147 ?_
  refine j_sld (w := xs (q + 2)) C hX hsc hscb d_L_law_148 (six (k := 2) (by omega) hlen) (sixc (k := 2) (by omega) hlen) ?_
  refine j_aload_n C d_L_law_149 rfl rfl ?_
  refine j_callS C d_L_law_150 ml_L_90 mc_L_report st_L_report (w_report_r hl _ _ (by omega) (ovX_c (o := 0) rfl) (c_X_report_r hl _ (show xo + 28 ≤ n by omega) _ _ k0 k1 i0 i1 (by decide) (vp_in_nI (n := 0) (by omega) (by omega))) (by omega) ((ovX_n (Or.inr (by omega))).trans ((ovL_n (Or.inl (by omega))).trans ((ovM_n (Or.inr (by omega))).trans hout)))) rfl rfl (Nat.le_trans (m := 9) (Nat.le_of_ble_eq_true rfl) hRf) (Nat.le_trans (m := 200) (Nat.le_of_ble_eq_true rfl) hRl) (by omega) (by omega) (jk_r ?_)
  refine j_h (lw_eR hd1 (by omega) (by omega)) ?_
  refine j_istore C d_L_law_153 (by decide) rfl ?_
  refine j_aload_n C d_L_law_155 rfl rfl ?_
  refine j_aloadr_n C d_L_law_156 rfl rfl ?_
  refine j_iload C d_L_law_157 rfl ?_
  refine j_iconst (v := 1) C d_L_law_159 (by decide) ?_
  refine j_iadd C d_L_law_160 ?_
  refine j_sld (w := xs (q + 1)) C hX hsc hscb d_L_law_161 (six (k := 1) (by omega) hlen) (sixc (k := 1) (by omega) hlen) ?_
  refine j_aloadr_n C d_L_law_162 rfl rfl ?_
  refine j_iload C d_L_law_163 rfl ?_
  refine j_iconst (v := 2) C d_L_law_165 (by decide) ?_
  refine j_iadd C d_L_law_166 ?_
  refine j_sld (w := xs (q + 2)) C hX hsc hscb d_L_law_167 (six (k := 2) (by omega) hlen) (sixc (k := 2) (by omega) hlen) ?_
  refine j_callV C d_L_law_168 ml_L_95 mc_M_report in_M_report rfl se_M_report (by omega) (ovM_o _ _ _ _) (c_M_report hl _ _ _ _ _ (by omega) (fun _ => vp_in_nI (n := 0) (by omega) (by omega))) rfl rfl (Nat.le_trans (m := 9) (Nat.le_of_ble_eq_true rfl) hRf) (Nat.le_trans (m := 200) (Nat.le_of_ble_eq_true rfl) hRl) (by omega) (by omega) (jk_r ?_)
  refine j_istore C d_L_law_171 (by decide) rfl ?_
  refine j_aload_n C d_L_law_173 rfl rfl ?_
  refine j_callV C d_L_law_174 ml_L_96 mc_M_thrown in_M_thrown rfl se_M_thrown (by omega) (ovM_o _ _ _ _) (c_M_thrown hl _ _ _ (by omega)) rfl rfl (Nat.le_trans (m := 9) (Nat.le_of_ble_eq_true rfl) hRf) (Nat.le_trans (m := 200) (Nat.le_of_ble_eq_true rfl) hRl) (by omega) (by omega) (jk_r ?_)
  refine j_iload C d_L_law_177 rfl ?_
  refine j_icmp_eq (tgt := 184) C d_L_law_179 (by decide) (fun c179 => ?_) (fun c179 => ?_)
  · refine j_iload C d_L_law_184 rfl ?_
    refine j_if_ne (tgt := 201) C d_L_law_186 (by decide) (fun c186 => ?_) (fun c186 => ?_)
    · exact absurd rfl c186
    · refine j_aload_n C d_L_law_189 rfl rfl ?_
      refine j_iconst (v := 0) C d_L_law_190 (by decide) ?_
      refine j_lald (t := 4) (N := 1) C d_L_law_191 rfl (by omega) ((ovM_n (Or.inr (by omega))).trans (hu_s _ _ _)) (vp_in_nI (n := 0) (by omega) (by omega)) rfl ?_
      refine j_iload C d_L_law_192 rfl ?_
      refine j_i2l C d_L_law_194 rfl ?_
      refine j_lcmp C d_L_law_195 ?_
      refine j_if_eq (tgt := 201) C d_L_law_196 (by decide) (fun c196 => ?_) (fun c196 => ?_)
      · refine j_goto (tgt := 1468) C d_L_law_201 (by decide) ?_
        exact j_pick [2, 3, 4, 5, 6] rfl (kk _ _ _ _ (by omega) (by omega))
      · exact absurd (vpz (show ξ0 0 = _ from (tr_report_0 β0 (xs (q + 1)) (xs (q + 2)) k0 k1 i0 i1).2.symm)) c196
  · exact absurd (tr_report_0 β0 (xs (q + 1)) (xs (q + 2)) k0 k1 i0 i1).1 c179

set_option maxHeartbeats 4000000 in
set_option maxRecDepth 100000 in
theorem lc_ask_a {p : Program} {l : Launch} {e : Env} {R : Room} {s : State} {m : MethodId} {args : Array Value} {below : List Frame} {meth : Method} {c : Code} {D : va_G} {cA : Nat → ClassId} {b : Nat} {Q : State → Prop} {n : Nat} {h : AH} {kc ks xo mo oo sc q len : Nat} {xs : Nat → Int32} {f : Nat → Int64} (hl : l.stackTraces = false) (C : Cx p l s m meth c D cA b 7 "ReportChecks2Law" "law" b_L_law (some .boolean) []) (hX : va_X sc len xs s s.heap) (hsc : sc < s.heap.size) (hscb : sc < b) (hlen : len < 2 ^ 31) (hq : q + 3 < len) (hRf : 9 ≤ R.frames) (hRl : 200 ≤ R.locals) (hRc : kc + 4 ≤ R.cells) (hRs : ks + 40 ≤ R.slots) (hd1 : xo + 28 ≤ mo) (hd2 : mo + 28 ≤ oo) (hd3 : oo < n) (hout : h oo = .inl (4, 1, .inr (.inl f))) (kk : ∀ n' h' kc' ks', kc' ≤ kc + 4 → ks' ≤ ks + 40 → J p l e R s m args below meth c D cA b 7 Q n' h' kc' ks' 1468 [(4, .int (nI q)), (3, .ref oo), (2, .ref mo), (1, .ref xo), (0, .retAddr sc)] []) (hk : (xs (q + 1)) < 0 ∨ ¬ (xs (q + 1)) < 5) : J p l e R s m args below meth c D cA b 7 Q n (ovX xo ξ0 β0 ρ0 6 13 (ovM mo σ0 β0 h)) kc ks 204 [(4, .int (nI q)), (3, .ref oo), (2, .ref mo), (1, .ref xo), (0, .retAddr sc)] [] := by
  refine j_aload_n C d_L_law_204 rfl rfl ?_
  refine j_aloadr_n C d_L_law_205 rfl rfl ?_
  refine j_iload C d_L_law_206 rfl ?_
  refine j_iconst (v := 1) C d_L_law_208 (by decide) ?_
  refine j_iadd C d_L_law_209 ?_
  refine j_sld (w := xs (q + 1)) C hX hsc hscb d_L_law_210 (six (k := 1) (by omega) hlen) (sixc (k := 1) (by omega) hlen) ?_
  refine j_aloadr_n C d_L_law_211 rfl rfl ?_
  refine j_iload C d_L_law_212 rfl ?_
  refine j_iconst (v := 2) C d_L_law_214 (by decide) ?_
  refine j_iadd C d_L_law_215 ?_
  refine j_sld (w := xs (q + 2)) C hX hsc hscb d_L_law_216 (six (k := 2) (by omega) hlen) (sixc (k := 2) (by omega) hlen) ?_
  refine j_aloadr_n C d_L_law_217 rfl rfl ?_
  refine j_iload C d_L_law_218 rfl ?_
  refine j_iconst (v := 3) C d_L_law_220 (by decide) ?_
  refine j_iadd C d_L_law_221 ?_
  refine j_sld (w := xs (q + 3)) C hX hsc hscb d_L_law_222 (six (k := 3) (by omega) hlen) (sixc (k := 3) (by omega) hlen) ?_
  refine j_if_eq (tgt := 230) C d_L_law_223 (by decide) (fun c223 => ?_) (fun c223 => ?_)
  · refine j_iconst (v := 0) C d_L_law_230 (by decide) ?_
    refine j_callS C d_L_law_231 ml_L_99 mc_L_ask st_L_ask (w_ask_7 hl _ _ _ (by omega) (ovX_c (o := 0) rfl) (c_X_ask_a hl _ (show xo + 28 ≤ n by omega) _ _ _ hk)) rfl rfl (Nat.le_trans (m := 9) (Nat.le_of_ble_eq_true rfl) hRf) (Nat.le_trans (m := 200) (Nat.le_of_ble_eq_true rfl) hRl) (by omega) (by omega) (jk_r ?_)
    refine j_h (lw_eT hd1 (by omega)) ?_
    refine j_istore C d_L_law_234 (by decide) rfl ?_
    refine j_aload_n C d_L_law_236 rfl rfl ?_
    refine j_aloadr_n C d_L_law_237 rfl rfl ?_
    refine j_iload C d_L_law_238 rfl ?_
    refine j_iconst (v := 1) C d_L_law_240 (by decide) ?_
    refine j_iadd C d_L_law_241 ?_
    refine j_sld (w := xs (q + 1)) C hX hsc hscb d_L_law_242 (six (k := 1) (by omega) hlen) (sixc (k := 1) (by omega) hlen) ?_
    refine j_aloadr_n C d_L_law_243 rfl rfl ?_
    refine j_iload C d_L_law_244 rfl ?_
    refine j_iconst (v := 2) C d_L_law_246 (by decide) ?_
    refine j_iadd C d_L_law_247 ?_
    refine j_sld (w := xs (q + 2)) C hX hsc hscb d_L_law_248 (six (k := 2) (by omega) hlen) (sixc (k := 2) (by omega) hlen) ?_
    refine j_aloadr_n C d_L_law_249 rfl rfl ?_
    refine j_iload C d_L_law_250 rfl ?_
    refine j_iconst (v := 3) C d_L_law_252 (by decide) ?_
    refine j_iadd C d_L_law_253 ?_
    refine j_sld (w := xs (q + 3)) C hX hsc hscb d_L_law_254 (six (k := 3) (by omega) hlen) (sixc (k := 3) (by omega) hlen) ?_
    refine j_if_eq (tgt := 262) C d_L_law_255 (by decide) (fun c255 => ?_) (fun c255 => ?_)
    · refine j_iconst (v := 0) C d_L_law_262 (by decide) ?_
      refine j_callV C d_L_law_263 ml_L_102 mc_M_ask in_M_ask rfl se_M_ask (by omega) (ovM_o _ _ _ _) (c_M_ask hl _ _ _ _ _ _ (by omega)) rfl rfl (Nat.le_trans (m := 9) (Nat.le_of_ble_eq_true rfl) hRf) (Nat.le_trans (m := 200) (Nat.le_of_ble_eq_true rfl) hRl) (by omega) (by omega) (jk_v ?_)
      refine j_aload_n C d_L_law_266 rfl rfl ?_
      refine j_callV C d_L_law_267 ml_L_96 mc_M_thrown in_M_thrown rfl se_M_thrown (by omega) (ovM_o _ _ _ _) (c_M_thrown hl _ _ _ (by omega)) rfl rfl (Nat.le_trans (m := 9) (Nat.le_of_ble_eq_true rfl) hRf) (Nat.le_trans (m := 200) (Nat.le_of_ble_eq_true rfl) hRl) (by omega) (by omega) (jk_r ?_)
      refine j_iload C d_L_law_270 rfl ?_
      refine j_icmp_eq (tgt := 277) C d_L_law_272 (by decide) (fun c272 => ?_) (fun c272 => ?_)
      · refine j_goto (tgt := 1468) C d_L_law_277 (by decide) ?_
        exact j_pick [1, 2, 3, 4, 5] rfl (kk _ _ _ _ (by omega) (by omega))
      · exact absurd (tr_ask_1 σ0 β0 (xs (q + 1)) (xs (q + 2)) _ hk) c272
    · exact absurd c223 c255
  · refine j_iconst (v := 1) C d_L_law_226 (by decide) ?_
    refine j_goto (tgt := 231) C d_L_law_227 (by decide) ?_
    refine j_callS C d_L_law_231 ml_L_99 mc_L_ask st_L_ask (w_ask_7 hl _ _ _ (by omega) (ovX_c (o := 0) rfl) (c_X_ask_a hl _ (show xo + 28 ≤ n by omega) _ _ _ hk)) rfl rfl (Nat.le_trans (m := 9) (Nat.le_of_ble_eq_true rfl) hRf) (Nat.le_trans (m := 200) (Nat.le_of_ble_eq_true rfl) hRl) (by omega) (by omega) (jk_r ?_)
    refine j_h (lw_eT hd1 (by omega)) ?_
    refine j_istore C d_L_law_234 (by decide) rfl ?_
    refine j_aload_n C d_L_law_236 rfl rfl ?_
    refine j_aloadr_n C d_L_law_237 rfl rfl ?_
    refine j_iload C d_L_law_238 rfl ?_
    refine j_iconst (v := 1) C d_L_law_240 (by decide) ?_
    refine j_iadd C d_L_law_241 ?_
    refine j_sld (w := xs (q + 1)) C hX hsc hscb d_L_law_242 (six (k := 1) (by omega) hlen) (sixc (k := 1) (by omega) hlen) ?_
    refine j_aloadr_n C d_L_law_243 rfl rfl ?_
    refine j_iload C d_L_law_244 rfl ?_
    refine j_iconst (v := 2) C d_L_law_246 (by decide) ?_
    refine j_iadd C d_L_law_247 ?_
    refine j_sld (w := xs (q + 2)) C hX hsc hscb d_L_law_248 (six (k := 2) (by omega) hlen) (sixc (k := 2) (by omega) hlen) ?_
    refine j_aloadr_n C d_L_law_249 rfl rfl ?_
    refine j_iload C d_L_law_250 rfl ?_
    refine j_iconst (v := 3) C d_L_law_252 (by decide) ?_
    refine j_iadd C d_L_law_253 ?_
    refine j_sld (w := xs (q + 3)) C hX hsc hscb d_L_law_254 (six (k := 3) (by omega) hlen) (sixc (k := 3) (by omega) hlen) ?_
    refine j_if_eq (tgt := 262) C d_L_law_255 (by decide) (fun c255 => ?_) (fun c255 => ?_)
    · exact absurd c255 c223
    · refine j_iconst (v := 1) C d_L_law_258 (by decide) ?_
      refine j_goto (tgt := 263) C d_L_law_259 (by decide) ?_
      refine j_callV C d_L_law_263 ml_L_102 mc_M_ask in_M_ask rfl se_M_ask (by omega) (ovM_o _ _ _ _) (c_M_ask hl _ _ _ _ _ _ (by omega)) rfl rfl (Nat.le_trans (m := 9) (Nat.le_of_ble_eq_true rfl) hRf) (Nat.le_trans (m := 200) (Nat.le_of_ble_eq_true rfl) hRl) (by omega) (by omega) (jk_v ?_)
      refine j_aload_n C d_L_law_266 rfl rfl ?_
      refine j_callV C d_L_law_267 ml_L_96 mc_M_thrown in_M_thrown rfl se_M_thrown (by omega) (ovM_o _ _ _ _) (c_M_thrown hl _ _ _ (by omega)) rfl rfl (Nat.le_trans (m := 9) (Nat.le_of_ble_eq_true rfl) hRf) (Nat.le_trans (m := 200) (Nat.le_of_ble_eq_true rfl) hRl) (by omega) (by omega) (jk_r ?_)
      refine j_iload C d_L_law_270 rfl ?_
      refine j_icmp_eq (tgt := 277) C d_L_law_272 (by decide) (fun c272 => ?_) (fun c272 => ?_)
      · refine j_goto (tgt := 1468) C d_L_law_277 (by decide) ?_
        exact j_pick [1, 2, 3, 4, 5] rfl (kk _ _ _ _ (by omega) (by omega))
      · exact absurd (tr_ask_1 σ0 β0 (xs (q + 1)) (xs (q + 2)) _ hk) c272

set_option maxHeartbeats 4000000 in
set_option maxRecDepth 100000 in
theorem lc_ask_b {p : Program} {l : Launch} {e : Env} {R : Room} {s : State} {m : MethodId} {args : Array Value} {below : List Frame} {meth : Method} {c : Code} {D : va_G} {cA : Nat → ClassId} {b : Nat} {Q : State → Prop} {n : Nat} {h : AH} {kc ks xo mo oo sc q len : Nat} {xs : Nat → Int32} {f : Nat → Int64} (hl : l.stackTraces = false) (C : Cx p l s m meth c D cA b 7 "ReportChecks2Law" "law" b_L_law (some .boolean) []) (hX : va_X sc len xs s s.heap) (hsc : sc < s.heap.size) (hscb : sc < b) (hlen : len < 2 ^ 31) (hq : q + 3 < len) (hRf : 9 ≤ R.frames) (hRl : 200 ≤ R.locals) (hRc : kc + 4 ≤ R.cells) (hRs : ks + 40 ≤ R.slots) (hd1 : xo + 28 ≤ mo) (hd2 : mo + 28 ≤ oo) (hd3 : oo < n) (hout : h oo = .inl (4, 1, .inr (.inl f))) (kk : ∀ n' h' kc' ks', kc' ≤ kc + 4 → ks' ≤ ks + 40 → J p l e R s m args below meth c D cA b 7 Q n' h' kc' ks' 1468 [(4, .int (nI q)), (3, .ref oo), (2, .ref mo), (1, .ref xo), (0, .retAddr sc)] []) (k0 : ¬ (xs (q + 1)) < 0) (k1 : (xs (q + 1)) < 5) (hk : (xs (q + 2)) < 0 ∨ ¬ (xs (q + 2)) < 20) : J p l e R s m args below meth c D cA b 7 Q n (ovX xo ξ0 β0 ρ0 6 13 (ovM mo σ0 β0 h)) kc ks 204 [(4, .int (nI q)), (3, .ref oo), (2, .ref mo), (1, .ref xo), (0, .retAddr sc)] [] := by
  refine j_aload_n C d_L_law_204 rfl rfl ?_
  refine j_aloadr_n C d_L_law_205 rfl rfl ?_
  refine j_iload C d_L_law_206 rfl ?_
  refine j_iconst (v := 1) C d_L_law_208 (by decide) ?_
  refine j_iadd C d_L_law_209 ?_
  refine j_sld (w := xs (q + 1)) C hX hsc hscb d_L_law_210 (six (k := 1) (by omega) hlen) (sixc (k := 1) (by omega) hlen) ?_
  refine j_aloadr_n C d_L_law_211 rfl rfl ?_
  refine j_iload C d_L_law_212 rfl ?_
  refine j_iconst (v := 2) C d_L_law_214 (by decide) ?_
  refine j_iadd C d_L_law_215 ?_
  refine j_sld (w := xs (q + 2)) C hX hsc hscb d_L_law_216 (six (k := 2) (by omega) hlen) (sixc (k := 2) (by omega) hlen) ?_
  refine j_aloadr_n C d_L_law_217 rfl rfl ?_
  refine j_iload C d_L_law_218 rfl ?_
  refine j_iconst (v := 3) C d_L_law_220 (by decide) ?_
  refine j_iadd C d_L_law_221 ?_
  refine j_sld (w := xs (q + 3)) C hX hsc hscb d_L_law_222 (six (k := 3) (by omega) hlen) (sixc (k := 3) (by omega) hlen) ?_
  refine j_if_eq (tgt := 230) C d_L_law_223 (by decide) (fun c223 => ?_) (fun c223 => ?_)
  · refine j_iconst (v := 0) C d_L_law_230 (by decide) ?_
    refine j_callS C d_L_law_231 ml_L_99 mc_L_ask st_L_ask (w_ask_7 hl _ _ _ (by omega) (ovX_c (o := 0) rfl) (c_X_ask_b hl _ (show xo + 28 ≤ n by omega) _ _ _ k0 k1 hk)) rfl rfl (Nat.le_trans (m := 9) (Nat.le_of_ble_eq_true rfl) hRf) (Nat.le_trans (m := 200) (Nat.le_of_ble_eq_true rfl) hRl) (by omega) (by omega) (jk_r ?_)
    refine j_h (lw_eT hd1 (by omega)) ?_
    refine j_istore C d_L_law_234 (by decide) rfl ?_
    refine j_aload_n C d_L_law_236 rfl rfl ?_
    refine j_aloadr_n C d_L_law_237 rfl rfl ?_
    refine j_iload C d_L_law_238 rfl ?_
    refine j_iconst (v := 1) C d_L_law_240 (by decide) ?_
    refine j_iadd C d_L_law_241 ?_
    refine j_sld (w := xs (q + 1)) C hX hsc hscb d_L_law_242 (six (k := 1) (by omega) hlen) (sixc (k := 1) (by omega) hlen) ?_
    refine j_aloadr_n C d_L_law_243 rfl rfl ?_
    refine j_iload C d_L_law_244 rfl ?_
    refine j_iconst (v := 2) C d_L_law_246 (by decide) ?_
    refine j_iadd C d_L_law_247 ?_
    refine j_sld (w := xs (q + 2)) C hX hsc hscb d_L_law_248 (six (k := 2) (by omega) hlen) (sixc (k := 2) (by omega) hlen) ?_
    refine j_aloadr_n C d_L_law_249 rfl rfl ?_
    refine j_iload C d_L_law_250 rfl ?_
    refine j_iconst (v := 3) C d_L_law_252 (by decide) ?_
    refine j_iadd C d_L_law_253 ?_
    refine j_sld (w := xs (q + 3)) C hX hsc hscb d_L_law_254 (six (k := 3) (by omega) hlen) (sixc (k := 3) (by omega) hlen) ?_
    refine j_if_eq (tgt := 262) C d_L_law_255 (by decide) (fun c255 => ?_) (fun c255 => ?_)
    · refine j_iconst (v := 0) C d_L_law_262 (by decide) ?_
      refine j_callV C d_L_law_263 ml_L_102 mc_M_ask in_M_ask rfl se_M_ask (by omega) (ovM_o _ _ _ _) (c_M_ask hl _ _ _ _ _ _ (by omega)) rfl rfl (Nat.le_trans (m := 9) (Nat.le_of_ble_eq_true rfl) hRf) (Nat.le_trans (m := 200) (Nat.le_of_ble_eq_true rfl) hRl) (by omega) (by omega) (jk_v ?_)
      refine j_aload_n C d_L_law_266 rfl rfl ?_
      refine j_callV C d_L_law_267 ml_L_96 mc_M_thrown in_M_thrown rfl se_M_thrown (by omega) (ovM_o _ _ _ _) (c_M_thrown hl _ _ _ (by omega)) rfl rfl (Nat.le_trans (m := 9) (Nat.le_of_ble_eq_true rfl) hRf) (Nat.le_trans (m := 200) (Nat.le_of_ble_eq_true rfl) hRl) (by omega) (by omega) (jk_r ?_)
      refine j_iload C d_L_law_270 rfl ?_
      refine j_icmp_eq (tgt := 277) C d_L_law_272 (by decide) (fun c272 => ?_) (fun c272 => ?_)
      · refine j_goto (tgt := 1468) C d_L_law_277 (by decide) ?_
        exact j_pick [1, 2, 3, 4, 5] rfl (kk _ _ _ _ (by omega) (by omega))
      · exact absurd (tr_ask_2 σ0 β0 (xs (q + 1)) (xs (q + 2)) _ hk) c272
    · exact absurd c223 c255
  · refine j_iconst (v := 1) C d_L_law_226 (by decide) ?_
    refine j_goto (tgt := 231) C d_L_law_227 (by decide) ?_
    refine j_callS C d_L_law_231 ml_L_99 mc_L_ask st_L_ask (w_ask_7 hl _ _ _ (by omega) (ovX_c (o := 0) rfl) (c_X_ask_b hl _ (show xo + 28 ≤ n by omega) _ _ _ k0 k1 hk)) rfl rfl (Nat.le_trans (m := 9) (Nat.le_of_ble_eq_true rfl) hRf) (Nat.le_trans (m := 200) (Nat.le_of_ble_eq_true rfl) hRl) (by omega) (by omega) (jk_r ?_)
    refine j_h (lw_eT hd1 (by omega)) ?_
    refine j_istore C d_L_law_234 (by decide) rfl ?_
    refine j_aload_n C d_L_law_236 rfl rfl ?_
    refine j_aloadr_n C d_L_law_237 rfl rfl ?_
    refine j_iload C d_L_law_238 rfl ?_
    refine j_iconst (v := 1) C d_L_law_240 (by decide) ?_
    refine j_iadd C d_L_law_241 ?_
    refine j_sld (w := xs (q + 1)) C hX hsc hscb d_L_law_242 (six (k := 1) (by omega) hlen) (sixc (k := 1) (by omega) hlen) ?_
    refine j_aloadr_n C d_L_law_243 rfl rfl ?_
    refine j_iload C d_L_law_244 rfl ?_
    refine j_iconst (v := 2) C d_L_law_246 (by decide) ?_
    refine j_iadd C d_L_law_247 ?_
    refine j_sld (w := xs (q + 2)) C hX hsc hscb d_L_law_248 (six (k := 2) (by omega) hlen) (sixc (k := 2) (by omega) hlen) ?_
    refine j_aloadr_n C d_L_law_249 rfl rfl ?_
    refine j_iload C d_L_law_250 rfl ?_
    refine j_iconst (v := 3) C d_L_law_252 (by decide) ?_
    refine j_iadd C d_L_law_253 ?_
    refine j_sld (w := xs (q + 3)) C hX hsc hscb d_L_law_254 (six (k := 3) (by omega) hlen) (sixc (k := 3) (by omega) hlen) ?_
    refine j_if_eq (tgt := 262) C d_L_law_255 (by decide) (fun c255 => ?_) (fun c255 => ?_)
    · exact absurd c255 c223
    · refine j_iconst (v := 1) C d_L_law_258 (by decide) ?_
      refine j_goto (tgt := 263) C d_L_law_259 (by decide) ?_
      refine j_callV C d_L_law_263 ml_L_102 mc_M_ask in_M_ask rfl se_M_ask (by omega) (ovM_o _ _ _ _) (c_M_ask hl _ _ _ _ _ _ (by omega)) rfl rfl (Nat.le_trans (m := 9) (Nat.le_of_ble_eq_true rfl) hRf) (Nat.le_trans (m := 200) (Nat.le_of_ble_eq_true rfl) hRl) (by omega) (by omega) (jk_v ?_)
      refine j_aload_n C d_L_law_266 rfl rfl ?_
      refine j_callV C d_L_law_267 ml_L_96 mc_M_thrown in_M_thrown rfl se_M_thrown (by omega) (ovM_o _ _ _ _) (c_M_thrown hl _ _ _ (by omega)) rfl rfl (Nat.le_trans (m := 9) (Nat.le_of_ble_eq_true rfl) hRf) (Nat.le_trans (m := 200) (Nat.le_of_ble_eq_true rfl) hRl) (by omega) (by omega) (jk_r ?_)
      refine j_iload C d_L_law_270 rfl ?_
      refine j_icmp_eq (tgt := 277) C d_L_law_272 (by decide) (fun c272 => ?_) (fun c272 => ?_)
      · refine j_goto (tgt := 1468) C d_L_law_277 (by decide) ?_
        exact j_pick [1, 2, 3, 4, 5] rfl (kk _ _ _ _ (by omega) (by omega))
      · exact absurd (tr_ask_2 σ0 β0 (xs (q + 1)) (xs (q + 2)) _ hk) c272

set_option maxHeartbeats 4000000 in
set_option maxRecDepth 100000 in
theorem lc_ask_r {p : Program} {l : Launch} {e : Env} {R : Room} {s : State} {m : MethodId} {args : Array Value} {below : List Frame} {meth : Method} {c : Code} {D : va_G} {cA : Nat → ClassId} {b : Nat} {Q : State → Prop} {n : Nat} {h : AH} {kc ks xo mo oo sc q len : Nat} {xs : Nat → Int32} {f : Nat → Int64} (hl : l.stackTraces = false) (C : Cx p l s m meth c D cA b 7 "ReportChecks2Law" "law" b_L_law (some .boolean) []) (hX : va_X sc len xs s s.heap) (hsc : sc < s.heap.size) (hscb : sc < b) (hlen : len < 2 ^ 31) (hq : q + 3 < len) (hRf : 9 ≤ R.frames) (hRl : 200 ≤ R.locals) (hRc : kc + 4 ≤ R.cells) (hRs : ks + 40 ≤ R.slots) (hd1 : xo + 28 ≤ mo) (hd2 : mo + 28 ≤ oo) (hd3 : oo < n) (hout : h oo = .inl (4, 1, .inr (.inl f))) (kk : ∀ n' h' kc' ks', kc' ≤ kc + 4 → ks' ≤ ks + 40 → J p l e R s m args below meth c D cA b 7 Q n' h' kc' ks' 1468 [(4, .int (nI q)), (3, .ref oo), (2, .ref mo), (1, .ref xo), (0, .retAddr sc)] []) (k0 : ¬ (xs (q + 1)) < 0) (k1 : (xs (q + 1)) < 5) (f0 : ¬ (xs (q + 2)) < 0) (f1 : (xs (q + 2)) < 20) : J p l e R s m args below meth c D cA b 7 Q n (ovX xo ξ0 β0 ρ0 6 13 (ovM mo σ0 β0 h)) kc ks 204 [(4, .int (nI q)), (3, .ref oo), (2, .ref mo), (1, .ref xo), (0, .retAddr sc)] [] := by
  refine j_aload_n C d_L_law_204 rfl rfl ?_
  refine j_aloadr_n C d_L_law_205 rfl rfl ?_
  refine j_iload C d_L_law_206 rfl ?_
  refine j_iconst (v := 1) C d_L_law_208 (by decide) ?_
  refine j_iadd C d_L_law_209 ?_
  refine j_sld (w := xs (q + 1)) C hX hsc hscb d_L_law_210 (six (k := 1) (by omega) hlen) (sixc (k := 1) (by omega) hlen) ?_
  refine j_aloadr_n C d_L_law_211 rfl rfl ?_
  refine j_iload C d_L_law_212 rfl ?_
  refine j_iconst (v := 2) C d_L_law_214 (by decide) ?_
  refine j_iadd C d_L_law_215 ?_
  refine j_sld (w := xs (q + 2)) C hX hsc hscb d_L_law_216 (six (k := 2) (by omega) hlen) (sixc (k := 2) (by omega) hlen) ?_
  refine j_aloadr_n C d_L_law_217 rfl rfl ?_
  refine j_iload C d_L_law_218 rfl ?_
  refine j_iconst (v := 3) C d_L_law_220 (by decide) ?_
  refine j_iadd C d_L_law_221 ?_
  refine j_sld (w := xs (q + 3)) C hX hsc hscb d_L_law_222 (six (k := 3) (by omega) hlen) (sixc (k := 3) (by omega) hlen) ?_
  refine j_if_eq (tgt := 230) C d_L_law_223 (by decide) (fun c223 => ?_) (fun c223 => ?_)
  · refine j_iconst (v := 0) C d_L_law_230 (by decide) ?_
    refine j_callS C d_L_law_231 ml_L_99 mc_L_ask st_L_ask (w_ask_r hl _ _ _ (by omega) (ovX_c (o := 0) rfl) (c_X_ask_r hl _ (show xo + 28 ≤ n by omega) _ _ _ k0 k1 f0 f1 (in5 k0 k1))) rfl rfl (Nat.le_trans (m := 9) (Nat.le_of_ble_eq_true rfl) hRf) (Nat.le_trans (m := 200) (Nat.le_of_ble_eq_true rfl) hRl) (by omega) (by omega) (jk_r ?_)
    refine j_h (ovX_M hd1) ?_
    refine j_istore C d_L_law_234 (by decide) rfl ?_
    refine j_aload_n C d_L_law_236 rfl rfl ?_
    refine j_aloadr_n C d_L_law_237 rfl rfl ?_
    refine j_iload C d_L_law_238 rfl ?_
    refine j_iconst (v := 1) C d_L_law_240 (by decide) ?_
    refine j_iadd C d_L_law_241 ?_
    refine j_sld (w := xs (q + 1)) C hX hsc hscb d_L_law_242 (six (k := 1) (by omega) hlen) (sixc (k := 1) (by omega) hlen) ?_
    refine j_aloadr_n C d_L_law_243 rfl rfl ?_
    refine j_iload C d_L_law_244 rfl ?_
    refine j_iconst (v := 2) C d_L_law_246 (by decide) ?_
    refine j_iadd C d_L_law_247 ?_
    refine j_sld (w := xs (q + 2)) C hX hsc hscb d_L_law_248 (six (k := 2) (by omega) hlen) (sixc (k := 2) (by omega) hlen) ?_
    refine j_aloadr_n C d_L_law_249 rfl rfl ?_
    refine j_iload C d_L_law_250 rfl ?_
    refine j_iconst (v := 3) C d_L_law_252 (by decide) ?_
    refine j_iadd C d_L_law_253 ?_
    refine j_sld (w := xs (q + 3)) C hX hsc hscb d_L_law_254 (six (k := 3) (by omega) hlen) (sixc (k := 3) (by omega) hlen) ?_
    refine j_if_eq (tgt := 262) C d_L_law_255 (by decide) (fun c255 => ?_) (fun c255 => ?_)
    · refine j_iconst (v := 0) C d_L_law_262 (by decide) ?_
      refine j_callV C d_L_law_263 ml_L_102 mc_M_ask in_M_ask rfl se_M_ask (by omega) (ovM_o _ _ _ _) (c_M_ask hl _ _ _ _ _ _ (by omega)) rfl rfl (Nat.le_trans (m := 9) (Nat.le_of_ble_eq_true rfl) hRf) (Nat.le_trans (m := 200) (Nat.le_of_ble_eq_true rfl) hRl) (by omega) (by omega) (jk_v ?_)
      refine j_aload_n C d_L_law_266 rfl rfl ?_
      refine j_callV C d_L_law_267 ml_L_96 mc_M_thrown in_M_thrown rfl se_M_thrown (by omega) (ovM_o _ _ _ _) (c_M_thrown hl _ _ _ (by omega)) rfl rfl (Nat.le_trans (m := 9) (Nat.le_of_ble_eq_true rfl) hRf) (Nat.le_trans (m := 200) (Nat.le_of_ble_eq_true rfl) hRl) (by omega) (by omega) (jk_r ?_)
      refine j_iload C d_L_law_270 rfl ?_
      refine j_icmp_eq (tgt := 277) C d_L_law_272 (by decide) (fun c272 => ?_) (fun c272 => ?_)
      · refine j_goto (tgt := 1468) C d_L_law_277 (by decide) ?_
        exact j_pick [1, 2, 3, 4, 5] rfl (kk _ _ _ _ (by omega) (by omega))
      · exact absurd (tr_ask_0 σ0 β0 (xs (q + 1)) (xs (q + 2)) _ k0 k1 f0 f1) c272
    · exact absurd c223 c255
  · refine j_iconst (v := 1) C d_L_law_226 (by decide) ?_
    refine j_goto (tgt := 231) C d_L_law_227 (by decide) ?_
    refine j_callS C d_L_law_231 ml_L_99 mc_L_ask st_L_ask (w_ask_r hl _ _ _ (by omega) (ovX_c (o := 0) rfl) (c_X_ask_r hl _ (show xo + 28 ≤ n by omega) _ _ _ k0 k1 f0 f1 (in5 k0 k1))) rfl rfl (Nat.le_trans (m := 9) (Nat.le_of_ble_eq_true rfl) hRf) (Nat.le_trans (m := 200) (Nat.le_of_ble_eq_true rfl) hRl) (by omega) (by omega) (jk_r ?_)
    refine j_h (ovX_M hd1) ?_
    refine j_istore C d_L_law_234 (by decide) rfl ?_
    refine j_aload_n C d_L_law_236 rfl rfl ?_
    refine j_aloadr_n C d_L_law_237 rfl rfl ?_
    refine j_iload C d_L_law_238 rfl ?_
    refine j_iconst (v := 1) C d_L_law_240 (by decide) ?_
    refine j_iadd C d_L_law_241 ?_
    refine j_sld (w := xs (q + 1)) C hX hsc hscb d_L_law_242 (six (k := 1) (by omega) hlen) (sixc (k := 1) (by omega) hlen) ?_
    refine j_aloadr_n C d_L_law_243 rfl rfl ?_
    refine j_iload C d_L_law_244 rfl ?_
    refine j_iconst (v := 2) C d_L_law_246 (by decide) ?_
    refine j_iadd C d_L_law_247 ?_
    refine j_sld (w := xs (q + 2)) C hX hsc hscb d_L_law_248 (six (k := 2) (by omega) hlen) (sixc (k := 2) (by omega) hlen) ?_
    refine j_aloadr_n C d_L_law_249 rfl rfl ?_
    refine j_iload C d_L_law_250 rfl ?_
    refine j_iconst (v := 3) C d_L_law_252 (by decide) ?_
    refine j_iadd C d_L_law_253 ?_
    refine j_sld (w := xs (q + 3)) C hX hsc hscb d_L_law_254 (six (k := 3) (by omega) hlen) (sixc (k := 3) (by omega) hlen) ?_
    refine j_if_eq (tgt := 262) C d_L_law_255 (by decide) (fun c255 => ?_) (fun c255 => ?_)
    · exact absurd c255 c223
    · refine j_iconst (v := 1) C d_L_law_258 (by decide) ?_
      refine j_goto (tgt := 263) C d_L_law_259 (by decide) ?_
      refine j_callV C d_L_law_263 ml_L_102 mc_M_ask in_M_ask rfl se_M_ask (by omega) (ovM_o _ _ _ _) (c_M_ask hl _ _ _ _ _ _ (by omega)) rfl rfl (Nat.le_trans (m := 9) (Nat.le_of_ble_eq_true rfl) hRf) (Nat.le_trans (m := 200) (Nat.le_of_ble_eq_true rfl) hRl) (by omega) (by omega) (jk_v ?_)
      refine j_aload_n C d_L_law_266 rfl rfl ?_
      refine j_callV C d_L_law_267 ml_L_96 mc_M_thrown in_M_thrown rfl se_M_thrown (by omega) (ovM_o _ _ _ _) (c_M_thrown hl _ _ _ (by omega)) rfl rfl (Nat.le_trans (m := 9) (Nat.le_of_ble_eq_true rfl) hRf) (Nat.le_trans (m := 200) (Nat.le_of_ble_eq_true rfl) hRl) (by omega) (by omega) (jk_r ?_)
      refine j_iload C d_L_law_270 rfl ?_
      refine j_icmp_eq (tgt := 277) C d_L_law_272 (by decide) (fun c272 => ?_) (fun c272 => ?_)
      · refine j_goto (tgt := 1468) C d_L_law_277 (by decide) ?_
        exact j_pick [1, 2, 3, 4, 5] rfl (kk _ _ _ _ (by omega) (by omega))
      · exact absurd (tr_ask_0 σ0 β0 (xs (q + 1)) (xs (q + 2)) _ k0 k1 f0 f1) c272

set_option maxHeartbeats 4000000 in
set_option maxRecDepth 100000 in
theorem lc_field_u {p : Program} {l : Launch} {e : Env} {R : Room} {s : State} {m : MethodId} {args : Array Value} {below : List Frame} {meth : Method} {c : Code} {D : va_G} {cA : Nat → ClassId} {b : Nat} {Q : State → Prop} {n : Nat} {h : AH} {kc ks xo mo oo sc q len : Nat} {xs : Nat → Int32} {f : Nat → Int64} (hl : l.stackTraces = false) (C : Cx p l s m meth c D cA b 7 "ReportChecks2Law" "law" b_L_law (some .boolean) []) (hX : va_X sc len xs s s.heap) (hsc : sc < s.heap.size) (hscb : sc < b) (hlen : len < 2 ^ 31) (hq : q + 3 < len) (hRf : 9 ≤ R.frames) (hRl : 200 ≤ R.locals) (hRc : kc + 4 ≤ R.cells) (hRs : ks + 40 ≤ R.slots) (hd1 : xo + 28 ≤ mo) (hd2 : mo + 28 ≤ oo) (hd3 : oo < n) (hout : h oo = .inl (4, 1, .inr (.inl f))) (kk : ∀ n' h' kc' ks', kc' ≤ kc + 4 → ks' ≤ ks + 40 → J p l e R s m args below meth c D cA b 7 Q n' h' kc' ks' 1468 [(4, .int (nI q)), (3, .ref oo), (2, .ref mo), (1, .ref xo), (0, .retAddr sc)] [])  : J p l e R s m args below meth c D cA b 7 Q n (ovX xo ξ0 β0 ρ0 6 13 (ovM mo σ0 β0 h)) kc ks 280 [(4, .int (nI q)), (3, .ref oo), (2, .ref mo), (1, .ref xo), (0, .retAddr sc)] [] := by
  refine j_aload_n C d_L_law_280 rfl rfl ?_
  refine j_aloadr_n C d_L_law_281 rfl rfl ?_
  refine j_iload C d_L_law_282 rfl ?_
  refine j_iconst (v := 1) C d_L_law_284 (by decide) ?_
  refine j_iadd C d_L_law_285 ?_
  refine j_sld (w := xs (q + 1)) C hX hsc hscb d_L_law_286 (six (k := 1) (by omega) hlen) (sixc (k := 1) (by omega) hlen) ?_
  refine j_aloadr_n C d_L_law_287 rfl rfl ?_
  refine j_iload C d_L_law_288 rfl ?_
  refine j_iconst (v := 2) C d_L_law_290 (by decide) ?_
  refine j_iadd C d_L_law_291 ?_
  refine j_sld (w := xs (q + 2)) C hX hsc hscb d_L_law_292 (six (k := 2) (by omega) hlen) (sixc (k := 2) (by omega) hlen) ?_
  refine j_aloadr_n C d_L_law_293 rfl rfl ?_
  refine j_iload C d_L_law_294 rfl ?_
  refine j_iconst (v := 3) C d_L_law_296 (by decide) ?_
  refine j_iadd C d_L_law_297 ?_
  refine j_sld (w := xs (q + 3)) C hX hsc hscb d_L_law_298 (six (k := 3) (by omega) hlen) (sixc (k := 3) (by omega) hlen) ?_
  refine j_callS C d_L_law_299 ml_L_103 mc_L_field st_L_field (w_field_7 hl _ _ _ (by omega) (ovX_c (o := 0) rfl) (c_X_field_u hl _ (show xo + 28 ≤ n by omega) _ _ _ (unk0 _))) rfl rfl (Nat.le_trans (m := 9) (Nat.le_of_ble_eq_true rfl) hRf) (Nat.le_trans (m := 200) (Nat.le_of_ble_eq_true rfl) hRl) (by omega) (by omega) (jk_r ?_)
  refine j_h (lw_eT hd1 (by omega)) ?_
  refine j_istore C d_L_law_302 (by decide) rfl ?_
  refine j_aload_n C d_L_law_304 rfl rfl ?_
  refine j_aloadr_n C d_L_law_305 rfl rfl ?_
  refine j_iload C d_L_law_306 rfl ?_
  refine j_iconst (v := 1) C d_L_law_308 (by decide) ?_
  refine j_iadd C d_L_law_309 ?_
  refine j_sld (w := xs (q + 1)) C hX hsc hscb d_L_law_310 (six (k := 1) (by omega) hlen) (sixc (k := 1) (by omega) hlen) ?_
  refine j_aloadr_n C d_L_law_311 rfl rfl ?_
  refine j_iload C d_L_law_312 rfl ?_
  refine j_iconst (v := 2) C d_L_law_314 (by decide) ?_
  refine j_iadd C d_L_law_315 ?_
  refine j_sld (w := xs (q + 2)) C hX hsc hscb d_L_law_316 (six (k := 2) (by omega) hlen) (sixc (k := 2) (by omega) hlen) ?_
  refine j_aloadr_n C d_L_law_317 rfl rfl ?_
  refine j_iload C d_L_law_318 rfl ?_
  refine j_iconst (v := 3) C d_L_law_320 (by decide) ?_
  refine j_iadd C d_L_law_321 ?_
  refine j_sld (w := xs (q + 3)) C hX hsc hscb d_L_law_322 (six (k := 3) (by omega) hlen) (sixc (k := 3) (by omega) hlen) ?_
  refine j_callV C d_L_law_323 ml_L_106 mc_M_field in_M_field rfl se_M_field (by omega) (ovM_o _ _ _ _) (c_M_field hl _ _ _ _ _ _ (by omega) 0 σ0_2 (by omega)) rfl rfl (Nat.le_trans (m := 9) (Nat.le_of_ble_eq_true rfl) hRf) (Nat.le_trans (m := 200) (Nat.le_of_ble_eq_true rfl) hRl) (by omega) (by omega) (jk_v ?_)
  refine j_aload_n C d_L_law_326 rfl rfl ?_
  refine j_callV C d_L_law_327 ml_L_96 mc_M_thrown in_M_thrown rfl se_M_thrown (by omega) (ovM_o _ _ _ _) (c_M_thrown hl _ _ _ (by omega)) rfl rfl (Nat.le_trans (m := 9) (Nat.le_of_ble_eq_true rfl) hRf) (Nat.le_trans (m := 200) (Nat.le_of_ble_eq_true rfl) hRl) (by omega) (by omega) (jk_r ?_)
  refine j_iload C d_L_law_330 rfl ?_
  refine j_icmp_eq (tgt := 337) C d_L_law_332 (by decide) (fun c332 => ?_) (fun c332 => ?_)
  · refine j_goto (tgt := 1468) C d_L_law_337 (by decide) ?_
    exact j_pick [1, 2, 3, 4, 5] rfl (kk _ _ _ _ (by omega) (by omega))
  · exact absurd (tr_field_u β0 _ _ _) c332

set_option maxHeartbeats 4000000 in
set_option maxRecDepth 100000 in
theorem lc_act_u {p : Program} {l : Launch} {e : Env} {R : Room} {s : State} {m : MethodId} {args : Array Value} {below : List Frame} {meth : Method} {c : Code} {D : va_G} {cA : Nat → ClassId} {b : Nat} {Q : State → Prop} {n : Nat} {h : AH} {kc ks xo mo oo sc q len : Nat} {xs : Nat → Int32} {f : Nat → Int64} (hl : l.stackTraces = false) (C : Cx p l s m meth c D cA b 7 "ReportChecks2Law" "law" b_L_law (some .boolean) []) (hX : va_X sc len xs s s.heap) (hsc : sc < s.heap.size) (hscb : sc < b) (hlen : len < 2 ^ 31) (hq : q + 3 < len) (hRf : 9 ≤ R.frames) (hRl : 200 ≤ R.locals) (hRc : kc + 4 ≤ R.cells) (hRs : ks + 40 ≤ R.slots) (hd1 : xo + 28 ≤ mo) (hd2 : mo + 28 ≤ oo) (hd3 : oo < n) (hout : h oo = .inl (4, 1, .inr (.inl f))) (kk : ∀ n' h' kc' ks', kc' ≤ kc + 4 → ks' ≤ ks + 40 → J p l e R s m args below meth c D cA b 7 Q n' h' kc' ks' 1468 [(4, .int (nI q)), (3, .ref oo), (2, .ref mo), (1, .ref xo), (0, .retAddr sc)] [])  : J p l e R s m args below meth c D cA b 7 Q n (ovX xo ξ0 β0 ρ0 6 13 (ovM mo σ0 β0 h)) kc ks 340 [(4, .int (nI q)), (3, .ref oo), (2, .ref mo), (1, .ref xo), (0, .retAddr sc)] [] := by
  refine j_aload_n C d_L_law_340 rfl rfl ?_
  refine j_aloadr_n C d_L_law_341 rfl rfl ?_
  refine j_iload C d_L_law_342 rfl ?_
  refine j_iconst (v := 1) C d_L_law_344 (by decide) ?_
  refine j_iadd C d_L_law_345 ?_
  refine j_sld (w := xs (q + 1)) C hX hsc hscb d_L_law_346 (six (k := 1) (by omega) hlen) (sixc (k := 1) (by omega) hlen) ?_
  refine j_aloadr_n C d_L_law_347 rfl rfl ?_
  refine j_iload C d_L_law_348 rfl ?_
  refine j_iconst (v := 2) C d_L_law_350 (by decide) ?_
  refine j_iadd C d_L_law_351 ?_
  refine j_sld (w := xs (q + 2)) C hX hsc hscb d_L_law_352 (six (k := 2) (by omega) hlen) (sixc (k := 2) (by omega) hlen) ?_
  refine j_aloadr_n C d_L_law_353 rfl rfl ?_
  refine j_iload C d_L_law_354 rfl ?_
  refine j_iconst (v := 3) C d_L_law_356 (by decide) ?_
  refine j_iadd C d_L_law_357 ?_
  refine j_sld (w := xs (q + 3)) C hX hsc hscb d_L_law_358 (six (k := 3) (by omega) hlen) (sixc (k := 3) (by omega) hlen) ?_
  refine j_aload_n C d_L_law_359 rfl rfl ?_
  refine j_callS C d_L_law_360 ml_L_107 mc_L_act st_L_act (w_act_7 hl _ _ _ (by omega) (ovX_c (o := 0) rfl) (c_X_act_u hl _ (show xo + 28 ≤ n by omega) _ _ _ (unk0 _))) rfl rfl (Nat.le_trans (m := 9) (Nat.le_of_ble_eq_true rfl) hRf) (Nat.le_trans (m := 200) (Nat.le_of_ble_eq_true rfl) hRl) (by omega) (by omega) (jk_r ?_)
  refine j_h (lw_eT hd1 (by omega)) ?_
  refine j_istore C d_L_law_363 (by decide) rfl ?_
  refine j_aload_n C d_L_law_365 rfl rfl ?_
  refine j_aloadr_n C d_L_law_366 rfl rfl ?_
  refine j_iload C d_L_law_367 rfl ?_
  refine j_iconst (v := 1) C d_L_law_369 (by decide) ?_
  refine j_iadd C d_L_law_370 ?_
  refine j_sld (w := xs (q + 1)) C hX hsc hscb d_L_law_371 (six (k := 1) (by omega) hlen) (sixc (k := 1) (by omega) hlen) ?_
  refine j_aloadr_n C d_L_law_372 rfl rfl ?_
  refine j_iload C d_L_law_373 rfl ?_
  refine j_iconst (v := 2) C d_L_law_375 (by decide) ?_
  refine j_iadd C d_L_law_376 ?_
  refine j_sld (w := xs (q + 2)) C hX hsc hscb d_L_law_377 (six (k := 2) (by omega) hlen) (sixc (k := 2) (by omega) hlen) ?_
  refine j_aloadr_n C d_L_law_378 rfl rfl ?_
  refine j_iload C d_L_law_379 rfl ?_
  refine j_iconst (v := 3) C d_L_law_381 (by decide) ?_
  refine j_iadd C d_L_law_382 ?_
  refine j_sld (w := xs (q + 3)) C hX hsc hscb d_L_law_383 (six (k := 3) (by omega) hlen) (sixc (k := 3) (by omega) hlen) ?_
  refine j_callV C d_L_law_384 ml_L_110 mc_M_act in_M_act rfl se_M_act (by omega) (ovM_o _ _ _ _) (c_M_act hl _ _ _ _ _ _ (by omega) 0 σ0_2 (by omega)) rfl rfl (Nat.le_trans (m := 9) (Nat.le_of_ble_eq_true rfl) hRf) (Nat.le_trans (m := 200) (Nat.le_of_ble_eq_true rfl) hRl) (by omega) (by omega) (jk_r ?_)
  refine j_istore C d_L_law_387 (by decide) rfl ?_
  refine j_aload_n C d_L_law_389 rfl rfl ?_
  refine j_callV C d_L_law_390 ml_L_96 mc_M_thrown in_M_thrown rfl se_M_thrown (by omega) (ovM_o _ _ _ _) (c_M_thrown hl _ _ _ (by omega)) rfl rfl (Nat.le_trans (m := 9) (Nat.le_of_ble_eq_true rfl) hRf) (Nat.le_trans (m := 200) (Nat.le_of_ble_eq_true rfl) hRl) (by omega) (by omega) (jk_r ?_)
  refine j_iload C d_L_law_393 rfl ?_
  refine j_icmp_eq (tgt := 400) C d_L_law_395 (by decide) (fun c395 => ?_) (fun c395 => ?_)
  · refine j_iload C d_L_law_400 rfl ?_
    refine j_if_ne (tgt := 424) C d_L_law_402 (by decide) (fun c402 => ?_) (fun c402 => ?_)
    · refine j_goto (tgt := 1468) C d_L_law_424 (by decide) ?_
      exact j_pick [2, 3, 4, 5, 6] rfl (kk _ _ _ _ (by omega) (by omega))
    · exact absurd c402 (by decide)
  · exact absurd (tr_act_u β0 _ _ _) c395

set_option maxHeartbeats 4000000 in
set_option maxRecDepth 100000 in
theorem lc_inside_u {p : Program} {l : Launch} {e : Env} {R : Room} {s : State} {m : MethodId} {args : Array Value} {below : List Frame} {meth : Method} {c : Code} {D : va_G} {cA : Nat → ClassId} {b : Nat} {Q : State → Prop} {n : Nat} {h : AH} {kc ks xo mo oo sc q len : Nat} {xs : Nat → Int32} {f : Nat → Int64} (hl : l.stackTraces = false) (C : Cx p l s m meth c D cA b 7 "ReportChecks2Law" "law" b_L_law (some .boolean) []) (hX : va_X sc len xs s s.heap) (hsc : sc < s.heap.size) (hscb : sc < b) (hlen : len < 2 ^ 31) (hq : q + 3 < len) (hRf : 9 ≤ R.frames) (hRl : 200 ≤ R.locals) (hRc : kc + 4 ≤ R.cells) (hRs : ks + 40 ≤ R.slots) (hd1 : xo + 28 ≤ mo) (hd2 : mo + 28 ≤ oo) (hd3 : oo < n) (hout : h oo = .inl (4, 1, .inr (.inl f))) (kk : ∀ n' h' kc' ks', kc' ≤ kc + 4 → ks' ≤ ks + 40 → J p l e R s m args below meth c D cA b 7 Q n' h' kc' ks' 1468 [(4, .int (nI q)), (3, .ref oo), (2, .ref mo), (1, .ref xo), (0, .retAddr sc)] [])  : J p l e R s m args below meth c D cA b 7 Q n (ovX xo ξ0 β0 ρ0 6 13 (ovM mo σ0 β0 h)) kc ks 427 [(4, .int (nI q)), (3, .ref oo), (2, .ref mo), (1, .ref xo), (0, .retAddr sc)] [] := by
  refine j_aload_n C d_L_law_427 rfl rfl ?_
  refine j_aloadr_n C d_L_law_428 rfl rfl ?_
  refine j_iload C d_L_law_429 rfl ?_
  refine j_iconst (v := 1) C d_L_law_431 (by decide) ?_
  refine j_iadd C d_L_law_432 ?_
  refine j_sld (w := xs (q + 1)) C hX hsc hscb d_L_law_433 (six (k := 1) (by omega) hlen) (sixc (k := 1) (by omega) hlen) ?_
  refine j_aloadr_n C d_L_law_434 rfl rfl ?_
  refine j_iload C d_L_law_435 rfl ?_
  refine j_iconst (v := 2) C d_L_law_437 (by decide) ?_
  refine j_iadd C d_L_law_438 ?_
  refine j_sld (w := xs (q + 2)) C hX hsc hscb d_L_law_439 (six (k := 2) (by omega) hlen) (sixc (k := 2) (by omega) hlen) ?_
  refine j_callS C d_L_law_440 ml_L_111 mc_L_inside st_L_inside (w_inside_7 hl _ _ (by omega) (ovX_c (o := 0) rfl) (c_X_inside_u hl _ (show xo + 28 ≤ n by omega) _ _ (unk0 _))) rfl rfl (Nat.le_trans (m := 9) (Nat.le_of_ble_eq_true rfl) hRf) (Nat.le_trans (m := 200) (Nat.le_of_ble_eq_true rfl) hRl) (by omega) (by omega) (jk_r ?_)
  refine j_h (lw_eT hd1 (by omega)) ?_
  refine j_istore C d_L_law_443 (by decide) rfl ?_
  refine j_aload_n C d_L_law_445 rfl rfl ?_
  refine j_aloadr_n C d_L_law_446 rfl rfl ?_
  refine j_iload C d_L_law_447 rfl ?_
  refine j_iconst (v := 1) C d_L_law_449 (by decide) ?_
  refine j_iadd C d_L_law_450 ?_
  refine j_sld (w := xs (q + 1)) C hX hsc hscb d_L_law_451 (six (k := 1) (by omega) hlen) (sixc (k := 1) (by omega) hlen) ?_
  refine j_aloadr_n C d_L_law_452 rfl rfl ?_
  refine j_iload C d_L_law_453 rfl ?_
  refine j_iconst (v := 2) C d_L_law_455 (by decide) ?_
  refine j_iadd C d_L_law_456 ?_
  refine j_sld (w := xs (q + 2)) C hX hsc hscb d_L_law_457 (six (k := 2) (by omega) hlen) (sixc (k := 2) (by omega) hlen) ?_
  refine j_callV C d_L_law_458 ml_L_114 mc_M_inside in_M_inside rfl se_M_inside (by omega) (ovM_o _ _ _ _) (c_M_inside hl _ _ _ _ _ (by omega) 0 σ0_2 (by omega)) rfl rfl (Nat.le_trans (m := 9) (Nat.le_of_ble_eq_true rfl) hRf) (Nat.le_trans (m := 200) (Nat.le_of_ble_eq_true rfl) hRl) (by omega) (by omega) (jk_v ?_)
  refine j_aload_n C d_L_law_461 rfl rfl ?_
  refine j_callV C d_L_law_462 ml_L_96 mc_M_thrown in_M_thrown rfl se_M_thrown (by omega) (ovM_o _ _ _ _) (c_M_thrown hl _ _ _ (by omega)) rfl rfl (Nat.le_trans (m := 9) (Nat.le_of_ble_eq_true rfl) hRf) (Nat.le_trans (m := 200) (Nat.le_of_ble_eq_true rfl) hRl) (by omega) (by omega) (jk_r ?_)
  refine j_iload C d_L_law_465 rfl ?_
  refine j_icmp_eq (tgt := 472) C d_L_law_467 (by decide) (fun c467 => ?_) (fun c467 => ?_)
  · refine j_goto (tgt := 1468) C d_L_law_472 (by decide) ?_
    exact j_pick [1, 2, 3, 4, 5] rfl (kk _ _ _ _ (by omega) (by omega))
  · exact absurd (tr_inside_u β0 _ _) c467

set_option maxHeartbeats 4000000 in
set_option maxRecDepth 100000 in
theorem lc_sign_t {p : Program} {l : Launch} {e : Env} {R : Room} {s : State} {m : MethodId} {args : Array Value} {below : List Frame} {meth : Method} {c : Code} {D : va_G} {cA : Nat → ClassId} {b : Nat} {Q : State → Prop} {n : Nat} {h : AH} {kc ks xo mo oo sc q len : Nat} {xs : Nat → Int32} {f : Nat → Int64} (hl : l.stackTraces = false) (C : Cx p l s m meth c D cA b 7 "ReportChecks2Law" "law" b_L_law (some .boolean) []) (hX : va_X sc len xs s s.heap) (hsc : sc < s.heap.size) (hscb : sc < b) (hlen : len < 2 ^ 31) (hq : q + 3 < len) (hRf : 9 ≤ R.frames) (hRl : 200 ≤ R.locals) (hRc : kc + 4 ≤ R.cells) (hRs : ks + 40 ≤ R.slots) (hd1 : xo + 28 ≤ mo) (hd2 : mo + 28 ≤ oo) (hd3 : oo < n) (hout : h oo = .inl (4, 1, .inr (.inl f))) (kk : ∀ n' h' kc' ks', kc' ≤ kc + 4 → ks' ≤ ks + 40 → J p l e R s m args below meth c D cA b 7 Q n' h' kc' ks' 1468 [(4, .int (nI q)), (3, .ref oo), (2, .ref mo), (1, .ref xo), (0, .retAddr sc)] []) (hx : (xs (q + 3)) < 1 ∨ ¬ (xs (q + 3)) ≤ 8) : J p l e R s m args below meth c D cA b 7 Q n (ovX xo ξ0 β0 ρ0 6 13 (ovM mo σ0 β0 h)) kc ks 475 [(4, .int (nI q)), (3, .ref oo), (2, .ref mo), (1, .ref xo), (0, .retAddr sc)] [] := by
  refine j_aload_n C d_L_law_475 rfl rfl ?_
  refine j_aloadr_n C d_L_law_476 rfl rfl ?_
  refine j_iload C d_L_law_477 rfl ?_
  refine j_iconst (v := 1) C d_L_law_479 (by decide) ?_
  refine j_iadd C d_L_law_480 ?_
  refine j_sld (w := xs (q + 1)) C hX hsc hscb d_L_law_481 (six (k := 1) (by omega) hlen) (sixc (k := 1) (by omega) hlen) ?_
  refine j_i2l C d_L_law_482 rfl ?_
  refine j_bipush (v := 32) C d_L_law_483 (by decide) ?_
  refine j_lshl C d_L_law_485 rfl ?_
  refine j_aloadr_n C d_L_law_486 rfl rfl ?_
  refine j_iload C d_L_law_487 rfl ?_
  refine j_iconst (v := 2) C d_L_law_489 (by decide) ?_
  refine j_iadd C d_L_law_490 ?_
  refine j_sld (w := xs (q + 2)) C hX hsc hscb d_L_law_491 (six (k := 2) (by omega) hlen) (sixc (k := 2) (by omega) hlen) ?_
  refine j_i2l C d_L_law_492 rfl ?_
  refine j_ldc2 (v := 4294967295) C d_L_law_493 lcL_L_115 ?_
  refine j_land C d_L_law_496 ?_
  refine j_lor C d_L_law_497 ?_
  refine j_aloadr_n C d_L_law_498 rfl rfl ?_
  refine j_iload C d_L_law_499 rfl ?_
  refine j_iconst (v := 3) C d_L_law_501 (by decide) ?_
  refine j_iadd C d_L_law_502 ?_
  refine j_sld (w := xs (q + 3)) C hX hsc hscb d_L_law_503 (six (k := 3) (by omega) hlen) (sixc (k := 3) (by omega) hlen) ?_
  refine j_aload_n C d_L_law_504 rfl rfl ?_
  refine j_callS C d_L_law_505 ml_L_117 mc_L_sign st_L_sign (w_sign_8 hl _ _ (by omega) (ovX_c (o := 0) rfl) (c_X_sign_t8 hl _ (show xo + 28 ≤ n by omega) _ _ hx)) rfl rfl (Nat.le_trans (m := 9) (Nat.le_of_ble_eq_true rfl) hRf) (Nat.le_trans (m := 200) (Nat.le_of_ble_eq_true rfl) hRl) (by omega) (by omega) (jk_r ?_)
  refine j_h (lw_eT hd1 (by omega)) ?_
  refine j_istore C d_L_law_508 (by decide) rfl ?_
  refine j_aload_n C d_L_law_510 rfl rfl ?_
  refine j_aloadr_n C d_L_law_511 rfl rfl ?_
  refine j_iload C d_L_law_512 rfl ?_
  refine j_iconst (v := 1) C d_L_law_514 (by decide) ?_
  refine j_iadd C d_L_law_515 ?_
  refine j_sld (w := xs (q + 1)) C hX hsc hscb d_L_law_516 (six (k := 1) (by omega) hlen) (sixc (k := 1) (by omega) hlen) ?_
  refine j_i2l C d_L_law_517 rfl ?_
  refine j_bipush (v := 32) C d_L_law_518 (by decide) ?_
  refine j_lshl C d_L_law_520 rfl ?_
  refine j_aloadr_n C d_L_law_521 rfl rfl ?_
  refine j_iload C d_L_law_522 rfl ?_
  refine j_iconst (v := 2) C d_L_law_524 (by decide) ?_
  refine j_iadd C d_L_law_525 ?_
  refine j_sld (w := xs (q + 2)) C hX hsc hscb d_L_law_526 (six (k := 2) (by omega) hlen) (sixc (k := 2) (by omega) hlen) ?_
  refine j_i2l C d_L_law_527 rfl ?_
  refine j_ldc2 (v := 4294967295) C d_L_law_528 lcL_L_115 ?_
  refine j_land C d_L_law_531 ?_
  refine j_lor C d_L_law_532 ?_
  refine j_aloadr_n C d_L_law_533 rfl rfl ?_
  refine j_iload C d_L_law_534 rfl ?_
  refine j_iconst (v := 3) C d_L_law_536 (by decide) ?_
  refine j_iadd C d_L_law_537 ?_
  refine j_sld (w := xs (q + 3)) C hX hsc hscb d_L_law_538 (six (k := 3) (by omega) hlen) (sixc (k := 3) (by omega) hlen) ?_
  refine j_callV C d_L_law_539 ml_L_120 mc_M_sign in_M_sign rfl se_M_sign (by omega) (ovM_o _ _ _ _) (c_M_sign_1 hl _ _ _ _ _ (by omega) hx) rfl rfl (Nat.le_trans (m := 9) (Nat.le_of_ble_eq_true rfl) hRf) (Nat.le_trans (m := 200) (Nat.le_of_ble_eq_true rfl) hRl) (by omega) (by omega) (jk_r ?_)
  refine j_istore C d_L_law_542 (by decide) rfl ?_
  refine j_aload_n C d_L_law_544 rfl rfl ?_
  refine j_callV C d_L_law_545 ml_L_96 mc_M_thrown in_M_thrown rfl se_M_thrown (by omega) (ovM_o _ _ _ _) (c_M_thrown hl _ _ _ (by omega)) rfl rfl (Nat.le_trans (m := 9) (Nat.le_of_ble_eq_true rfl) hRf) (Nat.le_trans (m := 200) (Nat.le_of_ble_eq_true rfl) hRl) (by omega) (by omega) (jk_r ?_)
  refine j_iload C d_L_law_548 rfl ?_
  refine j_icmp_eq (tgt := 555) C d_L_law_550 (by decide) (fun c550 => ?_) (fun c550 => ?_)
  · refine j_iload C d_L_law_555 rfl ?_
    refine j_if_ne (tgt := 572) C d_L_law_557 (by decide) (fun c557 => ?_) (fun c557 => ?_)
    · refine j_goto (tgt := 1468) C d_L_law_572 (by decide) ?_
      exact j_pick [2, 3, 4, 5, 6] rfl (kk _ _ _ _ (by omega) (by omega))
    · exact absurd c557 (by decide)
  · exact absurd (upd_s σ0 0 1) c550

set_option maxHeartbeats 4000000 in
set_option maxRecDepth 100000 in
theorem lc_sign_r {p : Program} {l : Launch} {e : Env} {R : Room} {s : State} {m : MethodId} {args : Array Value} {below : List Frame} {meth : Method} {c : Code} {D : va_G} {cA : Nat → ClassId} {b : Nat} {Q : State → Prop} {n : Nat} {h : AH} {kc ks xo mo oo sc q len : Nat} {xs : Nat → Int32} {f : Nat → Int64} (hl : l.stackTraces = false) (C : Cx p l s m meth c D cA b 7 "ReportChecks2Law" "law" b_L_law (some .boolean) []) (hX : va_X sc len xs s s.heap) (hsc : sc < s.heap.size) (hscb : sc < b) (hlen : len < 2 ^ 31) (hq : q + 3 < len) (hRf : 9 ≤ R.frames) (hRl : 200 ≤ R.locals) (hRc : kc + 4 ≤ R.cells) (hRs : ks + 40 ≤ R.slots) (hd1 : xo + 28 ≤ mo) (hd2 : mo + 28 ≤ oo) (hd3 : oo < n) (hout : h oo = .inl (4, 1, .inr (.inl f))) (kk : ∀ n' h' kc' ks', kc' ≤ kc + 4 → ks' ≤ ks + 40 → J p l e R s m args below meth c D cA b 7 Q n' h' kc' ks' 1468 [(4, .int (nI q)), (3, .ref oo), (2, .ref mo), (1, .ref xo), (0, .retAddr sc)] []) (k : Nat) (ek : (xs (q + 3)) = nI k) (k0 : 1 ≤ k) (k1 : k ≤ 8) : J p l e R s m args below meth c D cA b 7 Q n (ovX xo ξ0 β0 ρ0 6 13 (ovM mo σ0 β0 h)) kc ks 475 [(4, .int (nI q)), (3, .ref oo), (2, .ref mo), (1, .ref xo), (0, .retAddr sc)] [] := by
  refine j_aload_n C d_L_law_475 rfl rfl ?_
  refine j_aloadr_n C d_L_law_476 rfl rfl ?_
  refine j_iload C d_L_law_477 rfl ?_
  refine j_iconst (v := 1) C d_L_law_479 (by decide) ?_
  refine j_iadd C d_L_law_480 ?_
  refine j_sld (w := xs (q + 1)) C hX hsc hscb d_L_law_481 (six (k := 1) (by omega) hlen) (sixc (k := 1) (by omega) hlen) ?_
  refine j_i2l C d_L_law_482 rfl ?_
  refine j_bipush (v := 32) C d_L_law_483 (by decide) ?_
  refine j_lshl C d_L_law_485 rfl ?_
  refine j_aloadr_n C d_L_law_486 rfl rfl ?_
  refine j_iload C d_L_law_487 rfl ?_
  refine j_iconst (v := 2) C d_L_law_489 (by decide) ?_
  refine j_iadd C d_L_law_490 ?_
  refine j_sld (w := xs (q + 2)) C hX hsc hscb d_L_law_491 (six (k := 2) (by omega) hlen) (sixc (k := 2) (by omega) hlen) ?_
  refine j_i2l C d_L_law_492 rfl ?_
  refine j_ldc2 (v := 4294967295) C d_L_law_493 lcL_L_115 ?_
  refine j_land C d_L_law_496 ?_
  refine j_lor C d_L_law_497 ?_
  refine j_aloadr_n C d_L_law_498 rfl rfl ?_
  refine j_iload C d_L_law_499 rfl ?_
  refine j_iconst (v := 3) C d_L_law_501 (by decide) ?_
  refine j_iadd C d_L_law_502 ?_
  refine j_sld (w := nI k) C hX hsc hscb d_L_law_503 (six (k := 3) (by omega) hlen) ((sixc (k := 3) (by omega) hlen).trans ek) ?_
  refine j_aload_n C d_L_law_504 rfl rfl ?_
  refine j_callS C d_L_law_505 ml_L_117 mc_L_sign st_L_sign (w_sign_r hl _ _ (by omega) (ovX_c (o := 0) rfl) (c_X_sign_r hl _ (show xo + 28 ≤ n by omega) _ k 0 ξ0_2 k0 k1 (by omega)) (by omega) ((ovX_n (Or.inr (by omega))).trans ((ovM_n (Or.inr (by omega))).trans hout))) rfl rfl (Nat.le_trans (m := 9) (Nat.le_of_ble_eq_true rfl) hRf) (Nat.le_trans (m := 200) (Nat.le_of_ble_eq_true rfl) hRl) (by omega) (by omega) (jk_r ?_)
  refine j_h (lw_eT hd1 (by omega)) ?_
  refine j_istore C d_L_law_508 (by decide) rfl ?_
  refine j_aload_n C d_L_law_510 rfl rfl ?_
  refine j_aloadr_n C d_L_law_511 rfl rfl ?_
  refine j_iload C d_L_law_512 rfl ?_
  refine j_iconst (v := 1) C d_L_law_514 (by decide) ?_
  refine j_iadd C d_L_law_515 ?_
  refine j_sld (w := xs (q + 1)) C hX hsc hscb d_L_law_516 (six (k := 1) (by omega) hlen) (sixc (k := 1) (by omega) hlen) ?_
  refine j_i2l C d_L_law_517 rfl ?_
  refine j_bipush (v := 32) C d_L_law_518 (by decide) ?_
  refine j_lshl C d_L_law_520 rfl ?_
  refine j_aloadr_n C d_L_law_521 rfl rfl ?_
  refine j_iload C d_L_law_522 rfl ?_
  refine j_iconst (v := 2) C d_L_law_524 (by decide) ?_
  refine j_iadd C d_L_law_525 ?_
  refine j_sld (w := xs (q + 2)) C hX hsc hscb d_L_law_526 (six (k := 2) (by omega) hlen) (sixc (k := 2) (by omega) hlen) ?_
  refine j_i2l C d_L_law_527 rfl ?_
  refine j_ldc2 (v := 4294967295) C d_L_law_528 lcL_L_115 ?_
  refine j_land C d_L_law_531 ?_
  refine j_lor C d_L_law_532 ?_
  refine j_aloadr_n C d_L_law_533 rfl rfl ?_
  refine j_iload C d_L_law_534 rfl ?_
  refine j_iconst (v := 3) C d_L_law_536 (by decide) ?_
  refine j_iadd C d_L_law_537 ?_
  refine j_sld (w := nI k) C hX hsc hscb d_L_law_538 (six (k := 3) (by omega) hlen) ((sixc (k := 3) (by omega) hlen).trans ek) ?_
  refine j_callV C d_L_law_539 ml_L_120 mc_M_sign in_M_sign rfl se_M_sign (by omega) (ovM_o _ _ _ _) (c_M_sign_r hl _ k 0 _ _ _ (by omega) σ0_16 k0 k1 (by omega)) rfl rfl (Nat.le_trans (m := 9) (Nat.le_of_ble_eq_true rfl) hRf) (Nat.le_trans (m := 200) (Nat.le_of_ble_eq_true rfl) hRl) (by omega) (by omega) (jk_r ?_)
  refine j_istore C d_L_law_542 (by decide) rfl ?_
  refine j_aload_n C d_L_law_544 rfl rfl ?_
  refine j_callV C d_L_law_545 ml_L_96 mc_M_thrown in_M_thrown rfl se_M_thrown (by omega) (ovM_o _ _ _ _) (c_M_thrown hl _ _ _ (by omega)) rfl rfl (Nat.le_trans (m := 9) (Nat.le_of_ble_eq_true rfl) hRf) (Nat.le_trans (m := 200) (Nat.le_of_ble_eq_true rfl) hRl) (by omega) (by omega) (jk_r ?_)
  refine j_iload C d_L_law_548 rfl ?_
  refine j_icmp_eq (tgt := 555) C d_L_law_550 (by decide) (fun c550 => ?_) (fun c550 => ?_)
  · refine j_iload C d_L_law_555 rfl ?_
    refine j_if_ne (tgt := 572) C d_L_law_557 (by decide) (fun c557 => ?_) (fun c557 => ?_)
    · exact absurd rfl c557
    · refine j_aload_n C d_L_law_560 rfl rfl ?_
      refine j_iconst (v := 0) C d_L_law_561 (by decide) ?_
      refine j_lald (t := 4) (N := 1) C d_L_law_562 rfl (by omega) ((ovM_n (Or.inr (by omega))).trans (hu_s _ _ _)) (vp_in_nI (n := 0) (by omega) (by omega)) rfl ?_
      refine j_iload C d_L_law_563 rfl ?_
      refine j_i2l C d_L_law_565 rfl ?_
      refine j_lcmp C d_L_law_566 ?_
      refine j_if_eq (tgt := 572) C d_L_law_567 (by decide) (fun c567 => ?_) (fun c567 => ?_)
      · refine j_goto (tgt := 1468) C d_L_law_572 (by decide) ?_
        exact j_pick [2, 3, 4, 5, 6] rfl (kk _ _ _ _ (by omega) (by omega))
      · exact absurd (vpz rfl) c567
  · exact absurd (show upd (upd σ0 0 0) 16 (nI (0 + k)) 0 = 0 from rfl) c550

set_option maxHeartbeats 4000000 in
set_option maxRecDepth 100000 in
theorem lc_rules_e {p : Program} {l : Launch} {e : Env} {R : Room} {s : State} {m : MethodId} {args : Array Value} {below : List Frame} {meth : Method} {c : Code} {D : va_G} {cA : Nat → ClassId} {b : Nat} {Q : State → Prop} {n : Nat} {h : AH} {kc ks xo mo oo sc q len : Nat} {xs : Nat → Int32} {f : Nat → Int64} (hl : l.stackTraces = false) (C : Cx p l s m meth c D cA b 7 "ReportChecks2Law" "law" b_L_law (some .boolean) []) (hX : va_X sc len xs s s.heap) (hsc : sc < s.heap.size) (hscb : sc < b) (hlen : len < 2 ^ 31) (hq : q + 3 < len) (hRf : 9 ≤ R.frames) (hRl : 200 ≤ R.locals) (hRc : kc + 4 ≤ R.cells) (hRs : ks + 40 ≤ R.slots) (hd1 : xo + 28 ≤ mo) (hd2 : mo + 28 ≤ oo) (hd3 : oo < n) (hout : h oo = .inl (4, 1, .inr (.inl f))) (kk : ∀ n' h' kc' ks', kc' ≤ kc + 4 → ks' ≤ ks + 40 → J p l e R s m args below meth c D cA b 7 Q n' h' kc' ks' 1468 [(4, .int (nI q)), (3, .ref oo), (2, .ref mo), (1, .ref xo), (0, .retAddr sc)] [])  : J p l e R s m args below meth c D cA b 7 Q n (ovX xo ξ0 β0 ρ0 6 13 (ovM mo σ0 β0 h)) kc ks 575 [(4, .int (nI q)), (3, .ref oo), (2, .ref mo), (1, .ref xo), (0, .retAddr sc)] [] := by
  refine j_aload_n C d_L_law_575 rfl rfl ?_
  refine j_aload_n C d_L_law_576 rfl rfl ?_
  refine j_callS C d_L_law_577 ml_L_121 mc_L_rules st_L_rules (w_rules_r hl  (by omega) (ovX_c (o := 0) rfl) (c_X_rules_e hl _ (show xo + 28 ≤ n by omega) (show ξ0 2 = 0 from rfl)) (by omega) ((ovX_n (Or.inr (by omega))).trans ((ovM_n (Or.inr (by omega))).trans hout))) rfl rfl (Nat.le_trans (m := 9) (Nat.le_of_ble_eq_true rfl) hRf) (Nat.le_trans (m := 200) (Nat.le_of_ble_eq_true rfl) hRl) (by omega) (by omega) (jk_r ?_)
  refine j_h (lw_eT hd1 (by omega)) ?_
  refine j_istore C d_L_law_580 (by decide) rfl ?_
  refine j_aload_n C d_L_law_582 rfl rfl ?_
  refine j_callV C d_L_law_583 ml_L_124 mc_M_rules in_M_rules rfl se_M_rules (by omega) (ovM_o _ _ _ _) (c_M_rules_e hl _ _ _ (by omega) σ0_16) rfl rfl (Nat.le_trans (m := 9) (Nat.le_of_ble_eq_true rfl) hRf) (Nat.le_trans (m := 200) (Nat.le_of_ble_eq_true rfl) hRl) (by omega) (by omega) (jk_r ?_)
  refine j_istore C d_L_law_586 (by decide) rfl ?_
  refine j_aload_n C d_L_law_588 rfl rfl ?_
  refine j_callV C d_L_law_589 ml_L_96 mc_M_thrown in_M_thrown rfl se_M_thrown (by omega) (ovM_o _ _ _ _) (c_M_thrown hl _ _ _ (by omega)) rfl rfl (Nat.le_trans (m := 9) (Nat.le_of_ble_eq_true rfl) hRf) (Nat.le_trans (m := 200) (Nat.le_of_ble_eq_true rfl) hRl) (by omega) (by omega) (jk_r ?_)
  refine j_iload C d_L_law_592 rfl ?_
  refine j_icmp_eq (tgt := 599) C d_L_law_594 (by decide) (fun c594 => ?_) (fun c594 => ?_)
  · refine j_iload C d_L_law_599 rfl ?_
    refine j_if_ne (tgt := 616) C d_L_law_601 (by decide) (fun c601 => ?_) (fun c601 => ?_)
    · exact absurd rfl c601
    · refine j_aload_n C d_L_law_604 rfl rfl ?_
      refine j_iconst (v := 0) C d_L_law_605 (by decide) ?_
      refine j_lald (t := 4) (N := 1) C d_L_law_606 rfl (by omega) ((ovM_n (Or.inr (by omega))).trans (hu_s _ _ _)) (vp_in_nI (n := 0) (by omega) (by omega)) rfl ?_
      refine j_iload C d_L_law_607 rfl ?_
      refine j_i2l C d_L_law_609 rfl ?_
      refine j_lcmp C d_L_law_610 ?_
      refine j_if_eq (tgt := 616) C d_L_law_611 (by decide) (fun c611 => ?_) (fun c611 => ?_)
      · refine j_goto (tgt := 1468) C d_L_law_616 (by decide) ?_
        exact j_pick [2, 3, 4, 5, 6] rfl (kk _ _ _ _ (by omega) (by omega))
      · exact absurd (vpz rfl) c611
  · exact absurd (show (0 : Int32) = 0 from rfl) c594

set_option maxHeartbeats 4000000 in
set_option maxRecDepth 100000 in
theorem lc_check_u {p : Program} {l : Launch} {e : Env} {R : Room} {s : State} {m : MethodId} {args : Array Value} {below : List Frame} {meth : Method} {c : Code} {D : va_G} {cA : Nat → ClassId} {b : Nat} {Q : State → Prop} {n : Nat} {h : AH} {kc ks xo mo oo sc q len : Nat} {xs : Nat → Int32} {f : Nat → Int64} (hl : l.stackTraces = false) (C : Cx p l s m meth c D cA b 7 "ReportChecks2Law" "law" b_L_law (some .boolean) []) (hX : va_X sc len xs s s.heap) (hsc : sc < s.heap.size) (hscb : sc < b) (hlen : len < 2 ^ 31) (hq : q + 3 < len) (hRf : 9 ≤ R.frames) (hRl : 200 ≤ R.locals) (hRc : kc + 4 ≤ R.cells) (hRs : ks + 40 ≤ R.slots) (hd1 : xo + 28 ≤ mo) (hd2 : mo + 28 ≤ oo) (hd3 : oo < n) (hout : h oo = .inl (4, 1, .inr (.inl f))) (kk : ∀ n' h' kc' ks', kc' ≤ kc + 4 → ks' ≤ ks + 40 → J p l e R s m args below meth c D cA b 7 Q n' h' kc' ks' 1468 [(4, .int (nI q)), (3, .ref oo), (2, .ref mo), (1, .ref xo), (0, .retAddr sc)] [])  : J p l e R s m args below meth c D cA b 7 Q n (ovX xo ξ0 β0 ρ0 6 13 (ovM mo σ0 β0 h)) kc ks 632 [(4, .int (nI q)), (3, .ref oo), (2, .ref mo), (1, .ref xo), (0, .retAddr sc)] [] := by
  refine j_aload_n C d_L_law_632 rfl rfl ?_
  refine j_aloadr_n C d_L_law_633 rfl rfl ?_
  refine j_iload C d_L_law_634 rfl ?_
  refine j_iconst (v := 1) C d_L_law_636 (by decide) ?_
  refine j_iadd C d_L_law_637 ?_
  refine j_sld (w := xs (q + 1)) C hX hsc hscb d_L_law_638 (six (k := 1) (by omega) hlen) (sixc (k := 1) (by omega) hlen) ?_
  refine j_aload_n C d_L_law_639 rfl rfl ?_
  refine j_callS C d_L_law_640 ml_L_129 mc_L_check st_L_check (w_check_7 hl _ (by omega) (ovX_c (o := 0) rfl) (c_X_check_u hl _ (show xo + 28 ≤ n by omega) _ (unk0 _))) rfl rfl (Nat.le_trans (m := 9) (Nat.le_of_ble_eq_true rfl) hRf) (Nat.le_trans (m := 200) (Nat.le_of_ble_eq_true rfl) hRl) (by omega) (by omega) (jk_r ?_)
  refine j_h (lw_eT hd1 (by omega)) ?_
  refine j_istore C d_L_law_643 (by decide) rfl ?_
  refine j_aload_n C d_L_law_645 rfl rfl ?_
  refine j_aloadr_n C d_L_law_646 rfl rfl ?_
  refine j_iload C d_L_law_647 rfl ?_
  refine j_iconst (v := 1) C d_L_law_649 (by decide) ?_
  refine j_iadd C d_L_law_650 ?_
  refine j_sld (w := xs (q + 1)) C hX hsc hscb d_L_law_651 (six (k := 1) (by omega) hlen) (sixc (k := 1) (by omega) hlen) ?_
  refine j_callV C d_L_law_652 ml_L_132 mc_M_check in_M_check rfl se_M_check (by omega) (ovM_o _ _ _ _) (c_M_check_u hl _ _ _ _ (by omega) (unkM _)) rfl rfl (Nat.le_trans (m := 9) (Nat.le_of_ble_eq_true rfl) hRf) (Nat.le_trans (m := 200) (Nat.le_of_ble_eq_true rfl) hRl) (by omega) (by omega) (jk_r ?_)
  refine j_istore C d_L_law_655 (by decide) rfl ?_
  refine j_aload_n C d_L_law_657 rfl rfl ?_
  refine j_callV C d_L_law_658 ml_L_96 mc_M_thrown in_M_thrown rfl se_M_thrown (by omega) (ovM_o _ _ _ _) (c_M_thrown hl _ _ _ (by omega)) rfl rfl (Nat.le_trans (m := 9) (Nat.le_of_ble_eq_true rfl) hRf) (Nat.le_trans (m := 200) (Nat.le_of_ble_eq_true rfl) hRl) (by omega) (by omega) (jk_r ?_)
  refine j_iload C d_L_law_661 rfl ?_
  refine j_icmp_eq (tgt := 668) C d_L_law_663 (by decide) (fun c663 => ?_) (fun c663 => ?_)
  · refine j_iload C d_L_law_668 rfl ?_
    refine j_if_ne (tgt := 685) C d_L_law_670 (by decide) (fun c670 => ?_) (fun c670 => ?_)
    · refine j_goto (tgt := 1468) C d_L_law_685 (by decide) ?_
      exact j_pick [2, 3, 4, 5, 6] rfl (kk _ _ _ _ (by omega) (by omega))
    · exact absurd c670 (by decide)
  · exact absurd (upd_s σ0 0 1) c663

set_option maxHeartbeats 4000000 in
set_option maxRecDepth 100000 in
theorem lc_wanting_u {p : Program} {l : Launch} {e : Env} {R : Room} {s : State} {m : MethodId} {args : Array Value} {below : List Frame} {meth : Method} {c : Code} {D : va_G} {cA : Nat → ClassId} {b : Nat} {Q : State → Prop} {n : Nat} {h : AH} {kc ks xo mo oo sc q len : Nat} {xs : Nat → Int32} {f : Nat → Int64} (hl : l.stackTraces = false) (C : Cx p l s m meth c D cA b 7 "ReportChecks2Law" "law" b_L_law (some .boolean) []) (hX : va_X sc len xs s s.heap) (hsc : sc < s.heap.size) (hscb : sc < b) (hlen : len < 2 ^ 31) (hq : q + 3 < len) (hRf : 9 ≤ R.frames) (hRl : 200 ≤ R.locals) (hRc : kc + 4 ≤ R.cells) (hRs : ks + 40 ≤ R.slots) (hd1 : xo + 28 ≤ mo) (hd2 : mo + 28 ≤ oo) (hd3 : oo < n) (hout : h oo = .inl (4, 1, .inr (.inl f))) (kk : ∀ n' h' kc' ks', kc' ≤ kc + 4 → ks' ≤ ks + 40 → J p l e R s m args below meth c D cA b 7 Q n' h' kc' ks' 1468 [(4, .int (nI q)), (3, .ref oo), (2, .ref mo), (1, .ref xo), (0, .retAddr sc)] [])  : J p l e R s m args below meth c D cA b 7 Q n (ovX xo ξ0 β0 ρ0 6 13 (ovM mo σ0 β0 h)) kc ks 688 [(4, .int (nI q)), (3, .ref oo), (2, .ref mo), (1, .ref xo), (0, .retAddr sc)] [] := by
  refine j_aload_n C d_L_law_688 rfl rfl ?_
  refine j_aloadr_n C d_L_law_689 rfl rfl ?_
  refine j_iload C d_L_law_690 rfl ?_
  refine j_iconst (v := 1) C d_L_law_692 (by decide) ?_
  refine j_iadd C d_L_law_693 ?_
  refine j_sld (w := xs (q + 1)) C hX hsc hscb d_L_law_694 (six (k := 1) (by omega) hlen) (sixc (k := 1) (by omega) hlen) ?_
  refine j_aloadr_n C d_L_law_695 rfl rfl ?_
  refine j_iload C d_L_law_696 rfl ?_
  refine j_iconst (v := 2) C d_L_law_698 (by decide) ?_
  refine j_iadd C d_L_law_699 ?_
  refine j_sld (w := xs (q + 2)) C hX hsc hscb d_L_law_700 (six (k := 2) (by omega) hlen) (sixc (k := 2) (by omega) hlen) ?_
  refine j_aload_n C d_L_law_701 rfl rfl ?_
  refine j_callS C d_L_law_702 ml_L_133 mc_L_wanting st_L_wanting (w_wanting_7 hl _ _ (by omega) (ovX_c (o := 0) rfl) (c_X_wanting_u hl _ (show xo + 28 ≤ n by omega) _ _ (unk8 _))) rfl rfl (Nat.le_trans (m := 9) (Nat.le_of_ble_eq_true rfl) hRf) (Nat.le_trans (m := 200) (Nat.le_of_ble_eq_true rfl) hRl) (by omega) (by omega) (jk_r ?_)
  refine j_h (lw_eT hd1 (by omega)) ?_
  refine j_istore C d_L_law_705 (by decide) rfl ?_
  refine j_aload_n C d_L_law_707 rfl rfl ?_
  refine j_aloadr_n C d_L_law_708 rfl rfl ?_
  refine j_iload C d_L_law_709 rfl ?_
  refine j_iconst (v := 1) C d_L_law_711 (by decide) ?_
  refine j_iadd C d_L_law_712 ?_
  refine j_sld (w := xs (q + 1)) C hX hsc hscb d_L_law_713 (six (k := 1) (by omega) hlen) (sixc (k := 1) (by omega) hlen) ?_
  refine j_aloadr_n C d_L_law_714 rfl rfl ?_
  refine j_iload C d_L_law_715 rfl ?_
  refine j_iconst (v := 2) C d_L_law_717 (by decide) ?_
  refine j_iadd C d_L_law_718 ?_
  refine j_sld (w := xs (q + 2)) C hX hsc hscb d_L_law_719 (six (k := 2) (by omega) hlen) (sixc (k := 2) (by omega) hlen) ?_
  refine j_callV C d_L_law_720 ml_L_135 mc_M_wanting in_M_wanting rfl se_M_wanting (by omega) (ovM_o _ _ _ _) (c_M_wanting hl _ _ _ _ _ (by omega) 0 σ0_34 (by omega)) rfl rfl (Nat.le_trans (m := 9) (Nat.le_of_ble_eq_true rfl) hRf) (Nat.le_trans (m := 200) (Nat.le_of_ble_eq_true rfl) hRl) (by omega) (by omega) (jk_r ?_)
  refine j_istore C d_L_law_723 (by decide) rfl ?_
  refine j_aload_n C d_L_law_725 rfl rfl ?_
  refine j_callV C d_L_law_726 ml_L_96 mc_M_thrown in_M_thrown rfl se_M_thrown (by omega) (ovM_o _ _ _ _) (c_M_thrown hl _ _ _ (by omega)) rfl rfl (Nat.le_trans (m := 9) (Nat.le_of_ble_eq_true rfl) hRf) (Nat.le_trans (m := 200) (Nat.le_of_ble_eq_true rfl) hRl) (by omega) (by omega) (jk_r ?_)
  refine j_iload C d_L_law_729 rfl ?_
  refine j_icmp_eq (tgt := 736) C d_L_law_731 (by decide) (fun c731 => ?_) (fun c731 => ?_)
  · refine j_iload C d_L_law_736 rfl ?_
    refine j_if_ne (tgt := 753) C d_L_law_738 (by decide) (fun c738 => ?_) (fun c738 => ?_)
    · refine j_goto (tgt := 1468) C d_L_law_753 (by decide) ?_
      exact j_pick [2, 3, 4, 5, 6] rfl (kk _ _ _ _ (by omega) (by omega))
    · exact absurd c738 (by decide)
  · exact absurd (tr_wanting_u β0 _ _) c731

set_option maxHeartbeats 4000000 in
set_option maxRecDepth 100000 in
theorem lc_put_u {p : Program} {l : Launch} {e : Env} {R : Room} {s : State} {m : MethodId} {args : Array Value} {below : List Frame} {meth : Method} {c : Code} {D : va_G} {cA : Nat → ClassId} {b : Nat} {Q : State → Prop} {n : Nat} {h : AH} {kc ks xo mo oo sc q len : Nat} {xs : Nat → Int32} {f : Nat → Int64} (hl : l.stackTraces = false) (C : Cx p l s m meth c D cA b 7 "ReportChecks2Law" "law" b_L_law (some .boolean) []) (hX : va_X sc len xs s s.heap) (hsc : sc < s.heap.size) (hscb : sc < b) (hlen : len < 2 ^ 31) (hq : q + 3 < len) (hRf : 9 ≤ R.frames) (hRl : 200 ≤ R.locals) (hRc : kc + 4 ≤ R.cells) (hRs : ks + 40 ≤ R.slots) (hd1 : xo + 28 ≤ mo) (hd2 : mo + 28 ≤ oo) (hd3 : oo < n) (hout : h oo = .inl (4, 1, .inr (.inl f))) (kk : ∀ n' h' kc' ks', kc' ≤ kc + 4 → ks' ≤ ks + 40 → J p l e R s m args below meth c D cA b 7 Q n' h' kc' ks' 1468 [(4, .int (nI q)), (3, .ref oo), (2, .ref mo), (1, .ref xo), (0, .retAddr sc)] [])  : J p l e R s m args below meth c D cA b 7 Q n (ovX xo ξ0 β0 ρ0 6 13 (ovM mo σ0 β0 h)) kc ks 756 [(4, .int (nI q)), (3, .ref oo), (2, .ref mo), (1, .ref xo), (0, .retAddr sc)] [] := by
  refine j_aload_n C d_L_law_756 rfl rfl ?_
  refine j_aloadr_n C d_L_law_757 rfl rfl ?_
  refine j_iload C d_L_law_758 rfl ?_
  refine j_iconst (v := 1) C d_L_law_760 (by decide) ?_
  refine j_iadd C d_L_law_761 ?_
  refine j_sld (w := xs (q + 1)) C hX hsc hscb d_L_law_762 (six (k := 1) (by omega) hlen) (sixc (k := 1) (by omega) hlen) ?_
  refine j_aloadr_n C d_L_law_763 rfl rfl ?_
  refine j_iload C d_L_law_764 rfl ?_
  refine j_iconst (v := 2) C d_L_law_766 (by decide) ?_
  refine j_iadd C d_L_law_767 ?_
  refine j_sld (w := xs (q + 2)) C hX hsc hscb d_L_law_768 (six (k := 2) (by omega) hlen) (sixc (k := 2) (by omega) hlen) ?_
  refine j_aload_n C d_L_law_769 rfl rfl ?_
  refine j_callS C d_L_law_770 ml_L_136 mc_L_put st_L_put (w_put_7 hl _ _ (by omega) (ovX_c (o := 0) rfl) (c_X_put_u hl _ (show xo + 28 ≤ n by omega) _ _ (unk0 _))) rfl rfl (Nat.le_trans (m := 9) (Nat.le_of_ble_eq_true rfl) hRf) (Nat.le_trans (m := 200) (Nat.le_of_ble_eq_true rfl) hRl) (by omega) (by omega) (jk_r ?_)
  refine j_h (lw_eT hd1 (by omega)) ?_
  refine j_istore C d_L_law_773 (by decide) rfl ?_
  refine j_aload_n C d_L_law_775 rfl rfl ?_
  refine j_aloadr_n C d_L_law_776 rfl rfl ?_
  refine j_iload C d_L_law_777 rfl ?_
  refine j_iconst (v := 1) C d_L_law_779 (by decide) ?_
  refine j_iadd C d_L_law_780 ?_
  refine j_sld (w := xs (q + 1)) C hX hsc hscb d_L_law_781 (six (k := 1) (by omega) hlen) (sixc (k := 1) (by omega) hlen) ?_
  refine j_aloadr_n C d_L_law_782 rfl rfl ?_
  refine j_iload C d_L_law_783 rfl ?_
  refine j_iconst (v := 2) C d_L_law_785 (by decide) ?_
  refine j_iadd C d_L_law_786 ?_
  refine j_sld (w := xs (q + 2)) C hX hsc hscb d_L_law_787 (six (k := 2) (by omega) hlen) (sixc (k := 2) (by omega) hlen) ?_
  refine j_callV C d_L_law_788 ml_L_138 mc_M_put in_M_put rfl se_M_put (by omega) (ovM_o _ _ _ _) (c_M_put_u hl _ _ _ _ _ (by omega) (unkM _)) rfl rfl (Nat.le_trans (m := 9) (Nat.le_of_ble_eq_true rfl) hRf) (Nat.le_trans (m := 200) (Nat.le_of_ble_eq_true rfl) hRl) (by omega) (by omega) (jk_r ?_)
  refine j_istore C d_L_law_791 (by decide) rfl ?_
  refine j_aload_n C d_L_law_793 rfl rfl ?_
  refine j_callV C d_L_law_794 ml_L_96 mc_M_thrown in_M_thrown rfl se_M_thrown (by omega) (ovM_o _ _ _ _) (c_M_thrown hl _ _ _ (by omega)) rfl rfl (Nat.le_trans (m := 9) (Nat.le_of_ble_eq_true rfl) hRf) (Nat.le_trans (m := 200) (Nat.le_of_ble_eq_true rfl) hRl) (by omega) (by omega) (jk_r ?_)
  refine j_iload C d_L_law_797 rfl ?_
  refine j_icmp_eq (tgt := 804) C d_L_law_799 (by decide) (fun c799 => ?_) (fun c799 => ?_)
  · refine j_iload C d_L_law_804 rfl ?_
    refine j_if_ne (tgt := 821) C d_L_law_806 (by decide) (fun c806 => ?_) (fun c806 => ?_)
    · refine j_goto (tgt := 1468) C d_L_law_821 (by decide) ?_
      exact j_pick [2, 3, 4, 5, 6] rfl (kk _ _ _ _ (by omega) (by omega))
    · exact absurd c806 (by decide)
  · exact absurd (upd_s σ0 0 1) c799

set_option maxHeartbeats 4000000 in
set_option maxRecDepth 100000 in
theorem lc_edition_u {p : Program} {l : Launch} {e : Env} {R : Room} {s : State} {m : MethodId} {args : Array Value} {below : List Frame} {meth : Method} {c : Code} {D : va_G} {cA : Nat → ClassId} {b : Nat} {Q : State → Prop} {n : Nat} {h : AH} {kc ks xo mo oo sc q len : Nat} {xs : Nat → Int32} {f : Nat → Int64} (hl : l.stackTraces = false) (C : Cx p l s m meth c D cA b 7 "ReportChecks2Law" "law" b_L_law (some .boolean) []) (hX : va_X sc len xs s s.heap) (hsc : sc < s.heap.size) (hscb : sc < b) (hlen : len < 2 ^ 31) (hq : q + 3 < len) (hRf : 9 ≤ R.frames) (hRl : 200 ≤ R.locals) (hRc : kc + 4 ≤ R.cells) (hRs : ks + 40 ≤ R.slots) (hd1 : xo + 28 ≤ mo) (hd2 : mo + 28 ≤ oo) (hd3 : oo < n) (hout : h oo = .inl (4, 1, .inr (.inl f))) (kk : ∀ n' h' kc' ks', kc' ≤ kc + 4 → ks' ≤ ks + 40 → J p l e R s m args below meth c D cA b 7 Q n' h' kc' ks' 1468 [(4, .int (nI q)), (3, .ref oo), (2, .ref mo), (1, .ref xo), (0, .retAddr sc)] [])  : J p l e R s m args below meth c D cA b 7 Q n (ovX xo ξ0 β0 ρ0 6 13 (ovM mo σ0 β0 h)) kc ks 824 [(4, .int (nI q)), (3, .ref oo), (2, .ref mo), (1, .ref xo), (0, .retAddr sc)] [] := by
  refine j_aload_n C d_L_law_824 rfl rfl ?_
  refine j_aloadr_n C d_L_law_825 rfl rfl ?_
  refine j_iload C d_L_law_826 rfl ?_
  refine j_iconst (v := 1) C d_L_law_828 (by decide) ?_
  refine j_iadd C d_L_law_829 ?_
  refine j_sld (w := xs (q + 1)) C hX hsc hscb d_L_law_830 (six (k := 1) (by omega) hlen) (sixc (k := 1) (by omega) hlen) ?_
  refine j_aload_n C d_L_law_831 rfl rfl ?_
  refine j_callS C d_L_law_832 ml_L_139 mc_L_edition st_L_edition (w_edition_7 hl _ (by omega) (ovX_c (o := 0) rfl) (c_X_edition_u hl _ (show xo + 28 ≤ n by omega) _ (unk0 _))) rfl rfl (Nat.le_trans (m := 9) (Nat.le_of_ble_eq_true rfl) hRf) (Nat.le_trans (m := 200) (Nat.le_of_ble_eq_true rfl) hRl) (by omega) (by omega) (jk_r ?_)
  refine j_h (lw_eT hd1 (by omega)) ?_
  refine j_istore C d_L_law_835 (by decide) rfl ?_
  refine j_aload_n C d_L_law_837 rfl rfl ?_
  refine j_aloadr_n C d_L_law_838 rfl rfl ?_
  refine j_iload C d_L_law_839 rfl ?_
  refine j_iconst (v := 1) C d_L_law_841 (by decide) ?_
  refine j_iadd C d_L_law_842 ?_
  refine j_sld (w := xs (q + 1)) C hX hsc hscb d_L_law_843 (six (k := 1) (by omega) hlen) (sixc (k := 1) (by omega) hlen) ?_
  refine j_callV C d_L_law_844 ml_L_141 mc_M_edition in_M_edition rfl se_M_edition (by omega) (ovM_o _ _ _ _) (c_M_edition_u hl _ _ _ _ (by omega) (unkM _)) rfl rfl (Nat.le_trans (m := 9) (Nat.le_of_ble_eq_true rfl) hRf) (Nat.le_trans (m := 200) (Nat.le_of_ble_eq_true rfl) hRl) (by omega) (by omega) (jk_r ?_)
  refine j_istore C d_L_law_847 (by decide) rfl ?_
  refine j_aload_n C d_L_law_849 rfl rfl ?_
  refine j_callV C d_L_law_850 ml_L_96 mc_M_thrown in_M_thrown rfl se_M_thrown (by omega) (ovM_o _ _ _ _) (c_M_thrown hl _ _ _ (by omega)) rfl rfl (Nat.le_trans (m := 9) (Nat.le_of_ble_eq_true rfl) hRf) (Nat.le_trans (m := 200) (Nat.le_of_ble_eq_true rfl) hRl) (by omega) (by omega) (jk_r ?_)
  refine j_iload C d_L_law_853 rfl ?_
  refine j_icmp_eq (tgt := 860) C d_L_law_855 (by decide) (fun c855 => ?_) (fun c855 => ?_)
  · refine j_iload C d_L_law_860 rfl ?_
    refine j_if_ne (tgt := 877) C d_L_law_862 (by decide) (fun c862 => ?_) (fun c862 => ?_)
    · refine j_goto (tgt := 1468) C d_L_law_877 (by decide) ?_
      exact j_pick [2, 3, 4, 5, 6] rfl (kk _ _ _ _ (by omega) (by omega))
    · exact absurd c862 (by decide)
  · exact absurd (upd_s σ0 0 1) c855

set_option maxHeartbeats 4000000 in
set_option maxRecDepth 100000 in
theorem lc_fault_u {p : Program} {l : Launch} {e : Env} {R : Room} {s : State} {m : MethodId} {args : Array Value} {below : List Frame} {meth : Method} {c : Code} {D : va_G} {cA : Nat → ClassId} {b : Nat} {Q : State → Prop} {n : Nat} {h : AH} {kc ks xo mo oo sc q len : Nat} {xs : Nat → Int32} {f : Nat → Int64} (hl : l.stackTraces = false) (C : Cx p l s m meth c D cA b 7 "ReportChecks2Law" "law" b_L_law (some .boolean) []) (hX : va_X sc len xs s s.heap) (hsc : sc < s.heap.size) (hscb : sc < b) (hlen : len < 2 ^ 31) (hq : q + 3 < len) (hRf : 9 ≤ R.frames) (hRl : 200 ≤ R.locals) (hRc : kc + 4 ≤ R.cells) (hRs : ks + 40 ≤ R.slots) (hd1 : xo + 28 ≤ mo) (hd2 : mo + 28 ≤ oo) (hd3 : oo < n) (hout : h oo = .inl (4, 1, .inr (.inl f))) (kk : ∀ n' h' kc' ks', kc' ≤ kc + 4 → ks' ≤ ks + 40 → J p l e R s m args below meth c D cA b 7 Q n' h' kc' ks' 1468 [(4, .int (nI q)), (3, .ref oo), (2, .ref mo), (1, .ref xo), (0, .retAddr sc)] [])  : J p l e R s m args below meth c D cA b 7 Q n (ovX xo ξ0 β0 ρ0 6 13 (ovM mo σ0 β0 h)) kc ks 880 [(4, .int (nI q)), (3, .ref oo), (2, .ref mo), (1, .ref xo), (0, .retAddr sc)] [] := by
  refine j_aload_n C d_L_law_880 rfl rfl ?_
  refine j_aloadr_n C d_L_law_881 rfl rfl ?_
  refine j_iload C d_L_law_882 rfl ?_
  refine j_iconst (v := 1) C d_L_law_884 (by decide) ?_
  refine j_iadd C d_L_law_885 ?_
  refine j_sld (w := xs (q + 1)) C hX hsc hscb d_L_law_886 (six (k := 1) (by omega) hlen) (sixc (k := 1) (by omega) hlen) ?_
  refine j_aloadr_n C d_L_law_887 rfl rfl ?_
  refine j_iload C d_L_law_888 rfl ?_
  refine j_iconst (v := 2) C d_L_law_890 (by decide) ?_
  refine j_iadd C d_L_law_891 ?_
  refine j_sld (w := xs (q + 2)) C hX hsc hscb d_L_law_892 (six (k := 2) (by omega) hlen) (sixc (k := 2) (by omega) hlen) ?_
  refine j_callS C d_L_law_893 ml_L_142 mc_L_fault st_L_fault (w_fault_7 hl _ _ (by omega) (ovX_c (o := 0) rfl) (c_X_fault_u hl _ (show xo + 28 ≤ n by omega) _ _ (unk0 _))) rfl rfl (Nat.le_trans (m := 9) (Nat.le_of_ble_eq_true rfl) hRf) (Nat.le_trans (m := 200) (Nat.le_of_ble_eq_true rfl) hRl) (by omega) (by omega) (jk_r ?_)
  refine j_h (lw_eT hd1 (by omega)) ?_
  refine j_istore C d_L_law_896 (by decide) rfl ?_
  refine j_aload_n C d_L_law_898 rfl rfl ?_
  refine j_aloadr_n C d_L_law_899 rfl rfl ?_
  refine j_iload C d_L_law_900 rfl ?_
  refine j_iconst (v := 1) C d_L_law_902 (by decide) ?_
  refine j_iadd C d_L_law_903 ?_
  refine j_sld (w := xs (q + 1)) C hX hsc hscb d_L_law_904 (six (k := 1) (by omega) hlen) (sixc (k := 1) (by omega) hlen) ?_
  refine j_aloadr_n C d_L_law_905 rfl rfl ?_
  refine j_iload C d_L_law_906 rfl ?_
  refine j_iconst (v := 2) C d_L_law_908 (by decide) ?_
  refine j_iadd C d_L_law_909 ?_
  refine j_sld (w := xs (q + 2)) C hX hsc hscb d_L_law_910 (six (k := 2) (by omega) hlen) (sixc (k := 2) (by omega) hlen) ?_
  refine j_callV C d_L_law_911 ml_L_144 mc_M_fault in_M_fault rfl se_M_fault (by omega) (ovM_o _ _ _ _) (c_M_fault hl _ _ _ _ _ (by omega) 0 σ0_2 (by omega)) rfl rfl (Nat.le_trans (m := 9) (Nat.le_of_ble_eq_true rfl) hRf) (Nat.le_trans (m := 200) (Nat.le_of_ble_eq_true rfl) hRl) (by omega) (by omega) (jk_v ?_)
  refine j_aload_n C d_L_law_914 rfl rfl ?_
  refine j_callV C d_L_law_915 ml_L_96 mc_M_thrown in_M_thrown rfl se_M_thrown (by omega) (ovM_o _ _ _ _) (c_M_thrown hl _ _ _ (by omega)) rfl rfl (Nat.le_trans (m := 9) (Nat.le_of_ble_eq_true rfl) hRf) (Nat.le_trans (m := 200) (Nat.le_of_ble_eq_true rfl) hRl) (by omega) (by omega) (jk_r ?_)
  refine j_iload C d_L_law_918 rfl ?_
  refine j_icmp_eq (tgt := 925) C d_L_law_920 (by decide) (fun c920 => ?_) (fun c920 => ?_)
  · refine j_goto (tgt := 1468) C d_L_law_925 (by decide) ?_
    exact j_pick [1, 2, 3, 4, 5] rfl (kk _ _ _ _ (by omega) (by omega))
  · exact absurd (tr_fault_u β0 _ _) c920

set_option maxHeartbeats 4000000 in
set_option maxRecDepth 100000 in
theorem lc_hide_a {p : Program} {l : Launch} {e : Env} {R : Room} {s : State} {m : MethodId} {args : Array Value} {below : List Frame} {meth : Method} {c : Code} {D : va_G} {cA : Nat → ClassId} {b : Nat} {Q : State → Prop} {n : Nat} {h : AH} {kc ks xo mo oo sc q len : Nat} {xs : Nat → Int32} {f : Nat → Int64} (hl : l.stackTraces = false) (C : Cx p l s m meth c D cA b 7 "ReportChecks2Law" "law" b_L_law (some .boolean) []) (hX : va_X sc len xs s s.heap) (hsc : sc < s.heap.size) (hscb : sc < b) (hlen : len < 2 ^ 31) (hq : q + 3 < len) (hRf : 9 ≤ R.frames) (hRl : 200 ≤ R.locals) (hRc : kc + 4 ≤ R.cells) (hRs : ks + 40 ≤ R.slots) (hd1 : xo + 28 ≤ mo) (hd2 : mo + 28 ≤ oo) (hd3 : oo < n) (hout : h oo = .inl (4, 1, .inr (.inl f))) (kk : ∀ n' h' kc' ks', kc' ≤ kc + 4 → ks' ≤ ks + 40 → J p l e R s m args below meth c D cA b 7 Q n' h' kc' ks' 1468 [(4, .int (nI q)), (3, .ref oo), (2, .ref mo), (1, .ref xo), (0, .retAddr sc)] []) (hk : (xs (q + 1)) < 0 ∨ ¬ (xs (q + 1)) < 20) : J p l e R s m args below meth c D cA b 7 Q n (ovX xo ξ0 β0 ρ0 6 13 (ovM mo σ0 β0 h)) kc ks 928 [(4, .int (nI q)), (3, .ref oo), (2, .ref mo), (1, .ref xo), (0, .retAddr sc)] [] := by
  refine j_aload_n C d_L_law_928 rfl rfl ?_
  refine j_aloadr_n C d_L_law_929 rfl rfl ?_
  refine j_iload C d_L_law_930 rfl ?_
  refine j_iconst (v := 1) C d_L_law_932 (by decide) ?_
  refine j_iadd C d_L_law_933 ?_
  refine j_sld (w := xs (q + 1)) C hX hsc hscb d_L_law_934 (six (k := 1) (by omega) hlen) (sixc (k := 1) (by omega) hlen) ?_
  refine j_aloadr_n C d_L_law_935 rfl rfl ?_
  refine j_iload C d_L_law_936 rfl ?_
  refine j_iconst (v := 2) C d_L_law_938 (by decide) ?_
  refine j_iadd C d_L_law_939 ?_
  refine j_sld (w := xs (q + 2)) C hX hsc hscb d_L_law_940 (six (k := 2) (by omega) hlen) (sixc (k := 2) (by omega) hlen) ?_
  refine j_aloadr_n C d_L_law_941 rfl rfl ?_
  refine j_iload C d_L_law_942 rfl ?_
  refine j_iconst (v := 3) C d_L_law_944 (by decide) ?_
  refine j_iadd C d_L_law_945 ?_
  refine j_sld (w := xs (q + 3)) C hX hsc hscb d_L_law_946 (six (k := 3) (by omega) hlen) (sixc (k := 3) (by omega) hlen) ?_
  refine j_if_eq (tgt := 954) C d_L_law_947 (by decide) (fun c947 => ?_) (fun c947 => ?_)
  · refine j_iconst (v := 0) C d_L_law_954 (by decide) ?_
    refine j_callS C d_L_law_955 ml_L_145 mc_L_hide st_L_hide (w_hide_7 hl _ _ _ (by omega) (ovX_c (o := 0) rfl) (c_X_hide_a hl _ (show xo + 28 ≤ n by omega) _ _ _ hk)) rfl rfl (Nat.le_trans (m := 9) (Nat.le_of_ble_eq_true rfl) hRf) (Nat.le_trans (m := 200) (Nat.le_of_ble_eq_true rfl) hRl) (by omega) (by omega) (jk_r ?_)
    refine j_h (lw_eT hd1 (by omega)) ?_
    refine j_istore C d_L_law_958 (by decide) rfl ?_
    refine j_aload_n C d_L_law_960 rfl rfl ?_
    refine j_aloadr_n C d_L_law_961 rfl rfl ?_
    refine j_iload C d_L_law_962 rfl ?_
    refine j_iconst (v := 1) C d_L_law_964 (by decide) ?_
    refine j_iadd C d_L_law_965 ?_
    refine j_sld (w := xs (q + 1)) C hX hsc hscb d_L_law_966 (six (k := 1) (by omega) hlen) (sixc (k := 1) (by omega) hlen) ?_
    refine j_aloadr_n C d_L_law_967 rfl rfl ?_
    refine j_iload C d_L_law_968 rfl ?_
    refine j_iconst (v := 2) C d_L_law_970 (by decide) ?_
    refine j_iadd C d_L_law_971 ?_
    refine j_sld (w := xs (q + 2)) C hX hsc hscb d_L_law_972 (six (k := 2) (by omega) hlen) (sixc (k := 2) (by omega) hlen) ?_
    refine j_aloadr_n C d_L_law_973 rfl rfl ?_
    refine j_iload C d_L_law_974 rfl ?_
    refine j_iconst (v := 3) C d_L_law_976 (by decide) ?_
    refine j_iadd C d_L_law_977 ?_
    refine j_sld (w := xs (q + 3)) C hX hsc hscb d_L_law_978 (six (k := 3) (by omega) hlen) (sixc (k := 3) (by omega) hlen) ?_
    refine j_if_eq (tgt := 986) C d_L_law_979 (by decide) (fun c979 => ?_) (fun c979 => ?_)
    · refine j_iconst (v := 0) C d_L_law_986 (by decide) ?_
      refine j_callV C d_L_law_987 ml_L_147 mc_M_hide in_M_hide rfl se_M_hide (by omega) (ovM_o _ _ _ _) (c_M_hide hl _ _ _ _ _ _ (by omega)) rfl rfl (Nat.le_trans (m := 9) (Nat.le_of_ble_eq_true rfl) hRf) (Nat.le_trans (m := 200) (Nat.le_of_ble_eq_true rfl) hRl) (by omega) (by omega) (jk_v ?_)
      refine j_aload_n C d_L_law_990 rfl rfl ?_
      refine j_callV C d_L_law_991 ml_L_96 mc_M_thrown in_M_thrown rfl se_M_thrown (by omega) (ovM_o _ _ _ _) (c_M_thrown hl _ _ _ (by omega)) rfl rfl (Nat.le_trans (m := 9) (Nat.le_of_ble_eq_true rfl) hRf) (Nat.le_trans (m := 200) (Nat.le_of_ble_eq_true rfl) hRl) (by omega) (by omega) (jk_r ?_)
      refine j_iload C d_L_law_994 rfl ?_
      refine j_icmp_eq (tgt := 1001) C d_L_law_996 (by decide) (fun c996 => ?_) (fun c996 => ?_)
      · refine j_goto (tgt := 1468) C d_L_law_1001 (by decide) ?_
        exact j_pick [1, 2, 3, 4, 5] rfl (kk _ _ _ _ (by omega) (by omega))
      · exact absurd (tr_hide_1 σ0 β0 (xs (q + 1)) (xs (q + 2)) _ hk) c996
    · exact absurd c947 c979
  · refine j_iconst (v := 1) C d_L_law_950 (by decide) ?_
    refine j_goto (tgt := 955) C d_L_law_951 (by decide) ?_
    refine j_callS C d_L_law_955 ml_L_145 mc_L_hide st_L_hide (w_hide_7 hl _ _ _ (by omega) (ovX_c (o := 0) rfl) (c_X_hide_a hl _ (show xo + 28 ≤ n by omega) _ _ _ hk)) rfl rfl (Nat.le_trans (m := 9) (Nat.le_of_ble_eq_true rfl) hRf) (Nat.le_trans (m := 200) (Nat.le_of_ble_eq_true rfl) hRl) (by omega) (by omega) (jk_r ?_)
    refine j_h (lw_eT hd1 (by omega)) ?_
    refine j_istore C d_L_law_958 (by decide) rfl ?_
    refine j_aload_n C d_L_law_960 rfl rfl ?_
    refine j_aloadr_n C d_L_law_961 rfl rfl ?_
    refine j_iload C d_L_law_962 rfl ?_
    refine j_iconst (v := 1) C d_L_law_964 (by decide) ?_
    refine j_iadd C d_L_law_965 ?_
    refine j_sld (w := xs (q + 1)) C hX hsc hscb d_L_law_966 (six (k := 1) (by omega) hlen) (sixc (k := 1) (by omega) hlen) ?_
    refine j_aloadr_n C d_L_law_967 rfl rfl ?_
    refine j_iload C d_L_law_968 rfl ?_
    refine j_iconst (v := 2) C d_L_law_970 (by decide) ?_
    refine j_iadd C d_L_law_971 ?_
    refine j_sld (w := xs (q + 2)) C hX hsc hscb d_L_law_972 (six (k := 2) (by omega) hlen) (sixc (k := 2) (by omega) hlen) ?_
    refine j_aloadr_n C d_L_law_973 rfl rfl ?_
    refine j_iload C d_L_law_974 rfl ?_
    refine j_iconst (v := 3) C d_L_law_976 (by decide) ?_
    refine j_iadd C d_L_law_977 ?_
    refine j_sld (w := xs (q + 3)) C hX hsc hscb d_L_law_978 (six (k := 3) (by omega) hlen) (sixc (k := 3) (by omega) hlen) ?_
    refine j_if_eq (tgt := 986) C d_L_law_979 (by decide) (fun c979 => ?_) (fun c979 => ?_)
    · exact absurd c979 c947
    · refine j_iconst (v := 1) C d_L_law_982 (by decide) ?_
      refine j_goto (tgt := 987) C d_L_law_983 (by decide) ?_
      refine j_callV C d_L_law_987 ml_L_147 mc_M_hide in_M_hide rfl se_M_hide (by omega) (ovM_o _ _ _ _) (c_M_hide hl _ _ _ _ _ _ (by omega)) rfl rfl (Nat.le_trans (m := 9) (Nat.le_of_ble_eq_true rfl) hRf) (Nat.le_trans (m := 200) (Nat.le_of_ble_eq_true rfl) hRl) (by omega) (by omega) (jk_v ?_)
      refine j_aload_n C d_L_law_990 rfl rfl ?_
      refine j_callV C d_L_law_991 ml_L_96 mc_M_thrown in_M_thrown rfl se_M_thrown (by omega) (ovM_o _ _ _ _) (c_M_thrown hl _ _ _ (by omega)) rfl rfl (Nat.le_trans (m := 9) (Nat.le_of_ble_eq_true rfl) hRf) (Nat.le_trans (m := 200) (Nat.le_of_ble_eq_true rfl) hRl) (by omega) (by omega) (jk_r ?_)
      refine j_iload C d_L_law_994 rfl ?_
      refine j_icmp_eq (tgt := 1001) C d_L_law_996 (by decide) (fun c996 => ?_) (fun c996 => ?_)
      · refine j_goto (tgt := 1468) C d_L_law_1001 (by decide) ?_
        exact j_pick [1, 2, 3, 4, 5] rfl (kk _ _ _ _ (by omega) (by omega))
      · exact absurd (tr_hide_1 σ0 β0 (xs (q + 1)) (xs (q + 2)) _ hk) c996

set_option maxHeartbeats 4000000 in
set_option maxRecDepth 100000 in
theorem lc_hide_b {p : Program} {l : Launch} {e : Env} {R : Room} {s : State} {m : MethodId} {args : Array Value} {below : List Frame} {meth : Method} {c : Code} {D : va_G} {cA : Nat → ClassId} {b : Nat} {Q : State → Prop} {n : Nat} {h : AH} {kc ks xo mo oo sc q len : Nat} {xs : Nat → Int32} {f : Nat → Int64} (hl : l.stackTraces = false) (C : Cx p l s m meth c D cA b 7 "ReportChecks2Law" "law" b_L_law (some .boolean) []) (hX : va_X sc len xs s s.heap) (hsc : sc < s.heap.size) (hscb : sc < b) (hlen : len < 2 ^ 31) (hq : q + 3 < len) (hRf : 9 ≤ R.frames) (hRl : 200 ≤ R.locals) (hRc : kc + 4 ≤ R.cells) (hRs : ks + 40 ≤ R.slots) (hd1 : xo + 28 ≤ mo) (hd2 : mo + 28 ≤ oo) (hd3 : oo < n) (hout : h oo = .inl (4, 1, .inr (.inl f))) (kk : ∀ n' h' kc' ks', kc' ≤ kc + 4 → ks' ≤ ks + 40 → J p l e R s m args below meth c D cA b 7 Q n' h' kc' ks' 1468 [(4, .int (nI q)), (3, .ref oo), (2, .ref mo), (1, .ref xo), (0, .retAddr sc)] []) (k0 : ¬ (xs (q + 1)) < 0) (k1 : (xs (q + 1)) < 20) (hk : (xs (q + 2)) < 0 ∨ ¬ (xs (q + 2)) < 20) : J p l e R s m args below meth c D cA b 7 Q n (ovX xo ξ0 β0 ρ0 6 13 (ovM mo σ0 β0 h)) kc ks 928 [(4, .int (nI q)), (3, .ref oo), (2, .ref mo), (1, .ref xo), (0, .retAddr sc)] [] := by
  refine j_aload_n C d_L_law_928 rfl rfl ?_
  refine j_aloadr_n C d_L_law_929 rfl rfl ?_
  refine j_iload C d_L_law_930 rfl ?_
  refine j_iconst (v := 1) C d_L_law_932 (by decide) ?_
  refine j_iadd C d_L_law_933 ?_
  refine j_sld (w := xs (q + 1)) C hX hsc hscb d_L_law_934 (six (k := 1) (by omega) hlen) (sixc (k := 1) (by omega) hlen) ?_
  refine j_aloadr_n C d_L_law_935 rfl rfl ?_
  refine j_iload C d_L_law_936 rfl ?_
  refine j_iconst (v := 2) C d_L_law_938 (by decide) ?_
  refine j_iadd C d_L_law_939 ?_
  refine j_sld (w := xs (q + 2)) C hX hsc hscb d_L_law_940 (six (k := 2) (by omega) hlen) (sixc (k := 2) (by omega) hlen) ?_
  refine j_aloadr_n C d_L_law_941 rfl rfl ?_
  refine j_iload C d_L_law_942 rfl ?_
  refine j_iconst (v := 3) C d_L_law_944 (by decide) ?_
  refine j_iadd C d_L_law_945 ?_
  refine j_sld (w := xs (q + 3)) C hX hsc hscb d_L_law_946 (six (k := 3) (by omega) hlen) (sixc (k := 3) (by omega) hlen) ?_
  refine j_if_eq (tgt := 954) C d_L_law_947 (by decide) (fun c947 => ?_) (fun c947 => ?_)
  · refine j_iconst (v := 0) C d_L_law_954 (by decide) ?_
    refine j_callS C d_L_law_955 ml_L_145 mc_L_hide st_L_hide (w_hide_7 hl _ _ _ (by omega) (ovX_c (o := 0) rfl) (c_X_hide_b hl _ (show xo + 28 ≤ n by omega) _ _ _ k0 k1 hk)) rfl rfl (Nat.le_trans (m := 9) (Nat.le_of_ble_eq_true rfl) hRf) (Nat.le_trans (m := 200) (Nat.le_of_ble_eq_true rfl) hRl) (by omega) (by omega) (jk_r ?_)
    refine j_h (lw_eT hd1 (by omega)) ?_
    refine j_istore C d_L_law_958 (by decide) rfl ?_
    refine j_aload_n C d_L_law_960 rfl rfl ?_
    refine j_aloadr_n C d_L_law_961 rfl rfl ?_
    refine j_iload C d_L_law_962 rfl ?_
    refine j_iconst (v := 1) C d_L_law_964 (by decide) ?_
    refine j_iadd C d_L_law_965 ?_
    refine j_sld (w := xs (q + 1)) C hX hsc hscb d_L_law_966 (six (k := 1) (by omega) hlen) (sixc (k := 1) (by omega) hlen) ?_
    refine j_aloadr_n C d_L_law_967 rfl rfl ?_
    refine j_iload C d_L_law_968 rfl ?_
    refine j_iconst (v := 2) C d_L_law_970 (by decide) ?_
    refine j_iadd C d_L_law_971 ?_
    refine j_sld (w := xs (q + 2)) C hX hsc hscb d_L_law_972 (six (k := 2) (by omega) hlen) (sixc (k := 2) (by omega) hlen) ?_
    refine j_aloadr_n C d_L_law_973 rfl rfl ?_
    refine j_iload C d_L_law_974 rfl ?_
    refine j_iconst (v := 3) C d_L_law_976 (by decide) ?_
    refine j_iadd C d_L_law_977 ?_
    refine j_sld (w := xs (q + 3)) C hX hsc hscb d_L_law_978 (six (k := 3) (by omega) hlen) (sixc (k := 3) (by omega) hlen) ?_
    refine j_if_eq (tgt := 986) C d_L_law_979 (by decide) (fun c979 => ?_) (fun c979 => ?_)
    · refine j_iconst (v := 0) C d_L_law_986 (by decide) ?_
      refine j_callV C d_L_law_987 ml_L_147 mc_M_hide in_M_hide rfl se_M_hide (by omega) (ovM_o _ _ _ _) (c_M_hide hl _ _ _ _ _ _ (by omega)) rfl rfl (Nat.le_trans (m := 9) (Nat.le_of_ble_eq_true rfl) hRf) (Nat.le_trans (m := 200) (Nat.le_of_ble_eq_true rfl) hRl) (by omega) (by omega) (jk_v ?_)
      refine j_aload_n C d_L_law_990 rfl rfl ?_
      refine j_callV C d_L_law_991 ml_L_96 mc_M_thrown in_M_thrown rfl se_M_thrown (by omega) (ovM_o _ _ _ _) (c_M_thrown hl _ _ _ (by omega)) rfl rfl (Nat.le_trans (m := 9) (Nat.le_of_ble_eq_true rfl) hRf) (Nat.le_trans (m := 200) (Nat.le_of_ble_eq_true rfl) hRl) (by omega) (by omega) (jk_r ?_)
      refine j_iload C d_L_law_994 rfl ?_
      refine j_icmp_eq (tgt := 1001) C d_L_law_996 (by decide) (fun c996 => ?_) (fun c996 => ?_)
      · refine j_goto (tgt := 1468) C d_L_law_1001 (by decide) ?_
        exact j_pick [1, 2, 3, 4, 5] rfl (kk _ _ _ _ (by omega) (by omega))
      · exact absurd (tr_hide_2 σ0 β0 (xs (q + 1)) (xs (q + 2)) _ hk) c996
    · exact absurd c947 c979
  · refine j_iconst (v := 1) C d_L_law_950 (by decide) ?_
    refine j_goto (tgt := 955) C d_L_law_951 (by decide) ?_
    refine j_callS C d_L_law_955 ml_L_145 mc_L_hide st_L_hide (w_hide_7 hl _ _ _ (by omega) (ovX_c (o := 0) rfl) (c_X_hide_b hl _ (show xo + 28 ≤ n by omega) _ _ _ k0 k1 hk)) rfl rfl (Nat.le_trans (m := 9) (Nat.le_of_ble_eq_true rfl) hRf) (Nat.le_trans (m := 200) (Nat.le_of_ble_eq_true rfl) hRl) (by omega) (by omega) (jk_r ?_)
    refine j_h (lw_eT hd1 (by omega)) ?_
    refine j_istore C d_L_law_958 (by decide) rfl ?_
    refine j_aload_n C d_L_law_960 rfl rfl ?_
    refine j_aloadr_n C d_L_law_961 rfl rfl ?_
    refine j_iload C d_L_law_962 rfl ?_
    refine j_iconst (v := 1) C d_L_law_964 (by decide) ?_
    refine j_iadd C d_L_law_965 ?_
    refine j_sld (w := xs (q + 1)) C hX hsc hscb d_L_law_966 (six (k := 1) (by omega) hlen) (sixc (k := 1) (by omega) hlen) ?_
    refine j_aloadr_n C d_L_law_967 rfl rfl ?_
    refine j_iload C d_L_law_968 rfl ?_
    refine j_iconst (v := 2) C d_L_law_970 (by decide) ?_
    refine j_iadd C d_L_law_971 ?_
    refine j_sld (w := xs (q + 2)) C hX hsc hscb d_L_law_972 (six (k := 2) (by omega) hlen) (sixc (k := 2) (by omega) hlen) ?_
    refine j_aloadr_n C d_L_law_973 rfl rfl ?_
    refine j_iload C d_L_law_974 rfl ?_
    refine j_iconst (v := 3) C d_L_law_976 (by decide) ?_
    refine j_iadd C d_L_law_977 ?_
    refine j_sld (w := xs (q + 3)) C hX hsc hscb d_L_law_978 (six (k := 3) (by omega) hlen) (sixc (k := 3) (by omega) hlen) ?_
    refine j_if_eq (tgt := 986) C d_L_law_979 (by decide) (fun c979 => ?_) (fun c979 => ?_)
    · exact absurd c979 c947
    · refine j_iconst (v := 1) C d_L_law_982 (by decide) ?_
      refine j_goto (tgt := 987) C d_L_law_983 (by decide) ?_
      refine j_callV C d_L_law_987 ml_L_147 mc_M_hide in_M_hide rfl se_M_hide (by omega) (ovM_o _ _ _ _) (c_M_hide hl _ _ _ _ _ _ (by omega)) rfl rfl (Nat.le_trans (m := 9) (Nat.le_of_ble_eq_true rfl) hRf) (Nat.le_trans (m := 200) (Nat.le_of_ble_eq_true rfl) hRl) (by omega) (by omega) (jk_v ?_)
      refine j_aload_n C d_L_law_990 rfl rfl ?_
      refine j_callV C d_L_law_991 ml_L_96 mc_M_thrown in_M_thrown rfl se_M_thrown (by omega) (ovM_o _ _ _ _) (c_M_thrown hl _ _ _ (by omega)) rfl rfl (Nat.le_trans (m := 9) (Nat.le_of_ble_eq_true rfl) hRf) (Nat.le_trans (m := 200) (Nat.le_of_ble_eq_true rfl) hRl) (by omega) (by omega) (jk_r ?_)
      refine j_iload C d_L_law_994 rfl ?_
      refine j_icmp_eq (tgt := 1001) C d_L_law_996 (by decide) (fun c996 => ?_) (fun c996 => ?_)
      · refine j_goto (tgt := 1468) C d_L_law_1001 (by decide) ?_
        exact j_pick [1, 2, 3, 4, 5] rfl (kk _ _ _ _ (by omega) (by omega))
      · exact absurd (tr_hide_2 σ0 β0 (xs (q + 1)) (xs (q + 2)) _ hk) c996

set_option maxHeartbeats 4000000 in
set_option maxRecDepth 100000 in
theorem lc_hide_r {p : Program} {l : Launch} {e : Env} {R : Room} {s : State} {m : MethodId} {args : Array Value} {below : List Frame} {meth : Method} {c : Code} {D : va_G} {cA : Nat → ClassId} {b : Nat} {Q : State → Prop} {n : Nat} {h : AH} {kc ks xo mo oo sc q len : Nat} {xs : Nat → Int32} {f : Nat → Int64} (hl : l.stackTraces = false) (C : Cx p l s m meth c D cA b 7 "ReportChecks2Law" "law" b_L_law (some .boolean) []) (hX : va_X sc len xs s s.heap) (hsc : sc < s.heap.size) (hscb : sc < b) (hlen : len < 2 ^ 31) (hq : q + 3 < len) (hRf : 9 ≤ R.frames) (hRl : 200 ≤ R.locals) (hRc : kc + 4 ≤ R.cells) (hRs : ks + 40 ≤ R.slots) (hd1 : xo + 28 ≤ mo) (hd2 : mo + 28 ≤ oo) (hd3 : oo < n) (hout : h oo = .inl (4, 1, .inr (.inl f))) (kk : ∀ n' h' kc' ks', kc' ≤ kc + 4 → ks' ≤ ks + 40 → J p l e R s m args below meth c D cA b 7 Q n' h' kc' ks' 1468 [(4, .int (nI q)), (3, .ref oo), (2, .ref mo), (1, .ref xo), (0, .retAddr sc)] []) (k0 : ¬ (xs (q + 1)) < 0) (k1 : (xs (q + 1)) < 20) (f0 : ¬ (xs (q + 2)) < 0) (f1 : (xs (q + 2)) < 20) : J p l e R s m args below meth c D cA b 7 Q n (ovX xo ξ0 β0 ρ0 6 13 (ovM mo σ0 β0 h)) kc ks 928 [(4, .int (nI q)), (3, .ref oo), (2, .ref mo), (1, .ref xo), (0, .retAddr sc)] [] := by
  refine j_aload_n C d_L_law_928 rfl rfl ?_
  refine j_aloadr_n C d_L_law_929 rfl rfl ?_
  refine j_iload C d_L_law_930 rfl ?_
  refine j_iconst (v := 1) C d_L_law_932 (by decide) ?_
  refine j_iadd C d_L_law_933 ?_
  refine j_sld (w := xs (q + 1)) C hX hsc hscb d_L_law_934 (six (k := 1) (by omega) hlen) (sixc (k := 1) (by omega) hlen) ?_
  refine j_aloadr_n C d_L_law_935 rfl rfl ?_
  refine j_iload C d_L_law_936 rfl ?_
  refine j_iconst (v := 2) C d_L_law_938 (by decide) ?_
  refine j_iadd C d_L_law_939 ?_
  refine j_sld (w := xs (q + 2)) C hX hsc hscb d_L_law_940 (six (k := 2) (by omega) hlen) (sixc (k := 2) (by omega) hlen) ?_
  refine j_aloadr_n C d_L_law_941 rfl rfl ?_
  refine j_iload C d_L_law_942 rfl ?_
  refine j_iconst (v := 3) C d_L_law_944 (by decide) ?_
  refine j_iadd C d_L_law_945 ?_
  refine j_sld (w := xs (q + 3)) C hX hsc hscb d_L_law_946 (six (k := 3) (by omega) hlen) (sixc (k := 3) (by omega) hlen) ?_
  refine j_if_eq (tgt := 954) C d_L_law_947 (by decide) (fun c947 => ?_) (fun c947 => ?_)
  · refine j_iconst (v := 0) C d_L_law_954 (by decide) ?_
    refine j_callS C d_L_law_955 ml_L_145 mc_L_hide st_L_hide (w_hide_r hl _ _ _ (by omega) (ovX_c (o := 0) rfl) (c_X_hide_r hl _ (show xo + 28 ≤ n by omega) _ _ _ k0 k1 f0 f1 (in20 f0 f1))) rfl rfl (Nat.le_trans (m := 9) (Nat.le_of_ble_eq_true rfl) hRf) (Nat.le_trans (m := 200) (Nat.le_of_ble_eq_true rfl) hRl) (by omega) (by omega) (jk_r ?_)
    refine j_h (ovX_M hd1) ?_
    refine j_istore C d_L_law_958 (by decide) rfl ?_
    refine j_aload_n C d_L_law_960 rfl rfl ?_
    refine j_aloadr_n C d_L_law_961 rfl rfl ?_
    refine j_iload C d_L_law_962 rfl ?_
    refine j_iconst (v := 1) C d_L_law_964 (by decide) ?_
    refine j_iadd C d_L_law_965 ?_
    refine j_sld (w := xs (q + 1)) C hX hsc hscb d_L_law_966 (six (k := 1) (by omega) hlen) (sixc (k := 1) (by omega) hlen) ?_
    refine j_aloadr_n C d_L_law_967 rfl rfl ?_
    refine j_iload C d_L_law_968 rfl ?_
    refine j_iconst (v := 2) C d_L_law_970 (by decide) ?_
    refine j_iadd C d_L_law_971 ?_
    refine j_sld (w := xs (q + 2)) C hX hsc hscb d_L_law_972 (six (k := 2) (by omega) hlen) (sixc (k := 2) (by omega) hlen) ?_
    refine j_aloadr_n C d_L_law_973 rfl rfl ?_
    refine j_iload C d_L_law_974 rfl ?_
    refine j_iconst (v := 3) C d_L_law_976 (by decide) ?_
    refine j_iadd C d_L_law_977 ?_
    refine j_sld (w := xs (q + 3)) C hX hsc hscb d_L_law_978 (six (k := 3) (by omega) hlen) (sixc (k := 3) (by omega) hlen) ?_
    refine j_if_eq (tgt := 986) C d_L_law_979 (by decide) (fun c979 => ?_) (fun c979 => ?_)
    · refine j_iconst (v := 0) C d_L_law_986 (by decide) ?_
      refine j_callV C d_L_law_987 ml_L_147 mc_M_hide in_M_hide rfl se_M_hide (by omega) (ovM_o _ _ _ _) (c_M_hide hl _ _ _ _ _ _ (by omega)) rfl rfl (Nat.le_trans (m := 9) (Nat.le_of_ble_eq_true rfl) hRf) (Nat.le_trans (m := 200) (Nat.le_of_ble_eq_true rfl) hRl) (by omega) (by omega) (jk_v ?_)
      refine j_aload_n C d_L_law_990 rfl rfl ?_
      refine j_callV C d_L_law_991 ml_L_96 mc_M_thrown in_M_thrown rfl se_M_thrown (by omega) (ovM_o _ _ _ _) (c_M_thrown hl _ _ _ (by omega)) rfl rfl (Nat.le_trans (m := 9) (Nat.le_of_ble_eq_true rfl) hRf) (Nat.le_trans (m := 200) (Nat.le_of_ble_eq_true rfl) hRl) (by omega) (by omega) (jk_r ?_)
      refine j_iload C d_L_law_994 rfl ?_
      refine j_icmp_eq (tgt := 1001) C d_L_law_996 (by decide) (fun c996 => ?_) (fun c996 => ?_)
      · refine j_goto (tgt := 1468) C d_L_law_1001 (by decide) ?_
        exact j_pick [1, 2, 3, 4, 5] rfl (kk _ _ _ _ (by omega) (by omega))
      · exact absurd (tr_hide_0 σ0 β0 (xs (q + 1)) (xs (q + 2)) _ k0 k1 f0 f1) c996
    · exact absurd c947 c979
  · refine j_iconst (v := 1) C d_L_law_950 (by decide) ?_
    refine j_goto (tgt := 955) C d_L_law_951 (by decide) ?_
    refine j_callS C d_L_law_955 ml_L_145 mc_L_hide st_L_hide (w_hide_r hl _ _ _ (by omega) (ovX_c (o := 0) rfl) (c_X_hide_r hl _ (show xo + 28 ≤ n by omega) _ _ _ k0 k1 f0 f1 (in20 f0 f1))) rfl rfl (Nat.le_trans (m := 9) (Nat.le_of_ble_eq_true rfl) hRf) (Nat.le_trans (m := 200) (Nat.le_of_ble_eq_true rfl) hRl) (by omega) (by omega) (jk_r ?_)
    refine j_h (ovX_M hd1) ?_
    refine j_istore C d_L_law_958 (by decide) rfl ?_
    refine j_aload_n C d_L_law_960 rfl rfl ?_
    refine j_aloadr_n C d_L_law_961 rfl rfl ?_
    refine j_iload C d_L_law_962 rfl ?_
    refine j_iconst (v := 1) C d_L_law_964 (by decide) ?_
    refine j_iadd C d_L_law_965 ?_
    refine j_sld (w := xs (q + 1)) C hX hsc hscb d_L_law_966 (six (k := 1) (by omega) hlen) (sixc (k := 1) (by omega) hlen) ?_
    refine j_aloadr_n C d_L_law_967 rfl rfl ?_
    refine j_iload C d_L_law_968 rfl ?_
    refine j_iconst (v := 2) C d_L_law_970 (by decide) ?_
    refine j_iadd C d_L_law_971 ?_
    refine j_sld (w := xs (q + 2)) C hX hsc hscb d_L_law_972 (six (k := 2) (by omega) hlen) (sixc (k := 2) (by omega) hlen) ?_
    refine j_aloadr_n C d_L_law_973 rfl rfl ?_
    refine j_iload C d_L_law_974 rfl ?_
    refine j_iconst (v := 3) C d_L_law_976 (by decide) ?_
    refine j_iadd C d_L_law_977 ?_
    refine j_sld (w := xs (q + 3)) C hX hsc hscb d_L_law_978 (six (k := 3) (by omega) hlen) (sixc (k := 3) (by omega) hlen) ?_
    refine j_if_eq (tgt := 986) C d_L_law_979 (by decide) (fun c979 => ?_) (fun c979 => ?_)
    · exact absurd c979 c947
    · refine j_iconst (v := 1) C d_L_law_982 (by decide) ?_
      refine j_goto (tgt := 987) C d_L_law_983 (by decide) ?_
      refine j_callV C d_L_law_987 ml_L_147 mc_M_hide in_M_hide rfl se_M_hide (by omega) (ovM_o _ _ _ _) (c_M_hide hl _ _ _ _ _ _ (by omega)) rfl rfl (Nat.le_trans (m := 9) (Nat.le_of_ble_eq_true rfl) hRf) (Nat.le_trans (m := 200) (Nat.le_of_ble_eq_true rfl) hRl) (by omega) (by omega) (jk_v ?_)
      refine j_aload_n C d_L_law_990 rfl rfl ?_
      refine j_callV C d_L_law_991 ml_L_96 mc_M_thrown in_M_thrown rfl se_M_thrown (by omega) (ovM_o _ _ _ _) (c_M_thrown hl _ _ _ (by omega)) rfl rfl (Nat.le_trans (m := 9) (Nat.le_of_ble_eq_true rfl) hRf) (Nat.le_trans (m := 200) (Nat.le_of_ble_eq_true rfl) hRl) (by omega) (by omega) (jk_r ?_)
      refine j_iload C d_L_law_994 rfl ?_
      refine j_icmp_eq (tgt := 1001) C d_L_law_996 (by decide) (fun c996 => ?_) (fun c996 => ?_)
      · refine j_goto (tgt := 1468) C d_L_law_1001 (by decide) ?_
        exact j_pick [1, 2, 3, 4, 5] rfl (kk _ _ _ _ (by omega) (by omega))
      · exact absurd (tr_hide_0 σ0 β0 (xs (q + 1)) (xs (q + 2)) _ k0 k1 f0 f1) c996

set_option maxHeartbeats 4000000 in
set_option maxRecDepth 100000 in
theorem lc_code_u {p : Program} {l : Launch} {e : Env} {R : Room} {s : State} {m : MethodId} {args : Array Value} {below : List Frame} {meth : Method} {c : Code} {D : va_G} {cA : Nat → ClassId} {b : Nat} {Q : State → Prop} {n : Nat} {h : AH} {kc ks xo mo oo sc q len : Nat} {xs : Nat → Int32} {f : Nat → Int64} (hl : l.stackTraces = false) (C : Cx p l s m meth c D cA b 7 "ReportChecks2Law" "law" b_L_law (some .boolean) []) (hX : va_X sc len xs s s.heap) (hsc : sc < s.heap.size) (hscb : sc < b) (hlen : len < 2 ^ 31) (hq : q + 3 < len) (hRf : 9 ≤ R.frames) (hRl : 200 ≤ R.locals) (hRc : kc + 4 ≤ R.cells) (hRs : ks + 40 ≤ R.slots) (hd1 : xo + 28 ≤ mo) (hd2 : mo + 28 ≤ oo) (hd3 : oo < n) (hout : h oo = .inl (4, 1, .inr (.inl f))) (kk : ∀ n' h' kc' ks', kc' ≤ kc + 4 → ks' ≤ ks + 40 → J p l e R s m args below meth c D cA b 7 Q n' h' kc' ks' 1468 [(4, .int (nI q)), (3, .ref oo), (2, .ref mo), (1, .ref xo), (0, .retAddr sc)] [])  : J p l e R s m args below meth c D cA b 7 Q n (ovX xo ξ0 β0 ρ0 6 13 (ovM mo σ0 β0 h)) kc ks 1004 [(4, .int (nI q)), (3, .ref oo), (2, .ref mo), (1, .ref xo), (0, .retAddr sc)] [] := by
  refine j_aload_n C d_L_law_1004 rfl rfl ?_
  refine j_aloadr_n C d_L_law_1005 rfl rfl ?_
  refine j_iload C d_L_law_1006 rfl ?_
  refine j_iconst (v := 1) C d_L_law_1008 (by decide) ?_
  refine j_iadd C d_L_law_1009 ?_
  refine j_sld (w := xs (q + 1)) C hX hsc hscb d_L_law_1010 (six (k := 1) (by omega) hlen) (sixc (k := 1) (by omega) hlen) ?_
  refine j_aloadr_n C d_L_law_1011 rfl rfl ?_
  refine j_iload C d_L_law_1012 rfl ?_
  refine j_iconst (v := 2) C d_L_law_1014 (by decide) ?_
  refine j_iadd C d_L_law_1015 ?_
  refine j_sld (w := xs (q + 2)) C hX hsc hscb d_L_law_1016 (six (k := 2) (by omega) hlen) (sixc (k := 2) (by omega) hlen) ?_
  refine j_aload_n C d_L_law_1017 rfl rfl ?_
  refine j_callS C d_L_law_1018 ml_L_148 mc_L_code st_L_code (w_code_7 hl _ _ (by omega) (ovX_c (o := 0) rfl) (c_X_code_u hl _ (show xo + 28 ≤ n by omega) _ _ (unk0 _))) rfl rfl (Nat.le_trans (m := 9) (Nat.le_of_ble_eq_true rfl) hRf) (Nat.le_trans (m := 200) (Nat.le_of_ble_eq_true rfl) hRl) (by omega) (by omega) (jk_r ?_)
  refine j_h (lw_eT hd1 (by omega)) ?_
  refine j_istore C d_L_law_1021 (by decide) rfl ?_
  refine j_aload_n C d_L_law_1023 rfl rfl ?_
  refine j_aloadr_n C d_L_law_1024 rfl rfl ?_
  refine j_iload C d_L_law_1025 rfl ?_
  refine j_iconst (v := 1) C d_L_law_1027 (by decide) ?_
  refine j_iadd C d_L_law_1028 ?_
  refine j_sld (w := xs (q + 1)) C hX hsc hscb d_L_law_1029 (six (k := 1) (by omega) hlen) (sixc (k := 1) (by omega) hlen) ?_
  refine j_aloadr_n C d_L_law_1030 rfl rfl ?_
  refine j_iload C d_L_law_1031 rfl ?_
  refine j_iconst (v := 2) C d_L_law_1033 (by decide) ?_
  refine j_iadd C d_L_law_1034 ?_
  refine j_sld (w := xs (q + 2)) C hX hsc hscb d_L_law_1035 (six (k := 2) (by omega) hlen) (sixc (k := 2) (by omega) hlen) ?_
  refine j_callV C d_L_law_1036 ml_L_150 mc_M_code in_M_code rfl se_M_code (by omega) (ovM_o _ _ _ _) (c_M_code_u hl _ _ _ _ _ (by omega) (unkM _)) rfl rfl (Nat.le_trans (m := 9) (Nat.le_of_ble_eq_true rfl) hRf) (Nat.le_trans (m := 200) (Nat.le_of_ble_eq_true rfl) hRl) (by omega) (by omega) (jk_r ?_)
  refine j_istore C d_L_law_1039 (by decide) rfl ?_
  refine j_aload_n C d_L_law_1041 rfl rfl ?_
  refine j_callV C d_L_law_1042 ml_L_96 mc_M_thrown in_M_thrown rfl se_M_thrown (by omega) (ovM_o _ _ _ _) (c_M_thrown hl _ _ _ (by omega)) rfl rfl (Nat.le_trans (m := 9) (Nat.le_of_ble_eq_true rfl) hRf) (Nat.le_trans (m := 200) (Nat.le_of_ble_eq_true rfl) hRl) (by omega) (by omega) (jk_r ?_)
  refine j_iload C d_L_law_1045 rfl ?_
  refine j_icmp_eq (tgt := 1052) C d_L_law_1047 (by decide) (fun c1047 => ?_) (fun c1047 => ?_)
  · refine j_iload C d_L_law_1052 rfl ?_
    refine j_if_ne (tgt := 1069) C d_L_law_1054 (by decide) (fun c1054 => ?_) (fun c1054 => ?_)
    · refine j_goto (tgt := 1468) C d_L_law_1069 (by decide) ?_
      exact j_pick [2, 3, 4, 5, 6] rfl (kk _ _ _ _ (by omega) (by omega))
    · exact absurd c1054 (by decide)
  · exact absurd (upd_s σ0 0 1) c1047

set_option maxHeartbeats 4000000 in
set_option maxRecDepth 100000 in
theorem lc_at_t {p : Program} {l : Launch} {e : Env} {R : Room} {s : State} {m : MethodId} {args : Array Value} {below : List Frame} {meth : Method} {c : Code} {D : va_G} {cA : Nat → ClassId} {b : Nat} {Q : State → Prop} {n : Nat} {h : AH} {kc ks xo mo oo sc q len : Nat} {xs : Nat → Int32} {f : Nat → Int64} (hl : l.stackTraces = false) (C : Cx p l s m meth c D cA b 7 "ReportChecks2Law" "law" b_L_law (some .boolean) []) (hX : va_X sc len xs s s.heap) (hsc : sc < s.heap.size) (hscb : sc < b) (hlen : len < 2 ^ 31) (hq : q + 3 < len) (hRf : 9 ≤ R.frames) (hRl : 200 ≤ R.locals) (hRc : kc + 4 ≤ R.cells) (hRs : ks + 40 ≤ R.slots) (hd1 : xo + 28 ≤ mo) (hd2 : mo + 28 ≤ oo) (hd3 : oo < n) (hout : h oo = .inl (4, 1, .inr (.inl f))) (kk : ∀ n' h' kc' ks', kc' ≤ kc + 4 → ks' ≤ ks + 40 → J p l e R s m args below meth c D cA b 7 Q n' h' kc' ks' 1468 [(4, .int (nI q)), (3, .ref oo), (2, .ref mo), (1, .ref xo), (0, .retAddr sc)] []) (hx : (xs (q + 1)) < 0) : J p l e R s m args below meth c D cA b 7 Q n (ovX xo ξ0 β0 ρ0 6 13 (ovM mo σ0 β0 h)) kc ks 1072 [(4, .int (nI q)), (3, .ref oo), (2, .ref mo), (1, .ref xo), (0, .retAddr sc)] [] := by
  refine j_aload_n C d_L_law_1072 rfl rfl ?_
  refine j_aloadr_n C d_L_law_1073 rfl rfl ?_
  refine j_iload C d_L_law_1074 rfl ?_
  refine j_iconst (v := 1) C d_L_law_1076 (by decide) ?_
  refine j_iadd C d_L_law_1077 ?_
  refine j_sld (w := xs (q + 1)) C hX hsc hscb d_L_law_1078 (six (k := 1) (by omega) hlen) (sixc (k := 1) (by omega) hlen) ?_
  refine j_aload_n C d_L_law_1079 rfl rfl ?_
  refine j_callS C d_L_law_1080 ml_L_151 mc_L_at st_L_at (w_at_8 hl _ (by omega) (ovX_c (o := 0) rfl) (c_X_at_t hl _ (show xo + 28 ≤ n by omega) _ hx)) rfl rfl (Nat.le_trans (m := 9) (Nat.le_of_ble_eq_true rfl) hRf) (Nat.le_trans (m := 200) (Nat.le_of_ble_eq_true rfl) hRl) (by omega) (by omega) (jk_r ?_)
  refine j_h (lw_eT hd1 (by omega)) ?_
  refine j_istore C d_L_law_1083 (by decide) rfl ?_
  refine j_aload_n C d_L_law_1085 rfl rfl ?_
  refine j_aloadr_n C d_L_law_1086 rfl rfl ?_
  refine j_iload C d_L_law_1087 rfl ?_
  refine j_iconst (v := 1) C d_L_law_1089 (by decide) ?_
  refine j_iadd C d_L_law_1090 ?_
  refine j_sld (w := xs (q + 1)) C hX hsc hscb d_L_law_1091 (six (k := 1) (by omega) hlen) (sixc (k := 1) (by omega) hlen) ?_
  refine j_callV C d_L_law_1092 ml_L_153 mc_M_at in_M_at rfl se_M_at (by omega) (ovM_o _ _ _ _) (c_M_at hl _ _ _ _ (by omega) (fun a z => absurd (Int32.not_lt.mp a) z)) rfl rfl (Nat.le_trans (m := 9) (Nat.le_of_ble_eq_true rfl) hRf) (Nat.le_trans (m := 200) (Nat.le_of_ble_eq_true rfl) hRl) (by omega) (by omega) (jk_r ?_)
  refine j_istore C d_L_law_1095 (by decide) rfl ?_
  refine j_aload_n C d_L_law_1097 rfl rfl ?_
  refine j_callV C d_L_law_1098 ml_L_96 mc_M_thrown in_M_thrown rfl se_M_thrown (by omega) (ovM_o _ _ _ _) (c_M_thrown hl _ _ _ (by omega)) rfl rfl (Nat.le_trans (m := 9) (Nat.le_of_ble_eq_true rfl) hRf) (Nat.le_trans (m := 200) (Nat.le_of_ble_eq_true rfl) hRl) (by omega) (by omega) (jk_r ?_)
  refine j_iload C d_L_law_1101 rfl ?_
  refine j_icmp_eq (tgt := 1108) C d_L_law_1103 (by decide) (fun c1103 => ?_) (fun c1103 => ?_)
  · refine j_iload C d_L_law_1108 rfl ?_
    refine j_if_ne (tgt := 1125) C d_L_law_1110 (by decide) (fun c1110 => ?_) (fun c1110 => ?_)
    · refine j_goto (tgt := 1468) C d_L_law_1125 (by decide) ?_
      exact j_pick [2, 3, 4, 5, 6] rfl (kk _ _ _ _ (by omega) (by omega))
    · exact absurd c1110 (by decide)
  · exact absurd (tr_at_1 σ0 β0 (xs (q + 1)) hx) c1103

set_option maxHeartbeats 4000000 in
set_option maxRecDepth 100000 in
theorem lc_at_n {p : Program} {l : Launch} {e : Env} {R : Room} {s : State} {m : MethodId} {args : Array Value} {below : List Frame} {meth : Method} {c : Code} {D : va_G} {cA : Nat → ClassId} {b : Nat} {Q : State → Prop} {n : Nat} {h : AH} {kc ks xo mo oo sc q len : Nat} {xs : Nat → Int32} {f : Nat → Int64} (hl : l.stackTraces = false) (C : Cx p l s m meth c D cA b 7 "ReportChecks2Law" "law" b_L_law (some .boolean) []) (hX : va_X sc len xs s s.heap) (hsc : sc < s.heap.size) (hscb : sc < b) (hlen : len < 2 ^ 31) (hq : q + 3 < len) (hRf : 9 ≤ R.frames) (hRl : 200 ≤ R.locals) (hRc : kc + 4 ≤ R.cells) (hRs : ks + 40 ≤ R.slots) (hd1 : xo + 28 ≤ mo) (hd2 : mo + 28 ≤ oo) (hd3 : oo < n) (hout : h oo = .inl (4, 1, .inr (.inl f))) (kk : ∀ n' h' kc' ks', kc' ≤ kc + 4 → ks' ≤ ks + 40 → J p l e R s m args below meth c D cA b 7 Q n' h' kc' ks' 1468 [(4, .int (nI q)), (3, .ref oo), (2, .ref mo), (1, .ref xo), (0, .retAddr sc)] []) (hx : ¬ (xs (q + 1)) < 0) : J p l e R s m args below meth c D cA b 7 Q n (ovX xo ξ0 β0 ρ0 6 13 (ovM mo σ0 β0 h)) kc ks 1072 [(4, .int (nI q)), (3, .ref oo), (2, .ref mo), (1, .ref xo), (0, .retAddr sc)] [] := by
  refine j_aload_n C d_L_law_1072 rfl rfl ?_
  refine j_aloadr_n C d_L_law_1073 rfl rfl ?_
  refine j_iload C d_L_law_1074 rfl ?_
  refine j_iconst (v := 1) C d_L_law_1076 (by decide) ?_
  refine j_iadd C d_L_law_1077 ?_
  refine j_sld (w := xs (q + 1)) C hX hsc hscb d_L_law_1078 (six (k := 1) (by omega) hlen) (sixc (k := 1) (by omega) hlen) ?_
  refine j_aload_n C d_L_law_1079 rfl rfl ?_
  refine j_callS C d_L_law_1080 ml_L_151 mc_L_at st_L_at (w_at_r hl _ (by omega) (ovX_c (o := 0) rfl) (c_X_at_n hl _ (show xo + 28 ≤ n by omega) _ (Int32.not_lt.mp hx) (Int32.not_lt.mp hx)) (by omega) ((ovX_n (Or.inr (by omega))).trans ((ovM_n (Or.inr (by omega))).trans hout))) rfl rfl (Nat.le_trans (m := 9) (Nat.le_of_ble_eq_true rfl) hRf) (Nat.le_trans (m := 200) (Nat.le_of_ble_eq_true rfl) hRl) (by omega) (by omega) (jk_r ?_)
  refine j_h (lw_eT hd1 (by omega)) ?_
  refine j_istore C d_L_law_1083 (by decide) rfl ?_
  refine j_aload_n C d_L_law_1085 rfl rfl ?_
  refine j_aloadr_n C d_L_law_1086 rfl rfl ?_
  refine j_iload C d_L_law_1087 rfl ?_
  refine j_iconst (v := 1) C d_L_law_1089 (by decide) ?_
  refine j_iadd C d_L_law_1090 ?_
  refine j_sld (w := xs (q + 1)) C hX hsc hscb d_L_law_1091 (six (k := 1) (by omega) hlen) (sixc (k := 1) (by omega) hlen) ?_
  refine j_callV C d_L_law_1092 ml_L_153 mc_M_at in_M_at rfl se_M_at (by omega) (ovM_o _ _ _ _) (c_M_at hl _ _ _ _ (by omega) (fun a z => absurd (Int32.not_lt.mp a) z)) rfl rfl (Nat.le_trans (m := 9) (Nat.le_of_ble_eq_true rfl) hRf) (Nat.le_trans (m := 200) (Nat.le_of_ble_eq_true rfl) hRl) (by omega) (by omega) (jk_r ?_)
  refine j_istore C d_L_law_1095 (by decide) rfl ?_
  refine j_aload_n C d_L_law_1097 rfl rfl ?_
  refine j_callV C d_L_law_1098 ml_L_96 mc_M_thrown in_M_thrown rfl se_M_thrown (by omega) (ovM_o _ _ _ _) (c_M_thrown hl _ _ _ (by omega)) rfl rfl (Nat.le_trans (m := 9) (Nat.le_of_ble_eq_true rfl) hRf) (Nat.le_trans (m := 200) (Nat.le_of_ble_eq_true rfl) hRl) (by omega) (by omega) (jk_r ?_)
  refine j_iload C d_L_law_1101 rfl ?_
  refine j_icmp_eq (tgt := 1108) C d_L_law_1103 (by decide) (fun c1103 => ?_) (fun c1103 => ?_)
  · refine j_iload C d_L_law_1108 rfl ?_
    refine j_if_ne (tgt := 1125) C d_L_law_1110 (by decide) (fun c1110 => ?_) (fun c1110 => ?_)
    · exact absurd rfl c1110
    · refine j_aload_n C d_L_law_1113 rfl rfl ?_
      refine j_iconst (v := 0) C d_L_law_1114 (by decide) ?_
      refine j_lald (t := 4) (N := 1) C d_L_law_1115 rfl (by omega) ((ovM_n (Or.inr (by omega))).trans (hu_s _ _ _)) (vp_in_nI (n := 0) (by omega) (by omega)) rfl ?_
      refine j_iload C d_L_law_1116 rfl ?_
      refine j_i2l C d_L_law_1118 rfl ?_
      refine j_lcmp C d_L_law_1119 ?_
      refine j_if_eq (tgt := 1125) C d_L_law_1120 (by decide) (fun c1120 => ?_) (fun c1120 => ?_)
      · refine j_goto (tgt := 1468) C d_L_law_1125 (by decide) ?_
        exact j_pick [2, 3, 4, 5, 6] rfl (kk _ _ _ _ (by omega) (by omega))
      · exact absurd (vpz (tr_at_0 β0 (xs (q + 1)) hx).2.symm) c1120
  · exact absurd (tr_at_0 β0 (xs (q + 1)) hx).1 c1103

set_option maxHeartbeats 4000000 in
set_option maxRecDepth 100000 in
theorem lc_late_t {p : Program} {l : Launch} {e : Env} {R : Room} {s : State} {m : MethodId} {args : Array Value} {below : List Frame} {meth : Method} {c : Code} {D : va_G} {cA : Nat → ClassId} {b : Nat} {Q : State → Prop} {n : Nat} {h : AH} {kc ks xo mo oo sc q len : Nat} {xs : Nat → Int32} {f : Nat → Int64} (hl : l.stackTraces = false) (C : Cx p l s m meth c D cA b 7 "ReportChecks2Law" "law" b_L_law (some .boolean) []) (hX : va_X sc len xs s s.heap) (hsc : sc < s.heap.size) (hscb : sc < b) (hlen : len < 2 ^ 31) (hq : q + 3 < len) (hRf : 9 ≤ R.frames) (hRl : 200 ≤ R.locals) (hRc : kc + 4 ≤ R.cells) (hRs : ks + 40 ≤ R.slots) (hd1 : xo + 28 ≤ mo) (hd2 : mo + 28 ≤ oo) (hd3 : oo < n) (hout : h oo = .inl (4, 1, .inr (.inl f))) (kk : ∀ n' h' kc' ks', kc' ≤ kc + 4 → ks' ≤ ks + 40 → J p l e R s m args below meth c D cA b 7 Q n' h' kc' ks' 1468 [(4, .int (nI q)), (3, .ref oo), (2, .ref mo), (1, .ref xo), (0, .retAddr sc)] []) (hx : (xs (q + 1)) < 0 ∨ 99999 < (xs (q + 1)) ∨ (xs (q + 2)) < 0) : J p l e R s m args below meth c D cA b 7 Q n (ovX xo ξ0 β0 ρ0 6 13 (ovM mo σ0 β0 h)) kc ks 1128 [(4, .int (nI q)), (3, .ref oo), (2, .ref mo), (1, .ref xo), (0, .retAddr sc)] [] := by
  refine j_aload_n C d_L_law_1128 rfl rfl ?_
  refine j_aloadr_n C d_L_law_1129 rfl rfl ?_
  refine j_iload C d_L_law_1130 rfl ?_
  refine j_iconst (v := 1) C d_L_law_1132 (by decide) ?_
  refine j_iadd C d_L_law_1133 ?_
  refine j_sld (w := xs (q + 1)) C hX hsc hscb d_L_law_1134 (six (k := 1) (by omega) hlen) (sixc (k := 1) (by omega) hlen) ?_
  refine j_aloadr_n C d_L_law_1135 rfl rfl ?_
  refine j_iload C d_L_law_1136 rfl ?_
  refine j_iconst (v := 2) C d_L_law_1138 (by decide) ?_
  refine j_iadd C d_L_law_1139 ?_
  refine j_sld (w := xs (q + 2)) C hX hsc hscb d_L_law_1140 (six (k := 2) (by omega) hlen) (sixc (k := 2) (by omega) hlen) ?_
  refine j_aload_n C d_L_law_1141 rfl rfl ?_
  refine j_callS C d_L_law_1142 ml_L_154 mc_L_late st_L_late (w_late_8 hl _ _ (by omega) (ovX_c (o := 0) rfl) (c_X_late_t hl _ (show xo + 28 ≤ n by omega) _ _ hx)) rfl rfl (Nat.le_trans (m := 9) (Nat.le_of_ble_eq_true rfl) hRf) (Nat.le_trans (m := 200) (Nat.le_of_ble_eq_true rfl) hRl) (by omega) (by omega) (jk_r ?_)
  refine j_h (lw_eT hd1 (by omega)) ?_
  refine j_istore C d_L_law_1145 (by decide) rfl ?_
  refine j_aload_n C d_L_law_1147 rfl rfl ?_
  refine j_aloadr_n C d_L_law_1148 rfl rfl ?_
  refine j_iload C d_L_law_1149 rfl ?_
  refine j_iconst (v := 1) C d_L_law_1151 (by decide) ?_
  refine j_iadd C d_L_law_1152 ?_
  refine j_sld (w := xs (q + 1)) C hX hsc hscb d_L_law_1153 (six (k := 1) (by omega) hlen) (sixc (k := 1) (by omega) hlen) ?_
  refine j_aloadr_n C d_L_law_1154 rfl rfl ?_
  refine j_iload C d_L_law_1155 rfl ?_
  refine j_iconst (v := 2) C d_L_law_1157 (by decide) ?_
  refine j_iadd C d_L_law_1158 ?_
  refine j_sld (w := xs (q + 2)) C hX hsc hscb d_L_law_1159 (six (k := 2) (by omega) hlen) (sixc (k := 2) (by omega) hlen) ?_
  refine j_callV C d_L_law_1160 ml_L_156 mc_M_late in_M_late rfl se_M_late (by omega) (ovM_o _ _ _ _) (c_M_late hl _ _ _ _ _ (by omega) 0 σ0_2 (by omega)) rfl rfl (Nat.le_trans (m := 9) (Nat.le_of_ble_eq_true rfl) hRf) (Nat.le_trans (m := 200) (Nat.le_of_ble_eq_true rfl) hRl) (by omega) (by omega) (jk_r ?_)
  refine j_istore C d_L_law_1163 (by decide) rfl ?_
  refine j_aload_n C d_L_law_1165 rfl rfl ?_
  refine j_callV C d_L_law_1166 ml_L_96 mc_M_thrown in_M_thrown rfl se_M_thrown (by omega) (ovM_o _ _ _ _) (c_M_thrown hl _ _ _ (by omega)) rfl rfl (Nat.le_trans (m := 9) (Nat.le_of_ble_eq_true rfl) hRf) (Nat.le_trans (m := 200) (Nat.le_of_ble_eq_true rfl) hRl) (by omega) (by omega) (jk_r ?_)
  refine j_iload C d_L_law_1169 rfl ?_
  refine j_icmp_eq (tgt := 1176) C d_L_law_1171 (by decide) (fun c1171 => ?_) (fun c1171 => ?_)
  · refine j_iload C d_L_law_1176 rfl ?_
    refine j_if_ne (tgt := 1193) C d_L_law_1178 (by decide) (fun c1178 => ?_) (fun c1178 => ?_)
    · refine j_goto (tgt := 1468) C d_L_law_1193 (by decide) ?_
      exact j_pick [2, 3, 4, 5, 6] rfl (kk _ _ _ _ (by omega) (by omega))
    · exact absurd c1178 (by decide)
  · exact absurd (tr_late_1 σ0 β0 0 (xs (q + 1)) (xs (q + 2)) hx) c1171

set_option maxHeartbeats 4000000 in
set_option maxRecDepth 100000 in
theorem lc_late_r {p : Program} {l : Launch} {e : Env} {R : Room} {s : State} {m : MethodId} {args : Array Value} {below : List Frame} {meth : Method} {c : Code} {D : va_G} {cA : Nat → ClassId} {b : Nat} {Q : State → Prop} {n : Nat} {h : AH} {kc ks xo mo oo sc q len : Nat} {xs : Nat → Int32} {f : Nat → Int64} (hl : l.stackTraces = false) (C : Cx p l s m meth c D cA b 7 "ReportChecks2Law" "law" b_L_law (some .boolean) []) (hX : va_X sc len xs s s.heap) (hsc : sc < s.heap.size) (hscb : sc < b) (hlen : len < 2 ^ 31) (hq : q + 3 < len) (hRf : 9 ≤ R.frames) (hRl : 200 ≤ R.locals) (hRc : kc + 4 ≤ R.cells) (hRs : ks + 40 ≤ R.slots) (hd1 : xo + 28 ≤ mo) (hd2 : mo + 28 ≤ oo) (hd3 : oo < n) (hout : h oo = .inl (4, 1, .inr (.inl f))) (kk : ∀ n' h' kc' ks', kc' ≤ kc + 4 → ks' ≤ ks + 40 → J p l e R s m args below meth c D cA b 7 Q n' h' kc' ks' 1468 [(4, .int (nI q)), (3, .ref oo), (2, .ref mo), (1, .ref xo), (0, .retAddr sc)] []) (h0 : ¬ (xs (q + 1)) < 0) (h1 : ¬ 99999 < (xs (q + 1))) (h2 : 0 ≤ (xs (q + 2))) : J p l e R s m args below meth c D cA b 7 Q n (ovX xo ξ0 β0 ρ0 6 13 (ovM mo σ0 β0 h)) kc ks 1128 [(4, .int (nI q)), (3, .ref oo), (2, .ref mo), (1, .ref xo), (0, .retAddr sc)] [] := by
  refine j_aload_n C d_L_law_1128 rfl rfl ?_
  refine j_aloadr_n C d_L_law_1129 rfl rfl ?_
  refine j_iload C d_L_law_1130 rfl ?_
  refine j_iconst (v := 1) C d_L_law_1132 (by decide) ?_
  refine j_iadd C d_L_law_1133 ?_
  refine j_sld (w := xs (q + 1)) C hX hsc hscb d_L_law_1134 (six (k := 1) (by omega) hlen) (sixc (k := 1) (by omega) hlen) ?_
  refine j_aloadr_n C d_L_law_1135 rfl rfl ?_
  refine j_iload C d_L_law_1136 rfl ?_
  refine j_iconst (v := 2) C d_L_law_1138 (by decide) ?_
  refine j_iadd C d_L_law_1139 ?_
  refine j_sld (w := xs (q + 2)) C hX hsc hscb d_L_law_1140 (six (k := 2) (by omega) hlen) (sixc (k := 2) (by omega) hlen) ?_
  refine j_aload_n C d_L_law_1141 rfl rfl ?_
  refine j_callS C d_L_law_1142 ml_L_154 mc_L_late st_L_late (w_late_r hl _ _ (by omega) (ovX_c (o := 0) rfl) (c_X_late_0 hl _ (show xo + 28 ≤ n by omega) _ _ h0 h1 h2 rfl) (by omega) ((ovX_n (Or.inr (by omega))).trans ((ovM_n (Or.inr (by omega))).trans hout))) rfl rfl (Nat.le_trans (m := 9) (Nat.le_of_ble_eq_true rfl) hRf) (Nat.le_trans (m := 200) (Nat.le_of_ble_eq_true rfl) hRl) (by omega) (by omega) (jk_r ?_)
  refine j_h (lw_eT hd1 (by omega)) ?_
  refine j_istore C d_L_law_1145 (by decide) rfl ?_
  refine j_aload_n C d_L_law_1147 rfl rfl ?_
  refine j_aloadr_n C d_L_law_1148 rfl rfl ?_
  refine j_iload C d_L_law_1149 rfl ?_
  refine j_iconst (v := 1) C d_L_law_1151 (by decide) ?_
  refine j_iadd C d_L_law_1152 ?_
  refine j_sld (w := xs (q + 1)) C hX hsc hscb d_L_law_1153 (six (k := 1) (by omega) hlen) (sixc (k := 1) (by omega) hlen) ?_
  refine j_aloadr_n C d_L_law_1154 rfl rfl ?_
  refine j_iload C d_L_law_1155 rfl ?_
  refine j_iconst (v := 2) C d_L_law_1157 (by decide) ?_
  refine j_iadd C d_L_law_1158 ?_
  refine j_sld (w := xs (q + 2)) C hX hsc hscb d_L_law_1159 (six (k := 2) (by omega) hlen) (sixc (k := 2) (by omega) hlen) ?_
  refine j_callV C d_L_law_1160 ml_L_156 mc_M_late in_M_late rfl se_M_late (by omega) (ovM_o _ _ _ _) (c_M_late hl _ _ _ _ _ (by omega) 0 σ0_2 (by omega)) rfl rfl (Nat.le_trans (m := 9) (Nat.le_of_ble_eq_true rfl) hRf) (Nat.le_trans (m := 200) (Nat.le_of_ble_eq_true rfl) hRl) (by omega) (by omega) (jk_r ?_)
  refine j_istore C d_L_law_1163 (by decide) rfl ?_
  refine j_aload_n C d_L_law_1165 rfl rfl ?_
  refine j_callV C d_L_law_1166 ml_L_96 mc_M_thrown in_M_thrown rfl se_M_thrown (by omega) (ovM_o _ _ _ _) (c_M_thrown hl _ _ _ (by omega)) rfl rfl (Nat.le_trans (m := 9) (Nat.le_of_ble_eq_true rfl) hRf) (Nat.le_trans (m := 200) (Nat.le_of_ble_eq_true rfl) hRl) (by omega) (by omega) (jk_r ?_)
  refine j_iload C d_L_law_1169 rfl ?_
  refine j_icmp_eq (tgt := 1176) C d_L_law_1171 (by decide) (fun c1171 => ?_) (fun c1171 => ?_)
  · refine j_iload C d_L_law_1176 rfl ?_
    refine j_if_ne (tgt := 1193) C d_L_law_1178 (by decide) (fun c1178 => ?_) (fun c1178 => ?_)
    · exact absurd rfl c1178
    · refine j_aload_n C d_L_law_1181 rfl rfl ?_
      refine j_iconst (v := 0) C d_L_law_1182 (by decide) ?_
      refine j_lald (t := 4) (N := 1) C d_L_law_1183 rfl (by omega) ((ovM_n (Or.inr (by omega))).trans (hu_s _ _ _)) (vp_in_nI (n := 0) (by omega) (by omega)) rfl ?_
      refine j_iload C d_L_law_1184 rfl ?_
      refine j_i2l C d_L_law_1186 rfl ?_
      refine j_lcmp C d_L_law_1187 ?_
      refine j_if_eq (tgt := 1193) C d_L_law_1188 (by decide) (fun c1188 => ?_) (fun c1188 => ?_)
      · refine j_goto (tgt := 1468) C d_L_law_1193 (by decide) ?_
        exact j_pick [2, 3, 4, 5, 6] rfl (kk _ _ _ _ (by omega) (by omega))
      · exact absurd (vpz (tr_late_0 β0 (xs (q + 1)) (xs (q + 2)) h0 h1 h2).2.symm) c1188
  · exact absurd (tr_late_0 β0 (xs (q + 1)) (xs (q + 2)) h0 h1 h2).1 c1171

set_option maxHeartbeats 4000000 in
set_option maxRecDepth 100000 in
theorem lc_count_a {p : Program} {l : Launch} {e : Env} {R : Room} {s : State} {m : MethodId} {args : Array Value} {below : List Frame} {meth : Method} {c : Code} {D : va_G} {cA : Nat → ClassId} {b : Nat} {Q : State → Prop} {n : Nat} {h : AH} {kc ks xo mo oo sc q len : Nat} {xs : Nat → Int32} {f : Nat → Int64} (hl : l.stackTraces = false) (C : Cx p l s m meth c D cA b 7 "ReportChecks2Law" "law" b_L_law (some .boolean) []) (hX : va_X sc len xs s s.heap) (hsc : sc < s.heap.size) (hscb : sc < b) (hlen : len < 2 ^ 31) (hq : q + 3 < len) (hRf : 9 ≤ R.frames) (hRl : 200 ≤ R.locals) (hRc : kc + 4 ≤ R.cells) (hRs : ks + 40 ≤ R.slots) (hd1 : xo + 28 ≤ mo) (hd2 : mo + 28 ≤ oo) (hd3 : oo < n) (hout : h oo = .inl (4, 1, .inr (.inl f))) (kk : ∀ n' h' kc' ks', kc' ≤ kc + 4 → ks' ≤ ks + 40 → J p l e R s m args below meth c D cA b 7 Q n' h' kc' ks' 1468 [(4, .int (nI q)), (3, .ref oo), (2, .ref mo), (1, .ref xo), (0, .retAddr sc)] []) (hk : (xs (q + 1)) < 0 ∨ ¬ (xs (q + 1)) < 20) : J p l e R s m args below meth c D cA b 7 Q n (ovX xo ξ0 β0 ρ0 6 13 (ovM mo σ0 β0 h)) kc ks 1196 [(4, .int (nI q)), (3, .ref oo), (2, .ref mo), (1, .ref xo), (0, .retAddr sc)] [] := by
  refine j_aload_n C d_L_law_1196 rfl rfl ?_
  refine j_aloadr_n C d_L_law_1197 rfl rfl ?_
  refine j_iload C d_L_law_1198 rfl ?_
  refine j_iconst (v := 1) C d_L_law_1200 (by decide) ?_
  refine j_iadd C d_L_law_1201 ?_
  refine j_sld (w := xs (q + 1)) C hX hsc hscb d_L_law_1202 (six (k := 1) (by omega) hlen) (sixc (k := 1) (by omega) hlen) ?_
  refine j_aloadr_n C d_L_law_1203 rfl rfl ?_
  refine j_iload C d_L_law_1204 rfl ?_
  refine j_iconst (v := 2) C d_L_law_1206 (by decide) ?_
  refine j_iadd C d_L_law_1207 ?_
  refine j_sld (w := xs (q + 2)) C hX hsc hscb d_L_law_1208 (six (k := 2) (by omega) hlen) (sixc (k := 2) (by omega) hlen) ?_
  refine j_aloadr_n C d_L_law_1209 rfl rfl ?_
  refine j_iload C d_L_law_1210 rfl ?_
  refine j_iconst (v := 3) C d_L_law_1212 (by decide) ?_
  refine j_iadd C d_L_law_1213 ?_
  refine j_sld (w := xs (q + 3)) C hX hsc hscb d_L_law_1214 (six (k := 3) (by omega) hlen) (sixc (k := 3) (by omega) hlen) ?_
  refine j_aload_n C d_L_law_1215 rfl rfl ?_
  refine j_callS C d_L_law_1216 ml_L_157 mc_L_count st_L_count (w_count_7 hl _ _ _ (by omega) (ovX_c (o := 0) rfl) (c_X_count_a hl _ (show xo + 28 ≤ n by omega) _ _ _ hk)) rfl rfl (Nat.le_trans (m := 9) (Nat.le_of_ble_eq_true rfl) hRf) (Nat.le_trans (m := 200) (Nat.le_of_ble_eq_true rfl) hRl) (by omega) (by omega) (jk_r ?_)
  refine j_h (lw_eT hd1 (by omega)) ?_
  refine j_istore C d_L_law_1219 (by decide) rfl ?_
  refine j_aload_n C d_L_law_1221 rfl rfl ?_
  refine j_aloadr_n C d_L_law_1222 rfl rfl ?_
  refine j_iload C d_L_law_1223 rfl ?_
  refine j_iconst (v := 1) C d_L_law_1225 (by decide) ?_
  refine j_iadd C d_L_law_1226 ?_
  refine j_sld (w := xs (q + 1)) C hX hsc hscb d_L_law_1227 (six (k := 1) (by omega) hlen) (sixc (k := 1) (by omega) hlen) ?_
  refine j_aloadr_n C d_L_law_1228 rfl rfl ?_
  refine j_iload C d_L_law_1229 rfl ?_
  refine j_iconst (v := 2) C d_L_law_1231 (by decide) ?_
  refine j_iadd C d_L_law_1232 ?_
  refine j_sld (w := xs (q + 2)) C hX hsc hscb d_L_law_1233 (six (k := 2) (by omega) hlen) (sixc (k := 2) (by omega) hlen) ?_
  refine j_aloadr_n C d_L_law_1234 rfl rfl ?_
  refine j_iload C d_L_law_1235 rfl ?_
  refine j_iconst (v := 3) C d_L_law_1237 (by decide) ?_
  refine j_iadd C d_L_law_1238 ?_
  refine j_sld (w := xs (q + 3)) C hX hsc hscb d_L_law_1239 (six (k := 3) (by omega) hlen) (sixc (k := 3) (by omega) hlen) ?_
  refine j_callV C d_L_law_1240 ml_L_159 mc_M_count in_M_count rfl se_M_count (by omega) (ovM_o _ _ _ _) (c_M_count_1 hl _ _ _ _ _ _ (by omega) (in_bad (bad19 hk))) rfl rfl (Nat.le_trans (m := 9) (Nat.le_of_ble_eq_true rfl) hRf) (Nat.le_trans (m := 200) (Nat.le_of_ble_eq_true rfl) hRl) (by omega) (by omega) (jk_r ?_)
  refine j_istore C d_L_law_1243 (by decide) rfl ?_
  refine j_aload_n C d_L_law_1245 rfl rfl ?_
  refine j_callV C d_L_law_1246 ml_L_96 mc_M_thrown in_M_thrown rfl se_M_thrown (by omega) (ovM_o _ _ _ _) (c_M_thrown hl _ _ _ (by omega)) rfl rfl (Nat.le_trans (m := 9) (Nat.le_of_ble_eq_true rfl) hRf) (Nat.le_trans (m := 200) (Nat.le_of_ble_eq_true rfl) hRl) (by omega) (by omega) (jk_r ?_)
  refine j_iload C d_L_law_1249 rfl ?_
  refine j_icmp_eq (tgt := 1256) C d_L_law_1251 (by decide) (fun c1251 => ?_) (fun c1251 => ?_)
  · refine j_iload C d_L_law_1256 rfl ?_
    refine j_if_ne (tgt := 1273) C d_L_law_1258 (by decide) (fun c1258 => ?_) (fun c1258 => ?_)
    · refine j_goto (tgt := 1468) C d_L_law_1273 (by decide) ?_
      exact j_pick [2, 3, 4, 5, 6] rfl (kk _ _ _ _ (by omega) (by omega))
    · exact absurd c1258 (by decide)
  · exact absurd (upd_s σ0 0 1) c1251

set_option maxHeartbeats 4000000 in
set_option maxRecDepth 100000 in
theorem lc_count_b {p : Program} {l : Launch} {e : Env} {R : Room} {s : State} {m : MethodId} {args : Array Value} {below : List Frame} {meth : Method} {c : Code} {D : va_G} {cA : Nat → ClassId} {b : Nat} {Q : State → Prop} {n : Nat} {h : AH} {kc ks xo mo oo sc q len : Nat} {xs : Nat → Int32} {f : Nat → Int64} (hl : l.stackTraces = false) (C : Cx p l s m meth c D cA b 7 "ReportChecks2Law" "law" b_L_law (some .boolean) []) (hX : va_X sc len xs s s.heap) (hsc : sc < s.heap.size) (hscb : sc < b) (hlen : len < 2 ^ 31) (hq : q + 3 < len) (hRf : 9 ≤ R.frames) (hRl : 200 ≤ R.locals) (hRc : kc + 4 ≤ R.cells) (hRs : ks + 40 ≤ R.slots) (hd1 : xo + 28 ≤ mo) (hd2 : mo + 28 ≤ oo) (hd3 : oo < n) (hout : h oo = .inl (4, 1, .inr (.inl f))) (kk : ∀ n' h' kc' ks', kc' ≤ kc + 4 → ks' ≤ ks + 40 → J p l e R s m args below meth c D cA b 7 Q n' h' kc' ks' 1468 [(4, .int (nI q)), (3, .ref oo), (2, .ref mo), (1, .ref xo), (0, .retAddr sc)] []) (f0 : ¬ (xs (q + 1)) < 0) (f1 : (xs (q + 1)) < 20) (hk : ¬ (xs (q + 2)) ≤ (xs (q + 3))) : J p l e R s m args below meth c D cA b 7 Q n (ovX xo ξ0 β0 ρ0 6 13 (ovM mo σ0 β0 h)) kc ks 1196 [(4, .int (nI q)), (3, .ref oo), (2, .ref mo), (1, .ref xo), (0, .retAddr sc)] [] := by
  refine j_aload_n C d_L_law_1196 rfl rfl ?_
  refine j_aloadr_n C d_L_law_1197 rfl rfl ?_
  refine j_iload C d_L_law_1198 rfl ?_
  refine j_iconst (v := 1) C d_L_law_1200 (by decide) ?_
  refine j_iadd C d_L_law_1201 ?_
  refine j_sld (w := xs (q + 1)) C hX hsc hscb d_L_law_1202 (six (k := 1) (by omega) hlen) (sixc (k := 1) (by omega) hlen) ?_
  refine j_aloadr_n C d_L_law_1203 rfl rfl ?_
  refine j_iload C d_L_law_1204 rfl ?_
  refine j_iconst (v := 2) C d_L_law_1206 (by decide) ?_
  refine j_iadd C d_L_law_1207 ?_
  refine j_sld (w := xs (q + 2)) C hX hsc hscb d_L_law_1208 (six (k := 2) (by omega) hlen) (sixc (k := 2) (by omega) hlen) ?_
  refine j_aloadr_n C d_L_law_1209 rfl rfl ?_
  refine j_iload C d_L_law_1210 rfl ?_
  refine j_iconst (v := 3) C d_L_law_1212 (by decide) ?_
  refine j_iadd C d_L_law_1213 ?_
  refine j_sld (w := xs (q + 3)) C hX hsc hscb d_L_law_1214 (six (k := 3) (by omega) hlen) (sixc (k := 3) (by omega) hlen) ?_
  refine j_aload_n C d_L_law_1215 rfl rfl ?_
  refine j_callS C d_L_law_1216 ml_L_157 mc_L_count st_L_count (w_count_8 hl _ _ _ (by omega) (ovX_c (o := 0) rfl) (c_X_count_b hl _ (show xo + 28 ≤ n by omega) _ _ _ f0 f1 hk)) rfl rfl (Nat.le_trans (m := 9) (Nat.le_of_ble_eq_true rfl) hRf) (Nat.le_trans (m := 200) (Nat.le_of_ble_eq_true rfl) hRl) (by omega) (by omega) (jk_r ?_)
  refine j_h (lw_eT hd1 (by omega)) ?_
  refine j_istore C d_L_law_1219 (by decide) rfl ?_
  refine j_aload_n C d_L_law_1221 rfl rfl ?_
  refine j_aloadr_n C d_L_law_1222 rfl rfl ?_
  refine j_iload C d_L_law_1223 rfl ?_
  refine j_iconst (v := 1) C d_L_law_1225 (by decide) ?_
  refine j_iadd C d_L_law_1226 ?_
  refine j_sld (w := xs (q + 1)) C hX hsc hscb d_L_law_1227 (six (k := 1) (by omega) hlen) (sixc (k := 1) (by omega) hlen) ?_
  refine j_aloadr_n C d_L_law_1228 rfl rfl ?_
  refine j_iload C d_L_law_1229 rfl ?_
  refine j_iconst (v := 2) C d_L_law_1231 (by decide) ?_
  refine j_iadd C d_L_law_1232 ?_
  refine j_sld (w := xs (q + 2)) C hX hsc hscb d_L_law_1233 (six (k := 2) (by omega) hlen) (sixc (k := 2) (by omega) hlen) ?_
  refine j_aloadr_n C d_L_law_1234 rfl rfl ?_
  refine j_iload C d_L_law_1235 rfl ?_
  refine j_iconst (v := 3) C d_L_law_1237 (by decide) ?_
  refine j_iadd C d_L_law_1238 ?_
  refine j_sld (w := xs (q + 3)) C hX hsc hscb d_L_law_1239 (six (k := 3) (by omega) hlen) (sixc (k := 3) (by omega) hlen) ?_
  refine j_callV C d_L_law_1240 ml_L_159 mc_M_count in_M_count rfl se_M_count (by omega) (ovM_o _ _ _ _) (c_M_count_2 hl _ _ _ _ _ _ (by omega) (in_ok f0 (ok19 f1)) hk) rfl rfl (Nat.le_trans (m := 9) (Nat.le_of_ble_eq_true rfl) hRf) (Nat.le_trans (m := 200) (Nat.le_of_ble_eq_true rfl) hRl) (by omega) (by omega) (jk_r ?_)
  refine j_istore C d_L_law_1243 (by decide) rfl ?_
  refine j_aload_n C d_L_law_1245 rfl rfl ?_
  refine j_callV C d_L_law_1246 ml_L_96 mc_M_thrown in_M_thrown rfl se_M_thrown (by omega) (ovM_o _ _ _ _) (c_M_thrown hl _ _ _ (by omega)) rfl rfl (Nat.le_trans (m := 9) (Nat.le_of_ble_eq_true rfl) hRf) (Nat.le_trans (m := 200) (Nat.le_of_ble_eq_true rfl) hRl) (by omega) (by omega) (jk_r ?_)
  refine j_iload C d_L_law_1249 rfl ?_
  refine j_icmp_eq (tgt := 1256) C d_L_law_1251 (by decide) (fun c1251 => ?_) (fun c1251 => ?_)
  · refine j_iload C d_L_law_1256 rfl ?_
    refine j_if_ne (tgt := 1273) C d_L_law_1258 (by decide) (fun c1258 => ?_) (fun c1258 => ?_)
    · refine j_goto (tgt := 1468) C d_L_law_1273 (by decide) ?_
      exact j_pick [2, 3, 4, 5, 6] rfl (kk _ _ _ _ (by omega) (by omega))
    · exact absurd c1258 (by decide)
  · exact absurd (upd_s σ0 0 2) c1251

set_option maxHeartbeats 4000000 in
set_option maxRecDepth 100000 in
theorem lc_count_r {p : Program} {l : Launch} {e : Env} {R : Room} {s : State} {m : MethodId} {args : Array Value} {below : List Frame} {meth : Method} {c : Code} {D : va_G} {cA : Nat → ClassId} {b : Nat} {Q : State → Prop} {n : Nat} {h : AH} {kc ks xo mo oo sc q len : Nat} {xs : Nat → Int32} {f : Nat → Int64} (hl : l.stackTraces = false) (C : Cx p l s m meth c D cA b 7 "ReportChecks2Law" "law" b_L_law (some .boolean) []) (hX : va_X sc len xs s s.heap) (hsc : sc < s.heap.size) (hscb : sc < b) (hlen : len < 2 ^ 31) (hq : q + 3 < len) (hRf : 9 ≤ R.frames) (hRl : 200 ≤ R.locals) (hRc : kc + 4 ≤ R.cells) (hRs : ks + 40 ≤ R.slots) (hd1 : xo + 28 ≤ mo) (hd2 : mo + 28 ≤ oo) (hd3 : oo < n) (hout : h oo = .inl (4, 1, .inr (.inl f))) (kk : ∀ n' h' kc' ks', kc' ≤ kc + 4 → ks' ≤ ks + 40 → J p l e R s m args below meth c D cA b 7 Q n' h' kc' ks' 1468 [(4, .int (nI q)), (3, .ref oo), (2, .ref mo), (1, .ref xo), (0, .retAddr sc)] []) (f0 : ¬ (xs (q + 1)) < 0) (f1 : (xs (q + 1)) < 20) (hk : (xs (q + 2)) ≤ (xs (q + 3))) : J p l e R s m args below meth c D cA b 7 Q n (ovX xo ξ0 β0 ρ0 6 13 (ovM mo σ0 β0 h)) kc ks 1196 [(4, .int (nI q)), (3, .ref oo), (2, .ref mo), (1, .ref xo), (0, .retAddr sc)] [] := by
  refine j_aload_n C d_L_law_1196 rfl rfl ?_
  refine j_aloadr_n C d_L_law_1197 rfl rfl ?_
  refine j_iload C d_L_law_1198 rfl ?_
  refine j_iconst (v := 1) C d_L_law_1200 (by decide) ?_
  refine j_iadd C d_L_law_1201 ?_
  refine j_sld (w := xs (q + 1)) C hX hsc hscb d_L_law_1202 (six (k := 1) (by omega) hlen) (sixc (k := 1) (by omega) hlen) ?_
  refine j_aloadr_n C d_L_law_1203 rfl rfl ?_
  refine j_iload C d_L_law_1204 rfl ?_
  refine j_iconst (v := 2) C d_L_law_1206 (by decide) ?_
  refine j_iadd C d_L_law_1207 ?_
  refine j_sld (w := xs (q + 2)) C hX hsc hscb d_L_law_1208 (six (k := 2) (by omega) hlen) (sixc (k := 2) (by omega) hlen) ?_
  refine j_aloadr_n C d_L_law_1209 rfl rfl ?_
  refine j_iload C d_L_law_1210 rfl ?_
  refine j_iconst (v := 3) C d_L_law_1212 (by decide) ?_
  refine j_iadd C d_L_law_1213 ?_
  refine j_sld (w := xs (q + 3)) C hX hsc hscb d_L_law_1214 (six (k := 3) (by omega) hlen) (sixc (k := 3) (by omega) hlen) ?_
  refine j_aload_n C d_L_law_1215 rfl rfl ?_
  refine j_callS C d_L_law_1216 ml_L_157 mc_L_count st_L_count (w_count_r hl _ _ _ (by omega) (ovX_c (o := 0) rfl) (c_X_count_0 hl _ (show xo + 28 ≤ n by omega) _ _ _ f0 f1 hk rfl) (by omega) ((ovX_n (Or.inr (by omega))).trans ((ovM_n (Or.inr (by omega))).trans hout))) rfl rfl (Nat.le_trans (m := 9) (Nat.le_of_ble_eq_true rfl) hRf) (Nat.le_trans (m := 200) (Nat.le_of_ble_eq_true rfl) hRl) (by omega) (by omega) (jk_r ?_)
  refine j_h (lw_eT hd1 (by omega)) ?_
  refine j_istore C d_L_law_1219 (by decide) rfl ?_
  refine j_aload_n C d_L_law_1221 rfl rfl ?_
  refine j_aloadr_n C d_L_law_1222 rfl rfl ?_
  refine j_iload C d_L_law_1223 rfl ?_
  refine j_iconst (v := 1) C d_L_law_1225 (by decide) ?_
  refine j_iadd C d_L_law_1226 ?_
  refine j_sld (w := xs (q + 1)) C hX hsc hscb d_L_law_1227 (six (k := 1) (by omega) hlen) (sixc (k := 1) (by omega) hlen) ?_
  refine j_aloadr_n C d_L_law_1228 rfl rfl ?_
  refine j_iload C d_L_law_1229 rfl ?_
  refine j_iconst (v := 2) C d_L_law_1231 (by decide) ?_
  refine j_iadd C d_L_law_1232 ?_
  refine j_sld (w := xs (q + 2)) C hX hsc hscb d_L_law_1233 (six (k := 2) (by omega) hlen) (sixc (k := 2) (by omega) hlen) ?_
  refine j_aloadr_n C d_L_law_1234 rfl rfl ?_
  refine j_iload C d_L_law_1235 rfl ?_
  refine j_iconst (v := 3) C d_L_law_1237 (by decide) ?_
  refine j_iadd C d_L_law_1238 ?_
  refine j_sld (w := xs (q + 3)) C hX hsc hscb d_L_law_1239 (six (k := 3) (by omega) hlen) (sixc (k := 3) (by omega) hlen) ?_
  refine j_callV C d_L_law_1240 ml_L_159 mc_M_count in_M_count rfl se_M_count (by omega) (ovM_o _ _ _ _) (c_M_count_0 hl _ _ _ _ _ _ (by omega) (in_ok f0 (ok19 f1)) hk rfl) rfl rfl (Nat.le_trans (m := 9) (Nat.le_of_ble_eq_true rfl) hRf) (Nat.le_trans (m := 200) (Nat.le_of_ble_eq_true rfl) hRl) (by omega) (by omega) (jk_r ?_)
  refine j_istore C d_L_law_1243 (by decide) rfl ?_
  refine j_aload_n C d_L_law_1245 rfl rfl ?_
  refine j_callV C d_L_law_1246 ml_L_96 mc_M_thrown in_M_thrown rfl se_M_thrown (by omega) (ovM_o _ _ _ _) (c_M_thrown hl _ _ _ (by omega)) rfl rfl (Nat.le_trans (m := 9) (Nat.le_of_ble_eq_true rfl) hRf) (Nat.le_trans (m := 200) (Nat.le_of_ble_eq_true rfl) hRl) (by omega) (by omega) (jk_r ?_)
  refine j_iload C d_L_law_1249 rfl ?_
  refine j_icmp_eq (tgt := 1256) C d_L_law_1251 (by decide) (fun c1251 => ?_) (fun c1251 => ?_)
  · refine j_iload C d_L_law_1256 rfl ?_
    refine j_if_ne (tgt := 1273) C d_L_law_1258 (by decide) (fun c1258 => ?_) (fun c1258 => ?_)
    · exact absurd rfl c1258
    · refine j_aload_n C d_L_law_1261 rfl rfl ?_
      refine j_iconst (v := 0) C d_L_law_1262 (by decide) ?_
      refine j_lald (t := 4) (N := 1) C d_L_law_1263 rfl (by omega) ((ovM_n (Or.inr (by omega))).trans (hu_s _ _ _)) (vp_in_nI (n := 0) (by omega) (by omega)) rfl ?_
      refine j_iload C d_L_law_1264 rfl ?_
      refine j_i2l C d_L_law_1266 rfl ?_
      refine j_lcmp C d_L_law_1267 ?_
      refine j_if_eq (tgt := 1273) C d_L_law_1268 (by decide) (fun c1268 => ?_) (fun c1268 => ?_)
      · refine j_goto (tgt := 1468) C d_L_law_1273 (by decide) ?_
        exact j_pick [2, 3, 4, 5, 6] rfl (kk _ _ _ _ (by omega) (by omega))
      · exact absurd (vpz rfl) c1268
  · exact absurd (upd_s σ0 0 0) c1251

set_option maxHeartbeats 4000000 in
set_option maxRecDepth 100000 in
theorem lc_reportAt_u {p : Program} {l : Launch} {e : Env} {R : Room} {s : State} {m : MethodId} {args : Array Value} {below : List Frame} {meth : Method} {c : Code} {D : va_G} {cA : Nat → ClassId} {b : Nat} {Q : State → Prop} {n : Nat} {h : AH} {kc ks xo mo oo sc q len : Nat} {xs : Nat → Int32} {f : Nat → Int64} (hl : l.stackTraces = false) (C : Cx p l s m meth c D cA b 7 "ReportChecks2Law" "law" b_L_law (some .boolean) []) (hX : va_X sc len xs s s.heap) (hsc : sc < s.heap.size) (hscb : sc < b) (hlen : len < 2 ^ 31) (hq : q + 3 < len) (hRf : 9 ≤ R.frames) (hRl : 200 ≤ R.locals) (hRc : kc + 4 ≤ R.cells) (hRs : ks + 40 ≤ R.slots) (hd1 : xo + 28 ≤ mo) (hd2 : mo + 28 ≤ oo) (hd3 : oo < n) (hout : h oo = .inl (4, 1, .inr (.inl f))) (kk : ∀ n' h' kc' ks', kc' ≤ kc + 4 → ks' ≤ ks + 40 → J p l e R s m args below meth c D cA b 7 Q n' h' kc' ks' 1468 [(4, .int (nI q)), (3, .ref oo), (2, .ref mo), (1, .ref xo), (0, .retAddr sc)] [])  : J p l e R s m args below meth c D cA b 7 Q n (ovX xo ξ0 β0 ρ0 6 13 (ovM mo σ0 β0 h)) kc ks 1276 [(4, .int (nI q)), (3, .ref oo), (2, .ref mo), (1, .ref xo), (0, .retAddr sc)] [] := by
  refine j_aload_n C d_L_law_1276 rfl rfl ?_
  refine j_aloadr_n C d_L_law_1277 rfl rfl ?_
  refine j_iload C d_L_law_1278 rfl ?_
  refine j_iconst (v := 1) C d_L_law_1280 (by decide) ?_
  refine j_iadd C d_L_law_1281 ?_
  refine j_sld (w := xs (q + 1)) C hX hsc hscb d_L_law_1282 (six (k := 1) (by omega) hlen) (sixc (k := 1) (by omega) hlen) ?_
  refine j_aloadr_n C d_L_law_1283 rfl rfl ?_
  refine j_iload C d_L_law_1284 rfl ?_
  refine j_iconst (v := 2) C d_L_law_1286 (by decide) ?_
  refine j_iadd C d_L_law_1287 ?_
  refine j_sld (w := xs (q + 2)) C hX hsc hscb d_L_law_1288 (six (k := 2) (by omega) hlen) (sixc (k := 2) (by omega) hlen) ?_
  refine j_aload_n C d_L_law_1289 rfl rfl ?_
  refine j_callS C d_L_law_1290 ml_L_160 mc_L_reportAt st_L_reportAt (w_reportAt_7 hl _ _ (by omega) (ovX_c (o := 0) rfl) (c_X_reportAt_u hl _ (show xo + 28 ≤ n by omega) _ _ (unk0 _))) rfl rfl (Nat.le_trans (m := 9) (Nat.le_of_ble_eq_true rfl) hRf) (Nat.le_trans (m := 200) (Nat.le_of_ble_eq_true rfl) hRl) (by omega) (by omega) (jk_r ?_)
  refine j_h (lw_eT hd1 (by omega)) ?_
  refine j_istore C d_L_law_1293 (by decide) rfl ?_
  refine j_aload_n C d_L_law_1295 rfl rfl ?_
  refine j_aloadr_n C d_L_law_1296 rfl rfl ?_
  refine j_iload C d_L_law_1297 rfl ?_
  refine j_iconst (v := 1) C d_L_law_1299 (by decide) ?_
  refine j_iadd C d_L_law_1300 ?_
  refine j_sld (w := xs (q + 1)) C hX hsc hscb d_L_law_1301 (six (k := 1) (by omega) hlen) (sixc (k := 1) (by omega) hlen) ?_
  refine j_aloadr_n C d_L_law_1302 rfl rfl ?_
  refine j_iload C d_L_law_1303 rfl ?_
  refine j_iconst (v := 2) C d_L_law_1305 (by decide) ?_
  refine j_iadd C d_L_law_1306 ?_
  refine j_sld (w := xs (q + 2)) C hX hsc hscb d_L_law_1307 (six (k := 2) (by omega) hlen) (sixc (k := 2) (by omega) hlen) ?_
  refine j_callV C d_L_law_1308 ml_L_162 mc_M_reportAt in_M_reportAt rfl se_M_reportAt (by omega) (ovM_o _ _ _ _) (c_M_reportAt hl _ _ _ _ _ (by omega) 0 σ0_2 (by omega) (fun _ _ => ⟨0, by omega, nI_0.symm⟩)) rfl rfl (Nat.le_trans (m := 9) (Nat.le_of_ble_eq_true rfl) hRf) (Nat.le_trans (m := 200) (Nat.le_of_ble_eq_true rfl) hRl) (by omega) (by omega) (jk_r ?_)
  refine j_istore C d_L_law_1311 (by decide) rfl ?_
  refine j_aload_n C d_L_law_1313 rfl rfl ?_
  refine j_callV C d_L_law_1314 ml_L_96 mc_M_thrown in_M_thrown rfl se_M_thrown (by omega) (ovM_o _ _ _ _) (c_M_thrown hl _ _ _ (by omega)) rfl rfl (Nat.le_trans (m := 9) (Nat.le_of_ble_eq_true rfl) hRf) (Nat.le_trans (m := 200) (Nat.le_of_ble_eq_true rfl) hRl) (by omega) (by omega) (jk_r ?_)
  refine j_iload C d_L_law_1317 rfl ?_
  refine j_icmp_eq (tgt := 1324) C d_L_law_1319 (by decide) (fun c1319 => ?_) (fun c1319 => ?_)
  · refine j_iload C d_L_law_1324 rfl ?_
    refine j_if_ne (tgt := 1341) C d_L_law_1326 (by decide) (fun c1326 => ?_) (fun c1326 => ?_)
    · refine j_goto (tgt := 1468) C d_L_law_1341 (by decide) ?_
      exact j_pick [2, 3, 4, 5, 6] rfl (kk _ _ _ _ (by omega) (by omega))
    · exact absurd c1326 (by decide)
  · exact absurd (tr_reportAt_u β0 _ _) c1319

set_option maxHeartbeats 4000000 in
set_option maxRecDepth 100000 in
theorem lc_value_u {p : Program} {l : Launch} {e : Env} {R : Room} {s : State} {m : MethodId} {args : Array Value} {below : List Frame} {meth : Method} {c : Code} {D : va_G} {cA : Nat → ClassId} {b : Nat} {Q : State → Prop} {n : Nat} {h : AH} {kc ks xo mo oo sc q len : Nat} {xs : Nat → Int32} {f : Nat → Int64} (hl : l.stackTraces = false) (C : Cx p l s m meth c D cA b 7 "ReportChecks2Law" "law" b_L_law (some .boolean) []) (hX : va_X sc len xs s s.heap) (hsc : sc < s.heap.size) (hscb : sc < b) (hlen : len < 2 ^ 31) (hq : q + 3 < len) (hRf : 9 ≤ R.frames) (hRl : 200 ≤ R.locals) (hRc : kc + 4 ≤ R.cells) (hRs : ks + 40 ≤ R.slots) (hd1 : xo + 28 ≤ mo) (hd2 : mo + 28 ≤ oo) (hd3 : oo < n) (hout : h oo = .inl (4, 1, .inr (.inl f))) (kk : ∀ n' h' kc' ks', kc' ≤ kc + 4 → ks' ≤ ks + 40 → J p l e R s m args below meth c D cA b 7 Q n' h' kc' ks' 1468 [(4, .int (nI q)), (3, .ref oo), (2, .ref mo), (1, .ref xo), (0, .retAddr sc)] [])  : J p l e R s m args below meth c D cA b 7 Q n (ovX xo ξ0 β0 ρ0 6 13 (ovM mo σ0 β0 h)) kc ks 1344 [(4, .int (nI q)), (3, .ref oo), (2, .ref mo), (1, .ref xo), (0, .retAddr sc)] [] := by
  refine j_aload_n C d_L_law_1344 rfl rfl ?_
  refine j_aloadr_n C d_L_law_1345 rfl rfl ?_
  refine j_iload C d_L_law_1346 rfl ?_
  refine j_iconst (v := 1) C d_L_law_1348 (by decide) ?_
  refine j_iadd C d_L_law_1349 ?_
  refine j_sld (w := xs (q + 1)) C hX hsc hscb d_L_law_1350 (six (k := 1) (by omega) hlen) (sixc (k := 1) (by omega) hlen) ?_
  refine j_aloadr_n C d_L_law_1351 rfl rfl ?_
  refine j_iload C d_L_law_1352 rfl ?_
  refine j_iconst (v := 2) C d_L_law_1354 (by decide) ?_
  refine j_iadd C d_L_law_1355 ?_
  refine j_sld (w := xs (q + 2)) C hX hsc hscb d_L_law_1356 (six (k := 2) (by omega) hlen) (sixc (k := 2) (by omega) hlen) ?_
  refine j_aload_n C d_L_law_1357 rfl rfl ?_
  refine j_callS C d_L_law_1358 ml_L_163 mc_L_value st_L_value (w_value_7 hl _ _ (by omega) (ovX_c (o := 0) rfl) (c_X_value_u hl _ (show xo + 28 ≤ n by omega) _ _ (unk0 _))) rfl rfl (Nat.le_trans (m := 9) (Nat.le_of_ble_eq_true rfl) hRf) (Nat.le_trans (m := 200) (Nat.le_of_ble_eq_true rfl) hRl) (by omega) (by omega) (jk_r ?_)
  refine j_h (lw_eT hd1 (by omega)) ?_
  refine j_istore C d_L_law_1361 (by decide) rfl ?_
  refine j_aload_n C d_L_law_1363 rfl rfl ?_
  refine j_aloadr_n C d_L_law_1364 rfl rfl ?_
  refine j_iload C d_L_law_1365 rfl ?_
  refine j_iconst (v := 1) C d_L_law_1367 (by decide) ?_
  refine j_iadd C d_L_law_1368 ?_
  refine j_sld (w := xs (q + 1)) C hX hsc hscb d_L_law_1369 (six (k := 1) (by omega) hlen) (sixc (k := 1) (by omega) hlen) ?_
  refine j_aloadr_n C d_L_law_1370 rfl rfl ?_
  refine j_iload C d_L_law_1371 rfl ?_
  refine j_iconst (v := 2) C d_L_law_1373 (by decide) ?_
  refine j_iadd C d_L_law_1374 ?_
  refine j_sld (w := xs (q + 2)) C hX hsc hscb d_L_law_1375 (six (k := 2) (by omega) hlen) (sixc (k := 2) (by omega) hlen) ?_
  refine j_callV C d_L_law_1376 ml_L_165 mc_M_value in_M_value rfl se_M_value (by omega) (ovM_o _ _ _ _) (c_M_value hl _ _ _ _ _ (by omega) 0 σ0_2 (by omega)) rfl rfl (Nat.le_trans (m := 9) (Nat.le_of_ble_eq_true rfl) hRf) (Nat.le_trans (m := 200) (Nat.le_of_ble_eq_true rfl) hRl) (by omega) (by omega) (jk_r ?_)
  refine j_istore C d_L_law_1379 (by decide) rfl ?_
  refine j_aload_n C d_L_law_1381 rfl rfl ?_
  refine j_callV C d_L_law_1382 ml_L_96 mc_M_thrown in_M_thrown rfl se_M_thrown (by omega) (ovM_o _ _ _ _) (c_M_thrown hl _ _ _ (by omega)) rfl rfl (Nat.le_trans (m := 9) (Nat.le_of_ble_eq_true rfl) hRf) (Nat.le_trans (m := 200) (Nat.le_of_ble_eq_true rfl) hRl) (by omega) (by omega) (jk_r ?_)
  refine j_iload C d_L_law_1385 rfl ?_
  refine j_icmp_eq (tgt := 1392) C d_L_law_1387 (by decide) (fun c1387 => ?_) (fun c1387 => ?_)
  · refine j_iload C d_L_law_1392 rfl ?_
    refine j_if_ne (tgt := 1409) C d_L_law_1394 (by decide) (fun c1394 => ?_) (fun c1394 => ?_)
    · refine j_goto (tgt := 1468) C d_L_law_1409 (by decide) ?_
      exact j_pick [2, 3, 4, 5, 6] rfl (kk _ _ _ _ (by omega) (by omega))
    · exact absurd c1394 (by decide)
  · exact absurd (tr_value_u β0 _ _) c1387

set_option maxHeartbeats 4000000 in
set_option maxRecDepth 100000 in
theorem lc_tick_t {p : Program} {l : Launch} {e : Env} {R : Room} {s : State} {m : MethodId} {args : Array Value} {below : List Frame} {meth : Method} {c : Code} {D : va_G} {cA : Nat → ClassId} {b : Nat} {Q : State → Prop} {n : Nat} {h : AH} {kc ks xo mo oo sc q len : Nat} {xs : Nat → Int32} {f : Nat → Int64} (hl : l.stackTraces = false) (C : Cx p l s m meth c D cA b 7 "ReportChecks2Law" "law" b_L_law (some .boolean) []) (hX : va_X sc len xs s s.heap) (hsc : sc < s.heap.size) (hscb : sc < b) (hlen : len < 2 ^ 31) (hq : q + 3 < len) (hRf : 9 ≤ R.frames) (hRl : 200 ≤ R.locals) (hRc : kc + 4 ≤ R.cells) (hRs : ks + 40 ≤ R.slots) (hd1 : xo + 28 ≤ mo) (hd2 : mo + 28 ≤ oo) (hd3 : oo < n) (hout : h oo = .inl (4, 1, .inr (.inl f))) (kk : ∀ n' h' kc' ks', kc' ≤ kc + 4 → ks' ≤ ks + 40 → J p l e R s m args below meth c D cA b 7 Q n' h' kc' ks' 1468 [(4, .int (nI q)), (3, .ref oo), (2, .ref mo), (1, .ref xo), (0, .retAddr sc)] []) (hx : (xs (q + 1)) < 1 ∨ 5000 < (xs (q + 1))) : J p l e R s m args below meth c D cA b 7 Q n (ovX xo ξ0 β0 ρ0 6 13 (ovM mo σ0 β0 h)) kc ks 1412 [(4, .int (nI q)), (3, .ref oo), (2, .ref mo), (1, .ref xo), (0, .retAddr sc)] [] := by
  refine j_aload_n C d_L_law_1412 rfl rfl ?_
  refine j_aloadr_n C d_L_law_1413 rfl rfl ?_
  refine j_iload C d_L_law_1414 rfl ?_
  refine j_iconst (v := 1) C d_L_law_1416 (by decide) ?_
  refine j_iadd C d_L_law_1417 ?_
  refine j_sld (w := xs (q + 1)) C hX hsc hscb d_L_law_1418 (six (k := 1) (by omega) hlen) (sixc (k := 1) (by omega) hlen) ?_
  refine j_aload_n C d_L_law_1419 rfl rfl ?_
  refine j_callS C d_L_law_1420 ml_L_166 mc_L_tick st_L_tick (w_tick_8 hl _ (by omega) (ovX_c (o := 0) rfl) (c_X_tick_t hl _ (show xo + 28 ≤ n by omega) _ (hx.imp id Or.inl))) rfl rfl (Nat.le_trans (m := 9) (Nat.le_of_ble_eq_true rfl) hRf) (Nat.le_trans (m := 200) (Nat.le_of_ble_eq_true rfl) hRl) (by omega) (by omega) (jk_r ?_)
  refine j_h (lw_eT hd1 (by omega)) ?_
  refine j_istore C d_L_law_1423 (by decide) rfl ?_
  refine j_aload_n C d_L_law_1425 rfl rfl ?_
  refine j_aloadr_n C d_L_law_1426 rfl rfl ?_
  refine j_iload C d_L_law_1427 rfl ?_
  refine j_iconst (v := 1) C d_L_law_1429 (by decide) ?_
  refine j_iadd C d_L_law_1430 ?_
  refine j_sld (w := xs (q + 1)) C hX hsc hscb d_L_law_1431 (six (k := 1) (by omega) hlen) (sixc (k := 1) (by omega) hlen) ?_
  refine j_callV C d_L_law_1432 ml_L_168 mc_M_tick in_M_tick rfl se_M_tick (by omega) (ovM_o _ _ _ _) (c_M_tick hl _ _ _ _ (by omega)) rfl rfl (Nat.le_trans (m := 9) (Nat.le_of_ble_eq_true rfl) hRf) (Nat.le_trans (m := 200) (Nat.le_of_ble_eq_true rfl) hRl) (by omega) (by omega) (jk_r ?_)
  refine j_istore C d_L_law_1435 (by decide) rfl ?_
  refine j_aload_n C d_L_law_1437 rfl rfl ?_
  refine j_callV C d_L_law_1438 ml_L_96 mc_M_thrown in_M_thrown rfl se_M_thrown (by omega) (ovM_o _ _ _ _) (c_M_thrown hl _ _ _ (by omega)) rfl rfl (Nat.le_trans (m := 9) (Nat.le_of_ble_eq_true rfl) hRf) (Nat.le_trans (m := 200) (Nat.le_of_ble_eq_true rfl) hRl) (by omega) (by omega) (jk_r ?_)
  refine j_iload C d_L_law_1441 rfl ?_
  refine j_icmp_eq (tgt := 1448) C d_L_law_1443 (by decide) (fun c1443 => ?_) (fun c1443 => ?_)
  · refine j_iload C d_L_law_1448 rfl ?_
    refine j_if_ne (tgt := 1465) C d_L_law_1450 (by decide) (fun c1450 => ?_) (fun c1450 => ?_)
    · refine j_goto (tgt := 1468) C d_L_law_1465 (by decide) ?_
      exact j_pick [2, 3, 4, 5, 6] rfl (kk _ _ _ _ (by omega) (by omega))
    · exact absurd c1450 (by decide)
  · exact absurd (tr_tick_1 σ0 (xs (q + 1)) hx) c1443

set_option maxHeartbeats 4000000 in
set_option maxRecDepth 100000 in
theorem lc_tick_r {p : Program} {l : Launch} {e : Env} {R : Room} {s : State} {m : MethodId} {args : Array Value} {below : List Frame} {meth : Method} {c : Code} {D : va_G} {cA : Nat → ClassId} {b : Nat} {Q : State → Prop} {n : Nat} {h : AH} {kc ks xo mo oo sc q len : Nat} {xs : Nat → Int32} {f : Nat → Int64} (hl : l.stackTraces = false) (C : Cx p l s m meth c D cA b 7 "ReportChecks2Law" "law" b_L_law (some .boolean) []) (hX : va_X sc len xs s s.heap) (hsc : sc < s.heap.size) (hscb : sc < b) (hlen : len < 2 ^ 31) (hq : q + 3 < len) (hRf : 9 ≤ R.frames) (hRl : 200 ≤ R.locals) (hRc : kc + 4 ≤ R.cells) (hRs : ks + 40 ≤ R.slots) (hd1 : xo + 28 ≤ mo) (hd2 : mo + 28 ≤ oo) (hd3 : oo < n) (hout : h oo = .inl (4, 1, .inr (.inl f))) (kk : ∀ n' h' kc' ks', kc' ≤ kc + 4 → ks' ≤ ks + 40 → J p l e R s m args below meth c D cA b 7 Q n' h' kc' ks' 1468 [(4, .int (nI q)), (3, .ref oo), (2, .ref mo), (1, .ref xo), (0, .retAddr sc)] []) (h0 : ¬ (xs (q + 1)) < 1) (h1 : ¬ 5000 < (xs (q + 1))) : J p l e R s m args below meth c D cA b 7 Q n (ovX xo ξ0 β0 ρ0 6 13 (ovM mo σ0 β0 h)) kc ks 1412 [(4, .int (nI q)), (3, .ref oo), (2, .ref mo), (1, .ref xo), (0, .retAddr sc)] [] := by
  refine j_aload_n C d_L_law_1412 rfl rfl ?_
  refine j_aloadr_n C d_L_law_1413 rfl rfl ?_
  refine j_iload C d_L_law_1414 rfl ?_
  refine j_iconst (v := 1) C d_L_law_1416 (by decide) ?_
  refine j_iadd C d_L_law_1417 ?_
  refine j_sld (w := xs (q + 1)) C hX hsc hscb d_L_law_1418 (six (k := 1) (by omega) hlen) (sixc (k := 1) (by omega) hlen) ?_
  refine j_aload_n C d_L_law_1419 rfl rfl ?_
  refine j_callS C d_L_law_1420 ml_L_166 mc_L_tick st_L_tick (w_tick_r hl _ (by omega) (ovX_c (o := 0) rfl) (c_X_tick_r hl _ (show xo + 28 ≤ n by omega) _ h0 h1 (x5000 h1).1) (by omega) ((ovX_n (Or.inr (by omega))).trans ((ovM_n (Or.inr (by omega))).trans hout))) rfl rfl (Nat.le_trans (m := 9) (Nat.le_of_ble_eq_true rfl) hRf) (Nat.le_trans (m := 200) (Nat.le_of_ble_eq_true rfl) hRl) (by omega) (by omega) (jk_r ?_)
  refine j_h (lw_eT hd1 (by omega)) ?_
  refine j_istore C d_L_law_1423 (by decide) rfl ?_
  refine j_aload_n C d_L_law_1425 rfl rfl ?_
  refine j_aloadr_n C d_L_law_1426 rfl rfl ?_
  refine j_iload C d_L_law_1427 rfl ?_
  refine j_iconst (v := 1) C d_L_law_1429 (by decide) ?_
  refine j_iadd C d_L_law_1430 ?_
  refine j_sld (w := xs (q + 1)) C hX hsc hscb d_L_law_1431 (six (k := 1) (by omega) hlen) (sixc (k := 1) (by omega) hlen) ?_
  refine j_callV C d_L_law_1432 ml_L_168 mc_M_tick in_M_tick rfl se_M_tick (by omega) (ovM_o _ _ _ _) (c_M_tick hl _ _ _ _ (by omega)) rfl rfl (Nat.le_trans (m := 9) (Nat.le_of_ble_eq_true rfl) hRf) (Nat.le_trans (m := 200) (Nat.le_of_ble_eq_true rfl) hRl) (by omega) (by omega) (jk_r ?_)
  refine j_istore C d_L_law_1435 (by decide) rfl ?_
  refine j_aload_n C d_L_law_1437 rfl rfl ?_
  refine j_callV C d_L_law_1438 ml_L_96 mc_M_thrown in_M_thrown rfl se_M_thrown (by omega) (ovM_o _ _ _ _) (c_M_thrown hl _ _ _ (by omega)) rfl rfl (Nat.le_trans (m := 9) (Nat.le_of_ble_eq_true rfl) hRf) (Nat.le_trans (m := 200) (Nat.le_of_ble_eq_true rfl) hRl) (by omega) (by omega) (jk_r ?_)
  refine j_iload C d_L_law_1441 rfl ?_
  refine j_icmp_eq (tgt := 1448) C d_L_law_1443 (by decide) (fun c1443 => ?_) (fun c1443 => ?_)
  · refine j_iload C d_L_law_1448 rfl ?_
    refine j_if_ne (tgt := 1465) C d_L_law_1450 (by decide) (fun c1450 => ?_) (fun c1450 => ?_)
    · exact absurd rfl c1450
    · refine j_aload_n C d_L_law_1453 rfl rfl ?_
      refine j_iconst (v := 0) C d_L_law_1454 (by decide) ?_
      refine j_lald (t := 4) (N := 1) C d_L_law_1455 rfl (by omega) ((ovM_n (Or.inr (by omega))).trans (hu_s _ _ _)) (vp_in_nI (n := 0) (by omega) (by omega)) rfl ?_
      refine j_iload C d_L_law_1456 rfl ?_
      refine j_i2l C d_L_law_1458 rfl ?_
      refine j_lcmp C d_L_law_1459 ?_
      refine j_if_eq (tgt := 1465) C d_L_law_1460 (by decide) (fun c1460 => ?_) (fun c1460 => ?_)
      · refine j_goto (tgt := 1468) C d_L_law_1465 (by decide) ?_
        exact j_pick [2, 3, 4, 5, 6] rfl (kk _ _ _ _ (by omega) (by omega))
      · exact absurd (vpz (tr_tick_0 (xs (q + 1)) h0 h1).2.symm) c1460
  · exact absurd (tr_tick_0 (xs (q + 1)) h0 h1).1 c1443

set_option maxHeartbeats 4000000 in
set_option maxRecDepth 100000 in
theorem lc_place_p {p : Program} {l : Launch} {e : Env} {R : Room} {s : State} {m : MethodId} {args : Array Value} {below : List Frame} {meth : Method} {c : Code} {D : va_G} {cA : Nat → ClassId} {b : Nat} {Q : State → Prop} {n : Nat} {h : AH} {kc ks xo mo oo sc q len : Nat} {xs : Nat → Int32} {f : Nat → Int64} (hl : l.stackTraces = false) (C : Cx p l s m meth c D cA b 7 "ReportChecks2Law" "law" b_L_law (some .boolean) []) (hX : va_X sc len xs s s.heap) (hsc : sc < s.heap.size) (hscb : sc < b) (hlen : len < 2 ^ 31) (hq : q + 3 < len) (hRf : 9 ≤ R.frames) (hRl : 200 ≤ R.locals) (hRc : kc + 4 ≤ R.cells) (hRs : ks + 40 ≤ R.slots) (hd1 : xo + 28 ≤ mo) (hd2 : mo + 28 ≤ oo) (hd3 : oo < n) (hout : h oo = .inl (4, 1, .inr (.inl f))) (kk : ∀ n' h' kc' ks', kc' ≤ kc + 4 → ks' ≤ ks + 40 → J p l e R s m args below meth c D cA b 7 Q n' h' kc' ks' 1468 [(4, .int (nI q)), (3, .ref oo), (2, .ref mo), (1, .ref xo), (0, .retAddr sc)] [])  : J p l e R s m args below meth c D cA b 7 Q n (ovX xo ξ0 β0 ρ0 6 13 (ovM mo σ0 β0 h)) kc ks 619 [(4, .int (nI q)), (3, .ref oo), (2, .ref mo), (1, .ref xo), (0, .retAddr sc)] [] := by
  refine j_aload_n C d_L_law_619 rfl rfl ?_
  refine j_callV C d_L_law_620 ml_L_125 mc_X_place in_X_place rfl se_X_place (by omega) (ovX_c (o := 0) rfl) (c_X_place hl _ (show xo + 28 ≤ n by omega)) rfl rfl (Nat.le_trans (m := 9) (Nat.le_of_ble_eq_true rfl) hRf) (Nat.le_trans (m := 200) (Nat.le_of_ble_eq_true rfl) hRl) (by omega) (by omega) (jk_r ?_)
  refine j_h (ovX_M hd1) ?_
  refine j_aload_n C d_L_law_623 rfl rfl ?_
  refine j_callV C d_L_law_624 ml_L_128 mc_M_place in_M_place rfl se_M_place (by omega) (ovM_o _ _ _ _) (c_M_place hl _ _ _ (by omega)) rfl rfl (Nat.le_trans (m := 9) (Nat.le_of_ble_eq_true rfl) hRf) (Nat.le_trans (m := 200) (Nat.le_of_ble_eq_true rfl) hRl) (by omega) (by omega) (jk_r ?_)
  refine j_icmp_eq (tgt := 1468) C d_L_law_627 (by decide) (fun c627 => ?_) (fun c627 => ?_)
  · exact kk _ _ _ _ (by omega) (by omega)
  · exact absurd (show ξ0 3 = σ0 18 by decide) c627

