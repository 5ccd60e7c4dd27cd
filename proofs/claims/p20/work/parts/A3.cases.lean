/-! ===== the law's cases: printed by program ===== -/
set_option maxHeartbeats 4000000 in
set_option maxRecDepth 100000 in
theorem lc_report {p : Program} {l : Launch} {e : Env} {R : Room} {s : State} {m : MethodId} {args : Array Value} {below : List Frame} {meth : Method} {c : Code} {D : va_G} {cA : Nat → ClassId} {b : Nat} {Q : State → Prop} {n : Nat} {h : AH} {kc ks sc q len : Nat} {xs : Nat → Int32} (hl : l.stackTraces = false) (C : Cx p l s m meth c D cA b 7 "ReportChecks2Law" "law" b_L_law (some .boolean) []) (hX : va_X sc len xs s s.heap) (hsc : sc < s.heap.size) (hscb : sc < b) (hlen : len < 2 ^ 31) (hq : q + 3 < len) (hRf : 9 ≤ R.frames) (hRl : 200 ≤ R.locals) (hRc : kc + 3 ≤ R.cells) (hRs : ks + 34 ≤ R.slots) (hS : St n h) (kk : ∀ n' h' kc' ks', kc' ≤ kc + 3 → ks' ≤ ks + 34 → St n' h' → J p l e R s m args below meth c D cA b 7 Q n' h' kc' ks' 1014 [(4, .int (nI q)), (3, .ref 56), (2, .ref 28), (1, .ref 0), (0, .retAddr sc)] []) : J p l e R s m args below meth c D cA b 7 Q n h kc ks 136 [(4, .int (nI q)), (3, .ref 56), (2, .ref 28), (1, .ref 0), (0, .retAddr sc)] [] := by
  refine j_aload_n C d_L_law_136 rfl rfl ?_
  refine j_aloadr_n C d_L_law_137 rfl rfl ?_
  refine j_iload C d_L_law_138 rfl ?_
  refine j_iconst (v := 1) C d_L_law_140 (by decide) ?_
  refine j_iadd C d_L_law_141 ?_
  refine j_sld (w := xs (q + 1)) C hX hsc hscb d_L_law_142 (six (k := 1) (by omega) hlen) (sixc (k := 1) (by omega) hlen) ?_
  refine j_aloadr_n C d_L_law_143 rfl rfl ?_
  refine j_iload C d_L_law_144 rfl ?_
  refine j_iconst (v := 2) C d_L_law_146 (by decide) ?_
  refine j_iadd C d_L_law_147 ?_
  refine j_sld (w := xs (q + 2)) C hX hsc hscb d_L_law_148 (six (k := 2) (by omega) hlen) (sixc (k := 2) (by omega) hlen) ?_
  refine j_aload_n C d_L_law_149 rfl rfl ?_
  refine j_callS C d_L_law_150 ml_L_90 mc_L_report st_L_report (s_report hl hS _ _) rfl rfl (Nat.le_trans (m := 9) (Nat.le_of_ble_eq_true rfl) hRf) (Nat.le_trans (m := 200) (Nat.le_of_ble_eq_true rfl) hRl) (by omega) (by omega) (jk_wz (fun k1 n1 h1 hn1 hf1 hM => ?_))
  refine j_istore C d_L_law_153 (by decide) rfl ?_
  refine j_aload_n C d_L_law_155 rfl rfl ?_
  refine j_aloadr_n C d_L_law_156 rfl rfl ?_
  refine j_iload C d_L_law_157 rfl ?_
  refine j_iconst (v := 1) C d_L_law_159 (by decide) ?_
  refine j_iadd C d_L_law_160 ?_
  refine j_sld (w := xs (q + 1)) C hX hsc hscb d_L_law_161 (six (k := 1) (by omega) hlen) (sixc (k := 1) (by omega) hlen) ?_
  refine j_aloadr_n C d_L_law_162 rfl rfl ?_
  refine j_iload C d_L_law_163 rfl ?_
  refine j_iconst (v := 2) C d_L_law_165 (by decide) ?_
  refine j_iadd C d_L_law_166 ?_
  refine j_sld (w := xs (q + 2)) C hX hsc hscb d_L_law_167 (six (k := 2) (by omega) hlen) (sixc (k := 2) (by omega) hlen) ?_
  obtain ⟨fs1, hf1⟩ := hf1
  refine j_callV C d_L_law_168 ml_L_95 mc_M_report in_M_report rfl se_M_report (by omega) hf1 hM rfl rfl (Nat.le_trans (m := 9) (Nat.le_of_ble_eq_true rfl) hRf) (Nat.le_trans (m := 200) (Nat.le_of_ble_eq_true rfl) hRl) (by omega) (by omega) (jk_mz (fun v2 f2 h2 hB hP => ?_))
  refine j_istore C d_L_law_171 (by decide) rfl ?_
  refine j_goto (tgt := 1014) C d_L_law_173 (by decide) ?_
  exact j_pick [2, 3, 4, 5, 6] rfl (kk _ _ _ _ (by omega) (by omega) ⟨_, _, hB⟩)

set_option maxHeartbeats 4000000 in
set_option maxRecDepth 100000 in
theorem lc_ask {p : Program} {l : Launch} {e : Env} {R : Room} {s : State} {m : MethodId} {args : Array Value} {below : List Frame} {meth : Method} {c : Code} {D : va_G} {cA : Nat → ClassId} {b : Nat} {Q : State → Prop} {n : Nat} {h : AH} {kc ks sc q len : Nat} {xs : Nat → Int32} (hl : l.stackTraces = false) (C : Cx p l s m meth c D cA b 7 "ReportChecks2Law" "law" b_L_law (some .boolean) []) (hX : va_X sc len xs s s.heap) (hsc : sc < s.heap.size) (hscb : sc < b) (hlen : len < 2 ^ 31) (hq : q + 3 < len) (hRf : 9 ≤ R.frames) (hRl : 200 ≤ R.locals) (hRc : kc + 3 ≤ R.cells) (hRs : ks + 34 ≤ R.slots) (hS : St n h) (kk : ∀ n' h' kc' ks', kc' ≤ kc + 3 → ks' ≤ ks + 34 → St n' h' → J p l e R s m args below meth c D cA b 7 Q n' h' kc' ks' 1014 [(4, .int (nI q)), (3, .ref 56), (2, .ref 28), (1, .ref 0), (0, .retAddr sc)] []) : J p l e R s m args below meth c D cA b 7 Q n h kc ks 176 [(4, .int (nI q)), (3, .ref 56), (2, .ref 28), (1, .ref 0), (0, .retAddr sc)] [] := by
  refine j_aload_n C d_L_law_176 rfl rfl ?_
  refine j_aloadr_n C d_L_law_177 rfl rfl ?_
  refine j_iload C d_L_law_178 rfl ?_
  refine j_iconst (v := 1) C d_L_law_180 (by decide) ?_
  refine j_iadd C d_L_law_181 ?_
  refine j_sld (w := xs (q + 1)) C hX hsc hscb d_L_law_182 (six (k := 1) (by omega) hlen) (sixc (k := 1) (by omega) hlen) ?_
  refine j_aloadr_n C d_L_law_183 rfl rfl ?_
  refine j_iload C d_L_law_184 rfl ?_
  refine j_iconst (v := 2) C d_L_law_186 (by decide) ?_
  refine j_iadd C d_L_law_187 ?_
  refine j_sld (w := xs (q + 2)) C hX hsc hscb d_L_law_188 (six (k := 2) (by omega) hlen) (sixc (k := 2) (by omega) hlen) ?_
  refine j_aloadr_n C d_L_law_189 rfl rfl ?_
  refine j_iload C d_L_law_190 rfl ?_
  refine j_iconst (v := 3) C d_L_law_192 (by decide) ?_
  refine j_iadd C d_L_law_193 ?_
  refine j_sld (w := xs (q + 3)) C hX hsc hscb d_L_law_194 (six (k := 3) (by omega) hlen) (sixc (k := 3) (by omega) hlen) ?_
  refine j_if_eq (tgt := 202) C d_L_law_195 (by decide) (fun c195 => ?_) (fun c195 => ?_)
  · refine j_iconst (v := 0) C d_L_law_202 (by decide) ?_
    refine j_callS C d_L_law_203 ml_L_96 mc_L_ask st_L_ask (s_ask hl hS _ _ _ (by decide)) rfl rfl (Nat.le_trans (m := 9) (Nat.le_of_ble_eq_true rfl) hRf) (Nat.le_trans (m := 200) (Nat.le_of_ble_eq_true rfl) hRl) (by omega) (by omega) (jk_wv (fun k1 n1 h1 hn1 hf1 hM => ?_))
    refine j_istore C d_L_law_206 (by decide) rfl ?_
    refine j_aload_n C d_L_law_208 rfl rfl ?_
    refine j_aloadr_n C d_L_law_209 rfl rfl ?_
    refine j_iload C d_L_law_210 rfl ?_
    refine j_iconst (v := 1) C d_L_law_212 (by decide) ?_
    refine j_iadd C d_L_law_213 ?_
    refine j_sld (w := xs (q + 1)) C hX hsc hscb d_L_law_214 (six (k := 1) (by omega) hlen) (sixc (k := 1) (by omega) hlen) ?_
    refine j_aloadr_n C d_L_law_215 rfl rfl ?_
    refine j_iload C d_L_law_216 rfl ?_
    refine j_iconst (v := 2) C d_L_law_218 (by decide) ?_
    refine j_iadd C d_L_law_219 ?_
    refine j_sld (w := xs (q + 2)) C hX hsc hscb d_L_law_220 (six (k := 2) (by omega) hlen) (sixc (k := 2) (by omega) hlen) ?_
    refine j_aloadr_n C d_L_law_221 rfl rfl ?_
    refine j_iload C d_L_law_222 rfl ?_
    refine j_iconst (v := 3) C d_L_law_224 (by decide) ?_
    refine j_iadd C d_L_law_225 ?_
    refine j_sld (w := xs (q + 3)) C hX hsc hscb d_L_law_226 (six (k := 3) (by omega) hlen) (sixc (k := 3) (by omega) hlen) ?_
    refine j_if_eq (tgt := 234) C d_L_law_227 (by decide) (fun c227 => ?_) (fun c227 => ?_)
    · refine j_iconst (v := 0) C d_L_law_234 (by decide) ?_
      obtain ⟨fs1, hf1⟩ := hf1
      refine j_callV C d_L_law_235 ml_L_99 mc_M_ask in_M_ask rfl se_M_ask (by omega) hf1 hM rfl rfl (Nat.le_trans (m := 9) (Nat.le_of_ble_eq_true rfl) hRf) (Nat.le_trans (m := 200) (Nat.le_of_ble_eq_true rfl) hRl) (by omega) (by omega) (jk_mv (fun f2 h2 hB => ?_))
      refine j_goto (tgt := 1014) C d_L_law_238 (by decide) ?_
      exact j_pick [1, 2, 3, 4, 5] rfl (kk _ _ _ _ (by omega) (by omega) ⟨_, _, hB⟩)
    · exact absurd c195 c227
  · refine j_iconst (v := 1) C d_L_law_198 (by decide) ?_
    refine j_goto (tgt := 203) C d_L_law_199 (by decide) ?_
    refine j_callS C d_L_law_203 ml_L_96 mc_L_ask st_L_ask (s_ask hl hS _ _ _ (by decide)) rfl rfl (Nat.le_trans (m := 9) (Nat.le_of_ble_eq_true rfl) hRf) (Nat.le_trans (m := 200) (Nat.le_of_ble_eq_true rfl) hRl) (by omega) (by omega) (jk_wv (fun k1 n1 h1 hn1 hf1 hM => ?_))
    refine j_istore C d_L_law_206 (by decide) rfl ?_
    refine j_aload_n C d_L_law_208 rfl rfl ?_
    refine j_aloadr_n C d_L_law_209 rfl rfl ?_
    refine j_iload C d_L_law_210 rfl ?_
    refine j_iconst (v := 1) C d_L_law_212 (by decide) ?_
    refine j_iadd C d_L_law_213 ?_
    refine j_sld (w := xs (q + 1)) C hX hsc hscb d_L_law_214 (six (k := 1) (by omega) hlen) (sixc (k := 1) (by omega) hlen) ?_
    refine j_aloadr_n C d_L_law_215 rfl rfl ?_
    refine j_iload C d_L_law_216 rfl ?_
    refine j_iconst (v := 2) C d_L_law_218 (by decide) ?_
    refine j_iadd C d_L_law_219 ?_
    refine j_sld (w := xs (q + 2)) C hX hsc hscb d_L_law_220 (six (k := 2) (by omega) hlen) (sixc (k := 2) (by omega) hlen) ?_
    refine j_aloadr_n C d_L_law_221 rfl rfl ?_
    refine j_iload C d_L_law_222 rfl ?_
    refine j_iconst (v := 3) C d_L_law_224 (by decide) ?_
    refine j_iadd C d_L_law_225 ?_
    refine j_sld (w := xs (q + 3)) C hX hsc hscb d_L_law_226 (six (k := 3) (by omega) hlen) (sixc (k := 3) (by omega) hlen) ?_
    refine j_if_eq (tgt := 234) C d_L_law_227 (by decide) (fun c227 => ?_) (fun c227 => ?_)
    · exact absurd c227 c195
    · refine j_iconst (v := 1) C d_L_law_230 (by decide) ?_
      refine j_goto (tgt := 235) C d_L_law_231 (by decide) ?_
      obtain ⟨fs1, hf1⟩ := hf1
      refine j_callV C d_L_law_235 ml_L_99 mc_M_ask in_M_ask rfl se_M_ask (by omega) hf1 hM rfl rfl (Nat.le_trans (m := 9) (Nat.le_of_ble_eq_true rfl) hRf) (Nat.le_trans (m := 200) (Nat.le_of_ble_eq_true rfl) hRl) (by omega) (by omega) (jk_mv (fun f2 h2 hB => ?_))
      refine j_goto (tgt := 1014) C d_L_law_238 (by decide) ?_
      exact j_pick [1, 2, 3, 4, 5] rfl (kk _ _ _ _ (by omega) (by omega) ⟨_, _, hB⟩)

set_option maxHeartbeats 4000000 in
set_option maxRecDepth 100000 in
theorem lc_field {p : Program} {l : Launch} {e : Env} {R : Room} {s : State} {m : MethodId} {args : Array Value} {below : List Frame} {meth : Method} {c : Code} {D : va_G} {cA : Nat → ClassId} {b : Nat} {Q : State → Prop} {n : Nat} {h : AH} {kc ks sc q len : Nat} {xs : Nat → Int32} (hl : l.stackTraces = false) (C : Cx p l s m meth c D cA b 7 "ReportChecks2Law" "law" b_L_law (some .boolean) []) (hX : va_X sc len xs s s.heap) (hsc : sc < s.heap.size) (hscb : sc < b) (hlen : len < 2 ^ 31) (hq : q + 3 < len) (hRf : 9 ≤ R.frames) (hRl : 200 ≤ R.locals) (hRc : kc + 3 ≤ R.cells) (hRs : ks + 34 ≤ R.slots) (hS : St n h) (kk : ∀ n' h' kc' ks', kc' ≤ kc + 3 → ks' ≤ ks + 34 → St n' h' → J p l e R s m args below meth c D cA b 7 Q n' h' kc' ks' 1014 [(4, .int (nI q)), (3, .ref 56), (2, .ref 28), (1, .ref 0), (0, .retAddr sc)] []) : J p l e R s m args below meth c D cA b 7 Q n h kc ks 241 [(4, .int (nI q)), (3, .ref 56), (2, .ref 28), (1, .ref 0), (0, .retAddr sc)] [] := by
  refine j_aload_n C d_L_law_241 rfl rfl ?_
  refine j_aloadr_n C d_L_law_242 rfl rfl ?_
  refine j_iload C d_L_law_243 rfl ?_
  refine j_iconst (v := 1) C d_L_law_245 (by decide) ?_
  refine j_iadd C d_L_law_246 ?_
  refine j_sld (w := xs (q + 1)) C hX hsc hscb d_L_law_247 (six (k := 1) (by omega) hlen) (sixc (k := 1) (by omega) hlen) ?_
  refine j_aloadr_n C d_L_law_248 rfl rfl ?_
  refine j_iload C d_L_law_249 rfl ?_
  refine j_iconst (v := 2) C d_L_law_251 (by decide) ?_
  refine j_iadd C d_L_law_252 ?_
  refine j_sld (w := xs (q + 2)) C hX hsc hscb d_L_law_253 (six (k := 2) (by omega) hlen) (sixc (k := 2) (by omega) hlen) ?_
  refine j_aloadr_n C d_L_law_254 rfl rfl ?_
  refine j_iload C d_L_law_255 rfl ?_
  refine j_iconst (v := 3) C d_L_law_257 (by decide) ?_
  refine j_iadd C d_L_law_258 ?_
  refine j_sld (w := xs (q + 3)) C hX hsc hscb d_L_law_259 (six (k := 3) (by omega) hlen) (sixc (k := 3) (by omega) hlen) ?_
  refine j_callS C d_L_law_260 ml_L_100 mc_L_field st_L_field (s_field hl hS _ _ _) rfl rfl (Nat.le_trans (m := 9) (Nat.le_of_ble_eq_true rfl) hRf) (Nat.le_trans (m := 200) (Nat.le_of_ble_eq_true rfl) hRl) (by omega) (by omega) (jk_wv (fun k1 n1 h1 hn1 hf1 hM => ?_))
  refine j_istore C d_L_law_263 (by decide) rfl ?_
  refine j_aload_n C d_L_law_265 rfl rfl ?_
  refine j_aloadr_n C d_L_law_266 rfl rfl ?_
  refine j_iload C d_L_law_267 rfl ?_
  refine j_iconst (v := 1) C d_L_law_269 (by decide) ?_
  refine j_iadd C d_L_law_270 ?_
  refine j_sld (w := xs (q + 1)) C hX hsc hscb d_L_law_271 (six (k := 1) (by omega) hlen) (sixc (k := 1) (by omega) hlen) ?_
  refine j_aloadr_n C d_L_law_272 rfl rfl ?_
  refine j_iload C d_L_law_273 rfl ?_
  refine j_iconst (v := 2) C d_L_law_275 (by decide) ?_
  refine j_iadd C d_L_law_276 ?_
  refine j_sld (w := xs (q + 2)) C hX hsc hscb d_L_law_277 (six (k := 2) (by omega) hlen) (sixc (k := 2) (by omega) hlen) ?_
  refine j_aloadr_n C d_L_law_278 rfl rfl ?_
  refine j_iload C d_L_law_279 rfl ?_
  refine j_iconst (v := 3) C d_L_law_281 (by decide) ?_
  refine j_iadd C d_L_law_282 ?_
  refine j_sld (w := xs (q + 3)) C hX hsc hscb d_L_law_283 (six (k := 3) (by omega) hlen) (sixc (k := 3) (by omega) hlen) ?_
  obtain ⟨fs1, hf1⟩ := hf1
  refine j_callV C d_L_law_284 ml_L_103 mc_M_field in_M_field rfl se_M_field (by omega) hf1 hM rfl rfl (Nat.le_trans (m := 9) (Nat.le_of_ble_eq_true rfl) hRf) (Nat.le_trans (m := 200) (Nat.le_of_ble_eq_true rfl) hRl) (by omega) (by omega) (jk_mv (fun f2 h2 hB => ?_))
  refine j_goto (tgt := 1014) C d_L_law_287 (by decide) ?_
  exact j_pick [1, 2, 3, 4, 5] rfl (kk _ _ _ _ (by omega) (by omega) ⟨_, _, hB⟩)

set_option maxHeartbeats 4000000 in
set_option maxRecDepth 100000 in
theorem lc_act {p : Program} {l : Launch} {e : Env} {R : Room} {s : State} {m : MethodId} {args : Array Value} {below : List Frame} {meth : Method} {c : Code} {D : va_G} {cA : Nat → ClassId} {b : Nat} {Q : State → Prop} {n : Nat} {h : AH} {kc ks sc q len : Nat} {xs : Nat → Int32} (hl : l.stackTraces = false) (C : Cx p l s m meth c D cA b 7 "ReportChecks2Law" "law" b_L_law (some .boolean) []) (hX : va_X sc len xs s s.heap) (hsc : sc < s.heap.size) (hscb : sc < b) (hlen : len < 2 ^ 31) (hq : q + 3 < len) (hRf : 9 ≤ R.frames) (hRl : 200 ≤ R.locals) (hRc : kc + 3 ≤ R.cells) (hRs : ks + 34 ≤ R.slots) (hS : St n h) (kk : ∀ n' h' kc' ks', kc' ≤ kc + 3 → ks' ≤ ks + 34 → St n' h' → J p l e R s m args below meth c D cA b 7 Q n' h' kc' ks' 1014 [(4, .int (nI q)), (3, .ref 56), (2, .ref 28), (1, .ref 0), (0, .retAddr sc)] []) : J p l e R s m args below meth c D cA b 7 Q n h kc ks 290 [(4, .int (nI q)), (3, .ref 56), (2, .ref 28), (1, .ref 0), (0, .retAddr sc)] [] := by
  refine j_aload_n C d_L_law_290 rfl rfl ?_
  refine j_aloadr_n C d_L_law_291 rfl rfl ?_
  refine j_iload C d_L_law_292 rfl ?_
  refine j_iconst (v := 1) C d_L_law_294 (by decide) ?_
  refine j_iadd C d_L_law_295 ?_
  refine j_sld (w := xs (q + 1)) C hX hsc hscb d_L_law_296 (six (k := 1) (by omega) hlen) (sixc (k := 1) (by omega) hlen) ?_
  refine j_aloadr_n C d_L_law_297 rfl rfl ?_
  refine j_iload C d_L_law_298 rfl ?_
  refine j_iconst (v := 2) C d_L_law_300 (by decide) ?_
  refine j_iadd C d_L_law_301 ?_
  refine j_sld (w := xs (q + 2)) C hX hsc hscb d_L_law_302 (six (k := 2) (by omega) hlen) (sixc (k := 2) (by omega) hlen) ?_
  refine j_aloadr_n C d_L_law_303 rfl rfl ?_
  refine j_iload C d_L_law_304 rfl ?_
  refine j_iconst (v := 3) C d_L_law_306 (by decide) ?_
  refine j_iadd C d_L_law_307 ?_
  refine j_sld (w := xs (q + 3)) C hX hsc hscb d_L_law_308 (six (k := 3) (by omega) hlen) (sixc (k := 3) (by omega) hlen) ?_
  refine j_aload_n C d_L_law_309 rfl rfl ?_
  refine j_callS C d_L_law_310 ml_L_104 mc_L_act st_L_act (s_act hl hS _ _ _) rfl rfl (Nat.le_trans (m := 9) (Nat.le_of_ble_eq_true rfl) hRf) (Nat.le_trans (m := 200) (Nat.le_of_ble_eq_true rfl) hRl) (by omega) (by omega) (jk_wz (fun k1 n1 h1 hn1 hf1 hM => ?_))
  refine j_istore C d_L_law_313 (by decide) rfl ?_
  refine j_aload_n C d_L_law_315 rfl rfl ?_
  refine j_aloadr_n C d_L_law_316 rfl rfl ?_
  refine j_iload C d_L_law_317 rfl ?_
  refine j_iconst (v := 1) C d_L_law_319 (by decide) ?_
  refine j_iadd C d_L_law_320 ?_
  refine j_sld (w := xs (q + 1)) C hX hsc hscb d_L_law_321 (six (k := 1) (by omega) hlen) (sixc (k := 1) (by omega) hlen) ?_
  refine j_aloadr_n C d_L_law_322 rfl rfl ?_
  refine j_iload C d_L_law_323 rfl ?_
  refine j_iconst (v := 2) C d_L_law_325 (by decide) ?_
  refine j_iadd C d_L_law_326 ?_
  refine j_sld (w := xs (q + 2)) C hX hsc hscb d_L_law_327 (six (k := 2) (by omega) hlen) (sixc (k := 2) (by omega) hlen) ?_
  refine j_aloadr_n C d_L_law_328 rfl rfl ?_
  refine j_iload C d_L_law_329 rfl ?_
  refine j_iconst (v := 3) C d_L_law_331 (by decide) ?_
  refine j_iadd C d_L_law_332 ?_
  refine j_sld (w := xs (q + 3)) C hX hsc hscb d_L_law_333 (six (k := 3) (by omega) hlen) (sixc (k := 3) (by omega) hlen) ?_
  obtain ⟨fs1, hf1⟩ := hf1
  refine j_callV C d_L_law_334 ml_L_107 mc_M_act in_M_act rfl se_M_act (by omega) hf1 hM rfl rfl (Nat.le_trans (m := 9) (Nat.le_of_ble_eq_true rfl) hRf) (Nat.le_trans (m := 200) (Nat.le_of_ble_eq_true rfl) hRl) (by omega) (by omega) (jk_mz (fun v2 f2 h2 hB hP => ?_))
  refine j_istore C d_L_law_337 (by decide) rfl ?_
  refine j_goto (tgt := 1014) C d_L_law_339 (by decide) ?_
  exact j_pick [2, 3, 4, 5, 6] rfl (kk _ _ _ _ (by omega) (by omega) ⟨_, _, hB⟩)

set_option maxHeartbeats 4000000 in
set_option maxRecDepth 100000 in
theorem lc_inside {p : Program} {l : Launch} {e : Env} {R : Room} {s : State} {m : MethodId} {args : Array Value} {below : List Frame} {meth : Method} {c : Code} {D : va_G} {cA : Nat → ClassId} {b : Nat} {Q : State → Prop} {n : Nat} {h : AH} {kc ks sc q len : Nat} {xs : Nat → Int32} (hl : l.stackTraces = false) (C : Cx p l s m meth c D cA b 7 "ReportChecks2Law" "law" b_L_law (some .boolean) []) (hX : va_X sc len xs s s.heap) (hsc : sc < s.heap.size) (hscb : sc < b) (hlen : len < 2 ^ 31) (hq : q + 3 < len) (hRf : 9 ≤ R.frames) (hRl : 200 ≤ R.locals) (hRc : kc + 3 ≤ R.cells) (hRs : ks + 34 ≤ R.slots) (hS : St n h) (kk : ∀ n' h' kc' ks', kc' ≤ kc + 3 → ks' ≤ ks + 34 → St n' h' → J p l e R s m args below meth c D cA b 7 Q n' h' kc' ks' 1014 [(4, .int (nI q)), (3, .ref 56), (2, .ref 28), (1, .ref 0), (0, .retAddr sc)] []) : J p l e R s m args below meth c D cA b 7 Q n h kc ks 342 [(4, .int (nI q)), (3, .ref 56), (2, .ref 28), (1, .ref 0), (0, .retAddr sc)] [] := by
  refine j_aload_n C d_L_law_342 rfl rfl ?_
  refine j_aloadr_n C d_L_law_343 rfl rfl ?_
  refine j_iload C d_L_law_344 rfl ?_
  refine j_iconst (v := 1) C d_L_law_346 (by decide) ?_
  refine j_iadd C d_L_law_347 ?_
  refine j_sld (w := xs (q + 1)) C hX hsc hscb d_L_law_348 (six (k := 1) (by omega) hlen) (sixc (k := 1) (by omega) hlen) ?_
  refine j_aloadr_n C d_L_law_349 rfl rfl ?_
  refine j_iload C d_L_law_350 rfl ?_
  refine j_iconst (v := 2) C d_L_law_352 (by decide) ?_
  refine j_iadd C d_L_law_353 ?_
  refine j_sld (w := xs (q + 2)) C hX hsc hscb d_L_law_354 (six (k := 2) (by omega) hlen) (sixc (k := 2) (by omega) hlen) ?_
  refine j_callS C d_L_law_355 ml_L_108 mc_L_inside st_L_inside (s_inside hl hS _ _) rfl rfl (Nat.le_trans (m := 9) (Nat.le_of_ble_eq_true rfl) hRf) (Nat.le_trans (m := 200) (Nat.le_of_ble_eq_true rfl) hRl) (by omega) (by omega) (jk_wv (fun k1 n1 h1 hn1 hf1 hM => ?_))
  refine j_istore C d_L_law_358 (by decide) rfl ?_
  refine j_aload_n C d_L_law_360 rfl rfl ?_
  refine j_aloadr_n C d_L_law_361 rfl rfl ?_
  refine j_iload C d_L_law_362 rfl ?_
  refine j_iconst (v := 1) C d_L_law_364 (by decide) ?_
  refine j_iadd C d_L_law_365 ?_
  refine j_sld (w := xs (q + 1)) C hX hsc hscb d_L_law_366 (six (k := 1) (by omega) hlen) (sixc (k := 1) (by omega) hlen) ?_
  refine j_aloadr_n C d_L_law_367 rfl rfl ?_
  refine j_iload C d_L_law_368 rfl ?_
  refine j_iconst (v := 2) C d_L_law_370 (by decide) ?_
  refine j_iadd C d_L_law_371 ?_
  refine j_sld (w := xs (q + 2)) C hX hsc hscb d_L_law_372 (six (k := 2) (by omega) hlen) (sixc (k := 2) (by omega) hlen) ?_
  obtain ⟨fs1, hf1⟩ := hf1
  refine j_callV C d_L_law_373 ml_L_111 mc_M_inside in_M_inside rfl se_M_inside (by omega) hf1 hM rfl rfl (Nat.le_trans (m := 9) (Nat.le_of_ble_eq_true rfl) hRf) (Nat.le_trans (m := 200) (Nat.le_of_ble_eq_true rfl) hRl) (by omega) (by omega) (jk_mv (fun f2 h2 hB => ?_))
  refine j_goto (tgt := 1014) C d_L_law_376 (by decide) ?_
  exact j_pick [1, 2, 3, 4, 5] rfl (kk _ _ _ _ (by omega) (by omega) ⟨_, _, hB⟩)

set_option maxHeartbeats 4000000 in
set_option maxRecDepth 100000 in
theorem lc_sign {p : Program} {l : Launch} {e : Env} {R : Room} {s : State} {m : MethodId} {args : Array Value} {below : List Frame} {meth : Method} {c : Code} {D : va_G} {cA : Nat → ClassId} {b : Nat} {Q : State → Prop} {n : Nat} {h : AH} {kc ks sc q len : Nat} {xs : Nat → Int32} (hl : l.stackTraces = false) (C : Cx p l s m meth c D cA b 7 "ReportChecks2Law" "law" b_L_law (some .boolean) []) (hX : va_X sc len xs s s.heap) (hsc : sc < s.heap.size) (hscb : sc < b) (hlen : len < 2 ^ 31) (hq : q + 3 < len) (hRf : 9 ≤ R.frames) (hRl : 200 ≤ R.locals) (hRc : kc + 3 ≤ R.cells) (hRs : ks + 34 ≤ R.slots) (hS : St n h) (kk : ∀ n' h' kc' ks', kc' ≤ kc + 3 → ks' ≤ ks + 34 → St n' h' → J p l e R s m args below meth c D cA b 7 Q n' h' kc' ks' 1014 [(4, .int (nI q)), (3, .ref 56), (2, .ref 28), (1, .ref 0), (0, .retAddr sc)] []) : J p l e R s m args below meth c D cA b 7 Q n h kc ks 379 [(4, .int (nI q)), (3, .ref 56), (2, .ref 28), (1, .ref 0), (0, .retAddr sc)] [] := by
  refine j_aload_n C d_L_law_379 rfl rfl ?_
  refine j_aloadr_n C d_L_law_380 rfl rfl ?_
  refine j_iload C d_L_law_381 rfl ?_
  refine j_iconst (v := 1) C d_L_law_383 (by decide) ?_
  refine j_iadd C d_L_law_384 ?_
  refine j_sld (w := xs (q + 1)) C hX hsc hscb d_L_law_385 (six (k := 1) (by omega) hlen) (sixc (k := 1) (by omega) hlen) ?_
  refine j_i2l C d_L_law_386 rfl ?_
  refine j_bipush (v := 32) C d_L_law_387 (by decide) ?_
  refine j_lshl C d_L_law_389 rfl ?_
  refine j_aloadr_n C d_L_law_390 rfl rfl ?_
  refine j_iload C d_L_law_391 rfl ?_
  refine j_iconst (v := 2) C d_L_law_393 (by decide) ?_
  refine j_iadd C d_L_law_394 ?_
  refine j_sld (w := xs (q + 2)) C hX hsc hscb d_L_law_395 (six (k := 2) (by omega) hlen) (sixc (k := 2) (by omega) hlen) ?_
  refine j_i2l C d_L_law_396 rfl ?_
  refine j_ldc2 (v := 4294967295) C d_L_law_397 lcL_L_112 ?_
  refine j_land C d_L_law_400 ?_
  refine j_lor C d_L_law_401 ?_
  refine j_aloadr_n C d_L_law_402 rfl rfl ?_
  refine j_iload C d_L_law_403 rfl ?_
  refine j_iconst (v := 3) C d_L_law_405 (by decide) ?_
  refine j_iadd C d_L_law_406 ?_
  refine j_sld (w := xs (q + 3)) C hX hsc hscb d_L_law_407 (six (k := 3) (by omega) hlen) (sixc (k := 3) (by omega) hlen) ?_
  refine j_aload_n C d_L_law_408 rfl rfl ?_
  refine j_callS C d_L_law_409 ml_L_114 mc_L_sign st_L_sign (s_sign hl hS _ _) rfl rfl (Nat.le_trans (m := 9) (Nat.le_of_ble_eq_true rfl) hRf) (Nat.le_trans (m := 200) (Nat.le_of_ble_eq_true rfl) hRl) (by omega) (by omega) (jk_wz (fun k1 n1 h1 hn1 hf1 hM => ?_))
  refine j_istore C d_L_law_412 (by decide) rfl ?_
  refine j_aload_n C d_L_law_414 rfl rfl ?_
  refine j_aloadr_n C d_L_law_415 rfl rfl ?_
  refine j_iload C d_L_law_416 rfl ?_
  refine j_iconst (v := 1) C d_L_law_418 (by decide) ?_
  refine j_iadd C d_L_law_419 ?_
  refine j_sld (w := xs (q + 1)) C hX hsc hscb d_L_law_420 (six (k := 1) (by omega) hlen) (sixc (k := 1) (by omega) hlen) ?_
  refine j_i2l C d_L_law_421 rfl ?_
  refine j_bipush (v := 32) C d_L_law_422 (by decide) ?_
  refine j_lshl C d_L_law_424 rfl ?_
  refine j_aloadr_n C d_L_law_425 rfl rfl ?_
  refine j_iload C d_L_law_426 rfl ?_
  refine j_iconst (v := 2) C d_L_law_428 (by decide) ?_
  refine j_iadd C d_L_law_429 ?_
  refine j_sld (w := xs (q + 2)) C hX hsc hscb d_L_law_430 (six (k := 2) (by omega) hlen) (sixc (k := 2) (by omega) hlen) ?_
  refine j_i2l C d_L_law_431 rfl ?_
  refine j_ldc2 (v := 4294967295) C d_L_law_432 lcL_L_112 ?_
  refine j_land C d_L_law_435 ?_
  refine j_lor C d_L_law_436 ?_
  refine j_aloadr_n C d_L_law_437 rfl rfl ?_
  refine j_iload C d_L_law_438 rfl ?_
  refine j_iconst (v := 3) C d_L_law_440 (by decide) ?_
  refine j_iadd C d_L_law_441 ?_
  refine j_sld (w := xs (q + 3)) C hX hsc hscb d_L_law_442 (six (k := 3) (by omega) hlen) (sixc (k := 3) (by omega) hlen) ?_
  obtain ⟨fs1, hf1⟩ := hf1
  refine j_callV C d_L_law_443 ml_L_117 mc_M_sign in_M_sign rfl se_M_sign (by omega) hf1 hM rfl rfl (Nat.le_trans (m := 9) (Nat.le_of_ble_eq_true rfl) hRf) (Nat.le_trans (m := 200) (Nat.le_of_ble_eq_true rfl) hRl) (by omega) (by omega) (jk_mz (fun v2 f2 h2 hB hP => ?_))
  refine j_istore C d_L_law_446 (by decide) rfl ?_
  refine j_goto (tgt := 1014) C d_L_law_448 (by decide) ?_
  exact j_pick [2, 3, 4, 5, 6] rfl (kk _ _ _ _ (by omega) (by omega) ⟨_, _, hB⟩)

set_option maxHeartbeats 4000000 in
set_option maxRecDepth 100000 in
theorem lc_rules {p : Program} {l : Launch} {e : Env} {R : Room} {s : State} {m : MethodId} {args : Array Value} {below : List Frame} {meth : Method} {c : Code} {D : va_G} {cA : Nat → ClassId} {b : Nat} {Q : State → Prop} {n : Nat} {h : AH} {kc ks sc q len : Nat} {xs : Nat → Int32} (hl : l.stackTraces = false) (C : Cx p l s m meth c D cA b 7 "ReportChecks2Law" "law" b_L_law (some .boolean) []) (hX : va_X sc len xs s s.heap) (hsc : sc < s.heap.size) (hscb : sc < b) (hlen : len < 2 ^ 31) (hq : q + 3 < len) (hRf : 9 ≤ R.frames) (hRl : 200 ≤ R.locals) (hRc : kc + 3 ≤ R.cells) (hRs : ks + 34 ≤ R.slots) (hS : St n h) (kk : ∀ n' h' kc' ks', kc' ≤ kc + 3 → ks' ≤ ks + 34 → St n' h' → J p l e R s m args below meth c D cA b 7 Q n' h' kc' ks' 1014 [(4, .int (nI q)), (3, .ref 56), (2, .ref 28), (1, .ref 0), (0, .retAddr sc)] []) : J p l e R s m args below meth c D cA b 7 Q n h kc ks 451 [(4, .int (nI q)), (3, .ref 56), (2, .ref 28), (1, .ref 0), (0, .retAddr sc)] [] := by
  refine j_aload_n C d_L_law_451 rfl rfl ?_
  refine j_aload_n C d_L_law_452 rfl rfl ?_
  refine j_callS C d_L_law_453 ml_L_118 mc_L_rules st_L_rules (s_rules hl hS) rfl rfl (Nat.le_trans (m := 9) (Nat.le_of_ble_eq_true rfl) hRf) (Nat.le_trans (m := 200) (Nat.le_of_ble_eq_true rfl) hRl) (by omega) (by omega) (jk_wz (fun k1 n1 h1 hn1 hf1 hM => ?_))
  refine j_istore C d_L_law_456 (by decide) rfl ?_
  refine j_aload_n C d_L_law_458 rfl rfl ?_
  obtain ⟨fs1, hf1⟩ := hf1
  refine j_callV C d_L_law_459 ml_L_121 mc_M_rules in_M_rules rfl se_M_rules (by omega) hf1 hM rfl rfl (Nat.le_trans (m := 9) (Nat.le_of_ble_eq_true rfl) hRf) (Nat.le_trans (m := 200) (Nat.le_of_ble_eq_true rfl) hRl) (by omega) (by omega) (jk_mz (fun v2 f2 h2 hB hP => ?_))
  refine j_istore C d_L_law_462 (by decide) rfl ?_
  refine j_goto (tgt := 1014) C d_L_law_464 (by decide) ?_
  exact j_pick [2, 3, 4, 5, 6] rfl (kk _ _ _ _ (by omega) (by omega) ⟨_, _, hB⟩)

set_option maxHeartbeats 4000000 in
set_option maxRecDepth 100000 in
theorem lc_place {p : Program} {l : Launch} {e : Env} {R : Room} {s : State} {m : MethodId} {args : Array Value} {below : List Frame} {meth : Method} {c : Code} {D : va_G} {cA : Nat → ClassId} {b : Nat} {Q : State → Prop} {n : Nat} {h : AH} {kc ks sc q len : Nat} {xs : Nat → Int32} (hl : l.stackTraces = false) (C : Cx p l s m meth c D cA b 7 "ReportChecks2Law" "law" b_L_law (some .boolean) []) (hX : va_X sc len xs s s.heap) (hsc : sc < s.heap.size) (hscb : sc < b) (hlen : len < 2 ^ 31) (hq : q + 3 < len) (hRf : 9 ≤ R.frames) (hRl : 200 ≤ R.locals) (hRc : kc + 3 ≤ R.cells) (hRs : ks + 34 ≤ R.slots) (hS : St n h) (kk : ∀ n' h' kc' ks', kc' ≤ kc + 3 → ks' ≤ ks + 34 → St n' h' → J p l e R s m args below meth c D cA b 7 Q n' h' kc' ks' 1014 [(4, .int (nI q)), (3, .ref 56), (2, .ref 28), (1, .ref 0), (0, .retAddr sc)] []) : J p l e R s m args below meth c D cA b 7 Q n h kc ks 467 [(4, .int (nI q)), (3, .ref 56), (2, .ref 28), (1, .ref 0), (0, .retAddr sc)] [] := by
  refine j_aload_n C d_L_law_467 rfl rfl ?_
  obtain ⟨hn1, fs0, hf0⟩ := hS.x
  obtain ⟨hp1, hp2⟩ := s_place hl hS
  refine j_callV C d_L_law_468 ml_L_122 mc_X_place in_X_place rfl se_X_place (by omega) hf0 hp1 rfl rfl (Nat.le_trans (m := 9) (Nat.le_of_ble_eq_true rfl) hRf) (Nat.le_trans (m := 200) (Nat.le_of_ble_eq_true rfl) hRl) (by omega) (by omega) (jk_px (fun v1 => ?_))
  refine j_pop C d_L_law_471 rfl ?_
  refine j_aload_n C d_L_law_472 rfl rfl ?_
  obtain ⟨fs1, hf1⟩ := hS.m
  refine j_callV C d_L_law_473 ml_L_125 mc_M_place in_M_place rfl se_M_place (by omega) hf1 hp2 rfl rfl (Nat.le_trans (m := 9) (Nat.le_of_ble_eq_true rfl) hRf) (Nat.le_trans (m := 200) (Nat.le_of_ble_eq_true rfl) hRl) (by omega) (by omega) (jk_pm (fun v2 h2 hS2 => ?_))
  refine j_pop C d_L_law_476 rfl ?_
  refine j_goto (tgt := 1014) C d_L_law_477 (by decide) ?_
  exact kk _ _ _ _ (by omega) (by omega) hS2

set_option maxHeartbeats 4000000 in
set_option maxRecDepth 100000 in
theorem lc_check {p : Program} {l : Launch} {e : Env} {R : Room} {s : State} {m : MethodId} {args : Array Value} {below : List Frame} {meth : Method} {c : Code} {D : va_G} {cA : Nat → ClassId} {b : Nat} {Q : State → Prop} {n : Nat} {h : AH} {kc ks sc q len : Nat} {xs : Nat → Int32} (hl : l.stackTraces = false) (C : Cx p l s m meth c D cA b 7 "ReportChecks2Law" "law" b_L_law (some .boolean) []) (hX : va_X sc len xs s s.heap) (hsc : sc < s.heap.size) (hscb : sc < b) (hlen : len < 2 ^ 31) (hq : q + 3 < len) (hRf : 9 ≤ R.frames) (hRl : 200 ≤ R.locals) (hRc : kc + 3 ≤ R.cells) (hRs : ks + 34 ≤ R.slots) (hS : St n h) (kk : ∀ n' h' kc' ks', kc' ≤ kc + 3 → ks' ≤ ks + 34 → St n' h' → J p l e R s m args below meth c D cA b 7 Q n' h' kc' ks' 1014 [(4, .int (nI q)), (3, .ref 56), (2, .ref 28), (1, .ref 0), (0, .retAddr sc)] []) : J p l e R s m args below meth c D cA b 7 Q n h kc ks 480 [(4, .int (nI q)), (3, .ref 56), (2, .ref 28), (1, .ref 0), (0, .retAddr sc)] [] := by
  refine j_aload_n C d_L_law_480 rfl rfl ?_
  refine j_aloadr_n C d_L_law_481 rfl rfl ?_
  refine j_iload C d_L_law_482 rfl ?_
  refine j_iconst (v := 1) C d_L_law_484 (by decide) ?_
  refine j_iadd C d_L_law_485 ?_
  refine j_sld (w := xs (q + 1)) C hX hsc hscb d_L_law_486 (six (k := 1) (by omega) hlen) (sixc (k := 1) (by omega) hlen) ?_
  refine j_aload_n C d_L_law_487 rfl rfl ?_
  refine j_callS C d_L_law_488 ml_L_126 mc_L_check st_L_check (s_check hl hS _) rfl rfl (Nat.le_trans (m := 9) (Nat.le_of_ble_eq_true rfl) hRf) (Nat.le_trans (m := 200) (Nat.le_of_ble_eq_true rfl) hRl) (by omega) (by omega) (jk_wz (fun k1 n1 h1 hn1 hf1 hM => ?_))
  refine j_istore C d_L_law_491 (by decide) rfl ?_
  refine j_aload_n C d_L_law_493 rfl rfl ?_
  refine j_aloadr_n C d_L_law_494 rfl rfl ?_
  refine j_iload C d_L_law_495 rfl ?_
  refine j_iconst (v := 1) C d_L_law_497 (by decide) ?_
  refine j_iadd C d_L_law_498 ?_
  refine j_sld (w := xs (q + 1)) C hX hsc hscb d_L_law_499 (six (k := 1) (by omega) hlen) (sixc (k := 1) (by omega) hlen) ?_
  obtain ⟨fs1, hf1⟩ := hf1
  refine j_callV C d_L_law_500 ml_L_129 mc_M_check in_M_check rfl se_M_check (by omega) hf1 hM rfl rfl (Nat.le_trans (m := 9) (Nat.le_of_ble_eq_true rfl) hRf) (Nat.le_trans (m := 200) (Nat.le_of_ble_eq_true rfl) hRl) (by omega) (by omega) (jk_mz (fun v2 f2 h2 hB hP => ?_))
  refine j_istore C d_L_law_503 (by decide) rfl ?_
  refine j_goto (tgt := 1014) C d_L_law_505 (by decide) ?_
  exact j_pick [2, 3, 4, 5, 6] rfl (kk _ _ _ _ (by omega) (by omega) ⟨_, _, hB⟩)

set_option maxHeartbeats 4000000 in
set_option maxRecDepth 100000 in
theorem lc_wanting {p : Program} {l : Launch} {e : Env} {R : Room} {s : State} {m : MethodId} {args : Array Value} {below : List Frame} {meth : Method} {c : Code} {D : va_G} {cA : Nat → ClassId} {b : Nat} {Q : State → Prop} {n : Nat} {h : AH} {kc ks sc q len : Nat} {xs : Nat → Int32} (hl : l.stackTraces = false) (C : Cx p l s m meth c D cA b 7 "ReportChecks2Law" "law" b_L_law (some .boolean) []) (hX : va_X sc len xs s s.heap) (hsc : sc < s.heap.size) (hscb : sc < b) (hlen : len < 2 ^ 31) (hq : q + 3 < len) (hRf : 9 ≤ R.frames) (hRl : 200 ≤ R.locals) (hRc : kc + 3 ≤ R.cells) (hRs : ks + 34 ≤ R.slots) (hS : St n h) (kk : ∀ n' h' kc' ks', kc' ≤ kc + 3 → ks' ≤ ks + 34 → St n' h' → J p l e R s m args below meth c D cA b 7 Q n' h' kc' ks' 1014 [(4, .int (nI q)), (3, .ref 56), (2, .ref 28), (1, .ref 0), (0, .retAddr sc)] []) : J p l e R s m args below meth c D cA b 7 Q n h kc ks 508 [(4, .int (nI q)), (3, .ref 56), (2, .ref 28), (1, .ref 0), (0, .retAddr sc)] [] := by
  refine j_aload_n C d_L_law_508 rfl rfl ?_
  refine j_aloadr_n C d_L_law_509 rfl rfl ?_
  refine j_iload C d_L_law_510 rfl ?_
  refine j_iconst (v := 1) C d_L_law_512 (by decide) ?_
  refine j_iadd C d_L_law_513 ?_
  refine j_sld (w := xs (q + 1)) C hX hsc hscb d_L_law_514 (six (k := 1) (by omega) hlen) (sixc (k := 1) (by omega) hlen) ?_
  refine j_aloadr_n C d_L_law_515 rfl rfl ?_
  refine j_iload C d_L_law_516 rfl ?_
  refine j_iconst (v := 2) C d_L_law_518 (by decide) ?_
  refine j_iadd C d_L_law_519 ?_
  refine j_sld (w := xs (q + 2)) C hX hsc hscb d_L_law_520 (six (k := 2) (by omega) hlen) (sixc (k := 2) (by omega) hlen) ?_
  refine j_aload_n C d_L_law_521 rfl rfl ?_
  refine j_callS C d_L_law_522 ml_L_130 mc_L_wanting st_L_wanting (s_wanting hl hS _ _) rfl rfl (Nat.le_trans (m := 9) (Nat.le_of_ble_eq_true rfl) hRf) (Nat.le_trans (m := 200) (Nat.le_of_ble_eq_true rfl) hRl) (by omega) (by omega) (jk_wz (fun k1 n1 h1 hn1 hf1 hM => ?_))
  refine j_istore C d_L_law_525 (by decide) rfl ?_
  refine j_aload_n C d_L_law_527 rfl rfl ?_
  refine j_aloadr_n C d_L_law_528 rfl rfl ?_
  refine j_iload C d_L_law_529 rfl ?_
  refine j_iconst (v := 1) C d_L_law_531 (by decide) ?_
  refine j_iadd C d_L_law_532 ?_
  refine j_sld (w := xs (q + 1)) C hX hsc hscb d_L_law_533 (six (k := 1) (by omega) hlen) (sixc (k := 1) (by omega) hlen) ?_
  refine j_aloadr_n C d_L_law_534 rfl rfl ?_
  refine j_iload C d_L_law_535 rfl ?_
  refine j_iconst (v := 2) C d_L_law_537 (by decide) ?_
  refine j_iadd C d_L_law_538 ?_
  refine j_sld (w := xs (q + 2)) C hX hsc hscb d_L_law_539 (six (k := 2) (by omega) hlen) (sixc (k := 2) (by omega) hlen) ?_
  obtain ⟨fs1, hf1⟩ := hf1
  refine j_callV C d_L_law_540 ml_L_132 mc_M_wanting in_M_wanting rfl se_M_wanting (by omega) hf1 hM rfl rfl (Nat.le_trans (m := 9) (Nat.le_of_ble_eq_true rfl) hRf) (Nat.le_trans (m := 200) (Nat.le_of_ble_eq_true rfl) hRl) (by omega) (by omega) (jk_mz (fun v2 f2 h2 hB hP => ?_))
  refine j_istore C d_L_law_543 (by decide) rfl ?_
  refine j_goto (tgt := 1014) C d_L_law_545 (by decide) ?_
  exact j_pick [2, 3, 4, 5, 6] rfl (kk _ _ _ _ (by omega) (by omega) ⟨_, _, hB⟩)

set_option maxHeartbeats 4000000 in
set_option maxRecDepth 100000 in
theorem lc_put {p : Program} {l : Launch} {e : Env} {R : Room} {s : State} {m : MethodId} {args : Array Value} {below : List Frame} {meth : Method} {c : Code} {D : va_G} {cA : Nat → ClassId} {b : Nat} {Q : State → Prop} {n : Nat} {h : AH} {kc ks sc q len : Nat} {xs : Nat → Int32} (hl : l.stackTraces = false) (C : Cx p l s m meth c D cA b 7 "ReportChecks2Law" "law" b_L_law (some .boolean) []) (hX : va_X sc len xs s s.heap) (hsc : sc < s.heap.size) (hscb : sc < b) (hlen : len < 2 ^ 31) (hq : q + 3 < len) (hRf : 9 ≤ R.frames) (hRl : 200 ≤ R.locals) (hRc : kc + 3 ≤ R.cells) (hRs : ks + 34 ≤ R.slots) (hS : St n h) (kk : ∀ n' h' kc' ks', kc' ≤ kc + 3 → ks' ≤ ks + 34 → St n' h' → J p l e R s m args below meth c D cA b 7 Q n' h' kc' ks' 1014 [(4, .int (nI q)), (3, .ref 56), (2, .ref 28), (1, .ref 0), (0, .retAddr sc)] []) : J p l e R s m args below meth c D cA b 7 Q n h kc ks 548 [(4, .int (nI q)), (3, .ref 56), (2, .ref 28), (1, .ref 0), (0, .retAddr sc)] [] := by
  refine j_aload_n C d_L_law_548 rfl rfl ?_
  refine j_aloadr_n C d_L_law_549 rfl rfl ?_
  refine j_iload C d_L_law_550 rfl ?_
  refine j_iconst (v := 1) C d_L_law_552 (by decide) ?_
  refine j_iadd C d_L_law_553 ?_
  refine j_sld (w := xs (q + 1)) C hX hsc hscb d_L_law_554 (six (k := 1) (by omega) hlen) (sixc (k := 1) (by omega) hlen) ?_
  refine j_aloadr_n C d_L_law_555 rfl rfl ?_
  refine j_iload C d_L_law_556 rfl ?_
  refine j_iconst (v := 2) C d_L_law_558 (by decide) ?_
  refine j_iadd C d_L_law_559 ?_
  refine j_sld (w := xs (q + 2)) C hX hsc hscb d_L_law_560 (six (k := 2) (by omega) hlen) (sixc (k := 2) (by omega) hlen) ?_
  refine j_aload_n C d_L_law_561 rfl rfl ?_
  refine j_callS C d_L_law_562 ml_L_133 mc_L_put st_L_put (s_put hl hS _ _) rfl rfl (Nat.le_trans (m := 9) (Nat.le_of_ble_eq_true rfl) hRf) (Nat.le_trans (m := 200) (Nat.le_of_ble_eq_true rfl) hRl) (by omega) (by omega) (jk_wz (fun k1 n1 h1 hn1 hf1 hM => ?_))
  refine j_istore C d_L_law_565 (by decide) rfl ?_
  refine j_aload_n C d_L_law_567 rfl rfl ?_
  refine j_aloadr_n C d_L_law_568 rfl rfl ?_
  refine j_iload C d_L_law_569 rfl ?_
  refine j_iconst (v := 1) C d_L_law_571 (by decide) ?_
  refine j_iadd C d_L_law_572 ?_
  refine j_sld (w := xs (q + 1)) C hX hsc hscb d_L_law_573 (six (k := 1) (by omega) hlen) (sixc (k := 1) (by omega) hlen) ?_
  refine j_aloadr_n C d_L_law_574 rfl rfl ?_
  refine j_iload C d_L_law_575 rfl ?_
  refine j_iconst (v := 2) C d_L_law_577 (by decide) ?_
  refine j_iadd C d_L_law_578 ?_
  refine j_sld (w := xs (q + 2)) C hX hsc hscb d_L_law_579 (six (k := 2) (by omega) hlen) (sixc (k := 2) (by omega) hlen) ?_
  obtain ⟨fs1, hf1⟩ := hf1
  refine j_callV C d_L_law_580 ml_L_135 mc_M_put in_M_put rfl se_M_put (by omega) hf1 hM rfl rfl (Nat.le_trans (m := 9) (Nat.le_of_ble_eq_true rfl) hRf) (Nat.le_trans (m := 200) (Nat.le_of_ble_eq_true rfl) hRl) (by omega) (by omega) (jk_mz (fun v2 f2 h2 hB hP => ?_))
  refine j_istore C d_L_law_583 (by decide) rfl ?_
  refine j_goto (tgt := 1014) C d_L_law_585 (by decide) ?_
  exact j_pick [2, 3, 4, 5, 6] rfl (kk _ _ _ _ (by omega) (by omega) ⟨_, _, hB⟩)

set_option maxHeartbeats 4000000 in
set_option maxRecDepth 100000 in
theorem lc_edition {p : Program} {l : Launch} {e : Env} {R : Room} {s : State} {m : MethodId} {args : Array Value} {below : List Frame} {meth : Method} {c : Code} {D : va_G} {cA : Nat → ClassId} {b : Nat} {Q : State → Prop} {n : Nat} {h : AH} {kc ks sc q len : Nat} {xs : Nat → Int32} (hl : l.stackTraces = false) (C : Cx p l s m meth c D cA b 7 "ReportChecks2Law" "law" b_L_law (some .boolean) []) (hX : va_X sc len xs s s.heap) (hsc : sc < s.heap.size) (hscb : sc < b) (hlen : len < 2 ^ 31) (hq : q + 3 < len) (hRf : 9 ≤ R.frames) (hRl : 200 ≤ R.locals) (hRc : kc + 3 ≤ R.cells) (hRs : ks + 34 ≤ R.slots) (hS : St n h) (kk : ∀ n' h' kc' ks', kc' ≤ kc + 3 → ks' ≤ ks + 34 → St n' h' → J p l e R s m args below meth c D cA b 7 Q n' h' kc' ks' 1014 [(4, .int (nI q)), (3, .ref 56), (2, .ref 28), (1, .ref 0), (0, .retAddr sc)] []) : J p l e R s m args below meth c D cA b 7 Q n h kc ks 588 [(4, .int (nI q)), (3, .ref 56), (2, .ref 28), (1, .ref 0), (0, .retAddr sc)] [] := by
  refine j_aload_n C d_L_law_588 rfl rfl ?_
  refine j_aloadr_n C d_L_law_589 rfl rfl ?_
  refine j_iload C d_L_law_590 rfl ?_
  refine j_iconst (v := 1) C d_L_law_592 (by decide) ?_
  refine j_iadd C d_L_law_593 ?_
  refine j_sld (w := xs (q + 1)) C hX hsc hscb d_L_law_594 (six (k := 1) (by omega) hlen) (sixc (k := 1) (by omega) hlen) ?_
  refine j_aload_n C d_L_law_595 rfl rfl ?_
  refine j_callS C d_L_law_596 ml_L_136 mc_L_edition st_L_edition (s_edition hl hS _) rfl rfl (Nat.le_trans (m := 9) (Nat.le_of_ble_eq_true rfl) hRf) (Nat.le_trans (m := 200) (Nat.le_of_ble_eq_true rfl) hRl) (by omega) (by omega) (jk_wz (fun k1 n1 h1 hn1 hf1 hM => ?_))
  refine j_istore C d_L_law_599 (by decide) rfl ?_
  refine j_aload_n C d_L_law_601 rfl rfl ?_
  refine j_aloadr_n C d_L_law_602 rfl rfl ?_
  refine j_iload C d_L_law_603 rfl ?_
  refine j_iconst (v := 1) C d_L_law_605 (by decide) ?_
  refine j_iadd C d_L_law_606 ?_
  refine j_sld (w := xs (q + 1)) C hX hsc hscb d_L_law_607 (six (k := 1) (by omega) hlen) (sixc (k := 1) (by omega) hlen) ?_
  obtain ⟨fs1, hf1⟩ := hf1
  refine j_callV C d_L_law_608 ml_L_138 mc_M_edition in_M_edition rfl se_M_edition (by omega) hf1 hM rfl rfl (Nat.le_trans (m := 9) (Nat.le_of_ble_eq_true rfl) hRf) (Nat.le_trans (m := 200) (Nat.le_of_ble_eq_true rfl) hRl) (by omega) (by omega) (jk_mz (fun v2 f2 h2 hB hP => ?_))
  refine j_istore C d_L_law_611 (by decide) rfl ?_
  refine j_goto (tgt := 1014) C d_L_law_613 (by decide) ?_
  exact j_pick [2, 3, 4, 5, 6] rfl (kk _ _ _ _ (by omega) (by omega) ⟨_, _, hB⟩)

set_option maxHeartbeats 4000000 in
set_option maxRecDepth 100000 in
theorem lc_fault {p : Program} {l : Launch} {e : Env} {R : Room} {s : State} {m : MethodId} {args : Array Value} {below : List Frame} {meth : Method} {c : Code} {D : va_G} {cA : Nat → ClassId} {b : Nat} {Q : State → Prop} {n : Nat} {h : AH} {kc ks sc q len : Nat} {xs : Nat → Int32} (hl : l.stackTraces = false) (C : Cx p l s m meth c D cA b 7 "ReportChecks2Law" "law" b_L_law (some .boolean) []) (hX : va_X sc len xs s s.heap) (hsc : sc < s.heap.size) (hscb : sc < b) (hlen : len < 2 ^ 31) (hq : q + 3 < len) (hRf : 9 ≤ R.frames) (hRl : 200 ≤ R.locals) (hRc : kc + 3 ≤ R.cells) (hRs : ks + 34 ≤ R.slots) (hS : St n h) (kk : ∀ n' h' kc' ks', kc' ≤ kc + 3 → ks' ≤ ks + 34 → St n' h' → J p l e R s m args below meth c D cA b 7 Q n' h' kc' ks' 1014 [(4, .int (nI q)), (3, .ref 56), (2, .ref 28), (1, .ref 0), (0, .retAddr sc)] []) : J p l e R s m args below meth c D cA b 7 Q n h kc ks 616 [(4, .int (nI q)), (3, .ref 56), (2, .ref 28), (1, .ref 0), (0, .retAddr sc)] [] := by
  refine j_aload_n C d_L_law_616 rfl rfl ?_
  refine j_aloadr_n C d_L_law_617 rfl rfl ?_
  refine j_iload C d_L_law_618 rfl ?_
  refine j_iconst (v := 1) C d_L_law_620 (by decide) ?_
  refine j_iadd C d_L_law_621 ?_
  refine j_sld (w := xs (q + 1)) C hX hsc hscb d_L_law_622 (six (k := 1) (by omega) hlen) (sixc (k := 1) (by omega) hlen) ?_
  refine j_aloadr_n C d_L_law_623 rfl rfl ?_
  refine j_iload C d_L_law_624 rfl ?_
  refine j_iconst (v := 2) C d_L_law_626 (by decide) ?_
  refine j_iadd C d_L_law_627 ?_
  refine j_sld (w := xs (q + 2)) C hX hsc hscb d_L_law_628 (six (k := 2) (by omega) hlen) (sixc (k := 2) (by omega) hlen) ?_
  refine j_callS C d_L_law_629 ml_L_139 mc_L_fault st_L_fault (s_fault hl hS _ _) rfl rfl (Nat.le_trans (m := 9) (Nat.le_of_ble_eq_true rfl) hRf) (Nat.le_trans (m := 200) (Nat.le_of_ble_eq_true rfl) hRl) (by omega) (by omega) (jk_wv (fun k1 n1 h1 hn1 hf1 hM => ?_))
  refine j_istore C d_L_law_632 (by decide) rfl ?_
  refine j_aload_n C d_L_law_634 rfl rfl ?_
  refine j_aloadr_n C d_L_law_635 rfl rfl ?_
  refine j_iload C d_L_law_636 rfl ?_
  refine j_iconst (v := 1) C d_L_law_638 (by decide) ?_
  refine j_iadd C d_L_law_639 ?_
  refine j_sld (w := xs (q + 1)) C hX hsc hscb d_L_law_640 (six (k := 1) (by omega) hlen) (sixc (k := 1) (by omega) hlen) ?_
  refine j_aloadr_n C d_L_law_641 rfl rfl ?_
  refine j_iload C d_L_law_642 rfl ?_
  refine j_iconst (v := 2) C d_L_law_644 (by decide) ?_
  refine j_iadd C d_L_law_645 ?_
  refine j_sld (w := xs (q + 2)) C hX hsc hscb d_L_law_646 (six (k := 2) (by omega) hlen) (sixc (k := 2) (by omega) hlen) ?_
  obtain ⟨fs1, hf1⟩ := hf1
  refine j_callV C d_L_law_647 ml_L_141 mc_M_fault in_M_fault rfl se_M_fault (by omega) hf1 hM rfl rfl (Nat.le_trans (m := 9) (Nat.le_of_ble_eq_true rfl) hRf) (Nat.le_trans (m := 200) (Nat.le_of_ble_eq_true rfl) hRl) (by omega) (by omega) (jk_mv (fun f2 h2 hB => ?_))
  refine j_goto (tgt := 1014) C d_L_law_650 (by decide) ?_
  exact j_pick [1, 2, 3, 4, 5] rfl (kk _ _ _ _ (by omega) (by omega) ⟨_, _, hB⟩)

set_option maxHeartbeats 4000000 in
set_option maxRecDepth 100000 in
theorem lc_hide {p : Program} {l : Launch} {e : Env} {R : Room} {s : State} {m : MethodId} {args : Array Value} {below : List Frame} {meth : Method} {c : Code} {D : va_G} {cA : Nat → ClassId} {b : Nat} {Q : State → Prop} {n : Nat} {h : AH} {kc ks sc q len : Nat} {xs : Nat → Int32} (hl : l.stackTraces = false) (C : Cx p l s m meth c D cA b 7 "ReportChecks2Law" "law" b_L_law (some .boolean) []) (hX : va_X sc len xs s s.heap) (hsc : sc < s.heap.size) (hscb : sc < b) (hlen : len < 2 ^ 31) (hq : q + 3 < len) (hRf : 9 ≤ R.frames) (hRl : 200 ≤ R.locals) (hRc : kc + 3 ≤ R.cells) (hRs : ks + 34 ≤ R.slots) (hS : St n h) (kk : ∀ n' h' kc' ks', kc' ≤ kc + 3 → ks' ≤ ks + 34 → St n' h' → J p l e R s m args below meth c D cA b 7 Q n' h' kc' ks' 1014 [(4, .int (nI q)), (3, .ref 56), (2, .ref 28), (1, .ref 0), (0, .retAddr sc)] []) : J p l e R s m args below meth c D cA b 7 Q n h kc ks 653 [(4, .int (nI q)), (3, .ref 56), (2, .ref 28), (1, .ref 0), (0, .retAddr sc)] [] := by
  refine j_aload_n C d_L_law_653 rfl rfl ?_
  refine j_aloadr_n C d_L_law_654 rfl rfl ?_
  refine j_iload C d_L_law_655 rfl ?_
  refine j_iconst (v := 1) C d_L_law_657 (by decide) ?_
  refine j_iadd C d_L_law_658 ?_
  refine j_sld (w := xs (q + 1)) C hX hsc hscb d_L_law_659 (six (k := 1) (by omega) hlen) (sixc (k := 1) (by omega) hlen) ?_
  refine j_aloadr_n C d_L_law_660 rfl rfl ?_
  refine j_iload C d_L_law_661 rfl ?_
  refine j_iconst (v := 2) C d_L_law_663 (by decide) ?_
  refine j_iadd C d_L_law_664 ?_
  refine j_sld (w := xs (q + 2)) C hX hsc hscb d_L_law_665 (six (k := 2) (by omega) hlen) (sixc (k := 2) (by omega) hlen) ?_
  refine j_aloadr_n C d_L_law_666 rfl rfl ?_
  refine j_iload C d_L_law_667 rfl ?_
  refine j_iconst (v := 3) C d_L_law_669 (by decide) ?_
  refine j_iadd C d_L_law_670 ?_
  refine j_sld (w := xs (q + 3)) C hX hsc hscb d_L_law_671 (six (k := 3) (by omega) hlen) (sixc (k := 3) (by omega) hlen) ?_
  refine j_if_eq (tgt := 679) C d_L_law_672 (by decide) (fun c672 => ?_) (fun c672 => ?_)
  · refine j_iconst (v := 0) C d_L_law_679 (by decide) ?_
    refine j_callS C d_L_law_680 ml_L_142 mc_L_hide st_L_hide (s_hide hl hS _ _ _ (by decide)) rfl rfl (Nat.le_trans (m := 9) (Nat.le_of_ble_eq_true rfl) hRf) (Nat.le_trans (m := 200) (Nat.le_of_ble_eq_true rfl) hRl) (by omega) (by omega) (jk_wv (fun k1 n1 h1 hn1 hf1 hM => ?_))
    refine j_istore C d_L_law_683 (by decide) rfl ?_
    refine j_aload_n C d_L_law_685 rfl rfl ?_
    refine j_aloadr_n C d_L_law_686 rfl rfl ?_
    refine j_iload C d_L_law_687 rfl ?_
    refine j_iconst (v := 1) C d_L_law_689 (by decide) ?_
    refine j_iadd C d_L_law_690 ?_
    refine j_sld (w := xs (q + 1)) C hX hsc hscb d_L_law_691 (six (k := 1) (by omega) hlen) (sixc (k := 1) (by omega) hlen) ?_
    refine j_aloadr_n C d_L_law_692 rfl rfl ?_
    refine j_iload C d_L_law_693 rfl ?_
    refine j_iconst (v := 2) C d_L_law_695 (by decide) ?_
    refine j_iadd C d_L_law_696 ?_
    refine j_sld (w := xs (q + 2)) C hX hsc hscb d_L_law_697 (six (k := 2) (by omega) hlen) (sixc (k := 2) (by omega) hlen) ?_
    refine j_aloadr_n C d_L_law_698 rfl rfl ?_
    refine j_iload C d_L_law_699 rfl ?_
    refine j_iconst (v := 3) C d_L_law_701 (by decide) ?_
    refine j_iadd C d_L_law_702 ?_
    refine j_sld (w := xs (q + 3)) C hX hsc hscb d_L_law_703 (six (k := 3) (by omega) hlen) (sixc (k := 3) (by omega) hlen) ?_
    refine j_if_eq (tgt := 711) C d_L_law_704 (by decide) (fun c704 => ?_) (fun c704 => ?_)
    · refine j_iconst (v := 0) C d_L_law_711 (by decide) ?_
      obtain ⟨fs1, hf1⟩ := hf1
      refine j_callV C d_L_law_712 ml_L_144 mc_M_hide in_M_hide rfl se_M_hide (by omega) hf1 hM rfl rfl (Nat.le_trans (m := 9) (Nat.le_of_ble_eq_true rfl) hRf) (Nat.le_trans (m := 200) (Nat.le_of_ble_eq_true rfl) hRl) (by omega) (by omega) (jk_mv (fun f2 h2 hB => ?_))
      refine j_goto (tgt := 1014) C d_L_law_715 (by decide) ?_
      exact j_pick [1, 2, 3, 4, 5] rfl (kk _ _ _ _ (by omega) (by omega) ⟨_, _, hB⟩)
    · exact absurd c672 c704
  · refine j_iconst (v := 1) C d_L_law_675 (by decide) ?_
    refine j_goto (tgt := 680) C d_L_law_676 (by decide) ?_
    refine j_callS C d_L_law_680 ml_L_142 mc_L_hide st_L_hide (s_hide hl hS _ _ _ (by decide)) rfl rfl (Nat.le_trans (m := 9) (Nat.le_of_ble_eq_true rfl) hRf) (Nat.le_trans (m := 200) (Nat.le_of_ble_eq_true rfl) hRl) (by omega) (by omega) (jk_wv (fun k1 n1 h1 hn1 hf1 hM => ?_))
    refine j_istore C d_L_law_683 (by decide) rfl ?_
    refine j_aload_n C d_L_law_685 rfl rfl ?_
    refine j_aloadr_n C d_L_law_686 rfl rfl ?_
    refine j_iload C d_L_law_687 rfl ?_
    refine j_iconst (v := 1) C d_L_law_689 (by decide) ?_
    refine j_iadd C d_L_law_690 ?_
    refine j_sld (w := xs (q + 1)) C hX hsc hscb d_L_law_691 (six (k := 1) (by omega) hlen) (sixc (k := 1) (by omega) hlen) ?_
    refine j_aloadr_n C d_L_law_692 rfl rfl ?_
    refine j_iload C d_L_law_693 rfl ?_
    refine j_iconst (v := 2) C d_L_law_695 (by decide) ?_
    refine j_iadd C d_L_law_696 ?_
    refine j_sld (w := xs (q + 2)) C hX hsc hscb d_L_law_697 (six (k := 2) (by omega) hlen) (sixc (k := 2) (by omega) hlen) ?_
    refine j_aloadr_n C d_L_law_698 rfl rfl ?_
    refine j_iload C d_L_law_699 rfl ?_
    refine j_iconst (v := 3) C d_L_law_701 (by decide) ?_
    refine j_iadd C d_L_law_702 ?_
    refine j_sld (w := xs (q + 3)) C hX hsc hscb d_L_law_703 (six (k := 3) (by omega) hlen) (sixc (k := 3) (by omega) hlen) ?_
    refine j_if_eq (tgt := 711) C d_L_law_704 (by decide) (fun c704 => ?_) (fun c704 => ?_)
    · exact absurd c704 c672
    · refine j_iconst (v := 1) C d_L_law_707 (by decide) ?_
      refine j_goto (tgt := 712) C d_L_law_708 (by decide) ?_
      obtain ⟨fs1, hf1⟩ := hf1
      refine j_callV C d_L_law_712 ml_L_144 mc_M_hide in_M_hide rfl se_M_hide (by omega) hf1 hM rfl rfl (Nat.le_trans (m := 9) (Nat.le_of_ble_eq_true rfl) hRf) (Nat.le_trans (m := 200) (Nat.le_of_ble_eq_true rfl) hRl) (by omega) (by omega) (jk_mv (fun f2 h2 hB => ?_))
      refine j_goto (tgt := 1014) C d_L_law_715 (by decide) ?_
      exact j_pick [1, 2, 3, 4, 5] rfl (kk _ _ _ _ (by omega) (by omega) ⟨_, _, hB⟩)

set_option maxHeartbeats 4000000 in
set_option maxRecDepth 100000 in
theorem lc_code {p : Program} {l : Launch} {e : Env} {R : Room} {s : State} {m : MethodId} {args : Array Value} {below : List Frame} {meth : Method} {c : Code} {D : va_G} {cA : Nat → ClassId} {b : Nat} {Q : State → Prop} {n : Nat} {h : AH} {kc ks sc q len : Nat} {xs : Nat → Int32} (hl : l.stackTraces = false) (C : Cx p l s m meth c D cA b 7 "ReportChecks2Law" "law" b_L_law (some .boolean) []) (hX : va_X sc len xs s s.heap) (hsc : sc < s.heap.size) (hscb : sc < b) (hlen : len < 2 ^ 31) (hq : q + 3 < len) (hRf : 9 ≤ R.frames) (hRl : 200 ≤ R.locals) (hRc : kc + 3 ≤ R.cells) (hRs : ks + 34 ≤ R.slots) (hS : St n h) (kk : ∀ n' h' kc' ks', kc' ≤ kc + 3 → ks' ≤ ks + 34 → St n' h' → J p l e R s m args below meth c D cA b 7 Q n' h' kc' ks' 1014 [(4, .int (nI q)), (3, .ref 56), (2, .ref 28), (1, .ref 0), (0, .retAddr sc)] []) : J p l e R s m args below meth c D cA b 7 Q n h kc ks 718 [(4, .int (nI q)), (3, .ref 56), (2, .ref 28), (1, .ref 0), (0, .retAddr sc)] [] := by
  refine j_aload_n C d_L_law_718 rfl rfl ?_
  refine j_aloadr_n C d_L_law_719 rfl rfl ?_
  refine j_iload C d_L_law_720 rfl ?_
  refine j_iconst (v := 1) C d_L_law_722 (by decide) ?_
  refine j_iadd C d_L_law_723 ?_
  refine j_sld (w := xs (q + 1)) C hX hsc hscb d_L_law_724 (six (k := 1) (by omega) hlen) (sixc (k := 1) (by omega) hlen) ?_
  refine j_aloadr_n C d_L_law_725 rfl rfl ?_
  refine j_iload C d_L_law_726 rfl ?_
  refine j_iconst (v := 2) C d_L_law_728 (by decide) ?_
  refine j_iadd C d_L_law_729 ?_
  refine j_sld (w := xs (q + 2)) C hX hsc hscb d_L_law_730 (six (k := 2) (by omega) hlen) (sixc (k := 2) (by omega) hlen) ?_
  refine j_aload_n C d_L_law_731 rfl rfl ?_
  refine j_callS C d_L_law_732 ml_L_145 mc_L_code st_L_code (s_code hl hS _ _) rfl rfl (Nat.le_trans (m := 9) (Nat.le_of_ble_eq_true rfl) hRf) (Nat.le_trans (m := 200) (Nat.le_of_ble_eq_true rfl) hRl) (by omega) (by omega) (jk_wz (fun k1 n1 h1 hn1 hf1 hM => ?_))
  refine j_istore C d_L_law_735 (by decide) rfl ?_
  refine j_aload_n C d_L_law_737 rfl rfl ?_
  refine j_aloadr_n C d_L_law_738 rfl rfl ?_
  refine j_iload C d_L_law_739 rfl ?_
  refine j_iconst (v := 1) C d_L_law_741 (by decide) ?_
  refine j_iadd C d_L_law_742 ?_
  refine j_sld (w := xs (q + 1)) C hX hsc hscb d_L_law_743 (six (k := 1) (by omega) hlen) (sixc (k := 1) (by omega) hlen) ?_
  refine j_aloadr_n C d_L_law_744 rfl rfl ?_
  refine j_iload C d_L_law_745 rfl ?_
  refine j_iconst (v := 2) C d_L_law_747 (by decide) ?_
  refine j_iadd C d_L_law_748 ?_
  refine j_sld (w := xs (q + 2)) C hX hsc hscb d_L_law_749 (six (k := 2) (by omega) hlen) (sixc (k := 2) (by omega) hlen) ?_
  obtain ⟨fs1, hf1⟩ := hf1
  refine j_callV C d_L_law_750 ml_L_147 mc_M_code in_M_code rfl se_M_code (by omega) hf1 hM rfl rfl (Nat.le_trans (m := 9) (Nat.le_of_ble_eq_true rfl) hRf) (Nat.le_trans (m := 200) (Nat.le_of_ble_eq_true rfl) hRl) (by omega) (by omega) (jk_mz (fun v2 f2 h2 hB hP => ?_))
  refine j_istore C d_L_law_753 (by decide) rfl ?_
  refine j_goto (tgt := 1014) C d_L_law_755 (by decide) ?_
  exact j_pick [2, 3, 4, 5, 6] rfl (kk _ _ _ _ (by omega) (by omega) ⟨_, _, hB⟩)

set_option maxHeartbeats 4000000 in
set_option maxRecDepth 100000 in
theorem lc_at {p : Program} {l : Launch} {e : Env} {R : Room} {s : State} {m : MethodId} {args : Array Value} {below : List Frame} {meth : Method} {c : Code} {D : va_G} {cA : Nat → ClassId} {b : Nat} {Q : State → Prop} {n : Nat} {h : AH} {kc ks sc q len : Nat} {xs : Nat → Int32} (hl : l.stackTraces = false) (C : Cx p l s m meth c D cA b 7 "ReportChecks2Law" "law" b_L_law (some .boolean) []) (hX : va_X sc len xs s s.heap) (hsc : sc < s.heap.size) (hscb : sc < b) (hlen : len < 2 ^ 31) (hq : q + 3 < len) (hRf : 9 ≤ R.frames) (hRl : 200 ≤ R.locals) (hRc : kc + 3 ≤ R.cells) (hRs : ks + 34 ≤ R.slots) (hS : St n h) (kk : ∀ n' h' kc' ks', kc' ≤ kc + 3 → ks' ≤ ks + 34 → St n' h' → J p l e R s m args below meth c D cA b 7 Q n' h' kc' ks' 1014 [(4, .int (nI q)), (3, .ref 56), (2, .ref 28), (1, .ref 0), (0, .retAddr sc)] []) : J p l e R s m args below meth c D cA b 7 Q n h kc ks 758 [(4, .int (nI q)), (3, .ref 56), (2, .ref 28), (1, .ref 0), (0, .retAddr sc)] [] := by
  refine j_aload_n C d_L_law_758 rfl rfl ?_
  refine j_aloadr_n C d_L_law_759 rfl rfl ?_
  refine j_iload C d_L_law_760 rfl ?_
  refine j_iconst (v := 1) C d_L_law_762 (by decide) ?_
  refine j_iadd C d_L_law_763 ?_
  refine j_sld (w := xs (q + 1)) C hX hsc hscb d_L_law_764 (six (k := 1) (by omega) hlen) (sixc (k := 1) (by omega) hlen) ?_
  refine j_aload_n C d_L_law_765 rfl rfl ?_
  refine j_callS C d_L_law_766 ml_L_148 mc_L_at st_L_at (s_at hl hS _) rfl rfl (Nat.le_trans (m := 9) (Nat.le_of_ble_eq_true rfl) hRf) (Nat.le_trans (m := 200) (Nat.le_of_ble_eq_true rfl) hRl) (by omega) (by omega) (jk_wz (fun k1 n1 h1 hn1 hf1 hM => ?_))
  refine j_istore C d_L_law_769 (by decide) rfl ?_
  refine j_aload_n C d_L_law_771 rfl rfl ?_
  refine j_aloadr_n C d_L_law_772 rfl rfl ?_
  refine j_iload C d_L_law_773 rfl ?_
  refine j_iconst (v := 1) C d_L_law_775 (by decide) ?_
  refine j_iadd C d_L_law_776 ?_
  refine j_sld (w := xs (q + 1)) C hX hsc hscb d_L_law_777 (six (k := 1) (by omega) hlen) (sixc (k := 1) (by omega) hlen) ?_
  obtain ⟨fs1, hf1⟩ := hf1
  refine j_callV C d_L_law_778 ml_L_150 mc_M_at in_M_at rfl se_M_at (by omega) hf1 hM rfl rfl (Nat.le_trans (m := 9) (Nat.le_of_ble_eq_true rfl) hRf) (Nat.le_trans (m := 200) (Nat.le_of_ble_eq_true rfl) hRl) (by omega) (by omega) (jk_mz (fun v2 f2 h2 hB hP => ?_))
  refine j_istore C d_L_law_781 (by decide) rfl ?_
  refine j_goto (tgt := 1014) C d_L_law_783 (by decide) ?_
  exact j_pick [2, 3, 4, 5, 6] rfl (kk _ _ _ _ (by omega) (by omega) ⟨_, _, hB⟩)

set_option maxHeartbeats 4000000 in
set_option maxRecDepth 100000 in
theorem lc_late {p : Program} {l : Launch} {e : Env} {R : Room} {s : State} {m : MethodId} {args : Array Value} {below : List Frame} {meth : Method} {c : Code} {D : va_G} {cA : Nat → ClassId} {b : Nat} {Q : State → Prop} {n : Nat} {h : AH} {kc ks sc q len : Nat} {xs : Nat → Int32} (hl : l.stackTraces = false) (C : Cx p l s m meth c D cA b 7 "ReportChecks2Law" "law" b_L_law (some .boolean) []) (hX : va_X sc len xs s s.heap) (hsc : sc < s.heap.size) (hscb : sc < b) (hlen : len < 2 ^ 31) (hq : q + 3 < len) (hRf : 9 ≤ R.frames) (hRl : 200 ≤ R.locals) (hRc : kc + 3 ≤ R.cells) (hRs : ks + 34 ≤ R.slots) (hS : St n h) (kk : ∀ n' h' kc' ks', kc' ≤ kc + 3 → ks' ≤ ks + 34 → St n' h' → J p l e R s m args below meth c D cA b 7 Q n' h' kc' ks' 1014 [(4, .int (nI q)), (3, .ref 56), (2, .ref 28), (1, .ref 0), (0, .retAddr sc)] []) : J p l e R s m args below meth c D cA b 7 Q n h kc ks 786 [(4, .int (nI q)), (3, .ref 56), (2, .ref 28), (1, .ref 0), (0, .retAddr sc)] [] := by
  refine j_aload_n C d_L_law_786 rfl rfl ?_
  refine j_aloadr_n C d_L_law_787 rfl rfl ?_
  refine j_iload C d_L_law_788 rfl ?_
  refine j_iconst (v := 1) C d_L_law_790 (by decide) ?_
  refine j_iadd C d_L_law_791 ?_
  refine j_sld (w := xs (q + 1)) C hX hsc hscb d_L_law_792 (six (k := 1) (by omega) hlen) (sixc (k := 1) (by omega) hlen) ?_
  refine j_aloadr_n C d_L_law_793 rfl rfl ?_
  refine j_iload C d_L_law_794 rfl ?_
  refine j_iconst (v := 2) C d_L_law_796 (by decide) ?_
  refine j_iadd C d_L_law_797 ?_
  refine j_sld (w := xs (q + 2)) C hX hsc hscb d_L_law_798 (six (k := 2) (by omega) hlen) (sixc (k := 2) (by omega) hlen) ?_
  refine j_aload_n C d_L_law_799 rfl rfl ?_
  refine j_callS C d_L_law_800 ml_L_151 mc_L_late st_L_late (s_late hl hS _ _) rfl rfl (Nat.le_trans (m := 9) (Nat.le_of_ble_eq_true rfl) hRf) (Nat.le_trans (m := 200) (Nat.le_of_ble_eq_true rfl) hRl) (by omega) (by omega) (jk_wz (fun k1 n1 h1 hn1 hf1 hM => ?_))
  refine j_istore C d_L_law_803 (by decide) rfl ?_
  refine j_aload_n C d_L_law_805 rfl rfl ?_
  refine j_aloadr_n C d_L_law_806 rfl rfl ?_
  refine j_iload C d_L_law_807 rfl ?_
  refine j_iconst (v := 1) C d_L_law_809 (by decide) ?_
  refine j_iadd C d_L_law_810 ?_
  refine j_sld (w := xs (q + 1)) C hX hsc hscb d_L_law_811 (six (k := 1) (by omega) hlen) (sixc (k := 1) (by omega) hlen) ?_
  refine j_aloadr_n C d_L_law_812 rfl rfl ?_
  refine j_iload C d_L_law_813 rfl ?_
  refine j_iconst (v := 2) C d_L_law_815 (by decide) ?_
  refine j_iadd C d_L_law_816 ?_
  refine j_sld (w := xs (q + 2)) C hX hsc hscb d_L_law_817 (six (k := 2) (by omega) hlen) (sixc (k := 2) (by omega) hlen) ?_
  obtain ⟨fs1, hf1⟩ := hf1
  refine j_callV C d_L_law_818 ml_L_153 mc_M_late in_M_late rfl se_M_late (by omega) hf1 hM rfl rfl (Nat.le_trans (m := 9) (Nat.le_of_ble_eq_true rfl) hRf) (Nat.le_trans (m := 200) (Nat.le_of_ble_eq_true rfl) hRl) (by omega) (by omega) (jk_mz (fun v2 f2 h2 hB hP => ?_))
  refine j_istore C d_L_law_821 (by decide) rfl ?_
  refine j_goto (tgt := 1014) C d_L_law_823 (by decide) ?_
  exact j_pick [2, 3, 4, 5, 6] rfl (kk _ _ _ _ (by omega) (by omega) ⟨_, _, hB⟩)

set_option maxHeartbeats 4000000 in
set_option maxRecDepth 100000 in
theorem lc_count {p : Program} {l : Launch} {e : Env} {R : Room} {s : State} {m : MethodId} {args : Array Value} {below : List Frame} {meth : Method} {c : Code} {D : va_G} {cA : Nat → ClassId} {b : Nat} {Q : State → Prop} {n : Nat} {h : AH} {kc ks sc q len : Nat} {xs : Nat → Int32} (hl : l.stackTraces = false) (C : Cx p l s m meth c D cA b 7 "ReportChecks2Law" "law" b_L_law (some .boolean) []) (hX : va_X sc len xs s s.heap) (hsc : sc < s.heap.size) (hscb : sc < b) (hlen : len < 2 ^ 31) (hq : q + 3 < len) (hRf : 9 ≤ R.frames) (hRl : 200 ≤ R.locals) (hRc : kc + 3 ≤ R.cells) (hRs : ks + 34 ≤ R.slots) (hS : St n h) (kk : ∀ n' h' kc' ks', kc' ≤ kc + 3 → ks' ≤ ks + 34 → St n' h' → J p l e R s m args below meth c D cA b 7 Q n' h' kc' ks' 1014 [(4, .int (nI q)), (3, .ref 56), (2, .ref 28), (1, .ref 0), (0, .retAddr sc)] []) : J p l e R s m args below meth c D cA b 7 Q n h kc ks 826 [(4, .int (nI q)), (3, .ref 56), (2, .ref 28), (1, .ref 0), (0, .retAddr sc)] [] := by
  refine j_aload_n C d_L_law_826 rfl rfl ?_
  refine j_aloadr_n C d_L_law_827 rfl rfl ?_
  refine j_iload C d_L_law_828 rfl ?_
  refine j_iconst (v := 1) C d_L_law_830 (by decide) ?_
  refine j_iadd C d_L_law_831 ?_
  refine j_sld (w := xs (q + 1)) C hX hsc hscb d_L_law_832 (six (k := 1) (by omega) hlen) (sixc (k := 1) (by omega) hlen) ?_
  refine j_aloadr_n C d_L_law_833 rfl rfl ?_
  refine j_iload C d_L_law_834 rfl ?_
  refine j_iconst (v := 2) C d_L_law_836 (by decide) ?_
  refine j_iadd C d_L_law_837 ?_
  refine j_sld (w := xs (q + 2)) C hX hsc hscb d_L_law_838 (six (k := 2) (by omega) hlen) (sixc (k := 2) (by omega) hlen) ?_
  refine j_aloadr_n C d_L_law_839 rfl rfl ?_
  refine j_iload C d_L_law_840 rfl ?_
  refine j_iconst (v := 3) C d_L_law_842 (by decide) ?_
  refine j_iadd C d_L_law_843 ?_
  refine j_sld (w := xs (q + 3)) C hX hsc hscb d_L_law_844 (six (k := 3) (by omega) hlen) (sixc (k := 3) (by omega) hlen) ?_
  refine j_aload_n C d_L_law_845 rfl rfl ?_
  refine j_callS C d_L_law_846 ml_L_154 mc_L_count st_L_count (s_count hl hS _ _ _) rfl rfl (Nat.le_trans (m := 9) (Nat.le_of_ble_eq_true rfl) hRf) (Nat.le_trans (m := 200) (Nat.le_of_ble_eq_true rfl) hRl) (by omega) (by omega) (jk_wz (fun k1 n1 h1 hn1 hf1 hM => ?_))
  refine j_istore C d_L_law_849 (by decide) rfl ?_
  refine j_aload_n C d_L_law_851 rfl rfl ?_
  refine j_aloadr_n C d_L_law_852 rfl rfl ?_
  refine j_iload C d_L_law_853 rfl ?_
  refine j_iconst (v := 1) C d_L_law_855 (by decide) ?_
  refine j_iadd C d_L_law_856 ?_
  refine j_sld (w := xs (q + 1)) C hX hsc hscb d_L_law_857 (six (k := 1) (by omega) hlen) (sixc (k := 1) (by omega) hlen) ?_
  refine j_aloadr_n C d_L_law_858 rfl rfl ?_
  refine j_iload C d_L_law_859 rfl ?_
  refine j_iconst (v := 2) C d_L_law_861 (by decide) ?_
  refine j_iadd C d_L_law_862 ?_
  refine j_sld (w := xs (q + 2)) C hX hsc hscb d_L_law_863 (six (k := 2) (by omega) hlen) (sixc (k := 2) (by omega) hlen) ?_
  refine j_aloadr_n C d_L_law_864 rfl rfl ?_
  refine j_iload C d_L_law_865 rfl ?_
  refine j_iconst (v := 3) C d_L_law_867 (by decide) ?_
  refine j_iadd C d_L_law_868 ?_
  refine j_sld (w := xs (q + 3)) C hX hsc hscb d_L_law_869 (six (k := 3) (by omega) hlen) (sixc (k := 3) (by omega) hlen) ?_
  obtain ⟨fs1, hf1⟩ := hf1
  refine j_callV C d_L_law_870 ml_L_156 mc_M_count in_M_count rfl se_M_count (by omega) hf1 hM rfl rfl (Nat.le_trans (m := 9) (Nat.le_of_ble_eq_true rfl) hRf) (Nat.le_trans (m := 200) (Nat.le_of_ble_eq_true rfl) hRl) (by omega) (by omega) (jk_mz (fun v2 f2 h2 hB hP => ?_))
  refine j_istore C d_L_law_873 (by decide) rfl ?_
  refine j_goto (tgt := 1014) C d_L_law_875 (by decide) ?_
  exact j_pick [2, 3, 4, 5, 6] rfl (kk _ _ _ _ (by omega) (by omega) ⟨_, _, hB⟩)

set_option maxHeartbeats 4000000 in
set_option maxRecDepth 100000 in
theorem lc_reportAt {p : Program} {l : Launch} {e : Env} {R : Room} {s : State} {m : MethodId} {args : Array Value} {below : List Frame} {meth : Method} {c : Code} {D : va_G} {cA : Nat → ClassId} {b : Nat} {Q : State → Prop} {n : Nat} {h : AH} {kc ks sc q len : Nat} {xs : Nat → Int32} (hl : l.stackTraces = false) (C : Cx p l s m meth c D cA b 7 "ReportChecks2Law" "law" b_L_law (some .boolean) []) (hX : va_X sc len xs s s.heap) (hsc : sc < s.heap.size) (hscb : sc < b) (hlen : len < 2 ^ 31) (hq : q + 3 < len) (hRf : 9 ≤ R.frames) (hRl : 200 ≤ R.locals) (hRc : kc + 3 ≤ R.cells) (hRs : ks + 34 ≤ R.slots) (hS : St n h) (kk : ∀ n' h' kc' ks', kc' ≤ kc + 3 → ks' ≤ ks + 34 → St n' h' → J p l e R s m args below meth c D cA b 7 Q n' h' kc' ks' 1014 [(4, .int (nI q)), (3, .ref 56), (2, .ref 28), (1, .ref 0), (0, .retAddr sc)] []) : J p l e R s m args below meth c D cA b 7 Q n h kc ks 878 [(4, .int (nI q)), (3, .ref 56), (2, .ref 28), (1, .ref 0), (0, .retAddr sc)] [] := by
  refine j_aload_n C d_L_law_878 rfl rfl ?_
  refine j_aloadr_n C d_L_law_879 rfl rfl ?_
  refine j_iload C d_L_law_880 rfl ?_
  refine j_iconst (v := 1) C d_L_law_882 (by decide) ?_
  refine j_iadd C d_L_law_883 ?_
  refine j_sld (w := xs (q + 1)) C hX hsc hscb d_L_law_884 (six (k := 1) (by omega) hlen) (sixc (k := 1) (by omega) hlen) ?_
  refine j_aloadr_n C d_L_law_885 rfl rfl ?_
  refine j_iload C d_L_law_886 rfl ?_
  refine j_iconst (v := 2) C d_L_law_888 (by decide) ?_
  refine j_iadd C d_L_law_889 ?_
  refine j_sld (w := xs (q + 2)) C hX hsc hscb d_L_law_890 (six (k := 2) (by omega) hlen) (sixc (k := 2) (by omega) hlen) ?_
  refine j_aload_n C d_L_law_891 rfl rfl ?_
  refine j_callS C d_L_law_892 ml_L_157 mc_L_reportAt st_L_reportAt (s_reportAt hl hS _ _) rfl rfl (Nat.le_trans (m := 9) (Nat.le_of_ble_eq_true rfl) hRf) (Nat.le_trans (m := 200) (Nat.le_of_ble_eq_true rfl) hRl) (by omega) (by omega) (jk_wz (fun k1 n1 h1 hn1 hf1 hM => ?_))
  refine j_istore C d_L_law_895 (by decide) rfl ?_
  refine j_aload_n C d_L_law_897 rfl rfl ?_
  refine j_aloadr_n C d_L_law_898 rfl rfl ?_
  refine j_iload C d_L_law_899 rfl ?_
  refine j_iconst (v := 1) C d_L_law_901 (by decide) ?_
  refine j_iadd C d_L_law_902 ?_
  refine j_sld (w := xs (q + 1)) C hX hsc hscb d_L_law_903 (six (k := 1) (by omega) hlen) (sixc (k := 1) (by omega) hlen) ?_
  refine j_aloadr_n C d_L_law_904 rfl rfl ?_
  refine j_iload C d_L_law_905 rfl ?_
  refine j_iconst (v := 2) C d_L_law_907 (by decide) ?_
  refine j_iadd C d_L_law_908 ?_
  refine j_sld (w := xs (q + 2)) C hX hsc hscb d_L_law_909 (six (k := 2) (by omega) hlen) (sixc (k := 2) (by omega) hlen) ?_
  obtain ⟨fs1, hf1⟩ := hf1
  refine j_callV C d_L_law_910 ml_L_159 mc_M_reportAt in_M_reportAt rfl se_M_reportAt (by omega) hf1 hM rfl rfl (Nat.le_trans (m := 9) (Nat.le_of_ble_eq_true rfl) hRf) (Nat.le_trans (m := 200) (Nat.le_of_ble_eq_true rfl) hRl) (by omega) (by omega) (jk_mz (fun v2 f2 h2 hB hP => ?_))
  refine j_istore C d_L_law_913 (by decide) rfl ?_
  refine j_aload_n C d_L_law_915 rfl rfl ?_
  obtain ⟨fs2, hf2⟩ := hB.m
  refine j_callV C d_L_law_916 ml_L_160 mc_M_thrown in_M_thrown rfl se_M_thrown (by omega) hf2 (hB.th hl) rfl rfl (Nat.le_trans (m := 9) (Nat.le_of_ble_eq_true rfl) hRf) (Nat.le_trans (m := 200) (Nat.le_of_ble_eq_true rfl) hRl) (by omega) (by omega) (jk_r ?_)
  refine j_iload C d_L_law_919 rfl ?_
  refine j_icmp_eq (tgt := 926) C d_L_law_921 (by decide) (fun c921 => ?_) (fun c921 => ?_)
  · refine j_iload C d_L_law_926 rfl ?_
    refine j_if_ne (tgt := 943) C d_L_law_928 (by decide) (fun c928 => ?_) (fun c928 => ?_)
    · refine j_goto (tgt := 1014) C d_L_law_943 (by decide) ?_
      exact j_pick [2, 3, 4, 5, 6] rfl (kk _ _ _ _ (by omega) (by omega) ⟨_, _, hB⟩)
    · refine j_aload_n C d_L_law_931 rfl rfl ?_
      refine j_iconst (v := 0) C d_L_law_932 (by decide) ?_
      refine j_lald (t := 4) (N := 1) C d_L_law_933 rfl (by omega) hB.out (vp_in_nI (n := 0) (by omega) (by omega)) rfl ?_
      refine j_iload C d_L_law_934 rfl ?_
      refine j_i2l C d_L_law_936 rfl ?_
      refine j_lcmp C d_L_law_937 ?_
      refine j_if_eq (tgt := 943) C d_L_law_938 (by decide) (fun c938 => ?_) (fun c938 => ?_)
      · refine j_goto (tgt := 1014) C d_L_law_943 (by decide) ?_
        exact j_pick [2, 3, 4, 5, 6] rfl (kk _ _ _ _ (by omega) (by omega) ⟨_, _, hB⟩)
      · exact absurd (lcz (hP (fun _ => bct) c928)) c938
  · exact absurd rfl c921

set_option maxHeartbeats 4000000 in
set_option maxRecDepth 100000 in
theorem lc_value {p : Program} {l : Launch} {e : Env} {R : Room} {s : State} {m : MethodId} {args : Array Value} {below : List Frame} {meth : Method} {c : Code} {D : va_G} {cA : Nat → ClassId} {b : Nat} {Q : State → Prop} {n : Nat} {h : AH} {kc ks sc q len : Nat} {xs : Nat → Int32} (hl : l.stackTraces = false) (C : Cx p l s m meth c D cA b 7 "ReportChecks2Law" "law" b_L_law (some .boolean) []) (hX : va_X sc len xs s s.heap) (hsc : sc < s.heap.size) (hscb : sc < b) (hlen : len < 2 ^ 31) (hq : q + 3 < len) (hRf : 9 ≤ R.frames) (hRl : 200 ≤ R.locals) (hRc : kc + 3 ≤ R.cells) (hRs : ks + 34 ≤ R.slots) (hS : St n h) (kk : ∀ n' h' kc' ks', kc' ≤ kc + 3 → ks' ≤ ks + 34 → St n' h' → J p l e R s m args below meth c D cA b 7 Q n' h' kc' ks' 1014 [(4, .int (nI q)), (3, .ref 56), (2, .ref 28), (1, .ref 0), (0, .retAddr sc)] []) : J p l e R s m args below meth c D cA b 7 Q n h kc ks 946 [(4, .int (nI q)), (3, .ref 56), (2, .ref 28), (1, .ref 0), (0, .retAddr sc)] [] := by
  refine j_aload_n C d_L_law_946 rfl rfl ?_
  refine j_aloadr_n C d_L_law_947 rfl rfl ?_
  refine j_iload C d_L_law_948 rfl ?_
  refine j_iconst (v := 1) C d_L_law_950 (by decide) ?_
  refine j_iadd C d_L_law_951 ?_
  refine j_sld (w := xs (q + 1)) C hX hsc hscb d_L_law_952 (six (k := 1) (by omega) hlen) (sixc (k := 1) (by omega) hlen) ?_
  refine j_aloadr_n C d_L_law_953 rfl rfl ?_
  refine j_iload C d_L_law_954 rfl ?_
  refine j_iconst (v := 2) C d_L_law_956 (by decide) ?_
  refine j_iadd C d_L_law_957 ?_
  refine j_sld (w := xs (q + 2)) C hX hsc hscb d_L_law_958 (six (k := 2) (by omega) hlen) (sixc (k := 2) (by omega) hlen) ?_
  refine j_aload_n C d_L_law_959 rfl rfl ?_
  refine j_callS C d_L_law_960 ml_L_163 mc_L_value st_L_value (s_value hl hS _ _) rfl rfl (Nat.le_trans (m := 9) (Nat.le_of_ble_eq_true rfl) hRf) (Nat.le_trans (m := 200) (Nat.le_of_ble_eq_true rfl) hRl) (by omega) (by omega) (jk_wz (fun k1 n1 h1 hn1 hf1 hM => ?_))
  refine j_istore C d_L_law_963 (by decide) rfl ?_
  refine j_aload_n C d_L_law_965 rfl rfl ?_
  refine j_aloadr_n C d_L_law_966 rfl rfl ?_
  refine j_iload C d_L_law_967 rfl ?_
  refine j_iconst (v := 1) C d_L_law_969 (by decide) ?_
  refine j_iadd C d_L_law_970 ?_
  refine j_sld (w := xs (q + 1)) C hX hsc hscb d_L_law_971 (six (k := 1) (by omega) hlen) (sixc (k := 1) (by omega) hlen) ?_
  refine j_aloadr_n C d_L_law_972 rfl rfl ?_
  refine j_iload C d_L_law_973 rfl ?_
  refine j_iconst (v := 2) C d_L_law_975 (by decide) ?_
  refine j_iadd C d_L_law_976 ?_
  refine j_sld (w := xs (q + 2)) C hX hsc hscb d_L_law_977 (six (k := 2) (by omega) hlen) (sixc (k := 2) (by omega) hlen) ?_
  obtain ⟨fs1, hf1⟩ := hf1
  refine j_callV C d_L_law_978 ml_L_165 mc_M_value in_M_value rfl se_M_value (by omega) hf1 hM rfl rfl (Nat.le_trans (m := 9) (Nat.le_of_ble_eq_true rfl) hRf) (Nat.le_trans (m := 200) (Nat.le_of_ble_eq_true rfl) hRl) (by omega) (by omega) (jk_mz (fun v2 f2 h2 hB hP => ?_))
  refine j_istore C d_L_law_981 (by decide) rfl ?_
  refine j_goto (tgt := 1014) C d_L_law_983 (by decide) ?_
  exact j_pick [2, 3, 4, 5, 6] rfl (kk _ _ _ _ (by omega) (by omega) ⟨_, _, hB⟩)

set_option maxHeartbeats 4000000 in
set_option maxRecDepth 100000 in
theorem lc_tick {p : Program} {l : Launch} {e : Env} {R : Room} {s : State} {m : MethodId} {args : Array Value} {below : List Frame} {meth : Method} {c : Code} {D : va_G} {cA : Nat → ClassId} {b : Nat} {Q : State → Prop} {n : Nat} {h : AH} {kc ks sc q len : Nat} {xs : Nat → Int32} (hl : l.stackTraces = false) (C : Cx p l s m meth c D cA b 7 "ReportChecks2Law" "law" b_L_law (some .boolean) []) (hX : va_X sc len xs s s.heap) (hsc : sc < s.heap.size) (hscb : sc < b) (hlen : len < 2 ^ 31) (hq : q + 3 < len) (hRf : 9 ≤ R.frames) (hRl : 200 ≤ R.locals) (hRc : kc + 3 ≤ R.cells) (hRs : ks + 34 ≤ R.slots) (hS : St n h) (kk : ∀ n' h' kc' ks', kc' ≤ kc + 3 → ks' ≤ ks + 34 → St n' h' → J p l e R s m args below meth c D cA b 7 Q n' h' kc' ks' 1014 [(4, .int (nI q)), (3, .ref 56), (2, .ref 28), (1, .ref 0), (0, .retAddr sc)] []) : J p l e R s m args below meth c D cA b 7 Q n h kc ks 986 [(4, .int (nI q)), (3, .ref 56), (2, .ref 28), (1, .ref 0), (0, .retAddr sc)] [] := by
  refine j_aload_n C d_L_law_986 rfl rfl ?_
  refine j_aloadr_n C d_L_law_987 rfl rfl ?_
  refine j_iload C d_L_law_988 rfl ?_
  refine j_iconst (v := 1) C d_L_law_990 (by decide) ?_
  refine j_iadd C d_L_law_991 ?_
  refine j_sld (w := xs (q + 1)) C hX hsc hscb d_L_law_992 (six (k := 1) (by omega) hlen) (sixc (k := 1) (by omega) hlen) ?_
  refine j_aload_n C d_L_law_993 rfl rfl ?_
  refine j_callS C d_L_law_994 ml_L_166 mc_L_tick st_L_tick (s_tick hl hS _) rfl rfl (Nat.le_trans (m := 9) (Nat.le_of_ble_eq_true rfl) hRf) (Nat.le_trans (m := 200) (Nat.le_of_ble_eq_true rfl) hRl) (by omega) (by omega) (jk_wz (fun k1 n1 h1 hn1 hf1 hM => ?_))
  refine j_istore C d_L_law_997 (by decide) rfl ?_
  refine j_aload_n C d_L_law_999 rfl rfl ?_
  refine j_aloadr_n C d_L_law_1000 rfl rfl ?_
  refine j_iload C d_L_law_1001 rfl ?_
  refine j_iconst (v := 1) C d_L_law_1003 (by decide) ?_
  refine j_iadd C d_L_law_1004 ?_
  refine j_sld (w := xs (q + 1)) C hX hsc hscb d_L_law_1005 (six (k := 1) (by omega) hlen) (sixc (k := 1) (by omega) hlen) ?_
  obtain ⟨fs1, hf1⟩ := hf1
  refine j_callV C d_L_law_1006 ml_L_168 mc_M_tick in_M_tick rfl se_M_tick (by omega) hf1 hM rfl rfl (Nat.le_trans (m := 9) (Nat.le_of_ble_eq_true rfl) hRf) (Nat.le_trans (m := 200) (Nat.le_of_ble_eq_true rfl) hRl) (by omega) (by omega) (jk_mz (fun v2 f2 h2 hB hP => ?_))
  refine j_istore C d_L_law_1009 (by decide) rfl ?_
  refine j_goto (tgt := 1014) C d_L_law_1011 (by decide) ?_
  exact j_pick [2, 3, 4, 5, 6] rfl (kk _ _ _ _ (by omega) (by omega) ⟨_, _, hB⟩)

