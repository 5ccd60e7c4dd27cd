/-! ===== the class reads a text: sums: printed by program ===== -/
theorem c_RR_skipBlanksG {l : Launch} (hl : l.stackTraces = false) {D : va_G} {cA : Nat → ClassId} {b n : Nat} {xo : Nat} {ξ : Nat → Int32} {β : Nat → Nat → Int32} {ρ : Nat → Option Nat} {u v : Nat} (h : AH) (hn : xo + 28 ≤ n) (g : Nat → Int32) (hg : β 4 = g) (t a0 : Nat) (h4 : ξ 4 = nI t) (ht : t ≤ 300) (ha0 : a0 ≤ t) : Cn l D cA b y_RR_skipBlanks k_RR_skipBlanks 0 0 0 0 [.ref (xo + 5)] n (ovX xo (xq ξ a0) β ρ u v h) (Re none n (ovX xo (xq ξ (skp g t a0)) β ρ u v h)) := by
  subst hg
  exact c_RR_skipBlanks hl h hn t a0 h4 ht ha0
theorem c_RR_passesG {l : Launch} (hl : l.stackTraces = false) {D : va_G} {cA : Nat → ClassId} {b n : Nat} {xo : Nat} {ξ : Nat → Int32} {β : Nat → Nat → Int32} {ρ : Nat → Option Nat} {u v : Nat} (h : AH) (hn : xo + 28 ≤ n) (g : Nat → Int32) (hg : β 4 = g) (t a0 : Nat) (h4 : ξ 4 = nI t) (ht : t ≤ 300) (ha0 : a0 ≤ t) (x : Int32) (hx : ¬ x = -1) : Cn l D cA b y_RR_passes k_RR_passes 1 12 0 0 [.ref (xo + 5), .int x] n (ovX xo (xq ξ a0) β ρ u v h) (Re (some (.int (pz g t a0 x))) n (ovX xo (xq ξ (pp g t a0 x)) β ρ u v h)) := by
  subst hg
  exact c_RR_passes hl h hn t a0 h4 ht ha0 x hx
theorem c_RR_readTermG_6_s {l : Launch} (hl : l.stackTraces = false) {D : va_G} {cA : Nat → ClassId} {b n : Nat} {xo : Nat} {ξ : Nat → Int32} {β : Nat → Nat → Int32} {ρ : Nat → Option Nat} {u v : Nat} (h : AH) (hn : xo + 28 ≤ n) (g : Nat → Int32) (hg : β 4 = g) (t a0 : Nat) (h4 : ξ 4 = nI t) (ht : t ≤ 300) (ha0 : a0 ≤ t) (how : Int32) (s0 c0 : Nat) (hs : s0 < 40) (hc : β 9 s0 = nI c0) (hc4 : c0 < 4) (m0 : Int32) (tm : Int32 × Int32 × Option Int32) (P : Nat) (hS : ctm g t how a0 = some (tm, P)) : Cn l D cA b y_RR_readTerm k_RR_readTerm 3 48 0 0 [.ref (xo + 5), .ref (xo + 6), .int (nI s0), .int m0] n (ovX xo (xq ξ a0) β ρ u v h) (Re (some (.int 1)) n (ovX xo (xq ξ P) (adT 6 β s0 c0 tm.2.1 (tm.2.2.getD 1) m0) ρ u v h)) := by
  subst hg
  exact c_RR_readTerm_6_s hl h hn t a0 h4 ht ha0 how s0 c0 hs hc hc4 m0 tm P hS
theorem c_RR_readTermG_6_n {l : Launch} (hl : l.stackTraces = false) {D : va_G} {cA : Nat → ClassId} {b n : Nat} {xo : Nat} {ξ : Nat → Int32} {β : Nat → Nat → Int32} {ρ : Nat → Option Nat} {u v : Nat} (h : AH) (hn : xo + 28 ≤ n) (g : Nat → Int32) (hg : β 4 = g) (t a0 : Nat) (h4 : ξ 4 = nI t) (ht : t ≤ 300) (ha0 : a0 ≤ t) (how : Int32) (s0 c0 : Nat) (hs : s0 < 40) (hc : β 9 s0 = nI c0) (hc4 : c0 < 4) (m0 : Int32) (hS : ctm g t how a0 = none) : Cn l D cA b y_RR_readTerm k_RR_readTerm 3 48 0 0 [.ref (xo + 5), .ref (xo + 6), .int (nI s0), .int m0] n (ovX xo (xq ξ a0) β ρ u v h) (Re (some (.int 0)) n (ovX xo (xq ξ (ctp g t a0)) β ρ u v h)) := by
  subst hg
  exact c_RR_readTerm_6_n hl h hn t a0 h4 ht ha0 how s0 c0 hs hc hc4 m0 hS
set_option maxHeartbeats 4000000 in
set_option maxRecDepth 100000 in
theorem c_RR_readSum_6_s {l : Launch} (hl : l.stackTraces = false) {D : va_G} {cA : Nat → ClassId} {b n : Nat} {xo : Nat} {ξ : Nat → Int32} {β : Nat → Nat → Int32} {ρ : Nat → Option Nat} {u v : Nat} (h : AH) (hn : xo + 28 ≤ n) (t a0 : Nat) (h4 : ξ 4 = nI t) (ht : t ≤ 300) (ha0 : a0 ≤ t) (s0 : Nat) (hs : s0 < 40) (hc : β 9 s0 = nI 0) (q0 : List Tm × Nat) (hR : csum (β 4) t 4 1 a0 = some q0) : Cn l D cA b y_RR_readSum k_RR_readSum 4 65 0 0 [.ref (xo + 5), .ref (xo + 6), .int (nI s0)] n (ovX xo (xq ξ a0) β ρ u v h) (Rp (some (.int 1)) n (fun h' => ∃ β' : Nat → Nat → Int32, h' = ovX xo (xq ξ q0.2) β' ρ u v h ∧ Bst 6 β s0 β' q0.1)) := by
  refine Cn.of (cc := b_RR_readSum) (maxL := 5) (ret := (some .boolean)) (hh := []) (by decide +kernel) hl (Or.inl ⟨rfl, rfl⟩) (Nat.le_of_ble_eq_true rfl) ?_
  intro p e s m args below meth c C
  have loop : ∀ (n9 : Nat) (how : Int32) (a : Nat) (β1 : Nat → Nat → Int32) (ps : List Tm) (mi : Int32), ps.length + n9 = 3 → (how = 1 ∨ how = 2) → mi = (if how = 2 then 1 else 0) → Bst 6 β s0 β1 ps → a ≤ t → (csum (β 4) t (n9 + 1) how a).map (fun q => (ps ++ q.1, q.2)) = csum (β 4) t 4 1 a0 → J p l e { frames := 4, cells := 0, slots := 0, locals := 65 } s m args below meth c D cA b 5 (EndQ D cA b s below (Rp (some (.int 1)) n (fun h' => ∃ β' : Nat → Nat → Int32, h' = ovX xo (xq ξ q0.2) β' ρ u v h ∧ Bst 6 β s0 β' q0.1)) 0 0) n (ovX xo (xq ξ a) β1 ρ u v h) 0 0 5 [(4, .int (nI (ps.length + 1))), (3, .int mi), (0, .ref (xo + 5)), (1, .ref (xo + 6)), (2, .int (nI s0))] [] := by
    intro n9
    induction n9 with
    | zero =>
      intro how a β1 ps mi hi hh hm hB ha hv
      refine j_iload C d_RR_readSum_5 rfl ?_
      refine j_iconst (v := 4) C d_RR_readSum_7 (by decide) ?_
      refine j_icmp_gt (tgt := 57) C d_RR_readSum_8 (by decide) (fun c8 => ?_) (fun c8 => ?_)
      · exact absurd (show nI 4 < nI (ps.length + 1) from c8) (fun z => absurd (nI_le (a := ps.length + 1) (b := 4) (by omega) (by omega)) (Int32.not_le.mpr z))
      · refine j_aload_n C d_RR_readSum_11 rfl rfl ?_
        refine j_aload_n C d_RR_readSum_12 rfl rfl ?_
        refine j_iload_n C d_RR_readSum_13 rfl rfl ?_
        refine j_iload_n C d_RR_readSum_14 rfl rfl ?_
        cases hct : ctm (β 4) t how a with
        | none =>
          refine j_callV C d_RR_readSum_15 ml_RR_55 mc_RR_readTerm in_RR_readTerm rfl se_RR_readTerm (by omega) (ovX_c (o := 5) rfl) (c_RR_readTermG_6_n hl h hn (β 4) (hB.1 4 (by omega)) t a h4 ht ha how s0 ps.length hs hB.2.2.2.1 (by omega) mi hct) rfl rfl (Nat.le_of_ble_eq_true rfl) (Nat.le_of_ble_eq_true rfl) (Nat.le_of_ble_eq_true rfl) (Nat.le_of_ble_eq_true rfl) (jk_r ?_)
          refine j_if_ne (tgt := 23) C d_RR_readSum_18 (by decide) (fun c18 => ?_) (fun c18 => ?_)
          · exact absurd rfl c18
          · refine j_iconst (v := 0) C d_RR_readSum_21 (by decide) ?_
            have er : csum (β 4) t 4 1 a0 = none := by
              rw [← hv, csum_n hct]
              rfl
            rw [er] at hR
            cases hR
        | some q =>
          refine j_callV C d_RR_readSum_15 ml_RR_55 mc_RR_readTerm in_RR_readTerm rfl se_RR_readTerm (by omega) (ovX_c (o := 5) rfl) (c_RR_readTermG_6_s hl h hn (β 4) (hB.1 4 (by omega)) t a h4 ht ha how s0 ps.length hs hB.2.2.2.1 (by omega) mi q.1 q.2 hct) rfl rfl (Nat.le_of_ble_eq_true rfl) (Nat.le_of_ble_eq_true rfl) (Nat.le_of_ble_eq_true rfl) (Nat.le_of_ble_eq_true rfl) (jk_r ?_)
          have hq2 := ctm_le ha hct
          have hB2 := Bst_snoc (m := mi) hB (ctm_tok hh hct) (by rw [hq2.2]; exact hm)
          generalize hb2 : adT 6 β1 s0 ps.length q.1.2.1 (q.1.2.2.getD 1) mi = β2 at hB2 ⊢
          have hg2 : β2 4 = β 4 := hB2.1 4 (by omega)
          refine j_if_ne (tgt := 23) C d_RR_readSum_18 (by decide) (fun c18 => ?_) (fun c18 => ?_)
          · refine j_iload C d_RR_readSum_23 rfl ?_
            refine j_iconst (v := 4) C d_RR_readSum_25 (by decide) ?_
            refine j_icmp_ge (tgt := 51) C d_RR_readSum_26 (by decide) (fun c26 => ?_) (fun c26 => ?_)
            · refine j_iinc (v := nI ((ps ++ [q.1]).length + 1)) C d_RR_readSum_51 rfl (by rw [len_snoc]; exact nI_inc _) (by decide) rfl ?_
              refine j_goto (tgt := 5) C d_RR_readSum_54 (by decide) ?_
              refine j_iload C d_RR_readSum_5 rfl ?_
              refine j_iconst (v := 4) C d_RR_readSum_7 (by decide) ?_
              refine j_icmp_gt (tgt := 57) C d_RR_readSum_8 (by decide) (fun c8 => ?_) (fun c8 => ?_)
              · refine j_iconst (v := 1) C d_RR_readSum_57 (by decide) ?_
                have er : csum (β 4) t 4 1 a0 = some (ps ++ [q.1], q.2) := by
                  rw [← hv, csum_s hct, if_pos rfl]
                  rfl
                rw [er] at hR
                cases hR
                exact j_zreturn C d_RR_readSum_58 rfl (by decide) (by decide) (by decide) ⟨rfl, rfl, β2, rfl, hB2⟩
              · exact absurd (show nI 4 < nI ((ps ++ [q.1]).length + 1) from nI_lt (by rw [len_snoc]; omega) (by rw [len_snoc]; omega)) c8
            · exact absurd (show nI 4 ≤ nI (ps.length + 1) from nI_le (by omega) (by omega)) c26
          · exact absurd c18 (by decide)
    | succ n9 ih =>
      intro how a β1 ps mi hi hh hm hB ha hv
      refine j_iload C d_RR_readSum_5 rfl ?_
      refine j_iconst (v := 4) C d_RR_readSum_7 (by decide) ?_
      refine j_icmp_gt (tgt := 57) C d_RR_readSum_8 (by decide) (fun c8 => ?_) (fun c8 => ?_)
      · exact absurd (show nI 4 < nI (ps.length + 1) from c8) (fun z => absurd (nI_le (a := ps.length + 1) (b := 4) (by omega) (by omega)) (Int32.not_le.mpr z))
      · refine j_aload_n C d_RR_readSum_11 rfl rfl ?_
        refine j_aload_n C d_RR_readSum_12 rfl rfl ?_
        refine j_iload_n C d_RR_readSum_13 rfl rfl ?_
        refine j_iload_n C d_RR_readSum_14 rfl rfl ?_
        cases hct : ctm (β 4) t how a with
        | none =>
          refine j_callV C d_RR_readSum_15 ml_RR_55 mc_RR_readTerm in_RR_readTerm rfl se_RR_readTerm (by omega) (ovX_c (o := 5) rfl) (c_RR_readTermG_6_n hl h hn (β 4) (hB.1 4 (by omega)) t a h4 ht ha how s0 ps.length hs hB.2.2.2.1 (by omega) mi hct) rfl rfl (Nat.le_of_ble_eq_true rfl) (Nat.le_of_ble_eq_true rfl) (Nat.le_of_ble_eq_true rfl) (Nat.le_of_ble_eq_true rfl) (jk_r ?_)
          refine j_if_ne (tgt := 23) C d_RR_readSum_18 (by decide) (fun c18 => ?_) (fun c18 => ?_)
          · exact absurd rfl c18
          · refine j_iconst (v := 0) C d_RR_readSum_21 (by decide) ?_
            have er : csum (β 4) t 4 1 a0 = none := by
              rw [← hv, csum_n hct]
              rfl
            rw [er] at hR
            cases hR
        | some q =>
          refine j_callV C d_RR_readSum_15 ml_RR_55 mc_RR_readTerm in_RR_readTerm rfl se_RR_readTerm (by omega) (ovX_c (o := 5) rfl) (c_RR_readTermG_6_s hl h hn (β 4) (hB.1 4 (by omega)) t a h4 ht ha how s0 ps.length hs hB.2.2.2.1 (by omega) mi q.1 q.2 hct) rfl rfl (Nat.le_of_ble_eq_true rfl) (Nat.le_of_ble_eq_true rfl) (Nat.le_of_ble_eq_true rfl) (Nat.le_of_ble_eq_true rfl) (jk_r ?_)
          have hq2 := ctm_le ha hct
          have hB2 := Bst_snoc (m := mi) hB (ctm_tok hh hct) (by rw [hq2.2]; exact hm)
          generalize hb2 : adT 6 β1 s0 ps.length q.1.2.1 (q.1.2.2.getD 1) mi = β2 at hB2 ⊢
          have hg2 : β2 4 = β 4 := hB2.1 4 (by omega)
          refine j_if_ne (tgt := 23) C d_RR_readSum_18 (by decide) (fun c18 => ?_) (fun c18 => ?_)
          · refine j_iload C d_RR_readSum_23 rfl ?_
            refine j_iconst (v := 4) C d_RR_readSum_25 (by decide) ?_
            refine j_icmp_ge (tgt := 51) C d_RR_readSum_26 (by decide) (fun c26 => ?_) (fun c26 => ?_)
            · exact absurd (show nI 4 ≤ nI (ps.length + 1) from c26) (nI_ge (by omega) (by omega))
            · refine j_aload_n C d_RR_readSum_29 rfl rfl ?_
              refine j_bipush (v := 45) C d_RR_readSum_30 (by decide) ?_
              refine j_callV C d_RR_readSum_32 ml_RR_47 mc_RR_passes in_RR_passes rfl se_RR_passes (by omega) (ovX_c (o := 5) rfl) (c_RR_passesG hl h hn (β 4) hg2 t q.2 h4 ht hq2.1 45 (by decide)) rfl rfl (Nat.le_of_ble_eq_true rfl) (Nat.le_of_ble_eq_true rfl) (Nat.le_of_ble_eq_true rfl) (Nat.le_of_ble_eq_true rfl) (jk_r ?_)
              refine j_istore_n C d_RR_readSum_35 rfl (by decide) rfl ?_
              refine j_iload_n C d_RR_readSum_36 rfl rfl ?_
              refine j_if_ne (tgt := 51) C d_RR_readSum_37 (by decide) (fun c37 => ?_) (fun c37 => ?_)
              · rw [pz_1 c37, pp_y (pz_y c37)]
                refine j_iinc (v := nI ((ps ++ [q.1]).length + 1)) C d_RR_readSum_51 rfl (by rw [len_snoc]; exact nI_inc _) (by decide) rfl ?_
                refine j_goto (tgt := 5) C d_RR_readSum_54 (by decide) ?_
                exact j_pick [0, 1, 2, 3, 4] rfl (ih 2 (skp (β 4) t q.2 + 1) β2 (ps ++ [q.1]) 1 (by rw [len_snoc]; omega) (Or.inr rfl) rfl hB2 (hr_lt2 (pz_y c37) (by decide)) (by rw [← hv, csum_s hct, if_neg (by omega), if_pos (pz_y c37), Option.map_map]; congr 1; funext z; simp))
              · have hm45 := pz_n c37
                rw [c37, pp_n hm45]
                refine j_aload_n C d_RR_readSum_40 rfl rfl ?_
                refine j_bipush (v := 43) C d_RR_readSum_41 (by decide) ?_
                refine j_callV C d_RR_readSum_43 ml_RR_47 mc_RR_passes in_RR_passes rfl se_RR_passes (by omega) (ovX_c (o := 5) rfl) (c_RR_passesG hl h hn (β 4) hg2 t (skp (β 4) t q.2) h4 ht (skp_le _ hq2.1) 43 (by decide)) rfl rfl (Nat.le_of_ble_eq_true rfl) (Nat.le_of_ble_eq_true rfl) (Nat.le_of_ble_eq_true rfl) (Nat.le_of_ble_eq_true rfl) (jk_r ?_)
                refine j_if_ne (tgt := 51) C d_RR_readSum_46 (by decide) (fun c46 => ?_) (fun c46 => ?_)
                · rw [pp_y (pz_y c46)]
                  refine j_iinc (v := nI ((ps ++ [q.1]).length + 1)) C d_RR_readSum_51 rfl (by rw [len_snoc]; exact nI_inc _) (by decide) rfl ?_
                  refine j_goto (tgt := 5) C d_RR_readSum_54 (by decide) ?_
                  exact j_pick [0, 1, 2, 3, 4] rfl (ih 1 (skp (β 4) t (skp (β 4) t q.2) + 1) β2 (ps ++ [q.1]) 0 (by rw [len_snoc]; omega) (Or.inl rfl) rfl hB2 (hr_lt2 (pz_y c46) (by decide)) (by rw [← hv, csum_s hct, if_neg (by omega), if_neg hm45, if_pos (pz_y c46), Option.map_map]; congr 1; funext z; simp))
                · refine j_iconst (v := 1) C d_RR_readSum_49 (by decide) ?_
                  rw [pp_n (pz_n c46)]
                  have er : csum (β 4) t 4 1 a0 = some (ps ++ [q.1], skp (β 4) t (skp (β 4) t q.2)) := by
                    rw [← hv, csum_s hct, if_neg (by omega), if_neg hm45, if_neg (pz_n c46)]
                    rfl
                  rw [er] at hR
                  cases hR
                  exact j_zreturn C d_RR_readSum_50 rfl (by decide) (by decide) (by decide) ⟨rfl, rfl, β2, rfl, hB2⟩
          · exact absurd c18 (by decide)
  refine j_iconst (v := 0) C d_RR_readSum_0 (by decide) ?_
  refine j_istore_n C d_RR_readSum_1 rfl (by decide) rfl ?_
  refine j_iconst (v := 1) C d_RR_readSum_2 (by decide) ?_
  refine j_istore C d_RR_readSum_3 (by decide) rfl ?_
  exact j_pick [0, 1, 2, 3, 4] rfl (loop 3 1 a0 β [] 0 rfl (Or.inl rfl) rfl (Bst_nil hc) ha0 (by simp))

set_option maxHeartbeats 4000000 in
set_option maxRecDepth 100000 in
theorem c_RR_readSum_6_n {l : Launch} (hl : l.stackTraces = false) {D : va_G} {cA : Nat → ClassId} {b n : Nat} {xo : Nat} {ξ : Nat → Int32} {β : Nat → Nat → Int32} {ρ : Nat → Option Nat} {u v : Nat} (h : AH) (hn : xo + 28 ≤ n) (t a0 : Nat) (h4 : ξ 4 = nI t) (ht : t ≤ 300) (ha0 : a0 ≤ t) (s0 : Nat) (hs : s0 < 40) (hc : β 9 s0 = nI 0) (hR : csum (β 4) t 4 1 a0 = none) : Cn l D cA b y_RR_readSum k_RR_readSum 4 65 0 0 [.ref (xo + 5), .ref (xo + 6), .int (nI s0)] n (ovX xo (xq ξ a0) β ρ u v h) (Rp (some (.int 0)) n (fun h' => ∃ (a' : Nat) (β' : Nat → Nat → Int32), a' ≤ t ∧ h' = ovX xo (xq ξ a') β' ρ u v h ∧ Ab 6 β' β)) := by
  refine Cn.of (cc := b_RR_readSum) (maxL := 5) (ret := (some .boolean)) (hh := []) (by decide +kernel) hl (Or.inl ⟨rfl, rfl⟩) (Nat.le_of_ble_eq_true rfl) ?_
  intro p e s m args below meth c C
  have loop : ∀ (n9 : Nat) (how : Int32) (a : Nat) (β1 : Nat → Nat → Int32) (ps : List Tm) (mi : Int32), ps.length + n9 = 3 → (how = 1 ∨ how = 2) → mi = (if how = 2 then 1 else 0) → Bst 6 β s0 β1 ps → a ≤ t → (csum (β 4) t (n9 + 1) how a).map (fun q => (ps ++ q.1, q.2)) = csum (β 4) t 4 1 a0 → J p l e { frames := 4, cells := 0, slots := 0, locals := 65 } s m args below meth c D cA b 5 (EndQ D cA b s below (Rp (some (.int 0)) n (fun h' => ∃ (a' : Nat) (β' : Nat → Nat → Int32), a' ≤ t ∧ h' = ovX xo (xq ξ a') β' ρ u v h ∧ Ab 6 β' β)) 0 0) n (ovX xo (xq ξ a) β1 ρ u v h) 0 0 5 [(4, .int (nI (ps.length + 1))), (3, .int mi), (0, .ref (xo + 5)), (1, .ref (xo + 6)), (2, .int (nI s0))] [] := by
    intro n9
    induction n9 with
    | zero =>
      intro how a β1 ps mi hi hh hm hB ha hv
      refine j_iload C d_RR_readSum_5 rfl ?_
      refine j_iconst (v := 4) C d_RR_readSum_7 (by decide) ?_
      refine j_icmp_gt (tgt := 57) C d_RR_readSum_8 (by decide) (fun c8 => ?_) (fun c8 => ?_)
      · exact absurd (show nI 4 < nI (ps.length + 1) from c8) (fun z => absurd (nI_le (a := ps.length + 1) (b := 4) (by omega) (by omega)) (Int32.not_le.mpr z))
      · refine j_aload_n C d_RR_readSum_11 rfl rfl ?_
        refine j_aload_n C d_RR_readSum_12 rfl rfl ?_
        refine j_iload_n C d_RR_readSum_13 rfl rfl ?_
        refine j_iload_n C d_RR_readSum_14 rfl rfl ?_
        cases hct : ctm (β 4) t how a with
        | none =>
          refine j_callV C d_RR_readSum_15 ml_RR_55 mc_RR_readTerm in_RR_readTerm rfl se_RR_readTerm (by omega) (ovX_c (o := 5) rfl) (c_RR_readTermG_6_n hl h hn (β 4) (hB.1 4 (by omega)) t a h4 ht ha how s0 ps.length hs hB.2.2.2.1 (by omega) mi hct) rfl rfl (Nat.le_of_ble_eq_true rfl) (Nat.le_of_ble_eq_true rfl) (Nat.le_of_ble_eq_true rfl) (Nat.le_of_ble_eq_true rfl) (jk_r ?_)
          refine j_if_ne (tgt := 23) C d_RR_readSum_18 (by decide) (fun c18 => ?_) (fun c18 => ?_)
          · exact absurd rfl c18
          · refine j_iconst (v := 0) C d_RR_readSum_21 (by decide) ?_
            have er : csum (β 4) t 4 1 a0 = none := by
              rw [← hv, csum_n hct]
              rfl
            rw [er] at hR
            exact j_zreturn C d_RR_readSum_22 rfl (by decide) (by decide) (by decide) ⟨rfl, rfl, _, β1, ctp_le ha hct, rfl, hB.1⟩
        | some q =>
          refine j_callV C d_RR_readSum_15 ml_RR_55 mc_RR_readTerm in_RR_readTerm rfl se_RR_readTerm (by omega) (ovX_c (o := 5) rfl) (c_RR_readTermG_6_s hl h hn (β 4) (hB.1 4 (by omega)) t a h4 ht ha how s0 ps.length hs hB.2.2.2.1 (by omega) mi q.1 q.2 hct) rfl rfl (Nat.le_of_ble_eq_true rfl) (Nat.le_of_ble_eq_true rfl) (Nat.le_of_ble_eq_true rfl) (Nat.le_of_ble_eq_true rfl) (jk_r ?_)
          have hq2 := ctm_le ha hct
          have hB2 := Bst_snoc (m := mi) hB (ctm_tok hh hct) (by rw [hq2.2]; exact hm)
          generalize hb2 : adT 6 β1 s0 ps.length q.1.2.1 (q.1.2.2.getD 1) mi = β2 at hB2 ⊢
          have hg2 : β2 4 = β 4 := hB2.1 4 (by omega)
          refine j_if_ne (tgt := 23) C d_RR_readSum_18 (by decide) (fun c18 => ?_) (fun c18 => ?_)
          · refine j_iload C d_RR_readSum_23 rfl ?_
            refine j_iconst (v := 4) C d_RR_readSum_25 (by decide) ?_
            refine j_icmp_ge (tgt := 51) C d_RR_readSum_26 (by decide) (fun c26 => ?_) (fun c26 => ?_)
            · refine j_iinc (v := nI ((ps ++ [q.1]).length + 1)) C d_RR_readSum_51 rfl (by rw [len_snoc]; exact nI_inc _) (by decide) rfl ?_
              refine j_goto (tgt := 5) C d_RR_readSum_54 (by decide) ?_
              refine j_iload C d_RR_readSum_5 rfl ?_
              refine j_iconst (v := 4) C d_RR_readSum_7 (by decide) ?_
              refine j_icmp_gt (tgt := 57) C d_RR_readSum_8 (by decide) (fun c8 => ?_) (fun c8 => ?_)
              · refine j_iconst (v := 1) C d_RR_readSum_57 (by decide) ?_
                have er : csum (β 4) t 4 1 a0 = some (ps ++ [q.1], q.2) := by
                  rw [← hv, csum_s hct, if_pos rfl]
                  rfl
                rw [er] at hR
                cases hR
              · exact absurd (show nI 4 < nI ((ps ++ [q.1]).length + 1) from nI_lt (by rw [len_snoc]; omega) (by rw [len_snoc]; omega)) c8
            · exact absurd (show nI 4 ≤ nI (ps.length + 1) from nI_le (by omega) (by omega)) c26
          · exact absurd c18 (by decide)
    | succ n9 ih =>
      intro how a β1 ps mi hi hh hm hB ha hv
      refine j_iload C d_RR_readSum_5 rfl ?_
      refine j_iconst (v := 4) C d_RR_readSum_7 (by decide) ?_
      refine j_icmp_gt (tgt := 57) C d_RR_readSum_8 (by decide) (fun c8 => ?_) (fun c8 => ?_)
      · exact absurd (show nI 4 < nI (ps.length + 1) from c8) (fun z => absurd (nI_le (a := ps.length + 1) (b := 4) (by omega) (by omega)) (Int32.not_le.mpr z))
      · refine j_aload_n C d_RR_readSum_11 rfl rfl ?_
        refine j_aload_n C d_RR_readSum_12 rfl rfl ?_
        refine j_iload_n C d_RR_readSum_13 rfl rfl ?_
        refine j_iload_n C d_RR_readSum_14 rfl rfl ?_
        cases hct : ctm (β 4) t how a with
        | none =>
          refine j_callV C d_RR_readSum_15 ml_RR_55 mc_RR_readTerm in_RR_readTerm rfl se_RR_readTerm (by omega) (ovX_c (o := 5) rfl) (c_RR_readTermG_6_n hl h hn (β 4) (hB.1 4 (by omega)) t a h4 ht ha how s0 ps.length hs hB.2.2.2.1 (by omega) mi hct) rfl rfl (Nat.le_of_ble_eq_true rfl) (Nat.le_of_ble_eq_true rfl) (Nat.le_of_ble_eq_true rfl) (Nat.le_of_ble_eq_true rfl) (jk_r ?_)
          refine j_if_ne (tgt := 23) C d_RR_readSum_18 (by decide) (fun c18 => ?_) (fun c18 => ?_)
          · exact absurd rfl c18
          · refine j_iconst (v := 0) C d_RR_readSum_21 (by decide) ?_
            have er : csum (β 4) t 4 1 a0 = none := by
              rw [← hv, csum_n hct]
              rfl
            rw [er] at hR
            exact j_zreturn C d_RR_readSum_22 rfl (by decide) (by decide) (by decide) ⟨rfl, rfl, _, β1, ctp_le ha hct, rfl, hB.1⟩
        | some q =>
          refine j_callV C d_RR_readSum_15 ml_RR_55 mc_RR_readTerm in_RR_readTerm rfl se_RR_readTerm (by omega) (ovX_c (o := 5) rfl) (c_RR_readTermG_6_s hl h hn (β 4) (hB.1 4 (by omega)) t a h4 ht ha how s0 ps.length hs hB.2.2.2.1 (by omega) mi q.1 q.2 hct) rfl rfl (Nat.le_of_ble_eq_true rfl) (Nat.le_of_ble_eq_true rfl) (Nat.le_of_ble_eq_true rfl) (Nat.le_of_ble_eq_true rfl) (jk_r ?_)
          have hq2 := ctm_le ha hct
          have hB2 := Bst_snoc (m := mi) hB (ctm_tok hh hct) (by rw [hq2.2]; exact hm)
          generalize hb2 : adT 6 β1 s0 ps.length q.1.2.1 (q.1.2.2.getD 1) mi = β2 at hB2 ⊢
          have hg2 : β2 4 = β 4 := hB2.1 4 (by omega)
          refine j_if_ne (tgt := 23) C d_RR_readSum_18 (by decide) (fun c18 => ?_) (fun c18 => ?_)
          · refine j_iload C d_RR_readSum_23 rfl ?_
            refine j_iconst (v := 4) C d_RR_readSum_25 (by decide) ?_
            refine j_icmp_ge (tgt := 51) C d_RR_readSum_26 (by decide) (fun c26 => ?_) (fun c26 => ?_)
            · exact absurd (show nI 4 ≤ nI (ps.length + 1) from c26) (nI_ge (by omega) (by omega))
            · refine j_aload_n C d_RR_readSum_29 rfl rfl ?_
              refine j_bipush (v := 45) C d_RR_readSum_30 (by decide) ?_
              refine j_callV C d_RR_readSum_32 ml_RR_47 mc_RR_passes in_RR_passes rfl se_RR_passes (by omega) (ovX_c (o := 5) rfl) (c_RR_passesG hl h hn (β 4) hg2 t q.2 h4 ht hq2.1 45 (by decide)) rfl rfl (Nat.le_of_ble_eq_true rfl) (Nat.le_of_ble_eq_true rfl) (Nat.le_of_ble_eq_true rfl) (Nat.le_of_ble_eq_true rfl) (jk_r ?_)
              refine j_istore_n C d_RR_readSum_35 rfl (by decide) rfl ?_
              refine j_iload_n C d_RR_readSum_36 rfl rfl ?_
              refine j_if_ne (tgt := 51) C d_RR_readSum_37 (by decide) (fun c37 => ?_) (fun c37 => ?_)
              · rw [pz_1 c37, pp_y (pz_y c37)]
                refine j_iinc (v := nI ((ps ++ [q.1]).length + 1)) C d_RR_readSum_51 rfl (by rw [len_snoc]; exact nI_inc _) (by decide) rfl ?_
                refine j_goto (tgt := 5) C d_RR_readSum_54 (by decide) ?_
                exact j_pick [0, 1, 2, 3, 4] rfl (ih 2 (skp (β 4) t q.2 + 1) β2 (ps ++ [q.1]) 1 (by rw [len_snoc]; omega) (Or.inr rfl) rfl hB2 (hr_lt2 (pz_y c37) (by decide)) (by rw [← hv, csum_s hct, if_neg (by omega), if_pos (pz_y c37), Option.map_map]; congr 1; funext z; simp))
              · have hm45 := pz_n c37
                rw [c37, pp_n hm45]
                refine j_aload_n C d_RR_readSum_40 rfl rfl ?_
                refine j_bipush (v := 43) C d_RR_readSum_41 (by decide) ?_
                refine j_callV C d_RR_readSum_43 ml_RR_47 mc_RR_passes in_RR_passes rfl se_RR_passes (by omega) (ovX_c (o := 5) rfl) (c_RR_passesG hl h hn (β 4) hg2 t (skp (β 4) t q.2) h4 ht (skp_le _ hq2.1) 43 (by decide)) rfl rfl (Nat.le_of_ble_eq_true rfl) (Nat.le_of_ble_eq_true rfl) (Nat.le_of_ble_eq_true rfl) (Nat.le_of_ble_eq_true rfl) (jk_r ?_)
                refine j_if_ne (tgt := 51) C d_RR_readSum_46 (by decide) (fun c46 => ?_) (fun c46 => ?_)
                · rw [pp_y (pz_y c46)]
                  refine j_iinc (v := nI ((ps ++ [q.1]).length + 1)) C d_RR_readSum_51 rfl (by rw [len_snoc]; exact nI_inc _) (by decide) rfl ?_
                  refine j_goto (tgt := 5) C d_RR_readSum_54 (by decide) ?_
                  exact j_pick [0, 1, 2, 3, 4] rfl (ih 1 (skp (β 4) t (skp (β 4) t q.2) + 1) β2 (ps ++ [q.1]) 0 (by rw [len_snoc]; omega) (Or.inl rfl) rfl hB2 (hr_lt2 (pz_y c46) (by decide)) (by rw [← hv, csum_s hct, if_neg (by omega), if_neg hm45, if_pos (pz_y c46), Option.map_map]; congr 1; funext z; simp))
                · refine j_iconst (v := 1) C d_RR_readSum_49 (by decide) ?_
                  rw [pp_n (pz_n c46)]
                  have er : csum (β 4) t 4 1 a0 = some (ps ++ [q.1], skp (β 4) t (skp (β 4) t q.2)) := by
                    rw [← hv, csum_s hct, if_neg (by omega), if_neg hm45, if_neg (pz_n c46)]
                    rfl
                  rw [er] at hR
                  cases hR
          · exact absurd c18 (by decide)
  refine j_iconst (v := 0) C d_RR_readSum_0 (by decide) ?_
  refine j_istore_n C d_RR_readSum_1 rfl (by decide) rfl ?_
  refine j_iconst (v := 1) C d_RR_readSum_2 (by decide) ?_
  refine j_istore C d_RR_readSum_3 (by decide) rfl ?_
  exact j_pick [0, 1, 2, 3, 4] rfl (loop 3 1 a0 β [] 0 rfl (Or.inl rfl) rfl (Bst_nil hc) ha0 (by simp))

theorem c_RR_readTermG_13_s {l : Launch} (hl : l.stackTraces = false) {D : va_G} {cA : Nat → ClassId} {b n : Nat} {xo : Nat} {ξ : Nat → Int32} {β : Nat → Nat → Int32} {ρ : Nat → Option Nat} {u v : Nat} (h : AH) (hn : xo + 28 ≤ n) (g : Nat → Int32) (hg : β 4 = g) (t a0 : Nat) (h4 : ξ 4 = nI t) (ht : t ≤ 300) (ha0 : a0 ≤ t) (how : Int32) (s0 c0 : Nat) (hs : s0 < 40) (hc : β 16 s0 = nI c0) (hc4 : c0 < 4) (m0 : Int32) (tm : Int32 × Int32 × Option Int32) (P : Nat) (hS : ctm g t how a0 = some (tm, P)) : Cn l D cA b y_RR_readTerm k_RR_readTerm 3 48 0 0 [.ref (xo + 5), .ref (xo + 13), .int (nI s0), .int m0] n (ovX xo (xq ξ a0) β ρ u v h) (Re (some (.int 1)) n (ovX xo (xq ξ P) (adT 13 β s0 c0 tm.2.1 (tm.2.2.getD 1) m0) ρ u v h)) := by
  subst hg
  exact c_RR_readTerm_13_s hl h hn t a0 h4 ht ha0 how s0 c0 hs hc hc4 m0 tm P hS
theorem c_RR_readTermG_13_n {l : Launch} (hl : l.stackTraces = false) {D : va_G} {cA : Nat → ClassId} {b n : Nat} {xo : Nat} {ξ : Nat → Int32} {β : Nat → Nat → Int32} {ρ : Nat → Option Nat} {u v : Nat} (h : AH) (hn : xo + 28 ≤ n) (g : Nat → Int32) (hg : β 4 = g) (t a0 : Nat) (h4 : ξ 4 = nI t) (ht : t ≤ 300) (ha0 : a0 ≤ t) (how : Int32) (s0 c0 : Nat) (hs : s0 < 40) (hc : β 16 s0 = nI c0) (hc4 : c0 < 4) (m0 : Int32) (hS : ctm g t how a0 = none) : Cn l D cA b y_RR_readTerm k_RR_readTerm 3 48 0 0 [.ref (xo + 5), .ref (xo + 13), .int (nI s0), .int m0] n (ovX xo (xq ξ a0) β ρ u v h) (Re (some (.int 0)) n (ovX xo (xq ξ (ctp g t a0)) β ρ u v h)) := by
  subst hg
  exact c_RR_readTerm_13_n hl h hn t a0 h4 ht ha0 how s0 c0 hs hc hc4 m0 hS
set_option maxHeartbeats 4000000 in
set_option maxRecDepth 100000 in
theorem c_RR_readSum_13_s {l : Launch} (hl : l.stackTraces = false) {D : va_G} {cA : Nat → ClassId} {b n : Nat} {xo : Nat} {ξ : Nat → Int32} {β : Nat → Nat → Int32} {ρ : Nat → Option Nat} {u v : Nat} (h : AH) (hn : xo + 28 ≤ n) (t a0 : Nat) (h4 : ξ 4 = nI t) (ht : t ≤ 300) (ha0 : a0 ≤ t) (s0 : Nat) (hs : s0 < 40) (hc : β 16 s0 = nI 0) (q0 : List Tm × Nat) (hR : csum (β 4) t 4 1 a0 = some q0) : Cn l D cA b y_RR_readSum k_RR_readSum 4 65 0 0 [.ref (xo + 5), .ref (xo + 13), .int (nI s0)] n (ovX xo (xq ξ a0) β ρ u v h) (Rp (some (.int 1)) n (fun h' => ∃ β' : Nat → Nat → Int32, h' = ovX xo (xq ξ q0.2) β' ρ u v h ∧ Bst 13 β s0 β' q0.1)) := by
  refine Cn.of (cc := b_RR_readSum) (maxL := 5) (ret := (some .boolean)) (hh := []) (by decide +kernel) hl (Or.inl ⟨rfl, rfl⟩) (Nat.le_of_ble_eq_true rfl) ?_
  intro p e s m args below meth c C
  have loop : ∀ (n9 : Nat) (how : Int32) (a : Nat) (β1 : Nat → Nat → Int32) (ps : List Tm) (mi : Int32), ps.length + n9 = 3 → (how = 1 ∨ how = 2) → mi = (if how = 2 then 1 else 0) → Bst 13 β s0 β1 ps → a ≤ t → (csum (β 4) t (n9 + 1) how a).map (fun q => (ps ++ q.1, q.2)) = csum (β 4) t 4 1 a0 → J p l e { frames := 4, cells := 0, slots := 0, locals := 65 } s m args below meth c D cA b 5 (EndQ D cA b s below (Rp (some (.int 1)) n (fun h' => ∃ β' : Nat → Nat → Int32, h' = ovX xo (xq ξ q0.2) β' ρ u v h ∧ Bst 13 β s0 β' q0.1)) 0 0) n (ovX xo (xq ξ a) β1 ρ u v h) 0 0 5 [(4, .int (nI (ps.length + 1))), (3, .int mi), (0, .ref (xo + 5)), (1, .ref (xo + 13)), (2, .int (nI s0))] [] := by
    intro n9
    induction n9 with
    | zero =>
      intro how a β1 ps mi hi hh hm hB ha hv
      refine j_iload C d_RR_readSum_5 rfl ?_
      refine j_iconst (v := 4) C d_RR_readSum_7 (by decide) ?_
      refine j_icmp_gt (tgt := 57) C d_RR_readSum_8 (by decide) (fun c8 => ?_) (fun c8 => ?_)
      · exact absurd (show nI 4 < nI (ps.length + 1) from c8) (fun z => absurd (nI_le (a := ps.length + 1) (b := 4) (by omega) (by omega)) (Int32.not_le.mpr z))
      · refine j_aload_n C d_RR_readSum_11 rfl rfl ?_
        refine j_aload_n C d_RR_readSum_12 rfl rfl ?_
        refine j_iload_n C d_RR_readSum_13 rfl rfl ?_
        refine j_iload_n C d_RR_readSum_14 rfl rfl ?_
        cases hct : ctm (β 4) t how a with
        | none =>
          refine j_callV C d_RR_readSum_15 ml_RR_55 mc_RR_readTerm in_RR_readTerm rfl se_RR_readTerm (by omega) (ovX_c (o := 5) rfl) (c_RR_readTermG_13_n hl h hn (β 4) (hB.1 4 (by omega)) t a h4 ht ha how s0 ps.length hs hB.2.2.2.1 (by omega) mi hct) rfl rfl (Nat.le_of_ble_eq_true rfl) (Nat.le_of_ble_eq_true rfl) (Nat.le_of_ble_eq_true rfl) (Nat.le_of_ble_eq_true rfl) (jk_r ?_)
          refine j_if_ne (tgt := 23) C d_RR_readSum_18 (by decide) (fun c18 => ?_) (fun c18 => ?_)
          · exact absurd rfl c18
          · refine j_iconst (v := 0) C d_RR_readSum_21 (by decide) ?_
            have er : csum (β 4) t 4 1 a0 = none := by
              rw [← hv, csum_n hct]
              rfl
            rw [er] at hR
            cases hR
        | some q =>
          refine j_callV C d_RR_readSum_15 ml_RR_55 mc_RR_readTerm in_RR_readTerm rfl se_RR_readTerm (by omega) (ovX_c (o := 5) rfl) (c_RR_readTermG_13_s hl h hn (β 4) (hB.1 4 (by omega)) t a h4 ht ha how s0 ps.length hs hB.2.2.2.1 (by omega) mi q.1 q.2 hct) rfl rfl (Nat.le_of_ble_eq_true rfl) (Nat.le_of_ble_eq_true rfl) (Nat.le_of_ble_eq_true rfl) (Nat.le_of_ble_eq_true rfl) (jk_r ?_)
          have hq2 := ctm_le ha hct
          have hB2 := Bst_snoc (m := mi) hB (ctm_tok hh hct) (by rw [hq2.2]; exact hm)
          generalize hb2 : adT 13 β1 s0 ps.length q.1.2.1 (q.1.2.2.getD 1) mi = β2 at hB2 ⊢
          have hg2 : β2 4 = β 4 := hB2.1 4 (by omega)
          refine j_if_ne (tgt := 23) C d_RR_readSum_18 (by decide) (fun c18 => ?_) (fun c18 => ?_)
          · refine j_iload C d_RR_readSum_23 rfl ?_
            refine j_iconst (v := 4) C d_RR_readSum_25 (by decide) ?_
            refine j_icmp_ge (tgt := 51) C d_RR_readSum_26 (by decide) (fun c26 => ?_) (fun c26 => ?_)
            · refine j_iinc (v := nI ((ps ++ [q.1]).length + 1)) C d_RR_readSum_51 rfl (by rw [len_snoc]; exact nI_inc _) (by decide) rfl ?_
              refine j_goto (tgt := 5) C d_RR_readSum_54 (by decide) ?_
              refine j_iload C d_RR_readSum_5 rfl ?_
              refine j_iconst (v := 4) C d_RR_readSum_7 (by decide) ?_
              refine j_icmp_gt (tgt := 57) C d_RR_readSum_8 (by decide) (fun c8 => ?_) (fun c8 => ?_)
              · refine j_iconst (v := 1) C d_RR_readSum_57 (by decide) ?_
                have er : csum (β 4) t 4 1 a0 = some (ps ++ [q.1], q.2) := by
                  rw [← hv, csum_s hct, if_pos rfl]
                  rfl
                rw [er] at hR
                cases hR
                exact j_zreturn C d_RR_readSum_58 rfl (by decide) (by decide) (by decide) ⟨rfl, rfl, β2, rfl, hB2⟩
              · exact absurd (show nI 4 < nI ((ps ++ [q.1]).length + 1) from nI_lt (by rw [len_snoc]; omega) (by rw [len_snoc]; omega)) c8
            · exact absurd (show nI 4 ≤ nI (ps.length + 1) from nI_le (by omega) (by omega)) c26
          · exact absurd c18 (by decide)
    | succ n9 ih =>
      intro how a β1 ps mi hi hh hm hB ha hv
      refine j_iload C d_RR_readSum_5 rfl ?_
      refine j_iconst (v := 4) C d_RR_readSum_7 (by decide) ?_
      refine j_icmp_gt (tgt := 57) C d_RR_readSum_8 (by decide) (fun c8 => ?_) (fun c8 => ?_)
      · exact absurd (show nI 4 < nI (ps.length + 1) from c8) (fun z => absurd (nI_le (a := ps.length + 1) (b := 4) (by omega) (by omega)) (Int32.not_le.mpr z))
      · refine j_aload_n C d_RR_readSum_11 rfl rfl ?_
        refine j_aload_n C d_RR_readSum_12 rfl rfl ?_
        refine j_iload_n C d_RR_readSum_13 rfl rfl ?_
        refine j_iload_n C d_RR_readSum_14 rfl rfl ?_
        cases hct : ctm (β 4) t how a with
        | none =>
          refine j_callV C d_RR_readSum_15 ml_RR_55 mc_RR_readTerm in_RR_readTerm rfl se_RR_readTerm (by omega) (ovX_c (o := 5) rfl) (c_RR_readTermG_13_n hl h hn (β 4) (hB.1 4 (by omega)) t a h4 ht ha how s0 ps.length hs hB.2.2.2.1 (by omega) mi hct) rfl rfl (Nat.le_of_ble_eq_true rfl) (Nat.le_of_ble_eq_true rfl) (Nat.le_of_ble_eq_true rfl) (Nat.le_of_ble_eq_true rfl) (jk_r ?_)
          refine j_if_ne (tgt := 23) C d_RR_readSum_18 (by decide) (fun c18 => ?_) (fun c18 => ?_)
          · exact absurd rfl c18
          · refine j_iconst (v := 0) C d_RR_readSum_21 (by decide) ?_
            have er : csum (β 4) t 4 1 a0 = none := by
              rw [← hv, csum_n hct]
              rfl
            rw [er] at hR
            cases hR
        | some q =>
          refine j_callV C d_RR_readSum_15 ml_RR_55 mc_RR_readTerm in_RR_readTerm rfl se_RR_readTerm (by omega) (ovX_c (o := 5) rfl) (c_RR_readTermG_13_s hl h hn (β 4) (hB.1 4 (by omega)) t a h4 ht ha how s0 ps.length hs hB.2.2.2.1 (by omega) mi q.1 q.2 hct) rfl rfl (Nat.le_of_ble_eq_true rfl) (Nat.le_of_ble_eq_true rfl) (Nat.le_of_ble_eq_true rfl) (Nat.le_of_ble_eq_true rfl) (jk_r ?_)
          have hq2 := ctm_le ha hct
          have hB2 := Bst_snoc (m := mi) hB (ctm_tok hh hct) (by rw [hq2.2]; exact hm)
          generalize hb2 : adT 13 β1 s0 ps.length q.1.2.1 (q.1.2.2.getD 1) mi = β2 at hB2 ⊢
          have hg2 : β2 4 = β 4 := hB2.1 4 (by omega)
          refine j_if_ne (tgt := 23) C d_RR_readSum_18 (by decide) (fun c18 => ?_) (fun c18 => ?_)
          · refine j_iload C d_RR_readSum_23 rfl ?_
            refine j_iconst (v := 4) C d_RR_readSum_25 (by decide) ?_
            refine j_icmp_ge (tgt := 51) C d_RR_readSum_26 (by decide) (fun c26 => ?_) (fun c26 => ?_)
            · exact absurd (show nI 4 ≤ nI (ps.length + 1) from c26) (nI_ge (by omega) (by omega))
            · refine j_aload_n C d_RR_readSum_29 rfl rfl ?_
              refine j_bipush (v := 45) C d_RR_readSum_30 (by decide) ?_
              refine j_callV C d_RR_readSum_32 ml_RR_47 mc_RR_passes in_RR_passes rfl se_RR_passes (by omega) (ovX_c (o := 5) rfl) (c_RR_passesG hl h hn (β 4) hg2 t q.2 h4 ht hq2.1 45 (by decide)) rfl rfl (Nat.le_of_ble_eq_true rfl) (Nat.le_of_ble_eq_true rfl) (Nat.le_of_ble_eq_true rfl) (Nat.le_of_ble_eq_true rfl) (jk_r ?_)
              refine j_istore_n C d_RR_readSum_35 rfl (by decide) rfl ?_
              refine j_iload_n C d_RR_readSum_36 rfl rfl ?_
              refine j_if_ne (tgt := 51) C d_RR_readSum_37 (by decide) (fun c37 => ?_) (fun c37 => ?_)
              · rw [pz_1 c37, pp_y (pz_y c37)]
                refine j_iinc (v := nI ((ps ++ [q.1]).length + 1)) C d_RR_readSum_51 rfl (by rw [len_snoc]; exact nI_inc _) (by decide) rfl ?_
                refine j_goto (tgt := 5) C d_RR_readSum_54 (by decide) ?_
                exact j_pick [0, 1, 2, 3, 4] rfl (ih 2 (skp (β 4) t q.2 + 1) β2 (ps ++ [q.1]) 1 (by rw [len_snoc]; omega) (Or.inr rfl) rfl hB2 (hr_lt2 (pz_y c37) (by decide)) (by rw [← hv, csum_s hct, if_neg (by omega), if_pos (pz_y c37), Option.map_map]; congr 1; funext z; simp))
              · have hm45 := pz_n c37
                rw [c37, pp_n hm45]
                refine j_aload_n C d_RR_readSum_40 rfl rfl ?_
                refine j_bipush (v := 43) C d_RR_readSum_41 (by decide) ?_
                refine j_callV C d_RR_readSum_43 ml_RR_47 mc_RR_passes in_RR_passes rfl se_RR_passes (by omega) (ovX_c (o := 5) rfl) (c_RR_passesG hl h hn (β 4) hg2 t (skp (β 4) t q.2) h4 ht (skp_le _ hq2.1) 43 (by decide)) rfl rfl (Nat.le_of_ble_eq_true rfl) (Nat.le_of_ble_eq_true rfl) (Nat.le_of_ble_eq_true rfl) (Nat.le_of_ble_eq_true rfl) (jk_r ?_)
                refine j_if_ne (tgt := 51) C d_RR_readSum_46 (by decide) (fun c46 => ?_) (fun c46 => ?_)
                · rw [pp_y (pz_y c46)]
                  refine j_iinc (v := nI ((ps ++ [q.1]).length + 1)) C d_RR_readSum_51 rfl (by rw [len_snoc]; exact nI_inc _) (by decide) rfl ?_
                  refine j_goto (tgt := 5) C d_RR_readSum_54 (by decide) ?_
                  exact j_pick [0, 1, 2, 3, 4] rfl (ih 1 (skp (β 4) t (skp (β 4) t q.2) + 1) β2 (ps ++ [q.1]) 0 (by rw [len_snoc]; omega) (Or.inl rfl) rfl hB2 (hr_lt2 (pz_y c46) (by decide)) (by rw [← hv, csum_s hct, if_neg (by omega), if_neg hm45, if_pos (pz_y c46), Option.map_map]; congr 1; funext z; simp))
                · refine j_iconst (v := 1) C d_RR_readSum_49 (by decide) ?_
                  rw [pp_n (pz_n c46)]
                  have er : csum (β 4) t 4 1 a0 = some (ps ++ [q.1], skp (β 4) t (skp (β 4) t q.2)) := by
                    rw [← hv, csum_s hct, if_neg (by omega), if_neg hm45, if_neg (pz_n c46)]
                    rfl
                  rw [er] at hR
                  cases hR
                  exact j_zreturn C d_RR_readSum_50 rfl (by decide) (by decide) (by decide) ⟨rfl, rfl, β2, rfl, hB2⟩
          · exact absurd c18 (by decide)
  refine j_iconst (v := 0) C d_RR_readSum_0 (by decide) ?_
  refine j_istore_n C d_RR_readSum_1 rfl (by decide) rfl ?_
  refine j_iconst (v := 1) C d_RR_readSum_2 (by decide) ?_
  refine j_istore C d_RR_readSum_3 (by decide) rfl ?_
  exact j_pick [0, 1, 2, 3, 4] rfl (loop 3 1 a0 β [] 0 rfl (Or.inl rfl) rfl (Bst_nil hc) ha0 (by simp))

set_option maxHeartbeats 4000000 in
set_option maxRecDepth 100000 in
theorem c_RR_readSum_13_n {l : Launch} (hl : l.stackTraces = false) {D : va_G} {cA : Nat → ClassId} {b n : Nat} {xo : Nat} {ξ : Nat → Int32} {β : Nat → Nat → Int32} {ρ : Nat → Option Nat} {u v : Nat} (h : AH) (hn : xo + 28 ≤ n) (t a0 : Nat) (h4 : ξ 4 = nI t) (ht : t ≤ 300) (ha0 : a0 ≤ t) (s0 : Nat) (hs : s0 < 40) (hc : β 16 s0 = nI 0) (hR : csum (β 4) t 4 1 a0 = none) : Cn l D cA b y_RR_readSum k_RR_readSum 4 65 0 0 [.ref (xo + 5), .ref (xo + 13), .int (nI s0)] n (ovX xo (xq ξ a0) β ρ u v h) (Rp (some (.int 0)) n (fun h' => ∃ (a' : Nat) (β' : Nat → Nat → Int32), a' ≤ t ∧ h' = ovX xo (xq ξ a') β' ρ u v h ∧ Ab 13 β' β)) := by
  refine Cn.of (cc := b_RR_readSum) (maxL := 5) (ret := (some .boolean)) (hh := []) (by decide +kernel) hl (Or.inl ⟨rfl, rfl⟩) (Nat.le_of_ble_eq_true rfl) ?_
  intro p e s m args below meth c C
  have loop : ∀ (n9 : Nat) (how : Int32) (a : Nat) (β1 : Nat → Nat → Int32) (ps : List Tm) (mi : Int32), ps.length + n9 = 3 → (how = 1 ∨ how = 2) → mi = (if how = 2 then 1 else 0) → Bst 13 β s0 β1 ps → a ≤ t → (csum (β 4) t (n9 + 1) how a).map (fun q => (ps ++ q.1, q.2)) = csum (β 4) t 4 1 a0 → J p l e { frames := 4, cells := 0, slots := 0, locals := 65 } s m args below meth c D cA b 5 (EndQ D cA b s below (Rp (some (.int 0)) n (fun h' => ∃ (a' : Nat) (β' : Nat → Nat → Int32), a' ≤ t ∧ h' = ovX xo (xq ξ a') β' ρ u v h ∧ Ab 13 β' β)) 0 0) n (ovX xo (xq ξ a) β1 ρ u v h) 0 0 5 [(4, .int (nI (ps.length + 1))), (3, .int mi), (0, .ref (xo + 5)), (1, .ref (xo + 13)), (2, .int (nI s0))] [] := by
    intro n9
    induction n9 with
    | zero =>
      intro how a β1 ps mi hi hh hm hB ha hv
      refine j_iload C d_RR_readSum_5 rfl ?_
      refine j_iconst (v := 4) C d_RR_readSum_7 (by decide) ?_
      refine j_icmp_gt (tgt := 57) C d_RR_readSum_8 (by decide) (fun c8 => ?_) (fun c8 => ?_)
      · exact absurd (show nI 4 < nI (ps.length + 1) from c8) (fun z => absurd (nI_le (a := ps.length + 1) (b := 4) (by omega) (by omega)) (Int32.not_le.mpr z))
      · refine j_aload_n C d_RR_readSum_11 rfl rfl ?_
        refine j_aload_n C d_RR_readSum_12 rfl rfl ?_
        refine j_iload_n C d_RR_readSum_13 rfl rfl ?_
        refine j_iload_n C d_RR_readSum_14 rfl rfl ?_
        cases hct : ctm (β 4) t how a with
        | none =>
          refine j_callV C d_RR_readSum_15 ml_RR_55 mc_RR_readTerm in_RR_readTerm rfl se_RR_readTerm (by omega) (ovX_c (o := 5) rfl) (c_RR_readTermG_13_n hl h hn (β 4) (hB.1 4 (by omega)) t a h4 ht ha how s0 ps.length hs hB.2.2.2.1 (by omega) mi hct) rfl rfl (Nat.le_of_ble_eq_true rfl) (Nat.le_of_ble_eq_true rfl) (Nat.le_of_ble_eq_true rfl) (Nat.le_of_ble_eq_true rfl) (jk_r ?_)
          refine j_if_ne (tgt := 23) C d_RR_readSum_18 (by decide) (fun c18 => ?_) (fun c18 => ?_)
          · exact absurd rfl c18
          · refine j_iconst (v := 0) C d_RR_readSum_21 (by decide) ?_
            have er : csum (β 4) t 4 1 a0 = none := by
              rw [← hv, csum_n hct]
              rfl
            rw [er] at hR
            exact j_zreturn C d_RR_readSum_22 rfl (by decide) (by decide) (by decide) ⟨rfl, rfl, _, β1, ctp_le ha hct, rfl, hB.1⟩
        | some q =>
          refine j_callV C d_RR_readSum_15 ml_RR_55 mc_RR_readTerm in_RR_readTerm rfl se_RR_readTerm (by omega) (ovX_c (o := 5) rfl) (c_RR_readTermG_13_s hl h hn (β 4) (hB.1 4 (by omega)) t a h4 ht ha how s0 ps.length hs hB.2.2.2.1 (by omega) mi q.1 q.2 hct) rfl rfl (Nat.le_of_ble_eq_true rfl) (Nat.le_of_ble_eq_true rfl) (Nat.le_of_ble_eq_true rfl) (Nat.le_of_ble_eq_true rfl) (jk_r ?_)
          have hq2 := ctm_le ha hct
          have hB2 := Bst_snoc (m := mi) hB (ctm_tok hh hct) (by rw [hq2.2]; exact hm)
          generalize hb2 : adT 13 β1 s0 ps.length q.1.2.1 (q.1.2.2.getD 1) mi = β2 at hB2 ⊢
          have hg2 : β2 4 = β 4 := hB2.1 4 (by omega)
          refine j_if_ne (tgt := 23) C d_RR_readSum_18 (by decide) (fun c18 => ?_) (fun c18 => ?_)
          · refine j_iload C d_RR_readSum_23 rfl ?_
            refine j_iconst (v := 4) C d_RR_readSum_25 (by decide) ?_
            refine j_icmp_ge (tgt := 51) C d_RR_readSum_26 (by decide) (fun c26 => ?_) (fun c26 => ?_)
            · refine j_iinc (v := nI ((ps ++ [q.1]).length + 1)) C d_RR_readSum_51 rfl (by rw [len_snoc]; exact nI_inc _) (by decide) rfl ?_
              refine j_goto (tgt := 5) C d_RR_readSum_54 (by decide) ?_
              refine j_iload C d_RR_readSum_5 rfl ?_
              refine j_iconst (v := 4) C d_RR_readSum_7 (by decide) ?_
              refine j_icmp_gt (tgt := 57) C d_RR_readSum_8 (by decide) (fun c8 => ?_) (fun c8 => ?_)
              · refine j_iconst (v := 1) C d_RR_readSum_57 (by decide) ?_
                have er : csum (β 4) t 4 1 a0 = some (ps ++ [q.1], q.2) := by
                  rw [← hv, csum_s hct, if_pos rfl]
                  rfl
                rw [er] at hR
                cases hR
              · exact absurd (show nI 4 < nI ((ps ++ [q.1]).length + 1) from nI_lt (by rw [len_snoc]; omega) (by rw [len_snoc]; omega)) c8
            · exact absurd (show nI 4 ≤ nI (ps.length + 1) from nI_le (by omega) (by omega)) c26
          · exact absurd c18 (by decide)
    | succ n9 ih =>
      intro how a β1 ps mi hi hh hm hB ha hv
      refine j_iload C d_RR_readSum_5 rfl ?_
      refine j_iconst (v := 4) C d_RR_readSum_7 (by decide) ?_
      refine j_icmp_gt (tgt := 57) C d_RR_readSum_8 (by decide) (fun c8 => ?_) (fun c8 => ?_)
      · exact absurd (show nI 4 < nI (ps.length + 1) from c8) (fun z => absurd (nI_le (a := ps.length + 1) (b := 4) (by omega) (by omega)) (Int32.not_le.mpr z))
      · refine j_aload_n C d_RR_readSum_11 rfl rfl ?_
        refine j_aload_n C d_RR_readSum_12 rfl rfl ?_
        refine j_iload_n C d_RR_readSum_13 rfl rfl ?_
        refine j_iload_n C d_RR_readSum_14 rfl rfl ?_
        cases hct : ctm (β 4) t how a with
        | none =>
          refine j_callV C d_RR_readSum_15 ml_RR_55 mc_RR_readTerm in_RR_readTerm rfl se_RR_readTerm (by omega) (ovX_c (o := 5) rfl) (c_RR_readTermG_13_n hl h hn (β 4) (hB.1 4 (by omega)) t a h4 ht ha how s0 ps.length hs hB.2.2.2.1 (by omega) mi hct) rfl rfl (Nat.le_of_ble_eq_true rfl) (Nat.le_of_ble_eq_true rfl) (Nat.le_of_ble_eq_true rfl) (Nat.le_of_ble_eq_true rfl) (jk_r ?_)
          refine j_if_ne (tgt := 23) C d_RR_readSum_18 (by decide) (fun c18 => ?_) (fun c18 => ?_)
          · exact absurd rfl c18
          · refine j_iconst (v := 0) C d_RR_readSum_21 (by decide) ?_
            have er : csum (β 4) t 4 1 a0 = none := by
              rw [← hv, csum_n hct]
              rfl
            rw [er] at hR
            exact j_zreturn C d_RR_readSum_22 rfl (by decide) (by decide) (by decide) ⟨rfl, rfl, _, β1, ctp_le ha hct, rfl, hB.1⟩
        | some q =>
          refine j_callV C d_RR_readSum_15 ml_RR_55 mc_RR_readTerm in_RR_readTerm rfl se_RR_readTerm (by omega) (ovX_c (o := 5) rfl) (c_RR_readTermG_13_s hl h hn (β 4) (hB.1 4 (by omega)) t a h4 ht ha how s0 ps.length hs hB.2.2.2.1 (by omega) mi q.1 q.2 hct) rfl rfl (Nat.le_of_ble_eq_true rfl) (Nat.le_of_ble_eq_true rfl) (Nat.le_of_ble_eq_true rfl) (Nat.le_of_ble_eq_true rfl) (jk_r ?_)
          have hq2 := ctm_le ha hct
          have hB2 := Bst_snoc (m := mi) hB (ctm_tok hh hct) (by rw [hq2.2]; exact hm)
          generalize hb2 : adT 13 β1 s0 ps.length q.1.2.1 (q.1.2.2.getD 1) mi = β2 at hB2 ⊢
          have hg2 : β2 4 = β 4 := hB2.1 4 (by omega)
          refine j_if_ne (tgt := 23) C d_RR_readSum_18 (by decide) (fun c18 => ?_) (fun c18 => ?_)
          · refine j_iload C d_RR_readSum_23 rfl ?_
            refine j_iconst (v := 4) C d_RR_readSum_25 (by decide) ?_
            refine j_icmp_ge (tgt := 51) C d_RR_readSum_26 (by decide) (fun c26 => ?_) (fun c26 => ?_)
            · exact absurd (show nI 4 ≤ nI (ps.length + 1) from c26) (nI_ge (by omega) (by omega))
            · refine j_aload_n C d_RR_readSum_29 rfl rfl ?_
              refine j_bipush (v := 45) C d_RR_readSum_30 (by decide) ?_
              refine j_callV C d_RR_readSum_32 ml_RR_47 mc_RR_passes in_RR_passes rfl se_RR_passes (by omega) (ovX_c (o := 5) rfl) (c_RR_passesG hl h hn (β 4) hg2 t q.2 h4 ht hq2.1 45 (by decide)) rfl rfl (Nat.le_of_ble_eq_true rfl) (Nat.le_of_ble_eq_true rfl) (Nat.le_of_ble_eq_true rfl) (Nat.le_of_ble_eq_true rfl) (jk_r ?_)
              refine j_istore_n C d_RR_readSum_35 rfl (by decide) rfl ?_
              refine j_iload_n C d_RR_readSum_36 rfl rfl ?_
              refine j_if_ne (tgt := 51) C d_RR_readSum_37 (by decide) (fun c37 => ?_) (fun c37 => ?_)
              · rw [pz_1 c37, pp_y (pz_y c37)]
                refine j_iinc (v := nI ((ps ++ [q.1]).length + 1)) C d_RR_readSum_51 rfl (by rw [len_snoc]; exact nI_inc _) (by decide) rfl ?_
                refine j_goto (tgt := 5) C d_RR_readSum_54 (by decide) ?_
                exact j_pick [0, 1, 2, 3, 4] rfl (ih 2 (skp (β 4) t q.2 + 1) β2 (ps ++ [q.1]) 1 (by rw [len_snoc]; omega) (Or.inr rfl) rfl hB2 (hr_lt2 (pz_y c37) (by decide)) (by rw [← hv, csum_s hct, if_neg (by omega), if_pos (pz_y c37), Option.map_map]; congr 1; funext z; simp))
              · have hm45 := pz_n c37
                rw [c37, pp_n hm45]
                refine j_aload_n C d_RR_readSum_40 rfl rfl ?_
                refine j_bipush (v := 43) C d_RR_readSum_41 (by decide) ?_
                refine j_callV C d_RR_readSum_43 ml_RR_47 mc_RR_passes in_RR_passes rfl se_RR_passes (by omega) (ovX_c (o := 5) rfl) (c_RR_passesG hl h hn (β 4) hg2 t (skp (β 4) t q.2) h4 ht (skp_le _ hq2.1) 43 (by decide)) rfl rfl (Nat.le_of_ble_eq_true rfl) (Nat.le_of_ble_eq_true rfl) (Nat.le_of_ble_eq_true rfl) (Nat.le_of_ble_eq_true rfl) (jk_r ?_)
                refine j_if_ne (tgt := 51) C d_RR_readSum_46 (by decide) (fun c46 => ?_) (fun c46 => ?_)
                · rw [pp_y (pz_y c46)]
                  refine j_iinc (v := nI ((ps ++ [q.1]).length + 1)) C d_RR_readSum_51 rfl (by rw [len_snoc]; exact nI_inc _) (by decide) rfl ?_
                  refine j_goto (tgt := 5) C d_RR_readSum_54 (by decide) ?_
                  exact j_pick [0, 1, 2, 3, 4] rfl (ih 1 (skp (β 4) t (skp (β 4) t q.2) + 1) β2 (ps ++ [q.1]) 0 (by rw [len_snoc]; omega) (Or.inl rfl) rfl hB2 (hr_lt2 (pz_y c46) (by decide)) (by rw [← hv, csum_s hct, if_neg (by omega), if_neg hm45, if_pos (pz_y c46), Option.map_map]; congr 1; funext z; simp))
                · refine j_iconst (v := 1) C d_RR_readSum_49 (by decide) ?_
                  rw [pp_n (pz_n c46)]
                  have er : csum (β 4) t 4 1 a0 = some (ps ++ [q.1], skp (β 4) t (skp (β 4) t q.2)) := by
                    rw [← hv, csum_s hct, if_neg (by omega), if_neg hm45, if_neg (pz_n c46)]
                    rfl
                  rw [er] at hR
                  cases hR
          · exact absurd c18 (by decide)
  refine j_iconst (v := 0) C d_RR_readSum_0 (by decide) ?_
  refine j_istore_n C d_RR_readSum_1 rfl (by decide) rfl ?_
  refine j_iconst (v := 1) C d_RR_readSum_2 (by decide) ?_
  refine j_istore C d_RR_readSum_3 (by decide) rfl ?_
  exact j_pick [0, 1, 2, 3, 4] rfl (loop 3 1 a0 β [] 0 rfl (Or.inl rfl) rfl (Bst_nil hc) ha0 (by simp))

