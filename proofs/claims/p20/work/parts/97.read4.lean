/-! ===== the class reads a text: rules: printed by program ===== -/
theorem xr_k {ξ : Nat → Int32} {z a : Nat} {A x y : Int32} (hz : 5 ≠ z) : upd (xq (upd (upd ξ 4 A) z x) a) z y = xq (upd (upd ξ 4 A) z y) a := by
  unfold xq
  rw [upd_x hz, upd_uu]
theorem c_RR_readSumG_6_s {l : Launch} (hl : l.stackTraces = false) {D : va_G} {cA : Nat → ClassId} {b n : Nat} {xo : Nat} {ξ : Nat → Int32} {β : Nat → Nat → Int32} {ρ : Nat → Option Nat} {u v : Nat} (h : AH) (hn : xo + 28 ≤ n) (g : Nat → Int32) (hg : β 4 = g) (t a0 : Nat) (h4 : ξ 4 = nI t) (ht : t ≤ 300) (ha0 : a0 ≤ t) (s0 : Nat) (hs : s0 < 40) (hc : β 9 s0 = nI 0) (q0 : List Tm × Nat) (hR : csum g t 4 1 a0 = some q0) : Cn l D cA b y_RR_readSum k_RR_readSum 4 65 0 0 [.ref (xo + 5), .ref (xo + 6), .int (nI s0)] n (ovX xo (xq ξ a0) β ρ u v h) (Rp (some (.int 1)) n (fun h' => ∃ β' : Nat → Nat → Int32, h' = ovX xo (xq ξ q0.2) β' ρ u v h ∧ Bst 6 β s0 β' q0.1)) := by
  subst hg
  exact c_RR_readSum_6_s hl h hn t a0 h4 ht ha0 s0 hs hc q0 hR
theorem c_RR_readSumG_6_n {l : Launch} (hl : l.stackTraces = false) {D : va_G} {cA : Nat → ClassId} {b n : Nat} {xo : Nat} {ξ : Nat → Int32} {β : Nat → Nat → Int32} {ρ : Nat → Option Nat} {u v : Nat} (h : AH) (hn : xo + 28 ≤ n) (g : Nat → Int32) (hg : β 4 = g) (t a0 : Nat) (h4 : ξ 4 = nI t) (ht : t ≤ 300) (ha0 : a0 ≤ t) (s0 : Nat) (hs : s0 < 40) (hc : β 9 s0 = nI 0) (hR : csum g t 4 1 a0 = none) : Cn l D cA b y_RR_readSum k_RR_readSum 4 65 0 0 [.ref (xo + 5), .ref (xo + 6), .int (nI s0)] n (ovX xo (xq ξ a0) β ρ u v h) (Rp (some (.int 0)) n (fun h' => ∃ (a' : Nat) (β' : Nat → Nat → Int32), a' ≤ t ∧ h' = ovX xo (xq ξ a') β' ρ u v h ∧ Ab 6 β' β)) := by
  subst hg
  exact c_RR_readSum_6_n hl h hn t a0 h4 ht ha0 s0 hs hc hR
theorem c_RR_readComparisonG_6_0 {l : Launch} (hl : l.stackTraces = false) {D : va_G} {cA : Nat → ClassId} {b n : Nat} {xo : Nat} {ξ : Nat → Int32} {β : Nat → Nat → Int32} {ρ : Nat → Option Nat} {u v : Nat} (h : AH) (hn : xo + 28 ≤ n) (g : Nat → Int32) (hg : β 4 = g) (t a0 : Nat) (h4 : ξ 4 = nI t) (ht : t ≤ 300) (ha0 : a0 ≤ t) (q0 : Nat) (hq : q0 < 20) (hS : hr g t (skp g t a0) = 60) : Cn l D cA b y_RR_readComparison k_RR_readComparison 2 25 0 0 [.ref (xo + 5), .ref (xo + 6), .int (nI q0)] n (ovX xo (xq ξ a0) β ρ u v h) (Re (some (.int 1)) n (ovX xo (xq ξ (skp g t a0 + 1)) (upa β 7 (upd (β 7) q0 60)) ρ u v h)) := by
  subst hg
  exact c_RR_readComparison_6_0 hl h hn t a0 h4 ht ha0 q0 hq hS
theorem c_RR_readComparisonG_6_1 {l : Launch} (hl : l.stackTraces = false) {D : va_G} {cA : Nat → ClassId} {b n : Nat} {xo : Nat} {ξ : Nat → Int32} {β : Nat → Nat → Int32} {ρ : Nat → Option Nat} {u v : Nat} (h : AH) (hn : xo + 28 ≤ n) (g : Nat → Int32) (hg : β 4 = g) (t a0 : Nat) (h4 : ξ 4 = nI t) (ht : t ≤ 300) (ha0 : a0 ≤ t) (q0 : Nat) (hq : q0 < 20) (hS : hr g t (skp g t a0) = 61) : Cn l D cA b y_RR_readComparison k_RR_readComparison 2 25 0 0 [.ref (xo + 5), .ref (xo + 6), .int (nI q0)] n (ovX xo (xq ξ a0) β ρ u v h) (Re (some (.int 1)) n (ovX xo (xq ξ (skp g t a0 + 1)) (upa β 7 (upd (β 7) q0 61)) ρ u v h)) := by
  subst hg
  exact c_RR_readComparison_6_1 hl h hn t a0 h4 ht ha0 q0 hq hS
theorem c_RR_readComparisonG_6_2 {l : Launch} (hl : l.stackTraces = false) {D : va_G} {cA : Nat → ClassId} {b n : Nat} {xo : Nat} {ξ : Nat → Int32} {β : Nat → Nat → Int32} {ρ : Nat → Option Nat} {u v : Nat} (h : AH) (hn : xo + 28 ≤ n) (g : Nat → Int32) (hg : β 4 = g) (t a0 : Nat) (h4 : ξ 4 = nI t) (ht : t ≤ 300) (ha0 : a0 ≤ t) (q0 : Nat) (hq : q0 < 20) (hS : hr g t (skp g t a0) = 33) : Cn l D cA b y_RR_readComparison k_RR_readComparison 2 25 0 0 [.ref (xo + 5), .ref (xo + 6), .int (nI q0)] n (ovX xo (xq ξ a0) β ρ u v h) (Re (some (.int 1)) n (ovX xo (xq ξ (skp g t a0 + 1)) (upa β 7 (upd (β 7) q0 33)) ρ u v h)) := by
  subst hg
  exact c_RR_readComparison_6_2 hl h hn t a0 h4 ht ha0 q0 hq hS
theorem c_RR_readComparisonG_6_3 {l : Launch} (hl : l.stackTraces = false) {D : va_G} {cA : Nat → ClassId} {b n : Nat} {xo : Nat} {ξ : Nat → Int32} {β : Nat → Nat → Int32} {ρ : Nat → Option Nat} {u v : Nat} (h : AH) (hn : xo + 28 ≤ n) (g : Nat → Int32) (hg : β 4 = g) (t a0 : Nat) (h4 : ξ 4 = nI t) (ht : t ≤ 300) (ha0 : a0 ≤ t) (q0 : Nat) (hq : q0 < 20) (hS : ¬ (hr g t (skp g t a0) = 60 ∨ hr g t (skp g t a0) = 61 ∨ hr g t (skp g t a0) = 33)) : Cn l D cA b y_RR_readComparison k_RR_readComparison 2 25 0 0 [.ref (xo + 5), .ref (xo + 6), .int (nI q0)] n (ovX xo (xq ξ a0) β ρ u v h) (Re (some (.int 0)) n (ovX xo (xq ξ (skp g t a0)) β ρ u v h)) := by
  subst hg
  exact c_RR_readComparison_6_3 hl h hn t a0 h4 ht ha0 q0 hq hS
set_option maxHeartbeats 4000000 in
set_option maxRecDepth 100000 in
theorem c_RR_readInto_6_s {l : Launch} (hl : l.stackTraces = false) {D : va_G} {cA : Nat → ClassId} {b n : Nat} {xo : Nat} {ξ : Nat → Int32} {β : Nat → Nat → Int32} {ρ : Nat → Option Nat} {u v : Nat} (h : AH) (hn : xo + 28 ≤ n) (t : Nat) (ht : t ≤ 300) (rs0 : List Ru) (hR : crul (β 4) t (t + 1) 0 [] = some rs0) : Cn l D cA b y_RR_readInto k_RR_readInto 5 81 0 0 [.ref (xo + 5), .ref (xo + 6), .int (nI t)] n (ovX xo ξ β ρ u v h) (Rp (some (.int (-1))) n (fun h' => ∃ (a' : Nat) (β' : Nat → Nat → Int32), h' = (ovX xo (xq (upd (upd ξ 4 (nI t)) 6 (nI rs0.length)) a') β' ρ u v h) ∧ Abw 6 β' β ∧ RuX (β' (6 + 1)) (β' (6 + 2)) (β' (6 + 3)) (β' (6 + 4)) (β' (6 + 5)) (β' (6 + 6)) rs0)) := by
  refine Cn.of (cc := b_RR_readInto) (maxL := 4) (ret := (some .int)) (hh := []) (by decide +kernel) hl (Or.inl ⟨rfl, rfl⟩) (Nat.le_of_ble_eq_true rfl) ?_
  intro p e s m args below meth c C
  have loop : ∀ (n9 a : Nat) (β1 : Nat → Nat → Int32) (rs : List Ru), a ≤ t → t + 1 ≤ a + n9 → rs.length ≤ 20 → Abw 6 β1 β → RuX (β1 (6 + 1)) (β1 (6 + 2)) (β1 (6 + 3)) (β1 (6 + 4)) (β1 (6 + 5)) (β1 (6 + 6)) rs → Lk rs → crul (β 4) t n9 a rs = crul (β 4) t (t + 1) 0 [] → J p l e { frames := 5, cells := 0, slots := 0, locals := 81 } s m args below meth c D cA b 4 (EndQ D cA b s below (Rp (some (.int (-1))) n (fun h' => ∃ (a' : Nat) (β' : Nat → Nat → Int32), h' = (ovX xo (xq (upd (upd ξ 4 (nI t)) 6 (nI rs0.length)) a') β' ρ u v h) ∧ Abw 6 β' β ∧ RuX (β' (6 + 1)) (β' (6 + 2)) (β' (6 + 3)) (β' (6 + 4)) (β' (6 + 5)) (β' (6 + 6)) rs0)) 0 0) n (ovX xo (xq (upd (upd ξ 4 (nI t)) 6 (nI rs.length)) (skp (β 4) t a)) β1 ρ u v h) 0 0 29 [(3, .int (nI rs.length)), (0, .ref (xo + 5)), (1, .ref (xo + 6)), (2, .int (nI t))] [] := by
    intro n9
    induction n9 with
    | zero =>
      intro a β1 rs ha hf
      exact absurd hf (by omega)
    | succ n9 ih =>
      intro a β1 rs ha hf hl20 hA hX hLk hv
      have hB := skp_le (β 4) ha
      refine j_aload_n C d_RR_readInto_29 rfl rfl ?_
      refine jx_get 5 C fl_1_15 d_RR_readInto_30 hn rfl rfl ?_
      refine j_aload_n C d_RR_readInto_33 rfl rfl ?_
      refine jx_get 5 C fl_1_9 d_RR_readInto_34 hn rfl rfl ?_
      refine j_icmp_ge (tgt := 120) C d_RR_readInto_37 (by decide) (fun c37 => ?_) (fun c37 => ?_)
      · have hge : t ≤ (skp (β 4) t a) := Nat.le_of_not_lt (fun y => absurd (show nI t ≤ nI (skp (β 4) t a) from c37) (nI_ge y (by omega)))
        refine j_iconst (v := (-1)) C d_RR_readInto_120 (by decide) ?_
        have er : crul (β 4) t (t + 1) 0 [] = some rs := by
          rw [← hv]
          exact crul_e hge
        rw [er] at hR
        cases hR
        exact j_ireturn C d_RR_readInto_121 rfl (by decide) (by decide) ⟨rfl, rfl, _, β1, rfl, hA, hX⟩
      · have hlt' : ¬ t ≤ (skp (β 4) t a) := fun y => c37 (show nI t ≤ nI (skp (β 4) t a) from nI_le y (by omega))
        refine j_iload_n C d_RR_readInto_40 rfl rfl ?_
        refine j_bipush (v := 20) C d_RR_readInto_41 (by decide) ?_
        refine j_icmp_lt (tgt := 51) C d_RR_readInto_43 (by decide) (fun c43 => ?_) (fun c43 => ?_)
        · have hk : rs.length < 20 := Nat.lt_of_not_le (fun y => absurd (show nI rs.length < nI 20 from c43) (fun x9 => absurd (nI_le (a := 20) (b := rs.length) y (by omega)) (Int32.not_le.mpr x9)))
          refine j_aload_n C d_RR_readInto_51 rfl rfl ?_
          refine j_iload_n C d_RR_readInto_52 rfl rfl ?_
          refine j_callV C d_RR_readInto_53 ml_RR_36 mc_RB_startRule in_RB_startRule rfl se_RB_startRule (by omega) (ovX_c (o := 6) rfl) (c_RB_startRule_6 hl h hn rs.length hk) rfl rfl (Nat.le_of_ble_eq_true rfl) (Nat.le_of_ble_eq_true rfl) (Nat.le_of_ble_eq_true rfl) (Nat.le_of_ble_eq_true rfl) (jk_v ?_)
          refine j_aload_n C d_RR_readInto_56 rfl rfl ?_
          refine j_aload_n C d_RR_readInto_57 rfl rfl ?_
          refine j_iconst (v := 2) C d_RR_readInto_58 (by decide) ?_
          refine j_iload_n C d_RR_readInto_59 rfl rfl ?_
          refine j_imul C d_RR_readInto_60 ?_
          rw [e2q]
          have hA1 : Abw 6 (stR 6 β1 rs.length) β := Abw_t (Ab_w stR_w) hA
          have hg1 : stR 6 β1 rs.length 4 = β 4 := hA1 4 (by omega)
          cases hs1 : csum (β 4) t 4 1 (skp (β 4) t a) with
          | none =>
            refine j_callV C d_RR_readInto_61 ml_RR_40 mc_RR_readSum in_RR_readSum rfl se_RR_readSum (by omega) (ovX_c (o := 5) rfl) (c_RR_readSumG_6_n hl h hn (β 4) hg1 t (skp (β 4) t a) (by rfl) ht hB (2 * rs.length) (by omega) (stR_a 6 β1 rs.length) hs1) rfl rfl (Nat.le_of_ble_eq_true rfl) (Nat.le_of_ble_eq_true rfl) (Nat.le_of_ble_eq_true rfl) (Nat.le_of_ble_eq_true rfl) (jk_p (fun h9 hP9 => ?_))
            obtain ⟨a9, β9, ha9, rfl, hA9⟩ := hP9
            refine j_if_eq (tgt := 98) C d_RR_readInto_64 (by decide) (fun c64 => ?_) (fun c64 => ?_)
            · refine j_aload_n C d_RR_readInto_98 rfl rfl ?_
              refine jx_get 5 C fl_1_15 d_RR_readInto_99 hn rfl rfl ?_
              have er : crul (β 4) t (t + 1) 0 [] = none := by
                rw [← hv]
                exact crul_n hlt' (pr_n1 ht hB hs1)
              rw [er] at hR
              cases hR
            · exact absurd rfl c64
          | some q =>
            refine j_callV C d_RR_readInto_61 ml_RR_40 mc_RR_readSum in_RR_readSum rfl se_RR_readSum (by omega) (ovX_c (o := 5) rfl) (c_RR_readSumG_6_s hl h hn (β 4) hg1 t (skp (β 4) t a) (by rfl) ht hB (2 * rs.length) (by omega) (stR_a 6 β1 rs.length) q hs1) rfl rfl (Nat.le_of_ble_eq_true rfl) (Nat.le_of_ble_eq_true rfl) (Nat.le_of_ble_eq_true rfl) (Nat.le_of_ble_eq_true rfl) (jk_p (fun h9 hP9 => ?_))
            obtain ⟨β2, rfl, hB2⟩ := hP9
            have hq2 := csum_le 4 1 _ q hB hs1
            have hA2 : Abw 6 β2 β := Abw_t (Ab_w hB2.1) hA1
            have hg2 : β2 4 = β 4 := hA2 4 (by omega)
            have tail : ∀ x : Int32, hr (β 4) t (skp (β 4) t q.2) = x → (x = 60 ∨ x = 61 ∨ x = 33) → J p l e { frames := 5, cells := 0, slots := 0, locals := 81 } s m args below meth c D cA b 4 (EndQ D cA b s below (Rp (some (.int (-1))) n (fun h' => ∃ (a' : Nat) (β' : Nat → Nat → Int32), h' = (ovX xo (xq (upd (upd ξ 4 (nI t)) 6 (nI rs0.length)) a') β' ρ u v h) ∧ Abw 6 β' β ∧ RuX (β' (6 + 1)) (β' (6 + 2)) (β' (6 + 3)) (β' (6 + 4)) (β' (6 + 5)) (β' (6 + 6)) rs0)) 0 0) n (ovX xo (xq (upd (upd ξ 4 (nI t)) 6 (nI rs.length)) ((skp (β 4) t q.2) + 1)) (upa β2 7 (upd (β2 7) rs.length x)) ρ u v h) 0 0 76 [(3, .int (nI rs.length)), (0, .ref (xo + 5)), (1, .ref (xo + 6)), (2, .int (nI t))] [] := by
              intro x hx h3
              have hsg : hr (β 4) t (skp (β 4) t q.2) = 60 ∨ hr (β 4) t (skp (β 4) t q.2) = 61 ∨ hr (β 4) t (skp (β 4) t q.2) = 33 := by rw [hx]; exact h3
              have hq1 : (skp (β 4) t q.2) + 1 ≤ t := hr_lt2 hx (by rcases h3 with z | z | z <;> rw [z] <;> decide)
              have hA3 : Abw 6 (upa β2 7 (upd (β2 7) rs.length x)) β := Abw_t (Abw_c (bo := 6)) hA2
              have hg3 : (upa β2 7 (upd (β2 7) rs.length x)) 4 = β 4 := hA3 4 (by omega)
              have hc3 : (upa β2 7 (upd (β2 7) rs.length x)) 9 (2 * rs.length + 1) = nI 0 := by
                rw [upa_n (by decide)]
                exact (hB2.2.2.2.2.1 (2 * rs.length + 1) (by omega)).trans (stR_b 6 β1 rs.length)
              refine j_aload_n C d_RR_readInto_76 rfl rfl ?_
              refine j_aload_n C d_RR_readInto_77 rfl rfl ?_
              refine j_iconst (v := 2) C d_RR_readInto_78 (by decide) ?_
              refine j_iload_n C d_RR_readInto_79 rfl rfl ?_
              refine j_imul C d_RR_readInto_80 ?_
              refine j_iconst (v := 1) C d_RR_readInto_81 (by decide) ?_
              refine j_iadd C d_RR_readInto_82 ?_
              rw [e2q1]
              cases hs2 : csum (β 4) t 4 1 ((skp (β 4) t q.2) + 1) with
              | none =>
                refine j_callV C d_RR_readInto_83 ml_RR_40 mc_RR_readSum in_RR_readSum rfl se_RR_readSum (by omega) (ovX_c (o := 5) rfl) (c_RR_readSumG_6_n hl h hn (β 4) hg3 t ((skp (β 4) t q.2) + 1) (by rfl) ht hq1 (2 * rs.length + 1) (by omega) hc3 hs2) rfl rfl (Nat.le_of_ble_eq_true rfl) (Nat.le_of_ble_eq_true rfl) (Nat.le_of_ble_eq_true rfl) (Nat.le_of_ble_eq_true rfl) (jk_p (fun h9 hP9 => ?_))
                obtain ⟨a9, β9, ha9, rfl, hA9⟩ := hP9
                refine j_if_eq (tgt := 98) C d_RR_readInto_86 (by decide) (fun c86 => ?_) (fun c86 => ?_)
                · refine j_aload_n C d_RR_readInto_98 rfl rfl ?_
                  refine jx_get 5 C fl_1_15 d_RR_readInto_99 hn rfl rfl ?_
                  have er : crul (β 4) t (t + 1) 0 [] = none := by
                    rw [← hv]
                    exact crul_n hlt' (pr_n3 ht hB hs1 hsg hq1 hs2)
                  rw [er] at hR
                  cases hR
                · exact absurd rfl c86
              | some w =>
                refine j_callV C d_RR_readInto_83 ml_RR_40 mc_RR_readSum in_RR_readSum rfl se_RR_readSum (by omega) (ovX_c (o := 5) rfl) (c_RR_readSumG_6_s hl h hn (β 4) hg3 t ((skp (β 4) t q.2) + 1) (by rfl) ht hq1 (2 * rs.length + 1) (by omega) hc3 w hs2) rfl rfl (Nat.le_of_ble_eq_true rfl) (Nat.le_of_ble_eq_true rfl) (Nat.le_of_ble_eq_true rfl) (Nat.le_of_ble_eq_true rfl) (jk_p (fun h9 hP9 => ?_))
                obtain ⟨β4, rfl, hB4⟩ := hP9
                have hw2 := csum_le 4 1 _ w hq1 hs2
                have hA4 : Abw 6 β4 β := Abw_t (Ab_w hB4.1) hA3
                have hg4 : β4 4 = β 4 := hA4 4 (by omega)
                refine j_if_eq (tgt := 98) C d_RR_readInto_86 (by decide) (fun c86 => ?_) (fun c86 => ?_)
                · exact absurd c86 (by decide)
                · refine j_aload_n C d_RR_readInto_89 rfl rfl ?_
                  refine j_bipush (v := 59) C d_RR_readInto_90 (by decide) ?_
                  refine j_callV C d_RR_readInto_92 ml_RR_47 mc_RR_passes in_RR_passes rfl se_RR_passes (by omega) (ovX_c (o := 5) rfl) (c_RR_passesG hl h hn (β 4) hg4 t w.2 (by rfl) ht hw2 59 (by decide)) rfl rfl (Nat.le_of_ble_eq_true rfl) (Nat.le_of_ble_eq_true rfl) (Nat.le_of_ble_eq_true rfl) (Nat.le_of_ble_eq_true rfl) (jk_r ?_)
                  refine j_if_ne (tgt := 103) C d_RR_readInto_95 (by decide) (fun c95 => ?_) (fun c95 => ?_)
                  · have h59 := pz_y c95
                    rw [pp_y h59]
                    refine j_aload_n C d_RR_readInto_103 rfl rfl ?_
                    refine j_iload_n C d_RR_readInto_104 rfl rfl ?_
                    refine j_iconst (v := 1) C d_RR_readInto_105 (by decide) ?_
                    refine j_iadd C d_RR_readInto_106 ?_
                    rw [nI_1]
                    refine jx_puti 6 6 C fp_1_28 d_RR_readInto_107 hn rfl (Nat.le_of_ble_eq_true rfl) rfl rfl rfl ?_
                    refine j_h (h' := (ovX xo (xq (upd (upd ξ 4 (nI t)) 6 (nI (rs ++ [(q.1, x, w.1)]).length)) (skp (β 4) t w.2 + 1)) β4 ρ u v h)) (by rw [xr_k (by decide), len_snoc]) ?_
                    refine j_aload_n C d_RR_readInto_110 rfl rfl ?_
                    refine j_callV C d_RR_readInto_111 ml_RR_33 mc_RR_skipBlanks in_RR_skipBlanks rfl se_RR_skipBlanks (by omega) (ovX_c (o := 5) rfl) (c_RR_skipBlanksG hl h hn (β 4) hg4 t (skp (β 4) t w.2 + 1) (by rfl) ht (hr_lt2 h59 (by decide))) rfl rfl (Nat.le_of_ble_eq_true rfl) (Nat.le_of_ble_eq_true rfl) (Nat.le_of_ble_eq_true rfl) (Nat.le_of_ble_eq_true rfl) (jk_v ?_)
                    have hpr : prule (β 4) t (skp (β 4) t a) = some ((q.1, x, w.1), skp (β 4) t w.2 + 1) := by rw [pr_e ht hB hs1 hsg hq1 hs2, if_pos h59, hx]
                    obtain ⟨g1, g2, g3⟩ := prule_gt ht hB hpr
                    have g4 := skp_ge (β 4) t a
                    refine j_iinc (v := nI (rs ++ [(q.1, x, w.1)]).length) C d_RR_readInto_114 rfl (by rw [len_snoc]; exact nI_inc _) (by decide) rfl ?_
                    refine j_goto (tgt := 29) C d_RR_readInto_117 (by decide) ?_
                    exact j_pick [0, 1, 2, 3] rfl (ih (skp (β 4) t w.2 + 1) β4 (rs ++ [(q.1, x, w.1)]) (hr_lt2 h59 (by decide)) (by have g5 : (skp (β 4) t a) < skp (β 4) t w.2 + 1 := g1; omega) (by rw [len_snoc]; omega) hA4 (RuX_snoc hX hLk g2 hB2 hB4) (Lk_snoc hLk g2 g3) (by rw [← hv, crul_s hlt' (by omega) hpr]))
                  · refine j_aload_n C d_RR_readInto_98 rfl rfl ?_
                    refine jx_get 5 C fl_1_15 d_RR_readInto_99 hn rfl rfl ?_
                    have er : crul (β 4) t (t + 1) 0 [] = none := by
                      rw [← hv]
                      exact crul_n hlt' (by rw [pr_e ht hB hs1 hsg hq1 hs2, if_neg (pz_n c95)])
                    rw [er] at hR
                    cases hR
            refine j_if_eq (tgt := 98) C d_RR_readInto_64 (by decide) (fun c64 => ?_) (fun c64 => ?_)
            · exact absurd c64 (by decide)
            · refine j_aload_n C d_RR_readInto_67 rfl rfl ?_
              refine j_aload_n C d_RR_readInto_68 rfl rfl ?_
              refine j_iload_n C d_RR_readInto_69 rfl rfl ?_
              by_cases x0 : hr (β 4) t (skp (β 4) t q.2) = 60
              · refine j_callV C d_RR_readInto_70 ml_RR_44 mc_RR_readComparison in_RR_readComparison rfl se_RR_readComparison (by omega) (ovX_c (o := 5) rfl) (c_RR_readComparisonG_6_0 hl h hn (β 4) hg2 t q.2 (by rfl) ht hq2 rs.length hk x0) rfl rfl (Nat.le_of_ble_eq_true rfl) (Nat.le_of_ble_eq_true rfl) (Nat.le_of_ble_eq_true rfl) (Nat.le_of_ble_eq_true rfl) (jk_r ?_)
                refine j_if_eq (tgt := 98) C d_RR_readInto_73 (by decide) (fun c73 => ?_) (fun c73 => ?_)
                · exact absurd c73 (by decide)
                · exact tail 60 x0 (by decide)
              · by_cases x1 : hr (β 4) t (skp (β 4) t q.2) = 61
                · refine j_callV C d_RR_readInto_70 ml_RR_44 mc_RR_readComparison in_RR_readComparison rfl se_RR_readComparison (by omega) (ovX_c (o := 5) rfl) (c_RR_readComparisonG_6_1 hl h hn (β 4) hg2 t q.2 (by rfl) ht hq2 rs.length hk x1) rfl rfl (Nat.le_of_ble_eq_true rfl) (Nat.le_of_ble_eq_true rfl) (Nat.le_of_ble_eq_true rfl) (Nat.le_of_ble_eq_true rfl) (jk_r ?_)
                  refine j_if_eq (tgt := 98) C d_RR_readInto_73 (by decide) (fun c73 => ?_) (fun c73 => ?_)
                  · exact absurd c73 (by decide)
                  · exact tail 61 x1 (by decide)
                · by_cases x2 : hr (β 4) t (skp (β 4) t q.2) = 33
                  · refine j_callV C d_RR_readInto_70 ml_RR_44 mc_RR_readComparison in_RR_readComparison rfl se_RR_readComparison (by omega) (ovX_c (o := 5) rfl) (c_RR_readComparisonG_6_2 hl h hn (β 4) hg2 t q.2 (by rfl) ht hq2 rs.length hk x2) rfl rfl (Nat.le_of_ble_eq_true rfl) (Nat.le_of_ble_eq_true rfl) (Nat.le_of_ble_eq_true rfl) (Nat.le_of_ble_eq_true rfl) (jk_r ?_)
                    refine j_if_eq (tgt := 98) C d_RR_readInto_73 (by decide) (fun c73 => ?_) (fun c73 => ?_)
                    · exact absurd c73 (by decide)
                    · exact tail 33 x2 (by decide)
                  · refine j_callV C d_RR_readInto_70 ml_RR_44 mc_RR_readComparison in_RR_readComparison rfl se_RR_readComparison (by omega) (ovX_c (o := 5) rfl) (c_RR_readComparisonG_6_3 hl h hn (β 4) hg2 t q.2 (by rfl) ht hq2 rs.length hk (fun z => z.elim x0 (fun y => y.elim x1 x2))) rfl rfl (Nat.le_of_ble_eq_true rfl) (Nat.le_of_ble_eq_true rfl) (Nat.le_of_ble_eq_true rfl) (Nat.le_of_ble_eq_true rfl) (jk_r ?_)
                    refine j_if_eq (tgt := 98) C d_RR_readInto_73 (by decide) (fun c73 => ?_) (fun c73 => ?_)
                    · refine j_aload_n C d_RR_readInto_98 rfl rfl ?_
                      refine jx_get 5 C fl_1_15 d_RR_readInto_99 hn rfl rfl ?_
                      have er : crul (β 4) t (t + 1) 0 [] = none := by
                        rw [← hv]
                        exact crul_n hlt' (pr_n2 ht hB hs1 (fun z => z.elim x0 (fun y => y.elim x1 x2)))
                      rw [er] at hR
                      cases hR
                    · exact absurd rfl c73
        · refine j_aload_n C d_RR_readInto_46 rfl rfl ?_
          refine jx_get 5 C fl_1_15 d_RR_readInto_47 hn rfl rfl ?_
          have er : crul (β 4) t (t + 1) 0 [] = none := by
            rw [← hv]
            exact crul_f hlt' (by have z : ¬ rs.length < 20 := fun y => c43 (show nI rs.length < nI 20 from nI_lt y (by omega)); omega)
          rw [er] at hR
          cases hR
  refine j_aload_n C d_RR_readInto_0 rfl rfl ?_
  refine j_iload_n C d_RR_readInto_1 rfl rfl ?_
  refine j_aload_n C d_RR_readInto_2 rfl rfl ?_
  refine jx_get 5 C fl_1_18 d_RR_readInto_3 hn rfl rfl ?_
  refine jx_alen 4 C d_RR_readInto_6 rfl hn rfl rfl ?_
  refine j_mmin (v := nI t) C d_RR_readInto_7 mm_RR_22 mm_st_min mm_ini mm_co_min (Nat.le_of_ble_eq_true rfl) (Nat.le_of_ble_eq_true rfl) (Nat.le_of_ble_eq_true rfl) (Nat.le_of_ble_eq_true rfl) (show (if nI 300 < nI t then nI 300 else nI t) = nI t by rw [if_neg (fun y => absurd (nI_le (a := t) (b := 300) ht (by omega)) (Int32.not_le.mpr y))]) ?_
  refine jx_puti 5 4 C fp_1_9 d_RR_readInto_10 hn rfl (Nat.le_of_ble_eq_true rfl) rfl rfl rfl ?_
  refine j_aload_n C d_RR_readInto_13 rfl rfl ?_
  refine j_iconst (v := 0) C d_RR_readInto_14 (by decide) ?_
  refine jx_puti 5 5 C fp_1_15 d_RR_readInto_15 hn rfl (Nat.le_of_ble_eq_true rfl) rfl rfl rfl ?_
  refine j_aload_n C d_RR_readInto_18 rfl rfl ?_
  refine j_iconst (v := 0) C d_RR_readInto_19 (by decide) ?_
  refine jx_puti 6 6 C fp_1_28 d_RR_readInto_20 hn rfl (Nat.le_of_ble_eq_true rfl) rfl rfl rfl ?_
  refine j_h (h' := (ovX xo (xq (upd (upd ξ 4 (nI t)) 6 (nI 0)) 0) β ρ u v h)) (by unfold xq; rw [upd_x (show (5 : Nat) ≠ 6 by decide)]; rfl) ?_
  refine j_aload_n C d_RR_readInto_23 rfl rfl ?_
  refine j_callV C d_RR_readInto_24 ml_RR_33 mc_RR_skipBlanks in_RR_skipBlanks rfl se_RR_skipBlanks (by omega) (ovX_c (o := 5) rfl) (c_RR_skipBlanksG hl h hn (β 4) rfl t 0 (by rfl) ht (by omega)) rfl rfl (Nat.le_of_ble_eq_true rfl) (Nat.le_of_ble_eq_true rfl) (Nat.le_of_ble_eq_true rfl) (Nat.le_of_ble_eq_true rfl) (jk_v ?_)
  refine j_iconst (v := 0) C d_RR_readInto_27 (by decide) ?_
  refine j_istore_n C d_RR_readInto_28 rfl (by decide) rfl ?_
  exact j_pick [0, 1, 2, 3] rfl (loop (t + 1) 0 β [] (by omega) (by omega) (by simp) (fun _ _ => rfl) (fun q x hx => by cases hx) (fun q x hx => by cases hx) rfl)

set_option maxHeartbeats 4000000 in
set_option maxRecDepth 100000 in
theorem c_RR_readInto_6_n {l : Launch} (hl : l.stackTraces = false) {D : va_G} {cA : Nat → ClassId} {b n : Nat} {xo : Nat} {ξ : Nat → Int32} {β : Nat → Nat → Int32} {ρ : Nat → Option Nat} {u v : Nat} (h : AH) (hn : xo + 28 ≤ n) (t : Nat) (ht : t ≤ 300) (hR : crul (β 4) t (t + 1) 0 [] = none) : Cn l D cA b y_RR_readInto k_RR_readInto 5 81 0 0 [.ref (xo + 5), .ref (xo + 6), .int (nI t)] n (ovX xo ξ β ρ u v h) (Rw n (fun w h' => ∃ (a' k' : Nat) (β' : Nat → Nat → Int32), a' ≤ t ∧ w = nI a' ∧ h' = (ovX xo (xq (upd (upd ξ 4 (nI t)) 6 (nI k')) a') β' ρ u v h) ∧ Abw 6 β' β)) := by
  refine Cn.of (cc := b_RR_readInto) (maxL := 4) (ret := (some .int)) (hh := []) (by decide +kernel) hl (Or.inl ⟨rfl, rfl⟩) (Nat.le_of_ble_eq_true rfl) ?_
  intro p e s m args below meth c C
  have loop : ∀ (n9 a : Nat) (β1 : Nat → Nat → Int32) (rs : List Ru), a ≤ t → t + 1 ≤ a + n9 → rs.length ≤ 20 → Abw 6 β1 β → RuX (β1 (6 + 1)) (β1 (6 + 2)) (β1 (6 + 3)) (β1 (6 + 4)) (β1 (6 + 5)) (β1 (6 + 6)) rs → Lk rs → crul (β 4) t n9 a rs = crul (β 4) t (t + 1) 0 [] → J p l e { frames := 5, cells := 0, slots := 0, locals := 81 } s m args below meth c D cA b 4 (EndQ D cA b s below (Rw n (fun w h' => ∃ (a' k' : Nat) (β' : Nat → Nat → Int32), a' ≤ t ∧ w = nI a' ∧ h' = (ovX xo (xq (upd (upd ξ 4 (nI t)) 6 (nI k')) a') β' ρ u v h) ∧ Abw 6 β' β)) 0 0) n (ovX xo (xq (upd (upd ξ 4 (nI t)) 6 (nI rs.length)) (skp (β 4) t a)) β1 ρ u v h) 0 0 29 [(3, .int (nI rs.length)), (0, .ref (xo + 5)), (1, .ref (xo + 6)), (2, .int (nI t))] [] := by
    intro n9
    induction n9 with
    | zero =>
      intro a β1 rs ha hf
      exact absurd hf (by omega)
    | succ n9 ih =>
      intro a β1 rs ha hf hl20 hA hX hLk hv
      have hB := skp_le (β 4) ha
      refine j_aload_n C d_RR_readInto_29 rfl rfl ?_
      refine jx_get 5 C fl_1_15 d_RR_readInto_30 hn rfl rfl ?_
      refine j_aload_n C d_RR_readInto_33 rfl rfl ?_
      refine jx_get 5 C fl_1_9 d_RR_readInto_34 hn rfl rfl ?_
      refine j_icmp_ge (tgt := 120) C d_RR_readInto_37 (by decide) (fun c37 => ?_) (fun c37 => ?_)
      · have hge : t ≤ (skp (β 4) t a) := Nat.le_of_not_lt (fun y => absurd (show nI t ≤ nI (skp (β 4) t a) from c37) (nI_ge y (by omega)))
        refine j_iconst (v := (-1)) C d_RR_readInto_120 (by decide) ?_
        have er : crul (β 4) t (t + 1) 0 [] = some rs := by
          rw [← hv]
          exact crul_e hge
        rw [er] at hR
        cases hR
      · have hlt' : ¬ t ≤ (skp (β 4) t a) := fun y => c37 (show nI t ≤ nI (skp (β 4) t a) from nI_le y (by omega))
        refine j_iload_n C d_RR_readInto_40 rfl rfl ?_
        refine j_bipush (v := 20) C d_RR_readInto_41 (by decide) ?_
        refine j_icmp_lt (tgt := 51) C d_RR_readInto_43 (by decide) (fun c43 => ?_) (fun c43 => ?_)
        · have hk : rs.length < 20 := Nat.lt_of_not_le (fun y => absurd (show nI rs.length < nI 20 from c43) (fun x9 => absurd (nI_le (a := 20) (b := rs.length) y (by omega)) (Int32.not_le.mpr x9)))
          refine j_aload_n C d_RR_readInto_51 rfl rfl ?_
          refine j_iload_n C d_RR_readInto_52 rfl rfl ?_
          refine j_callV C d_RR_readInto_53 ml_RR_36 mc_RB_startRule in_RB_startRule rfl se_RB_startRule (by omega) (ovX_c (o := 6) rfl) (c_RB_startRule_6 hl h hn rs.length hk) rfl rfl (Nat.le_of_ble_eq_true rfl) (Nat.le_of_ble_eq_true rfl) (Nat.le_of_ble_eq_true rfl) (Nat.le_of_ble_eq_true rfl) (jk_v ?_)
          refine j_aload_n C d_RR_readInto_56 rfl rfl ?_
          refine j_aload_n C d_RR_readInto_57 rfl rfl ?_
          refine j_iconst (v := 2) C d_RR_readInto_58 (by decide) ?_
          refine j_iload_n C d_RR_readInto_59 rfl rfl ?_
          refine j_imul C d_RR_readInto_60 ?_
          rw [e2q]
          have hA1 : Abw 6 (stR 6 β1 rs.length) β := Abw_t (Ab_w stR_w) hA
          have hg1 : stR 6 β1 rs.length 4 = β 4 := hA1 4 (by omega)
          cases hs1 : csum (β 4) t 4 1 (skp (β 4) t a) with
          | none =>
            refine j_callV C d_RR_readInto_61 ml_RR_40 mc_RR_readSum in_RR_readSum rfl se_RR_readSum (by omega) (ovX_c (o := 5) rfl) (c_RR_readSumG_6_n hl h hn (β 4) hg1 t (skp (β 4) t a) (by rfl) ht hB (2 * rs.length) (by omega) (stR_a 6 β1 rs.length) hs1) rfl rfl (Nat.le_of_ble_eq_true rfl) (Nat.le_of_ble_eq_true rfl) (Nat.le_of_ble_eq_true rfl) (Nat.le_of_ble_eq_true rfl) (jk_p (fun h9 hP9 => ?_))
            obtain ⟨a9, β9, ha9, rfl, hA9⟩ := hP9
            refine j_if_eq (tgt := 98) C d_RR_readInto_64 (by decide) (fun c64 => ?_) (fun c64 => ?_)
            · refine j_aload_n C d_RR_readInto_98 rfl rfl ?_
              refine jx_get 5 C fl_1_15 d_RR_readInto_99 hn rfl rfl ?_
              have er : crul (β 4) t (t + 1) 0 [] = none := by
                rw [← hv]
                exact crul_n hlt' (pr_n1 ht hB hs1)
              rw [er] at hR
              exact j_ireturn C d_RR_readInto_102 rfl (by decide) (by decide) ⟨_, rfl, rfl, a9, rs.length, β9, ha9, rfl, rfl, (Abw_t (Ab_w hA9) hA1)⟩
            · exact absurd rfl c64
          | some q =>
            refine j_callV C d_RR_readInto_61 ml_RR_40 mc_RR_readSum in_RR_readSum rfl se_RR_readSum (by omega) (ovX_c (o := 5) rfl) (c_RR_readSumG_6_s hl h hn (β 4) hg1 t (skp (β 4) t a) (by rfl) ht hB (2 * rs.length) (by omega) (stR_a 6 β1 rs.length) q hs1) rfl rfl (Nat.le_of_ble_eq_true rfl) (Nat.le_of_ble_eq_true rfl) (Nat.le_of_ble_eq_true rfl) (Nat.le_of_ble_eq_true rfl) (jk_p (fun h9 hP9 => ?_))
            obtain ⟨β2, rfl, hB2⟩ := hP9
            have hq2 := csum_le 4 1 _ q hB hs1
            have hA2 : Abw 6 β2 β := Abw_t (Ab_w hB2.1) hA1
            have hg2 : β2 4 = β 4 := hA2 4 (by omega)
            have tail : ∀ x : Int32, hr (β 4) t (skp (β 4) t q.2) = x → (x = 60 ∨ x = 61 ∨ x = 33) → J p l e { frames := 5, cells := 0, slots := 0, locals := 81 } s m args below meth c D cA b 4 (EndQ D cA b s below (Rw n (fun w h' => ∃ (a' k' : Nat) (β' : Nat → Nat → Int32), a' ≤ t ∧ w = nI a' ∧ h' = (ovX xo (xq (upd (upd ξ 4 (nI t)) 6 (nI k')) a') β' ρ u v h) ∧ Abw 6 β' β)) 0 0) n (ovX xo (xq (upd (upd ξ 4 (nI t)) 6 (nI rs.length)) ((skp (β 4) t q.2) + 1)) (upa β2 7 (upd (β2 7) rs.length x)) ρ u v h) 0 0 76 [(3, .int (nI rs.length)), (0, .ref (xo + 5)), (1, .ref (xo + 6)), (2, .int (nI t))] [] := by
              intro x hx h3
              have hsg : hr (β 4) t (skp (β 4) t q.2) = 60 ∨ hr (β 4) t (skp (β 4) t q.2) = 61 ∨ hr (β 4) t (skp (β 4) t q.2) = 33 := by rw [hx]; exact h3
              have hq1 : (skp (β 4) t q.2) + 1 ≤ t := hr_lt2 hx (by rcases h3 with z | z | z <;> rw [z] <;> decide)
              have hA3 : Abw 6 (upa β2 7 (upd (β2 7) rs.length x)) β := Abw_t (Abw_c (bo := 6)) hA2
              have hg3 : (upa β2 7 (upd (β2 7) rs.length x)) 4 = β 4 := hA3 4 (by omega)
              have hc3 : (upa β2 7 (upd (β2 7) rs.length x)) 9 (2 * rs.length + 1) = nI 0 := by
                rw [upa_n (by decide)]
                exact (hB2.2.2.2.2.1 (2 * rs.length + 1) (by omega)).trans (stR_b 6 β1 rs.length)
              refine j_aload_n C d_RR_readInto_76 rfl rfl ?_
              refine j_aload_n C d_RR_readInto_77 rfl rfl ?_
              refine j_iconst (v := 2) C d_RR_readInto_78 (by decide) ?_
              refine j_iload_n C d_RR_readInto_79 rfl rfl ?_
              refine j_imul C d_RR_readInto_80 ?_
              refine j_iconst (v := 1) C d_RR_readInto_81 (by decide) ?_
              refine j_iadd C d_RR_readInto_82 ?_
              rw [e2q1]
              cases hs2 : csum (β 4) t 4 1 ((skp (β 4) t q.2) + 1) with
              | none =>
                refine j_callV C d_RR_readInto_83 ml_RR_40 mc_RR_readSum in_RR_readSum rfl se_RR_readSum (by omega) (ovX_c (o := 5) rfl) (c_RR_readSumG_6_n hl h hn (β 4) hg3 t ((skp (β 4) t q.2) + 1) (by rfl) ht hq1 (2 * rs.length + 1) (by omega) hc3 hs2) rfl rfl (Nat.le_of_ble_eq_true rfl) (Nat.le_of_ble_eq_true rfl) (Nat.le_of_ble_eq_true rfl) (Nat.le_of_ble_eq_true rfl) (jk_p (fun h9 hP9 => ?_))
                obtain ⟨a9, β9, ha9, rfl, hA9⟩ := hP9
                refine j_if_eq (tgt := 98) C d_RR_readInto_86 (by decide) (fun c86 => ?_) (fun c86 => ?_)
                · refine j_aload_n C d_RR_readInto_98 rfl rfl ?_
                  refine jx_get 5 C fl_1_15 d_RR_readInto_99 hn rfl rfl ?_
                  have er : crul (β 4) t (t + 1) 0 [] = none := by
                    rw [← hv]
                    exact crul_n hlt' (pr_n3 ht hB hs1 hsg hq1 hs2)
                  rw [er] at hR
                  exact j_ireturn C d_RR_readInto_102 rfl (by decide) (by decide) ⟨_, rfl, rfl, a9, rs.length, β9, ha9, rfl, rfl, (Abw_t (Ab_w hA9) hA3)⟩
                · exact absurd rfl c86
              | some w =>
                refine j_callV C d_RR_readInto_83 ml_RR_40 mc_RR_readSum in_RR_readSum rfl se_RR_readSum (by omega) (ovX_c (o := 5) rfl) (c_RR_readSumG_6_s hl h hn (β 4) hg3 t ((skp (β 4) t q.2) + 1) (by rfl) ht hq1 (2 * rs.length + 1) (by omega) hc3 w hs2) rfl rfl (Nat.le_of_ble_eq_true rfl) (Nat.le_of_ble_eq_true rfl) (Nat.le_of_ble_eq_true rfl) (Nat.le_of_ble_eq_true rfl) (jk_p (fun h9 hP9 => ?_))
                obtain ⟨β4, rfl, hB4⟩ := hP9
                have hw2 := csum_le 4 1 _ w hq1 hs2
                have hA4 : Abw 6 β4 β := Abw_t (Ab_w hB4.1) hA3
                have hg4 : β4 4 = β 4 := hA4 4 (by omega)
                refine j_if_eq (tgt := 98) C d_RR_readInto_86 (by decide) (fun c86 => ?_) (fun c86 => ?_)
                · exact absurd c86 (by decide)
                · refine j_aload_n C d_RR_readInto_89 rfl rfl ?_
                  refine j_bipush (v := 59) C d_RR_readInto_90 (by decide) ?_
                  refine j_callV C d_RR_readInto_92 ml_RR_47 mc_RR_passes in_RR_passes rfl se_RR_passes (by omega) (ovX_c (o := 5) rfl) (c_RR_passesG hl h hn (β 4) hg4 t w.2 (by rfl) ht hw2 59 (by decide)) rfl rfl (Nat.le_of_ble_eq_true rfl) (Nat.le_of_ble_eq_true rfl) (Nat.le_of_ble_eq_true rfl) (Nat.le_of_ble_eq_true rfl) (jk_r ?_)
                  refine j_if_ne (tgt := 103) C d_RR_readInto_95 (by decide) (fun c95 => ?_) (fun c95 => ?_)
                  · have h59 := pz_y c95
                    rw [pp_y h59]
                    refine j_aload_n C d_RR_readInto_103 rfl rfl ?_
                    refine j_iload_n C d_RR_readInto_104 rfl rfl ?_
                    refine j_iconst (v := 1) C d_RR_readInto_105 (by decide) ?_
                    refine j_iadd C d_RR_readInto_106 ?_
                    rw [nI_1]
                    refine jx_puti 6 6 C fp_1_28 d_RR_readInto_107 hn rfl (Nat.le_of_ble_eq_true rfl) rfl rfl rfl ?_
                    refine j_h (h' := (ovX xo (xq (upd (upd ξ 4 (nI t)) 6 (nI (rs ++ [(q.1, x, w.1)]).length)) (skp (β 4) t w.2 + 1)) β4 ρ u v h)) (by rw [xr_k (by decide), len_snoc]) ?_
                    refine j_aload_n C d_RR_readInto_110 rfl rfl ?_
                    refine j_callV C d_RR_readInto_111 ml_RR_33 mc_RR_skipBlanks in_RR_skipBlanks rfl se_RR_skipBlanks (by omega) (ovX_c (o := 5) rfl) (c_RR_skipBlanksG hl h hn (β 4) hg4 t (skp (β 4) t w.2 + 1) (by rfl) ht (hr_lt2 h59 (by decide))) rfl rfl (Nat.le_of_ble_eq_true rfl) (Nat.le_of_ble_eq_true rfl) (Nat.le_of_ble_eq_true rfl) (Nat.le_of_ble_eq_true rfl) (jk_v ?_)
                    have hpr : prule (β 4) t (skp (β 4) t a) = some ((q.1, x, w.1), skp (β 4) t w.2 + 1) := by rw [pr_e ht hB hs1 hsg hq1 hs2, if_pos h59, hx]
                    obtain ⟨g1, g2, g3⟩ := prule_gt ht hB hpr
                    have g4 := skp_ge (β 4) t a
                    refine j_iinc (v := nI (rs ++ [(q.1, x, w.1)]).length) C d_RR_readInto_114 rfl (by rw [len_snoc]; exact nI_inc _) (by decide) rfl ?_
                    refine j_goto (tgt := 29) C d_RR_readInto_117 (by decide) ?_
                    exact j_pick [0, 1, 2, 3] rfl (ih (skp (β 4) t w.2 + 1) β4 (rs ++ [(q.1, x, w.1)]) (hr_lt2 h59 (by decide)) (by have g5 : (skp (β 4) t a) < skp (β 4) t w.2 + 1 := g1; omega) (by rw [len_snoc]; omega) hA4 (RuX_snoc hX hLk g2 hB2 hB4) (Lk_snoc hLk g2 g3) (by rw [← hv, crul_s hlt' (by omega) hpr]))
                  · refine j_aload_n C d_RR_readInto_98 rfl rfl ?_
                    refine jx_get 5 C fl_1_15 d_RR_readInto_99 hn rfl rfl ?_
                    have er : crul (β 4) t (t + 1) 0 [] = none := by
                      rw [← hv]
                      exact crul_n hlt' (by rw [pr_e ht hB hs1 hsg hq1 hs2, if_neg (pz_n c95)])
                    rw [er] at hR
                    exact j_ireturn C d_RR_readInto_102 rfl (by decide) (by decide) ⟨_, rfl, rfl, _, rs.length, β4, (pp_le hw2 (by decide)), rfl, rfl, hA4⟩
            refine j_if_eq (tgt := 98) C d_RR_readInto_64 (by decide) (fun c64 => ?_) (fun c64 => ?_)
            · exact absurd c64 (by decide)
            · refine j_aload_n C d_RR_readInto_67 rfl rfl ?_
              refine j_aload_n C d_RR_readInto_68 rfl rfl ?_
              refine j_iload_n C d_RR_readInto_69 rfl rfl ?_
              by_cases x0 : hr (β 4) t (skp (β 4) t q.2) = 60
              · refine j_callV C d_RR_readInto_70 ml_RR_44 mc_RR_readComparison in_RR_readComparison rfl se_RR_readComparison (by omega) (ovX_c (o := 5) rfl) (c_RR_readComparisonG_6_0 hl h hn (β 4) hg2 t q.2 (by rfl) ht hq2 rs.length hk x0) rfl rfl (Nat.le_of_ble_eq_true rfl) (Nat.le_of_ble_eq_true rfl) (Nat.le_of_ble_eq_true rfl) (Nat.le_of_ble_eq_true rfl) (jk_r ?_)
                refine j_if_eq (tgt := 98) C d_RR_readInto_73 (by decide) (fun c73 => ?_) (fun c73 => ?_)
                · exact absurd c73 (by decide)
                · exact tail 60 x0 (by decide)
              · by_cases x1 : hr (β 4) t (skp (β 4) t q.2) = 61
                · refine j_callV C d_RR_readInto_70 ml_RR_44 mc_RR_readComparison in_RR_readComparison rfl se_RR_readComparison (by omega) (ovX_c (o := 5) rfl) (c_RR_readComparisonG_6_1 hl h hn (β 4) hg2 t q.2 (by rfl) ht hq2 rs.length hk x1) rfl rfl (Nat.le_of_ble_eq_true rfl) (Nat.le_of_ble_eq_true rfl) (Nat.le_of_ble_eq_true rfl) (Nat.le_of_ble_eq_true rfl) (jk_r ?_)
                  refine j_if_eq (tgt := 98) C d_RR_readInto_73 (by decide) (fun c73 => ?_) (fun c73 => ?_)
                  · exact absurd c73 (by decide)
                  · exact tail 61 x1 (by decide)
                · by_cases x2 : hr (β 4) t (skp (β 4) t q.2) = 33
                  · refine j_callV C d_RR_readInto_70 ml_RR_44 mc_RR_readComparison in_RR_readComparison rfl se_RR_readComparison (by omega) (ovX_c (o := 5) rfl) (c_RR_readComparisonG_6_2 hl h hn (β 4) hg2 t q.2 (by rfl) ht hq2 rs.length hk x2) rfl rfl (Nat.le_of_ble_eq_true rfl) (Nat.le_of_ble_eq_true rfl) (Nat.le_of_ble_eq_true rfl) (Nat.le_of_ble_eq_true rfl) (jk_r ?_)
                    refine j_if_eq (tgt := 98) C d_RR_readInto_73 (by decide) (fun c73 => ?_) (fun c73 => ?_)
                    · exact absurd c73 (by decide)
                    · exact tail 33 x2 (by decide)
                  · refine j_callV C d_RR_readInto_70 ml_RR_44 mc_RR_readComparison in_RR_readComparison rfl se_RR_readComparison (by omega) (ovX_c (o := 5) rfl) (c_RR_readComparisonG_6_3 hl h hn (β 4) hg2 t q.2 (by rfl) ht hq2 rs.length hk (fun z => z.elim x0 (fun y => y.elim x1 x2))) rfl rfl (Nat.le_of_ble_eq_true rfl) (Nat.le_of_ble_eq_true rfl) (Nat.le_of_ble_eq_true rfl) (Nat.le_of_ble_eq_true rfl) (jk_r ?_)
                    refine j_if_eq (tgt := 98) C d_RR_readInto_73 (by decide) (fun c73 => ?_) (fun c73 => ?_)
                    · refine j_aload_n C d_RR_readInto_98 rfl rfl ?_
                      refine jx_get 5 C fl_1_15 d_RR_readInto_99 hn rfl rfl ?_
                      have er : crul (β 4) t (t + 1) 0 [] = none := by
                        rw [← hv]
                        exact crul_n hlt' (pr_n2 ht hB hs1 (fun z => z.elim x0 (fun y => y.elim x1 x2)))
                      rw [er] at hR
                      exact j_ireturn C d_RR_readInto_102 rfl (by decide) (by decide) ⟨_, rfl, rfl, _, rs.length, β2, (skp_le _ hq2), rfl, rfl, hA2⟩
                    · exact absurd rfl c73
        · refine j_aload_n C d_RR_readInto_46 rfl rfl ?_
          refine jx_get 5 C fl_1_15 d_RR_readInto_47 hn rfl rfl ?_
          have er : crul (β 4) t (t + 1) 0 [] = none := by
            rw [← hv]
            exact crul_f hlt' (by have z : ¬ rs.length < 20 := fun y => c43 (show nI rs.length < nI 20 from nI_lt y (by omega)); omega)
          rw [er] at hR
          exact j_ireturn C d_RR_readInto_50 rfl (by decide) (by decide) ⟨_, rfl, rfl, (skp (β 4) t a), rs.length, β1, hB, rfl, rfl, hA⟩
  refine j_aload_n C d_RR_readInto_0 rfl rfl ?_
  refine j_iload_n C d_RR_readInto_1 rfl rfl ?_
  refine j_aload_n C d_RR_readInto_2 rfl rfl ?_
  refine jx_get 5 C fl_1_18 d_RR_readInto_3 hn rfl rfl ?_
  refine jx_alen 4 C d_RR_readInto_6 rfl hn rfl rfl ?_
  refine j_mmin (v := nI t) C d_RR_readInto_7 mm_RR_22 mm_st_min mm_ini mm_co_min (Nat.le_of_ble_eq_true rfl) (Nat.le_of_ble_eq_true rfl) (Nat.le_of_ble_eq_true rfl) (Nat.le_of_ble_eq_true rfl) (show (if nI 300 < nI t then nI 300 else nI t) = nI t by rw [if_neg (fun y => absurd (nI_le (a := t) (b := 300) ht (by omega)) (Int32.not_le.mpr y))]) ?_
  refine jx_puti 5 4 C fp_1_9 d_RR_readInto_10 hn rfl (Nat.le_of_ble_eq_true rfl) rfl rfl rfl ?_
  refine j_aload_n C d_RR_readInto_13 rfl rfl ?_
  refine j_iconst (v := 0) C d_RR_readInto_14 (by decide) ?_
  refine jx_puti 5 5 C fp_1_15 d_RR_readInto_15 hn rfl (Nat.le_of_ble_eq_true rfl) rfl rfl rfl ?_
  refine j_aload_n C d_RR_readInto_18 rfl rfl ?_
  refine j_iconst (v := 0) C d_RR_readInto_19 (by decide) ?_
  refine jx_puti 6 6 C fp_1_28 d_RR_readInto_20 hn rfl (Nat.le_of_ble_eq_true rfl) rfl rfl rfl ?_
  refine j_h (h' := (ovX xo (xq (upd (upd ξ 4 (nI t)) 6 (nI 0)) 0) β ρ u v h)) (by unfold xq; rw [upd_x (show (5 : Nat) ≠ 6 by decide)]; rfl) ?_
  refine j_aload_n C d_RR_readInto_23 rfl rfl ?_
  refine j_callV C d_RR_readInto_24 ml_RR_33 mc_RR_skipBlanks in_RR_skipBlanks rfl se_RR_skipBlanks (by omega) (ovX_c (o := 5) rfl) (c_RR_skipBlanksG hl h hn (β 4) rfl t 0 (by rfl) ht (by omega)) rfl rfl (Nat.le_of_ble_eq_true rfl) (Nat.le_of_ble_eq_true rfl) (Nat.le_of_ble_eq_true rfl) (Nat.le_of_ble_eq_true rfl) (jk_v ?_)
  refine j_iconst (v := 0) C d_RR_readInto_27 (by decide) ?_
  refine j_istore_n C d_RR_readInto_28 rfl (by decide) rfl ?_
  exact j_pick [0, 1, 2, 3] rfl (loop (t + 1) 0 β [] (by omega) (by omega) (by simp) (fun _ _ => rfl) (fun q x hx => by cases hx) (fun q x hx => by cases hx) rfl)

theorem c_RR_readSumG_13_s {l : Launch} (hl : l.stackTraces = false) {D : va_G} {cA : Nat → ClassId} {b n : Nat} {xo : Nat} {ξ : Nat → Int32} {β : Nat → Nat → Int32} {ρ : Nat → Option Nat} {u v : Nat} (h : AH) (hn : xo + 28 ≤ n) (g : Nat → Int32) (hg : β 4 = g) (t a0 : Nat) (h4 : ξ 4 = nI t) (ht : t ≤ 300) (ha0 : a0 ≤ t) (s0 : Nat) (hs : s0 < 40) (hc : β 16 s0 = nI 0) (q0 : List Tm × Nat) (hR : csum g t 4 1 a0 = some q0) : Cn l D cA b y_RR_readSum k_RR_readSum 4 65 0 0 [.ref (xo + 5), .ref (xo + 13), .int (nI s0)] n (ovX xo (xq ξ a0) β ρ u v h) (Rp (some (.int 1)) n (fun h' => ∃ β' : Nat → Nat → Int32, h' = ovX xo (xq ξ q0.2) β' ρ u v h ∧ Bst 13 β s0 β' q0.1)) := by
  subst hg
  exact c_RR_readSum_13_s hl h hn t a0 h4 ht ha0 s0 hs hc q0 hR
theorem c_RR_readSumG_13_n {l : Launch} (hl : l.stackTraces = false) {D : va_G} {cA : Nat → ClassId} {b n : Nat} {xo : Nat} {ξ : Nat → Int32} {β : Nat → Nat → Int32} {ρ : Nat → Option Nat} {u v : Nat} (h : AH) (hn : xo + 28 ≤ n) (g : Nat → Int32) (hg : β 4 = g) (t a0 : Nat) (h4 : ξ 4 = nI t) (ht : t ≤ 300) (ha0 : a0 ≤ t) (s0 : Nat) (hs : s0 < 40) (hc : β 16 s0 = nI 0) (hR : csum g t 4 1 a0 = none) : Cn l D cA b y_RR_readSum k_RR_readSum 4 65 0 0 [.ref (xo + 5), .ref (xo + 13), .int (nI s0)] n (ovX xo (xq ξ a0) β ρ u v h) (Rp (some (.int 0)) n (fun h' => ∃ (a' : Nat) (β' : Nat → Nat → Int32), a' ≤ t ∧ h' = ovX xo (xq ξ a') β' ρ u v h ∧ Ab 13 β' β)) := by
  subst hg
  exact c_RR_readSum_13_n hl h hn t a0 h4 ht ha0 s0 hs hc hR
theorem c_RR_readComparisonG_13_0 {l : Launch} (hl : l.stackTraces = false) {D : va_G} {cA : Nat → ClassId} {b n : Nat} {xo : Nat} {ξ : Nat → Int32} {β : Nat → Nat → Int32} {ρ : Nat → Option Nat} {u v : Nat} (h : AH) (hn : xo + 28 ≤ n) (g : Nat → Int32) (hg : β 4 = g) (t a0 : Nat) (h4 : ξ 4 = nI t) (ht : t ≤ 300) (ha0 : a0 ≤ t) (q0 : Nat) (hq : q0 < 20) (hS : hr g t (skp g t a0) = 60) : Cn l D cA b y_RR_readComparison k_RR_readComparison 2 25 0 0 [.ref (xo + 5), .ref (xo + 13), .int (nI q0)] n (ovX xo (xq ξ a0) β ρ u v h) (Re (some (.int 1)) n (ovX xo (xq ξ (skp g t a0 + 1)) (upa β 14 (upd (β 14) q0 60)) ρ u v h)) := by
  subst hg
  exact c_RR_readComparison_13_0 hl h hn t a0 h4 ht ha0 q0 hq hS
theorem c_RR_readComparisonG_13_1 {l : Launch} (hl : l.stackTraces = false) {D : va_G} {cA : Nat → ClassId} {b n : Nat} {xo : Nat} {ξ : Nat → Int32} {β : Nat → Nat → Int32} {ρ : Nat → Option Nat} {u v : Nat} (h : AH) (hn : xo + 28 ≤ n) (g : Nat → Int32) (hg : β 4 = g) (t a0 : Nat) (h4 : ξ 4 = nI t) (ht : t ≤ 300) (ha0 : a0 ≤ t) (q0 : Nat) (hq : q0 < 20) (hS : hr g t (skp g t a0) = 61) : Cn l D cA b y_RR_readComparison k_RR_readComparison 2 25 0 0 [.ref (xo + 5), .ref (xo + 13), .int (nI q0)] n (ovX xo (xq ξ a0) β ρ u v h) (Re (some (.int 1)) n (ovX xo (xq ξ (skp g t a0 + 1)) (upa β 14 (upd (β 14) q0 61)) ρ u v h)) := by
  subst hg
  exact c_RR_readComparison_13_1 hl h hn t a0 h4 ht ha0 q0 hq hS
theorem c_RR_readComparisonG_13_2 {l : Launch} (hl : l.stackTraces = false) {D : va_G} {cA : Nat → ClassId} {b n : Nat} {xo : Nat} {ξ : Nat → Int32} {β : Nat → Nat → Int32} {ρ : Nat → Option Nat} {u v : Nat} (h : AH) (hn : xo + 28 ≤ n) (g : Nat → Int32) (hg : β 4 = g) (t a0 : Nat) (h4 : ξ 4 = nI t) (ht : t ≤ 300) (ha0 : a0 ≤ t) (q0 : Nat) (hq : q0 < 20) (hS : hr g t (skp g t a0) = 33) : Cn l D cA b y_RR_readComparison k_RR_readComparison 2 25 0 0 [.ref (xo + 5), .ref (xo + 13), .int (nI q0)] n (ovX xo (xq ξ a0) β ρ u v h) (Re (some (.int 1)) n (ovX xo (xq ξ (skp g t a0 + 1)) (upa β 14 (upd (β 14) q0 33)) ρ u v h)) := by
  subst hg
  exact c_RR_readComparison_13_2 hl h hn t a0 h4 ht ha0 q0 hq hS
theorem c_RR_readComparisonG_13_3 {l : Launch} (hl : l.stackTraces = false) {D : va_G} {cA : Nat → ClassId} {b n : Nat} {xo : Nat} {ξ : Nat → Int32} {β : Nat → Nat → Int32} {ρ : Nat → Option Nat} {u v : Nat} (h : AH) (hn : xo + 28 ≤ n) (g : Nat → Int32) (hg : β 4 = g) (t a0 : Nat) (h4 : ξ 4 = nI t) (ht : t ≤ 300) (ha0 : a0 ≤ t) (q0 : Nat) (hq : q0 < 20) (hS : ¬ (hr g t (skp g t a0) = 60 ∨ hr g t (skp g t a0) = 61 ∨ hr g t (skp g t a0) = 33)) : Cn l D cA b y_RR_readComparison k_RR_readComparison 2 25 0 0 [.ref (xo + 5), .ref (xo + 13), .int (nI q0)] n (ovX xo (xq ξ a0) β ρ u v h) (Re (some (.int 0)) n (ovX xo (xq ξ (skp g t a0)) β ρ u v h)) := by
  subst hg
  exact c_RR_readComparison_13_3 hl h hn t a0 h4 ht ha0 q0 hq hS
set_option maxHeartbeats 4000000 in
set_option maxRecDepth 100000 in
theorem c_RR_readInto_13_s {l : Launch} (hl : l.stackTraces = false) {D : va_G} {cA : Nat → ClassId} {b n : Nat} {xo : Nat} {ξ : Nat → Int32} {β : Nat → Nat → Int32} {ρ : Nat → Option Nat} {u v : Nat} (h : AH) (hn : xo + 28 ≤ n) (t : Nat) (ht : t ≤ 300) (rs0 : List Ru) (hR : crul (β 4) t (t + 1) 0 [] = some rs0) : Cn l D cA b y_RR_readInto k_RR_readInto 5 81 0 0 [.ref (xo + 5), .ref (xo + 13), .int (nI t)] n (ovX xo ξ β ρ u v h) (Rp (some (.int (-1))) n (fun h' => ∃ (a' : Nat) (β' : Nat → Nat → Int32), h' = (ovX xo (xq (upd (upd ξ 4 (nI t)) 7 (nI rs0.length)) a') β' ρ u v h) ∧ Abw 13 β' β ∧ RuX (β' (13 + 1)) (β' (13 + 2)) (β' (13 + 3)) (β' (13 + 4)) (β' (13 + 5)) (β' (13 + 6)) rs0)) := by
  refine Cn.of (cc := b_RR_readInto) (maxL := 4) (ret := (some .int)) (hh := []) (by decide +kernel) hl (Or.inl ⟨rfl, rfl⟩) (Nat.le_of_ble_eq_true rfl) ?_
  intro p e s m args below meth c C
  have loop : ∀ (n9 a : Nat) (β1 : Nat → Nat → Int32) (rs : List Ru), a ≤ t → t + 1 ≤ a + n9 → rs.length ≤ 20 → Abw 13 β1 β → RuX (β1 (13 + 1)) (β1 (13 + 2)) (β1 (13 + 3)) (β1 (13 + 4)) (β1 (13 + 5)) (β1 (13 + 6)) rs → Lk rs → crul (β 4) t n9 a rs = crul (β 4) t (t + 1) 0 [] → J p l e { frames := 5, cells := 0, slots := 0, locals := 81 } s m args below meth c D cA b 4 (EndQ D cA b s below (Rp (some (.int (-1))) n (fun h' => ∃ (a' : Nat) (β' : Nat → Nat → Int32), h' = (ovX xo (xq (upd (upd ξ 4 (nI t)) 7 (nI rs0.length)) a') β' ρ u v h) ∧ Abw 13 β' β ∧ RuX (β' (13 + 1)) (β' (13 + 2)) (β' (13 + 3)) (β' (13 + 4)) (β' (13 + 5)) (β' (13 + 6)) rs0)) 0 0) n (ovX xo (xq (upd (upd ξ 4 (nI t)) 7 (nI rs.length)) (skp (β 4) t a)) β1 ρ u v h) 0 0 29 [(3, .int (nI rs.length)), (0, .ref (xo + 5)), (1, .ref (xo + 13)), (2, .int (nI t))] [] := by
    intro n9
    induction n9 with
    | zero =>
      intro a β1 rs ha hf
      exact absurd hf (by omega)
    | succ n9 ih =>
      intro a β1 rs ha hf hl20 hA hX hLk hv
      have hB := skp_le (β 4) ha
      refine j_aload_n C d_RR_readInto_29 rfl rfl ?_
      refine jx_get 5 C fl_1_15 d_RR_readInto_30 hn rfl rfl ?_
      refine j_aload_n C d_RR_readInto_33 rfl rfl ?_
      refine jx_get 5 C fl_1_9 d_RR_readInto_34 hn rfl rfl ?_
      refine j_icmp_ge (tgt := 120) C d_RR_readInto_37 (by decide) (fun c37 => ?_) (fun c37 => ?_)
      · have hge : t ≤ (skp (β 4) t a) := Nat.le_of_not_lt (fun y => absurd (show nI t ≤ nI (skp (β 4) t a) from c37) (nI_ge y (by omega)))
        refine j_iconst (v := (-1)) C d_RR_readInto_120 (by decide) ?_
        have er : crul (β 4) t (t + 1) 0 [] = some rs := by
          rw [← hv]
          exact crul_e hge
        rw [er] at hR
        cases hR
        exact j_ireturn C d_RR_readInto_121 rfl (by decide) (by decide) ⟨rfl, rfl, _, β1, rfl, hA, hX⟩
      · have hlt' : ¬ t ≤ (skp (β 4) t a) := fun y => c37 (show nI t ≤ nI (skp (β 4) t a) from nI_le y (by omega))
        refine j_iload_n C d_RR_readInto_40 rfl rfl ?_
        refine j_bipush (v := 20) C d_RR_readInto_41 (by decide) ?_
        refine j_icmp_lt (tgt := 51) C d_RR_readInto_43 (by decide) (fun c43 => ?_) (fun c43 => ?_)
        · have hk : rs.length < 20 := Nat.lt_of_not_le (fun y => absurd (show nI rs.length < nI 20 from c43) (fun x9 => absurd (nI_le (a := 20) (b := rs.length) y (by omega)) (Int32.not_le.mpr x9)))
          refine j_aload_n C d_RR_readInto_51 rfl rfl ?_
          refine j_iload_n C d_RR_readInto_52 rfl rfl ?_
          refine j_callV C d_RR_readInto_53 ml_RR_36 mc_RB_startRule in_RB_startRule rfl se_RB_startRule (by omega) (ovX_c (o := 13) rfl) (c_RB_startRule_13 hl h hn rs.length hk) rfl rfl (Nat.le_of_ble_eq_true rfl) (Nat.le_of_ble_eq_true rfl) (Nat.le_of_ble_eq_true rfl) (Nat.le_of_ble_eq_true rfl) (jk_v ?_)
          refine j_aload_n C d_RR_readInto_56 rfl rfl ?_
          refine j_aload_n C d_RR_readInto_57 rfl rfl ?_
          refine j_iconst (v := 2) C d_RR_readInto_58 (by decide) ?_
          refine j_iload_n C d_RR_readInto_59 rfl rfl ?_
          refine j_imul C d_RR_readInto_60 ?_
          rw [e2q]
          have hA1 : Abw 13 (stR 13 β1 rs.length) β := Abw_t (Ab_w stR_w) hA
          have hg1 : stR 13 β1 rs.length 4 = β 4 := hA1 4 (by omega)
          cases hs1 : csum (β 4) t 4 1 (skp (β 4) t a) with
          | none =>
            refine j_callV C d_RR_readInto_61 ml_RR_40 mc_RR_readSum in_RR_readSum rfl se_RR_readSum (by omega) (ovX_c (o := 5) rfl) (c_RR_readSumG_13_n hl h hn (β 4) hg1 t (skp (β 4) t a) (by rfl) ht hB (2 * rs.length) (by omega) (stR_a 13 β1 rs.length) hs1) rfl rfl (Nat.le_of_ble_eq_true rfl) (Nat.le_of_ble_eq_true rfl) (Nat.le_of_ble_eq_true rfl) (Nat.le_of_ble_eq_true rfl) (jk_p (fun h9 hP9 => ?_))
            obtain ⟨a9, β9, ha9, rfl, hA9⟩ := hP9
            refine j_if_eq (tgt := 98) C d_RR_readInto_64 (by decide) (fun c64 => ?_) (fun c64 => ?_)
            · refine j_aload_n C d_RR_readInto_98 rfl rfl ?_
              refine jx_get 5 C fl_1_15 d_RR_readInto_99 hn rfl rfl ?_
              have er : crul (β 4) t (t + 1) 0 [] = none := by
                rw [← hv]
                exact crul_n hlt' (pr_n1 ht hB hs1)
              rw [er] at hR
              cases hR
            · exact absurd rfl c64
          | some q =>
            refine j_callV C d_RR_readInto_61 ml_RR_40 mc_RR_readSum in_RR_readSum rfl se_RR_readSum (by omega) (ovX_c (o := 5) rfl) (c_RR_readSumG_13_s hl h hn (β 4) hg1 t (skp (β 4) t a) (by rfl) ht hB (2 * rs.length) (by omega) (stR_a 13 β1 rs.length) q hs1) rfl rfl (Nat.le_of_ble_eq_true rfl) (Nat.le_of_ble_eq_true rfl) (Nat.le_of_ble_eq_true rfl) (Nat.le_of_ble_eq_true rfl) (jk_p (fun h9 hP9 => ?_))
            obtain ⟨β2, rfl, hB2⟩ := hP9
            have hq2 := csum_le 4 1 _ q hB hs1
            have hA2 : Abw 13 β2 β := Abw_t (Ab_w hB2.1) hA1
            have hg2 : β2 4 = β 4 := hA2 4 (by omega)
            have tail : ∀ x : Int32, hr (β 4) t (skp (β 4) t q.2) = x → (x = 60 ∨ x = 61 ∨ x = 33) → J p l e { frames := 5, cells := 0, slots := 0, locals := 81 } s m args below meth c D cA b 4 (EndQ D cA b s below (Rp (some (.int (-1))) n (fun h' => ∃ (a' : Nat) (β' : Nat → Nat → Int32), h' = (ovX xo (xq (upd (upd ξ 4 (nI t)) 7 (nI rs0.length)) a') β' ρ u v h) ∧ Abw 13 β' β ∧ RuX (β' (13 + 1)) (β' (13 + 2)) (β' (13 + 3)) (β' (13 + 4)) (β' (13 + 5)) (β' (13 + 6)) rs0)) 0 0) n (ovX xo (xq (upd (upd ξ 4 (nI t)) 7 (nI rs.length)) ((skp (β 4) t q.2) + 1)) (upa β2 14 (upd (β2 14) rs.length x)) ρ u v h) 0 0 76 [(3, .int (nI rs.length)), (0, .ref (xo + 5)), (1, .ref (xo + 13)), (2, .int (nI t))] [] := by
              intro x hx h3
              have hsg : hr (β 4) t (skp (β 4) t q.2) = 60 ∨ hr (β 4) t (skp (β 4) t q.2) = 61 ∨ hr (β 4) t (skp (β 4) t q.2) = 33 := by rw [hx]; exact h3
              have hq1 : (skp (β 4) t q.2) + 1 ≤ t := hr_lt2 hx (by rcases h3 with z | z | z <;> rw [z] <;> decide)
              have hA3 : Abw 13 (upa β2 14 (upd (β2 14) rs.length x)) β := Abw_t (Abw_c (bo := 13)) hA2
              have hg3 : (upa β2 14 (upd (β2 14) rs.length x)) 4 = β 4 := hA3 4 (by omega)
              have hc3 : (upa β2 14 (upd (β2 14) rs.length x)) 16 (2 * rs.length + 1) = nI 0 := by
                rw [upa_n (by decide)]
                exact (hB2.2.2.2.2.1 (2 * rs.length + 1) (by omega)).trans (stR_b 13 β1 rs.length)
              refine j_aload_n C d_RR_readInto_76 rfl rfl ?_
              refine j_aload_n C d_RR_readInto_77 rfl rfl ?_
              refine j_iconst (v := 2) C d_RR_readInto_78 (by decide) ?_
              refine j_iload_n C d_RR_readInto_79 rfl rfl ?_
              refine j_imul C d_RR_readInto_80 ?_
              refine j_iconst (v := 1) C d_RR_readInto_81 (by decide) ?_
              refine j_iadd C d_RR_readInto_82 ?_
              rw [e2q1]
              cases hs2 : csum (β 4) t 4 1 ((skp (β 4) t q.2) + 1) with
              | none =>
                refine j_callV C d_RR_readInto_83 ml_RR_40 mc_RR_readSum in_RR_readSum rfl se_RR_readSum (by omega) (ovX_c (o := 5) rfl) (c_RR_readSumG_13_n hl h hn (β 4) hg3 t ((skp (β 4) t q.2) + 1) (by rfl) ht hq1 (2 * rs.length + 1) (by omega) hc3 hs2) rfl rfl (Nat.le_of_ble_eq_true rfl) (Nat.le_of_ble_eq_true rfl) (Nat.le_of_ble_eq_true rfl) (Nat.le_of_ble_eq_true rfl) (jk_p (fun h9 hP9 => ?_))
                obtain ⟨a9, β9, ha9, rfl, hA9⟩ := hP9
                refine j_if_eq (tgt := 98) C d_RR_readInto_86 (by decide) (fun c86 => ?_) (fun c86 => ?_)
                · refine j_aload_n C d_RR_readInto_98 rfl rfl ?_
                  refine jx_get 5 C fl_1_15 d_RR_readInto_99 hn rfl rfl ?_
                  have er : crul (β 4) t (t + 1) 0 [] = none := by
                    rw [← hv]
                    exact crul_n hlt' (pr_n3 ht hB hs1 hsg hq1 hs2)
                  rw [er] at hR
                  cases hR
                · exact absurd rfl c86
              | some w =>
                refine j_callV C d_RR_readInto_83 ml_RR_40 mc_RR_readSum in_RR_readSum rfl se_RR_readSum (by omega) (ovX_c (o := 5) rfl) (c_RR_readSumG_13_s hl h hn (β 4) hg3 t ((skp (β 4) t q.2) + 1) (by rfl) ht hq1 (2 * rs.length + 1) (by omega) hc3 w hs2) rfl rfl (Nat.le_of_ble_eq_true rfl) (Nat.le_of_ble_eq_true rfl) (Nat.le_of_ble_eq_true rfl) (Nat.le_of_ble_eq_true rfl) (jk_p (fun h9 hP9 => ?_))
                obtain ⟨β4, rfl, hB4⟩ := hP9
                have hw2 := csum_le 4 1 _ w hq1 hs2
                have hA4 : Abw 13 β4 β := Abw_t (Ab_w hB4.1) hA3
                have hg4 : β4 4 = β 4 := hA4 4 (by omega)
                refine j_if_eq (tgt := 98) C d_RR_readInto_86 (by decide) (fun c86 => ?_) (fun c86 => ?_)
                · exact absurd c86 (by decide)
                · refine j_aload_n C d_RR_readInto_89 rfl rfl ?_
                  refine j_bipush (v := 59) C d_RR_readInto_90 (by decide) ?_
                  refine j_callV C d_RR_readInto_92 ml_RR_47 mc_RR_passes in_RR_passes rfl se_RR_passes (by omega) (ovX_c (o := 5) rfl) (c_RR_passesG hl h hn (β 4) hg4 t w.2 (by rfl) ht hw2 59 (by decide)) rfl rfl (Nat.le_of_ble_eq_true rfl) (Nat.le_of_ble_eq_true rfl) (Nat.le_of_ble_eq_true rfl) (Nat.le_of_ble_eq_true rfl) (jk_r ?_)
                  refine j_if_ne (tgt := 103) C d_RR_readInto_95 (by decide) (fun c95 => ?_) (fun c95 => ?_)
                  · have h59 := pz_y c95
                    rw [pp_y h59]
                    refine j_aload_n C d_RR_readInto_103 rfl rfl ?_
                    refine j_iload_n C d_RR_readInto_104 rfl rfl ?_
                    refine j_iconst (v := 1) C d_RR_readInto_105 (by decide) ?_
                    refine j_iadd C d_RR_readInto_106 ?_
                    rw [nI_1]
                    refine jx_puti 13 7 C fp_1_28 d_RR_readInto_107 hn rfl (Nat.le_of_ble_eq_true rfl) rfl rfl rfl ?_
                    refine j_h (h' := (ovX xo (xq (upd (upd ξ 4 (nI t)) 7 (nI (rs ++ [(q.1, x, w.1)]).length)) (skp (β 4) t w.2 + 1)) β4 ρ u v h)) (by rw [xr_k (by decide), len_snoc]) ?_
                    refine j_aload_n C d_RR_readInto_110 rfl rfl ?_
                    refine j_callV C d_RR_readInto_111 ml_RR_33 mc_RR_skipBlanks in_RR_skipBlanks rfl se_RR_skipBlanks (by omega) (ovX_c (o := 5) rfl) (c_RR_skipBlanksG hl h hn (β 4) hg4 t (skp (β 4) t w.2 + 1) (by rfl) ht (hr_lt2 h59 (by decide))) rfl rfl (Nat.le_of_ble_eq_true rfl) (Nat.le_of_ble_eq_true rfl) (Nat.le_of_ble_eq_true rfl) (Nat.le_of_ble_eq_true rfl) (jk_v ?_)
                    have hpr : prule (β 4) t (skp (β 4) t a) = some ((q.1, x, w.1), skp (β 4) t w.2 + 1) := by rw [pr_e ht hB hs1 hsg hq1 hs2, if_pos h59, hx]
                    obtain ⟨g1, g2, g3⟩ := prule_gt ht hB hpr
                    have g4 := skp_ge (β 4) t a
                    refine j_iinc (v := nI (rs ++ [(q.1, x, w.1)]).length) C d_RR_readInto_114 rfl (by rw [len_snoc]; exact nI_inc _) (by decide) rfl ?_
                    refine j_goto (tgt := 29) C d_RR_readInto_117 (by decide) ?_
                    exact j_pick [0, 1, 2, 3] rfl (ih (skp (β 4) t w.2 + 1) β4 (rs ++ [(q.1, x, w.1)]) (hr_lt2 h59 (by decide)) (by have g5 : (skp (β 4) t a) < skp (β 4) t w.2 + 1 := g1; omega) (by rw [len_snoc]; omega) hA4 (RuX_snoc hX hLk g2 hB2 hB4) (Lk_snoc hLk g2 g3) (by rw [← hv, crul_s hlt' (by omega) hpr]))
                  · refine j_aload_n C d_RR_readInto_98 rfl rfl ?_
                    refine jx_get 5 C fl_1_15 d_RR_readInto_99 hn rfl rfl ?_
                    have er : crul (β 4) t (t + 1) 0 [] = none := by
                      rw [← hv]
                      exact crul_n hlt' (by rw [pr_e ht hB hs1 hsg hq1 hs2, if_neg (pz_n c95)])
                    rw [er] at hR
                    cases hR
            refine j_if_eq (tgt := 98) C d_RR_readInto_64 (by decide) (fun c64 => ?_) (fun c64 => ?_)
            · exact absurd c64 (by decide)
            · refine j_aload_n C d_RR_readInto_67 rfl rfl ?_
              refine j_aload_n C d_RR_readInto_68 rfl rfl ?_
              refine j_iload_n C d_RR_readInto_69 rfl rfl ?_
              by_cases x0 : hr (β 4) t (skp (β 4) t q.2) = 60
              · refine j_callV C d_RR_readInto_70 ml_RR_44 mc_RR_readComparison in_RR_readComparison rfl se_RR_readComparison (by omega) (ovX_c (o := 5) rfl) (c_RR_readComparisonG_13_0 hl h hn (β 4) hg2 t q.2 (by rfl) ht hq2 rs.length hk x0) rfl rfl (Nat.le_of_ble_eq_true rfl) (Nat.le_of_ble_eq_true rfl) (Nat.le_of_ble_eq_true rfl) (Nat.le_of_ble_eq_true rfl) (jk_r ?_)
                refine j_if_eq (tgt := 98) C d_RR_readInto_73 (by decide) (fun c73 => ?_) (fun c73 => ?_)
                · exact absurd c73 (by decide)
                · exact tail 60 x0 (by decide)
              · by_cases x1 : hr (β 4) t (skp (β 4) t q.2) = 61
                · refine j_callV C d_RR_readInto_70 ml_RR_44 mc_RR_readComparison in_RR_readComparison rfl se_RR_readComparison (by omega) (ovX_c (o := 5) rfl) (c_RR_readComparisonG_13_1 hl h hn (β 4) hg2 t q.2 (by rfl) ht hq2 rs.length hk x1) rfl rfl (Nat.le_of_ble_eq_true rfl) (Nat.le_of_ble_eq_true rfl) (Nat.le_of_ble_eq_true rfl) (Nat.le_of_ble_eq_true rfl) (jk_r ?_)
                  refine j_if_eq (tgt := 98) C d_RR_readInto_73 (by decide) (fun c73 => ?_) (fun c73 => ?_)
                  · exact absurd c73 (by decide)
                  · exact tail 61 x1 (by decide)
                · by_cases x2 : hr (β 4) t (skp (β 4) t q.2) = 33
                  · refine j_callV C d_RR_readInto_70 ml_RR_44 mc_RR_readComparison in_RR_readComparison rfl se_RR_readComparison (by omega) (ovX_c (o := 5) rfl) (c_RR_readComparisonG_13_2 hl h hn (β 4) hg2 t q.2 (by rfl) ht hq2 rs.length hk x2) rfl rfl (Nat.le_of_ble_eq_true rfl) (Nat.le_of_ble_eq_true rfl) (Nat.le_of_ble_eq_true rfl) (Nat.le_of_ble_eq_true rfl) (jk_r ?_)
                    refine j_if_eq (tgt := 98) C d_RR_readInto_73 (by decide) (fun c73 => ?_) (fun c73 => ?_)
                    · exact absurd c73 (by decide)
                    · exact tail 33 x2 (by decide)
                  · refine j_callV C d_RR_readInto_70 ml_RR_44 mc_RR_readComparison in_RR_readComparison rfl se_RR_readComparison (by omega) (ovX_c (o := 5) rfl) (c_RR_readComparisonG_13_3 hl h hn (β 4) hg2 t q.2 (by rfl) ht hq2 rs.length hk (fun z => z.elim x0 (fun y => y.elim x1 x2))) rfl rfl (Nat.le_of_ble_eq_true rfl) (Nat.le_of_ble_eq_true rfl) (Nat.le_of_ble_eq_true rfl) (Nat.le_of_ble_eq_true rfl) (jk_r ?_)
                    refine j_if_eq (tgt := 98) C d_RR_readInto_73 (by decide) (fun c73 => ?_) (fun c73 => ?_)
                    · refine j_aload_n C d_RR_readInto_98 rfl rfl ?_
                      refine jx_get 5 C fl_1_15 d_RR_readInto_99 hn rfl rfl ?_
                      have er : crul (β 4) t (t + 1) 0 [] = none := by
                        rw [← hv]
                        exact crul_n hlt' (pr_n2 ht hB hs1 (fun z => z.elim x0 (fun y => y.elim x1 x2)))
                      rw [er] at hR
                      cases hR
                    · exact absurd rfl c73
        · refine j_aload_n C d_RR_readInto_46 rfl rfl ?_
          refine jx_get 5 C fl_1_15 d_RR_readInto_47 hn rfl rfl ?_
          have er : crul (β 4) t (t + 1) 0 [] = none := by
            rw [← hv]
            exact crul_f hlt' (by have z : ¬ rs.length < 20 := fun y => c43 (show nI rs.length < nI 20 from nI_lt y (by omega)); omega)
          rw [er] at hR
          cases hR
  refine j_aload_n C d_RR_readInto_0 rfl rfl ?_
  refine j_iload_n C d_RR_readInto_1 rfl rfl ?_
  refine j_aload_n C d_RR_readInto_2 rfl rfl ?_
  refine jx_get 5 C fl_1_18 d_RR_readInto_3 hn rfl rfl ?_
  refine jx_alen 4 C d_RR_readInto_6 rfl hn rfl rfl ?_
  refine j_mmin (v := nI t) C d_RR_readInto_7 mm_RR_22 mm_st_min mm_ini mm_co_min (Nat.le_of_ble_eq_true rfl) (Nat.le_of_ble_eq_true rfl) (Nat.le_of_ble_eq_true rfl) (Nat.le_of_ble_eq_true rfl) (show (if nI 300 < nI t then nI 300 else nI t) = nI t by rw [if_neg (fun y => absurd (nI_le (a := t) (b := 300) ht (by omega)) (Int32.not_le.mpr y))]) ?_
  refine jx_puti 5 4 C fp_1_9 d_RR_readInto_10 hn rfl (Nat.le_of_ble_eq_true rfl) rfl rfl rfl ?_
  refine j_aload_n C d_RR_readInto_13 rfl rfl ?_
  refine j_iconst (v := 0) C d_RR_readInto_14 (by decide) ?_
  refine jx_puti 5 5 C fp_1_15 d_RR_readInto_15 hn rfl (Nat.le_of_ble_eq_true rfl) rfl rfl rfl ?_
  refine j_aload_n C d_RR_readInto_18 rfl rfl ?_
  refine j_iconst (v := 0) C d_RR_readInto_19 (by decide) ?_
  refine jx_puti 13 7 C fp_1_28 d_RR_readInto_20 hn rfl (Nat.le_of_ble_eq_true rfl) rfl rfl rfl ?_
  refine j_h (h' := (ovX xo (xq (upd (upd ξ 4 (nI t)) 7 (nI 0)) 0) β ρ u v h)) (by unfold xq; rw [upd_x (show (5 : Nat) ≠ 7 by decide)]; rfl) ?_
  refine j_aload_n C d_RR_readInto_23 rfl rfl ?_
  refine j_callV C d_RR_readInto_24 ml_RR_33 mc_RR_skipBlanks in_RR_skipBlanks rfl se_RR_skipBlanks (by omega) (ovX_c (o := 5) rfl) (c_RR_skipBlanksG hl h hn (β 4) rfl t 0 (by rfl) ht (by omega)) rfl rfl (Nat.le_of_ble_eq_true rfl) (Nat.le_of_ble_eq_true rfl) (Nat.le_of_ble_eq_true rfl) (Nat.le_of_ble_eq_true rfl) (jk_v ?_)
  refine j_iconst (v := 0) C d_RR_readInto_27 (by decide) ?_
  refine j_istore_n C d_RR_readInto_28 rfl (by decide) rfl ?_
  exact j_pick [0, 1, 2, 3] rfl (loop (t + 1) 0 β [] (by omega) (by omega) (by simp) (fun _ _ => rfl) (fun q x hx => by cases hx) (fun q x hx => by cases hx) rfl)

set_option maxHeartbeats 4000000 in
set_option maxRecDepth 100000 in
theorem c_RR_readInto_13_n {l : Launch} (hl : l.stackTraces = false) {D : va_G} {cA : Nat → ClassId} {b n : Nat} {xo : Nat} {ξ : Nat → Int32} {β : Nat → Nat → Int32} {ρ : Nat → Option Nat} {u v : Nat} (h : AH) (hn : xo + 28 ≤ n) (t : Nat) (ht : t ≤ 300) (hR : crul (β 4) t (t + 1) 0 [] = none) : Cn l D cA b y_RR_readInto k_RR_readInto 5 81 0 0 [.ref (xo + 5), .ref (xo + 13), .int (nI t)] n (ovX xo ξ β ρ u v h) (Rw n (fun w h' => ∃ (a' k' : Nat) (β' : Nat → Nat → Int32), a' ≤ t ∧ w = nI a' ∧ h' = (ovX xo (xq (upd (upd ξ 4 (nI t)) 7 (nI k')) a') β' ρ u v h) ∧ Abw 13 β' β)) := by
  refine Cn.of (cc := b_RR_readInto) (maxL := 4) (ret := (some .int)) (hh := []) (by decide +kernel) hl (Or.inl ⟨rfl, rfl⟩) (Nat.le_of_ble_eq_true rfl) ?_
  intro p e s m args below meth c C
  have loop : ∀ (n9 a : Nat) (β1 : Nat → Nat → Int32) (rs : List Ru), a ≤ t → t + 1 ≤ a + n9 → rs.length ≤ 20 → Abw 13 β1 β → RuX (β1 (13 + 1)) (β1 (13 + 2)) (β1 (13 + 3)) (β1 (13 + 4)) (β1 (13 + 5)) (β1 (13 + 6)) rs → Lk rs → crul (β 4) t n9 a rs = crul (β 4) t (t + 1) 0 [] → J p l e { frames := 5, cells := 0, slots := 0, locals := 81 } s m args below meth c D cA b 4 (EndQ D cA b s below (Rw n (fun w h' => ∃ (a' k' : Nat) (β' : Nat → Nat → Int32), a' ≤ t ∧ w = nI a' ∧ h' = (ovX xo (xq (upd (upd ξ 4 (nI t)) 7 (nI k')) a') β' ρ u v h) ∧ Abw 13 β' β)) 0 0) n (ovX xo (xq (upd (upd ξ 4 (nI t)) 7 (nI rs.length)) (skp (β 4) t a)) β1 ρ u v h) 0 0 29 [(3, .int (nI rs.length)), (0, .ref (xo + 5)), (1, .ref (xo + 13)), (2, .int (nI t))] [] := by
    intro n9
    induction n9 with
    | zero =>
      intro a β1 rs ha hf
      exact absurd hf (by omega)
    | succ n9 ih =>
      intro a β1 rs ha hf hl20 hA hX hLk hv
      have hB := skp_le (β 4) ha
      refine j_aload_n C d_RR_readInto_29 rfl rfl ?_
      refine jx_get 5 C fl_1_15 d_RR_readInto_30 hn rfl rfl ?_
      refine j_aload_n C d_RR_readInto_33 rfl rfl ?_
      refine jx_get 5 C fl_1_9 d_RR_readInto_34 hn rfl rfl ?_
      refine j_icmp_ge (tgt := 120) C d_RR_readInto_37 (by decide) (fun c37 => ?_) (fun c37 => ?_)
      · have hge : t ≤ (skp (β 4) t a) := Nat.le_of_not_lt (fun y => absurd (show nI t ≤ nI (skp (β 4) t a) from c37) (nI_ge y (by omega)))
        refine j_iconst (v := (-1)) C d_RR_readInto_120 (by decide) ?_
        have er : crul (β 4) t (t + 1) 0 [] = some rs := by
          rw [← hv]
          exact crul_e hge
        rw [er] at hR
        cases hR
      · have hlt' : ¬ t ≤ (skp (β 4) t a) := fun y => c37 (show nI t ≤ nI (skp (β 4) t a) from nI_le y (by omega))
        refine j_iload_n C d_RR_readInto_40 rfl rfl ?_
        refine j_bipush (v := 20) C d_RR_readInto_41 (by decide) ?_
        refine j_icmp_lt (tgt := 51) C d_RR_readInto_43 (by decide) (fun c43 => ?_) (fun c43 => ?_)
        · have hk : rs.length < 20 := Nat.lt_of_not_le (fun y => absurd (show nI rs.length < nI 20 from c43) (fun x9 => absurd (nI_le (a := 20) (b := rs.length) y (by omega)) (Int32.not_le.mpr x9)))
          refine j_aload_n C d_RR_readInto_51 rfl rfl ?_
          refine j_iload_n C d_RR_readInto_52 rfl rfl ?_
          refine j_callV C d_RR_readInto_53 ml_RR_36 mc_RB_startRule in_RB_startRule rfl se_RB_startRule (by omega) (ovX_c (o := 13) rfl) (c_RB_startRule_13 hl h hn rs.length hk) rfl rfl (Nat.le_of_ble_eq_true rfl) (Nat.le_of_ble_eq_true rfl) (Nat.le_of_ble_eq_true rfl) (Nat.le_of_ble_eq_true rfl) (jk_v ?_)
          refine j_aload_n C d_RR_readInto_56 rfl rfl ?_
          refine j_aload_n C d_RR_readInto_57 rfl rfl ?_
          refine j_iconst (v := 2) C d_RR_readInto_58 (by decide) ?_
          refine j_iload_n C d_RR_readInto_59 rfl rfl ?_
          refine j_imul C d_RR_readInto_60 ?_
          rw [e2q]
          have hA1 : Abw 13 (stR 13 β1 rs.length) β := Abw_t (Ab_w stR_w) hA
          have hg1 : stR 13 β1 rs.length 4 = β 4 := hA1 4 (by omega)
          cases hs1 : csum (β 4) t 4 1 (skp (β 4) t a) with
          | none =>
            refine j_callV C d_RR_readInto_61 ml_RR_40 mc_RR_readSum in_RR_readSum rfl se_RR_readSum (by omega) (ovX_c (o := 5) rfl) (c_RR_readSumG_13_n hl h hn (β 4) hg1 t (skp (β 4) t a) (by rfl) ht hB (2 * rs.length) (by omega) (stR_a 13 β1 rs.length) hs1) rfl rfl (Nat.le_of_ble_eq_true rfl) (Nat.le_of_ble_eq_true rfl) (Nat.le_of_ble_eq_true rfl) (Nat.le_of_ble_eq_true rfl) (jk_p (fun h9 hP9 => ?_))
            obtain ⟨a9, β9, ha9, rfl, hA9⟩ := hP9
            refine j_if_eq (tgt := 98) C d_RR_readInto_64 (by decide) (fun c64 => ?_) (fun c64 => ?_)
            · refine j_aload_n C d_RR_readInto_98 rfl rfl ?_
              refine jx_get 5 C fl_1_15 d_RR_readInto_99 hn rfl rfl ?_
              have er : crul (β 4) t (t + 1) 0 [] = none := by
                rw [← hv]
                exact crul_n hlt' (pr_n1 ht hB hs1)
              rw [er] at hR
              exact j_ireturn C d_RR_readInto_102 rfl (by decide) (by decide) ⟨_, rfl, rfl, a9, rs.length, β9, ha9, rfl, rfl, (Abw_t (Ab_w hA9) hA1)⟩
            · exact absurd rfl c64
          | some q =>
            refine j_callV C d_RR_readInto_61 ml_RR_40 mc_RR_readSum in_RR_readSum rfl se_RR_readSum (by omega) (ovX_c (o := 5) rfl) (c_RR_readSumG_13_s hl h hn (β 4) hg1 t (skp (β 4) t a) (by rfl) ht hB (2 * rs.length) (by omega) (stR_a 13 β1 rs.length) q hs1) rfl rfl (Nat.le_of_ble_eq_true rfl) (Nat.le_of_ble_eq_true rfl) (Nat.le_of_ble_eq_true rfl) (Nat.le_of_ble_eq_true rfl) (jk_p (fun h9 hP9 => ?_))
            obtain ⟨β2, rfl, hB2⟩ := hP9
            have hq2 := csum_le 4 1 _ q hB hs1
            have hA2 : Abw 13 β2 β := Abw_t (Ab_w hB2.1) hA1
            have hg2 : β2 4 = β 4 := hA2 4 (by omega)
            have tail : ∀ x : Int32, hr (β 4) t (skp (β 4) t q.2) = x → (x = 60 ∨ x = 61 ∨ x = 33) → J p l e { frames := 5, cells := 0, slots := 0, locals := 81 } s m args below meth c D cA b 4 (EndQ D cA b s below (Rw n (fun w h' => ∃ (a' k' : Nat) (β' : Nat → Nat → Int32), a' ≤ t ∧ w = nI a' ∧ h' = (ovX xo (xq (upd (upd ξ 4 (nI t)) 7 (nI k')) a') β' ρ u v h) ∧ Abw 13 β' β)) 0 0) n (ovX xo (xq (upd (upd ξ 4 (nI t)) 7 (nI rs.length)) ((skp (β 4) t q.2) + 1)) (upa β2 14 (upd (β2 14) rs.length x)) ρ u v h) 0 0 76 [(3, .int (nI rs.length)), (0, .ref (xo + 5)), (1, .ref (xo + 13)), (2, .int (nI t))] [] := by
              intro x hx h3
              have hsg : hr (β 4) t (skp (β 4) t q.2) = 60 ∨ hr (β 4) t (skp (β 4) t q.2) = 61 ∨ hr (β 4) t (skp (β 4) t q.2) = 33 := by rw [hx]; exact h3
              have hq1 : (skp (β 4) t q.2) + 1 ≤ t := hr_lt2 hx (by rcases h3 with z | z | z <;> rw [z] <;> decide)
              have hA3 : Abw 13 (upa β2 14 (upd (β2 14) rs.length x)) β := Abw_t (Abw_c (bo := 13)) hA2
              have hg3 : (upa β2 14 (upd (β2 14) rs.length x)) 4 = β 4 := hA3 4 (by omega)
              have hc3 : (upa β2 14 (upd (β2 14) rs.length x)) 16 (2 * rs.length + 1) = nI 0 := by
                rw [upa_n (by decide)]
                exact (hB2.2.2.2.2.1 (2 * rs.length + 1) (by omega)).trans (stR_b 13 β1 rs.length)
              refine j_aload_n C d_RR_readInto_76 rfl rfl ?_
              refine j_aload_n C d_RR_readInto_77 rfl rfl ?_
              refine j_iconst (v := 2) C d_RR_readInto_78 (by decide) ?_
              refine j_iload_n C d_RR_readInto_79 rfl rfl ?_
              refine j_imul C d_RR_readInto_80 ?_
              refine j_iconst (v := 1) C d_RR_readInto_81 (by decide) ?_
              refine j_iadd C d_RR_readInto_82 ?_
              rw [e2q1]
              cases hs2 : csum (β 4) t 4 1 ((skp (β 4) t q.2) + 1) with
              | none =>
                refine j_callV C d_RR_readInto_83 ml_RR_40 mc_RR_readSum in_RR_readSum rfl se_RR_readSum (by omega) (ovX_c (o := 5) rfl) (c_RR_readSumG_13_n hl h hn (β 4) hg3 t ((skp (β 4) t q.2) + 1) (by rfl) ht hq1 (2 * rs.length + 1) (by omega) hc3 hs2) rfl rfl (Nat.le_of_ble_eq_true rfl) (Nat.le_of_ble_eq_true rfl) (Nat.le_of_ble_eq_true rfl) (Nat.le_of_ble_eq_true rfl) (jk_p (fun h9 hP9 => ?_))
                obtain ⟨a9, β9, ha9, rfl, hA9⟩ := hP9
                refine j_if_eq (tgt := 98) C d_RR_readInto_86 (by decide) (fun c86 => ?_) (fun c86 => ?_)
                · refine j_aload_n C d_RR_readInto_98 rfl rfl ?_
                  refine jx_get 5 C fl_1_15 d_RR_readInto_99 hn rfl rfl ?_
                  have er : crul (β 4) t (t + 1) 0 [] = none := by
                    rw [← hv]
                    exact crul_n hlt' (pr_n3 ht hB hs1 hsg hq1 hs2)
                  rw [er] at hR
                  exact j_ireturn C d_RR_readInto_102 rfl (by decide) (by decide) ⟨_, rfl, rfl, a9, rs.length, β9, ha9, rfl, rfl, (Abw_t (Ab_w hA9) hA3)⟩
                · exact absurd rfl c86
              | some w =>
                refine j_callV C d_RR_readInto_83 ml_RR_40 mc_RR_readSum in_RR_readSum rfl se_RR_readSum (by omega) (ovX_c (o := 5) rfl) (c_RR_readSumG_13_s hl h hn (β 4) hg3 t ((skp (β 4) t q.2) + 1) (by rfl) ht hq1 (2 * rs.length + 1) (by omega) hc3 w hs2) rfl rfl (Nat.le_of_ble_eq_true rfl) (Nat.le_of_ble_eq_true rfl) (Nat.le_of_ble_eq_true rfl) (Nat.le_of_ble_eq_true rfl) (jk_p (fun h9 hP9 => ?_))
                obtain ⟨β4, rfl, hB4⟩ := hP9
                have hw2 := csum_le 4 1 _ w hq1 hs2
                have hA4 : Abw 13 β4 β := Abw_t (Ab_w hB4.1) hA3
                have hg4 : β4 4 = β 4 := hA4 4 (by omega)
                refine j_if_eq (tgt := 98) C d_RR_readInto_86 (by decide) (fun c86 => ?_) (fun c86 => ?_)
                · exact absurd c86 (by decide)
                · refine j_aload_n C d_RR_readInto_89 rfl rfl ?_
                  refine j_bipush (v := 59) C d_RR_readInto_90 (by decide) ?_
                  refine j_callV C d_RR_readInto_92 ml_RR_47 mc_RR_passes in_RR_passes rfl se_RR_passes (by omega) (ovX_c (o := 5) rfl) (c_RR_passesG hl h hn (β 4) hg4 t w.2 (by rfl) ht hw2 59 (by decide)) rfl rfl (Nat.le_of_ble_eq_true rfl) (Nat.le_of_ble_eq_true rfl) (Nat.le_of_ble_eq_true rfl) (Nat.le_of_ble_eq_true rfl) (jk_r ?_)
                  refine j_if_ne (tgt := 103) C d_RR_readInto_95 (by decide) (fun c95 => ?_) (fun c95 => ?_)
                  · have h59 := pz_y c95
                    rw [pp_y h59]
                    refine j_aload_n C d_RR_readInto_103 rfl rfl ?_
                    refine j_iload_n C d_RR_readInto_104 rfl rfl ?_
                    refine j_iconst (v := 1) C d_RR_readInto_105 (by decide) ?_
                    refine j_iadd C d_RR_readInto_106 ?_
                    rw [nI_1]
                    refine jx_puti 13 7 C fp_1_28 d_RR_readInto_107 hn rfl (Nat.le_of_ble_eq_true rfl) rfl rfl rfl ?_
                    refine j_h (h' := (ovX xo (xq (upd (upd ξ 4 (nI t)) 7 (nI (rs ++ [(q.1, x, w.1)]).length)) (skp (β 4) t w.2 + 1)) β4 ρ u v h)) (by rw [xr_k (by decide), len_snoc]) ?_
                    refine j_aload_n C d_RR_readInto_110 rfl rfl ?_
                    refine j_callV C d_RR_readInto_111 ml_RR_33 mc_RR_skipBlanks in_RR_skipBlanks rfl se_RR_skipBlanks (by omega) (ovX_c (o := 5) rfl) (c_RR_skipBlanksG hl h hn (β 4) hg4 t (skp (β 4) t w.2 + 1) (by rfl) ht (hr_lt2 h59 (by decide))) rfl rfl (Nat.le_of_ble_eq_true rfl) (Nat.le_of_ble_eq_true rfl) (Nat.le_of_ble_eq_true rfl) (Nat.le_of_ble_eq_true rfl) (jk_v ?_)
                    have hpr : prule (β 4) t (skp (β 4) t a) = some ((q.1, x, w.1), skp (β 4) t w.2 + 1) := by rw [pr_e ht hB hs1 hsg hq1 hs2, if_pos h59, hx]
                    obtain ⟨g1, g2, g3⟩ := prule_gt ht hB hpr
                    have g4 := skp_ge (β 4) t a
                    refine j_iinc (v := nI (rs ++ [(q.1, x, w.1)]).length) C d_RR_readInto_114 rfl (by rw [len_snoc]; exact nI_inc _) (by decide) rfl ?_
                    refine j_goto (tgt := 29) C d_RR_readInto_117 (by decide) ?_
                    exact j_pick [0, 1, 2, 3] rfl (ih (skp (β 4) t w.2 + 1) β4 (rs ++ [(q.1, x, w.1)]) (hr_lt2 h59 (by decide)) (by have g5 : (skp (β 4) t a) < skp (β 4) t w.2 + 1 := g1; omega) (by rw [len_snoc]; omega) hA4 (RuX_snoc hX hLk g2 hB2 hB4) (Lk_snoc hLk g2 g3) (by rw [← hv, crul_s hlt' (by omega) hpr]))
                  · refine j_aload_n C d_RR_readInto_98 rfl rfl ?_
                    refine jx_get 5 C fl_1_15 d_RR_readInto_99 hn rfl rfl ?_
                    have er : crul (β 4) t (t + 1) 0 [] = none := by
                      rw [← hv]
                      exact crul_n hlt' (by rw [pr_e ht hB hs1 hsg hq1 hs2, if_neg (pz_n c95)])
                    rw [er] at hR
                    exact j_ireturn C d_RR_readInto_102 rfl (by decide) (by decide) ⟨_, rfl, rfl, _, rs.length, β4, (pp_le hw2 (by decide)), rfl, rfl, hA4⟩
            refine j_if_eq (tgt := 98) C d_RR_readInto_64 (by decide) (fun c64 => ?_) (fun c64 => ?_)
            · exact absurd c64 (by decide)
            · refine j_aload_n C d_RR_readInto_67 rfl rfl ?_
              refine j_aload_n C d_RR_readInto_68 rfl rfl ?_
              refine j_iload_n C d_RR_readInto_69 rfl rfl ?_
              by_cases x0 : hr (β 4) t (skp (β 4) t q.2) = 60
              · refine j_callV C d_RR_readInto_70 ml_RR_44 mc_RR_readComparison in_RR_readComparison rfl se_RR_readComparison (by omega) (ovX_c (o := 5) rfl) (c_RR_readComparisonG_13_0 hl h hn (β 4) hg2 t q.2 (by rfl) ht hq2 rs.length hk x0) rfl rfl (Nat.le_of_ble_eq_true rfl) (Nat.le_of_ble_eq_true rfl) (Nat.le_of_ble_eq_true rfl) (Nat.le_of_ble_eq_true rfl) (jk_r ?_)
                refine j_if_eq (tgt := 98) C d_RR_readInto_73 (by decide) (fun c73 => ?_) (fun c73 => ?_)
                · exact absurd c73 (by decide)
                · exact tail 60 x0 (by decide)
              · by_cases x1 : hr (β 4) t (skp (β 4) t q.2) = 61
                · refine j_callV C d_RR_readInto_70 ml_RR_44 mc_RR_readComparison in_RR_readComparison rfl se_RR_readComparison (by omega) (ovX_c (o := 5) rfl) (c_RR_readComparisonG_13_1 hl h hn (β 4) hg2 t q.2 (by rfl) ht hq2 rs.length hk x1) rfl rfl (Nat.le_of_ble_eq_true rfl) (Nat.le_of_ble_eq_true rfl) (Nat.le_of_ble_eq_true rfl) (Nat.le_of_ble_eq_true rfl) (jk_r ?_)
                  refine j_if_eq (tgt := 98) C d_RR_readInto_73 (by decide) (fun c73 => ?_) (fun c73 => ?_)
                  · exact absurd c73 (by decide)
                  · exact tail 61 x1 (by decide)
                · by_cases x2 : hr (β 4) t (skp (β 4) t q.2) = 33
                  · refine j_callV C d_RR_readInto_70 ml_RR_44 mc_RR_readComparison in_RR_readComparison rfl se_RR_readComparison (by omega) (ovX_c (o := 5) rfl) (c_RR_readComparisonG_13_2 hl h hn (β 4) hg2 t q.2 (by rfl) ht hq2 rs.length hk x2) rfl rfl (Nat.le_of_ble_eq_true rfl) (Nat.le_of_ble_eq_true rfl) (Nat.le_of_ble_eq_true rfl) (Nat.le_of_ble_eq_true rfl) (jk_r ?_)
                    refine j_if_eq (tgt := 98) C d_RR_readInto_73 (by decide) (fun c73 => ?_) (fun c73 => ?_)
                    · exact absurd c73 (by decide)
                    · exact tail 33 x2 (by decide)
                  · refine j_callV C d_RR_readInto_70 ml_RR_44 mc_RR_readComparison in_RR_readComparison rfl se_RR_readComparison (by omega) (ovX_c (o := 5) rfl) (c_RR_readComparisonG_13_3 hl h hn (β 4) hg2 t q.2 (by rfl) ht hq2 rs.length hk (fun z => z.elim x0 (fun y => y.elim x1 x2))) rfl rfl (Nat.le_of_ble_eq_true rfl) (Nat.le_of_ble_eq_true rfl) (Nat.le_of_ble_eq_true rfl) (Nat.le_of_ble_eq_true rfl) (jk_r ?_)
                    refine j_if_eq (tgt := 98) C d_RR_readInto_73 (by decide) (fun c73 => ?_) (fun c73 => ?_)
                    · refine j_aload_n C d_RR_readInto_98 rfl rfl ?_
                      refine jx_get 5 C fl_1_15 d_RR_readInto_99 hn rfl rfl ?_
                      have er : crul (β 4) t (t + 1) 0 [] = none := by
                        rw [← hv]
                        exact crul_n hlt' (pr_n2 ht hB hs1 (fun z => z.elim x0 (fun y => y.elim x1 x2)))
                      rw [er] at hR
                      exact j_ireturn C d_RR_readInto_102 rfl (by decide) (by decide) ⟨_, rfl, rfl, _, rs.length, β2, (skp_le _ hq2), rfl, rfl, hA2⟩
                    · exact absurd rfl c73
        · refine j_aload_n C d_RR_readInto_46 rfl rfl ?_
          refine jx_get 5 C fl_1_15 d_RR_readInto_47 hn rfl rfl ?_
          have er : crul (β 4) t (t + 1) 0 [] = none := by
            rw [← hv]
            exact crul_f hlt' (by have z : ¬ rs.length < 20 := fun y => c43 (show nI rs.length < nI 20 from nI_lt y (by omega)); omega)
          rw [er] at hR
          exact j_ireturn C d_RR_readInto_50 rfl (by decide) (by decide) ⟨_, rfl, rfl, (skp (β 4) t a), rs.length, β1, hB, rfl, rfl, hA⟩
  refine j_aload_n C d_RR_readInto_0 rfl rfl ?_
  refine j_iload_n C d_RR_readInto_1 rfl rfl ?_
  refine j_aload_n C d_RR_readInto_2 rfl rfl ?_
  refine jx_get 5 C fl_1_18 d_RR_readInto_3 hn rfl rfl ?_
  refine jx_alen 4 C d_RR_readInto_6 rfl hn rfl rfl ?_
  refine j_mmin (v := nI t) C d_RR_readInto_7 mm_RR_22 mm_st_min mm_ini mm_co_min (Nat.le_of_ble_eq_true rfl) (Nat.le_of_ble_eq_true rfl) (Nat.le_of_ble_eq_true rfl) (Nat.le_of_ble_eq_true rfl) (show (if nI 300 < nI t then nI 300 else nI t) = nI t by rw [if_neg (fun y => absurd (nI_le (a := t) (b := 300) ht (by omega)) (Int32.not_le.mpr y))]) ?_
  refine jx_puti 5 4 C fp_1_9 d_RR_readInto_10 hn rfl (Nat.le_of_ble_eq_true rfl) rfl rfl rfl ?_
  refine j_aload_n C d_RR_readInto_13 rfl rfl ?_
  refine j_iconst (v := 0) C d_RR_readInto_14 (by decide) ?_
  refine jx_puti 5 5 C fp_1_15 d_RR_readInto_15 hn rfl (Nat.le_of_ble_eq_true rfl) rfl rfl rfl ?_
  refine j_aload_n C d_RR_readInto_18 rfl rfl ?_
  refine j_iconst (v := 0) C d_RR_readInto_19 (by decide) ?_
  refine jx_puti 13 7 C fp_1_28 d_RR_readInto_20 hn rfl (Nat.le_of_ble_eq_true rfl) rfl rfl rfl ?_
  refine j_h (h' := (ovX xo (xq (upd (upd ξ 4 (nI t)) 7 (nI 0)) 0) β ρ u v h)) (by unfold xq; rw [upd_x (show (5 : Nat) ≠ 7 by decide)]; rfl) ?_
  refine j_aload_n C d_RR_readInto_23 rfl rfl ?_
  refine j_callV C d_RR_readInto_24 ml_RR_33 mc_RR_skipBlanks in_RR_skipBlanks rfl se_RR_skipBlanks (by omega) (ovX_c (o := 5) rfl) (c_RR_skipBlanksG hl h hn (β 4) rfl t 0 (by rfl) ht (by omega)) rfl rfl (Nat.le_of_ble_eq_true rfl) (Nat.le_of_ble_eq_true rfl) (Nat.le_of_ble_eq_true rfl) (Nat.le_of_ble_eq_true rfl) (jk_v ?_)
  refine j_iconst (v := 0) C d_RR_readInto_27 (by decide) ?_
  refine j_istore_n C d_RR_readInto_28 rfl (by decide) rfl ?_
  exact j_pick [0, 1, 2, 3] rfl (loop (t + 1) 0 β [] (by omega) (by omega) (by simp) (fun _ _ => rfl) (fun q x hx => by cases hx) (fun q x hx => by cases hx) rfl)

