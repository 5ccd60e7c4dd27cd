/-! ===== the reference: isAsked, reckon, verdict: printed by program ===== -/
/-- a factor: a number, or a field as -1 - field -/
def fok (x : Int32) : Prop := 0 ≤ x ∨ ∃ g : Nat, g < 20 ∧ x = -1 - nI g
def FR (α : Nat → Nat → Int32) : Prop := ∀ k, k < 160 → fok (α 24 k) ∧ fok (α 25 k)
theorem fx_ix (r g : Nat) : 20 * nI r - 1 - (-1 - nI g) = nI (20 * r + g) := by
  rw [← e20]
  grind
theorem fok_in {x : Int32} {r : Nat} (hx : fok x) (hr : r < 30) (h0 : ¬ 0 ≤ x) : vp_in (20 * nI r - 1 - x) 600 := by
  rcases hx with h | ⟨g, hg, rfl⟩
  · exact absurd h h0
  · rw [fx_ix]
    exact vp_in_nI (by omega) (by omega)
theorem e8 (q : Nat) : (8 : Int32) * nI q = nI (8 * q) := pk_mul 8 q
theorem e8b (q : Nat) : (8 : Int32) * nI q + 8 = nI (8 * q + 8) := by rw [e8]; exact nI_add (8 * q) 8
theorem e8c (q : Nat) : (8 : Int32) * nI q + 4 = nI (8 * q + 4) := by rw [e8]; exact nI_add (8 * q) 4
theorem e4 (k : Nat) : nI k + 4 = nI (k + 4) := nI_add k 4
/-- all the fields that the terms k, k + 1, .. tell are there -/
def mias (α : Nat → Nat → Int32) (r : Nat) : Nat → Nat → Int32
  | 0, _ => 1
  | n + 1, k => if α 23 k ≤ 0 then mias α r n (k + 1) else if mhas α (nI r) (α 24 k) = 0 then 0 else if α 26 k = 0 then mias α r n (k + 1) else if mhas α (nI r) (α 25 k) = 0 then 0 else mias α r n (k + 1)
set_option maxHeartbeats 4000000 in
set_option maxRecDepth 100000 in
theorem c_M_isAsked {l : Launch} (hl : l.stackTraces = false) {D : va_G} {cA : Nat → ClassId} {b n mo : Nat} (r q : Nat) (σ : Nat → Int32) (α : Nat → Nat → Int32) (h : AH) (hmo : mo + 27 < n) (hr : r < 30) (hq : q < 20) (hF : FR α) : Cn l D cA b y_M_isAsked k_M_isAsked 1 14 0 0 [.ref mo, .int (nI r), .int (nI q)] n (ovM mo σ α h) (Re (some (.int (mias α r 8 (8 * q)))) n (ovM mo σ α h)) := by
  refine Cn.of (cc := b_M_isAsked) (maxL := 4) (ret := (some .boolean)) (hh := []) (by decide +kernel) hl (Or.inl ⟨rfl, rfl⟩) (Nat.le_of_ble_eq_true rfl) ?_
  intro p e s m args below meth c C
  have loop : ∀ (m9 k : Nat), k + m9 = 8 * q + 8 → mias α r m9 k = mias α r 8 (8 * q) → J p l e { frames := 1, cells := 0, slots := 0, locals := 14 } s m args below meth c D cA b 4 (EndQ D cA b s below (Re (some (.int (mias α r 8 (8 * q)))) n (ovM mo σ α h)) 0 0) n (ovM mo σ α h) 0 0 5 [(3, .int (nI k)), (0, .ref mo), (1, .int (nI r)), (2, .int (nI q))] [] := by
    intro m9
    induction m9 with
    | zero =>
      intro k hk hv
      obtain rfl : k = 8 * q + 8 := by omega
      refine j_iload_n C d_M_isAsked_5 rfl rfl ?_
      refine j_bipush (v := 8) C d_M_isAsked_6 (by decide) ?_
      refine j_iload_n C d_M_isAsked_8 rfl rfl ?_
      refine j_imul C d_M_isAsked_9 ?_
      refine j_bipush (v := 8) C d_M_isAsked_10 (by decide) ?_
      refine j_iadd C d_M_isAsked_12 ?_
      refine j_icmp_ge (tgt := 70) C d_M_isAsked_13 (by decide) (fun c13 => ?_) (fun c13 => ?_)
      · refine j_iconst (v := 1) C d_M_isAsked_70 (by decide) ?_
        exact j_zreturn C d_M_isAsked_71 rfl (by decide) (by decide) (by decide) ⟨by rw [← hv]; rfl, rfl, rfl⟩
      · exact absurd (show 8 * nI q + 8 ≤ nI (8 * q + 8) by rw [e8b]; exact nI_le (Nat.le_refl _) (by omega)) c13
    | succ m9 ih =>
      intro k hk hv
      refine j_iload_n C d_M_isAsked_5 rfl rfl ?_
      refine j_bipush (v := 8) C d_M_isAsked_6 (by decide) ?_
      refine j_iload_n C d_M_isAsked_8 rfl rfl ?_
      refine j_imul C d_M_isAsked_9 ?_
      refine j_bipush (v := 8) C d_M_isAsked_10 (by decide) ?_
      refine j_iadd C d_M_isAsked_12 ?_
      refine j_icmp_ge (tgt := 70) C d_M_isAsked_13 (by decide) (fun c13 => ?_) (fun c13 => ?_)
      · exact absurd (show nI (8 * q + 8) ≤ nI k by rw [← e8b]; exact c13) (nI_ge (by omega) (by omega))
      · refine j_aload_n C d_M_isAsked_16 rfl rfl ?_
        refine jm_get C fl_6_60 d_M_isAsked_17 hmo rfl ?_
        refine j_iload_n C d_M_isAsked_20 rfl rfl ?_
        refine jm_ialdn C 15 (k) d_M_isAsked_21 (by decide) rfl hmo rfl (by omega) (by omega) ?_
        refine j_if_le (tgt := 64) C d_M_isAsked_22 (by decide) (fun c22 => ?_) (fun c22 => ?_)
        · refine j_iinc (v := nI (k + 1)) C d_M_isAsked_64 rfl (nI_inc k) (by decide) rfl ?_
          refine j_goto (tgt := 5) C d_M_isAsked_67 (by decide) ?_
          exact j_pick [0, 1, 2, 3] rfl (ih (k + 1) (by omega) (by rw [← hv]; show _ = (if α 23 k ≤ 0 then mias α r m9 (k + 1) else if mhas α (nI r) (α 24 k) = 0 then 0 else if α 26 k = 0 then mias α r m9 (k + 1) else if mhas α (nI r) (α 25 k) = 0 then 0 else mias α r m9 (k + 1)); rw [if_pos c22]))
        · refine j_aload_n C d_M_isAsked_25 rfl rfl ?_
          refine j_iload_n C d_M_isAsked_26 rfl rfl ?_
          refine j_aload_n C d_M_isAsked_27 rfl rfl ?_
          refine jm_get C fl_6_63 d_M_isAsked_28 hmo rfl ?_
          refine j_iload_n C d_M_isAsked_31 rfl rfl ?_
          refine jm_ialdn C 16 (k) d_M_isAsked_32 (by decide) rfl hmo rfl (by omega) (by omega) ?_
          refine j_callV C d_M_isAsked_33 ml_M_169 mc_M_has in_M_has rfl se_M_has (by omega) (ovM_o _ _ _ _) (c_M_has hl _ _ _ _ _ hmo (fok_in (hF k (by omega)).1 hr)) rfl rfl (Nat.le_of_ble_eq_true rfl) (Nat.le_of_ble_eq_true rfl) (Nat.le_of_ble_eq_true rfl) (Nat.le_of_ble_eq_true rfl) (jk_r ?_)
          refine j_if_eq (tgt := 62) C d_M_isAsked_36 (by decide) (fun c36 => ?_) (fun c36 => ?_)
          · refine j_iconst (v := 0) C d_M_isAsked_62 (by decide) ?_
            exact j_zreturn C d_M_isAsked_63 rfl (by decide) (by decide) (by decide) ⟨by rw [← hv]; congr 3; symm; show (if α 23 k ≤ 0 then mias α r m9 (k + 1) else if mhas α (nI r) (α 24 k) = 0 then 0 else if α 26 k = 0 then mias α r m9 (k + 1) else if mhas α (nI r) (α 25 k) = 0 then 0 else mias α r m9 (k + 1)) = 0; rw [if_neg c22, if_pos c36], rfl, rfl⟩
          · refine j_aload_n C d_M_isAsked_39 rfl rfl ?_
            refine jm_get C fl_6_69 d_M_isAsked_40 hmo rfl ?_
            refine j_iload_n C d_M_isAsked_43 rfl rfl ?_
            refine jm_zaldn C 18 (k) d_M_isAsked_44 (by decide) rfl hmo rfl (by omega) (by omega) ?_
            refine j_if_eq (tgt := 64) C d_M_isAsked_45 (by decide) (fun c45 => ?_) (fun c45 => ?_)
            · refine j_iinc (v := nI (k + 1)) C d_M_isAsked_64 rfl (nI_inc k) (by decide) rfl ?_
              refine j_goto (tgt := 5) C d_M_isAsked_67 (by decide) ?_
              exact j_pick [0, 1, 2, 3] rfl (ih (k + 1) (by omega) (by rw [← hv]; show _ = (if α 23 k ≤ 0 then mias α r m9 (k + 1) else if mhas α (nI r) (α 24 k) = 0 then 0 else if α 26 k = 0 then mias α r m9 (k + 1) else if mhas α (nI r) (α 25 k) = 0 then 0 else mias α r m9 (k + 1)); rw [if_neg c22, if_neg c36, if_pos c45]))
            · refine j_aload_n C d_M_isAsked_48 rfl rfl ?_
              refine j_iload_n C d_M_isAsked_49 rfl rfl ?_
              refine j_aload_n C d_M_isAsked_50 rfl rfl ?_
              refine jm_get C fl_6_66 d_M_isAsked_51 hmo rfl ?_
              refine j_iload_n C d_M_isAsked_54 rfl rfl ?_
              refine jm_ialdn C 17 (k) d_M_isAsked_55 (by decide) rfl hmo rfl (by omega) (by omega) ?_
              refine j_callV C d_M_isAsked_56 ml_M_169 mc_M_has in_M_has rfl se_M_has (by omega) (ovM_o _ _ _ _) (c_M_has hl _ _ _ _ _ hmo (fok_in (hF k (by omega)).2 hr)) rfl rfl (Nat.le_of_ble_eq_true rfl) (Nat.le_of_ble_eq_true rfl) (Nat.le_of_ble_eq_true rfl) (Nat.le_of_ble_eq_true rfl) (jk_r ?_)
              refine j_if_ne (tgt := 64) C d_M_isAsked_59 (by decide) (fun c59 => ?_) (fun c59 => ?_)
              · refine j_iinc (v := nI (k + 1)) C d_M_isAsked_64 rfl (nI_inc k) (by decide) rfl ?_
                refine j_goto (tgt := 5) C d_M_isAsked_67 (by decide) ?_
                exact j_pick [0, 1, 2, 3] rfl (ih (k + 1) (by omega) (by rw [← hv]; show _ = (if α 23 k ≤ 0 then mias α r m9 (k + 1) else if mhas α (nI r) (α 24 k) = 0 then 0 else if α 26 k = 0 then mias α r m9 (k + 1) else if mhas α (nI r) (α 25 k) = 0 then 0 else mias α r m9 (k + 1)); rw [if_neg c22, if_neg c36, if_neg c45, if_neg c59]))
              · refine j_iconst (v := 0) C d_M_isAsked_62 (by decide) ?_
                exact j_zreturn C d_M_isAsked_63 rfl (by decide) (by decide) (by decide) ⟨by rw [← hv]; congr 3; symm; show (if α 23 k ≤ 0 then mias α r m9 (k + 1) else if mhas α (nI r) (α 24 k) = 0 then 0 else if α 26 k = 0 then mias α r m9 (k + 1) else if mhas α (nI r) (α 25 k) = 0 then 0 else mias α r m9 (k + 1)) = 0; rw [if_neg c22, if_neg c36, if_neg c45, if_pos c59], rfl, rfl⟩
  refine j_bipush (v := 8) C d_M_isAsked_0 (by decide) ?_
  refine j_iload_n C d_M_isAsked_2 rfl rfl ?_
  refine j_imul C d_M_isAsked_3 ?_
  refine j_istore_n C d_M_isAsked_4 rfl (by decide) rfl ?_
  refine j_pick [0, 1, 2, 3] (L' := [(3, .int (nI (8 * q))), (0, .ref mo), (1, .int (nI r)), (2, .int (nI q))]) (by rw [← e8]; rfl) ?_
  exact loop 8 (8 * q) rfl rfl

def rkV (α : Nat → Nat → Int32) (r k : Nat) : Int32 := if α 26 k = 0 then mof α (nI r) (α 24 k) else if mof α (nI r) (α 25 k) = 0 then 0 else mof α (nI r) (α 24 k) / mof α (nI r) (α 25 k)
def rks (α : Nat → Nat → Int32) (r k : Nat) (s : Int32) : Int32 := if α 23 k = 0 then s else if α 23 k = 1 then s + rkV α r k else s - rkV α r k
def rkS (α : Nat → Nat → Int32) (r : Nat) : Nat → Nat → Int32 → Int32
  | 0, _, s => s
  | n + 1, k, s => rkS α r n (k + 1) (rks α r k s)
def rkb (α : Nat → Nat → Int32) (r k : Nat) (b : Int32) : Int32 := if α 23 k = 0 then b else if α 26 k = 0 then b else if b = 0 then (if mof α (nI r) (α 25 k) = 0 then 1 else 0) else 1
def rkB (α : Nat → Nat → Int32) (r : Nat) : Nat → Nat → Int32 → Int32
  | 0, _, b => b
  | n + 1, k, b => rkB α r n (k + 1) (rkb α r k b)
set_option maxHeartbeats 4000000 in
set_option maxRecDepth 100000 in
theorem c_M_reckon {l : Launch} (hl : l.stackTraces = false) {D : va_G} {cA : Nat → ClassId} {b n mo : Nat} (r k0 : Nat) (σ : Nat → Int32) (α : Nat → Nat → Int32) (h : AH) (hmo : mo + 27 < n) (hr : r < 30) (hk0 : k0 + 4 ≤ 160) (hF : FR α) : Cn l D cA b y_M_reckon k_M_reckon 1 14 0 0 [.ref mo, .int (nI r), .int (nI k0)] n (ovM mo σ α h) (Re (some (.int (rkS α r 4 k0 0))) n (ovM mo (upd σ 33 (rkB α r 4 k0 (σ 33))) α h)) := by
  refine Cn.of (cc := b_M_reckon) (maxL := 7) (ret := (some .int)) (hh := []) (by decide +kernel) hl (Or.inl ⟨rfl, rfl⟩) (Nat.le_of_ble_eq_true rfl) ?_
  intro p e s m args below meth c C
  have loop : ∀ (m9 k : Nat) (sm bk : Int32), k + m9 = k0 + 4 → rkS α r m9 k sm = rkS α r 4 k0 0 → rkB α r m9 k bk = rkB α r 4 k0 (σ 33) → J p l e { frames := 1, cells := 0, slots := 0, locals := 14 } s m args below meth c D cA b 7 (EndQ D cA b s below (Re (some (.int (rkS α r 4 k0 0))) n (ovM mo (upd σ 33 (rkB α r 4 k0 (σ 33))) α h)) 0 0) n (ovM mo (upd σ 33 bk) α h) 0 0 5 [(4, .int (nI k)), (3, .int sm), (0, .ref mo), (1, .int (nI r)), (2, .int (nI k0))] [] := by
    intro m9
    induction m9 with
    | zero =>
      intro k sm bk hk hvs hvb
      obtain rfl : k = k0 + 4 := by omega
      refine j_iload C d_M_reckon_5 rfl ?_
      refine j_iload_n C d_M_reckon_7 rfl rfl ?_
      refine j_iconst (v := 4) C d_M_reckon_8 (by decide) ?_
      refine j_iadd C d_M_reckon_9 ?_
      refine j_icmp_ge (tgt := 130) C d_M_reckon_10 (by decide) (fun c10 => ?_) (fun c10 => ?_)
      · refine j_iload_n C d_M_reckon_130 rfl rfl ?_
        exact j_ireturn C d_M_reckon_131 rfl (by decide) (by decide) ⟨by rw [← hvs]; rfl, rfl, by rw [← hvb]; rfl⟩
      · exact absurd (show nI k0 + 4 ≤ nI (k0 + 4) by rw [e4]; exact nI_le (Nat.le_refl _) (by omega)) c10
    | succ m9 ih =>
      intro k sm bk hk hvs hvb
      refine j_iload C d_M_reckon_5 rfl ?_
      refine j_iload_n C d_M_reckon_7 rfl rfl ?_
      refine j_iconst (v := 4) C d_M_reckon_8 (by decide) ?_
      refine j_iadd C d_M_reckon_9 ?_
      refine j_icmp_ge (tgt := 130) C d_M_reckon_10 (by decide) (fun c10 => ?_) (fun c10 => ?_)
      · exact absurd (show nI (k0 + 4) ≤ nI k by rw [← e4]; exact c10) (nI_ge (by omega) (by omega))
      · refine j_aload_n C d_M_reckon_13 rfl rfl ?_
        refine jm_get C fl_6_60 d_M_reckon_14 hmo rfl ?_
        refine j_iload C d_M_reckon_17 rfl ?_
        refine jm_ialdn C 15 (k) d_M_reckon_19 (by decide) rfl hmo rfl (by omega) (by omega) ?_
        refine j_if_ne (tgt := 26) C d_M_reckon_20 (by decide) (fun c20 => ?_) (fun c20 => ?_)
        · refine j_aload_n C d_M_reckon_26 rfl rfl ?_
          refine j_iload_n C d_M_reckon_27 rfl rfl ?_
          refine j_aload_n C d_M_reckon_28 rfl rfl ?_
          refine jm_get C fl_6_63 d_M_reckon_29 hmo rfl ?_
          refine j_iload C d_M_reckon_32 rfl ?_
          refine jm_ialdn C 16 (k) d_M_reckon_34 (by decide) rfl hmo rfl (by omega) (by omega) ?_
          refine j_callV C d_M_reckon_35 ml_M_173 mc_M_of in_M_of rfl se_M_of (by omega) (ovM_o _ _ _ _) (c_M_of hl _ _ _ _ _ hmo (fun z => fok_in (hF k (by omega)).1 hr (Int32.not_le.mpr z))) rfl rfl (Nat.le_of_ble_eq_true rfl) (Nat.le_of_ble_eq_true rfl) (Nat.le_of_ble_eq_true rfl) (Nat.le_of_ble_eq_true rfl) (jk_r ?_)
          refine j_istore C d_M_reckon_38 (by decide) rfl ?_
          refine j_aload_n C d_M_reckon_40 rfl rfl ?_
          refine jm_get C fl_6_69 d_M_reckon_41 hmo rfl ?_
          refine j_iload C d_M_reckon_44 rfl ?_
          refine jm_zaldn C 18 (k) d_M_reckon_46 (by decide) rfl hmo rfl (by omega) (by omega) ?_
          refine j_if_eq (tgt := 101) C d_M_reckon_47 (by decide) (fun c47 => ?_) (fun c47 => ?_)
          · refine j_aload_n C d_M_reckon_101 rfl rfl ?_
            refine jm_get C fl_6_60 d_M_reckon_102 hmo rfl ?_
            refine j_iload C d_M_reckon_105 rfl ?_
            refine jm_ialdn C 15 (k) d_M_reckon_107 (by decide) rfl hmo rfl (by omega) (by omega) ?_
            refine j_iconst (v := 1) C d_M_reckon_108 (by decide) ?_
            refine j_icmp_ne (tgt := 119) C d_M_reckon_109 (by decide) (fun c109 => ?_) (fun c109 => ?_)
            · refine j_iload_n C d_M_reckon_119 rfl rfl ?_
              refine j_iload C d_M_reckon_120 rfl ?_
              refine j_isub C d_M_reckon_122 ?_
              refine j_istore_n C d_M_reckon_123 rfl (by decide) rfl ?_
              have e1 : rks α r k sm = (sm - (mof α (nI r) (α 24 k))) := by unfold rks; rw [if_neg c20, if_neg c109]; unfold rkV; rw [if_pos c47]
              have e2 : rkb α r k bk = bk := by unfold rkb; rw [if_neg c20, if_pos c47]
              refine j_iinc (v := nI (k + 1)) C d_M_reckon_124 rfl (nI_inc k) (by decide) rfl ?_
              refine j_goto (tgt := 5) C d_M_reckon_127 (by decide) ?_
              have J9 := ih (k + 1) (sm - (mof α (nI r) (α 24 k))) bk (by omega) (by rw [← hvs]; show _ = rkS α r m9 (k + 1) (rks α r k sm); rw [e1]) (by rw [← hvb]; show _ = rkB α r m9 (k + 1) (rkb α r k bk); rw [e2])
              exact j_pick [0, 1, 3, 4, 5] rfl J9
            · refine j_iload_n C d_M_reckon_112 rfl rfl ?_
              refine j_iload C d_M_reckon_113 rfl ?_
              refine j_iadd C d_M_reckon_115 ?_
              refine j_goto (tgt := 123) C d_M_reckon_116 (by decide) ?_
              refine j_istore_n C d_M_reckon_123 rfl (by decide) rfl ?_
              have e1 : rks α r k sm = (sm + (mof α (nI r) (α 24 k))) := by unfold rks; rw [if_neg c20, if_pos c109]; unfold rkV; rw [if_pos c47]
              have e2 : rkb α r k bk = bk := by unfold rkb; rw [if_neg c20, if_pos c47]
              refine j_iinc (v := nI (k + 1)) C d_M_reckon_124 rfl (nI_inc k) (by decide) rfl ?_
              refine j_goto (tgt := 5) C d_M_reckon_127 (by decide) ?_
              have J9 := ih (k + 1) (sm + (mof α (nI r) (α 24 k))) bk (by omega) (by rw [← hvs]; show _ = rkS α r m9 (k + 1) (rks α r k sm); rw [e1]) (by rw [← hvb]; show _ = rkB α r m9 (k + 1) (rkb α r k bk); rw [e2])
              exact j_pick [0, 1, 3, 4, 5] rfl J9
          · refine j_aload_n C d_M_reckon_50 rfl rfl ?_
            refine j_iload_n C d_M_reckon_51 rfl rfl ?_
            refine j_aload_n C d_M_reckon_52 rfl rfl ?_
            refine jm_get C fl_6_66 d_M_reckon_53 hmo rfl ?_
            refine j_iload C d_M_reckon_56 rfl ?_
            refine jm_ialdn C 17 (k) d_M_reckon_58 (by decide) rfl hmo rfl (by omega) (by omega) ?_
            refine j_callV C d_M_reckon_59 ml_M_173 mc_M_of in_M_of rfl se_M_of (by omega) (ovM_o _ _ _ _) (c_M_of hl _ _ _ _ _ hmo (fun z => fok_in (hF k (by omega)).2 hr (Int32.not_le.mpr z))) rfl rfl (Nat.le_of_ble_eq_true rfl) (Nat.le_of_ble_eq_true rfl) (Nat.le_of_ble_eq_true rfl) (Nat.le_of_ble_eq_true rfl) (jk_r ?_)
            refine j_istore C d_M_reckon_62 (by decide) rfl ?_
            refine j_aload_n C d_M_reckon_64 rfl rfl ?_
            refine j_aload_n C d_M_reckon_65 rfl rfl ?_
            refine jm_get C fl_6_177 d_M_reckon_66 hmo rfl ?_
            refine j_if_ne (tgt := 77) C d_M_reckon_69 (by decide) (fun c69 => ?_) (fun c69 => ?_)
            · refine j_iconst (v := 1) C d_M_reckon_77 (by decide) ?_
              refine j_goto (tgt := 82) C d_M_reckon_78 (by decide) ?_
              refine jm_puti 33 C fp_6_177 d_M_reckon_82 hmo (by decide) (by first | rfl | assumption) rfl rfl ?_
              refine j_iload C d_M_reckon_85 rfl ?_
              refine j_if_ne (tgt := 94) C d_M_reckon_87 (by decide) (fun c87 => ?_) (fun c87 => ?_)
              · refine j_iload C d_M_reckon_94 rfl ?_
                refine j_iload C d_M_reckon_96 rfl ?_
                refine j_idiv C d_M_reckon_98 c87 ?_
                refine j_istore C d_M_reckon_99 (by decide) rfl ?_
                refine j_aload_n C d_M_reckon_101 rfl rfl ?_
                refine jm_get C fl_6_60 d_M_reckon_102 hmo rfl ?_
                refine j_iload C d_M_reckon_105 rfl ?_
                refine jm_ialdn C 15 (k) d_M_reckon_107 (by decide) rfl hmo rfl (by omega) (by omega) ?_
                refine j_iconst (v := 1) C d_M_reckon_108 (by decide) ?_
                refine j_icmp_ne (tgt := 119) C d_M_reckon_109 (by decide) (fun c109 => ?_) (fun c109 => ?_)
                · refine j_iload_n C d_M_reckon_119 rfl rfl ?_
                  refine j_iload C d_M_reckon_120 rfl ?_
                  refine j_isub C d_M_reckon_122 ?_
                  refine j_istore_n C d_M_reckon_123 rfl (by decide) rfl ?_
                  have e1 : rks α r k sm = (sm - (mof α (nI r) (α 24 k) / mof α (nI r) (α 25 k))) := by unfold rks; rw [if_neg c20, if_neg c109]; unfold rkV; rw [if_neg c47, if_neg c87]
                  have e2 : rkb α r k bk = 1 := by unfold rkb; rw [if_neg c20, if_neg c47, if_neg (show ¬ bk = 0 from c69)]
                  refine j_iinc (v := nI (k + 1)) C d_M_reckon_124 rfl (nI_inc k) (by decide) rfl ?_
                  refine j_goto (tgt := 5) C d_M_reckon_127 (by decide) ?_
                  have J9 := ih (k + 1) (sm - (mof α (nI r) (α 24 k) / mof α (nI r) (α 25 k))) 1 (by omega) (by rw [← hvs]; show _ = rkS α r m9 (k + 1) (rks α r k sm); rw [e1]) (by rw [← hvb]; show _ = rkB α r m9 (k + 1) (rkb α r k bk); rw [e2])
                  exact j_h (by rw [upd_uu]) (j_pick [0, 1, 4, 5, 6] rfl J9)
                · refine j_iload_n C d_M_reckon_112 rfl rfl ?_
                  refine j_iload C d_M_reckon_113 rfl ?_
                  refine j_iadd C d_M_reckon_115 ?_
                  refine j_goto (tgt := 123) C d_M_reckon_116 (by decide) ?_
                  refine j_istore_n C d_M_reckon_123 rfl (by decide) rfl ?_
                  have e1 : rks α r k sm = (sm + (mof α (nI r) (α 24 k) / mof α (nI r) (α 25 k))) := by unfold rks; rw [if_neg c20, if_pos c109]; unfold rkV; rw [if_neg c47, if_neg c87]
                  have e2 : rkb α r k bk = 1 := by unfold rkb; rw [if_neg c20, if_neg c47, if_neg (show ¬ bk = 0 from c69)]
                  refine j_iinc (v := nI (k + 1)) C d_M_reckon_124 rfl (nI_inc k) (by decide) rfl ?_
                  refine j_goto (tgt := 5) C d_M_reckon_127 (by decide) ?_
                  have J9 := ih (k + 1) (sm + (mof α (nI r) (α 24 k) / mof α (nI r) (α 25 k))) 1 (by omega) (by rw [← hvs]; show _ = rkS α r m9 (k + 1) (rks α r k sm); rw [e1]) (by rw [← hvb]; show _ = rkB α r m9 (k + 1) (rkb α r k bk); rw [e2])
                  exact j_h (by rw [upd_uu]) (j_pick [0, 1, 4, 5, 6] rfl J9)
              · refine j_iconst (v := 0) C d_M_reckon_90 (by decide) ?_
                refine j_goto (tgt := 99) C d_M_reckon_91 (by decide) ?_
                refine j_istore C d_M_reckon_99 (by decide) rfl ?_
                refine j_aload_n C d_M_reckon_101 rfl rfl ?_
                refine jm_get C fl_6_60 d_M_reckon_102 hmo rfl ?_
                refine j_iload C d_M_reckon_105 rfl ?_
                refine jm_ialdn C 15 (k) d_M_reckon_107 (by decide) rfl hmo rfl (by omega) (by omega) ?_
                refine j_iconst (v := 1) C d_M_reckon_108 (by decide) ?_
                refine j_icmp_ne (tgt := 119) C d_M_reckon_109 (by decide) (fun c109 => ?_) (fun c109 => ?_)
                · refine j_iload_n C d_M_reckon_119 rfl rfl ?_
                  refine j_iload C d_M_reckon_120 rfl ?_
                  refine j_isub C d_M_reckon_122 ?_
                  refine j_istore_n C d_M_reckon_123 rfl (by decide) rfl ?_
                  have e1 : rks α r k sm = (sm - 0) := by unfold rks; rw [if_neg c20, if_neg c109]; unfold rkV; rw [if_neg c47, if_pos c87]
                  have e2 : rkb α r k bk = 1 := by unfold rkb; rw [if_neg c20, if_neg c47, if_neg (show ¬ bk = 0 from c69)]
                  refine j_iinc (v := nI (k + 1)) C d_M_reckon_124 rfl (nI_inc k) (by decide) rfl ?_
                  refine j_goto (tgt := 5) C d_M_reckon_127 (by decide) ?_
                  have J9 := ih (k + 1) (sm - 0) 1 (by omega) (by rw [← hvs]; show _ = rkS α r m9 (k + 1) (rks α r k sm); rw [e1]) (by rw [← hvb]; show _ = rkB α r m9 (k + 1) (rkb α r k bk); rw [e2])
                  exact j_h (by rw [upd_uu]) (j_pick [0, 1, 4, 5, 6] rfl J9)
                · refine j_iload_n C d_M_reckon_112 rfl rfl ?_
                  refine j_iload C d_M_reckon_113 rfl ?_
                  refine j_iadd C d_M_reckon_115 ?_
                  refine j_goto (tgt := 123) C d_M_reckon_116 (by decide) ?_
                  refine j_istore_n C d_M_reckon_123 rfl (by decide) rfl ?_
                  have e1 : rks α r k sm = (sm + 0) := by unfold rks; rw [if_neg c20, if_pos c109]; unfold rkV; rw [if_neg c47, if_pos c87]
                  have e2 : rkb α r k bk = 1 := by unfold rkb; rw [if_neg c20, if_neg c47, if_neg (show ¬ bk = 0 from c69)]
                  refine j_iinc (v := nI (k + 1)) C d_M_reckon_124 rfl (nI_inc k) (by decide) rfl ?_
                  refine j_goto (tgt := 5) C d_M_reckon_127 (by decide) ?_
                  have J9 := ih (k + 1) (sm + 0) 1 (by omega) (by rw [← hvs]; show _ = rkS α r m9 (k + 1) (rks α r k sm); rw [e1]) (by rw [← hvb]; show _ = rkB α r m9 (k + 1) (rkb α r k bk); rw [e2])
                  exact j_h (by rw [upd_uu]) (j_pick [0, 1, 4, 5, 6] rfl J9)
            · refine j_iload C d_M_reckon_72 rfl ?_
              refine j_if_ne (tgt := 81) C d_M_reckon_74 (by decide) (fun c74 => ?_) (fun c74 => ?_)
              · refine j_iconst (v := 0) C d_M_reckon_81 (by decide) ?_
                refine jm_puti 33 C fp_6_177 d_M_reckon_82 hmo (by decide) (by first | rfl | assumption) rfl rfl ?_
                refine j_iload C d_M_reckon_85 rfl ?_
                refine j_if_ne (tgt := 94) C d_M_reckon_87 (by decide) (fun c87 => ?_) (fun c87 => ?_)
                · refine j_iload C d_M_reckon_94 rfl ?_
                  refine j_iload C d_M_reckon_96 rfl ?_
                  refine j_idiv C d_M_reckon_98 c87 ?_
                  refine j_istore C d_M_reckon_99 (by decide) rfl ?_
                  refine j_aload_n C d_M_reckon_101 rfl rfl ?_
                  refine jm_get C fl_6_60 d_M_reckon_102 hmo rfl ?_
                  refine j_iload C d_M_reckon_105 rfl ?_
                  refine jm_ialdn C 15 (k) d_M_reckon_107 (by decide) rfl hmo rfl (by omega) (by omega) ?_
                  refine j_iconst (v := 1) C d_M_reckon_108 (by decide) ?_
                  refine j_icmp_ne (tgt := 119) C d_M_reckon_109 (by decide) (fun c109 => ?_) (fun c109 => ?_)
                  · refine j_iload_n C d_M_reckon_119 rfl rfl ?_
                    refine j_iload C d_M_reckon_120 rfl ?_
                    refine j_isub C d_M_reckon_122 ?_
                    refine j_istore_n C d_M_reckon_123 rfl (by decide) rfl ?_
                    have e1 : rks α r k sm = (sm - (mof α (nI r) (α 24 k) / mof α (nI r) (α 25 k))) := by unfold rks; rw [if_neg c20, if_neg c109]; unfold rkV; rw [if_neg c47, if_neg c87]
                    have e2 : rkb α r k bk = 0 := by unfold rkb; rw [if_neg c20, if_neg c47, if_pos (show bk = 0 from c69), if_neg c87]
                    refine j_iinc (v := nI (k + 1)) C d_M_reckon_124 rfl (nI_inc k) (by decide) rfl ?_
                    refine j_goto (tgt := 5) C d_M_reckon_127 (by decide) ?_
                    have J9 := ih (k + 1) (sm - (mof α (nI r) (α 24 k) / mof α (nI r) (α 25 k))) 0 (by omega) (by rw [← hvs]; show _ = rkS α r m9 (k + 1) (rks α r k sm); rw [e1]) (by rw [← hvb]; show _ = rkB α r m9 (k + 1) (rkb α r k bk); rw [e2])
                    exact j_h (by rw [upd_uu]) (j_pick [0, 1, 4, 5, 6] rfl J9)
                  · refine j_iload_n C d_M_reckon_112 rfl rfl ?_
                    refine j_iload C d_M_reckon_113 rfl ?_
                    refine j_iadd C d_M_reckon_115 ?_
                    refine j_goto (tgt := 123) C d_M_reckon_116 (by decide) ?_
                    refine j_istore_n C d_M_reckon_123 rfl (by decide) rfl ?_
                    have e1 : rks α r k sm = (sm + (mof α (nI r) (α 24 k) / mof α (nI r) (α 25 k))) := by unfold rks; rw [if_neg c20, if_pos c109]; unfold rkV; rw [if_neg c47, if_neg c87]
                    have e2 : rkb α r k bk = 0 := by unfold rkb; rw [if_neg c20, if_neg c47, if_pos (show bk = 0 from c69), if_neg c87]
                    refine j_iinc (v := nI (k + 1)) C d_M_reckon_124 rfl (nI_inc k) (by decide) rfl ?_
                    refine j_goto (tgt := 5) C d_M_reckon_127 (by decide) ?_
                    have J9 := ih (k + 1) (sm + (mof α (nI r) (α 24 k) / mof α (nI r) (α 25 k))) 0 (by omega) (by rw [← hvs]; show _ = rkS α r m9 (k + 1) (rks α r k sm); rw [e1]) (by rw [← hvb]; show _ = rkB α r m9 (k + 1) (rkb α r k bk); rw [e2])
                    exact j_h (by rw [upd_uu]) (j_pick [0, 1, 4, 5, 6] rfl J9)
                · exact absurd c87 c74
              · refine j_iconst (v := 1) C d_M_reckon_77 (by decide) ?_
                refine j_goto (tgt := 82) C d_M_reckon_78 (by decide) ?_
                refine jm_puti 33 C fp_6_177 d_M_reckon_82 hmo (by decide) (by first | rfl | assumption) rfl rfl ?_
                refine j_iload C d_M_reckon_85 rfl ?_
                refine j_if_ne (tgt := 94) C d_M_reckon_87 (by decide) (fun c87 => ?_) (fun c87 => ?_)
                · exact absurd c74 c87
                · refine j_iconst (v := 0) C d_M_reckon_90 (by decide) ?_
                  refine j_goto (tgt := 99) C d_M_reckon_91 (by decide) ?_
                  refine j_istore C d_M_reckon_99 (by decide) rfl ?_
                  refine j_aload_n C d_M_reckon_101 rfl rfl ?_
                  refine jm_get C fl_6_60 d_M_reckon_102 hmo rfl ?_
                  refine j_iload C d_M_reckon_105 rfl ?_
                  refine jm_ialdn C 15 (k) d_M_reckon_107 (by decide) rfl hmo rfl (by omega) (by omega) ?_
                  refine j_iconst (v := 1) C d_M_reckon_108 (by decide) ?_
                  refine j_icmp_ne (tgt := 119) C d_M_reckon_109 (by decide) (fun c109 => ?_) (fun c109 => ?_)
                  · refine j_iload_n C d_M_reckon_119 rfl rfl ?_
                    refine j_iload C d_M_reckon_120 rfl ?_
                    refine j_isub C d_M_reckon_122 ?_
                    refine j_istore_n C d_M_reckon_123 rfl (by decide) rfl ?_
                    have e1 : rks α r k sm = (sm - 0) := by unfold rks; rw [if_neg c20, if_neg c109]; unfold rkV; rw [if_neg c47, if_pos c87]
                    have e2 : rkb α r k bk = 1 := by unfold rkb; rw [if_neg c20, if_neg c47, if_pos (show bk = 0 from c69), if_pos c87]
                    refine j_iinc (v := nI (k + 1)) C d_M_reckon_124 rfl (nI_inc k) (by decide) rfl ?_
                    refine j_goto (tgt := 5) C d_M_reckon_127 (by decide) ?_
                    have J9 := ih (k + 1) (sm - 0) 1 (by omega) (by rw [← hvs]; show _ = rkS α r m9 (k + 1) (rks α r k sm); rw [e1]) (by rw [← hvb]; show _ = rkB α r m9 (k + 1) (rkb α r k bk); rw [e2])
                    exact j_h (by rw [upd_uu]) (j_pick [0, 1, 4, 5, 6] rfl J9)
                  · refine j_iload_n C d_M_reckon_112 rfl rfl ?_
                    refine j_iload C d_M_reckon_113 rfl ?_
                    refine j_iadd C d_M_reckon_115 ?_
                    refine j_goto (tgt := 123) C d_M_reckon_116 (by decide) ?_
                    refine j_istore_n C d_M_reckon_123 rfl (by decide) rfl ?_
                    have e1 : rks α r k sm = (sm + 0) := by unfold rks; rw [if_neg c20, if_pos c109]; unfold rkV; rw [if_neg c47, if_pos c87]
                    have e2 : rkb α r k bk = 1 := by unfold rkb; rw [if_neg c20, if_neg c47, if_pos (show bk = 0 from c69), if_pos c87]
                    refine j_iinc (v := nI (k + 1)) C d_M_reckon_124 rfl (nI_inc k) (by decide) rfl ?_
                    refine j_goto (tgt := 5) C d_M_reckon_127 (by decide) ?_
                    have J9 := ih (k + 1) (sm + 0) 1 (by omega) (by rw [← hvs]; show _ = rkS α r m9 (k + 1) (rks α r k sm); rw [e1]) (by rw [← hvb]; show _ = rkB α r m9 (k + 1) (rkb α r k bk); rw [e2])
                    exact j_h (by rw [upd_uu]) (j_pick [0, 1, 4, 5, 6] rfl J9)
        · refine j_goto (tgt := 124) C d_M_reckon_23 (by decide) ?_
          have e1 : rks α r k sm = sm := by unfold rks; rw [if_pos c20]
          have e2 : rkb α r k bk = bk := by unfold rkb; rw [if_pos c20]
          refine j_iinc (v := nI (k + 1)) C d_M_reckon_124 rfl (nI_inc k) (by decide) rfl ?_
          refine j_goto (tgt := 5) C d_M_reckon_127 (by decide) ?_
          have J9 := ih (k + 1) sm bk (by omega) (by rw [← hvs]; show _ = rkS α r m9 (k + 1) (rks α r k sm); rw [e1]) (by rw [← hvb]; show _ = rkB α r m9 (k + 1) (rkb α r k bk); rw [e2])
          exact j_pick [0, 1, 2, 3, 4] rfl J9
  refine j_iconst (v := 0) C d_M_reckon_0 (by decide) ?_
  refine j_istore_n C d_M_reckon_1 rfl (by decide) rfl ?_
  refine j_iload_n C d_M_reckon_2 rfl rfl ?_
  refine j_istore C d_M_reckon_3 (by decide) rfl ?_
  refine j_h (h' := ovM mo (upd σ 33 (σ 33)) α h) (by rw [upd_self rfl]) ?_
  exact j_pick [0, 1, 2, 3, 4] rfl (loop 4 k0 0 (σ 33) rfl rfl rfl)

