/-! ===== the reference: canSign, put: printed by program ===== -/
def sgl (α : Nat → Nat → Int32) (r : Nat) (p : Int32) : Nat → Nat → Int32
  | 0, _ => 1
  | n + 1, k => if α 9 (3 * r + k) = p then 0 else sgl α r p n (k + 1)
def cff (α : Nat → Nat → Int32) (r kd : Nat) : Nat → Nat → Int32
  | 0, _ => 1
  | n + 1, f => if α 14 (20 * kd + f) = 0 then cff α r kd n (f + 1) else if α 10 (20 * r + f) = 0 then 0 else cff α r kd n (f + 1)
def cfr (α : Nat → Nat → Int32) (r : Nat) : Nat → Nat → Int32
  | 0, _ => 1
  | n + 1, q => if mvd α r q ≤ 0 then cfr α r n (q + 1) else 0
def mcg (α : Nat → Nat → Int32) (r kd c nq : Nat) (p : Int32) : Int32 := if 0 < α 6 r then 0 else if 0 < opn (α 12) (20 * r) 20 0 0 then 0 else if c = 3 then 0 else if sgl α r p c 0 = 0 then 0 else if cff α r kd 20 0 = 0 then 0 else cfr α r nq 0
theorem e3 (a c : Nat) : (3 : Int32) * nI a + nI c = nI (3 * a + c) := by
  rw [show (3 : Int32) = nI 3 from rfl, pk_mul, nI_add]
theorem nI3 {c : Nat} (hc : c ≤ 3) : nI c = 3 ↔ c = 3 := by
  rw [show (3 : Int32) = nI 3 from rfl, nI_eq (by omega) (by omega)]
set_option maxHeartbeats 4000000 in
set_option maxRecDepth 100000 in
theorem c_M_canSign {l : Launch} (hl : l.stackTraces = false) {D : va_G} {cA : Nat → ClassId} {b n mo : Nat} (r : Nat) (p0 : Int32) (σ : Nat → Int32) (α : Nat → Nat → Int32) (h : AH) (hmo : mo + 27 < n) (kd : Nat) (hkd : α 4 r = nI kd) (hkl : kd < 5) (c0 : Nat) (h8 : α 8 r = nI c0) (hcl : c0 ≤ 3) (nq : Nat) (hnq : σ 21 = nI nq) (hql : nq ≤ 20) (hr : r < 30) (hF : FR α) : Cn l D cA b y_M_canSign k_M_canSign 3 48 0 0 [.ref mo, .int (nI r), .int p0] n (ovM mo σ α h) (Ro (some (.int (mcg α r kd c0 nq p0))) n (fun w : Int32 => ovM mo (upd σ 33 w) α h)) := by
  refine Cn.of (cc := b_M_canSign) (maxL := 4) (ret := (some .boolean)) (hh := []) (by decide +kernel) hl (Or.inl ⟨rfl, rfl⟩) (Nat.le_of_ble_eq_true rfl) ?_
  intro p e s m args below meth c C
  have loopC : ¬ 0 < α 6 r → ¬ 0 < opn (α 12) (20 * r) 20 0 0 → ¬ c0 = 3 → ¬ sgl α r p0 c0 0 = 0 → ¬ cff α r kd 20 0 = 0 → ∀ (m9 q : Nat) (w : Int32), q + m9 = nq → cfr α r m9 q = cfr α r nq 0 → J p l e { frames := 3, cells := 0, slots := 0, locals := 48 } s m args below meth c D cA b 4 (EndQ D cA b s below (Ro (some (.int (mcg α r kd c0 nq p0))) n (fun w : Int32 => ovM mo (upd σ 33 w) α h)) 0 0) n (ovM mo (upd σ 33 w) α h) 0 0 114 [(3, .int (nI q)), (0, .ref mo), (1, .int (nI r)), (2, .int p0)] [] := by
    intro H6 H14 H24 HA HB m9
    induction m9 with
    | zero =>
      intro q w hb hv
      obtain rfl : nq = q := by omega
      refine j_iload_n C d_M_canSign_114 rfl rfl ?_
      refine j_aload_n C d_M_canSign_115 rfl rfl ?_
      refine jm_get C fl_6_166 d_M_canSign_116 hmo rfl ?_
      refine j_icmp_ge (tgt := 139) C d_M_canSign_119 (by decide) (fun c119 => ?_) (fun c119 => ?_)
      · refine j_iconst (v := 1) C d_M_canSign_139 (by decide) ?_
        exact j_zreturn C d_M_canSign_140 rfl (by decide) (by decide) (by decide) ⟨w, by unfold mcg; rw [if_neg H6, if_neg H14, if_neg H24, if_neg HA, if_neg HB, ← hv]; rfl, rfl, rfl⟩
      · exact absurd (show σ 21 ≤ nI nq by rw [hnq]; exact nI_le (Nat.le_refl _) (by omega)) c119
    | succ m9 ih =>
      intro q w hb hv
      refine j_iload_n C d_M_canSign_114 rfl rfl ?_
      refine j_aload_n C d_M_canSign_115 rfl rfl ?_
      refine jm_get C fl_6_166 d_M_canSign_116 hmo rfl ?_
      refine j_icmp_ge (tgt := 139) C d_M_canSign_119 (by decide) (fun c119 => ?_) (fun c119 => ?_)
      · exact absurd (show σ 21 ≤ nI q from c119) (by rw [hnq]; exact nI_ge (by omega) (by omega))
      · refine j_aload_n C d_M_canSign_122 rfl rfl ?_
        refine j_iload_n C d_M_canSign_123 rfl rfl ?_
        refine j_iload_n C d_M_canSign_124 rfl rfl ?_
        refine j_callV C d_M_canSign_125 ml_M_194 mc_M_verdict in_M_verdict rfl se_M_verdict (by omega) (ovM_o _ _ _ _) (c_M_verdict hl r q _ _ _ hmo (by omega) (by omega) hF) rfl rfl (Nat.le_of_ble_eq_true rfl) (Nat.le_of_ble_eq_true rfl) (Nat.le_of_ble_eq_true rfl) (Nat.le_of_ble_eq_true rfl) (jk_o (fun b1 => ?_))
        refine j_if_le (tgt := 133) C d_M_canSign_128 (by decide) (fun c128 => ?_) (fun c128 => ?_)
        · refine j_iinc (v := nI (q + 1)) C d_M_canSign_133 rfl (nI_inc q) (by decide) rfl ?_
          refine j_goto (tgt := 114) C d_M_canSign_136 (by decide) ?_
          exact j_h (by rw [upd_uu]) (j_pick [0, 1, 2, 3] rfl (ih (q + 1) b1 (by omega) (by rw [← hv]; show _ = (if mvd α r q ≤ 0 then cfr α r m9 (q + 1) else 0); rw [if_pos c128])))
        · have e9 : cfr α r nq 0 = 0 := by rw [← hv]; show (if mvd α r q ≤ 0 then cfr α r m9 (q + 1) else 0) = 0; rw [if_neg c128]
          refine j_iconst (v := 0) C d_M_canSign_131 (by decide) ?_
          exact j_zreturn C d_M_canSign_132 rfl (by decide) (by decide) (by decide) ⟨b1, by unfold mcg; rw [if_neg H6, if_neg H14, if_neg H24, if_neg HA, if_neg HB, e9], rfl, by rw [upd_uu]⟩
  have loopB : ¬ 0 < α 6 r → ¬ 0 < opn (α 12) (20 * r) 20 0 0 → ¬ c0 = 3 → ¬ sgl α r p0 c0 0 = 0 → ∀ (m9 f : Nat) (w : Int32), f + m9 = 20 → cff α r kd m9 f = cff α r kd 20 0 → J p l e { frames := 3, cells := 0, slots := 0, locals := 48 } s m args below meth c D cA b 4 (EndQ D cA b s below (Ro (some (.int (mcg α r kd c0 nq p0))) n (fun w : Int32 => ovM mo (upd σ 33 w) α h)) 0 0) n (ovM mo (upd σ 33 w) α h) 0 0 65 [(3, .int (nI f)), (0, .ref mo), (1, .int (nI r)), (2, .int p0)] [] := by
    intro H6 H14 H24 HA m9
    induction m9 with
    | zero =>
      intro f w hb hv
      obtain rfl : f = 20 := by omega
      refine j_iload_n C d_M_canSign_65 rfl rfl ?_
      refine j_bipush (v := 20) C d_M_canSign_66 (by decide) ?_
      refine j_icmp_ge (tgt := 112) C d_M_canSign_68 (by decide) (fun c68 => ?_) (fun c68 => ?_)
      · refine j_iconst (v := 0) C d_M_canSign_112 (by decide) ?_
        refine j_istore_n C d_M_canSign_113 rfl (by decide) rfl ?_
        exact j_pick [0, 1, 2, 3] rfl (loopC H6 H14 H24 HA (by rw [← hv]; show ¬ (1 : Int32) = 0; decide) nq 0 w (by omega) rfl)
      · exact absurd (by decide) c68
    | succ m9 ih =>
      intro f w hb hv
      refine j_iload_n C d_M_canSign_65 rfl rfl ?_
      refine j_bipush (v := 20) C d_M_canSign_66 (by decide) ?_
      refine j_icmp_ge (tgt := 112) C d_M_canSign_68 (by decide) (fun c68 => ?_) (fun c68 => ?_)
      · exact absurd (show nI 20 ≤ nI f from c68) (nI_ge (by omega) (by omega))
      · refine j_aload_n C d_M_canSign_71 rfl rfl ?_
        refine jm_get C fl_6_44 d_M_canSign_72 hmo rfl ?_
        refine j_bipush (v := 20) C d_M_canSign_75 (by decide) ?_
        refine j_aload_n C d_M_canSign_77 rfl rfl ?_
        refine jm_get C fl_6_13 d_M_canSign_78 hmo rfl ?_
        refine j_iload_n C d_M_canSign_81 rfl rfl ?_
        refine jm_ialdn C 1 (r) d_M_canSign_82 (by decide) rfl hmo rfl (by omega) (by omega) ?_
        refine j_imul C d_M_canSign_83 ?_
        refine j_iload_n C d_M_canSign_84 rfl rfl ?_
        refine j_iadd C d_M_canSign_85 ?_
        refine jm_zaldn C 11 (20 * kd + f) d_M_canSign_86 (by decide) rfl hmo (by rw [hkd]; exact e20 kd f) (by omega) (by omega) ?_
        refine j_if_eq (tgt := 106) C d_M_canSign_87 (by decide) (fun c87 => ?_) (fun c87 => ?_)
        · refine j_iinc (v := nI (f + 1)) C d_M_canSign_106 rfl (nI_inc f) (by decide) rfl ?_
          refine j_goto (tgt := 65) C d_M_canSign_109 (by decide) ?_
          exact j_pick [0, 1, 2, 3] rfl (ih (f + 1) w (by omega) (by rw [← hv]; show _ = (if α 14 (20 * kd + f) = 0 then cff α r kd m9 (f + 1) else if α 10 (20 * r + f) = 0 then 0 else cff α r kd m9 (f + 1)); rw [if_pos c87]))
        · refine j_aload_n C d_M_canSign_90 rfl rfl ?_
          refine jm_get C fl_6_31 d_M_canSign_91 hmo rfl ?_
          refine j_bipush (v := 20) C d_M_canSign_94 (by decide) ?_
          refine j_iload_n C d_M_canSign_96 rfl rfl ?_
          refine j_imul C d_M_canSign_97 ?_
          refine j_iload_n C d_M_canSign_98 rfl rfl ?_
          refine j_iadd C d_M_canSign_99 ?_
          refine jm_zaldn C 7 (20 * r + f) d_M_canSign_100 (by decide) rfl hmo (e20 r f) (by omega) (by omega) ?_
          refine j_if_ne (tgt := 106) C d_M_canSign_101 (by decide) (fun c101 => ?_) (fun c101 => ?_)
          · refine j_iinc (v := nI (f + 1)) C d_M_canSign_106 rfl (nI_inc f) (by decide) rfl ?_
            refine j_goto (tgt := 65) C d_M_canSign_109 (by decide) ?_
            exact j_pick [0, 1, 2, 3] rfl (ih (f + 1) w (by omega) (by rw [← hv]; show _ = (if α 14 (20 * kd + f) = 0 then cff α r kd m9 (f + 1) else if α 10 (20 * r + f) = 0 then 0 else cff α r kd m9 (f + 1)); rw [if_neg c87, if_neg c101]))
          · refine j_iconst (v := 0) C d_M_canSign_104 (by decide) ?_
            exact j_zreturn C d_M_canSign_105 rfl (by decide) (by decide) (by decide) ⟨w, by unfold mcg; rw [if_neg H6, if_neg H14, if_neg H24, if_neg HA, if_pos (by rw [← hv]; show (if α 14 (20 * kd + f) = 0 then cff α r kd m9 (f + 1) else if α 10 (20 * r + f) = 0 then 0 else cff α r kd m9 (f + 1)) = 0; rw [if_neg c87, if_pos c101])], rfl, rfl⟩
  have loopA : ¬ 0 < α 6 r → ¬ 0 < opn (α 12) (20 * r) 20 0 0 → ¬ c0 = 3 → ∀ (m9 k : Nat) (w : Int32), k + m9 = c0 → sgl α r p0 m9 k = sgl α r p0 c0 0 → J p l e { frames := 3, cells := 0, slots := 0, locals := 48 } s m args below meth c D cA b 4 (EndQ D cA b s below (Ro (some (.int (mcg α r kd c0 nq p0))) n (fun w : Int32 => ovM mo (upd σ 33 w) α h)) 0 0) n (ovM mo (upd σ 33 w) α h) 0 0 31 [(3, .int (nI k)), (0, .ref mo), (1, .int (nI r)), (2, .int p0)] [] := by
    intro H6 H14 H24 m9
    induction m9 with
    | zero =>
      intro k w hb hv
      obtain rfl : c0 = k := by omega
      refine j_iload_n C d_M_canSign_31 rfl rfl ?_
      refine j_aload_n C d_M_canSign_32 rfl rfl ?_
      refine jm_get C fl_6_25 d_M_canSign_33 hmo rfl ?_
      refine j_iload_n C d_M_canSign_36 rfl rfl ?_
      refine jm_ialdn C 5 (r) d_M_canSign_37 (by decide) rfl hmo rfl (by omega) (by omega) ?_
      refine j_icmp_ge (tgt := 63) C d_M_canSign_38 (by decide) (fun c38 => ?_) (fun c38 => ?_)
      · refine j_iconst (v := 0) C d_M_canSign_63 (by decide) ?_
        refine j_istore_n C d_M_canSign_64 rfl (by decide) rfl ?_
        exact j_pick [0, 1, 2, 3] rfl (loopB H6 H14 H24 (by rw [← hv]; show ¬ (1 : Int32) = 0; decide) 20 0 w rfl rfl)
      · exact absurd (show α 8 r ≤ nI c0 by rw [h8]; exact nI_le (Nat.le_refl _) (by omega)) c38
    | succ m9 ih =>
      intro k w hb hv
      refine j_iload_n C d_M_canSign_31 rfl rfl ?_
      refine j_aload_n C d_M_canSign_32 rfl rfl ?_
      refine jm_get C fl_6_25 d_M_canSign_33 hmo rfl ?_
      refine j_iload_n C d_M_canSign_36 rfl rfl ?_
      refine jm_ialdn C 5 (r) d_M_canSign_37 (by decide) rfl hmo rfl (by omega) (by omega) ?_
      refine j_icmp_ge (tgt := 63) C d_M_canSign_38 (by decide) (fun c38 => ?_) (fun c38 => ?_)
      · exact absurd (show nI c0 ≤ nI k by rw [← h8]; exact c38) (nI_ge (by omega) (by omega))
      · refine j_aload_n C d_M_canSign_41 rfl rfl ?_
        refine jm_get C fl_6_28 d_M_canSign_42 hmo rfl ?_
        refine j_iconst (v := 3) C d_M_canSign_45 (by decide) ?_
        refine j_iload_n C d_M_canSign_46 rfl rfl ?_
        refine j_imul C d_M_canSign_47 ?_
        refine j_iload_n C d_M_canSign_48 rfl rfl ?_
        refine j_iadd C d_M_canSign_49 ?_
        refine jm_ialdn C 6 (3 * r + k) d_M_canSign_50 (by decide) rfl hmo (e3 r k) (by omega) (by omega) ?_
        refine j_iload_n C d_M_canSign_51 rfl rfl ?_
        refine j_icmp_ne (tgt := 57) C d_M_canSign_52 (by decide) (fun c52 => ?_) (fun c52 => ?_)
        · refine j_iinc (v := nI (k + 1)) C d_M_canSign_57 rfl (nI_inc k) (by decide) rfl ?_
          refine j_goto (tgt := 31) C d_M_canSign_60 (by decide) ?_
          exact j_pick [0, 1, 2, 3] rfl (ih (k + 1) w (by omega) (by rw [← hv]; show _ = (if α 9 (3 * r + k) = p0 then 0 else sgl α r p0 m9 (k + 1)); rw [if_neg c52]))
        · refine j_iconst (v := 0) C d_M_canSign_55 (by decide) ?_
          exact j_zreturn C d_M_canSign_56 rfl (by decide) (by decide) (by decide) ⟨w, by unfold mcg; rw [if_neg H6, if_neg H14, if_neg H24, if_pos (by rw [← hv]; show (if α 9 (3 * r + k) = p0 then 0 else sgl α r p0 m9 (k + 1)) = 0; rw [if_pos c52])], rfl, rfl⟩
  obtain ⟨w, hw⟩ : ∃ w, w = σ 33 := ⟨_, rfl⟩
  refine j_h (h' := ovM mo (upd σ 33 w) α h) (by rw [hw, upd_self rfl]) ?_
  refine j_aload_n C d_M_canSign_0 rfl rfl ?_
  refine jm_get C fl_6_19 d_M_canSign_1 hmo rfl ?_
  refine j_iload_n C d_M_canSign_4 rfl rfl ?_
  refine jm_ialdn C 3 (r) d_M_canSign_5 (by decide) rfl hmo rfl (by omega) (by omega) ?_
  refine j_if_gt (tgt := 27) C d_M_canSign_6 (by decide) (fun c6 => ?_) (fun c6 => ?_)
  · refine j_iconst (v := 0) C d_M_canSign_27 (by decide) ?_
    exact j_zreturn C d_M_canSign_28 rfl (by decide) (by decide) (by decide) ⟨w, by unfold mcg; rw [if_pos c6], rfl, rfl⟩
  · refine j_aload_n C d_M_canSign_9 rfl rfl ?_
    refine j_iload_n C d_M_canSign_10 rfl rfl ?_
    refine j_callV C d_M_canSign_11 ml_M_197 mc_M_opened in_M_opened rfl se_M_opened (by omega) (ovM_o _ _ _ _) (c_M_opened hl r _ _ _ hmo hr) rfl rfl (Nat.le_of_ble_eq_true rfl) (Nat.le_of_ble_eq_true rfl) (Nat.le_of_ble_eq_true rfl) (Nat.le_of_ble_eq_true rfl) (jk_r ?_)
    refine j_if_gt (tgt := 27) C d_M_canSign_14 (by decide) (fun c14 => ?_) (fun c14 => ?_)
    · refine j_iconst (v := 0) C d_M_canSign_27 (by decide) ?_
      exact j_zreturn C d_M_canSign_28 rfl (by decide) (by decide) (by decide) ⟨w, by unfold mcg; rw [if_neg c6, if_pos c14], rfl, rfl⟩
    · refine j_aload_n C d_M_canSign_17 rfl rfl ?_
      refine jm_get C fl_6_25 d_M_canSign_18 hmo rfl ?_
      refine j_iload_n C d_M_canSign_21 rfl rfl ?_
      refine jm_ialdn C 5 (r) d_M_canSign_22 (by decide) rfl hmo rfl (by omega) (by omega) ?_
      refine j_iconst (v := 3) C d_M_canSign_23 (by decide) ?_
      refine j_icmp_ne (tgt := 29) C d_M_canSign_24 (by decide) (fun c24 => ?_) (fun c24 => ?_)
      · refine j_iconst (v := 0) C d_M_canSign_29 (by decide) ?_
        refine j_istore_n C d_M_canSign_30 rfl (by decide) rfl ?_
        exact j_pick [0, 1, 2, 3] rfl (loopA c6 c14 (fun z => c24 (by rw [h8, z]; rfl)) c0 0 w (by omega) rfl)
      · refine j_iconst (v := 0) C d_M_canSign_27 (by decide) ?_
        exact j_zreturn C d_M_canSign_28 rfl (by decide) (by decide) (by decide) ⟨w, by unfold mcg; rw [if_neg c6, if_neg c14, if_pos ((nI3 hcl).mp (by rw [← h8]; exact c24))], rfl, rfl⟩

theorem c_M_isPersonK {l : Launch} (hl : l.stackTraces = false) {D : va_G} {cA : Nat → ClassId} {b n : Nat} (x : Int32) (h : AH) {w : Int32} (hw : inI x 0 19 = w) : Cn l D cA b y_M_isPerson k_M_isPerson 1 14 0 0 [.int x] n h (Re (some (.int w)) n h) := by
  subst hw
  exact c_M_isPerson hl x h
set_option maxHeartbeats 4000000 in
set_option maxRecDepth 100000 in
theorem c_M_put_p {l : Launch} (hl : l.stackTraces = false) {D : va_G} {cA : Nat → ClassId} {b n mo : Nat} (r : Nat) (p0 : Int32) (σ : Nat → Int32) (α : Nat → Nat → Int32) (h : AH) (hmo : mo + 27 < n) (nr : Nat) (hnr : σ 2 = nI nr) (hle : nr ≤ 30) (hr : r < nr) (hp : inI p0 0 19 = 0) : Cn l D cA b y_M_put k_M_put 4 65 0 0 [.ref mo, .int (nI r), .int p0] n (ovM mo σ α h) (Re (some (.int 0)) n (ovM mo (upd σ 0 1) α h)) := by
  refine Cn.of (cc := b_M_put) (maxL := 4) (ret := (some .int)) (hh := []) (by decide +kernel) hl (Or.inl ⟨rfl, rfl⟩) (Nat.le_of_ble_eq_true rfl) ?_
  intro p e s m args below meth c C
  refine j_aload_n C d_M_put_0 rfl rfl ?_
  refine j_iload_n C d_M_put_1 rfl rfl ?_
  refine j_callV C d_M_put_2 ml_M_121 mc_M_isReport in_M_isReport rfl se_M_isReport (by omega) (ovM_o _ _ _ _) (c_M_isReportK hl _ _ _ _ hmo (in_rep hnr hle hr)) rfl rfl (Nat.le_of_ble_eq_true rfl) (Nat.le_of_ble_eq_true rfl) (Nat.le_of_ble_eq_true rfl) (Nat.le_of_ble_eq_true rfl) (jk_r ?_)
  refine j_if_eq (tgt := 19) C d_M_put_5 (by decide) (fun c5 => ?_) (fun c5 => ?_)
  · exact absurd c5 (by decide)
  · refine j_iload_n C d_M_put_8 rfl rfl ?_
    refine j_callS C d_M_put_9 ml_M_200 mc_M_isPerson st_M_isPerson (c_M_isPersonK hl _ _ hp) rfl rfl (Nat.le_of_ble_eq_true rfl) (Nat.le_of_ble_eq_true rfl) (Nat.le_of_ble_eq_true rfl) (Nat.le_of_ble_eq_true rfl) (jk_r ?_)
    refine j_if_eq (tgt := 19) C d_M_put_12 (by decide) (fun c12 => ?_) (fun c12 => ?_)
    · refine j_iconst (v := 0) C d_M_put_19 (by decide) ?_
      refine j_istore_n C d_M_put_20 rfl (by decide) rfl ?_
      refine j_aload_n C d_M_put_21 rfl rfl ?_
      refine j_iload_n C d_M_put_22 rfl rfl ?_
      refine j_iload_n C d_M_put_23 rfl rfl ?_
      refine j_if_eq (tgt := 40) C d_M_put_24 (by decide) (fun c24 => ?_) (fun c24 => ?_)
      · refine j_iconst (v := 0) C d_M_put_40 (by decide) ?_
        refine j_iconst (v := 1) C d_M_put_41 (by decide) ?_
        refine j_callV C d_M_put_42 ml_M_109 mc_M_goes in_M_goes rfl se_M_goes (by omega) (ovM_o _ _ _ _) (c_M_goesK hl _ _ _ _ _ _ hmo (gs_1 _ _)) rfl rfl (Nat.le_of_ble_eq_true rfl) (Nat.le_of_ble_eq_true rfl) (Nat.le_of_ble_eq_true rfl) (Nat.le_of_ble_eq_true rfl) (jk_r ?_)
        refine j_if_ne (tgt := 50) C d_M_put_45 (by decide) (fun c45 => ?_) (fun c45 => ?_)
        · exact absurd (by decide) c45
        · refine j_iconst (v := 0) C d_M_put_48 (by decide) ?_
          exact j_ireturn C d_M_put_49 rfl (by decide) (by decide) ⟨rfl, rfl, rfl⟩
      · exact absurd rfl c24
    · exact absurd rfl c12

theorem c_M_canSignK {l : Launch} (hl : l.stackTraces = false) {D : va_G} {cA : Nat → ClassId} {b n mo : Nat} (r : Nat) (p0 : Int32) (σ : Nat → Int32) (α : Nat → Nat → Int32) (h : AH) (hmo : mo + 27 < n) (kd : Nat) (hkd : α 4 r = nI kd) (hkl : kd < 5) (c0 : Nat) (h8 : α 8 r = nI c0) (hcl : c0 ≤ 3) (nq : Nat) (hnq : σ 21 = nI nq) (hql : nq ≤ 20) (hr : r < 30) (hF : FR α) {v : Int32} (hm : mcg α r kd c0 nq p0 = v) : Cn l D cA b y_M_canSign k_M_canSign 3 48 0 0 [.ref mo, .int (nI r), .int p0] n (ovM mo σ α h) (Ro (some (.int v)) n (fun w : Int32 => ovM mo (upd σ 33 w) α h)) := by
  subst hm
  exact c_M_canSign hl r p0 σ α h hmo kd hkd hkl c0 h8 hcl nq hnq hql hr hF
set_option maxHeartbeats 4000000 in
set_option maxRecDepth 100000 in
theorem c_M_put_2 {l : Launch} (hl : l.stackTraces = false) {D : va_G} {cA : Nat → ClassId} {b n mo : Nat} (r : Nat) (p0 : Int32) (σ : Nat → Int32) (α : Nat → Nat → Int32) (h : AH) (hmo : mo + 27 < n) (nr : Nat) (hnr : σ 2 = nI nr) (hle : nr ≤ 30) (hr : r < nr) (hp : inI p0 0 19 = 1) (kd : Nat) (hkd : α 4 r = nI kd) (hkl : kd < 5) (c0 : Nat) (h8 : α 8 r = nI c0) (hcl : c0 ≤ 3) (nq : Nat) (hnq : σ 21 = nI nq) (hql : nq ≤ 20) (hF : FR α) (hm : mcg α r kd c0 nq p0 = 0) : Cn l D cA b y_M_put k_M_put 4 65 0 0 [.ref mo, .int (nI r), .int p0] n (ovM mo σ α h) (Ro (some (.int 0)) n (fun w : Int32 => ovM mo (upd (upd σ 33 w) 0 2) α h)) := by
  refine Cn.of (cc := b_M_put) (maxL := 4) (ret := (some .int)) (hh := []) (by decide +kernel) hl (Or.inl ⟨rfl, rfl⟩) (Nat.le_of_ble_eq_true rfl) ?_
  intro p e s m args below meth c C
  refine j_aload_n C d_M_put_0 rfl rfl ?_
  refine j_iload_n C d_M_put_1 rfl rfl ?_
  refine j_callV C d_M_put_2 ml_M_121 mc_M_isReport in_M_isReport rfl se_M_isReport (by omega) (ovM_o _ _ _ _) (c_M_isReportK hl _ _ _ _ hmo (in_rep hnr hle hr)) rfl rfl (Nat.le_of_ble_eq_true rfl) (Nat.le_of_ble_eq_true rfl) (Nat.le_of_ble_eq_true rfl) (Nat.le_of_ble_eq_true rfl) (jk_r ?_)
  refine j_if_eq (tgt := 19) C d_M_put_5 (by decide) (fun c5 => ?_) (fun c5 => ?_)
  · exact absurd c5 (by decide)
  · refine j_iload_n C d_M_put_8 rfl rfl ?_
    refine j_callS C d_M_put_9 ml_M_200 mc_M_isPerson st_M_isPerson (c_M_isPersonK hl _ _ hp) rfl rfl (Nat.le_of_ble_eq_true rfl) (Nat.le_of_ble_eq_true rfl) (Nat.le_of_ble_eq_true rfl) (Nat.le_of_ble_eq_true rfl) (jk_r ?_)
    refine j_if_eq (tgt := 19) C d_M_put_12 (by decide) (fun c12 => ?_) (fun c12 => ?_)
    · exact absurd c12 (by decide)
    · refine j_iconst (v := 1) C d_M_put_15 (by decide) ?_
      refine j_goto (tgt := 20) C d_M_put_16 (by decide) ?_
      refine j_istore_n C d_M_put_20 rfl (by decide) rfl ?_
      refine j_aload_n C d_M_put_21 rfl rfl ?_
      refine j_iload_n C d_M_put_22 rfl rfl ?_
      refine j_iload_n C d_M_put_23 rfl rfl ?_
      refine j_if_eq (tgt := 40) C d_M_put_24 (by decide) (fun c24 => ?_) (fun c24 => ?_)
      · exact absurd c24 (by decide)
      · refine j_aload_n C d_M_put_27 rfl rfl ?_
        refine j_iload_n C d_M_put_28 rfl rfl ?_
        refine j_iload_n C d_M_put_29 rfl rfl ?_
        refine j_callV C d_M_put_30 ml_M_203 mc_M_canSign in_M_canSign rfl se_M_canSign (by omega) (ovM_o _ _ _ _) (c_M_canSignK hl r _ _ _ _ hmo kd hkd hkl c0 h8 hcl nq hnq hql (by omega) hF hm) rfl rfl (Nat.le_of_ble_eq_true rfl) (Nat.le_of_ble_eq_true rfl) (Nat.le_of_ble_eq_true rfl) (Nat.le_of_ble_eq_true rfl) (jk_o (fun w => ?_))
        refine j_if_eq (tgt := 40) C d_M_put_33 (by decide) (fun c33 => ?_) (fun c33 => ?_)
        · refine j_iconst (v := 0) C d_M_put_40 (by decide) ?_
          refine j_iconst (v := 1) C d_M_put_41 (by decide) ?_
          refine j_callV C d_M_put_42 ml_M_109 mc_M_goes in_M_goes rfl se_M_goes (by omega) (ovM_o _ _ _ _) (c_M_goesK hl _ _ _ _ _ _ hmo (gs_2 (by decide) _)) rfl rfl (Nat.le_of_ble_eq_true rfl) (Nat.le_of_ble_eq_true rfl) (Nat.le_of_ble_eq_true rfl) (Nat.le_of_ble_eq_true rfl) (jk_r ?_)
          refine j_if_ne (tgt := 50) C d_M_put_45 (by decide) (fun c45 => ?_) (fun c45 => ?_)
          · exact absurd (by decide) c45
          · refine j_iconst (v := 0) C d_M_put_48 (by decide) ?_
            exact j_ireturn C d_M_put_49 rfl (by decide) (by decide) ⟨w, rfl, rfl, rfl⟩
        · exact absurd rfl c33

set_option maxHeartbeats 4000000 in
set_option maxRecDepth 100000 in
theorem c_M_put_r {l : Launch} (hl : l.stackTraces = false) {D : va_G} {cA : Nat → ClassId} {b n mo : Nat} (r : Nat) (p0 : Int32) (σ : Nat → Int32) (α : Nat → Nat → Int32) (h : AH) (hmo : mo + 27 < n) (nr : Nat) (hnr : σ 2 = nI nr) (hle : nr ≤ 30) (hr : r < nr) (hp : inI p0 0 19 = 1) (kd : Nat) (hkd : α 4 r = nI kd) (hkl : kd < 5) (c0 : Nat) (h8 : α 8 r = nI c0) (hcl : c0 ≤ 3) (nq : Nat) (hnq : σ 21 = nI nq) (hql : nq ≤ 20) (hF : FR α) (hm : mcg α r kd c0 nq p0 = 1) : Cn l D cA b y_M_put k_M_put 4 65 0 0 [.ref mo, .int (nI r), .int p0] n (ovM mo σ α h) (Ro (some (.int (nI (c0 + 1)))) n (fun w : Int32 => ovM mo (upd (upd σ 33 w) 0 0) (upa (upa α 9 (upd (α 9) (3 * r + c0) p0)) 8 (upd (α 8) r (nI (c0 + 1)))) h)) := by
  refine Cn.of (cc := b_M_put) (maxL := 4) (ret := (some .int)) (hh := []) (by decide +kernel) hl (Or.inl ⟨rfl, rfl⟩) (Nat.le_of_ble_eq_true rfl) ?_
  intro p e s m args below meth c C
  refine j_aload_n C d_M_put_0 rfl rfl ?_
  refine j_iload_n C d_M_put_1 rfl rfl ?_
  refine j_callV C d_M_put_2 ml_M_121 mc_M_isReport in_M_isReport rfl se_M_isReport (by omega) (ovM_o _ _ _ _) (c_M_isReportK hl _ _ _ _ hmo (in_rep hnr hle hr)) rfl rfl (Nat.le_of_ble_eq_true rfl) (Nat.le_of_ble_eq_true rfl) (Nat.le_of_ble_eq_true rfl) (Nat.le_of_ble_eq_true rfl) (jk_r ?_)
  refine j_if_eq (tgt := 19) C d_M_put_5 (by decide) (fun c5 => ?_) (fun c5 => ?_)
  · exact absurd c5 (by decide)
  · refine j_iload_n C d_M_put_8 rfl rfl ?_
    refine j_callS C d_M_put_9 ml_M_200 mc_M_isPerson st_M_isPerson (c_M_isPersonK hl _ _ hp) rfl rfl (Nat.le_of_ble_eq_true rfl) (Nat.le_of_ble_eq_true rfl) (Nat.le_of_ble_eq_true rfl) (Nat.le_of_ble_eq_true rfl) (jk_r ?_)
    refine j_if_eq (tgt := 19) C d_M_put_12 (by decide) (fun c12 => ?_) (fun c12 => ?_)
    · exact absurd c12 (by decide)
    · refine j_iconst (v := 1) C d_M_put_15 (by decide) ?_
      refine j_goto (tgt := 20) C d_M_put_16 (by decide) ?_
      refine j_istore_n C d_M_put_20 rfl (by decide) rfl ?_
      refine j_aload_n C d_M_put_21 rfl rfl ?_
      refine j_iload_n C d_M_put_22 rfl rfl ?_
      refine j_iload_n C d_M_put_23 rfl rfl ?_
      refine j_if_eq (tgt := 40) C d_M_put_24 (by decide) (fun c24 => ?_) (fun c24 => ?_)
      · exact absurd c24 (by decide)
      · refine j_aload_n C d_M_put_27 rfl rfl ?_
        refine j_iload_n C d_M_put_28 rfl rfl ?_
        refine j_iload_n C d_M_put_29 rfl rfl ?_
        refine j_callV C d_M_put_30 ml_M_203 mc_M_canSign in_M_canSign rfl se_M_canSign (by omega) (ovM_o _ _ _ _) (c_M_canSignK hl r _ _ _ _ hmo kd hkd hkl c0 h8 hcl nq hnq hql (by omega) hF hm) rfl rfl (Nat.le_of_ble_eq_true rfl) (Nat.le_of_ble_eq_true rfl) (Nat.le_of_ble_eq_true rfl) (Nat.le_of_ble_eq_true rfl) (jk_o (fun w => ?_))
        refine j_if_eq (tgt := 40) C d_M_put_33 (by decide) (fun c33 => ?_) (fun c33 => ?_)
        · exact absurd c33 (by decide)
        · refine j_iconst (v := 1) C d_M_put_36 (by decide) ?_
          refine j_goto (tgt := 41) C d_M_put_37 (by decide) ?_
          refine j_iconst (v := 1) C d_M_put_41 (by decide) ?_
          refine j_callV C d_M_put_42 ml_M_109 mc_M_goes in_M_goes rfl se_M_goes (by omega) (ovM_o _ _ _ _) (c_M_goesK hl _ _ _ _ _ _ hmo (gs_0 (by decide) (by decide) (by decide))) rfl rfl (Nat.le_of_ble_eq_true rfl) (Nat.le_of_ble_eq_true rfl) (Nat.le_of_ble_eq_true rfl) (Nat.le_of_ble_eq_true rfl) (jk_r ?_)
          refine j_if_ne (tgt := 50) C d_M_put_45 (by decide) (fun c45 => ?_) (fun c45 => ?_)
          · have hc3 : c0 < 3 := by
              rcases Nat.lt_or_ge c0 3 with z | z
              · exact z
              · have z3 : c0 = 3 := by omega
                unfold mcg at hm
                rw [if_pos z3] at hm
                split at hm
                · exact absurd hm (by decide)
                · split at hm
                  · exact absurd hm (by decide)
                  · exact absurd hm (by decide)
            refine j_aload_n C d_M_put_50 rfl rfl ?_
            refine jm_get C fl_6_28 d_M_put_51 hmo rfl ?_
            refine j_iconst (v := 3) C d_M_put_54 (by decide) ?_
            refine j_iload_n C d_M_put_55 rfl rfl ?_
            refine j_imul C d_M_put_56 ?_
            refine j_aload_n C d_M_put_57 rfl rfl ?_
            refine jm_get C fl_6_25 d_M_put_58 hmo rfl ?_
            refine j_iload_n C d_M_put_61 rfl rfl ?_
            refine jm_ialdn C 5 (r) d_M_put_62 (by decide) rfl hmo rfl (by omega) (by omega) ?_
            refine j_iadd C d_M_put_63 ?_
            refine j_iload_n C d_M_put_64 rfl rfl ?_
            refine jm_iastn C 6 9 (3 * r + c0) d_M_put_65 (by decide) rfl hmo (by rw [h8]; exact e3 r c0) (by omega) (by omega) rfl ?_
            refine j_aload_n C d_M_put_66 rfl rfl ?_
            refine jm_get C fl_6_25 d_M_put_67 hmo rfl ?_
            refine j_iload_n C d_M_put_70 rfl rfl ?_
            refine j_dup2 C d_M_put_71 rfl rfl ?_
            refine jm_ialdn C 5 (r) d_M_put_72 (by decide) rfl hmo rfl (by omega) (by omega) ?_
            refine j_iconst (v := 1) C d_M_put_73 (by decide) ?_
            refine j_iadd C d_M_put_74 ?_
            refine jm_iastn C 5 8 (r) d_M_put_75 (by decide) rfl hmo rfl (by omega) (by omega) rfl ?_
            refine j_aload_n C d_M_put_76 rfl rfl ?_
            refine jm_get C fl_6_25 d_M_put_77 hmo rfl ?_
            refine j_iload_n C d_M_put_80 rfl rfl ?_
            refine jm_ialdn C 5 (r) d_M_put_81 (by decide) rfl hmo rfl (by omega) (by omega) ?_
            rw [show upa (upa α 9 (upd (α 9) (3 * r + c0) p0)) 8 (upd (upa α 9 (upd (α 9) (3 * r + c0) p0) 8) r (upa α 9 (upd (α 9) (3 * r + c0) p0) 8 r + 1)) = upa (upa α 9 (upd (α 9) (3 * r + c0) p0)) 8 (upd (α 8) r (nI (c0 + 1))) from by rw [show upa α 9 (upd (α 9) (3 * r + c0) p0) 8 = α 8 from rfl, h8, nI_1]]
            exact j_ireturn C d_M_put_82 rfl (by decide) (by decide) ⟨w, by rw [show upa (upa α 9 (upd (α 9) (3 * r + c0) p0)) 8 (upd (α 8) r (nI (c0 + 1))) 8 r = nI (c0 + 1) from pk_us], rfl, rfl⟩
          · exact absurd c45 (by decide)
/-! ===== the reference: number0, code: printed by program ===== -/
/-- g with the bytes of w ahead -/
def wl (g : Nat → Int32) (w : List Int32) : Nat → Int32 := fun j => if j < w.length then w.getD j 0 else g j
theorem wl_nil (g : Nat → Int32) : wl g [] = g := by
  funext j
  unfold wl
  rw [if_neg (by simp)]
theorem wl_snoc (g : Nat → Int32) (w : List Int32) (x : Int32) : upd (wl g w) w.length x = wl g (w ++ [x]) := by
  funext j
  by_cases e : j = w.length
  · subst e
    rw [pk_us]
    unfold wl
    rw [if_pos (by simp), List.getD_eq_getElem?_getD, List.getElem?_append_right (Nat.le_refl _), Nat.sub_self]
    rfl
  · rw [pk_un e]
    unfold wl
    by_cases e2 : j < w.length
    · rw [if_pos e2, if_pos (by rw [List.length_append]; omega), List.getD_eq_getElem?_getD, List.getD_eq_getElem?_getD, List.getElem?_append_left e2]
    · rw [if_neg e2, if_neg (by rw [List.length_append, List.length_singleton]; omega)]
/-- the reference with the bytes w written -/
def ovW (mo : Nat) (σ : Nat → Int32) (α : Nat → Nat → Int32) (h : AH) (w : List Int32) : AH := ovM mo (upd σ 37 (nI w.length)) (upa α 38 (wl (α 38) w)) h
theorem c_M_writeL {l : Launch} (hl : l.stackTraces = false) {D : va_G} {cA : Nat → ClassId} {b n mo : Nat} (x : Int32) (σ : Nat → Int32) (α : Nat → Nat → Int32) (h : AH) (hmo : mo + 27 < n) (w : List Int32) (hw : w.length < 300) : Cn l D cA b y_M_write k_M_write 0 0 0 0 [.ref mo, .int x] n (ovW mo σ α h w) (Re none n (ovW mo σ α h (w ++ [x]))) := by
  have z := c_M_write hl (D := D) (cA := cA) (b := b) x (upd σ 37 (nI w.length)) (upa α 38 (wl (α 38) w)) h hmo (by rw [upd_s]; exact vp_in_nI hw (by omega))
  have e : ovM mo (mwrite (upd σ 37 (nI w.length)) (upa α 38 (wl (α 38) w)) x).1 (mwrite (upd σ 37 (nI w.length)) (upa α 38 (wl (α 38) w)) x).2 h = ovW mo σ α h (w ++ [x]) := by
    show ovM mo (upd (upd σ 37 (nI w.length)) 37 (upd σ 37 (nI w.length) 37 + 1)) (upa (upa α 38 (wl (α 38) w)) 38 (upd (upa α 38 (wl (α 38) w) 38) (upd σ 37 (nI w.length) 37).toNatClampNeg x)) h = _
    rw [upd_uu, upd_s, nI_1, upa_uu, upa_s, nI_clamp (by omega), wl_snoc]
    unfold ovW
    rw [len_snoc]
  rw [e] at z
  exact z
theorem ovW_o (mo : Nat) (σ : Nat → Int32) (α : Nat → Nat → Int32) (h : AH) (w : List Int32) : ovW mo σ α h w mo = .inr (6, mfs mo (upd σ 37 (nI w.length))) := ovM_o _ _ _ _
/-- the digits of m at the places e - 1, .., 0 -/
def dgs (m : Nat) : Nat → List Int32
  | 0 => []
  | e + 1 => nI (48 + m / 10 ^ e % 10) :: dgs m e
def dn (m : Nat) : Nat := if m < 10 then 1 else if m < 100 then 2 else if m < 1000 then 3 else if m < 10000 then 4 else 5
def nb (m : Nat) : List Int32 := dgs m (dn m)
def pw : Nat → Nat
  | 0 => 0
  | e + 1 => 10 ^ e
theorem dgs_len (m : Nat) : ∀ e, (dgs m e).length = e
  | 0 => rfl
  | e + 1 => by show (dgs m e).length + 1 = e + 1; rw [dgs_len m e]
theorem dn_c (m : Nat) : (m < 10 ∧ dn m = 1) ∨ (10 ≤ m ∧ m < 100 ∧ dn m = 2) ∨ (100 ≤ m ∧ m < 1000 ∧ dn m = 3) ∨ (1000 ≤ m ∧ m < 10000 ∧ dn m = 4) ∨ (10000 ≤ m ∧ dn m = 5) := by
  by_cases h1 : m < 10
  · exact Or.inl ⟨h1, by unfold dn; rw [if_pos h1]⟩
  · by_cases h2 : m < 100
    · exact Or.inr (Or.inl ⟨by omega, h2, by unfold dn; rw [if_neg h1, if_pos h2]⟩)
    · by_cases h3 : m < 1000
      · exact Or.inr (Or.inr (Or.inl ⟨by omega, h3, by unfold dn; rw [if_neg h1, if_neg h2, if_pos h3]⟩))
      · by_cases h4 : m < 10000
        · exact Or.inr (Or.inr (Or.inr (Or.inl ⟨by omega, h4, by unfold dn; rw [if_neg h1, if_neg h2, if_neg h3, if_pos h4]⟩)))
        · exact Or.inr (Or.inr (Or.inr (Or.inr ⟨by omega, by unfold dn; rw [if_neg h1, if_neg h2, if_neg h3, if_neg h4]⟩)))
theorem dn_le (m : Nat) : dn m ≤ 5 := by
  have := dn_c m
  omega
theorem dn_go {m e : Nat} (hm : m ≤ 99999) (he : e + 1 ≤ dn m) (h9 : ¬ m / 10 ^ e ≤ 9) : e + 2 ≤ dn m := by
  have h5 := dn_le m
  have hc := dn_c m
  rcases (show e = 0 ∨ e = 1 ∨ e = 2 ∨ e = 3 ∨ e = 4 by omega) with rfl | rfl | rfl | rfl | rfl
  · rw [show (10 : Nat) ^ 0 = 1 from rfl] at h9; omega
  · rw [show (10 : Nat) ^ 1 = 10 from rfl] at h9; omega
  · rw [show (10 : Nat) ^ 2 = 100 from rfl] at h9; omega
  · rw [show (10 : Nat) ^ 3 = 1000 from rfl] at h9; omega
  · rw [show (10 : Nat) ^ 4 = 10000 from rfl] at h9; omega
theorem dn_end {m e : Nat} (hm : m ≤ 99999) (he : e + 1 ≤ dn m) (h9 : m / 10 ^ e ≤ 9) : dn m = e + 1 := by
  have h5 := dn_le m
  have hc := dn_c m
  rcases (show e = 0 ∨ e = 1 ∨ e = 2 ∨ e = 3 ∨ e = 4 by omega) with rfl | rfl | rfl | rfl | rfl
  · rw [show (10 : Nat) ^ 0 = 1 from rfl] at h9; omega
  · rw [show (10 : Nat) ^ 1 = 10 from rfl] at h9; omega
  · rw [show (10 : Nat) ^ 2 = 100 from rfl] at h9; omega
  · rw [show (10 : Nat) ^ 3 = 1000 from rfl] at h9; omega
  · rw [show (10 : Nat) ^ 4 = 10000 from rfl] at h9; omega
theorem p10_lt {e : Nat} (he : e ≤ 5) : 10 ^ e < 2 ^ 31 ∧ 0 < 10 ^ e := by
  rcases (show e = 0 ∨ e = 1 ∨ e = 2 ∨ e = 3 ∨ e = 4 ∨ e = 5 by omega) with rfl | rfl | rfl | rfl | rfl | rfl <;> decide
theorem p10_d (e : Nat) : 10 ^ e / 10 = pw e := by
  cases e with
  | zero => rfl
  | succ e => show 10 ^ (e + 1) / 10 = 10 ^ e; rw [Nat.pow_succ, Nat.mul_div_cancel _ (by omega)]
theorem dn_pos (m : Nat) : 0 + 1 ≤ dn m := by
  have := dn_c m
  omega
theorem neg_lt {m : Nat} (h1 : 1 ≤ m) (hm : m ≤ 99999) : ¬ (0 : Int32) ≤ -(nI m) := by
  intro z
  have h := Int32.le_iff_toInt_le.mp z
  have e : (-(nI m)).toInt = -(m : Int) := by
    rw [Int32.toInt_neg, nI_toInt (by omega)]
    apply Int.bmod_eq_of_le <;> omega
  have e0 : (0 : Int32).toInt = 0 := by decide
  omega
set_option maxHeartbeats 4000000 in
set_option maxRecDepth 100000 in
theorem c_M_number0_p {l : Launch} (hl : l.stackTraces = false) {D : va_G} {cA : Nat → ClassId} {b n mo : Nat} (m0 : Nat) (σ : Nat → Int32) (α : Nat → Nat → Int32) (h : AH) (hmo : mo + 27 < n) (w : List Int32) (hm : m0 ≤ 99999) (hw : w.length + 6 < 300) : Cn l D cA b y_M_number0 k_M_number0 1 13 0 0 [.ref mo, .int (nI m0)] n (ovW mo σ α h w) (Re none n (ovW mo σ α h (w ++ nb m0))) := by
  refine Cn.of (cc := b_M_number0) (maxL := 4) (ret := none) (hh := []) (by decide +kernel) hl (Or.inl ⟨rfl, rfl⟩) (Nat.le_of_ble_eq_true rfl) ?_
  intro p e s m args below meth c C
  have loop2 : ∀ (e9 : Nat) (w1 : List Int32), e9 ≤ 5 → w1 ++ dgs m0 e9 = (w ++ nb m0) → w1.length + e9 < 300 → J p l e { frames := 1, cells := 0, slots := 0, locals := 13 } s m args below meth c D cA b 4 (EndQ D cA b s below (Re none n (ovW mo σ α h (w ++ nb m0))) 0 0) n (ovW mo σ α h w1) 0 0 39 [(3, .int (nI (pw e9))), (2, .int (nI m0)), (0, .ref mo), (1, .int (nI m0))] [] := by
    intro e9
    induction e9 with
    | zero =>
      intro w1 he hv hw1
      refine j_iload_n C d_M_number0_39 rfl rfl ?_
      refine j_if_le (tgt := 64) C d_M_number0_40 (by decide) (fun c40 => ?_) (fun c40 => ?_)
      · exact j_vreturn C d_M_number0_64 rfl (by decide) (by decide) ⟨rfl, rfl, by rw [← hv]; simp [dgs]⟩
      · exact absurd (by decide) c40
    | succ e9 ih =>
      intro w1 he hv hw1
      refine j_iload_n C d_M_number0_39 rfl rfl ?_
      refine j_if_le (tgt := 64) C d_M_number0_40 (by decide) (fun c40 => ?_) (fun c40 => ?_)
      · exact absurd c40 (nI_nle (p10_lt (by omega)).2 (p10_lt (by omega)).1)
      · refine j_aload_n C d_M_number0_43 rfl rfl ?_
        refine j_bipush (v := 48) C d_M_number0_44 (by decide) ?_
        refine j_iload_n C d_M_number0_46 rfl rfl ?_
        refine j_iload_n C d_M_number0_47 rfl rfl ?_
        refine j_idiv C d_M_number0_48 (nI_ne0 (p10_lt (by omega)).2 (p10_lt (by omega)).1) ?_
        rw [show pw (e9 + 1) = 10 ^ e9 from rfl, pk_div (by omega) (p10_lt (by omega)).2 (p10_lt (by omega)).1]
        refine j_bipush (v := 10) C d_M_number0_49 (by decide) ?_
        refine j_irem C d_M_number0_51 (by decide) ?_
        rw [show (10 : Int32) = nI 10 from rfl, pk_rem (Nat.lt_of_le_of_lt (Nat.div_le_self _ _) (by omega)) (by omega) (by omega)]
        refine j_iadd C d_M_number0_52 ?_
        rw [show (48 : Int32) = nI 48 from rfl, nI_add]
        refine j_callV C d_M_number0_53 ml_M_209 mc_M_write in_M_write rfl se_M_write (by omega) (ovW_o _ _ _ _ _) (c_M_writeL hl _ σ α h hmo w1 (by omega)) rfl rfl (Nat.le_of_ble_eq_true rfl) (Nat.le_of_ble_eq_true rfl) (Nat.le_of_ble_eq_true rfl) (Nat.le_of_ble_eq_true rfl) (jk_v ?_)
        refine j_iload_n C d_M_number0_56 rfl rfl ?_
        refine j_bipush (v := 10) C d_M_number0_57 (by decide) ?_
        refine j_idiv C d_M_number0_59 (by decide) ?_
        rw [show (10 : Int32) = nI 10 from rfl, pk_div (p10_lt (by omega)).1 (by omega) (by omega), show 10 ^ e9 / 10 = pw e9 from p10_d e9]
        refine j_istore_n C d_M_number0_60 rfl (by decide) rfl ?_
        refine j_goto (tgt := 39) C d_M_number0_61 (by decide) ?_
        exact j_pick [0, 1, 2, 3] rfl (ih (w1 ++ [nI (48 + m0 / 10 ^ e9 % 10)]) (by omega) (by rw [← hv]; simp [dgs]) (by rw [len_snoc]; omega))
  have loop1 : ∀ (k9 e9 : Nat), e9 + k9 = 4 → e9 + 1 ≤ dn m0 → J p l e { frames := 1, cells := 0, slots := 0, locals := 13 } s m args below meth c D cA b 4 (EndQ D cA b s below (Re none n (ovW mo σ α h (w ++ nb m0))) 0 0) n (ovW mo σ α h w) 0 0 23 [(3, .int (nI (10 ^ e9))), (2, .int (nI m0)), (0, .ref mo), (1, .int (nI m0))] [] := by
    intro k9
    induction k9 with
    | zero =>
      intro e9 hk he
      refine j_iload_n C d_M_number0_23 rfl rfl ?_
      refine j_iload_n C d_M_number0_24 rfl rfl ?_
      refine j_idiv C d_M_number0_25 (nI_ne0 (p10_lt (by omega)).2 (p10_lt (by omega)).1) ?_
      rw [pk_div (by omega) (p10_lt (by omega)).2 (p10_lt (by omega)).1]
      refine j_bipush (v := 9) C d_M_number0_26 (by decide) ?_
      refine j_icmp_le (tgt := 39) C d_M_number0_28 (by decide) (fun c28 => ?_) (fun c28 => ?_)
      · have h9 : m0 / 10 ^ e9 ≤ 9 := (nI_leI (Nat.lt_of_le_of_lt (Nat.div_le_self _ _) (by omega)) (by omega)).mp (show nI (m0 / 10 ^ e9) ≤ nI 9 from c28)
        have hd := dn_end hm he h9
        exact loop2 (e9 + 1) w (by omega) (by show _ ++ dgs m0 (e9 + 1) = _; rw [← hd]; simp [nb]) (by omega)
      · have h9 : ¬ m0 / 10 ^ e9 ≤ 9 := fun z => c28 (show nI (m0 / 10 ^ e9) ≤ nI 9 from nI_le z (by omega))
        have hg := dn_go hm he h9
        have hg5 := dn_le m0
        exact absurd hg (by omega)
    | succ k9 ih =>
      intro e9 hk he
      refine j_iload_n C d_M_number0_23 rfl rfl ?_
      refine j_iload_n C d_M_number0_24 rfl rfl ?_
      refine j_idiv C d_M_number0_25 (nI_ne0 (p10_lt (by omega)).2 (p10_lt (by omega)).1) ?_
      rw [pk_div (by omega) (p10_lt (by omega)).2 (p10_lt (by omega)).1]
      refine j_bipush (v := 9) C d_M_number0_26 (by decide) ?_
      refine j_icmp_le (tgt := 39) C d_M_number0_28 (by decide) (fun c28 => ?_) (fun c28 => ?_)
      · have h9 : m0 / 10 ^ e9 ≤ 9 := (nI_leI (Nat.lt_of_le_of_lt (Nat.div_le_self _ _) (by omega)) (by omega)).mp (show nI (m0 / 10 ^ e9) ≤ nI 9 from c28)
        have hd := dn_end hm he h9
        exact loop2 (e9 + 1) w (by omega) (by show _ ++ dgs m0 (e9 + 1) = _; rw [← hd]; simp [nb]) (by omega)
      · have h9 : ¬ m0 / 10 ^ e9 ≤ 9 := fun z => c28 (show nI (m0 / 10 ^ e9) ≤ nI 9 from nI_le z (by omega))
        have hg := dn_go hm he h9
        have hg5 := dn_le m0
        refine j_bipush (v := 10) C d_M_number0_31 (by decide) ?_
        refine j_iload_n C d_M_number0_33 rfl rfl ?_
        refine j_imul C d_M_number0_34 ?_
        rw [show (10 : Int32) = nI 10 from rfl, pk_mul, show 10 * 10 ^ e9 = 10 ^ (e9 + 1) by rw [Nat.pow_succ]; omega]
        refine j_istore_n C d_M_number0_35 rfl (by decide) rfl ?_
        refine j_goto (tgt := 23) C d_M_number0_36 (by decide) ?_
        exact j_pick [0, 1, 2, 3] rfl (ih (e9 + 1) (by omega) (by omega))
  refine j_iload_n C d_M_number0_0 rfl rfl ?_
  refine j_if_ge (tgt := 10) C d_M_number0_1 (by decide) (fun c1 => ?_) (fun c1 => ?_)
  · refine j_iload_n C d_M_number0_10 rfl rfl ?_
    refine j_if_ge (tgt := 19) C d_M_number0_11 (by decide) (fun c11 => ?_) (fun c11 => ?_)
    · refine j_iload_n C d_M_number0_19 rfl rfl ?_
      refine j_istore_n C d_M_number0_20 rfl (by decide) rfl ?_
      refine j_iconst (v := 1) C d_M_number0_21 (by decide) ?_
      refine j_istore_n C d_M_number0_22 rfl (by decide) rfl ?_
      exact j_pick [0, 1, 2, 3] rfl (loop1 4 0 rfl (dn_pos m0))
    · exact absurd (nI_pos' (by omega)) c11
  · exact absurd (nI_pos' (by omega)) c1

set_option maxHeartbeats 4000000 in
set_option maxRecDepth 100000 in
theorem c_M_number0_n {l : Launch} (hl : l.stackTraces = false) {D : va_G} {cA : Nat → ClassId} {b n mo : Nat} (m0 : Nat) (σ : Nat → Int32) (α : Nat → Nat → Int32) (h : AH) (hmo : mo + 27 < n) (w : List Int32) (h1 : 1 ≤ m0) (hm : m0 ≤ 99999) (hw : w.length + 6 < 300) : Cn l D cA b y_M_number0 k_M_number0 1 13 0 0 [.ref mo, .int (-(nI m0))] n (ovW mo σ α h w) (Re none n (ovW mo σ α h (w ++ (45 :: nb m0)))) := by
  refine Cn.of (cc := b_M_number0) (maxL := 4) (ret := none) (hh := []) (by decide +kernel) hl (Or.inl ⟨rfl, rfl⟩) (Nat.le_of_ble_eq_true rfl) ?_
  intro p e s m args below meth c C
  have loop2 : ∀ (e9 : Nat) (w1 : List Int32), e9 ≤ 5 → w1 ++ dgs m0 e9 = (w ++ (45 :: nb m0)) → w1.length + e9 < 300 → J p l e { frames := 1, cells := 0, slots := 0, locals := 13 } s m args below meth c D cA b 4 (EndQ D cA b s below (Re none n (ovW mo σ α h (w ++ (45 :: nb m0)))) 0 0) n (ovW mo σ α h w1) 0 0 39 [(3, .int (nI (pw e9))), (2, .int (nI m0)), (0, .ref mo), (1, .int (-(nI m0)))] [] := by
    intro e9
    induction e9 with
    | zero =>
      intro w1 he hv hw1
      refine j_iload_n C d_M_number0_39 rfl rfl ?_
      refine j_if_le (tgt := 64) C d_M_number0_40 (by decide) (fun c40 => ?_) (fun c40 => ?_)
      · exact j_vreturn C d_M_number0_64 rfl (by decide) (by decide) ⟨rfl, rfl, by rw [← hv]; simp [dgs]⟩
      · exact absurd (by decide) c40
    | succ e9 ih =>
      intro w1 he hv hw1
      refine j_iload_n C d_M_number0_39 rfl rfl ?_
      refine j_if_le (tgt := 64) C d_M_number0_40 (by decide) (fun c40 => ?_) (fun c40 => ?_)
      · exact absurd c40 (nI_nle (p10_lt (by omega)).2 (p10_lt (by omega)).1)
      · refine j_aload_n C d_M_number0_43 rfl rfl ?_
        refine j_bipush (v := 48) C d_M_number0_44 (by decide) ?_
        refine j_iload_n C d_M_number0_46 rfl rfl ?_
        refine j_iload_n C d_M_number0_47 rfl rfl ?_
        refine j_idiv C d_M_number0_48 (nI_ne0 (p10_lt (by omega)).2 (p10_lt (by omega)).1) ?_
        rw [show pw (e9 + 1) = 10 ^ e9 from rfl, pk_div (by omega) (p10_lt (by omega)).2 (p10_lt (by omega)).1]
        refine j_bipush (v := 10) C d_M_number0_49 (by decide) ?_
        refine j_irem C d_M_number0_51 (by decide) ?_
        rw [show (10 : Int32) = nI 10 from rfl, pk_rem (Nat.lt_of_le_of_lt (Nat.div_le_self _ _) (by omega)) (by omega) (by omega)]
        refine j_iadd C d_M_number0_52 ?_
        rw [show (48 : Int32) = nI 48 from rfl, nI_add]
        refine j_callV C d_M_number0_53 ml_M_209 mc_M_write in_M_write rfl se_M_write (by omega) (ovW_o _ _ _ _ _) (c_M_writeL hl _ σ α h hmo w1 (by omega)) rfl rfl (Nat.le_of_ble_eq_true rfl) (Nat.le_of_ble_eq_true rfl) (Nat.le_of_ble_eq_true rfl) (Nat.le_of_ble_eq_true rfl) (jk_v ?_)
        refine j_iload_n C d_M_number0_56 rfl rfl ?_
        refine j_bipush (v := 10) C d_M_number0_57 (by decide) ?_
        refine j_idiv C d_M_number0_59 (by decide) ?_
        rw [show (10 : Int32) = nI 10 from rfl, pk_div (p10_lt (by omega)).1 (by omega) (by omega), show 10 ^ e9 / 10 = pw e9 from p10_d e9]
        refine j_istore_n C d_M_number0_60 rfl (by decide) rfl ?_
        refine j_goto (tgt := 39) C d_M_number0_61 (by decide) ?_
        exact j_pick [0, 1, 2, 3] rfl (ih (w1 ++ [nI (48 + m0 / 10 ^ e9 % 10)]) (by omega) (by rw [← hv]; simp [dgs]) (by rw [len_snoc]; omega))
  have loop1 : ∀ (k9 e9 : Nat), e9 + k9 = 4 → e9 + 1 ≤ dn m0 → J p l e { frames := 1, cells := 0, slots := 0, locals := 13 } s m args below meth c D cA b 4 (EndQ D cA b s below (Re none n (ovW mo σ α h (w ++ (45 :: nb m0)))) 0 0) n (ovW mo σ α h (w ++ [45])) 0 0 23 [(3, .int (nI (10 ^ e9))), (2, .int (nI m0)), (0, .ref mo), (1, .int (-(nI m0)))] [] := by
    intro k9
    induction k9 with
    | zero =>
      intro e9 hk he
      refine j_iload_n C d_M_number0_23 rfl rfl ?_
      refine j_iload_n C d_M_number0_24 rfl rfl ?_
      refine j_idiv C d_M_number0_25 (nI_ne0 (p10_lt (by omega)).2 (p10_lt (by omega)).1) ?_
      rw [pk_div (by omega) (p10_lt (by omega)).2 (p10_lt (by omega)).1]
      refine j_bipush (v := 9) C d_M_number0_26 (by decide) ?_
      refine j_icmp_le (tgt := 39) C d_M_number0_28 (by decide) (fun c28 => ?_) (fun c28 => ?_)
      · have h9 : m0 / 10 ^ e9 ≤ 9 := (nI_leI (Nat.lt_of_le_of_lt (Nat.div_le_self _ _) (by omega)) (by omega)).mp (show nI (m0 / 10 ^ e9) ≤ nI 9 from c28)
        have hd := dn_end hm he h9
        exact loop2 (e9 + 1) (w ++ [45]) (by omega) (by show _ ++ dgs m0 (e9 + 1) = _; rw [← hd]; simp [nb]) (by rw [len_snoc]; omega)
      · have h9 : ¬ m0 / 10 ^ e9 ≤ 9 := fun z => c28 (show nI (m0 / 10 ^ e9) ≤ nI 9 from nI_le z (by omega))
        have hg := dn_go hm he h9
        have hg5 := dn_le m0
        exact absurd hg (by omega)
    | succ k9 ih =>
      intro e9 hk he
      refine j_iload_n C d_M_number0_23 rfl rfl ?_
      refine j_iload_n C d_M_number0_24 rfl rfl ?_
      refine j_idiv C d_M_number0_25 (nI_ne0 (p10_lt (by omega)).2 (p10_lt (by omega)).1) ?_
      rw [pk_div (by omega) (p10_lt (by omega)).2 (p10_lt (by omega)).1]
      refine j_bipush (v := 9) C d_M_number0_26 (by decide) ?_
      refine j_icmp_le (tgt := 39) C d_M_number0_28 (by decide) (fun c28 => ?_) (fun c28 => ?_)
      · have h9 : m0 / 10 ^ e9 ≤ 9 := (nI_leI (Nat.lt_of_le_of_lt (Nat.div_le_self _ _) (by omega)) (by omega)).mp (show nI (m0 / 10 ^ e9) ≤ nI 9 from c28)
        have hd := dn_end hm he h9
        exact loop2 (e9 + 1) (w ++ [45]) (by omega) (by show _ ++ dgs m0 (e9 + 1) = _; rw [← hd]; simp [nb]) (by rw [len_snoc]; omega)
      · have h9 : ¬ m0 / 10 ^ e9 ≤ 9 := fun z => c28 (show nI (m0 / 10 ^ e9) ≤ nI 9 from nI_le z (by omega))
        have hg := dn_go hm he h9
        have hg5 := dn_le m0
        refine j_bipush (v := 10) C d_M_number0_31 (by decide) ?_
        refine j_iload_n C d_M_number0_33 rfl rfl ?_
        refine j_imul C d_M_number0_34 ?_
        rw [show (10 : Int32) = nI 10 from rfl, pk_mul, show 10 * 10 ^ e9 = 10 ^ (e9 + 1) by rw [Nat.pow_succ]; omega]
        refine j_istore_n C d_M_number0_35 rfl (by decide) rfl ?_
        refine j_goto (tgt := 23) C d_M_number0_36 (by decide) ?_
        exact j_pick [0, 1, 2, 3] rfl (ih (e9 + 1) (by omega) (by omega))
  refine j_iload_n C d_M_number0_0 rfl rfl ?_
  refine j_if_ge (tgt := 10) C d_M_number0_1 (by decide) (fun c1 => ?_) (fun c1 => ?_)
  · exact absurd (show (0 : Int32) ≤ -(nI m0) from c1) (neg_lt h1 hm)
  · refine j_aload_n C d_M_number0_4 rfl rfl ?_
    refine j_bipush (v := 45) C d_M_number0_5 (by decide) ?_
    refine j_callV C d_M_number0_7 ml_M_209 mc_M_write in_M_write rfl se_M_write (by omega) (ovW_o _ _ _ _ _) (c_M_writeL hl _ σ α h hmo w (by omega)) rfl rfl (Nat.le_of_ble_eq_true rfl) (Nat.le_of_ble_eq_true rfl) (Nat.le_of_ble_eq_true rfl) (Nat.le_of_ble_eq_true rfl) (jk_v ?_)
    refine j_iload_n C d_M_number0_10 rfl rfl ?_
    refine j_if_ge (tgt := 19) C d_M_number0_11 (by decide) (fun c11 => ?_) (fun c11 => ?_)
    · exact absurd (show (0 : Int32) ≤ -(nI m0) from c11) (neg_lt h1 hm)
    · refine j_iload_n C d_M_number0_14 rfl rfl ?_
      refine j_ineg C d_M_number0_15 ?_
      refine j_goto (tgt := 20) C d_M_number0_16 (by decide) ?_
      rw [show - -(nI m0) = nI m0 from Int32.neg_neg]
      refine j_istore_n C d_M_number0_20 rfl (by decide) rfl ?_
      refine j_iconst (v := 1) C d_M_number0_21 (by decide) ?_
      refine j_istore_n C d_M_number0_22 rfl (by decide) rfl ?_
      exact j_pick [0, 1, 2, 3] rfl (loop1 4 0 rfl (dn_pos m0))
/-! ===== the reference: code: printed by program ===== -/
def vb (x : Int32) : List Int32 := if x < 0 then 45 :: nb (-x).toNatClampNeg else nb x.toNatClampNeg
def vok (x : Int32) : Prop := (∃ m : Nat, m ≤ 99999 ∧ x = nI m) ∨ (∃ m : Nat, 1 ≤ m ∧ m ≤ 99999 ∧ x = -(nI m))
theorem vb_p {m : Nat} (hm : m ≤ 99999) : vb (nI m) = nb m := by
  unfold vb
  rw [if_neg (nI_pos (by omega)), nI_clamp (by omega)]
theorem vb_n {m : Nat} (h1 : 1 ≤ m) (hm : m ≤ 99999) : vb (-(nI m)) = 45 :: nb m := by
  unfold vb
  rw [if_pos (Int32.not_le.mp (neg_lt h1 hm)), Int32.neg_neg, nI_clamp (by omega)]
theorem nb_len (m : Nat) : (nb m).length = dn m := dgs_len m _
theorem vb_len {x : Int32} (hx : vok x) : (vb x).length ≤ 6 := by
  rcases hx with ⟨m, hm, rfl⟩ | ⟨m, h1, hm, rfl⟩
  · rw [vb_p hm, nb_len]
    have := dn_le m
    omega
  · rw [vb_n h1 hm, List.length_cons, nb_len]
    have := dn_le m
    omega
def cdi (α : Nat → Nat → Int32) (r p f : Nat) : List Int32 := if α 10 (20 * r + f) = 0 then [] else nb f ++ (58 :: ((if α 15 (20 * f + p) = 0 then vb (α 13 (20 * r + f)) else [42]) ++ [59]))
def cdl (α : Nat → Nat → Int32) (r p : Nat) : Nat → Nat → List Int32
  | 0, _ => []
  | n + 1, f => cdi α r p f ++ cdl α r p n (f + 1)
def cdw (α : Nat → Nat → Int32) (r p i : Nat) : List Int32 := 82 :: (nb i ++ (44 :: cdl α r p 20 0))
theorem cdi_len {α : Nat → Nat → Int32} {r p f : Nat} (hf : f < 20) (hv : vok (α 13 (20 * r + f))) : (cdi α r p f).length ≤ 10 := by
  unfold cdi
  have h1 := dn_c f
  have h2 := vb_len hv
  split
  · simp
  · rw [List.length_append, nb_len, List.length_cons, List.length_append]
    split
    · rw [List.length_singleton]; omega
    · simp; omega
theorem c_M_number0_v {l : Launch} (hl : l.stackTraces = false) {D : va_G} {cA : Nat → ClassId} {b n mo : Nat} (x : Int32) (σ : Nat → Int32) (α : Nat → Nat → Int32) (h : AH) (hmo : mo + 27 < n) (w : List Int32) (hx : vok x) (hw : w.length + 6 < 300) : Cn l D cA b y_M_number0 k_M_number0 1 13 0 0 [.ref mo, .int x] n (ovW mo σ α h w) (Re none n (ovW mo σ α h (w ++ vb x))) := by
  rcases hx with ⟨m, hm, rfl⟩ | ⟨m, h1, hm, rfl⟩
  · rw [vb_p hm]
    exact c_M_number0_p hl m σ α h hmo w hm hw
  · rw [vb_n h1 hm]
    exact c_M_number0_n hl m σ α h hmo w h1 hm hw
set_option maxHeartbeats 4000000 in
set_option maxRecDepth 100000 in
theorem c_M_code_r {l : Launch} (hl : l.stackTraces = false) {D : va_G} {cA : Nat → ClassId} {b n mo : Nat} (r p0 : Nat) (σ : Nat → Int32) (α : Nat → Nat → Int32) (h : AH) (hmo : mo + 27 < n) (nr : Nat) (hnr : σ 2 = nI nr) (hle : nr ≤ 30) (hr : r < nr) (hp : p0 < 20) (i0 : Nat) (hi : α 3 r = nI i0) (hil : i0 ≤ 9999) (hvk : ∀ f, f < 20 → vok (α 13 (20 * r + f))) : Cn l D cA b y_M_code k_M_code 2 28 0 0 [.ref mo, .int (nI r), .int (nI p0)] n (ovM mo σ α h) (Re (some (.int (nI (cdw α r p0 i0).length))) n (ovW mo (upd σ 0 0) α h (cdw α r p0 i0))) := by
  refine Cn.of (cc := b_M_code) (maxL := 4) (ret := (some .int)) (hh := []) (by decide +kernel) hl (Or.inl ⟨rfl, rfl⟩) (Nat.le_of_ble_eq_true rfl) ?_
  intro p e s m args below meth c C
  have loop : ∀ (m9 f : Nat) (w : List Int32), f + m9 = 20 → w.length ≤ 6 + 10 * f → w ++ cdl α r p0 m9 f = (cdw α r p0 i0) → J p l e { frames := 2, cells := 0, slots := 0, locals := 28 } s m args below meth c D cA b 4 (EndQ D cA b s below (Re (some (.int (nI (cdw α r p0 i0).length))) n (ovW mo (upd σ 0 0) α h (cdw α r p0 i0))) 0 0) n (ovW mo (upd σ 0 0) α h w) 0 0 60 [(3, .int (nI f)), (0, .ref mo), (1, .int (nI r)), (2, .int (nI p0))] [] := by
    intro m9
    induction m9 with
    | zero =>
      intro f w hf hlen hv
      obtain rfl : f = 20 := by omega
      refine j_iload_n C d_M_code_60 rfl rfl ?_
      refine j_bipush (v := 20) C d_M_code_61 (by decide) ?_
      refine j_icmp_ge (tgt := 144) C d_M_code_63 (by decide) (fun c63 => ?_) (fun c63 => ?_)
      · refine j_aload_n C d_M_code_144 rfl rfl ?_
        obtain rfl : w = (cdw α r p0 i0) := by rw [← hv]; exact (List.append_nil _).symm
        refine jm_get C fl_6_206 d_M_code_145 hmo rfl ?_
        exact j_ireturn C d_M_code_148 rfl (by decide) (by decide) ⟨rfl, rfl, rfl⟩
      · exact absurd (by decide) c63
    | succ m9 ih =>
      intro f w hf hlen hv
      refine j_iload_n C d_M_code_60 rfl rfl ?_
      refine j_bipush (v := 20) C d_M_code_61 (by decide) ?_
      refine j_icmp_ge (tgt := 144) C d_M_code_63 (by decide) (fun c63 => ?_) (fun c63 => ?_)
      · exact absurd (show nI 20 ≤ nI f from c63) (nI_ge (by omega) (by omega))
      · refine j_aload_n C d_M_code_66 rfl rfl ?_
        refine jm_get C fl_6_31 d_M_code_67 hmo rfl ?_
        refine j_bipush (v := 20) C d_M_code_70 (by decide) ?_
        refine j_iload_n C d_M_code_72 rfl rfl ?_
        refine j_imul C d_M_code_73 ?_
        refine j_iload_n C d_M_code_74 rfl rfl ?_
        refine j_iadd C d_M_code_75 ?_
        refine jm_zaldn C 7 (20 * r + f) d_M_code_76 (by decide) rfl hmo (e20 r f) (by omega) (by omega) ?_
        refine j_if_ne (tgt := 83) C d_M_code_77 (by decide) (fun c77 => ?_) (fun c77 => ?_)
        · refine j_h (h' := (ovW mo (upd σ 0 0) α h w)) rfl ?_
          refine j_aload_n C d_M_code_83 rfl rfl ?_
          refine j_iload_n C d_M_code_84 rfl rfl ?_
          refine j_callV C d_M_code_85 ml_M_212 mc_M_number0 in_M_number0 rfl se_M_number0 (by omega) (ovW_o _ _ _ _ _) (c_M_number0_p hl f (upd σ 0 0) α h hmo w (by omega) (by omega)) rfl rfl (Nat.le_of_ble_eq_true rfl) (Nat.le_of_ble_eq_true rfl) (Nat.le_of_ble_eq_true rfl) (Nat.le_of_ble_eq_true rfl) (jk_v ?_)
          refine j_aload_n C d_M_code_88 rfl rfl ?_
          refine j_bipush (v := 58) C d_M_code_89 (by decide) ?_
          refine j_callV C d_M_code_91 ml_M_209 mc_M_write in_M_write rfl se_M_write (by omega) (ovW_o _ _ _ _ _) (c_M_writeL hl 58 (upd σ 0 0) α h hmo (w ++ nb f) (by simp only [List.length_append, List.length_singleton]; have z1 := nb_len f; have z2 := dn_c f; have z3 := vb_len (hvk f (by omega)); omega)) rfl rfl (Nat.le_of_ble_eq_true rfl) (Nat.le_of_ble_eq_true rfl) (Nat.le_of_ble_eq_true rfl) (Nat.le_of_ble_eq_true rfl) (jk_v ?_)
          refine j_aload_n C d_M_code_94 rfl rfl ?_
          refine jm_get C fl_6_47 d_M_code_95 hmo rfl ?_
          refine j_bipush (v := 20) C d_M_code_98 (by decide) ?_
          refine j_iload_n C d_M_code_100 rfl rfl ?_
          refine j_imul C d_M_code_101 ?_
          refine j_iload_n C d_M_code_102 rfl rfl ?_
          refine j_iadd C d_M_code_103 ?_
          refine jm_zaldn C 12 (20 * f + p0) d_M_code_104 (by decide) rfl hmo (e20 f p0) (by omega) (by omega) ?_
          refine j_if_eq (tgt := 117) C d_M_code_105 (by decide) (fun c105 => ?_) (fun c105 => ?_)
          · refine j_aload_n C d_M_code_117 rfl rfl ?_
            refine j_aload_n C d_M_code_118 rfl rfl ?_
            refine jm_get C fl_6_41 d_M_code_119 hmo rfl ?_
            refine j_bipush (v := 20) C d_M_code_122 (by decide) ?_
            refine j_iload_n C d_M_code_124 rfl rfl ?_
            refine j_imul C d_M_code_125 ?_
            refine j_iload_n C d_M_code_126 rfl rfl ?_
            refine j_iadd C d_M_code_127 ?_
            refine jm_ialdn C 10 (20 * r + f) d_M_code_128 (by decide) rfl hmo (e20 r f) (by omega) (by omega) ?_
            refine j_h (h' := (ovW mo (upd σ 0 0) α h (w ++ nb f ++ [58]))) rfl ?_
            refine j_callV C d_M_code_129 ml_M_212 mc_M_number0 in_M_number0 rfl se_M_number0 (by omega) (ovW_o _ _ _ _ _) (c_M_number0_v hl (α 13 (20 * r + f)) (upd σ 0 0) α h hmo (w ++ nb f ++ [58]) (hvk f (by omega)) (by simp only [List.length_append, List.length_singleton]; have z1 := nb_len f; have z2 := dn_c f; omega)) rfl rfl (Nat.le_of_ble_eq_true rfl) (Nat.le_of_ble_eq_true rfl) (Nat.le_of_ble_eq_true rfl) (Nat.le_of_ble_eq_true rfl) (jk_v ?_)
            refine j_aload_n C d_M_code_132 rfl rfl ?_
            refine j_bipush (v := 59) C d_M_code_133 (by decide) ?_
            refine j_callV C d_M_code_135 ml_M_209 mc_M_write in_M_write rfl se_M_write (by omega) (ovW_o _ _ _ _ _) (c_M_writeL hl 59 (upd σ 0 0) α h hmo (w ++ nb f ++ [58] ++ vb (α 13 (20 * r + f))) (by simp only [List.length_append, List.length_singleton]; have z1 := nb_len f; have z2 := dn_c f; have z3 := vb_len (hvk f (by omega)); omega)) rfl rfl (Nat.le_of_ble_eq_true rfl) (Nat.le_of_ble_eq_true rfl) (Nat.le_of_ble_eq_true rfl) (Nat.le_of_ble_eq_true rfl) (jk_v ?_)
            have e9 : cdi α r p0 f = nb f ++ (58 :: (vb (α 13 (20 * r + f)) ++ [59])) := by unfold cdi; rw [if_neg (show ¬ α 10 (20 * r + f) = 0 from c77), if_pos (show α 15 (20 * f + p0) = 0 from c105)]
            refine j_iinc (v := nI (f + 1)) C d_M_code_138 rfl (nI_inc f) (by decide) rfl ?_
            refine j_goto (tgt := 60) C d_M_code_141 (by decide) ?_
            exact j_pick [0, 1, 2, 3] rfl (ih (f + 1) (w ++ nb f ++ [58] ++ vb (α 13 (20 * r + f)) ++ [59]) (by omega) (by simp only [List.length_append, List.length_singleton]; have z1 := nb_len f; have z2 := dn_c f; have z3 := vb_len (hvk f (by omega)); omega) (by rw [← hv]; show _ = w ++ (cdi α r p0 f ++ _); rw [e9]; simp))
          · refine j_h (h' := (ovW mo (upd σ 0 0) α h (w ++ nb f ++ [58]))) rfl ?_
            refine j_aload_n C d_M_code_108 rfl rfl ?_
            refine j_bipush (v := 42) C d_M_code_109 (by decide) ?_
            refine j_callV C d_M_code_111 ml_M_209 mc_M_write in_M_write rfl se_M_write (by omega) (ovW_o _ _ _ _ _) (c_M_writeL hl 42 (upd σ 0 0) α h hmo (w ++ nb f ++ [58]) (by simp only [List.length_append, List.length_singleton]; have z1 := nb_len f; have z2 := dn_c f; have z3 := vb_len (hvk f (by omega)); omega)) rfl rfl (Nat.le_of_ble_eq_true rfl) (Nat.le_of_ble_eq_true rfl) (Nat.le_of_ble_eq_true rfl) (Nat.le_of_ble_eq_true rfl) (jk_v ?_)
            refine j_goto (tgt := 132) C d_M_code_114 (by decide) ?_
            refine j_aload_n C d_M_code_132 rfl rfl ?_
            refine j_bipush (v := 59) C d_M_code_133 (by decide) ?_
            refine j_callV C d_M_code_135 ml_M_209 mc_M_write in_M_write rfl se_M_write (by omega) (ovW_o _ _ _ _ _) (c_M_writeL hl 59 (upd σ 0 0) α h hmo (w ++ nb f ++ [58] ++ [42]) (by simp only [List.length_append, List.length_singleton]; have z1 := nb_len f; have z2 := dn_c f; have z3 := vb_len (hvk f (by omega)); omega)) rfl rfl (Nat.le_of_ble_eq_true rfl) (Nat.le_of_ble_eq_true rfl) (Nat.le_of_ble_eq_true rfl) (Nat.le_of_ble_eq_true rfl) (jk_v ?_)
            have e9 : cdi α r p0 f = nb f ++ (58 :: ([42] ++ [59])) := by unfold cdi; rw [if_neg (show ¬ α 10 (20 * r + f) = 0 from c77), if_neg (show ¬ α 15 (20 * f + p0) = 0 from c105)]
            refine j_iinc (v := nI (f + 1)) C d_M_code_138 rfl (nI_inc f) (by decide) rfl ?_
            refine j_goto (tgt := 60) C d_M_code_141 (by decide) ?_
            exact j_pick [0, 1, 2, 3] rfl (ih (f + 1) (w ++ nb f ++ [58] ++ [42] ++ [59]) (by omega) (by simp only [List.length_append, List.length_singleton]; have z1 := nb_len f; have z2 := dn_c f; have z3 := vb_len (hvk f (by omega)); omega) (by rw [← hv]; show _ = w ++ (cdi α r p0 f ++ _); rw [e9]; simp))
        · refine j_goto (tgt := 138) C d_M_code_80 (by decide) ?_
          have e9 : cdi α r p0 f = [] := by unfold cdi; rw [if_pos (show α 10 (20 * r + f) = 0 from c77)]
          refine j_iinc (v := nI (f + 1)) C d_M_code_138 rfl (nI_inc f) (by decide) rfl ?_
          refine j_goto (tgt := 60) C d_M_code_141 (by decide) ?_
          exact j_pick [0, 1, 2, 3] rfl (ih (f + 1) w (by omega) (by omega) (by rw [← hv]; show _ = w ++ (cdi α r p0 f ++ _); rw [e9]; rfl))
  refine j_aload_n C d_M_code_0 rfl rfl ?_
  refine j_aload_n C d_M_code_1 rfl rfl ?_
  refine j_iload_n C d_M_code_2 rfl rfl ?_
  refine j_callV C d_M_code_3 ml_M_121 mc_M_isReport in_M_isReport rfl se_M_isReport (by omega) (ovM_o _ _ _ _) (c_M_isReportK hl _ _ _ _ hmo (in_rep hnr hle hr)) rfl rfl (Nat.le_of_ble_eq_true rfl) (Nat.le_of_ble_eq_true rfl) (Nat.le_of_ble_eq_true rfl) (Nat.le_of_ble_eq_true rfl) (jk_r ?_)
  refine j_if_eq (tgt := 20) C d_M_code_6 (by decide) (fun c6 => ?_) (fun c6 => ?_)
  · exact absurd c6 (by decide)
  · refine j_iload_n C d_M_code_9 rfl rfl ?_
    refine j_callS C d_M_code_10 ml_M_200 mc_M_isPerson st_M_isPerson (c_M_isPersonK hl _ _ (in_ok (nI_pos (by omega)) (nI_le (b := 19) (by omega) (by omega)))) rfl rfl (Nat.le_of_ble_eq_true rfl) (Nat.le_of_ble_eq_true rfl) (Nat.le_of_ble_eq_true rfl) (Nat.le_of_ble_eq_true rfl) (jk_r ?_)
    refine j_if_eq (tgt := 20) C d_M_code_13 (by decide) (fun c13 => ?_) (fun c13 => ?_)
    · exact absurd c13 (by decide)
    · refine j_iconst (v := 1) C d_M_code_16 (by decide) ?_
      refine j_goto (tgt := 21) C d_M_code_17 (by decide) ?_
      refine j_iconst (v := 1) C d_M_code_21 (by decide) ?_
      refine j_iconst (v := 1) C d_M_code_22 (by decide) ?_
      refine j_callV C d_M_code_23 ml_M_109 mc_M_goes in_M_goes rfl se_M_goes (by omega) (ovM_o _ _ _ _) (c_M_goesK hl _ _ _ _ _ _ hmo (gs_0 (by decide) (by decide) (by decide))) rfl rfl (Nat.le_of_ble_eq_true rfl) (Nat.le_of_ble_eq_true rfl) (Nat.le_of_ble_eq_true rfl) (Nat.le_of_ble_eq_true rfl) (jk_r ?_)
      refine j_if_ne (tgt := 31) C d_M_code_26 (by decide) (fun c26 => ?_) (fun c26 => ?_)
      · refine j_aload_n C d_M_code_31 rfl rfl ?_
        refine j_iconst (v := 0) C d_M_code_32 (by decide) ?_
        refine jm_puti 37 C fp_6_206 d_M_code_33 hmo (by decide) (by first | rfl | assumption) rfl rfl ?_
        refine j_h (h' := (ovW mo (upd σ 0 0) α h [])) (by unfold ovW; rw [wl_nil, upa_self rfl]; rfl) ?_
        refine j_aload_n C d_M_code_36 rfl rfl ?_
        refine j_bipush (v := 82) C d_M_code_37 (by decide) ?_
        refine j_callV C d_M_code_39 ml_M_209 mc_M_write in_M_write rfl se_M_write (by omega) (ovW_o _ _ _ _ _) (c_M_writeL hl 82 (upd σ 0 0) α h hmo [] (by simp)) rfl rfl (Nat.le_of_ble_eq_true rfl) (Nat.le_of_ble_eq_true rfl) (Nat.le_of_ble_eq_true rfl) (Nat.le_of_ble_eq_true rfl) (jk_v ?_)
        refine j_aload_n C d_M_code_42 rfl rfl ?_
        refine j_aload_n C d_M_code_43 rfl rfl ?_
        refine jm_get C fl_6_7 d_M_code_44 hmo rfl ?_
        refine j_iload_n C d_M_code_47 rfl rfl ?_
        refine jm_ialdn C 0 (r) d_M_code_48 (by decide) rfl hmo rfl (by omega) (by omega) ?_
        rw [show upa α 38 (wl (α 38) ([] ++ [82])) 3 r = nI i0 from hi]
        refine j_h (h' := (ovW mo (upd σ 0 0) α h [82])) rfl ?_
        refine j_callV C d_M_code_49 ml_M_212 mc_M_number0 in_M_number0 rfl se_M_number0 (by omega) (ovW_o _ _ _ _ _) (c_M_number0_p hl i0 (upd σ 0 0) α h hmo [82] (by omega) (by simp)) rfl rfl (Nat.le_of_ble_eq_true rfl) (Nat.le_of_ble_eq_true rfl) (Nat.le_of_ble_eq_true rfl) (Nat.le_of_ble_eq_true rfl) (jk_v ?_)
        refine j_aload_n C d_M_code_52 rfl rfl ?_
        refine j_bipush (v := 44) C d_M_code_53 (by decide) ?_
        refine j_callV C d_M_code_55 ml_M_209 mc_M_write in_M_write rfl se_M_write (by omega) (ovW_o _ _ _ _ _) (c_M_writeL hl 44 (upd σ 0 0) α h hmo ([82] ++ nb i0) (by simp only [List.length_append, List.length_singleton]; have z1 := nb_len i0; have z2 := dn_le i0; omega)) rfl rfl (Nat.le_of_ble_eq_true rfl) (Nat.le_of_ble_eq_true rfl) (Nat.le_of_ble_eq_true rfl) (Nat.le_of_ble_eq_true rfl) (jk_v ?_)
        refine j_iconst (v := 0) C d_M_code_58 (by decide) ?_
        refine j_istore_n C d_M_code_59 rfl (by decide) rfl ?_
        exact j_pick [0, 1, 2, 3] rfl (loop 20 0 ([82] ++ nb i0 ++ [44]) rfl (by simp only [List.length_append, List.length_singleton]; have z1 := nb_len i0; have z2 := dn_c i0; omega) (by unfold cdw; simp))
      · exact absurd c26 (by decide)
/-! ===== the reference's reading: what its numbers and factors can be ===== -/
theorem dig_of {x : Int32} (h : ¬ inI x 48 57 = 0) : ∃ d : Nat, d ≤ 9 ∧ x = nI (48 + d) := by
  have h0 : ¬ x < 48 := fun z => h (in_bad (Or.inl z))
  have h1 : x ≤ 57 := by
    apply Int32.not_lt.mp
    intro z
    exact h (in_bad (Or.inr (Int32.not_le.mpr z)))
  have hz : ¬ x < 0 := fun z => h0 (Int32.lt_trans z (by decide))
  obtain ⟨j, hj, rfl⟩ := nI_of2 (n := 57) (show (57 : Int32).toInt = (57 : Nat) by decide) hz h1
  have h48 : 48 ≤ j := by
    rcases Nat.lt_or_ge j 48 with z | z
    · exact absurd (show nI j < nI 48 from nI_lt z (by omega)) h0
    · exact z
  exact ⟨j - 48, by omega, by rw [show 48 + (j - 48) = j by omega]⟩
theorem dig_next (w d : Nat) : 10 * nI w + nI (48 + d) - 48 = nI (10 * w + d) := by
  rw [show (10 : Int32) = nI 10 from rfl, pk_mul, nI_add, show (48 : Int32) = nI 48 from rfl, pk_sub (by omega)]
  congr 1
  omega
theorem nlp_ok (g : Nat → Int32) (t : Nat) : ∀ (k a w : Nat), k ≤ 5 → a ≤ t → w < 10 ^ (5 - k) → (nlp g t k a (nI w)).1 ≤ t ∧ a ≤ (nlp g t k a (nI w)).1 ∧ (nlp g t k a (nI w)).2.2 ≤ k ∧ ∃ w' : Nat, w' < 100000 ∧ (nlp g t k a (nI w)).2.1 = nI w' := by
  intro k
  induction k with
  | zero =>
    intro a w hk ha hw
    exact ⟨ha, Nat.le_refl _, Nat.le_refl _, w, hw, rfl⟩
  | succ k ih =>
    intro a w hk ha hw
    have hw5 : w < 100000 := Nat.lt_of_lt_of_le hw (Nat.pow_le_pow_right (by omega) (by omega : 5 - (k + 1) ≤ 5))
    have stop : (a, nI w, k + 1) = nlp g t (k + 1) a (nI w) → (nlp g t (k + 1) a (nI w)).1 ≤ t ∧ a ≤ (nlp g t (k + 1) a (nI w)).1 ∧ (nlp g t (k + 1) a (nI w)).2.2 ≤ k + 1 ∧ ∃ w' : Nat, w' < 100000 ∧ (nlp g t (k + 1) a (nI w)).2.1 = nI w' := fun e => by
      rw [← e]
      exact ⟨ha, Nat.le_refl _, Nat.le_refl _, w, hw5, rfl⟩
    by_cases hd : inI (hr g t a) 48 57 = 0
    · exact stop (by show _ = (if inI (hr g t a) 48 57 = 0 then (a, nI w, k + 1) else _); rw [if_pos hd])
    · obtain ⟨d, hd9, he⟩ := dig_of hd
      have hlt := hr_lt hd
      have go : nlp g t k (a + 1) (nI (10 * w + d)) = nlp g t (k + 1) a (nI w) → (nlp g t (k + 1) a (nI w)).1 ≤ t ∧ a ≤ (nlp g t (k + 1) a (nI w)).1 ∧ (nlp g t (k + 1) a (nI w)).2.2 ≤ k + 1 ∧ ∃ w' : Nat, w' < 100000 ∧ (nlp g t (k + 1) a (nI w)).2.1 = nI w' := fun e => by
        rw [← e]
        have hp : 10 * w + d < 10 ^ (5 - k) := by
          have e5 : 5 - k = (5 - (k + 1)) + 1 := by omega
          rw [e5, Nat.pow_succ]
          omega
        obtain ⟨h1, h2, h3, h4⟩ := ih (a + 1) (10 * w + d) (by omega) hlt hp
        exact ⟨h1, by omega, by omega, h4⟩
      by_cases h4 : k = 4
      · exact go (by show _ = (if inI (hr g t a) 48 57 = 0 then _ else if k = 4 then nlp g t k (a + 1) (10 * nI w + hr g t a - 48) else _); rw [if_neg hd, if_pos h4, he, dig_next])
      · by_cases h0 : nI w ≤ 0
        · exact stop (by show _ = (if inI (hr g t a) 48 57 = 0 then _ else if k = 4 then _ else if nI w ≤ 0 then (a, nI w, k + 1) else _); rw [if_neg hd, if_neg h4, if_pos h0])
        · exact go (by show _ = (if inI (hr g t a) 48 57 = 0 then _ else if k = 4 then _ else if nI w ≤ 0 then _ else nlp g t k (a + 1) (10 * nI w + hr g t a - 48)); rw [if_neg hd, if_neg h4, if_neg h0, he, dig_next])
/-- a number: its place, its value within the bound, right or wrong -/
theorem mnum_ok {g : Nat → Int32} {t a bd : Nat} (ha : a ≤ t) (ht : t ≤ 300) (hb : bd < 2 ^ 31) : (mnum g t a (nI bd)).1 ≤ t ∧ (∃ v : Nat, v ≤ bd ∧ (mnum g t a (nI bd)).2.1 = nI v) ∧ ((mnum g t a (nI bd)).2.2 = -1 ∨ 0 ≤ (mnum g t a (nI bd)).2.2) := by
  have hs := skp_le g ha
  unfold mnum
  by_cases hd : inI (hr g t (skp g t a)) 48 57 = 0
  · rw [if_pos hd]
    exact ⟨hs, ⟨0, Nat.zero_le _, rfl⟩, Or.inr (nI_pos' (by omega))⟩
  · rw [if_neg hd]
    obtain ⟨d, hd9, he⟩ := dig_of hd
    have hlt := hr_lt hd
    have e0 : nlp g t 5 (skp g t a) 0 = nlp g t 4 (skp g t a + 1) (nI d) := by
      show (if inI (hr g t (skp g t a)) 48 57 = 0 then _ else if (4 : Nat) = 4 then nlp g t 4 (skp g t a + 1) (10 * 0 + hr g t (skp g t a) - 48) else _) = _
      rw [if_neg hd, if_pos rfl, he]
      have := dig_next 0 d
      rw [Nat.mul_zero, Nat.zero_add] at this
      rw [← this]
      rfl
    obtain ⟨h1, h2, h3, w', hw', h4⟩ := nlp_ok g t 4 (skp g t a + 1) d (by omega) hlt (by omega)
    rw [e0]
    refine ⟨h1, ?_, ?_⟩
    · unfold ntl
      split
      · rename_i hle
        rw [h4] at hle ⊢
        have hv : w' ≤ bd := (nI_leI (by omega) hb).mp hle
        split
        · split
          · exact ⟨w', hv, rfl⟩
          · exact ⟨0, Nat.zero_le _, rfl⟩
        · exact ⟨w', hv, rfl⟩
      · exact ⟨0, Nat.zero_le _, rfl⟩
    · unfold ntl
      split
      · split
        · split
          · exact Or.inl rfl
          · exact Or.inr (nI_pos' (by omega))
        · exact Or.inl rfl
      · exact Or.inr (nIp (by omega) (by omega))
theorem mf_ok {g : Nat → Int32} {t a : Nat} (ha : a ≤ t) (ht : t ≤ 300) : mfA g t a ≤ t ∧ fok (mfV g t a) ∧ (mfW g t a = -1 ∨ 0 ≤ mfW g t a) := by
  have hs := skp_le g ha
  by_cases h : hr g t (skp g t a) = 102
  · have hlt : skp g t a + 1 ≤ t := hr_lt2 h (by decide)
    obtain ⟨h1, ⟨v, hv, h2⟩, h3⟩ := mnum_ok (g := g) (bd := 19) hlt ht (by omega)
    unfold mfA mfV mfW
    rw [if_pos h, if_pos h, if_pos h]
    exact ⟨h1, Or.inr ⟨v, by omega, by rw [show (19 : Int32) = nI 19 from rfl, h2]⟩, h3⟩
  · obtain ⟨h1, ⟨v, hv, h2⟩, h3⟩ := mnum_ok (g := g) (bd := 99999) hs ht (by omega)
    unfold mfA mfV mfW
    rw [if_neg h, if_neg h, if_neg h]
    exact ⟨h1, Or.inl (by rw [show (99999 : Int32) = nI 99999 from rfl, h2]; exact nI_pos' (by omega)), h3⟩
/-- a sum: its terms (how, factor, divisor), and where it ends; none: it is wrong -/
def psum (g : Nat → Int32) (t : Nat) : Nat → Int32 → Nat → Option (List (Int32 × Int32 × Option Int32) × Nat)
  | 0, _, _ => none
  | n + 1, how, a =>
    if mfW g t a = -1 then
      (if hr g t (skp g t (mfA g t a)) = 47 then
        (if mfW g t (skp g t (mfA g t a) + 1) = -1 then
          (if n = 0 then some ([(how, mfV g t a, some (mfV g t (skp g t (mfA g t a) + 1)))], mfA g t (skp g t (mfA g t a) + 1))
          else if hr g t (skp g t (mfA g t (skp g t (mfA g t a) + 1))) = 43 then (psum g t n 1 (skp g t (mfA g t (skp g t (mfA g t a) + 1)) + 1)).map (fun q => ((how, mfV g t a, some (mfV g t (skp g t (mfA g t a) + 1))) :: q.1, q.2))
          else if hr g t (skp g t (mfA g t (skp g t (mfA g t a) + 1))) = 45 then (psum g t n 2 (skp g t (mfA g t (skp g t (mfA g t a) + 1)) + 1)).map (fun q => ((how, mfV g t a, some (mfV g t (skp g t (mfA g t a) + 1))) :: q.1, q.2))
          else some ([(how, mfV g t a, some (mfV g t (skp g t (mfA g t a) + 1)))], skp g t (mfA g t (skp g t (mfA g t a) + 1))))
        else none)
      else
        (if n = 0 then some ([(how, mfV g t a, none)], skp g t (mfA g t a))
        else if hr g t (skp g t (skp g t (mfA g t a))) = 43 then (psum g t n 1 (skp g t (skp g t (mfA g t a)) + 1)).map (fun q => ((how, mfV g t a, none) :: q.1, q.2))
        else if hr g t (skp g t (skp g t (mfA g t a))) = 45 then (psum g t n 2 (skp g t (skp g t (mfA g t a)) + 1)).map (fun q => ((how, mfV g t a, none) :: q.1, q.2))
        else some ([(how, mfV g t a, none)], skp g t (skp g t (mfA g t a)))))
    else none
/-- the arrays of the new rules alone may differ -/
def An (α1 α : Nat → Nat → Int32) : Prop := ∀ x, x < 29 ∨ 32 < x → α1 x = α x
def FRn (α : Nat → Nat → Int32) : Prop := ∀ j, j < 160 → fok (α 30 j) ∧ fok (α 31 j)
/-- the terms ps stand at k, k + 1, .., and nothing else of these arrays has changed -/
def Pst (α : Nat → Nat → Int32) (k : Nat) (α1 : Nat → Nat → Int32) (ps : List (Int32 × Int32 × Option Int32)) : Prop :=
  (∀ j, (j < k ∨ k + ps.length ≤ j) → α1 29 j = α 29 j ∧ α1 30 j = α 30 j ∧ α1 31 j = α 31 j ∧ α1 32 j = α 32 j) ∧ ∀ i x, ps[i]? = some x → α1 29 (k + i) = x.1 ∧ α1 30 (k + i) = x.2.1 ∧ (x.2.2 = none → α1 32 (k + i) = 0) ∧ ∀ y, x.2.2 = some y → α1 32 (k + i) = 1 ∧ α1 31 (k + i) = y
theorem Pst_nil (α : Nat → Nat → Int32) (k : Nat) : Pst α k α [] := ⟨fun _ _ => ⟨rfl, rfl, rfl, rfl⟩, fun i x h => by cases h⟩
/-- one term more -/
theorem Pst_snoc {α α1 α2 : Nat → Nat → Int32} {k : Nat} {ps : List (Int32 × Int32 × Option Int32)} {how v : Int32} {o : Option Int32} (h : Pst α k α1 ps)
    (h29 : α2 29 = upd (α1 29) (k + ps.length) how) (h30 : α2 30 = upd (α1 30) (k + ps.length) v) (h32 : α2 32 = upd (α1 32) (k + ps.length) (if o = none then 0 else 1))
    (h31 : ∀ j, j ≠ k + ps.length → α2 31 j = α1 31 j) (h31s : ∀ y, o = some y → α2 31 (k + ps.length) = y) : Pst α k α2 (ps ++ [(how, v, o)]) := by
  refine ⟨fun j hj => ?_, fun i x hx => ?_⟩
  · rw [List.length_append, List.length_singleton] at hj
    have hne : j ≠ k + ps.length := by omega
    obtain ⟨a1, a2, a3, a4⟩ := h.1 j (by omega)
    rw [h29, h30, h32, pk_un hne, pk_un hne, pk_un hne, h31 j hne]
    exact ⟨a1, a2, a3, a4⟩
  · by_cases e : i = ps.length
    · subst e
      rw [List.getElem?_append_right (Nat.le_refl _), Nat.sub_self] at hx
      cases hx
      rw [h29, h30, h32, pk_us, pk_us, pk_us]
      refine ⟨rfl, rfl, fun z => by rw [if_pos z], fun y z => ⟨?_, h31s y z⟩⟩
      have z' : o = some y := z
      rw [z', if_neg (by simp)]
    · have hi : i < ps.length := by
        have := (List.getElem?_eq_some_iff.mp hx).1
        rw [List.length_append, List.length_singleton] at this
        omega
      rw [List.getElem?_append_left hi] at hx
      have hne : k + i ≠ k + ps.length := by omega
      rw [h29, h30, h32, pk_un hne, pk_un hne, pk_un hne, h31 _ hne]
      exact h.2 i x hx
