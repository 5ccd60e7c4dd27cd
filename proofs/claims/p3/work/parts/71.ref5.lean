/-! ===== the reference: canSign, put: printed by program ===== -/
def sgl (α : Nat → Nat → Int32) (r : Nat) (p : Int32) : Nat → Nat → Int32
  | 0, _ => 1
  | n + 1, k => if α 9 (3 * r + k) = p then 0 else sgl α r p n (k + 1)
def cff (α : Nat → Nat → Int32) (r kd : Nat) : Nat → Nat → Int32
  | 0, _ => 1
  | n + 1, f => if α 14 (20 * kd + f) = 0 then cff α r kd n (f + 1) else if α 10 (20 * r + f) = 0 then 0 else cff α r kd n (f + 1)
def cfr (α : Nat → Nat → Int32) (r : Nat) : Nat → Nat → Int32
  | 0, _ => 1
  | n + 1, q => if mvd α r q ≤ 0 then cfr α r n (q + 1) else 0
def mcg (α : Nat → Nat → Int32) (r kd c nq : Nat) (p : Int32) : Int32 := if 0 < α 6 r then 0 else if 0 < opn (α 12) (20 * r) 20 0 0 then 0 else if c = 3 then 0 else if sgl α r p c 0 = 0 then 0 else if cff α r kd 20 0 = 0 then 0 else cfr α r nq 0
theorem e3 (a c : Nat) : (3 : Int32) * nI a + nI c = nI (3 * a + c) := by
  rw [show (3 : Int32) = nI 3 from rfl, pk_mul, nI_add]
theorem nI3 {c : Nat} (hc : c ≤ 3) : nI c = 3 ↔ c = 3 := by
  rw [show (3 : Int32) = nI 3 from rfl, nI_eq (by omega) (by omega)]
set_option maxHeartbeats 4000000 in
set_option maxRecDepth 100000 in
theorem c_M_canSign {l : Launch} (hl : l.stackTraces = false) {D : va_G} {cA : Nat → ClassId} {b n mo : Nat} (r : Nat) (p0 : Int32) (σ : Nat → Int32) (α : Nat → Nat → Int32) (h : AH) (hmo : mo + 27 < n) (kd : Nat) (hkd : α 4 r = nI kd) (hkl : kd < 5) (c0 : Nat) (h8 : α 8 r = nI c0) (hcl : c0 ≤ 3) (nq : Nat) (hnq : σ 21 = nI nq) (hql : nq ≤ 20) (hr : r < 30) (hF : FR α) : Cn l D cA b y_M_canSign k_M_canSign 3 48 0 0 [.ref mo, .int (nI r), .int p0] n (ovM mo σ α h) (Ro (some (.int (mcg α r kd c0 nq p0))) n (fun w : Int32 => ovM mo (upd σ 33 w) α h)) := by
  refine Cn.of (cc := b_M_canSign) (maxL := 4) (ret := (some .boolean)) (hh := []) (by decide +kernel) hl (Or.inl ⟨rfl, rfl⟩) (Nat.le_of_ble_eq_true rfl) ?_
  intro p e s m args below meth c C
  have loopC : ¬ 0 < α 6 r → ¬ 0 < opn (α 12) (20 * r) 20 0 0 → ¬ c0 = 3 → ¬ sgl α r p0 c0 0 = 0 → ¬ cff α r kd 20 0 = 0 → ∀ (m9 q : Nat) (w : Int32), q + m9 = nq → cfr α r m9 q = cfr α r nq 0 → J p l e { frames := 3, cells := 0, slots := 0, locals := 48 } s m args below meth c D cA b 4 (EndQ D cA b s below (Ro (some (.int (mcg α r kd c0 nq p0))) n (fun w : Int32 => ovM mo (upd σ 33 w) α h)) 0 0) n (ovM mo (upd σ 33 w) α h) 0 0 114 [(3, .int (nI q)), (0, .ref mo), (1, .int (nI r)), (2, .int p0)] [] := by
    intro H6 H14 H24 HA HB m9
    induction m9 with
    | zero =>
      intro q w hb hv
      obtain rfl : nq = q := by omega
      refine j_iload_n C d_M_canSign_114 rfl rfl ?_
      refine j_aload_n C d_M_canSign_115 rfl rfl ?_
      refine jm_get C fl_6_166 d_M_canSign_116 hmo rfl ?_
      refine j_icmp_ge (tgt := 139) C d_M_canSign_119 (by decide) (fun c119 => ?_) (fun c119 => ?_)
      · refine j_iconst (v := 1) C d_M_canSign_139 (by decide) ?_
        exact j_zreturn C d_M_canSign_140 rfl (by decide) (by decide) (by decide) ⟨w, by unfold mcg; rw [if_neg H6, if_neg H14, if_neg H24, if_neg HA, if_neg HB, ← hv]; rfl, rfl, rfl⟩
      · exact absurd (show σ 21 ≤ nI nq by rw [hnq]; exact nI_le (Nat.le_refl _) (by omega)) c119
    | succ m9 ih =>
      intro q w hb hv
      refine j_iload_n C d_M_canSign_114 rfl rfl ?_
      refine j_aload_n C d_M_canSign_115 rfl rfl ?_
      refine jm_get C fl_6_166 d_M_canSign_116 hmo rfl ?_
      refine j_icmp_ge (tgt := 139) C d_M_canSign_119 (by decide) (fun c119 => ?_) (fun c119 => ?_)
      · exact absurd (show σ 21 ≤ nI q from c119) (by rw [hnq]; exact nI_ge (by omega) (by omega))
      · refine j_aload_n C d_M_canSign_122 rfl rfl ?_
        refine j_iload_n C d_M_canSign_123 rfl rfl ?_
        refine j_iload_n C d_M_canSign_124 rfl rfl ?_
        refine j_callV C d_M_canSign_125 ml_M_194 mc_M_verdict in_M_verdict rfl se_M_verdict (by omega) (ovM_o _ _ _ _) (c_M_verdict hl r q _ _ _ hmo (by omega) (by omega) hF) rfl rfl (Nat.le_of_ble_eq_true rfl) (Nat.le_of_ble_eq_true rfl) (Nat.le_of_ble_eq_true rfl) (Nat.le_of_ble_eq_true rfl) (jk_o (fun b1 => ?_))
        refine j_if_le (tgt := 133) C d_M_canSign_128 (by decide) (fun c128 => ?_) (fun c128 => ?_)
        · refine j_iinc (v := nI (q + 1)) C d_M_canSign_133 rfl (nI_inc q) (by decide) rfl ?_
          refine j_goto (tgt := 114) C d_M_canSign_136 (by decide) ?_
          exact j_h (by rw [upd_uu]) (j_pick [0, 1, 2, 3] rfl (ih (q + 1) b1 (by omega) (by rw [← hv]; show _ = (if mvd α r q ≤ 0 then cfr α r m9 (q + 1) else 0); rw [if_pos c128])))
        · have e9 : cfr α r nq 0 = 0 := by rw [← hv]; show (if mvd α r q ≤ 0 then cfr α r m9 (q + 1) else 0) = 0; rw [if_neg c128]
          refine j_iconst (v := 0) C d_M_canSign_131 (by decide) ?_
          exact j_zreturn C d_M_canSign_132 rfl (by decide) (by decide) (by decide) ⟨b1, by unfold mcg; rw [if_neg H6, if_neg H14, if_neg H24, if_neg HA, if_neg HB, e9], rfl, by rw [upd_uu]⟩
  have loopB : ¬ 0 < α 6 r → ¬ 0 < opn (α 12) (20 * r) 20 0 0 → ¬ c0 = 3 → ¬ sgl α r p0 c0 0 = 0 → ∀ (m9 f : Nat) (w : Int32), f + m9 = 20 → cff α r kd m9 f = cff α r kd 20 0 → J p l e { frames := 3, cells := 0, slots := 0, locals := 48 } s m args below meth c D cA b 4 (EndQ D cA b s below (Ro (some (.int (mcg α r kd c0 nq p0))) n (fun w : Int32 => ovM mo (upd σ 33 w) α h)) 0 0) n (ovM mo (upd σ 33 w) α h) 0 0 65 [(3, .int (nI f)), (0, .ref mo), (1, .int (nI r)), (2, .int p0)] [] := by
    intro H6 H14 H24 HA m9
    induction m9 with
    | zero =>
      intro f w hb hv
      obtain rfl : f = 20 := by omega
      refine j_iload_n C d_M_canSign_65 rfl rfl ?_
      refine j_bipush (v := 20) C d_M_canSign_66 (by decide) ?_
      refine j_icmp_ge (tgt := 112) C d_M_canSign_68 (by decide) (fun c68 => ?_) (fun c68 => ?_)
      · refine j_iconst (v := 0) C d_M_canSign_112 (by decide) ?_
        refine j_istore_n C d_M_canSign_113 rfl (by decide) rfl ?_
        exact j_pick [0, 1, 2, 3] rfl (loopC H6 H14 H24 HA (by rw [← hv]; show ¬ (1 : Int32) = 0; decide) nq 0 w (by omega) rfl)
      · exact absurd (by decide) c68
    | succ m9 ih =>
      intro f w hb hv
      refine j_iload_n C d_M_canSign_65 rfl rfl ?_
      refine j_bipush (v := 20) C d_M_canSign_66 (by decide) ?_
      refine j_icmp_ge (tgt := 112) C d_M_canSign_68 (by decide) (fun c68 => ?_) (fun c68 => ?_)
      · exact absurd (show nI 20 ≤ nI f from c68) (nI_ge (by omega) (by omega))
      · refine j_aload_n C d_M_canSign_71 rfl rfl ?_
        refine jm_get C fl_6_44 d_M_canSign_72 hmo rfl ?_
        refine j_bipush (v := 20) C d_M_canSign_75 (by decide) ?_
        refine j_aload_n C d_M_canSign_77 rfl rfl ?_
        refine jm_get C fl_6_13 d_M_canSign_78 hmo rfl ?_
        refine j_iload_n C d_M_canSign_81 rfl rfl ?_
        refine jm_ialdn C 1 (r) d_M_canSign_82 (by decide) rfl hmo rfl (by omega) (by omega) ?_
        refine j_imul C d_M_canSign_83 ?_
        refine j_iload_n C d_M_canSign_84 rfl rfl ?_
        refine j_iadd C d_M_canSign_85 ?_
        refine jm_zaldn C 11 (20 * kd + f) d_M_canSign_86 (by decide) rfl hmo (by rw [hkd]; exact e20 kd f) (by omega) (by omega) ?_
        refine j_if_eq (tgt := 106) C d_M_canSign_87 (by decide) (fun c87 => ?_) (fun c87 => ?_)
        · refine j_iinc (v := nI (f + 1)) C d_M_canSign_106 rfl (nI_inc f) (by decide) rfl ?_
          refine j_goto (tgt := 65) C d_M_canSign_109 (by decide) ?_
          exact j_pick [0, 1, 2, 3] rfl (ih (f + 1) w (by omega) (by rw [← hv]; show _ = (if α 14 (20 * kd + f) = 0 then cff α r kd m9 (f + 1) else if α 10 (20 * r + f) = 0 then 0 else cff α r kd m9 (f + 1)); rw [if_pos c87]))
        · refine j_aload_n C d_M_canSign_90 rfl rfl ?_
          refine jm_get C fl_6_31 d_M_canSign_91 hmo rfl ?_
          refine j_bipush (v := 20) C d_M_canSign_94 (by decide) ?_
          refine j_iload_n C d_M_canSign_96 rfl rfl ?_
          refine j_imul C d_M_canSign_97 ?_
          refine j_iload_n C d_M_canSign_98 rfl rfl ?_
          refine j_iadd C d_M_canSign_99 ?_
          refine jm_zaldn C 7 (20 * r + f) d_M_canSign_100 (by decide) rfl hmo (e20 r f) (by omega) (by omega) ?_
          refine j_if_ne (tgt := 106) C d_M_canSign_101 (by decide) (fun c101 => ?_) (fun c101 => ?_)
          · refine j_iinc (v := nI (f + 1)) C d_M_canSign_106 rfl (nI_inc f) (by decide) rfl ?_
            refine j_goto (tgt := 65) C d_M_canSign_109 (by decide) ?_
            exact j_pick [0, 1, 2, 3] rfl (ih (f + 1) w (by omega) (by rw [← hv]; show _ = (if α 14 (20 * kd + f) = 0 then cff α r kd m9 (f + 1) else if α 10 (20 * r + f) = 0 then 0 else cff α r kd m9 (f + 1)); rw [if_neg c87, if_neg c101]))
          · refine j_iconst (v := 0) C d_M_canSign_104 (by decide) ?_
            exact j_zreturn C d_M_canSign_105 rfl (by decide) (by decide) (by decide) ⟨w, by unfold mcg; rw [if_neg H6, if_neg H14, if_neg H24, if_neg HA, if_pos (by rw [← hv]; show (if α 14 (20 * kd + f) = 0 then cff α r kd m9 (f + 1) else if α 10 (20 * r + f) = 0 then 0 else cff α r kd m9 (f + 1)) = 0; rw [if_neg c87, if_pos c101])], rfl, rfl⟩
  have loopA : ¬ 0 < α 6 r → ¬ 0 < opn (α 12) (20 * r) 20 0 0 → ¬ c0 = 3 → ∀ (m9 k : Nat) (w : Int32), k + m9 = c0 → sgl α r p0 m9 k = sgl α r p0 c0 0 → J p l e { frames := 3, cells := 0, slots := 0, locals := 48 } s m args below meth c D cA b 4 (EndQ D cA b s below (Ro (some (.int (mcg α r kd c0 nq p0))) n (fun w : Int32 => ovM mo (upd σ 33 w) α h)) 0 0) n (ovM mo (upd σ 33 w) α h) 0 0 31 [(3, .int (nI k)), (0, .ref mo), (1, .int (nI r)), (2, .int p0)] [] := by
    intro H6 H14 H24 m9
    induction m9 with
    | zero =>
      intro k w hb hv
      obtain rfl : c0 = k := by omega
      refine j_iload_n C d_M_canSign_31 rfl rfl ?_
      refine j_aload_n C d_M_canSign_32 rfl rfl ?_
      refine jm_get C fl_6_25 d_M_canSign_33 hmo rfl ?_
      refine j_iload_n C d_M_canSign_36 rfl rfl ?_
      refine jm_ialdn C 5 (r) d_M_canSign_37 (by decide) rfl hmo rfl (by omega) (by omega) ?_
      refine j_icmp_ge (tgt := 63) C d_M_canSign_38 (by decide) (fun c38 => ?_) (fun c38 => ?_)
      · refine j_iconst (v := 0) C d_M_canSign_63 (by decide) ?_
        refine j_istore_n C d_M_canSign_64 rfl (by decide) rfl ?_
        exact j_pick [0, 1, 2, 3] rfl (loopB H6 H14 H24 (by rw [← hv]; show ¬ (1 : Int32) = 0; decide) 20 0 w rfl rfl)
      · exact absurd (show α 8 r ≤ nI c0 by rw [h8]; exact nI_le (Nat.le_refl _) (by omega)) c38
    | succ m9 ih =>
      intro k w hb hv
      refine j_iload_n C d_M_canSign_31 rfl rfl ?_
      refine j_aload_n C d_M_canSign_32 rfl rfl ?_
      refine jm_get C fl_6_25 d_M_canSign_33 hmo rfl ?_
      refine j_iload_n C d_M_canSign_36 rfl rfl ?_
      refine jm_ialdn C 5 (r) d_M_canSign_37 (by decide) rfl hmo rfl (by omega) (by omega) ?_
      refine j_icmp_ge (tgt := 63) C d_M_canSign_38 (by decide) (fun c38 => ?_) (fun c38 => ?_)
      · exact absurd (show nI c0 ≤ nI k by rw [← h8]; exact c38) (nI_ge (by omega) (by omega))
      · refine j_aload_n C d_M_canSign_41 rfl rfl ?_
        refine jm_get C fl_6_28 d_M_canSign_42 hmo rfl ?_
        refine j_iconst (v := 3) C d_M_canSign_45 (by decide) ?_
        refine j_iload_n C d_M_canSign_46 rfl rfl ?_
        refine j_imul C d_M_canSign_47 ?_
        refine j_iload_n C d_M_canSign_48 rfl rfl ?_
        refine j_iadd C d_M_canSign_49 ?_
        refine jm_ialdn C 6 (3 * r + k) d_M_canSign_50 (by decide) rfl hmo (e3 r k) (by omega) (by omega) ?_
        refine j_iload_n C d_M_canSign_51 rfl rfl ?_
        refine j_icmp_ne (tgt := 57) C d_M_canSign_52 (by decide) (fun c52 => ?_) (fun c52 => ?_)
        · refine j_iinc (v := nI (k + 1)) C d_M_canSign_57 rfl (nI_inc k) (by decide) rfl ?_
          refine j_goto (tgt := 31) C d_M_canSign_60 (by decide) ?_
          exact j_pick [0, 1, 2, 3] rfl (ih (k + 1) w (by omega) (by rw [← hv]; show _ = (if α 9 (3 * r + k) = p0 then 0 else sgl α r p0 m9 (k + 1)); rw [if_neg c52]))
        · refine j_iconst (v := 0) C d_M_canSign_55 (by decide) ?_
          exact j_zreturn C d_M_canSign_56 rfl (by decide) (by decide) (by decide) ⟨w, by unfold mcg; rw [if_neg H6, if_neg H14, if_neg H24, if_pos (by rw [← hv]; show (if α 9 (3 * r + k) = p0 then 0 else sgl α r p0 m9 (k + 1)) = 0; rw [if_pos c52])], rfl, rfl⟩
  obtain ⟨w, hw⟩ : ∃ w, w = σ 33 := ⟨_, rfl⟩
  refine j_h (h' := ovM mo (upd σ 33 w) α h) (by rw [hw, upd_self rfl]) ?_
  refine j_aload_n C d_M_canSign_0 rfl rfl ?_
  refine jm_get C fl_6_19 d_M_canSign_1 hmo rfl ?_
  refine j_iload_n C d_M_canSign_4 rfl rfl ?_
  refine jm_ialdn C 3 (r) d_M_canSign_5 (by decide) rfl hmo rfl (by omega) (by omega) ?_
  refine j_if_gt (tgt := 27) C d_M_canSign_6 (by decide) (fun c6 => ?_) (fun c6 => ?_)
  · refine j_iconst (v := 0) C d_M_canSign_27 (by decide) ?_
    exact j_zreturn C d_M_canSign_28 rfl (by decide) (by decide) (by decide) ⟨w, by unfold mcg; rw [if_pos c6], rfl, rfl⟩
  · refine j_aload_n C d_M_canSign_9 rfl rfl ?_
    refine j_iload_n C d_M_canSign_10 rfl rfl ?_
    refine j_callV C d_M_canSign_11 ml_M_197 mc_M_opened in_M_opened rfl se_M_opened (by omega) (ovM_o _ _ _ _) (c_M_opened hl r _ _ _ hmo hr) rfl rfl (Nat.le_of_ble_eq_true rfl) (Nat.le_of_ble_eq_true rfl) (Nat.le_of_ble_eq_true rfl) (Nat.le_of_ble_eq_true rfl) (jk_r ?_)
    refine j_if_gt (tgt := 27) C d_M_canSign_14 (by decide) (fun c14 => ?_) (fun c14 => ?_)
    · refine j_iconst (v := 0) C d_M_canSign_27 (by decide) ?_
      exact j_zreturn C d_M_canSign_28 rfl (by decide) (by decide) (by decide) ⟨w, by unfold mcg; rw [if_neg c6, if_pos c14], rfl, rfl⟩
    · refine j_aload_n C d_M_canSign_17 rfl rfl ?_
      refine jm_get C fl_6_25 d_M_canSign_18 hmo rfl ?_
      refine j_iload_n C d_M_canSign_21 rfl rfl ?_
      refine jm_ialdn C 5 (r) d_M_canSign_22 (by decide) rfl hmo rfl (by omega) (by omega) ?_
      refine j_iconst (v := 3) C d_M_canSign_23 (by decide) ?_
      refine j_icmp_ne (tgt := 29) C d_M_canSign_24 (by decide) (fun c24 => ?_) (fun c24 => ?_)
      · refine j_iconst (v := 0) C d_M_canSign_29 (by decide) ?_
        refine j_istore_n C d_M_canSign_30 rfl (by decide) rfl ?_
        exact j_pick [0, 1, 2, 3] rfl (loopA c6 c14 (fun z => c24 (by rw [h8, z]; rfl)) c0 0 w (by omega) rfl)
      · refine j_iconst (v := 0) C d_M_canSign_27 (by decide) ?_
        exact j_zreturn C d_M_canSign_28 rfl (by decide) (by decide) (by decide) ⟨w, by unfold mcg; rw [if_neg c6, if_neg c14, if_pos ((nI3 hcl).mp (by rw [← h8]; exact c24))], rfl, rfl⟩

theorem c_M_isPersonK {l : Launch} (hl : l.stackTraces = false) {D : va_G} {cA : Nat → ClassId} {b n : Nat} (x : Int32) (h : AH) {w : Int32} (hw : inI x 0 19 = w) : Cn l D cA b y_M_isPerson k_M_isPerson 1 14 0 0 [.int x] n h (Re (some (.int w)) n h) := by
  subst hw
  exact c_M_isPerson hl x h
set_option maxHeartbeats 4000000 in
set_option maxRecDepth 100000 in
theorem c_M_put_p {l : Launch} (hl : l.stackTraces = false) {D : va_G} {cA : Nat → ClassId} {b n mo : Nat} (r : Nat) (p0 : Int32) (σ : Nat → Int32) (α : Nat → Nat → Int32) (h : AH) (hmo : mo + 27 < n) (nr : Nat) (hnr : σ 2 = nI nr) (hle : nr ≤ 30) (hr : r < nr) (hp : inI p0 0 19 = 0) : Cn l D cA b y_M_put k_M_put 4 65 0 0 [.ref mo, .int (nI r), .int p0] n (ovM mo σ α h) (Re (some (.int 0)) n (ovM mo (upd σ 0 1) α h)) := by
  refine Cn.of (cc := b_M_put) (maxL := 4) (ret := (some .int)) (hh := []) (by decide +kernel) hl (Or.inl ⟨rfl, rfl⟩) (Nat.le_of_ble_eq_true rfl) ?_
  intro p e s m args below meth c C
  refine j_aload_n C d_M_put_0 rfl rfl ?_
  refine j_iload_n C d_M_put_1 rfl rfl ?_
  refine j_callV C d_M_put_2 ml_M_121 mc_M_isReport in_M_isReport rfl se_M_isReport (by omega) (ovM_o _ _ _ _) (c_M_isReportK hl _ _ _ _ hmo (in_rep hnr hle hr)) rfl rfl (Nat.le_of_ble_eq_true rfl) (Nat.le_of_ble_eq_true rfl) (Nat.le_of_ble_eq_true rfl) (Nat.le_of_ble_eq_true rfl) (jk_r ?_)
  refine j_if_eq (tgt := 19) C d_M_put_5 (by decide) (fun c5 => ?_) (fun c5 => ?_)
  · exact absurd c5 (by decide)
  · refine j_iload_n C d_M_put_8 rfl rfl ?_
    refine j_callS C d_M_put_9 ml_M_200 mc_M_isPerson st_M_isPerson (c_M_isPersonK hl _ _ hp) rfl rfl (Nat.le_of_ble_eq_true rfl) (Nat.le_of_ble_eq_true rfl) (Nat.le_of_ble_eq_true rfl) (Nat.le_of_ble_eq_true rfl) (jk_r ?_)
    refine j_if_eq (tgt := 19) C d_M_put_12 (by decide) (fun c12 => ?_) (fun c12 => ?_)
    · refine j_iconst (v := 0) C d_M_put_19 (by decide) ?_
      refine j_istore_n C d_M_put_20 rfl (by decide) rfl ?_
      refine j_aload_n C d_M_put_21 rfl rfl ?_
      refine j_iload_n C d_M_put_22 rfl rfl ?_
      refine j_iload_n C d_M_put_23 rfl rfl ?_
      refine j_if_eq (tgt := 40) C d_M_put_24 (by decide) (fun c24 => ?_) (fun c24 => ?_)
      · refine j_iconst (v := 0) C d_M_put_40 (by decide) ?_
        refine j_iconst (v := 1) C d_M_put_41 (by decide) ?_
        refine j_callV C d_M_put_42 ml_M_109 mc_M_goes in_M_goes rfl se_M_goes (by omega) (ovM_o _ _ _ _) (c_M_goesK hl _ _ _ _ _ _ hmo (gs_1 _ _)) rfl rfl (Nat.le_of_ble_eq_true rfl) (Nat.le_of_ble_eq_true rfl) (Nat.le_of_ble_eq_true rfl) (Nat.le_of_ble_eq_true rfl) (jk_r ?_)
        refine j_if_ne (tgt := 50) C d_M_put_45 (by decide) (fun c45 => ?_) (fun c45 => ?_)
        · exact absurd (by decide) c45
        · refine j_iconst (v := 0) C d_M_put_48 (by decide) ?_
          exact j_ireturn C d_M_put_49 rfl (by decide) (by decide) ⟨rfl, rfl, rfl⟩
      · exact absurd rfl c24
    · exact absurd rfl c12

theorem c_M_canSignK {l : Launch} (hl : l.stackTraces = false) {D : va_G} {cA : Nat → ClassId} {b n mo : Nat} (r : Nat) (p0 : Int32) (σ : Nat → Int32) (α : Nat → Nat → Int32) (h : AH) (hmo : mo + 27 < n) (kd : Nat) (hkd : α 4 r = nI kd) (hkl : kd < 5) (c0 : Nat) (h8 : α 8 r = nI c0) (hcl : c0 ≤ 3) (nq : Nat) (hnq : σ 21 = nI nq) (hql : nq ≤ 20) (hr : r < 30) (hF : FR α) {v : Int32} (hm : mcg α r kd c0 nq p0 = v) : Cn l D cA b y_M_canSign k_M_canSign 3 48 0 0 [.ref mo, .int (nI r), .int p0] n (ovM mo σ α h) (Ro (some (.int v)) n (fun w : Int32 => ovM mo (upd σ 33 w) α h)) := by
  subst hm
  exact c_M_canSign hl r p0 σ α h hmo kd hkd hkl c0 h8 hcl nq hnq hql hr hF
set_option maxHeartbeats 4000000 in
set_option maxRecDepth 100000 in
theorem c_M_put_2 {l : Launch} (hl : l.stackTraces = false) {D : va_G} {cA : Nat → ClassId} {b n mo : Nat} (r : Nat) (p0 : Int32) (σ : Nat → Int32) (α : Nat → Nat → Int32) (h : AH) (hmo : mo + 27 < n) (nr : Nat) (hnr : σ 2 = nI nr) (hle : nr ≤ 30) (hr : r < nr) (hp : inI p0 0 19 = 1) (kd : Nat) (hkd : α 4 r = nI kd) (hkl : kd < 5) (c0 : Nat) (h8 : α 8 r = nI c0) (hcl : c0 ≤ 3) (nq : Nat) (hnq : σ 21 = nI nq) (hql : nq ≤ 20) (hF : FR α) (hm : mcg α r kd c0 nq p0 = 0) : Cn l D cA b y_M_put k_M_put 4 65 0 0 [.ref mo, .int (nI r), .int p0] n (ovM mo σ α h) (Ro (some (.int 0)) n (fun w : Int32 => ovM mo (upd (upd σ 33 w) 0 2) α h)) := by
  refine Cn.of (cc := b_M_put) (maxL := 4) (ret := (some .int)) (hh := []) (by decide +kernel) hl (Or.inl ⟨rfl, rfl⟩) (Nat.le_of_ble_eq_true rfl) ?_
  intro p e s m args below meth c C
  refine j_aload_n C d_M_put_0 rfl rfl ?_
  refine j_iload_n C d_M_put_1 rfl rfl ?_
  refine j_callV C d_M_put_2 ml_M_121 mc_M_isReport in_M_isReport rfl se_M_isReport (by omega) (ovM_o _ _ _ _) (c_M_isReportK hl _ _ _ _ hmo (in_rep hnr hle hr)) rfl rfl (Nat.le_of_ble_eq_true rfl) (Nat.le_of_ble_eq_true rfl) (Nat.le_of_ble_eq_true rfl) (Nat.le_of_ble_eq_true rfl) (jk_r ?_)
  refine j_if_eq (tgt := 19) C d_M_put_5 (by decide) (fun c5 => ?_) (fun c5 => ?_)
  · exact absurd c5 (by decide)
  · refine j_iload_n C d_M_put_8 rfl rfl ?_
    refine j_callS C d_M_put_9 ml_M_200 mc_M_isPerson st_M_isPerson (c_M_isPersonK hl _ _ hp) rfl rfl (Nat.le_of_ble_eq_true rfl) (Nat.le_of_ble_eq_true rfl) (Nat.le_of_ble_eq_true rfl) (Nat.le_of_ble_eq_true rfl) (jk_r ?_)
    refine j_if_eq (tgt := 19) C d_M_put_12 (by decide) (fun c12 => ?_) (fun c12 => ?_)
    · exact absurd c12 (by decide)
    · refine j_iconst (v := 1) C d_M_put_15 (by decide) ?_
      refine j_goto (tgt := 20) C d_M_put_16 (by decide) ?_
      refine j_istore_n C d_M_put_20 rfl (by decide) rfl ?_
      refine j_aload_n C d_M_put_21 rfl rfl ?_
      refine j_iload_n C d_M_put_22 rfl rfl ?_
      refine j_iload_n C d_M_put_23 rfl rfl ?_
      refine j_if_eq (tgt := 40) C d_M_put_24 (by decide) (fun c24 => ?_) (fun c24 => ?_)
      · exact absurd c24 (by decide)
      · refine j_aload_n C d_M_put_27 rfl rfl ?_
        refine j_iload_n C d_M_put_28 rfl rfl ?_
        refine j_iload_n C d_M_put_29 rfl rfl ?_
        refine j_callV C d_M_put_30 ml_M_203 mc_M_canSign in_M_canSign rfl se_M_canSign (by omega) (ovM_o _ _ _ _) (c_M_canSignK hl r _ _ _ _ hmo kd hkd hkl c0 h8 hcl nq hnq hql (by omega) hF hm) rfl rfl (Nat.le_of_ble_eq_true rfl) (Nat.le_of_ble_eq_true rfl) (Nat.le_of_ble_eq_true rfl) (Nat.le_of_ble_eq_true rfl) (jk_o (fun w => ?_))
        refine j_if_eq (tgt := 40) C d_M_put_33 (by decide) (fun c33 => ?_) (fun c33 => ?_)
        · refine j_iconst (v := 0) C d_M_put_40 (by decide) ?_
          refine j_iconst (v := 1) C d_M_put_41 (by decide) ?_
          refine j_callV C d_M_put_42 ml_M_109 mc_M_goes in_M_goes rfl se_M_goes (by omega) (ovM_o _ _ _ _) (c_M_goesK hl _ _ _ _ _ _ hmo (gs_2 (by decide) _)) rfl rfl (Nat.le_of_ble_eq_true rfl) (Nat.le_of_ble_eq_true rfl) (Nat.le_of_ble_eq_true rfl) (Nat.le_of_ble_eq_true rfl) (jk_r ?_)
          refine j_if_ne (tgt := 50) C d_M_put_45 (by decide) (fun c45 => ?_) (fun c45 => ?_)
          · exact absurd (by decide) c45
          · refine j_iconst (v := 0) C d_M_put_48 (by decide) ?_
            exact j_ireturn C d_M_put_49 rfl (by decide) (by decide) ⟨w, rfl, rfl, rfl⟩
        · exact absurd rfl c33

set_option maxHeartbeats 4000000 in
set_option maxRecDepth 100000 in
theorem c_M_put_r {l : Launch} (hl : l.stackTraces = false) {D : va_G} {cA : Nat → ClassId} {b n mo : Nat} (r : Nat) (p0 : Int32) (σ : Nat → Int32) (α : Nat → Nat → Int32) (h : AH) (hmo : mo + 27 < n) (nr : Nat) (hnr : σ 2 = nI nr) (hle : nr ≤ 30) (hr : r < nr) (hp : inI p0 0 19 = 1) (kd : Nat) (hkd : α 4 r = nI kd) (hkl : kd < 5) (c0 : Nat) (h8 : α 8 r = nI c0) (hcl : c0 ≤ 3) (nq : Nat) (hnq : σ 21 = nI nq) (hql : nq ≤ 20) (hF : FR α) (hm : mcg α r kd c0 nq p0 = 1) : Cn l D cA b y_M_put k_M_put 4 65 0 0 [.ref mo, .int (nI r), .int p0] n (ovM mo σ α h) (Ro (some (.int (nI (c0 + 1)))) n (fun w : Int32 => ovM mo (upd (upd σ 33 w) 0 0) (upa (upa α 9 (upd (α 9) (3 * r + c0) p0)) 8 (upd (α 8) r (nI (c0 + 1)))) h)) := by
  refine Cn.of (cc := b_M_put) (maxL := 4) (ret := (some .int)) (hh := []) (by decide +kernel) hl (Or.inl ⟨rfl, rfl⟩) (Nat.le_of_ble_eq_true rfl) ?_
  intro p e s m args below meth c C
  refine j_aload_n C d_M_put_0 rfl rfl ?_
  refine j_iload_n C d_M_put_1 rfl rfl ?_
  refine j_callV C d_M_put_2 ml_M_121 mc_M_isReport in_M_isReport rfl se_M_isReport (by omega) (ovM_o _ _ _ _) (c_M_isReportK hl _ _ _ _ hmo (in_rep hnr hle hr)) rfl rfl (Nat.le_of_ble_eq_true rfl) (Nat.le_of_ble_eq_true rfl) (Nat.le_of_ble_eq_true rfl) (Nat.le_of_ble_eq_true rfl) (jk_r ?_)
  refine j_if_eq (tgt := 19) C d_M_put_5 (by decide) (fun c5 => ?_) (fun c5 => ?_)
  · exact absurd c5 (by decide)
  · refine j_iload_n C d_M_put_8 rfl rfl ?_
    refine j_callS C d_M_put_9 ml_M_200 mc_M_isPerson st_M_isPerson (c_M_isPersonK hl _ _ hp) rfl rfl (Nat.le_of_ble_eq_true rfl) (Nat.le_of_ble_eq_true rfl) (Nat.le_of_ble_eq_true rfl) (Nat.le_of_ble_eq_true rfl) (jk_r ?_)
    refine j_if_eq (tgt := 19) C d_M_put_12 (by decide) (fun c12 => ?_) (fun c12 => ?_)
    · exact absurd c12 (by decide)
    · refine j_iconst (v := 1) C d_M_put_15 (by decide) ?_
      refine j_goto (tgt := 20) C d_M_put_16 (by decide) ?_
      refine j_istore_n C d_M_put_20 rfl (by decide) rfl ?_
      refine j_aload_n C d_M_put_21 rfl rfl ?_
      refine j_iload_n C d_M_put_22 rfl rfl ?_
      refine j_iload_n C d_M_put_23 rfl rfl ?_
      refine j_if_eq (tgt := 40) C d_M_put_24 (by decide) (fun c24 => ?_) (fun c24 => ?_)
      · exact absurd c24 (by decide)
      · refine j_aload_n C d_M_put_27 rfl rfl ?_
        refine j_iload_n C d_M_put_28 rfl rfl ?_
        refine j_iload_n C d_M_put_29 rfl rfl ?_
        refine j_callV C d_M_put_30 ml_M_203 mc_M_canSign in_M_canSign rfl se_M_canSign (by omega) (ovM_o _ _ _ _) (c_M_canSignK hl r _ _ _ _ hmo kd hkd hkl c0 h8 hcl nq hnq hql (by omega) hF hm) rfl rfl (Nat.le_of_ble_eq_true rfl) (Nat.le_of_ble_eq_true rfl) (Nat.le_of_ble_eq_true rfl) (Nat.le_of_ble_eq_true rfl) (jk_o (fun w => ?_))
        refine j_if_eq (tgt := 40) C d_M_put_33 (by decide) (fun c33 => ?_) (fun c33 => ?_)
        · exact absurd c33 (by decide)
        · refine j_iconst (v := 1) C d_M_put_36 (by decide) ?_
          refine j_goto (tgt := 41) C d_M_put_37 (by decide) ?_
          refine j_iconst (v := 1) C d_M_put_41 (by decide) ?_
          refine j_callV C d_M_put_42 ml_M_109 mc_M_goes in_M_goes rfl se_M_goes (by omega) (ovM_o _ _ _ _) (c_M_goesK hl _ _ _ _ _ _ hmo (gs_0 (by decide) (by decide) (by decide))) rfl rfl (Nat.le_of_ble_eq_true rfl) (Nat.le_of_ble_eq_true rfl) (Nat.le_of_ble_eq_true rfl) (Nat.le_of_ble_eq_true rfl) (jk_r ?_)
          refine j_if_ne (tgt := 50) C d_M_put_45 (by decide) (fun c45 => ?_) (fun c45 => ?_)
          · have hc3 : c0 < 3 := by
              rcases Nat.lt_or_ge c0 3 with z | z
              · exact z
              · have z3 : c0 = 3 := by omega
                unfold mcg at hm
                rw [if_pos z3] at hm
                split at hm
                · exact absurd hm (by decide)
                · split at hm
                  · exact absurd hm (by decide)
                  · exact absurd hm (by decide)
            refine j_aload_n C d_M_put_50 rfl rfl ?_
            refine jm_get C fl_6_28 d_M_put_51 hmo rfl ?_
            refine j_iconst (v := 3) C d_M_put_54 (by decide) ?_
            refine j_iload_n C d_M_put_55 rfl rfl ?_
            refine j_imul C d_M_put_56 ?_
            refine j_aload_n C d_M_put_57 rfl rfl ?_
            refine jm_get C fl_6_25 d_M_put_58 hmo rfl ?_
            refine j_iload_n C d_M_put_61 rfl rfl ?_
            refine jm_ialdn C 5 (r) d_M_put_62 (by decide) rfl hmo rfl (by omega) (by omega) ?_
            refine j_iadd C d_M_put_63 ?_
            refine j_iload_n C d_M_put_64 rfl rfl ?_
            refine jm_iastn C 6 9 (3 * r + c0) d_M_put_65 (by decide) rfl hmo (by rw [h8]; exact e3 r c0) (by omega) (by omega) rfl ?_
            refine j_aload_n C d_M_put_66 rfl rfl ?_
            refine jm_get C fl_6_25 d_M_put_67 hmo rfl ?_
            refine j_iload_n C d_M_put_70 rfl rfl ?_
            refine j_dup2 C d_M_put_71 rfl rfl ?_
            refine jm_ialdn C 5 (r) d_M_put_72 (by decide) rfl hmo rfl (by omega) (by omega) ?_
            refine j_iconst (v := 1) C d_M_put_73 (by decide) ?_
            refine j_iadd C d_M_put_74 ?_
            refine jm_iastn C 5 8 (r) d_M_put_75 (by decide) rfl hmo rfl (by omega) (by omega) rfl ?_
            refine j_aload_n C d_M_put_76 rfl rfl ?_
            refine jm_get C fl_6_25 d_M_put_77 hmo rfl ?_
            refine j_iload_n C d_M_put_80 rfl rfl ?_
            refine jm_ialdn C 5 (r) d_M_put_81 (by decide) rfl hmo rfl (by omega) (by omega) ?_
            rw [show upa (upa α 9 (upd (α 9) (3 * r + c0) p0)) 8 (upd (upa α 9 (upd (α 9) (3 * r + c0) p0) 8) r (upa α 9 (upd (α 9) (3 * r + c0) p0) 8 r + 1)) = upa (upa α 9 (upd (α 9) (3 * r + c0) p0)) 8 (upd (α 8) r (nI (c0 + 1))) from by rw [show upa α 9 (upd (α 9) (3 * r + c0) p0) 8 = α 8 from rfl, h8, nI_1]]
            exact j_ireturn C d_M_put_82 rfl (by decide) (by decide) ⟨w, by rw [show upa (upa α 9 (upd (α 9) (3 * r + c0) p0)) 8 (upd (α 8) r (nI (c0 + 1))) 8 r = nI (c0 + 1) from pk_us], rfl, rfl⟩
          · exact absurd c45 (by decide)

