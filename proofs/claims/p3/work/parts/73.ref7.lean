/-! ===== the reference: code: printed by program ===== -/
def vb (x : Int32) : List Int32 := if x < 0 then 45 :: nb (-x).toNatClampNeg else nb x.toNatClampNeg
def vok (x : Int32) : Prop := (∃ m : Nat, m ≤ 99999 ∧ x = nI m) ∨ (∃ m : Nat, 1 ≤ m ∧ m ≤ 99999 ∧ x = -(nI m))
theorem vb_p {m : Nat} (hm : m ≤ 99999) : vb (nI m) = nb m := by
  unfold vb
  rw [if_neg (nI_pos (by omega)), nI_clamp (by omega)]
theorem vb_n {m : Nat} (h1 : 1 ≤ m) (hm : m ≤ 99999) : vb (-(nI m)) = 45 :: nb m := by
  unfold vb
  rw [if_pos (Int32.not_le.mp (neg_lt h1 hm)), Int32.neg_neg, nI_clamp (by omega)]
theorem nb_len (m : Nat) : (nb m).length = dn m := dgs_len m _
theorem vb_len {x : Int32} (hx : vok x) : (vb x).length ≤ 6 := by
  rcases hx with ⟨m, hm, rfl⟩ | ⟨m, h1, hm, rfl⟩
  · rw [vb_p hm, nb_len]
    have := dn_le m
    omega
  · rw [vb_n h1 hm, List.length_cons, nb_len]
    have := dn_le m
    omega
def cdi (α : Nat → Nat → Int32) (r p f : Nat) : List Int32 := if α 10 (20 * r + f) = 0 then [] else nb f ++ (58 :: ((if α 15 (20 * f + p) = 0 then vb (α 13 (20 * r + f)) else [42]) ++ [59]))
def cdl (α : Nat → Nat → Int32) (r p : Nat) : Nat → Nat → List Int32
  | 0, _ => []
  | n + 1, f => cdi α r p f ++ cdl α r p n (f + 1)
def cdw (α : Nat → Nat → Int32) (r p i : Nat) : List Int32 := 82 :: (nb i ++ (44 :: cdl α r p 20 0))
theorem cdi_len {α : Nat → Nat → Int32} {r p f : Nat} (hf : f < 20) (hv : vok (α 13 (20 * r + f))) : (cdi α r p f).length ≤ 10 := by
  unfold cdi
  have h1 := dn_c f
  have h2 := vb_len hv
  split
  · simp
  · rw [List.length_append, nb_len, List.length_cons, List.length_append]
    split
    · rw [List.length_singleton]; omega
    · simp; omega
theorem c_M_number0_v {l : Launch} (hl : l.stackTraces = false) {D : va_G} {cA : Nat → ClassId} {b n mo : Nat} (x : Int32) (σ : Nat → Int32) (α : Nat → Nat → Int32) (h : AH) (hmo : mo + 27 < n) (w : List Int32) (hx : vok x) (hw : w.length + 6 < 300) : Cn l D cA b y_M_number0 k_M_number0 1 13 0 0 [.ref mo, .int x] n (ovW mo σ α h w) (Re none n (ovW mo σ α h (w ++ vb x))) := by
  rcases hx with ⟨m, hm, rfl⟩ | ⟨m, h1, hm, rfl⟩
  · rw [vb_p hm]
    exact c_M_number0_p hl m σ α h hmo w hm hw
  · rw [vb_n h1 hm]
    exact c_M_number0_n hl m σ α h hmo w h1 hm hw
set_option maxHeartbeats 4000000 in
set_option maxRecDepth 100000 in
theorem c_M_code_r {l : Launch} (hl : l.stackTraces = false) {D : va_G} {cA : Nat → ClassId} {b n mo : Nat} (r p0 : Nat) (σ : Nat → Int32) (α : Nat → Nat → Int32) (h : AH) (hmo : mo + 27 < n) (nr : Nat) (hnr : σ 2 = nI nr) (hle : nr ≤ 30) (hr : r < nr) (hp : p0 < 20) (i0 : Nat) (hi : α 3 r = nI i0) (hil : i0 ≤ 9999) (hvk : ∀ f, f < 20 → vok (α 13 (20 * r + f))) : Cn l D cA b y_M_code k_M_code 2 28 0 0 [.ref mo, .int (nI r), .int (nI p0)] n (ovM mo σ α h) (Re (some (.int (nI (cdw α r p0 i0).length))) n (ovW mo (upd σ 0 0) α h (cdw α r p0 i0))) := by
  refine Cn.of (cc := b_M_code) (maxL := 4) (ret := (some .int)) (hh := []) (by decide +kernel) hl (Or.inl ⟨rfl, rfl⟩) (Nat.le_of_ble_eq_true rfl) ?_
  intro p e s m args below meth c C
  have loop : ∀ (m9 f : Nat) (w : List Int32), f + m9 = 20 → w.length ≤ 6 + 10 * f → w ++ cdl α r p0 m9 f = (cdw α r p0 i0) → J p l e { frames := 2, cells := 0, slots := 0, locals := 28 } s m args below meth c D cA b 4 (EndQ D cA b s below (Re (some (.int (nI (cdw α r p0 i0).length))) n (ovW mo (upd σ 0 0) α h (cdw α r p0 i0))) 0 0) n (ovW mo (upd σ 0 0) α h w) 0 0 60 [(3, .int (nI f)), (0, .ref mo), (1, .int (nI r)), (2, .int (nI p0))] [] := by
    intro m9
    induction m9 with
    | zero =>
      intro f w hf hlen hv
      obtain rfl : f = 20 := by omega
      refine j_iload_n C d_M_code_60 rfl rfl ?_
      refine j_bipush (v := 20) C d_M_code_61 (by decide) ?_
      refine j_icmp_ge (tgt := 144) C d_M_code_63 (by decide) (fun c63 => ?_) (fun c63 => ?_)
      · refine j_aload_n C d_M_code_144 rfl rfl ?_
        obtain rfl : w = (cdw α r p0 i0) := by rw [← hv]; exact (List.append_nil _).symm
        refine jm_get C fl_6_206 d_M_code_145 hmo rfl ?_
        exact j_ireturn C d_M_code_148 rfl (by decide) (by decide) ⟨rfl, rfl, rfl⟩
      · exact absurd (by decide) c63
    | succ m9 ih =>
      intro f w hf hlen hv
      refine j_iload_n C d_M_code_60 rfl rfl ?_
      refine j_bipush (v := 20) C d_M_code_61 (by decide) ?_
      refine j_icmp_ge (tgt := 144) C d_M_code_63 (by decide) (fun c63 => ?_) (fun c63 => ?_)
      · exact absurd (show nI 20 ≤ nI f from c63) (nI_ge (by omega) (by omega))
      · refine j_aload_n C d_M_code_66 rfl rfl ?_
        refine jm_get C fl_6_31 d_M_code_67 hmo rfl ?_
        refine j_bipush (v := 20) C d_M_code_70 (by decide) ?_
        refine j_iload_n C d_M_code_72 rfl rfl ?_
        refine j_imul C d_M_code_73 ?_
        refine j_iload_n C d_M_code_74 rfl rfl ?_
        refine j_iadd C d_M_code_75 ?_
        refine jm_zaldn C 7 (20 * r + f) d_M_code_76 (by decide) rfl hmo (e20 r f) (by omega) (by omega) ?_
        refine j_if_ne (tgt := 83) C d_M_code_77 (by decide) (fun c77 => ?_) (fun c77 => ?_)
        · refine j_h (h' := (ovW mo (upd σ 0 0) α h w)) rfl ?_
          refine j_aload_n C d_M_code_83 rfl rfl ?_
          refine j_iload_n C d_M_code_84 rfl rfl ?_
          refine j_callV C d_M_code_85 ml_M_212 mc_M_number0 in_M_number0 rfl se_M_number0 (by omega) (ovW_o _ _ _ _ _) (c_M_number0_p hl f (upd σ 0 0) α h hmo w (by omega) (by omega)) rfl rfl (Nat.le_of_ble_eq_true rfl) (Nat.le_of_ble_eq_true rfl) (Nat.le_of_ble_eq_true rfl) (Nat.le_of_ble_eq_true rfl) (jk_v ?_)
          refine j_aload_n C d_M_code_88 rfl rfl ?_
          refine j_bipush (v := 58) C d_M_code_89 (by decide) ?_
          refine j_callV C d_M_code_91 ml_M_209 mc_M_write in_M_write rfl se_M_write (by omega) (ovW_o _ _ _ _ _) (c_M_writeL hl 58 (upd σ 0 0) α h hmo (w ++ nb f) (by simp only [List.length_append, List.length_singleton]; have z1 := nb_len f; have z2 := dn_c f; have z3 := vb_len (hvk f (by omega)); omega)) rfl rfl (Nat.le_of_ble_eq_true rfl) (Nat.le_of_ble_eq_true rfl) (Nat.le_of_ble_eq_true rfl) (Nat.le_of_ble_eq_true rfl) (jk_v ?_)
          refine j_aload_n C d_M_code_94 rfl rfl ?_
          refine jm_get C fl_6_47 d_M_code_95 hmo rfl ?_
          refine j_bipush (v := 20) C d_M_code_98 (by decide) ?_
          refine j_iload_n C d_M_code_100 rfl rfl ?_
          refine j_imul C d_M_code_101 ?_
          refine j_iload_n C d_M_code_102 rfl rfl ?_
          refine j_iadd C d_M_code_103 ?_
          refine jm_zaldn C 12 (20 * f + p0) d_M_code_104 (by decide) rfl hmo (e20 f p0) (by omega) (by omega) ?_
          refine j_if_eq (tgt := 117) C d_M_code_105 (by decide) (fun c105 => ?_) (fun c105 => ?_)
          · refine j_aload_n C d_M_code_117 rfl rfl ?_
            refine j_aload_n C d_M_code_118 rfl rfl ?_
            refine jm_get C fl_6_41 d_M_code_119 hmo rfl ?_
            refine j_bipush (v := 20) C d_M_code_122 (by decide) ?_
            refine j_iload_n C d_M_code_124 rfl rfl ?_
            refine j_imul C d_M_code_125 ?_
            refine j_iload_n C d_M_code_126 rfl rfl ?_
            refine j_iadd C d_M_code_127 ?_
            refine jm_ialdn C 10 (20 * r + f) d_M_code_128 (by decide) rfl hmo (e20 r f) (by omega) (by omega) ?_
            refine j_h (h' := (ovW mo (upd σ 0 0) α h (w ++ nb f ++ [58]))) rfl ?_
            refine j_callV C d_M_code_129 ml_M_212 mc_M_number0 in_M_number0 rfl se_M_number0 (by omega) (ovW_o _ _ _ _ _) (c_M_number0_v hl (α 13 (20 * r + f)) (upd σ 0 0) α h hmo (w ++ nb f ++ [58]) (hvk f (by omega)) (by simp only [List.length_append, List.length_singleton]; have z1 := nb_len f; have z2 := dn_c f; omega)) rfl rfl (Nat.le_of_ble_eq_true rfl) (Nat.le_of_ble_eq_true rfl) (Nat.le_of_ble_eq_true rfl) (Nat.le_of_ble_eq_true rfl) (jk_v ?_)
            refine j_aload_n C d_M_code_132 rfl rfl ?_
            refine j_bipush (v := 59) C d_M_code_133 (by decide) ?_
            refine j_callV C d_M_code_135 ml_M_209 mc_M_write in_M_write rfl se_M_write (by omega) (ovW_o _ _ _ _ _) (c_M_writeL hl 59 (upd σ 0 0) α h hmo (w ++ nb f ++ [58] ++ vb (α 13 (20 * r + f))) (by simp only [List.length_append, List.length_singleton]; have z1 := nb_len f; have z2 := dn_c f; have z3 := vb_len (hvk f (by omega)); omega)) rfl rfl (Nat.le_of_ble_eq_true rfl) (Nat.le_of_ble_eq_true rfl) (Nat.le_of_ble_eq_true rfl) (Nat.le_of_ble_eq_true rfl) (jk_v ?_)
            have e9 : cdi α r p0 f = nb f ++ (58 :: (vb (α 13 (20 * r + f)) ++ [59])) := by unfold cdi; rw [if_neg (show ¬ α 10 (20 * r + f) = 0 from c77), if_pos (show α 15 (20 * f + p0) = 0 from c105)]
            refine j_iinc (v := nI (f + 1)) C d_M_code_138 rfl (nI_inc f) (by decide) rfl ?_
            refine j_goto (tgt := 60) C d_M_code_141 (by decide) ?_
            exact j_pick [0, 1, 2, 3] rfl (ih (f + 1) (w ++ nb f ++ [58] ++ vb (α 13 (20 * r + f)) ++ [59]) (by omega) (by simp only [List.length_append, List.length_singleton]; have z1 := nb_len f; have z2 := dn_c f; have z3 := vb_len (hvk f (by omega)); omega) (by rw [← hv]; show _ = w ++ (cdi α r p0 f ++ _); rw [e9]; simp))
          · refine j_h (h' := (ovW mo (upd σ 0 0) α h (w ++ nb f ++ [58]))) rfl ?_
            refine j_aload_n C d_M_code_108 rfl rfl ?_
            refine j_bipush (v := 42) C d_M_code_109 (by decide) ?_
            refine j_callV C d_M_code_111 ml_M_209 mc_M_write in_M_write rfl se_M_write (by omega) (ovW_o _ _ _ _ _) (c_M_writeL hl 42 (upd σ 0 0) α h hmo (w ++ nb f ++ [58]) (by simp only [List.length_append, List.length_singleton]; have z1 := nb_len f; have z2 := dn_c f; have z3 := vb_len (hvk f (by omega)); omega)) rfl rfl (Nat.le_of_ble_eq_true rfl) (Nat.le_of_ble_eq_true rfl) (Nat.le_of_ble_eq_true rfl) (Nat.le_of_ble_eq_true rfl) (jk_v ?_)
            refine j_goto (tgt := 132) C d_M_code_114 (by decide) ?_
            refine j_aload_n C d_M_code_132 rfl rfl ?_
            refine j_bipush (v := 59) C d_M_code_133 (by decide) ?_
            refine j_callV C d_M_code_135 ml_M_209 mc_M_write in_M_write rfl se_M_write (by omega) (ovW_o _ _ _ _ _) (c_M_writeL hl 59 (upd σ 0 0) α h hmo (w ++ nb f ++ [58] ++ [42]) (by simp only [List.length_append, List.length_singleton]; have z1 := nb_len f; have z2 := dn_c f; have z3 := vb_len (hvk f (by omega)); omega)) rfl rfl (Nat.le_of_ble_eq_true rfl) (Nat.le_of_ble_eq_true rfl) (Nat.le_of_ble_eq_true rfl) (Nat.le_of_ble_eq_true rfl) (jk_v ?_)
            have e9 : cdi α r p0 f = nb f ++ (58 :: ([42] ++ [59])) := by unfold cdi; rw [if_neg (show ¬ α 10 (20 * r + f) = 0 from c77), if_neg (show ¬ α 15 (20 * f + p0) = 0 from c105)]
            refine j_iinc (v := nI (f + 1)) C d_M_code_138 rfl (nI_inc f) (by decide) rfl ?_
            refine j_goto (tgt := 60) C d_M_code_141 (by decide) ?_
            exact j_pick [0, 1, 2, 3] rfl (ih (f + 1) (w ++ nb f ++ [58] ++ [42] ++ [59]) (by omega) (by simp only [List.length_append, List.length_singleton]; have z1 := nb_len f; have z2 := dn_c f; have z3 := vb_len (hvk f (by omega)); omega) (by rw [← hv]; show _ = w ++ (cdi α r p0 f ++ _); rw [e9]; simp))
        · refine j_goto (tgt := 138) C d_M_code_80 (by decide) ?_
          have e9 : cdi α r p0 f = [] := by unfold cdi; rw [if_pos (show α 10 (20 * r + f) = 0 from c77)]
          refine j_iinc (v := nI (f + 1)) C d_M_code_138 rfl (nI_inc f) (by decide) rfl ?_
          refine j_goto (tgt := 60) C d_M_code_141 (by decide) ?_
          exact j_pick [0, 1, 2, 3] rfl (ih (f + 1) w (by omega) (by omega) (by rw [← hv]; show _ = w ++ (cdi α r p0 f ++ _); rw [e9]; rfl))
  refine j_aload_n C d_M_code_0 rfl rfl ?_
  refine j_aload_n C d_M_code_1 rfl rfl ?_
  refine j_iload_n C d_M_code_2 rfl rfl ?_
  refine j_callV C d_M_code_3 ml_M_121 mc_M_isReport in_M_isReport rfl se_M_isReport (by omega) (ovM_o _ _ _ _) (c_M_isReportK hl _ _ _ _ hmo (in_rep hnr hle hr)) rfl rfl (Nat.le_of_ble_eq_true rfl) (Nat.le_of_ble_eq_true rfl) (Nat.le_of_ble_eq_true rfl) (Nat.le_of_ble_eq_true rfl) (jk_r ?_)
  refine j_if_eq (tgt := 20) C d_M_code_6 (by decide) (fun c6 => ?_) (fun c6 => ?_)
  · exact absurd c6 (by decide)
  · refine j_iload_n C d_M_code_9 rfl rfl ?_
    refine j_callS C d_M_code_10 ml_M_200 mc_M_isPerson st_M_isPerson (c_M_isPersonK hl _ _ (in_ok (nI_pos (by omega)) (nI_le (b := 19) (by omega) (by omega)))) rfl rfl (Nat.le_of_ble_eq_true rfl) (Nat.le_of_ble_eq_true rfl) (Nat.le_of_ble_eq_true rfl) (Nat.le_of_ble_eq_true rfl) (jk_r ?_)
    refine j_if_eq (tgt := 20) C d_M_code_13 (by decide) (fun c13 => ?_) (fun c13 => ?_)
    · exact absurd c13 (by decide)
    · refine j_iconst (v := 1) C d_M_code_16 (by decide) ?_
      refine j_goto (tgt := 21) C d_M_code_17 (by decide) ?_
      refine j_iconst (v := 1) C d_M_code_21 (by decide) ?_
      refine j_iconst (v := 1) C d_M_code_22 (by decide) ?_
      refine j_callV C d_M_code_23 ml_M_109 mc_M_goes in_M_goes rfl se_M_goes (by omega) (ovM_o _ _ _ _) (c_M_goesK hl _ _ _ _ _ _ hmo (gs_0 (by decide) (by decide) (by decide))) rfl rfl (Nat.le_of_ble_eq_true rfl) (Nat.le_of_ble_eq_true rfl) (Nat.le_of_ble_eq_true rfl) (Nat.le_of_ble_eq_true rfl) (jk_r ?_)
      refine j_if_ne (tgt := 31) C d_M_code_26 (by decide) (fun c26 => ?_) (fun c26 => ?_)
      · refine j_aload_n C d_M_code_31 rfl rfl ?_
        refine j_iconst (v := 0) C d_M_code_32 (by decide) ?_
        refine jm_puti 37 C fp_6_206 d_M_code_33 hmo (by decide) (by first | rfl | assumption) rfl rfl ?_
        refine j_h (h' := (ovW mo (upd σ 0 0) α h [])) (by unfold ovW; rw [wl_nil, upa_self rfl]; rfl) ?_
        refine j_aload_n C d_M_code_36 rfl rfl ?_
        refine j_bipush (v := 82) C d_M_code_37 (by decide) ?_
        refine j_callV C d_M_code_39 ml_M_209 mc_M_write in_M_write rfl se_M_write (by omega) (ovW_o _ _ _ _ _) (c_M_writeL hl 82 (upd σ 0 0) α h hmo [] (by simp)) rfl rfl (Nat.le_of_ble_eq_true rfl) (Nat.le_of_ble_eq_true rfl) (Nat.le_of_ble_eq_true rfl) (Nat.le_of_ble_eq_true rfl) (jk_v ?_)
        refine j_aload_n C d_M_code_42 rfl rfl ?_
        refine j_aload_n C d_M_code_43 rfl rfl ?_
        refine jm_get C fl_6_7 d_M_code_44 hmo rfl ?_
        refine j_iload_n C d_M_code_47 rfl rfl ?_
        refine jm_ialdn C 0 (r) d_M_code_48 (by decide) rfl hmo rfl (by omega) (by omega) ?_
        rw [show upa α 38 (wl (α 38) ([] ++ [82])) 3 r = nI i0 from hi]
        refine j_h (h' := (ovW mo (upd σ 0 0) α h [82])) rfl ?_
        refine j_callV C d_M_code_49 ml_M_212 mc_M_number0 in_M_number0 rfl se_M_number0 (by omega) (ovW_o _ _ _ _ _) (c_M_number0_p hl i0 (upd σ 0 0) α h hmo [82] (by omega) (by simp)) rfl rfl (Nat.le_of_ble_eq_true rfl) (Nat.le_of_ble_eq_true rfl) (Nat.le_of_ble_eq_true rfl) (Nat.le_of_ble_eq_true rfl) (jk_v ?_)
        refine j_aload_n C d_M_code_52 rfl rfl ?_
        refine j_bipush (v := 44) C d_M_code_53 (by decide) ?_
        refine j_callV C d_M_code_55 ml_M_209 mc_M_write in_M_write rfl se_M_write (by omega) (ovW_o _ _ _ _ _) (c_M_writeL hl 44 (upd σ 0 0) α h hmo ([82] ++ nb i0) (by simp only [List.length_append, List.length_singleton]; have z1 := nb_len i0; have z2 := dn_le i0; omega)) rfl rfl (Nat.le_of_ble_eq_true rfl) (Nat.le_of_ble_eq_true rfl) (Nat.le_of_ble_eq_true rfl) (Nat.le_of_ble_eq_true rfl) (jk_v ?_)
        refine j_iconst (v := 0) C d_M_code_58 (by decide) ?_
        refine j_istore_n C d_M_code_59 rfl (by decide) rfl ?_
        exact j_pick [0, 1, 2, 3] rfl (loop 20 0 ([82] ++ nb i0 ++ [44]) rfl (by simp only [List.length_append, List.length_singleton]; have z1 := nb_len i0; have z2 := dn_c i0; omega) (by unfold cdw; simp))
      · exact absurd c26 (by decide)

