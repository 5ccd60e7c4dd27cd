/-! ===== contracts of the reference: late ===== -/
def ltr (σ : Nat → Int32) (α : Nat → Nat → Int32) (mi : Int32) : Nat → Nat → Int32 → Int32
  | 0, _, _ => -1
  | k + 1, r, left => if α 8 r = 3 then ltr σ α mi k (r + 1) left else if mi < σ 1 - α 5 r then (if left = 0 then nI r else ltr σ α mi k (r + 1) (left - 1)) else ltr σ α mi k (r + 1) left
def mlate (σ : Nat → Int32) (α : Nat → Nat → Int32) (nr : Nat) (mi i : Int32) : Int32 × (Nat → Int32) := if inI mi 0 99999 = 0 then (0, upd σ 0 1) else if i < 0 then (0, upd σ 0 1) else (ltr σ α mi nr 0 i, upd σ 0 0)
set_option maxHeartbeats 4000000 in
set_option maxRecDepth 100000 in
theorem c_M_late {l : Launch} (hl : l.stackTraces = false) {D : va_G} {cA : Nat → ClassId} {b n mo : Nat} (mi i : Int32) (σ : Nat → Int32) (α : Nat → Nat → Int32) (h : AH) (hmo : mo + 27 < n) (nr : Nat) (hnr : σ 2 = nI nr) (hle : nr ≤ 30) : Cn l D cA b y_M_late k_M_late 1 15 0 0 [.ref mo, .int mi, .int i] n (ovM mo σ α h) (Re (some (.int (mlate σ α nr mi i).1)) n (ovM mo (mlate σ α nr mi i).2 α h)) := by
  refine Cn.of (cc := b_M_late) (maxL := 5) (ret := (some .int)) (hh := []) (by decide +kernel) hl (Or.inl ⟨rfl, rfl⟩) (Nat.le_of_ble_eq_true rfl) ?_
  intro p e s m args below meth c C
  have loop : ∀ (k r : Nat) (left : Int32), r + k = nr → ltr σ α mi k r left = ltr σ α mi nr 0 i → mlate σ α nr mi i = (ltr σ α mi nr 0 i, upd σ 0 0) → J p l e { frames := 1, cells := 0, slots := 0, locals := 15 } s m args below meth c D cA b 5 (EndQ D cA b s below (Re (some (.int (mlate σ α nr mi i).1)) n (ovM mo (mlate σ α nr mi i).2 α h)) 0 0) n (ovM mo (upd σ 0 (gsI 1 1 1)) α h) 0 0 35 [(4, .int (nI r)), (3, .int left), (0, .ref mo), (1, .int mi), (2, .int i)] [] := by
    intro k
    induction k with
    | zero =>
      intro r left hr hv hm
      have hv1 : (mlate σ α nr mi i).1 = ltr σ α mi nr 0 i := by rw [hm]
      have hv2 : (mlate σ α nr mi i).2 = upd σ 0 0 := by rw [hm]
      obtain rfl : r = nr := by omega
      refine j_iload C d_M_late_35 rfl ?_
      refine j_aload_n C d_M_late_37 rfl rfl ?_
      refine jm_get C fl_6_99 d_M_late_38 hmo rfl ?_
      refine j_icmp_ge (tgt := 90) C d_M_late_41 (by decide) (fun c41 => ?_) (fun c41 => ?_)
      · refine j_iconst (v := (-1)) C d_M_late_90 (by decide) ?_
        exact j_ireturn C d_M_late_91 rfl (by decide) (by decide) ⟨by rw [hv1, ← hv]; first | rfl | (unfold ltr; simp [c41, hcl]; done), rfl, by rw [hv2]; rfl⟩
      · exact absurd (show upd σ 0 (gsI 1 1 1) 2 ≤ nI r from (show σ 2 ≤ nI r by rw [hnr]; exact Int32.le_refl _)) c41
    | succ k ih =>
      intro r left hr hv hm
      have hv1 : (mlate σ α nr mi i).1 = ltr σ α mi nr 0 i := by rw [hm]
      have hv2 : (mlate σ α nr mi i).2 = upd σ 0 0 := by rw [hm]
      have hin : vp_in (nI r) 30 := vp_in_nI (by omega) (by omega)
      have hcl : (nI r).toNatClampNeg = r := nI_clamp (by omega)
      refine j_iload C d_M_late_35 rfl ?_
      refine j_aload_n C d_M_late_37 rfl rfl ?_
      refine jm_get C fl_6_99 d_M_late_38 hmo rfl ?_
      refine j_icmp_ge (tgt := 90) C d_M_late_41 (by decide) (fun c41 => ?_) (fun c41 => ?_)
      · exact absurd (show σ 2 ≤ nI r from c41) (by rw [hnr]; exact nI_ge (by omega) (by omega))
      · refine j_aload_n C d_M_late_44 rfl rfl ?_
        refine jm_get C fl_6_25 d_M_late_45 hmo rfl ?_
        refine j_iload C d_M_late_48 rfl ?_
        refine jm_iald C 5 d_M_late_50 (by decide) rfl hmo hin rfl ?_
        refine j_iconst (v := 3) C d_M_late_51 (by decide) ?_
        refine j_icmp_eq (tgt := 84) C d_M_late_52 (by decide) (fun c52 => ?_) (fun c52 => ?_)
        · refine j_iinc (v := nI (r + 1)) C d_M_late_84 rfl (nI_inc r) (by decide) rfl ?_
          have h52 := c52
          rw [hcl] at h52
          refine j_goto (tgt := 35) C d_M_late_87 (by decide) ?_
          exact j_pick [0, 1, 2, 3, 4] rfl (ih (r + 1) left (by omega) (by rw [← hv]; show _ = (if α 8 r = 3 then ltr σ α mi k (r + 1) left else if mi < σ 1 - α 5 r then (if left = 0 then nI r else ltr σ α mi k (r + 1) (left - 1)) else ltr σ α mi k (r + 1) left); rw [if_pos h52]) hm)
        · refine j_aload_n C d_M_late_55 rfl rfl ?_
          refine jm_get C fl_6_106 d_M_late_56 hmo rfl ?_
          refine j_aload_n C d_M_late_59 rfl rfl ?_
          refine jm_get C fl_6_16 d_M_late_60 hmo rfl ?_
          refine j_iload C d_M_late_63 rfl ?_
          refine jm_iald C 2 d_M_late_65 (by decide) rfl hmo hin rfl ?_
          refine j_isub C d_M_late_66 ?_
          refine j_iload_n C d_M_late_67 rfl rfl ?_
          refine j_icmp_gt (tgt := 74) C d_M_late_68 (by decide) (fun c68 => ?_) (fun c68 => ?_)
          · refine j_iload_n C d_M_late_74 rfl rfl ?_
            refine j_if_ne (tgt := 81) C d_M_late_75 (by decide) (fun c75 => ?_) (fun c75 => ?_)
            · refine j_iinc (v := left - 1) C d_M_late_81 rfl (by rw [Int32.sub_eq_add_neg]; rfl) (by decide) rfl ?_
              refine j_iinc (v := nI (r + 1)) C d_M_late_84 rfl (nI_inc r) (by decide) rfl ?_
              have h52 := c52
              rw [hcl] at h52
              have h68 : mi < σ 1 - α 5 (nI r).toNatClampNeg := c68
              rw [hcl] at h68
              refine j_goto (tgt := 35) C d_M_late_87 (by decide) ?_
              exact j_pick [0, 1, 2, 3, 4] rfl (ih (r + 1) (left - 1) (by omega) (by rw [← hv]; show _ = (if α 8 r = 3 then ltr σ α mi k (r + 1) left else if mi < σ 1 - α 5 r then (if left = 0 then nI r else ltr σ α mi k (r + 1) (left - 1)) else ltr σ α mi k (r + 1) left); rw [if_neg h52, if_pos h68, if_neg c75]) hm)
            · refine j_iload C d_M_late_78 rfl ?_
              exact j_ireturn C d_M_late_80 rfl (by decide) (by decide) ⟨by rw [hv1, ← hv]; show _ = Sum.inl (some (Value.int (if α 8 r = 3 then ltr σ α mi k (r + 1) left else if mi < σ 1 - α 5 r then (if left = 0 then nI r else ltr σ α mi k (r + 1) (left - 1)) else ltr σ α mi k (r + 1) left))); have h52 := c52; have h68 : mi < σ 1 - α 5 (nI r).toNatClampNeg := c68; rw [hcl] at h52 h68; rw [if_neg h52, if_pos h68, if_pos c75], rfl, by rw [hv2]; rfl⟩
          · refine j_goto (tgt := 84) C d_M_late_71 (by decide) ?_
            refine j_iinc (v := nI (r + 1)) C d_M_late_84 rfl (nI_inc r) (by decide) rfl ?_
            have h52 := c52
            rw [hcl] at h52
            have h68 : ¬ mi < σ 1 - α 5 (nI r).toNatClampNeg := c68
            rw [hcl] at h68
            refine j_goto (tgt := 35) C d_M_late_87 (by decide) ?_
            exact j_pick [0, 1, 2, 3, 4] rfl (ih (r + 1) left (by omega) (by rw [← hv]; show _ = (if α 8 r = 3 then ltr σ α mi k (r + 1) left else if mi < σ 1 - α 5 r then (if left = 0 then nI r else ltr σ α mi k (r + 1) (left - 1)) else ltr σ α mi k (r + 1) left); rw [if_neg h52, if_neg h68]) hm)
  refine j_aload_n C d_M_late_0 rfl rfl ?_
  refine j_iload_n C d_M_late_1 rfl rfl ?_
  refine j_iconst (v := 0) C d_M_late_2 (by decide) ?_
  refine j_ldc (v := 99999) C d_M_late_3 lc_M_125 ?_
  refine j_callS C d_M_late_5 ml_M_102 mc_M_in st_M_in (c_M_in hl _ _ _ _) rfl rfl (Nat.le_of_ble_eq_true rfl) (Nat.le_of_ble_eq_true rfl) (Nat.le_of_ble_eq_true rfl) (Nat.le_of_ble_eq_true rfl) (jk_r ?_)
  refine j_if_eq (tgt := 19) C d_M_late_8 (by decide) (fun c8 => ?_) (fun c8 => ?_)
  · refine j_iconst (v := 0) C d_M_late_19 (by decide) ?_
    refine j_iconst (v := 1) C d_M_late_20 (by decide) ?_
    refine j_iconst (v := 1) C d_M_late_21 (by decide) ?_
    refine j_callV C d_M_late_22 ml_M_109 mc_M_goes in_M_goes rfl se_M_goes (by omega) (ovM_o _ _ _ _) (c_M_goes hl _ _ _ _ _ _ hmo) rfl rfl (Nat.le_of_ble_eq_true rfl) (Nat.le_of_ble_eq_true rfl) (Nat.le_of_ble_eq_true rfl) (Nat.le_of_ble_eq_true rfl) (jk_r ?_)
    refine j_if_ne (tgt := 30) C d_M_late_25 (by decide) (fun c25 => ?_) (fun c25 => ?_)
    · exact absurd rfl (gs_ok c25).1
    · refine j_iconst (v := 0) C d_M_late_28 (by decide) ?_
      exact j_ireturn C d_M_late_29 rfl (by decide) (by decide) ⟨by first | (simp [mlate, mkn, kn2, nar1, nar0, pk_un, upa_n, c8, c25]; done) | (simp [mlate, mkn, kn2, gsI, bz, nar1, nar0, pk_un, upa_n, c8, c25]; done) | exact absurd c25 (by decide) | exact absurd rfl (gs_ok c25).1 | exact absurd rfl (gs_ok c25).2.1 | exact absurd rfl (gs_ok c25).2.2, rfl, by first | (simp [mlate, mkn, kn2, nar1, nar0, pk_un, upa_n, c8, c25]; done) | (simp [mlate, mkn, kn2, gsI, bz, nar1, nar0, pk_un, upa_n, c8, c25]; done) | exact absurd c25 (by decide) | exact absurd rfl (gs_ok c25).1 | exact absurd rfl (gs_ok c25).2.1 | exact absurd rfl (gs_ok c25).2.2⟩
  · refine j_iload_n C d_M_late_11 rfl rfl ?_
    refine j_if_lt (tgt := 19) C d_M_late_12 (by decide) (fun c12 => ?_) (fun c12 => ?_)
    · refine j_iconst (v := 0) C d_M_late_19 (by decide) ?_
      refine j_iconst (v := 1) C d_M_late_20 (by decide) ?_
      refine j_iconst (v := 1) C d_M_late_21 (by decide) ?_
      refine j_callV C d_M_late_22 ml_M_109 mc_M_goes in_M_goes rfl se_M_goes (by omega) (ovM_o _ _ _ _) (c_M_goes hl _ _ _ _ _ _ hmo) rfl rfl (Nat.le_of_ble_eq_true rfl) (Nat.le_of_ble_eq_true rfl) (Nat.le_of_ble_eq_true rfl) (Nat.le_of_ble_eq_true rfl) (jk_r ?_)
      refine j_if_ne (tgt := 30) C d_M_late_25 (by decide) (fun c25 => ?_) (fun c25 => ?_)
      · exact absurd rfl (gs_ok c25).1
      · refine j_iconst (v := 0) C d_M_late_28 (by decide) ?_
        exact j_ireturn C d_M_late_29 rfl (by decide) (by decide) ⟨by first | (simp [mlate, mkn, kn2, nar1, nar0, pk_un, upa_n, c8, c12, c25]; done) | (simp [mlate, mkn, kn2, gsI, bz, nar1, nar0, pk_un, upa_n, c8, c12, c25]; done) | exact absurd c25 (by decide) | exact absurd rfl (gs_ok c25).1 | exact absurd rfl (gs_ok c25).2.1 | exact absurd rfl (gs_ok c25).2.2, rfl, by first | (simp [mlate, mkn, kn2, nar1, nar0, pk_un, upa_n, c8, c12, c25]; done) | (simp [mlate, mkn, kn2, gsI, bz, nar1, nar0, pk_un, upa_n, c8, c12, c25]; done) | exact absurd c25 (by decide) | exact absurd rfl (gs_ok c25).1 | exact absurd rfl (gs_ok c25).2.1 | exact absurd rfl (gs_ok c25).2.2⟩
    · refine j_iconst (v := 1) C d_M_late_15 (by decide) ?_
      refine j_goto (tgt := 20) C d_M_late_16 (by decide) ?_
      refine j_iconst (v := 1) C d_M_late_20 (by decide) ?_
      refine j_iconst (v := 1) C d_M_late_21 (by decide) ?_
      refine j_callV C d_M_late_22 ml_M_109 mc_M_goes in_M_goes rfl se_M_goes (by omega) (ovM_o _ _ _ _) (c_M_goes hl _ _ _ _ _ _ hmo) rfl rfl (Nat.le_of_ble_eq_true rfl) (Nat.le_of_ble_eq_true rfl) (Nat.le_of_ble_eq_true rfl) (Nat.le_of_ble_eq_true rfl) (jk_r ?_)
      refine j_if_ne (tgt := 30) C d_M_late_25 (by decide) (fun c25 => ?_) (fun c25 => ?_)
      · refine j_iload_n C d_M_late_30 rfl rfl ?_
        refine j_istore_n C d_M_late_31 rfl (by decide) rfl ?_
        refine j_iconst (v := 0) C d_M_late_32 (by decide) ?_
        refine j_istore C d_M_late_33 (by decide) rfl ?_
        exact j_pick [0, 1, 2, 3, 4] rfl (loop nr 0 i (by omega) rfl (by simp [mlate, c8, c12]))
      · exact absurd c25 (by decide)

