/-! ===== contracts of the reference: further public methods ===== -/
def mat (σ : Nat → Int32) (α : Nat → Nat → Int32) (i : Int32) : Int32 × (Nat → Int32) := if i < 0 then (0, upd σ 0 1) else (if σ 37 ≤ i then -1 else α 38 i.toNatClampNeg, upd σ 0 0)
def minside (σ : Nat → Int32) (α : Nat → Nat → Int32) (r k : Int32) : (Nat → Int32) × (Nat → Nat → Int32) :=
  let t := gsI (inI r 0 (σ 2 - 1)) (inI k 0 99) (if inI r 0 (σ 2 - 1) = 0 then 0 else if α 8 r.toNatClampNeg = 0 then 1 else 0)
  if bz t = 0 then (upd σ 0 t, α) else (upd σ 0 t, upa α 6 (upd (α 6) r.toNatClampNeg k))
def mkn (σ : Nat → Int32) (r f : Int32) : Int32 := kn2 (inI r 0 (σ 2 - 1)) (inI f 0 19)
def mvalue (σ : Nat → Int32) (α : Nat → Nat → Int32) (r f : Int32) : Int32 × (Nat → Int32) :=
  let t := gsI (mkn σ r f) (if mkn σ r f = 0 then 0 else if α 10 (20 * r + f).toNatClampNeg = 0 then 0 else 1) 1
  if bz t = 0 then (0, upd σ 0 t) else (α 13 (20 * r + f).toNatClampNeg, upd σ 0 t)
def mtell (α : Nat → Nat → Int32) (j : Nat) (v : Int32) : Nat → Nat → Int32 := upa (upa (upa (upa α 10 (upd (α 10) j 1)) 11 (upd (α 11) j 0)) 12 (upd (α 12) j 0)) 13 (upd (α 13) j v)
def mfield (σ : Nat → Int32) (α : Nat → Nat → Int32) (r f v : Int32) : (Nat → Int32) × (Nat → Nat → Int32) :=
  let t := gsI (mkn σ r f) (inI v (-99999) 99999) (if mkn σ r f = 0 then 0 else if α 8 r.toNatClampNeg = 0 then 1 else if α 12 (20 * r + f).toNatClampNeg = 0 then 0 else 1)
  if bz t = 0 then (upd σ 0 t, α) else (upd σ 0 t, mtell α (20 * r + f).toNatClampNeg v)
def mfault (σ : Nat → Int32) (α : Nat → Nat → Int32) (r f : Int32) : (Nat → Int32) × (Nat → Nat → Int32) :=
  let t := gsI (mkn σ r f) (if mkn σ r f = 0 then 0 else if α 8 r.toNatClampNeg = 3 then (if α 12 (20 * r + f).toNatClampNeg = 0 then 1 else 0) else 0) 1
  if bz t = 0 then (upd σ 0 t, α) else (upd σ 0 t, upa α 12 (upd (α 12) (20 * r + f).toNatClampNeg 1))
def mact (σ : Nat → Int32) (α : Nat → Nat → Int32) (r k t : Int32) : Int32 × (Nat → Int32) × (Nat → Nat → Int32) :=
  let kn := kn2 (inI r 0 (σ 2 - 1)) (inI k 0 9)
  let g := gsI kn (inI t 0 (σ 1)) (if kn = 0 then 0 else if α 8 r.toNatClampNeg = 0 then 1 else 0)
  let j := (20 * r + k).toNatClampNeg
  if bz g = 0 then (0, upd σ 0 g, α) else
  if α 10 j = 0 ∨ (¬ α 11 j = 0 ∧ t < α 13 j) then (1, upd σ 0 g, upa (upa (upa α 10 (upd (α 10) j 1)) 11 (upd (α 11) j 1)) 13 (upd (α 13) j t)) else (0, upd σ 0 g, α)
def mwanting (σ : Nat → Int32) (α : Nat → Nat → Int32) (i w : Int32) : Int32 × (Nat → Int32) :=
  if kn2 (inI i 0 (σ 34 - 1)) (inI w 0 1) = 0 then (0, upd σ 0 1) else (if w = 0 then α 35 i.toNatClampNeg else α 36 i.toNatClampNeg, upd σ 0 0)
theorem upa_n {α : Nat → Nat → Int32} {k j : Nat} {f : Nat → Int32} (hj : j ≠ k) : upa α k f j = α j := if_neg hj
theorem nar1 : vp_nar .boolean 1 = 1 := rfl
theorem nar0 : vp_nar .boolean 0 = 0 := rfl
set_option maxHeartbeats 4000000 in
set_option maxRecDepth 100000 in
theorem c_M_at {l : Launch} (hl : l.stackTraces = false) {D : va_G} {cA : Nat → ClassId} {b n mo : Nat} (i : Int32) (σ : Nat → Int32) (α : Nat → Nat → Int32) (h : AH) (hmo : mo + 27 < n) (hcd : ¬ i < 0 → ¬ σ 37 ≤ i → vp_in i 300) : Cn l D cA b y_M_at k_M_at 1 15 0 0 [.ref mo, .int i] n (ovM mo σ α h) (Re (some (.int (mat σ α i).1)) n (ovM mo (mat σ α i).2 α h)) := by
  refine Cn.of (cc := b_M_at) (maxL := 2) (ret := (some .int)) (hh := []) (by decide +kernel) hl (Or.inl ⟨rfl, rfl⟩) (Nat.le_of_ble_eq_true rfl) ?_
  intro p e s m args below meth c C
  refine j_aload_n C d_M_at_0 rfl rfl ?_
  refine j_iload_n C d_M_at_1 rfl rfl ?_
  refine j_if_lt (tgt := 9) C d_M_at_2 (by decide) (fun c2 => ?_) (fun c2 => ?_)
  · refine j_iconst (v := 0) C d_M_at_9 (by decide) ?_
    refine j_iconst (v := 1) C d_M_at_10 (by decide) ?_
    refine j_iconst (v := 1) C d_M_at_11 (by decide) ?_
    refine j_callV C d_M_at_12 ml_M_109 mc_M_goes in_M_goes rfl se_M_goes (by omega) (ovM_o _ _ _ _) (c_M_goes hl _ _ _ _ _ _ hmo) rfl rfl (Nat.le_of_ble_eq_true rfl) (Nat.le_of_ble_eq_true rfl) (Nat.le_of_ble_eq_true rfl) (Nat.le_of_ble_eq_true rfl) (jk_r ?_)
    refine j_if_ne (tgt := 20) C d_M_at_15 (by decide) (fun c15 => ?_) (fun c15 => ?_)
    · refine j_iload_n C d_M_at_20 rfl rfl ?_
      refine j_aload_n C d_M_at_21 rfl rfl ?_
      refine jm_get C fl_6_206 d_M_at_22 hmo rfl ?_
      refine j_icmp_ge (tgt := 37) C d_M_at_25 (by decide) (fun c25 => ?_) (fun c25 => ?_)
      · refine j_iconst (v := (-1)) C d_M_at_37 (by decide) ?_
        exact j_ireturn C d_M_at_38 rfl (by decide) (by decide) ⟨by first | (simp [mat, mkn, kn2, nar1, nar0, pk_un, upa_n, c2, c15, c25]; done) | (simp [mat, mkn, kn2, gsI, bz, nar1, nar0, pk_un, upa_n, c2, c15, c25]; done) | exact absurd c15 (by decide) | exact absurd rfl (gs_ok c15).1 | exact absurd rfl (gs_ok c15).2.1 | exact absurd rfl (gs_ok c15).2.2 | (rw [show upd σ 0 (gsI 1 1 1) 37 = σ 37 from rfl] at c25; simp [mat, c2, c25]; done), rfl, by first | (simp [mat, mkn, kn2, nar1, nar0, pk_un, upa_n, c2, c15, c25]; done) | (simp [mat, mkn, kn2, gsI, bz, nar1, nar0, pk_un, upa_n, c2, c15, c25]; done) | exact absurd c15 (by decide) | exact absurd rfl (gs_ok c15).1 | exact absurd rfl (gs_ok c15).2.1 | exact absurd rfl (gs_ok c15).2.2⟩
      · refine j_aload_n C d_M_at_28 rfl rfl ?_
        refine jm_get C fl_6_93 d_M_at_29 hmo rfl ?_
        refine j_iload_n C d_M_at_32 rfl rfl ?_
        refine jm_iald C 26 d_M_at_33 (by decide) rfl hmo (by first | exact hcd c2 c25 | exact absurd rfl (gs_ok c15).1) rfl ?_
        refine j_goto (tgt := 38) C d_M_at_34 (by decide) ?_
        exact j_ireturn C d_M_at_38 rfl (by decide) (by decide) ⟨by first | (simp [mat, mkn, kn2, nar1, nar0, pk_un, upa_n, c2, c15, c25]; done) | (simp [mat, mkn, kn2, gsI, bz, nar1, nar0, pk_un, upa_n, c2, c15, c25]; done) | exact absurd c15 (by decide) | exact absurd rfl (gs_ok c15).1 | exact absurd rfl (gs_ok c15).2.1 | exact absurd rfl (gs_ok c15).2.2 | (rw [show upd σ 0 (gsI 1 1 1) 37 = σ 37 from rfl] at c25; simp [mat, c2, c25]; done), rfl, by first | (simp [mat, mkn, kn2, nar1, nar0, pk_un, upa_n, c2, c15, c25]; done) | (simp [mat, mkn, kn2, gsI, bz, nar1, nar0, pk_un, upa_n, c2, c15, c25]; done) | exact absurd c15 (by decide) | exact absurd rfl (gs_ok c15).1 | exact absurd rfl (gs_ok c15).2.1 | exact absurd rfl (gs_ok c15).2.2⟩
    · refine j_iconst (v := 0) C d_M_at_18 (by decide) ?_
      exact j_ireturn C d_M_at_19 rfl (by decide) (by decide) ⟨by first | (simp [mat, mkn, kn2, nar1, nar0, pk_un, upa_n, c2, c15]; done) | (simp [mat, mkn, kn2, gsI, bz, nar1, nar0, pk_un, upa_n, c2, c15]; done) | exact absurd c15 (by decide) | exact absurd rfl (gs_ok c15).1 | exact absurd rfl (gs_ok c15).2.1 | exact absurd rfl (gs_ok c15).2.2 | (rw [show upd σ 0 (gsI 1 1 1) 37 = σ 37 from rfl] at c25; simp [mat, c2, c25]; done), rfl, by first | (simp [mat, mkn, kn2, nar1, nar0, pk_un, upa_n, c2, c15]; done) | (simp [mat, mkn, kn2, gsI, bz, nar1, nar0, pk_un, upa_n, c2, c15]; done) | exact absurd c15 (by decide) | exact absurd rfl (gs_ok c15).1 | exact absurd rfl (gs_ok c15).2.1 | exact absurd rfl (gs_ok c15).2.2⟩
  · refine j_iconst (v := 1) C d_M_at_5 (by decide) ?_
    refine j_goto (tgt := 10) C d_M_at_6 (by decide) ?_
    refine j_iconst (v := 1) C d_M_at_10 (by decide) ?_
    refine j_iconst (v := 1) C d_M_at_11 (by decide) ?_
    refine j_callV C d_M_at_12 ml_M_109 mc_M_goes in_M_goes rfl se_M_goes (by omega) (ovM_o _ _ _ _) (c_M_goes hl _ _ _ _ _ _ hmo) rfl rfl (Nat.le_of_ble_eq_true rfl) (Nat.le_of_ble_eq_true rfl) (Nat.le_of_ble_eq_true rfl) (Nat.le_of_ble_eq_true rfl) (jk_r ?_)
    refine j_if_ne (tgt := 20) C d_M_at_15 (by decide) (fun c15 => ?_) (fun c15 => ?_)
    · refine j_iload_n C d_M_at_20 rfl rfl ?_
      refine j_aload_n C d_M_at_21 rfl rfl ?_
      refine jm_get C fl_6_206 d_M_at_22 hmo rfl ?_
      refine j_icmp_ge (tgt := 37) C d_M_at_25 (by decide) (fun c25 => ?_) (fun c25 => ?_)
      · refine j_iconst (v := (-1)) C d_M_at_37 (by decide) ?_
        exact j_ireturn C d_M_at_38 rfl (by decide) (by decide) ⟨by first | (simp [mat, mkn, kn2, nar1, nar0, pk_un, upa_n, c2, c15, c25]; done) | (simp [mat, mkn, kn2, gsI, bz, nar1, nar0, pk_un, upa_n, c2, c15, c25]; done) | exact absurd c15 (by decide) | exact absurd rfl (gs_ok c15).1 | exact absurd rfl (gs_ok c15).2.1 | exact absurd rfl (gs_ok c15).2.2 | (rw [show upd σ 0 (gsI 1 1 1) 37 = σ 37 from rfl] at c25; simp [mat, c2, c25]; done), rfl, by first | (simp [mat, mkn, kn2, nar1, nar0, pk_un, upa_n, c2, c15, c25]; done) | (simp [mat, mkn, kn2, gsI, bz, nar1, nar0, pk_un, upa_n, c2, c15, c25]; done) | exact absurd c15 (by decide) | exact absurd rfl (gs_ok c15).1 | exact absurd rfl (gs_ok c15).2.1 | exact absurd rfl (gs_ok c15).2.2⟩
      · refine j_aload_n C d_M_at_28 rfl rfl ?_
        refine jm_get C fl_6_93 d_M_at_29 hmo rfl ?_
        refine j_iload_n C d_M_at_32 rfl rfl ?_
        refine jm_iald C 26 d_M_at_33 (by decide) rfl hmo (by first | exact hcd c2 c25 | exact absurd rfl (gs_ok c15).1) rfl ?_
        refine j_goto (tgt := 38) C d_M_at_34 (by decide) ?_
        exact j_ireturn C d_M_at_38 rfl (by decide) (by decide) ⟨by first | (simp [mat, mkn, kn2, nar1, nar0, pk_un, upa_n, c2, c15, c25]; done) | (simp [mat, mkn, kn2, gsI, bz, nar1, nar0, pk_un, upa_n, c2, c15, c25]; done) | exact absurd c15 (by decide) | exact absurd rfl (gs_ok c15).1 | exact absurd rfl (gs_ok c15).2.1 | exact absurd rfl (gs_ok c15).2.2 | (rw [show upd σ 0 (gsI 1 1 1) 37 = σ 37 from rfl] at c25; simp [mat, c2, c25]; done), rfl, by first | (simp [mat, mkn, kn2, nar1, nar0, pk_un, upa_n, c2, c15, c25]; done) | (simp [mat, mkn, kn2, gsI, bz, nar1, nar0, pk_un, upa_n, c2, c15, c25]; done) | exact absurd c15 (by decide) | exact absurd rfl (gs_ok c15).1 | exact absurd rfl (gs_ok c15).2.1 | exact absurd rfl (gs_ok c15).2.2⟩
    · refine j_iconst (v := 0) C d_M_at_18 (by decide) ?_
      exact j_ireturn C d_M_at_19 rfl (by decide) (by decide) ⟨by first | (simp [mat, mkn, kn2, nar1, nar0, pk_un, upa_n, c2, c15]; done) | (simp [mat, mkn, kn2, gsI, bz, nar1, nar0, pk_un, upa_n, c2, c15]; done) | exact absurd c15 (by decide) | exact absurd rfl (gs_ok c15).1 | exact absurd rfl (gs_ok c15).2.1 | exact absurd rfl (gs_ok c15).2.2 | (rw [show upd σ 0 (gsI 1 1 1) 37 = σ 37 from rfl] at c25; simp [mat, c2, c25]; done), rfl, by first | (simp [mat, mkn, kn2, nar1, nar0, pk_un, upa_n, c2, c15]; done) | (simp [mat, mkn, kn2, gsI, bz, nar1, nar0, pk_un, upa_n, c2, c15]; done) | exact absurd c15 (by decide) | exact absurd rfl (gs_ok c15).1 | exact absurd rfl (gs_ok c15).2.1 | exact absurd rfl (gs_ok c15).2.2⟩

set_option maxHeartbeats 4000000 in
set_option maxRecDepth 100000 in
theorem c_M_inside {l : Launch} (hl : l.stackTraces = false) {D : va_G} {cA : Nat → ClassId} {b n mo : Nat} (r k : Int32) (σ : Nat → Int32) (α : Nat → Nat → Int32) (h : AH) (hmo : mo + 27 < n) (nr : Nat) (hnr : σ 2 = nI nr) (hle : nr ≤ 30) : Cn l D cA b y_M_inside k_M_inside 2 30 0 0 [.ref mo, .int r, .int k] n (ovM mo σ α h) (Re none n (ovM mo (minside σ α r k).1 (minside σ α r k).2 h)) := by
  refine Cn.of (cc := b_M_inside) (maxL := 3) (ret := none) (hh := []) (by decide +kernel) hl (Or.inl ⟨rfl, rfl⟩) (Nat.le_of_ble_eq_true rfl) ?_
  intro p e s m args below meth c C
  refine j_aload_n C d_M_inside_0 rfl rfl ?_
  refine j_aload_n C d_M_inside_1 rfl rfl ?_
  refine j_iload_n C d_M_inside_2 rfl rfl ?_
  refine j_callV C d_M_inside_3 ml_M_121 mc_M_isReport in_M_isReport rfl se_M_isReport (by omega) (ovM_o _ _ _ _) (c_M_isReport hl _ _ _ _ hmo) rfl rfl (Nat.le_of_ble_eq_true rfl) (Nat.le_of_ble_eq_true rfl) (Nat.le_of_ble_eq_true rfl) (Nat.le_of_ble_eq_true rfl) (jk_r ?_)
  refine j_iload_n C d_M_inside_6 rfl rfl ?_
  refine j_iconst (v := 0) C d_M_inside_7 (by decide) ?_
  refine j_bipush (v := 99) C d_M_inside_8 (by decide) ?_
  refine j_callS C d_M_inside_10 ml_M_102 mc_M_in st_M_in (c_M_in hl _ _ _ _) rfl rfl (Nat.le_of_ble_eq_true rfl) (Nat.le_of_ble_eq_true rfl) (Nat.le_of_ble_eq_true rfl) (Nat.le_of_ble_eq_true rfl) (jk_r ?_)
  refine j_aload_n C d_M_inside_13 rfl rfl ?_
  refine j_iload_n C d_M_inside_14 rfl rfl ?_
  refine j_callV C d_M_inside_15 ml_M_121 mc_M_isReport in_M_isReport rfl se_M_isReport (by omega) (ovM_o _ _ _ _) (c_M_isReport hl _ _ _ _ hmo) rfl rfl (Nat.le_of_ble_eq_true rfl) (Nat.le_of_ble_eq_true rfl) (Nat.le_of_ble_eq_true rfl) (Nat.le_of_ble_eq_true rfl) (jk_r ?_)
  refine j_if_eq (tgt := 34) C d_M_inside_18 (by decide) (fun c18 => ?_) (fun c18 => ?_)
  · refine j_iconst (v := 0) C d_M_inside_34 (by decide) ?_
    refine j_callV C d_M_inside_35 ml_M_109 mc_M_goes in_M_goes rfl se_M_goes (by omega) (ovM_o _ _ _ _) (c_M_goes hl _ _ _ _ _ _ hmo) rfl rfl (Nat.le_of_ble_eq_true rfl) (Nat.le_of_ble_eq_true rfl) (Nat.le_of_ble_eq_true rfl) (Nat.le_of_ble_eq_true rfl) (jk_r ?_)
    refine j_if_eq (tgt := 48) C d_M_inside_38 (by decide) (fun c38 => ?_) (fun c38 => ?_)
    · exact j_vreturn C d_M_inside_48 rfl (by decide) (by decide) ⟨rfl, rfl, by first | (simp [minside, mkn, kn2, nar1, nar0, pk_un, upa_n, c18, c38]; done) | (simp [minside, mkn, kn2, gsI, bz, nar1, nar0, pk_un, upa_n, c18, c38]; done) | exact absurd c38 (by decide) | exact absurd rfl (gs_ok c38).1 | exact absurd rfl (gs_ok c38).2.1 | exact absurd rfl (gs_ok c38).2.2⟩
    · refine j_aload_n C d_M_inside_41 rfl rfl ?_
      refine jm_get C fl_6_19 d_M_inside_42 hmo rfl ?_
      refine j_iload_n C d_M_inside_45 rfl rfl ?_
      refine j_iload_n C d_M_inside_46 rfl rfl ?_
      refine jm_iasti C 3 6 d_M_inside_47 (by decide) rfl hmo (by first | exact ix_r hnr hle (by omega) (by omega) (by assumption) | exact absurd rfl (gs_ok c38).1 | exact absurd rfl (gs_ok c38).2.1 | exact absurd rfl (gs_ok c38).2.2) rfl ?_
      exact j_vreturn C d_M_inside_48 rfl (by decide) (by decide) ⟨rfl, rfl, by first | (simp [minside, mkn, kn2, nar1, nar0, pk_un, upa_n, c18, c38]; done) | (simp [minside, mkn, kn2, gsI, bz, nar1, nar0, pk_un, upa_n, c18, c38]; done) | exact absurd c38 (by decide) | exact absurd rfl (gs_ok c38).1 | exact absurd rfl (gs_ok c38).2.1 | exact absurd rfl (gs_ok c38).2.2⟩
  · refine j_aload_n C d_M_inside_21 rfl rfl ?_
    refine jm_get C fl_6_25 d_M_inside_22 hmo rfl ?_
    refine j_iload_n C d_M_inside_25 rfl rfl ?_
    refine jm_iald C 5 d_M_inside_26 (by decide) rfl hmo (by first | exact ix_r hnr hle (by omega) (by omega) (by assumption) | exact absurd rfl (gs_ok (show ¬ bz (gsI 1 1 1) = 0 by decide)).1 | exact absurd rfl (gs_ok (show ¬ bz (gsI 1 1 1) = 0 by decide)).2.1 | exact absurd rfl (gs_ok (show ¬ bz (gsI 1 1 1) = 0 by decide)).2.2) rfl ?_
    refine j_if_ne (tgt := 34) C d_M_inside_27 (by decide) (fun c27 => ?_) (fun c27 => ?_)
    · refine j_iconst (v := 0) C d_M_inside_34 (by decide) ?_
      refine j_callV C d_M_inside_35 ml_M_109 mc_M_goes in_M_goes rfl se_M_goes (by omega) (ovM_o _ _ _ _) (c_M_goes hl _ _ _ _ _ _ hmo) rfl rfl (Nat.le_of_ble_eq_true rfl) (Nat.le_of_ble_eq_true rfl) (Nat.le_of_ble_eq_true rfl) (Nat.le_of_ble_eq_true rfl) (jk_r ?_)
      refine j_if_eq (tgt := 48) C d_M_inside_38 (by decide) (fun c38 => ?_) (fun c38 => ?_)
      · exact j_vreturn C d_M_inside_48 rfl (by decide) (by decide) ⟨rfl, rfl, by first | (simp [minside, mkn, kn2, nar1, nar0, pk_un, upa_n, c18, c27, c38]; done) | (simp [minside, mkn, kn2, gsI, bz, nar1, nar0, pk_un, upa_n, c18, c27, c38]; done) | exact absurd c38 (by decide) | exact absurd rfl (gs_ok c38).1 | exact absurd rfl (gs_ok c38).2.1 | exact absurd rfl (gs_ok c38).2.2⟩
      · refine j_aload_n C d_M_inside_41 rfl rfl ?_
        refine jm_get C fl_6_19 d_M_inside_42 hmo rfl ?_
        refine j_iload_n C d_M_inside_45 rfl rfl ?_
        refine j_iload_n C d_M_inside_46 rfl rfl ?_
        refine jm_iasti C 3 6 d_M_inside_47 (by decide) rfl hmo (by first | exact ix_r hnr hle (by omega) (by omega) (by assumption) | exact absurd rfl (gs_ok c38).1 | exact absurd rfl (gs_ok c38).2.1 | exact absurd rfl (gs_ok c38).2.2) rfl ?_
        exact j_vreturn C d_M_inside_48 rfl (by decide) (by decide) ⟨rfl, rfl, by first | (simp [minside, mkn, kn2, nar1, nar0, pk_un, upa_n, c18, c27, c38]; done) | (simp [minside, mkn, kn2, gsI, bz, nar1, nar0, pk_un, upa_n, c18, c27, c38]; done) | exact absurd c38 (by decide) | exact absurd rfl (gs_ok c38).1 | exact absurd rfl (gs_ok c38).2.1 | exact absurd rfl (gs_ok c38).2.2⟩
    · refine j_iconst (v := 1) C d_M_inside_30 (by decide) ?_
      refine j_goto (tgt := 35) C d_M_inside_31 (by decide) ?_
      refine j_callV C d_M_inside_35 ml_M_109 mc_M_goes in_M_goes rfl se_M_goes (by omega) (ovM_o _ _ _ _) (c_M_goes hl _ _ _ _ _ _ hmo) rfl rfl (Nat.le_of_ble_eq_true rfl) (Nat.le_of_ble_eq_true rfl) (Nat.le_of_ble_eq_true rfl) (Nat.le_of_ble_eq_true rfl) (jk_r ?_)
      refine j_if_eq (tgt := 48) C d_M_inside_38 (by decide) (fun c38 => ?_) (fun c38 => ?_)
      · exact j_vreturn C d_M_inside_48 rfl (by decide) (by decide) ⟨rfl, rfl, by first | (simp [minside, mkn, kn2, nar1, nar0, pk_un, upa_n, c18, c27, c38]; done) | (simp [minside, mkn, kn2, gsI, bz, nar1, nar0, pk_un, upa_n, c18, c27, c38]; done) | exact absurd c38 (by decide) | exact absurd rfl (gs_ok c38).1 | exact absurd rfl (gs_ok c38).2.1 | exact absurd rfl (gs_ok c38).2.2⟩
      · refine j_aload_n C d_M_inside_41 rfl rfl ?_
        refine jm_get C fl_6_19 d_M_inside_42 hmo rfl ?_
        refine j_iload_n C d_M_inside_45 rfl rfl ?_
        refine j_iload_n C d_M_inside_46 rfl rfl ?_
        refine jm_iasti C 3 6 d_M_inside_47 (by decide) rfl hmo (by first | exact ix_r hnr hle (by omega) (by omega) (by assumption) | exact absurd rfl (gs_ok c38).1 | exact absurd rfl (gs_ok c38).2.1 | exact absurd rfl (gs_ok c38).2.2) rfl ?_
        exact j_vreturn C d_M_inside_48 rfl (by decide) (by decide) ⟨rfl, rfl, by first | (simp [minside, mkn, kn2, nar1, nar0, pk_un, upa_n, c18, c27, c38]; done) | (simp [minside, mkn, kn2, gsI, bz, nar1, nar0, pk_un, upa_n, c18, c27, c38]; done) | exact absurd c38 (by decide) | exact absurd rfl (gs_ok c38).1 | exact absurd rfl (gs_ok c38).2.1 | exact absurd rfl (gs_ok c38).2.2⟩

set_option maxHeartbeats 4000000 in
set_option maxRecDepth 100000 in
theorem c_M_value {l : Launch} (hl : l.stackTraces = false) {D : va_G} {cA : Nat → ClassId} {b n mo : Nat} (r f : Int32) (σ : Nat → Int32) (α : Nat → Nat → Int32) (h : AH) (hmo : mo + 27 < n) (nr : Nat) (hnr : σ 2 = nI nr) (hle : nr ≤ 30) : Cn l D cA b y_M_value k_M_value 2 27 0 0 [.ref mo, .int r, .int f] n (ovM mo σ α h) (Re (some (.int (mvalue σ α r f).1)) n (ovM mo (mvalue σ α r f).2 α h)) := by
  refine Cn.of (cc := b_M_value) (maxL := 4) (ret := (some .int)) (hh := []) (by decide +kernel) hl (Or.inl ⟨rfl, rfl⟩) (Nat.le_of_ble_eq_true rfl) ?_
  intro p e s m args below meth c C
  refine j_aload_n C d_M_value_0 rfl rfl ?_
  refine j_iload_n C d_M_value_1 rfl rfl ?_
  refine j_callV C d_M_value_2 ml_M_121 mc_M_isReport in_M_isReport rfl se_M_isReport (by omega) (ovM_o _ _ _ _) (c_M_isReport hl _ _ _ _ hmo) rfl rfl (Nat.le_of_ble_eq_true rfl) (Nat.le_of_ble_eq_true rfl) (Nat.le_of_ble_eq_true rfl) (Nat.le_of_ble_eq_true rfl) (jk_r ?_)
  refine j_if_eq (tgt := 19) C d_M_value_5 (by decide) (fun c5 => ?_) (fun c5 => ?_)
  · refine j_iconst (v := 0) C d_M_value_19 (by decide) ?_
    refine j_istore_n C d_M_value_20 rfl (by decide) rfl ?_
    refine j_aload_n C d_M_value_21 rfl rfl ?_
    refine j_iload_n C d_M_value_22 rfl rfl ?_
    refine j_iload_n C d_M_value_23 rfl rfl ?_
    refine j_if_eq (tgt := 45) C d_M_value_24 (by decide) (fun c24 => ?_) (fun c24 => ?_)
    · refine j_iconst (v := 0) C d_M_value_45 (by decide) ?_
      refine j_iconst (v := 1) C d_M_value_46 (by decide) ?_
      refine j_callV C d_M_value_47 ml_M_109 mc_M_goes in_M_goes rfl se_M_goes (by omega) (ovM_o _ _ _ _) (c_M_goes hl _ _ _ _ _ _ hmo) rfl rfl (Nat.le_of_ble_eq_true rfl) (Nat.le_of_ble_eq_true rfl) (Nat.le_of_ble_eq_true rfl) (Nat.le_of_ble_eq_true rfl) (jk_r ?_)
      refine j_if_ne (tgt := 55) C d_M_value_50 (by decide) (fun c50 => ?_) (fun c50 => ?_)
      · refine j_aload_n C d_M_value_55 rfl rfl ?_
        refine jm_get C fl_6_41 d_M_value_56 hmo rfl ?_
        refine j_bipush (v := 20) C d_M_value_59 (by decide) ?_
        refine j_iload_n C d_M_value_61 rfl rfl ?_
        refine j_imul C d_M_value_62 ?_
        refine j_iload_n C d_M_value_63 rfl rfl ?_
        refine j_iadd C d_M_value_64 ?_
        refine jm_iald C 10 d_M_value_65 (by decide) rfl hmo (by first | exact ix_rf hnr hle (by assumption) (by assumption) | exact ix_rk hnr hle (by assumption) (by assumption) | exact ix_r hnr hle (by omega) (by omega) (by assumption) | exact absurd rfl (gs_ok c50).1 | exact absurd rfl (gs_ok c50).2.1 | exact absurd rfl (gs_ok c50).2.2) rfl ?_
        exact j_ireturn C d_M_value_66 rfl (by decide) (by decide) ⟨by first | (simp [mvalue, mkn, kn2, nar1, nar0, pk_un, upa_n, c5, c24, c50]; done) | (simp [mvalue, mkn, kn2, gsI, bz, nar1, nar0, pk_un, upa_n, c5, c24, c50]; done) | exact absurd c50 (by decide) | exact absurd rfl (gs_ok c50).1 | exact absurd rfl (gs_ok c50).2.1 | exact absurd rfl (gs_ok c50).2.2, rfl, by first | (simp [mvalue, mkn, kn2, nar1, nar0, pk_un, upa_n, c5, c24, c50]; done) | (simp [mvalue, mkn, kn2, gsI, bz, nar1, nar0, pk_un, upa_n, c5, c24, c50]; done) | exact absurd c50 (by decide) | exact absurd rfl (gs_ok c50).1 | exact absurd rfl (gs_ok c50).2.1 | exact absurd rfl (gs_ok c50).2.2⟩
      · refine j_iconst (v := 0) C d_M_value_53 (by decide) ?_
        exact j_ireturn C d_M_value_54 rfl (by decide) (by decide) ⟨by first | (simp [mvalue, mkn, kn2, nar1, nar0, pk_un, upa_n, c5, c24, c50]; done) | (simp [mvalue, mkn, kn2, gsI, bz, nar1, nar0, pk_un, upa_n, c5, c24, c50]; done) | exact absurd c50 (by decide) | exact absurd rfl (gs_ok c50).1 | exact absurd rfl (gs_ok c50).2.1 | exact absurd rfl (gs_ok c50).2.2, rfl, by first | (simp [mvalue, mkn, kn2, nar1, nar0, pk_un, upa_n, c5, c24, c50]; done) | (simp [mvalue, mkn, kn2, gsI, bz, nar1, nar0, pk_un, upa_n, c5, c24, c50]; done) | exact absurd c50 (by decide) | exact absurd rfl (gs_ok c50).1 | exact absurd rfl (gs_ok c50).2.1 | exact absurd rfl (gs_ok c50).2.2⟩
    · refine j_aload_n C d_M_value_27 rfl rfl ?_
      refine jm_get C fl_6_31 d_M_value_28 hmo rfl ?_
      refine j_bipush (v := 20) C d_M_value_31 (by decide) ?_
      refine j_iload_n C d_M_value_33 rfl rfl ?_
      refine j_imul C d_M_value_34 ?_
      refine j_iload_n C d_M_value_35 rfl rfl ?_
      refine j_iadd C d_M_value_36 ?_
      refine jm_zald C 7 d_M_value_37 (by decide) rfl hmo (by first | exact ix_rf hnr hle (by assumption) (by assumption) | exact absurd rfl c24) rfl ?_
      refine j_if_eq (tgt := 45) C d_M_value_38 (by decide) (fun c38 => ?_) (fun c38 => ?_)
      · refine j_iconst (v := 0) C d_M_value_45 (by decide) ?_
        refine j_iconst (v := 1) C d_M_value_46 (by decide) ?_
        refine j_callV C d_M_value_47 ml_M_109 mc_M_goes in_M_goes rfl se_M_goes (by omega) (ovM_o _ _ _ _) (c_M_goes hl _ _ _ _ _ _ hmo) rfl rfl (Nat.le_of_ble_eq_true rfl) (Nat.le_of_ble_eq_true rfl) (Nat.le_of_ble_eq_true rfl) (Nat.le_of_ble_eq_true rfl) (jk_r ?_)
        refine j_if_ne (tgt := 55) C d_M_value_50 (by decide) (fun c50 => ?_) (fun c50 => ?_)
        · refine j_aload_n C d_M_value_55 rfl rfl ?_
          refine jm_get C fl_6_41 d_M_value_56 hmo rfl ?_
          refine j_bipush (v := 20) C d_M_value_59 (by decide) ?_
          refine j_iload_n C d_M_value_61 rfl rfl ?_
          refine j_imul C d_M_value_62 ?_
          refine j_iload_n C d_M_value_63 rfl rfl ?_
          refine j_iadd C d_M_value_64 ?_
          refine jm_iald C 10 d_M_value_65 (by decide) rfl hmo (by first | exact ix_rf hnr hle (by assumption) (by assumption) | exact ix_rk hnr hle (by assumption) (by assumption) | exact ix_r hnr hle (by omega) (by omega) (by assumption) | exact absurd rfl (gs_ok c50).1 | exact absurd rfl (gs_ok c50).2.1 | exact absurd rfl (gs_ok c50).2.2) rfl ?_
          exact j_ireturn C d_M_value_66 rfl (by decide) (by decide) ⟨by first | (simp [mvalue, mkn, kn2, nar1, nar0, pk_un, upa_n, c5, c24, c38, c50]; done) | (simp [mvalue, mkn, kn2, gsI, bz, nar1, nar0, pk_un, upa_n, c5, c24, c38, c50]; done) | exact absurd c50 (by decide) | exact absurd rfl (gs_ok c50).1 | exact absurd rfl (gs_ok c50).2.1 | exact absurd rfl (gs_ok c50).2.2, rfl, by first | (simp [mvalue, mkn, kn2, nar1, nar0, pk_un, upa_n, c5, c24, c38, c50]; done) | (simp [mvalue, mkn, kn2, gsI, bz, nar1, nar0, pk_un, upa_n, c5, c24, c38, c50]; done) | exact absurd c50 (by decide) | exact absurd rfl (gs_ok c50).1 | exact absurd rfl (gs_ok c50).2.1 | exact absurd rfl (gs_ok c50).2.2⟩
        · refine j_iconst (v := 0) C d_M_value_53 (by decide) ?_
          exact j_ireturn C d_M_value_54 rfl (by decide) (by decide) ⟨by first | (simp [mvalue, mkn, kn2, nar1, nar0, pk_un, upa_n, c5, c24, c38, c50]; done) | (simp [mvalue, mkn, kn2, gsI, bz, nar1, nar0, pk_un, upa_n, c5, c24, c38, c50]; done) | exact absurd c50 (by decide) | exact absurd rfl (gs_ok c50).1 | exact absurd rfl (gs_ok c50).2.1 | exact absurd rfl (gs_ok c50).2.2, rfl, by first | (simp [mvalue, mkn, kn2, nar1, nar0, pk_un, upa_n, c5, c24, c38, c50]; done) | (simp [mvalue, mkn, kn2, gsI, bz, nar1, nar0, pk_un, upa_n, c5, c24, c38, c50]; done) | exact absurd c50 (by decide) | exact absurd rfl (gs_ok c50).1 | exact absurd rfl (gs_ok c50).2.1 | exact absurd rfl (gs_ok c50).2.2⟩
      · refine j_iconst (v := 1) C d_M_value_41 (by decide) ?_
        refine j_goto (tgt := 46) C d_M_value_42 (by decide) ?_
        refine j_iconst (v := 1) C d_M_value_46 (by decide) ?_
        refine j_callV C d_M_value_47 ml_M_109 mc_M_goes in_M_goes rfl se_M_goes (by omega) (ovM_o _ _ _ _) (c_M_goes hl _ _ _ _ _ _ hmo) rfl rfl (Nat.le_of_ble_eq_true rfl) (Nat.le_of_ble_eq_true rfl) (Nat.le_of_ble_eq_true rfl) (Nat.le_of_ble_eq_true rfl) (jk_r ?_)
        refine j_if_ne (tgt := 55) C d_M_value_50 (by decide) (fun c50 => ?_) (fun c50 => ?_)
        · refine j_aload_n C d_M_value_55 rfl rfl ?_
          refine jm_get C fl_6_41 d_M_value_56 hmo rfl ?_
          refine j_bipush (v := 20) C d_M_value_59 (by decide) ?_
          refine j_iload_n C d_M_value_61 rfl rfl ?_
          refine j_imul C d_M_value_62 ?_
          refine j_iload_n C d_M_value_63 rfl rfl ?_
          refine j_iadd C d_M_value_64 ?_
          refine jm_iald C 10 d_M_value_65 (by decide) rfl hmo (by first | exact ix_rf hnr hle (by assumption) (by assumption) | exact ix_rk hnr hle (by assumption) (by assumption) | exact ix_r hnr hle (by omega) (by omega) (by assumption) | exact absurd rfl (gs_ok c50).1 | exact absurd rfl (gs_ok c50).2.1 | exact absurd rfl (gs_ok c50).2.2) rfl ?_
          exact j_ireturn C d_M_value_66 rfl (by decide) (by decide) ⟨by first | (simp [mvalue, mkn, kn2, nar1, nar0, pk_un, upa_n, c5, c24, c38, c50]; done) | (simp [mvalue, mkn, kn2, gsI, bz, nar1, nar0, pk_un, upa_n, c5, c24, c38, c50]; done) | exact absurd c50 (by decide) | exact absurd rfl (gs_ok c50).1 | exact absurd rfl (gs_ok c50).2.1 | exact absurd rfl (gs_ok c50).2.2, rfl, by first | (simp [mvalue, mkn, kn2, nar1, nar0, pk_un, upa_n, c5, c24, c38, c50]; done) | (simp [mvalue, mkn, kn2, gsI, bz, nar1, nar0, pk_un, upa_n, c5, c24, c38, c50]; done) | exact absurd c50 (by decide) | exact absurd rfl (gs_ok c50).1 | exact absurd rfl (gs_ok c50).2.1 | exact absurd rfl (gs_ok c50).2.2⟩
        · refine j_iconst (v := 0) C d_M_value_53 (by decide) ?_
          exact j_ireturn C d_M_value_54 rfl (by decide) (by decide) ⟨by first | (simp [mvalue, mkn, kn2, nar1, nar0, pk_un, upa_n, c5, c24, c38, c50]; done) | (simp [mvalue, mkn, kn2, gsI, bz, nar1, nar0, pk_un, upa_n, c5, c24, c38, c50]; done) | exact absurd c50 (by decide) | exact absurd rfl (gs_ok c50).1 | exact absurd rfl (gs_ok c50).2.1 | exact absurd rfl (gs_ok c50).2.2, rfl, by first | (simp [mvalue, mkn, kn2, nar1, nar0, pk_un, upa_n, c5, c24, c38, c50]; done) | (simp [mvalue, mkn, kn2, gsI, bz, nar1, nar0, pk_un, upa_n, c5, c24, c38, c50]; done) | exact absurd c50 (by decide) | exact absurd rfl (gs_ok c50).1 | exact absurd rfl (gs_ok c50).2.1 | exact absurd rfl (gs_ok c50).2.2⟩
  · refine j_iload_n C d_M_value_8 rfl rfl ?_
    refine j_callS C d_M_value_9 ml_M_117 mc_M_isField st_M_isField (c_M_isField hl _ _) rfl rfl (Nat.le_of_ble_eq_true rfl) (Nat.le_of_ble_eq_true rfl) (Nat.le_of_ble_eq_true rfl) (Nat.le_of_ble_eq_true rfl) (jk_r ?_)
    refine j_if_eq (tgt := 19) C d_M_value_12 (by decide) (fun c12 => ?_) (fun c12 => ?_)
    · refine j_iconst (v := 0) C d_M_value_19 (by decide) ?_
      refine j_istore_n C d_M_value_20 rfl (by decide) rfl ?_
      refine j_aload_n C d_M_value_21 rfl rfl ?_
      refine j_iload_n C d_M_value_22 rfl rfl ?_
      refine j_iload_n C d_M_value_23 rfl rfl ?_
      refine j_if_eq (tgt := 45) C d_M_value_24 (by decide) (fun c24 => ?_) (fun c24 => ?_)
      · refine j_iconst (v := 0) C d_M_value_45 (by decide) ?_
        refine j_iconst (v := 1) C d_M_value_46 (by decide) ?_
        refine j_callV C d_M_value_47 ml_M_109 mc_M_goes in_M_goes rfl se_M_goes (by omega) (ovM_o _ _ _ _) (c_M_goes hl _ _ _ _ _ _ hmo) rfl rfl (Nat.le_of_ble_eq_true rfl) (Nat.le_of_ble_eq_true rfl) (Nat.le_of_ble_eq_true rfl) (Nat.le_of_ble_eq_true rfl) (jk_r ?_)
        refine j_if_ne (tgt := 55) C d_M_value_50 (by decide) (fun c50 => ?_) (fun c50 => ?_)
        · refine j_aload_n C d_M_value_55 rfl rfl ?_
          refine jm_get C fl_6_41 d_M_value_56 hmo rfl ?_
          refine j_bipush (v := 20) C d_M_value_59 (by decide) ?_
          refine j_iload_n C d_M_value_61 rfl rfl ?_
          refine j_imul C d_M_value_62 ?_
          refine j_iload_n C d_M_value_63 rfl rfl ?_
          refine j_iadd C d_M_value_64 ?_
          refine jm_iald C 10 d_M_value_65 (by decide) rfl hmo (by first | exact ix_rf hnr hle (by assumption) (by assumption) | exact ix_rk hnr hle (by assumption) (by assumption) | exact ix_r hnr hle (by omega) (by omega) (by assumption) | exact absurd rfl (gs_ok c50).1 | exact absurd rfl (gs_ok c50).2.1 | exact absurd rfl (gs_ok c50).2.2) rfl ?_
          exact j_ireturn C d_M_value_66 rfl (by decide) (by decide) ⟨by first | (simp [mvalue, mkn, kn2, nar1, nar0, pk_un, upa_n, c5, c12, c24, c50]; done) | (simp [mvalue, mkn, kn2, gsI, bz, nar1, nar0, pk_un, upa_n, c5, c12, c24, c50]; done) | exact absurd c50 (by decide) | exact absurd rfl (gs_ok c50).1 | exact absurd rfl (gs_ok c50).2.1 | exact absurd rfl (gs_ok c50).2.2, rfl, by first | (simp [mvalue, mkn, kn2, nar1, nar0, pk_un, upa_n, c5, c12, c24, c50]; done) | (simp [mvalue, mkn, kn2, gsI, bz, nar1, nar0, pk_un, upa_n, c5, c12, c24, c50]; done) | exact absurd c50 (by decide) | exact absurd rfl (gs_ok c50).1 | exact absurd rfl (gs_ok c50).2.1 | exact absurd rfl (gs_ok c50).2.2⟩
        · refine j_iconst (v := 0) C d_M_value_53 (by decide) ?_
          exact j_ireturn C d_M_value_54 rfl (by decide) (by decide) ⟨by first | (simp [mvalue, mkn, kn2, nar1, nar0, pk_un, upa_n, c5, c12, c24, c50]; done) | (simp [mvalue, mkn, kn2, gsI, bz, nar1, nar0, pk_un, upa_n, c5, c12, c24, c50]; done) | exact absurd c50 (by decide) | exact absurd rfl (gs_ok c50).1 | exact absurd rfl (gs_ok c50).2.1 | exact absurd rfl (gs_ok c50).2.2, rfl, by first | (simp [mvalue, mkn, kn2, nar1, nar0, pk_un, upa_n, c5, c12, c24, c50]; done) | (simp [mvalue, mkn, kn2, gsI, bz, nar1, nar0, pk_un, upa_n, c5, c12, c24, c50]; done) | exact absurd c50 (by decide) | exact absurd rfl (gs_ok c50).1 | exact absurd rfl (gs_ok c50).2.1 | exact absurd rfl (gs_ok c50).2.2⟩
      · refine j_aload_n C d_M_value_27 rfl rfl ?_
        refine jm_get C fl_6_31 d_M_value_28 hmo rfl ?_
        refine j_bipush (v := 20) C d_M_value_31 (by decide) ?_
        refine j_iload_n C d_M_value_33 rfl rfl ?_
        refine j_imul C d_M_value_34 ?_
        refine j_iload_n C d_M_value_35 rfl rfl ?_
        refine j_iadd C d_M_value_36 ?_
        refine jm_zald C 7 d_M_value_37 (by decide) rfl hmo (by first | exact ix_rf hnr hle (by assumption) (by assumption) | exact absurd rfl c24) rfl ?_
        refine j_if_eq (tgt := 45) C d_M_value_38 (by decide) (fun c38 => ?_) (fun c38 => ?_)
        · refine j_iconst (v := 0) C d_M_value_45 (by decide) ?_
          refine j_iconst (v := 1) C d_M_value_46 (by decide) ?_
          refine j_callV C d_M_value_47 ml_M_109 mc_M_goes in_M_goes rfl se_M_goes (by omega) (ovM_o _ _ _ _) (c_M_goes hl _ _ _ _ _ _ hmo) rfl rfl (Nat.le_of_ble_eq_true rfl) (Nat.le_of_ble_eq_true rfl) (Nat.le_of_ble_eq_true rfl) (Nat.le_of_ble_eq_true rfl) (jk_r ?_)
          refine j_if_ne (tgt := 55) C d_M_value_50 (by decide) (fun c50 => ?_) (fun c50 => ?_)
          · refine j_aload_n C d_M_value_55 rfl rfl ?_
            refine jm_get C fl_6_41 d_M_value_56 hmo rfl ?_
            refine j_bipush (v := 20) C d_M_value_59 (by decide) ?_
            refine j_iload_n C d_M_value_61 rfl rfl ?_
            refine j_imul C d_M_value_62 ?_
            refine j_iload_n C d_M_value_63 rfl rfl ?_
            refine j_iadd C d_M_value_64 ?_
            refine jm_iald C 10 d_M_value_65 (by decide) rfl hmo (by first | exact ix_rf hnr hle (by assumption) (by assumption) | exact ix_rk hnr hle (by assumption) (by assumption) | exact ix_r hnr hle (by omega) (by omega) (by assumption) | exact absurd rfl (gs_ok c50).1 | exact absurd rfl (gs_ok c50).2.1 | exact absurd rfl (gs_ok c50).2.2) rfl ?_
            exact j_ireturn C d_M_value_66 rfl (by decide) (by decide) ⟨by first | (simp [mvalue, mkn, kn2, nar1, nar0, pk_un, upa_n, c5, c12, c24, c38, c50]; done) | (simp [mvalue, mkn, kn2, gsI, bz, nar1, nar0, pk_un, upa_n, c5, c12, c24, c38, c50]; done) | exact absurd c50 (by decide) | exact absurd rfl (gs_ok c50).1 | exact absurd rfl (gs_ok c50).2.1 | exact absurd rfl (gs_ok c50).2.2, rfl, by first | (simp [mvalue, mkn, kn2, nar1, nar0, pk_un, upa_n, c5, c12, c24, c38, c50]; done) | (simp [mvalue, mkn, kn2, gsI, bz, nar1, nar0, pk_un, upa_n, c5, c12, c24, c38, c50]; done) | exact absurd c50 (by decide) | exact absurd rfl (gs_ok c50).1 | exact absurd rfl (gs_ok c50).2.1 | exact absurd rfl (gs_ok c50).2.2⟩
          · refine j_iconst (v := 0) C d_M_value_53 (by decide) ?_
            exact j_ireturn C d_M_value_54 rfl (by decide) (by decide) ⟨by first | (simp [mvalue, mkn, kn2, nar1, nar0, pk_un, upa_n, c5, c12, c24, c38, c50]; done) | (simp [mvalue, mkn, kn2, gsI, bz, nar1, nar0, pk_un, upa_n, c5, c12, c24, c38, c50]; done) | exact absurd c50 (by decide) | exact absurd rfl (gs_ok c50).1 | exact absurd rfl (gs_ok c50).2.1 | exact absurd rfl (gs_ok c50).2.2, rfl, by first | (simp [mvalue, mkn, kn2, nar1, nar0, pk_un, upa_n, c5, c12, c24, c38, c50]; done) | (simp [mvalue, mkn, kn2, gsI, bz, nar1, nar0, pk_un, upa_n, c5, c12, c24, c38, c50]; done) | exact absurd c50 (by decide) | exact absurd rfl (gs_ok c50).1 | exact absurd rfl (gs_ok c50).2.1 | exact absurd rfl (gs_ok c50).2.2⟩
        · refine j_iconst (v := 1) C d_M_value_41 (by decide) ?_
          refine j_goto (tgt := 46) C d_M_value_42 (by decide) ?_
          refine j_iconst (v := 1) C d_M_value_46 (by decide) ?_
          refine j_callV C d_M_value_47 ml_M_109 mc_M_goes in_M_goes rfl se_M_goes (by omega) (ovM_o _ _ _ _) (c_M_goes hl _ _ _ _ _ _ hmo) rfl rfl (Nat.le_of_ble_eq_true rfl) (Nat.le_of_ble_eq_true rfl) (Nat.le_of_ble_eq_true rfl) (Nat.le_of_ble_eq_true rfl) (jk_r ?_)
          refine j_if_ne (tgt := 55) C d_M_value_50 (by decide) (fun c50 => ?_) (fun c50 => ?_)
          · refine j_aload_n C d_M_value_55 rfl rfl ?_
            refine jm_get C fl_6_41 d_M_value_56 hmo rfl ?_
            refine j_bipush (v := 20) C d_M_value_59 (by decide) ?_
            refine j_iload_n C d_M_value_61 rfl rfl ?_
            refine j_imul C d_M_value_62 ?_
            refine j_iload_n C d_M_value_63 rfl rfl ?_
            refine j_iadd C d_M_value_64 ?_
            refine jm_iald C 10 d_M_value_65 (by decide) rfl hmo (by first | exact ix_rf hnr hle (by assumption) (by assumption) | exact ix_rk hnr hle (by assumption) (by assumption) | exact ix_r hnr hle (by omega) (by omega) (by assumption) | exact absurd rfl (gs_ok c50).1 | exact absurd rfl (gs_ok c50).2.1 | exact absurd rfl (gs_ok c50).2.2) rfl ?_
            exact j_ireturn C d_M_value_66 rfl (by decide) (by decide) ⟨by first | (simp [mvalue, mkn, kn2, nar1, nar0, pk_un, upa_n, c5, c12, c24, c38, c50]; done) | (simp [mvalue, mkn, kn2, gsI, bz, nar1, nar0, pk_un, upa_n, c5, c12, c24, c38, c50]; done) | exact absurd c50 (by decide) | exact absurd rfl (gs_ok c50).1 | exact absurd rfl (gs_ok c50).2.1 | exact absurd rfl (gs_ok c50).2.2, rfl, by first | (simp [mvalue, mkn, kn2, nar1, nar0, pk_un, upa_n, c5, c12, c24, c38, c50]; done) | (simp [mvalue, mkn, kn2, gsI, bz, nar1, nar0, pk_un, upa_n, c5, c12, c24, c38, c50]; done) | exact absurd c50 (by decide) | exact absurd rfl (gs_ok c50).1 | exact absurd rfl (gs_ok c50).2.1 | exact absurd rfl (gs_ok c50).2.2⟩
          · refine j_iconst (v := 0) C d_M_value_53 (by decide) ?_
            exact j_ireturn C d_M_value_54 rfl (by decide) (by decide) ⟨by first | (simp [mvalue, mkn, kn2, nar1, nar0, pk_un, upa_n, c5, c12, c24, c38, c50]; done) | (simp [mvalue, mkn, kn2, gsI, bz, nar1, nar0, pk_un, upa_n, c5, c12, c24, c38, c50]; done) | exact absurd c50 (by decide) | exact absurd rfl (gs_ok c50).1 | exact absurd rfl (gs_ok c50).2.1 | exact absurd rfl (gs_ok c50).2.2, rfl, by first | (simp [mvalue, mkn, kn2, nar1, nar0, pk_un, upa_n, c5, c12, c24, c38, c50]; done) | (simp [mvalue, mkn, kn2, gsI, bz, nar1, nar0, pk_un, upa_n, c5, c12, c24, c38, c50]; done) | exact absurd c50 (by decide) | exact absurd rfl (gs_ok c50).1 | exact absurd rfl (gs_ok c50).2.1 | exact absurd rfl (gs_ok c50).2.2⟩
    · refine j_iconst (v := 1) C d_M_value_15 (by decide) ?_
      refine j_goto (tgt := 20) C d_M_value_16 (by decide) ?_
      refine j_istore_n C d_M_value_20 rfl (by decide) rfl ?_
      refine j_aload_n C d_M_value_21 rfl rfl ?_
      refine j_iload_n C d_M_value_22 rfl rfl ?_
      refine j_iload_n C d_M_value_23 rfl rfl ?_
      refine j_if_eq (tgt := 45) C d_M_value_24 (by decide) (fun c24 => ?_) (fun c24 => ?_)
      · refine j_iconst (v := 0) C d_M_value_45 (by decide) ?_
        refine j_iconst (v := 1) C d_M_value_46 (by decide) ?_
        refine j_callV C d_M_value_47 ml_M_109 mc_M_goes in_M_goes rfl se_M_goes (by omega) (ovM_o _ _ _ _) (c_M_goes hl _ _ _ _ _ _ hmo) rfl rfl (Nat.le_of_ble_eq_true rfl) (Nat.le_of_ble_eq_true rfl) (Nat.le_of_ble_eq_true rfl) (Nat.le_of_ble_eq_true rfl) (jk_r ?_)
        refine j_if_ne (tgt := 55) C d_M_value_50 (by decide) (fun c50 => ?_) (fun c50 => ?_)
        · refine j_aload_n C d_M_value_55 rfl rfl ?_
          refine jm_get C fl_6_41 d_M_value_56 hmo rfl ?_
          refine j_bipush (v := 20) C d_M_value_59 (by decide) ?_
          refine j_iload_n C d_M_value_61 rfl rfl ?_
          refine j_imul C d_M_value_62 ?_
          refine j_iload_n C d_M_value_63 rfl rfl ?_
          refine j_iadd C d_M_value_64 ?_
          refine jm_iald C 10 d_M_value_65 (by decide) rfl hmo (by first | exact ix_rf hnr hle (by assumption) (by assumption) | exact ix_rk hnr hle (by assumption) (by assumption) | exact ix_r hnr hle (by omega) (by omega) (by assumption) | exact absurd rfl (gs_ok c50).1 | exact absurd rfl (gs_ok c50).2.1 | exact absurd rfl (gs_ok c50).2.2) rfl ?_
          exact j_ireturn C d_M_value_66 rfl (by decide) (by decide) ⟨by first | (simp [mvalue, mkn, kn2, nar1, nar0, pk_un, upa_n, c5, c12, c24, c50]; done) | (simp [mvalue, mkn, kn2, gsI, bz, nar1, nar0, pk_un, upa_n, c5, c12, c24, c50]; done) | exact absurd c50 (by decide) | exact absurd rfl (gs_ok c50).1 | exact absurd rfl (gs_ok c50).2.1 | exact absurd rfl (gs_ok c50).2.2, rfl, by first | (simp [mvalue, mkn, kn2, nar1, nar0, pk_un, upa_n, c5, c12, c24, c50]; done) | (simp [mvalue, mkn, kn2, gsI, bz, nar1, nar0, pk_un, upa_n, c5, c12, c24, c50]; done) | exact absurd c50 (by decide) | exact absurd rfl (gs_ok c50).1 | exact absurd rfl (gs_ok c50).2.1 | exact absurd rfl (gs_ok c50).2.2⟩
        · refine j_iconst (v := 0) C d_M_value_53 (by decide) ?_
          exact j_ireturn C d_M_value_54 rfl (by decide) (by decide) ⟨by first | (simp [mvalue, mkn, kn2, nar1, nar0, pk_un, upa_n, c5, c12, c24, c50]; done) | (simp [mvalue, mkn, kn2, gsI, bz, nar1, nar0, pk_un, upa_n, c5, c12, c24, c50]; done) | exact absurd c50 (by decide) | exact absurd rfl (gs_ok c50).1 | exact absurd rfl (gs_ok c50).2.1 | exact absurd rfl (gs_ok c50).2.2, rfl, by first | (simp [mvalue, mkn, kn2, nar1, nar0, pk_un, upa_n, c5, c12, c24, c50]; done) | (simp [mvalue, mkn, kn2, gsI, bz, nar1, nar0, pk_un, upa_n, c5, c12, c24, c50]; done) | exact absurd c50 (by decide) | exact absurd rfl (gs_ok c50).1 | exact absurd rfl (gs_ok c50).2.1 | exact absurd rfl (gs_ok c50).2.2⟩
      · refine j_aload_n C d_M_value_27 rfl rfl ?_
        refine jm_get C fl_6_31 d_M_value_28 hmo rfl ?_
        refine j_bipush (v := 20) C d_M_value_31 (by decide) ?_
        refine j_iload_n C d_M_value_33 rfl rfl ?_
        refine j_imul C d_M_value_34 ?_
        refine j_iload_n C d_M_value_35 rfl rfl ?_
        refine j_iadd C d_M_value_36 ?_
        refine jm_zald C 7 d_M_value_37 (by decide) rfl hmo (by first | exact ix_rf hnr hle (by assumption) (by assumption) | exact absurd rfl c24) rfl ?_
        refine j_if_eq (tgt := 45) C d_M_value_38 (by decide) (fun c38 => ?_) (fun c38 => ?_)
        · refine j_iconst (v := 0) C d_M_value_45 (by decide) ?_
          refine j_iconst (v := 1) C d_M_value_46 (by decide) ?_
          refine j_callV C d_M_value_47 ml_M_109 mc_M_goes in_M_goes rfl se_M_goes (by omega) (ovM_o _ _ _ _) (c_M_goes hl _ _ _ _ _ _ hmo) rfl rfl (Nat.le_of_ble_eq_true rfl) (Nat.le_of_ble_eq_true rfl) (Nat.le_of_ble_eq_true rfl) (Nat.le_of_ble_eq_true rfl) (jk_r ?_)
          refine j_if_ne (tgt := 55) C d_M_value_50 (by decide) (fun c50 => ?_) (fun c50 => ?_)
          · refine j_aload_n C d_M_value_55 rfl rfl ?_
            refine jm_get C fl_6_41 d_M_value_56 hmo rfl ?_
            refine j_bipush (v := 20) C d_M_value_59 (by decide) ?_
            refine j_iload_n C d_M_value_61 rfl rfl ?_
            refine j_imul C d_M_value_62 ?_
            refine j_iload_n C d_M_value_63 rfl rfl ?_
            refine j_iadd C d_M_value_64 ?_
            refine jm_iald C 10 d_M_value_65 (by decide) rfl hmo (by first | exact ix_rf hnr hle (by assumption) (by assumption) | exact ix_rk hnr hle (by assumption) (by assumption) | exact ix_r hnr hle (by omega) (by omega) (by assumption) | exact absurd rfl (gs_ok c50).1 | exact absurd rfl (gs_ok c50).2.1 | exact absurd rfl (gs_ok c50).2.2) rfl ?_
            exact j_ireturn C d_M_value_66 rfl (by decide) (by decide) ⟨by first | (simp [mvalue, mkn, kn2, nar1, nar0, pk_un, upa_n, c5, c12, c24, c38, c50]; done) | (simp [mvalue, mkn, kn2, gsI, bz, nar1, nar0, pk_un, upa_n, c5, c12, c24, c38, c50]; done) | exact absurd c50 (by decide) | exact absurd rfl (gs_ok c50).1 | exact absurd rfl (gs_ok c50).2.1 | exact absurd rfl (gs_ok c50).2.2, rfl, by first | (simp [mvalue, mkn, kn2, nar1, nar0, pk_un, upa_n, c5, c12, c24, c38, c50]; done) | (simp [mvalue, mkn, kn2, gsI, bz, nar1, nar0, pk_un, upa_n, c5, c12, c24, c38, c50]; done) | exact absurd c50 (by decide) | exact absurd rfl (gs_ok c50).1 | exact absurd rfl (gs_ok c50).2.1 | exact absurd rfl (gs_ok c50).2.2⟩
          · refine j_iconst (v := 0) C d_M_value_53 (by decide) ?_
            exact j_ireturn C d_M_value_54 rfl (by decide) (by decide) ⟨by first | (simp [mvalue, mkn, kn2, nar1, nar0, pk_un, upa_n, c5, c12, c24, c38, c50]; done) | (simp [mvalue, mkn, kn2, gsI, bz, nar1, nar0, pk_un, upa_n, c5, c12, c24, c38, c50]; done) | exact absurd c50 (by decide) | exact absurd rfl (gs_ok c50).1 | exact absurd rfl (gs_ok c50).2.1 | exact absurd rfl (gs_ok c50).2.2, rfl, by first | (simp [mvalue, mkn, kn2, nar1, nar0, pk_un, upa_n, c5, c12, c24, c38, c50]; done) | (simp [mvalue, mkn, kn2, gsI, bz, nar1, nar0, pk_un, upa_n, c5, c12, c24, c38, c50]; done) | exact absurd c50 (by decide) | exact absurd rfl (gs_ok c50).1 | exact absurd rfl (gs_ok c50).2.1 | exact absurd rfl (gs_ok c50).2.2⟩
        · refine j_iconst (v := 1) C d_M_value_41 (by decide) ?_
          refine j_goto (tgt := 46) C d_M_value_42 (by decide) ?_
          refine j_iconst (v := 1) C d_M_value_46 (by decide) ?_
          refine j_callV C d_M_value_47 ml_M_109 mc_M_goes in_M_goes rfl se_M_goes (by omega) (ovM_o _ _ _ _) (c_M_goes hl _ _ _ _ _ _ hmo) rfl rfl (Nat.le_of_ble_eq_true rfl) (Nat.le_of_ble_eq_true rfl) (Nat.le_of_ble_eq_true rfl) (Nat.le_of_ble_eq_true rfl) (jk_r ?_)
          refine j_if_ne (tgt := 55) C d_M_value_50 (by decide) (fun c50 => ?_) (fun c50 => ?_)
          · refine j_aload_n C d_M_value_55 rfl rfl ?_
            refine jm_get C fl_6_41 d_M_value_56 hmo rfl ?_
            refine j_bipush (v := 20) C d_M_value_59 (by decide) ?_
            refine j_iload_n C d_M_value_61 rfl rfl ?_
            refine j_imul C d_M_value_62 ?_
            refine j_iload_n C d_M_value_63 rfl rfl ?_
            refine j_iadd C d_M_value_64 ?_
            refine jm_iald C 10 d_M_value_65 (by decide) rfl hmo (by first | exact ix_rf hnr hle (by assumption) (by assumption) | exact ix_rk hnr hle (by assumption) (by assumption) | exact ix_r hnr hle (by omega) (by omega) (by assumption) | exact absurd rfl (gs_ok c50).1 | exact absurd rfl (gs_ok c50).2.1 | exact absurd rfl (gs_ok c50).2.2) rfl ?_
            exact j_ireturn C d_M_value_66 rfl (by decide) (by decide) ⟨by first | (simp [mvalue, mkn, kn2, nar1, nar0, pk_un, upa_n, c5, c12, c24, c38, c50]; done) | (simp [mvalue, mkn, kn2, gsI, bz, nar1, nar0, pk_un, upa_n, c5, c12, c24, c38, c50]; done) | exact absurd c50 (by decide) | exact absurd rfl (gs_ok c50).1 | exact absurd rfl (gs_ok c50).2.1 | exact absurd rfl (gs_ok c50).2.2, rfl, by first | (simp [mvalue, mkn, kn2, nar1, nar0, pk_un, upa_n, c5, c12, c24, c38, c50]; done) | (simp [mvalue, mkn, kn2, gsI, bz, nar1, nar0, pk_un, upa_n, c5, c12, c24, c38, c50]; done) | exact absurd c50 (by decide) | exact absurd rfl (gs_ok c50).1 | exact absurd rfl (gs_ok c50).2.1 | exact absurd rfl (gs_ok c50).2.2⟩
          · refine j_iconst (v := 0) C d_M_value_53 (by decide) ?_
            exact j_ireturn C d_M_value_54 rfl (by decide) (by decide) ⟨by first | (simp [mvalue, mkn, kn2, nar1, nar0, pk_un, upa_n, c5, c12, c24, c38, c50]; done) | (simp [mvalue, mkn, kn2, gsI, bz, nar1, nar0, pk_un, upa_n, c5, c12, c24, c38, c50]; done) | exact absurd c50 (by decide) | exact absurd rfl (gs_ok c50).1 | exact absurd rfl (gs_ok c50).2.1 | exact absurd rfl (gs_ok c50).2.2, rfl, by first | (simp [mvalue, mkn, kn2, nar1, nar0, pk_un, upa_n, c5, c12, c24, c38, c50]; done) | (simp [mvalue, mkn, kn2, gsI, bz, nar1, nar0, pk_un, upa_n, c5, c12, c24, c38, c50]; done) | exact absurd c50 (by decide) | exact absurd rfl (gs_ok c50).1 | exact absurd rfl (gs_ok c50).2.1 | exact absurd rfl (gs_ok c50).2.2⟩

set_option maxHeartbeats 4000000 in
set_option maxRecDepth 100000 in
theorem c_M_field {l : Launch} (hl : l.stackTraces = false) {D : va_G} {cA : Nat → ClassId} {b n mo : Nat} (r f v : Int32) (σ : Nat → Int32) (α : Nat → Nat → Int32) (h : AH) (hmo : mo + 27 < n) (nr : Nat) (hnr : σ 2 = nI nr) (hle : nr ≤ 30) : Cn l D cA b y_M_field k_M_field 2 27 0 0 [.ref mo, .int r, .int f, .int v] n (ovM mo σ α h) (Re none n (ovM mo (mfield σ α r f v).1 (mfield σ α r f v).2 h)) := by
  refine Cn.of (cc := b_M_field) (maxL := 5) (ret := none) (hh := []) (by decide +kernel) hl (Or.inl ⟨rfl, rfl⟩) (Nat.le_of_ble_eq_true rfl) ?_
  intro p e s m args below meth c C
  refine j_aload_n C d_M_field_0 rfl rfl ?_
  refine j_iload_n C d_M_field_1 rfl rfl ?_
  refine j_callV C d_M_field_2 ml_M_121 mc_M_isReport in_M_isReport rfl se_M_isReport (by omega) (ovM_o _ _ _ _) (c_M_isReport hl _ _ _ _ hmo) rfl rfl (Nat.le_of_ble_eq_true rfl) (Nat.le_of_ble_eq_true rfl) (Nat.le_of_ble_eq_true rfl) (Nat.le_of_ble_eq_true rfl) (jk_r ?_)
  refine j_if_eq (tgt := 19) C d_M_field_5 (by decide) (fun c5 => ?_) (fun c5 => ?_)
  · refine j_iconst (v := 0) C d_M_field_19 (by decide) ?_
    refine j_istore C d_M_field_20 (by decide) rfl ?_
    refine j_aload_n C d_M_field_22 rfl rfl ?_
    refine j_iload C d_M_field_23 rfl ?_
    refine j_iload_n C d_M_field_25 rfl rfl ?_
    refine j_ldc (v := (-99999)) C d_M_field_26 lc_M_124 ?_
    refine j_ldc (v := 99999) C d_M_field_28 lc_M_125 ?_
    refine j_callS C d_M_field_30 ml_M_102 mc_M_in st_M_in (c_M_in hl _ _ _ _) rfl rfl (Nat.le_of_ble_eq_true rfl) (Nat.le_of_ble_eq_true rfl) (Nat.le_of_ble_eq_true rfl) (Nat.le_of_ble_eq_true rfl) (jk_r ?_)
    refine j_iload C d_M_field_33 rfl ?_
    refine j_if_eq (tgt := 65) C d_M_field_35 (by decide) (fun c35 => ?_) (fun c35 => ?_)
    · refine j_iconst (v := 0) C d_M_field_65 (by decide) ?_
      refine j_callV C d_M_field_66 ml_M_109 mc_M_goes in_M_goes rfl se_M_goes (by omega) (ovM_o _ _ _ _) (c_M_goes hl _ _ _ _ _ _ hmo) rfl rfl (Nat.le_of_ble_eq_true rfl) (Nat.le_of_ble_eq_true rfl) (Nat.le_of_ble_eq_true rfl) (Nat.le_of_ble_eq_true rfl) (jk_r ?_)
      refine j_if_ne (tgt := 73) C d_M_field_69 (by decide) (fun c69 => ?_) (fun c69 => ?_)
      · refine j_aload_n C d_M_field_73 rfl rfl ?_
        refine jm_get C fl_6_31 d_M_field_74 hmo rfl ?_
        refine j_bipush (v := 20) C d_M_field_77 (by decide) ?_
        refine j_iload_n C d_M_field_79 rfl rfl ?_
        refine j_imul C d_M_field_80 ?_
        refine j_iload_n C d_M_field_81 rfl rfl ?_
        refine j_iadd C d_M_field_82 ?_
        refine j_iconst (v := 1) C d_M_field_83 (by decide) ?_
        refine jm_zasti C 7 10 d_M_field_84 (by decide) rfl hmo (by first | exact ix_rf hnr hle (by assumption) (by assumption) | exact ix_rk hnr hle (by assumption) (by assumption) | exact ix_r hnr hle (by omega) (by omega) (by assumption) | exact absurd rfl (gs_ok c69).1 | exact absurd rfl (gs_ok c69).2.1 | exact absurd rfl (gs_ok c69).2.2) rfl ?_
        refine j_aload_n C d_M_field_85 rfl rfl ?_
        refine jm_get C fl_6_35 d_M_field_86 hmo rfl ?_
        refine j_bipush (v := 20) C d_M_field_89 (by decide) ?_
        refine j_iload_n C d_M_field_91 rfl rfl ?_
        refine j_imul C d_M_field_92 ?_
        refine j_iload_n C d_M_field_93 rfl rfl ?_
        refine j_iadd C d_M_field_94 ?_
        refine j_iconst (v := 0) C d_M_field_95 (by decide) ?_
        refine jm_zasti C 8 11 d_M_field_96 (by decide) rfl hmo (by first | exact ix_rf hnr hle (by assumption) (by assumption) | exact ix_rk hnr hle (by assumption) (by assumption) | exact ix_r hnr hle (by omega) (by omega) (by assumption) | exact absurd rfl (gs_ok c69).1 | exact absurd rfl (gs_ok c69).2.1 | exact absurd rfl (gs_ok c69).2.2) rfl ?_
        refine j_aload_n C d_M_field_97 rfl rfl ?_
        refine jm_get C fl_6_38 d_M_field_98 hmo rfl ?_
        refine j_bipush (v := 20) C d_M_field_101 (by decide) ?_
        refine j_iload_n C d_M_field_103 rfl rfl ?_
        refine j_imul C d_M_field_104 ?_
        refine j_iload_n C d_M_field_105 rfl rfl ?_
        refine j_iadd C d_M_field_106 ?_
        refine j_iconst (v := 0) C d_M_field_107 (by decide) ?_
        refine jm_zasti C 9 12 d_M_field_108 (by decide) rfl hmo (by first | exact ix_rf hnr hle (by assumption) (by assumption) | exact ix_rk hnr hle (by assumption) (by assumption) | exact ix_r hnr hle (by omega) (by omega) (by assumption) | exact absurd rfl (gs_ok c69).1 | exact absurd rfl (gs_ok c69).2.1 | exact absurd rfl (gs_ok c69).2.2) rfl ?_
        refine j_aload_n C d_M_field_109 rfl rfl ?_
        refine jm_get C fl_6_41 d_M_field_110 hmo rfl ?_
        refine j_bipush (v := 20) C d_M_field_113 (by decide) ?_
        refine j_iload_n C d_M_field_115 rfl rfl ?_
        refine j_imul C d_M_field_116 ?_
        refine j_iload_n C d_M_field_117 rfl rfl ?_
        refine j_iadd C d_M_field_118 ?_
        refine j_iload_n C d_M_field_119 rfl rfl ?_
        refine jm_iasti C 10 13 d_M_field_120 (by decide) rfl hmo (by first | exact ix_rf hnr hle (by assumption) (by assumption) | exact ix_rk hnr hle (by assumption) (by assumption) | exact ix_r hnr hle (by omega) (by omega) (by assumption) | exact absurd rfl (gs_ok c69).1 | exact absurd rfl (gs_ok c69).2.1 | exact absurd rfl (gs_ok c69).2.2) rfl ?_
        exact j_vreturn C d_M_field_121 rfl (by decide) (by decide) ⟨rfl, rfl, by first | (simp [mfield, mtell, mkn, kn2, nar1, nar0, pk_un, upa_n, c5, c35, c69]; done) | (simp [mfield, mtell, mkn, kn2, gsI, bz, nar1, nar0, pk_un, upa_n, c5, c35, c69]; done) | exact absurd c69 (by decide) | exact absurd rfl (gs_ok c69).1 | exact absurd rfl (gs_ok c69).2.1 | exact absurd rfl (gs_ok c69).2.2⟩
      · exact j_vreturn C d_M_field_72 rfl (by decide) (by decide) ⟨rfl, rfl, by first | (simp [mfield, mtell, mkn, kn2, nar1, nar0, pk_un, upa_n, c5, c35, c69]; done) | (simp [mfield, mtell, mkn, kn2, gsI, bz, nar1, nar0, pk_un, upa_n, c5, c35, c69]; done) | exact absurd c69 (by decide) | exact absurd rfl (gs_ok c69).1 | exact absurd rfl (gs_ok c69).2.1 | exact absurd rfl (gs_ok c69).2.2⟩
    · refine j_aload_n C d_M_field_38 rfl rfl ?_
      refine jm_get C fl_6_25 d_M_field_39 hmo rfl ?_
      refine j_iload_n C d_M_field_42 rfl rfl ?_
      refine jm_iald C 5 d_M_field_43 (by decide) rfl hmo (by first | exact ix_r hnr hle (by omega) (by omega) (by assumption) | exact absurd rfl c35) rfl ?_
      refine j_if_eq (tgt := 61) C d_M_field_44 (by decide) (fun c44 => ?_) (fun c44 => ?_)
      · refine j_iconst (v := 1) C d_M_field_61 (by decide) ?_
        refine j_goto (tgt := 66) C d_M_field_62 (by decide) ?_
        refine j_callV C d_M_field_66 ml_M_109 mc_M_goes in_M_goes rfl se_M_goes (by omega) (ovM_o _ _ _ _) (c_M_goes hl _ _ _ _ _ _ hmo) rfl rfl (Nat.le_of_ble_eq_true rfl) (Nat.le_of_ble_eq_true rfl) (Nat.le_of_ble_eq_true rfl) (Nat.le_of_ble_eq_true rfl) (jk_r ?_)
        refine j_if_ne (tgt := 73) C d_M_field_69 (by decide) (fun c69 => ?_) (fun c69 => ?_)
        · refine j_aload_n C d_M_field_73 rfl rfl ?_
          refine jm_get C fl_6_31 d_M_field_74 hmo rfl ?_
          refine j_bipush (v := 20) C d_M_field_77 (by decide) ?_
          refine j_iload_n C d_M_field_79 rfl rfl ?_
          refine j_imul C d_M_field_80 ?_
          refine j_iload_n C d_M_field_81 rfl rfl ?_
          refine j_iadd C d_M_field_82 ?_
          refine j_iconst (v := 1) C d_M_field_83 (by decide) ?_
          refine jm_zasti C 7 10 d_M_field_84 (by decide) rfl hmo (by first | exact ix_rf hnr hle (by assumption) (by assumption) | exact ix_rk hnr hle (by assumption) (by assumption) | exact ix_r hnr hle (by omega) (by omega) (by assumption) | exact absurd rfl (gs_ok c69).1 | exact absurd rfl (gs_ok c69).2.1 | exact absurd rfl (gs_ok c69).2.2) rfl ?_
          refine j_aload_n C d_M_field_85 rfl rfl ?_
          refine jm_get C fl_6_35 d_M_field_86 hmo rfl ?_
          refine j_bipush (v := 20) C d_M_field_89 (by decide) ?_
          refine j_iload_n C d_M_field_91 rfl rfl ?_
          refine j_imul C d_M_field_92 ?_
          refine j_iload_n C d_M_field_93 rfl rfl ?_
          refine j_iadd C d_M_field_94 ?_
          refine j_iconst (v := 0) C d_M_field_95 (by decide) ?_
          refine jm_zasti C 8 11 d_M_field_96 (by decide) rfl hmo (by first | exact ix_rf hnr hle (by assumption) (by assumption) | exact ix_rk hnr hle (by assumption) (by assumption) | exact ix_r hnr hle (by omega) (by omega) (by assumption) | exact absurd rfl (gs_ok c69).1 | exact absurd rfl (gs_ok c69).2.1 | exact absurd rfl (gs_ok c69).2.2) rfl ?_
          refine j_aload_n C d_M_field_97 rfl rfl ?_
          refine jm_get C fl_6_38 d_M_field_98 hmo rfl ?_
          refine j_bipush (v := 20) C d_M_field_101 (by decide) ?_
          refine j_iload_n C d_M_field_103 rfl rfl ?_
          refine j_imul C d_M_field_104 ?_
          refine j_iload_n C d_M_field_105 rfl rfl ?_
          refine j_iadd C d_M_field_106 ?_
          refine j_iconst (v := 0) C d_M_field_107 (by decide) ?_
          refine jm_zasti C 9 12 d_M_field_108 (by decide) rfl hmo (by first | exact ix_rf hnr hle (by assumption) (by assumption) | exact ix_rk hnr hle (by assumption) (by assumption) | exact ix_r hnr hle (by omega) (by omega) (by assumption) | exact absurd rfl (gs_ok c69).1 | exact absurd rfl (gs_ok c69).2.1 | exact absurd rfl (gs_ok c69).2.2) rfl ?_
          refine j_aload_n C d_M_field_109 rfl rfl ?_
          refine jm_get C fl_6_41 d_M_field_110 hmo rfl ?_
          refine j_bipush (v := 20) C d_M_field_113 (by decide) ?_
          refine j_iload_n C d_M_field_115 rfl rfl ?_
          refine j_imul C d_M_field_116 ?_
          refine j_iload_n C d_M_field_117 rfl rfl ?_
          refine j_iadd C d_M_field_118 ?_
          refine j_iload_n C d_M_field_119 rfl rfl ?_
          refine jm_iasti C 10 13 d_M_field_120 (by decide) rfl hmo (by first | exact ix_rf hnr hle (by assumption) (by assumption) | exact ix_rk hnr hle (by assumption) (by assumption) | exact ix_r hnr hle (by omega) (by omega) (by assumption) | exact absurd rfl (gs_ok c69).1 | exact absurd rfl (gs_ok c69).2.1 | exact absurd rfl (gs_ok c69).2.2) rfl ?_
          exact j_vreturn C d_M_field_121 rfl (by decide) (by decide) ⟨rfl, rfl, by first | (simp [mfield, mtell, mkn, kn2, nar1, nar0, pk_un, upa_n, c5, c35, c44, c69]; done) | (simp [mfield, mtell, mkn, kn2, gsI, bz, nar1, nar0, pk_un, upa_n, c5, c35, c44, c69]; done) | exact absurd c69 (by decide) | exact absurd rfl (gs_ok c69).1 | exact absurd rfl (gs_ok c69).2.1 | exact absurd rfl (gs_ok c69).2.2⟩
        · exact j_vreturn C d_M_field_72 rfl (by decide) (by decide) ⟨rfl, rfl, by first | (simp [mfield, mtell, mkn, kn2, nar1, nar0, pk_un, upa_n, c5, c35, c44, c69]; done) | (simp [mfield, mtell, mkn, kn2, gsI, bz, nar1, nar0, pk_un, upa_n, c5, c35, c44, c69]; done) | exact absurd c69 (by decide) | exact absurd rfl (gs_ok c69).1 | exact absurd rfl (gs_ok c69).2.1 | exact absurd rfl (gs_ok c69).2.2⟩
      · refine j_aload_n C d_M_field_47 rfl rfl ?_
        refine jm_get C fl_6_38 d_M_field_48 hmo rfl ?_
        refine j_bipush (v := 20) C d_M_field_51 (by decide) ?_
        refine j_iload_n C d_M_field_53 rfl rfl ?_
        refine j_imul C d_M_field_54 ?_
        refine j_iload_n C d_M_field_55 rfl rfl ?_
        refine j_iadd C d_M_field_56 ?_
        refine jm_zald C 9 d_M_field_57 (by decide) rfl hmo (by first | exact ix_rf hnr hle (by assumption) (by assumption) | exact absurd rfl c35) rfl ?_
        refine j_if_eq (tgt := 65) C d_M_field_58 (by decide) (fun c58 => ?_) (fun c58 => ?_)
        · refine j_iconst (v := 0) C d_M_field_65 (by decide) ?_
          refine j_callV C d_M_field_66 ml_M_109 mc_M_goes in_M_goes rfl se_M_goes (by omega) (ovM_o _ _ _ _) (c_M_goes hl _ _ _ _ _ _ hmo) rfl rfl (Nat.le_of_ble_eq_true rfl) (Nat.le_of_ble_eq_true rfl) (Nat.le_of_ble_eq_true rfl) (Nat.le_of_ble_eq_true rfl) (jk_r ?_)
          refine j_if_ne (tgt := 73) C d_M_field_69 (by decide) (fun c69 => ?_) (fun c69 => ?_)
          · refine j_aload_n C d_M_field_73 rfl rfl ?_
            refine jm_get C fl_6_31 d_M_field_74 hmo rfl ?_
            refine j_bipush (v := 20) C d_M_field_77 (by decide) ?_
            refine j_iload_n C d_M_field_79 rfl rfl ?_
            refine j_imul C d_M_field_80 ?_
            refine j_iload_n C d_M_field_81 rfl rfl ?_
            refine j_iadd C d_M_field_82 ?_
            refine j_iconst (v := 1) C d_M_field_83 (by decide) ?_
            refine jm_zasti C 7 10 d_M_field_84 (by decide) rfl hmo (by first | exact ix_rf hnr hle (by assumption) (by assumption) | exact ix_rk hnr hle (by assumption) (by assumption) | exact ix_r hnr hle (by omega) (by omega) (by assumption) | exact absurd rfl (gs_ok c69).1 | exact absurd rfl (gs_ok c69).2.1 | exact absurd rfl (gs_ok c69).2.2) rfl ?_
            refine j_aload_n C d_M_field_85 rfl rfl ?_
            refine jm_get C fl_6_35 d_M_field_86 hmo rfl ?_
            refine j_bipush (v := 20) C d_M_field_89 (by decide) ?_
            refine j_iload_n C d_M_field_91 rfl rfl ?_
            refine j_imul C d_M_field_92 ?_
            refine j_iload_n C d_M_field_93 rfl rfl ?_
            refine j_iadd C d_M_field_94 ?_
            refine j_iconst (v := 0) C d_M_field_95 (by decide) ?_
            refine jm_zasti C 8 11 d_M_field_96 (by decide) rfl hmo (by first | exact ix_rf hnr hle (by assumption) (by assumption) | exact ix_rk hnr hle (by assumption) (by assumption) | exact ix_r hnr hle (by omega) (by omega) (by assumption) | exact absurd rfl (gs_ok c69).1 | exact absurd rfl (gs_ok c69).2.1 | exact absurd rfl (gs_ok c69).2.2) rfl ?_
            refine j_aload_n C d_M_field_97 rfl rfl ?_
            refine jm_get C fl_6_38 d_M_field_98 hmo rfl ?_
            refine j_bipush (v := 20) C d_M_field_101 (by decide) ?_
            refine j_iload_n C d_M_field_103 rfl rfl ?_
            refine j_imul C d_M_field_104 ?_
            refine j_iload_n C d_M_field_105 rfl rfl ?_
            refine j_iadd C d_M_field_106 ?_
            refine j_iconst (v := 0) C d_M_field_107 (by decide) ?_
            refine jm_zasti C 9 12 d_M_field_108 (by decide) rfl hmo (by first | exact ix_rf hnr hle (by assumption) (by assumption) | exact ix_rk hnr hle (by assumption) (by assumption) | exact ix_r hnr hle (by omega) (by omega) (by assumption) | exact absurd rfl (gs_ok c69).1 | exact absurd rfl (gs_ok c69).2.1 | exact absurd rfl (gs_ok c69).2.2) rfl ?_
            refine j_aload_n C d_M_field_109 rfl rfl ?_
            refine jm_get C fl_6_41 d_M_field_110 hmo rfl ?_
            refine j_bipush (v := 20) C d_M_field_113 (by decide) ?_
            refine j_iload_n C d_M_field_115 rfl rfl ?_
            refine j_imul C d_M_field_116 ?_
            refine j_iload_n C d_M_field_117 rfl rfl ?_
            refine j_iadd C d_M_field_118 ?_
            refine j_iload_n C d_M_field_119 rfl rfl ?_
            refine jm_iasti C 10 13 d_M_field_120 (by decide) rfl hmo (by first | exact ix_rf hnr hle (by assumption) (by assumption) | exact ix_rk hnr hle (by assumption) (by assumption) | exact ix_r hnr hle (by omega) (by omega) (by assumption) | exact absurd rfl (gs_ok c69).1 | exact absurd rfl (gs_ok c69).2.1 | exact absurd rfl (gs_ok c69).2.2) rfl ?_
            exact j_vreturn C d_M_field_121 rfl (by decide) (by decide) ⟨rfl, rfl, by first | (simp [mfield, mtell, mkn, kn2, nar1, nar0, pk_un, upa_n, c5, c35, c44, c58, c69]; done) | (simp [mfield, mtell, mkn, kn2, gsI, bz, nar1, nar0, pk_un, upa_n, c5, c35, c44, c58, c69]; done) | exact absurd c69 (by decide) | exact absurd rfl (gs_ok c69).1 | exact absurd rfl (gs_ok c69).2.1 | exact absurd rfl (gs_ok c69).2.2⟩
          · exact j_vreturn C d_M_field_72 rfl (by decide) (by decide) ⟨rfl, rfl, by first | (simp [mfield, mtell, mkn, kn2, nar1, nar0, pk_un, upa_n, c5, c35, c44, c58, c69]; done) | (simp [mfield, mtell, mkn, kn2, gsI, bz, nar1, nar0, pk_un, upa_n, c5, c35, c44, c58, c69]; done) | exact absurd c69 (by decide) | exact absurd rfl (gs_ok c69).1 | exact absurd rfl (gs_ok c69).2.1 | exact absurd rfl (gs_ok c69).2.2⟩
        · refine j_iconst (v := 1) C d_M_field_61 (by decide) ?_
          refine j_goto (tgt := 66) C d_M_field_62 (by decide) ?_
          refine j_callV C d_M_field_66 ml_M_109 mc_M_goes in_M_goes rfl se_M_goes (by omega) (ovM_o _ _ _ _) (c_M_goes hl _ _ _ _ _ _ hmo) rfl rfl (Nat.le_of_ble_eq_true rfl) (Nat.le_of_ble_eq_true rfl) (Nat.le_of_ble_eq_true rfl) (Nat.le_of_ble_eq_true rfl) (jk_r ?_)
          refine j_if_ne (tgt := 73) C d_M_field_69 (by decide) (fun c69 => ?_) (fun c69 => ?_)
          · refine j_aload_n C d_M_field_73 rfl rfl ?_
            refine jm_get C fl_6_31 d_M_field_74 hmo rfl ?_
            refine j_bipush (v := 20) C d_M_field_77 (by decide) ?_
            refine j_iload_n C d_M_field_79 rfl rfl ?_
            refine j_imul C d_M_field_80 ?_
            refine j_iload_n C d_M_field_81 rfl rfl ?_
            refine j_iadd C d_M_field_82 ?_
            refine j_iconst (v := 1) C d_M_field_83 (by decide) ?_
            refine jm_zasti C 7 10 d_M_field_84 (by decide) rfl hmo (by first | exact ix_rf hnr hle (by assumption) (by assumption) | exact ix_rk hnr hle (by assumption) (by assumption) | exact ix_r hnr hle (by omega) (by omega) (by assumption) | exact absurd rfl (gs_ok c69).1 | exact absurd rfl (gs_ok c69).2.1 | exact absurd rfl (gs_ok c69).2.2) rfl ?_
            refine j_aload_n C d_M_field_85 rfl rfl ?_
            refine jm_get C fl_6_35 d_M_field_86 hmo rfl ?_
            refine j_bipush (v := 20) C d_M_field_89 (by decide) ?_
            refine j_iload_n C d_M_field_91 rfl rfl ?_
            refine j_imul C d_M_field_92 ?_
            refine j_iload_n C d_M_field_93 rfl rfl ?_
            refine j_iadd C d_M_field_94 ?_
            refine j_iconst (v := 0) C d_M_field_95 (by decide) ?_
            refine jm_zasti C 8 11 d_M_field_96 (by decide) rfl hmo (by first | exact ix_rf hnr hle (by assumption) (by assumption) | exact ix_rk hnr hle (by assumption) (by assumption) | exact ix_r hnr hle (by omega) (by omega) (by assumption) | exact absurd rfl (gs_ok c69).1 | exact absurd rfl (gs_ok c69).2.1 | exact absurd rfl (gs_ok c69).2.2) rfl ?_
            refine j_aload_n C d_M_field_97 rfl rfl ?_
            refine jm_get C fl_6_38 d_M_field_98 hmo rfl ?_
            refine j_bipush (v := 20) C d_M_field_101 (by decide) ?_
            refine j_iload_n C d_M_field_103 rfl rfl ?_
            refine j_imul C d_M_field_104 ?_
            refine j_iload_n C d_M_field_105 rfl rfl ?_
            refine j_iadd C d_M_field_106 ?_
            refine j_iconst (v := 0) C d_M_field_107 (by decide) ?_
            refine jm_zasti C 9 12 d_M_field_108 (by decide) rfl hmo (by first | exact ix_rf hnr hle (by assumption) (by assumption) | exact ix_rk hnr hle (by assumption) (by assumption) | exact ix_r hnr hle (by omega) (by omega) (by assumption) | exact absurd rfl (gs_ok c69).1 | exact absurd rfl (gs_ok c69).2.1 | exact absurd rfl (gs_ok c69).2.2) rfl ?_
            refine j_aload_n C d_M_field_109 rfl rfl ?_
            refine jm_get C fl_6_41 d_M_field_110 hmo rfl ?_
            refine j_bipush (v := 20) C d_M_field_113 (by decide) ?_
            refine j_iload_n C d_M_field_115 rfl rfl ?_
            refine j_imul C d_M_field_116 ?_
            refine j_iload_n C d_M_field_117 rfl rfl ?_
            refine j_iadd C d_M_field_118 ?_
            refine j_iload_n C d_M_field_119 rfl rfl ?_
            refine jm_iasti C 10 13 d_M_field_120 (by decide) rfl hmo (by first | exact ix_rf hnr hle (by assumption) (by assumption) | exact ix_rk hnr hle (by assumption) (by assumption) | exact ix_r hnr hle (by omega) (by omega) (by assumption) | exact absurd rfl (gs_ok c69).1 | exact absurd rfl (gs_ok c69).2.1 | exact absurd rfl (gs_ok c69).2.2) rfl ?_
            exact j_vreturn C d_M_field_121 rfl (by decide) (by decide) ⟨rfl, rfl, by first | (simp [mfield, mtell, mkn, kn2, nar1, nar0, pk_un, upa_n, c5, c35, c44, c58, c69]; done) | (simp [mfield, mtell, mkn, kn2, gsI, bz, nar1, nar0, pk_un, upa_n, c5, c35, c44, c58, c69]; done) | exact absurd c69 (by decide) | exact absurd rfl (gs_ok c69).1 | exact absurd rfl (gs_ok c69).2.1 | exact absurd rfl (gs_ok c69).2.2⟩
          · exact j_vreturn C d_M_field_72 rfl (by decide) (by decide) ⟨rfl, rfl, by first | (simp [mfield, mtell, mkn, kn2, nar1, nar0, pk_un, upa_n, c5, c35, c44, c58, c69]; done) | (simp [mfield, mtell, mkn, kn2, gsI, bz, nar1, nar0, pk_un, upa_n, c5, c35, c44, c58, c69]; done) | exact absurd c69 (by decide) | exact absurd rfl (gs_ok c69).1 | exact absurd rfl (gs_ok c69).2.1 | exact absurd rfl (gs_ok c69).2.2⟩
  · refine j_iload_n C d_M_field_8 rfl rfl ?_
    refine j_callS C d_M_field_9 ml_M_117 mc_M_isField st_M_isField (c_M_isField hl _ _) rfl rfl (Nat.le_of_ble_eq_true rfl) (Nat.le_of_ble_eq_true rfl) (Nat.le_of_ble_eq_true rfl) (Nat.le_of_ble_eq_true rfl) (jk_r ?_)
    refine j_if_eq (tgt := 19) C d_M_field_12 (by decide) (fun c12 => ?_) (fun c12 => ?_)
    · refine j_iconst (v := 0) C d_M_field_19 (by decide) ?_
      refine j_istore C d_M_field_20 (by decide) rfl ?_
      refine j_aload_n C d_M_field_22 rfl rfl ?_
      refine j_iload C d_M_field_23 rfl ?_
      refine j_iload_n C d_M_field_25 rfl rfl ?_
      refine j_ldc (v := (-99999)) C d_M_field_26 lc_M_124 ?_
      refine j_ldc (v := 99999) C d_M_field_28 lc_M_125 ?_
      refine j_callS C d_M_field_30 ml_M_102 mc_M_in st_M_in (c_M_in hl _ _ _ _) rfl rfl (Nat.le_of_ble_eq_true rfl) (Nat.le_of_ble_eq_true rfl) (Nat.le_of_ble_eq_true rfl) (Nat.le_of_ble_eq_true rfl) (jk_r ?_)
      refine j_iload C d_M_field_33 rfl ?_
      refine j_if_eq (tgt := 65) C d_M_field_35 (by decide) (fun c35 => ?_) (fun c35 => ?_)
      · refine j_iconst (v := 0) C d_M_field_65 (by decide) ?_
        refine j_callV C d_M_field_66 ml_M_109 mc_M_goes in_M_goes rfl se_M_goes (by omega) (ovM_o _ _ _ _) (c_M_goes hl _ _ _ _ _ _ hmo) rfl rfl (Nat.le_of_ble_eq_true rfl) (Nat.le_of_ble_eq_true rfl) (Nat.le_of_ble_eq_true rfl) (Nat.le_of_ble_eq_true rfl) (jk_r ?_)
        refine j_if_ne (tgt := 73) C d_M_field_69 (by decide) (fun c69 => ?_) (fun c69 => ?_)
        · refine j_aload_n C d_M_field_73 rfl rfl ?_
          refine jm_get C fl_6_31 d_M_field_74 hmo rfl ?_
          refine j_bipush (v := 20) C d_M_field_77 (by decide) ?_
          refine j_iload_n C d_M_field_79 rfl rfl ?_
          refine j_imul C d_M_field_80 ?_
          refine j_iload_n C d_M_field_81 rfl rfl ?_
          refine j_iadd C d_M_field_82 ?_
          refine j_iconst (v := 1) C d_M_field_83 (by decide) ?_
          refine jm_zasti C 7 10 d_M_field_84 (by decide) rfl hmo (by first | exact ix_rf hnr hle (by assumption) (by assumption) | exact ix_rk hnr hle (by assumption) (by assumption) | exact ix_r hnr hle (by omega) (by omega) (by assumption) | exact absurd rfl (gs_ok c69).1 | exact absurd rfl (gs_ok c69).2.1 | exact absurd rfl (gs_ok c69).2.2) rfl ?_
          refine j_aload_n C d_M_field_85 rfl rfl ?_
          refine jm_get C fl_6_35 d_M_field_86 hmo rfl ?_
          refine j_bipush (v := 20) C d_M_field_89 (by decide) ?_
          refine j_iload_n C d_M_field_91 rfl rfl ?_
          refine j_imul C d_M_field_92 ?_
          refine j_iload_n C d_M_field_93 rfl rfl ?_
          refine j_iadd C d_M_field_94 ?_
          refine j_iconst (v := 0) C d_M_field_95 (by decide) ?_
          refine jm_zasti C 8 11 d_M_field_96 (by decide) rfl hmo (by first | exact ix_rf hnr hle (by assumption) (by assumption) | exact ix_rk hnr hle (by assumption) (by assumption) | exact ix_r hnr hle (by omega) (by omega) (by assumption) | exact absurd rfl (gs_ok c69).1 | exact absurd rfl (gs_ok c69).2.1 | exact absurd rfl (gs_ok c69).2.2) rfl ?_
          refine j_aload_n C d_M_field_97 rfl rfl ?_
          refine jm_get C fl_6_38 d_M_field_98 hmo rfl ?_
          refine j_bipush (v := 20) C d_M_field_101 (by decide) ?_
          refine j_iload_n C d_M_field_103 rfl rfl ?_
          refine j_imul C d_M_field_104 ?_
          refine j_iload_n C d_M_field_105 rfl rfl ?_
          refine j_iadd C d_M_field_106 ?_
          refine j_iconst (v := 0) C d_M_field_107 (by decide) ?_
          refine jm_zasti C 9 12 d_M_field_108 (by decide) rfl hmo (by first | exact ix_rf hnr hle (by assumption) (by assumption) | exact ix_rk hnr hle (by assumption) (by assumption) | exact ix_r hnr hle (by omega) (by omega) (by assumption) | exact absurd rfl (gs_ok c69).1 | exact absurd rfl (gs_ok c69).2.1 | exact absurd rfl (gs_ok c69).2.2) rfl ?_
          refine j_aload_n C d_M_field_109 rfl rfl ?_
          refine jm_get C fl_6_41 d_M_field_110 hmo rfl ?_
          refine j_bipush (v := 20) C d_M_field_113 (by decide) ?_
          refine j_iload_n C d_M_field_115 rfl rfl ?_
          refine j_imul C d_M_field_116 ?_
          refine j_iload_n C d_M_field_117 rfl rfl ?_
          refine j_iadd C d_M_field_118 ?_
          refine j_iload_n C d_M_field_119 rfl rfl ?_
          refine jm_iasti C 10 13 d_M_field_120 (by decide) rfl hmo (by first | exact ix_rf hnr hle (by assumption) (by assumption) | exact ix_rk hnr hle (by assumption) (by assumption) | exact ix_r hnr hle (by omega) (by omega) (by assumption) | exact absurd rfl (gs_ok c69).1 | exact absurd rfl (gs_ok c69).2.1 | exact absurd rfl (gs_ok c69).2.2) rfl ?_
          exact j_vreturn C d_M_field_121 rfl (by decide) (by decide) ⟨rfl, rfl, by first | (simp [mfield, mtell, mkn, kn2, nar1, nar0, pk_un, upa_n, c5, c12, c35, c69]; done) | (simp [mfield, mtell, mkn, kn2, gsI, bz, nar1, nar0, pk_un, upa_n, c5, c12, c35, c69]; done) | exact absurd c69 (by decide) | exact absurd rfl (gs_ok c69).1 | exact absurd rfl (gs_ok c69).2.1 | exact absurd rfl (gs_ok c69).2.2⟩
        · exact j_vreturn C d_M_field_72 rfl (by decide) (by decide) ⟨rfl, rfl, by first | (simp [mfield, mtell, mkn, kn2, nar1, nar0, pk_un, upa_n, c5, c12, c35, c69]; done) | (simp [mfield, mtell, mkn, kn2, gsI, bz, nar1, nar0, pk_un, upa_n, c5, c12, c35, c69]; done) | exact absurd c69 (by decide) | exact absurd rfl (gs_ok c69).1 | exact absurd rfl (gs_ok c69).2.1 | exact absurd rfl (gs_ok c69).2.2⟩
      · refine j_aload_n C d_M_field_38 rfl rfl ?_
        refine jm_get C fl_6_25 d_M_field_39 hmo rfl ?_
        refine j_iload_n C d_M_field_42 rfl rfl ?_
        refine jm_iald C 5 d_M_field_43 (by decide) rfl hmo (by first | exact ix_r hnr hle (by omega) (by omega) (by assumption) | exact absurd rfl c35) rfl ?_
        refine j_if_eq (tgt := 61) C d_M_field_44 (by decide) (fun c44 => ?_) (fun c44 => ?_)
        · refine j_iconst (v := 1) C d_M_field_61 (by decide) ?_
          refine j_goto (tgt := 66) C d_M_field_62 (by decide) ?_
          refine j_callV C d_M_field_66 ml_M_109 mc_M_goes in_M_goes rfl se_M_goes (by omega) (ovM_o _ _ _ _) (c_M_goes hl _ _ _ _ _ _ hmo) rfl rfl (Nat.le_of_ble_eq_true rfl) (Nat.le_of_ble_eq_true rfl) (Nat.le_of_ble_eq_true rfl) (Nat.le_of_ble_eq_true rfl) (jk_r ?_)
          refine j_if_ne (tgt := 73) C d_M_field_69 (by decide) (fun c69 => ?_) (fun c69 => ?_)
          · refine j_aload_n C d_M_field_73 rfl rfl ?_
            refine jm_get C fl_6_31 d_M_field_74 hmo rfl ?_
            refine j_bipush (v := 20) C d_M_field_77 (by decide) ?_
            refine j_iload_n C d_M_field_79 rfl rfl ?_
            refine j_imul C d_M_field_80 ?_
            refine j_iload_n C d_M_field_81 rfl rfl ?_
            refine j_iadd C d_M_field_82 ?_
            refine j_iconst (v := 1) C d_M_field_83 (by decide) ?_
            refine jm_zasti C 7 10 d_M_field_84 (by decide) rfl hmo (by first | exact ix_rf hnr hle (by assumption) (by assumption) | exact ix_rk hnr hle (by assumption) (by assumption) | exact ix_r hnr hle (by omega) (by omega) (by assumption) | exact absurd rfl (gs_ok c69).1 | exact absurd rfl (gs_ok c69).2.1 | exact absurd rfl (gs_ok c69).2.2) rfl ?_
            refine j_aload_n C d_M_field_85 rfl rfl ?_
            refine jm_get C fl_6_35 d_M_field_86 hmo rfl ?_
            refine j_bipush (v := 20) C d_M_field_89 (by decide) ?_
            refine j_iload_n C d_M_field_91 rfl rfl ?_
            refine j_imul C d_M_field_92 ?_
            refine j_iload_n C d_M_field_93 rfl rfl ?_
            refine j_iadd C d_M_field_94 ?_
            refine j_iconst (v := 0) C d_M_field_95 (by decide) ?_
            refine jm_zasti C 8 11 d_M_field_96 (by decide) rfl hmo (by first | exact ix_rf hnr hle (by assumption) (by assumption) | exact ix_rk hnr hle (by assumption) (by assumption) | exact ix_r hnr hle (by omega) (by omega) (by assumption) | exact absurd rfl (gs_ok c69).1 | exact absurd rfl (gs_ok c69).2.1 | exact absurd rfl (gs_ok c69).2.2) rfl ?_
            refine j_aload_n C d_M_field_97 rfl rfl ?_
            refine jm_get C fl_6_38 d_M_field_98 hmo rfl ?_
            refine j_bipush (v := 20) C d_M_field_101 (by decide) ?_
            refine j_iload_n C d_M_field_103 rfl rfl ?_
            refine j_imul C d_M_field_104 ?_
            refine j_iload_n C d_M_field_105 rfl rfl ?_
            refine j_iadd C d_M_field_106 ?_
            refine j_iconst (v := 0) C d_M_field_107 (by decide) ?_
            refine jm_zasti C 9 12 d_M_field_108 (by decide) rfl hmo (by first | exact ix_rf hnr hle (by assumption) (by assumption) | exact ix_rk hnr hle (by assumption) (by assumption) | exact ix_r hnr hle (by omega) (by omega) (by assumption) | exact absurd rfl (gs_ok c69).1 | exact absurd rfl (gs_ok c69).2.1 | exact absurd rfl (gs_ok c69).2.2) rfl ?_
            refine j_aload_n C d_M_field_109 rfl rfl ?_
            refine jm_get C fl_6_41 d_M_field_110 hmo rfl ?_
            refine j_bipush (v := 20) C d_M_field_113 (by decide) ?_
            refine j_iload_n C d_M_field_115 rfl rfl ?_
            refine j_imul C d_M_field_116 ?_
            refine j_iload_n C d_M_field_117 rfl rfl ?_
            refine j_iadd C d_M_field_118 ?_
            refine j_iload_n C d_M_field_119 rfl rfl ?_
            refine jm_iasti C 10 13 d_M_field_120 (by decide) rfl hmo (by first | exact ix_rf hnr hle (by assumption) (by assumption) | exact ix_rk hnr hle (by assumption) (by assumption) | exact ix_r hnr hle (by omega) (by omega) (by assumption) | exact absurd rfl (gs_ok c69).1 | exact absurd rfl (gs_ok c69).2.1 | exact absurd rfl (gs_ok c69).2.2) rfl ?_
            exact j_vreturn C d_M_field_121 rfl (by decide) (by decide) ⟨rfl, rfl, by first | (simp [mfield, mtell, mkn, kn2, nar1, nar0, pk_un, upa_n, c5, c12, c35, c44, c69]; done) | (simp [mfield, mtell, mkn, kn2, gsI, bz, nar1, nar0, pk_un, upa_n, c5, c12, c35, c44, c69]; done) | exact absurd c69 (by decide) | exact absurd rfl (gs_ok c69).1 | exact absurd rfl (gs_ok c69).2.1 | exact absurd rfl (gs_ok c69).2.2⟩
          · exact j_vreturn C d_M_field_72 rfl (by decide) (by decide) ⟨rfl, rfl, by first | (simp [mfield, mtell, mkn, kn2, nar1, nar0, pk_un, upa_n, c5, c12, c35, c44, c69]; done) | (simp [mfield, mtell, mkn, kn2, gsI, bz, nar1, nar0, pk_un, upa_n, c5, c12, c35, c44, c69]; done) | exact absurd c69 (by decide) | exact absurd rfl (gs_ok c69).1 | exact absurd rfl (gs_ok c69).2.1 | exact absurd rfl (gs_ok c69).2.2⟩
        · refine j_aload_n C d_M_field_47 rfl rfl ?_
          refine jm_get C fl_6_38 d_M_field_48 hmo rfl ?_
          refine j_bipush (v := 20) C d_M_field_51 (by decide) ?_
          refine j_iload_n C d_M_field_53 rfl rfl ?_
          refine j_imul C d_M_field_54 ?_
          refine j_iload_n C d_M_field_55 rfl rfl ?_
          refine j_iadd C d_M_field_56 ?_
          refine jm_zald C 9 d_M_field_57 (by decide) rfl hmo (by first | exact ix_rf hnr hle (by assumption) (by assumption) | exact absurd rfl c35) rfl ?_
          refine j_if_eq (tgt := 65) C d_M_field_58 (by decide) (fun c58 => ?_) (fun c58 => ?_)
          · refine j_iconst (v := 0) C d_M_field_65 (by decide) ?_
            refine j_callV C d_M_field_66 ml_M_109 mc_M_goes in_M_goes rfl se_M_goes (by omega) (ovM_o _ _ _ _) (c_M_goes hl _ _ _ _ _ _ hmo) rfl rfl (Nat.le_of_ble_eq_true rfl) (Nat.le_of_ble_eq_true rfl) (Nat.le_of_ble_eq_true rfl) (Nat.le_of_ble_eq_true rfl) (jk_r ?_)
            refine j_if_ne (tgt := 73) C d_M_field_69 (by decide) (fun c69 => ?_) (fun c69 => ?_)
            · refine j_aload_n C d_M_field_73 rfl rfl ?_
              refine jm_get C fl_6_31 d_M_field_74 hmo rfl ?_
              refine j_bipush (v := 20) C d_M_field_77 (by decide) ?_
              refine j_iload_n C d_M_field_79 rfl rfl ?_
              refine j_imul C d_M_field_80 ?_
              refine j_iload_n C d_M_field_81 rfl rfl ?_
              refine j_iadd C d_M_field_82 ?_
              refine j_iconst (v := 1) C d_M_field_83 (by decide) ?_
              refine jm_zasti C 7 10 d_M_field_84 (by decide) rfl hmo (by first | exact ix_rf hnr hle (by assumption) (by assumption) | exact ix_rk hnr hle (by assumption) (by assumption) | exact ix_r hnr hle (by omega) (by omega) (by assumption) | exact absurd rfl (gs_ok c69).1 | exact absurd rfl (gs_ok c69).2.1 | exact absurd rfl (gs_ok c69).2.2) rfl ?_
              refine j_aload_n C d_M_field_85 rfl rfl ?_
              refine jm_get C fl_6_35 d_M_field_86 hmo rfl ?_
              refine j_bipush (v := 20) C d_M_field_89 (by decide) ?_
              refine j_iload_n C d_M_field_91 rfl rfl ?_
              refine j_imul C d_M_field_92 ?_
              refine j_iload_n C d_M_field_93 rfl rfl ?_
              refine j_iadd C d_M_field_94 ?_
              refine j_iconst (v := 0) C d_M_field_95 (by decide) ?_
              refine jm_zasti C 8 11 d_M_field_96 (by decide) rfl hmo (by first | exact ix_rf hnr hle (by assumption) (by assumption) | exact ix_rk hnr hle (by assumption) (by assumption) | exact ix_r hnr hle (by omega) (by omega) (by assumption) | exact absurd rfl (gs_ok c69).1 | exact absurd rfl (gs_ok c69).2.1 | exact absurd rfl (gs_ok c69).2.2) rfl ?_
              refine j_aload_n C d_M_field_97 rfl rfl ?_
              refine jm_get C fl_6_38 d_M_field_98 hmo rfl ?_
              refine j_bipush (v := 20) C d_M_field_101 (by decide) ?_
              refine j_iload_n C d_M_field_103 rfl rfl ?_
              refine j_imul C d_M_field_104 ?_
              refine j_iload_n C d_M_field_105 rfl rfl ?_
              refine j_iadd C d_M_field_106 ?_
              refine j_iconst (v := 0) C d_M_field_107 (by decide) ?_
              refine jm_zasti C 9 12 d_M_field_108 (by decide) rfl hmo (by first | exact ix_rf hnr hle (by assumption) (by assumption) | exact ix_rk hnr hle (by assumption) (by assumption) | exact ix_r hnr hle (by omega) (by omega) (by assumption) | exact absurd rfl (gs_ok c69).1 | exact absurd rfl (gs_ok c69).2.1 | exact absurd rfl (gs_ok c69).2.2) rfl ?_
              refine j_aload_n C d_M_field_109 rfl rfl ?_
              refine jm_get C fl_6_41 d_M_field_110 hmo rfl ?_
              refine j_bipush (v := 20) C d_M_field_113 (by decide) ?_
              refine j_iload_n C d_M_field_115 rfl rfl ?_
              refine j_imul C d_M_field_116 ?_
              refine j_iload_n C d_M_field_117 rfl rfl ?_
              refine j_iadd C d_M_field_118 ?_
              refine j_iload_n C d_M_field_119 rfl rfl ?_
              refine jm_iasti C 10 13 d_M_field_120 (by decide) rfl hmo (by first | exact ix_rf hnr hle (by assumption) (by assumption) | exact ix_rk hnr hle (by assumption) (by assumption) | exact ix_r hnr hle (by omega) (by omega) (by assumption) | exact absurd rfl (gs_ok c69).1 | exact absurd rfl (gs_ok c69).2.1 | exact absurd rfl (gs_ok c69).2.2) rfl ?_
              exact j_vreturn C d_M_field_121 rfl (by decide) (by decide) ⟨rfl, rfl, by first | (simp [mfield, mtell, mkn, kn2, nar1, nar0, pk_un, upa_n, c5, c12, c35, c44, c58, c69]; done) | (simp [mfield, mtell, mkn, kn2, gsI, bz, nar1, nar0, pk_un, upa_n, c5, c12, c35, c44, c58, c69]; done) | exact absurd c69 (by decide) | exact absurd rfl (gs_ok c69).1 | exact absurd rfl (gs_ok c69).2.1 | exact absurd rfl (gs_ok c69).2.2⟩
            · exact j_vreturn C d_M_field_72 rfl (by decide) (by decide) ⟨rfl, rfl, by first | (simp [mfield, mtell, mkn, kn2, nar1, nar0, pk_un, upa_n, c5, c12, c35, c44, c58, c69]; done) | (simp [mfield, mtell, mkn, kn2, gsI, bz, nar1, nar0, pk_un, upa_n, c5, c12, c35, c44, c58, c69]; done) | exact absurd c69 (by decide) | exact absurd rfl (gs_ok c69).1 | exact absurd rfl (gs_ok c69).2.1 | exact absurd rfl (gs_ok c69).2.2⟩
          · refine j_iconst (v := 1) C d_M_field_61 (by decide) ?_
            refine j_goto (tgt := 66) C d_M_field_62 (by decide) ?_
            refine j_callV C d_M_field_66 ml_M_109 mc_M_goes in_M_goes rfl se_M_goes (by omega) (ovM_o _ _ _ _) (c_M_goes hl _ _ _ _ _ _ hmo) rfl rfl (Nat.le_of_ble_eq_true rfl) (Nat.le_of_ble_eq_true rfl) (Nat.le_of_ble_eq_true rfl) (Nat.le_of_ble_eq_true rfl) (jk_r ?_)
            refine j_if_ne (tgt := 73) C d_M_field_69 (by decide) (fun c69 => ?_) (fun c69 => ?_)
            · refine j_aload_n C d_M_field_73 rfl rfl ?_
              refine jm_get C fl_6_31 d_M_field_74 hmo rfl ?_
              refine j_bipush (v := 20) C d_M_field_77 (by decide) ?_
              refine j_iload_n C d_M_field_79 rfl rfl ?_
              refine j_imul C d_M_field_80 ?_
              refine j_iload_n C d_M_field_81 rfl rfl ?_
              refine j_iadd C d_M_field_82 ?_
              refine j_iconst (v := 1) C d_M_field_83 (by decide) ?_
              refine jm_zasti C 7 10 d_M_field_84 (by decide) rfl hmo (by first | exact ix_rf hnr hle (by assumption) (by assumption) | exact ix_rk hnr hle (by assumption) (by assumption) | exact ix_r hnr hle (by omega) (by omega) (by assumption) | exact absurd rfl (gs_ok c69).1 | exact absurd rfl (gs_ok c69).2.1 | exact absurd rfl (gs_ok c69).2.2) rfl ?_
              refine j_aload_n C d_M_field_85 rfl rfl ?_
              refine jm_get C fl_6_35 d_M_field_86 hmo rfl ?_
              refine j_bipush (v := 20) C d_M_field_89 (by decide) ?_
              refine j_iload_n C d_M_field_91 rfl rfl ?_
              refine j_imul C d_M_field_92 ?_
              refine j_iload_n C d_M_field_93 rfl rfl ?_
              refine j_iadd C d_M_field_94 ?_
              refine j_iconst (v := 0) C d_M_field_95 (by decide) ?_
              refine jm_zasti C 8 11 d_M_field_96 (by decide) rfl hmo (by first | exact ix_rf hnr hle (by assumption) (by assumption) | exact ix_rk hnr hle (by assumption) (by assumption) | exact ix_r hnr hle (by omega) (by omega) (by assumption) | exact absurd rfl (gs_ok c69).1 | exact absurd rfl (gs_ok c69).2.1 | exact absurd rfl (gs_ok c69).2.2) rfl ?_
              refine j_aload_n C d_M_field_97 rfl rfl ?_
              refine jm_get C fl_6_38 d_M_field_98 hmo rfl ?_
              refine j_bipush (v := 20) C d_M_field_101 (by decide) ?_
              refine j_iload_n C d_M_field_103 rfl rfl ?_
              refine j_imul C d_M_field_104 ?_
              refine j_iload_n C d_M_field_105 rfl rfl ?_
              refine j_iadd C d_M_field_106 ?_
              refine j_iconst (v := 0) C d_M_field_107 (by decide) ?_
              refine jm_zasti C 9 12 d_M_field_108 (by decide) rfl hmo (by first | exact ix_rf hnr hle (by assumption) (by assumption) | exact ix_rk hnr hle (by assumption) (by assumption) | exact ix_r hnr hle (by omega) (by omega) (by assumption) | exact absurd rfl (gs_ok c69).1 | exact absurd rfl (gs_ok c69).2.1 | exact absurd rfl (gs_ok c69).2.2) rfl ?_
              refine j_aload_n C d_M_field_109 rfl rfl ?_
              refine jm_get C fl_6_41 d_M_field_110 hmo rfl ?_
              refine j_bipush (v := 20) C d_M_field_113 (by decide) ?_
              refine j_iload_n C d_M_field_115 rfl rfl ?_
              refine j_imul C d_M_field_116 ?_
              refine j_iload_n C d_M_field_117 rfl rfl ?_
              refine j_iadd C d_M_field_118 ?_
              refine j_iload_n C d_M_field_119 rfl rfl ?_
              refine jm_iasti C 10 13 d_M_field_120 (by decide) rfl hmo (by first | exact ix_rf hnr hle (by assumption) (by assumption) | exact ix_rk hnr hle (by assumption) (by assumption) | exact ix_r hnr hle (by omega) (by omega) (by assumption) | exact absurd rfl (gs_ok c69).1 | exact absurd rfl (gs_ok c69).2.1 | exact absurd rfl (gs_ok c69).2.2) rfl ?_
              exact j_vreturn C d_M_field_121 rfl (by decide) (by decide) ⟨rfl, rfl, by first | (simp [mfield, mtell, mkn, kn2, nar1, nar0, pk_un, upa_n, c5, c12, c35, c44, c58, c69]; done) | (simp [mfield, mtell, mkn, kn2, gsI, bz, nar1, nar0, pk_un, upa_n, c5, c12, c35, c44, c58, c69]; done) | exact absurd c69 (by decide) | exact absurd rfl (gs_ok c69).1 | exact absurd rfl (gs_ok c69).2.1 | exact absurd rfl (gs_ok c69).2.2⟩
            · exact j_vreturn C d_M_field_72 rfl (by decide) (by decide) ⟨rfl, rfl, by first | (simp [mfield, mtell, mkn, kn2, nar1, nar0, pk_un, upa_n, c5, c12, c35, c44, c58, c69]; done) | (simp [mfield, mtell, mkn, kn2, gsI, bz, nar1, nar0, pk_un, upa_n, c5, c12, c35, c44, c58, c69]; done) | exact absurd c69 (by decide) | exact absurd rfl (gs_ok c69).1 | exact absurd rfl (gs_ok c69).2.1 | exact absurd rfl (gs_ok c69).2.2⟩
    · refine j_iconst (v := 1) C d_M_field_15 (by decide) ?_
      refine j_goto (tgt := 20) C d_M_field_16 (by decide) ?_
      refine j_istore C d_M_field_20 (by decide) rfl ?_
      refine j_aload_n C d_M_field_22 rfl rfl ?_
      refine j_iload C d_M_field_23 rfl ?_
      refine j_iload_n C d_M_field_25 rfl rfl ?_
      refine j_ldc (v := (-99999)) C d_M_field_26 lc_M_124 ?_
      refine j_ldc (v := 99999) C d_M_field_28 lc_M_125 ?_
      refine j_callS C d_M_field_30 ml_M_102 mc_M_in st_M_in (c_M_in hl _ _ _ _) rfl rfl (Nat.le_of_ble_eq_true rfl) (Nat.le_of_ble_eq_true rfl) (Nat.le_of_ble_eq_true rfl) (Nat.le_of_ble_eq_true rfl) (jk_r ?_)
      refine j_iload C d_M_field_33 rfl ?_
      refine j_if_eq (tgt := 65) C d_M_field_35 (by decide) (fun c35 => ?_) (fun c35 => ?_)
      · refine j_iconst (v := 0) C d_M_field_65 (by decide) ?_
        refine j_callV C d_M_field_66 ml_M_109 mc_M_goes in_M_goes rfl se_M_goes (by omega) (ovM_o _ _ _ _) (c_M_goes hl _ _ _ _ _ _ hmo) rfl rfl (Nat.le_of_ble_eq_true rfl) (Nat.le_of_ble_eq_true rfl) (Nat.le_of_ble_eq_true rfl) (Nat.le_of_ble_eq_true rfl) (jk_r ?_)
        refine j_if_ne (tgt := 73) C d_M_field_69 (by decide) (fun c69 => ?_) (fun c69 => ?_)
        · refine j_aload_n C d_M_field_73 rfl rfl ?_
          refine jm_get C fl_6_31 d_M_field_74 hmo rfl ?_
          refine j_bipush (v := 20) C d_M_field_77 (by decide) ?_
          refine j_iload_n C d_M_field_79 rfl rfl ?_
          refine j_imul C d_M_field_80 ?_
          refine j_iload_n C d_M_field_81 rfl rfl ?_
          refine j_iadd C d_M_field_82 ?_
          refine j_iconst (v := 1) C d_M_field_83 (by decide) ?_
          refine jm_zasti C 7 10 d_M_field_84 (by decide) rfl hmo (by first | exact ix_rf hnr hle (by assumption) (by assumption) | exact ix_rk hnr hle (by assumption) (by assumption) | exact ix_r hnr hle (by omega) (by omega) (by assumption) | exact absurd rfl (gs_ok c69).1 | exact absurd rfl (gs_ok c69).2.1 | exact absurd rfl (gs_ok c69).2.2) rfl ?_
          refine j_aload_n C d_M_field_85 rfl rfl ?_
          refine jm_get C fl_6_35 d_M_field_86 hmo rfl ?_
          refine j_bipush (v := 20) C d_M_field_89 (by decide) ?_
          refine j_iload_n C d_M_field_91 rfl rfl ?_
          refine j_imul C d_M_field_92 ?_
          refine j_iload_n C d_M_field_93 rfl rfl ?_
          refine j_iadd C d_M_field_94 ?_
          refine j_iconst (v := 0) C d_M_field_95 (by decide) ?_
          refine jm_zasti C 8 11 d_M_field_96 (by decide) rfl hmo (by first | exact ix_rf hnr hle (by assumption) (by assumption) | exact ix_rk hnr hle (by assumption) (by assumption) | exact ix_r hnr hle (by omega) (by omega) (by assumption) | exact absurd rfl (gs_ok c69).1 | exact absurd rfl (gs_ok c69).2.1 | exact absurd rfl (gs_ok c69).2.2) rfl ?_
          refine j_aload_n C d_M_field_97 rfl rfl ?_
          refine jm_get C fl_6_38 d_M_field_98 hmo rfl ?_
          refine j_bipush (v := 20) C d_M_field_101 (by decide) ?_
          refine j_iload_n C d_M_field_103 rfl rfl ?_
          refine j_imul C d_M_field_104 ?_
          refine j_iload_n C d_M_field_105 rfl rfl ?_
          refine j_iadd C d_M_field_106 ?_
          refine j_iconst (v := 0) C d_M_field_107 (by decide) ?_
          refine jm_zasti C 9 12 d_M_field_108 (by decide) rfl hmo (by first | exact ix_rf hnr hle (by assumption) (by assumption) | exact ix_rk hnr hle (by assumption) (by assumption) | exact ix_r hnr hle (by omega) (by omega) (by assumption) | exact absurd rfl (gs_ok c69).1 | exact absurd rfl (gs_ok c69).2.1 | exact absurd rfl (gs_ok c69).2.2) rfl ?_
          refine j_aload_n C d_M_field_109 rfl rfl ?_
          refine jm_get C fl_6_41 d_M_field_110 hmo rfl ?_
          refine j_bipush (v := 20) C d_M_field_113 (by decide) ?_
          refine j_iload_n C d_M_field_115 rfl rfl ?_
          refine j_imul C d_M_field_116 ?_
          refine j_iload_n C d_M_field_117 rfl rfl ?_
          refine j_iadd C d_M_field_118 ?_
          refine j_iload_n C d_M_field_119 rfl rfl ?_
          refine jm_iasti C 10 13 d_M_field_120 (by decide) rfl hmo (by first | exact ix_rf hnr hle (by assumption) (by assumption) | exact ix_rk hnr hle (by assumption) (by assumption) | exact ix_r hnr hle (by omega) (by omega) (by assumption) | exact absurd rfl (gs_ok c69).1 | exact absurd rfl (gs_ok c69).2.1 | exact absurd rfl (gs_ok c69).2.2) rfl ?_
          exact j_vreturn C d_M_field_121 rfl (by decide) (by decide) ⟨rfl, rfl, by first | (simp [mfield, mtell, mkn, kn2, nar1, nar0, pk_un, upa_n, c5, c12, c35, c69]; done) | (simp [mfield, mtell, mkn, kn2, gsI, bz, nar1, nar0, pk_un, upa_n, c5, c12, c35, c69]; done) | exact absurd c69 (by decide) | exact absurd rfl (gs_ok c69).1 | exact absurd rfl (gs_ok c69).2.1 | exact absurd rfl (gs_ok c69).2.2⟩
        · exact j_vreturn C d_M_field_72 rfl (by decide) (by decide) ⟨rfl, rfl, by first | (simp [mfield, mtell, mkn, kn2, nar1, nar0, pk_un, upa_n, c5, c12, c35, c69]; done) | (simp [mfield, mtell, mkn, kn2, gsI, bz, nar1, nar0, pk_un, upa_n, c5, c12, c35, c69]; done) | exact absurd c69 (by decide) | exact absurd rfl (gs_ok c69).1 | exact absurd rfl (gs_ok c69).2.1 | exact absurd rfl (gs_ok c69).2.2⟩
      · refine j_aload_n C d_M_field_38 rfl rfl ?_
        refine jm_get C fl_6_25 d_M_field_39 hmo rfl ?_
        refine j_iload_n C d_M_field_42 rfl rfl ?_
        refine jm_iald C 5 d_M_field_43 (by decide) rfl hmo (by first | exact ix_r hnr hle (by omega) (by omega) (by assumption) | exact absurd rfl c35) rfl ?_
        refine j_if_eq (tgt := 61) C d_M_field_44 (by decide) (fun c44 => ?_) (fun c44 => ?_)
        · refine j_iconst (v := 1) C d_M_field_61 (by decide) ?_
          refine j_goto (tgt := 66) C d_M_field_62 (by decide) ?_
          refine j_callV C d_M_field_66 ml_M_109 mc_M_goes in_M_goes rfl se_M_goes (by omega) (ovM_o _ _ _ _) (c_M_goes hl _ _ _ _ _ _ hmo) rfl rfl (Nat.le_of_ble_eq_true rfl) (Nat.le_of_ble_eq_true rfl) (Nat.le_of_ble_eq_true rfl) (Nat.le_of_ble_eq_true rfl) (jk_r ?_)
          refine j_if_ne (tgt := 73) C d_M_field_69 (by decide) (fun c69 => ?_) (fun c69 => ?_)
          · refine j_aload_n C d_M_field_73 rfl rfl ?_
            refine jm_get C fl_6_31 d_M_field_74 hmo rfl ?_
            refine j_bipush (v := 20) C d_M_field_77 (by decide) ?_
            refine j_iload_n C d_M_field_79 rfl rfl ?_
            refine j_imul C d_M_field_80 ?_
            refine j_iload_n C d_M_field_81 rfl rfl ?_
            refine j_iadd C d_M_field_82 ?_
            refine j_iconst (v := 1) C d_M_field_83 (by decide) ?_
            refine jm_zasti C 7 10 d_M_field_84 (by decide) rfl hmo (by first | exact ix_rf hnr hle (by assumption) (by assumption) | exact ix_rk hnr hle (by assumption) (by assumption) | exact ix_r hnr hle (by omega) (by omega) (by assumption) | exact absurd rfl (gs_ok c69).1 | exact absurd rfl (gs_ok c69).2.1 | exact absurd rfl (gs_ok c69).2.2) rfl ?_
            refine j_aload_n C d_M_field_85 rfl rfl ?_
            refine jm_get C fl_6_35 d_M_field_86 hmo rfl ?_
            refine j_bipush (v := 20) C d_M_field_89 (by decide) ?_
            refine j_iload_n C d_M_field_91 rfl rfl ?_
            refine j_imul C d_M_field_92 ?_
            refine j_iload_n C d_M_field_93 rfl rfl ?_
            refine j_iadd C d_M_field_94 ?_
            refine j_iconst (v := 0) C d_M_field_95 (by decide) ?_
            refine jm_zasti C 8 11 d_M_field_96 (by decide) rfl hmo (by first | exact ix_rf hnr hle (by assumption) (by assumption) | exact ix_rk hnr hle (by assumption) (by assumption) | exact ix_r hnr hle (by omega) (by omega) (by assumption) | exact absurd rfl (gs_ok c69).1 | exact absurd rfl (gs_ok c69).2.1 | exact absurd rfl (gs_ok c69).2.2) rfl ?_
            refine j_aload_n C d_M_field_97 rfl rfl ?_
            refine jm_get C fl_6_38 d_M_field_98 hmo rfl ?_
            refine j_bipush (v := 20) C d_M_field_101 (by decide) ?_
            refine j_iload_n C d_M_field_103 rfl rfl ?_
            refine j_imul C d_M_field_104 ?_
            refine j_iload_n C d_M_field_105 rfl rfl ?_
            refine j_iadd C d_M_field_106 ?_
            refine j_iconst (v := 0) C d_M_field_107 (by decide) ?_
            refine jm_zasti C 9 12 d_M_field_108 (by decide) rfl hmo (by first | exact ix_rf hnr hle (by assumption) (by assumption) | exact ix_rk hnr hle (by assumption) (by assumption) | exact ix_r hnr hle (by omega) (by omega) (by assumption) | exact absurd rfl (gs_ok c69).1 | exact absurd rfl (gs_ok c69).2.1 | exact absurd rfl (gs_ok c69).2.2) rfl ?_
            refine j_aload_n C d_M_field_109 rfl rfl ?_
            refine jm_get C fl_6_41 d_M_field_110 hmo rfl ?_
            refine j_bipush (v := 20) C d_M_field_113 (by decide) ?_
            refine j_iload_n C d_M_field_115 rfl rfl ?_
            refine j_imul C d_M_field_116 ?_
            refine j_iload_n C d_M_field_117 rfl rfl ?_
            refine j_iadd C d_M_field_118 ?_
            refine j_iload_n C d_M_field_119 rfl rfl ?_
            refine jm_iasti C 10 13 d_M_field_120 (by decide) rfl hmo (by first | exact ix_rf hnr hle (by assumption) (by assumption) | exact ix_rk hnr hle (by assumption) (by assumption) | exact ix_r hnr hle (by omega) (by omega) (by assumption) | exact absurd rfl (gs_ok c69).1 | exact absurd rfl (gs_ok c69).2.1 | exact absurd rfl (gs_ok c69).2.2) rfl ?_
            exact j_vreturn C d_M_field_121 rfl (by decide) (by decide) ⟨rfl, rfl, by first | (simp [mfield, mtell, mkn, kn2, nar1, nar0, pk_un, upa_n, c5, c12, c35, c44, c69]; done) | (simp [mfield, mtell, mkn, kn2, gsI, bz, nar1, nar0, pk_un, upa_n, c5, c12, c35, c44, c69]; done) | exact absurd c69 (by decide) | exact absurd rfl (gs_ok c69).1 | exact absurd rfl (gs_ok c69).2.1 | exact absurd rfl (gs_ok c69).2.2⟩
          · exact j_vreturn C d_M_field_72 rfl (by decide) (by decide) ⟨rfl, rfl, by first | (simp [mfield, mtell, mkn, kn2, nar1, nar0, pk_un, upa_n, c5, c12, c35, c44, c69]; done) | (simp [mfield, mtell, mkn, kn2, gsI, bz, nar1, nar0, pk_un, upa_n, c5, c12, c35, c44, c69]; done) | exact absurd c69 (by decide) | exact absurd rfl (gs_ok c69).1 | exact absurd rfl (gs_ok c69).2.1 | exact absurd rfl (gs_ok c69).2.2⟩
        · refine j_aload_n C d_M_field_47 rfl rfl ?_
          refine jm_get C fl_6_38 d_M_field_48 hmo rfl ?_
          refine j_bipush (v := 20) C d_M_field_51 (by decide) ?_
          refine j_iload_n C d_M_field_53 rfl rfl ?_
          refine j_imul C d_M_field_54 ?_
          refine j_iload_n C d_M_field_55 rfl rfl ?_
          refine j_iadd C d_M_field_56 ?_
          refine jm_zald C 9 d_M_field_57 (by decide) rfl hmo (by first | exact ix_rf hnr hle (by assumption) (by assumption) | exact absurd rfl c35) rfl ?_
          refine j_if_eq (tgt := 65) C d_M_field_58 (by decide) (fun c58 => ?_) (fun c58 => ?_)
          · refine j_iconst (v := 0) C d_M_field_65 (by decide) ?_
            refine j_callV C d_M_field_66 ml_M_109 mc_M_goes in_M_goes rfl se_M_goes (by omega) (ovM_o _ _ _ _) (c_M_goes hl _ _ _ _ _ _ hmo) rfl rfl (Nat.le_of_ble_eq_true rfl) (Nat.le_of_ble_eq_true rfl) (Nat.le_of_ble_eq_true rfl) (Nat.le_of_ble_eq_true rfl) (jk_r ?_)
            refine j_if_ne (tgt := 73) C d_M_field_69 (by decide) (fun c69 => ?_) (fun c69 => ?_)
            · refine j_aload_n C d_M_field_73 rfl rfl ?_
              refine jm_get C fl_6_31 d_M_field_74 hmo rfl ?_
              refine j_bipush (v := 20) C d_M_field_77 (by decide) ?_
              refine j_iload_n C d_M_field_79 rfl rfl ?_
              refine j_imul C d_M_field_80 ?_
              refine j_iload_n C d_M_field_81 rfl rfl ?_
              refine j_iadd C d_M_field_82 ?_
              refine j_iconst (v := 1) C d_M_field_83 (by decide) ?_
              refine jm_zasti C 7 10 d_M_field_84 (by decide) rfl hmo (by first | exact ix_rf hnr hle (by assumption) (by assumption) | exact ix_rk hnr hle (by assumption) (by assumption) | exact ix_r hnr hle (by omega) (by omega) (by assumption) | exact absurd rfl (gs_ok c69).1 | exact absurd rfl (gs_ok c69).2.1 | exact absurd rfl (gs_ok c69).2.2) rfl ?_
              refine j_aload_n C d_M_field_85 rfl rfl ?_
              refine jm_get C fl_6_35 d_M_field_86 hmo rfl ?_
              refine j_bipush (v := 20) C d_M_field_89 (by decide) ?_
              refine j_iload_n C d_M_field_91 rfl rfl ?_
              refine j_imul C d_M_field_92 ?_
              refine j_iload_n C d_M_field_93 rfl rfl ?_
              refine j_iadd C d_M_field_94 ?_
              refine j_iconst (v := 0) C d_M_field_95 (by decide) ?_
              refine jm_zasti C 8 11 d_M_field_96 (by decide) rfl hmo (by first | exact ix_rf hnr hle (by assumption) (by assumption) | exact ix_rk hnr hle (by assumption) (by assumption) | exact ix_r hnr hle (by omega) (by omega) (by assumption) | exact absurd rfl (gs_ok c69).1 | exact absurd rfl (gs_ok c69).2.1 | exact absurd rfl (gs_ok c69).2.2) rfl ?_
              refine j_aload_n C d_M_field_97 rfl rfl ?_
              refine jm_get C fl_6_38 d_M_field_98 hmo rfl ?_
              refine j_bipush (v := 20) C d_M_field_101 (by decide) ?_
              refine j_iload_n C d_M_field_103 rfl rfl ?_
              refine j_imul C d_M_field_104 ?_
              refine j_iload_n C d_M_field_105 rfl rfl ?_
              refine j_iadd C d_M_field_106 ?_
              refine j_iconst (v := 0) C d_M_field_107 (by decide) ?_
              refine jm_zasti C 9 12 d_M_field_108 (by decide) rfl hmo (by first | exact ix_rf hnr hle (by assumption) (by assumption) | exact ix_rk hnr hle (by assumption) (by assumption) | exact ix_r hnr hle (by omega) (by omega) (by assumption) | exact absurd rfl (gs_ok c69).1 | exact absurd rfl (gs_ok c69).2.1 | exact absurd rfl (gs_ok c69).2.2) rfl ?_
              refine j_aload_n C d_M_field_109 rfl rfl ?_
              refine jm_get C fl_6_41 d_M_field_110 hmo rfl ?_
              refine j_bipush (v := 20) C d_M_field_113 (by decide) ?_
              refine j_iload_n C d_M_field_115 rfl rfl ?_
              refine j_imul C d_M_field_116 ?_
              refine j_iload_n C d_M_field_117 rfl rfl ?_
              refine j_iadd C d_M_field_118 ?_
              refine j_iload_n C d_M_field_119 rfl rfl ?_
              refine jm_iasti C 10 13 d_M_field_120 (by decide) rfl hmo (by first | exact ix_rf hnr hle (by assumption) (by assumption) | exact ix_rk hnr hle (by assumption) (by assumption) | exact ix_r hnr hle (by omega) (by omega) (by assumption) | exact absurd rfl (gs_ok c69).1 | exact absurd rfl (gs_ok c69).2.1 | exact absurd rfl (gs_ok c69).2.2) rfl ?_
              exact j_vreturn C d_M_field_121 rfl (by decide) (by decide) ⟨rfl, rfl, by first | (simp [mfield, mtell, mkn, kn2, nar1, nar0, pk_un, upa_n, c5, c12, c35, c44, c58, c69]; done) | (simp [mfield, mtell, mkn, kn2, gsI, bz, nar1, nar0, pk_un, upa_n, c5, c12, c35, c44, c58, c69]; done) | exact absurd c69 (by decide) | exact absurd rfl (gs_ok c69).1 | exact absurd rfl (gs_ok c69).2.1 | exact absurd rfl (gs_ok c69).2.2⟩
            · exact j_vreturn C d_M_field_72 rfl (by decide) (by decide) ⟨rfl, rfl, by first | (simp [mfield, mtell, mkn, kn2, nar1, nar0, pk_un, upa_n, c5, c12, c35, c44, c58, c69]; done) | (simp [mfield, mtell, mkn, kn2, gsI, bz, nar1, nar0, pk_un, upa_n, c5, c12, c35, c44, c58, c69]; done) | exact absurd c69 (by decide) | exact absurd rfl (gs_ok c69).1 | exact absurd rfl (gs_ok c69).2.1 | exact absurd rfl (gs_ok c69).2.2⟩
          · refine j_iconst (v := 1) C d_M_field_61 (by decide) ?_
            refine j_goto (tgt := 66) C d_M_field_62 (by decide) ?_
            refine j_callV C d_M_field_66 ml_M_109 mc_M_goes in_M_goes rfl se_M_goes (by omega) (ovM_o _ _ _ _) (c_M_goes hl _ _ _ _ _ _ hmo) rfl rfl (Nat.le_of_ble_eq_true rfl) (Nat.le_of_ble_eq_true rfl) (Nat.le_of_ble_eq_true rfl) (Nat.le_of_ble_eq_true rfl) (jk_r ?_)
            refine j_if_ne (tgt := 73) C d_M_field_69 (by decide) (fun c69 => ?_) (fun c69 => ?_)
            · refine j_aload_n C d_M_field_73 rfl rfl ?_
              refine jm_get C fl_6_31 d_M_field_74 hmo rfl ?_
              refine j_bipush (v := 20) C d_M_field_77 (by decide) ?_
              refine j_iload_n C d_M_field_79 rfl rfl ?_
              refine j_imul C d_M_field_80 ?_
              refine j_iload_n C d_M_field_81 rfl rfl ?_
              refine j_iadd C d_M_field_82 ?_
              refine j_iconst (v := 1) C d_M_field_83 (by decide) ?_
              refine jm_zasti C 7 10 d_M_field_84 (by decide) rfl hmo (by first | exact ix_rf hnr hle (by assumption) (by assumption) | exact ix_rk hnr hle (by assumption) (by assumption) | exact ix_r hnr hle (by omega) (by omega) (by assumption) | exact absurd rfl (gs_ok c69).1 | exact absurd rfl (gs_ok c69).2.1 | exact absurd rfl (gs_ok c69).2.2) rfl ?_
              refine j_aload_n C d_M_field_85 rfl rfl ?_
              refine jm_get C fl_6_35 d_M_field_86 hmo rfl ?_
              refine j_bipush (v := 20) C d_M_field_89 (by decide) ?_
              refine j_iload_n C d_M_field_91 rfl rfl ?_
              refine j_imul C d_M_field_92 ?_
              refine j_iload_n C d_M_field_93 rfl rfl ?_
              refine j_iadd C d_M_field_94 ?_
              refine j_iconst (v := 0) C d_M_field_95 (by decide) ?_
              refine jm_zasti C 8 11 d_M_field_96 (by decide) rfl hmo (by first | exact ix_rf hnr hle (by assumption) (by assumption) | exact ix_rk hnr hle (by assumption) (by assumption) | exact ix_r hnr hle (by omega) (by omega) (by assumption) | exact absurd rfl (gs_ok c69).1 | exact absurd rfl (gs_ok c69).2.1 | exact absurd rfl (gs_ok c69).2.2) rfl ?_
              refine j_aload_n C d_M_field_97 rfl rfl ?_
              refine jm_get C fl_6_38 d_M_field_98 hmo rfl ?_
              refine j_bipush (v := 20) C d_M_field_101 (by decide) ?_
              refine j_iload_n C d_M_field_103 rfl rfl ?_
              refine j_imul C d_M_field_104 ?_
              refine j_iload_n C d_M_field_105 rfl rfl ?_
              refine j_iadd C d_M_field_106 ?_
              refine j_iconst (v := 0) C d_M_field_107 (by decide) ?_
              refine jm_zasti C 9 12 d_M_field_108 (by decide) rfl hmo (by first | exact ix_rf hnr hle (by assumption) (by assumption) | exact ix_rk hnr hle (by assumption) (by assumption) | exact ix_r hnr hle (by omega) (by omega) (by assumption) | exact absurd rfl (gs_ok c69).1 | exact absurd rfl (gs_ok c69).2.1 | exact absurd rfl (gs_ok c69).2.2) rfl ?_
              refine j_aload_n C d_M_field_109 rfl rfl ?_
              refine jm_get C fl_6_41 d_M_field_110 hmo rfl ?_
              refine j_bipush (v := 20) C d_M_field_113 (by decide) ?_
              refine j_iload_n C d_M_field_115 rfl rfl ?_
              refine j_imul C d_M_field_116 ?_
              refine j_iload_n C d_M_field_117 rfl rfl ?_
              refine j_iadd C d_M_field_118 ?_
              refine j_iload_n C d_M_field_119 rfl rfl ?_
              refine jm_iasti C 10 13 d_M_field_120 (by decide) rfl hmo (by first | exact ix_rf hnr hle (by assumption) (by assumption) | exact ix_rk hnr hle (by assumption) (by assumption) | exact ix_r hnr hle (by omega) (by omega) (by assumption) | exact absurd rfl (gs_ok c69).1 | exact absurd rfl (gs_ok c69).2.1 | exact absurd rfl (gs_ok c69).2.2) rfl ?_
              exact j_vreturn C d_M_field_121 rfl (by decide) (by decide) ⟨rfl, rfl, by first | (simp [mfield, mtell, mkn, kn2, nar1, nar0, pk_un, upa_n, c5, c12, c35, c44, c58, c69]; done) | (simp [mfield, mtell, mkn, kn2, gsI, bz, nar1, nar0, pk_un, upa_n, c5, c12, c35, c44, c58, c69]; done) | exact absurd c69 (by decide) | exact absurd rfl (gs_ok c69).1 | exact absurd rfl (gs_ok c69).2.1 | exact absurd rfl (gs_ok c69).2.2⟩
            · exact j_vreturn C d_M_field_72 rfl (by decide) (by decide) ⟨rfl, rfl, by first | (simp [mfield, mtell, mkn, kn2, nar1, nar0, pk_un, upa_n, c5, c12, c35, c44, c58, c69]; done) | (simp [mfield, mtell, mkn, kn2, gsI, bz, nar1, nar0, pk_un, upa_n, c5, c12, c35, c44, c58, c69]; done) | exact absurd c69 (by decide) | exact absurd rfl (gs_ok c69).1 | exact absurd rfl (gs_ok c69).2.1 | exact absurd rfl (gs_ok c69).2.2⟩

set_option maxHeartbeats 4000000 in
set_option maxRecDepth 100000 in
theorem c_M_fault {l : Launch} (hl : l.stackTraces = false) {D : va_G} {cA : Nat → ClassId} {b n mo : Nat} (r f : Int32) (σ : Nat → Int32) (α : Nat → Nat → Int32) (h : AH) (hmo : mo + 27 < n) (nr : Nat) (hnr : σ 2 = nI nr) (hle : nr ≤ 30) : Cn l D cA b y_M_fault k_M_fault 2 27 0 0 [.ref mo, .int r, .int f] n (ovM mo σ α h) (Re none n (ovM mo (mfault σ α r f).1 (mfault σ α r f).2 h)) := by
  refine Cn.of (cc := b_M_fault) (maxL := 4) (ret := none) (hh := []) (by decide +kernel) hl (Or.inl ⟨rfl, rfl⟩) (Nat.le_of_ble_eq_true rfl) ?_
  intro p e s m args below meth c C
  refine j_aload_n C d_M_fault_0 rfl rfl ?_
  refine j_iload_n C d_M_fault_1 rfl rfl ?_
  refine j_callV C d_M_fault_2 ml_M_121 mc_M_isReport in_M_isReport rfl se_M_isReport (by omega) (ovM_o _ _ _ _) (c_M_isReport hl _ _ _ _ hmo) rfl rfl (Nat.le_of_ble_eq_true rfl) (Nat.le_of_ble_eq_true rfl) (Nat.le_of_ble_eq_true rfl) (Nat.le_of_ble_eq_true rfl) (jk_r ?_)
  refine j_if_eq (tgt := 19) C d_M_fault_5 (by decide) (fun c5 => ?_) (fun c5 => ?_)
  · refine j_iconst (v := 0) C d_M_fault_19 (by decide) ?_
    refine j_istore_n C d_M_fault_20 rfl (by decide) rfl ?_
    refine j_aload_n C d_M_fault_21 rfl rfl ?_
    refine j_iload_n C d_M_fault_22 rfl rfl ?_
    refine j_iload_n C d_M_fault_23 rfl rfl ?_
    refine j_if_eq (tgt := 55) C d_M_fault_24 (by decide) (fun c24 => ?_) (fun c24 => ?_)
    · refine j_iconst (v := 0) C d_M_fault_55 (by decide) ?_
      refine j_iconst (v := 1) C d_M_fault_56 (by decide) ?_
      refine j_callV C d_M_fault_57 ml_M_109 mc_M_goes in_M_goes rfl se_M_goes (by omega) (ovM_o _ _ _ _) (c_M_goes hl _ _ _ _ _ _ hmo) rfl rfl (Nat.le_of_ble_eq_true rfl) (Nat.le_of_ble_eq_true rfl) (Nat.le_of_ble_eq_true rfl) (Nat.le_of_ble_eq_true rfl) (jk_r ?_)
      refine j_if_eq (tgt := 75) C d_M_fault_60 (by decide) (fun c60 => ?_) (fun c60 => ?_)
      · exact j_vreturn C d_M_fault_75 rfl (by decide) (by decide) ⟨rfl, rfl, by first | (simp [mfault, mkn, kn2, nar1, nar0, pk_un, upa_n, c5, c24, c60]; done) | (simp [mfault, mkn, kn2, gsI, bz, nar1, nar0, pk_un, upa_n, c5, c24, c60]; done) | exact absurd c60 (by decide) | exact absurd rfl (gs_ok c60).1 | exact absurd rfl (gs_ok c60).2.1 | exact absurd rfl (gs_ok c60).2.2⟩
      · refine j_aload_n C d_M_fault_63 rfl rfl ?_
        refine jm_get C fl_6_38 d_M_fault_64 hmo rfl ?_
        refine j_bipush (v := 20) C d_M_fault_67 (by decide) ?_
        refine j_iload_n C d_M_fault_69 rfl rfl ?_
        refine j_imul C d_M_fault_70 ?_
        refine j_iload_n C d_M_fault_71 rfl rfl ?_
        refine j_iadd C d_M_fault_72 ?_
        refine j_iconst (v := 1) C d_M_fault_73 (by decide) ?_
        refine jm_zasti C 9 12 d_M_fault_74 (by decide) rfl hmo (by first | exact ix_rf hnr hle (by assumption) (by assumption) | exact ix_rk hnr hle (by assumption) (by assumption) | exact ix_r hnr hle (by omega) (by omega) (by assumption) | exact absurd rfl (gs_ok c60).1 | exact absurd rfl (gs_ok c60).2.1 | exact absurd rfl (gs_ok c60).2.2) rfl ?_
        exact j_vreturn C d_M_fault_75 rfl (by decide) (by decide) ⟨rfl, rfl, by first | (simp [mfault, mkn, kn2, nar1, nar0, pk_un, upa_n, c5, c24, c60]; done) | (simp [mfault, mkn, kn2, gsI, bz, nar1, nar0, pk_un, upa_n, c5, c24, c60]; done) | exact absurd c60 (by decide) | exact absurd rfl (gs_ok c60).1 | exact absurd rfl (gs_ok c60).2.1 | exact absurd rfl (gs_ok c60).2.2⟩
    · refine j_aload_n C d_M_fault_27 rfl rfl ?_
      refine jm_get C fl_6_25 d_M_fault_28 hmo rfl ?_
      refine j_iload_n C d_M_fault_31 rfl rfl ?_
      refine jm_iald C 5 d_M_fault_32 (by decide) rfl hmo (by first | exact ix_r hnr hle (by omega) (by omega) (by assumption) | exact absurd rfl c24) rfl ?_
      refine j_iconst (v := 3) C d_M_fault_33 (by decide) ?_
      refine j_icmp_ne (tgt := 55) C d_M_fault_34 (by decide) (fun c34 => ?_) (fun c34 => ?_)
      · refine j_iconst (v := 0) C d_M_fault_55 (by decide) ?_
        refine j_iconst (v := 1) C d_M_fault_56 (by decide) ?_
        refine j_callV C d_M_fault_57 ml_M_109 mc_M_goes in_M_goes rfl se_M_goes (by omega) (ovM_o _ _ _ _) (c_M_goes hl _ _ _ _ _ _ hmo) rfl rfl (Nat.le_of_ble_eq_true rfl) (Nat.le_of_ble_eq_true rfl) (Nat.le_of_ble_eq_true rfl) (Nat.le_of_ble_eq_true rfl) (jk_r ?_)
        refine j_if_eq (tgt := 75) C d_M_fault_60 (by decide) (fun c60 => ?_) (fun c60 => ?_)
        · exact j_vreturn C d_M_fault_75 rfl (by decide) (by decide) ⟨rfl, rfl, by first | (simp [mfault, mkn, kn2, nar1, nar0, pk_un, upa_n, c5, c24, c34, c60]; done) | (simp [mfault, mkn, kn2, gsI, bz, nar1, nar0, pk_un, upa_n, c5, c24, c34, c60]; done) | exact absurd c60 (by decide) | exact absurd rfl (gs_ok c60).1 | exact absurd rfl (gs_ok c60).2.1 | exact absurd rfl (gs_ok c60).2.2⟩
        · refine j_aload_n C d_M_fault_63 rfl rfl ?_
          refine jm_get C fl_6_38 d_M_fault_64 hmo rfl ?_
          refine j_bipush (v := 20) C d_M_fault_67 (by decide) ?_
          refine j_iload_n C d_M_fault_69 rfl rfl ?_
          refine j_imul C d_M_fault_70 ?_
          refine j_iload_n C d_M_fault_71 rfl rfl ?_
          refine j_iadd C d_M_fault_72 ?_
          refine j_iconst (v := 1) C d_M_fault_73 (by decide) ?_
          refine jm_zasti C 9 12 d_M_fault_74 (by decide) rfl hmo (by first | exact ix_rf hnr hle (by assumption) (by assumption) | exact ix_rk hnr hle (by assumption) (by assumption) | exact ix_r hnr hle (by omega) (by omega) (by assumption) | exact absurd rfl (gs_ok c60).1 | exact absurd rfl (gs_ok c60).2.1 | exact absurd rfl (gs_ok c60).2.2) rfl ?_
          exact j_vreturn C d_M_fault_75 rfl (by decide) (by decide) ⟨rfl, rfl, by first | (simp [mfault, mkn, kn2, nar1, nar0, pk_un, upa_n, c5, c24, c34, c60]; done) | (simp [mfault, mkn, kn2, gsI, bz, nar1, nar0, pk_un, upa_n, c5, c24, c34, c60]; done) | exact absurd c60 (by decide) | exact absurd rfl (gs_ok c60).1 | exact absurd rfl (gs_ok c60).2.1 | exact absurd rfl (gs_ok c60).2.2⟩
      · refine j_aload_n C d_M_fault_37 rfl rfl ?_
        refine jm_get C fl_6_38 d_M_fault_38 hmo rfl ?_
        refine j_bipush (v := 20) C d_M_fault_41 (by decide) ?_
        refine j_iload_n C d_M_fault_43 rfl rfl ?_
        refine j_imul C d_M_fault_44 ?_
        refine j_iload_n C d_M_fault_45 rfl rfl ?_
        refine j_iadd C d_M_fault_46 ?_
        refine jm_zald C 9 d_M_fault_47 (by decide) rfl hmo (by first | exact ix_rf hnr hle (by assumption) (by assumption) | exact absurd rfl c24) rfl ?_
        refine j_if_ne (tgt := 55) C d_M_fault_48 (by decide) (fun c48 => ?_) (fun c48 => ?_)
        · refine j_iconst (v := 0) C d_M_fault_55 (by decide) ?_
          refine j_iconst (v := 1) C d_M_fault_56 (by decide) ?_
          refine j_callV C d_M_fault_57 ml_M_109 mc_M_goes in_M_goes rfl se_M_goes (by omega) (ovM_o _ _ _ _) (c_M_goes hl _ _ _ _ _ _ hmo) rfl rfl (Nat.le_of_ble_eq_true rfl) (Nat.le_of_ble_eq_true rfl) (Nat.le_of_ble_eq_true rfl) (Nat.le_of_ble_eq_true rfl) (jk_r ?_)
          refine j_if_eq (tgt := 75) C d_M_fault_60 (by decide) (fun c60 => ?_) (fun c60 => ?_)
          · exact j_vreturn C d_M_fault_75 rfl (by decide) (by decide) ⟨rfl, rfl, by first | (simp [mfault, mkn, kn2, nar1, nar0, pk_un, upa_n, c5, c24, c34, c48, c60]; done) | (simp [mfault, mkn, kn2, gsI, bz, nar1, nar0, pk_un, upa_n, c5, c24, c34, c48, c60]; done) | exact absurd c60 (by decide) | exact absurd rfl (gs_ok c60).1 | exact absurd rfl (gs_ok c60).2.1 | exact absurd rfl (gs_ok c60).2.2⟩
          · refine j_aload_n C d_M_fault_63 rfl rfl ?_
            refine jm_get C fl_6_38 d_M_fault_64 hmo rfl ?_
            refine j_bipush (v := 20) C d_M_fault_67 (by decide) ?_
            refine j_iload_n C d_M_fault_69 rfl rfl ?_
            refine j_imul C d_M_fault_70 ?_
            refine j_iload_n C d_M_fault_71 rfl rfl ?_
            refine j_iadd C d_M_fault_72 ?_
            refine j_iconst (v := 1) C d_M_fault_73 (by decide) ?_
            refine jm_zasti C 9 12 d_M_fault_74 (by decide) rfl hmo (by first | exact ix_rf hnr hle (by assumption) (by assumption) | exact ix_rk hnr hle (by assumption) (by assumption) | exact ix_r hnr hle (by omega) (by omega) (by assumption) | exact absurd rfl (gs_ok c60).1 | exact absurd rfl (gs_ok c60).2.1 | exact absurd rfl (gs_ok c60).2.2) rfl ?_
            exact j_vreturn C d_M_fault_75 rfl (by decide) (by decide) ⟨rfl, rfl, by first | (simp [mfault, mkn, kn2, nar1, nar0, pk_un, upa_n, c5, c24, c34, c48, c60]; done) | (simp [mfault, mkn, kn2, gsI, bz, nar1, nar0, pk_un, upa_n, c5, c24, c34, c48, c60]; done) | exact absurd c60 (by decide) | exact absurd rfl (gs_ok c60).1 | exact absurd rfl (gs_ok c60).2.1 | exact absurd rfl (gs_ok c60).2.2⟩
        · refine j_iconst (v := 1) C d_M_fault_51 (by decide) ?_
          refine j_goto (tgt := 56) C d_M_fault_52 (by decide) ?_
          refine j_iconst (v := 1) C d_M_fault_56 (by decide) ?_
          refine j_callV C d_M_fault_57 ml_M_109 mc_M_goes in_M_goes rfl se_M_goes (by omega) (ovM_o _ _ _ _) (c_M_goes hl _ _ _ _ _ _ hmo) rfl rfl (Nat.le_of_ble_eq_true rfl) (Nat.le_of_ble_eq_true rfl) (Nat.le_of_ble_eq_true rfl) (Nat.le_of_ble_eq_true rfl) (jk_r ?_)
          refine j_if_eq (tgt := 75) C d_M_fault_60 (by decide) (fun c60 => ?_) (fun c60 => ?_)
          · exact j_vreturn C d_M_fault_75 rfl (by decide) (by decide) ⟨rfl, rfl, by first | (simp [mfault, mkn, kn2, nar1, nar0, pk_un, upa_n, c5, c24, c34, c48, c60]; done) | (simp [mfault, mkn, kn2, gsI, bz, nar1, nar0, pk_un, upa_n, c5, c24, c34, c48, c60]; done) | exact absurd c60 (by decide) | exact absurd rfl (gs_ok c60).1 | exact absurd rfl (gs_ok c60).2.1 | exact absurd rfl (gs_ok c60).2.2⟩
          · refine j_aload_n C d_M_fault_63 rfl rfl ?_
            refine jm_get C fl_6_38 d_M_fault_64 hmo rfl ?_
            refine j_bipush (v := 20) C d_M_fault_67 (by decide) ?_
            refine j_iload_n C d_M_fault_69 rfl rfl ?_
            refine j_imul C d_M_fault_70 ?_
            refine j_iload_n C d_M_fault_71 rfl rfl ?_
            refine j_iadd C d_M_fault_72 ?_
            refine j_iconst (v := 1) C d_M_fault_73 (by decide) ?_
            refine jm_zasti C 9 12 d_M_fault_74 (by decide) rfl hmo (by first | exact ix_rf hnr hle (by assumption) (by assumption) | exact ix_rk hnr hle (by assumption) (by assumption) | exact ix_r hnr hle (by omega) (by omega) (by assumption) | exact absurd rfl (gs_ok c60).1 | exact absurd rfl (gs_ok c60).2.1 | exact absurd rfl (gs_ok c60).2.2) rfl ?_
            exact j_vreturn C d_M_fault_75 rfl (by decide) (by decide) ⟨rfl, rfl, by first | (simp [mfault, mkn, kn2, nar1, nar0, pk_un, upa_n, c5, c24, c34, c48, c60]; done) | (simp [mfault, mkn, kn2, gsI, bz, nar1, nar0, pk_un, upa_n, c5, c24, c34, c48, c60]; done) | exact absurd c60 (by decide) | exact absurd rfl (gs_ok c60).1 | exact absurd rfl (gs_ok c60).2.1 | exact absurd rfl (gs_ok c60).2.2⟩
  · refine j_iload_n C d_M_fault_8 rfl rfl ?_
    refine j_callS C d_M_fault_9 ml_M_117 mc_M_isField st_M_isField (c_M_isField hl _ _) rfl rfl (Nat.le_of_ble_eq_true rfl) (Nat.le_of_ble_eq_true rfl) (Nat.le_of_ble_eq_true rfl) (Nat.le_of_ble_eq_true rfl) (jk_r ?_)
    refine j_if_eq (tgt := 19) C d_M_fault_12 (by decide) (fun c12 => ?_) (fun c12 => ?_)
    · refine j_iconst (v := 0) C d_M_fault_19 (by decide) ?_
      refine j_istore_n C d_M_fault_20 rfl (by decide) rfl ?_
      refine j_aload_n C d_M_fault_21 rfl rfl ?_
      refine j_iload_n C d_M_fault_22 rfl rfl ?_
      refine j_iload_n C d_M_fault_23 rfl rfl ?_
      refine j_if_eq (tgt := 55) C d_M_fault_24 (by decide) (fun c24 => ?_) (fun c24 => ?_)
      · refine j_iconst (v := 0) C d_M_fault_55 (by decide) ?_
        refine j_iconst (v := 1) C d_M_fault_56 (by decide) ?_
        refine j_callV C d_M_fault_57 ml_M_109 mc_M_goes in_M_goes rfl se_M_goes (by omega) (ovM_o _ _ _ _) (c_M_goes hl _ _ _ _ _ _ hmo) rfl rfl (Nat.le_of_ble_eq_true rfl) (Nat.le_of_ble_eq_true rfl) (Nat.le_of_ble_eq_true rfl) (Nat.le_of_ble_eq_true rfl) (jk_r ?_)
        refine j_if_eq (tgt := 75) C d_M_fault_60 (by decide) (fun c60 => ?_) (fun c60 => ?_)
        · exact j_vreturn C d_M_fault_75 rfl (by decide) (by decide) ⟨rfl, rfl, by first | (simp [mfault, mkn, kn2, nar1, nar0, pk_un, upa_n, c5, c12, c24, c60]; done) | (simp [mfault, mkn, kn2, gsI, bz, nar1, nar0, pk_un, upa_n, c5, c12, c24, c60]; done) | exact absurd c60 (by decide) | exact absurd rfl (gs_ok c60).1 | exact absurd rfl (gs_ok c60).2.1 | exact absurd rfl (gs_ok c60).2.2⟩
        · refine j_aload_n C d_M_fault_63 rfl rfl ?_
          refine jm_get C fl_6_38 d_M_fault_64 hmo rfl ?_
          refine j_bipush (v := 20) C d_M_fault_67 (by decide) ?_
          refine j_iload_n C d_M_fault_69 rfl rfl ?_
          refine j_imul C d_M_fault_70 ?_
          refine j_iload_n C d_M_fault_71 rfl rfl ?_
          refine j_iadd C d_M_fault_72 ?_
          refine j_iconst (v := 1) C d_M_fault_73 (by decide) ?_
          refine jm_zasti C 9 12 d_M_fault_74 (by decide) rfl hmo (by first | exact ix_rf hnr hle (by assumption) (by assumption) | exact ix_rk hnr hle (by assumption) (by assumption) | exact ix_r hnr hle (by omega) (by omega) (by assumption) | exact absurd rfl (gs_ok c60).1 | exact absurd rfl (gs_ok c60).2.1 | exact absurd rfl (gs_ok c60).2.2) rfl ?_
          exact j_vreturn C d_M_fault_75 rfl (by decide) (by decide) ⟨rfl, rfl, by first | (simp [mfault, mkn, kn2, nar1, nar0, pk_un, upa_n, c5, c12, c24, c60]; done) | (simp [mfault, mkn, kn2, gsI, bz, nar1, nar0, pk_un, upa_n, c5, c12, c24, c60]; done) | exact absurd c60 (by decide) | exact absurd rfl (gs_ok c60).1 | exact absurd rfl (gs_ok c60).2.1 | exact absurd rfl (gs_ok c60).2.2⟩
      · refine j_aload_n C d_M_fault_27 rfl rfl ?_
        refine jm_get C fl_6_25 d_M_fault_28 hmo rfl ?_
        refine j_iload_n C d_M_fault_31 rfl rfl ?_
        refine jm_iald C 5 d_M_fault_32 (by decide) rfl hmo (by first | exact ix_r hnr hle (by omega) (by omega) (by assumption) | exact absurd rfl c24) rfl ?_
        refine j_iconst (v := 3) C d_M_fault_33 (by decide) ?_
        refine j_icmp_ne (tgt := 55) C d_M_fault_34 (by decide) (fun c34 => ?_) (fun c34 => ?_)
        · refine j_iconst (v := 0) C d_M_fault_55 (by decide) ?_
          refine j_iconst (v := 1) C d_M_fault_56 (by decide) ?_
          refine j_callV C d_M_fault_57 ml_M_109 mc_M_goes in_M_goes rfl se_M_goes (by omega) (ovM_o _ _ _ _) (c_M_goes hl _ _ _ _ _ _ hmo) rfl rfl (Nat.le_of_ble_eq_true rfl) (Nat.le_of_ble_eq_true rfl) (Nat.le_of_ble_eq_true rfl) (Nat.le_of_ble_eq_true rfl) (jk_r ?_)
          refine j_if_eq (tgt := 75) C d_M_fault_60 (by decide) (fun c60 => ?_) (fun c60 => ?_)
          · exact j_vreturn C d_M_fault_75 rfl (by decide) (by decide) ⟨rfl, rfl, by first | (simp [mfault, mkn, kn2, nar1, nar0, pk_un, upa_n, c5, c12, c24, c34, c60]; done) | (simp [mfault, mkn, kn2, gsI, bz, nar1, nar0, pk_un, upa_n, c5, c12, c24, c34, c60]; done) | exact absurd c60 (by decide) | exact absurd rfl (gs_ok c60).1 | exact absurd rfl (gs_ok c60).2.1 | exact absurd rfl (gs_ok c60).2.2⟩
          · refine j_aload_n C d_M_fault_63 rfl rfl ?_
            refine jm_get C fl_6_38 d_M_fault_64 hmo rfl ?_
            refine j_bipush (v := 20) C d_M_fault_67 (by decide) ?_
            refine j_iload_n C d_M_fault_69 rfl rfl ?_
            refine j_imul C d_M_fault_70 ?_
            refine j_iload_n C d_M_fault_71 rfl rfl ?_
            refine j_iadd C d_M_fault_72 ?_
            refine j_iconst (v := 1) C d_M_fault_73 (by decide) ?_
            refine jm_zasti C 9 12 d_M_fault_74 (by decide) rfl hmo (by first | exact ix_rf hnr hle (by assumption) (by assumption) | exact ix_rk hnr hle (by assumption) (by assumption) | exact ix_r hnr hle (by omega) (by omega) (by assumption) | exact absurd rfl (gs_ok c60).1 | exact absurd rfl (gs_ok c60).2.1 | exact absurd rfl (gs_ok c60).2.2) rfl ?_
            exact j_vreturn C d_M_fault_75 rfl (by decide) (by decide) ⟨rfl, rfl, by first | (simp [mfault, mkn, kn2, nar1, nar0, pk_un, upa_n, c5, c12, c24, c34, c60]; done) | (simp [mfault, mkn, kn2, gsI, bz, nar1, nar0, pk_un, upa_n, c5, c12, c24, c34, c60]; done) | exact absurd c60 (by decide) | exact absurd rfl (gs_ok c60).1 | exact absurd rfl (gs_ok c60).2.1 | exact absurd rfl (gs_ok c60).2.2⟩
        · refine j_aload_n C d_M_fault_37 rfl rfl ?_
          refine jm_get C fl_6_38 d_M_fault_38 hmo rfl ?_
          refine j_bipush (v := 20) C d_M_fault_41 (by decide) ?_
          refine j_iload_n C d_M_fault_43 rfl rfl ?_
          refine j_imul C d_M_fault_44 ?_
          refine j_iload_n C d_M_fault_45 rfl rfl ?_
          refine j_iadd C d_M_fault_46 ?_
          refine jm_zald C 9 d_M_fault_47 (by decide) rfl hmo (by first | exact ix_rf hnr hle (by assumption) (by assumption) | exact absurd rfl c24) rfl ?_
          refine j_if_ne (tgt := 55) C d_M_fault_48 (by decide) (fun c48 => ?_) (fun c48 => ?_)
          · refine j_iconst (v := 0) C d_M_fault_55 (by decide) ?_
            refine j_iconst (v := 1) C d_M_fault_56 (by decide) ?_
            refine j_callV C d_M_fault_57 ml_M_109 mc_M_goes in_M_goes rfl se_M_goes (by omega) (ovM_o _ _ _ _) (c_M_goes hl _ _ _ _ _ _ hmo) rfl rfl (Nat.le_of_ble_eq_true rfl) (Nat.le_of_ble_eq_true rfl) (Nat.le_of_ble_eq_true rfl) (Nat.le_of_ble_eq_true rfl) (jk_r ?_)
            refine j_if_eq (tgt := 75) C d_M_fault_60 (by decide) (fun c60 => ?_) (fun c60 => ?_)
            · exact j_vreturn C d_M_fault_75 rfl (by decide) (by decide) ⟨rfl, rfl, by first | (simp [mfault, mkn, kn2, nar1, nar0, pk_un, upa_n, c5, c12, c24, c34, c48, c60]; done) | (simp [mfault, mkn, kn2, gsI, bz, nar1, nar0, pk_un, upa_n, c5, c12, c24, c34, c48, c60]; done) | exact absurd c60 (by decide) | exact absurd rfl (gs_ok c60).1 | exact absurd rfl (gs_ok c60).2.1 | exact absurd rfl (gs_ok c60).2.2⟩
            · refine j_aload_n C d_M_fault_63 rfl rfl ?_
              refine jm_get C fl_6_38 d_M_fault_64 hmo rfl ?_
              refine j_bipush (v := 20) C d_M_fault_67 (by decide) ?_
              refine j_iload_n C d_M_fault_69 rfl rfl ?_
              refine j_imul C d_M_fault_70 ?_
              refine j_iload_n C d_M_fault_71 rfl rfl ?_
              refine j_iadd C d_M_fault_72 ?_
              refine j_iconst (v := 1) C d_M_fault_73 (by decide) ?_
              refine jm_zasti C 9 12 d_M_fault_74 (by decide) rfl hmo (by first | exact ix_rf hnr hle (by assumption) (by assumption) | exact ix_rk hnr hle (by assumption) (by assumption) | exact ix_r hnr hle (by omega) (by omega) (by assumption) | exact absurd rfl (gs_ok c60).1 | exact absurd rfl (gs_ok c60).2.1 | exact absurd rfl (gs_ok c60).2.2) rfl ?_
              exact j_vreturn C d_M_fault_75 rfl (by decide) (by decide) ⟨rfl, rfl, by first | (simp [mfault, mkn, kn2, nar1, nar0, pk_un, upa_n, c5, c12, c24, c34, c48, c60]; done) | (simp [mfault, mkn, kn2, gsI, bz, nar1, nar0, pk_un, upa_n, c5, c12, c24, c34, c48, c60]; done) | exact absurd c60 (by decide) | exact absurd rfl (gs_ok c60).1 | exact absurd rfl (gs_ok c60).2.1 | exact absurd rfl (gs_ok c60).2.2⟩
          · refine j_iconst (v := 1) C d_M_fault_51 (by decide) ?_
            refine j_goto (tgt := 56) C d_M_fault_52 (by decide) ?_
            refine j_iconst (v := 1) C d_M_fault_56 (by decide) ?_
            refine j_callV C d_M_fault_57 ml_M_109 mc_M_goes in_M_goes rfl se_M_goes (by omega) (ovM_o _ _ _ _) (c_M_goes hl _ _ _ _ _ _ hmo) rfl rfl (Nat.le_of_ble_eq_true rfl) (Nat.le_of_ble_eq_true rfl) (Nat.le_of_ble_eq_true rfl) (Nat.le_of_ble_eq_true rfl) (jk_r ?_)
            refine j_if_eq (tgt := 75) C d_M_fault_60 (by decide) (fun c60 => ?_) (fun c60 => ?_)
            · exact j_vreturn C d_M_fault_75 rfl (by decide) (by decide) ⟨rfl, rfl, by first | (simp [mfault, mkn, kn2, nar1, nar0, pk_un, upa_n, c5, c12, c24, c34, c48, c60]; done) | (simp [mfault, mkn, kn2, gsI, bz, nar1, nar0, pk_un, upa_n, c5, c12, c24, c34, c48, c60]; done) | exact absurd c60 (by decide) | exact absurd rfl (gs_ok c60).1 | exact absurd rfl (gs_ok c60).2.1 | exact absurd rfl (gs_ok c60).2.2⟩
            · refine j_aload_n C d_M_fault_63 rfl rfl ?_
              refine jm_get C fl_6_38 d_M_fault_64 hmo rfl ?_
              refine j_bipush (v := 20) C d_M_fault_67 (by decide) ?_
              refine j_iload_n C d_M_fault_69 rfl rfl ?_
              refine j_imul C d_M_fault_70 ?_
              refine j_iload_n C d_M_fault_71 rfl rfl ?_
              refine j_iadd C d_M_fault_72 ?_
              refine j_iconst (v := 1) C d_M_fault_73 (by decide) ?_
              refine jm_zasti C 9 12 d_M_fault_74 (by decide) rfl hmo (by first | exact ix_rf hnr hle (by assumption) (by assumption) | exact ix_rk hnr hle (by assumption) (by assumption) | exact ix_r hnr hle (by omega) (by omega) (by assumption) | exact absurd rfl (gs_ok c60).1 | exact absurd rfl (gs_ok c60).2.1 | exact absurd rfl (gs_ok c60).2.2) rfl ?_
              exact j_vreturn C d_M_fault_75 rfl (by decide) (by decide) ⟨rfl, rfl, by first | (simp [mfault, mkn, kn2, nar1, nar0, pk_un, upa_n, c5, c12, c24, c34, c48, c60]; done) | (simp [mfault, mkn, kn2, gsI, bz, nar1, nar0, pk_un, upa_n, c5, c12, c24, c34, c48, c60]; done) | exact absurd c60 (by decide) | exact absurd rfl (gs_ok c60).1 | exact absurd rfl (gs_ok c60).2.1 | exact absurd rfl (gs_ok c60).2.2⟩
    · refine j_iconst (v := 1) C d_M_fault_15 (by decide) ?_
      refine j_goto (tgt := 20) C d_M_fault_16 (by decide) ?_
      refine j_istore_n C d_M_fault_20 rfl (by decide) rfl ?_
      refine j_aload_n C d_M_fault_21 rfl rfl ?_
      refine j_iload_n C d_M_fault_22 rfl rfl ?_
      refine j_iload_n C d_M_fault_23 rfl rfl ?_
      refine j_if_eq (tgt := 55) C d_M_fault_24 (by decide) (fun c24 => ?_) (fun c24 => ?_)
      · refine j_iconst (v := 0) C d_M_fault_55 (by decide) ?_
        refine j_iconst (v := 1) C d_M_fault_56 (by decide) ?_
        refine j_callV C d_M_fault_57 ml_M_109 mc_M_goes in_M_goes rfl se_M_goes (by omega) (ovM_o _ _ _ _) (c_M_goes hl _ _ _ _ _ _ hmo) rfl rfl (Nat.le_of_ble_eq_true rfl) (Nat.le_of_ble_eq_true rfl) (Nat.le_of_ble_eq_true rfl) (Nat.le_of_ble_eq_true rfl) (jk_r ?_)
        refine j_if_eq (tgt := 75) C d_M_fault_60 (by decide) (fun c60 => ?_) (fun c60 => ?_)
        · exact j_vreturn C d_M_fault_75 rfl (by decide) (by decide) ⟨rfl, rfl, by first | (simp [mfault, mkn, kn2, nar1, nar0, pk_un, upa_n, c5, c12, c24, c60]; done) | (simp [mfault, mkn, kn2, gsI, bz, nar1, nar0, pk_un, upa_n, c5, c12, c24, c60]; done) | exact absurd c60 (by decide) | exact absurd rfl (gs_ok c60).1 | exact absurd rfl (gs_ok c60).2.1 | exact absurd rfl (gs_ok c60).2.2⟩
        · refine j_aload_n C d_M_fault_63 rfl rfl ?_
          refine jm_get C fl_6_38 d_M_fault_64 hmo rfl ?_
          refine j_bipush (v := 20) C d_M_fault_67 (by decide) ?_
          refine j_iload_n C d_M_fault_69 rfl rfl ?_
          refine j_imul C d_M_fault_70 ?_
          refine j_iload_n C d_M_fault_71 rfl rfl ?_
          refine j_iadd C d_M_fault_72 ?_
          refine j_iconst (v := 1) C d_M_fault_73 (by decide) ?_
          refine jm_zasti C 9 12 d_M_fault_74 (by decide) rfl hmo (by first | exact ix_rf hnr hle (by assumption) (by assumption) | exact ix_rk hnr hle (by assumption) (by assumption) | exact ix_r hnr hle (by omega) (by omega) (by assumption) | exact absurd rfl (gs_ok c60).1 | exact absurd rfl (gs_ok c60).2.1 | exact absurd rfl (gs_ok c60).2.2) rfl ?_
          exact j_vreturn C d_M_fault_75 rfl (by decide) (by decide) ⟨rfl, rfl, by first | (simp [mfault, mkn, kn2, nar1, nar0, pk_un, upa_n, c5, c12, c24, c60]; done) | (simp [mfault, mkn, kn2, gsI, bz, nar1, nar0, pk_un, upa_n, c5, c12, c24, c60]; done) | exact absurd c60 (by decide) | exact absurd rfl (gs_ok c60).1 | exact absurd rfl (gs_ok c60).2.1 | exact absurd rfl (gs_ok c60).2.2⟩
      · refine j_aload_n C d_M_fault_27 rfl rfl ?_
        refine jm_get C fl_6_25 d_M_fault_28 hmo rfl ?_
        refine j_iload_n C d_M_fault_31 rfl rfl ?_
        refine jm_iald C 5 d_M_fault_32 (by decide) rfl hmo (by first | exact ix_r hnr hle (by omega) (by omega) (by assumption) | exact absurd rfl c24) rfl ?_
        refine j_iconst (v := 3) C d_M_fault_33 (by decide) ?_
        refine j_icmp_ne (tgt := 55) C d_M_fault_34 (by decide) (fun c34 => ?_) (fun c34 => ?_)
        · refine j_iconst (v := 0) C d_M_fault_55 (by decide) ?_
          refine j_iconst (v := 1) C d_M_fault_56 (by decide) ?_
          refine j_callV C d_M_fault_57 ml_M_109 mc_M_goes in_M_goes rfl se_M_goes (by omega) (ovM_o _ _ _ _) (c_M_goes hl _ _ _ _ _ _ hmo) rfl rfl (Nat.le_of_ble_eq_true rfl) (Nat.le_of_ble_eq_true rfl) (Nat.le_of_ble_eq_true rfl) (Nat.le_of_ble_eq_true rfl) (jk_r ?_)
          refine j_if_eq (tgt := 75) C d_M_fault_60 (by decide) (fun c60 => ?_) (fun c60 => ?_)
          · exact j_vreturn C d_M_fault_75 rfl (by decide) (by decide) ⟨rfl, rfl, by first | (simp [mfault, mkn, kn2, nar1, nar0, pk_un, upa_n, c5, c12, c24, c34, c60]; done) | (simp [mfault, mkn, kn2, gsI, bz, nar1, nar0, pk_un, upa_n, c5, c12, c24, c34, c60]; done) | exact absurd c60 (by decide) | exact absurd rfl (gs_ok c60).1 | exact absurd rfl (gs_ok c60).2.1 | exact absurd rfl (gs_ok c60).2.2⟩
          · refine j_aload_n C d_M_fault_63 rfl rfl ?_
            refine jm_get C fl_6_38 d_M_fault_64 hmo rfl ?_
            refine j_bipush (v := 20) C d_M_fault_67 (by decide) ?_
            refine j_iload_n C d_M_fault_69 rfl rfl ?_
            refine j_imul C d_M_fault_70 ?_
            refine j_iload_n C d_M_fault_71 rfl rfl ?_
            refine j_iadd C d_M_fault_72 ?_
            refine j_iconst (v := 1) C d_M_fault_73 (by decide) ?_
            refine jm_zasti C 9 12 d_M_fault_74 (by decide) rfl hmo (by first | exact ix_rf hnr hle (by assumption) (by assumption) | exact ix_rk hnr hle (by assumption) (by assumption) | exact ix_r hnr hle (by omega) (by omega) (by assumption) | exact absurd rfl (gs_ok c60).1 | exact absurd rfl (gs_ok c60).2.1 | exact absurd rfl (gs_ok c60).2.2) rfl ?_
            exact j_vreturn C d_M_fault_75 rfl (by decide) (by decide) ⟨rfl, rfl, by first | (simp [mfault, mkn, kn2, nar1, nar0, pk_un, upa_n, c5, c12, c24, c34, c60]; done) | (simp [mfault, mkn, kn2, gsI, bz, nar1, nar0, pk_un, upa_n, c5, c12, c24, c34, c60]; done) | exact absurd c60 (by decide) | exact absurd rfl (gs_ok c60).1 | exact absurd rfl (gs_ok c60).2.1 | exact absurd rfl (gs_ok c60).2.2⟩
        · refine j_aload_n C d_M_fault_37 rfl rfl ?_
          refine jm_get C fl_6_38 d_M_fault_38 hmo rfl ?_
          refine j_bipush (v := 20) C d_M_fault_41 (by decide) ?_
          refine j_iload_n C d_M_fault_43 rfl rfl ?_
          refine j_imul C d_M_fault_44 ?_
          refine j_iload_n C d_M_fault_45 rfl rfl ?_
          refine j_iadd C d_M_fault_46 ?_
          refine jm_zald C 9 d_M_fault_47 (by decide) rfl hmo (by first | exact ix_rf hnr hle (by assumption) (by assumption) | exact absurd rfl c24) rfl ?_
          refine j_if_ne (tgt := 55) C d_M_fault_48 (by decide) (fun c48 => ?_) (fun c48 => ?_)
          · refine j_iconst (v := 0) C d_M_fault_55 (by decide) ?_
            refine j_iconst (v := 1) C d_M_fault_56 (by decide) ?_
            refine j_callV C d_M_fault_57 ml_M_109 mc_M_goes in_M_goes rfl se_M_goes (by omega) (ovM_o _ _ _ _) (c_M_goes hl _ _ _ _ _ _ hmo) rfl rfl (Nat.le_of_ble_eq_true rfl) (Nat.le_of_ble_eq_true rfl) (Nat.le_of_ble_eq_true rfl) (Nat.le_of_ble_eq_true rfl) (jk_r ?_)
            refine j_if_eq (tgt := 75) C d_M_fault_60 (by decide) (fun c60 => ?_) (fun c60 => ?_)
            · exact j_vreturn C d_M_fault_75 rfl (by decide) (by decide) ⟨rfl, rfl, by first | (simp [mfault, mkn, kn2, nar1, nar0, pk_un, upa_n, c5, c12, c24, c34, c48, c60]; done) | (simp [mfault, mkn, kn2, gsI, bz, nar1, nar0, pk_un, upa_n, c5, c12, c24, c34, c48, c60]; done) | exact absurd c60 (by decide) | exact absurd rfl (gs_ok c60).1 | exact absurd rfl (gs_ok c60).2.1 | exact absurd rfl (gs_ok c60).2.2⟩
            · refine j_aload_n C d_M_fault_63 rfl rfl ?_
              refine jm_get C fl_6_38 d_M_fault_64 hmo rfl ?_
              refine j_bipush (v := 20) C d_M_fault_67 (by decide) ?_
              refine j_iload_n C d_M_fault_69 rfl rfl ?_
              refine j_imul C d_M_fault_70 ?_
              refine j_iload_n C d_M_fault_71 rfl rfl ?_
              refine j_iadd C d_M_fault_72 ?_
              refine j_iconst (v := 1) C d_M_fault_73 (by decide) ?_
              refine jm_zasti C 9 12 d_M_fault_74 (by decide) rfl hmo (by first | exact ix_rf hnr hle (by assumption) (by assumption) | exact ix_rk hnr hle (by assumption) (by assumption) | exact ix_r hnr hle (by omega) (by omega) (by assumption) | exact absurd rfl (gs_ok c60).1 | exact absurd rfl (gs_ok c60).2.1 | exact absurd rfl (gs_ok c60).2.2) rfl ?_
              exact j_vreturn C d_M_fault_75 rfl (by decide) (by decide) ⟨rfl, rfl, by first | (simp [mfault, mkn, kn2, nar1, nar0, pk_un, upa_n, c5, c12, c24, c34, c48, c60]; done) | (simp [mfault, mkn, kn2, gsI, bz, nar1, nar0, pk_un, upa_n, c5, c12, c24, c34, c48, c60]; done) | exact absurd c60 (by decide) | exact absurd rfl (gs_ok c60).1 | exact absurd rfl (gs_ok c60).2.1 | exact absurd rfl (gs_ok c60).2.2⟩
          · refine j_iconst (v := 1) C d_M_fault_51 (by decide) ?_
            refine j_goto (tgt := 56) C d_M_fault_52 (by decide) ?_
            refine j_iconst (v := 1) C d_M_fault_56 (by decide) ?_
            refine j_callV C d_M_fault_57 ml_M_109 mc_M_goes in_M_goes rfl se_M_goes (by omega) (ovM_o _ _ _ _) (c_M_goes hl _ _ _ _ _ _ hmo) rfl rfl (Nat.le_of_ble_eq_true rfl) (Nat.le_of_ble_eq_true rfl) (Nat.le_of_ble_eq_true rfl) (Nat.le_of_ble_eq_true rfl) (jk_r ?_)
            refine j_if_eq (tgt := 75) C d_M_fault_60 (by decide) (fun c60 => ?_) (fun c60 => ?_)
            · exact j_vreturn C d_M_fault_75 rfl (by decide) (by decide) ⟨rfl, rfl, by first | (simp [mfault, mkn, kn2, nar1, nar0, pk_un, upa_n, c5, c12, c24, c34, c48, c60]; done) | (simp [mfault, mkn, kn2, gsI, bz, nar1, nar0, pk_un, upa_n, c5, c12, c24, c34, c48, c60]; done) | exact absurd c60 (by decide) | exact absurd rfl (gs_ok c60).1 | exact absurd rfl (gs_ok c60).2.1 | exact absurd rfl (gs_ok c60).2.2⟩
            · refine j_aload_n C d_M_fault_63 rfl rfl ?_
              refine jm_get C fl_6_38 d_M_fault_64 hmo rfl ?_
              refine j_bipush (v := 20) C d_M_fault_67 (by decide) ?_
              refine j_iload_n C d_M_fault_69 rfl rfl ?_
              refine j_imul C d_M_fault_70 ?_
              refine j_iload_n C d_M_fault_71 rfl rfl ?_
              refine j_iadd C d_M_fault_72 ?_
              refine j_iconst (v := 1) C d_M_fault_73 (by decide) ?_
              refine jm_zasti C 9 12 d_M_fault_74 (by decide) rfl hmo (by first | exact ix_rf hnr hle (by assumption) (by assumption) | exact ix_rk hnr hle (by assumption) (by assumption) | exact ix_r hnr hle (by omega) (by omega) (by assumption) | exact absurd rfl (gs_ok c60).1 | exact absurd rfl (gs_ok c60).2.1 | exact absurd rfl (gs_ok c60).2.2) rfl ?_
              exact j_vreturn C d_M_fault_75 rfl (by decide) (by decide) ⟨rfl, rfl, by first | (simp [mfault, mkn, kn2, nar1, nar0, pk_un, upa_n, c5, c12, c24, c34, c48, c60]; done) | (simp [mfault, mkn, kn2, gsI, bz, nar1, nar0, pk_un, upa_n, c5, c12, c24, c34, c48, c60]; done) | exact absurd c60 (by decide) | exact absurd rfl (gs_ok c60).1 | exact absurd rfl (gs_ok c60).2.1 | exact absurd rfl (gs_ok c60).2.2⟩

