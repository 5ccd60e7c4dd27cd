/-! ===== contracts of the reference's small methods ===== -/
def inI (x a b : Int32) : Int32 := if x < a then 0 else if b < x then 0 else 1
def gsI (x y z : Int32) : Int32 := if ¬ x = 0 then (if ¬ y = 0 then (if ¬ z = 0 then 0 else 3) else 2) else 1
def bz (x : Int32) : Int32 := if x = 0 then 1 else 0
set_option maxHeartbeats 4000000 in
set_option maxRecDepth 100000 in
theorem c_M_thrown {l : Launch} (hl : l.stackTraces = false) {D : va_G} {cA : Nat → ClassId} {b n mo : Nat} (σ : Nat → Int32) (α : Nat → Nat → Int32) (h : AH) (hmo : mo + 27 < n) : Cn l D cA b y_M_thrown k_M_thrown 0 0 0 0 [.ref mo] n (ovM mo σ α h) (Re (some (.int (σ 0))) n (ovM mo σ α h)) := by
  refine Cn.of (cc := b_M_thrown) (maxL := 1) (ret := (some .int)) (hh := []) (by decide +kernel) hl (Or.inl ⟨rfl, rfl⟩) (Nat.le_of_ble_eq_true rfl) ?_
  intro p e s m args below meth c C
  refine j_aload_n C d_M_thrown_0 rfl rfl ?_
  refine jm_get C fl_6_96 d_M_thrown_1 hmo rfl ?_
  exact j_ireturn C d_M_thrown_4 rfl (by decide) (by decide) ⟨rfl, rfl, rfl⟩

set_option maxHeartbeats 4000000 in
set_option maxRecDepth 100000 in
theorem c_M_in {l : Launch} (hl : l.stackTraces = false) {D : va_G} {cA : Nat → ClassId} {b n : Nat} (x a z : Int32) (h : AH) : Cn l D cA b y_M_in k_M_in 0 0 0 0 [.int x, .int a, .int z] n h (Re (some (.int (inI x a z))) n h) := by
  refine Cn.of (cc := b_M_in) (maxL := 3) (ret := (some .boolean)) (hh := []) (by decide +kernel) hl (Or.inl ⟨rfl, rfl⟩) (Nat.le_of_ble_eq_true rfl) ?_
  intro p e s m args below meth c C
  refine j_iload_n C d_M_in_0 rfl rfl ?_
  refine j_iload_n C d_M_in_1 rfl rfl ?_
  refine j_icmp_lt (tgt := 14) C d_M_in_2 (by decide) (fun c2 => ?_) (fun c2 => ?_)
  · refine j_iconst (v := 0) C d_M_in_14 (by decide) ?_
    exact j_zreturn C d_M_in_15 rfl (by decide) (by decide) (by decide) ⟨by simp [inI, *], rfl, rfl⟩
  · refine j_iload_n C d_M_in_5 rfl rfl ?_
    refine j_iload_n C d_M_in_6 rfl rfl ?_
    refine j_icmp_gt (tgt := 14) C d_M_in_7 (by decide) (fun c7 => ?_) (fun c7 => ?_)
    · refine j_iconst (v := 0) C d_M_in_14 (by decide) ?_
      exact j_zreturn C d_M_in_15 rfl (by decide) (by decide) (by decide) ⟨by simp [inI, *], rfl, rfl⟩
    · refine j_iconst (v := 1) C d_M_in_10 (by decide) ?_
      refine j_goto (tgt := 15) C d_M_in_11 (by decide) ?_
      exact j_zreturn C d_M_in_15 rfl (by decide) (by decide) (by decide) ⟨by simp [inI, *], rfl, rfl⟩

set_option maxHeartbeats 4000000 in
set_option maxRecDepth 100000 in
theorem c_M_isField {l : Launch} (hl : l.stackTraces = false) {D : va_G} {cA : Nat → ClassId} {b n : Nat} (x : Int32) (h : AH) : Cn l D cA b y_M_isField k_M_isField 1 14 0 0 [.int x] n h (Re (some (.int (inI x 0 19))) n h) := by
  refine Cn.of (cc := b_M_isField) (maxL := 1) (ret := (some .boolean)) (hh := []) (by decide +kernel) hl (Or.inl ⟨rfl, rfl⟩) (Nat.le_of_ble_eq_true rfl) ?_
  intro p e s m args below meth c C
  refine j_iload_n C d_M_isField_0 rfl rfl ?_
  refine j_iconst (v := 0) C d_M_isField_1 (by decide) ?_
  refine j_bipush (v := 19) C d_M_isField_2 (by decide) ?_
  refine j_callS C d_M_isField_4 ml_M_102 mc_M_in st_M_in (c_M_in hl _ _ _ _) rfl rfl (Nat.le_of_ble_eq_true rfl) (Nat.le_of_ble_eq_true rfl) (Nat.le_of_ble_eq_true rfl) (Nat.le_of_ble_eq_true rfl) (jk_r ?_)
  exact j_zreturn C d_M_isField_7 rfl (by unfold inI; split <;> (try split) <;> decide) (by decide) (by decide) ⟨rfl, rfl, rfl⟩

set_option maxHeartbeats 4000000 in
set_option maxRecDepth 100000 in
theorem c_M_isPerson {l : Launch} (hl : l.stackTraces = false) {D : va_G} {cA : Nat → ClassId} {b n : Nat} (x : Int32) (h : AH) : Cn l D cA b y_M_isPerson k_M_isPerson 1 14 0 0 [.int x] n h (Re (some (.int (inI x 0 19))) n h) := by
  refine Cn.of (cc := b_M_isPerson) (maxL := 1) (ret := (some .boolean)) (hh := []) (by decide +kernel) hl (Or.inl ⟨rfl, rfl⟩) (Nat.le_of_ble_eq_true rfl) ?_
  intro p e s m args below meth c C
  refine j_iload_n C d_M_isPerson_0 rfl rfl ?_
  refine j_iconst (v := 0) C d_M_isPerson_1 (by decide) ?_
  refine j_bipush (v := 19) C d_M_isPerson_2 (by decide) ?_
  refine j_callS C d_M_isPerson_4 ml_M_102 mc_M_in st_M_in (c_M_in hl _ _ _ _) rfl rfl (Nat.le_of_ble_eq_true rfl) (Nat.le_of_ble_eq_true rfl) (Nat.le_of_ble_eq_true rfl) (Nat.le_of_ble_eq_true rfl) (jk_r ?_)
  exact j_zreturn C d_M_isPerson_7 rfl (by unfold inI; split <;> (try split) <;> decide) (by decide) (by decide) ⟨rfl, rfl, rfl⟩

set_option maxHeartbeats 4000000 in
set_option maxRecDepth 100000 in
theorem c_M_isReport {l : Launch} (hl : l.stackTraces = false) {D : va_G} {cA : Nat → ClassId} {b n mo : Nat} (x : Int32) (σ : Nat → Int32) (α : Nat → Nat → Int32) (h : AH) (hmo : mo + 27 < n) : Cn l D cA b y_M_isReport k_M_isReport 1 14 0 0 [.ref mo, .int x] n (ovM mo σ α h) (Re (some (.int (inI x 0 (σ 2 - 1)))) n (ovM mo σ α h)) := by
  refine Cn.of (cc := b_M_isReport) (maxL := 2) (ret := (some .boolean)) (hh := []) (by decide +kernel) hl (Or.inl ⟨rfl, rfl⟩) (Nat.le_of_ble_eq_true rfl) ?_
  intro p e s m args below meth c C
  refine j_iload_n C d_M_isReport_0 rfl rfl ?_
  refine j_iconst (v := 0) C d_M_isReport_1 (by decide) ?_
  refine j_aload_n C d_M_isReport_2 rfl rfl ?_
  refine jm_get C fl_6_99 d_M_isReport_3 hmo rfl ?_
  refine j_iconst (v := 1) C d_M_isReport_6 (by decide) ?_
  refine j_isub C d_M_isReport_7 ?_
  refine j_callS C d_M_isReport_8 ml_M_102 mc_M_in st_M_in (c_M_in hl _ _ _ _) rfl rfl (Nat.le_of_ble_eq_true rfl) (Nat.le_of_ble_eq_true rfl) (Nat.le_of_ble_eq_true rfl) (Nat.le_of_ble_eq_true rfl) (jk_r ?_)
  exact j_zreturn C d_M_isReport_11 rfl (by unfold inI; split <;> (try split) <;> decide) (by decide) (by decide) ⟨rfl, rfl, rfl⟩

set_option maxHeartbeats 4000000 in
set_option maxRecDepth 100000 in
theorem c_M_goes {l : Launch} (hl : l.stackTraces = false) {D : va_G} {cA : Nat → ClassId} {b n mo : Nat} (x y z : Int32) (σ : Nat → Int32) (α : Nat → Nat → Int32) (h : AH) (hmo : mo + 27 < n) : Cn l D cA b y_M_goes k_M_goes 0 0 0 0 [.ref mo, .int x, .int y, .int z] n (ovM mo σ α h) (Re (some (.int (bz (gsI x y z)))) n (ovM mo (upd σ 0 (gsI x y z)) α h)) := by
  refine Cn.of (cc := b_M_goes) (maxL := 4) (ret := (some .boolean)) (hh := []) (by decide +kernel) hl (Or.inl ⟨rfl, rfl⟩) (Nat.le_of_ble_eq_true rfl) ?_
  intro p e s m args below meth c C
  refine j_aload_n C d_M_goes_0 rfl rfl ?_
  refine j_iload_n C d_M_goes_1 rfl rfl ?_
  refine j_if_ne (tgt := 9) C d_M_goes_2 (by decide) (fun c2 => ?_) (fun c2 => ?_)
  · refine j_iload_n C d_M_goes_9 rfl rfl ?_
    refine j_if_ne (tgt := 17) C d_M_goes_10 (by decide) (fun c10 => ?_) (fun c10 => ?_)
    · refine j_iload_n C d_M_goes_17 rfl rfl ?_
      refine j_if_ne (tgt := 25) C d_M_goes_18 (by decide) (fun c18 => ?_) (fun c18 => ?_)
      · refine j_iconst (v := 0) C d_M_goes_25 (by decide) ?_
        refine jm_puti 0 C fp_6_96 d_M_goes_26 hmo (by decide) (by first | rfl | assumption) rfl rfl ?_
        refine j_aload_n C d_M_goes_29 rfl rfl ?_
        refine jm_get C fl_6_96 d_M_goes_30 hmo rfl ?_
        refine j_if_ne (tgt := 40) C d_M_goes_33 (by decide) (fun c33 => ?_) (fun c33 => ?_)
        · refine j_iconst (v := 0) C d_M_goes_40 (by decide) ?_
          exact j_zreturn C d_M_goes_41 rfl (by decide) (by decide) (by decide) ⟨by first | (simp [upd] at c33; done) | (simp [gsI, bz, *]; done), rfl, by simp [gsI, *]⟩
        · refine j_iconst (v := 1) C d_M_goes_36 (by decide) ?_
          refine j_goto (tgt := 41) C d_M_goes_37 (by decide) ?_
          exact j_zreturn C d_M_goes_41 rfl (by decide) (by decide) (by decide) ⟨by first | (simp [upd] at c33; done) | (simp [gsI, bz, *]; done), rfl, by simp [gsI, *]⟩
      · refine j_iconst (v := 3) C d_M_goes_21 (by decide) ?_
        refine j_goto (tgt := 26) C d_M_goes_22 (by decide) ?_
        refine jm_puti 0 C fp_6_96 d_M_goes_26 hmo (by decide) (by first | rfl | assumption) rfl rfl ?_
        refine j_aload_n C d_M_goes_29 rfl rfl ?_
        refine jm_get C fl_6_96 d_M_goes_30 hmo rfl ?_
        refine j_if_ne (tgt := 40) C d_M_goes_33 (by decide) (fun c33 => ?_) (fun c33 => ?_)
        · refine j_iconst (v := 0) C d_M_goes_40 (by decide) ?_
          exact j_zreturn C d_M_goes_41 rfl (by decide) (by decide) (by decide) ⟨by first | (simp [upd] at c33; done) | (simp [gsI, bz, *]; done), rfl, by simp [gsI, *]⟩
        · refine j_iconst (v := 1) C d_M_goes_36 (by decide) ?_
          refine j_goto (tgt := 41) C d_M_goes_37 (by decide) ?_
          exact j_zreturn C d_M_goes_41 rfl (by decide) (by decide) (by decide) ⟨by first | (simp [upd] at c33; done) | (simp [gsI, bz, *]; done), rfl, by simp [gsI, *]⟩
    · refine j_iconst (v := 2) C d_M_goes_13 (by decide) ?_
      refine j_goto (tgt := 26) C d_M_goes_14 (by decide) ?_
      refine jm_puti 0 C fp_6_96 d_M_goes_26 hmo (by decide) (by first | rfl | assumption) rfl rfl ?_
      refine j_aload_n C d_M_goes_29 rfl rfl ?_
      refine jm_get C fl_6_96 d_M_goes_30 hmo rfl ?_
      refine j_if_ne (tgt := 40) C d_M_goes_33 (by decide) (fun c33 => ?_) (fun c33 => ?_)
      · refine j_iconst (v := 0) C d_M_goes_40 (by decide) ?_
        exact j_zreturn C d_M_goes_41 rfl (by decide) (by decide) (by decide) ⟨by first | (simp [upd] at c33; done) | (simp [gsI, bz, *]; done), rfl, by simp [gsI, *]⟩
      · refine j_iconst (v := 1) C d_M_goes_36 (by decide) ?_
        refine j_goto (tgt := 41) C d_M_goes_37 (by decide) ?_
        exact j_zreturn C d_M_goes_41 rfl (by decide) (by decide) (by decide) ⟨by first | (simp [upd] at c33; done) | (simp [gsI, bz, *]; done), rfl, by simp [gsI, *]⟩
  · refine j_iconst (v := 1) C d_M_goes_5 (by decide) ?_
    refine j_goto (tgt := 26) C d_M_goes_6 (by decide) ?_
    refine jm_puti 0 C fp_6_96 d_M_goes_26 hmo (by decide) (by first | rfl | assumption) rfl rfl ?_
    refine j_aload_n C d_M_goes_29 rfl rfl ?_
    refine jm_get C fl_6_96 d_M_goes_30 hmo rfl ?_
    refine j_if_ne (tgt := 40) C d_M_goes_33 (by decide) (fun c33 => ?_) (fun c33 => ?_)
    · refine j_iconst (v := 0) C d_M_goes_40 (by decide) ?_
      exact j_zreturn C d_M_goes_41 rfl (by decide) (by decide) (by decide) ⟨by first | (simp [upd] at c33; done) | (simp [gsI, bz, *]; done), rfl, by simp [gsI, *]⟩
    · refine j_iconst (v := 1) C d_M_goes_36 (by decide) ?_
      refine j_goto (tgt := 41) C d_M_goes_37 (by decide) ?_
      exact j_zreturn C d_M_goes_41 rfl (by decide) (by decide) (by decide) ⟨by first | (simp [upd] at c33; done) | (simp [gsI, bz, *]; done), rfl, by simp [gsI, *]⟩

set_option maxHeartbeats 4000000 in
set_option maxRecDepth 100000 in
theorem c_M_place {l : Launch} (hl : l.stackTraces = false) {D : va_G} {cA : Nat → ClassId} {b n mo : Nat} (σ : Nat → Int32) (α : Nat → Nat → Int32) (h : AH) (hmo : mo + 27 < n) : Cn l D cA b y_M_place k_M_place 0 0 0 0 [.ref mo] n (ovM mo σ α h) (Re (some (.int (σ 18))) n (ovM mo (upd σ 0 0) α h)) := by
  refine Cn.of (cc := b_M_place) (maxL := 1) (ret := (some .int)) (hh := []) (by decide +kernel) hl (Or.inl ⟨rfl, rfl⟩) (Nat.le_of_ble_eq_true rfl) ?_
  intro p e s m args below meth c C
  refine j_aload_n C d_M_place_0 rfl rfl ?_
  refine j_iconst (v := 0) C d_M_place_1 (by decide) ?_
  refine jm_puti 0 C fp_6_96 d_M_place_2 hmo (by decide) (by first | rfl | assumption) rfl rfl ?_
  refine j_aload_n C d_M_place_5 rfl rfl ?_
  refine jm_get C fl_6_53 d_M_place_6 hmo rfl ?_
  exact j_ireturn C d_M_place_9 rfl (by decide) (by decide) ⟨rfl, rfl, rfl⟩

set_option maxHeartbeats 4000000 in
set_option maxRecDepth 100000 in
theorem c_M_fail {l : Launch} (hl : l.stackTraces = false) {D : va_G} {cA : Nat → ClassId} {b n mo : Nat} (x : Int32) (σ : Nat → Int32) (α : Nat → Nat → Int32) (h : AH) (hmo : mo + 27 < n) : Cn l D cA b y_M_fail k_M_fail 0 0 0 0 [.ref mo, .int x] n (ovM mo σ α h) (Re none n (ovM mo (if 0 ≤ σ 20 then σ else upd σ 20 x) α h)) := by
  refine Cn.of (cc := b_M_fail) (maxL := 2) (ret := none) (hh := []) (by decide +kernel) hl (Or.inl ⟨rfl, rfl⟩) (Nat.le_of_ble_eq_true rfl) ?_
  intro p e s m args below meth c C
  refine j_aload_n C d_M_fail_0 rfl rfl ?_
  refine jm_get C fl_6_136 d_M_fail_1 hmo rfl ?_
  refine j_if_ge (tgt := 12) C d_M_fail_4 (by decide) (fun c4 => ?_) (fun c4 => ?_)
  · exact j_vreturn C d_M_fail_12 rfl (by decide) (by decide) ⟨rfl, rfl, by simp [*]⟩
  · refine j_aload_n C d_M_fail_7 rfl rfl ?_
    refine j_iload_n C d_M_fail_8 rfl rfl ?_
    refine jm_puti 20 C fp_6_136 d_M_fail_9 hmo (by decide) (by first | rfl | assumption) rfl rfl ?_
    exact j_vreturn C d_M_fail_12 rfl (by decide) (by decide) ⟨rfl, rfl, by simp [*]⟩

set_option maxHeartbeats 4000000 in
set_option maxRecDepth 100000 in
theorem c_M_here {l : Launch} (hl : l.stackTraces = false) {D : va_G} {cA : Nat → ClassId} {b n mo : Nat} (σ : Nat → Int32) (α : Nat → Nat → Int32) (h : AH) (hmo : mo + 27 < n) (hat : ¬ σ 16 ≤ σ 19 → vp_in (σ 19) 300) : Cn l D cA b y_M_here k_M_here 0 0 0 0 [.ref mo] n (ovM mo σ α h) (Re (some (.int (if σ 16 ≤ σ 19 then -1 else α 17 (σ 19).toNatClampNeg))) n (ovM mo σ α h)) := by
  refine Cn.of (cc := b_M_here) (maxL := 1) (ret := (some .int)) (hh := []) (by decide +kernel) hl (Or.inl ⟨rfl, rfl⟩) (Nat.le_of_ble_eq_true rfl) ?_
  intro p e s m args below meth c C
  refine j_aload_n C d_M_here_0 rfl rfl ?_
  refine jm_get C fl_6_129 d_M_here_1 hmo rfl ?_
  refine j_aload_n C d_M_here_4 rfl rfl ?_
  refine jm_get C fl_6_126 d_M_here_5 hmo rfl ?_
  refine j_icmp_ge (tgt := 23) C d_M_here_8 (by decide) (fun c8 => ?_) (fun c8 => ?_)
  · refine j_iconst (v := (-1)) C d_M_here_23 (by decide) ?_
    exact j_ireturn C d_M_here_24 rfl (by decide) (by decide) ⟨by simp [*], rfl, rfl⟩
  · refine j_aload_n C d_M_here_11 rfl rfl ?_
    refine jm_get C fl_6_50 d_M_here_12 hmo rfl ?_
    refine j_aload_n C d_M_here_15 rfl rfl ?_
    refine jm_get C fl_6_129 d_M_here_16 hmo rfl ?_
    refine jm_iald C 13 d_M_here_19 (by decide) rfl hmo (hat c8) rfl ?_
    refine j_goto (tgt := 24) C d_M_here_20 (by decide) ?_
    exact j_ireturn C d_M_here_24 rfl (by decide) (by decide) ⟨by simp [*], rfl, rfl⟩

