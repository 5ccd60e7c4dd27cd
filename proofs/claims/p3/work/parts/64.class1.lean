/-! ===== the class's methods: first part; printed by program ===== -/
theorem ovX_L {xo a : Nat} {ξ : Nat → Int32} {β : Nat → Nat → Int32} {ρ : Nat → Option Nat} {u v : Nat} {cs : List AC} {h : AH} (hd : xo + 28 ≤ a) : ovL a cs (ovX xo ξ β ρ u v h) = ovX xo ξ β ρ u v (ovL a cs h) := ovL_ovL (Or.inr hd)
set_option maxHeartbeats 4000000 in
set_option maxRecDepth 100000 in
theorem c_X_requireKind_0 {l : Launch} (hl : l.stackTraces = false) {D : va_G} {cA : Nat → ClassId} {b n : Nat} (h : AH) (x : Int32) (h0 : ¬ x < 0) (h1 : x < 5) : Cn l D cA b y_X_requireKind k_X_requireKind 6 82 0 0 [.int x] n h (Re none n h) := by
  refine Cn.of (cc := b_X_requireKind) (maxL := 1) (ret := none) (hh := []) (by decide +kernel) hl (Or.inl ⟨rfl, rfl⟩) (Nat.le_of_ble_eq_true rfl) ?_
  intro p e s m args below meth c C
  refine j_iload_n C d_X_requireKind_0 rfl rfl ?_
  refine j_if_lt (tgt := 9) C d_X_requireKind_1 (by decide) (fun c1 => ?_) (fun c1 => ?_)
  · exact absurd c1 h0
  · refine j_iload_n C d_X_requireKind_4 rfl rfl ?_
    refine j_iconst (v := 5) C d_X_requireKind_5 (by decide) ?_
    refine j_icmp_lt (tgt := 20) C d_X_requireKind_6 (by decide) (fun c6 => ?_) (fun c6 => ?_)
    · exact j_vreturn C d_X_requireKind_20 rfl (by decide) (by decide) ⟨rfl, rfl, rfl⟩
    · exact absurd h1 c6

set_option maxHeartbeats 4000000 in
set_option maxRecDepth 100000 in
theorem c_X_requireKind_1 {l : Launch} (hl : l.stackTraces = false) {D : va_G} {cA : Nat → ClassId} {b n : Nat} (h : AH) (x : Int32) (hk : x < 0 ∨ ¬ x < 5) : Cn l D cA b y_X_requireKind k_X_requireKind 6 82 1 6 [.int x] n h (Th 7 n h) := by
  refine Cn.of (cc := b_X_requireKind) (maxL := 1) (ret := none) (hh := []) (by decide +kernel) hl (Or.inl ⟨rfl, rfl⟩) (Nat.le_of_ble_eq_true rfl) ?_
  intro p e s m args below meth c C
  refine j_iload_n C d_X_requireKind_0 rfl rfl ?_
  refine j_if_lt (tgt := 9) C d_X_requireKind_1 (by decide) (fun c1 => ?_) (fun c1 => ?_)
  · exact j_throwSW (text := "no such kind") C th_7 (by decide +kernel) rfl d_X_requireKind_9 d_X_requireKind_12 d_X_requireKind_13 d_X_requireKind_16 d_X_requireKind_19 (Nat.le_of_ble_eq_true rfl) (Nat.le_of_ble_eq_true rfl) (Nat.le_of_ble_eq_true rfl) (Nat.le_of_ble_eq_true rfl) (Nat.le_of_ble_eq_true rfl) (Nat.le_of_ble_eq_true rfl) ⟨rfl, rfl, rfl⟩
  · refine j_iload_n C d_X_requireKind_4 rfl rfl ?_
    refine j_iconst (v := 5) C d_X_requireKind_5 (by decide) ?_
    refine j_icmp_lt (tgt := 20) C d_X_requireKind_6 (by decide) (fun c6 => ?_) (fun c6 => ?_)
    · exact absurd c6 (hk.resolve_left c1)
    · exact j_throwSW (text := "no such kind") C th_7 (by decide +kernel) rfl d_X_requireKind_9 d_X_requireKind_12 d_X_requireKind_13 d_X_requireKind_16 d_X_requireKind_19 (Nat.le_of_ble_eq_true rfl) (Nat.le_of_ble_eq_true rfl) (Nat.le_of_ble_eq_true rfl) (Nat.le_of_ble_eq_true rfl) (Nat.le_of_ble_eq_true rfl) (Nat.le_of_ble_eq_true rfl) ⟨rfl, rfl, rfl⟩

set_option maxHeartbeats 4000000 in
set_option maxRecDepth 100000 in
theorem c_X_requireField_0 {l : Launch} (hl : l.stackTraces = false) {D : va_G} {cA : Nat → ClassId} {b n : Nat} (h : AH) (x : Int32) (h0 : ¬ x < 0) (h1 : x < 20) : Cn l D cA b y_X_requireField k_X_requireField 6 82 0 0 [.int x] n h (Re none n h) := by
  refine Cn.of (cc := b_X_requireField) (maxL := 1) (ret := none) (hh := []) (by decide +kernel) hl (Or.inl ⟨rfl, rfl⟩) (Nat.le_of_ble_eq_true rfl) ?_
  intro p e s m args below meth c C
  refine j_iload_n C d_X_requireField_0 rfl rfl ?_
  refine j_if_lt (tgt := 10) C d_X_requireField_1 (by decide) (fun c1 => ?_) (fun c1 => ?_)
  · exact absurd c1 h0
  · refine j_iload_n C d_X_requireField_4 rfl rfl ?_
    refine j_bipush (v := 20) C d_X_requireField_5 (by decide) ?_
    refine j_icmp_lt (tgt := 21) C d_X_requireField_7 (by decide) (fun c7 => ?_) (fun c7 => ?_)
    · exact j_vreturn C d_X_requireField_21 rfl (by decide) (by decide) ⟨rfl, rfl, rfl⟩
    · exact absurd h1 c7

set_option maxHeartbeats 4000000 in
set_option maxRecDepth 100000 in
theorem c_X_requireField_1 {l : Launch} (hl : l.stackTraces = false) {D : va_G} {cA : Nat → ClassId} {b n : Nat} (h : AH) (x : Int32) (hk : x < 0 ∨ ¬ x < 20) : Cn l D cA b y_X_requireField k_X_requireField 6 82 1 6 [.int x] n h (Th 7 n h) := by
  refine Cn.of (cc := b_X_requireField) (maxL := 1) (ret := none) (hh := []) (by decide +kernel) hl (Or.inl ⟨rfl, rfl⟩) (Nat.le_of_ble_eq_true rfl) ?_
  intro p e s m args below meth c C
  refine j_iload_n C d_X_requireField_0 rfl rfl ?_
  refine j_if_lt (tgt := 10) C d_X_requireField_1 (by decide) (fun c1 => ?_) (fun c1 => ?_)
  · exact j_throwSW (text := "no such field") C th_7 (by decide +kernel) rfl d_X_requireField_10 d_X_requireField_13 d_X_requireField_14 d_X_requireField_17 d_X_requireField_20 (Nat.le_of_ble_eq_true rfl) (Nat.le_of_ble_eq_true rfl) (Nat.le_of_ble_eq_true rfl) (Nat.le_of_ble_eq_true rfl) (Nat.le_of_ble_eq_true rfl) (Nat.le_of_ble_eq_true rfl) ⟨rfl, rfl, rfl⟩
  · refine j_iload_n C d_X_requireField_4 rfl rfl ?_
    refine j_bipush (v := 20) C d_X_requireField_5 (by decide) ?_
    refine j_icmp_lt (tgt := 21) C d_X_requireField_7 (by decide) (fun c7 => ?_) (fun c7 => ?_)
    · exact absurd c7 (hk.resolve_left c1)
    · exact j_throwSW (text := "no such field") C th_7 (by decide +kernel) rfl d_X_requireField_10 d_X_requireField_13 d_X_requireField_14 d_X_requireField_17 d_X_requireField_20 (Nat.le_of_ble_eq_true rfl) (Nat.le_of_ble_eq_true rfl) (Nat.le_of_ble_eq_true rfl) (Nat.le_of_ble_eq_true rfl) (Nat.le_of_ble_eq_true rfl) (Nat.le_of_ble_eq_true rfl) ⟨rfl, rfl, rfl⟩

set_option maxHeartbeats 4000000 in
set_option maxRecDepth 100000 in
theorem c_X_requirePerson_0 {l : Launch} (hl : l.stackTraces = false) {D : va_G} {cA : Nat → ClassId} {b n : Nat} (h : AH) (x : Int32) (h0 : ¬ x < 0) (h1 : x < 20) : Cn l D cA b y_X_requirePerson k_X_requirePerson 6 82 0 0 [.int x] n h (Re none n h) := by
  refine Cn.of (cc := b_X_requirePerson) (maxL := 1) (ret := none) (hh := []) (by decide +kernel) hl (Or.inl ⟨rfl, rfl⟩) (Nat.le_of_ble_eq_true rfl) ?_
  intro p e s m args below meth c C
  refine j_iload_n C d_X_requirePerson_0 rfl rfl ?_
  refine j_if_lt (tgt := 10) C d_X_requirePerson_1 (by decide) (fun c1 => ?_) (fun c1 => ?_)
  · exact absurd c1 h0
  · refine j_iload_n C d_X_requirePerson_4 rfl rfl ?_
    refine j_bipush (v := 20) C d_X_requirePerson_5 (by decide) ?_
    refine j_icmp_lt (tgt := 21) C d_X_requirePerson_7 (by decide) (fun c7 => ?_) (fun c7 => ?_)
    · exact j_vreturn C d_X_requirePerson_21 rfl (by decide) (by decide) ⟨rfl, rfl, rfl⟩
    · exact absurd h1 c7

set_option maxHeartbeats 4000000 in
set_option maxRecDepth 100000 in
theorem c_X_requirePerson_1 {l : Launch} (hl : l.stackTraces = false) {D : va_G} {cA : Nat → ClassId} {b n : Nat} (h : AH) (x : Int32) (hk : x < 0 ∨ ¬ x < 20) : Cn l D cA b y_X_requirePerson k_X_requirePerson 6 82 1 6 [.int x] n h (Th 7 n h) := by
  refine Cn.of (cc := b_X_requirePerson) (maxL := 1) (ret := none) (hh := []) (by decide +kernel) hl (Or.inl ⟨rfl, rfl⟩) (Nat.le_of_ble_eq_true rfl) ?_
  intro p e s m args below meth c C
  refine j_iload_n C d_X_requirePerson_0 rfl rfl ?_
  refine j_if_lt (tgt := 10) C d_X_requirePerson_1 (by decide) (fun c1 => ?_) (fun c1 => ?_)
  · exact j_throwSW (text := "no such person") C th_7 (by decide +kernel) rfl d_X_requirePerson_10 d_X_requirePerson_13 d_X_requirePerson_14 d_X_requirePerson_17 d_X_requirePerson_20 (Nat.le_of_ble_eq_true rfl) (Nat.le_of_ble_eq_true rfl) (Nat.le_of_ble_eq_true rfl) (Nat.le_of_ble_eq_true rfl) (Nat.le_of_ble_eq_true rfl) (Nat.le_of_ble_eq_true rfl) ⟨rfl, rfl, rfl⟩
  · refine j_iload_n C d_X_requirePerson_4 rfl rfl ?_
    refine j_bipush (v := 20) C d_X_requirePerson_5 (by decide) ?_
    refine j_icmp_lt (tgt := 21) C d_X_requirePerson_7 (by decide) (fun c7 => ?_) (fun c7 => ?_)
    · exact absurd c7 (hk.resolve_left c1)
    · exact j_throwSW (text := "no such person") C th_7 (by decide +kernel) rfl d_X_requirePerson_10 d_X_requirePerson_13 d_X_requirePerson_14 d_X_requirePerson_17 d_X_requirePerson_20 (Nat.le_of_ble_eq_true rfl) (Nat.le_of_ble_eq_true rfl) (Nat.le_of_ble_eq_true rfl) (Nat.le_of_ble_eq_true rfl) (Nat.le_of_ble_eq_true rfl) (Nat.le_of_ble_eq_true rfl) ⟨rfl, rfl, rfl⟩

set_option maxHeartbeats 4000000 in
set_option maxRecDepth 100000 in
theorem c_X_requireRoomForReport_0 {l : Launch} (hl : l.stackTraces = false) {D : va_G} {cA : Nat → ClassId} {b n : Nat} {xo : Nat} {ξ : Nat → Int32} {β : Nat → Nat → Int32} {ρ : Nat → Option Nat} {u v : Nat} (h : AH) (hn : xo + 28 ≤ n) (h0 : ξ 0 < 30) : Cn l D cA b y_X_requireRoomForReport k_X_requireRoomForReport 6 82 0 0 [.ref xo] n (ovX xo ξ β ρ u v h) (Re none n (ovX xo ξ β ρ u v h)) := by
  refine Cn.of (cc := b_X_requireRoomForReport) (maxL := 1) (ret := none) (hh := []) (by decide +kernel) hl (Or.inl ⟨rfl, rfl⟩) (Nat.le_of_ble_eq_true rfl) ?_
  intro p e s m args below meth c C
  refine j_aload_n C d_X_requireRoomForReport_0 rfl rfl ?_
  refine jx_get 0 C fl_0_15 d_X_requireRoomForReport_1 hn rfl rfl ?_
  refine j_bipush (v := 30) C d_X_requireRoomForReport_4 (by decide) ?_
  refine j_icmp_lt (tgt := 20) C d_X_requireRoomForReport_6 (by decide) (fun c6 => ?_) (fun c6 => ?_)
  · exact j_vreturn C d_X_requireRoomForReport_20 rfl (by decide) (by decide) ⟨rfl, rfl, rfl⟩
  · exact absurd h0 c6

set_option maxHeartbeats 4000000 in
set_option maxRecDepth 100000 in
theorem c_X_requireRoomForReport_1 {l : Launch} (hl : l.stackTraces = false) {D : va_G} {cA : Nat → ClassId} {b n : Nat} {xo : Nat} {ξ : Nat → Int32} {β : Nat → Nat → Int32} {ρ : Nat → Option Nat} {u v : Nat} (h : AH) (hn : xo + 28 ≤ n) (h0 : ¬ ξ 0 < 30) : Cn l D cA b y_X_requireRoomForReport k_X_requireRoomForReport 6 82 1 6 [.ref xo] n (ovX xo ξ β ρ u v h) (Th 10 n (ovX xo ξ β ρ u v h)) := by
  refine Cn.of (cc := b_X_requireRoomForReport) (maxL := 1) (ret := none) (hh := []) (by decide +kernel) hl (Or.inl ⟨rfl, rfl⟩) (Nat.le_of_ble_eq_true rfl) ?_
  intro p e s m args below meth c C
  refine j_aload_n C d_X_requireRoomForReport_0 rfl rfl ?_
  refine jx_get 0 C fl_0_15 d_X_requireRoomForReport_1 hn rfl rfl ?_
  refine j_bipush (v := 30) C d_X_requireRoomForReport_4 (by decide) ?_
  refine j_icmp_lt (tgt := 20) C d_X_requireRoomForReport_6 (by decide) (fun c6 => ?_) (fun c6 => ?_)
  · exact absurd c6 h0
  · exact j_throwSW (text := "there are 30 reports") C th_10 (by decide +kernel) rfl d_X_requireRoomForReport_9 d_X_requireRoomForReport_12 d_X_requireRoomForReport_13 d_X_requireRoomForReport_16 d_X_requireRoomForReport_19 (Nat.le_of_ble_eq_true rfl) (Nat.le_of_ble_eq_true rfl) (Nat.le_of_ble_eq_true rfl) (Nat.le_of_ble_eq_true rfl) (Nat.le_of_ble_eq_true rfl) (Nat.le_of_ble_eq_true rfl) ⟨rfl, rfl, rfl⟩

set_option maxHeartbeats 4000000 in
set_option maxRecDepth 100000 in
theorem c_X_known_1 {l : Launch} (hl : l.stackTraces = false) {D : va_G} {cA : Nat → ClassId} {b n : Nat} {xo : Nat} {ξ : Nat → Int32} {β : Nat → Nat → Int32} {ρ : Nat → Option Nat} {u v : Nat} (h : AH) (hn : xo + 28 ≤ n) (x : Int32) (hk : x < 0 ∨ ¬ x < ξ 0) : Cn l D cA b y_X_known k_X_known 6 82 1 6 [.ref xo, .int x] n (ovX xo ξ β ρ u v h) (Th 7 n (ovX xo ξ β ρ u v h)) := by
  refine Cn.of (cc := b_X_known) (maxL := 3) (ret := (some (.object "ReportChecks2$Report"))) (hh := []) (by decide +kernel) hl (Or.inl ⟨rfl, rfl⟩) (Nat.le_of_ble_eq_true rfl) ?_
  intro p e s m args below meth c C
  refine j_iload_n C d_X_known_0 rfl rfl ?_
  refine j_if_lt (tgt := 12) C d_X_known_1 (by decide) (fun c1 => ?_) (fun c1 => ?_)
  · exact j_throwSW (text := "no such report") C th_7 (by decide +kernel) rfl d_X_known_12 d_X_known_15 d_X_known_16 d_X_known_19 d_X_known_22 (Nat.le_of_ble_eq_true rfl) (Nat.le_of_ble_eq_true rfl) (Nat.le_of_ble_eq_true rfl) (Nat.le_of_ble_eq_true rfl) (Nat.le_of_ble_eq_true rfl) (Nat.le_of_ble_eq_true rfl) ⟨rfl, rfl, rfl⟩
  · refine j_iload_n C d_X_known_4 rfl rfl ?_
    refine j_aload_n C d_X_known_5 rfl rfl ?_
    refine jx_get 0 C fl_0_15 d_X_known_6 hn rfl rfl ?_
    refine j_icmp_lt (tgt := 23) C d_X_known_9 (by decide) (fun c9 => ?_) (fun c9 => ?_)
    · exact absurd c9 (hk.resolve_left c1)
    · exact j_throwSW (text := "no such report") C th_7 (by decide +kernel) rfl d_X_known_12 d_X_known_15 d_X_known_16 d_X_known_19 d_X_known_22 (Nat.le_of_ble_eq_true rfl) (Nat.le_of_ble_eq_true rfl) (Nat.le_of_ble_eq_true rfl) (Nat.le_of_ble_eq_true rfl) (Nat.le_of_ble_eq_true rfl) (Nat.le_of_ble_eq_true rfl) ⟨rfl, rfl, rfl⟩

def xch (a f on : Int32) : Int32 := if on = 0 then a &&& (1 <<< (f &&& 31) ^^^ -1) else a ||| 1 <<< (f &&& 31)
set_option maxHeartbeats 4000000 in
set_option maxRecDepth 100000 in
theorem c_X_changed {l : Launch} (hl : l.stackTraces = false) {D : va_G} {cA : Nat → ClassId} {b n : Nat} (h : AH) (a f on : Int32) : Cn l D cA b y_X_changed k_X_changed 0 0 0 0 [.int a, .int f, .int on] n h (Re (some (.int (xch a f on))) n h) := by
  refine Cn.of (cc := b_X_changed) (maxL := 3) (ret := (some .int)) (hh := []) (by decide +kernel) hl (Or.inl ⟨rfl, rfl⟩) (Nat.le_of_ble_eq_true rfl) ?_
  intro p e s m args below meth c C
  refine j_iload_n C d_X_changed_0 rfl rfl ?_
  refine j_if_eq (tgt := 12) C d_X_changed_1 (by decide) (fun c1 => ?_) (fun c1 => ?_)
  · refine j_iload_n C d_X_changed_12 rfl rfl ?_
    refine j_iconst (v := 1) C d_X_changed_13 (by decide) ?_
    refine j_iload_n C d_X_changed_14 rfl rfl ?_
    refine j_ishl C d_X_changed_15 ?_
    refine j_iconst (v := (-1)) C d_X_changed_16 (by decide) ?_
    refine j_ixor C d_X_changed_17 ?_
    refine j_iand C d_X_changed_18 ?_
    exact j_ireturn C d_X_changed_19 rfl (by decide) (by decide) ⟨by unfold xch; simp only [c1, if_true, if_false], rfl, rfl⟩
  · refine j_iload_n C d_X_changed_4 rfl rfl ?_
    refine j_iconst (v := 1) C d_X_changed_5 (by decide) ?_
    refine j_iload_n C d_X_changed_6 rfl rfl ?_
    refine j_ishl C d_X_changed_7 ?_
    refine j_ior C d_X_changed_8 ?_
    refine j_goto (tgt := 19) C d_X_changed_9 (by decide) ?_
    exact j_ireturn C d_X_changed_19 rfl (by decide) (by decide) ⟨by unfold xch; simp only [c1, if_true, if_false], rfl, rfl⟩

set_option maxHeartbeats 4000000 in
set_option maxRecDepth 100000 in
theorem c_X_keep {l : Launch} (hl : l.stackTraces = false) {D : va_G} {cA : Nat → ClassId} {b n : Nat} {xo : Nat} {ξ : Nat → Int32} {β : Nat → Nat → Int32} {ρ : Nat → Option Nat} {u v : Nat} (h : AH) (hn : xo + 28 ≤ n) (r : Nat) {fs : List Value} (hr : xo + 28 ≤ r) (hrn : r < n) (hx : h r = .inr (5, fs)) (hi : vp_in (ξ 0) 30) : Cn l D cA b y_X_keep k_X_keep 0 0 0 0 [.ref xo, .ref r] n (ovX xo ξ β ρ u v h) (Re (some (.int (ξ 0))) n (ovX xo (upd ξ 0 (ξ 0 + 1)) β (va_up ρ (ξ 0).toNatClampNeg (some r)) u v h)) := by
  refine Cn.of (cc := b_X_keep) (maxL := 3) (ret := (some .int)) (hh := []) (by decide +kernel) hl (Or.inl ⟨rfl, rfl⟩) (Nat.le_of_ble_eq_true rfl) ?_
  intro p e s m args below meth c C
  refine j_aload_n C d_X_keep_0 rfl rfl ?_
  refine jx_get 0 C fl_0_15 d_X_keep_1 hn rfl rfl ?_
  refine j_istore_n C d_X_keep_4 rfl (by decide) rfl ?_
  refine j_aload_n C d_X_keep_5 rfl rfl ?_
  refine jx_get 0 C fl_0_11 d_X_keep_6 hn rfl rfl ?_
  refine j_iload_n C d_X_keep_9 rfl rfl ?_
  refine j_aload_n C d_X_keep_10 rfl rfl ?_
  refine jx_aast C d_X_keep_11 hn hr hrn hx rfl hi ?_
  refine j_aload_n C d_X_keep_12 rfl rfl ?_
  refine j_dup C d_X_keep_13 rfl ?_
  refine jx_get 0 C fl_0_15 d_X_keep_14 hn rfl rfl ?_
  refine j_iconst (v := 1) C d_X_keep_17 (by decide) ?_
  refine j_iadd C d_X_keep_18 ?_
  refine jx_puti 0 0 C fp_0_15 d_X_keep_19 hn rfl (Nat.le_of_ble_eq_true rfl) rfl rfl rfl ?_
  refine j_iload_n C d_X_keep_22 rfl rfl ?_
  exact j_ireturn C d_X_keep_23 rfl (by decide) (by decide) ⟨rfl, rfl, rfl⟩

set_option maxHeartbeats 4000000 in
set_option maxRecDepth 100000 in
theorem c_X_field_u {l : Launch} (hl : l.stackTraces = false) {D : va_G} {cA : Nat → ClassId} {b n : Nat} {xo : Nat} {ξ : Nat → Int32} {β : Nat → Nat → Int32} {ρ : Nat → Option Nat} {u v : Nat} (h : AH) (hn : xo + 28 ≤ n) (r p1 p2 : Int32) (hk : r < 0 ∨ ¬ r < ξ 0) : Cn l D cA b y_X_field k_X_field 7 96 1 6 [.ref xo, .int r, .int p1, .int p2] n (ovX xo ξ β ρ u v h) (Th 7 n (ovX xo ξ β ρ u v h)) := by
  refine Cn.of (cc := b_X_field) (maxL := 5) (ret := none) (hh := []) (by decide +kernel) hl (Or.inl ⟨rfl, rfl⟩) (Nat.le_of_ble_eq_true rfl) ?_
  intro p e s m args below meth c C
  refine j_aload_n C d_X_field_0 rfl rfl ?_
  refine j_iload_n C d_X_field_1 rfl rfl ?_
  exact j_callV C d_X_field_2 ml_X_103 mc_X_known in_X_known rfl se_X_known (by omega) (ovX_c (o := 0) rfl) (c_X_known_1 hl h hn r hk) rfl rfl (Nat.le_of_ble_eq_true rfl) (Nat.le_of_ble_eq_true rfl) (Nat.le_of_ble_eq_true rfl) (Nat.le_of_ble_eq_true rfl) (jk_x C rfl (Nat.le_of_ble_eq_true rfl) (Nat.le_of_ble_eq_true rfl) ⟨rfl, rfl, rfl⟩)

set_option maxHeartbeats 4000000 in
set_option maxRecDepth 100000 in
theorem c_X_act_u {l : Launch} (hl : l.stackTraces = false) {D : va_G} {cA : Nat → ClassId} {b n : Nat} {xo : Nat} {ξ : Nat → Int32} {β : Nat → Nat → Int32} {ρ : Nat → Option Nat} {u v : Nat} (h : AH) (hn : xo + 28 ≤ n) (r p1 p2 : Int32) (hk : r < 0 ∨ ¬ r < ξ 0) : Cn l D cA b y_X_act k_X_act 7 96 1 6 [.ref xo, .int r, .int p1, .int p2] n (ovX xo ξ β ρ u v h) (Th 7 n (ovX xo ξ β ρ u v h)) := by
  refine Cn.of (cc := b_X_act) (maxL := 5) (ret := (some .boolean)) (hh := []) (by decide +kernel) hl (Or.inl ⟨rfl, rfl⟩) (Nat.le_of_ble_eq_true rfl) ?_
  intro p e s m args below meth c C
  refine j_aload_n C d_X_act_0 rfl rfl ?_
  refine j_iload_n C d_X_act_1 rfl rfl ?_
  exact j_callV C d_X_act_2 ml_X_103 mc_X_known in_X_known rfl se_X_known (by omega) (ovX_c (o := 0) rfl) (c_X_known_1 hl h hn r hk) rfl rfl (Nat.le_of_ble_eq_true rfl) (Nat.le_of_ble_eq_true rfl) (Nat.le_of_ble_eq_true rfl) (Nat.le_of_ble_eq_true rfl) (jk_x C rfl (Nat.le_of_ble_eq_true rfl) (Nat.le_of_ble_eq_true rfl) ⟨rfl, rfl, rfl⟩)

set_option maxHeartbeats 4000000 in
set_option maxRecDepth 100000 in
theorem c_X_inside_u {l : Launch} (hl : l.stackTraces = false) {D : va_G} {cA : Nat → ClassId} {b n : Nat} {xo : Nat} {ξ : Nat → Int32} {β : Nat → Nat → Int32} {ρ : Nat → Option Nat} {u v : Nat} (h : AH) (hn : xo + 28 ≤ n) (r p1 : Int32) (hk : r < 0 ∨ ¬ r < ξ 0) : Cn l D cA b y_X_inside k_X_inside 7 96 1 6 [.ref xo, .int r, .int p1] n (ovX xo ξ β ρ u v h) (Th 7 n (ovX xo ξ β ρ u v h)) := by
  refine Cn.of (cc := b_X_inside) (maxL := 4) (ret := none) (hh := []) (by decide +kernel) hl (Or.inl ⟨rfl, rfl⟩) (Nat.le_of_ble_eq_true rfl) ?_
  intro p e s m args below meth c C
  refine j_aload_n C d_X_inside_0 rfl rfl ?_
  refine j_iload_n C d_X_inside_1 rfl rfl ?_
  exact j_callV C d_X_inside_2 ml_X_103 mc_X_known in_X_known rfl se_X_known (by omega) (ovX_c (o := 0) rfl) (c_X_known_1 hl h hn r hk) rfl rfl (Nat.le_of_ble_eq_true rfl) (Nat.le_of_ble_eq_true rfl) (Nat.le_of_ble_eq_true rfl) (Nat.le_of_ble_eq_true rfl) (jk_x C rfl (Nat.le_of_ble_eq_true rfl) (Nat.le_of_ble_eq_true rfl) ⟨rfl, rfl, rfl⟩)

set_option maxHeartbeats 4000000 in
set_option maxRecDepth 100000 in
theorem c_X_check_u {l : Launch} (hl : l.stackTraces = false) {D : va_G} {cA : Nat → ClassId} {b n : Nat} {xo : Nat} {ξ : Nat → Int32} {β : Nat → Nat → Int32} {ρ : Nat → Option Nat} {u v : Nat} (h : AH) (hn : xo + 28 ≤ n) (r : Int32) (hk : r < 0 ∨ ¬ r < ξ 0) : Cn l D cA b y_X_check k_X_check 7 97 1 6 [.ref xo, .int r] n (ovX xo ξ β ρ u v h) (Th 7 n (ovX xo ξ β ρ u v h)) := by
  refine Cn.of (cc := b_X_check) (maxL := 2) (ret := (some .int)) (hh := []) (by decide +kernel) hl (Or.inl ⟨rfl, rfl⟩) (Nat.le_of_ble_eq_true rfl) ?_
  intro p e s m args below meth c C
  refine j_aload_n C d_X_check_0 rfl rfl ?_
  refine j_aload_n C d_X_check_1 rfl rfl ?_
  refine j_iload_n C d_X_check_2 rfl rfl ?_
  exact j_callV C d_X_check_3 ml_X_103 mc_X_known in_X_known rfl se_X_known (by omega) (ovX_c (o := 0) rfl) (c_X_known_1 hl h hn r hk) rfl rfl (Nat.le_of_ble_eq_true rfl) (Nat.le_of_ble_eq_true rfl) (Nat.le_of_ble_eq_true rfl) (Nat.le_of_ble_eq_true rfl) (jk_x C rfl (Nat.le_of_ble_eq_true rfl) (Nat.le_of_ble_eq_true rfl) ⟨rfl, rfl, rfl⟩)

set_option maxHeartbeats 4000000 in
set_option maxRecDepth 100000 in
theorem c_X_put_u {l : Launch} (hl : l.stackTraces = false) {D : va_G} {cA : Nat → ClassId} {b n : Nat} {xo : Nat} {ξ : Nat → Int32} {β : Nat → Nat → Int32} {ρ : Nat → Option Nat} {u v : Nat} (h : AH) (hn : xo + 28 ≤ n) (r p1 : Int32) (hk : r < 0 ∨ ¬ r < ξ 0) : Cn l D cA b y_X_put k_X_put 7 96 1 6 [.ref xo, .int r, .int p1] n (ovX xo ξ β ρ u v h) (Th 7 n (ovX xo ξ β ρ u v h)) := by
  refine Cn.of (cc := b_X_put) (maxL := 4) (ret := (some .int)) (hh := []) (by decide +kernel) hl (Or.inl ⟨rfl, rfl⟩) (Nat.le_of_ble_eq_true rfl) ?_
  intro p e s m args below meth c C
  refine j_aload_n C d_X_put_0 rfl rfl ?_
  refine j_iload_n C d_X_put_1 rfl rfl ?_
  exact j_callV C d_X_put_2 ml_X_103 mc_X_known in_X_known rfl se_X_known (by omega) (ovX_c (o := 0) rfl) (c_X_known_1 hl h hn r hk) rfl rfl (Nat.le_of_ble_eq_true rfl) (Nat.le_of_ble_eq_true rfl) (Nat.le_of_ble_eq_true rfl) (Nat.le_of_ble_eq_true rfl) (jk_x C rfl (Nat.le_of_ble_eq_true rfl) (Nat.le_of_ble_eq_true rfl) ⟨rfl, rfl, rfl⟩)

set_option maxHeartbeats 4000000 in
set_option maxRecDepth 100000 in
theorem c_X_edition_u {l : Launch} (hl : l.stackTraces = false) {D : va_G} {cA : Nat → ClassId} {b n : Nat} {xo : Nat} {ξ : Nat → Int32} {β : Nat → Nat → Int32} {ρ : Nat → Option Nat} {u v : Nat} (h : AH) (hn : xo + 28 ≤ n) (r : Int32) (hk : r < 0 ∨ ¬ r < ξ 0) : Cn l D cA b y_X_edition k_X_edition 7 96 3 34 [.ref xo, .int r] n (ovX xo ξ β ρ u v h) (Th 7 n (ovX xo ξ β ρ u v h)) := by
  refine Cn.of (cc := b_X_edition) (maxL := 4) (ret := (some .int)) (hh := []) (by decide +kernel) hl (Or.inl ⟨rfl, rfl⟩) (Nat.le_of_ble_eq_true rfl) ?_
  intro p e s m args below meth c C
  refine j_aload_n C d_X_edition_0 rfl rfl ?_
  refine j_iload_n C d_X_edition_1 rfl rfl ?_
  exact j_callV C d_X_edition_2 ml_X_103 mc_X_known in_X_known rfl se_X_known (by omega) (ovX_c (o := 0) rfl) (c_X_known_1 hl h hn r hk) rfl rfl (Nat.le_of_ble_eq_true rfl) (Nat.le_of_ble_eq_true rfl) (Nat.le_of_ble_eq_true rfl) (Nat.le_of_ble_eq_true rfl) (jk_x C rfl (Nat.le_of_ble_eq_true rfl) (Nat.le_of_ble_eq_true rfl) ⟨rfl, rfl, rfl⟩)

set_option maxHeartbeats 4000000 in
set_option maxRecDepth 100000 in
theorem c_X_fault_u {l : Launch} (hl : l.stackTraces = false) {D : va_G} {cA : Nat → ClassId} {b n : Nat} {xo : Nat} {ξ : Nat → Int32} {β : Nat → Nat → Int32} {ρ : Nat → Option Nat} {u v : Nat} (h : AH) (hn : xo + 28 ≤ n) (r p1 : Int32) (hk : r < 0 ∨ ¬ r < ξ 0) : Cn l D cA b y_X_fault k_X_fault 7 96 1 6 [.ref xo, .int r, .int p1] n (ovX xo ξ β ρ u v h) (Th 7 n (ovX xo ξ β ρ u v h)) := by
  refine Cn.of (cc := b_X_fault) (maxL := 4) (ret := none) (hh := []) (by decide +kernel) hl (Or.inl ⟨rfl, rfl⟩) (Nat.le_of_ble_eq_true rfl) ?_
  intro p e s m args below meth c C
  refine j_aload_n C d_X_fault_0 rfl rfl ?_
  refine j_iload_n C d_X_fault_1 rfl rfl ?_
  exact j_callV C d_X_fault_2 ml_X_103 mc_X_known in_X_known rfl se_X_known (by omega) (ovX_c (o := 0) rfl) (c_X_known_1 hl h hn r hk) rfl rfl (Nat.le_of_ble_eq_true rfl) (Nat.le_of_ble_eq_true rfl) (Nat.le_of_ble_eq_true rfl) (Nat.le_of_ble_eq_true rfl) (jk_x C rfl (Nat.le_of_ble_eq_true rfl) (Nat.le_of_ble_eq_true rfl) ⟨rfl, rfl, rfl⟩)

set_option maxHeartbeats 4000000 in
set_option maxRecDepth 100000 in
theorem c_X_code_u {l : Launch} (hl : l.stackTraces = false) {D : va_G} {cA : Nat → ClassId} {b n : Nat} {xo : Nat} {ξ : Nat → Int32} {β : Nat → Nat → Int32} {ρ : Nat → Option Nat} {u v : Nat} (h : AH) (hn : xo + 28 ≤ n) (r p1 : Int32) (hk : r < 0 ∨ ¬ r < ξ 0) : Cn l D cA b y_X_code k_X_code 7 96 1 6 [.ref xo, .int r, .int p1] n (ovX xo ξ β ρ u v h) (Th 7 n (ovX xo ξ β ρ u v h)) := by
  refine Cn.of (cc := b_X_code) (maxL := 4) (ret := (some .int)) (hh := []) (by decide +kernel) hl (Or.inl ⟨rfl, rfl⟩) (Nat.le_of_ble_eq_true rfl) ?_
  intro p e s m args below meth c C
  refine j_aload_n C d_X_code_0 rfl rfl ?_
  refine j_iload_n C d_X_code_1 rfl rfl ?_
  exact j_callV C d_X_code_2 ml_X_103 mc_X_known in_X_known rfl se_X_known (by omega) (ovX_c (o := 0) rfl) (c_X_known_1 hl h hn r hk) rfl rfl (Nat.le_of_ble_eq_true rfl) (Nat.le_of_ble_eq_true rfl) (Nat.le_of_ble_eq_true rfl) (Nat.le_of_ble_eq_true rfl) (jk_x C rfl (Nat.le_of_ble_eq_true rfl) (Nat.le_of_ble_eq_true rfl) ⟨rfl, rfl, rfl⟩)

set_option maxHeartbeats 4000000 in
set_option maxRecDepth 100000 in
theorem c_X_reportAt_u {l : Launch} (hl : l.stackTraces = false) {D : va_G} {cA : Nat → ClassId} {b n : Nat} {xo : Nat} {ξ : Nat → Int32} {β : Nat → Nat → Int32} {ρ : Nat → Option Nat} {u v : Nat} (h : AH) (hn : xo + 28 ≤ n) (r p1 : Int32) (hk : r < 0 ∨ ¬ r < ξ 0) : Cn l D cA b y_X_reportAt k_X_reportAt 7 96 1 6 [.ref xo, .int r, .int p1] n (ovX xo ξ β ρ u v h) (Th 7 n (ovX xo ξ β ρ u v h)) := by
  refine Cn.of (cc := b_X_reportAt) (maxL := 4) (ret := (some .int)) (hh := []) (by decide +kernel) hl (Or.inl ⟨rfl, rfl⟩) (Nat.le_of_ble_eq_true rfl) ?_
  intro p e s m args below meth c C
  refine j_aload_n C d_X_reportAt_0 rfl rfl ?_
  refine j_iload_n C d_X_reportAt_1 rfl rfl ?_
  exact j_callV C d_X_reportAt_2 ml_X_103 mc_X_known in_X_known rfl se_X_known (by omega) (ovX_c (o := 0) rfl) (c_X_known_1 hl h hn r hk) rfl rfl (Nat.le_of_ble_eq_true rfl) (Nat.le_of_ble_eq_true rfl) (Nat.le_of_ble_eq_true rfl) (Nat.le_of_ble_eq_true rfl) (jk_x C rfl (Nat.le_of_ble_eq_true rfl) (Nat.le_of_ble_eq_true rfl) ⟨rfl, rfl, rfl⟩)

set_option maxHeartbeats 4000000 in
set_option maxRecDepth 100000 in
theorem c_X_value_u {l : Launch} (hl : l.stackTraces = false) {D : va_G} {cA : Nat → ClassId} {b n : Nat} {xo : Nat} {ξ : Nat → Int32} {β : Nat → Nat → Int32} {ρ : Nat → Option Nat} {u v : Nat} (h : AH) (hn : xo + 28 ≤ n) (r p1 : Int32) (hk : r < 0 ∨ ¬ r < ξ 0) : Cn l D cA b y_X_value k_X_value 7 96 1 6 [.ref xo, .int r, .int p1] n (ovX xo ξ β ρ u v h) (Th 7 n (ovX xo ξ β ρ u v h)) := by
  refine Cn.of (cc := b_X_value) (maxL := 4) (ret := (some .int)) (hh := []) (by decide +kernel) hl (Or.inl ⟨rfl, rfl⟩) (Nat.le_of_ble_eq_true rfl) ?_
  intro p e s m args below meth c C
  refine j_aload_n C d_X_value_0 rfl rfl ?_
  refine j_iload_n C d_X_value_1 rfl rfl ?_
  exact j_callV C d_X_value_2 ml_X_103 mc_X_known in_X_known rfl se_X_known (by omega) (ovX_c (o := 0) rfl) (c_X_known_1 hl h hn r hk) rfl rfl (Nat.le_of_ble_eq_true rfl) (Nat.le_of_ble_eq_true rfl) (Nat.le_of_ble_eq_true rfl) (Nat.le_of_ble_eq_true rfl) (jk_x C rfl (Nat.le_of_ble_eq_true rfl) (Nat.le_of_ble_eq_true rfl) ⟨rfl, rfl, rfl⟩)

set_option maxHeartbeats 4000000 in
set_option maxRecDepth 100000 in
theorem c_X_report_t7 {l : Launch} (hl : l.stackTraces = false) {D : va_G} {cA : Nat → ClassId} {b n : Nat} {xo : Nat} {ξ : Nat → Int32} {β : Nat → Nat → Int32} {ρ : Nat → Option Nat} {u v : Nat} (h : AH) (hn : xo + 28 ≤ n) (i k : Int32) (hk : k < 0 ∨ ¬ k < 5) : Cn l D cA b y_X_report k_X_report 7 94 3 34 [.ref xo, .int i, .int k] n (ovX xo ξ β ρ u v h) (Th 7 n (ovX xo ξ β ρ u v h)) := by
  refine Cn.of (cc := b_X_report) (maxL := 3) (ret := (some .int)) (hh := []) (by decide +kernel) hl (Or.inl ⟨rfl, rfl⟩) (Nat.le_of_ble_eq_true rfl) ?_
  intro p e s m args below meth c C
  refine j_iload_n C d_X_report_0 rfl rfl ?_
  exact j_callS C d_X_report_1 ml_X_75 mc_X_requireKind st_X_requireKind (c_X_requireKind_1 hl _ k hk) rfl rfl (Nat.le_of_ble_eq_true rfl) (Nat.le_of_ble_eq_true rfl) (Nat.le_of_ble_eq_true rfl) (Nat.le_of_ble_eq_true rfl) (jk_x C rfl (Nat.le_of_ble_eq_true rfl) (Nat.le_of_ble_eq_true rfl) ⟨rfl, rfl, rfl⟩)

set_option maxHeartbeats 4000000 in
set_option maxRecDepth 100000 in
theorem c_X_report_t8 {l : Launch} (hl : l.stackTraces = false) {D : va_G} {cA : Nat → ClassId} {b n : Nat} {xo : Nat} {ξ : Nat → Int32} {β : Nat → Nat → Int32} {ρ : Nat → Option Nat} {u v : Nat} (h : AH) (hn : xo + 28 ≤ n) (i k : Int32) (k0 : ¬ k < 0) (k1 : k < 5) (hi : i < 0 ∨ ¬ i ≤ 9999) : Cn l D cA b y_X_report k_X_report 7 94 3 34 [.ref xo, .int i, .int k] n (ovX xo ξ β ρ u v h) (Th 8 n (ovX xo ξ β ρ u v h)) := by
  refine Cn.of (cc := b_X_report) (maxL := 3) (ret := (some .int)) (hh := []) (by decide +kernel) hl (Or.inl ⟨rfl, rfl⟩) (Nat.le_of_ble_eq_true rfl) ?_
  intro p e s m args below meth c C
  refine j_iload_n C d_X_report_0 rfl rfl ?_
  refine j_callS C d_X_report_1 ml_X_75 mc_X_requireKind st_X_requireKind (c_X_requireKind_0 hl _ k k0 k1) rfl rfl (Nat.le_of_ble_eq_true rfl) (Nat.le_of_ble_eq_true rfl) (Nat.le_of_ble_eq_true rfl) (Nat.le_of_ble_eq_true rfl) (jk_v ?_)
  refine j_iload_n C d_X_report_4 rfl rfl ?_
  refine j_if_lt (tgt := 15) C d_X_report_5 (by decide) (fun c5 => ?_) (fun c5 => ?_)
  · exact j_throwS (text := "the incident is not 0 .. 9,999") C th_8 (by decide +kernel) rfl d_X_report_15 d_X_report_18 d_X_report_19 d_X_report_21 d_X_report_24 (Nat.le_of_ble_eq_true rfl) (Nat.le_of_ble_eq_true rfl) (Nat.le_of_ble_eq_true rfl) (Nat.le_of_ble_eq_true rfl) (Nat.le_of_ble_eq_true rfl) (Nat.le_of_ble_eq_true rfl) ⟨rfl, rfl, rfl⟩
  · refine j_iload_n C d_X_report_8 rfl rfl ?_
    refine j_sipush (v := 9999) C d_X_report_9 (by decide) ?_
    refine j_icmp_le (tgt := 25) C d_X_report_12 (by decide) (fun c12 => ?_) (fun c12 => ?_)
    · exact absurd c12 (hi.resolve_left c5)
    · exact j_throwS (text := "the incident is not 0 .. 9,999") C th_8 (by decide +kernel) rfl d_X_report_15 d_X_report_18 d_X_report_19 d_X_report_21 d_X_report_24 (Nat.le_of_ble_eq_true rfl) (Nat.le_of_ble_eq_true rfl) (Nat.le_of_ble_eq_true rfl) (Nat.le_of_ble_eq_true rfl) (Nat.le_of_ble_eq_true rfl) (Nat.le_of_ble_eq_true rfl) ⟨rfl, rfl, rfl⟩

set_option maxHeartbeats 4000000 in
set_option maxRecDepth 100000 in
theorem c_X_report_t10 {l : Launch} (hl : l.stackTraces = false) {D : va_G} {cA : Nat → ClassId} {b n : Nat} {xo : Nat} {ξ : Nat → Int32} {β : Nat → Nat → Int32} {ρ : Nat → Option Nat} {u v : Nat} (h : AH) (hn : xo + 28 ≤ n) (i k : Int32) (k0 : ¬ k < 0) (k1 : k < 5) (i0 : ¬ i < 0) (i1 : i ≤ 9999) (hr : ¬ ξ 0 < 30) : Cn l D cA b y_X_report k_X_report 7 94 3 34 [.ref xo, .int i, .int k] n (ovX xo ξ β ρ u v h) (Th 10 n (ovX xo ξ β ρ u v h)) := by
  refine Cn.of (cc := b_X_report) (maxL := 3) (ret := (some .int)) (hh := []) (by decide +kernel) hl (Or.inl ⟨rfl, rfl⟩) (Nat.le_of_ble_eq_true rfl) ?_
  intro p e s m args below meth c C
  refine j_iload_n C d_X_report_0 rfl rfl ?_
  refine j_callS C d_X_report_1 ml_X_75 mc_X_requireKind st_X_requireKind (c_X_requireKind_0 hl _ k k0 k1) rfl rfl (Nat.le_of_ble_eq_true rfl) (Nat.le_of_ble_eq_true rfl) (Nat.le_of_ble_eq_true rfl) (Nat.le_of_ble_eq_true rfl) (jk_v ?_)
  refine j_iload_n C d_X_report_4 rfl rfl ?_
  refine j_if_lt (tgt := 15) C d_X_report_5 (by decide) (fun c5 => ?_) (fun c5 => ?_)
  · exact absurd c5 i0
  · refine j_iload_n C d_X_report_8 rfl rfl ?_
    refine j_sipush (v := 9999) C d_X_report_9 (by decide) ?_
    refine j_icmp_le (tgt := 25) C d_X_report_12 (by decide) (fun c12 => ?_) (fun c12 => ?_)
    · refine j_aload_n C d_X_report_25 rfl rfl ?_
      exact j_callV C d_X_report_26 ml_X_86 mc_X_requireRoomForReport in_X_requireRoomForReport rfl se_X_requireRoomForReport (by omega) (ovX_c (o := 0) rfl) (c_X_requireRoomForReport_1 hl h hn hr) rfl rfl (Nat.le_of_ble_eq_true rfl) (Nat.le_of_ble_eq_true rfl) (Nat.le_of_ble_eq_true rfl) (Nat.le_of_ble_eq_true rfl) (jk_x C rfl (Nat.le_of_ble_eq_true rfl) (Nat.le_of_ble_eq_true rfl) ⟨rfl, rfl, rfl⟩)
    · exact absurd i1 c12

/-- a report's three cells at r -/
def rps (r : Nat) (i k t f : Int32) (ζ : Nat → Int32) (g w : Nat → Int32) : List AC := [.inr (5, [.int i, .int k, .int t, .int f, .ref (r + 1), .int (ζ 0), .int (ζ 1), .int (ζ 2), .int (ζ 3), .ref (r + 2), .int (ζ 4)]), .inl (0, 20, .inl g), .inl (0, 3, .inl w)]
set_option maxHeartbeats 4000000 in
set_option maxRecDepth 100000 in
theorem c_X_report_r {l : Launch} (hl : l.stackTraces = false) {D : va_G} {cA : Nat → ClassId} {b n : Nat} {xo : Nat} {ξ : Nat → Int32} {β : Nat → Nat → Int32} {ρ : Nat → Option Nat} {u v : Nat} (h : AH) (hn : xo + 28 ≤ n) (i k : Int32) (k0 : ¬ k < 0) (k1 : k < 5) (i0 : ¬ i < 0) (i1 : i ≤ 9999) (hr : ξ 0 < 30) (hi : vp_in (ξ 0) 30) : Cn l D cA b y_X_report k_X_report 7 94 3 34 [.ref xo, .int i, .int k] n (ovX xo ξ β ρ u v h) (Re (some (.int (ξ 0))) (n + 3) (ovX xo (upd ξ 0 (ξ 0 + 1)) β (va_up ρ (ξ 0).toNatClampNeg (some n)) u v (ovL n (rps n i k (ξ 1) (-1) (fun _ => 0) (fun _ => 0) (fun _ => 0)) h))) := by
  refine Cn.of (cc := b_X_report) (maxL := 3) (ret := (some .int)) (hh := []) (by decide +kernel) hl (Or.inl ⟨rfl, rfl⟩) (Nat.le_of_ble_eq_true rfl) ?_
  intro p e s m args below meth c C
  refine j_iload_n C d_X_report_0 rfl rfl ?_
  refine j_callS C d_X_report_1 ml_X_75 mc_X_requireKind st_X_requireKind (c_X_requireKind_0 hl _ k k0 k1) rfl rfl (Nat.le_of_ble_eq_true rfl) (Nat.le_of_ble_eq_true rfl) (Nat.le_of_ble_eq_true rfl) (Nat.le_of_ble_eq_true rfl) (jk_v ?_)
  refine j_iload_n C d_X_report_4 rfl rfl ?_
  refine j_if_lt (tgt := 15) C d_X_report_5 (by decide) (fun c5 => ?_) (fun c5 => ?_)
  · exact absurd c5 i0
  · refine j_iload_n C d_X_report_8 rfl rfl ?_
    refine j_sipush (v := 9999) C d_X_report_9 (by decide) ?_
    refine j_icmp_le (tgt := 25) C d_X_report_12 (by decide) (fun c12 => ?_) (fun c12 => ?_)
    · refine j_aload_n C d_X_report_25 rfl rfl ?_
      refine j_callV C d_X_report_26 ml_X_86 mc_X_requireRoomForReport in_X_requireRoomForReport rfl se_X_requireRoomForReport (by omega) (ovX_c (o := 0) rfl) (c_X_requireRoomForReport_0 hl h hn hr) rfl rfl (Nat.le_of_ble_eq_true rfl) (Nat.le_of_ble_eq_true rfl) (Nat.le_of_ble_eq_true rfl) (Nat.le_of_ble_eq_true rfl) (jk_v ?_)
      refine j_aload_n C d_X_report_29 rfl rfl ?_
      refine j_new C nl_X_9 d_X_report_30 (Nat.le_of_ble_eq_true rfl) (Nat.le_of_ble_eq_true rfl) ?_
      refine j_h (ovX_out (Or.inr hn)) ?_
      refine j_dup C d_X_report_33 rfl ?_
      refine j_iload_n C d_X_report_34 rfl rfl ?_
      refine j_iload_n C d_X_report_35 rfl rfl ?_
      refine j_aload_n C d_X_report_36 rfl rfl ?_
      refine jx_get 0 C fl_0_26 d_X_report_37 (by omega) rfl rfl ?_
      refine j_iconst (v := (-1)) C d_X_report_40 (by decide) ?_
      refine j_h (ovX_out (Or.inr hn)).symm ?_
      refine j_callI C d_X_report_41 rfl ml_X_89 mc_RP_init in_RP_init (c_RP_init hl n i k (ξ 1) (-1) (ovX xo ξ β ρ u v h)) rfl rfl (Nat.le_of_ble_eq_true rfl) (Nat.le_of_ble_eq_true rfl) (Nat.le_of_ble_eq_true rfl) (Nat.le_of_ble_eq_true rfl) (jk_v ?_)
      refine j_h (ovX_L hn) ?_
      refine j_callV C d_X_report_44 ml_X_92 mc_X_keep in_X_keep rfl se_X_keep (by omega) (ovX_c (o := 0) rfl) (c_X_keep hl _ (by omega) n hn (by omega) (ovL_c (o := 0) rfl) hi) rfl rfl (Nat.le_of_ble_eq_true rfl) (Nat.le_of_ble_eq_true rfl) (Nat.le_of_ble_eq_true rfl) (Nat.le_of_ble_eq_true rfl) (jk_r ?_)
      exact j_ireturn C d_X_report_47 rfl (by decide) (by decide) ⟨rfl, rfl, rfl⟩
    · exact absurd i1 c12

set_option maxHeartbeats 4000000 in
set_option maxRecDepth 100000 in
theorem c_X_ask_a {l : Launch} (hl : l.stackTraces = false) {D : va_G} {cA : Nat → ClassId} {b n : Nat} {xo : Nat} {ξ : Nat → Int32} {β : Nat → Nat → Int32} {ρ : Nat → Option Nat} {u v : Nat} (h : AH) (hn : xo + 28 ≤ n) (k f on : Int32) (hk : k < 0 ∨ ¬ k < 5) : Cn l D cA b y_X_ask k_X_ask 7 94 1 6 [.ref xo, .int k, .int f, .int on] n (ovX xo ξ β ρ u v h) (Th 7 n (ovX xo ξ β ρ u v h)) := by
  refine Cn.of (cc := b_X_ask) (maxL := 4) (ret := none) (hh := []) (by decide +kernel) hl (Or.inl ⟨rfl, rfl⟩) (Nat.le_of_ble_eq_true rfl) ?_
  intro p e s m args below meth c C
  refine j_iload_n C d_X_ask_0 rfl rfl ?_
  exact j_callS C d_X_ask_1 ml_X_75 mc_X_requireKind st_X_requireKind (c_X_requireKind_1 hl _ k hk) rfl rfl (Nat.le_of_ble_eq_true rfl) (Nat.le_of_ble_eq_true rfl) (Nat.le_of_ble_eq_true rfl) (Nat.le_of_ble_eq_true rfl) (jk_x C rfl (Nat.le_of_ble_eq_true rfl) (Nat.le_of_ble_eq_true rfl) ⟨rfl, rfl, rfl⟩)

set_option maxHeartbeats 4000000 in
set_option maxRecDepth 100000 in
theorem c_X_ask_b {l : Launch} (hl : l.stackTraces = false) {D : va_G} {cA : Nat → ClassId} {b n : Nat} {xo : Nat} {ξ : Nat → Int32} {β : Nat → Nat → Int32} {ρ : Nat → Option Nat} {u v : Nat} (h : AH) (hn : xo + 28 ≤ n) (k f on : Int32) (k0 : ¬ k < 0) (k1 : k < 5) (hk : f < 0 ∨ ¬ f < 20) : Cn l D cA b y_X_ask k_X_ask 7 94 1 6 [.ref xo, .int k, .int f, .int on] n (ovX xo ξ β ρ u v h) (Th 7 n (ovX xo ξ β ρ u v h)) := by
  refine Cn.of (cc := b_X_ask) (maxL := 4) (ret := none) (hh := []) (by decide +kernel) hl (Or.inl ⟨rfl, rfl⟩) (Nat.le_of_ble_eq_true rfl) ?_
  intro p e s m args below meth c C
  refine j_iload_n C d_X_ask_0 rfl rfl ?_
  refine j_callS C d_X_ask_1 ml_X_75 mc_X_requireKind st_X_requireKind (c_X_requireKind_0 hl _ k k0 k1) rfl rfl (Nat.le_of_ble_eq_true rfl) (Nat.le_of_ble_eq_true rfl) (Nat.le_of_ble_eq_true rfl) (Nat.le_of_ble_eq_true rfl) (jk_v ?_)
  refine j_iload_n C d_X_ask_4 rfl rfl ?_
  exact j_callS C d_X_ask_5 ml_X_96 mc_X_requireField st_X_requireField (c_X_requireField_1 hl _ f hk) rfl rfl (Nat.le_of_ble_eq_true rfl) (Nat.le_of_ble_eq_true rfl) (Nat.le_of_ble_eq_true rfl) (Nat.le_of_ble_eq_true rfl) (jk_x C rfl (Nat.le_of_ble_eq_true rfl) (Nat.le_of_ble_eq_true rfl) ⟨rfl, rfl, rfl⟩)

set_option maxHeartbeats 4000000 in
set_option maxRecDepth 100000 in
theorem c_X_ask_r {l : Launch} (hl : l.stackTraces = false) {D : va_G} {cA : Nat → ClassId} {b n : Nat} {xo : Nat} {ξ : Nat → Int32} {β : Nat → Nat → Int32} {ρ : Nat → Option Nat} {u v : Nat} (h : AH) (hn : xo + 28 ≤ n) (k f on : Int32) (k0 : ¬ k < 0) (k1 : k < 5) (f0 : ¬ f < 0) (f1 : f < 20) (hi : vp_in k 5) : Cn l D cA b y_X_ask k_X_ask 7 94 1 6 [.ref xo, .int k, .int f, .int on] n (ovX xo ξ β ρ u v h) (Re none n (ovX xo ξ (upa β 2 (upd (β 2) k.toNatClampNeg (xch (β 2 k.toNatClampNeg) f on))) ρ u v h)) := by
  refine Cn.of (cc := b_X_ask) (maxL := 4) (ret := none) (hh := []) (by decide +kernel) hl (Or.inl ⟨rfl, rfl⟩) (Nat.le_of_ble_eq_true rfl) ?_
  intro p e s m args below meth c C
  refine j_iload_n C d_X_ask_0 rfl rfl ?_
  refine j_callS C d_X_ask_1 ml_X_75 mc_X_requireKind st_X_requireKind (c_X_requireKind_0 hl _ k k0 k1) rfl rfl (Nat.le_of_ble_eq_true rfl) (Nat.le_of_ble_eq_true rfl) (Nat.le_of_ble_eq_true rfl) (Nat.le_of_ble_eq_true rfl) (jk_v ?_)
  refine j_iload_n C d_X_ask_4 rfl rfl ?_
  refine j_callS C d_X_ask_5 ml_X_96 mc_X_requireField st_X_requireField (c_X_requireField_0 hl _ f f0 f1) rfl rfl (Nat.le_of_ble_eq_true rfl) (Nat.le_of_ble_eq_true rfl) (Nat.le_of_ble_eq_true rfl) (Nat.le_of_ble_eq_true rfl) (jk_v ?_)
  refine j_aload_n C d_X_ask_8 rfl rfl ?_
  refine jx_get 0 C fl_0_19 d_X_ask_9 hn rfl rfl ?_
  refine j_iload_n C d_X_ask_12 rfl rfl ?_
  refine j_aload_n C d_X_ask_13 rfl rfl ?_
  refine jx_get 0 C fl_0_19 d_X_ask_14 hn rfl rfl ?_
  refine j_iload_n C d_X_ask_17 rfl rfl ?_
  refine jx_iald 2 C d_X_ask_18 hn rfl (by assumption) rfl ?_
  refine j_iload_n C d_X_ask_19 rfl rfl ?_
  refine j_iload_n C d_X_ask_20 rfl rfl ?_
  refine j_callS C d_X_ask_21 ml_X_99 mc_X_changed st_X_changed (c_X_changed hl _ _ _ _) rfl rfl (Nat.le_of_ble_eq_true rfl) (Nat.le_of_ble_eq_true rfl) (Nat.le_of_ble_eq_true rfl) (Nat.le_of_ble_eq_true rfl) (jk_r ?_)
  refine jx_iast 2 C d_X_ask_24 hn rfl (by assumption) rfl ?_
  exact j_vreturn C d_X_ask_25 rfl (by decide) (by decide) ⟨rfl, rfl, rfl⟩

set_option maxHeartbeats 4000000 in
set_option maxRecDepth 100000 in
theorem c_X_hide_a {l : Launch} (hl : l.stackTraces = false) {D : va_G} {cA : Nat → ClassId} {b n : Nat} {xo : Nat} {ξ : Nat → Int32} {β : Nat → Nat → Int32} {ρ : Nat → Option Nat} {u v : Nat} (h : AH) (hn : xo + 28 ≤ n) (f q on : Int32) (hk : f < 0 ∨ ¬ f < 20) : Cn l D cA b y_X_hide k_X_hide 7 94 1 6 [.ref xo, .int f, .int q, .int on] n (ovX xo ξ β ρ u v h) (Th 7 n (ovX xo ξ β ρ u v h)) := by
  refine Cn.of (cc := b_X_hide) (maxL := 4) (ret := none) (hh := []) (by decide +kernel) hl (Or.inl ⟨rfl, rfl⟩) (Nat.le_of_ble_eq_true rfl) ?_
  intro p e s m args below meth c C
  refine j_iload_n C d_X_hide_0 rfl rfl ?_
  exact j_callS C d_X_hide_1 ml_X_96 mc_X_requireField st_X_requireField (c_X_requireField_1 hl _ f hk) rfl rfl (Nat.le_of_ble_eq_true rfl) (Nat.le_of_ble_eq_true rfl) (Nat.le_of_ble_eq_true rfl) (Nat.le_of_ble_eq_true rfl) (jk_x C rfl (Nat.le_of_ble_eq_true rfl) (Nat.le_of_ble_eq_true rfl) ⟨rfl, rfl, rfl⟩)

set_option maxHeartbeats 4000000 in
set_option maxRecDepth 100000 in
theorem c_X_hide_b {l : Launch} (hl : l.stackTraces = false) {D : va_G} {cA : Nat → ClassId} {b n : Nat} {xo : Nat} {ξ : Nat → Int32} {β : Nat → Nat → Int32} {ρ : Nat → Option Nat} {u v : Nat} (h : AH) (hn : xo + 28 ≤ n) (f q on : Int32) (f0 : ¬ f < 0) (f1 : f < 20) (hk : q < 0 ∨ ¬ q < 20) : Cn l D cA b y_X_hide k_X_hide 7 94 1 6 [.ref xo, .int f, .int q, .int on] n (ovX xo ξ β ρ u v h) (Th 7 n (ovX xo ξ β ρ u v h)) := by
  refine Cn.of (cc := b_X_hide) (maxL := 4) (ret := none) (hh := []) (by decide +kernel) hl (Or.inl ⟨rfl, rfl⟩) (Nat.le_of_ble_eq_true rfl) ?_
  intro p e s m args below meth c C
  refine j_iload_n C d_X_hide_0 rfl rfl ?_
  refine j_callS C d_X_hide_1 ml_X_96 mc_X_requireField st_X_requireField (c_X_requireField_0 hl _ f f0 f1) rfl rfl (Nat.le_of_ble_eq_true rfl) (Nat.le_of_ble_eq_true rfl) (Nat.le_of_ble_eq_true rfl) (Nat.le_of_ble_eq_true rfl) (jk_v ?_)
  refine j_iload_n C d_X_hide_4 rfl rfl ?_
  exact j_callS C d_X_hide_5 ml_X_175 mc_X_requirePerson st_X_requirePerson (c_X_requirePerson_1 hl _ q hk) rfl rfl (Nat.le_of_ble_eq_true rfl) (Nat.le_of_ble_eq_true rfl) (Nat.le_of_ble_eq_true rfl) (Nat.le_of_ble_eq_true rfl) (jk_x C rfl (Nat.le_of_ble_eq_true rfl) (Nat.le_of_ble_eq_true rfl) ⟨rfl, rfl, rfl⟩)

set_option maxHeartbeats 4000000 in
set_option maxRecDepth 100000 in
theorem c_X_hide_r {l : Launch} (hl : l.stackTraces = false) {D : va_G} {cA : Nat → ClassId} {b n : Nat} {xo : Nat} {ξ : Nat → Int32} {β : Nat → Nat → Int32} {ρ : Nat → Option Nat} {u v : Nat} (h : AH) (hn : xo + 28 ≤ n) (f q on : Int32) (f0 : ¬ f < 0) (f1 : f < 20) (q0 : ¬ q < 0) (q1 : q < 20) (hi : vp_in q 20) : Cn l D cA b y_X_hide k_X_hide 7 94 1 6 [.ref xo, .int f, .int q, .int on] n (ovX xo ξ β ρ u v h) (Re none n (ovX xo ξ (upa β 3 (upd (β 3) q.toNatClampNeg (xch (β 3 q.toNatClampNeg) f on))) ρ u v h)) := by
  refine Cn.of (cc := b_X_hide) (maxL := 4) (ret := none) (hh := []) (by decide +kernel) hl (Or.inl ⟨rfl, rfl⟩) (Nat.le_of_ble_eq_true rfl) ?_
  intro p e s m args below meth c C
  refine j_iload_n C d_X_hide_0 rfl rfl ?_
  refine j_callS C d_X_hide_1 ml_X_96 mc_X_requireField st_X_requireField (c_X_requireField_0 hl _ f f0 f1) rfl rfl (Nat.le_of_ble_eq_true rfl) (Nat.le_of_ble_eq_true rfl) (Nat.le_of_ble_eq_true rfl) (Nat.le_of_ble_eq_true rfl) (jk_v ?_)
  refine j_iload_n C d_X_hide_4 rfl rfl ?_
  refine j_callS C d_X_hide_5 ml_X_175 mc_X_requirePerson st_X_requirePerson (c_X_requirePerson_0 hl _ q q0 q1) rfl rfl (Nat.le_of_ble_eq_true rfl) (Nat.le_of_ble_eq_true rfl) (Nat.le_of_ble_eq_true rfl) (Nat.le_of_ble_eq_true rfl) (jk_v ?_)
  refine j_aload_n C d_X_hide_8 rfl rfl ?_
  refine jx_get 0 C fl_0_23 d_X_hide_9 hn rfl rfl ?_
  refine j_iload_n C d_X_hide_12 rfl rfl ?_
  refine j_aload_n C d_X_hide_13 rfl rfl ?_
  refine jx_get 0 C fl_0_23 d_X_hide_14 hn rfl rfl ?_
  refine j_iload_n C d_X_hide_17 rfl rfl ?_
  refine jx_iald 3 C d_X_hide_18 hn rfl (by assumption) rfl ?_
  refine j_iload_n C d_X_hide_19 rfl rfl ?_
  refine j_iload_n C d_X_hide_20 rfl rfl ?_
  refine j_callS C d_X_hide_21 ml_X_99 mc_X_changed st_X_changed (c_X_changed hl _ _ _ _) rfl rfl (Nat.le_of_ble_eq_true rfl) (Nat.le_of_ble_eq_true rfl) (Nat.le_of_ble_eq_true rfl) (Nat.le_of_ble_eq_true rfl) (jk_r ?_)
  refine jx_iast 3 C d_X_hide_24 hn rfl (by assumption) rfl ?_
  exact j_vreturn C d_X_hide_25 rfl (by decide) (by decide) ⟨rfl, rfl, rfl⟩

set_option maxHeartbeats 4000000 in
set_option maxRecDepth 100000 in
theorem c_X_place {l : Launch} (hl : l.stackTraces = false) {D : va_G} {cA : Nat → ClassId} {b n : Nat} {xo : Nat} {ξ : Nat → Int32} {β : Nat → Nat → Int32} {ρ : Nat → Option Nat} {u v : Nat} (h : AH) (hn : xo + 28 ≤ n)  : Cn l D cA b y_X_place k_X_place 0 0 0 0 [.ref xo] n (ovX xo ξ β ρ u v h) (Re (some (.int (ξ 3))) n (ovX xo ξ β ρ u v h)) := by
  refine Cn.of (cc := b_X_place) (maxL := 1) (ret := (some .int)) (hh := []) (by decide +kernel) hl (Or.inl ⟨rfl, rfl⟩) (Nat.le_of_ble_eq_true rfl) ?_
  intro p e s m args below meth c C
  refine j_aload_n C d_X_place_0 rfl rfl ?_
  refine jx_get 0 C fl_0_55 d_X_place_1 hn rfl rfl ?_
  exact j_ireturn C d_X_place_4 rfl (by decide) (by decide) ⟨rfl, rfl, rfl⟩

set_option maxHeartbeats 4000000 in
set_option maxRecDepth 100000 in
theorem c_X_tick_t {l : Launch} (hl : l.stackTraces = false) {D : va_G} {cA : Nat → ClassId} {b n : Nat} {xo : Nat} {ξ : Nat → Int32} {β : Nat → Nat → Int32} {ρ : Nat → Option Nat} {u v : Nat} (h : AH) (hn : xo + 28 ≤ n) (x : Int32) (hx : x < 1 ∨ 5000 < x ∨ ¬ ξ 1 + x ≤ 99999) : Cn l D cA b y_X_tick k_X_tick 6 82 1 6 [.ref xo, .int x] n (ovX xo ξ β ρ u v h) (Th 8 n (ovX xo ξ β ρ u v h)) := by
  refine Cn.of (cc := b_X_tick) (maxL := 2) (ret := (some .int)) (hh := []) (by decide +kernel) hl (Or.inl ⟨rfl, rfl⟩) (Nat.le_of_ble_eq_true rfl) ?_
  intro p e s m args below meth c C
  refine j_iload_n C d_X_tick_0 rfl rfl ?_
  refine j_iconst (v := 1) C d_X_tick_1 (by decide) ?_
  refine j_icmp_lt (tgt := 23) C d_X_tick_2 (by decide) (fun c2 => ?_) (fun c2 => ?_)
  · exact j_throwSW (text := "the minutes are not 1 .. 5,000, or go beyond 99,999") C th_8 (by decide +kernel) rfl d_X_tick_23 d_X_tick_26 d_X_tick_27 d_X_tick_30 d_X_tick_33 (Nat.le_of_ble_eq_true rfl) (Nat.le_of_ble_eq_true rfl) (Nat.le_of_ble_eq_true rfl) (Nat.le_of_ble_eq_true rfl) (Nat.le_of_ble_eq_true rfl) (Nat.le_of_ble_eq_true rfl) ⟨rfl, rfl, rfl⟩
  · refine j_iload_n C d_X_tick_5 rfl rfl ?_
    refine j_sipush (v := 5000) C d_X_tick_6 (by decide) ?_
    refine j_icmp_gt (tgt := 23) C d_X_tick_9 (by decide) (fun c9 => ?_) (fun c9 => ?_)
    · exact j_throwSW (text := "the minutes are not 1 .. 5,000, or go beyond 99,999") C th_8 (by decide +kernel) rfl d_X_tick_23 d_X_tick_26 d_X_tick_27 d_X_tick_30 d_X_tick_33 (Nat.le_of_ble_eq_true rfl) (Nat.le_of_ble_eq_true rfl) (Nat.le_of_ble_eq_true rfl) (Nat.le_of_ble_eq_true rfl) (Nat.le_of_ble_eq_true rfl) (Nat.le_of_ble_eq_true rfl) ⟨rfl, rfl, rfl⟩
    · refine j_aload_n C d_X_tick_12 rfl rfl ?_
      refine jx_get 0 C fl_0_26 d_X_tick_13 hn rfl rfl ?_
      refine j_iload_n C d_X_tick_16 rfl rfl ?_
      refine j_iadd C d_X_tick_17 ?_
      refine j_ldc (v := 99999) C d_X_tick_18 lc_X_108 ?_
      refine j_icmp_le (tgt := 34) C d_X_tick_20 (by decide) (fun c20 => ?_) (fun c20 => ?_)
      · exact absurd c20 ((hx.resolve_left c2).resolve_left c9)
      · exact j_throwSW (text := "the minutes are not 1 .. 5,000, or go beyond 99,999") C th_8 (by decide +kernel) rfl d_X_tick_23 d_X_tick_26 d_X_tick_27 d_X_tick_30 d_X_tick_33 (Nat.le_of_ble_eq_true rfl) (Nat.le_of_ble_eq_true rfl) (Nat.le_of_ble_eq_true rfl) (Nat.le_of_ble_eq_true rfl) (Nat.le_of_ble_eq_true rfl) (Nat.le_of_ble_eq_true rfl) ⟨rfl, rfl, rfl⟩

set_option maxHeartbeats 4000000 in
set_option maxRecDepth 100000 in
theorem c_X_tick_r {l : Launch} (hl : l.stackTraces = false) {D : va_G} {cA : Nat → ClassId} {b n : Nat} {xo : Nat} {ξ : Nat → Int32} {β : Nat → Nat → Int32} {ρ : Nat → Option Nat} {u v : Nat} (h : AH) (hn : xo + 28 ≤ n) (x : Int32) (h0 : ¬ x < 1) (h1 : ¬ 5000 < x) (h2 : ξ 1 + x ≤ 99999) : Cn l D cA b y_X_tick k_X_tick 6 82 1 6 [.ref xo, .int x] n (ovX xo ξ β ρ u v h) (Re (some (.int (ξ 1 + x))) n (ovX xo (upd ξ 1 (ξ 1 + x)) β ρ u v h)) := by
  refine Cn.of (cc := b_X_tick) (maxL := 2) (ret := (some .int)) (hh := []) (by decide +kernel) hl (Or.inl ⟨rfl, rfl⟩) (Nat.le_of_ble_eq_true rfl) ?_
  intro p e s m args below meth c C
  refine j_iload_n C d_X_tick_0 rfl rfl ?_
  refine j_iconst (v := 1) C d_X_tick_1 (by decide) ?_
  refine j_icmp_lt (tgt := 23) C d_X_tick_2 (by decide) (fun c2 => ?_) (fun c2 => ?_)
  · exact absurd c2 h0
  · refine j_iload_n C d_X_tick_5 rfl rfl ?_
    refine j_sipush (v := 5000) C d_X_tick_6 (by decide) ?_
    refine j_icmp_gt (tgt := 23) C d_X_tick_9 (by decide) (fun c9 => ?_) (fun c9 => ?_)
    · exact absurd c9 h1
    · refine j_aload_n C d_X_tick_12 rfl rfl ?_
      refine jx_get 0 C fl_0_26 d_X_tick_13 hn rfl rfl ?_
      refine j_iload_n C d_X_tick_16 rfl rfl ?_
      refine j_iadd C d_X_tick_17 ?_
      refine j_ldc (v := 99999) C d_X_tick_18 lc_X_108 ?_
      refine j_icmp_le (tgt := 34) C d_X_tick_20 (by decide) (fun c20 => ?_) (fun c20 => ?_)
      · refine j_aload_n C d_X_tick_34 rfl rfl ?_
        refine j_dup C d_X_tick_35 rfl ?_
        refine jx_get 0 C fl_0_26 d_X_tick_36 hn rfl rfl ?_
        refine j_iload_n C d_X_tick_39 rfl rfl ?_
        refine j_iadd C d_X_tick_40 ?_
        refine jx_puti 0 1 C fp_0_26 d_X_tick_41 hn rfl (Nat.le_of_ble_eq_true rfl) rfl rfl rfl ?_
        refine j_aload_n C d_X_tick_44 rfl rfl ?_
        refine jx_get 0 C fl_0_26 d_X_tick_45 hn rfl rfl ?_
        exact j_ireturn C d_X_tick_48 rfl (by decide) (by decide) ⟨rfl, rfl, rfl⟩
      · exact absurd h2 c20

set_option maxHeartbeats 4000000 in
set_option maxRecDepth 100000 in
theorem c_X_at_t {l : Launch} (hl : l.stackTraces = false) {D : va_G} {cA : Nat → ClassId} {b n : Nat} {xo : Nat} {ξ : Nat → Int32} {β : Nat → Nat → Int32} {ρ : Nat → Option Nat} {u v : Nat} (h : AH) (hn : xo + 28 ≤ n) (x : Int32) (hx : x < 0) : Cn l D cA b y_X_at k_X_at 6 82 1 6 [.ref xo, .int x] n (ovX xo ξ β ρ u v h) (Th 8 n (ovX xo ξ β ρ u v h)) := by
  refine Cn.of (cc := b_X_at) (maxL := 2) (ret := (some .int)) (hh := []) (by decide +kernel) hl (Or.inl ⟨rfl, rfl⟩) (Nat.le_of_ble_eq_true rfl) ?_
  intro p e s m args below meth c C
  refine j_iload_n C d_X_at_0 rfl rfl ?_
  refine j_if_ge (tgt := 14) C d_X_at_1 (by decide) (fun c1 => ?_) (fun c1 => ?_)
  · exact absurd hx (Int32.not_lt.mpr c1)
  · exact j_throwS (text := "the byte's number is below 0") C th_8 (by decide +kernel) rfl d_X_at_4 d_X_at_7 d_X_at_8 d_X_at_10 d_X_at_13 (Nat.le_of_ble_eq_true rfl) (Nat.le_of_ble_eq_true rfl) (Nat.le_of_ble_eq_true rfl) (Nat.le_of_ble_eq_true rfl) (Nat.le_of_ble_eq_true rfl) (Nat.le_of_ble_eq_true rfl) ⟨rfl, rfl, rfl⟩

set_option maxHeartbeats 4000000 in
set_option maxRecDepth 100000 in
theorem c_X_at_n {l : Launch} (hl : l.stackTraces = false) {D : va_G} {cA : Nat → ClassId} {b n : Nat} {xo : Nat} {ξ : Nat → Int32} {β : Nat → Nat → Int32} {ρ : Nat → Option Nat} {u v : Nat} (h : AH) (hn : xo + 28 ≤ n) (x : Int32) (h0 : 0 ≤ x) (h1 : ξ 10 ≤ x) : Cn l D cA b y_X_at k_X_at 6 82 1 6 [.ref xo, .int x] n (ovX xo ξ β ρ u v h) (Re (some (.int (-1))) n (ovX xo ξ β ρ u v h)) := by
  refine Cn.of (cc := b_X_at) (maxL := 2) (ret := (some .int)) (hh := []) (by decide +kernel) hl (Or.inl ⟨rfl, rfl⟩) (Nat.le_of_ble_eq_true rfl) ?_
  intro p e s m args below meth c C
  refine j_iload_n C d_X_at_0 rfl rfl ?_
  refine j_if_ge (tgt := 14) C d_X_at_1 (by decide) (fun c1 => ?_) (fun c1 => ?_)
  · refine j_iload_n C d_X_at_14 rfl rfl ?_
    refine j_aload_n C d_X_at_15 rfl rfl ?_
    refine jx_get 0 C fl_0_71 d_X_at_16 hn rfl rfl ?_
    refine jx_get 26 C fl_0_213 d_X_at_19 hn rfl rfl ?_
    refine j_icmp_ge (tgt := 37) C d_X_at_22 (by decide) (fun c22 => ?_) (fun c22 => ?_)
    · refine j_iconst (v := (-1)) C d_X_at_37 (by decide) ?_
      exact j_ireturn C d_X_at_38 rfl (by decide) (by decide) ⟨rfl, rfl, rfl⟩
    · exact absurd h1 c22
  · exact absurd h0 c1

set_option maxHeartbeats 4000000 in
set_option maxRecDepth 100000 in
theorem c_X_wanting_u {l : Launch} (hl : l.stackTraces = false) {D : va_G} {cA : Nat → ClassId} {b n : Nat} {xo : Nat} {ξ : Nat → Int32} {β : Nat → Nat → Int32} {ρ : Nat → Option Nat} {u v : Nat} (h : AH) (hn : xo + 28 ≤ n) (i w : Int32) (hx : i < 0 ∨ ¬ i < ξ 8) : Cn l D cA b y_X_wanting k_X_wanting 6 82 1 6 [.ref xo, .int i, .int w] n (ovX xo ξ β ρ u v h) (Th 7 n (ovX xo ξ β ρ u v h)) := by
  refine Cn.of (cc := b_X_wanting) (maxL := 3) (ret := (some .int)) (hh := []) (by decide +kernel) hl (Or.inl ⟨rfl, rfl⟩) (Nat.le_of_ble_eq_true rfl) ?_
  intro p e s m args below meth c C
  refine j_iload_n C d_X_wanting_0 rfl rfl ?_
  refine j_if_lt (tgt := 15) C d_X_wanting_1 (by decide) (fun c1 => ?_) (fun c1 => ?_)
  · exact j_throwS (text := "the latest check told no such thing") C th_7 (by decide +kernel) rfl d_X_wanting_15 d_X_wanting_18 d_X_wanting_19 d_X_wanting_21 d_X_wanting_24 (Nat.le_of_ble_eq_true rfl) (Nat.le_of_ble_eq_true rfl) (Nat.le_of_ble_eq_true rfl) (Nat.le_of_ble_eq_true rfl) (Nat.le_of_ble_eq_true rfl) (Nat.le_of_ble_eq_true rfl) ⟨rfl, rfl, rfl⟩
  · refine j_iload_n C d_X_wanting_4 rfl rfl ?_
    refine j_aload_n C d_X_wanting_5 rfl rfl ?_
    refine jx_get 0 C fl_0_61 d_X_wanting_6 hn rfl rfl ?_
    refine jx_get 20 C fl_0_164 d_X_wanting_9 hn rfl rfl ?_
    refine j_icmp_lt (tgt := 25) C d_X_wanting_12 (by decide) (fun c12 => ?_) (fun c12 => ?_)
    · exact absurd c12 (hx.resolve_left c1)
    · exact j_throwS (text := "the latest check told no such thing") C th_7 (by decide +kernel) rfl d_X_wanting_15 d_X_wanting_18 d_X_wanting_19 d_X_wanting_21 d_X_wanting_24 (Nat.le_of_ble_eq_true rfl) (Nat.le_of_ble_eq_true rfl) (Nat.le_of_ble_eq_true rfl) (Nat.le_of_ble_eq_true rfl) (Nat.le_of_ble_eq_true rfl) (Nat.le_of_ble_eq_true rfl) ⟨rfl, rfl, rfl⟩

set_option maxHeartbeats 4000000 in
set_option maxRecDepth 100000 in
theorem c_X_late_t {l : Launch} (hl : l.stackTraces = false) {D : va_G} {cA : Nat → ClassId} {b n : Nat} {xo : Nat} {ξ : Nat → Int32} {β : Nat → Nat → Int32} {ρ : Nat → Option Nat} {u v : Nat} (h : AH) (hn : xo + 28 ≤ n) (x i : Int32) (hx : x < 0 ∨ 99999 < x ∨ i < 0) : Cn l D cA b y_X_late k_X_late 6 82 1 6 [.ref xo, .int x, .int i] n (ovX xo ξ β ρ u v h) (Th 8 n (ovX xo ξ β ρ u v h)) := by
  refine Cn.of (cc := b_X_late) (maxL := 6) (ret := (some .int)) (hh := []) (by decide +kernel) hl (Or.inl ⟨rfl, rfl⟩) (Nat.le_of_ble_eq_true rfl) ?_
  intro p e s m args below meth c C
  refine j_iload_n C d_X_late_0 rfl rfl ?_
  refine j_if_lt (tgt := 14) C d_X_late_1 (by decide) (fun c1 => ?_) (fun c1 => ?_)
  · exact j_throwS (text := "the minutes, or the number is below 0") C th_8 (by decide +kernel) rfl d_X_late_14 d_X_late_17 d_X_late_18 d_X_late_20 d_X_late_23 (Nat.le_of_ble_eq_true rfl) (Nat.le_of_ble_eq_true rfl) (Nat.le_of_ble_eq_true rfl) (Nat.le_of_ble_eq_true rfl) (Nat.le_of_ble_eq_true rfl) (Nat.le_of_ble_eq_true rfl) ⟨rfl, rfl, rfl⟩
  · refine j_iload_n C d_X_late_4 rfl rfl ?_
    refine j_ldc (v := 99999) C d_X_late_5 lc_X_108 ?_
    refine j_icmp_gt (tgt := 14) C d_X_late_7 (by decide) (fun c7 => ?_) (fun c7 => ?_)
    · exact j_throwS (text := "the minutes, or the number is below 0") C th_8 (by decide +kernel) rfl d_X_late_14 d_X_late_17 d_X_late_18 d_X_late_20 d_X_late_23 (Nat.le_of_ble_eq_true rfl) (Nat.le_of_ble_eq_true rfl) (Nat.le_of_ble_eq_true rfl) (Nat.le_of_ble_eq_true rfl) (Nat.le_of_ble_eq_true rfl) (Nat.le_of_ble_eq_true rfl) ⟨rfl, rfl, rfl⟩
    · refine j_iload_n C d_X_late_10 rfl rfl ?_
      refine j_if_ge (tgt := 24) C d_X_late_11 (by decide) (fun c11 => ?_) (fun c11 => ?_)
      · exact absurd ((hx.resolve_left c1).resolve_left c7) (Int32.not_lt.mpr c11)
      · exact j_throwS (text := "the minutes, or the number is below 0") C th_8 (by decide +kernel) rfl d_X_late_14 d_X_late_17 d_X_late_18 d_X_late_20 d_X_late_23 (Nat.le_of_ble_eq_true rfl) (Nat.le_of_ble_eq_true rfl) (Nat.le_of_ble_eq_true rfl) (Nat.le_of_ble_eq_true rfl) (Nat.le_of_ble_eq_true rfl) (Nat.le_of_ble_eq_true rfl) ⟨rfl, rfl, rfl⟩

set_option maxHeartbeats 4000000 in
set_option maxRecDepth 100000 in
theorem c_X_late_0 {l : Launch} (hl : l.stackTraces = false) {D : va_G} {cA : Nat → ClassId} {b n : Nat} {xo : Nat} {ξ : Nat → Int32} {β : Nat → Nat → Int32} {ρ : Nat → Option Nat} {u v : Nat} (h : AH) (hn : xo + 28 ≤ n) (x i : Int32) (h0 : ¬ x < 0) (h1 : ¬ 99999 < x) (h2 : 0 ≤ i) (hz : ξ 0 = 0) : Cn l D cA b y_X_late k_X_late 6 82 1 6 [.ref xo, .int x, .int i] n (ovX xo ξ β ρ u v h) (Re (some (.int (-1))) n (ovX xo ξ β ρ u v h)) := by
  refine Cn.of (cc := b_X_late) (maxL := 6) (ret := (some .int)) (hh := []) (by decide +kernel) hl (Or.inl ⟨rfl, rfl⟩) (Nat.le_of_ble_eq_true rfl) ?_
  intro p e s m args below meth c C
  refine j_iload_n C d_X_late_0 rfl rfl ?_
  refine j_if_lt (tgt := 14) C d_X_late_1 (by decide) (fun c1 => ?_) (fun c1 => ?_)
  · exact absurd c1 h0
  · refine j_iload_n C d_X_late_4 rfl rfl ?_
    refine j_ldc (v := 99999) C d_X_late_5 lc_X_108 ?_
    refine j_icmp_gt (tgt := 14) C d_X_late_7 (by decide) (fun c7 => ?_) (fun c7 => ?_)
    · exact absurd c7 h1
    · refine j_iload_n C d_X_late_10 rfl rfl ?_
      refine j_if_ge (tgt := 24) C d_X_late_11 (by decide) (fun c11 => ?_) (fun c11 => ?_)
      · refine j_iconst (v := 0) C d_X_late_24 (by decide) ?_
        refine j_istore_n C d_X_late_25 rfl (by decide) rfl ?_
        refine j_iconst (v := 0) C d_X_late_26 (by decide) ?_
        refine j_istore C d_X_late_27 (by decide) rfl ?_
        refine j_iload C d_X_late_29 rfl ?_
        refine j_aload_n C d_X_late_31 rfl rfl ?_
        refine jx_get 0 C fl_0_15 d_X_late_32 hn rfl rfl ?_
        refine j_icmp_ge (tgt := 82) C d_X_late_35 (by decide) (fun c35 => ?_) (fun c35 => ?_)
        · refine j_iconst (v := (-1)) C d_X_late_82 (by decide) ?_
          exact j_ireturn C d_X_late_83 rfl (by decide) (by decide) ⟨rfl, rfl, rfl⟩
        · exact absurd (show ξ 0 ≤ 0 by rw [hz]; decide) c35
      · exact absurd h2 c11

set_option maxHeartbeats 4000000 in
set_option maxRecDepth 100000 in
theorem c_X_count_a {l : Launch} (hl : l.stackTraces = false) {D : va_G} {cA : Nat → ClassId} {b n : Nat} {xo : Nat} {ξ : Nat → Int32} {β : Nat → Nat → Int32} {ρ : Nat → Option Nat} {u v : Nat} (h : AH) (hn : xo + 28 ≤ n) (f lo hi : Int32) (hk : f < 0 ∨ ¬ f < 20) : Cn l D cA b y_X_count k_X_count 7 94 1 6 [.ref xo, .int f, .int lo, .int hi] n (ovX xo ξ β ρ u v h) (Th 7 n (ovX xo ξ β ρ u v h)) := by
  refine Cn.of (cc := b_X_count) (maxL := 7) (ret := (some .int)) (hh := []) (by decide +kernel) hl (Or.inl ⟨rfl, rfl⟩) (Nat.le_of_ble_eq_true rfl) ?_
  intro p e s m args below meth c C
  refine j_iload_n C d_X_count_0 rfl rfl ?_
  exact j_callS C d_X_count_1 ml_X_96 mc_X_requireField st_X_requireField (c_X_requireField_1 hl _ f hk) rfl rfl (Nat.le_of_ble_eq_true rfl) (Nat.le_of_ble_eq_true rfl) (Nat.le_of_ble_eq_true rfl) (Nat.le_of_ble_eq_true rfl) (jk_x C rfl (Nat.le_of_ble_eq_true rfl) (Nat.le_of_ble_eq_true rfl) ⟨rfl, rfl, rfl⟩)

set_option maxHeartbeats 4000000 in
set_option maxRecDepth 100000 in
theorem c_X_count_b {l : Launch} (hl : l.stackTraces = false) {D : va_G} {cA : Nat → ClassId} {b n : Nat} {xo : Nat} {ξ : Nat → Int32} {β : Nat → Nat → Int32} {ρ : Nat → Option Nat} {u v : Nat} (h : AH) (hn : xo + 28 ≤ n) (f lo hi : Int32) (f0 : ¬ f < 0) (f1 : f < 20) (hk : ¬ lo ≤ hi) : Cn l D cA b y_X_count k_X_count 7 94 1 6 [.ref xo, .int f, .int lo, .int hi] n (ovX xo ξ β ρ u v h) (Th 8 n (ovX xo ξ β ρ u v h)) := by
  refine Cn.of (cc := b_X_count) (maxL := 7) (ret := (some .int)) (hh := []) (by decide +kernel) hl (Or.inl ⟨rfl, rfl⟩) (Nat.le_of_ble_eq_true rfl) ?_
  intro p e s m args below meth c C
  refine j_iload_n C d_X_count_0 rfl rfl ?_
  refine j_callS C d_X_count_1 ml_X_96 mc_X_requireField st_X_requireField (c_X_requireField_0 hl _ f f0 f1) rfl rfl (Nat.le_of_ble_eq_true rfl) (Nat.le_of_ble_eq_true rfl) (Nat.le_of_ble_eq_true rfl) (Nat.le_of_ble_eq_true rfl) (jk_v ?_)
  refine j_iload_n C d_X_count_4 rfl rfl ?_
  refine j_iload_n C d_X_count_5 rfl rfl ?_
  refine j_icmp_le (tgt := 19) C d_X_count_6 (by decide) (fun c6 => ?_) (fun c6 => ?_)
  · exact absurd c6 hk
  · exact j_throwS (text := "low is above high") C th_8 (by decide +kernel) rfl d_X_count_9 d_X_count_12 d_X_count_13 d_X_count_15 d_X_count_18 (Nat.le_of_ble_eq_true rfl) (Nat.le_of_ble_eq_true rfl) (Nat.le_of_ble_eq_true rfl) (Nat.le_of_ble_eq_true rfl) (Nat.le_of_ble_eq_true rfl) (Nat.le_of_ble_eq_true rfl) ⟨rfl, rfl, rfl⟩

set_option maxHeartbeats 4000000 in
set_option maxRecDepth 100000 in
theorem c_X_count_0 {l : Launch} (hl : l.stackTraces = false) {D : va_G} {cA : Nat → ClassId} {b n : Nat} {xo : Nat} {ξ : Nat → Int32} {β : Nat → Nat → Int32} {ρ : Nat → Option Nat} {u v : Nat} (h : AH) (hn : xo + 28 ≤ n) (f lo hi : Int32) (f0 : ¬ f < 0) (f1 : f < 20) (hk : lo ≤ hi) (hz : ξ 0 = 0) : Cn l D cA b y_X_count k_X_count 7 94 1 6 [.ref xo, .int f, .int lo, .int hi] n (ovX xo ξ β ρ u v h) (Re (some (.int 0)) n (ovX xo ξ β ρ u v h)) := by
  refine Cn.of (cc := b_X_count) (maxL := 7) (ret := (some .int)) (hh := []) (by decide +kernel) hl (Or.inl ⟨rfl, rfl⟩) (Nat.le_of_ble_eq_true rfl) ?_
  intro p e s m args below meth c C
  refine j_iload_n C d_X_count_0 rfl rfl ?_
  refine j_callS C d_X_count_1 ml_X_96 mc_X_requireField st_X_requireField (c_X_requireField_0 hl _ f f0 f1) rfl rfl (Nat.le_of_ble_eq_true rfl) (Nat.le_of_ble_eq_true rfl) (Nat.le_of_ble_eq_true rfl) (Nat.le_of_ble_eq_true rfl) (jk_v ?_)
  refine j_iload_n C d_X_count_4 rfl rfl ?_
  refine j_iload_n C d_X_count_5 rfl rfl ?_
  refine j_icmp_le (tgt := 19) C d_X_count_6 (by decide) (fun c6 => ?_) (fun c6 => ?_)
  · refine j_iconst (v := 0) C d_X_count_19 (by decide) ?_
    refine j_istore C d_X_count_20 (by decide) rfl ?_
    refine j_iconst (v := 0) C d_X_count_22 (by decide) ?_
    refine j_istore C d_X_count_23 (by decide) rfl ?_
    refine j_iload C d_X_count_25 rfl ?_
    refine j_aload_n C d_X_count_27 rfl rfl ?_
    refine jx_get 0 C fl_0_15 d_X_count_28 hn rfl rfl ?_
    refine j_icmp_ge (tgt := 76) C d_X_count_31 (by decide) (fun c31 => ?_) (fun c31 => ?_)
    · refine j_iload C d_X_count_76 rfl ?_
      exact j_ireturn C d_X_count_78 rfl (by decide) (by decide) ⟨rfl, rfl, rfl⟩
    · exact absurd (show ξ 0 ≤ 0 by rw [hz]; decide) c31
  · exact absurd hk c6

