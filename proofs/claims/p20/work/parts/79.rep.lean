/-! ===== a report's cells, its methods: printed by program ===== -/
def ovR (r : Nat) (i k t f : Int32) (ζ : Nat → Int32) (g w : Nat → Int32) (h : AH) : AH := ovL r (rps r i k t f ζ g w) h
theorem ovR_o (r : Nat) (i k t f : Int32) (ζ : Nat → Int32) (g w : Nat → Int32) (h : AH) : ovR r i k t f ζ g w h r = .inr (5, [.int i, .int k, .int t, .int f, .ref (r + 1), .int (ζ 0), .int (ζ 1), .int (ζ 2), .int (ζ 3), .ref (r + 2), .int (ζ 4)]) := ovL_c (o := 0) rfl
theorem ovR_v (r : Nat) (i k t f : Int32) (ζ : Nat → Int32) (g w : Nat → Int32) (h : AH) : ovR r i k t f ζ g w h (r + 1) = .inl (0, 20, .inl g) := ovL_c (o := 1) rfl
theorem ovR_s (r : Nat) (i k t f : Int32) (ζ : Nat → Int32) (g w : Nat → Int32) (h : AH) : ovR r i k t f ζ g w h (r + 2) = .inl (0, 3, .inl w) := ovL_c (o := 2) rfl
theorem ovR_u {r : Nat} {i k t f : Int32} {ζ ζ' : Nat → Int32} {g w g' w' : Nat → Int32} {h : AH} {o : Nat} {x : AC} (ho : o < 3) (hx : (rps r i k t f ζ g w).set o x = rps r i k t f ζ' g' w') : hu (ovR r i k t f ζ g w h) (r + o) x = ovR r i k t f ζ' g' w' h := ovL_u ho hx
section JRP
variable {p : Program} {l : Launch} {e : Env} {R : Room} {s : State} {m : MethodId} {args : Array Value} {below : List Frame} {meth : Method} {c : Code} {D : va_G} {cA : Nat → ClassId} {b nL : Nat} {Q : State → Prop} {n : Nat} {h : AH} {kc ks pc : Nat} {L : List (Nat × Value)} {st : List Value} {own mn : String} {cc : ByteArray} {ret : Option FieldType} {hh : List (Nat × Nat × Nat × Nat)} {r : Nat} {i0 k0 t0 f0 : Int32} {ζ : Nat → Int32} {g w : Nat → Int32}

theorem jr_get (C : Cx p l s m meth c D cA b nL own mn cc ret hh) {index k : Nat} {v : Value} (hF : FL own index 5 k) (hd : decode cc pc = .ok (.getfield index, 3)) (hn : r + 3 ≤ n) (hv : ([.int i0, .int k0, .int t0, .int f0, .ref (r + 1), .int (ζ 0), .int (ζ 1), .int (ζ 2), .int (ζ 3), .ref (r + 2), .int (ζ 4)] : List Value)[k]? = some v) (kk : J p l e R s m args below meth c D cA b nL Q n (ovR r i0 k0 t0 f0 ζ g w h) kc ks (pc + 3) L (v :: st)) : J p l e R s m args below meth c D cA b nL Q n (ovR r i0 k0 t0 f0 ζ g w h) kc ks pc L (.ref r :: st) :=
  j_get C hF hd (by omega) (ovR_o _ _ _ _ _ _ _ _ _) hv kk
theorem jr_puti (z : Nat) (C : Cx p l s m meth c D cA b nL own mn cc ret hh) {index k : Nat} {ty : FieldType} {x : Int32} (hF : FP own index 5 k false ty) (hd : decode cc pc = .ok (.putfield index, 3)) (hn : r + 3 ≤ n) (hl : k < 11) (hnr : narrow ty (.int x) = .int x) (hf : fits ty (.int x) = true) (hcs : (rps r i0 k0 t0 f0 ζ g w).set 0 (.inr (5, ([.int i0, .int k0, .int t0, .int f0, .ref (r + 1), .int (ζ 0), .int (ζ 1), .int (ζ 2), .int (ζ 3), .ref (r + 2), .int (ζ 4)] : List Value).set k (.int x))) = rps r i0 k0 t0 f0 (upd ζ z x) g w) (kk : J p l e R s m args below meth c D cA b nL Q n (ovR r i0 k0 t0 f0 (upd ζ z x) g w h) kc ks (pc + 3) L st) : J p l e R s m args below meth c D cA b nL Q n (ovR r i0 k0 t0 f0 ζ g w h) kc ks pc L (.int x :: .ref r :: st) :=
  j_put C hF hd (by omega) (ovR_o _ _ _ _ _ _ _ _ _) hl hnr hf rfl (by
    have e9 := ovR_u (h := h) (o := 0) (by decide) hcs
    rw [Nat.add_zero] at e9
    rw [e9]
    exact kk)
theorem jr_ld1 (C : Cx p l s m meth c D cA b nL own mn cc ret hh) {i v : Int32} (hd : decode cc pc = .ok (.iaload, 1)) (hn : r + 3 ≤ n) (hi : vp_in i 20) (hv : g i.toNatClampNeg = v) (kk : J p l e R s m args below meth c D cA b nL Q n (ovR r i0 k0 t0 f0 ζ g w h) kc ks (pc + 1) L (.int v :: st)) : J p l e R s m args below meth c D cA b nL Q n (ovR r i0 k0 t0 f0 ζ g w h) kc ks pc L (.int i :: .ref (r + 1) :: st) :=
  j_iald C hd rfl (by omega) (ovR_v _ _ _ _ _ _ _ _ _) hi hv kk
theorem jr_ld2 (C : Cx p l s m meth c D cA b nL own mn cc ret hh) {i v : Int32} (hd : decode cc pc = .ok (.iaload, 1)) (hn : r + 3 ≤ n) (hi : vp_in i 3) (hv : w i.toNatClampNeg = v) (kk : J p l e R s m args below meth c D cA b nL Q n (ovR r i0 k0 t0 f0 ζ g w h) kc ks (pc + 1) L (.int v :: st)) : J p l e R s m args below meth c D cA b nL Q n (ovR r i0 k0 t0 f0 ζ g w h) kc ks pc L (.int i :: .ref (r + 2) :: st) :=
  j_iald C hd rfl (by omega) (ovR_s _ _ _ _ _ _ _ _ _) hi hv kk
theorem jr_st1 (C : Cx p l s m meth c D cA b nL own mn cc ret hh) {i x : Int32} (hd : decode cc pc = .ok (.iastore, 1)) (hn : r + 3 ≤ n) (hi : vp_in i 20) (kk : J p l e R s m args below meth c D cA b nL Q n (ovR r i0 k0 t0 f0 ζ (upd g i.toNatClampNeg x) w h) kc ks (pc + 1) L st) : J p l e R s m args below meth c D cA b nL Q n (ovR r i0 k0 t0 f0 ζ g w h) kc ks pc L (.int x :: .int i :: .ref (r + 1) :: st) :=
  j_iast C hd rfl (by omega) (ovR_v _ _ _ _ _ _ _ _ _) hi rfl (by rw [ovR_u (o := 1) (ζ' := ζ) (g' := upd g i.toNatClampNeg x) (w' := w) (by decide) rfl]; exact kk)
theorem jr_st2 (C : Cx p l s m meth c D cA b nL own mn cc ret hh) {i x : Int32} (hd : decode cc pc = .ok (.iastore, 1)) (hn : r + 3 ≤ n) (hi : vp_in i 3) (kk : J p l e R s m args below meth c D cA b nL Q n (ovR r i0 k0 t0 f0 ζ g (upd w i.toNatClampNeg x) h) kc ks (pc + 1) L st) : J p l e R s m args below meth c D cA b nL Q n (ovR r i0 k0 t0 f0 ζ g w h) kc ks pc L (.int x :: .int i :: .ref (r + 2) :: st) :=
  j_iast C hd rfl (by omega) (ovR_s _ _ _ _ _ _ _ _ _) hi rfl (by rw [ovR_u (o := 2) (ζ' := ζ) (g' := g) (w' := upd w i.toNatClampNeg x) (by decide) rfl]; exact kk)
end JRP
def xhs (a f : Int32) : Int32 := if ((a.toUInt32 >>> (f.toUInt32 &&& Int32.toUInt32 31)).toInt32 &&& 1) = 1 then 1 else 0
set_option maxHeartbeats 4000000 in
set_option maxRecDepth 100000 in
theorem c_X_has {l : Launch} (hl : l.stackTraces = false) {D : va_G} {cA : Nat → ClassId} {b n : Nat} (h : AH) (a f : Int32) : Cn l D cA b y_X_has k_X_has 0 0 0 0 [.int a, .int f] n h (Re (some (.int (xhs a f))) n h) := by
  refine Cn.of (cc := b_X_has) (maxL := 2) (ret := (some .boolean)) (hh := []) (by decide +kernel) hl (Or.inl ⟨rfl, rfl⟩) (Nat.le_of_ble_eq_true rfl) ?_
  intro p e s m args below meth c C
  refine j_iload_n C d_X_has_0 rfl rfl ?_
  refine j_iload_n C d_X_has_1 rfl rfl ?_
  refine j_iushr C d_X_has_2 rfl ?_
  refine j_iconst (v := 1) C d_X_has_3 (by decide) ?_
  refine j_iand C d_X_has_4 ?_
  refine j_iconst (v := 1) C d_X_has_5 (by decide) ?_
  refine j_icmp_ne (tgt := 13) C d_X_has_6 (by decide) (fun c6 => ?_) (fun c6 => ?_)
  · refine j_iconst (v := 0) C d_X_has_13 (by decide) ?_
    exact j_zreturn C d_X_has_14 rfl (by decide) (by decide) (by decide) ⟨by unfold xhs; simp only [c6, if_true, if_false], rfl, rfl⟩
  · refine j_iconst (v := 1) C d_X_has_9 (by decide) ?_
    refine j_goto (tgt := 14) C d_X_has_10 (by decide) ?_
    exact j_zreturn C d_X_has_14 rfl (by decide) (by decide) (by decide) ⟨by unfold xhs; simp only [c6, if_true, if_false], rfl, rfl⟩

def rcl (ζ : Nat → Int32) : Int32 := if ζ 4 < 3 then 0 else 1
def rct (ζ : Nat → Int32) (f : Int32) : Int32 := if ζ 4 = 0 then 1 else if xhs (ζ 2) f = 0 then 0 else 1
set_option maxHeartbeats 4000000 in
set_option maxRecDepth 100000 in
theorem c_RP_isClosed {l : Launch} (hl : l.stackTraces = false) {D : va_G} {cA : Nat → ClassId} {b n : Nat} {r : Nat} {i0 k0 t0 f0 : Int32} {ζ : Nat → Int32} {g w : Nat → Int32} (h : AH) (hn : r + 3 ≤ n)  : Cn l D cA b y_RP_isClosed k_RP_isClosed 0 0 0 0 [.ref r] n (ovR r i0 k0 t0 f0 ζ g w h) (Re (some (.int (rcl ζ))) n (ovR r i0 k0 t0 f0 ζ g w h)) := by
  refine Cn.of (cc := b_RP_isClosed) (maxL := 1) (ret := (some .boolean)) (hh := []) (by decide +kernel) hl (Or.inl ⟨rfl, rfl⟩) (Nat.le_of_ble_eq_true rfl) ?_
  intro p e s m args below meth c C
  refine j_aload_n C d_RP_isClosed_0 rfl rfl ?_
  refine jr_get C fl_5_31 d_RP_isClosed_1 hn rfl ?_
  refine j_iconst (v := 3) C d_RP_isClosed_4 (by decide) ?_
  refine j_icmp_lt (tgt := 12) C d_RP_isClosed_5 (by decide) (fun c5 => ?_) (fun c5 => ?_)
  · refine j_iconst (v := 0) C d_RP_isClosed_12 (by decide) ?_
    exact j_zreturn C d_RP_isClosed_13 rfl (by decide) (Nat.le_of_ble_eq_true rfl) (Nat.le_of_ble_eq_true rfl) ⟨by unfold rcl; simp only [c5, if_true, if_false], rfl, rfl⟩
  · refine j_iconst (v := 1) C d_RP_isClosed_8 (by decide) ?_
    refine j_goto (tgt := 13) C d_RP_isClosed_9 (by decide) ?_
    exact j_zreturn C d_RP_isClosed_13 rfl (by decide) (Nat.le_of_ble_eq_true rfl) (Nat.le_of_ble_eq_true rfl) ⟨by unfold rcl; simp only [c5, if_true, if_false], rfl, rfl⟩

set_option maxHeartbeats 4000000 in
set_option maxRecDepth 100000 in
theorem c_RP_canBeTold {l : Launch} (hl : l.stackTraces = false) {D : va_G} {cA : Nat → ClassId} {b n : Nat} {r : Nat} {i0 k0 t0 f0 : Int32} {ζ : Nat → Int32} {g w : Nat → Int32} (h : AH) (hn : r + 3 ≤ n) (f : Int32) : Cn l D cA b y_RP_canBeTold k_RP_canBeTold 1 13 0 0 [.ref r, .int f] n (ovR r i0 k0 t0 f0 ζ g w h) (Re (some (.int (rct ζ f))) n (ovR r i0 k0 t0 f0 ζ g w h)) := by
  refine Cn.of (cc := b_RP_canBeTold) (maxL := 2) (ret := (some .boolean)) (hh := []) (by decide +kernel) hl (Or.inl ⟨rfl, rfl⟩) (Nat.le_of_ble_eq_true rfl) ?_
  intro p e s m args below meth c C
  refine j_aload_n C d_RP_canBeTold_0 rfl rfl ?_
  refine jr_get C fl_5_31 d_RP_canBeTold_1 hn rfl ?_
  refine j_if_eq (tgt := 18) C d_RP_canBeTold_4 (by decide) (fun c4 => ?_) (fun c4 => ?_)
  · refine j_iconst (v := 1) C d_RP_canBeTold_18 (by decide) ?_
    refine j_goto (tgt := 23) C d_RP_canBeTold_19 (by decide) ?_
    exact j_zreturn C d_RP_canBeTold_23 rfl (by decide) (Nat.le_of_ble_eq_true rfl) (Nat.le_of_ble_eq_true rfl) ⟨by unfold rct; simp only [c4, if_true, if_false], rfl, rfl⟩
  · refine j_aload_n C d_RP_canBeTold_7 rfl rfl ?_
    refine jr_get C fl_5_22 d_RP_canBeTold_8 hn rfl ?_
    refine j_iload_n C d_RP_canBeTold_11 rfl rfl ?_
    refine j_callS C d_RP_canBeTold_12 ml_RP_46 mc_X_has st_X_has (c_X_has hl _ _ _) rfl rfl (Nat.le_of_ble_eq_true rfl) (Nat.le_of_ble_eq_true rfl) (Nat.le_of_ble_eq_true rfl) (Nat.le_of_ble_eq_true rfl) (jk_r ?_)
    refine j_if_eq (tgt := 22) C d_RP_canBeTold_15 (by decide) (fun c15 => ?_) (fun c15 => ?_)
    · refine j_iconst (v := 0) C d_RP_canBeTold_22 (by decide) ?_
      exact j_zreturn C d_RP_canBeTold_23 rfl (by decide) (Nat.le_of_ble_eq_true rfl) (Nat.le_of_ble_eq_true rfl) ⟨by unfold rct; simp only [c4, c15, if_true, if_false], rfl, rfl⟩
    · refine j_iconst (v := 1) C d_RP_canBeTold_18 (by decide) ?_
      refine j_goto (tgt := 23) C d_RP_canBeTold_19 (by decide) ?_
      exact j_zreturn C d_RP_canBeTold_23 rfl (by decide) (Nat.le_of_ble_eq_true rfl) (Nat.le_of_ble_eq_true rfl) ⟨by unfold rct; simp only [c4, c15, if_true, if_false], rfl, rfl⟩

set_option maxHeartbeats 4000000 in
set_option maxRecDepth 100000 in
theorem c_RP_tell {l : Launch} (hl : l.stackTraces = false) {D : va_G} {cA : Nat → ClassId} {b n : Nat} {r : Nat} {i0 k0 t0 f0 : Int32} {ζ : Nat → Int32} {g w : Nat → Int32} (h : AH) (hn : r + 3 ≤ n) (f v : Int32) (hi : vp_in f 20) : Cn l D cA b y_RP_tell k_RP_tell 1 15 0 0 [.ref r, .int f, .int v] n (ovR r i0 k0 t0 f0 ζ g w h) (Re none n (ovR r i0 k0 t0 f0 (upd (upd (upd ζ 0 (xch (ζ 0) f 1)) 1 (xch (ζ 1) f 0)) 2 (xch (ζ 2) f 0)) (upd g f.toNatClampNeg v) w h)) := by
  refine Cn.of (cc := b_RP_tell) (maxL := 3) (ret := none) (hh := []) (by decide +kernel) hl (Or.inl ⟨rfl, rfl⟩) (Nat.le_of_ble_eq_true rfl) ?_
  intro p e s m args below meth c C
  refine j_aload_n C d_RP_tell_0 rfl rfl ?_
  refine jr_get C fl_5_9 d_RP_tell_1 hn rfl ?_
  refine j_iload_n C d_RP_tell_4 rfl rfl ?_
  refine j_iload_n C d_RP_tell_5 rfl rfl ?_
  refine jr_st1 C d_RP_tell_6 hn (by assumption) ?_
  refine j_aload_n C d_RP_tell_7 rfl rfl ?_
  refine j_aload_n C d_RP_tell_8 rfl rfl ?_
  refine jr_get C fl_5_15 d_RP_tell_9 hn rfl ?_
  refine j_iload_n C d_RP_tell_12 rfl rfl ?_
  refine j_iconst (v := 1) C d_RP_tell_13 (by decide) ?_
  refine j_callS C d_RP_tell_14 ml_RP_50 mc_X_changed st_X_changed (c_X_changed hl _ _ _ _) rfl rfl (Nat.le_of_ble_eq_true rfl) (Nat.le_of_ble_eq_true rfl) (Nat.le_of_ble_eq_true rfl) (Nat.le_of_ble_eq_true rfl) (jk_r ?_)
  refine jr_puti 0 C fp_5_15 d_RP_tell_17 hn (Nat.le_of_ble_eq_true rfl) rfl rfl rfl ?_
  refine j_aload_n C d_RP_tell_20 rfl rfl ?_
  refine j_aload_n C d_RP_tell_21 rfl rfl ?_
  refine jr_get C fl_5_19 d_RP_tell_22 hn rfl ?_
  refine j_iload_n C d_RP_tell_25 rfl rfl ?_
  refine j_iconst (v := 0) C d_RP_tell_26 (by decide) ?_
  refine j_callS C d_RP_tell_27 ml_RP_50 mc_X_changed st_X_changed (c_X_changed hl _ _ _ _) rfl rfl (Nat.le_of_ble_eq_true rfl) (Nat.le_of_ble_eq_true rfl) (Nat.le_of_ble_eq_true rfl) (Nat.le_of_ble_eq_true rfl) (jk_r ?_)
  refine jr_puti 1 C fp_5_19 d_RP_tell_30 hn (Nat.le_of_ble_eq_true rfl) rfl rfl rfl ?_
  refine j_aload_n C d_RP_tell_33 rfl rfl ?_
  refine j_aload_n C d_RP_tell_34 rfl rfl ?_
  refine jr_get C fl_5_22 d_RP_tell_35 hn rfl ?_
  refine j_iload_n C d_RP_tell_38 rfl rfl ?_
  refine j_iconst (v := 0) C d_RP_tell_39 (by decide) ?_
  refine j_callS C d_RP_tell_40 ml_RP_50 mc_X_changed st_X_changed (c_X_changed hl _ _ _ _) rfl rfl (Nat.le_of_ble_eq_true rfl) (Nat.le_of_ble_eq_true rfl) (Nat.le_of_ble_eq_true rfl) (Nat.le_of_ble_eq_true rfl) (jk_r ?_)
  refine jr_puti 2 C fp_5_22 d_RP_tell_43 hn (Nat.le_of_ble_eq_true rfl) rfl rfl rfl ?_
  exact j_vreturn C d_RP_tell_46 rfl (by decide) (by decide) ⟨rfl, rfl, rfl⟩

/-- an act fills the field: not (0) when it is told, or not by a later act -/
def rfa (ζ : Nat → Int32) (g : Nat → Int32) (f t : Int32) : Int32 := if xhs (ζ 0) f = 0 then 1 else if xhs (ζ 1) f = 0 then 0 else if g f.toNatClampNeg ≤ t then 0 else 1
set_option maxHeartbeats 4000000 in
set_option maxRecDepth 100000 in
theorem c_RP_fillByAct_0 {l : Launch} (hl : l.stackTraces = false) {D : va_G} {cA : Nat → ClassId} {b n : Nat} {r : Nat} {i0 k0 t0 f0 : Int32} {ζ : Nat → Int32} {g w : Nat → Int32} (h : AH) (hn : r + 3 ≤ n) (f t : Int32) (hi : vp_in f 20) (ha : rfa ζ g f t = 0) : Cn l D cA b y_RP_fillByAct k_RP_fillByAct 1 15 0 0 [.ref r, .int f, .int t] n (ovR r i0 k0 t0 f0 ζ g w h) (Re (some (.int 0)) n (ovR r i0 k0 t0 f0 ζ g w h)) := by
  refine Cn.of (cc := b_RP_fillByAct) (maxL := 5) (ret := (some .boolean)) (hh := []) (by decide +kernel) hl (Or.inl ⟨rfl, rfl⟩) (Nat.le_of_ble_eq_true rfl) ?_
  intro p e s m args below meth c C
  refine j_aload_n C d_RP_fillByAct_0 rfl rfl ?_
  refine jr_get C fl_5_15 d_RP_fillByAct_1 hn rfl ?_
  refine j_iload_n C d_RP_fillByAct_4 rfl rfl ?_
  refine j_callS C d_RP_fillByAct_5 ml_RP_46 mc_X_has st_X_has (c_X_has hl _ _ _) rfl rfl (Nat.le_of_ble_eq_true rfl) (Nat.le_of_ble_eq_true rfl) (Nat.le_of_ble_eq_true rfl) (Nat.le_of_ble_eq_true rfl) (jk_r ?_)
  refine j_if_ne (tgt := 15) C d_RP_fillByAct_8 (by decide) (fun c8 => ?_) (fun c8 => ?_)
  · refine j_iconst (v := 0) C d_RP_fillByAct_15 (by decide) ?_
    refine j_istore_n C d_RP_fillByAct_16 rfl (by decide) rfl ?_
    refine j_aload_n C d_RP_fillByAct_17 rfl rfl ?_
    refine jr_get C fl_5_19 d_RP_fillByAct_18 hn rfl ?_
    refine j_iload_n C d_RP_fillByAct_21 rfl rfl ?_
    refine j_callS C d_RP_fillByAct_22 ml_RP_46 mc_X_has st_X_has (c_X_has hl _ _ _) rfl rfl (Nat.le_of_ble_eq_true rfl) (Nat.le_of_ble_eq_true rfl) (Nat.le_of_ble_eq_true rfl) (Nat.le_of_ble_eq_true rfl) (jk_r ?_)
    refine j_if_eq (tgt := 42) C d_RP_fillByAct_25 (by decide) (fun c25 => ?_) (fun c25 => ?_)
    · refine j_iconst (v := 0) C d_RP_fillByAct_42 (by decide) ?_
      refine j_istore C d_RP_fillByAct_43 (by decide) rfl ?_
      refine j_iload_n C d_RP_fillByAct_45 rfl rfl ?_
      refine j_if_ne (tgt := 56) C d_RP_fillByAct_46 (by decide) (fun c46 => ?_) (fun c46 => ?_)
      · exact absurd rfl c46
      · refine j_iload C d_RP_fillByAct_49 rfl ?_
        refine j_if_ne (tgt := 56) C d_RP_fillByAct_51 (by decide) (fun c51 => ?_) (fun c51 => ?_)
        · exact absurd rfl c51
        · refine j_iconst (v := 0) C d_RP_fillByAct_54 (by decide) ?_
          exact j_zreturn C d_RP_fillByAct_55 rfl (by decide) (Nat.le_of_ble_eq_true rfl) (Nat.le_of_ble_eq_true rfl) ⟨rfl, rfl, rfl⟩
    · refine j_iload_n C d_RP_fillByAct_28 rfl rfl ?_
      refine j_aload_n C d_RP_fillByAct_29 rfl rfl ?_
      refine jr_get C fl_5_9 d_RP_fillByAct_30 hn rfl ?_
      refine j_iload_n C d_RP_fillByAct_33 rfl rfl ?_
      refine jr_ld1 C d_RP_fillByAct_34 hn hi rfl ?_
      refine j_icmp_ge (tgt := 42) C d_RP_fillByAct_35 (by decide) (fun c35 => ?_) (fun c35 => ?_)
      · refine j_iconst (v := 0) C d_RP_fillByAct_42 (by decide) ?_
        refine j_istore C d_RP_fillByAct_43 (by decide) rfl ?_
        refine j_iload_n C d_RP_fillByAct_45 rfl rfl ?_
        refine j_if_ne (tgt := 56) C d_RP_fillByAct_46 (by decide) (fun c46 => ?_) (fun c46 => ?_)
        · exact absurd rfl c46
        · refine j_iload C d_RP_fillByAct_49 rfl ?_
          refine j_if_ne (tgt := 56) C d_RP_fillByAct_51 (by decide) (fun c51 => ?_) (fun c51 => ?_)
          · exact absurd rfl c51
          · refine j_iconst (v := 0) C d_RP_fillByAct_54 (by decide) ?_
            exact j_zreturn C d_RP_fillByAct_55 rfl (by decide) (Nat.le_of_ble_eq_true rfl) (Nat.le_of_ble_eq_true rfl) ⟨rfl, rfl, rfl⟩
      · refine j_iconst (v := 1) C d_RP_fillByAct_38 (by decide) ?_
        refine j_goto (tgt := 43) C d_RP_fillByAct_39 (by decide) ?_
        refine j_istore C d_RP_fillByAct_43 (by decide) rfl ?_
        refine j_iload_n C d_RP_fillByAct_45 rfl rfl ?_
        refine j_if_ne (tgt := 56) C d_RP_fillByAct_46 (by decide) (fun c46 => ?_) (fun c46 => ?_)
        · exact absurd rfl c46
        · refine j_iload C d_RP_fillByAct_49 rfl ?_
          refine j_if_ne (tgt := 56) C d_RP_fillByAct_51 (by decide) (fun c51 => ?_) (fun c51 => ?_)
          · exact absurd ha (by unfold rfa; rw [if_neg c8, if_neg c25, if_neg c35]; decide)
          · exact absurd c51 (by decide)
  · refine j_iconst (v := 1) C d_RP_fillByAct_11 (by decide) ?_
    refine j_goto (tgt := 16) C d_RP_fillByAct_12 (by decide) ?_
    refine j_istore_n C d_RP_fillByAct_16 rfl (by decide) rfl ?_
    refine j_aload_n C d_RP_fillByAct_17 rfl rfl ?_
    refine jr_get C fl_5_19 d_RP_fillByAct_18 hn rfl ?_
    refine j_iload_n C d_RP_fillByAct_21 rfl rfl ?_
    refine j_callS C d_RP_fillByAct_22 ml_RP_46 mc_X_has st_X_has (c_X_has hl _ _ _) rfl rfl (Nat.le_of_ble_eq_true rfl) (Nat.le_of_ble_eq_true rfl) (Nat.le_of_ble_eq_true rfl) (Nat.le_of_ble_eq_true rfl) (jk_r ?_)
    refine j_if_eq (tgt := 42) C d_RP_fillByAct_25 (by decide) (fun c25 => ?_) (fun c25 => ?_)
    · refine j_iconst (v := 0) C d_RP_fillByAct_42 (by decide) ?_
      refine j_istore C d_RP_fillByAct_43 (by decide) rfl ?_
      refine j_iload_n C d_RP_fillByAct_45 rfl rfl ?_
      refine j_if_ne (tgt := 56) C d_RP_fillByAct_46 (by decide) (fun c46 => ?_) (fun c46 => ?_)
      · exact absurd ha (by unfold rfa; rw [if_pos c8]; decide)
      · exact absurd c46 (by decide)
    · refine j_iload_n C d_RP_fillByAct_28 rfl rfl ?_
      refine j_aload_n C d_RP_fillByAct_29 rfl rfl ?_
      refine jr_get C fl_5_9 d_RP_fillByAct_30 hn rfl ?_
      refine j_iload_n C d_RP_fillByAct_33 rfl rfl ?_
      refine jr_ld1 C d_RP_fillByAct_34 hn hi rfl ?_
      refine j_icmp_ge (tgt := 42) C d_RP_fillByAct_35 (by decide) (fun c35 => ?_) (fun c35 => ?_)
      · refine j_iconst (v := 0) C d_RP_fillByAct_42 (by decide) ?_
        refine j_istore C d_RP_fillByAct_43 (by decide) rfl ?_
        refine j_iload_n C d_RP_fillByAct_45 rfl rfl ?_
        refine j_if_ne (tgt := 56) C d_RP_fillByAct_46 (by decide) (fun c46 => ?_) (fun c46 => ?_)
        · exact absurd ha (by unfold rfa; rw [if_pos c8]; decide)
        · exact absurd c46 (by decide)
      · refine j_iconst (v := 1) C d_RP_fillByAct_38 (by decide) ?_
        refine j_goto (tgt := 43) C d_RP_fillByAct_39 (by decide) ?_
        refine j_istore C d_RP_fillByAct_43 (by decide) rfl ?_
        refine j_iload_n C d_RP_fillByAct_45 rfl rfl ?_
        refine j_if_ne (tgt := 56) C d_RP_fillByAct_46 (by decide) (fun c46 => ?_) (fun c46 => ?_)
        · exact absurd ha (by unfold rfa; rw [if_pos c8]; decide)
        · exact absurd c46 (by decide)

set_option maxHeartbeats 4000000 in
set_option maxRecDepth 100000 in
theorem c_RP_fillByAct_1 {l : Launch} (hl : l.stackTraces = false) {D : va_G} {cA : Nat → ClassId} {b n : Nat} {r : Nat} {i0 k0 t0 f0 : Int32} {ζ : Nat → Int32} {g w : Nat → Int32} (h : AH) (hn : r + 3 ≤ n) (f t : Int32) (hi : vp_in f 20) (ha : rfa ζ g f t = 1) : Cn l D cA b y_RP_fillByAct k_RP_fillByAct 1 15 0 0 [.ref r, .int f, .int t] n (ovR r i0 k0 t0 f0 ζ g w h) (Re (some (.int 1)) n (ovR r i0 k0 t0 f0 (upd (upd ζ 0 (xch (ζ 0) f 1)) 1 (xch (ζ 1) f 1)) (upd g f.toNatClampNeg t) w h)) := by
  refine Cn.of (cc := b_RP_fillByAct) (maxL := 5) (ret := (some .boolean)) (hh := []) (by decide +kernel) hl (Or.inl ⟨rfl, rfl⟩) (Nat.le_of_ble_eq_true rfl) ?_
  intro p e s m args below meth c C
  refine j_aload_n C d_RP_fillByAct_0 rfl rfl ?_
  refine jr_get C fl_5_15 d_RP_fillByAct_1 hn rfl ?_
  refine j_iload_n C d_RP_fillByAct_4 rfl rfl ?_
  refine j_callS C d_RP_fillByAct_5 ml_RP_46 mc_X_has st_X_has (c_X_has hl _ _ _) rfl rfl (Nat.le_of_ble_eq_true rfl) (Nat.le_of_ble_eq_true rfl) (Nat.le_of_ble_eq_true rfl) (Nat.le_of_ble_eq_true rfl) (jk_r ?_)
  refine j_if_ne (tgt := 15) C d_RP_fillByAct_8 (by decide) (fun c8 => ?_) (fun c8 => ?_)
  · refine j_iconst (v := 0) C d_RP_fillByAct_15 (by decide) ?_
    refine j_istore_n C d_RP_fillByAct_16 rfl (by decide) rfl ?_
    refine j_aload_n C d_RP_fillByAct_17 rfl rfl ?_
    refine jr_get C fl_5_19 d_RP_fillByAct_18 hn rfl ?_
    refine j_iload_n C d_RP_fillByAct_21 rfl rfl ?_
    refine j_callS C d_RP_fillByAct_22 ml_RP_46 mc_X_has st_X_has (c_X_has hl _ _ _) rfl rfl (Nat.le_of_ble_eq_true rfl) (Nat.le_of_ble_eq_true rfl) (Nat.le_of_ble_eq_true rfl) (Nat.le_of_ble_eq_true rfl) (jk_r ?_)
    refine j_if_eq (tgt := 42) C d_RP_fillByAct_25 (by decide) (fun c25 => ?_) (fun c25 => ?_)
    · refine j_iconst (v := 0) C d_RP_fillByAct_42 (by decide) ?_
      refine j_istore C d_RP_fillByAct_43 (by decide) rfl ?_
      refine j_iload_n C d_RP_fillByAct_45 rfl rfl ?_
      refine j_if_ne (tgt := 56) C d_RP_fillByAct_46 (by decide) (fun c46 => ?_) (fun c46 => ?_)
      · exact absurd rfl c46
      · refine j_iload C d_RP_fillByAct_49 rfl ?_
        refine j_if_ne (tgt := 56) C d_RP_fillByAct_51 (by decide) (fun c51 => ?_) (fun c51 => ?_)
        · exact absurd rfl c51
        · exact absurd ha (by unfold rfa; rw [if_neg c8, if_pos c25]; decide)
    · refine j_iload_n C d_RP_fillByAct_28 rfl rfl ?_
      refine j_aload_n C d_RP_fillByAct_29 rfl rfl ?_
      refine jr_get C fl_5_9 d_RP_fillByAct_30 hn rfl ?_
      refine j_iload_n C d_RP_fillByAct_33 rfl rfl ?_
      refine jr_ld1 C d_RP_fillByAct_34 hn hi rfl ?_
      refine j_icmp_ge (tgt := 42) C d_RP_fillByAct_35 (by decide) (fun c35 => ?_) (fun c35 => ?_)
      · refine j_iconst (v := 0) C d_RP_fillByAct_42 (by decide) ?_
        refine j_istore C d_RP_fillByAct_43 (by decide) rfl ?_
        refine j_iload_n C d_RP_fillByAct_45 rfl rfl ?_
        refine j_if_ne (tgt := 56) C d_RP_fillByAct_46 (by decide) (fun c46 => ?_) (fun c46 => ?_)
        · exact absurd rfl c46
        · refine j_iload C d_RP_fillByAct_49 rfl ?_
          refine j_if_ne (tgt := 56) C d_RP_fillByAct_51 (by decide) (fun c51 => ?_) (fun c51 => ?_)
          · exact absurd rfl c51
          · exact absurd ha (by unfold rfa; rw [if_neg c8, if_neg c25, if_pos c35]; decide)
      · refine j_iconst (v := 1) C d_RP_fillByAct_38 (by decide) ?_
        refine j_goto (tgt := 43) C d_RP_fillByAct_39 (by decide) ?_
        refine j_istore C d_RP_fillByAct_43 (by decide) rfl ?_
        refine j_iload_n C d_RP_fillByAct_45 rfl rfl ?_
        refine j_if_ne (tgt := 56) C d_RP_fillByAct_46 (by decide) (fun c46 => ?_) (fun c46 => ?_)
        · exact absurd rfl c46
        · refine j_iload C d_RP_fillByAct_49 rfl ?_
          refine j_if_ne (tgt := 56) C d_RP_fillByAct_51 (by decide) (fun c51 => ?_) (fun c51 => ?_)
          · refine j_aload_n C d_RP_fillByAct_56 rfl rfl ?_
            refine jr_get C fl_5_9 d_RP_fillByAct_57 hn rfl ?_
            refine j_iload_n C d_RP_fillByAct_60 rfl rfl ?_
            refine j_iload_n C d_RP_fillByAct_61 rfl rfl ?_
            refine jr_st1 C d_RP_fillByAct_62 hn hi ?_
            refine j_aload_n C d_RP_fillByAct_63 rfl rfl ?_
            refine j_aload_n C d_RP_fillByAct_64 rfl rfl ?_
            refine jr_get C fl_5_15 d_RP_fillByAct_65 hn rfl ?_
            refine j_iload_n C d_RP_fillByAct_68 rfl rfl ?_
            refine j_iconst (v := 1) C d_RP_fillByAct_69 (by decide) ?_
            refine j_callS C d_RP_fillByAct_70 ml_RP_50 mc_X_changed st_X_changed (c_X_changed hl _ _ _ _) rfl rfl (Nat.le_of_ble_eq_true rfl) (Nat.le_of_ble_eq_true rfl) (Nat.le_of_ble_eq_true rfl) (Nat.le_of_ble_eq_true rfl) (jk_r ?_)
            refine jr_puti 0 C fp_5_15 d_RP_fillByAct_73 hn (Nat.le_of_ble_eq_true rfl) rfl rfl rfl ?_
            refine j_aload_n C d_RP_fillByAct_76 rfl rfl ?_
            refine j_aload_n C d_RP_fillByAct_77 rfl rfl ?_
            refine jr_get C fl_5_19 d_RP_fillByAct_78 hn rfl ?_
            refine j_iload_n C d_RP_fillByAct_81 rfl rfl ?_
            refine j_iconst (v := 1) C d_RP_fillByAct_82 (by decide) ?_
            refine j_callS C d_RP_fillByAct_83 ml_RP_50 mc_X_changed st_X_changed (c_X_changed hl _ _ _ _) rfl rfl (Nat.le_of_ble_eq_true rfl) (Nat.le_of_ble_eq_true rfl) (Nat.le_of_ble_eq_true rfl) (Nat.le_of_ble_eq_true rfl) (jk_r ?_)
            refine jr_puti 1 C fp_5_19 d_RP_fillByAct_86 hn (Nat.le_of_ble_eq_true rfl) rfl rfl rfl ?_
            refine j_iconst (v := 1) C d_RP_fillByAct_89 (by decide) ?_
            exact j_zreturn C d_RP_fillByAct_90 rfl (by decide) (Nat.le_of_ble_eq_true rfl) (Nat.le_of_ble_eq_true rfl) ⟨rfl, rfl, rfl⟩
          · exact absurd c51 (by decide)
  · refine j_iconst (v := 1) C d_RP_fillByAct_11 (by decide) ?_
    refine j_goto (tgt := 16) C d_RP_fillByAct_12 (by decide) ?_
    refine j_istore_n C d_RP_fillByAct_16 rfl (by decide) rfl ?_
    refine j_aload_n C d_RP_fillByAct_17 rfl rfl ?_
    refine jr_get C fl_5_19 d_RP_fillByAct_18 hn rfl ?_
    refine j_iload_n C d_RP_fillByAct_21 rfl rfl ?_
    refine j_callS C d_RP_fillByAct_22 ml_RP_46 mc_X_has st_X_has (c_X_has hl _ _ _) rfl rfl (Nat.le_of_ble_eq_true rfl) (Nat.le_of_ble_eq_true rfl) (Nat.le_of_ble_eq_true rfl) (Nat.le_of_ble_eq_true rfl) (jk_r ?_)
    refine j_if_eq (tgt := 42) C d_RP_fillByAct_25 (by decide) (fun c25 => ?_) (fun c25 => ?_)
    · refine j_iconst (v := 0) C d_RP_fillByAct_42 (by decide) ?_
      refine j_istore C d_RP_fillByAct_43 (by decide) rfl ?_
      refine j_iload_n C d_RP_fillByAct_45 rfl rfl ?_
      refine j_if_ne (tgt := 56) C d_RP_fillByAct_46 (by decide) (fun c46 => ?_) (fun c46 => ?_)
      · refine j_aload_n C d_RP_fillByAct_56 rfl rfl ?_
        refine jr_get C fl_5_9 d_RP_fillByAct_57 hn rfl ?_
        refine j_iload_n C d_RP_fillByAct_60 rfl rfl ?_
        refine j_iload_n C d_RP_fillByAct_61 rfl rfl ?_
        refine jr_st1 C d_RP_fillByAct_62 hn hi ?_
        refine j_aload_n C d_RP_fillByAct_63 rfl rfl ?_
        refine j_aload_n C d_RP_fillByAct_64 rfl rfl ?_
        refine jr_get C fl_5_15 d_RP_fillByAct_65 hn rfl ?_
        refine j_iload_n C d_RP_fillByAct_68 rfl rfl ?_
        refine j_iconst (v := 1) C d_RP_fillByAct_69 (by decide) ?_
        refine j_callS C d_RP_fillByAct_70 ml_RP_50 mc_X_changed st_X_changed (c_X_changed hl _ _ _ _) rfl rfl (Nat.le_of_ble_eq_true rfl) (Nat.le_of_ble_eq_true rfl) (Nat.le_of_ble_eq_true rfl) (Nat.le_of_ble_eq_true rfl) (jk_r ?_)
        refine jr_puti 0 C fp_5_15 d_RP_fillByAct_73 hn (Nat.le_of_ble_eq_true rfl) rfl rfl rfl ?_
        refine j_aload_n C d_RP_fillByAct_76 rfl rfl ?_
        refine j_aload_n C d_RP_fillByAct_77 rfl rfl ?_
        refine jr_get C fl_5_19 d_RP_fillByAct_78 hn rfl ?_
        refine j_iload_n C d_RP_fillByAct_81 rfl rfl ?_
        refine j_iconst (v := 1) C d_RP_fillByAct_82 (by decide) ?_
        refine j_callS C d_RP_fillByAct_83 ml_RP_50 mc_X_changed st_X_changed (c_X_changed hl _ _ _ _) rfl rfl (Nat.le_of_ble_eq_true rfl) (Nat.le_of_ble_eq_true rfl) (Nat.le_of_ble_eq_true rfl) (Nat.le_of_ble_eq_true rfl) (jk_r ?_)
        refine jr_puti 1 C fp_5_19 d_RP_fillByAct_86 hn (Nat.le_of_ble_eq_true rfl) rfl rfl rfl ?_
        refine j_iconst (v := 1) C d_RP_fillByAct_89 (by decide) ?_
        exact j_zreturn C d_RP_fillByAct_90 rfl (by decide) (Nat.le_of_ble_eq_true rfl) (Nat.le_of_ble_eq_true rfl) ⟨rfl, rfl, rfl⟩
      · exact absurd c46 (by decide)
    · refine j_iload_n C d_RP_fillByAct_28 rfl rfl ?_
      refine j_aload_n C d_RP_fillByAct_29 rfl rfl ?_
      refine jr_get C fl_5_9 d_RP_fillByAct_30 hn rfl ?_
      refine j_iload_n C d_RP_fillByAct_33 rfl rfl ?_
      refine jr_ld1 C d_RP_fillByAct_34 hn hi rfl ?_
      refine j_icmp_ge (tgt := 42) C d_RP_fillByAct_35 (by decide) (fun c35 => ?_) (fun c35 => ?_)
      · refine j_iconst (v := 0) C d_RP_fillByAct_42 (by decide) ?_
        refine j_istore C d_RP_fillByAct_43 (by decide) rfl ?_
        refine j_iload_n C d_RP_fillByAct_45 rfl rfl ?_
        refine j_if_ne (tgt := 56) C d_RP_fillByAct_46 (by decide) (fun c46 => ?_) (fun c46 => ?_)
        · refine j_aload_n C d_RP_fillByAct_56 rfl rfl ?_
          refine jr_get C fl_5_9 d_RP_fillByAct_57 hn rfl ?_
          refine j_iload_n C d_RP_fillByAct_60 rfl rfl ?_
          refine j_iload_n C d_RP_fillByAct_61 rfl rfl ?_
          refine jr_st1 C d_RP_fillByAct_62 hn hi ?_
          refine j_aload_n C d_RP_fillByAct_63 rfl rfl ?_
          refine j_aload_n C d_RP_fillByAct_64 rfl rfl ?_
          refine jr_get C fl_5_15 d_RP_fillByAct_65 hn rfl ?_
          refine j_iload_n C d_RP_fillByAct_68 rfl rfl ?_
          refine j_iconst (v := 1) C d_RP_fillByAct_69 (by decide) ?_
          refine j_callS C d_RP_fillByAct_70 ml_RP_50 mc_X_changed st_X_changed (c_X_changed hl _ _ _ _) rfl rfl (Nat.le_of_ble_eq_true rfl) (Nat.le_of_ble_eq_true rfl) (Nat.le_of_ble_eq_true rfl) (Nat.le_of_ble_eq_true rfl) (jk_r ?_)
          refine jr_puti 0 C fp_5_15 d_RP_fillByAct_73 hn (Nat.le_of_ble_eq_true rfl) rfl rfl rfl ?_
          refine j_aload_n C d_RP_fillByAct_76 rfl rfl ?_
          refine j_aload_n C d_RP_fillByAct_77 rfl rfl ?_
          refine jr_get C fl_5_19 d_RP_fillByAct_78 hn rfl ?_
          refine j_iload_n C d_RP_fillByAct_81 rfl rfl ?_
          refine j_iconst (v := 1) C d_RP_fillByAct_82 (by decide) ?_
          refine j_callS C d_RP_fillByAct_83 ml_RP_50 mc_X_changed st_X_changed (c_X_changed hl _ _ _ _) rfl rfl (Nat.le_of_ble_eq_true rfl) (Nat.le_of_ble_eq_true rfl) (Nat.le_of_ble_eq_true rfl) (Nat.le_of_ble_eq_true rfl) (jk_r ?_)
          refine jr_puti 1 C fp_5_19 d_RP_fillByAct_86 hn (Nat.le_of_ble_eq_true rfl) rfl rfl rfl ?_
          refine j_iconst (v := 1) C d_RP_fillByAct_89 (by decide) ?_
          exact j_zreturn C d_RP_fillByAct_90 rfl (by decide) (Nat.le_of_ble_eq_true rfl) (Nat.le_of_ble_eq_true rfl) ⟨rfl, rfl, rfl⟩
        · exact absurd c46 (by decide)
      · refine j_iconst (v := 1) C d_RP_fillByAct_38 (by decide) ?_
        refine j_goto (tgt := 43) C d_RP_fillByAct_39 (by decide) ?_
        refine j_istore C d_RP_fillByAct_43 (by decide) rfl ?_
        refine j_iload_n C d_RP_fillByAct_45 rfl rfl ?_
        refine j_if_ne (tgt := 56) C d_RP_fillByAct_46 (by decide) (fun c46 => ?_) (fun c46 => ?_)
        · refine j_aload_n C d_RP_fillByAct_56 rfl rfl ?_
          refine jr_get C fl_5_9 d_RP_fillByAct_57 hn rfl ?_
          refine j_iload_n C d_RP_fillByAct_60 rfl rfl ?_
          refine j_iload_n C d_RP_fillByAct_61 rfl rfl ?_
          refine jr_st1 C d_RP_fillByAct_62 hn hi ?_
          refine j_aload_n C d_RP_fillByAct_63 rfl rfl ?_
          refine j_aload_n C d_RP_fillByAct_64 rfl rfl ?_
          refine jr_get C fl_5_15 d_RP_fillByAct_65 hn rfl ?_
          refine j_iload_n C d_RP_fillByAct_68 rfl rfl ?_
          refine j_iconst (v := 1) C d_RP_fillByAct_69 (by decide) ?_
          refine j_callS C d_RP_fillByAct_70 ml_RP_50 mc_X_changed st_X_changed (c_X_changed hl _ _ _ _) rfl rfl (Nat.le_of_ble_eq_true rfl) (Nat.le_of_ble_eq_true rfl) (Nat.le_of_ble_eq_true rfl) (Nat.le_of_ble_eq_true rfl) (jk_r ?_)
          refine jr_puti 0 C fp_5_15 d_RP_fillByAct_73 hn (Nat.le_of_ble_eq_true rfl) rfl rfl rfl ?_
          refine j_aload_n C d_RP_fillByAct_76 rfl rfl ?_
          refine j_aload_n C d_RP_fillByAct_77 rfl rfl ?_
          refine jr_get C fl_5_19 d_RP_fillByAct_78 hn rfl ?_
          refine j_iload_n C d_RP_fillByAct_81 rfl rfl ?_
          refine j_iconst (v := 1) C d_RP_fillByAct_82 (by decide) ?_
          refine j_callS C d_RP_fillByAct_83 ml_RP_50 mc_X_changed st_X_changed (c_X_changed hl _ _ _ _) rfl rfl (Nat.le_of_ble_eq_true rfl) (Nat.le_of_ble_eq_true rfl) (Nat.le_of_ble_eq_true rfl) (Nat.le_of_ble_eq_true rfl) (jk_r ?_)
          refine jr_puti 1 C fp_5_19 d_RP_fillByAct_86 hn (Nat.le_of_ble_eq_true rfl) rfl rfl rfl ?_
          refine j_iconst (v := 1) C d_RP_fillByAct_89 (by decide) ?_
          exact j_zreturn C d_RP_fillByAct_90 rfl (by decide) (Nat.le_of_ble_eq_true rfl) (Nat.le_of_ble_eq_true rfl) ⟨rfl, rfl, rfl⟩
        · exact absurd c46 (by decide)

def rhs (w : Nat → Int32) (x : Int32) : Nat → Nat → Int32
  | 0, _ => 0
  | k + 1, i => if w i = x then 1 else rhs w x k (i + 1)
set_option maxHeartbeats 4000000 in
set_option maxRecDepth 100000 in
theorem c_RP_hasSigner {l : Launch} (hl : l.stackTraces = false) {D : va_G} {cA : Nat → ClassId} {b n : Nat} {r : Nat} {i0 k0 t0 f0 : Int32} {ζ : Nat → Int32} {g w : Nat → Int32} (h : AH) (hn : r + 3 ≤ n) (x : Int32) (c0 : Nat) (h4 : ζ 4 = nI c0) (hc : c0 ≤ 3) : Cn l D cA b y_RP_hasSigner k_RP_hasSigner 0 0 0 0 [.ref r, .int x] n (ovR r i0 k0 t0 f0 ζ g w h) (Re (some (.int (rhs w x c0 0))) n (ovR r i0 k0 t0 f0 ζ g w h)) := by
  refine Cn.of (cc := b_RP_hasSigner) (maxL := 3) (ret := (some .boolean)) (hh := []) (by decide +kernel) hl (Or.inl ⟨rfl, rfl⟩) (Nat.le_of_ble_eq_true rfl) ?_
  intro p e s m args below meth c C
  have loop : ∀ (m9 k : Nat), k + m9 = c0 → rhs w x m9 k = rhs w x c0 0 → J p l e { frames := 0, cells := 0, slots := 0, locals := 0 } s m args below meth c D cA b 3 (EndQ D cA b s below (Re (some (.int (rhs w x c0 0))) n (ovR r i0 k0 t0 f0 ζ g w h)) 0 0) n (ovR r i0 k0 t0 f0 ζ g w h) 0 0 2 [(2, .int (nI k)), (0, .ref r), (1, .int x)] [] := by
    intro m9
    induction m9 with
    | zero =>
      intro k hk hv
      obtain rfl : c0 = k := by omega
      refine j_iload_n C d_RP_hasSigner_2 rfl rfl ?_
      refine j_aload_n C d_RP_hasSigner_3 rfl rfl ?_
      refine jr_get C fl_5_31 d_RP_hasSigner_4 hn rfl ?_
      refine j_icmp_ge (tgt := 33) C d_RP_hasSigner_7 (by decide) (fun c7 => ?_) (fun c7 => ?_)
      · refine j_iconst (v := 0) C d_RP_hasSigner_33 (by decide) ?_
        exact j_zreturn C d_RP_hasSigner_34 rfl (by decide) (Nat.le_of_ble_eq_true rfl) (Nat.le_of_ble_eq_true rfl) ⟨by rw [← hv]; rfl, rfl, rfl⟩
      · exact absurd (show ζ 4 ≤ nI c0 by rw [h4]; exact nI_le (Nat.le_refl _) (by omega)) c7
    | succ m9 ih =>
      intro k hk hv
      refine j_iload_n C d_RP_hasSigner_2 rfl rfl ?_
      refine j_aload_n C d_RP_hasSigner_3 rfl rfl ?_
      refine jr_get C fl_5_31 d_RP_hasSigner_4 hn rfl ?_
      refine j_icmp_ge (tgt := 33) C d_RP_hasSigner_7 (by decide) (fun c7 => ?_) (fun c7 => ?_)
      · exact absurd (show nI c0 ≤ nI k by rw [← h4]; exact c7) (nI_ge (by omega) (by omega))
      · refine j_iload_n C d_RP_hasSigner_10 rfl rfl ?_
        refine j_iconst (v := 3) C d_RP_hasSigner_11 (by decide) ?_
        refine j_icmp_ge (tgt := 33) C d_RP_hasSigner_12 (by decide) (fun c12 => ?_) (fun c12 => ?_)
        · exact absurd (show nI 3 ≤ nI k from c12) (nI_ge (by omega) (by omega))
        · refine j_aload_n C d_RP_hasSigner_15 rfl rfl ?_
          refine jr_get C fl_5_28 d_RP_hasSigner_16 hn rfl ?_
          refine j_iload_n C d_RP_hasSigner_19 rfl rfl ?_
          refine jr_ld2 (v := w k) C d_RP_hasSigner_20 hn (vp_in_nI (by omega) (by omega)) (by rw [nI_clamp (by omega)]) ?_
          refine j_iload_n C d_RP_hasSigner_21 rfl rfl ?_
          refine j_icmp_ne (tgt := 27) C d_RP_hasSigner_22 (by decide) (fun c22 => ?_) (fun c22 => ?_)
          · refine j_iinc (v := nI (k + 1)) C d_RP_hasSigner_27 rfl (nI_inc k) (by decide) rfl ?_
            refine j_goto (tgt := 2) C d_RP_hasSigner_30 (by decide) ?_
            exact j_pick [0, 1, 2] rfl (ih (k + 1) (by omega) (by rw [← hv]; show _ = (if w k = x then 1 else rhs w x m9 (k + 1)); rw [if_neg c22]))
          · refine j_iconst (v := 1) C d_RP_hasSigner_25 (by decide) ?_
            exact j_zreturn C d_RP_hasSigner_26 rfl (by decide) (Nat.le_of_ble_eq_true rfl) (Nat.le_of_ble_eq_true rfl) ⟨by rw [← hv]; congr 3; symm; show (if w k = x then 1 else rhs w x m9 (k + 1)) = 1; rw [if_pos c22], rfl, rfl⟩
  refine j_iconst (v := 0) C d_RP_hasSigner_0 (by decide) ?_
  refine j_istore_n C d_RP_hasSigner_1 rfl (by decide) rfl ?_
  exact j_pick [0, 1, 2] rfl (loop c0 0 (by omega) rfl)

def rrd (ζ : Nat → Int32) (w : Nat → Int32) (c0 : Nat) (x : Int32) : Int32 := if ζ 3 = 0 then (if ζ 2 = 0 then (if rcl ζ = 0 then (if rhs w x c0 0 = 0 then 1 else 0) else 0) else 0) else 0
def rla (ζ : Nat → Int32) (t0 now mi : Int32) : Int32 := if rcl ζ = 0 then (if now - t0 ≤ mi then 0 else 1) else 0
def rse (ζ : Nat → Int32) : Int32 := if rcl ζ = 0 then 0 else if ζ 2 = 0 then 1 else 0
def rbt (ζ : Nat → Int32) (g : Nat → Int32) (f lo hi : Int32) : Int32 := if xhs (ζ 0) f = 0 then 0 else if g f.toNatClampNeg < lo then 0 else if hi < g f.toNatClampNeg then 0 else 1
set_option maxHeartbeats 4000000 in
set_option maxRecDepth 100000 in
theorem c_RP_isReadyFor {l : Launch} (hl : l.stackTraces = false) {D : va_G} {cA : Nat → ClassId} {b n : Nat} {r : Nat} {i0 k0 t0 f0 : Int32} {ζ : Nat → Int32} {g w : Nat → Int32} (h : AH) (hn : r + 3 ≤ n) (x : Int32) (c0 : Nat) (h4 : ζ 4 = nI c0) (hc : c0 ≤ 3) : Cn l D cA b y_RP_isReadyFor k_RP_isReadyFor 1 14 0 0 [.ref r, .int x] n (ovR r i0 k0 t0 f0 ζ g w h) (Re (some (.int (rrd ζ w c0 x))) n (ovR r i0 k0 t0 f0 ζ g w h)) := by
  refine Cn.of (cc := b_RP_isReadyFor) (maxL := 2) (ret := (some .boolean)) (hh := []) (by decide +kernel) hl (Or.inl ⟨rfl, rfl⟩) (Nat.le_of_ble_eq_true rfl) ?_
  intro p e s m args below meth c C
  refine j_aload_n C d_RP_isReadyFor_0 rfl rfl ?_
  refine jr_get C fl_5_25 d_RP_isReadyFor_1 hn rfl ?_
  refine j_if_ne (tgt := 33) C d_RP_isReadyFor_4 (by decide) (fun c4 => ?_) (fun c4 => ?_)
  · refine j_iconst (v := 0) C d_RP_isReadyFor_33 (by decide) ?_
    exact j_zreturn C d_RP_isReadyFor_34 rfl (by decide) (Nat.le_of_ble_eq_true rfl) (Nat.le_of_ble_eq_true rfl) ⟨by unfold rrd; simp only [c4, if_true, if_false], rfl, rfl⟩
  · refine j_aload_n C d_RP_isReadyFor_7 rfl rfl ?_
    refine jr_get C fl_5_22 d_RP_isReadyFor_8 hn rfl ?_
    refine j_if_ne (tgt := 33) C d_RP_isReadyFor_11 (by decide) (fun c11 => ?_) (fun c11 => ?_)
    · refine j_iconst (v := 0) C d_RP_isReadyFor_33 (by decide) ?_
      exact j_zreturn C d_RP_isReadyFor_34 rfl (by decide) (Nat.le_of_ble_eq_true rfl) (Nat.le_of_ble_eq_true rfl) ⟨by unfold rrd; simp only [c4, c11, if_true, if_false], rfl, rfl⟩
    · refine j_aload_n C d_RP_isReadyFor_14 rfl rfl ?_
      refine j_callV C d_RP_isReadyFor_15 ml_RP_60 mc_RP_isClosed in_RP_isClosed rfl se_RP_isClosed (by omega) (ovR_o _ _ _ _ _ _ _ _ _) (c_RP_isClosed hl h hn) rfl rfl (Nat.le_of_ble_eq_true rfl) (Nat.le_of_ble_eq_true rfl) (Nat.le_of_ble_eq_true rfl) (Nat.le_of_ble_eq_true rfl) (jk_r ?_)
      refine j_if_ne (tgt := 33) C d_RP_isReadyFor_18 (by decide) (fun c18 => ?_) (fun c18 => ?_)
      · refine j_iconst (v := 0) C d_RP_isReadyFor_33 (by decide) ?_
        exact j_zreturn C d_RP_isReadyFor_34 rfl (by decide) (Nat.le_of_ble_eq_true rfl) (Nat.le_of_ble_eq_true rfl) ⟨by unfold rrd; simp only [c4, c11, c18, if_true, if_false], rfl, rfl⟩
      · refine j_aload_n C d_RP_isReadyFor_21 rfl rfl ?_
        refine j_iload_n C d_RP_isReadyFor_22 rfl rfl ?_
        refine j_callV C d_RP_isReadyFor_23 ml_RP_64 mc_RP_hasSigner in_RP_hasSigner rfl se_RP_hasSigner (by omega) (ovR_o _ _ _ _ _ _ _ _ _) (c_RP_hasSigner hl h hn x c0 h4 hc) rfl rfl (Nat.le_of_ble_eq_true rfl) (Nat.le_of_ble_eq_true rfl) (Nat.le_of_ble_eq_true rfl) (Nat.le_of_ble_eq_true rfl) (jk_r ?_)
        refine j_if_ne (tgt := 33) C d_RP_isReadyFor_26 (by decide) (fun c26 => ?_) (fun c26 => ?_)
        · refine j_iconst (v := 0) C d_RP_isReadyFor_33 (by decide) ?_
          exact j_zreturn C d_RP_isReadyFor_34 rfl (by decide) (Nat.le_of_ble_eq_true rfl) (Nat.le_of_ble_eq_true rfl) ⟨by unfold rrd; simp only [c4, c11, c18, c26, if_true, if_false], rfl, rfl⟩
        · refine j_iconst (v := 1) C d_RP_isReadyFor_29 (by decide) ?_
          refine j_goto (tgt := 34) C d_RP_isReadyFor_30 (by decide) ?_
          exact j_zreturn C d_RP_isReadyFor_34 rfl (by decide) (Nat.le_of_ble_eq_true rfl) (Nat.le_of_ble_eq_true rfl) ⟨by unfold rrd; simp only [c4, c11, c18, c26, if_true, if_false], rfl, rfl⟩

set_option maxHeartbeats 4000000 in
set_option maxRecDepth 100000 in
theorem c_RP_isLate {l : Launch} (hl : l.stackTraces = false) {D : va_G} {cA : Nat → ClassId} {b n : Nat} {r : Nat} {i0 k0 t0 f0 : Int32} {ζ : Nat → Int32} {g w : Nat → Int32} (h : AH) (hn : r + 3 ≤ n) (now mi : Int32) : Cn l D cA b y_RP_isLate k_RP_isLate 1 12 0 0 [.ref r, .int now, .int mi] n (ovR r i0 k0 t0 f0 ζ g w h) (Re (some (.int (rla ζ t0 now mi))) n (ovR r i0 k0 t0 f0 ζ g w h)) := by
  refine Cn.of (cc := b_RP_isLate) (maxL := 3) (ret := (some .boolean)) (hh := []) (by decide +kernel) hl (Or.inl ⟨rfl, rfl⟩) (Nat.le_of_ble_eq_true rfl) ?_
  intro p e s m args below meth c C
  refine j_aload_n C d_RP_isLate_0 rfl rfl ?_
  refine j_callV C d_RP_isLate_1 ml_RP_60 mc_RP_isClosed in_RP_isClosed rfl se_RP_isClosed (by omega) (ovR_o _ _ _ _ _ _ _ _ _) (c_RP_isClosed hl h hn) rfl rfl (Nat.le_of_ble_eq_true rfl) (Nat.le_of_ble_eq_true rfl) (Nat.le_of_ble_eq_true rfl) (Nat.le_of_ble_eq_true rfl) (jk_r ?_)
  refine j_if_ne (tgt := 21) C d_RP_isLate_4 (by decide) (fun c4 => ?_) (fun c4 => ?_)
  · refine j_iconst (v := 0) C d_RP_isLate_21 (by decide) ?_
    exact j_zreturn C d_RP_isLate_22 rfl (by decide) (Nat.le_of_ble_eq_true rfl) (Nat.le_of_ble_eq_true rfl) ⟨by unfold rla; simp only [c4, if_true, if_false], rfl, rfl⟩
  · refine j_iload_n C d_RP_isLate_7 rfl rfl ?_
    refine j_aload_n C d_RP_isLate_8 rfl rfl ?_
    refine jr_get C fl_5_40 d_RP_isLate_9 hn rfl ?_
    refine j_isub C d_RP_isLate_12 ?_
    refine j_iload_n C d_RP_isLate_13 rfl rfl ?_
    refine j_icmp_le (tgt := 21) C d_RP_isLate_14 (by decide) (fun c14 => ?_) (fun c14 => ?_)
    · refine j_iconst (v := 0) C d_RP_isLate_21 (by decide) ?_
      exact j_zreturn C d_RP_isLate_22 rfl (by decide) (Nat.le_of_ble_eq_true rfl) (Nat.le_of_ble_eq_true rfl) ⟨by unfold rla; simp only [c4, c14, if_true, if_false], rfl, rfl⟩
    · refine j_iconst (v := 1) C d_RP_isLate_17 (by decide) ?_
      refine j_goto (tgt := 22) C d_RP_isLate_18 (by decide) ?_
      exact j_zreturn C d_RP_isLate_22 rfl (by decide) (Nat.le_of_ble_eq_true rfl) (Nat.le_of_ble_eq_true rfl) ⟨by unfold rla; simp only [c4, c14, if_true, if_false], rfl, rfl⟩

set_option maxHeartbeats 4000000 in
set_option maxRecDepth 100000 in
theorem c_RP_isSettled {l : Launch} (hl : l.stackTraces = false) {D : va_G} {cA : Nat → ClassId} {b n : Nat} {r : Nat} {i0 k0 t0 f0 : Int32} {ζ : Nat → Int32} {g w : Nat → Int32} (h : AH) (hn : r + 3 ≤ n)  : Cn l D cA b y_RP_isSettled k_RP_isSettled 1 12 0 0 [.ref r] n (ovR r i0 k0 t0 f0 ζ g w h) (Re (some (.int (rse ζ))) n (ovR r i0 k0 t0 f0 ζ g w h)) := by
  refine Cn.of (cc := b_RP_isSettled) (maxL := 1) (ret := (some .boolean)) (hh := []) (by decide +kernel) hl (Or.inl ⟨rfl, rfl⟩) (Nat.le_of_ble_eq_true rfl) ?_
  intro p e s m args below meth c C
  refine j_aload_n C d_RP_isSettled_0 rfl rfl ?_
  refine j_callV C d_RP_isSettled_1 ml_RP_60 mc_RP_isClosed in_RP_isClosed rfl se_RP_isClosed (by omega) (ovR_o _ _ _ _ _ _ _ _ _) (c_RP_isClosed hl h hn) rfl rfl (Nat.le_of_ble_eq_true rfl) (Nat.le_of_ble_eq_true rfl) (Nat.le_of_ble_eq_true rfl) (Nat.le_of_ble_eq_true rfl) (jk_r ?_)
  refine j_if_eq (tgt := 18) C d_RP_isSettled_4 (by decide) (fun c4 => ?_) (fun c4 => ?_)
  · refine j_iconst (v := 0) C d_RP_isSettled_18 (by decide) ?_
    exact j_zreturn C d_RP_isSettled_19 rfl (by decide) (Nat.le_of_ble_eq_true rfl) (Nat.le_of_ble_eq_true rfl) ⟨by unfold rse; simp only [c4, if_true, if_false], rfl, rfl⟩
  · refine j_aload_n C d_RP_isSettled_7 rfl rfl ?_
    refine jr_get C fl_5_22 d_RP_isSettled_8 hn rfl ?_
    refine j_if_ne (tgt := 18) C d_RP_isSettled_11 (by decide) (fun c11 => ?_) (fun c11 => ?_)
    · refine j_iconst (v := 0) C d_RP_isSettled_18 (by decide) ?_
      exact j_zreturn C d_RP_isSettled_19 rfl (by decide) (Nat.le_of_ble_eq_true rfl) (Nat.le_of_ble_eq_true rfl) ⟨by unfold rse; simp only [c4, c11, if_true, if_false], rfl, rfl⟩
    · refine j_iconst (v := 1) C d_RP_isSettled_14 (by decide) ?_
      refine j_goto (tgt := 19) C d_RP_isSettled_15 (by decide) ?_
      exact j_zreturn C d_RP_isSettled_19 rfl (by decide) (Nat.le_of_ble_eq_true rfl) (Nat.le_of_ble_eq_true rfl) ⟨by unfold rse; simp only [c4, c11, if_true, if_false], rfl, rfl⟩

set_option maxHeartbeats 4000000 in
set_option maxRecDepth 100000 in
theorem c_RP_isBetween {l : Launch} (hl : l.stackTraces = false) {D : va_G} {cA : Nat → ClassId} {b n : Nat} {r : Nat} {i0 k0 t0 f0 : Int32} {ζ : Nat → Int32} {g w : Nat → Int32} (h : AH) (hn : r + 3 ≤ n) (f lo hi : Int32) (hf : vp_in f 20) : Cn l D cA b y_RP_isBetween k_RP_isBetween 1 13 0 0 [.ref r, .int f, .int lo, .int hi] n (ovR r i0 k0 t0 f0 ζ g w h) (Re (some (.int (rbt ζ g f lo hi))) n (ovR r i0 k0 t0 f0 ζ g w h)) := by
  refine Cn.of (cc := b_RP_isBetween) (maxL := 4) (ret := (some .boolean)) (hh := []) (by decide +kernel) hl (Or.inl ⟨rfl, rfl⟩) (Nat.le_of_ble_eq_true rfl) ?_
  intro p e s m args below meth c C
  refine j_aload_n C d_RP_isBetween_0 rfl rfl ?_
  refine jr_get C fl_5_15 d_RP_isBetween_1 hn rfl ?_
  refine j_iload_n C d_RP_isBetween_4 rfl rfl ?_
  refine j_callS C d_RP_isBetween_5 ml_RP_46 mc_X_has st_X_has (c_X_has hl _ _ _) rfl rfl (Nat.le_of_ble_eq_true rfl) (Nat.le_of_ble_eq_true rfl) (Nat.le_of_ble_eq_true rfl) (Nat.le_of_ble_eq_true rfl) (jk_r ?_)
  refine j_if_eq (tgt := 35) C d_RP_isBetween_8 (by decide) (fun c8 => ?_) (fun c8 => ?_)
  · refine j_iconst (v := 0) C d_RP_isBetween_35 (by decide) ?_
    exact j_zreturn C d_RP_isBetween_36 rfl (by decide) (Nat.le_of_ble_eq_true rfl) (Nat.le_of_ble_eq_true rfl) ⟨by unfold rbt; simp only [c8, if_true, if_false], rfl, rfl⟩
  · refine j_aload_n C d_RP_isBetween_11 rfl rfl ?_
    refine jr_get C fl_5_9 d_RP_isBetween_12 hn rfl ?_
    refine j_iload_n C d_RP_isBetween_15 rfl rfl ?_
    refine jr_ld1 C d_RP_isBetween_16 hn hf rfl ?_
    refine j_iload_n C d_RP_isBetween_17 rfl rfl ?_
    refine j_icmp_lt (tgt := 35) C d_RP_isBetween_18 (by decide) (fun c18 => ?_) (fun c18 => ?_)
    · refine j_iconst (v := 0) C d_RP_isBetween_35 (by decide) ?_
      exact j_zreturn C d_RP_isBetween_36 rfl (by decide) (Nat.le_of_ble_eq_true rfl) (Nat.le_of_ble_eq_true rfl) ⟨by unfold rbt; simp only [c8, c18, if_true, if_false], rfl, rfl⟩
    · refine j_aload_n C d_RP_isBetween_21 rfl rfl ?_
      refine jr_get C fl_5_9 d_RP_isBetween_22 hn rfl ?_
      refine j_iload_n C d_RP_isBetween_25 rfl rfl ?_
      refine jr_ld1 C d_RP_isBetween_26 hn hf rfl ?_
      refine j_iload_n C d_RP_isBetween_27 rfl rfl ?_
      refine j_icmp_gt (tgt := 35) C d_RP_isBetween_28 (by decide) (fun c28 => ?_) (fun c28 => ?_)
      · refine j_iconst (v := 0) C d_RP_isBetween_35 (by decide) ?_
        exact j_zreturn C d_RP_isBetween_36 rfl (by decide) (Nat.le_of_ble_eq_true rfl) (Nat.le_of_ble_eq_true rfl) ⟨by unfold rbt; simp only [c8, c18, c28, if_true, if_false], rfl, rfl⟩
      · refine j_iconst (v := 1) C d_RP_isBetween_31 (by decide) ?_
        refine j_goto (tgt := 36) C d_RP_isBetween_32 (by decide) ?_
        exact j_zreturn C d_RP_isBetween_36 rfl (by decide) (Nat.le_of_ble_eq_true rfl) (Nat.le_of_ble_eq_true rfl) ⟨by unfold rbt; simp only [c8, c18, c28, if_true, if_false], rfl, rfl⟩

set_option maxHeartbeats 4000000 in
set_option maxRecDepth 100000 in
theorem c_RP_addSignature {l : Launch} (hl : l.stackTraces = false) {D : va_G} {cA : Nat → ClassId} {b n : Nat} {r : Nat} {i0 k0 t0 f0 : Int32} {ζ : Nat → Int32} {g w : Nat → Int32} (h : AH) (hn : r + 3 ≤ n) (x : Int32) (c0 : Nat) (h4 : ζ 4 = nI c0) (hc : c0 < 3) : Cn l D cA b y_RP_addSignature k_RP_addSignature 0 0 0 0 [.ref r, .int x] n (ovR r i0 k0 t0 f0 ζ g w h) (Re none n (ovR r i0 k0 t0 f0 (upd ζ 4 (nI (c0 + 1))) g (upd w c0 x) h)) := by
  refine Cn.of (cc := b_RP_addSignature) (maxL := 2) (ret := none) (hh := []) (by decide +kernel) hl (Or.inl ⟨rfl, rfl⟩) (Nat.le_of_ble_eq_true rfl) ?_
  intro p e s m args below meth c C
  refine j_aload_n C d_RP_addSignature_0 rfl rfl ?_
  refine jr_get C fl_5_31 d_RP_addSignature_1 hn rfl ?_
  refine j_iconst (v := 3) C d_RP_addSignature_4 (by decide) ?_
  refine j_icmp_ge (tgt := 28) C d_RP_addSignature_5 (by decide) (fun c5 => ?_) (fun c5 => ?_)
  · exact absurd (show nI 3 ≤ nI c0 by rw [← h4]; exact c5) (nI_ge (by omega) (by omega))
  · refine j_aload_n C d_RP_addSignature_8 rfl rfl ?_
    refine jr_get C fl_5_28 d_RP_addSignature_9 hn rfl ?_
    refine j_aload_n C d_RP_addSignature_12 rfl rfl ?_
    refine jr_get C fl_5_31 d_RP_addSignature_13 hn rfl ?_
    refine j_iload_n C d_RP_addSignature_16 rfl rfl ?_
    refine jr_st2 C d_RP_addSignature_17 hn (by rw [h4]; exact vp_in_nI (by omega) (by omega)) ?_
    refine j_aload_n C d_RP_addSignature_18 rfl rfl ?_
    refine j_dup C d_RP_addSignature_19 rfl ?_
    refine jr_get C fl_5_31 d_RP_addSignature_20 hn rfl ?_
    refine j_iconst (v := 1) C d_RP_addSignature_23 (by decide) ?_
    refine j_iadd C d_RP_addSignature_24 ?_
    refine jr_puti 4 C fp_5_31 d_RP_addSignature_25 hn (Nat.le_of_ble_eq_true rfl) rfl rfl rfl ?_
    exact j_vreturn C d_RP_addSignature_28 rfl (by decide) (by decide) ⟨rfl, rfl, by rw [h4, nI_clamp (by omega), nI_1]⟩

def rls (ζ : Nat → Int32) (w : Nat → Int32) (c0 : Nat) : Int32 := if ζ 4 ≤ 0 then -1 else w (c0 - 1)
set_option maxHeartbeats 4000000 in
set_option maxRecDepth 100000 in
theorem c_RP_lastSigner {l : Launch} (hl : l.stackTraces = false) {D : va_G} {cA : Nat → ClassId} {b n : Nat} {r : Nat} {i0 k0 t0 f0 : Int32} {ζ : Nat → Int32} {g w : Nat → Int32} (h : AH) (hn : r + 3 ≤ n) (c0 : Nat) (h4 : ζ 4 = nI c0) (hc : c0 ≤ 3) : Cn l D cA b y_RP_lastSigner k_RP_lastSigner 0 0 0 0 [.ref r] n (ovR r i0 k0 t0 f0 ζ g w h) (Re (some (.int (rls ζ w c0))) n (ovR r i0 k0 t0 f0 ζ g w h)) := by
  refine Cn.of (cc := b_RP_lastSigner) (maxL := 1) (ret := (some .int)) (hh := []) (by decide +kernel) hl (Or.inl ⟨rfl, rfl⟩) (Nat.le_of_ble_eq_true rfl) ?_
  intro p e s m args below meth c C
  refine j_aload_n C d_RP_lastSigner_0 rfl rfl ?_
  refine jr_get C fl_5_31 d_RP_lastSigner_1 hn rfl ?_
  refine j_if_le (tgt := 21) C d_RP_lastSigner_4 (by decide) (fun c4 => ?_) (fun c4 => ?_)
  · refine j_iconst (v := (-1)) C d_RP_lastSigner_21 (by decide) ?_
    exact j_ireturn C d_RP_lastSigner_22 rfl (by decide) (by decide) ⟨by unfold rls; simp only [c4, if_true, if_false], rfl, rfl⟩
  · refine j_aload_n C d_RP_lastSigner_7 rfl rfl ?_
    have h1 : 1 ≤ c0 := by
      rcases Nat.eq_zero_or_pos c0 with z | z
      · exact absurd (show ζ 4 ≤ 0 by rw [h4, z]; decide) c4
      · exact z
    refine jr_get C fl_5_28 d_RP_lastSigner_8 hn rfl ?_
    refine j_aload_n C d_RP_lastSigner_11 rfl rfl ?_
    refine jr_get C fl_5_31 d_RP_lastSigner_12 hn rfl ?_
    refine j_iconst (v := 1) C d_RP_lastSigner_15 (by decide) ?_
    refine j_isub C d_RP_lastSigner_16 ?_
    refine jr_ld2 (v := w (c0 - 1)) C d_RP_lastSigner_17 hn (by rw [h4, show (1 : Int32) = nI 1 from rfl, pk_sub h1]; exact vp_in_nI (by omega) (by omega)) (by rw [h4, show (1 : Int32) = nI 1 from rfl, pk_sub h1, nI_clamp (by omega)]) ?_
    refine j_goto (tgt := 22) C d_RP_lastSigner_18 (by decide) ?_
    exact j_ireturn C d_RP_lastSigner_22 rfl (by decide) (by decide) ⟨by unfold rls; simp only [c4, if_true, if_false], rfl, rfl⟩
/-! ===== the class on a known report: printed by program ===== -/
theorem ovX_R {xo r : Nat} {ξ : Nat → Int32} {β : Nat → Nat → Int32} {ρ : Nat → Option Nat} {u v : Nat} {i k t f : Int32} {ζ : Nat → Int32} {g w : Nat → Int32} {h : AH} (hd : xo + 28 ≤ r) : ovX xo ξ β ρ u v (ovR r i k t f ζ g w h) = ovR r i k t f ζ g w (ovX xo ξ β ρ u v h) := (ovX_L hd).symm
theorem ovR_out {r : Nat} {i k t f : Int32} {ζ : Nat → Int32} {g w : Nat → Int32} {h : AH} {j : Nat} {x : AC} (hj : j < r ∨ r + 3 ≤ j) : hu (ovR r i k t f ζ g w h) j x = ovR r i k t f ζ g w (hu h j x) := ovL_out hj
section JQ
variable {p : Program} {l : Launch} {e : Env} {R : Room} {s : State} {m : MethodId} {args : Array Value} {below : List Frame} {meth : Method} {c : Code} {D : va_G} {cA : Nat → ClassId} {b nL : Nat} {Q : State → Prop} {n : Nat} {h : AH} {kc ks pc : Nat} {L : List (Nat × Value)} {st : List Value} {own mn : String} {cc : ByteArray} {ret : Option FieldType} {hh : List (Nat × Nat × Nat × Nat)} {xo : Nat} {ξ : Nat → Int32} {β : Nat → Nat → Int32} {ρ : Nat → Option Nat} {u v : Nat} {r : Nat} {i0 k0 t0 f0 : Int32} {ζ : Nat → Int32} {g w : Nat → Int32}

theorem jq_get (C : Cx p l s m meth c D cA b nL own mn cc ret hh) {index k : Nat} {y : Value} (hF : FL own index 5 k) (hd : decode cc pc = .ok (.getfield index, 3)) (hr : xo + 28 ≤ r) (hn : r + 3 ≤ n) (hv : ([.int i0, .int k0, .int t0, .int f0, .ref (r + 1), .int (ζ 0), .int (ζ 1), .int (ζ 2), .int (ζ 3), .ref (r + 2), .int (ζ 4)] : List Value)[k]? = some y) (kk : J p l e R s m args below meth c D cA b nL Q n (ovX xo ξ β ρ u v (ovR r i0 k0 t0 f0 ζ g w h)) kc ks (pc + 3) L (y :: st)) : J p l e R s m args below meth c D cA b nL Q n (ovX xo ξ β ρ u v (ovR r i0 k0 t0 f0 ζ g w h)) kc ks pc L (.ref r :: st) :=
  j_get C hF hd (by omega) ((ovX_n (Or.inr hr)).trans (ovR_o _ _ _ _ _ _ _ _ _)) hv kk
theorem jq_puti (z : Nat) (C : Cx p l s m meth c D cA b nL own mn cc ret hh) {index k : Nat} {ty : FieldType} {x : Int32} (hF : FP own index 5 k false ty) (hd : decode cc pc = .ok (.putfield index, 3)) (hr : xo + 28 ≤ r) (hn : r + 3 ≤ n) (hl : k < 11) (hnr : narrow ty (.int x) = .int x) (hf : fits ty (.int x) = true) (hcs : (rps r i0 k0 t0 f0 ζ g w).set 0 (.inr (5, ([.int i0, .int k0, .int t0, .int f0, .ref (r + 1), .int (ζ 0), .int (ζ 1), .int (ζ 2), .int (ζ 3), .ref (r + 2), .int (ζ 4)] : List Value).set k (.int x))) = rps r i0 k0 t0 f0 (upd ζ z x) g w) (kk : J p l e R s m args below meth c D cA b nL Q n (ovX xo ξ β ρ u v (ovR r i0 k0 t0 f0 (upd ζ z x) g w h)) kc ks (pc + 3) L st) : J p l e R s m args below meth c D cA b nL Q n (ovX xo ξ β ρ u v (ovR r i0 k0 t0 f0 ζ g w h)) kc ks pc L (.int x :: .ref r :: st) := by
  rw [ovX_R hr]
  exact jr_puti z C hF hd hn hl hnr hf hcs (by rw [← ovX_R hr]; exact kk)
theorem jq_ld1 (C : Cx p l s m meth c D cA b nL own mn cc ret hh) {i y : Int32} (hd : decode cc pc = .ok (.iaload, 1)) (hr : xo + 28 ≤ r) (hn : r + 3 ≤ n) (hi : vp_in i 20) (hv : g i.toNatClampNeg = y) (kk : J p l e R s m args below meth c D cA b nL Q n (ovX xo ξ β ρ u v (ovR r i0 k0 t0 f0 ζ g w h)) kc ks (pc + 1) L (.int y :: st)) : J p l e R s m args below meth c D cA b nL Q n (ovX xo ξ β ρ u v (ovR r i0 k0 t0 f0 ζ g w h)) kc ks pc L (.int i :: .ref (r + 1) :: st) := by
  rw [ovX_R hr]
  exact jr_ld1 C hd hn hi hv (by rw [← ovX_R hr]; exact kk)
end JQ
set_option maxHeartbeats 4000000 in
set_option maxRecDepth 100000 in
theorem c_X_known_0 {l : Launch} (hl : l.stackTraces = false) {D : va_G} {cA : Nat → ClassId} {b n : Nat} {xo : Nat} {ξ : Nat → Int32} {β : Nat → Nat → Int32} {ρ : Nat → Option Nat} {u v : Nat} (h : AH) (hn : xo + 28 ≤ n) (j r : Nat) (hj : j < 30) (hj0 : nI j < ξ 0) (hρ : ρ j = some r) : Cn l D cA b y_X_known k_X_known 6 82 0 0 [.ref xo, .int (nI j)] n (ovX xo ξ β ρ u v h) (Re (some (.ref r)) n (ovX xo ξ β ρ u v h)) := by
  refine Cn.of (cc := b_X_known) (maxL := 3) (ret := (some (.object "ReportChecks2$Report"))) (hh := []) (by decide +kernel) hl (Or.inl ⟨rfl, rfl⟩) (Nat.le_of_ble_eq_true rfl) ?_
  intro p e s m args below meth c C
  refine j_iload_n C d_X_known_0 rfl rfl ?_
  refine j_if_lt (tgt := 12) C d_X_known_1 (by decide) (fun c1 => ?_) (fun c1 => ?_)
  · exact absurd c1 (nI_pos (by omega))
  · refine j_iload_n C d_X_known_4 rfl rfl ?_
    refine j_aload_n C d_X_known_5 rfl rfl ?_
    refine jx_get 0 C fl_0_15 d_X_known_6 hn rfl rfl ?_
    refine j_icmp_lt (tgt := 23) C d_X_known_9 (by decide) (fun c9 => ?_) (fun c9 => ?_)
    · refine j_aload_n C d_X_known_23 rfl rfl ?_
      refine jx_get 0 C fl_0_11 d_X_known_24 hn rfl rfl ?_
      refine j_iload_n C d_X_known_27 rfl rfl ?_
      refine jx_aald (w := .ref r) C d_X_known_28 hn (vp_in_nI (by omega) (by omega)) (by rw [nI_clamp (by omega), hρ]; rfl) ?_
      refine j_astore_n C d_X_known_29 rfl (by decide) rfl ?_
      refine j_aload_n C d_X_known_30 rfl rfl ?_
      refine j_ifnonnull (tgt := 45) C d_X_known_31 (by decide) ?_
      refine j_aload_n C d_X_known_45 rfl rfl ?_
      exact j_areturn C d_X_known_46 rfl (Or.inl ⟨_, rfl⟩) (Or.inr ⟨_, rfl⟩) (Nat.le_of_ble_eq_true rfl) (Nat.le_of_ble_eq_true rfl) ⟨rfl, rfl, rfl⟩
    · exact absurd hj0 c9

set_option maxHeartbeats 4000000 in
set_option maxRecDepth 100000 in
theorem c_X_requireUnsigned_0 {l : Launch} (hl : l.stackTraces = false) {D : va_G} {cA : Nat → ClassId} {b n : Nat} {r : Nat} {i0 k0 t0 f0 : Int32} {ζ : Nat → Int32} {g w : Nat → Int32} (h : AH) (hn : r + 3 ≤ n) (h0 : ζ 4 ≤ 0) : Cn l D cA b y_X_requireUnsigned k_X_requireUnsigned 6 82 0 0 [.ref r] n (ovR r i0 k0 t0 f0 ζ g w h) (Re none n (ovR r i0 k0 t0 f0 ζ g w h)) := by
  refine Cn.of (cc := b_X_requireUnsigned) (maxL := 1) (ret := none) (hh := []) (by decide +kernel) hl (Or.inl ⟨rfl, rfl⟩) (Nat.le_of_ble_eq_true rfl) ?_
  intro p e s m args below meth c C
  refine j_aload_n C d_X_requireUnsigned_0 rfl rfl ?_
  refine jr_get C fl_0_186 d_X_requireUnsigned_1 hn rfl ?_
  refine j_if_le (tgt := 18) C d_X_requireUnsigned_4 (by decide) (fun c4 => ?_) (fun c4 => ?_)
  · exact j_vreturn C d_X_requireUnsigned_18 rfl (by decide) (by decide) ⟨rfl, rfl, rfl⟩
  · exact absurd h0 c4

set_option maxHeartbeats 4000000 in
set_option maxRecDepth 100000 in
theorem c_X_requireUnsigned_1 {l : Launch} (hl : l.stackTraces = false) {D : va_G} {cA : Nat → ClassId} {b n : Nat} {r : Nat} {i0 k0 t0 f0 : Int32} {ζ : Nat → Int32} {g w : Nat → Int32} (h : AH) (hn : r + 3 ≤ n) (h0 : ¬ ζ 4 ≤ 0) : Cn l D cA b y_X_requireUnsigned k_X_requireUnsigned 6 82 1 6 [.ref r] n (ovR r i0 k0 t0 f0 ζ g w h) (Th 9 n (ovR r i0 k0 t0 f0 ζ g w h)) := by
  refine Cn.of (cc := b_X_requireUnsigned) (maxL := 1) (ret := none) (hh := []) (by decide +kernel) hl (Or.inl ⟨rfl, rfl⟩) (Nat.le_of_ble_eq_true rfl) ?_
  intro p e s m args below meth c C
  refine j_aload_n C d_X_requireUnsigned_0 rfl rfl ?_
  refine jr_get C fl_0_186 d_X_requireUnsigned_1 hn rfl ?_
  refine j_if_le (tgt := 18) C d_X_requireUnsigned_4 (by decide) (fun c4 => ?_) (fun c4 => ?_)
  · exact absurd c4 h0
  · exact j_throwSW (text := "the report has a signature") C th_9 (by decide +kernel) rfl d_X_requireUnsigned_7 d_X_requireUnsigned_10 d_X_requireUnsigned_11 d_X_requireUnsigned_14 d_X_requireUnsigned_17 (Nat.le_of_ble_eq_true rfl) (Nat.le_of_ble_eq_true rfl) (Nat.le_of_ble_eq_true rfl) (Nat.le_of_ble_eq_true rfl) (Nat.le_of_ble_eq_true rfl) (Nat.le_of_ble_eq_true rfl) ⟨rfl, rfl, rfl⟩

set_option maxHeartbeats 4000000 in
set_option maxRecDepth 100000 in
theorem c_X_requireClosed_0 {l : Launch} (hl : l.stackTraces = false) {D : va_G} {cA : Nat → ClassId} {b n : Nat} {r : Nat} {i0 k0 t0 f0 : Int32} {ζ : Nat → Int32} {g w : Nat → Int32} (h : AH) (hn : r + 3 ≤ n) (h0 : ¬ rcl ζ = 0) : Cn l D cA b y_X_requireClosed k_X_requireClosed 6 82 0 0 [.ref r] n (ovR r i0 k0 t0 f0 ζ g w h) (Re none n (ovR r i0 k0 t0 f0 ζ g w h)) := by
  refine Cn.of (cc := b_X_requireClosed) (maxL := 1) (ret := none) (hh := []) (by decide +kernel) hl (Or.inl ⟨rfl, rfl⟩) (Nat.le_of_ble_eq_true rfl) ?_
  intro p e s m args below meth c C
  refine j_aload_n C d_X_requireClosed_0 rfl rfl ?_
  refine j_callV C d_X_requireClosed_1 ml_X_272 mc_RP_isClosed in_RP_isClosed rfl se_RP_isClosed (by omega) (ovR_o _ _ _ _ _ _ _ _ _) (c_RP_isClosed hl h hn) rfl rfl (Nat.le_of_ble_eq_true rfl) (Nat.le_of_ble_eq_true rfl) (Nat.le_of_ble_eq_true rfl) (Nat.le_of_ble_eq_true rfl) (jk_r ?_)
  refine j_if_ne (tgt := 18) C d_X_requireClosed_4 (by decide) (fun c4 => ?_) (fun c4 => ?_)
  · exact j_vreturn C d_X_requireClosed_18 rfl (by decide) (by decide) ⟨rfl, rfl, rfl⟩
  · exact absurd c4 h0

set_option maxHeartbeats 4000000 in
set_option maxRecDepth 100000 in
theorem c_X_requireClosed_1 {l : Launch} (hl : l.stackTraces = false) {D : va_G} {cA : Nat → ClassId} {b n : Nat} {r : Nat} {i0 k0 t0 f0 : Int32} {ζ : Nat → Int32} {g w : Nat → Int32} (h : AH) (hn : r + 3 ≤ n) (h0 : rcl ζ = 0) : Cn l D cA b y_X_requireClosed k_X_requireClosed 6 82 1 6 [.ref r] n (ovR r i0 k0 t0 f0 ζ g w h) (Th 9 n (ovR r i0 k0 t0 f0 ζ g w h)) := by
  refine Cn.of (cc := b_X_requireClosed) (maxL := 1) (ret := none) (hh := []) (by decide +kernel) hl (Or.inl ⟨rfl, rfl⟩) (Nat.le_of_ble_eq_true rfl) ?_
  intro p e s m args below meth c C
  refine j_aload_n C d_X_requireClosed_0 rfl rfl ?_
  refine j_callV C d_X_requireClosed_1 ml_X_272 mc_RP_isClosed in_RP_isClosed rfl se_RP_isClosed (by omega) (ovR_o _ _ _ _ _ _ _ _ _) (c_RP_isClosed hl h hn) rfl rfl (Nat.le_of_ble_eq_true rfl) (Nat.le_of_ble_eq_true rfl) (Nat.le_of_ble_eq_true rfl) (Nat.le_of_ble_eq_true rfl) (jk_r ?_)
  refine j_if_ne (tgt := 18) C d_X_requireClosed_4 (by decide) (fun c4 => ?_) (fun c4 => ?_)
  · exact absurd h0 c4
  · exact j_throwSW (text := "the report is not closed") C th_9 (by decide +kernel) rfl d_X_requireClosed_7 d_X_requireClosed_10 d_X_requireClosed_11 d_X_requireClosed_14 d_X_requireClosed_17 (Nat.le_of_ble_eq_true rfl) (Nat.le_of_ble_eq_true rfl) (Nat.le_of_ble_eq_true rfl) (Nat.le_of_ble_eq_true rfl) (Nat.le_of_ble_eq_true rfl) (Nat.le_of_ble_eq_true rfl) ⟨rfl, rfl, rfl⟩

set_option maxHeartbeats 4000000 in
set_option maxRecDepth 100000 in
theorem c_X_field_a {l : Launch} (hl : l.stackTraces = false) {D : va_G} {cA : Nat → ClassId} {b n : Nat} {xo : Nat} {ξ : Nat → Int32} {β : Nat → Nat → Int32} {ρ : Nat → Option Nat} {u v : Nat} {r : Nat} {i0 k0 t0 f0 : Int32} {ζ : Nat → Int32} {g w : Nat → Int32} (h : AH) (hr : xo + 28 ≤ r) (hrn : r + 3 ≤ n) (j : Nat) (hj : j < 30) (hj0 : nI j < ξ 0) (hρ : ρ j = some r) (f y : Int32) (hk : f < 0 ∨ ¬ f < 20) : Cn l D cA b y_X_field k_X_field 7 96 1 6 [.ref xo, .int (nI j), .int f, .int y] n (ovX xo ξ β ρ u v (ovR r i0 k0 t0 f0 ζ g w h)) (Th 7 n (ovX xo ξ β ρ u v (ovR r i0 k0 t0 f0 ζ g w h))) := by
  refine Cn.of (cc := b_X_field) (maxL := 5) (ret := none) (hh := []) (by decide +kernel) hl (Or.inl ⟨rfl, rfl⟩) (Nat.le_of_ble_eq_true rfl) ?_
  intro p e s m args below meth c C
  have hn : xo + 28 ≤ n := by omega
  refine j_aload_n C d_X_field_0 rfl rfl ?_
  refine j_iload_n C d_X_field_1 rfl rfl ?_
  refine j_callV C d_X_field_2 ml_X_103 mc_X_known in_X_known rfl se_X_known (by omega) (ovX_c (o := 0) rfl) (c_X_known_0 hl _ hn j r hj hj0 hρ) rfl rfl (Nat.le_of_ble_eq_true rfl) (Nat.le_of_ble_eq_true rfl) (Nat.le_of_ble_eq_true rfl) (Nat.le_of_ble_eq_true rfl) (jk_r ?_)
  refine j_astore C d_X_field_5 (by decide) rfl ?_
  refine j_iload_n C d_X_field_7 rfl rfl ?_
  exact j_callS C d_X_field_8 ml_X_96 mc_X_requireField st_X_requireField (c_X_requireField_1 hl _ f hk) rfl rfl (Nat.le_of_ble_eq_true rfl) (Nat.le_of_ble_eq_true rfl) (Nat.le_of_ble_eq_true rfl) (Nat.le_of_ble_eq_true rfl) (jk_x C rfl (Nat.le_of_ble_eq_true rfl) (Nat.le_of_ble_eq_true rfl) ⟨rfl, rfl, rfl⟩)

set_option maxHeartbeats 4000000 in
set_option maxRecDepth 100000 in
theorem c_X_field_b {l : Launch} (hl : l.stackTraces = false) {D : va_G} {cA : Nat → ClassId} {b n : Nat} {xo : Nat} {ξ : Nat → Int32} {β : Nat → Nat → Int32} {ρ : Nat → Option Nat} {u v : Nat} {r : Nat} {i0 k0 t0 f0 : Int32} {ζ : Nat → Int32} {g w : Nat → Int32} (h : AH) (hr : xo + 28 ≤ r) (hrn : r + 3 ≤ n) (j : Nat) (hj : j < 30) (hj0 : nI j < ξ 0) (hρ : ρ j = some r) (f y : Int32) (fa : ¬ f < 0) (fb : f < 20) (hk : y < -99999 ∨ ¬ y ≤ 99999) : Cn l D cA b y_X_field k_X_field 7 96 1 6 [.ref xo, .int (nI j), .int f, .int y] n (ovX xo ξ β ρ u v (ovR r i0 k0 t0 f0 ζ g w h)) (Th 8 n (ovX xo ξ β ρ u v (ovR r i0 k0 t0 f0 ζ g w h))) := by
  refine Cn.of (cc := b_X_field) (maxL := 5) (ret := none) (hh := []) (by decide +kernel) hl (Or.inl ⟨rfl, rfl⟩) (Nat.le_of_ble_eq_true rfl) ?_
  intro p e s m args below meth c C
  have hn : xo + 28 ≤ n := by omega
  refine j_aload_n C d_X_field_0 rfl rfl ?_
  refine j_iload_n C d_X_field_1 rfl rfl ?_
  refine j_callV C d_X_field_2 ml_X_103 mc_X_known in_X_known rfl se_X_known (by omega) (ovX_c (o := 0) rfl) (c_X_known_0 hl _ hn j r hj hj0 hρ) rfl rfl (Nat.le_of_ble_eq_true rfl) (Nat.le_of_ble_eq_true rfl) (Nat.le_of_ble_eq_true rfl) (Nat.le_of_ble_eq_true rfl) (jk_r ?_)
  refine j_astore C d_X_field_5 (by decide) rfl ?_
  refine j_iload_n C d_X_field_7 rfl rfl ?_
  refine j_callS C d_X_field_8 ml_X_96 mc_X_requireField st_X_requireField (c_X_requireField_0 hl _ f fa fb) rfl rfl (Nat.le_of_ble_eq_true rfl) (Nat.le_of_ble_eq_true rfl) (Nat.le_of_ble_eq_true rfl) (Nat.le_of_ble_eq_true rfl) (jk_v ?_)
  refine j_iload_n C d_X_field_11 rfl rfl ?_
  refine j_ldc (v := (-99999)) C d_X_field_12 lc_X_107 ?_
  refine j_icmp_lt (tgt := 23) C d_X_field_14 (by decide) (fun c14 => ?_) (fun c14 => ?_)
  · exact j_throwS (text := "the value is not -99,999 .. 99,999") C th_8 (by decide +kernel) rfl d_X_field_23 d_X_field_26 d_X_field_27 d_X_field_29 d_X_field_32 (Nat.le_of_ble_eq_true rfl) (Nat.le_of_ble_eq_true rfl) (Nat.le_of_ble_eq_true rfl) (Nat.le_of_ble_eq_true rfl) (Nat.le_of_ble_eq_true rfl) (Nat.le_of_ble_eq_true rfl) ⟨rfl, rfl, rfl⟩
  · refine j_iload_n C d_X_field_17 rfl rfl ?_
    refine j_ldc (v := 99999) C d_X_field_18 lc_X_108 ?_
    refine j_icmp_le (tgt := 33) C d_X_field_20 (by decide) (fun c20 => ?_) (fun c20 => ?_)
    · exact absurd c20 (hk.resolve_left c14)
    · exact j_throwS (text := "the value is not -99,999 .. 99,999") C th_8 (by decide +kernel) rfl d_X_field_23 d_X_field_26 d_X_field_27 d_X_field_29 d_X_field_32 (Nat.le_of_ble_eq_true rfl) (Nat.le_of_ble_eq_true rfl) (Nat.le_of_ble_eq_true rfl) (Nat.le_of_ble_eq_true rfl) (Nat.le_of_ble_eq_true rfl) (Nat.le_of_ble_eq_true rfl) ⟨rfl, rfl, rfl⟩

set_option maxHeartbeats 4000000 in
set_option maxRecDepth 100000 in
theorem c_X_field_c {l : Launch} (hl : l.stackTraces = false) {D : va_G} {cA : Nat → ClassId} {b n : Nat} {xo : Nat} {ξ : Nat → Int32} {β : Nat → Nat → Int32} {ρ : Nat → Option Nat} {u v : Nat} {r : Nat} {i0 k0 t0 f0 : Int32} {ζ : Nat → Int32} {g w : Nat → Int32} (h : AH) (hr : xo + 28 ≤ r) (hrn : r + 3 ≤ n) (j : Nat) (hj : j < 30) (hj0 : nI j < ξ 0) (hρ : ρ j = some r) (f y : Int32) (fa : ¬ f < 0) (fb : f < 20) (y0 : ¬ y < -99999) (y1 : y ≤ 99999) (ht : rct ζ f = 0) : Cn l D cA b y_X_field k_X_field 7 96 1 6 [.ref xo, .int (nI j), .int f, .int y] n (ovX xo ξ β ρ u v (ovR r i0 k0 t0 f0 ζ g w h)) (Th 9 n (ovX xo ξ β ρ u v (ovR r i0 k0 t0 f0 ζ g w h))) := by
  refine Cn.of (cc := b_X_field) (maxL := 5) (ret := none) (hh := []) (by decide +kernel) hl (Or.inl ⟨rfl, rfl⟩) (Nat.le_of_ble_eq_true rfl) ?_
  intro p e s m args below meth c C
  have hn : xo + 28 ≤ n := by omega
  refine j_aload_n C d_X_field_0 rfl rfl ?_
  refine j_iload_n C d_X_field_1 rfl rfl ?_
  refine j_callV C d_X_field_2 ml_X_103 mc_X_known in_X_known rfl se_X_known (by omega) (ovX_c (o := 0) rfl) (c_X_known_0 hl _ hn j r hj hj0 hρ) rfl rfl (Nat.le_of_ble_eq_true rfl) (Nat.le_of_ble_eq_true rfl) (Nat.le_of_ble_eq_true rfl) (Nat.le_of_ble_eq_true rfl) (jk_r ?_)
  refine j_astore C d_X_field_5 (by decide) rfl ?_
  refine j_iload_n C d_X_field_7 rfl rfl ?_
  refine j_callS C d_X_field_8 ml_X_96 mc_X_requireField st_X_requireField (c_X_requireField_0 hl _ f fa fb) rfl rfl (Nat.le_of_ble_eq_true rfl) (Nat.le_of_ble_eq_true rfl) (Nat.le_of_ble_eq_true rfl) (Nat.le_of_ble_eq_true rfl) (jk_v ?_)
  refine j_iload_n C d_X_field_11 rfl rfl ?_
  refine j_ldc (v := (-99999)) C d_X_field_12 lc_X_107 ?_
  refine j_icmp_lt (tgt := 23) C d_X_field_14 (by decide) (fun c14 => ?_) (fun c14 => ?_)
  · exact absurd c14 y0
  · refine j_iload_n C d_X_field_17 rfl rfl ?_
    refine j_ldc (v := 99999) C d_X_field_18 lc_X_108 ?_
    refine j_icmp_le (tgt := 33) C d_X_field_20 (by decide) (fun c20 => ?_) (fun c20 => ?_)
    · refine j_aload C d_X_field_33 rfl ?_
      refine j_iload_n C d_X_field_35 rfl rfl ?_
      refine j_h (ovX_R hr) ?_
      refine j_callV C d_X_field_36 ml_X_111 mc_RP_canBeTold in_RP_canBeTold rfl se_RP_canBeTold (by omega) (ovR_o _ _ _ _ _ _ _ _ _) (c_RP_canBeTold hl _ hrn f) rfl rfl (Nat.le_of_ble_eq_true rfl) (Nat.le_of_ble_eq_true rfl) (Nat.le_of_ble_eq_true rfl) (Nat.le_of_ble_eq_true rfl) (jk_r ?_)
      refine j_h (ovX_R hr).symm ?_
      refine j_if_ne (tgt := 52) C d_X_field_39 (by decide) (fun c39 => ?_) (fun c39 => ?_)
      · exact absurd ht c39
      · exact j_throwS (text := "the field can't be told") C th_9 (by decide +kernel) rfl d_X_field_42 d_X_field_45 d_X_field_46 d_X_field_48 d_X_field_51 (Nat.le_of_ble_eq_true rfl) (Nat.le_of_ble_eq_true rfl) (Nat.le_of_ble_eq_true rfl) (Nat.le_of_ble_eq_true rfl) (Nat.le_of_ble_eq_true rfl) (Nat.le_of_ble_eq_true rfl) ⟨rfl, rfl, rfl⟩
    · exact absurd y1 c20

set_option maxHeartbeats 4000000 in
set_option maxRecDepth 100000 in
theorem c_X_field_r {l : Launch} (hl : l.stackTraces = false) {D : va_G} {cA : Nat → ClassId} {b n : Nat} {xo : Nat} {ξ : Nat → Int32} {β : Nat → Nat → Int32} {ρ : Nat → Option Nat} {u v : Nat} {r : Nat} {i0 k0 t0 f0 : Int32} {ζ : Nat → Int32} {g w : Nat → Int32} (h : AH) (hr : xo + 28 ≤ r) (hrn : r + 3 ≤ n) (j : Nat) (hj : j < 30) (hj0 : nI j < ξ 0) (hρ : ρ j = some r) (f y : Int32) (fa : ¬ f < 0) (fb : f < 20) (y0 : ¬ y < -99999) (y1 : y ≤ 99999) (ht : ¬ rct ζ f = 0) (hi : vp_in f 20) : Cn l D cA b y_X_field k_X_field 7 96 1 6 [.ref xo, .int (nI j), .int f, .int y] n (ovX xo ξ β ρ u v (ovR r i0 k0 t0 f0 ζ g w h)) (Re none n (ovX xo ξ β ρ u v (ovR r i0 k0 t0 f0 (upd (upd (upd ζ 0 (xch (ζ 0) f 1)) 1 (xch (ζ 1) f 0)) 2 (xch (ζ 2) f 0)) (upd g f.toNatClampNeg y) w h))) := by
  refine Cn.of (cc := b_X_field) (maxL := 5) (ret := none) (hh := []) (by decide +kernel) hl (Or.inl ⟨rfl, rfl⟩) (Nat.le_of_ble_eq_true rfl) ?_
  intro p e s m args below meth c C
  have hn : xo + 28 ≤ n := by omega
  refine j_aload_n C d_X_field_0 rfl rfl ?_
  refine j_iload_n C d_X_field_1 rfl rfl ?_
  refine j_callV C d_X_field_2 ml_X_103 mc_X_known in_X_known rfl se_X_known (by omega) (ovX_c (o := 0) rfl) (c_X_known_0 hl _ hn j r hj hj0 hρ) rfl rfl (Nat.le_of_ble_eq_true rfl) (Nat.le_of_ble_eq_true rfl) (Nat.le_of_ble_eq_true rfl) (Nat.le_of_ble_eq_true rfl) (jk_r ?_)
  refine j_astore C d_X_field_5 (by decide) rfl ?_
  refine j_iload_n C d_X_field_7 rfl rfl ?_
  refine j_callS C d_X_field_8 ml_X_96 mc_X_requireField st_X_requireField (c_X_requireField_0 hl _ f fa fb) rfl rfl (Nat.le_of_ble_eq_true rfl) (Nat.le_of_ble_eq_true rfl) (Nat.le_of_ble_eq_true rfl) (Nat.le_of_ble_eq_true rfl) (jk_v ?_)
  refine j_iload_n C d_X_field_11 rfl rfl ?_
  refine j_ldc (v := (-99999)) C d_X_field_12 lc_X_107 ?_
  refine j_icmp_lt (tgt := 23) C d_X_field_14 (by decide) (fun c14 => ?_) (fun c14 => ?_)
  · exact absurd c14 y0
  · refine j_iload_n C d_X_field_17 rfl rfl ?_
    refine j_ldc (v := 99999) C d_X_field_18 lc_X_108 ?_
    refine j_icmp_le (tgt := 33) C d_X_field_20 (by decide) (fun c20 => ?_) (fun c20 => ?_)
    · refine j_aload C d_X_field_33 rfl ?_
      refine j_iload_n C d_X_field_35 rfl rfl ?_
      refine j_h (ovX_R hr) ?_
      refine j_callV C d_X_field_36 ml_X_111 mc_RP_canBeTold in_RP_canBeTold rfl se_RP_canBeTold (by omega) (ovR_o _ _ _ _ _ _ _ _ _) (c_RP_canBeTold hl _ hrn f) rfl rfl (Nat.le_of_ble_eq_true rfl) (Nat.le_of_ble_eq_true rfl) (Nat.le_of_ble_eq_true rfl) (Nat.le_of_ble_eq_true rfl) (jk_r ?_)
      refine j_h (ovX_R hr).symm ?_
      refine j_if_ne (tgt := 52) C d_X_field_39 (by decide) (fun c39 => ?_) (fun c39 => ?_)
      · refine j_aload C d_X_field_52 rfl ?_
        refine j_iload_n C d_X_field_54 rfl rfl ?_
        refine j_iload_n C d_X_field_55 rfl rfl ?_
        refine j_h (ovX_R hr) ?_
        refine j_callV C d_X_field_56 ml_X_120 mc_RP_tell in_RP_tell rfl se_RP_tell (by omega) (ovR_o _ _ _ _ _ _ _ _ _) (c_RP_tell hl _ hrn f y hi) rfl rfl (Nat.le_of_ble_eq_true rfl) (Nat.le_of_ble_eq_true rfl) (Nat.le_of_ble_eq_true rfl) (Nat.le_of_ble_eq_true rfl) (jk_v ?_)
        refine j_h (ovX_R hr).symm ?_
        exact j_vreturn C d_X_field_59 rfl (by decide) (by decide) ⟨rfl, rfl, rfl⟩
      · exact absurd c39 ht
    · exact absurd y1 c20

set_option maxHeartbeats 4000000 in
set_option maxRecDepth 100000 in
theorem c_X_act_a {l : Launch} (hl : l.stackTraces = false) {D : va_G} {cA : Nat → ClassId} {b n : Nat} {xo : Nat} {ξ : Nat → Int32} {β : Nat → Nat → Int32} {ρ : Nat → Option Nat} {u v : Nat} {r : Nat} {i0 k0 t0 f0 : Int32} {ζ : Nat → Int32} {g w : Nat → Int32} (h : AH) (hr : xo + 28 ≤ r) (hrn : r + 3 ≤ n) (j : Nat) (hj : j < 30) (hj0 : nI j < ξ 0) (hρ : ρ j = some r) (f t : Int32) (hk : f < 0 ∨ ¬ f < 10) : Cn l D cA b y_X_act k_X_act 7 96 1 6 [.ref xo, .int (nI j), .int f, .int t] n (ovX xo ξ β ρ u v (ovR r i0 k0 t0 f0 ζ g w h)) (Th 7 n (ovX xo ξ β ρ u v (ovR r i0 k0 t0 f0 ζ g w h))) := by
  refine Cn.of (cc := b_X_act) (maxL := 5) (ret := (some .boolean)) (hh := []) (by decide +kernel) hl (Or.inl ⟨rfl, rfl⟩) (Nat.le_of_ble_eq_true rfl) ?_
  intro p e s m args below meth c C
  have hn : xo + 28 ≤ n := by omega
  refine j_aload_n C d_X_act_0 rfl rfl ?_
  refine j_iload_n C d_X_act_1 rfl rfl ?_
  refine j_callV C d_X_act_2 ml_X_103 mc_X_known in_X_known rfl se_X_known (by omega) (ovX_c (o := 0) rfl) (c_X_known_0 hl _ hn j r hj hj0 hρ) rfl rfl (Nat.le_of_ble_eq_true rfl) (Nat.le_of_ble_eq_true rfl) (Nat.le_of_ble_eq_true rfl) (Nat.le_of_ble_eq_true rfl) (jk_r ?_)
  refine j_astore C d_X_act_5 (by decide) rfl ?_
  refine j_iload_n C d_X_act_7 rfl rfl ?_
  refine j_if_lt (tgt := 17) C d_X_act_8 (by decide) (fun c8 => ?_) (fun c8 => ?_)
  · exact j_throwS (text := "no such kind of acts") C th_7 (by decide +kernel) rfl d_X_act_17 d_X_act_20 d_X_act_21 d_X_act_23 d_X_act_26 (Nat.le_of_ble_eq_true rfl) (Nat.le_of_ble_eq_true rfl) (Nat.le_of_ble_eq_true rfl) (Nat.le_of_ble_eq_true rfl) (Nat.le_of_ble_eq_true rfl) (Nat.le_of_ble_eq_true rfl) ⟨rfl, rfl, rfl⟩
  · refine j_iload_n C d_X_act_11 rfl rfl ?_
    refine j_bipush (v := 10) C d_X_act_12 (by decide) ?_
    refine j_icmp_lt (tgt := 27) C d_X_act_14 (by decide) (fun c14 => ?_) (fun c14 => ?_)
    · exact absurd c14 (hk.resolve_left c8)
    · exact j_throwS (text := "no such kind of acts") C th_7 (by decide +kernel) rfl d_X_act_17 d_X_act_20 d_X_act_21 d_X_act_23 d_X_act_26 (Nat.le_of_ble_eq_true rfl) (Nat.le_of_ble_eq_true rfl) (Nat.le_of_ble_eq_true rfl) (Nat.le_of_ble_eq_true rfl) (Nat.le_of_ble_eq_true rfl) (Nat.le_of_ble_eq_true rfl) ⟨rfl, rfl, rfl⟩

set_option maxHeartbeats 4000000 in
set_option maxRecDepth 100000 in
theorem c_X_act_b {l : Launch} (hl : l.stackTraces = false) {D : va_G} {cA : Nat → ClassId} {b n : Nat} {xo : Nat} {ξ : Nat → Int32} {β : Nat → Nat → Int32} {ρ : Nat → Option Nat} {u v : Nat} {r : Nat} {i0 k0 t0 f0 : Int32} {ζ : Nat → Int32} {g w : Nat → Int32} (h : AH) (hr : xo + 28 ≤ r) (hrn : r + 3 ≤ n) (j : Nat) (hj : j < 30) (hj0 : nI j < ξ 0) (hρ : ρ j = some r) (f t : Int32) (fa : ¬ f < 0) (fb : f < 10) (hk : t < 0 ∨ ¬ t ≤ ξ 1) : Cn l D cA b y_X_act k_X_act 7 96 1 6 [.ref xo, .int (nI j), .int f, .int t] n (ovX xo ξ β ρ u v (ovR r i0 k0 t0 f0 ζ g w h)) (Th 8 n (ovX xo ξ β ρ u v (ovR r i0 k0 t0 f0 ζ g w h))) := by
  refine Cn.of (cc := b_X_act) (maxL := 5) (ret := (some .boolean)) (hh := []) (by decide +kernel) hl (Or.inl ⟨rfl, rfl⟩) (Nat.le_of_ble_eq_true rfl) ?_
  intro p e s m args below meth c C
  have hn : xo + 28 ≤ n := by omega
  refine j_aload_n C d_X_act_0 rfl rfl ?_
  refine j_iload_n C d_X_act_1 rfl rfl ?_
  refine j_callV C d_X_act_2 ml_X_103 mc_X_known in_X_known rfl se_X_known (by omega) (ovX_c (o := 0) rfl) (c_X_known_0 hl _ hn j r hj hj0 hρ) rfl rfl (Nat.le_of_ble_eq_true rfl) (Nat.le_of_ble_eq_true rfl) (Nat.le_of_ble_eq_true rfl) (Nat.le_of_ble_eq_true rfl) (jk_r ?_)
  refine j_astore C d_X_act_5 (by decide) rfl ?_
  refine j_iload_n C d_X_act_7 rfl rfl ?_
  refine j_if_lt (tgt := 17) C d_X_act_8 (by decide) (fun c8 => ?_) (fun c8 => ?_)
  · exact absurd c8 fa
  · refine j_iload_n C d_X_act_11 rfl rfl ?_
    refine j_bipush (v := 10) C d_X_act_12 (by decide) ?_
    refine j_icmp_lt (tgt := 27) C d_X_act_14 (by decide) (fun c14 => ?_) (fun c14 => ?_)
    · refine j_iload_n C d_X_act_27 rfl rfl ?_
      refine j_if_lt (tgt := 39) C d_X_act_28 (by decide) (fun c28 => ?_) (fun c28 => ?_)
      · exact j_throwS (text := "the minute is to come, or below 0") C th_8 (by decide +kernel) rfl d_X_act_39 d_X_act_42 d_X_act_43 d_X_act_45 d_X_act_48 (Nat.le_of_ble_eq_true rfl) (Nat.le_of_ble_eq_true rfl) (Nat.le_of_ble_eq_true rfl) (Nat.le_of_ble_eq_true rfl) (Nat.le_of_ble_eq_true rfl) (Nat.le_of_ble_eq_true rfl) ⟨rfl, rfl, rfl⟩
      · refine j_iload_n C d_X_act_31 rfl rfl ?_
        refine j_aload_n C d_X_act_32 rfl rfl ?_
        refine jx_get 0 C fl_0_26 d_X_act_33 hn rfl rfl ?_
        refine j_icmp_le (tgt := 49) C d_X_act_36 (by decide) (fun c36 => ?_) (fun c36 => ?_)
        · exact absurd c36 (hk.resolve_left c28)
        · exact j_throwS (text := "the minute is to come, or below 0") C th_8 (by decide +kernel) rfl d_X_act_39 d_X_act_42 d_X_act_43 d_X_act_45 d_X_act_48 (Nat.le_of_ble_eq_true rfl) (Nat.le_of_ble_eq_true rfl) (Nat.le_of_ble_eq_true rfl) (Nat.le_of_ble_eq_true rfl) (Nat.le_of_ble_eq_true rfl) (Nat.le_of_ble_eq_true rfl) ⟨rfl, rfl, rfl⟩
    · exact absurd fb c14

set_option maxHeartbeats 4000000 in
set_option maxRecDepth 100000 in
theorem c_X_act_c {l : Launch} (hl : l.stackTraces = false) {D : va_G} {cA : Nat → ClassId} {b n : Nat} {xo : Nat} {ξ : Nat → Int32} {β : Nat → Nat → Int32} {ρ : Nat → Option Nat} {u v : Nat} {r : Nat} {i0 k0 t0 f0 : Int32} {ζ : Nat → Int32} {g w : Nat → Int32} (h : AH) (hr : xo + 28 ≤ r) (hrn : r + 3 ≤ n) (j : Nat) (hj : j < 30) (hj0 : nI j < ξ 0) (hρ : ρ j = some r) (f t : Int32) (fa : ¬ f < 0) (fb : f < 10) (t1 : ¬ t < 0) (t2 : t ≤ ξ 1) (h4 : ¬ ζ 4 ≤ 0) : Cn l D cA b y_X_act k_X_act 7 96 1 6 [.ref xo, .int (nI j), .int f, .int t] n (ovX xo ξ β ρ u v (ovR r i0 k0 t0 f0 ζ g w h)) (Th 9 n (ovX xo ξ β ρ u v (ovR r i0 k0 t0 f0 ζ g w h))) := by
  refine Cn.of (cc := b_X_act) (maxL := 5) (ret := (some .boolean)) (hh := []) (by decide +kernel) hl (Or.inl ⟨rfl, rfl⟩) (Nat.le_of_ble_eq_true rfl) ?_
  intro p e s m args below meth c C
  have hn : xo + 28 ≤ n := by omega
  refine j_aload_n C d_X_act_0 rfl rfl ?_
  refine j_iload_n C d_X_act_1 rfl rfl ?_
  refine j_callV C d_X_act_2 ml_X_103 mc_X_known in_X_known rfl se_X_known (by omega) (ovX_c (o := 0) rfl) (c_X_known_0 hl _ hn j r hj hj0 hρ) rfl rfl (Nat.le_of_ble_eq_true rfl) (Nat.le_of_ble_eq_true rfl) (Nat.le_of_ble_eq_true rfl) (Nat.le_of_ble_eq_true rfl) (jk_r ?_)
  refine j_astore C d_X_act_5 (by decide) rfl ?_
  refine j_iload_n C d_X_act_7 rfl rfl ?_
  refine j_if_lt (tgt := 17) C d_X_act_8 (by decide) (fun c8 => ?_) (fun c8 => ?_)
  · exact absurd c8 fa
  · refine j_iload_n C d_X_act_11 rfl rfl ?_
    refine j_bipush (v := 10) C d_X_act_12 (by decide) ?_
    refine j_icmp_lt (tgt := 27) C d_X_act_14 (by decide) (fun c14 => ?_) (fun c14 => ?_)
    · refine j_iload_n C d_X_act_27 rfl rfl ?_
      refine j_if_lt (tgt := 39) C d_X_act_28 (by decide) (fun c28 => ?_) (fun c28 => ?_)
      · exact absurd c28 t1
      · refine j_iload_n C d_X_act_31 rfl rfl ?_
        refine j_aload_n C d_X_act_32 rfl rfl ?_
        refine jx_get 0 C fl_0_26 d_X_act_33 hn rfl rfl ?_
        refine j_icmp_le (tgt := 49) C d_X_act_36 (by decide) (fun c36 => ?_) (fun c36 => ?_)
        · refine j_aload C d_X_act_49 rfl ?_
          refine j_h (ovX_R hr) ?_
          exact j_callS C d_X_act_51 ml_X_131 mc_X_requireUnsigned st_X_requireUnsigned (c_X_requireUnsigned_1 hl _ hrn h4) rfl rfl (Nat.le_of_ble_eq_true rfl) (Nat.le_of_ble_eq_true rfl) (Nat.le_of_ble_eq_true rfl) (Nat.le_of_ble_eq_true rfl) (jk_x C rfl (Nat.le_of_ble_eq_true rfl) (Nat.le_of_ble_eq_true rfl) ⟨rfl, rfl, by rw [ovX_R hr]⟩)
        · exact absurd t2 c36
    · exact absurd fb c14

set_option maxHeartbeats 4000000 in
set_option maxRecDepth 100000 in
theorem c_X_act_0 {l : Launch} (hl : l.stackTraces = false) {D : va_G} {cA : Nat → ClassId} {b n : Nat} {xo : Nat} {ξ : Nat → Int32} {β : Nat → Nat → Int32} {ρ : Nat → Option Nat} {u v : Nat} {r : Nat} {i0 k0 t0 f0 : Int32} {ζ : Nat → Int32} {g w : Nat → Int32} (h : AH) (hr : xo + 28 ≤ r) (hrn : r + 3 ≤ n) (j : Nat) (hj : j < 30) (hj0 : nI j < ξ 0) (hρ : ρ j = some r) (f t : Int32) (fa : ¬ f < 0) (fb : f < 10) (t1 : ¬ t < 0) (t2 : t ≤ ξ 1) (h4 : ζ 4 ≤ 0) (hi : vp_in f 20) (ha : rfa ζ g f t = 0) : Cn l D cA b y_X_act k_X_act 7 96 1 6 [.ref xo, .int (nI j), .int f, .int t] n (ovX xo ξ β ρ u v (ovR r i0 k0 t0 f0 ζ g w h)) (Re (some (.int 0)) n (ovX xo ξ β ρ u v (ovR r i0 k0 t0 f0 ζ g w h))) := by
  refine Cn.of (cc := b_X_act) (maxL := 5) (ret := (some .boolean)) (hh := []) (by decide +kernel) hl (Or.inl ⟨rfl, rfl⟩) (Nat.le_of_ble_eq_true rfl) ?_
  intro p e s m args below meth c C
  have hn : xo + 28 ≤ n := by omega
  refine j_aload_n C d_X_act_0 rfl rfl ?_
  refine j_iload_n C d_X_act_1 rfl rfl ?_
  refine j_callV C d_X_act_2 ml_X_103 mc_X_known in_X_known rfl se_X_known (by omega) (ovX_c (o := 0) rfl) (c_X_known_0 hl _ hn j r hj hj0 hρ) rfl rfl (Nat.le_of_ble_eq_true rfl) (Nat.le_of_ble_eq_true rfl) (Nat.le_of_ble_eq_true rfl) (Nat.le_of_ble_eq_true rfl) (jk_r ?_)
  refine j_astore C d_X_act_5 (by decide) rfl ?_
  refine j_iload_n C d_X_act_7 rfl rfl ?_
  refine j_if_lt (tgt := 17) C d_X_act_8 (by decide) (fun c8 => ?_) (fun c8 => ?_)
  · exact absurd c8 fa
  · refine j_iload_n C d_X_act_11 rfl rfl ?_
    refine j_bipush (v := 10) C d_X_act_12 (by decide) ?_
    refine j_icmp_lt (tgt := 27) C d_X_act_14 (by decide) (fun c14 => ?_) (fun c14 => ?_)
    · refine j_iload_n C d_X_act_27 rfl rfl ?_
      refine j_if_lt (tgt := 39) C d_X_act_28 (by decide) (fun c28 => ?_) (fun c28 => ?_)
      · exact absurd c28 t1
      · refine j_iload_n C d_X_act_31 rfl rfl ?_
        refine j_aload_n C d_X_act_32 rfl rfl ?_
        refine jx_get 0 C fl_0_26 d_X_act_33 hn rfl rfl ?_
        refine j_icmp_le (tgt := 49) C d_X_act_36 (by decide) (fun c36 => ?_) (fun c36 => ?_)
        · refine j_aload C d_X_act_49 rfl ?_
          refine j_h (ovX_R hr) ?_
          refine j_callS C d_X_act_51 ml_X_131 mc_X_requireUnsigned st_X_requireUnsigned (c_X_requireUnsigned_0 hl _ hrn h4) rfl rfl (Nat.le_of_ble_eq_true rfl) (Nat.le_of_ble_eq_true rfl) (Nat.le_of_ble_eq_true rfl) (Nat.le_of_ble_eq_true rfl) (jk_v ?_)
          refine j_h (ovX_R hr).symm ?_
          refine j_aload C d_X_act_54 rfl ?_
          refine j_iload_n C d_X_act_56 rfl rfl ?_
          refine j_iload_n C d_X_act_57 rfl rfl ?_
          refine j_h (ovX_R hr) ?_
          refine j_callV C d_X_act_58 ml_X_135 mc_RP_fillByAct in_RP_fillByAct rfl se_RP_fillByAct (by omega) (ovR_o _ _ _ _ _ _ _ _ _) (c_RP_fillByAct_0 hl _ hrn f t hi ha) rfl rfl (Nat.le_of_ble_eq_true rfl) (Nat.le_of_ble_eq_true rfl) (Nat.le_of_ble_eq_true rfl) (Nat.le_of_ble_eq_true rfl) (jk_r ?_)
          refine j_h (ovX_R hr).symm ?_
          exact j_zreturn C d_X_act_61 rfl (by decide) (Nat.le_of_ble_eq_true rfl) (Nat.le_of_ble_eq_true rfl) ⟨rfl, rfl, rfl⟩
        · exact absurd t2 c36
    · exact absurd fb c14

set_option maxHeartbeats 4000000 in
set_option maxRecDepth 100000 in
theorem c_X_act_1 {l : Launch} (hl : l.stackTraces = false) {D : va_G} {cA : Nat → ClassId} {b n : Nat} {xo : Nat} {ξ : Nat → Int32} {β : Nat → Nat → Int32} {ρ : Nat → Option Nat} {u v : Nat} {r : Nat} {i0 k0 t0 f0 : Int32} {ζ : Nat → Int32} {g w : Nat → Int32} (h : AH) (hr : xo + 28 ≤ r) (hrn : r + 3 ≤ n) (j : Nat) (hj : j < 30) (hj0 : nI j < ξ 0) (hρ : ρ j = some r) (f t : Int32) (fa : ¬ f < 0) (fb : f < 10) (t1 : ¬ t < 0) (t2 : t ≤ ξ 1) (h4 : ζ 4 ≤ 0) (hi : vp_in f 20) (ha : rfa ζ g f t = 1) : Cn l D cA b y_X_act k_X_act 7 96 1 6 [.ref xo, .int (nI j), .int f, .int t] n (ovX xo ξ β ρ u v (ovR r i0 k0 t0 f0 ζ g w h)) (Re (some (.int 1)) n (ovX xo ξ β ρ u v (ovR r i0 k0 t0 f0 (upd (upd ζ 0 (xch (ζ 0) f 1)) 1 (xch (ζ 1) f 1)) (upd g f.toNatClampNeg t) w h))) := by
  refine Cn.of (cc := b_X_act) (maxL := 5) (ret := (some .boolean)) (hh := []) (by decide +kernel) hl (Or.inl ⟨rfl, rfl⟩) (Nat.le_of_ble_eq_true rfl) ?_
  intro p e s m args below meth c C
  have hn : xo + 28 ≤ n := by omega
  refine j_aload_n C d_X_act_0 rfl rfl ?_
  refine j_iload_n C d_X_act_1 rfl rfl ?_
  refine j_callV C d_X_act_2 ml_X_103 mc_X_known in_X_known rfl se_X_known (by omega) (ovX_c (o := 0) rfl) (c_X_known_0 hl _ hn j r hj hj0 hρ) rfl rfl (Nat.le_of_ble_eq_true rfl) (Nat.le_of_ble_eq_true rfl) (Nat.le_of_ble_eq_true rfl) (Nat.le_of_ble_eq_true rfl) (jk_r ?_)
  refine j_astore C d_X_act_5 (by decide) rfl ?_
  refine j_iload_n C d_X_act_7 rfl rfl ?_
  refine j_if_lt (tgt := 17) C d_X_act_8 (by decide) (fun c8 => ?_) (fun c8 => ?_)
  · exact absurd c8 fa
  · refine j_iload_n C d_X_act_11 rfl rfl ?_
    refine j_bipush (v := 10) C d_X_act_12 (by decide) ?_
    refine j_icmp_lt (tgt := 27) C d_X_act_14 (by decide) (fun c14 => ?_) (fun c14 => ?_)
    · refine j_iload_n C d_X_act_27 rfl rfl ?_
      refine j_if_lt (tgt := 39) C d_X_act_28 (by decide) (fun c28 => ?_) (fun c28 => ?_)
      · exact absurd c28 t1
      · refine j_iload_n C d_X_act_31 rfl rfl ?_
        refine j_aload_n C d_X_act_32 rfl rfl ?_
        refine jx_get 0 C fl_0_26 d_X_act_33 hn rfl rfl ?_
        refine j_icmp_le (tgt := 49) C d_X_act_36 (by decide) (fun c36 => ?_) (fun c36 => ?_)
        · refine j_aload C d_X_act_49 rfl ?_
          refine j_h (ovX_R hr) ?_
          refine j_callS C d_X_act_51 ml_X_131 mc_X_requireUnsigned st_X_requireUnsigned (c_X_requireUnsigned_0 hl _ hrn h4) rfl rfl (Nat.le_of_ble_eq_true rfl) (Nat.le_of_ble_eq_true rfl) (Nat.le_of_ble_eq_true rfl) (Nat.le_of_ble_eq_true rfl) (jk_v ?_)
          refine j_h (ovX_R hr).symm ?_
          refine j_aload C d_X_act_54 rfl ?_
          refine j_iload_n C d_X_act_56 rfl rfl ?_
          refine j_iload_n C d_X_act_57 rfl rfl ?_
          refine j_h (ovX_R hr) ?_
          refine j_callV C d_X_act_58 ml_X_135 mc_RP_fillByAct in_RP_fillByAct rfl se_RP_fillByAct (by omega) (ovR_o _ _ _ _ _ _ _ _ _) (c_RP_fillByAct_1 hl _ hrn f t hi ha) rfl rfl (Nat.le_of_ble_eq_true rfl) (Nat.le_of_ble_eq_true rfl) (Nat.le_of_ble_eq_true rfl) (Nat.le_of_ble_eq_true rfl) (jk_r ?_)
          refine j_h (ovX_R hr).symm ?_
          exact j_zreturn C d_X_act_61 rfl (by decide) (Nat.le_of_ble_eq_true rfl) (Nat.le_of_ble_eq_true rfl) ⟨rfl, rfl, rfl⟩
        · exact absurd t2 c36
    · exact absurd fb c14

set_option maxHeartbeats 4000000 in
set_option maxRecDepth 100000 in
theorem c_X_inside_b {l : Launch} (hl : l.stackTraces = false) {D : va_G} {cA : Nat → ClassId} {b n : Nat} {xo : Nat} {ξ : Nat → Int32} {β : Nat → Nat → Int32} {ρ : Nat → Option Nat} {u v : Nat} {r : Nat} {i0 k0 t0 f0 : Int32} {ζ : Nat → Int32} {g w : Nat → Int32} (h : AH) (hr : xo + 28 ≤ r) (hrn : r + 3 ≤ n) (j : Nat) (hj : j < 30) (hj0 : nI j < ξ 0) (hρ : ρ j = some r) (y : Int32) (hk : y < 0 ∨ ¬ y ≤ 99) : Cn l D cA b y_X_inside k_X_inside 7 96 1 6 [.ref xo, .int (nI j), .int y] n (ovX xo ξ β ρ u v (ovR r i0 k0 t0 f0 ζ g w h)) (Th 8 n (ovX xo ξ β ρ u v (ovR r i0 k0 t0 f0 ζ g w h))) := by
  refine Cn.of (cc := b_X_inside) (maxL := 4) (ret := none) (hh := []) (by decide +kernel) hl (Or.inl ⟨rfl, rfl⟩) (Nat.le_of_ble_eq_true rfl) ?_
  intro p e s m args below meth c C
  have hn : xo + 28 ≤ n := by omega
  refine j_aload_n C d_X_inside_0 rfl rfl ?_
  refine j_iload_n C d_X_inside_1 rfl rfl ?_
  refine j_callV C d_X_inside_2 ml_X_103 mc_X_known in_X_known rfl se_X_known (by omega) (ovX_c (o := 0) rfl) (c_X_known_0 hl _ hn j r hj hj0 hρ) rfl rfl (Nat.le_of_ble_eq_true rfl) (Nat.le_of_ble_eq_true rfl) (Nat.le_of_ble_eq_true rfl) (Nat.le_of_ble_eq_true rfl) (jk_r ?_)
  refine j_astore_n C d_X_inside_5 rfl (by decide) rfl ?_
  refine j_iload_n C d_X_inside_6 rfl rfl ?_
  refine j_if_lt (tgt := 16) C d_X_inside_7 (by decide) (fun c7 => ?_) (fun c7 => ?_)
  · exact j_throwS (text := "the persons inside are not 0 .. 99") C th_8 (by decide +kernel) rfl d_X_inside_16 d_X_inside_19 d_X_inside_20 d_X_inside_22 d_X_inside_25 (Nat.le_of_ble_eq_true rfl) (Nat.le_of_ble_eq_true rfl) (Nat.le_of_ble_eq_true rfl) (Nat.le_of_ble_eq_true rfl) (Nat.le_of_ble_eq_true rfl) (Nat.le_of_ble_eq_true rfl) ⟨rfl, rfl, rfl⟩
  · refine j_iload_n C d_X_inside_10 rfl rfl ?_
    refine j_bipush (v := 99) C d_X_inside_11 (by decide) ?_
    refine j_icmp_le (tgt := 26) C d_X_inside_13 (by decide) (fun c13 => ?_) (fun c13 => ?_)
    · exact absurd c13 (hk.resolve_left c7)
    · exact j_throwS (text := "the persons inside are not 0 .. 99") C th_8 (by decide +kernel) rfl d_X_inside_16 d_X_inside_19 d_X_inside_20 d_X_inside_22 d_X_inside_25 (Nat.le_of_ble_eq_true rfl) (Nat.le_of_ble_eq_true rfl) (Nat.le_of_ble_eq_true rfl) (Nat.le_of_ble_eq_true rfl) (Nat.le_of_ble_eq_true rfl) (Nat.le_of_ble_eq_true rfl) ⟨rfl, rfl, rfl⟩

set_option maxHeartbeats 4000000 in
set_option maxRecDepth 100000 in
theorem c_X_inside_c {l : Launch} (hl : l.stackTraces = false) {D : va_G} {cA : Nat → ClassId} {b n : Nat} {xo : Nat} {ξ : Nat → Int32} {β : Nat → Nat → Int32} {ρ : Nat → Option Nat} {u v : Nat} {r : Nat} {i0 k0 t0 f0 : Int32} {ζ : Nat → Int32} {g w : Nat → Int32} (h : AH) (hr : xo + 28 ≤ r) (hrn : r + 3 ≤ n) (j : Nat) (hj : j < 30) (hj0 : nI j < ξ 0) (hρ : ρ j = some r) (y : Int32) (y0 : ¬ y < 0) (y1 : y ≤ 99) (h4 : ¬ ζ 4 ≤ 0) : Cn l D cA b y_X_inside k_X_inside 7 96 1 6 [.ref xo, .int (nI j), .int y] n (ovX xo ξ β ρ u v (ovR r i0 k0 t0 f0 ζ g w h)) (Th 9 n (ovX xo ξ β ρ u v (ovR r i0 k0 t0 f0 ζ g w h))) := by
  refine Cn.of (cc := b_X_inside) (maxL := 4) (ret := none) (hh := []) (by decide +kernel) hl (Or.inl ⟨rfl, rfl⟩) (Nat.le_of_ble_eq_true rfl) ?_
  intro p e s m args below meth c C
  have hn : xo + 28 ≤ n := by omega
  refine j_aload_n C d_X_inside_0 rfl rfl ?_
  refine j_iload_n C d_X_inside_1 rfl rfl ?_
  refine j_callV C d_X_inside_2 ml_X_103 mc_X_known in_X_known rfl se_X_known (by omega) (ovX_c (o := 0) rfl) (c_X_known_0 hl _ hn j r hj hj0 hρ) rfl rfl (Nat.le_of_ble_eq_true rfl) (Nat.le_of_ble_eq_true rfl) (Nat.le_of_ble_eq_true rfl) (Nat.le_of_ble_eq_true rfl) (jk_r ?_)
  refine j_astore_n C d_X_inside_5 rfl (by decide) rfl ?_
  refine j_iload_n C d_X_inside_6 rfl rfl ?_
  refine j_if_lt (tgt := 16) C d_X_inside_7 (by decide) (fun c7 => ?_) (fun c7 => ?_)
  · exact absurd c7 y0
  · refine j_iload_n C d_X_inside_10 rfl rfl ?_
    refine j_bipush (v := 99) C d_X_inside_11 (by decide) ?_
    refine j_icmp_le (tgt := 26) C d_X_inside_13 (by decide) (fun c13 => ?_) (fun c13 => ?_)
    · refine j_aload_n C d_X_inside_26 rfl rfl ?_
      refine j_h (ovX_R hr) ?_
      exact j_callS C d_X_inside_27 ml_X_131 mc_X_requireUnsigned st_X_requireUnsigned (c_X_requireUnsigned_1 hl _ hrn h4) rfl rfl (Nat.le_of_ble_eq_true rfl) (Nat.le_of_ble_eq_true rfl) (Nat.le_of_ble_eq_true rfl) (Nat.le_of_ble_eq_true rfl) (jk_x C rfl (Nat.le_of_ble_eq_true rfl) (Nat.le_of_ble_eq_true rfl) ⟨rfl, rfl, by rw [ovX_R hr]⟩)
    · exact absurd y1 c13

set_option maxHeartbeats 4000000 in
set_option maxRecDepth 100000 in
theorem c_X_inside_r {l : Launch} (hl : l.stackTraces = false) {D : va_G} {cA : Nat → ClassId} {b n : Nat} {xo : Nat} {ξ : Nat → Int32} {β : Nat → Nat → Int32} {ρ : Nat → Option Nat} {u v : Nat} {r : Nat} {i0 k0 t0 f0 : Int32} {ζ : Nat → Int32} {g w : Nat → Int32} (h : AH) (hr : xo + 28 ≤ r) (hrn : r + 3 ≤ n) (j : Nat) (hj : j < 30) (hj0 : nI j < ξ 0) (hρ : ρ j = some r) (y : Int32) (y0 : ¬ y < 0) (y1 : y ≤ 99) (h4 : ζ 4 ≤ 0) : Cn l D cA b y_X_inside k_X_inside 7 96 1 6 [.ref xo, .int (nI j), .int y] n (ovX xo ξ β ρ u v (ovR r i0 k0 t0 f0 ζ g w h)) (Re none n (ovX xo ξ β ρ u v (ovR r i0 k0 t0 f0 (upd ζ 3 y) g w h))) := by
  refine Cn.of (cc := b_X_inside) (maxL := 4) (ret := none) (hh := []) (by decide +kernel) hl (Or.inl ⟨rfl, rfl⟩) (Nat.le_of_ble_eq_true rfl) ?_
  intro p e s m args below meth c C
  have hn : xo + 28 ≤ n := by omega
  refine j_aload_n C d_X_inside_0 rfl rfl ?_
  refine j_iload_n C d_X_inside_1 rfl rfl ?_
  refine j_callV C d_X_inside_2 ml_X_103 mc_X_known in_X_known rfl se_X_known (by omega) (ovX_c (o := 0) rfl) (c_X_known_0 hl _ hn j r hj hj0 hρ) rfl rfl (Nat.le_of_ble_eq_true rfl) (Nat.le_of_ble_eq_true rfl) (Nat.le_of_ble_eq_true rfl) (Nat.le_of_ble_eq_true rfl) (jk_r ?_)
  refine j_astore_n C d_X_inside_5 rfl (by decide) rfl ?_
  refine j_iload_n C d_X_inside_6 rfl rfl ?_
  refine j_if_lt (tgt := 16) C d_X_inside_7 (by decide) (fun c7 => ?_) (fun c7 => ?_)
  · exact absurd c7 y0
  · refine j_iload_n C d_X_inside_10 rfl rfl ?_
    refine j_bipush (v := 99) C d_X_inside_11 (by decide) ?_
    refine j_icmp_le (tgt := 26) C d_X_inside_13 (by decide) (fun c13 => ?_) (fun c13 => ?_)
    · refine j_aload_n C d_X_inside_26 rfl rfl ?_
      refine j_h (ovX_R hr) ?_
      refine j_callS C d_X_inside_27 ml_X_131 mc_X_requireUnsigned st_X_requireUnsigned (c_X_requireUnsigned_0 hl _ hrn h4) rfl rfl (Nat.le_of_ble_eq_true rfl) (Nat.le_of_ble_eq_true rfl) (Nat.le_of_ble_eq_true rfl) (Nat.le_of_ble_eq_true rfl) (jk_v ?_)
      refine j_h (ovX_R hr).symm ?_
      refine j_aload_n C d_X_inside_30 rfl rfl ?_
      refine j_iload_n C d_X_inside_31 rfl rfl ?_
      refine jq_puti 3 C fp_0_141 d_X_inside_32 hr hrn (Nat.le_of_ble_eq_true rfl) rfl rfl rfl ?_
      exact j_vreturn C d_X_inside_35 rfl (by decide) (by decide) ⟨rfl, rfl, rfl⟩
    · exact absurd y1 c13

set_option maxHeartbeats 4000000 in
set_option maxRecDepth 100000 in
theorem c_X_fault_a {l : Launch} (hl : l.stackTraces = false) {D : va_G} {cA : Nat → ClassId} {b n : Nat} {xo : Nat} {ξ : Nat → Int32} {β : Nat → Nat → Int32} {ρ : Nat → Option Nat} {u v : Nat} {r : Nat} {i0 k0 t0 f0 : Int32} {ζ : Nat → Int32} {g w : Nat → Int32} (h : AH) (hr : xo + 28 ≤ r) (hrn : r + 3 ≤ n) (j : Nat) (hj : j < 30) (hj0 : nI j < ξ 0) (hρ : ρ j = some r) (f : Int32) (hk : f < 0 ∨ ¬ f < 20) : Cn l D cA b y_X_fault k_X_fault 7 96 1 6 [.ref xo, .int (nI j), .int f] n (ovX xo ξ β ρ u v (ovR r i0 k0 t0 f0 ζ g w h)) (Th 7 n (ovX xo ξ β ρ u v (ovR r i0 k0 t0 f0 ζ g w h))) := by
  refine Cn.of (cc := b_X_fault) (maxL := 4) (ret := none) (hh := []) (by decide +kernel) hl (Or.inl ⟨rfl, rfl⟩) (Nat.le_of_ble_eq_true rfl) ?_
  intro p e s m args below meth c C
  have hn : xo + 28 ≤ n := by omega
  refine j_aload_n C d_X_fault_0 rfl rfl ?_
  refine j_iload_n C d_X_fault_1 rfl rfl ?_
  refine j_callV C d_X_fault_2 ml_X_103 mc_X_known in_X_known rfl se_X_known (by omega) (ovX_c (o := 0) rfl) (c_X_known_0 hl _ hn j r hj hj0 hρ) rfl rfl (Nat.le_of_ble_eq_true rfl) (Nat.le_of_ble_eq_true rfl) (Nat.le_of_ble_eq_true rfl) (Nat.le_of_ble_eq_true rfl) (jk_r ?_)
  refine j_astore_n C d_X_fault_5 rfl (by decide) rfl ?_
  refine j_iload_n C d_X_fault_6 rfl rfl ?_
  exact j_callS C d_X_fault_7 ml_X_96 mc_X_requireField st_X_requireField (c_X_requireField_1 hl _ f hk) rfl rfl (Nat.le_of_ble_eq_true rfl) (Nat.le_of_ble_eq_true rfl) (Nat.le_of_ble_eq_true rfl) (Nat.le_of_ble_eq_true rfl) (jk_x C rfl (Nat.le_of_ble_eq_true rfl) (Nat.le_of_ble_eq_true rfl) ⟨rfl, rfl, rfl⟩)

set_option maxHeartbeats 4000000 in
set_option maxRecDepth 100000 in
theorem c_X_fault_b {l : Launch} (hl : l.stackTraces = false) {D : va_G} {cA : Nat → ClassId} {b n : Nat} {xo : Nat} {ξ : Nat → Int32} {β : Nat → Nat → Int32} {ρ : Nat → Option Nat} {u v : Nat} {r : Nat} {i0 k0 t0 f0 : Int32} {ζ : Nat → Int32} {g w : Nat → Int32} (h : AH) (hr : xo + 28 ≤ r) (hrn : r + 3 ≤ n) (j : Nat) (hj : j < 30) (hj0 : nI j < ξ 0) (hρ : ρ j = some r) (f : Int32) (fa : ¬ f < 0) (fb : f < 20) (hc : rcl ζ = 0) : Cn l D cA b y_X_fault k_X_fault 7 96 1 6 [.ref xo, .int (nI j), .int f] n (ovX xo ξ β ρ u v (ovR r i0 k0 t0 f0 ζ g w h)) (Th 9 n (ovX xo ξ β ρ u v (ovR r i0 k0 t0 f0 ζ g w h))) := by
  refine Cn.of (cc := b_X_fault) (maxL := 4) (ret := none) (hh := []) (by decide +kernel) hl (Or.inl ⟨rfl, rfl⟩) (Nat.le_of_ble_eq_true rfl) ?_
  intro p e s m args below meth c C
  have hn : xo + 28 ≤ n := by omega
  refine j_aload_n C d_X_fault_0 rfl rfl ?_
  refine j_iload_n C d_X_fault_1 rfl rfl ?_
  refine j_callV C d_X_fault_2 ml_X_103 mc_X_known in_X_known rfl se_X_known (by omega) (ovX_c (o := 0) rfl) (c_X_known_0 hl _ hn j r hj hj0 hρ) rfl rfl (Nat.le_of_ble_eq_true rfl) (Nat.le_of_ble_eq_true rfl) (Nat.le_of_ble_eq_true rfl) (Nat.le_of_ble_eq_true rfl) (jk_r ?_)
  refine j_astore_n C d_X_fault_5 rfl (by decide) rfl ?_
  refine j_iload_n C d_X_fault_6 rfl rfl ?_
  refine j_callS C d_X_fault_7 ml_X_96 mc_X_requireField st_X_requireField (c_X_requireField_0 hl _ f fa fb) rfl rfl (Nat.le_of_ble_eq_true rfl) (Nat.le_of_ble_eq_true rfl) (Nat.le_of_ble_eq_true rfl) (Nat.le_of_ble_eq_true rfl) (jk_v ?_)
  refine j_aload_n C d_X_fault_10 rfl rfl ?_
  refine j_h (ovX_R hr) ?_
  exact j_callS C d_X_fault_11 ml_X_189 mc_X_requireClosed st_X_requireClosed (c_X_requireClosed_1 hl _ hrn hc) rfl rfl (Nat.le_of_ble_eq_true rfl) (Nat.le_of_ble_eq_true rfl) (Nat.le_of_ble_eq_true rfl) (Nat.le_of_ble_eq_true rfl) (jk_x C rfl (Nat.le_of_ble_eq_true rfl) (Nat.le_of_ble_eq_true rfl) ⟨rfl, rfl, by rw [ovX_R hr]⟩)

set_option maxHeartbeats 4000000 in
set_option maxRecDepth 100000 in
theorem c_X_fault_c {l : Launch} (hl : l.stackTraces = false) {D : va_G} {cA : Nat → ClassId} {b n : Nat} {xo : Nat} {ξ : Nat → Int32} {β : Nat → Nat → Int32} {ρ : Nat → Option Nat} {u v : Nat} {r : Nat} {i0 k0 t0 f0 : Int32} {ζ : Nat → Int32} {g w : Nat → Int32} (h : AH) (hr : xo + 28 ≤ r) (hrn : r + 3 ≤ n) (j : Nat) (hj : j < 30) (hj0 : nI j < ξ 0) (hρ : ρ j = some r) (f : Int32) (fa : ¬ f < 0) (fb : f < 20) (hc : ¬ rcl ζ = 0) (hp : ¬ xhs (ζ 2) f = 0) : Cn l D cA b y_X_fault k_X_fault 7 96 1 6 [.ref xo, .int (nI j), .int f] n (ovX xo ξ β ρ u v (ovR r i0 k0 t0 f0 ζ g w h)) (Th 9 n (ovX xo ξ β ρ u v (ovR r i0 k0 t0 f0 ζ g w h))) := by
  refine Cn.of (cc := b_X_fault) (maxL := 4) (ret := none) (hh := []) (by decide +kernel) hl (Or.inl ⟨rfl, rfl⟩) (Nat.le_of_ble_eq_true rfl) ?_
  intro p e s m args below meth c C
  have hn : xo + 28 ≤ n := by omega
  refine j_aload_n C d_X_fault_0 rfl rfl ?_
  refine j_iload_n C d_X_fault_1 rfl rfl ?_
  refine j_callV C d_X_fault_2 ml_X_103 mc_X_known in_X_known rfl se_X_known (by omega) (ovX_c (o := 0) rfl) (c_X_known_0 hl _ hn j r hj hj0 hρ) rfl rfl (Nat.le_of_ble_eq_true rfl) (Nat.le_of_ble_eq_true rfl) (Nat.le_of_ble_eq_true rfl) (Nat.le_of_ble_eq_true rfl) (jk_r ?_)
  refine j_astore_n C d_X_fault_5 rfl (by decide) rfl ?_
  refine j_iload_n C d_X_fault_6 rfl rfl ?_
  refine j_callS C d_X_fault_7 ml_X_96 mc_X_requireField st_X_requireField (c_X_requireField_0 hl _ f fa fb) rfl rfl (Nat.le_of_ble_eq_true rfl) (Nat.le_of_ble_eq_true rfl) (Nat.le_of_ble_eq_true rfl) (Nat.le_of_ble_eq_true rfl) (jk_v ?_)
  refine j_aload_n C d_X_fault_10 rfl rfl ?_
  refine j_h (ovX_R hr) ?_
  refine j_callS C d_X_fault_11 ml_X_189 mc_X_requireClosed st_X_requireClosed (c_X_requireClosed_0 hl _ hrn hc) rfl rfl (Nat.le_of_ble_eq_true rfl) (Nat.le_of_ble_eq_true rfl) (Nat.le_of_ble_eq_true rfl) (Nat.le_of_ble_eq_true rfl) (jk_v ?_)
  refine j_h (ovX_R hr).symm ?_
  refine j_aload_n C d_X_fault_14 rfl rfl ?_
  refine jq_get C fl_0_201 d_X_fault_15 hr hrn rfl ?_
  refine j_iload_n C d_X_fault_18 rfl rfl ?_
  refine j_callS C d_X_fault_19 ml_X_204 mc_X_has st_X_has (c_X_has hl _ _ _) rfl rfl (Nat.le_of_ble_eq_true rfl) (Nat.le_of_ble_eq_true rfl) (Nat.le_of_ble_eq_true rfl) (Nat.le_of_ble_eq_true rfl) (jk_r ?_)
  refine j_if_eq (tgt := 35) C d_X_fault_22 (by decide) (fun c22 => ?_) (fun c22 => ?_)
  · exact absurd c22 hp
  · exact j_throwS (text := "the field is open") C th_9 (by decide +kernel) rfl d_X_fault_25 d_X_fault_28 d_X_fault_29 d_X_fault_31 d_X_fault_34 (Nat.le_of_ble_eq_true rfl) (Nat.le_of_ble_eq_true rfl) (Nat.le_of_ble_eq_true rfl) (Nat.le_of_ble_eq_true rfl) (Nat.le_of_ble_eq_true rfl) (Nat.le_of_ble_eq_true rfl) ⟨rfl, rfl, rfl⟩

set_option maxHeartbeats 4000000 in
set_option maxRecDepth 100000 in
theorem c_X_fault_r {l : Launch} (hl : l.stackTraces = false) {D : va_G} {cA : Nat → ClassId} {b n : Nat} {xo : Nat} {ξ : Nat → Int32} {β : Nat → Nat → Int32} {ρ : Nat → Option Nat} {u v : Nat} {r : Nat} {i0 k0 t0 f0 : Int32} {ζ : Nat → Int32} {g w : Nat → Int32} (h : AH) (hr : xo + 28 ≤ r) (hrn : r + 3 ≤ n) (j : Nat) (hj : j < 30) (hj0 : nI j < ξ 0) (hρ : ρ j = some r) (f : Int32) (fa : ¬ f < 0) (fb : f < 20) (hc : ¬ rcl ζ = 0) (hp : xhs (ζ 2) f = 0) : Cn l D cA b y_X_fault k_X_fault 7 96 1 6 [.ref xo, .int (nI j), .int f] n (ovX xo ξ β ρ u v (ovR r i0 k0 t0 f0 ζ g w h)) (Re none n (ovX xo ξ β ρ u v (ovR r i0 k0 t0 f0 (upd ζ 2 (xch (ζ 2) f 1)) g w h))) := by
  refine Cn.of (cc := b_X_fault) (maxL := 4) (ret := none) (hh := []) (by decide +kernel) hl (Or.inl ⟨rfl, rfl⟩) (Nat.le_of_ble_eq_true rfl) ?_
  intro p e s m args below meth c C
  have hn : xo + 28 ≤ n := by omega
  refine j_aload_n C d_X_fault_0 rfl rfl ?_
  refine j_iload_n C d_X_fault_1 rfl rfl ?_
  refine j_callV C d_X_fault_2 ml_X_103 mc_X_known in_X_known rfl se_X_known (by omega) (ovX_c (o := 0) rfl) (c_X_known_0 hl _ hn j r hj hj0 hρ) rfl rfl (Nat.le_of_ble_eq_true rfl) (Nat.le_of_ble_eq_true rfl) (Nat.le_of_ble_eq_true rfl) (Nat.le_of_ble_eq_true rfl) (jk_r ?_)
  refine j_astore_n C d_X_fault_5 rfl (by decide) rfl ?_
  refine j_iload_n C d_X_fault_6 rfl rfl ?_
  refine j_callS C d_X_fault_7 ml_X_96 mc_X_requireField st_X_requireField (c_X_requireField_0 hl _ f fa fb) rfl rfl (Nat.le_of_ble_eq_true rfl) (Nat.le_of_ble_eq_true rfl) (Nat.le_of_ble_eq_true rfl) (Nat.le_of_ble_eq_true rfl) (jk_v ?_)
  refine j_aload_n C d_X_fault_10 rfl rfl ?_
  refine j_h (ovX_R hr) ?_
  refine j_callS C d_X_fault_11 ml_X_189 mc_X_requireClosed st_X_requireClosed (c_X_requireClosed_0 hl _ hrn hc) rfl rfl (Nat.le_of_ble_eq_true rfl) (Nat.le_of_ble_eq_true rfl) (Nat.le_of_ble_eq_true rfl) (Nat.le_of_ble_eq_true rfl) (jk_v ?_)
  refine j_h (ovX_R hr).symm ?_
  refine j_aload_n C d_X_fault_14 rfl rfl ?_
  refine jq_get C fl_0_201 d_X_fault_15 hr hrn rfl ?_
  refine j_iload_n C d_X_fault_18 rfl rfl ?_
  refine j_callS C d_X_fault_19 ml_X_204 mc_X_has st_X_has (c_X_has hl _ _ _) rfl rfl (Nat.le_of_ble_eq_true rfl) (Nat.le_of_ble_eq_true rfl) (Nat.le_of_ble_eq_true rfl) (Nat.le_of_ble_eq_true rfl) (jk_r ?_)
  refine j_if_eq (tgt := 35) C d_X_fault_22 (by decide) (fun c22 => ?_) (fun c22 => ?_)
  · refine j_aload_n C d_X_fault_35 rfl rfl ?_
    refine j_aload_n C d_X_fault_36 rfl rfl ?_
    refine jq_get C fl_0_201 d_X_fault_37 hr hrn rfl ?_
    refine j_iload_n C d_X_fault_40 rfl rfl ?_
    refine j_iconst (v := 1) C d_X_fault_41 (by decide) ?_
    refine j_callS C d_X_fault_42 ml_X_99 mc_X_changed st_X_changed (c_X_changed hl _ _ _ _) rfl rfl (Nat.le_of_ble_eq_true rfl) (Nat.le_of_ble_eq_true rfl) (Nat.le_of_ble_eq_true rfl) (Nat.le_of_ble_eq_true rfl) (jk_r ?_)
    refine jq_puti 2 C fp_0_201 d_X_fault_45 hr hrn (Nat.le_of_ble_eq_true rfl) rfl rfl rfl ?_
    exact j_vreturn C d_X_fault_48 rfl (by decide) (by decide) ⟨rfl, rfl, rfl⟩
  · exact absurd hp c22

set_option maxHeartbeats 4000000 in
set_option maxRecDepth 100000 in
theorem c_X_value_a {l : Launch} (hl : l.stackTraces = false) {D : va_G} {cA : Nat → ClassId} {b n : Nat} {xo : Nat} {ξ : Nat → Int32} {β : Nat → Nat → Int32} {ρ : Nat → Option Nat} {u v : Nat} {r : Nat} {i0 k0 t0 f0 : Int32} {ζ : Nat → Int32} {g w : Nat → Int32} (h : AH) (hr : xo + 28 ≤ r) (hrn : r + 3 ≤ n) (j : Nat) (hj : j < 30) (hj0 : nI j < ξ 0) (hρ : ρ j = some r) (f : Int32) (hk : f < 0 ∨ ¬ f < 20) : Cn l D cA b y_X_value k_X_value 7 96 1 6 [.ref xo, .int (nI j), .int f] n (ovX xo ξ β ρ u v (ovR r i0 k0 t0 f0 ζ g w h)) (Th 7 n (ovX xo ξ β ρ u v (ovR r i0 k0 t0 f0 ζ g w h))) := by
  refine Cn.of (cc := b_X_value) (maxL := 4) (ret := (some .int)) (hh := []) (by decide +kernel) hl (Or.inl ⟨rfl, rfl⟩) (Nat.le_of_ble_eq_true rfl) ?_
  intro p e s m args below meth c C
  have hn : xo + 28 ≤ n := by omega
  refine j_aload_n C d_X_value_0 rfl rfl ?_
  refine j_iload_n C d_X_value_1 rfl rfl ?_
  refine j_callV C d_X_value_2 ml_X_103 mc_X_known in_X_known rfl se_X_known (by omega) (ovX_c (o := 0) rfl) (c_X_known_0 hl _ hn j r hj hj0 hρ) rfl rfl (Nat.le_of_ble_eq_true rfl) (Nat.le_of_ble_eq_true rfl) (Nat.le_of_ble_eq_true rfl) (Nat.le_of_ble_eq_true rfl) (jk_r ?_)
  refine j_astore_n C d_X_value_5 rfl (by decide) rfl ?_
  refine j_iload_n C d_X_value_6 rfl rfl ?_
  exact j_callS C d_X_value_7 ml_X_96 mc_X_requireField st_X_requireField (c_X_requireField_1 hl _ f hk) rfl rfl (Nat.le_of_ble_eq_true rfl) (Nat.le_of_ble_eq_true rfl) (Nat.le_of_ble_eq_true rfl) (Nat.le_of_ble_eq_true rfl) (jk_x C rfl (Nat.le_of_ble_eq_true rfl) (Nat.le_of_ble_eq_true rfl) ⟨rfl, rfl, rfl⟩)

set_option maxHeartbeats 4000000 in
set_option maxRecDepth 100000 in
theorem c_X_value_b {l : Launch} (hl : l.stackTraces = false) {D : va_G} {cA : Nat → ClassId} {b n : Nat} {xo : Nat} {ξ : Nat → Int32} {β : Nat → Nat → Int32} {ρ : Nat → Option Nat} {u v : Nat} {r : Nat} {i0 k0 t0 f0 : Int32} {ζ : Nat → Int32} {g w : Nat → Int32} (h : AH) (hr : xo + 28 ≤ r) (hrn : r + 3 ≤ n) (j : Nat) (hj : j < 30) (hj0 : nI j < ξ 0) (hρ : ρ j = some r) (f : Int32) (fa : ¬ f < 0) (fb : f < 20) (hp : xhs (ζ 0) f = 0) : Cn l D cA b y_X_value k_X_value 7 96 1 6 [.ref xo, .int (nI j), .int f] n (ovX xo ξ β ρ u v (ovR r i0 k0 t0 f0 ζ g w h)) (Th 9 n (ovX xo ξ β ρ u v (ovR r i0 k0 t0 f0 ζ g w h))) := by
  refine Cn.of (cc := b_X_value) (maxL := 4) (ret := (some .int)) (hh := []) (by decide +kernel) hl (Or.inl ⟨rfl, rfl⟩) (Nat.le_of_ble_eq_true rfl) ?_
  intro p e s m args below meth c C
  have hn : xo + 28 ≤ n := by omega
  refine j_aload_n C d_X_value_0 rfl rfl ?_
  refine j_iload_n C d_X_value_1 rfl rfl ?_
  refine j_callV C d_X_value_2 ml_X_103 mc_X_known in_X_known rfl se_X_known (by omega) (ovX_c (o := 0) rfl) (c_X_known_0 hl _ hn j r hj hj0 hρ) rfl rfl (Nat.le_of_ble_eq_true rfl) (Nat.le_of_ble_eq_true rfl) (Nat.le_of_ble_eq_true rfl) (Nat.le_of_ble_eq_true rfl) (jk_r ?_)
  refine j_astore_n C d_X_value_5 rfl (by decide) rfl ?_
  refine j_iload_n C d_X_value_6 rfl rfl ?_
  refine j_callS C d_X_value_7 ml_X_96 mc_X_requireField st_X_requireField (c_X_requireField_0 hl _ f fa fb) rfl rfl (Nat.le_of_ble_eq_true rfl) (Nat.le_of_ble_eq_true rfl) (Nat.le_of_ble_eq_true rfl) (Nat.le_of_ble_eq_true rfl) (jk_v ?_)
  refine j_aload_n C d_X_value_10 rfl rfl ?_
  refine jq_get C fl_0_252 d_X_value_11 hr hrn rfl ?_
  refine j_iload_n C d_X_value_14 rfl rfl ?_
  refine j_callS C d_X_value_15 ml_X_204 mc_X_has st_X_has (c_X_has hl _ _ _) rfl rfl (Nat.le_of_ble_eq_true rfl) (Nat.le_of_ble_eq_true rfl) (Nat.le_of_ble_eq_true rfl) (Nat.le_of_ble_eq_true rfl) (jk_r ?_)
  refine j_if_ne (tgt := 31) C d_X_value_18 (by decide) (fun c18 => ?_) (fun c18 => ?_)
  · exact absurd hp c18
  · exact j_throwS (text := "the field is empty") C th_9 (by decide +kernel) rfl d_X_value_21 d_X_value_24 d_X_value_25 d_X_value_27 d_X_value_30 (Nat.le_of_ble_eq_true rfl) (Nat.le_of_ble_eq_true rfl) (Nat.le_of_ble_eq_true rfl) (Nat.le_of_ble_eq_true rfl) (Nat.le_of_ble_eq_true rfl) (Nat.le_of_ble_eq_true rfl) ⟨rfl, rfl, rfl⟩

set_option maxHeartbeats 4000000 in
set_option maxRecDepth 100000 in
theorem c_X_value_r {l : Launch} (hl : l.stackTraces = false) {D : va_G} {cA : Nat → ClassId} {b n : Nat} {xo : Nat} {ξ : Nat → Int32} {β : Nat → Nat → Int32} {ρ : Nat → Option Nat} {u v : Nat} {r : Nat} {i0 k0 t0 f0 : Int32} {ζ : Nat → Int32} {g w : Nat → Int32} (h : AH) (hr : xo + 28 ≤ r) (hrn : r + 3 ≤ n) (j : Nat) (hj : j < 30) (hj0 : nI j < ξ 0) (hρ : ρ j = some r) (f : Int32) (fa : ¬ f < 0) (fb : f < 20) (hp : ¬ xhs (ζ 0) f = 0) (hi : vp_in f 20) : Cn l D cA b y_X_value k_X_value 7 96 1 6 [.ref xo, .int (nI j), .int f] n (ovX xo ξ β ρ u v (ovR r i0 k0 t0 f0 ζ g w h)) (Re (some (.int (g f.toNatClampNeg))) n (ovX xo ξ β ρ u v (ovR r i0 k0 t0 f0 ζ g w h))) := by
  refine Cn.of (cc := b_X_value) (maxL := 4) (ret := (some .int)) (hh := []) (by decide +kernel) hl (Or.inl ⟨rfl, rfl⟩) (Nat.le_of_ble_eq_true rfl) ?_
  intro p e s m args below meth c C
  have hn : xo + 28 ≤ n := by omega
  refine j_aload_n C d_X_value_0 rfl rfl ?_
  refine j_iload_n C d_X_value_1 rfl rfl ?_
  refine j_callV C d_X_value_2 ml_X_103 mc_X_known in_X_known rfl se_X_known (by omega) (ovX_c (o := 0) rfl) (c_X_known_0 hl _ hn j r hj hj0 hρ) rfl rfl (Nat.le_of_ble_eq_true rfl) (Nat.le_of_ble_eq_true rfl) (Nat.le_of_ble_eq_true rfl) (Nat.le_of_ble_eq_true rfl) (jk_r ?_)
  refine j_astore_n C d_X_value_5 rfl (by decide) rfl ?_
  refine j_iload_n C d_X_value_6 rfl rfl ?_
  refine j_callS C d_X_value_7 ml_X_96 mc_X_requireField st_X_requireField (c_X_requireField_0 hl _ f fa fb) rfl rfl (Nat.le_of_ble_eq_true rfl) (Nat.le_of_ble_eq_true rfl) (Nat.le_of_ble_eq_true rfl) (Nat.le_of_ble_eq_true rfl) (jk_v ?_)
  refine j_aload_n C d_X_value_10 rfl rfl ?_
  refine jq_get C fl_0_252 d_X_value_11 hr hrn rfl ?_
  refine j_iload_n C d_X_value_14 rfl rfl ?_
  refine j_callS C d_X_value_15 ml_X_204 mc_X_has st_X_has (c_X_has hl _ _ _) rfl rfl (Nat.le_of_ble_eq_true rfl) (Nat.le_of_ble_eq_true rfl) (Nat.le_of_ble_eq_true rfl) (Nat.le_of_ble_eq_true rfl) (jk_r ?_)
  refine j_if_ne (tgt := 31) C d_X_value_18 (by decide) (fun c18 => ?_) (fun c18 => ?_)
  · refine j_aload_n C d_X_value_31 rfl rfl ?_
    refine jq_get C fl_0_257 d_X_value_32 hr hrn rfl ?_
    refine j_iload_n C d_X_value_35 rfl rfl ?_
    refine jq_ld1 C d_X_value_36 hr hrn hi rfl ?_
    exact j_ireturn C d_X_value_37 rfl (by decide) (by decide) ⟨rfl, rfl, rfl⟩
  · exact absurd c18 hp
