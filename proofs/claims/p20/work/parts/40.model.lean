/-! ===== the reference's object at mo, its arrays behind it: numbers σ by field, contents α by field: printed by program ===== -/
def mfs (mo : Nat) (σ : Nat → Int32) : List Value := [.int (σ 0), .int (σ 1), .int (σ 2), .ref (mo + 1), .ref (mo + 2), .ref (mo + 3), .ref (mo + 4), .ref (mo + 5), .ref (mo + 6), .ref (mo + 7), .ref (mo + 8), .ref (mo + 9), .ref (mo + 10), .ref (mo + 11), .ref (mo + 12), .ref (mo + 13), .int (σ 16), .ref (mo + 14), .int (σ 18), .int (σ 19), .int (σ 20), .int (σ 21), .ref (mo + 15), .ref (mo + 16), .ref (mo + 17), .ref (mo + 18), .ref (mo + 19), .int (σ 27), .ref (mo + 20), .ref (mo + 21), .ref (mo + 22), .ref (mo + 23), .ref (mo + 24), .int (σ 33), .int (σ 34), .ref (mo + 25), .ref (mo + 26), .int (σ 37), .ref (mo + 27)]
def mar (α : Nat → Nat → Int32) : List AC := [.inl (0, 30, .inl (α 3)), .inl (0, 30, .inl (α 4)), .inl (0, 30, .inl (α 5)), .inl (0, 30, .inl (α 6)), .inl (0, 30, .inl (α 7)), .inl (0, 30, .inl (α 8)), .inl (0, 90, .inl (α 9)), .inl (2, 600, .inl (α 10)), .inl (2, 600, .inl (α 11)), .inl (2, 600, .inl (α 12)), .inl (0, 600, .inl (α 13)), .inl (2, 100, .inl (α 14)), .inl (2, 400, .inl (α 15)), .inl (0, 300, .inl (α 17)), .inl (0, 20, .inl (α 22)), .inl (0, 160, .inl (α 23)), .inl (0, 160, .inl (α 24)), .inl (0, 160, .inl (α 25)), .inl (2, 160, .inl (α 26)), .inl (0, 20, .inl (α 28)), .inl (0, 160, .inl (α 29)), .inl (0, 160, .inl (α 30)), .inl (0, 160, .inl (α 31)), .inl (2, 160, .inl (α 32)), .inl (0, 40, .inl (α 35)), .inl (0, 40, .inl (α 36)), .inl (0, 300, .inl (α 38))]
def upa (α : Nat → Nat → Int32) (k : Nat) (f : Nat → Int32) : Nat → Nat → Int32 := fun j => if j = k then f else α j
def ovM (mo : Nat) (σ : Nat → Int32) (α : Nat → Nat → Int32) (h : AH) : AH := fun j => if j = mo then .inr (6, mfs mo σ) else if mo < j ∧ j ≤ mo + 27 then (mar α).getD (j - mo - 1) (.inr (0, [])) else h j
theorem ovM_o (mo : Nat) (σ : Nat → Int32) (α : Nat → Nat → Int32) (h : AH) : ovM mo σ α h mo = .inr (6, mfs mo σ) := if_pos rfl
theorem ovM_a {mo : Nat} {σ : Nat → Int32} {α : Nat → Nat → Int32} {h : AH} {o : Nat} {x : AC} (ho : o < 27) (hx : (mar α)[o]? = some x) : ovM mo σ α h (mo + (o + 1)) = x := by
  unfold ovM
  rw [if_neg (by omega), if_pos (by omega), show mo + (o + 1) - mo - 1 = o by omega, List.getD_eq_getElem?_getD, hx]
  rfl
theorem ovM_n {mo : Nat} {σ : Nat → Int32} {α : Nat → Nat → Int32} {h : AH} {j : Nat} (hj : j < mo ∨ mo + 27 < j) : ovM mo σ α h j = h j := by
  unfold ovM
  rw [if_neg (by omega), if_neg (by omega)]
theorem ovM_put {mo : Nat} {σ σ' : Nat → Int32} {α : Nat → Nat → Int32} {h : AH} : hu (ovM mo σ α h) mo (.inr (6, mfs mo σ')) = ovM mo σ' α h := by
  funext j
  unfold hu ovM
  by_cases e : j = mo
  · rw [if_pos e, if_pos e]
  · rw [if_neg e, if_neg e, if_neg e]
theorem ovM_ast {mo : Nat} {σ : Nat → Int32} {α α' : Nat → Nat → Int32} {h : AH} {o : Nat} {x : AC} (ho : o < 27) (hx : (mar α).set o x = mar α') : hu (ovM mo σ α h) (mo + (o + 1)) x = ovM mo σ α' h := by
  funext j
  unfold hu ovM
  rw [← hx]
  by_cases e : j = mo + (o + 1)
  · subst e
    rw [if_pos rfl, if_neg (by omega), if_pos (by omega), show mo + (o + 1) - mo - 1 = o by omega, List.getD_eq_getElem?_getD, List.getElem?_set_self (by exact ho)]
    rfl
  · rw [if_neg e]
    by_cases e2 : j = mo
    · rw [if_pos e2, if_pos e2]
    · rw [if_neg e2, if_neg e2]
      by_cases e3 : mo < j ∧ j ≤ mo + 27
      · rw [if_pos e3, if_pos e3, List.getD_eq_getElem?_getD, List.getD_eq_getElem?_getD, List.getElem?_set_ne (by omega)]
      · rw [if_neg e3, if_neg e3]
section JRe
variable {p : Program} {l : Launch} {e : Env} {R : Room} {s : State} {m : MethodId} {args : Array Value} {below : List Frame} {meth : Method} {c : Code} {D : va_G} {cA : Nat → ClassId} {b nL : Nat} {Q : State → Prop} {n : Nat} {h : AH} {kc ks pc : Nat} {L : List (Nat × Value)} {st : List Value} {mn : String} {cc : ByteArray} {ret : Option FieldType} {hh : List (Nat × Nat × Nat × Nat)} 
theorem jk_r {x : Value} (k : J p l e R s m args below meth c D cA b nL Q n h kc ks (pc + 3) L (x :: st)) : JK p l e R s m args below meth c D cA b nL Q kc ks pc L st (Re (some x) n h) := jk_e k
theorem jk_v (k : J p l e R s m args below meth c D cA b nL Q n h kc ks (pc + 3) L st) : JK p l e R s m args below meth c D cA b nL Q kc ks pc L st (Re none n h) := jk_e k
end JRe
section JMo
variable {p : Program} {l : Launch} {e : Env} {R : Room} {s : State} {m : MethodId} {args : Array Value} {below : List Frame} {meth : Method} {c : Code} {D : va_G} {cA : Nat → ClassId} {b nL : Nat} {Q : State → Prop} {n : Nat} {h : AH} {kc ks pc : Nat} {L : List (Nat × Value)} {st : List Value} {mn : String} {cc : ByteArray} {ret : Option FieldType} {hh : List (Nat × Nat × Nat × Nat)} {mo : Nat} {σ σ' : Nat → Int32} {α α' : Nat → Nat → Int32}
theorem jm_get (C : Cx p l s m meth c D cA b nL cR6 mn cc ret hh) {index k : Nat} {v : Value} (hF : FL cR6 index 6 k) (hd : decode cc pc = .ok (.getfield index, 3)) (hmo : mo + 27 < n) (hv : (mfs mo σ)[k]? = some v) (kk : J p l e R s m args below meth c D cA b nL Q n (ovM mo σ α h) kc ks (pc + 3) L (v :: st)) : J p l e R s m args below meth c D cA b nL Q n (ovM mo σ α h) kc ks pc L (.ref mo :: st) :=
  j_get C hF hd (by omega) (ovM_o mo σ α h) hv kk
theorem jm_put (C : Cx p l s m meth c D cA b nL cR6 mn cc ret hh) {index k : Nat} {ty : FieldType} {v : Value} (hF : FP cR6 index 6 k false ty) (hd : decode cc pc = .ok (.putfield index, 3)) (hmo : mo + 27 < n) (hl : k < 39) (hn : narrow ty v = v) (hf : fits ty v = true) (hv : (mfs mo σ).set k v = mfs mo σ') (kk : J p l e R s m args below meth c D cA b nL Q n (ovM mo σ' α h) kc ks (pc + 3) L st) : J p l e R s m args below meth c D cA b nL Q n (ovM mo σ α h) kc ks pc L (v :: .ref mo :: st) :=
  j_put C hF hd (by omega) (ovM_o mo σ α h) hl hn hf hv (by rw [ovM_put]; exact kk)
theorem jm_iald (C : Cx p l s m meth c D cA b nL cR6 mn cc ret hh) (o : Nat) {N : Nat} {f : Nat → Int32} {i v : Int32} (hd : decode cc pc = .ok (.iaload, 1)) (ho : o < 27) (hx : (mar α)[o]? = some (.inl (0, N, .inl f))) (hmo : mo + 27 < n) (hi : vp_in i N) (hv : f i.toNatClampNeg = v) (kk : J p l e R s m args below meth c D cA b nL Q n (ovM mo σ α h) kc ks (pc + 1) L (.int v :: st)) : J p l e R s m args below meth c D cA b nL Q n (ovM mo σ α h) kc ks pc L (.int i :: .ref (mo + (o + 1)) :: st) :=
  j_iald C hd rfl (by omega) (ovM_a ho hx) hi hv kk
theorem jm_zald (C : Cx p l s m meth c D cA b nL cR6 mn cc ret hh) (o : Nat) {N : Nat} {f : Nat → Int32} {i v : Int32} (hd : decode cc pc = .ok (.baload, 1)) (ho : o < 27) (hx : (mar α)[o]? = some (.inl (2, N, .inl f))) (hmo : mo + 27 < n) (hi : vp_in i N) (hv : f i.toNatClampNeg = v) (kk : J p l e R s m args below meth c D cA b nL Q n (ovM mo σ α h) kc ks (pc + 1) L (.int v :: st)) : J p l e R s m args below meth c D cA b nL Q n (ovM mo σ α h) kc ks pc L (.int i :: .ref (mo + (o + 1)) :: st) :=
  j_zald C hd rfl (by omega) (ovM_a ho hx) hi hv kk
theorem jm_iast (C : Cx p l s m meth c D cA b nL cR6 mn cc ret hh) (o : Nat) {N : Nat} {f f' : Nat → Int32} {i x : Int32} (hd : decode cc pc = .ok (.iastore, 1)) (ho : o < 27) (hx : (mar α)[o]? = some (.inl (0, N, .inl f))) (hmo : mo + 27 < n) (hi : vp_in i N) (hf : upd f i.toNatClampNeg x = f') (hα : (mar α).set o (.inl (0, N, .inl f')) = mar α') (kk : J p l e R s m args below meth c D cA b nL Q n (ovM mo σ α' h) kc ks (pc + 1) L st) : J p l e R s m args below meth c D cA b nL Q n (ovM mo σ α h) kc ks pc L (.int x :: .int i :: .ref (mo + (o + 1)) :: st) :=
  j_iast C hd rfl (by omega) (ovM_a ho hx) hi hf (by rw [ovM_ast ho hα]; exact kk)
theorem jm_zast (C : Cx p l s m meth c D cA b nL cR6 mn cc ret hh) (o : Nat) {N : Nat} {f f' : Nat → Int32} {i x : Int32} (hd : decode cc pc = .ok (.bastore, 1)) (ho : o < 27) (hx : (mar α)[o]? = some (.inl (2, N, .inl f))) (hmo : mo + 27 < n) (hi : vp_in i N) (hf : upd f i.toNatClampNeg (vp_nar .boolean x) = f') (hα : (mar α).set o (.inl (2, N, .inl f')) = mar α') (kk : J p l e R s m args below meth c D cA b nL Q n (ovM mo σ α' h) kc ks (pc + 1) L st) : J p l e R s m args below meth c D cA b nL Q n (ovM mo σ α h) kc ks pc L (.int x :: .int i :: .ref (mo + (o + 1)) :: st) :=
  j_zast C hd rfl (by omega) (ovM_a ho hx) hi hf (by rw [ovM_ast ho hα]; exact kk)
theorem jm_puti (k : Nat) (C : Cx p l s m meth c D cA b nL cR6 mn cc ret hh) {index : Nat} {ty : FieldType} {x : Int32} (hF : FP cR6 index 6 k false ty) (hd : decode cc pc = .ok (.putfield index, 3)) (hmo : mo + 27 < n) (hl : k < 39) (hn : narrow ty (.int x) = .int x) (hf : fits ty (.int x) = true) (hv : (mfs mo σ).set k (.int x) = mfs mo (upd σ k x)) (kk : J p l e R s m args below meth c D cA b nL Q n (ovM mo (upd σ k x) α h) kc ks (pc + 3) L st) : J p l e R s m args below meth c D cA b nL Q n (ovM mo σ α h) kc ks pc L (.int x :: .ref mo :: st) :=
  jm_put C hF hd hmo hl hn hf hv kk
theorem jm_iasti (C : Cx p l s m meth c D cA b nL cR6 mn cc ret hh) (o k : Nat) {N : Nat} {i x : Int32} (hd : decode cc pc = .ok (.iastore, 1)) (ho : o < 27) (hx : (mar α)[o]? = some (.inl (0, N, .inl (α k)))) (hmo : mo + 27 < n) (hi : vp_in i N) (hα : (mar α).set o (.inl (0, N, .inl (upd (α k) i.toNatClampNeg x))) = mar (upa α k (upd (α k) i.toNatClampNeg x))) (kk : J p l e R s m args below meth c D cA b nL Q n (ovM mo σ (upa α k (upd (α k) i.toNatClampNeg x)) h) kc ks (pc + 1) L st) : J p l e R s m args below meth c D cA b nL Q n (ovM mo σ α h) kc ks pc L (.int x :: .int i :: .ref (mo + (o + 1)) :: st) :=
  jm_iast C o hd ho hx hmo hi rfl hα kk
theorem jm_zasti (C : Cx p l s m meth c D cA b nL cR6 mn cc ret hh) (o k : Nat) {N : Nat} {i x : Int32} (hd : decode cc pc = .ok (.bastore, 1)) (ho : o < 27) (hx : (mar α)[o]? = some (.inl (2, N, .inl (α k)))) (hmo : mo + 27 < n) (hi : vp_in i N) (hα : (mar α).set o (.inl (2, N, .inl (upd (α k) i.toNatClampNeg (vp_nar .boolean x)))) = mar (upa α k (upd (α k) i.toNatClampNeg (vp_nar .boolean x)))) (kk : J p l e R s m args below meth c D cA b nL Q n (ovM mo σ (upa α k (upd (α k) i.toNatClampNeg (vp_nar .boolean x))) h) kc ks (pc + 1) L st) : J p l e R s m args below meth c D cA b nL Q n (ovM mo σ α h) kc ks pc L (.int x :: .int i :: .ref (mo + (o + 1)) :: st) :=
  jm_zast C o hd ho hx hmo hi rfl hα kk
end JMo
theorem lc_X_107 : Cond.constant cR0 107 (-99999) ∈ g_ws := g_in (List.mem_of_getElem? (i := 417) (by decide +kernel)) (by decide +kernel)
theorem lc_X_108 : Cond.constant cR0 108 (99999) ∈ g_ws := g_in (List.mem_of_getElem? (i := 418) (by decide +kernel)) (by decide +kernel)
theorem lc_RR_68 : Cond.constant cR1 68 (99999) ∈ g_ws := g_in (List.mem_of_getElem? (i := 520) (by decide +kernel)) (by decide +kernel)
theorem lc_RR_63 : Cond.constant cR1 63 (-1000000000) ∈ g_ws := g_in (List.mem_of_getElem? (i := 525) (by decide +kernel)) (by decide +kernel)
theorem lc_RB_56 : Cond.constant cR2 56 (-1000000000) ∈ g_ws := g_in (List.mem_of_getElem? (i := 570) (by decide +kernel)) (by decide +kernel)
theorem lc_M_124 : Cond.constant cR6 124 (-99999) ∈ g_ws := g_in (List.mem_of_getElem? (i := 899) (by decide +kernel)) (by decide +kernel)
theorem lc_M_125 : Cond.constant cR6 125 (99999) ∈ g_ws := g_in (List.mem_of_getElem? (i := 900) (by decide +kernel)) (by decide +kernel)
/-! ===== contracts of the reference's small methods ===== -/
def inI (x a b : Int32) : Int32 := if x < a then 0 else if b < x then 0 else 1
def gsI (x y z : Int32) : Int32 := if ¬ x = 0 then (if ¬ y = 0 then (if ¬ z = 0 then 0 else 3) else 2) else 1
def bz (x : Int32) : Int32 := if x = 0 then 1 else 0
set_option maxHeartbeats 4000000 in
set_option maxRecDepth 100000 in
theorem c_M_thrown {l : Launch} (hl : l.stackTraces = false) {D : va_G} {cA : Nat → ClassId} {b n mo : Nat} (σ : Nat → Int32) (α : Nat → Nat → Int32) (h : AH) (hmo : mo + 27 < n) : Cn l D cA b y_M_thrown k_M_thrown 0 0 0 0 [.ref mo] n (ovM mo σ α h) (Re (some (.int (σ 0))) n (ovM mo σ α h)) := by
  refine Cn.of (cc := b_M_thrown) (maxL := 1) (ret := (some .int)) (hh := []) (by decide +kernel) hl (Or.inl ⟨rfl, rfl⟩) (Nat.le_of_ble_eq_true rfl) ?_
  intro p e s m args below meth c C
  refine j_aload_n C d_M_thrown_0 rfl rfl ?_
  refine jm_get C fl_6_96 d_M_thrown_1 hmo rfl ?_
  exact j_ireturn C d_M_thrown_4 rfl (by decide) (by decide) ⟨rfl, rfl, rfl⟩

set_option maxHeartbeats 4000000 in
set_option maxRecDepth 100000 in
theorem c_M_in {l : Launch} (hl : l.stackTraces = false) {D : va_G} {cA : Nat → ClassId} {b n : Nat} (x a z : Int32) (h : AH) : Cn l D cA b y_M_in k_M_in 0 0 0 0 [.int x, .int a, .int z] n h (Re (some (.int (inI x a z))) n h) := by
  refine Cn.of (cc := b_M_in) (maxL := 3) (ret := (some .boolean)) (hh := []) (by decide +kernel) hl (Or.inl ⟨rfl, rfl⟩) (Nat.le_of_ble_eq_true rfl) ?_
  intro p e s m args below meth c C
  refine j_iload_n C d_M_in_0 rfl rfl ?_
  refine j_iload_n C d_M_in_1 rfl rfl ?_
  refine j_icmp_lt (tgt := 14) C d_M_in_2 (by decide) (fun c2 => ?_) (fun c2 => ?_)
  · refine j_iconst (v := 0) C d_M_in_14 (by decide) ?_
    exact j_zreturn C d_M_in_15 rfl (by decide) (by decide) (by decide) ⟨by simp [inI, *], rfl, rfl⟩
  · refine j_iload_n C d_M_in_5 rfl rfl ?_
    refine j_iload_n C d_M_in_6 rfl rfl ?_
    refine j_icmp_gt (tgt := 14) C d_M_in_7 (by decide) (fun c7 => ?_) (fun c7 => ?_)
    · refine j_iconst (v := 0) C d_M_in_14 (by decide) ?_
      exact j_zreturn C d_M_in_15 rfl (by decide) (by decide) (by decide) ⟨by simp [inI, *], rfl, rfl⟩
    · refine j_iconst (v := 1) C d_M_in_10 (by decide) ?_
      refine j_goto (tgt := 15) C d_M_in_11 (by decide) ?_
      exact j_zreturn C d_M_in_15 rfl (by decide) (by decide) (by decide) ⟨by simp [inI, *], rfl, rfl⟩

set_option maxHeartbeats 4000000 in
set_option maxRecDepth 100000 in
theorem c_M_isField {l : Launch} (hl : l.stackTraces = false) {D : va_G} {cA : Nat → ClassId} {b n : Nat} (x : Int32) (h : AH) : Cn l D cA b y_M_isField k_M_isField 1 14 0 0 [.int x] n h (Re (some (.int (inI x 0 19))) n h) := by
  refine Cn.of (cc := b_M_isField) (maxL := 1) (ret := (some .boolean)) (hh := []) (by decide +kernel) hl (Or.inl ⟨rfl, rfl⟩) (Nat.le_of_ble_eq_true rfl) ?_
  intro p e s m args below meth c C
  refine j_iload_n C d_M_isField_0 rfl rfl ?_
  refine j_iconst (v := 0) C d_M_isField_1 (by decide) ?_
  refine j_bipush (v := 19) C d_M_isField_2 (by decide) ?_
  refine j_callS C d_M_isField_4 ml_M_102 mc_M_in st_M_in (c_M_in hl _ _ _ _) rfl rfl (Nat.le_of_ble_eq_true rfl) (Nat.le_of_ble_eq_true rfl) (Nat.le_of_ble_eq_true rfl) (Nat.le_of_ble_eq_true rfl) (jk_r ?_)
  exact j_zreturn C d_M_isField_7 rfl (by unfold inI; split <;> (try split) <;> decide) (by decide) (by decide) ⟨rfl, rfl, rfl⟩

set_option maxHeartbeats 4000000 in
set_option maxRecDepth 100000 in
theorem c_M_isPerson {l : Launch} (hl : l.stackTraces = false) {D : va_G} {cA : Nat → ClassId} {b n : Nat} (x : Int32) (h : AH) : Cn l D cA b y_M_isPerson k_M_isPerson 1 14 0 0 [.int x] n h (Re (some (.int (inI x 0 19))) n h) := by
  refine Cn.of (cc := b_M_isPerson) (maxL := 1) (ret := (some .boolean)) (hh := []) (by decide +kernel) hl (Or.inl ⟨rfl, rfl⟩) (Nat.le_of_ble_eq_true rfl) ?_
  intro p e s m args below meth c C
  refine j_iload_n C d_M_isPerson_0 rfl rfl ?_
  refine j_iconst (v := 0) C d_M_isPerson_1 (by decide) ?_
  refine j_bipush (v := 19) C d_M_isPerson_2 (by decide) ?_
  refine j_callS C d_M_isPerson_4 ml_M_102 mc_M_in st_M_in (c_M_in hl _ _ _ _) rfl rfl (Nat.le_of_ble_eq_true rfl) (Nat.le_of_ble_eq_true rfl) (Nat.le_of_ble_eq_true rfl) (Nat.le_of_ble_eq_true rfl) (jk_r ?_)
  exact j_zreturn C d_M_isPerson_7 rfl (by unfold inI; split <;> (try split) <;> decide) (by decide) (by decide) ⟨rfl, rfl, rfl⟩

set_option maxHeartbeats 4000000 in
set_option maxRecDepth 100000 in
theorem c_M_isReport {l : Launch} (hl : l.stackTraces = false) {D : va_G} {cA : Nat → ClassId} {b n mo : Nat} (x : Int32) (σ : Nat → Int32) (α : Nat → Nat → Int32) (h : AH) (hmo : mo + 27 < n) : Cn l D cA b y_M_isReport k_M_isReport 1 14 0 0 [.ref mo, .int x] n (ovM mo σ α h) (Re (some (.int (inI x 0 (σ 2 - 1)))) n (ovM mo σ α h)) := by
  refine Cn.of (cc := b_M_isReport) (maxL := 2) (ret := (some .boolean)) (hh := []) (by decide +kernel) hl (Or.inl ⟨rfl, rfl⟩) (Nat.le_of_ble_eq_true rfl) ?_
  intro p e s m args below meth c C
  refine j_iload_n C d_M_isReport_0 rfl rfl ?_
  refine j_iconst (v := 0) C d_M_isReport_1 (by decide) ?_
  refine j_aload_n C d_M_isReport_2 rfl rfl ?_
  refine jm_get C fl_6_99 d_M_isReport_3 hmo rfl ?_
  refine j_iconst (v := 1) C d_M_isReport_6 (by decide) ?_
  refine j_isub C d_M_isReport_7 ?_
  refine j_callS C d_M_isReport_8 ml_M_102 mc_M_in st_M_in (c_M_in hl _ _ _ _) rfl rfl (Nat.le_of_ble_eq_true rfl) (Nat.le_of_ble_eq_true rfl) (Nat.le_of_ble_eq_true rfl) (Nat.le_of_ble_eq_true rfl) (jk_r ?_)
  exact j_zreturn C d_M_isReport_11 rfl (by unfold inI; split <;> (try split) <;> decide) (by decide) (by decide) ⟨rfl, rfl, rfl⟩

set_option maxHeartbeats 4000000 in
set_option maxRecDepth 100000 in
theorem c_M_goes {l : Launch} (hl : l.stackTraces = false) {D : va_G} {cA : Nat → ClassId} {b n mo : Nat} (x y z : Int32) (σ : Nat → Int32) (α : Nat → Nat → Int32) (h : AH) (hmo : mo + 27 < n) : Cn l D cA b y_M_goes k_M_goes 0 0 0 0 [.ref mo, .int x, .int y, .int z] n (ovM mo σ α h) (Re (some (.int (bz (gsI x y z)))) n (ovM mo (upd σ 0 (gsI x y z)) α h)) := by
  refine Cn.of (cc := b_M_goes) (maxL := 4) (ret := (some .boolean)) (hh := []) (by decide +kernel) hl (Or.inl ⟨rfl, rfl⟩) (Nat.le_of_ble_eq_true rfl) ?_
  intro p e s m args below meth c C
  refine j_aload_n C d_M_goes_0 rfl rfl ?_
  refine j_iload_n C d_M_goes_1 rfl rfl ?_
  refine j_if_ne (tgt := 9) C d_M_goes_2 (by decide) (fun c2 => ?_) (fun c2 => ?_)
  · refine j_iload_n C d_M_goes_9 rfl rfl ?_
    refine j_if_ne (tgt := 17) C d_M_goes_10 (by decide) (fun c10 => ?_) (fun c10 => ?_)
    · refine j_iload_n C d_M_goes_17 rfl rfl ?_
      refine j_if_ne (tgt := 25) C d_M_goes_18 (by decide) (fun c18 => ?_) (fun c18 => ?_)
      · refine j_iconst (v := 0) C d_M_goes_25 (by decide) ?_
        refine jm_puti 0 C fp_6_96 d_M_goes_26 hmo (by decide) (by first | rfl | assumption) rfl rfl ?_
        refine j_aload_n C d_M_goes_29 rfl rfl ?_
        refine jm_get C fl_6_96 d_M_goes_30 hmo rfl ?_
        refine j_if_ne (tgt := 40) C d_M_goes_33 (by decide) (fun c33 => ?_) (fun c33 => ?_)
        · refine j_iconst (v := 0) C d_M_goes_40 (by decide) ?_
          exact j_zreturn C d_M_goes_41 rfl (by decide) (by decide) (by decide) ⟨by first | (simp [upd] at c33; done) | (simp [gsI, bz, *]; done), rfl, by simp [gsI, *]⟩
        · refine j_iconst (v := 1) C d_M_goes_36 (by decide) ?_
          refine j_goto (tgt := 41) C d_M_goes_37 (by decide) ?_
          exact j_zreturn C d_M_goes_41 rfl (by decide) (by decide) (by decide) ⟨by first | (simp [upd] at c33; done) | (simp [gsI, bz, *]; done), rfl, by simp [gsI, *]⟩
      · refine j_iconst (v := 3) C d_M_goes_21 (by decide) ?_
        refine j_goto (tgt := 26) C d_M_goes_22 (by decide) ?_
        refine jm_puti 0 C fp_6_96 d_M_goes_26 hmo (by decide) (by first | rfl | assumption) rfl rfl ?_
        refine j_aload_n C d_M_goes_29 rfl rfl ?_
        refine jm_get C fl_6_96 d_M_goes_30 hmo rfl ?_
        refine j_if_ne (tgt := 40) C d_M_goes_33 (by decide) (fun c33 => ?_) (fun c33 => ?_)
        · refine j_iconst (v := 0) C d_M_goes_40 (by decide) ?_
          exact j_zreturn C d_M_goes_41 rfl (by decide) (by decide) (by decide) ⟨by first | (simp [upd] at c33; done) | (simp [gsI, bz, *]; done), rfl, by simp [gsI, *]⟩
        · refine j_iconst (v := 1) C d_M_goes_36 (by decide) ?_
          refine j_goto (tgt := 41) C d_M_goes_37 (by decide) ?_
          exact j_zreturn C d_M_goes_41 rfl (by decide) (by decide) (by decide) ⟨by first | (simp [upd] at c33; done) | (simp [gsI, bz, *]; done), rfl, by simp [gsI, *]⟩
    · refine j_iconst (v := 2) C d_M_goes_13 (by decide) ?_
      refine j_goto (tgt := 26) C d_M_goes_14 (by decide) ?_
      refine jm_puti 0 C fp_6_96 d_M_goes_26 hmo (by decide) (by first | rfl | assumption) rfl rfl ?_
      refine j_aload_n C d_M_goes_29 rfl rfl ?_
      refine jm_get C fl_6_96 d_M_goes_30 hmo rfl ?_
      refine j_if_ne (tgt := 40) C d_M_goes_33 (by decide) (fun c33 => ?_) (fun c33 => ?_)
      · refine j_iconst (v := 0) C d_M_goes_40 (by decide) ?_
        exact j_zreturn C d_M_goes_41 rfl (by decide) (by decide) (by decide) ⟨by first | (simp [upd] at c33; done) | (simp [gsI, bz, *]; done), rfl, by simp [gsI, *]⟩
      · refine j_iconst (v := 1) C d_M_goes_36 (by decide) ?_
        refine j_goto (tgt := 41) C d_M_goes_37 (by decide) ?_
        exact j_zreturn C d_M_goes_41 rfl (by decide) (by decide) (by decide) ⟨by first | (simp [upd] at c33; done) | (simp [gsI, bz, *]; done), rfl, by simp [gsI, *]⟩
  · refine j_iconst (v := 1) C d_M_goes_5 (by decide) ?_
    refine j_goto (tgt := 26) C d_M_goes_6 (by decide) ?_
    refine jm_puti 0 C fp_6_96 d_M_goes_26 hmo (by decide) (by first | rfl | assumption) rfl rfl ?_
    refine j_aload_n C d_M_goes_29 rfl rfl ?_
    refine jm_get C fl_6_96 d_M_goes_30 hmo rfl ?_
    refine j_if_ne (tgt := 40) C d_M_goes_33 (by decide) (fun c33 => ?_) (fun c33 => ?_)
    · refine j_iconst (v := 0) C d_M_goes_40 (by decide) ?_
      exact j_zreturn C d_M_goes_41 rfl (by decide) (by decide) (by decide) ⟨by first | (simp [upd] at c33; done) | (simp [gsI, bz, *]; done), rfl, by simp [gsI, *]⟩
    · refine j_iconst (v := 1) C d_M_goes_36 (by decide) ?_
      refine j_goto (tgt := 41) C d_M_goes_37 (by decide) ?_
      exact j_zreturn C d_M_goes_41 rfl (by decide) (by decide) (by decide) ⟨by first | (simp [upd] at c33; done) | (simp [gsI, bz, *]; done), rfl, by simp [gsI, *]⟩

set_option maxHeartbeats 4000000 in
set_option maxRecDepth 100000 in
theorem c_M_place {l : Launch} (hl : l.stackTraces = false) {D : va_G} {cA : Nat → ClassId} {b n mo : Nat} (σ : Nat → Int32) (α : Nat → Nat → Int32) (h : AH) (hmo : mo + 27 < n) : Cn l D cA b y_M_place k_M_place 0 0 0 0 [.ref mo] n (ovM mo σ α h) (Re (some (.int (σ 18))) n (ovM mo (upd σ 0 0) α h)) := by
  refine Cn.of (cc := b_M_place) (maxL := 1) (ret := (some .int)) (hh := []) (by decide +kernel) hl (Or.inl ⟨rfl, rfl⟩) (Nat.le_of_ble_eq_true rfl) ?_
  intro p e s m args below meth c C
  refine j_aload_n C d_M_place_0 rfl rfl ?_
  refine j_iconst (v := 0) C d_M_place_1 (by decide) ?_
  refine jm_puti 0 C fp_6_96 d_M_place_2 hmo (by decide) (by first | rfl | assumption) rfl rfl ?_
  refine j_aload_n C d_M_place_5 rfl rfl ?_
  refine jm_get C fl_6_53 d_M_place_6 hmo rfl ?_
  exact j_ireturn C d_M_place_9 rfl (by decide) (by decide) ⟨rfl, rfl, rfl⟩

set_option maxHeartbeats 4000000 in
set_option maxRecDepth 100000 in
theorem c_M_fail {l : Launch} (hl : l.stackTraces = false) {D : va_G} {cA : Nat → ClassId} {b n mo : Nat} (x : Int32) (σ : Nat → Int32) (α : Nat → Nat → Int32) (h : AH) (hmo : mo + 27 < n) : Cn l D cA b y_M_fail k_M_fail 0 0 0 0 [.ref mo, .int x] n (ovM mo σ α h) (Re none n (ovM mo (if 0 ≤ σ 20 then σ else upd σ 20 x) α h)) := by
  refine Cn.of (cc := b_M_fail) (maxL := 2) (ret := none) (hh := []) (by decide +kernel) hl (Or.inl ⟨rfl, rfl⟩) (Nat.le_of_ble_eq_true rfl) ?_
  intro p e s m args below meth c C
  refine j_aload_n C d_M_fail_0 rfl rfl ?_
  refine jm_get C fl_6_136 d_M_fail_1 hmo rfl ?_
  refine j_if_ge (tgt := 12) C d_M_fail_4 (by decide) (fun c4 => ?_) (fun c4 => ?_)
  · exact j_vreturn C d_M_fail_12 rfl (by decide) (by decide) ⟨rfl, rfl, by simp [*]⟩
  · refine j_aload_n C d_M_fail_7 rfl rfl ?_
    refine j_iload_n C d_M_fail_8 rfl rfl ?_
    refine jm_puti 20 C fp_6_136 d_M_fail_9 hmo (by decide) (by first | rfl | assumption) rfl rfl ?_
    exact j_vreturn C d_M_fail_12 rfl (by decide) (by decide) ⟨rfl, rfl, by simp [*]⟩

set_option maxHeartbeats 4000000 in
set_option maxRecDepth 100000 in
theorem c_M_here {l : Launch} (hl : l.stackTraces = false) {D : va_G} {cA : Nat → ClassId} {b n mo : Nat} (σ : Nat → Int32) (α : Nat → Nat → Int32) (h : AH) (hmo : mo + 27 < n) (hat : ¬ σ 16 ≤ σ 19 → vp_in (σ 19) 300) : Cn l D cA b y_M_here k_M_here 0 0 0 0 [.ref mo] n (ovM mo σ α h) (Re (some (.int (if σ 16 ≤ σ 19 then -1 else α 17 (σ 19).toNatClampNeg))) n (ovM mo σ α h)) := by
  refine Cn.of (cc := b_M_here) (maxL := 1) (ret := (some .int)) (hh := []) (by decide +kernel) hl (Or.inl ⟨rfl, rfl⟩) (Nat.le_of_ble_eq_true rfl) ?_
  intro p e s m args below meth c C
  refine j_aload_n C d_M_here_0 rfl rfl ?_
  refine jm_get C fl_6_129 d_M_here_1 hmo rfl ?_
  refine j_aload_n C d_M_here_4 rfl rfl ?_
  refine jm_get C fl_6_126 d_M_here_5 hmo rfl ?_
  refine j_icmp_ge (tgt := 23) C d_M_here_8 (by decide) (fun c8 => ?_) (fun c8 => ?_)
  · refine j_iconst (v := (-1)) C d_M_here_23 (by decide) ?_
    exact j_ireturn C d_M_here_24 rfl (by decide) (by decide) ⟨by simp [*], rfl, rfl⟩
  · refine j_aload_n C d_M_here_11 rfl rfl ?_
    refine jm_get C fl_6_50 d_M_here_12 hmo rfl ?_
    refine j_aload_n C d_M_here_15 rfl rfl ?_
    refine jm_get C fl_6_129 d_M_here_16 hmo rfl ?_
    refine jm_iald C 13 d_M_here_19 (by decide) rfl hmo (hat c8) rfl ?_
    refine j_goto (tgt := 24) C d_M_here_20 (by decide) ?_
    exact j_ireturn C d_M_here_24 rfl (by decide) (by decide) ⟨by simp [*], rfl, rfl⟩
/-! ===== contracts of the reference's public methods without loops ===== -/
theorem upd_s (f : Nat → Int32) (k : Nat) (x : Int32) : upd f k x k = x := pk_us
theorem upd_uu (f : Nat → Int32) (k : Nat) (x y : Int32) : upd (upd f k x) k y = upd f k y := by
  funext j
  by_cases hj : j = k
  · subst hj; rw [pk_us, pk_us]
  · rw [pk_un hj, pk_un hj, pk_un hj]
def mtick (σ : Nat → Int32) (x : Int32) : Int32 × (Nat → Int32) := if inI x 1 5000 = 0 then (0, upd σ 0 1) else if 99999 - σ 1 < x then (0, upd σ 0 1) else (σ 1 + x, upd (upd σ 0 0) 1 (σ 1 + x))
set_option maxHeartbeats 4000000 in
set_option maxRecDepth 100000 in
theorem c_M_tick {l : Launch} (hl : l.stackTraces = false) {D : va_G} {cA : Nat → ClassId} {b n mo : Nat} (x : Int32) (σ : Nat → Int32) (α : Nat → Nat → Int32) (h : AH) (hmo : mo + 27 < n) : Cn l D cA b y_M_tick k_M_tick 1 15 0 0 [.ref mo, .int x] n (ovM mo σ α h) (Re (some (.int (mtick σ x).1)) n (ovM mo (mtick σ x).2 α h)) := by
  refine Cn.of (cc := b_M_tick) (maxL := 2) (ret := (some .int)) (hh := []) (by decide +kernel) hl (Or.inl ⟨rfl, rfl⟩) (Nat.le_of_ble_eq_true rfl) ?_
  intro p e s m args below meth c C
  refine j_aload_n C d_M_tick_0 rfl rfl ?_
  refine j_iload_n C d_M_tick_1 rfl rfl ?_
  refine j_iconst (v := 1) C d_M_tick_2 (by decide) ?_
  refine j_sipush (v := 5000) C d_M_tick_3 (by decide) ?_
  refine j_callS C d_M_tick_6 ml_M_102 mc_M_in st_M_in (c_M_in hl _ _ _ _) rfl rfl (Nat.le_of_ble_eq_true rfl) (Nat.le_of_ble_eq_true rfl) (Nat.le_of_ble_eq_true rfl) (Nat.le_of_ble_eq_true rfl) (jk_r ?_)
  refine j_if_eq (tgt := 27) C d_M_tick_9 (by decide) (fun c9 => ?_) (fun c9 => ?_)
  · refine j_iconst (v := 0) C d_M_tick_27 (by decide) ?_
    refine j_iconst (v := 1) C d_M_tick_28 (by decide) ?_
    refine j_iconst (v := 1) C d_M_tick_29 (by decide) ?_
    refine j_callV C d_M_tick_30 ml_M_109 mc_M_goes in_M_goes rfl se_M_goes (by omega) (ovM_o _ _ _ _) (c_M_goes hl _ _ _ _ _ _ hmo) rfl rfl (Nat.le_of_ble_eq_true rfl) (Nat.le_of_ble_eq_true rfl) (Nat.le_of_ble_eq_true rfl) (Nat.le_of_ble_eq_true rfl) (jk_r ?_)
    refine j_if_ne (tgt := 38) C d_M_tick_33 (by decide) (fun c33 => ?_) (fun c33 => ?_)
    · refine j_aload_n C d_M_tick_38 rfl rfl ?_
      refine j_aload_n C d_M_tick_39 rfl rfl ?_
      refine jm_get C fl_6_106 d_M_tick_40 hmo rfl ?_
      refine j_iload_n C d_M_tick_43 rfl rfl ?_
      refine j_iadd C d_M_tick_44 ?_
      refine jm_puti 1 C fp_6_106 d_M_tick_45 hmo (by decide) (by first | rfl | assumption) rfl rfl ?_
      refine j_aload_n C d_M_tick_48 rfl rfl ?_
      refine jm_get C fl_6_106 d_M_tick_49 hmo rfl ?_
      exact j_ireturn C d_M_tick_52 rfl (by decide) (by decide) ⟨by first | (simp [mtick, upd, gsI, *]; done) | (exfalso; simp_all (decide := true) [upd, gsI, bz]; done), rfl, by first | (simp [mtick, upd, gsI, *]; done) | (exfalso; simp_all (decide := true) [upd, gsI, bz]; done)⟩
    · refine j_iconst (v := 0) C d_M_tick_36 (by decide) ?_
      exact j_ireturn C d_M_tick_37 rfl (by decide) (by decide) ⟨by first | (simp [mtick, upd, gsI, *]; done) | (exfalso; simp_all (decide := true) [upd, gsI, bz]; done), rfl, by first | (simp [mtick, upd, gsI, *]; done) | (exfalso; simp_all (decide := true) [upd, gsI, bz]; done)⟩
  · refine j_iload_n C d_M_tick_12 rfl rfl ?_
    refine j_ldc (v := 99999) C d_M_tick_13 lc_M_125 ?_
    refine j_aload_n C d_M_tick_15 rfl rfl ?_
    refine jm_get C fl_6_106 d_M_tick_16 hmo rfl ?_
    refine j_isub C d_M_tick_19 ?_
    refine j_icmp_gt (tgt := 27) C d_M_tick_20 (by decide) (fun c20 => ?_) (fun c20 => ?_)
    · refine j_iconst (v := 0) C d_M_tick_27 (by decide) ?_
      refine j_iconst (v := 1) C d_M_tick_28 (by decide) ?_
      refine j_iconst (v := 1) C d_M_tick_29 (by decide) ?_
      refine j_callV C d_M_tick_30 ml_M_109 mc_M_goes in_M_goes rfl se_M_goes (by omega) (ovM_o _ _ _ _) (c_M_goes hl _ _ _ _ _ _ hmo) rfl rfl (Nat.le_of_ble_eq_true rfl) (Nat.le_of_ble_eq_true rfl) (Nat.le_of_ble_eq_true rfl) (Nat.le_of_ble_eq_true rfl) (jk_r ?_)
      refine j_if_ne (tgt := 38) C d_M_tick_33 (by decide) (fun c33 => ?_) (fun c33 => ?_)
      · refine j_aload_n C d_M_tick_38 rfl rfl ?_
        refine j_aload_n C d_M_tick_39 rfl rfl ?_
        refine jm_get C fl_6_106 d_M_tick_40 hmo rfl ?_
        refine j_iload_n C d_M_tick_43 rfl rfl ?_
        refine j_iadd C d_M_tick_44 ?_
        refine jm_puti 1 C fp_6_106 d_M_tick_45 hmo (by decide) (by first | rfl | assumption) rfl rfl ?_
        refine j_aload_n C d_M_tick_48 rfl rfl ?_
        refine jm_get C fl_6_106 d_M_tick_49 hmo rfl ?_
        exact j_ireturn C d_M_tick_52 rfl (by decide) (by decide) ⟨by first | (simp [mtick, upd, gsI, *]; done) | (exfalso; simp_all (decide := true) [upd, gsI, bz]; done), rfl, by first | (simp [mtick, upd, gsI, *]; done) | (exfalso; simp_all (decide := true) [upd, gsI, bz]; done)⟩
      · refine j_iconst (v := 0) C d_M_tick_36 (by decide) ?_
        exact j_ireturn C d_M_tick_37 rfl (by decide) (by decide) ⟨by first | (simp [mtick, upd, gsI, *]; done) | (exfalso; simp_all (decide := true) [upd, gsI, bz]; done), rfl, by first | (simp [mtick, upd, gsI, *]; done) | (exfalso; simp_all (decide := true) [upd, gsI, bz]; done)⟩
    · refine j_iconst (v := 1) C d_M_tick_23 (by decide) ?_
      refine j_goto (tgt := 28) C d_M_tick_24 (by decide) ?_
      refine j_iconst (v := 1) C d_M_tick_28 (by decide) ?_
      refine j_iconst (v := 1) C d_M_tick_29 (by decide) ?_
      refine j_callV C d_M_tick_30 ml_M_109 mc_M_goes in_M_goes rfl se_M_goes (by omega) (ovM_o _ _ _ _) (c_M_goes hl _ _ _ _ _ _ hmo) rfl rfl (Nat.le_of_ble_eq_true rfl) (Nat.le_of_ble_eq_true rfl) (Nat.le_of_ble_eq_true rfl) (Nat.le_of_ble_eq_true rfl) (jk_r ?_)
      refine j_if_ne (tgt := 38) C d_M_tick_33 (by decide) (fun c33 => ?_) (fun c33 => ?_)
      · refine j_aload_n C d_M_tick_38 rfl rfl ?_
        refine j_aload_n C d_M_tick_39 rfl rfl ?_
        refine jm_get C fl_6_106 d_M_tick_40 hmo rfl ?_
        refine j_iload_n C d_M_tick_43 rfl rfl ?_
        refine j_iadd C d_M_tick_44 ?_
        refine jm_puti 1 C fp_6_106 d_M_tick_45 hmo (by decide) (by first | rfl | assumption) rfl rfl ?_
        refine j_aload_n C d_M_tick_48 rfl rfl ?_
        refine jm_get C fl_6_106 d_M_tick_49 hmo rfl ?_
        exact j_ireturn C d_M_tick_52 rfl (by decide) (by decide) ⟨by first | (simp [mtick, upd, gsI, *]; done) | (exfalso; simp_all (decide := true) [upd, gsI, bz]; done), rfl, by first | (simp [mtick, upd, gsI, *]; done) | (exfalso; simp_all (decide := true) [upd, gsI, bz]; done)⟩
      · refine j_iconst (v := 0) C d_M_tick_36 (by decide) ?_
        exact j_ireturn C d_M_tick_37 rfl (by decide) (by decide) ⟨by first | (simp [mtick, upd, gsI, *]; done) | (exfalso; simp_all (decide := true) [upd, gsI, bz]; done), rfl, by first | (simp [mtick, upd, gsI, *]; done) | (exfalso; simp_all (decide := true) [upd, gsI, bz]; done)⟩

theorem in_of {x : Int32} {k : Nat} (hk : k < 2 ^ 31) (h : ¬ inI x 0 (nI k) = 0) : ∃ j : Nat, j ≤ k ∧ x = nI j := by
  unfold inI at h
  by_cases h1 : x < 0
  · rw [if_pos h1] at h; exact absurd rfl h
  · rw [if_neg h1] at h
    by_cases h2 : nI k < x
    · rw [if_pos h2] at h; exact absurd rfl h
    · exact nI_of2 (nI_toInt hk) h1 (Int32.not_lt.mp h2)
theorem rep_of {x t : Int32} {nr : Nat} (hnr : t = nI nr) (hle : nr ≤ 30) (h : ¬ inI x 0 (t - 1) = 0) : ∃ j : Nat, j < nr ∧ x = nI j := by
  subst hnr
  cases nr with
  | zero =>
    exfalso
    apply h
    unfold inI
    by_cases h1 : x < 0
    · rw [if_pos h1]
    · rw [if_neg h1, if_pos]
      exact Int32.lt_of_lt_of_le (by decide : nI 0 - 1 < (0 : Int32)) (Int32.not_lt.mp h1)
  | succ k =>
    rw [nI_pred] at h
    obtain ⟨j, hj, e⟩ := in_of (by omega) h
    exact ⟨j, by omega, e⟩
theorem vp_mono {i : Int32} {m N : Nat} (h : vp_in i m) (hm : m ≤ N) : vp_in i N := fun q => h (q.elim Or.inl (fun q => Or.inr (Nat.le_trans hm q)))
theorem e20 (a c : Nat) : (20 : Int32) * nI a + nI c = nI (20 * a + c) := by
  rw [show (20 : Int32) = nI 20 from rfl, pk_mul, nI_add]
theorem ix20 {x f : Int32} {ka N : Nat} (hk : ka ≤ 1000) (hN : 20 * ka + 20 ≤ N) (hN2 : N < 2 ^ 31) (hx : ¬ inI x 0 (nI ka) = 0) (hf : ¬ inI f 0 19 = 0) : vp_in (20 * x + f) N := by
  obtain ⟨a, ha, rfl⟩ := in_of (by omega) hx
  obtain ⟨c, hc, rfl⟩ := in_of (k := 19) (by omega) hf
  rw [e20]
  exact vp_in_nI (by omega) hN2
theorem ix_rf {t r f : Int32} {nr : Nat} (hnr : t = nI nr) (hle : nr ≤ 30) (hr : ¬ inI r 0 (t - 1) = 0) (hf : ¬ inI f 0 19 = 0) : vp_in (20 * r + f) 600 := by
  obtain ⟨a, ha, rfl⟩ := rep_of hnr hle hr
  obtain ⟨c, hc, rfl⟩ := in_of (k := 19) (by omega) hf
  rw [e20]
  exact vp_in_nI (by omega) (by omega)
theorem ix_rk {t r f : Int32} {nr : Nat} (hnr : t = nI nr) (hle : nr ≤ 30) (hr : ¬ inI r 0 (t - 1) = 0) (hf : ¬ inI f 0 9 = 0) : vp_in (20 * r + f) 600 := by
  obtain ⟨a, ha, rfl⟩ := rep_of hnr hle hr
  obtain ⟨c, hc, rfl⟩ := in_of (k := 9) (by omega) hf
  rw [e20]
  exact vp_in_nI (by omega) (by omega)
theorem ix_r {t r : Int32} {nr N : Nat} (hnr : t = nI nr) (hle : nr ≤ 30) (hN : 30 ≤ N) (hN2 : N < 2 ^ 31) (hr : ¬ inI r 0 (t - 1) = 0) : vp_in r N := by
  obtain ⟨a, ha, rfl⟩ := rep_of hnr hle hr
  exact vp_in_nI (by omega) hN2
theorem gs_ok {x y z : Int32} (h : ¬ bz (gsI x y z) = 0) : ¬ x = 0 ∧ ¬ y = 0 ∧ ¬ z = 0 := by
  unfold gsI bz at h
  refine ⟨fun q => ?_, fun q => ?_, fun q => ?_⟩ <;> simp [q] at h
  · split at h <;> simp at h
  · split at h <;> (try split at h) <;> simp at h
def kn2 (a c : Int32) : Int32 := if a = 0 then 0 else if c = 0 then 0 else 1
def mmakes (σ : Nat → Int32) (α : Nat → Nat → Int32) (i k w : Int32) : (Nat → Int32) × (Nat → Nat → Int32) :=
  let r := (σ 2).toNatClampNeg
  (upd σ 2 (σ 2 + 1), upa (upa (upa (upa α 3 (upd (α 3) r i)) 4 (upd (α 4) r k)) 5 (upd (α 5) r (σ 1))) 7 (upd (α 7) r w))
set_option maxHeartbeats 4000000 in
set_option maxRecDepth 100000 in
theorem c_M_makes {l : Launch} (hl : l.stackTraces = false) {D : va_G} {cA : Nat → ClassId} {b n mo : Nat} (i k w : Int32) (σ : Nat → Int32) (α : Nat → Nat → Int32) (h : AH) (hmo : mo + 27 < n) (hrm : vp_in (σ 2) 30) : Cn l D cA b y_M_makes k_M_makes 0 0 0 0 [.ref mo, .int i, .int k, .int w] n (ovM mo σ α h) (Re (some (.int (σ 2 + 1 - 1))) n (ovM mo (mmakes σ α i k w).1 (mmakes σ α i k w).2 h)) := by
  refine Cn.of (cc := b_M_makes) (maxL := 4) (ret := (some .int)) (hh := []) (by decide +kernel) hl (Or.inl ⟨rfl, rfl⟩) (Nat.le_of_ble_eq_true rfl) ?_
  intro p e s m args below meth c C
  refine j_aload_n C d_M_makes_0 rfl rfl ?_
  refine jm_get C fl_6_7 d_M_makes_1 hmo rfl ?_
  refine j_aload_n C d_M_makes_4 rfl rfl ?_
  refine jm_get C fl_6_99 d_M_makes_5 hmo rfl ?_
  refine j_iload_n C d_M_makes_8 rfl rfl ?_
  refine jm_iasti C 0 3 d_M_makes_9 (by decide) rfl hmo (by assumption) rfl ?_
  refine j_aload_n C d_M_makes_10 rfl rfl ?_
  refine jm_get C fl_6_13 d_M_makes_11 hmo rfl ?_
  refine j_aload_n C d_M_makes_14 rfl rfl ?_
  refine jm_get C fl_6_99 d_M_makes_15 hmo rfl ?_
  refine j_iload_n C d_M_makes_18 rfl rfl ?_
  refine jm_iasti C 1 4 d_M_makes_19 (by decide) rfl hmo (by assumption) rfl ?_
  refine j_aload_n C d_M_makes_20 rfl rfl ?_
  refine jm_get C fl_6_16 d_M_makes_21 hmo rfl ?_
  refine j_aload_n C d_M_makes_24 rfl rfl ?_
  refine jm_get C fl_6_99 d_M_makes_25 hmo rfl ?_
  refine j_aload_n C d_M_makes_28 rfl rfl ?_
  refine jm_get C fl_6_106 d_M_makes_29 hmo rfl ?_
  refine jm_iasti C 2 5 d_M_makes_32 (by decide) rfl hmo (by assumption) rfl ?_
  refine j_aload_n C d_M_makes_33 rfl rfl ?_
  refine jm_get C fl_6_22 d_M_makes_34 hmo rfl ?_
  refine j_aload_n C d_M_makes_37 rfl rfl ?_
  refine jm_get C fl_6_99 d_M_makes_38 hmo rfl ?_
  refine j_iload_n C d_M_makes_41 rfl rfl ?_
  refine jm_iasti C 4 7 d_M_makes_42 (by decide) rfl hmo (by assumption) rfl ?_
  refine j_aload_n C d_M_makes_43 rfl rfl ?_
  refine j_dup C d_M_makes_44 rfl ?_
  refine jm_get C fl_6_99 d_M_makes_45 hmo rfl ?_
  refine j_iconst (v := 1) C d_M_makes_48 (by decide) ?_
  refine j_iadd C d_M_makes_49 ?_
  refine jm_puti 2 C fp_6_99 d_M_makes_50 hmo (by decide) (by first | rfl | assumption) rfl rfl ?_
  refine j_aload_n C d_M_makes_53 rfl rfl ?_
  refine jm_get C fl_6_99 d_M_makes_54 hmo rfl ?_
  refine j_iconst (v := 1) C d_M_makes_57 (by decide) ?_
  refine j_isub C d_M_makes_58 ?_
  exact j_ireturn C d_M_makes_59 rfl (by decide) (by decide) ⟨rfl, rfl, rfl⟩

def mreport (σ : Nat → Int32) (α : Nat → Nat → Int32) (i k : Int32) : Int32 × (Nat → Int32) × (Nat → Nat → Int32) :=
  let t := gsI (inI k 0 4) (inI i 0 9999) (if 30 ≤ σ 2 then 0 else 1)
  if bz t = 0 then (0, upd σ 0 t, α) else (σ 2 + 1 - 1, mmakes (upd σ 0 t) α i k (-1))
set_option maxHeartbeats 4000000 in
set_option maxRecDepth 100000 in
theorem c_M_report {l : Launch} (hl : l.stackTraces = false) {D : va_G} {cA : Nat → ClassId} {b n mo : Nat} (i k : Int32) (σ : Nat → Int32) (α : Nat → Nat → Int32) (h : AH) (hmo : mo + 27 < n) (hrm : ¬ 30 ≤ σ 2 → vp_in (σ 2) 30) : Cn l D cA b y_M_report k_M_report 1 16 0 0 [.ref mo, .int i, .int k] n (ovM mo σ α h) (Re (some (.int (mreport σ α i k).1)) n (ovM mo (mreport σ α i k).2.1 (mreport σ α i k).2.2 h)) := by
  refine Cn.of (cc := b_M_report) (maxL := 3) (ret := (some .int)) (hh := []) (by decide +kernel) hl (Or.inl ⟨rfl, rfl⟩) (Nat.le_of_ble_eq_true rfl) ?_
  intro p e s m args below meth c C
  refine j_aload_n C d_M_report_0 rfl rfl ?_
  refine j_iload_n C d_M_report_1 rfl rfl ?_
  refine j_iconst (v := 0) C d_M_report_2 (by decide) ?_
  refine j_iconst (v := 4) C d_M_report_3 (by decide) ?_
  refine j_callS C d_M_report_4 ml_M_102 mc_M_in st_M_in (c_M_in hl _ _ _ _) rfl rfl (Nat.le_of_ble_eq_true rfl) (Nat.le_of_ble_eq_true rfl) (Nat.le_of_ble_eq_true rfl) (Nat.le_of_ble_eq_true rfl) (jk_r ?_)
  refine j_iload_n C d_M_report_7 rfl rfl ?_
  refine j_iconst (v := 0) C d_M_report_8 (by decide) ?_
  refine j_sipush (v := 9999) C d_M_report_9 (by decide) ?_
  refine j_callS C d_M_report_12 ml_M_102 mc_M_in st_M_in (c_M_in hl _ _ _ _) rfl rfl (Nat.le_of_ble_eq_true rfl) (Nat.le_of_ble_eq_true rfl) (Nat.le_of_ble_eq_true rfl) (Nat.le_of_ble_eq_true rfl) (jk_r ?_)
  refine j_aload_n C d_M_report_15 rfl rfl ?_
  refine jm_get C fl_6_99 d_M_report_16 hmo rfl ?_
  refine j_bipush (v := 30) C d_M_report_19 (by decide) ?_
  refine j_icmp_ge (tgt := 28) C d_M_report_21 (by decide) (fun c21 => ?_) (fun c21 => ?_)
  · refine j_iconst (v := 0) C d_M_report_28 (by decide) ?_
    refine j_callV C d_M_report_29 ml_M_109 mc_M_goes in_M_goes rfl se_M_goes (by omega) (ovM_o _ _ _ _) (c_M_goes hl _ _ _ _ _ _ hmo) rfl rfl (Nat.le_of_ble_eq_true rfl) (Nat.le_of_ble_eq_true rfl) (Nat.le_of_ble_eq_true rfl) (Nat.le_of_ble_eq_true rfl) (jk_r ?_)
    refine j_if_ne (tgt := 37) C d_M_report_32 (by decide) (fun c32 => ?_) (fun c32 => ?_)
    · refine j_aload_n C d_M_report_37 rfl rfl ?_
      refine j_iload_n C d_M_report_38 rfl rfl ?_
      refine j_iload_n C d_M_report_39 rfl rfl ?_
      refine j_iconst (v := (-1)) C d_M_report_40 (by decide) ?_
      refine j_callV C d_M_report_41 ml_M_113 mc_M_makes in_M_makes rfl se_M_makes (by omega) (ovM_o _ _ _ _) (c_M_makes hl _ _ _ _ _ _ hmo (by first | exact hrm c21 | exact absurd rfl (gs_ok c32).2.2)) rfl rfl (Nat.le_of_ble_eq_true rfl) (Nat.le_of_ble_eq_true rfl) (Nat.le_of_ble_eq_true rfl) (Nat.le_of_ble_eq_true rfl) (jk_r ?_)
      exact j_ireturn C d_M_report_44 rfl (by decide) (by decide) ⟨by simp [mreport, *] <;> rfl, rfl, by simp [mreport, *]⟩
    · refine j_iconst (v := 0) C d_M_report_35 (by decide) ?_
      exact j_ireturn C d_M_report_36 rfl (by decide) (by decide) ⟨by simp [mreport, *] <;> rfl, rfl, by simp [mreport, *]⟩
  · refine j_iconst (v := 1) C d_M_report_24 (by decide) ?_
    refine j_goto (tgt := 29) C d_M_report_25 (by decide) ?_
    refine j_callV C d_M_report_29 ml_M_109 mc_M_goes in_M_goes rfl se_M_goes (by omega) (ovM_o _ _ _ _) (c_M_goes hl _ _ _ _ _ _ hmo) rfl rfl (Nat.le_of_ble_eq_true rfl) (Nat.le_of_ble_eq_true rfl) (Nat.le_of_ble_eq_true rfl) (Nat.le_of_ble_eq_true rfl) (jk_r ?_)
    refine j_if_ne (tgt := 37) C d_M_report_32 (by decide) (fun c32 => ?_) (fun c32 => ?_)
    · refine j_aload_n C d_M_report_37 rfl rfl ?_
      refine j_iload_n C d_M_report_38 rfl rfl ?_
      refine j_iload_n C d_M_report_39 rfl rfl ?_
      refine j_iconst (v := (-1)) C d_M_report_40 (by decide) ?_
      refine j_callV C d_M_report_41 ml_M_113 mc_M_makes in_M_makes rfl se_M_makes (by omega) (ovM_o _ _ _ _) (c_M_makes hl _ _ _ _ _ _ hmo (by first | exact hrm c21 | exact absurd rfl (gs_ok c32).2.2)) rfl rfl (Nat.le_of_ble_eq_true rfl) (Nat.le_of_ble_eq_true rfl) (Nat.le_of_ble_eq_true rfl) (Nat.le_of_ble_eq_true rfl) (jk_r ?_)
      exact j_ireturn C d_M_report_44 rfl (by decide) (by decide) ⟨by simp [mreport, *] <;> rfl, rfl, by simp [mreport, *]⟩
    · refine j_iconst (v := 0) C d_M_report_35 (by decide) ?_
      exact j_ireturn C d_M_report_36 rfl (by decide) (by decide) ⟨by simp [mreport, *] <;> rfl, rfl, by simp [mreport, *]⟩

def mask (σ : Nat → Int32) (α : Nat → Nat → Int32) (k f on : Int32) : (Nat → Int32) × (Nat → Nat → Int32) := if kn2 (inI k 0 4) (inI f 0 19) = 0 then (upd σ 0 1, α) else (upd σ 0 0, upa α 14 (upd (α 14) (20 * k + f).toNatClampNeg (vp_nar .boolean on)))
def mhide (σ : Nat → Int32) (α : Nat → Nat → Int32) (f q on : Int32) : (Nat → Int32) × (Nat → Nat → Int32) := if kn2 (inI f 0 19) (inI q 0 19) = 0 then (upd σ 0 1, α) else (upd σ 0 0, upa α 15 (upd (α 15) (20 * f + q).toNatClampNeg (vp_nar .boolean on)))
set_option maxHeartbeats 4000000 in
set_option maxRecDepth 100000 in
theorem c_M_ask {l : Launch} (hl : l.stackTraces = false) {D : va_G} {cA : Nat → ClassId} {b n mo : Nat} (k f on : Int32) (σ : Nat → Int32) (α : Nat → Nat → Int32) (h : AH) (hmo : mo + 27 < n) : Cn l D cA b y_M_ask k_M_ask 2 27 0 0 [.ref mo, .int k, .int f, .int on] n (ovM mo σ α h) (Re none n (ovM mo (mask σ α k f on).1 (mask σ α k f on).2 h)) := by
  refine Cn.of (cc := b_M_ask) (maxL := 4) (ret := none) (hh := []) (by decide +kernel) hl (Or.inl ⟨rfl, rfl⟩) (Nat.le_of_ble_eq_true rfl) ?_
  intro p e s m args below meth c C
  refine j_aload_n C d_M_ask_0 rfl rfl ?_
  refine j_iload_n C d_M_ask_1 rfl rfl ?_
  refine j_iconst (v := 0) C d_M_ask_2 (by decide) ?_
  refine j_iconst (v := 4) C d_M_ask_3 (by decide) ?_
  refine j_callS C d_M_ask_4 ml_M_102 mc_M_in st_M_in (c_M_in hl _ _ _ _) rfl rfl (Nat.le_of_ble_eq_true rfl) (Nat.le_of_ble_eq_true rfl) (Nat.le_of_ble_eq_true rfl) (Nat.le_of_ble_eq_true rfl) (jk_r ?_)
  refine j_if_eq (tgt := 21) C d_M_ask_7 (by decide) (fun c7 => ?_) (fun c7 => ?_)
  · refine j_iconst (v := 0) C d_M_ask_21 (by decide) ?_
    refine j_iconst (v := 1) C d_M_ask_22 (by decide) ?_
    refine j_iconst (v := 1) C d_M_ask_23 (by decide) ?_
    refine j_callV C d_M_ask_24 ml_M_109 mc_M_goes in_M_goes rfl se_M_goes (by omega) (ovM_o _ _ _ _) (c_M_goes hl _ _ _ _ _ _ hmo) rfl rfl (Nat.le_of_ble_eq_true rfl) (Nat.le_of_ble_eq_true rfl) (Nat.le_of_ble_eq_true rfl) (Nat.le_of_ble_eq_true rfl) (jk_r ?_)
    refine j_if_eq (tgt := 42) C d_M_ask_27 (by decide) (fun c27 => ?_) (fun c27 => ?_)
    · exact j_vreturn C d_M_ask_42 rfl (by decide) (by decide) ⟨rfl, rfl, by first | (simp [mask, kn2, *]; done) | (simp [mask, kn2, gsI, *]; done) | exact absurd (by decide) c27 | exact absurd c27 (by decide)⟩
    · refine j_aload_n C d_M_ask_30 rfl rfl ?_
      refine jm_get C fl_6_44 d_M_ask_31 hmo rfl ?_
      refine j_bipush (v := 20) C d_M_ask_34 (by decide) ?_
      refine j_iload_n C d_M_ask_36 rfl rfl ?_
      refine j_imul C d_M_ask_37 ?_
      refine j_iload_n C d_M_ask_38 rfl rfl ?_
      refine j_iadd C d_M_ask_39 ?_
      refine j_iload_n C d_M_ask_40 rfl rfl ?_
      refine jm_zasti C 11 14 d_M_ask_41 (by decide) rfl hmo (by first | exact ix20 (ka := 4) (by omega) (by omega) (by omega) c7 c14 | exact absurd (by decide) c27) rfl ?_
      exact j_vreturn C d_M_ask_42 rfl (by decide) (by decide) ⟨rfl, rfl, by first | (simp [mask, kn2, *]; done) | (simp [mask, kn2, gsI, *]; done) | exact absurd (by decide) c27 | exact absurd c27 (by decide)⟩
  · refine j_iload_n C d_M_ask_10 rfl rfl ?_
    refine j_callS C d_M_ask_11 ml_M_117 mc_M_isField st_M_isField (c_M_isField hl _ _) rfl rfl (Nat.le_of_ble_eq_true rfl) (Nat.le_of_ble_eq_true rfl) (Nat.le_of_ble_eq_true rfl) (Nat.le_of_ble_eq_true rfl) (jk_r ?_)
    refine j_if_eq (tgt := 21) C d_M_ask_14 (by decide) (fun c14 => ?_) (fun c14 => ?_)
    · refine j_iconst (v := 0) C d_M_ask_21 (by decide) ?_
      refine j_iconst (v := 1) C d_M_ask_22 (by decide) ?_
      refine j_iconst (v := 1) C d_M_ask_23 (by decide) ?_
      refine j_callV C d_M_ask_24 ml_M_109 mc_M_goes in_M_goes rfl se_M_goes (by omega) (ovM_o _ _ _ _) (c_M_goes hl _ _ _ _ _ _ hmo) rfl rfl (Nat.le_of_ble_eq_true rfl) (Nat.le_of_ble_eq_true rfl) (Nat.le_of_ble_eq_true rfl) (Nat.le_of_ble_eq_true rfl) (jk_r ?_)
      refine j_if_eq (tgt := 42) C d_M_ask_27 (by decide) (fun c27 => ?_) (fun c27 => ?_)
      · exact j_vreturn C d_M_ask_42 rfl (by decide) (by decide) ⟨rfl, rfl, by first | (simp [mask, kn2, *]; done) | (simp [mask, kn2, gsI, *]; done) | exact absurd (by decide) c27 | exact absurd c27 (by decide)⟩
      · refine j_aload_n C d_M_ask_30 rfl rfl ?_
        refine jm_get C fl_6_44 d_M_ask_31 hmo rfl ?_
        refine j_bipush (v := 20) C d_M_ask_34 (by decide) ?_
        refine j_iload_n C d_M_ask_36 rfl rfl ?_
        refine j_imul C d_M_ask_37 ?_
        refine j_iload_n C d_M_ask_38 rfl rfl ?_
        refine j_iadd C d_M_ask_39 ?_
        refine j_iload_n C d_M_ask_40 rfl rfl ?_
        refine jm_zasti C 11 14 d_M_ask_41 (by decide) rfl hmo (by first | exact ix20 (ka := 4) (by omega) (by omega) (by omega) c7 c14 | exact absurd (by decide) c27) rfl ?_
        exact j_vreturn C d_M_ask_42 rfl (by decide) (by decide) ⟨rfl, rfl, by first | (simp [mask, kn2, *]; done) | (simp [mask, kn2, gsI, *]; done) | exact absurd (by decide) c27 | exact absurd c27 (by decide)⟩
    · refine j_iconst (v := 1) C d_M_ask_17 (by decide) ?_
      refine j_goto (tgt := 22) C d_M_ask_18 (by decide) ?_
      refine j_iconst (v := 1) C d_M_ask_22 (by decide) ?_
      refine j_iconst (v := 1) C d_M_ask_23 (by decide) ?_
      refine j_callV C d_M_ask_24 ml_M_109 mc_M_goes in_M_goes rfl se_M_goes (by omega) (ovM_o _ _ _ _) (c_M_goes hl _ _ _ _ _ _ hmo) rfl rfl (Nat.le_of_ble_eq_true rfl) (Nat.le_of_ble_eq_true rfl) (Nat.le_of_ble_eq_true rfl) (Nat.le_of_ble_eq_true rfl) (jk_r ?_)
      refine j_if_eq (tgt := 42) C d_M_ask_27 (by decide) (fun c27 => ?_) (fun c27 => ?_)
      · exact j_vreturn C d_M_ask_42 rfl (by decide) (by decide) ⟨rfl, rfl, by first | (simp [mask, kn2, *]; done) | (simp [mask, kn2, gsI, *]; done) | exact absurd (by decide) c27 | exact absurd c27 (by decide)⟩
      · refine j_aload_n C d_M_ask_30 rfl rfl ?_
        refine jm_get C fl_6_44 d_M_ask_31 hmo rfl ?_
        refine j_bipush (v := 20) C d_M_ask_34 (by decide) ?_
        refine j_iload_n C d_M_ask_36 rfl rfl ?_
        refine j_imul C d_M_ask_37 ?_
        refine j_iload_n C d_M_ask_38 rfl rfl ?_
        refine j_iadd C d_M_ask_39 ?_
        refine j_iload_n C d_M_ask_40 rfl rfl ?_
        refine jm_zasti C 11 14 d_M_ask_41 (by decide) rfl hmo (by first | exact ix20 (ka := 4) (by omega) (by omega) (by omega) c7 c14 | exact absurd (by decide) c27) rfl ?_
        exact j_vreturn C d_M_ask_42 rfl (by decide) (by decide) ⟨rfl, rfl, by first | (simp [mask, kn2, *]; done) | (simp [mask, kn2, gsI, *]; done) | exact absurd (by decide) c27 | exact absurd c27 (by decide)⟩

set_option maxHeartbeats 4000000 in
set_option maxRecDepth 100000 in
theorem c_M_hide {l : Launch} (hl : l.stackTraces = false) {D : va_G} {cA : Nat → ClassId} {b n mo : Nat} (f q on : Int32) (σ : Nat → Int32) (α : Nat → Nat → Int32) (h : AH) (hmo : mo + 27 < n) : Cn l D cA b y_M_hide k_M_hide 2 27 0 0 [.ref mo, .int f, .int q, .int on] n (ovM mo σ α h) (Re none n (ovM mo (mhide σ α f q on).1 (mhide σ α f q on).2 h)) := by
  refine Cn.of (cc := b_M_hide) (maxL := 4) (ret := none) (hh := []) (by decide +kernel) hl (Or.inl ⟨rfl, rfl⟩) (Nat.le_of_ble_eq_true rfl) ?_
  intro p e s m args below meth c C
  refine j_aload_n C d_M_hide_0 rfl rfl ?_
  refine j_iload_n C d_M_hide_1 rfl rfl ?_
  refine j_callS C d_M_hide_2 ml_M_117 mc_M_isField st_M_isField (c_M_isField hl _ _) rfl rfl (Nat.le_of_ble_eq_true rfl) (Nat.le_of_ble_eq_true rfl) (Nat.le_of_ble_eq_true rfl) (Nat.le_of_ble_eq_true rfl) (jk_r ?_)
  refine j_if_eq (tgt := 19) C d_M_hide_5 (by decide) (fun c5 => ?_) (fun c5 => ?_)
  · refine j_iconst (v := 0) C d_M_hide_19 (by decide) ?_
    refine j_iconst (v := 1) C d_M_hide_20 (by decide) ?_
    refine j_iconst (v := 1) C d_M_hide_21 (by decide) ?_
    refine j_callV C d_M_hide_22 ml_M_109 mc_M_goes in_M_goes rfl se_M_goes (by omega) (ovM_o _ _ _ _) (c_M_goes hl _ _ _ _ _ _ hmo) rfl rfl (Nat.le_of_ble_eq_true rfl) (Nat.le_of_ble_eq_true rfl) (Nat.le_of_ble_eq_true rfl) (Nat.le_of_ble_eq_true rfl) (jk_r ?_)
    refine j_if_eq (tgt := 40) C d_M_hide_25 (by decide) (fun c25 => ?_) (fun c25 => ?_)
    · exact j_vreturn C d_M_hide_40 rfl (by decide) (by decide) ⟨rfl, rfl, by first | (simp [mhide, kn2, *]; done) | (simp [mhide, kn2, gsI, *]; done) | exact absurd (by decide) c25 | exact absurd c25 (by decide)⟩
    · refine j_aload_n C d_M_hide_28 rfl rfl ?_
      refine jm_get C fl_6_47 d_M_hide_29 hmo rfl ?_
      refine j_bipush (v := 20) C d_M_hide_32 (by decide) ?_
      refine j_iload_n C d_M_hide_34 rfl rfl ?_
      refine j_imul C d_M_hide_35 ?_
      refine j_iload_n C d_M_hide_36 rfl rfl ?_
      refine j_iadd C d_M_hide_37 ?_
      refine j_iload_n C d_M_hide_38 rfl rfl ?_
      refine jm_zasti C 12 15 d_M_hide_39 (by decide) rfl hmo (by first | exact ix20 (ka := 19) (by omega) (by omega) (by omega) c5 c12 | exact absurd (by decide) c25) rfl ?_
      exact j_vreturn C d_M_hide_40 rfl (by decide) (by decide) ⟨rfl, rfl, by first | (simp [mhide, kn2, *]; done) | (simp [mhide, kn2, gsI, *]; done) | exact absurd (by decide) c25 | exact absurd c25 (by decide)⟩
  · refine j_iload_n C d_M_hide_8 rfl rfl ?_
    refine j_callS C d_M_hide_9 ml_M_200 mc_M_isPerson st_M_isPerson (c_M_isPerson hl _ _) rfl rfl (Nat.le_of_ble_eq_true rfl) (Nat.le_of_ble_eq_true rfl) (Nat.le_of_ble_eq_true rfl) (Nat.le_of_ble_eq_true rfl) (jk_r ?_)
    refine j_if_eq (tgt := 19) C d_M_hide_12 (by decide) (fun c12 => ?_) (fun c12 => ?_)
    · refine j_iconst (v := 0) C d_M_hide_19 (by decide) ?_
      refine j_iconst (v := 1) C d_M_hide_20 (by decide) ?_
      refine j_iconst (v := 1) C d_M_hide_21 (by decide) ?_
      refine j_callV C d_M_hide_22 ml_M_109 mc_M_goes in_M_goes rfl se_M_goes (by omega) (ovM_o _ _ _ _) (c_M_goes hl _ _ _ _ _ _ hmo) rfl rfl (Nat.le_of_ble_eq_true rfl) (Nat.le_of_ble_eq_true rfl) (Nat.le_of_ble_eq_true rfl) (Nat.le_of_ble_eq_true rfl) (jk_r ?_)
      refine j_if_eq (tgt := 40) C d_M_hide_25 (by decide) (fun c25 => ?_) (fun c25 => ?_)
      · exact j_vreturn C d_M_hide_40 rfl (by decide) (by decide) ⟨rfl, rfl, by first | (simp [mhide, kn2, *]; done) | (simp [mhide, kn2, gsI, *]; done) | exact absurd (by decide) c25 | exact absurd c25 (by decide)⟩
      · refine j_aload_n C d_M_hide_28 rfl rfl ?_
        refine jm_get C fl_6_47 d_M_hide_29 hmo rfl ?_
        refine j_bipush (v := 20) C d_M_hide_32 (by decide) ?_
        refine j_iload_n C d_M_hide_34 rfl rfl ?_
        refine j_imul C d_M_hide_35 ?_
        refine j_iload_n C d_M_hide_36 rfl rfl ?_
        refine j_iadd C d_M_hide_37 ?_
        refine j_iload_n C d_M_hide_38 rfl rfl ?_
        refine jm_zasti C 12 15 d_M_hide_39 (by decide) rfl hmo (by first | exact ix20 (ka := 19) (by omega) (by omega) (by omega) c5 c12 | exact absurd (by decide) c25) rfl ?_
        exact j_vreturn C d_M_hide_40 rfl (by decide) (by decide) ⟨rfl, rfl, by first | (simp [mhide, kn2, *]; done) | (simp [mhide, kn2, gsI, *]; done) | exact absurd (by decide) c25 | exact absurd c25 (by decide)⟩
    · refine j_iconst (v := 1) C d_M_hide_15 (by decide) ?_
      refine j_goto (tgt := 20) C d_M_hide_16 (by decide) ?_
      refine j_iconst (v := 1) C d_M_hide_20 (by decide) ?_
      refine j_iconst (v := 1) C d_M_hide_21 (by decide) ?_
      refine j_callV C d_M_hide_22 ml_M_109 mc_M_goes in_M_goes rfl se_M_goes (by omega) (ovM_o _ _ _ _) (c_M_goes hl _ _ _ _ _ _ hmo) rfl rfl (Nat.le_of_ble_eq_true rfl) (Nat.le_of_ble_eq_true rfl) (Nat.le_of_ble_eq_true rfl) (Nat.le_of_ble_eq_true rfl) (jk_r ?_)
      refine j_if_eq (tgt := 40) C d_M_hide_25 (by decide) (fun c25 => ?_) (fun c25 => ?_)
      · exact j_vreturn C d_M_hide_40 rfl (by decide) (by decide) ⟨rfl, rfl, by first | (simp [mhide, kn2, *]; done) | (simp [mhide, kn2, gsI, *]; done) | exact absurd (by decide) c25 | exact absurd c25 (by decide)⟩
      · refine j_aload_n C d_M_hide_28 rfl rfl ?_
        refine jm_get C fl_6_47 d_M_hide_29 hmo rfl ?_
        refine j_bipush (v := 20) C d_M_hide_32 (by decide) ?_
        refine j_iload_n C d_M_hide_34 rfl rfl ?_
        refine j_imul C d_M_hide_35 ?_
        refine j_iload_n C d_M_hide_36 rfl rfl ?_
        refine j_iadd C d_M_hide_37 ?_
        refine j_iload_n C d_M_hide_38 rfl rfl ?_
        refine jm_zasti C 12 15 d_M_hide_39 (by decide) rfl hmo (by first | exact ix20 (ka := 19) (by omega) (by omega) (by omega) c5 c12 | exact absurd (by decide) c25) rfl ?_
        exact j_vreturn C d_M_hide_40 rfl (by decide) (by decide) ⟨rfl, rfl, by first | (simp [mhide, kn2, *]; done) | (simp [mhide, kn2, gsI, *]; done) | exact absurd (by decide) c25 | exact absurd c25 (by decide)⟩
/-! ===== contracts of the reference: opened ===== -/
/-- how many of g's places b, b + 1, .. (k of them) aren't 0, from c on -/
def opn (g : Nat → Int32) (b : Nat) : Nat → Nat → Int32 → Int32
  | 0, _, c => c
  | k + 1, i, c => opn g b k (i + 1) (if g (b + i) = 0 then c else c + 1)
theorem nI_inc (i : Nat) : nI i + Int32.ofInt 1 = nI (i + 1) := nI_1 i
theorem nI_nle20 {i N : Nat} (h : i < N) (hN : N < 2 ^ 31 := by omega) : ¬ nI N ≤ nI i := nI_ge h hN
set_option maxHeartbeats 4000000 in
set_option maxRecDepth 100000 in
theorem c_M_opened {l : Launch} (hl : l.stackTraces = false) {D : va_G} {cA : Nat → ClassId} {b n mo : Nat} (r : Nat) (σ : Nat → Int32) (α : Nat → Nat → Int32) (h : AH) (hmo : mo + 27 < n) (hrl : r < 30) : Cn l D cA b y_M_opened k_M_opened 0 0 0 0 [.ref mo, .int (nI r)] n (ovM mo σ α h) (Re (some (.int (opn (α 12) (20 * r) 20 0 0))) n (ovM mo σ α h)) := by
  refine Cn.of (cc := b_M_opened) (maxL := 4) (ret := (some .int)) (hh := []) (by decide +kernel) hl (Or.inl ⟨rfl, rfl⟩) (Nat.le_of_ble_eq_true rfl) ?_
  intro p e s m args below meth c C
  have loop : ∀ (k i : Nat) (cnt : Int32), i + k = 20 → opn (α 12) (20 * r) k i cnt = opn (α 12) (20 * r) 20 0 0 → J p l e { frames := 0, cells := 0, slots := 0, locals := 0 } s m args below meth c D cA b 4 (EndQ D cA b s below (Re (some (.int (opn (α 12) (20 * r) 20 0 0))) n (ovM mo σ α h)) 0 0) n (ovM mo σ α h) 0 0 4 [(3, .int (nI i)), (2, .int cnt), (0, .ref mo), (1, .int (nI r))] [] := by
    intro k
    induction k with
    | zero =>
      intro i cnt hi hv
      obtain rfl : i = 20 := by omega
      refine j_iload_n C d_M_opened_4 rfl rfl ?_
      refine j_bipush (v := 20) C d_M_opened_5 (by decide) ?_
      refine j_icmp_ge (tgt := 33) C d_M_opened_7 (by decide) (fun c7 => ?_) (fun c7 => absurd (by decide) c7)
      refine j_iload_n C d_M_opened_33 rfl rfl ?_
      exact j_ireturn C d_M_opened_34 rfl (by decide) (by decide) ⟨by rw [← hv]; rfl, rfl, rfl⟩
    | succ k ih =>
      intro i cnt hi hv
      have hin : vp_in (20 * nI r + nI i) 600 := by rw [e20]; exact vp_in_nI (by omega) (by omega)
      have hcl : (20 * nI r + nI i).toNatClampNeg = 20 * r + i := by rw [e20]; exact nI_clamp (by omega)
      refine j_iload_n C d_M_opened_4 rfl rfl ?_
      refine j_bipush (v := 20) C d_M_opened_5 (by decide) ?_
      refine j_icmp_ge (tgt := 33) C d_M_opened_7 (by decide) (fun c7 => ?_) (fun c7 => ?_)
      · exact absurd c7 (nI_nle20 (N := 20) (by omega))
      · refine j_aload_n C d_M_opened_10 rfl rfl ?_
        refine jm_get C fl_6_38 d_M_opened_11 hmo rfl ?_
        refine j_bipush (v := 20) C d_M_opened_14 (by decide) ?_
        refine j_iload_n C d_M_opened_16 rfl rfl ?_
        refine j_imul C d_M_opened_17 ?_
        refine j_iload_n C d_M_opened_18 rfl rfl ?_
        refine j_iadd C d_M_opened_19 ?_
        refine jm_zald C 9 d_M_opened_20 (by decide) rfl hmo hin rfl ?_
        refine j_if_eq (tgt := 27) C d_M_opened_21 (by decide) (fun c21 => ?_) (fun c21 => ?_)
        · refine j_iinc (v := nI (i + 1)) C d_M_opened_27 rfl (nI_inc i) (by decide) rfl ?_
          refine j_goto (tgt := 4) C d_M_opened_30 (by decide) ?_
          first
            | exact j_pick [0, 1, 2, 3] rfl (ih (i + 1) (cnt + 1) (by omega) (by rw [← hv]; show _ = opn (α 12) (20 * r) k (i + 1) (if _ = 0 then cnt else cnt + 1); rw [← hcl, if_neg c21]))
            | exact j_pick [0, 1, 2, 3] rfl (ih (i + 1) cnt (by omega) (by rw [← hv]; show _ = opn (α 12) (20 * r) k (i + 1) (if _ = 0 then cnt else cnt + 1); rw [← hcl, if_pos c21]))
        · refine j_iinc (v := cnt + 1) C d_M_opened_24 rfl rfl (by decide) rfl ?_
          refine j_iinc (v := nI (i + 1)) C d_M_opened_27 rfl (nI_inc i) (by decide) rfl ?_
          refine j_goto (tgt := 4) C d_M_opened_30 (by decide) ?_
          first
            | exact j_pick [0, 1, 2, 3] rfl (ih (i + 1) (cnt + 1) (by omega) (by rw [← hv]; show _ = opn (α 12) (20 * r) k (i + 1) (if _ = 0 then cnt else cnt + 1); rw [← hcl, if_neg c21]))
            | exact j_pick [0, 1, 2, 3] rfl (ih (i + 1) cnt (by omega) (by rw [← hv]; show _ = opn (α 12) (20 * r) k (i + 1) (if _ = 0 then cnt else cnt + 1); rw [← hcl, if_pos c21]))
  refine j_iconst (v := 0) C d_M_opened_0 (by decide) ?_
  refine j_istore_n C d_M_opened_1 rfl (by decide) rfl ?_
  refine j_iconst (v := 0) C d_M_opened_2 (by decide) ?_
  refine j_istore_n C d_M_opened_3 rfl (by decide) rfl ?_
  exact j_pick [0, 1, 2, 3] rfl (loop 20 0 0 rfl rfl)
