/-! ===== the reference's object at mo, its arrays behind it: numbers σ by field, contents α by field: printed by program ===== -/
def mfs (mo : Nat) (σ : Nat → Int32) : List Value := [.int (σ 0), .int (σ 1), .int (σ 2), .ref (mo + 1), .ref (mo + 2), .ref (mo + 3), .ref (mo + 4), .ref (mo + 5), .ref (mo + 6), .ref (mo + 7), .ref (mo + 8), .ref (mo + 9), .ref (mo + 10), .ref (mo + 11), .ref (mo + 12), .ref (mo + 13), .int (σ 16), .ref (mo + 14), .int (σ 18), .int (σ 19), .int (σ 20), .int (σ 21), .ref (mo + 15), .ref (mo + 16), .ref (mo + 17), .ref (mo + 18), .ref (mo + 19), .int (σ 27), .ref (mo + 20), .ref (mo + 21), .ref (mo + 22), .ref (mo + 23), .ref (mo + 24), .int (σ 33), .int (σ 34), .ref (mo + 25), .ref (mo + 26), .int (σ 37), .ref (mo + 27)]
def mar (α : Nat → Nat → Int32) : List AC := [.inl (0, 30, .inl (α 3)), .inl (0, 30, .inl (α 4)), .inl (0, 30, .inl (α 5)), .inl (0, 30, .inl (α 6)), .inl (0, 30, .inl (α 7)), .inl (0, 30, .inl (α 8)), .inl (0, 90, .inl (α 9)), .inl (2, 600, .inl (α 10)), .inl (2, 600, .inl (α 11)), .inl (2, 600, .inl (α 12)), .inl (0, 600, .inl (α 13)), .inl (2, 100, .inl (α 14)), .inl (2, 400, .inl (α 15)), .inl (0, 300, .inl (α 17)), .inl (0, 20, .inl (α 22)), .inl (0, 160, .inl (α 23)), .inl (0, 160, .inl (α 24)), .inl (0, 160, .inl (α 25)), .inl (2, 160, .inl (α 26)), .inl (0, 20, .inl (α 28)), .inl (0, 160, .inl (α 29)), .inl (0, 160, .inl (α 30)), .inl (0, 160, .inl (α 31)), .inl (2, 160, .inl (α 32)), .inl (0, 40, .inl (α 35)), .inl (0, 40, .inl (α 36)), .inl (0, 300, .inl (α 38))]
def upa (α : Nat → Nat → Int32) (k : Nat) (f : Nat → Int32) : Nat → Nat → Int32 := fun j => if j = k then f else α j
def ovM (mo : Nat) (σ : Nat → Int32) (α : Nat → Nat → Int32) (h : AH) : AH := fun j => if j = mo then .inr (6, mfs mo σ) else if mo < j ∧ j ≤ mo + 27 then (mar α).getD (j - mo - 1) (.inr (0, [])) else h j
theorem ovM_o (mo : Nat) (σ : Nat → Int32) (α : Nat → Nat → Int32) (h : AH) : ovM mo σ α h mo = .inr (6, mfs mo σ) := if_pos rfl
theorem ovM_a {mo : Nat} {σ : Nat → Int32} {α : Nat → Nat → Int32} {h : AH} {o : Nat} {x : AC} (ho : o < 27) (hx : (mar α)[o]? = some x) : ovM mo σ α h (mo + (o + 1)) = x := by
  unfold ovM
  rw [if_neg (by omega), if_pos (by omega), show mo + (o + 1) - mo - 1 = o by omega, List.getD_eq_getElem?_getD, hx]
  rfl
theorem ovM_n {mo : Nat} {σ : Nat → Int32} {α : Nat → Nat → Int32} {h : AH} {j : Nat} (hj : j < mo ∨ mo + 27 < j) : ovM mo σ α h j = h j := by
  unfold ovM
  rw [if_neg (by omega), if_neg (by omega)]
theorem ovM_put {mo : Nat} {σ σ' : Nat → Int32} {α : Nat → Nat → Int32} {h : AH} : hu (ovM mo σ α h) mo (.inr (6, mfs mo σ')) = ovM mo σ' α h := by
  funext j
  unfold hu ovM
  by_cases e : j = mo
  · rw [if_pos e, if_pos e]
  · rw [if_neg e, if_neg e, if_neg e]
theorem ovM_ast {mo : Nat} {σ : Nat → Int32} {α α' : Nat → Nat → Int32} {h : AH} {o : Nat} {x : AC} (ho : o < 27) (hx : (mar α).set o x = mar α') : hu (ovM mo σ α h) (mo + (o + 1)) x = ovM mo σ α' h := by
  funext j
  unfold hu ovM
  rw [← hx]
  by_cases e : j = mo + (o + 1)
  · subst e
    rw [if_pos rfl, if_neg (by omega), if_pos (by omega), show mo + (o + 1) - mo - 1 = o by omega, List.getD_eq_getElem?_getD, List.getElem?_set_self (by exact ho)]
    rfl
  · rw [if_neg e]
    by_cases e2 : j = mo
    · rw [if_pos e2, if_pos e2]
    · rw [if_neg e2, if_neg e2]
      by_cases e3 : mo < j ∧ j ≤ mo + 27
      · rw [if_pos e3, if_pos e3, List.getD_eq_getElem?_getD, List.getD_eq_getElem?_getD, List.getElem?_set_ne (by omega)]
      · rw [if_neg e3, if_neg e3]
section JRe
variable {p : Program} {l : Launch} {e : Env} {R : Room} {s : State} {m : MethodId} {args : Array Value} {below : List Frame} {meth : Method} {c : Code} {D : va_G} {cA : Nat → ClassId} {b nL : Nat} {Q : State → Prop} {n : Nat} {h : AH} {kc ks pc : Nat} {L : List (Nat × Value)} {st : List Value} {mn : String} {cc : ByteArray} {ret : Option FieldType} {hh : List (Nat × Nat × Nat × Nat)} 
theorem jk_r {x : Value} (k : J p l e R s m args below meth c D cA b nL Q n h kc ks (pc + 3) L (x :: st)) : JK p l e R s m args below meth c D cA b nL Q kc ks pc L st (Re (some x) n h) := jk_e k
theorem jk_v (k : J p l e R s m args below meth c D cA b nL Q n h kc ks (pc + 3) L st) : JK p l e R s m args below meth c D cA b nL Q kc ks pc L st (Re none n h) := jk_e k
end JRe
section JMo
variable {p : Program} {l : Launch} {e : Env} {R : Room} {s : State} {m : MethodId} {args : Array Value} {below : List Frame} {meth : Method} {c : Code} {D : va_G} {cA : Nat → ClassId} {b nL : Nat} {Q : State → Prop} {n : Nat} {h : AH} {kc ks pc : Nat} {L : List (Nat × Value)} {st : List Value} {mn : String} {cc : ByteArray} {ret : Option FieldType} {hh : List (Nat × Nat × Nat × Nat)} {mo : Nat} {σ σ' : Nat → Int32} {α α' : Nat → Nat → Int32}
theorem jm_get (C : Cx p l s m meth c D cA b nL cR6 mn cc ret hh) {index k : Nat} {v : Value} (hF : FL cR6 index 6 k) (hd : decode cc pc = .ok (.getfield index, 3)) (hmo : mo + 27 < n) (hv : (mfs mo σ)[k]? = some v) (kk : J p l e R s m args below meth c D cA b nL Q n (ovM mo σ α h) kc ks (pc + 3) L (v :: st)) : J p l e R s m args below meth c D cA b nL Q n (ovM mo σ α h) kc ks pc L (.ref mo :: st) :=
  j_get C hF hd (by omega) (ovM_o mo σ α h) hv kk
theorem jm_put (C : Cx p l s m meth c D cA b nL cR6 mn cc ret hh) {index k : Nat} {ty : FieldType} {v : Value} (hF : FP cR6 index 6 k false ty) (hd : decode cc pc = .ok (.putfield index, 3)) (hmo : mo + 27 < n) (hl : k < 39) (hn : narrow ty v = v) (hf : fits ty v = true) (hv : (mfs mo σ).set k v = mfs mo σ') (kk : J p l e R s m args below meth c D cA b nL Q n (ovM mo σ' α h) kc ks (pc + 3) L st) : J p l e R s m args below meth c D cA b nL Q n (ovM mo σ α h) kc ks pc L (v :: .ref mo :: st) :=
  j_put C hF hd (by omega) (ovM_o mo σ α h) hl hn hf hv (by rw [ovM_put]; exact kk)
theorem jm_iald (C : Cx p l s m meth c D cA b nL cR6 mn cc ret hh) (o : Nat) {N : Nat} {f : Nat → Int32} {i v : Int32} (hd : decode cc pc = .ok (.iaload, 1)) (ho : o < 27) (hx : (mar α)[o]? = some (.inl (0, N, .inl f))) (hmo : mo + 27 < n) (hi : vp_in i N) (hv : f i.toNatClampNeg = v) (kk : J p l e R s m args below meth c D cA b nL Q n (ovM mo σ α h) kc ks (pc + 1) L (.int v :: st)) : J p l e R s m args below meth c D cA b nL Q n (ovM mo σ α h) kc ks pc L (.int i :: .ref (mo + (o + 1)) :: st) :=
  j_iald C hd rfl (by omega) (ovM_a ho hx) hi hv kk
theorem jm_zald (C : Cx p l s m meth c D cA b nL cR6 mn cc ret hh) (o : Nat) {N : Nat} {f : Nat → Int32} {i v : Int32} (hd : decode cc pc = .ok (.baload, 1)) (ho : o < 27) (hx : (mar α)[o]? = some (.inl (2, N, .inl f))) (hmo : mo + 27 < n) (hi : vp_in i N) (hv : f i.toNatClampNeg = v) (kk : J p l e R s m args below meth c D cA b nL Q n (ovM mo σ α h) kc ks (pc + 1) L (.int v :: st)) : J p l e R s m args below meth c D cA b nL Q n (ovM mo σ α h) kc ks pc L (.int i :: .ref (mo + (o + 1)) :: st) :=
  j_zald C hd rfl (by omega) (ovM_a ho hx) hi hv kk
theorem jm_iast (C : Cx p l s m meth c D cA b nL cR6 mn cc ret hh) (o : Nat) {N : Nat} {f f' : Nat → Int32} {i x : Int32} (hd : decode cc pc = .ok (.iastore, 1)) (ho : o < 27) (hx : (mar α)[o]? = some (.inl (0, N, .inl f))) (hmo : mo + 27 < n) (hi : vp_in i N) (hf : upd f i.toNatClampNeg x = f') (hα : (mar α).set o (.inl (0, N, .inl f')) = mar α') (kk : J p l e R s m args below meth c D cA b nL Q n (ovM mo σ α' h) kc ks (pc + 1) L st) : J p l e R s m args below meth c D cA b nL Q n (ovM mo σ α h) kc ks pc L (.int x :: .int i :: .ref (mo + (o + 1)) :: st) :=
  j_iast C hd rfl (by omega) (ovM_a ho hx) hi hf (by rw [ovM_ast ho hα]; exact kk)
theorem jm_zast (C : Cx p l s m meth c D cA b nL cR6 mn cc ret hh) (o : Nat) {N : Nat} {f f' : Nat → Int32} {i x : Int32} (hd : decode cc pc = .ok (.bastore, 1)) (ho : o < 27) (hx : (mar α)[o]? = some (.inl (2, N, .inl f))) (hmo : mo + 27 < n) (hi : vp_in i N) (hf : upd f i.toNatClampNeg (vp_nar .boolean x) = f') (hα : (mar α).set o (.inl (2, N, .inl f')) = mar α') (kk : J p l e R s m args below meth c D cA b nL Q n (ovM mo σ α' h) kc ks (pc + 1) L st) : J p l e R s m args below meth c D cA b nL Q n (ovM mo σ α h) kc ks pc L (.int x :: .int i :: .ref (mo + (o + 1)) :: st) :=
  j_zast C hd rfl (by omega) (ovM_a ho hx) hi hf (by rw [ovM_ast ho hα]; exact kk)
theorem jm_puti (k : Nat) (C : Cx p l s m meth c D cA b nL cR6 mn cc ret hh) {index : Nat} {ty : FieldType} {x : Int32} (hF : FP cR6 index 6 k false ty) (hd : decode cc pc = .ok (.putfield index, 3)) (hmo : mo + 27 < n) (hl : k < 39) (hn : narrow ty (.int x) = .int x) (hf : fits ty (.int x) = true) (hv : (mfs mo σ).set k (.int x) = mfs mo (upd σ k x)) (kk : J p l e R s m args below meth c D cA b nL Q n (ovM mo (upd σ k x) α h) kc ks (pc + 3) L st) : J p l e R s m args below meth c D cA b nL Q n (ovM mo σ α h) kc ks pc L (.int x :: .ref mo :: st) :=
  jm_put C hF hd hmo hl hn hf hv kk
theorem jm_iasti (C : Cx p l s m meth c D cA b nL cR6 mn cc ret hh) (o k : Nat) {N : Nat} {i x : Int32} (hd : decode cc pc = .ok (.iastore, 1)) (ho : o < 27) (hx : (mar α)[o]? = some (.inl (0, N, .inl (α k)))) (hmo : mo + 27 < n) (hi : vp_in i N) (hα : (mar α).set o (.inl (0, N, .inl (upd (α k) i.toNatClampNeg x))) = mar (upa α k (upd (α k) i.toNatClampNeg x))) (kk : J p l e R s m args below meth c D cA b nL Q n (ovM mo σ (upa α k (upd (α k) i.toNatClampNeg x)) h) kc ks (pc + 1) L st) : J p l e R s m args below meth c D cA b nL Q n (ovM mo σ α h) kc ks pc L (.int x :: .int i :: .ref (mo + (o + 1)) :: st) :=
  jm_iast C o hd ho hx hmo hi rfl hα kk
theorem jm_zasti (C : Cx p l s m meth c D cA b nL cR6 mn cc ret hh) (o k : Nat) {N : Nat} {i x : Int32} (hd : decode cc pc = .ok (.bastore, 1)) (ho : o < 27) (hx : (mar α)[o]? = some (.inl (2, N, .inl (α k)))) (hmo : mo + 27 < n) (hi : vp_in i N) (hα : (mar α).set o (.inl (2, N, .inl (upd (α k) i.toNatClampNeg (vp_nar .boolean x)))) = mar (upa α k (upd (α k) i.toNatClampNeg (vp_nar .boolean x)))) (kk : J p l e R s m args below meth c D cA b nL Q n (ovM mo σ (upa α k (upd (α k) i.toNatClampNeg (vp_nar .boolean x))) h) kc ks (pc + 1) L st) : J p l e R s m args below meth c D cA b nL Q n (ovM mo σ α h) kc ks pc L (.int x :: .int i :: .ref (mo + (o + 1)) :: st) :=
  jm_zast C o hd ho hx hmo hi rfl hα kk
end JMo
theorem lc_X_107 : Cond.constant cR0 107 (-99999) ∈ g_ws := g_in (List.mem_of_getElem? (i := 417) (by decide +kernel)) (by decide +kernel)
theorem lc_X_108 : Cond.constant cR0 108 (99999) ∈ g_ws := g_in (List.mem_of_getElem? (i := 418) (by decide +kernel)) (by decide +kernel)
theorem lc_RR_68 : Cond.constant cR1 68 (99999) ∈ g_ws := g_in (List.mem_of_getElem? (i := 520) (by decide +kernel)) (by decide +kernel)
theorem lc_RR_63 : Cond.constant cR1 63 (-1000000000) ∈ g_ws := g_in (List.mem_of_getElem? (i := 525) (by decide +kernel)) (by decide +kernel)
theorem lc_RB_56 : Cond.constant cR2 56 (-1000000000) ∈ g_ws := g_in (List.mem_of_getElem? (i := 570) (by decide +kernel)) (by decide +kernel)
theorem lc_M_124 : Cond.constant cR6 124 (-99999) ∈ g_ws := g_in (List.mem_of_getElem? (i := 899) (by decide +kernel)) (by decide +kernel)
theorem lc_M_125 : Cond.constant cR6 125 (99999) ∈ g_ws := g_in (List.mem_of_getElem? (i := 900) (by decide +kernel)) (by decide +kernel)
