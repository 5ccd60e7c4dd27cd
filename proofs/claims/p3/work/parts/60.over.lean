/-! ===== a row of cells laid over the heap; what is thrown out of a call ===== -/
def ovL (a : Nat) (cs : List AC) (h : AH) : AH := fun j => if a ≤ j ∧ j < a + cs.length then cs.getD (j - a) (.inr (0, [])) else h j
theorem ovL_c {a : Nat} {cs : List AC} {h : AH} {o : Nat} {x : AC} (hx : cs[o]? = some x) : ovL a cs h (a + o) = x := by
  have ho : o < cs.length := (List.getElem?_eq_some_iff.mp hx).1
  unfold ovL
  rw [if_pos (by omega), show a + o - a = o by omega, List.getD_eq_getElem?_getD, hx]
  rfl
theorem ovL_n {a : Nat} {cs : List AC} {h : AH} {j : Nat} (hj : j < a ∨ a + cs.length ≤ j) : ovL a cs h j = h j := by
  unfold ovL
  rw [if_neg (by omega)]
theorem ovL_u {a : Nat} {cs cs' : List AC} {h : AH} {o : Nat} {x : AC} (ho : o < cs.length) (hx : cs.set o x = cs') : hu (ovL a cs h) (a + o) x = ovL a cs' h := by
  subst hx
  funext j
  unfold hu ovL
  rw [List.length_set]
  by_cases e : j = a + o
  · subst e
    rw [if_pos rfl, if_pos (by omega), show a + o - a = o by omega, List.getD_eq_getElem?_getD, List.getElem?_set_self ho]
    rfl
  · rw [if_neg e]
    by_cases e3 : a ≤ j ∧ j < a + cs.length
    · rw [if_pos e3, if_pos e3, List.getD_eq_getElem?_getD, List.getD_eq_getElem?_getD, List.getElem?_set_ne (by omega)]
    · rw [if_neg e3, if_neg e3]
theorem ovL_out {a : Nat} {cs : List AC} {h : AH} {j : Nat} {x : AC} (hj : j < a ∨ a + cs.length ≤ j) : hu (ovL a cs h) j x = ovL a cs (hu h j x) := by
  funext i
  by_cases e : i = j
  · subst e
    rw [hu_s, ovL_n hj, hu_s]
  · rw [hu_n e]
    unfold ovL
    by_cases g : a ≤ i ∧ i < a + cs.length
    · rw [if_pos g, if_pos g]
    · rw [if_neg g, if_neg g, hu_n e]
theorem ovL_new {a : Nat} {cs cs' : List AC} {h : AH} {k : Nat} {x : AC} (hk : cs.length = k) (hx : cs ++ [x] = cs') : hu (ovL a cs h) (a + k) x = ovL a cs' h := by
  subst hx hk
  funext i
  unfold hu ovL
  rw [List.length_append, List.length_singleton]
  by_cases e : i = a + cs.length
  · subst e
    rw [if_pos rfl, if_pos (by omega), show a + cs.length - a = cs.length by omega, List.getD_eq_getElem?_getD, List.getElem?_append_right (Nat.le_refl _), Nat.sub_self]
    rfl
  · rw [if_neg e]
    by_cases e3 : a ≤ i ∧ i < a + cs.length
    · rw [if_pos e3, if_pos (by omega), List.getD_eq_getElem?_getD, List.getD_eq_getElem?_getD, List.getElem?_append_left (by omega)]
    · rw [if_neg e3, if_neg (by omega)]
theorem ovL_beg (h : AH) (a : Nat) (x : AC) : hu h a x = ovL a [x] h := by
  funext i
  unfold hu ovL
  by_cases e : i = a
  · subst e
    rw [if_pos rfl, if_pos (by simp), Nat.sub_self]
    rfl
  · rw [if_neg e, if_neg (by simp; omega)]
theorem ovL_in {a k : Nat} {xs ys zs : List AC} {h : AH} (h1 : k ≤ xs.length) (h2 : xs.length ≤ k + ys.length) (hz : xs.take k ++ ys = zs) : ovL (a + k) ys (ovL a xs h) = ovL a zs h := by
  subst hz
  have e1 : (xs.take k ++ ys).length = k + ys.length := by rw [List.length_append, List.length_take, Nat.min_eq_left h1]
  have e2 : (xs.take k).length = k := by rw [List.length_take, Nat.min_eq_left h1]
  funext i
  unfold ovL
  rw [e1]
  by_cases g1 : a + k ≤ i ∧ i < a + k + ys.length
  · rw [if_pos g1, if_pos (by omega), List.getD_eq_getElem?_getD, List.getD_eq_getElem?_getD, List.getElem?_append_right (by rw [e2]; omega), e2, show i - a - k = i - (a + k) by omega]
  · rw [if_neg g1]
    by_cases g2 : a ≤ i ∧ i < a + k
    · rw [if_pos (by omega), if_pos (by omega), List.getD_eq_getElem?_getD, List.getD_eq_getElem?_getD, List.getElem?_append_left (by rw [e2]; omega), List.getElem?_take_of_lt (by omega)]
    · rw [if_neg (by omega), if_neg (by omega)]
theorem ovL_ovL {a c : Nat} {xs ys : List AC} {h : AH} (hd : a + xs.length ≤ c ∨ c + ys.length ≤ a) : ovL a xs (ovL c ys h) = ovL c ys (ovL a xs h) := by
  funext i
  unfold ovL
  by_cases g1 : a ≤ i ∧ i < a + xs.length
  · rw [if_pos g1, if_neg (by omega), if_pos g1]
  · rw [if_neg g1]
    by_cases g2 : c ≤ i ∧ i < c + ys.length
    · rw [if_pos g2, if_pos g2]
    · rw [if_neg g2, if_neg g2, if_neg g1]
theorem ovM_L (mo : Nat) (σ : Nat → Int32) (α : Nat → Nat → Int32) (h : AH) : ovM mo σ α h = ovL mo (.inr (6, mfs mo σ) :: mar α) h := by
  funext i
  unfold ovM ovL
  have e : ((.inr (6, mfs mo σ) :: mar α : List AC)).length = 28 := rfl
  rw [e]
  by_cases g1 : i = mo
  · subst g1
    rw [if_pos rfl, if_pos (by omega), Nat.sub_self]
    rfl
  · rw [if_neg g1]
    by_cases g2 : mo < i ∧ i ≤ mo + 27
    · rw [if_pos g2, if_pos (by omega), show i - mo = (i - mo - 1) + 1 by omega]
      rfl
    · rw [if_neg g2, if_neg (by omega)]
/-- it throws one of the class ci, with the heap n1, h1 -/
def Tx (ci n1 : Nat) (h1 : AH) : Rz → Nat → AH → Prop := fun r n h => r = .inr ci ∧ n = n1 ∧ h = h1
/-- it makes one of the class ci and throws it -/
abbrev Th (ci n : Nat) (h : AH) : Rz → Nat → AH → Prop := Tx ci (n + 1) (hu h n (.inr (ci, [])))
section JT
variable {p : Program} {l : Launch} {e : Env} {R : Room} {s : State} {m : MethodId} {args : Array Value} {below : List Frame} {meth : Method} {c : Code} {D : va_G} {cA : Nat → ClassId} {b nL : Nat} {Q : State → Prop} {n : Nat} {h : AH} {kc ks pc : Nat} {L : List (Nat × Value)} {st : List Value} {own mn : String} {cc : ByteArray} {ret : Option FieldType} {hh : List (Nat × Nat × Nat × Nat)} {Qa : Rz → Nat → AH → Prop} {mc ms : Nat}
theorem jk_x (C : Cx p l s m meth c D cA b nL own mn cc ret hh) {ci n1 : Nat} {h1 : AH} (hout : hh = []) (hc : kc ≤ mc) (hs : ks ≤ ms) (hQ : Qa (.inr ci) n1 h1) : JK p l e R s m args below meth c D cA b nL (EndQ D cA b s below Qa mc ms) kc ks pc L st (Tx ci n1 h1) := by
  refine ⟨fun v n' h' hq => (by cases hq.1), fun ci' n' h' q hq hqn hqx => ?_⟩
  obtain ⟨e1, rfl, rfl⟩ := hq
  cases e1
  exact jx_out C (by rw [hout]; intro x hx; cases hx) hqn hqx hc hs hQ
theorem jk_c (C : Cx p l s m meth c D cA b nL own mn cc ret hh) {ci n1 : Nat} {h1 : AH} {E name : String} {T0 : u_T} (hE : g_cl[ci]? = some (E, T0, 0)) (pre : List ExceptionTableEntry) (x : ExceptionTableEntry) (suf : List ExceptionTableEntry) (hsplit : tableOf hh = pre ++ x :: suf)
    (hpass : ∀ z ∈ pre, covers z pc = false ∨ (z.catchType ≠ 0 ∧ ∃ nm : String, Cond.classLink own z.catchType nm ∈ g_ws ∧ (E, nm) ∈ g_nc)) (hcv : covers x pc = true) (h0 : x.catchType ≠ 0)
    (hlink : Cond.classLink own x.catchType name ∈ g_ws) (hcast : Cond.castable E name ∈ g_ws)
    (kk : ∀ q, J p l e R s m args below meth c D cA b nL Q n1 h1 kc ks x.handlerPc L [.ref q]) : JK p l e R s m args below meth c D cA b nL Q kc ks pc L st (Tx ci n1 h1) := by
  refine ⟨fun v n' h' hq => (by cases hq.1), fun ci' n' h' q hq hqn hqx => ?_⟩
  obtain ⟨e1, rfl, rfl⟩ := hq
  cases e1
  exact jx_catch C hE pre x suf hsplit hpass hcv h0 hlink hcast hqn hqx (kk q)
end JT
section JL
variable {p : Program} {l : Launch} {e : Env} {R : Room} {s : State} {m : MethodId} {args : Array Value} {below : List Frame} {meth : Method} {c : Code} {D : va_G} {cA : Nat → ClassId} {b nL : Nat} {Q : State → Prop} {n : Nat} {h : AH} {kc ks pc : Nat} {L : List (Nat × Value)} {st : List Value} {own mn : String} {cc : ByteArray} {ret : Option FieldType} {hh : List (Nat × Nat × Nat × Nat)} {a : Nat} {cs cs' : List AC}
theorem jl_get (o : Nat) (C : Cx p l s m meth c D cA b nL own mn cc ret hh) {index ci k : Nat} {fs : List Value} {v : Value} (hF : FL own index ci k) (hd : decode cc pc = .ok (.getfield index, 3)) (hn : a + cs.length ≤ n) (hx : cs[o]? = some (.inr (ci, fs))) (hv : fs[k]? = some v) (kk : J p l e R s m args below meth c D cA b nL Q n (ovL a cs h) kc ks (pc + 3) L (v :: st)) : J p l e R s m args below meth c D cA b nL Q n (ovL a cs h) kc ks pc L (.ref (a + o) :: st) :=
  j_get C hF hd (by have := (List.getElem?_eq_some_iff.mp hx).1; omega) (ovL_c hx) hv kk
theorem jl_put (o : Nat) (C : Cx p l s m meth c D cA b nL own mn cc ret hh) {index ci k : Nat} {ty : FieldType} {fs : List Value} {v : Value} (hF : FP own index ci k false ty) (hd : decode cc pc = .ok (.putfield index, 3)) (hn : a + cs.length ≤ n) (hx : cs[o]? = some (.inr (ci, fs))) (hl : k < fs.length) (hnr : narrow ty v = v) (hf : fits ty v = true) (hcs : cs.set o (.inr (ci, fs.set k v)) = cs') (kk : J p l e R s m args below meth c D cA b nL Q n (ovL a cs' h) kc ks (pc + 3) L st) : J p l e R s m args below meth c D cA b nL Q n (ovL a cs h) kc ks pc L (v :: .ref (a + o) :: st) := by
  have ho := (List.getElem?_eq_some_iff.mp hx).1
  exact j_put C hF hd (by omega) (ovL_c hx) hl hnr hf rfl (by rw [ovL_u ho hcs]; exact kk)
theorem jl_putF (o : Nat) (C : Cx p l s m meth c D cA b nL own mn cc ret hh) {index ci k : Nat} {ty : FieldType} {fs : List Value} {v : Value} (hF : FP own index ci k true ty) (hmn : mn = "<init>") (hd : decode cc pc = .ok (.putfield index, 3)) (hn : a + cs.length ≤ n) (hx : cs[o]? = some (.inr (ci, fs))) (hl : k < fs.length) (hnr : narrow ty v = v) (hf : fits ty v = true) (hcs : cs.set o (.inr (ci, fs.set k v)) = cs') (kk : J p l e R s m args below meth c D cA b nL Q n (ovL a cs' h) kc ks (pc + 3) L st) : J p l e R s m args below meth c D cA b nL Q n (ovL a cs h) kc ks pc L (v :: .ref (a + o) :: st) := by
  have ho := (List.getElem?_eq_some_iff.mp hx).1
  exact j_putF C hF hmn hd (by omega) (ovL_c hx) hl hnr hf rfl (by rw [ovL_u ho hcs]; exact kk)
theorem jl_new (k : Nat) (C : Cx p l s m meth c D cA b nL own mn cc ret hh) {index ci : Nat} {fs : List Value} (hF : NL own index ci fs) (hd : decode cc pc = .ok (.new index, 3)) (hc1 : kc + 1 ≤ R.cells) (hc2 : ks + fs.length ≤ R.slots) (hk : cs.length = k) (hcs : cs ++ [.inr (ci, fs)] = cs') (kk : J p l e R s m args below meth c D cA b nL Q (a + (k + 1)) (ovL a cs' h) (kc + 1) (ks + fs.length) (pc + 3) L (.ref (a + k) :: st)) : J p l e R s m args below meth c D cA b nL Q (a + k) (ovL a cs h) kc ks pc L st :=
  j_new C hF hd hc1 hc2 (by rw [ovL_new hk hcs]; exact kk)
theorem jl_newa (k : Nat) (C : Cx p l s m meth c D cA b nL own mn cc ret hh) {atype : ArrayType} {t N : Nat} {i : Int32} {ty : FieldType} {a0 : vp_A} (hd : decode cc pc = .ok (.newarray atype, 2)) (ht : (g_ty cA)[t]? = some (cA t, ty)) (hty : newarray.typeOf atype = ty) (hra : ∀ cX, va_RA s cX ty = (s.vm.findClass ("[" ++ ty.toString) = some cX)) (hw : Cond.arrayClass ty ∈ g_ws) (hi : ¬ i < 0) (hN : i.toNatClampNeg = N) (hb : N * componentBytes ty ≤ 536870912) (ha : ∀ cX : ClassId, vp_cell cX (sa b a0) = arrV cX N (fun _ => defaultValue ty)) (hc1 : kc + 1 ≤ R.cells) (hc2 : ks + N ≤ R.slots) (hk : cs.length = k) (hcs : cs ++ [.inl (t, a0)] = cs') (kk : J p l e R s m args below meth c D cA b nL Q (a + (k + 1)) (ovL a cs' h) (kc + 1) (ks + N) (pc + 2) L (.ref (a + k) :: st)) : J p l e R s m args below meth c D cA b nL Q (a + k) (ovL a cs h) kc ks pc L (.int i :: st) :=
  j_newa C hd ht hty hra hw hi hN hb ha hc1 hc2 (by rw [ovL_new hk hcs]; exact kk)
theorem jl_anewa (k : Nat) (C : Cx p l s m meth c D cA b nL own mn cc ret hh) {index t N : Nat} {i : Int32} {Cl : String} (hd : decode cc pc = .ok (.anewarray index, 3)) (ht : (g_ty cA)[t]? = some (cA t, .object Cl)) (hw1 : Cond.classLink own index Cl ∈ g_ws) (hw2 : Cond.arrayOver (.object Cl) ∈ g_ws) (hi : ¬ i < 0) (hN : i.toNatClampNeg = N) (hb : N * 4 ≤ 536870912) (hc1 : kc + 1 ≤ R.cells) (hc2 : ks + N ≤ R.slots) (hk : cs.length = k) (hcs : cs ++ [.inl (t, N, .inr (.inr (.inr (.inr (fun _ => none)))))] = cs') (kk : J p l e R s m args below meth c D cA b nL Q (a + (k + 1)) (ovL a cs' h) (kc + 1) (ks + N) (pc + 3) L (.ref (a + k) :: st)) : J p l e R s m args below meth c D cA b nL Q (a + k) (ovL a cs h) kc ks pc L (.int i :: st) :=
  j_anewa C hd ht hw1 hw2 hi hN hb hc1 hc2 (by rw [ovL_new hk hcs]; exact kk)
end JL
/-! ===== the class's own cells at xo: numbers ξ, arrays β by cell, reports ρ, the two books at u and v ===== -/
