/-! ===== the class's own cells at xo: numbers ξ, arrays β by cell, reports ρ, the two books at u and v: printed by program ===== -/
def xcs (xo : Nat) (ξ : Nat → Int32) (β : Nat → Nat → Int32) (ρ : Nat → Option Nat) (u v : Nat) : List AC := [.inr (0, [.ref (xo + 1), .int (ξ 0), .ref (xo + 2), .ref (xo + 3), .int (ξ 1), .ref (xo + 4), .int (ξ 2), .ref (xo + 5), .ref (xo + u), .ref (xo + v), .int (ξ 3), .ref (xo + 20), .ref (xo + 23), .ref (xo + 26)]),
  .inl (5, 30, .inr (.inr (.inr (.inr ρ)))),
  .inl (0, 5, .inl (β 2)),
  .inl (0, 20, .inl (β 3)),
  .inl (1, 300, .inl (β 4)),
  .inr (1, [.ref (xo + 4), .int (ξ 4), .int (ξ 5)]),
  .inr (2, [.int (ξ 6), .ref (xo + 7), .ref (xo + 8), .ref (xo + 9), .ref (xo + 10), .ref (xo + 11), .ref (xo + 12)]),
  .inl (3, 20, .inl (β 7)),
  .inl (0, 20, .inl (β 8)),
  .inl (0, 40, .inl (β 9)),
  .inl (0, 160, .inl (β 10)),
  .inl (0, 160, .inl (β 11)),
  .inl (2, 160, .inl (β 12)),
  .inr (2, [.int (ξ 7), .ref (xo + 14), .ref (xo + 15), .ref (xo + 16), .ref (xo + 17), .ref (xo + 18), .ref (xo + 19)]),
  .inl (3, 20, .inl (β 14)),
  .inl (0, 20, .inl (β 15)),
  .inl (0, 40, .inl (β 16)),
  .inl (0, 160, .inl (β 17)),
  .inl (0, 160, .inl (β 18)),
  .inl (2, 160, .inl (β 19)),
  .inr (3, [.ref (xo + 21), .ref (xo + 22), .int (ξ 8)]),
  .inl (0, 40, .inl (β 21)),
  .inl (0, 40, .inl (β 22)),
  .inr (3, [.ref (xo + 24), .ref (xo + 25), .int (ξ 9)]),
  .inl (0, 40, .inl (β 24)),
  .inl (0, 40, .inl (β 25)),
  .inr (4, [.ref (xo + 27), .int (ξ 10)]),
  .inl (1, 206, .inl (β 27))]
def ovX (xo : Nat) (ξ : Nat → Int32) (β : Nat → Nat → Int32) (ρ : Nat → Option Nat) (u v : Nat) (h : AH) : AH := ovL xo (xcs xo ξ β ρ u v) h
theorem xcs_l (xo : Nat) (ξ : Nat → Int32) (β : Nat → Nat → Int32) (ρ : Nat → Option Nat) (u v : Nat) : (xcs xo ξ β ρ u v).length = 28 := rfl
theorem ovX_c {xo : Nat} {ξ : Nat → Int32} {β : Nat → Nat → Int32} {ρ : Nat → Option Nat} {u v : Nat} {h : AH} {o : Nat} {x : AC} (hx : (xcs xo ξ β ρ u v)[o]? = some x) : ovX xo ξ β ρ u v h (xo + o) = x := ovL_c hx
theorem ovX_n {xo : Nat} {ξ : Nat → Int32} {β : Nat → Nat → Int32} {ρ : Nat → Option Nat} {u v : Nat} {h : AH} {j : Nat} (hj : j < xo ∨ xo + 28 ≤ j) : ovX xo ξ β ρ u v h j = h j := ovL_n hj
theorem ovX_out {xo : Nat} {ξ : Nat → Int32} {β : Nat → Nat → Int32} {ρ : Nat → Option Nat} {u v : Nat} {h : AH} {j : Nat} {x : AC} (hj : j < xo ∨ xo + 28 ≤ j) : hu (ovX xo ξ β ρ u v h) j x = ovX xo ξ β ρ u v (hu h j x) := ovL_out hj
theorem ovX_u {xo : Nat} {ξ ξ' : Nat → Int32} {β β' : Nat → Nat → Int32} {ρ ρ' : Nat → Option Nat} {u v u' v' : Nat} {h : AH} {o : Nat} {x : AC} (ho : o < 28) (hx : (xcs xo ξ β ρ u v).set o x = xcs xo ξ' β' ρ' u' v') : hu (ovX xo ξ β ρ u v h) (xo + o) x = ovX xo ξ' β' ρ' u' v' h := ovL_u (by rw [xcs_l]; exact ho) hx
theorem ovX_M {xo mo : Nat} {ξ : Nat → Int32} {β : Nat → Nat → Int32} {ρ : Nat → Option Nat} {u v : Nat} {σ : Nat → Int32} {α : Nat → Nat → Int32} {h : AH} (hd : xo + 28 ≤ mo) : ovX xo ξ β ρ u v (ovM mo σ α h) = ovM mo σ α (ovX xo ξ β ρ u v h) := by
  rw [ovM_L, ovM_L]
  exact ovL_ovL (Or.inl hd)
section JXO
variable {p : Program} {l : Launch} {e : Env} {R : Room} {s : State} {m : MethodId} {args : Array Value} {below : List Frame} {meth : Method} {c : Code} {D : va_G} {cA : Nat → ClassId} {b nL : Nat} {Q : State → Prop} {n : Nat} {h : AH} {kc ks pc : Nat} {L : List (Nat × Value)} {st : List Value} {own mn : String} {cc : ByteArray} {ret : Option FieldType} {hh : List (Nat × Nat × Nat × Nat)} {xo : Nat} {ξ ξ' : Nat → Int32} {β β' : Nat → Nat → Int32} {ρ ρ' : Nat → Option Nat} {u v u' v' : Nat}

theorem jx_get (o : Nat) (C : Cx p l s m meth c D cA b nL own mn cc ret hh) {index ci k : Nat} {fs : List Value} {w : Value} (hF : FL own index ci k) (hd : decode cc pc = .ok (.getfield index, 3)) (hn : xo + 28 ≤ n) (hx : (xcs xo ξ β ρ u v)[o]? = some (.inr (ci, fs))) (hv : fs[k]? = some w) (kk : J p l e R s m args below meth c D cA b nL Q n (ovX xo ξ β ρ u v h) kc ks (pc + 3) L (w :: st)) : J p l e R s m args below meth c D cA b nL Q n (ovX xo ξ β ρ u v h) kc ks pc L (.ref (xo + o) :: st) :=
  j_get C hF hd (by have z : o < 28 := (List.getElem?_eq_some_iff.mp hx).1; omega) (ovX_c hx) hv kk
theorem jx_put (o : Nat) (C : Cx p l s m meth c D cA b nL own mn cc ret hh) {index ci k : Nat} {ty : FieldType} {fs : List Value} {w : Value} (hF : FP own index ci k false ty) (hd : decode cc pc = .ok (.putfield index, 3)) (hn : xo + 28 ≤ n) (hx : (xcs xo ξ β ρ u v)[o]? = some (.inr (ci, fs))) (hl : k < fs.length) (hnr : narrow ty w = w) (hf : fits ty w = true) (hcs : (xcs xo ξ β ρ u v).set o (.inr (ci, fs.set k w)) = xcs xo ξ' β' ρ' u' v') (kk : J p l e R s m args below meth c D cA b nL Q n (ovX xo ξ' β' ρ' u' v' h) kc ks (pc + 3) L st) : J p l e R s m args below meth c D cA b nL Q n (ovX xo ξ β ρ u v h) kc ks pc L (w :: .ref (xo + o) :: st) := by
  have ho : o < 28 := (List.getElem?_eq_some_iff.mp hx).1
  exact j_put C hF hd (by omega) (ovX_c hx) hl hnr hf rfl (by rw [ovX_u ho hcs]; exact kk)
theorem jx_puti (o z : Nat) (C : Cx p l s m meth c D cA b nL own mn cc ret hh) {index ci k : Nat} {ty : FieldType} {fs : List Value} {x : Int32} (hF : FP own index ci k false ty) (hd : decode cc pc = .ok (.putfield index, 3)) (hn : xo + 28 ≤ n) (hx : (xcs xo ξ β ρ u v)[o]? = some (.inr (ci, fs))) (hl : k < fs.length) (hnr : narrow ty (.int x) = .int x) (hf : fits ty (.int x) = true) (hcs : (xcs xo ξ β ρ u v).set o (.inr (ci, fs.set k (.int x))) = xcs xo (upd ξ z x) β ρ u v) (kk : J p l e R s m args below meth c D cA b nL Q n (ovX xo (upd ξ z x) β ρ u v h) kc ks (pc + 3) L st) : J p l e R s m args below meth c D cA b nL Q n (ovX xo ξ β ρ u v h) kc ks pc L (.int x :: .ref (xo + o) :: st) :=
  jx_put o C hF hd hn hx hl hnr hf hcs kk
theorem jx_iald (o : Nat) (C : Cx p l s m meth c D cA b nL own mn cc ret hh) {N : Nat} {f : Nat → Int32} {i w : Int32} (hd : decode cc pc = .ok (.iaload, 1)) (hn : xo + 28 ≤ n) (hx : (xcs xo ξ β ρ u v)[o]? = some (.inl (0, N, .inl f))) (hi : vp_in i N) (hv : f i.toNatClampNeg = w) (kk : J p l e R s m args below meth c D cA b nL Q n (ovX xo ξ β ρ u v h) kc ks (pc + 1) L (.int w :: st)) : J p l e R s m args below meth c D cA b nL Q n (ovX xo ξ β ρ u v h) kc ks pc L (.int i :: .ref (xo + o) :: st) :=
  j_iald C hd rfl (by have z : o < 28 := (List.getElem?_eq_some_iff.mp hx).1; omega) (ovX_c hx) hi hv kk
theorem jx_bald (o : Nat) (C : Cx p l s m meth c D cA b nL own mn cc ret hh) {N : Nat} {f : Nat → Int32} {i w : Int32} (hd : decode cc pc = .ok (.baload, 1)) (hn : xo + 28 ≤ n) (hx : (xcs xo ξ β ρ u v)[o]? = some (.inl (1, N, .inl f))) (hi : vp_in i N) (hv : f i.toNatClampNeg = w) (kk : J p l e R s m args below meth c D cA b nL Q n (ovX xo ξ β ρ u v h) kc ks (pc + 1) L (.int w :: st)) : J p l e R s m args below meth c D cA b nL Q n (ovX xo ξ β ρ u v h) kc ks pc L (.int i :: .ref (xo + o) :: st) :=
  j_bald C hd rfl (by have z : o < 28 := (List.getElem?_eq_some_iff.mp hx).1; omega) (ovX_c hx) hi hv kk
theorem jx_zald (o : Nat) (C : Cx p l s m meth c D cA b nL own mn cc ret hh) {N : Nat} {f : Nat → Int32} {i w : Int32} (hd : decode cc pc = .ok (.baload, 1)) (hn : xo + 28 ≤ n) (hx : (xcs xo ξ β ρ u v)[o]? = some (.inl (2, N, .inl f))) (hi : vp_in i N) (hv : f i.toNatClampNeg = w) (kk : J p l e R s m args below meth c D cA b nL Q n (ovX xo ξ β ρ u v h) kc ks (pc + 1) L (.int w :: st)) : J p l e R s m args below meth c D cA b nL Q n (ovX xo ξ β ρ u v h) kc ks pc L (.int i :: .ref (xo + o) :: st) :=
  j_zald C hd rfl (by have z : o < 28 := (List.getElem?_eq_some_iff.mp hx).1; omega) (ovX_c hx) hi hv kk
theorem jx_cald (o : Nat) (C : Cx p l s m meth c D cA b nL own mn cc ret hh) {N : Nat} {f : Nat → Int32} {i w : Int32} (hd : decode cc pc = .ok (.caload, 1)) (hn : xo + 28 ≤ n) (hx : (xcs xo ξ β ρ u v)[o]? = some (.inl (3, N, .inl f))) (hi : vp_in i N) (hv : f i.toNatClampNeg = w) (kk : J p l e R s m args below meth c D cA b nL Q n (ovX xo ξ β ρ u v h) kc ks (pc + 1) L (.int w :: st)) : J p l e R s m args below meth c D cA b nL Q n (ovX xo ξ β ρ u v h) kc ks pc L (.int i :: .ref (xo + o) :: st) :=
  j_cald C hd rfl (by have z : o < 28 := (List.getElem?_eq_some_iff.mp hx).1; omega) (ovX_c hx) hi hv kk
theorem jx_iast (o : Nat) (C : Cx p l s m meth c D cA b nL own mn cc ret hh) {N : Nat} {i x : Int32} (hd : decode cc pc = .ok (.iastore, 1)) (hn : xo + 28 ≤ n) (hx : (xcs xo ξ β ρ u v)[o]? = some (.inl (0, N, .inl (β o)))) (hi : vp_in i N) (hcs : (xcs xo ξ β ρ u v).set o (.inl (0, N, .inl (upd (β o) i.toNatClampNeg x))) = xcs xo ξ (upa β o (upd (β o) i.toNatClampNeg x)) ρ u v) (kk : J p l e R s m args below meth c D cA b nL Q n (ovX xo ξ (upa β o (upd (β o) i.toNatClampNeg x)) ρ u v h) kc ks (pc + 1) L st) : J p l e R s m args below meth c D cA b nL Q n (ovX xo ξ β ρ u v h) kc ks pc L (.int x :: .int i :: .ref (xo + o) :: st) := by
  have ho : o < 28 := (List.getElem?_eq_some_iff.mp hx).1
  exact j_iast C hd rfl (by omega) (ovX_c hx) hi rfl (by rw [ovX_u ho hcs]; exact kk)
theorem jx_bast (o : Nat) (C : Cx p l s m meth c D cA b nL own mn cc ret hh) {N : Nat} {i x : Int32} (hd : decode cc pc = .ok (.bastore, 1)) (hn : xo + 28 ≤ n) (hx : (xcs xo ξ β ρ u v)[o]? = some (.inl (1, N, .inl (β o)))) (hi : vp_in i N) (hcs : (xcs xo ξ β ρ u v).set o (.inl (1, N, .inl (upd (β o) i.toNatClampNeg (vp_nar .byte x)))) = xcs xo ξ (upa β o (upd (β o) i.toNatClampNeg (vp_nar .byte x))) ρ u v) (kk : J p l e R s m args below meth c D cA b nL Q n (ovX xo ξ (upa β o (upd (β o) i.toNatClampNeg (vp_nar .byte x))) ρ u v h) kc ks (pc + 1) L st) : J p l e R s m args below meth c D cA b nL Q n (ovX xo ξ β ρ u v h) kc ks pc L (.int x :: .int i :: .ref (xo + o) :: st) := by
  have ho : o < 28 := (List.getElem?_eq_some_iff.mp hx).1
  exact j_bast C hd rfl (by omega) (ovX_c hx) hi rfl (by rw [ovX_u ho hcs]; exact kk)
theorem jx_zast (o : Nat) (C : Cx p l s m meth c D cA b nL own mn cc ret hh) {N : Nat} {i x : Int32} (hd : decode cc pc = .ok (.bastore, 1)) (hn : xo + 28 ≤ n) (hx : (xcs xo ξ β ρ u v)[o]? = some (.inl (2, N, .inl (β o)))) (hi : vp_in i N) (hcs : (xcs xo ξ β ρ u v).set o (.inl (2, N, .inl (upd (β o) i.toNatClampNeg (vp_nar .boolean x)))) = xcs xo ξ (upa β o (upd (β o) i.toNatClampNeg (vp_nar .boolean x))) ρ u v) (kk : J p l e R s m args below meth c D cA b nL Q n (ovX xo ξ (upa β o (upd (β o) i.toNatClampNeg (vp_nar .boolean x))) ρ u v h) kc ks (pc + 1) L st) : J p l e R s m args below meth c D cA b nL Q n (ovX xo ξ β ρ u v h) kc ks pc L (.int x :: .int i :: .ref (xo + o) :: st) := by
  have ho : o < 28 := (List.getElem?_eq_some_iff.mp hx).1
  exact j_zast C hd rfl (by omega) (ovX_c hx) hi rfl (by rw [ovX_u ho hcs]; exact kk)
theorem jx_cast (o : Nat) (C : Cx p l s m meth c D cA b nL own mn cc ret hh) {N : Nat} {i x : Int32} (hd : decode cc pc = .ok (.castore, 1)) (hn : xo + 28 ≤ n) (hx : (xcs xo ξ β ρ u v)[o]? = some (.inl (3, N, .inl (β o)))) (hi : vp_in i N) (hcs : (xcs xo ξ β ρ u v).set o (.inl (3, N, .inl (upd (β o) i.toNatClampNeg (vp_nar .char x)))) = xcs xo ξ (upa β o (upd (β o) i.toNatClampNeg (vp_nar .char x))) ρ u v) (kk : J p l e R s m args below meth c D cA b nL Q n (ovX xo ξ (upa β o (upd (β o) i.toNatClampNeg (vp_nar .char x))) ρ u v h) kc ks (pc + 1) L st) : J p l e R s m args below meth c D cA b nL Q n (ovX xo ξ β ρ u v h) kc ks pc L (.int x :: .int i :: .ref (xo + o) :: st) := by
  have ho : o < 28 := (List.getElem?_eq_some_iff.mp hx).1
  exact j_cast C hd rfl (by omega) (ovX_c hx) hi rfl (by rw [ovX_u ho hcs]; exact kk)
theorem jx_alen (o : Nat) (C : Cx p l s m meth c D cA b nL own mn cc ret hh) {t : Nat} {x : vp_A} {ty : FieldType} {w : Int32} (hd : decode cc pc = .ok (.arraylength, 1)) (ht : (g_ty cA)[t]? = some (cA t, ty)) (hn : xo + 28 ≤ n) (hx : (xcs xo ξ β ρ u v)[o]? = some (.inl (t, x))) (hv : Int32.ofNat x.1 = w) (kk : J p l e R s m args below meth c D cA b nL Q n (ovX xo ξ β ρ u v h) kc ks (pc + 1) L (.int w :: st)) : J p l e R s m args below meth c D cA b nL Q n (ovX xo ξ β ρ u v h) kc ks pc L (.ref (xo + o) :: st) :=
  j_alen C hd ht (by have z : o < 28 := (List.getElem?_eq_some_iff.mp hx).1; omega) (ovX_c hx) hv kk
theorem jx_aald (C : Cx p l s m meth c D cA b nL own mn cc ret hh) {i : Int32} {w : Value} (hd : decode cc pc = .ok (.aaload, 1)) (hn : xo + 28 ≤ n) (hi : vp_in i 30) (hv : va_rf (ρ i.toNatClampNeg) = w) (kk : J p l e R s m args below meth c D cA b nL Q n (ovX xo ξ β ρ u v h) kc ks (pc + 1) L (w :: st)) : J p l e R s m args below meth c D cA b nL Q n (ovX xo ξ β ρ u v h) kc ks pc L (.int i :: .ref (xo + 1) :: st) :=
  j_aald C hd rfl (by omega) (ovX_c (o := 1) rfl) hi hv kk
theorem jx_aast (C : Cx p l s m meth c D cA b nL own mn cc ret hh) {i : Int32} {w ci : Nat} {fs : List Value} {T0 : u_T} {N0 : Nat} (hd : decode cc pc = .ok (.aastore, 1)) (hn : xo + 28 ≤ n) (hw : xo + 28 ≤ w) (hwn : w < n) (hy : h w = .inr (ci, fs)) (hc : g_cl[ci]? = some ("ReportChecks2$Report", T0, N0)) (hi : vp_in i 30) (kk : J p l e R s m args below meth c D cA b nL Q n (ovX xo ξ β (va_up ρ i.toNatClampNeg (some w)) u v h) kc ks (pc + 1) L st) : J p l e R s m args below meth c D cA b nL Q n (ovX xo ξ β ρ u v h) kc ks pc L (.ref w :: .int i :: .ref (xo + 1) :: st) :=
  j_aast C hd rfl (by omega) (ovX_c (o := 1) rfl) hwn ((ovX_n (Or.inr hw)).trans hy) hc hi rfl (by
    have e9 : hu (ovX xo ξ β ρ u v h) (xo + 1) (.inl (5, 30, .inr (.inr (.inr (.inr (va_up ρ i.toNatClampNeg (some w))))))) = ovX xo ξ β (va_up ρ i.toNatClampNeg (some w)) u v h := ovX_u (by decide) rfl
    rw [e9]
    exact kk)
end JXO
