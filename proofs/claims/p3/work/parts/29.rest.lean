/-! ===== what was thrown; Object's constructor; arrays of references; the JDK's members ===== -/
section JZ
variable {p : Program} {l : Launch} {e : Env} {R : Room} {s : State} {m : MethodId} {args : Array Value} {below : List Frame} {meth : Method} {c : Code} {D : va_G} {cA : Nat → ClassId} {b nL : Nat} {Q : State → Prop} {n : Nat} {h : AH} {kc ks pc : Nat} {L : List (Nat × Value)} {st : List Value} {own mn : String} {cc : ByteArray} {ret : Option FieldType} {hh : List (Nat × Nat × Nat × Nat)} {Qa : Rz → Nat → AH → Prop} {mc ms : Nat}
/-- not caught here: it goes on to the caller -/
theorem jx_out (C : Cx p l s m meth c D cA b nL own mn cc ret hh) {ci q : Nat} (hout : ∀ x ∈ tableOf hh, covers x pc = false) (hq : q < n) (hx : h q = .inr (ci, [])) (hc : kc ≤ mc) (hs : ks ≤ ms) (hQ : Qa (.inr ci) n h) : JX p l e R s m args below meth c D cA b nL (EndQ D cA b s below Qa mc ms) n h kc ks pc L q := by
  intro H locs ls rest T hp hS hl hT X
  obtain ⟨st1, hrun, hend, hW, hsm⟩ := X.leaveThrown (b + q) (g := F0 m pc ls rest) rfl rfl rfl (by rw [C.2.2.2.2.2.2.2.1]; exact hout) C.2.2.2.2.2.1
  refine ⟨_, st1, _, hrun, hend, hW, ⟨locs, hsm.mono hc hs, hS.2.2⟩, fun z hz => ?_, n, h, .inr ci, ?_, ⟨q, hq, rfl, hx⟩, hQ⟩
  · show T.heap[z]? = s.heap[z]?
    rw [hT]; exact S_low C.2.2.2.2.1.2.2.1 hS z hz
  · show Hp D cA b n h T.heap
    rw [hT]; exact hp
/-- caught by the row x of the table, behind rows that don't take it -/
theorem jx_catch (C : Cx p l s m meth c D cA b nL own mn cc ret hh) {ci q : Nat} {E name : String} {T0 : u_T} (hE : g_cl[ci]? = some (E, T0, 0)) (pre : List ExceptionTableEntry) (x : ExceptionTableEntry) (suf : List ExceptionTableEntry) (hsplit : tableOf hh = pre ++ x :: suf)
    (hpass : ∀ z ∈ pre, covers z pc = false ∨ (z.catchType ≠ 0 ∧ ∃ nm : String, Cond.classLink own z.catchType nm ∈ g_ws ∧ (E, nm) ∈ g_nc)) (hcv : covers x pc = true) (h0 : x.catchType ≠ 0)
    (hlink : Cond.classLink own x.catchType name ∈ g_ws) (hcast : Cond.castable E name ∈ g_ws) (hq : q < n) (hx : h q = .inr (ci, []))
    (kk : J p l e R s m args below meth c D cA b nL Q n h kc ks x.handlerPc L [.ref q]) : JX p l e R s m args below meth c D cA b nL Q n h kc ks pc L q := by
  intro H locs ls rest T hp hS hl hT X
  have hpl : e.platform.magicAccessors = ({} : Platform).magicAccessors := by rw [X.admits.platform]
  obtain ⟨r9, g1, ce, hcell, hcls, hv, -⟩ := hp.2 q _ (hp.obj hq hx)
  cases Option.some.inj (g1.symm.trans hE)
  have hcl : s.vm.findClass E = some ce.cls := by rw [hcls]; exact (C.2.2.2.2.1.2.1.1 ci _ hE).2.1
  obtain ⟨c3, c4, hc3, hc4, hasg⟩ := Cond.castable_spec (C.w hcast rfl args)
  cases Option.some.inj (hc3.symm.trans hcl)
  obtain ⟨c5, hc5, hcl5⟩ := Cond.classLink_spec C.2.2.2.1 (C.w hlink rfl args) e.platform hpl
  cases Option.some.inj (hc4.symm.trans hc5)
  obtain ⟨vm', X', st⟩ := X.thenCaughtThrough (b + q) (g := F0 m pc ls rest) rfl (Steps.refl _) (by rw [hT]; exact hcell) (by rw [hv]; rfl) (by obtain ⟨k9, h9, -⟩ := Vm.findClass_spec hcl; exact ⟨k9, h9⟩) pre x suf (C.2.2.2.2.2.2.2.1.trans hsplit)
    (fun z hz => by
      rcases hpass z hz with h | ⟨hz0, nm, hl1, hn1⟩
      · exact Or.inl h
      · obtain ⟨c6, hc6, hcl6⟩ := Cond.classLink_spec C.2.2.2.1 (C.w hl1 rfl args) e.platform hpl
        obtain ⟨a8, b8, h1, h2, h3⟩ := C.2.2.2.2.1.2.2.2.1 _ hn1
        cases Option.some.inj (h1.symm.trans hcl)
        cases Option.some.inj (h2.symm.trans hc6)
        exact Or.inr ⟨hz0, _, hcl6, h3⟩) hcv (Or.inr ⟨h0, c4, hcl5, hasg⟩)
  obtain ⟨t, a1, b1⟩ := kk H locs ls hp hS hl (T.setVm vm') hT X'
  exact ⟨t, st.trans a1, b1⟩
theorem j_objInit (C : Cx p l s m meth c D cA b nL own mn cc ret hh) {index a : Nat} (hd : decode cc pc = .ok (.invokespecial index, 3)) (h1 : Cond.methodLink own index Lib.objectInit ∈ g_ws) (h2 : Cond.instanceMethod Lib.objectInit ∈ g_ws) (h3 : Cond.code Lib.objectInit ⟨#[0xb1]⟩ 1 none ∈ g_ws) (hR1 : 1 ≤ R.frames) (hR2 : (st.map fun v => v.category).sum + 12 ≤ R.locals) (kk : J p l e R s m args below meth c D cA b nL Q n h kc ks (pc + 3) L st) : J p l e R s m args below meth c D cA b nL Q n h kc ks pc L (.ref a :: st) :=
  fun H locs ls hp hS hl => W.objInit C.1 C.2.1 C.2.2.2.1 (C.w h1 rfl args) (C.w h2 rfl args) (C.w h3 rfl args) rfl (hl.1.trans C.2.2.1.symm) rfl hd hR1 (by show 2 * 0 + ((st.map (sv b)).map fun v => v.category).sum + 12 ≤ R.locals; rw [sv_sum]; omega) (kk H locs ls hp hS hl)
theorem j_aast (C : Cx p l s m meth c D cA b nL own mn cc ret hh) {t a v N ci : Nat} {f f' : Nat → Option Nat} {fs : List Value} {i : Int32} {Cl : String} {T0 : u_T} {N0 : Nat} (hd : decode cc pc = .ok (.aastore, 1)) (ht : (g_ty cA)[t]? = some (cA t, .object Cl)) (ha : a < n) (hx : h a = .inl (t, N, .inr (.inr (.inr (.inr f))))) (hv : v < n) (hy : h v = .inr (ci, fs)) (hc : g_cl[ci]? = some (Cl, T0, N0)) (hi : vp_in i N) (hf : va_up f i.toNatClampNeg (some v) = f') (kk : J p l e R s m args below meth c D cA b nL Q n (hu h a (.inl (t, N, .inr (.inr (.inr (.inr f')))))) kc ks (pc + 1) L st) : J p l e R s m args below meth c D cA b nL Q n h kc ks pc L (.ref v :: .int i :: .ref a :: st) := by
  intro H locs ls hp hS hl
  subst hf
  have hK := C.2.2.2.2.1.2.1
  have hg := hp.obj ha hx
  have hlt : i.toNatClampNeg < N := Nat.not_le.mp fun q => hi (Or.inr q)
  have h0 : ¬ i < 0 := fun q => hi (Or.inl q)
  obtain ⟨r', hr', cellV, g1, g2, g3, -⟩ := hp.2 v _ (hp.obj hv hy)
  have hcls := (hK.1 ci _ hc).2
  obtain ⟨kA, comp, k1, k2, k3, -⟩ := (hK.2 t _ ht).2
  have hcomp : comp = D.1 ci := Option.some.inj (k3.symm.trans hcls.1)
  subst hcomp
  obtain ⟨kC, hkC, -⟩ := hcls.2
  refine W.aast C.1 C.2.1 (hp.2 a _ hg) (fun q h => by cases h) (fun h => by cases h) k1 k2 rfl hkC ⟨h0, by show _ < (arrV _ _ _).slots.size; rw [arrV_size]; exact hlt⟩ g1 (fun q h => by rw [g3] at h; cases h) (by rw [g2]; exact hkC) (by rw [g2]; exact va_assign hcls) rfl rfl hd fun H1 e z oq => ?_
  refine kk H1 _ ls (hp.up ha z (hp.2.set (wO_D b cA n h) hg ?_ oq)) (S_put hS z oq (Nat.le_add_right b a)) hl
  show H1[b + a]? = some (vp_cell _ _)
  rw [e]
  show some ((arrV (cA t) N (fun j => va_rf (so b f j))).setSlot i.toNatClampNeg _) = some (arrV (cA t) N (fun j => va_rf (so b (va_up f i.toNatClampNeg (some v)) j)))
  rw [arrV_store]
  congr 2
  funext q
  by_cases hq : q = i.toNatClampNeg
  · subst hq
    simp [updV, va_up, so, va_rf]
  · simp [updV, va_up, so, hq]
theorem j_mmin (C : Cx p l s m meth c D cA b nL own mn cc ret hh) {index : Nat} {x y v : Int32} (hd : decode cc pc = .ok (.invokestatic index, 3)) (h1 : Cond.methodLink own index Lib.Math.min.name ∈ g_ws) (h2 : Cond.static Lib.Math.min.name ∈ g_ws) (h3 : Cond.initialized "java/lang/Math" ∈ g_ws) (h4 : Cond.code Lib.Math.min.name Lib.Math.min.code 2 (some .int) ∈ g_ws) (hR1 : 1 ≤ R.frames) (hR2 : (st.map fun v => v.category).sum + 13 ≤ R.locals) (hc : kc ≤ R.cells) (hs : ks ≤ R.slots) (hv : (if y < x then y else x) = v) (kk : J p l e R s m args below meth c D cA b nL Q n h kc ks (pc + 3) L (.int v :: st)) : J p l e R s m args below meth c D cA b nL Q n h kc ks pc L (.int y :: .int x :: st) := by
  subst hv
  exact fun H locs ls hp hS hl => va_mmin C.1 C.2.1 (C.2.2.1.trans hl.1.symm) C.2.2.2.1 (C.w h1 rfl args) (C.w h2 rfl args) (C.w h3 rfl args) (C.w h4 rfl args) hR1 (by rw [sv_sum]; exact hR2) hc hs hd (kk H locs ls hp hS hl)
theorem j_mabs (C : Cx p l s m meth c D cA b nL own mn cc ret hh) {index : Nat} {x v : Int32} (hd : decode cc pc = .ok (.invokestatic index, 3)) (h1 : Cond.methodLink own index Lib.Math.abs.name ∈ g_ws) (h2 : Cond.static Lib.Math.abs.name ∈ g_ws) (h3 : Cond.initialized "java/lang/Math" ∈ g_ws) (h4 : Cond.code Lib.Math.abs.name Lib.Math.abs.code 1 (some .int) ∈ g_ws) (hR1 : 1 ≤ R.frames) (hR2 : (st.map fun v => v.category).sum + 13 ≤ R.locals) (hc : kc ≤ R.cells) (hs : ks ≤ R.slots) (hv : (if 0 ≤ x then x else 0 - x) = v) (kk : J p l e R s m args below meth c D cA b nL Q n h kc ks (pc + 3) L (.int v :: st)) : J p l e R s m args below meth c D cA b nL Q n h kc ks pc L (.int x :: st) := by
  subst hv
  exact fun H locs ls hp hS hl => va_mabs C.1 C.2.1 (C.2.2.1.trans hl.1.symm) C.2.2.2.1 (C.w h1 rfl args) (C.w h2 rfl args) (C.w h3 rfl args) (C.w h4 rfl args) hR1 (by rw [sv_sum]; exact hR2) hc hs hd (kk H locs ls hp hS hl)
theorem j_copyi (C : Cx p l s m meth c D cA b nL own mn cc ret hh) {index a0 a N0 N t : Nat} {f g f' : Nat → Int32} {sp dp k : Int32} (hd : decode cc pc = .ok (.invokestatic index, 3)) (w1 : Cond.methodLink own index arraycopyName ∈ g_ws) (w2 : Cond.native arraycopyName ∈ g_ws) (w3 : Cond.static arraycopyName ∈ g_ws) (w4 : Cond.initialized "java/lang/System" ∈ g_ws)
    (ht : (g_ty cA)[t]? = some (cA t, .int)) (ha0 : a0 < n) (hx0 : h a0 = .inl (t, N0, .inl f)) (ha : a < n) (hx : h a = .inl (t, N, .inl g)) (h1 : ¬ sp < 0) (h2 : ¬ dp < 0) (h3 : ¬ k < 0) (h4 : sp.toNatClampNeg + k.toNatClampNeg ≤ N0) (h5 : dp.toNatClampNeg + k.toNatClampNeg ≤ N)
    (hR1 : 1 ≤ R.frames) (hR2 : (st.map fun v => v.category).sum + (nativeFrameWords "java/lang/System" "arraycopy" 5 + 11) ≤ R.locals) (hf : va_cpy f g sp.toNatClampNeg dp.toNatClampNeg k.toNatClampNeg = f') (kk : J p l e R s m args below meth c D cA b nL Q n (hu h a (.inl (t, N, .inl f'))) kc ks (pc + 3) L st) : J p l e R s m args below meth c D cA b nL Q n h kc ks pc L (.int k :: .int dp :: .ref a :: .int sp :: .ref a0 :: st) := by
  have nn : ∀ z : Int32, ¬ z < 0 → z.toInt = (z.toNatClampNeg : Int) := by
    intro z hz
    have hz0 : (0 : Int) ≤ z.toInt := by
      have := Int32.not_lt.mp hz
      simpa using Int32.le_iff_toInt_le.mp this
    show z.toInt = ((z.toInt.toNat : Nat) : Int)
    omega
  intro H locs ls hp hS hl T hT X
  subst hf
  have hK := C.2.2.2.2.1.2.1
  have hg := hp.obj ha hx
  have hc0 : H[b + a0]? = some (vp_cell (cA t) (N0, .inl f)) := hp.2 a0 _ (hp.obj ha0 hx0)
  have hc1 : H[b + a]? = some (vp_cell (cA t) (N, .inl g)) := hp.2 a _ hg
  obtain ⟨-, k0, hk0, cm0, hkk0⟩ := (hK.2 t _ ht).1 N0 (fun j => .int (f j))
  obtain ⟨-, k1, hk1, cm1, hkk1⟩ := (hK.2 t _ ht).1 N (fun j => .int (g j))
  obtain ⟨vm', X', step⟩ := X.arraycopy C.1 C.2.2.2.1 (C.w w1 rfl args) (C.w w2 rfl args) (C.w w3 rfl args) (C.w w4 rfl args) (src := b + a0) (dst := b + a) (cs := vp_cell (cA t) (N0, .inl f)) (cd := vp_cell (cA t) (N, .inl g)) (srcPos := sp) (destPos := dp) (n := k) (by rw [hT]; exact hc0) (by rw [hT]; exact hc1)
    (fun _ h => by cases h) (fun _ h => by cases h) (fun h => by cases h) (fun h => by cases h) hk0 hk1 hkk0 hkk1 (by simp [refKind]) h1 h2 h3
    (by rw [nn sp h1, nn k h3]; show ¬ _ > ((arrV (cA t) N0 (fun j => .int (f j))).slots.size : Int); rw [arrV_size]; omega)
    (by rw [nn dp h2, nn k h3]; show ¬ _ > ((arrV (cA t) N (fun j => .int (g j))).slots.size : Int); rw [arrV_size]; omega)
    (fun vm₁ _ i hi => by
      have e : (vp_cell (cA t) (N0, .inl f)).slots.getD (sp.toNatClampNeg + i) .null = .int (f (sp.toNatClampNeg + i)) := by
        show (arrV (cA t) N0 (fun j => .int (f j))).slots.getD _ _ = _
        rw [Array.getD_eq_getD_getElem?, arrV_read _ _ (by omega)]
        rfl
      refine ⟨?_, ?_⟩
      · rw [e]
        rfl
      · rw [e]
        exact trivial)
    (g := F0 m pc ls (.int k :: .int dp :: .ref (b + a) :: .int sp :: .ref (b + a0) :: st.map (sv b))) rfl (hl.1.trans C.2.2.1.symm) (rest := st.map (sv b)) rfl (by rw [C.2.1]; exact hd) hR1 (by show 2 * 0 + ((st.map (sv b)).map fun v => v.category).sum + _ ≤ _; rw [sv_sum]; omega)
  have e1 : copied (vp_cell (cA t) (N0, .inl f)) (vp_cell (cA t) (N, .inl g)) sp dp k = vp_cell (cA t) (N, .inl (va_cpy f g sp.toNatClampNeg dp.toNatClampNeg k.toNatClampNeg)) := va_copied (fun z => .int z) (cA t) (cA t) f g h4
  rw [e1] at X' step
  have hlt : b + a < H.size := (Array.getElem?_eq_some_iff.mp hc1).1
  have hheap : ((T.setVm vm').setCell (b + a) (vp_cell (cA t) (N, .inl (va_cpy f g sp.toNatClampNeg dp.toNatClampNeg k.toNatClampNeg)))).heap = H.setIfInBounds (b + a) (vp_cell (cA t) (N, .inl (va_cpy f g sp.toNatClampNeg dp.toNatClampNeg k.toNatClampNeg))) := by rw [← hT]; rfl
  have oq : ∀ q : Nat, q ≠ b + a → (H.setIfInBounds (b + a) (vp_cell (cA t) (N, .inl (va_cpy f g sp.toNatClampNeg dp.toNatClampNeg k.toNatClampNeg))))[q]? = H[q]? := fun q hq => by simp [Array.getElem?_setIfInBounds, Ne.symm hq]
  have hz : (H.setIfInBounds (b + a) (vp_cell (cA t) (N, .inl (va_cpy f g sp.toNatClampNeg dp.toNatClampNeg k.toNatClampNeg)))).size = H.size := by simp
  obtain ⟨t9, a1, b1⟩ := kk _ _ ls (hp.up ha hz (hp.2.set (wO_D b cA n h) hg (show (H.setIfInBounds (b + a) _)[b + a]? = some _ by simp [Array.getElem?_setIfInBounds, hlt]; rfl) oq)) ⟨by rw [hz]; exact hS.1, fun q g1 g2 => by
      rw [oq q (fun e => g2 (by rw [e]; exact Nat.le_add_right b a))]
      exact hS.2.1 q g1 g2, fun q hq => by
      rcases List.mem_append.mp hq with h | h
      · exact hS.2.2 q h
      · obtain ⟨z, -, hz⟩ := List.mem_map.mp h
        rw [← hz]
        exact Nat.le_add_right b a⟩ hl _ hheap X'
  exact ⟨t9, step t9 a1, b1⟩
end JZ
