/-! ===== constants, long arrays, new, switches, ends ===== -/
/-- what 'new' asks of the entry 'index' of the class own, for the class ci; fs: the fields at first -/
def NL (own : String) (index ci : Nat) (fs : List Value) : Prop := ∃ (C : String) (T : u_T) (t0 : Nat → FieldType), g_cl[ci]? = some (C, T, fs.length) ∧ (∀ w ∈ u_ws C T fs.length, w ∈ g_ws) ∧ Cond.classLink own index C ∈ g_ws ∧ Cond.instantiable C fs.length ∈ g_ws ∧ Cond.initialized C ∈ g_ws ∧ (∀ j, j < fs.length → parseFieldDescriptor (T j).2.2.1 = some (t0 j)) ∧ (∀ j, j < fs.length → defaultValue (t0 j) = vp_V fs j)
theorem sv_dv (b : Nat) (ty : FieldType) : sv b (defaultValue ty) = defaultValue ty := by cases ty <;> rfl
theorem sv_vpV (b : Nat) (fs : List Value) (j : Nat) : vp_V (fs.map (sv b)) j = sv b (vp_V fs j) := by
  unfold vp_V
  rw [List.getD_eq_getElem?_getD, List.getD_eq_getElem?_getD, List.getElem?_map]
  cases fs[j]? <;> rfl
section JN
variable {p : Program} {l : Launch} {e : Env} {R : Room} {s : State} {m : MethodId} {args : Array Value} {below : List Frame} {meth : Method} {c : Code} {D : va_G} {cA : Nat → ClassId} {b nL : Nat} {Q : State → Prop} {n : Nat} {h : AH} {kc ks pc : Nat} {L : List (Nat × Value)} {st : List Value} {own mn : String} {cc : ByteArray} {ret : Option FieldType} {hh : List (Nat × Nat × Nat × Nat)}
theorem j_ldc (C : Cx p l s m meth c D cA b nL own mn cc ret hh) {index : Nat} {v : Int32} (hd : decode cc pc = .ok (.ldc index, 2)) (hw : Cond.constant own index v ∈ g_ws) (k : J p l e R s m args below meth c D cA b nL Q n h kc ks (pc + 2) L (.int v :: st)) : J p l e R s m args below meth c D cA b nL Q n h kc ks pc L st :=
  fun H locs ls hp hS hl => lv_ldc C.1 C.2.1 C.2.2.2.1 (C.w hw rfl args) hd (k H locs ls hp hS hl)
theorem j_ldcw (C : Cx p l s m meth c D cA b nL own mn cc ret hh) {index : Nat} {v : Int32} (hd : decode cc pc = .ok (.ldc_w index, 3)) (hw : Cond.constant own index v ∈ g_ws) (k : J p l e R s m args below meth c D cA b nL Q n h kc ks (pc + 3) L (.int v :: st)) : J p l e R s m args below meth c D cA b nL Q n h kc ks pc L st :=
  fun H locs ls hp hS hl => lv_ldcw C.1 C.2.1 C.2.2.2.1 (C.w hw rfl args) hd (k H locs ls hp hS hl)
theorem j_ldc2 (C : Cx p l s m meth c D cA b nL own mn cc ret hh) {index : Nat} {v : Int64} (hd : decode cc pc = .ok (.ldc2_w index, 3)) (hw : Cond.constantLong own index v ∈ g_ws) (k : J p l e R s m args below meth c D cA b nL Q n h kc ks (pc + 3) L (.long v :: st)) : J p l e R s m args below meth c D cA b nL Q n h kc ks pc L st :=
  fun H locs ls hp hS hl => lv_ldc2 C.1 C.2.1 C.2.2.2.1 (C.w hw rfl args) hd (k H locs ls hp hS hl)
theorem j_lcmp (C : Cx p l s m meth c D cA b nL own mn cc ret hh) {x y : Int64} (hd : decode cc pc = .ok (.lcmp, 1))  (k : J p l e R s m args below meth c D cA b nL Q n h kc ks (pc + 1) L (.int (lg_cmp x y) :: st)) : J p l e R s m args below meth c D cA b nL Q n h kc ks pc L (.long y :: .long x :: st) :=
  fun H locs ls hp hS hl => W.lcmp C.1 C.2.1 hd (k H locs ls hp hS hl)
theorem j_lshr (C : Cx p l s m meth c D cA b nL own mn cc ret hh) {x v : Int64} {y : Int32} (hd : decode cc pc = .ok (.lshr, 1)) (hv : x >>> (y.toInt64 &&& 63) = v) (k : J p l e R s m args below meth c D cA b nL Q n h kc ks (pc + 1) L (.long v :: st)) : J p l e R s m args below meth c D cA b nL Q n h kc ks pc L (.int y :: .long x :: st) :=
  fun H locs ls hp hS hl => lv_lshr C.1 C.2.1 hd hv (k H locs ls hp hS hl)
theorem j_lookup (C : Cx p l s m meth c D cA b nL own mn cc ret hh) {dflt : Int} {ps : Array (Int × Int)} {len : Nat} {x : Int32} {off : Int} {tgt : Nat} (hd : decode cc pc = .ok (.lookupswitch dflt ps, len)) (hq : (ps.toList.zip (ps.toList.drop 1)).all (fun (a, next) => a.1 < next.1) = true) (ho : Op.lookupswitch.offset ps.toList dflt x.toInt = off) (ht : (pc : Int) + off = (tgt : Int)) (k : J p l e R s m args below meth c D cA b nL Q n h kc ks tgt L st) : J p l e R s m args below meth c D cA b nL Q n h kc ks pc L (.int x :: st) :=
  fun H locs ls hp hS hl => lv_lookup C.1 C.2.1 hd hq ho ht (k H locs ls hp hS hl)
theorem j_tableOut (C : Cx p l s m meth c D cA b nL own mn cc ret hh) {dflt lo hi : Int} {offs : Array Int} {len : Nat} {x : Int32} {tgt : Nat} (hd : decode cc pc = .ok (.tableswitch dflt lo hi offs, len)) (hx : x.toInt < lo ∨ hi < x.toInt) (ht : (pc : Int) + dflt = (tgt : Int)) (k : J p l e R s m args below meth c D cA b nL Q n h kc ks tgt L st) : J p l e R s m args below meth c D cA b nL Q n h kc ks pc L (.int x :: st) :=
  fun H locs ls hp hS hl => lv_tableOut C.1 C.2.1 hd hx ht (k H locs ls hp hS hl)
theorem j_tableIn (C : Cx p l s m meth c D cA b nL own mn cc ret hh) {dflt lo hi : Int} {offs : Array Int} {len : Nat} {x : Int32} {off : Int} {tgt : Nat} (hd : decode cc pc = .ok (.tableswitch dflt lo hi offs, len)) (h1 : ¬ x.toInt < lo) (h2 : ¬ hi < x.toInt) (ho : offs[(x.toInt - lo).toNat]? = some off) (ht : (pc : Int) + off = (tgt : Int)) (k : J p l e R s m args below meth c D cA b nL Q n h kc ks tgt L st) : J p l e R s m args below meth c D cA b nL Q n h kc ks pc L (.int x :: st) :=
  fun H locs ls hp hS hl => lv_tableIn C.1 C.2.1 hd h1 h2 ho ht (k H locs ls hp hS hl)
theorem Hp.push {H H1 : Heap} (hp : Hp D cA b n h H) {x : AC} (hz : H1.size = H.size + 1) (oq : ∀ q, q < H.size → H1[q]? = H[q]?) (hx : va_at D g_cl (b + n, toE b cA x) H1) : Hp D cA b (n + 1) (hu h n x) H1 := by
  refine ⟨by rw [hz, hp.1]; omega, ?_⟩
  rw [← wO_push x]
  refine va_P.app (hp.2.kept fun k q hq => oq q.1 ((hp.2 k q hq).lt)) (fun k q hq => ?_)
  have hk : k < 1 := (List.getElem?_eq_some_iff.mp hq).1
  rw [show k = 0 by omega] at hq
  cases hq
  exact hx
theorem S_push {H H1 : Heap} {locs : List Loc} (hS : va_S (fun q => b ≤ q) s.heap H locs) (hz : H1.size = H.size + 1) (oq : ∀ q, q < H.size → H1[q]? = H[q]?) : va_S (fun q => b ≤ q) s.heap H1 locs :=
  ⟨by rw [hz]; exact Nat.le_succ_of_le hS.1, fun q h1 h2 => (oq q (Nat.lt_of_lt_of_le h1 hS.1)).trans (hS.2.1 q h1 h2), hS.2.2⟩
theorem j_new (C : Cx p l s m meth c D cA b nL own mn cc ret hh) {index ci : Nat} {fs : List Value} (hF : NL own index ci fs) (hd : decode cc pc = .ok (.new index, 3)) (hc1 : kc + 1 ≤ R.cells) (hc2 : ks + fs.length ≤ R.slots) (kk : J p l e R s m args below meth c D cA b nL Q (n + 1) (hu h n (.inr (ci, fs))) (kc + 1) (ks + fs.length) (pc + 3) L (.ref n :: st)) : J p l e R s m args below meth c D cA b nL Q n h kc ks pc L st := by
  intro H locs ls hp hS hl
  obtain ⟨Cl, T, t0, h1, h2, h3, h4, h5, h6, h7⟩ := hF
  have hK := C.2.2.2.2.1.2.1
  have hKn := hK.1 ci _ h1
  refine W.newcK C.1 C.2.1 C.2.2.2.1 (C.w h3 rfl args) (C.w h4 rfl args) (C.w h5 rfl args) rfl hd hc1 hc2 hKn.2.1 (h := b + n) hp.1 fun H1 kC hkC e1 z1 o1 => ?_
  have z2 : H1.size = H.size + 1 := by rw [z1, hp.1]
  have o2 : ∀ q, q < H.size → H1[q]? = H[q]? := fun q hq => o1 q (by rw [← hp.1]; exact hq)
  refine kk H1 locs ls (hp.push z2 o2 ⟨_, h1, (u_born t0 (C.ws h2 (u_ws_on Cl T fs.length) args) (fun _ q => q) hKn hkC e1 h6).to (fun j hj => ?_)⟩) (S_push hS z2 o2) hl
  rw [sv_vpV, ← h7 j hj, sv_dv]
theorem j_newa (C : Cx p l s m meth c D cA b nL own mn cc ret hh) {atype : ArrayType} {t N : Nat} {i : Int32} {ty : FieldType} {a0 : vp_A} (hd : decode cc pc = .ok (.newarray atype, 2)) (ht : (g_ty cA)[t]? = some (cA t, ty)) (hty : newarray.typeOf atype = ty) (hra : ∀ cX, va_RA s cX ty = (s.vm.findClass ("[" ++ ty.toString) = some cX)) (hw : Cond.arrayClass ty ∈ g_ws) (hi : ¬ i < 0) (hN : i.toNatClampNeg = N) (hb : N * componentBytes ty ≤ 536870912) (ha : ∀ cX : ClassId, vp_cell cX (sa b a0) = arrV cX N (fun _ => defaultValue ty)) (hc1 : kc + 1 ≤ R.cells) (hc2 : ks + N ≤ R.slots) (kk : J p l e R s m args below meth c D cA b nL Q (n + 1) (hu h n (.inl (t, a0))) (kc + 1) (ks + N) (pc + 2) L (.ref n :: st)) : J p l e R s m args below meth c D cA b nL Q n h kc ks pc L (.int i :: st) := by
  intro H locs ls hp hS hl
  subst hty
  refine va_newaK C.1 C.2.1 (word_at (State.WarmedH.refl s) (Or.inr ⟨_, rfl⟩) (C.2.2.2.2.1.1 _ hw)) rfl hd rfl hi hN hb hc1 hc2 (h := b + n) hp.1 fun H1 cX e1 z1 o1 hAr hNm => ?_
  have z2 : H1.size = H.size + 1 := by rw [z1, hp.1]
  have o2 : ∀ q, q < H.size → H1[q]? = H[q]? := fun q hq => o1 q (by rw [← hp.1]; exact hq)
  have hR := (C.2.2.2.2.1.2.1.2 t _ ht).2
  rw [hra] at hR
  cases Option.some.inj (hR.symm.trans hNm)
  refine kk H1 locs ls (hp.push z2 o2 ?_) (S_push hS z2 o2) hl
  show H1[b + n]? = some (vp_cell (cA t) (sa b a0))
  rw [ha]
  exact e1
theorem j_anewa (C : Cx p l s m meth c D cA b nL own mn cc ret hh) {index t N : Nat} {i : Int32} {Cl : String} (hd : decode cc pc = .ok (.anewarray index, 3)) (ht : (g_ty cA)[t]? = some (cA t, .object Cl)) (hw1 : Cond.classLink own index Cl ∈ g_ws) (hw2 : Cond.arrayOver (.object Cl) ∈ g_ws) (hi : ¬ i < 0) (hN : i.toNatClampNeg = N) (hb : N * 4 ≤ 536870912) (hc1 : kc + 1 ≤ R.cells) (hc2 : ks + N ≤ R.slots) (kk : J p l e R s m args below meth c D cA b nL Q (n + 1) (hu h n (.inl (t, N, .inr (.inr (.inr (.inr (fun _ => none))))))) (kc + 1) (ks + N) (pc + 3) L (.ref n :: st)) : J p l e R s m args below meth c D cA b nL Q n h kc ks pc L (.int i :: st) := by
  intro H locs ls hp hS hl
  subst hN
  refine W.anew C.1 C.2.1 C.2.2.2.1 (C.w hw1 rfl args) (va_AO.use (va_AO.of (C.2.2.2.2.1.1 _ hw2))) rfl hd rfl hi hb hc1 hc2 fun cX kA comp f1 f2 f3 f4 => ?_
  obtain ⟨kA', comp', r1, r2, r3, r4⟩ := (C.2.2.2.2.1.2.1.2 t _ ht).2
  cases Option.some.inj (r4.symm.trans f1)
  generalize hH1 : H.push ({ cls := cA t, slots := Array.replicate i.toNatClampNeg .null, vm := .none } : Cell) = H1
  have z1 : H1.size = H.size + 1 := by rw [← hH1, Array.size_push]
  have e1 : H1[H.size]? = some (arrV (cA t) i.toNatClampNeg (fun _ => .null)) := by rw [← hH1, Array.getElem?_push_size, ← arrV_new]
  have o1 : ∀ q : Nat, q < H.size → H1[q]? = H[q]? := fun q hq => by rw [← hH1, Array.getElem?_push, if_neg (Nat.ne_of_lt hq)]
  have hsz : H.size = b + n := hp.1
  have hk := kk H1 locs ls (hp.push z1 o1 (by show H1[b + n]? = some (arrV (cA t) i.toNatClampNeg (fun j => va_rf ((fun _ => none : Nat → Option Nat) j |>.map (fun a => b + a)))); rw [← hsz]; exact e1)) (S_push hS z1 o1) hl
  rw [hsz]
  exact hk
theorem j_aald (C : Cx p l s m meth c D cA b nL own mn cc ret hh) {t a N : Nat} {f : Nat → Option Nat} {i : Int32} {v : Value} {Cl : String} (hd : decode cc pc = .ok (.aaload, 1)) (ht : (g_ty cA)[t]? = some (cA t, .object Cl)) (ha : a < n) (hx : h a = .inl (t, N, .inr (.inr (.inr (.inr f))))) (hi : vp_in i N) (hv : va_rf (f i.toNatClampNeg) = v) (kk : J p l e R s m args below meth c D cA b nL Q n h kc ks (pc + 1) L (v :: st)) : J p l e R s m args below meth c D cA b nL Q n h kc ks pc L (.int i :: .ref a :: st) := by
  intro H locs ls hp hS hl
  subst hv
  refine va_aldq C.1 C.2.1 C.2.2.2.2.1.2.1 hp.2 a t (hp.obj ha hx) ht hi hd ?_
  have hk := kk H locs ls hp hS hl
  have e : va_rf (so b f i.toNatClampNeg) = sv b (va_rf (f i.toNatClampNeg)) := by
    unfold so
    cases f i.toNatClampNeg <;> rfl
  rw [e]
  exact hk
theorem j_lald (C : Cx p l s m meth c D cA b nL own mn cc ret hh) {t a N : Nat} {f : Nat → Int64} {i : Int32} {v : Int64} (hd : decode cc pc = .ok (.laload, 1)) (ht : (g_ty cA)[t]? = some (cA t, .long)) (ha : a < n) (hx : h a = .inl (t, N, .inr (.inl f))) (hi : vp_in i N) (hv : f i.toNatClampNeg = v) (kk : J p l e R s m args below meth c D cA b nL Q n h kc ks (pc + 1) L (.long v :: st)) : J p l e R s m args below meth c D cA b nL Q n h kc ks pc L (.int i :: .ref a :: st) := by
  intro H locs ls hp hS hl
  subst hv
  exact va_lald C.1 C.2.1 C.2.2.2.2.1.2.1 hp.2 a t (hp.obj ha hx) ht hi hd (kk H locs ls hp hS hl)
theorem j_last (C : Cx p l s m meth c D cA b nL own mn cc ret hh) {t a N : Nat} {f f' : Nat → Int64} {i : Int32} {x : Int64} (hd : decode cc pc = .ok (.lastore, 1)) (ht : (g_ty cA)[t]? = some (cA t, .long)) (ha : a < n) (hx : h a = .inl (t, N, .inr (.inl f))) (hi : vp_in i N) (hf : vp_updL f i.toNatClampNeg x = f') (kk : J p l e R s m args below meth c D cA b nL Q n (hu h a (.inl (t, N, .inr (.inl f')))) kc ks (pc + 1) L st) : J p l e R s m args below meth c D cA b nL Q n h kc ks pc L (.long x :: .int i :: .ref a :: st) := by
  intro H locs ls hp hS hl
  subst hf
  have hg := hp.obj ha hx
  refine W.last C.1 C.2.1 (hp.2 a _ hg) ((C.2.2.2.2.1.2.1.2 t _ ht).1 N (fun j => .long (f j))) (fun q => by cases q) (by show ¬ (i < 0 ∨ (arrV _ _ _).slots.size ≤ _); rw [arrV_size]; exact hi) rfl rfl hd fun H1 e z oq => ?_
  refine kk H1 _ ls (hp.up ha z (hp.2.set (wO_D b cA n h) hg ?_ oq)) (S_put hS z oq (Nat.le_add_right b a)) hl
  show H1[b + a]? = some (vp_cell _ _)
  rw [e]
  show some ((arrV (cA t) N (fun j => .long (f j))).setSlot i.toNatClampNeg _) = some (arrV (cA t) N (fun j => .long (vp_updL f i.toNatClampNeg x j)))
  rw [arrV_store]
  congr 2
  funext q
  by_cases hq : q = i.toNatClampNeg
  · subst hq
    simp [updV, vp_updL]
  · simp [updV, vp_updL, hq]
end JN
