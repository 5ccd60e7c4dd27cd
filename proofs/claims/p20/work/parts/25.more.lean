/-! ===== constants, long arrays, new, switches, ends ===== -/
/-- what 'new' asks of the entry 'index' of the class own, for the class ci; fs: the fields at first -/
def NL (own : String) (index ci : Nat) (fs : List Value) : Prop := ∃ (C : String) (T : u_T) (t0 : Nat → FieldType), g_cl[ci]? = some (C, T, fs.length) ∧ (∀ w ∈ u_ws C T fs.length, w ∈ g_ws) ∧ Cond.classLink own index C ∈ g_ws ∧ Cond.instantiable C fs.length ∈ g_ws ∧ Cond.initialized C ∈ g_ws ∧ (∀ j, j < fs.length → parseFieldDescriptor (T j).2.2.1 = some (t0 j)) ∧ (∀ j, j < fs.length → defaultValue (t0 j) = vp_V fs j)
theorem sv_dv (b : Nat) (ty : FieldType) : sv b (defaultValue ty) = defaultValue ty := by cases ty <;> rfl
theorem sv_vpV (b : Nat) (fs : List Value) (j : Nat) : vp_V (fs.map (sv b)) j = sv b (vp_V fs j) := by
  unfold vp_V
  rw [List.getD_eq_getElem?_getD, List.getD_eq_getElem?_getD, List.getElem?_map]
  cases fs[j]? <;> rfl
section JN
variable {p : Program} {l : Launch} {e : Env} {R : Room} {s : State} {m : MethodId} {args : Array Value} {below : List Frame} {meth : Method} {c : Code} {D : va_G} {cA : Nat → ClassId} {b nL : Nat} {Q : State → Prop} {n : Nat} {h : AH} {kc ks pc : Nat} {L : List (Nat × Value)} {st : List Value} {own mn : String} {cc : ByteArray} {ret : Option FieldType} {hh : List (Nat × Nat × Nat × Nat)}
theorem j_ldc (C : Cx p l s m meth c D cA b nL own mn cc ret hh) {index : Nat} {v : Int32} (hd : decode cc pc = .ok (.ldc index, 2)) (hw : Cond.constant own index v ∈ g_ws) (k : J p l e R s m args below meth c D cA b nL Q n h kc ks (pc + 2) L (.int v :: st)) : J p l e R s m args below meth c D cA b nL Q n h kc ks pc L st :=
  fun H locs ls hp hS hl => lv_ldc C.1 C.2.1 C.2.2.2.1 (C.w hw rfl args) hd (k H locs ls hp hS hl)
theorem j_ldcw (C : Cx p l s m meth c D cA b nL own mn cc ret hh) {index : Nat} {v : Int32} (hd : decode cc pc = .ok (.ldc_w index, 3)) (hw : Cond.constant own index v ∈ g_ws) (k : J p l e R s m args below meth c D cA b nL Q n h kc ks (pc + 3) L (.int v :: st)) : J p l e R s m args below meth c D cA b nL Q n h kc ks pc L st :=
  fun H locs ls hp hS hl => lv_ldcw C.1 C.2.1 C.2.2.2.1 (C.w hw rfl args) hd (k H locs ls hp hS hl)
theorem j_ldc2 (C : Cx p l s m meth c D cA b nL own mn cc ret hh) {index : Nat} {v : Int64} (hd : decode cc pc = .ok (.ldc2_w index, 3)) (hw : Cond.constantLong own index v ∈ g_ws) (k : J p l e R s m args below meth c D cA b nL Q n h kc ks (pc + 3) L (.long v :: st)) : J p l e R s m args below meth c D cA b nL Q n h kc ks pc L st :=
  fun H locs ls hp hS hl => lv_ldc2 C.1 C.2.1 C.2.2.2.1 (C.w hw rfl args) hd (k H locs ls hp hS hl)
theorem j_lcmp (C : Cx p l s m meth c D cA b nL own mn cc ret hh) {x y : Int64} (hd : decode cc pc = .ok (.lcmp, 1))  (k : J p l e R s m args below meth c D cA b nL Q n h kc ks (pc + 1) L (.int (lg_cmp x y) :: st)) : J p l e R s m args below meth c D cA b nL Q n h kc ks pc L (.long y :: .long x :: st) :=
  fun H locs ls hp hS hl => W.lcmp C.1 C.2.1 hd (k H locs ls hp hS hl)
theorem j_lshr (C : Cx p l s m meth c D cA b nL own mn cc ret hh) {x v : Int64} {y : Int32} (hd : decode cc pc = .ok (.lshr, 1)) (hv : x >>> (y.toInt64 &&& 63) = v) (k : J p l e R s m args below meth c D cA b nL Q n h kc ks (pc + 1) L (.long v :: st)) : J p l e R s m args below meth c D cA b nL Q n h kc ks pc L (.int y :: .long x :: st) :=
  fun H locs ls hp hS hl => lv_lshr C.1 C.2.1 hd hv (k H locs ls hp hS hl)
theorem j_lookup (C : Cx p l s m meth c D cA b nL own mn cc ret hh) {dflt : Int} {ps : Array (Int × Int)} {len : Nat} {x : Int32} {off : Int} {tgt : Nat} (hd : decode cc pc = .ok (.lookupswitch dflt ps, len)) (hq : (ps.toList.zip (ps.toList.drop 1)).all (fun (a, next) => a.1 < next.1) = true) (ho : Op.lookupswitch.offset ps.toList dflt x.toInt = off) (ht : (pc : Int) + off = (tgt : Int)) (k : J p l e R s m args below meth c D cA b nL Q n h kc ks tgt L st) : J p l e R s m args below meth c D cA b nL Q n h kc ks pc L (.int x :: st) :=
  fun H locs ls hp hS hl => lv_lookup C.1 C.2.1 hd hq ho ht (k H locs ls hp hS hl)
theorem j_tableOut (C : Cx p l s m meth c D cA b nL own mn cc ret hh) {dflt lo hi : Int} {offs : Array Int} {len : Nat} {x : Int32} {tgt : Nat} (hd : decode cc pc = .ok (.tableswitch dflt lo hi offs, len)) (hx : x.toInt < lo ∨ hi < x.toInt) (ht : (pc : Int) + dflt = (tgt : Int)) (k : J p l e R s m args below meth c D cA b nL Q n h kc ks tgt L st) : J p l e R s m args below meth c D cA b nL Q n h kc ks pc L (.int x :: st) :=
  fun H locs ls hp hS hl => lv_tableOut C.1 C.2.1 hd hx ht (k H locs ls hp hS hl)
theorem j_tableIn (C : Cx p l s m meth c D cA b nL own mn cc ret hh) {dflt lo hi : Int} {offs : Array Int} {len : Nat} {x : Int32} {off : Int} {tgt : Nat} (hd : decode cc pc = .ok (.tableswitch dflt lo hi offs, len)) (h1 : ¬ x.toInt < lo) (h2 : ¬ hi < x.toInt) (ho : offs[(x.toInt - lo).toNat]? = some off) (ht : (pc : Int) + off = (tgt : Int)) (k : J p l e R s m args below meth c D cA b nL Q n h kc ks tgt L st) : J p l e R s m args below meth c D cA b nL Q n h kc ks pc L (.int x :: st) :=
  fun H locs ls hp hS hl => lv_tableIn C.1 C.2.1 hd h1 h2 ho ht (k H locs ls hp hS hl)
theorem Hp.push {H H1 : Heap} (hp : Hp D cA b n h H) {x : AC} (hz : H1.size = H.size + 1) (oq : ∀ q, q < H.size → H1[q]? = H[q]?) (hx : va_at D g_cl (b + n, toE b cA x) H1) : Hp D cA b (n + 1) (hu h n x) H1 := by
  refine ⟨by rw [hz, hp.1]; omega, ?_⟩
  rw [← wO_push x]
  refine va_P.app (hp.2.kept fun k q hq => oq q.1 ((hp.2 k q hq).lt)) (fun k q hq => ?_)
  have hk : k < 1 := (List.getElem?_eq_some_iff.mp hq).1
  rw [show k = 0 by omega] at hq
  cases hq
  exact hx
theorem S_push {H H1 : Heap} {locs : List Loc} (hS : va_S (fun q => b ≤ q) s.heap H locs) (hz : H1.size = H.size + 1) (oq : ∀ q, q < H.size → H1[q]? = H[q]?) : va_S (fun q => b ≤ q) s.heap H1 locs :=
  ⟨by rw [hz]; exact Nat.le_succ_of_le hS.1, fun q h1 h2 => (oq q (Nat.lt_of_lt_of_le h1 hS.1)).trans (hS.2.1 q h1 h2), hS.2.2⟩
theorem j_new (C : Cx p l s m meth c D cA b nL own mn cc ret hh) {index ci : Nat} {fs : List Value} (hF : NL own index ci fs) (hd : decode cc pc = .ok (.new index, 3)) (hc1 : kc + 1 ≤ R.cells) (hc2 : ks + fs.length ≤ R.slots) (kk : J p l e R s m args below meth c D cA b nL Q (n + 1) (hu h n (.inr (ci, fs))) (kc + 1) (ks + fs.length) (pc + 3) L (.ref n :: st)) : J p l e R s m args below meth c D cA b nL Q n h kc ks pc L st := by
  intro H locs ls hp hS hl
  obtain ⟨Cl, T, t0, h1, h2, h3, h4, h5, h6, h7⟩ := hF
  have hK := C.2.2.2.2.1.2.1
  have hKn := hK.1 ci _ h1
  refine W.newcK C.1 C.2.1 C.2.2.2.1 (C.w h3 rfl args) (C.w h4 rfl args) (C.w h5 rfl args) rfl hd hc1 hc2 hKn.2.1 (h := b + n) hp.1 fun H1 kC hkC e1 z1 o1 => ?_
  have z2 : H1.size = H.size + 1 := by rw [z1, hp.1]
  have o2 : ∀ q, q < H.size → H1[q]? = H[q]? := fun q hq => o1 q (by rw [← hp.1]; exact hq)
  refine kk H1 locs ls (hp.push z2 o2 ⟨_, h1, (u_born t0 (C.ws h2 (u_ws_on Cl T fs.length) args) (fun _ q => q) hKn hkC e1 h6).to (fun j hj => ?_)⟩) (S_push hS z2 o2) hl
  rw [sv_vpV, ← h7 j hj, sv_dv]
theorem j_newa (C : Cx p l s m meth c D cA b nL own mn cc ret hh) {atype : ArrayType} {t N : Nat} {i : Int32} {ty : FieldType} {a0 : vp_A} (hd : decode cc pc = .ok (.newarray atype, 2)) (ht : (g_ty cA)[t]? = some (cA t, ty)) (hty : newarray.typeOf atype = ty) (hra : ∀ cX, va_RA s cX ty = (s.vm.findClass ("[" ++ ty.toString) = some cX)) (hw : Cond.arrayClass ty ∈ g_ws) (hi : ¬ i < 0) (hN : i.toNatClampNeg = N) (hb : N * componentBytes ty ≤ 536870912) (ha : ∀ cX : ClassId, vp_cell cX (sa b a0) = arrV cX N (fun _ => defaultValue ty)) (hc1 : kc + 1 ≤ R.cells) (hc2 : ks + N ≤ R.slots) (kk : J p l e R s m args below meth c D cA b nL Q (n + 1) (hu h n (.inl (t, a0))) (kc + 1) (ks + N) (pc + 2) L (.ref n :: st)) : J p l e R s m args below meth c D cA b nL Q n h kc ks pc L (.int i :: st) := by
  intro H locs ls hp hS hl
  subst hty
  refine va_newaK C.1 C.2.1 (word_at (State.WarmedH.refl s) (Or.inr ⟨_, rfl⟩) (C.2.2.2.2.1.1 _ hw)) rfl hd rfl hi hN hb hc1 hc2 (h := b + n) hp.1 fun H1 cX e1 z1 o1 hAr hNm => ?_
  have z2 : H1.size = H.size + 1 := by rw [z1, hp.1]
  have o2 : ∀ q, q < H.size → H1[q]? = H[q]? := fun q hq => o1 q (by rw [← hp.1]; exact hq)
  have hR := (C.2.2.2.2.1.2.1.2 t _ ht).2
  rw [hra] at hR
  cases Option.some.inj (hR.symm.trans hNm)
  refine kk H1 locs ls (hp.push z2 o2 ?_) (S_push hS z2 o2) hl
  show H1[b + n]? = some (vp_cell (cA t) (sa b a0))
  rw [ha]
  exact e1
theorem j_anewa (C : Cx p l s m meth c D cA b nL own mn cc ret hh) {index t N : Nat} {i : Int32} {Cl : String} (hd : decode cc pc = .ok (.anewarray index, 3)) (ht : (g_ty cA)[t]? = some (cA t, .object Cl)) (hw1 : Cond.classLink own index Cl ∈ g_ws) (hw2 : Cond.arrayOver (.object Cl) ∈ g_ws) (hi : ¬ i < 0) (hN : i.toNatClampNeg = N) (hb : N * 4 ≤ 536870912) (hc1 : kc + 1 ≤ R.cells) (hc2 : ks + N ≤ R.slots) (kk : J p l e R s m args below meth c D cA b nL Q (n + 1) (hu h n (.inl (t, N, .inr (.inr (.inr (.inr (fun _ => none))))))) (kc + 1) (ks + N) (pc + 3) L (.ref n :: st)) : J p l e R s m args below meth c D cA b nL Q n h kc ks pc L (.int i :: st) := by
  intro H locs ls hp hS hl
  subst hN
  refine W.anew C.1 C.2.1 C.2.2.2.1 (C.w hw1 rfl args) (va_AO.use (va_AO.of (C.2.2.2.2.1.1 _ hw2))) rfl hd rfl hi hb hc1 hc2 fun cX kA comp f1 f2 f3 f4 => ?_
  obtain ⟨kA', comp', r1, r2, r3, r4⟩ := (C.2.2.2.2.1.2.1.2 t _ ht).2
  cases Option.some.inj (r4.symm.trans f1)
  generalize hH1 : H.push ({ cls := cA t, slots := Array.replicate i.toNatClampNeg .null, vm := .none } : Cell) = H1
  have z1 : H1.size = H.size + 1 := by rw [← hH1, Array.size_push]
  have e1 : H1[H.size]? = some (arrV (cA t) i.toNatClampNeg (fun _ => .null)) := by rw [← hH1, Array.getElem?_push_size, ← arrV_new]
  have o1 : ∀ q : Nat, q < H.size → H1[q]? = H[q]? := fun q hq => by rw [← hH1, Array.getElem?_push, if_neg (Nat.ne_of_lt hq)]
  have hsz : H.size = b + n := hp.1
  have hk := kk H1 locs ls (hp.push z1 o1 (by show H1[b + n]? = some (arrV (cA t) i.toNatClampNeg (fun j => va_rf ((fun _ => none : Nat → Option Nat) j |>.map (fun a => b + a)))); rw [← hsz]; exact e1)) (S_push hS z1 o1) hl
  rw [hsz]
  exact hk
theorem j_aald (C : Cx p l s m meth c D cA b nL own mn cc ret hh) {t a N : Nat} {f : Nat → Option Nat} {i : Int32} {v : Value} {Cl : String} (hd : decode cc pc = .ok (.aaload, 1)) (ht : (g_ty cA)[t]? = some (cA t, .object Cl)) (ha : a < n) (hx : h a = .inl (t, N, .inr (.inr (.inr (.inr f))))) (hi : vp_in i N) (hv : va_rf (f i.toNatClampNeg) = v) (kk : J p l e R s m args below meth c D cA b nL Q n h kc ks (pc + 1) L (v :: st)) : J p l e R s m args below meth c D cA b nL Q n h kc ks pc L (.int i :: .ref a :: st) := by
  intro H locs ls hp hS hl
  subst hv
  refine va_aldq C.1 C.2.1 C.2.2.2.2.1.2.1 hp.2 a t (hp.obj ha hx) ht hi hd ?_
  have hk := kk H locs ls hp hS hl
  have e : va_rf (so b f i.toNatClampNeg) = sv b (va_rf (f i.toNatClampNeg)) := by
    unfold so
    cases f i.toNatClampNeg <;> rfl
  rw [e]
  exact hk
theorem j_lald (C : Cx p l s m meth c D cA b nL own mn cc ret hh) {t a N : Nat} {f : Nat → Int64} {i : Int32} {v : Int64} (hd : decode cc pc = .ok (.laload, 1)) (ht : (g_ty cA)[t]? = some (cA t, .long)) (ha : a < n) (hx : h a = .inl (t, N, .inr (.inl f))) (hi : vp_in i N) (hv : f i.toNatClampNeg = v) (kk : J p l e R s m args below meth c D cA b nL Q n h kc ks (pc + 1) L (.long v :: st)) : J p l e R s m args below meth c D cA b nL Q n h kc ks pc L (.int i :: .ref a :: st) := by
  intro H locs ls hp hS hl
  subst hv
  exact va_lald C.1 C.2.1 C.2.2.2.2.1.2.1 hp.2 a t (hp.obj ha hx) ht hi hd (kk H locs ls hp hS hl)
theorem j_last (C : Cx p l s m meth c D cA b nL own mn cc ret hh) {t a N : Nat} {f f' : Nat → Int64} {i : Int32} {x : Int64} (hd : decode cc pc = .ok (.lastore, 1)) (ht : (g_ty cA)[t]? = some (cA t, .long)) (ha : a < n) (hx : h a = .inl (t, N, .inr (.inl f))) (hi : vp_in i N) (hf : vp_updL f i.toNatClampNeg x = f') (kk : J p l e R s m args below meth c D cA b nL Q n (hu h a (.inl (t, N, .inr (.inl f')))) kc ks (pc + 1) L st) : J p l e R s m args below meth c D cA b nL Q n h kc ks pc L (.long x :: .int i :: .ref a :: st) := by
  intro H locs ls hp hS hl
  subst hf
  have hg := hp.obj ha hx
  refine W.last C.1 C.2.1 (hp.2 a _ hg) ((C.2.2.2.2.1.2.1.2 t _ ht).1 N (fun j => .long (f j))) (fun q => by cases q) (by show ¬ (i < 0 ∨ (arrV _ _ _).slots.size ≤ _); rw [arrV_size]; exact hi) rfl rfl hd fun H1 e z oq => ?_
  refine kk H1 _ ls (hp.up ha z (hp.2.set (wO_D b cA n h) hg ?_ oq)) (S_put hS z oq (Nat.le_add_right b a)) hl
  show H1[b + a]? = some (vp_cell _ _)
  rw [e]
  show some ((arrV (cA t) N (fun j => .long (f j))).setSlot i.toNatClampNeg _) = some (arrV (cA t) N (fun j => .long (vp_updL f i.toNatClampNeg x j)))
  rw [arrV_store]
  congr 2
  funext q
  by_cases hq : q = i.toNatClampNeg
  · subst hq
    simp [updV, vp_updL]
  · simp [updV, vp_updL, hq]
end JN
/-! ===== a method's ends: it returns, it throws ===== -/
section JE
variable {p : Program} {l : Launch} {e : Env} {R : Room} {s : State} {m : MethodId} {args : Array Value} {below : List Frame} {meth : Method} {c : Code} {D : va_G} {cA : Nat → ClassId} {b nL : Nat} {Q : State → Prop} {n : Nat} {h : AH} {kc ks pc : Nat} {L : List (Nat × Value)} {st : List Value} {own mn : String} {cc : ByteArray} {ret : Option FieldType} {hh : List (Nat × Nat × Nat × Nat)} {Qa : Rz → Nat → AH → Prop} {mc ms : Nat}
theorem S_low {H : Heap} {locs : List Loc} (hb : b ≤ s.heap.size) (hS : va_S (fun q => b ≤ q) s.heap H locs) : ∀ q : Nat, q < b → H[q]? = s.heap[q]? := fun q hq => hS.2.1 q (Nat.lt_of_lt_of_le hq hb) (Nat.not_le.mpr hq)
theorem w_end {H : Heap} {locs : List Loc} {g : JFrame} {r : Option Value} (hb : b ≤ s.heap.size) (hp : Hp D cA b n h H) (hS : va_S (fun q => b ≤ q) s.heap H locs) (hc : kc ≤ mc) (hs : ks ≤ ms) (hq : Qa (.inl r) n h)
    (k : W p l e R s m args below meth c H locs kc ks (MQ below (fun _ _ o t => o = .returned (r.map (sv b)) ∧ t.heap = H) args s kc ks (fun q => b ≤ q)) g) : W p l e R s m args below meth c H locs kc ks (EndQ D cA b s below Qa mc ms) g := by
  intro T hT X
  obtain ⟨t, a1, o, b1, b2, ⟨b3, b4⟩, L9, ⟨-, hW, hsm⟩, hL⟩ := k T hT X
  refine ⟨t, a1, o, b1, b2, hW, ⟨L9, hsm.mono hc hs, hL⟩, ?_, n, h, .inl r, ?_, b3, hq⟩
  · rw [b4]; exact S_low hb hS
  · rw [b4]; exact hp
theorem j_ireturn (C : Cx p l s m meth c D cA b nL own mn cc ret hh) {v : Int32} (hd : decode cc pc = .ok (.ireturn, 1)) (hr : ret = some .int) (hc : kc ≤ mc) (hs : ks ≤ ms) (hq : Qa (.inl (some (.int v))) n h) : J p l e R s m args below meth c D cA b nL (EndQ D cA b s below Qa mc ms) n h kc ks pc L [.int v] :=
  fun _ _ _ hp hS _ => w_end C.2.2.2.2.1.2.2.1 hp hS hc hs hq (W.iret C.1 C.2.1 (C.2.2.2.2.2.2.1.trans hr) (fun _ ht _ => ⟨rfl, ht⟩) hS.2.2 hd C.2.2.2.2.2.1)
theorem j_zreturn (C : Cx p l s m meth c D cA b nL own mn cc ret hh) {v : Int32} {ty : FieldType} (hd : decode cc pc = .ok (.ireturn, 1)) (hr : ret = some ty) (hn : narrow ty (.int v) = .int v) (hc : kc ≤ mc) (hs : ks ≤ ms) (hq : Qa (.inl (some (.int v))) n h) : J p l e R s m args below meth c D cA b nL (EndQ D cA b s below Qa mc ms) n h kc ks pc L [.int v] :=
  fun _ _ _ hp hS _ => w_end C.2.2.2.2.1.2.2.1 hp hS hc hs hq (W.zret C.1 C.2.1 (C.2.2.2.2.2.2.1.trans hr) hn (fun _ ht _ => ⟨rfl, ht⟩) hS.2.2 hd C.2.2.2.2.2.1)
theorem j_vreturn (C : Cx p l s m meth c D cA b nL own mn cc ret hh) (hd : decode cc pc = .ok (.return_, 1)) (hr : ret = none) (hc : kc ≤ mc) (hs : ks ≤ ms) (hq : Qa (.inl none) n h) : J p l e R s m args below meth c D cA b nL (EndQ D cA b s below Qa mc ms) n h kc ks pc L [] :=
  fun _ _ _ hp hS _ => w_end C.2.2.2.2.1.2.2.1 hp hS hc hs hq (W.vret C.1 C.2.1 (C.2.2.2.2.2.2.1.trans hr) (fun _ ht _ => ⟨rfl, ht⟩) hS.2.2 hd C.2.2.2.2.2.1)
theorem j_areturn (C : Cx p l s m meth c D cA b nL own mn cc ret hh) {v : Value} {ty : FieldType} (hd : decode cc pc = .ok (.areturn, 1)) (hr : ret = some ty) (hrt : (∃ k, ty = .object k) ∨ ∃ t, ty = .array t) (hv : v = .null ∨ ∃ a, v = .ref a) (hc : kc ≤ mc) (hs : ks ≤ ms) (hq : Qa (.inl (some v)) n h) : J p l e R s m args below meth c D cA b nL (EndQ D cA b s below Qa mc ms) n h kc ks pc L [v] :=
  fun _ _ _ hp hS _ => w_end C.2.2.2.2.1.2.2.1 hp hS hc hs hq (W.aret C.1 C.2.1 (C.2.2.2.2.2.2.1.trans hr) hrt (by rcases hv with rfl | ⟨a, rfl⟩; exact Or.inl rfl; exact Or.inr ⟨_, rfl⟩) (fun _ ht _ => ⟨rfl, ht⟩) hS.2.2 hd C.2.2.2.2.2.1)
theorem tw_throwS {H : Heap} {locs : List Loc} {cells slots : Nat} {ls : Array Slot} {rest : List Value} {cc : ByteArray} {pc : Nat} (hexec : p.tables.exec = Jvm.exec) (hb : c.code = cc) (hl : l.stackTraces = false) {own cls text : String} {names : List String} {ik is ic sa : Nat} {A : Nat → Prop}
    (hown : s.vm.findClass own = some m.cls) (hcls : Bundle.fit cls = true) (hnames : ∀ n ∈ names, Bundle.fit n = true)
    (hk : (Cond.classLink own ik cls).before args s = true) (hini : (Cond.initialized cls).before args s = true) (hstr : vk_R own is text sa s) (hat : ∀ w ∈ vx_atS own ic cls names, w.before args s = true)
    (hgood : ∀ w ∈ Cond.classLink own ik cls :: Cond.initialized cls :: vx_atS own ic cls names, vx_ot w = true)
    (hU : vx_Zq Bundle.tN "UNASSIGNED_STACK" Bundle.steD A s s.heap) (hN : vx_Zq Bundle.tN "SUPPRESSED_SENTINEL" Bundle.listD A s s.heap) (hS : va_S A s.heap H locs) (hsize : ls.size = c.maxLocals)
    (d0 : decode cc pc = .ok (.new ik, 3)) (d3 : decode cc (pc + 3) = .ok (.dup, 1)) (d4 : decode cc (pc + 4) = .ok (.ldc is, 2)) (d6 : decode cc (pc + 6) = .ok (.invokespecial ic, 3)) (d9 : decode cc (pc + 9) = .ok (.athrow, 1))
    (hout : ∀ x ∈ c.exceptionTable.toList, covers x (pc + 9) = false)
    (hRframes : names.length + 3 < R.frames) (hRlocals : (rest.map fun v => v.category).sum + (13 * (names.length + 1) + 43) ≤ R.locals) (hRcells : cells + 1 ≤ R.cells) (hRslots : slots + 6 ≤ R.slots) (hlocks : meth.locks = false) {T : State} (hT : T.heap = H) (X : Stand p l e R s m args below meth c T locs cells slots) :
    ∃ U : State, Steps p.tables e below (T.setTop (F0 m pc ls rest)) U ∧ U.status = .running ∧ Ended U below (.threw H.size) ∧ s.WarmedH U.vm ∧ s.sameButNew ({ U with vm := s.vm } : State) locs (cells + 1) (slots + 6) ∧ U.heap.size = H.size + 1 ∧ (∀ q : Nat, q < H.size → U.heap[q]? = H[q]?) ∧ ∃ ce : Cell, U.heap[H.size]? = some ce ∧ ce.vm = .none ∧ s.vm.findClass cls = some ce.cls := by
  have htr : e.platform.stackTraces = false := (show e.platform.stackTraces = l.stackTraces by rw [X.admits.platform]).trans hl
  have Y := vx_rebase X (R' := { frames := R.frames, locals := R.locals, cells := 1, slots := 6 }) (Nat.le_refl _) (Nat.le_refl _) hRcells hRslots
  obtain ⟨s', hA⟩ : ∃ z, z = (T.setVm s.vm).setFrames (.invoking m args :: below) := ⟨_, rfl⟩
  rw [← hA] at Y
  have hvm : s'.vm = s.vm := by rw [hA]; rfl
  have hhp : s'.heap = H := by rw [hA]; exact hT
  have hW0 : s.WarmedH s'.vm := by rw [hvm]; exact State.WarmedH.refl s
  have hat' : ∀ w ∈ vx_atS own ic cls names, w.before args s' = true := fun w hw => vx_ot_at hW0 hvm.symm (hgood w (List.mem_cons_of_mem _ (List.mem_cons_of_mem _ hw))) (hat w hw)
  have hk' : (Cond.classLink own ik cls).before args s' = true := vx_ot_at hW0 hvm.symm (hgood _ List.mem_cons_self) hk
  have hini' : (Cond.initialized cls).before args s' = true := vx_ot_at hW0 hvm.symm (hgood _ (List.mem_cons_of_mem _ List.mem_cons_self)) hini
  have hU' : vx_Zq Bundle.tN "UNASSIGNED_STACK" Bundle.steD A s' s'.heap := by rw [hhp]; exact vx_Zq.moved hW0.alike (hU.kept hS.2.1)
  have hN' : vx_Zq Bundle.tN "SUPPRESSED_SENTINEL" Bundle.listD A s' s'.heap := by rw [hhp]; exact vx_Zq.moved hW0.alike (hN.kept hS.2.1)
  have h : ∀ w ∈ Bundle.ownAtoms own ic cls names, w.before args s' = true := vx_own hat' (vx_isRefq hU'.1) (vx_isRefq hN'.1) hU'.2.word hN'.2.word
  have hown' : s'.vm.findClass own = some m.cls := by rw [hvm]; exact hown
  have hins : (Cond.instantiable cls 6).before args s' = true := h _ (by simp [Bundle.ownAtoms])
  obtain ⟨vm₁, cX, kX, hfX, hkX, -, -, X₁, st1⟩ := Y.newCold hexec (own := own) (C := cls) (index := ik) (n := 6) hown' hk' hins hini'
    (g := F0 m pc ls rest) rfl (by rw [hb]; exact d0) (Nat.le_refl _) (Nat.le_refl _)
  generalize hT1 : (T.setVm vm₁).pushCell { cls := cX, slots := kX.instanceTypes.map defaultValue, vm := .none } = T1 at X₁ st1
  have hcat : (Value.ref T.heap.size).category = 1 := rfl
  have hcellA : T1.heap[T.heap.size]? = some (freshCell cX kX) := by rw [← hT1]; exact State.heap_pushCell_size _ _
  have d3' : decode c.code (pc + 3) = .ok (.dup, 1) := by rw [hb]; exact d3
  have d4' : decode c.code (pc + 4) = .ok (.ldc is, 2) := by rw [hb]; exact d4
  have hstr' : vk_R own is text sa s' := vk_R.warm hW0 hstr
  obtain ⟨U, hsteps, hrun, hend, hW, hsame, ce, hce, hO⟩ := X₁.ctorThrowS hexec htr (own := own) (cls := cls) (names := names) (ic := ic) hown' hcls hnames h (fun x hx => nomatch hx) hfX hkX hcellA (by rw [hhp, hT]; exact Nat.le_refl _) (msg := .ref sa) rfl
    (g := { method := m, pc := pc + 6, locals := ls, stack := .ref sa :: .ref T.heap.size :: .ref T.heap.size :: rest, locked := none }) rfl hsize rfl rfl (rest := rest) rfl
    (by rw [hb]; exact d6) (by rw [hb]; exact d9) hout hRframes (by simp only [List.map_cons, List.sum_cons, hcat]; omega) hlocks
  obtain ⟨f1, f2⟩ := vx_frame hsame
  rw [hhp] at f1 f2
  have hWs : s.WarmedH U.vm := State.WarmedH.trans hW0 hW
  have hcl : s.vm.findClass cls = some ce.cls := by
    have h9 := hO.cls
    rw [hvm] at h9
    exact h9
  have hall : s.sameButNew ({ U with vm := s.vm } : State) locs (cells + 1) (slots + 6) := by
    subst hA
    obtain ⟨e1, e2⟩ := hsame
    rw [State.setFrames_setFrames] at e1
    have h2 : (T.setVm s.vm).sameButNew ({ U with vm := s.vm } : State) [] (0 + 1) (0 + 6) := ⟨e1, e2⟩
    have h3 := X.same.trans h2
    rw [List.append_nil] at h3
    exact h3.mono (by omega) (by omega)
  have hz1 : U.heap.size ≤ H.size + 1 := by
    have h9 := hsame.2.2.1
    rw [hhp] at h9
    exact h9
  have hz2 : T.heap.size < U.heap.size := (Array.getElem?_eq_some_iff.mp hce).1
  refine ⟨U, ?_, hrun, by rw [← hT]; exact hend, hWs, hall, by rw [hT] at hz2; omega, fun q hq => f2 q hq (fun z hz => nomatch hz), ce, by rw [← hT]; exact hce, hO.vm, hcl⟩
  refine st1 _ ?_
  show Steps p.tables e below (T1.setTop { method := m, pc := pc + 3, locals := ls, stack := .ref T.heap.size :: rest, locked := none }) _
  jvm_step X₁.here [X₁.here.top, hexec, d3', Value.category]
  exact X₁.ldcString hexec (own := own) (text := text) (index := is) (a := sa) hown' hstr'.1 hstr'.2
    (g := { method := m, pc := pc + 4, locals := ls, stack := .ref T.heap.size :: .ref T.heap.size :: rest, locked := none }) rfl d4' _ hsteps
theorem tw_throwSW {H : Heap} {locs : List Loc} {cells slots : Nat} {ls : Array Slot} {rest : List Value} {cc : ByteArray} {pc : Nat} (hexec : p.tables.exec = Jvm.exec) (hb : c.code = cc) (hl : l.stackTraces = false) {own cls text : String} {names : List String} {ik is ic sa : Nat} {A : Nat → Prop}
    (hown : s.vm.findClass own = some m.cls) (hcls : Bundle.fit cls = true) (hnames : ∀ n ∈ names, Bundle.fit n = true)
    (hk : (Cond.classLink own ik cls).before args s = true) (hini : (Cond.initialized cls).before args s = true) (hstr : vk_R own is text sa s) (hat : ∀ w ∈ vx_atS own ic cls names, w.before args s = true)
    (hgood : ∀ w ∈ Cond.classLink own ik cls :: Cond.initialized cls :: vx_atS own ic cls names, vx_ot w = true)
    (hU : vx_Zq Bundle.tN "UNASSIGNED_STACK" Bundle.steD A s s.heap) (hN : vx_Zq Bundle.tN "SUPPRESSED_SENTINEL" Bundle.listD A s s.heap) (hS : va_S A s.heap H locs) (hsize : ls.size = c.maxLocals)
    (d0 : decode cc pc = .ok (.new ik, 3)) (d3 : decode cc (pc + 3) = .ok (.dup, 1)) (d4 : decode cc (pc + 4) = .ok (.ldc_w is, 3)) (d7 : decode cc (pc + 7) = .ok (.invokespecial ic, 3)) (d10 : decode cc (pc + 10) = .ok (.athrow, 1))
    (hout : ∀ x ∈ c.exceptionTable.toList, covers x (pc + 10) = false)
    (hRframes : names.length + 3 < R.frames) (hRlocals : (rest.map fun v => v.category).sum + (13 * (names.length + 1) + 43) ≤ R.locals) (hRcells : cells + 1 ≤ R.cells) (hRslots : slots + 6 ≤ R.slots) (hlocks : meth.locks = false) {T : State} (hT : T.heap = H) (X : Stand p l e R s m args below meth c T locs cells slots) :
    ∃ U : State, Steps p.tables e below (T.setTop (F0 m pc ls rest)) U ∧ U.status = .running ∧ Ended U below (.threw H.size) ∧ s.WarmedH U.vm ∧ s.sameButNew ({ U with vm := s.vm } : State) locs (cells + 1) (slots + 6) ∧ U.heap.size = H.size + 1 ∧ (∀ q : Nat, q < H.size → U.heap[q]? = H[q]?) ∧ ∃ ce : Cell, U.heap[H.size]? = some ce ∧ ce.vm = .none ∧ s.vm.findClass cls = some ce.cls := by
  have htr : e.platform.stackTraces = false := (show e.platform.stackTraces = l.stackTraces by rw [X.admits.platform]).trans hl
  have Y := vx_rebase X (R' := { frames := R.frames, locals := R.locals, cells := 1, slots := 6 }) (Nat.le_refl _) (Nat.le_refl _) hRcells hRslots
  obtain ⟨s', hA⟩ : ∃ z, z = (T.setVm s.vm).setFrames (.invoking m args :: below) := ⟨_, rfl⟩
  rw [← hA] at Y
  have hvm : s'.vm = s.vm := by rw [hA]; rfl
  have hhp : s'.heap = H := by rw [hA]; exact hT
  have hW0 : s.WarmedH s'.vm := by rw [hvm]; exact State.WarmedH.refl s
  have hat' : ∀ w ∈ vx_atS own ic cls names, w.before args s' = true := fun w hw => vx_ot_at hW0 hvm.symm (hgood w (List.mem_cons_of_mem _ (List.mem_cons_of_mem _ hw))) (hat w hw)
  have hk' : (Cond.classLink own ik cls).before args s' = true := vx_ot_at hW0 hvm.symm (hgood _ List.mem_cons_self) hk
  have hini' : (Cond.initialized cls).before args s' = true := vx_ot_at hW0 hvm.symm (hgood _ (List.mem_cons_of_mem _ List.mem_cons_self)) hini
  have hU' : vx_Zq Bundle.tN "UNASSIGNED_STACK" Bundle.steD A s' s'.heap := by rw [hhp]; exact vx_Zq.moved hW0.alike (hU.kept hS.2.1)
  have hN' : vx_Zq Bundle.tN "SUPPRESSED_SENTINEL" Bundle.listD A s' s'.heap := by rw [hhp]; exact vx_Zq.moved hW0.alike (hN.kept hS.2.1)
  have h : ∀ w ∈ Bundle.ownAtoms own ic cls names, w.before args s' = true := vx_own hat' (vx_isRefq hU'.1) (vx_isRefq hN'.1) hU'.2.word hN'.2.word
  have hown' : s'.vm.findClass own = some m.cls := by rw [hvm]; exact hown
  have hins : (Cond.instantiable cls 6).before args s' = true := h _ (by simp [Bundle.ownAtoms])
  obtain ⟨vm₁, cX, kX, hfX, hkX, -, -, X₁, st1⟩ := Y.newCold hexec (own := own) (C := cls) (index := ik) (n := 6) hown' hk' hins hini'
    (g := F0 m pc ls rest) rfl (by rw [hb]; exact d0) (Nat.le_refl _) (Nat.le_refl _)
  generalize hT1 : (T.setVm vm₁).pushCell { cls := cX, slots := kX.instanceTypes.map defaultValue, vm := .none } = T1 at X₁ st1
  have hcat : (Value.ref T.heap.size).category = 1 := rfl
  have hcellA : T1.heap[T.heap.size]? = some (freshCell cX kX) := by rw [← hT1]; exact State.heap_pushCell_size _ _
  have d3' : decode c.code (pc + 3) = .ok (.dup, 1) := by rw [hb]; exact d3
  have d4' : decode c.code (pc + 4) = .ok (.ldc_w is, 3) := by rw [hb]; exact d4
  have hstr' : vk_R own is text sa s' := vk_R.warm hW0 hstr
  obtain ⟨U, hsteps, hrun, hend, hW, hsame, ce, hce, hO⟩ := X₁.ctorThrowS hexec htr (own := own) (cls := cls) (names := names) (ic := ic) hown' hcls hnames h (fun x hx => nomatch hx) hfX hkX hcellA (by rw [hhp, hT]; exact Nat.le_refl _) (msg := .ref sa) rfl
    (g := { method := m, pc := pc + 7, locals := ls, stack := .ref sa :: .ref T.heap.size :: .ref T.heap.size :: rest, locked := none }) rfl hsize rfl rfl (rest := rest) rfl
    (by rw [hb]; exact d7) (by rw [hb]; exact d10) hout hRframes (by simp only [List.map_cons, List.sum_cons, hcat]; omega) hlocks
  obtain ⟨f1, f2⟩ := vx_frame hsame
  rw [hhp] at f1 f2
  have hWs : s.WarmedH U.vm := State.WarmedH.trans hW0 hW
  have hcl : s.vm.findClass cls = some ce.cls := by
    have h9 := hO.cls
    rw [hvm] at h9
    exact h9
  have hall : s.sameButNew ({ U with vm := s.vm } : State) locs (cells + 1) (slots + 6) := by
    subst hA
    obtain ⟨e1, e2⟩ := hsame
    rw [State.setFrames_setFrames] at e1
    have h2 : (T.setVm s.vm).sameButNew ({ U with vm := s.vm } : State) [] (0 + 1) (0 + 6) := ⟨e1, e2⟩
    have h3 := X.same.trans h2
    rw [List.append_nil] at h3
    exact h3.mono (by omega) (by omega)
  have hz1 : U.heap.size ≤ H.size + 1 := by
    have h9 := hsame.2.2.1
    rw [hhp] at h9
    exact h9
  have hz2 : T.heap.size < U.heap.size := (Array.getElem?_eq_some_iff.mp hce).1
  refine ⟨U, ?_, hrun, by rw [← hT]; exact hend, hWs, hall, by rw [hT] at hz2; omega, fun q hq => f2 q hq (fun z hz => nomatch hz), ce, by rw [← hT]; exact hce, hO.vm, hcl⟩
  refine st1 _ ?_
  show Steps p.tables e below (T1.setTop { method := m, pc := pc + 3, locals := ls, stack := .ref T.heap.size :: rest, locked := none }) _
  jvm_step X₁.here [X₁.here.top, hexec, d3', Value.category]
  exact X₁.ldcStringW hexec (own := own) (text := text) (index := is) (a := sa) hown' hstr'.1 hstr'.2
    (g := { method := m, pc := pc + 4, locals := ls, stack := .ref T.heap.size :: .ref T.heap.size :: rest, locked := none }) rfl d4' _ hsteps
end JE
/-! ===== throw new X("text"); calls by contracts; what was thrown leaves the method, or is caught ===== -/
/-- what 'new X; dup; ldc; <init>(String); athrow' asks: the entries ik (class), ic (constructor); ci: X's number -/
def TH (own : String) (ik ic ci : Nat) (names : List String) : Prop := ∃ (X : String) (T : u_T), g_cl[ci]? = some (X, T, 0) ∧ Bundle.fit X = true ∧ (∀ k ∈ names, Bundle.fit k = true) ∧ (∀ w ∈ Cond.classLink own ik X :: Cond.initialized X :: vx_atS own ic X names, w ∈ g_ws ∧ vx_ot w = true ∧ w.onTables = true)
/-- a method as a callee: its code's word, how many parameters -/
def MC (y : MethodName) (cd : Cond) (cc : ByteArray) (maxL : Nat) (ret : Option FieldType) (hh : List (Nat × Nat × Nat × Nat)) (k : Nat) : Prop := cd ∈ g_ws ∧ ((cd = Cond.code y cc maxL ret ∧ hh = []) ∨ cd = Cond.codeWith y cc maxL ret hh) ∧ Cond.initialized y.cls ∈ g_ws ∧ (y.cls ≠ "java/lang/invoke/MethodHandle" ∧ y.cls ≠ "java/lang/invoke/VarHandle") ∧ (parseMethodDescriptor y.desc).map (fun d => d.parameters.length) = some k
def ML (own : String) (index : Nat) (y : MethodName) : Prop := Cond.methodLink own index y ∈ g_ws ∨ ∃ host : String, Cond.methodLinkNest own index y host ∈ g_ws
section JC
variable {p : Program} {l : Launch} {e : Env} {R : Room} {s : State} {m : MethodId} {args : Array Value} {below : List Frame} {meth : Method} {c : Code} {D : va_G} {cA : Nat → ClassId} {b nL : Nat} {Q : State → Prop} {n : Nat} {h : AH} {kc ks pc : Nat} {L : List (Nat × Value)} {st : List Value} {own mn : String} {cc : ByteArray} {ret : Option FieldType} {hh : List (Nat × Nat × Nat × Nat)} {Qa : Rz → Nat → AH → Prop} {mc ms : Nat}
theorem th_at {H : Heap} {ci k : Nat} {X : String} {T : u_T} (hK : va_K D g_cl (g_ty cA) s) (hc : g_cl[ci]? = some (X, T, 0)) {ce : Cell} (h1 : H[b + k]? = some ce) (h2 : ce.vm = .none) (h3 : s.vm.findClass X = some ce.cls) : va_at D g_cl (b + k, toE b cA (.inr (ci, []))) H := by
  refine ⟨_, hc, ce, h1, ?_, h2, fun k hk => absurd hk (Nat.not_lt_zero k)⟩
  exact Option.some.inj (h3.symm.trans (hK.1 ci _ hc).2.1)
theorem j_throwS (C : Cx p l s m meth c D cA b nL own mn cc ret hh) {ik is ic ci : Nat} {text : String} {names : List String} (hT : TH own ik ic ci names) (hstr : (own, is, text) ∈ g_str) (hout : hh = [])
    (d0 : decode cc pc = .ok (.new ik, 3)) (d3 : decode cc (pc + 3) = .ok (.dup, 1)) (d4 : decode cc (pc + 4) = .ok (.ldc is, 2)) (d6 : decode cc (pc + 6) = .ok (.invokespecial ic, 3)) (d9 : decode cc (pc + 9) = .ok (.athrow, 1))
    (hR1 : names.length + 3 < R.frames) (hR2 : (st.map fun v => v.category).sum + (13 * (names.length + 1) + 43) ≤ R.locals) (hR3 : kc + 1 ≤ R.cells) (hR4 : ks + 6 ≤ R.slots) (hc : kc + 1 ≤ mc) (hs : ks + 6 ≤ ms) (hq : Qa (.inr ci) (n + 1) (hu h n (.inr (ci, [])))) : J p l e R s m args below meth c D cA b nL (EndQ D cA b s below Qa mc ms) n h kc ks pc L st := by
  intro H locs ls hp hS hl T hTH X
  obtain ⟨Xn, T0, t1, t2, t3, t4⟩ := hT
  obtain ⟨sa, hsa⟩ := C.2.2.2.2.1.2.2.2.2.1 _ hstr
  have hw : ∀ w ∈ Cond.classLink own ik Xn :: Cond.initialized Xn :: vx_atS own ic Xn names, w.before args s = true := fun w hw => C.w (t4 w hw).1 (t4 w hw).2.2 args
  obtain ⟨U, a1, a2, a3, a4, a5, a6, a7, ce, a8, a9, a10⟩ := tw_throwS (A := fun q => b ≤ q) (rest := st.map (sv b)) C.1 C.2.1 C.2.2.2.2.2.2.2.2.1 C.2.2.2.1 t2 t3 (hw _ List.mem_cons_self) (hw _ (List.mem_cons_of_mem _ List.mem_cons_self)) hsa (fun w h9 => hw w (List.mem_cons_of_mem _ (List.mem_cons_of_mem _ h9)))
    (fun w h9 => (t4 w h9).2.1) C.2.2.2.2.1.2.2.2.2.2.1 C.2.2.2.2.1.2.2.2.2.2.2 hS (hl.1.trans C.2.2.1.symm) d0 d3 d4 d6 d9 (by rw [C.2.2.2.2.2.2.2.1, hout]; intro x hx; cases hx)
    hR1 (by rw [List.map_map]; rw [show ((fun v : Value => v.category) ∘ sv b) = (fun v : Value => v.category) from funext (fun v => sv_cat b v)]; exact hR2) hR3 hR4 C.2.2.2.2.2.1 hTH X
  refine ⟨U, a1, _, a2, a3, a4, ⟨locs, a5.mono hc hs, hS.2.2⟩, fun q hq => ?_, n + 1, hu h n (.inr (ci, [])), .inr ci, hp.push a6 a7 (th_at C.2.2.2.2.1.2.1 t1 (by rw [← hp.1]; exact a8) a9 a10), ⟨n, Nat.lt_succ_self n, by rw [hp.1], hu_s _ _ _⟩, hq⟩
  rw [a7 q (Nat.lt_of_lt_of_le hq (by rw [hp.1]; omega))]
  exact S_low C.2.2.2.2.1.2.2.1 hS q hq
theorem j_throwSW (C : Cx p l s m meth c D cA b nL own mn cc ret hh) {ik is ic ci : Nat} {text : String} {names : List String} (hT : TH own ik ic ci names) (hstr : (own, is, text) ∈ g_str) (hout : hh = [])
    (d0 : decode cc pc = .ok (.new ik, 3)) (d3 : decode cc (pc + 3) = .ok (.dup, 1)) (d4 : decode cc (pc + 4) = .ok (.ldc_w is, 3)) (d6 : decode cc (pc + 7) = .ok (.invokespecial ic, 3)) (d9 : decode cc (pc + 10) = .ok (.athrow, 1))
    (hR1 : names.length + 3 < R.frames) (hR2 : (st.map fun v => v.category).sum + (13 * (names.length + 1) + 43) ≤ R.locals) (hR3 : kc + 1 ≤ R.cells) (hR4 : ks + 6 ≤ R.slots) (hc : kc + 1 ≤ mc) (hs : ks + 6 ≤ ms) (hq : Qa (.inr ci) (n + 1) (hu h n (.inr (ci, [])))) : J p l e R s m args below meth c D cA b nL (EndQ D cA b s below Qa mc ms) n h kc ks pc L st := by
  intro H locs ls hp hS hl T hTH X
  obtain ⟨Xn, T0, t1, t2, t3, t4⟩ := hT
  obtain ⟨sa, hsa⟩ := C.2.2.2.2.1.2.2.2.2.1 _ hstr
  have hw : ∀ w ∈ Cond.classLink own ik Xn :: Cond.initialized Xn :: vx_atS own ic Xn names, w.before args s = true := fun w hw => C.w (t4 w hw).1 (t4 w hw).2.2 args
  obtain ⟨U, a1, a2, a3, a4, a5, a6, a7, ce, a8, a9, a10⟩ := tw_throwSW (A := fun q => b ≤ q) (rest := st.map (sv b)) C.1 C.2.1 C.2.2.2.2.2.2.2.2.1 C.2.2.2.1 t2 t3 (hw _ List.mem_cons_self) (hw _ (List.mem_cons_of_mem _ List.mem_cons_self)) hsa (fun w h9 => hw w (List.mem_cons_of_mem _ (List.mem_cons_of_mem _ h9)))
    (fun w h9 => (t4 w h9).2.1) C.2.2.2.2.1.2.2.2.2.2.1 C.2.2.2.2.1.2.2.2.2.2.2 hS (hl.1.trans C.2.2.1.symm) d0 d3 d4 d6 d9 (by rw [C.2.2.2.2.2.2.2.1, hout]; intro x hx; cases hx)
    hR1 (by rw [List.map_map]; rw [show ((fun v : Value => v.category) ∘ sv b) = (fun v : Value => v.category) from funext (fun v => sv_cat b v)]; exact hR2) hR3 hR4 C.2.2.2.2.2.1 hTH X
  refine ⟨U, a1, _, a2, a3, a4, ⟨locs, a5.mono hc hs, hS.2.2⟩, fun q hq => ?_, n + 1, hu h n (.inr (ci, [])), .inr ci, hp.push a6 a7 (th_at C.2.2.2.2.1.2.1 t1 (by rw [← hp.1]; exact a8) a9 a10), ⟨n, Nat.lt_succ_self n, by rw [hp.1], hu_s _ _ _⟩, hq⟩
  rw [a7 q (Nat.lt_of_lt_of_le hq (by rw [hp.1]; omega))]
  exact S_low C.2.2.2.2.1.2.2.1 hS q hq
/-- the call itself, behind the invoking instruction's own step -/
theorem call_core {T : State} {locs : List Loc} {y : MethodName} {cd : Cond} {fr lo mc' ms' maxL len k : Nat} {vs : List Value} {Qc : Rz → Nat → AH → Prop} {cc' : ByteArray} {ret' : Option FieldType} {hh' : List (Nat × Nat × Nat × Nat)} {g : JFrame} {ig : Instr} {mk : MethodId}
    (hG : Gl D cA b s) (X : Stand p l e R s m args below meth c T locs kc ks) (hp : Hp D cA b n h T.heap) (hS : va_S (fun q => b ≤ q) s.heap T.heap locs)
    (hC : Cn l D cA b y cd fr lo mc' ms' vs n h Qc) (hM : MC y cd cc' maxL ret' hh' k) (hg : g.method = m) (hsize : g.locals.size = c.maxLocals) (hdg : decode c.code g.pc = .ok (ig, len)) (hn : T.methodNamed? y = some mk)
    (hR1 : fr + 1 ≤ R.frames) (hR2 : 2 * g.monitorRoom + (g.stack.map fun v => v.category).sum + (maxL + 11) + lo ≤ R.locals) (hR3 : kc + mc' ≤ R.cells) (hR4 : ks + ms' ≤ R.slots) :
    ∃ (n' : Nat) (h' : AH) (r : Rz) (T' : State) (locs' : List Loc), Qc r n' h' ∧ Stand p l e R s m args below meth c T' locs' (kc + mc') (ks + ms') ∧ Hp D cA b n' h' T'.heap ∧ va_S (fun q => b ≤ q) s.heap T'.heap locs' ∧
      match r with
      | .inl v => Steps p.tables e below (doInvoke e (T.setTop g) [] mk (vs.map (sv b)).toArray).1 (T'.setTop { g with pc := g.pc + len, stack := (v.map (sv b)).toList ++ g.stack })
      | .inr ci => ∃ q, q < n' ∧ h' q = .inr (ci, []) ∧ Steps p.tables e below (doInvoke e (T.setTop g) [] mk (vs.map (sv b)).toArray).1 ((T'.setTop g).pushFrame (.throwing (b + q))) := by
  obtain ⟨m1, m2, m3, -, -⟩ := hM
  have hlow := S_low hG.2.2.1 hS
  have hzb : b ≤ T.heap.size := by rw [hp.1]; omega
  have hGT : Gl D cA b T := hG.to X.warmed hzb hlow
  have hGc : Gl D cA b (T.calling g mk (vs.map (sv b)).toArray) := hGT.to (State.WarmedH.refl T) hzb (fun _ _ => rfl)
  have hcdT : ∀ a' : Array Value, cd.before a' T = true := by
    intro a'
    have h1 := hGT.1 cd m1
    rcases m2 with ⟨rfl, -⟩ | rfl <;> exact va_tabs rfl rfl h1
  have hini : (Cond.initialized y.cls).before (vs.map (sv b)).toArray T = true := va_tabs rfl rfl (hGT.1 _ m3)
  have hsp : ∃ methY cY, T.vm.method? mk = some methY ∧ methY.code = some cY ∧ cY.maxLocals = maxL := by
    rcases m2 with ⟨rfl, -⟩ | rfl
    · obtain ⟨methY, cY, hmY, hcY, -, hlY, -⟩ := Cond.code_spec hn (hcdT #[])
      exact ⟨methY, cY, hmY, hcY, hlY⟩
    · obtain ⟨m9, methY, cY, hn9, hmY, hcY, -, hlY, -⟩ := Cond.codeWith_spec (hcdT #[])
      cases Option.some.inj (hn9.symm.trans hn)
      exact ⟨methY, cY, hmY, hcY, hlY⟩
  obtain ⟨methY, cY, hmY, hcY, hlY⟩ := hsp
  obtain ⟨kY, hkY, -⟩ := className_of_methodNamed hn
  have hinitY : kY.init = .initialized := Cond.initialized_spec (findClass_of_methodNamed hn) hkY hini
  have hAt : At T g.method c below := by rw [hg]; exact X.here
  have happ : (headSpec [cd] { frames := fr, cells := mc', slots := ms', locals := lo }).appliesLoose y e.platform (T.calling g mk (vs.map (sv b)).toArray) = true :=
    Spec.appliesLoose_calling (g := g) hAt hdg hn hkY hinitY
      (X.room_calling (g := g) (R' := { frames := fr, cells := mc', slots := ms', locals := lo }) hsize hmY hcY hR1 (by rw [hlY]; exact hR2) hR3 hR4)
      (atoms_intro (fun w hw => by rw [List.mem_singleton] at hw; subst hw; exact hcdT _))
  obtain ⟨mid, hmid⟩ := hAt.above
  have hfr : (T.setTop g).frames = (.java g :: mid) ++ below := by rw [State.frames_setTop' g hAt.top, hmid]; rfl
  obtain ⟨o, s₂, hsteps, -, hend, hq⟩ := Steps.callFree hC p X.admits X.cas X.clock (acts := []) hfr happ ⟨rfl, hGc, hp⟩ trivial
  rw [State.frames_setTop' g hAt.top, X.tail] at hend
  obtain ⟨q1, ⟨L9, q2, q3⟩, q4, n', h', r, q5, q6, q7⟩ : EndO D cA b (T.calling g mk (vs.map (sv b)).toArray) o s₂ Qc mc' ms' := hq
  have fin : ∀ T' : State, T.sameButNew (T'.setVm T.vm) L9 mc' ms' → T'.heap = s₂.heap → Hp D cA b n' h' T'.heap ∧ va_S (fun q => b ≤ q) s.heap T'.heap (locs ++ L9) := by
    intro T' h1 h2
    refine ⟨by rw [h2]; exact q5, Nat.le_trans hS.1 h1.2.1, fun q a1 a2 => ?_, fun z hz => ?_⟩
    · rw [h2]
      exact (q4 q (Nat.not_le.mp a2)).trans (hS.2.1 q a1 a2)
    · rcases List.mem_append.mp hz with h9 | h9
      · exact hS.2.2 z h9
      · exact q3 z h9
  cases r with
  | inl v =>
    have q6' : o = .returned (v.map (sv b)) := q6
    subst q6'
    obtain ⟨T', X', hW', hsm, ht⟩ := X.outOf hg hdg hend q1 q2
    have hheap : T'.heap = s₂.heap := by rw [ht]; rfl
    obtain ⟨f1, f2⟩ := fin T' hsm hheap
    exact ⟨n', h', .inl v, T', locs ++ L9, q7, X', f1, f2, by have h9 := hsteps; rw [ht] at h9; exact h9⟩
  | inr ci =>
    obtain ⟨q, hqn, hqo, hqh⟩ := q6
    subst hqo
    obtain ⟨T', X', hW', hsm, ht⟩ := X.outOfThrown hg hend q1 q2
    have hheap : T'.heap = s₂.heap := by rw [ht]; exact (Stand.throwing_heap T' g (b + q)).symm
    obtain ⟨f1, f2⟩ := fin T' hsm hheap
    exact ⟨n', h', .inr ci, T', locs ++ L9, q7, X', f1, f2, q, hqn, hqh, by have h9 := hsteps; rw [ht] at h9; exact h9⟩
end JC
/-! ===== the invoking instructions ===== -/
/-- cell q is being thrown, over the frame at pc -/
def JX (p : Program) (l : Launch) (e : Env) (R : Room) (s : State) (m : MethodId) (args : Array Value) (below : List Frame) (meth : Method) (c : Code) (D : va_G) (cA : Nat → ClassId) (b nL : Nat) (Q : State → Prop) (n : Nat) (h : AH) (kc ks pc : Nat) (L : List (Nat × Value)) (q : Nat) : Prop :=
  ∀ (H : Heap) (locs : List Loc) (ls : Array Slot) (rest : List Value) (T : State), Hp D cA b n h H → va_S (fun q => b ≤ q) s.heap H locs → lv_has ls nL (sL b L) → T.heap = H → Stand p l e R s m args below meth c T locs kc ks → ∃ t, Steps p.tables e below ((T.setTop (F0 m pc ls rest)).pushFrame (.throwing (b + q))) t ∧ Q t
/-- where a call leads: on behind it, or up with what was thrown -/
def JK (p : Program) (l : Launch) (e : Env) (R : Room) (s : State) (m : MethodId) (args : Array Value) (below : List Frame) (meth : Method) (c : Code) (D : va_G) (cA : Nat → ClassId) (b nL : Nat) (Q : State → Prop) (kc ks pc : Nat) (L : List (Nat × Value)) (st : List Value) (Qc : Rz → Nat → AH → Prop) : Prop :=
  (∀ (v : Option Value) (n : Nat) (h : AH), Qc (.inl v) n h → J p l e R s m args below meth c D cA b nL Q n h kc ks (pc + 3) L (v.toList ++ st)) ∧ ∀ (ci : Nat) (n : Nat) (h : AH) (q : Nat), Qc (.inr ci) n h → q < n → h q = .inr (ci, []) → JX p l e R s m args below meth c D cA b nL Q n h kc ks pc L q
/-- it returns v, with the heap n1, h1 -/
def Re (v : Option Value) (n1 : Nat) (h1 : AH) : Rz → Nat → AH → Prop := fun r n h => r = .inl v ∧ n = n1 ∧ h = h1
section JI
variable {p : Program} {l : Launch} {e : Env} {R : Room} {s : State} {m : MethodId} {args : Array Value} {below : List Frame} {meth : Method} {c : Code} {D : va_G} {cA : Nat → ClassId} {b nL : Nat} {Q : State → Prop} {n : Nat} {h : AH} {kc ks pc : Nat} {L : List (Nat × Value)} {st : List Value} {own mn : String} {cc : ByteArray} {ret : Option FieldType} {hh : List (Nat × Nat × Nat × Nat)} {Qa : Rz → Nat → AH → Prop} {mc ms : Nat}
theorem jk_e {v : Option Value} {n1 : Nat} {h1 : AH} (k : J p l e R s m args below meth c D cA b nL Q n1 h1 kc ks (pc + 3) L (v.toList ++ st)) : JK p l e R s m args below meth c D cA b nL Q kc ks pc L st (Re v n1 h1) := by
  refine ⟨fun v' n' h' hq => ?_, fun ci n' h' q hq => by cases hq.1⟩
  obtain ⟨e1, rfl, rfl⟩ := hq
  cases e1
  exact k
theorem sv_sum (b : Nat) (st : List Value) : ((st.map (sv b)).map fun v => v.category).sum = (st.map fun v => v.category).sum := by
  rw [List.map_map]
  congr 2
  funext v
  exact sv_cat b v
theorem call_go {T T1 : State} {H : Heap} {locs : List Loc} {ls : Array Slot} {y : MethodName} {cd : Cond} {fr lo mc' ms' maxL k : Nat} {vs : List Value} {Qc : Rz → Nat → AH → Prop} {cc' : ByteArray} {ret' : Option FieldType} {hh' : List (Nat × Nat × Nat × Nat)} {ig : Instr} {mk : MethodId} {stk : List Value}
    (C : Cx p l s m meth c D cA b nL own mn cc ret hh) (X : Stand p l e R s m args below meth c T1 locs kc ks) (hp : Hp D cA b n h H) (hT1 : T1.heap = H) (hS : va_S (fun q => b ≤ q) s.heap H locs) (hl : lv_has ls nL (sL b L))
    (hC : Cn l D cA b y cd fr lo mc' ms' vs n h Qc) (hM : MC y cd cc' maxL ret' hh' k) (hd : decode cc pc = .ok (ig, 3)) (hn : T1.methodNamed? y = some mk)
    (hR1 : fr + 1 ≤ R.frames) (hR2 : (st.map fun v => v.category).sum + (maxL + 11) + lo ≤ R.locals) (hR3 : kc + mc' ≤ R.cells) (hR4 : ks + ms' ≤ R.slots)
    (kk : JK p l e R s m args below meth c D cA b nL Q (kc + mc') (ks + ms') pc L st Qc)
    (hstep : ∀ target, (∀ acts, Steps p.tables e below (doInvoke e (T1.setTop (F0 m pc ls (st.map (sv b)))) acts mk (vs.map (sv b)).toArray).1 target) → Steps p.tables e below (T.setTop (F0 m pc ls stk)) target) : ∃ t, Steps p.tables e below (T.setTop (F0 m pc ls stk)) t ∧ Q t := by
  obtain ⟨n', h', r, T', locs', g1, g2, g3, g4, g5⟩ := call_core C.2.2.2.2.1 X (by rw [hT1]; exact hp) (by rw [hT1]; exact hS) hC hM (g := F0 m pc ls (st.map (sv b))) (ig := ig) (len := 3) (mk := mk) rfl (hl.1.trans C.2.2.1.symm) (by rw [C.2.1]; exact hd) hn hR1 (by show 2 * 0 + ((st.map (sv b)).map fun v => v.category).sum + (maxL + 11) + lo ≤ R.locals; rw [sv_sum]; omega) hR3 hR4
  cases r with
  | inl v =>
    obtain ⟨t, a1, a2⟩ := kk.1 v n' h' g1 T'.heap locs' ls g3 g4 hl T' rfl g2
    refine ⟨t, hstep t (fun acts => ?_), a2⟩
    rw [doInvoke_state]
    refine Steps.trans g5 ?_
    have e1 : (v.map (sv b)).toList ++ st.map (sv b) = (v.toList ++ st).map (sv b) := by cases v <;> simp
    show Steps p.tables e below (T'.setTop (F0 m (pc + 3) ls ((v.map (sv b)).toList ++ st.map (sv b)))) t
    rw [e1]
    exact a1
  | inr ci =>
    obtain ⟨q, hqn, hqh, g6⟩ := g5
    obtain ⟨t, a1, a2⟩ := kk.2 ci n' h' q g1 hqn hqh T'.heap locs' ls (st.map (sv b)) T' g3 g4 hl rfl g2
    refine ⟨t, hstep t (fun acts => ?_), a2⟩
    rw [doInvoke_state]
    exact Steps.trans g6 a1
theorem j_callS (C : Cx p l s m meth c D cA b nL own mn cc ret hh) {index fr lo mc' ms' maxL k : Nat} {y : MethodName} {cd : Cond} {vs rv : List Value} {Qc : Rz → Nat → AH → Prop} {cc' : ByteArray} {ret' : Option FieldType} {hh' : List (Nat × Nat × Nat × Nat)} (hd : decode cc pc = .ok (.invokestatic index, 3)) (hL : ML own index y) (hM : MC y cd cc' maxL ret' hh' k) (hst : Cond.static y ∈ g_ws) (hC : Cn l D cA b y cd fr lo mc' ms' vs n h Qc) (hk : vs.length = k) (hrv : vs.reverse ++ st = rv)
    (hR1 : fr + 1 ≤ R.frames) (hR2 : (st.map fun v => v.category).sum + (maxL + 11) + lo ≤ R.locals) (hR3 : kc + mc' ≤ R.cells) (hR4 : ks + ms' ≤ R.slots) (kk : JK p l e R s m args below meth c D cA b nL Q (kc + mc') (ks + ms') pc L st Qc) : J p l e R s m args below meth c D cA b nL Q n h kc ks pc L rv := by
  intro H locs ls hp hS hl T hT X
  subst hrv
  obtain ⟨m1, m2, m3, m4, m5⟩ := id hM
  have hcd : cd.before args s = true := by
    rcases m2 with ⟨rfl, -⟩ | rfl <;> exact C.w m1 rfl args
  have hsp : ∃ mk methM, s.methodNamed? y = some mk ∧ s.vm.method? mk = some methM ∧ parseMethodDescriptor y.desc = some methM.sig := by
    rcases m2 with ⟨rfl, -⟩ | rfl
    · obtain ⟨mk, hnamed⟩ := Cond.code_named hcd
      obtain ⟨methM, cM, hmethM, -, -, -, -, -, -, hsigM⟩ := Cond.code_spec hnamed hcd
      exact ⟨mk, methM, hnamed, hmethM, hsigM⟩
    · obtain ⟨mk, methM, cM, hnamed, hmethM, -, -, -, -, -, -, hsigM⟩ := Cond.codeWith_spec hcd
      exact ⟨mk, methM, hnamed, hmethM, hsigM⟩
  obtain ⟨mk, methM, hnamed, hmethM, hsigM⟩ := hsp
  have hstatic : methM.isStatic = true := Cond.static_spec hnamed hmethM (C.w hst rfl args)
  obtain ⟨kP, hkP, -⟩ := className_of_methodNamed hnamed
  have hinitP : kP.init = .initialized := Cond.initialized_spec (findClass_of_methodNamed hnamed) hkP (C.w m3 rfl args)
  have hlen : (vs.map (sv b)).length = methM.sig.parameters.length := by
    rw [hsigM] at m5
    rw [List.length_map, hk]
    exact (Option.some.inj m5).symm
  have hstk : (vs.reverse ++ st).map (sv b) = (vs.map (sv b)).reverse ++ st.map (sv b) := by rw [List.map_append, List.map_reverse]
  rw [hstk]
  rcases hL with hL | ⟨host, hL⟩
  · obtain ⟨vm₁, X₁, hstep₁⟩ := X.invokestatic C.1 C.2.2.2.1 (C.w hL rfl args) hnamed hmethM hstatic hkP hinitP m4 (g := F0 m pc ls ((vs.map (sv b)).reverse ++ st.map (sv b))) rfl (argsL := vs.map (sv b)) (rest := st.map (sv b)) hlen rfl (by rw [C.2.1]; exact hd)
    exact call_go C X₁ hp hT hS hl hC hM hd (X₁.named hnamed) hR1 hR2 hR3 hR4 kk hstep₁
  · obtain ⟨vm₁, X₁, hstep₁⟩ := X.invokestaticNest C.1 C.2.2.2.1 (C.w hL rfl args) hnamed hmethM hstatic hkP hinitP m4 (g := F0 m pc ls ((vs.map (sv b)).reverse ++ st.map (sv b))) rfl (argsL := vs.map (sv b)) (rest := st.map (sv b)) hlen rfl (by rw [C.2.1]; exact hd)
    exact call_go C X₁ hp hT hS hl hC hM hd (X₁.named hnamed) hR1 hR2 hR3 hR4 kk hstep₁
theorem j_callV (C : Cx p l s m meth c D cA b nL own mn cc ret hh) {index fr lo mc' ms' maxL k a ci : Nat} {y : MethodName} {cc' : ByteArray} {ret' : Option FieldType} {vs rv fs : List Value} {Qc : Rz → Nat → AH → Prop} {Cl : String} {T0 : u_T} {N0 : Nat} (hd : decode cc pc = .ok (.invokevirtual index, 3)) (hL : ML own index y) (hM : MC y (Cond.code y cc' maxL ret') cc' maxL ret' [] k) (hin : Cond.instanceMethod y ∈ g_ws) (hc : g_cl[ci]? = some (Cl, T0, N0)) (hsel : Cond.selects Cl y y ∈ g_ws) (ha : a < n) (hx : h a = .inr (ci, fs)) (hC : Cn l D cA b y (Cond.code y cc' maxL ret') fr lo mc' ms' (.ref a :: vs) n h Qc) (hk : vs.length = k) (hrv : vs.reverse ++ .ref a :: st = rv)
    (hR1 : fr + 1 ≤ R.frames) (hR2 : (st.map fun v => v.category).sum + (maxL + 11) + lo ≤ R.locals) (hR3 : kc + mc' ≤ R.cells) (hR4 : ks + ms' ≤ R.slots) (kk : JK p l e R s m args below meth c D cA b nL Q (kc + mc') (ks + ms') pc L st Qc) : J p l e R s m args below meth c D cA b nL Q n h kc ks pc L rv := by
  intro H locs ls hp hS hl T hT X
  subst hrv
  obtain ⟨m1, m2, m3, m4, m5⟩ := id hM
  have hcode : (Cond.code y cc' maxL ret').before args s = true := C.w m1 rfl args
  obtain ⟨mk, methM, hnamed, hmethM, hstM, habM⟩ := Cond.instanceMethod_spec (C.w hin rfl args)
  obtain ⟨methM', cM, hmethM', -, -, -, -, -, -, hsigM⟩ := Cond.code_spec hnamed hcode
  cases hmethM.symm.trans hmethM'
  obtain ⟨c2, r2, m2', q1, q2, q3, q4, kP, hkP, hkPi⟩ := Cond.selects_spec (C.w hsel rfl args)
  obtain ⟨cellB, hcB, hoB, hclB⟩ := va_recv C.2.2.2.2.1.2.1 hp.2 hc (hp.obj ha hx)
  cases hclB.symm.trans q1
  cases (State.methodFound?_of_named hnamed m4).symm.trans q2
  cases hnamed.symm.trans q3
  have hselP : selectMethod e.platform s.vm cellB.cls mk = .method mk := by rw [Launch.admits_selectMethod X.admits]; exact q4
  have hlen : (vs.map (sv b)).length = methM.sig.parameters.length := by
    rw [hsigM] at m5
    rw [List.length_map, hk]
    exact (Option.some.inj m5).symm
  have hstk : (vs.reverse ++ .ref a :: st).map (sv b) = (vs.map (sv b)).reverse ++ .ref (b + a) :: st.map (sv b) := by rw [List.map_append, List.map_reverse]; rfl
  rw [hstk]
  have hcell : T.heap[b + a]? = some cellB := by rw [hT]; exact hcB
  rcases hL with hL | ⟨host, hL⟩
  · obtain ⟨vm₁, X₁, hstep₁⟩ := X.invokevirtual C.1 C.2.2.2.1 (C.w hL rfl args) hnamed hmethM hstM hkP hkPi m4 (a := b + a) (cell := cellB) hcell
      (fun z h => by rw [h] at hoB; cases hoB) hselP hmethM habM hkP hkPi (g := F0 m pc ls ((vs.map (sv b)).reverse ++ .ref (b + a) :: st.map (sv b))) rfl (argsL := vs.map (sv b)) (rest := st.map (sv b)) hlen rfl (by rw [C.2.1]; exact hd)
    exact call_go C X₁ hp hT hS hl hC hM hd (X₁.named hnamed) hR1 hR2 hR3 hR4 kk hstep₁
  · obtain ⟨vm₁, X₁, hstep₁⟩ := X.invokevirtualNest C.1 C.2.2.2.1 (C.w hL rfl args) hnamed hmethM hstM hkP hkPi m4 (a := b + a) (cell := cellB) hcell
      (fun z h => by rw [h] at hoB; cases hoB) hselP hmethM habM hkP hkPi (g := F0 m pc ls ((vs.map (sv b)).reverse ++ .ref (b + a) :: st.map (sv b))) rfl (argsL := vs.map (sv b)) (rest := st.map (sv b)) hlen rfl (by rw [C.2.1]; exact hd)
    exact call_go C X₁ hp hT hS hl hC hM hd (X₁.named hnamed) hR1 hR2 hR3 hR4 kk hstep₁
theorem j_callI (C : Cx p l s m meth c D cA b nL own mn cc ret hh) {index fr lo mc' ms' maxL k a : Nat} {y : MethodName} {cc' : ByteArray} {vs rv : List Value} {Qc : Rz → Nat → AH → Prop} (hd : decode cc pc = .ok (.invokespecial index, 3)) (hy1 : y.name = "<init>") (hL : ML own index y) (hM : MC y (Cond.code y cc' maxL none) cc' maxL none [] k) (hin : Cond.instanceMethod y ∈ g_ws) (hC : Cn l D cA b y (Cond.code y cc' maxL none) fr lo mc' ms' (.ref a :: vs) n h Qc) (hk : vs.length = k) (hrv : vs.reverse ++ .ref a :: st = rv)
    (hR1 : fr + 1 ≤ R.frames) (hR2 : (st.map fun v => v.category).sum + (maxL + 11) + lo ≤ R.locals) (hR3 : kc + mc' ≤ R.cells) (hR4 : ks + ms' ≤ R.slots) (kk : JK p l e R s m args below meth c D cA b nL Q (kc + mc') (ks + ms') pc L st Qc) : J p l e R s m args below meth c D cA b nL Q n h kc ks pc L rv := by
  intro H locs ls hp hS hl T hT X
  subst hrv
  obtain ⟨m1, m2, m3, m4, m5⟩ := id hM
  have hcode : (Cond.code y cc' maxL none).before args s = true := C.w m1 rfl args
  have hpl : e.platform.magicAccessors = ({} : Platform).magicAccessors := by rw [X.admits.platform]
  have hlen : ∀ sig, parseMethodDescriptor y.desc = some sig → (vs.map (sv b)).length = sig.parameters.length := by
    intro sig hsig
    rw [hsig] at m5
    rw [List.length_map, hk]
    exact (Option.some.inj m5).symm
  have hstk : (vs.reverse ++ .ref a :: st).map (sv b) = (vs.map (sv b)).reverse ++ .ref (b + a) :: st.map (sv b) := by rw [List.map_append, List.map_reverse]; rfl
  rw [hstk]
  rcases hL with hL | ⟨host, hL⟩
  · obtain ⟨mk, methM, cM, kP, vm₁, hnamed, hmethM, hcodeM, -, hlocalsM, -, hkP, -, hW₁, hstep₁⟩ := Steps.initColdArgs (e := e) X.here C.1 X.warmed hpl C.2.2.2.1 hy1 m4 (C.w hL rfl args) (C.w hin rfl args) hcode (f := F0 m pc ls ((vs.map (sv b)).reverse ++ .ref (b + a) :: st.map (sv b))) rfl (a := b + a) (argsL := vs.map (sv b)) (rest := st.map (sv b)) hlen rfl (by rw [C.2.1]; exact hd)
    have X₁ := X.noted hW₁
    exact call_go C X₁ hp hT hS hl hC hM hd (X₁.named hnamed) hR1 hR2 hR3 hR4 kk hstep₁
  · obtain ⟨mk, methM, cM, kP, vm₁, hnamed, hmethM, hcodeM, -, hlocalsM, -, hkP, -, hW₁, hstep₁⟩ := Steps.initColdArgsNest (e := e) X.here C.1 X.warmed hpl C.2.2.2.1 hy1 m4 (C.w hL rfl args) (C.w hin rfl args) hcode (f := F0 m pc ls ((vs.map (sv b)).reverse ++ .ref (b + a) :: st.map (sv b))) rfl (a := b + a) (argsL := vs.map (sv b)) (rest := st.map (sv b)) hlen rfl (by rw [C.2.1]; exact hd)
    have X₁ := X.noted hW₁
    exact call_go C X₁ hp hT hS hl hC hM hd (X₁.named hnamed) hR1 hR2 hR3 hR4 kk hstep₁
end JI
/-! ===== what was thrown; Object's constructor; arrays of references; the JDK's members ===== -/
section JZ
variable {p : Program} {l : Launch} {e : Env} {R : Room} {s : State} {m : MethodId} {args : Array Value} {below : List Frame} {meth : Method} {c : Code} {D : va_G} {cA : Nat → ClassId} {b nL : Nat} {Q : State → Prop} {n : Nat} {h : AH} {kc ks pc : Nat} {L : List (Nat × Value)} {st : List Value} {own mn : String} {cc : ByteArray} {ret : Option FieldType} {hh : List (Nat × Nat × Nat × Nat)} {Qa : Rz → Nat → AH → Prop} {mc ms : Nat}
/-- not caught here: it goes on to the caller -/
theorem jx_out (C : Cx p l s m meth c D cA b nL own mn cc ret hh) {ci q : Nat} (hout : ∀ x ∈ tableOf hh, covers x pc = false) (hq : q < n) (hx : h q = .inr (ci, [])) (hc : kc ≤ mc) (hs : ks ≤ ms) (hQ : Qa (.inr ci) n h) : JX p l e R s m args below meth c D cA b nL (EndQ D cA b s below Qa mc ms) n h kc ks pc L q := by
  intro H locs ls rest T hp hS hl hT X
  obtain ⟨st1, hrun, hend, hW, hsm⟩ := X.leaveThrown (b + q) (g := F0 m pc ls rest) rfl rfl rfl (by rw [C.2.2.2.2.2.2.2.1]; exact hout) C.2.2.2.2.2.1
  refine ⟨_, st1, _, hrun, hend, hW, ⟨locs, hsm.mono hc hs, hS.2.2⟩, fun z hz => ?_, n, h, .inr ci, ?_, ⟨q, hq, rfl, hx⟩, hQ⟩
  · show T.heap[z]? = s.heap[z]?
    rw [hT]; exact S_low C.2.2.2.2.1.2.2.1 hS z hz
  · show Hp D cA b n h T.heap
    rw [hT]; exact hp
/-- caught by the row x of the table, behind rows that don't take it -/
theorem jx_catch (C : Cx p l s m meth c D cA b nL own mn cc ret hh) {ci q : Nat} {E name : String} {T0 : u_T} (hE : g_cl[ci]? = some (E, T0, 0)) (pre : List ExceptionTableEntry) (x : ExceptionTableEntry) (suf : List ExceptionTableEntry) (hsplit : tableOf hh = pre ++ x :: suf)
    (hpass : ∀ z ∈ pre, covers z pc = false ∨ (z.catchType ≠ 0 ∧ ∃ nm : String, Cond.classLink own z.catchType nm ∈ g_ws ∧ (E, nm) ∈ g_nc)) (hcv : covers x pc = true) (h0 : x.catchType ≠ 0)
    (hlink : Cond.classLink own x.catchType name ∈ g_ws) (hcast : Cond.castable E name ∈ g_ws) (hq : q < n) (hx : h q = .inr (ci, []))
    (kk : J p l e R s m args below meth c D cA b nL Q n h kc ks x.handlerPc L [.ref q]) : JX p l e R s m args below meth c D cA b nL Q n h kc ks pc L q := by
  intro H locs ls rest T hp hS hl hT X
  have hpl : e.platform.magicAccessors = ({} : Platform).magicAccessors := by rw [X.admits.platform]
  obtain ⟨r9, g1, ce, hcell, hcls, hv, -⟩ := hp.2 q _ (hp.obj hq hx)
  cases Option.some.inj (g1.symm.trans hE)
  have hcl : s.vm.findClass E = some ce.cls := by rw [hcls]; exact (C.2.2.2.2.1.2.1.1 ci _ hE).2.1
  obtain ⟨c3, c4, hc3, hc4, hasg⟩ := Cond.castable_spec (C.w hcast rfl args)
  cases Option.some.inj (hc3.symm.trans hcl)
  obtain ⟨c5, hc5, hcl5⟩ := Cond.classLink_spec C.2.2.2.1 (C.w hlink rfl args) e.platform hpl
  cases Option.some.inj (hc4.symm.trans hc5)
  obtain ⟨vm', X', st⟩ := X.thenCaughtThrough (b + q) (g := F0 m pc ls rest) rfl (Steps.refl _) (by rw [hT]; exact hcell) (by rw [hv]; rfl) (by obtain ⟨k9, h9, -⟩ := Vm.findClass_spec hcl; exact ⟨k9, h9⟩) pre x suf (C.2.2.2.2.2.2.2.1.trans hsplit)
    (fun z hz => by
      rcases hpass z hz with h | ⟨hz0, nm, hl1, hn1⟩
      · exact Or.inl h
      · obtain ⟨c6, hc6, hcl6⟩ := Cond.classLink_spec C.2.2.2.1 (C.w hl1 rfl args) e.platform hpl
        obtain ⟨a8, b8, h1, h2, h3⟩ := C.2.2.2.2.1.2.2.2.1 _ hn1
        cases Option.some.inj (h1.symm.trans hcl)
        cases Option.some.inj (h2.symm.trans hc6)
        exact Or.inr ⟨hz0, _, hcl6, h3⟩) hcv (Or.inr ⟨h0, c4, hcl5, hasg⟩)
  obtain ⟨t, a1, b1⟩ := kk H locs ls hp hS hl (T.setVm vm') hT X'
  exact ⟨t, st.trans a1, b1⟩
theorem j_objInit (C : Cx p l s m meth c D cA b nL own mn cc ret hh) {index a : Nat} (hd : decode cc pc = .ok (.invokespecial index, 3)) (h1 : Cond.methodLink own index Lib.objectInit ∈ g_ws) (h2 : Cond.instanceMethod Lib.objectInit ∈ g_ws) (h3 : Cond.code Lib.objectInit ⟨#[0xb1]⟩ 1 none ∈ g_ws) (hR1 : 1 ≤ R.frames) (hR2 : (st.map fun v => v.category).sum + 12 ≤ R.locals) (kk : J p l e R s m args below meth c D cA b nL Q n h kc ks (pc + 3) L st) : J p l e R s m args below meth c D cA b nL Q n h kc ks pc L (.ref a :: st) :=
  fun H locs ls hp hS hl => W.objInit C.1 C.2.1 C.2.2.2.1 (C.w h1 rfl args) (C.w h2 rfl args) (C.w h3 rfl args) rfl (hl.1.trans C.2.2.1.symm) rfl hd hR1 (by show 2 * 0 + ((st.map (sv b)).map fun v => v.category).sum + 12 ≤ R.locals; rw [sv_sum]; omega) (kk H locs ls hp hS hl)
theorem j_aast (C : Cx p l s m meth c D cA b nL own mn cc ret hh) {t a v N ci : Nat} {f f' : Nat → Option Nat} {fs : List Value} {i : Int32} {Cl : String} {T0 : u_T} {N0 : Nat} (hd : decode cc pc = .ok (.aastore, 1)) (ht : (g_ty cA)[t]? = some (cA t, .object Cl)) (ha : a < n) (hx : h a = .inl (t, N, .inr (.inr (.inr (.inr f))))) (hv : v < n) (hy : h v = .inr (ci, fs)) (hc : g_cl[ci]? = some (Cl, T0, N0)) (hi : vp_in i N) (hf : va_up f i.toNatClampNeg (some v) = f') (kk : J p l e R s m args below meth c D cA b nL Q n (hu h a (.inl (t, N, .inr (.inr (.inr (.inr f')))))) kc ks (pc + 1) L st) : J p l e R s m args below meth c D cA b nL Q n h kc ks pc L (.ref v :: .int i :: .ref a :: st) := by
  intro H locs ls hp hS hl
  subst hf
  have hK := C.2.2.2.2.1.2.1
  have hg := hp.obj ha hx
  have hlt : i.toNatClampNeg < N := Nat.not_le.mp fun q => hi (Or.inr q)
  have h0 : ¬ i < 0 := fun q => hi (Or.inl q)
  obtain ⟨r', hr', cellV, g1, g2, g3, -⟩ := hp.2 v _ (hp.obj hv hy)
  have hcls := (hK.1 ci _ hc).2
  obtain ⟨kA, comp, k1, k2, k3, -⟩ := (hK.2 t _ ht).2
  have hcomp : comp = D.1 ci := Option.some.inj (k3.symm.trans hcls.1)
  subst hcomp
  obtain ⟨kC, hkC, -⟩ := hcls.2
  refine W.aast C.1 C.2.1 (hp.2 a _ hg) (fun q h => by cases h) (fun h => by cases h) k1 k2 rfl hkC ⟨h0, by show _ < (arrV _ _ _).slots.size; rw [arrV_size]; exact hlt⟩ g1 (fun q h => by rw [g3] at h; cases h) (by rw [g2]; exact hkC) (by rw [g2]; exact va_assign hcls) rfl rfl hd fun H1 e z oq => ?_
  refine kk H1 _ ls (hp.up ha z (hp.2.set (wO_D b cA n h) hg ?_ oq)) (S_put hS z oq (Nat.le_add_right b a)) hl
  show H1[b + a]? = some (vp_cell _ _)
  rw [e]
  show some ((arrV (cA t) N (fun j => va_rf (so b f j))).setSlot i.toNatClampNeg _) = some (arrV (cA t) N (fun j => va_rf (so b (va_up f i.toNatClampNeg (some v)) j)))
  rw [arrV_store]
  congr 2
  funext q
  by_cases hq : q = i.toNatClampNeg
  · subst hq
    simp [updV, va_up, so, va_rf]
  · simp [updV, va_up, so, hq]
theorem j_mmin (C : Cx p l s m meth c D cA b nL own mn cc ret hh) {index : Nat} {x y v : Int32} (hd : decode cc pc = .ok (.invokestatic index, 3)) (h1 : Cond.methodLink own index Lib.Math.min.name ∈ g_ws) (h2 : Cond.static Lib.Math.min.name ∈ g_ws) (h3 : Cond.initialized "java/lang/Math" ∈ g_ws) (h4 : Cond.code Lib.Math.min.name Lib.Math.min.code 2 (some .int) ∈ g_ws) (hR1 : 1 ≤ R.frames) (hR2 : (st.map fun v => v.category).sum + 13 ≤ R.locals) (hc : kc ≤ R.cells) (hs : ks ≤ R.slots) (hv : (if y < x then y else x) = v) (kk : J p l e R s m args below meth c D cA b nL Q n h kc ks (pc + 3) L (.int v :: st)) : J p l e R s m args below meth c D cA b nL Q n h kc ks pc L (.int y :: .int x :: st) := by
  subst hv
  exact fun H locs ls hp hS hl => va_mmin C.1 C.2.1 (C.2.2.1.trans hl.1.symm) C.2.2.2.1 (C.w h1 rfl args) (C.w h2 rfl args) (C.w h3 rfl args) (C.w h4 rfl args) hR1 (by rw [sv_sum]; exact hR2) hc hs hd (kk H locs ls hp hS hl)
theorem j_mabs (C : Cx p l s m meth c D cA b nL own mn cc ret hh) {index : Nat} {x v : Int32} (hd : decode cc pc = .ok (.invokestatic index, 3)) (h1 : Cond.methodLink own index Lib.Math.abs.name ∈ g_ws) (h2 : Cond.static Lib.Math.abs.name ∈ g_ws) (h3 : Cond.initialized "java/lang/Math" ∈ g_ws) (h4 : Cond.code Lib.Math.abs.name Lib.Math.abs.code 1 (some .int) ∈ g_ws) (hR1 : 1 ≤ R.frames) (hR2 : (st.map fun v => v.category).sum + 13 ≤ R.locals) (hc : kc ≤ R.cells) (hs : ks ≤ R.slots) (hv : (if 0 ≤ x then x else 0 - x) = v) (kk : J p l e R s m args below meth c D cA b nL Q n h kc ks (pc + 3) L (.int v :: st)) : J p l e R s m args below meth c D cA b nL Q n h kc ks pc L (.int x :: st) := by
  subst hv
  exact fun H locs ls hp hS hl => va_mabs C.1 C.2.1 (C.2.2.1.trans hl.1.symm) C.2.2.2.1 (C.w h1 rfl args) (C.w h2 rfl args) (C.w h3 rfl args) (C.w h4 rfl args) hR1 (by rw [sv_sum]; exact hR2) hc hs hd (kk H locs ls hp hS hl)
theorem j_copyi (C : Cx p l s m meth c D cA b nL own mn cc ret hh) {index a0 a N0 N t : Nat} {f g f' : Nat → Int32} {sp dp k : Int32} (hd : decode cc pc = .ok (.invokestatic index, 3)) (w1 : Cond.methodLink own index arraycopyName ∈ g_ws) (w2 : Cond.native arraycopyName ∈ g_ws) (w3 : Cond.static arraycopyName ∈ g_ws) (w4 : Cond.initialized "java/lang/System" ∈ g_ws)
    (ht : (g_ty cA)[t]? = some (cA t, .int)) (ha0 : a0 < n) (hx0 : h a0 = .inl (t, N0, .inl f)) (ha : a < n) (hx : h a = .inl (t, N, .inl g)) (h1 : ¬ sp < 0) (h2 : ¬ dp < 0) (h3 : ¬ k < 0) (h4 : sp.toNatClampNeg + k.toNatClampNeg ≤ N0) (h5 : dp.toNatClampNeg + k.toNatClampNeg ≤ N)
    (hR1 : 1 ≤ R.frames) (hR2 : (st.map fun v => v.category).sum + (nativeFrameWords "java/lang/System" "arraycopy" 5 + 11) ≤ R.locals) (hf : va_cpy f g sp.toNatClampNeg dp.toNatClampNeg k.toNatClampNeg = f') (kk : J p l e R s m args below meth c D cA b nL Q n (hu h a (.inl (t, N, .inl f'))) kc ks (pc + 3) L st) : J p l e R s m args below meth c D cA b nL Q n h kc ks pc L (.int k :: .int dp :: .ref a :: .int sp :: .ref a0 :: st) := by
  have nn : ∀ z : Int32, ¬ z < 0 → z.toInt = (z.toNatClampNeg : Int) := by
    intro z hz
    have hz0 : (0 : Int) ≤ z.toInt := by
      have := Int32.not_lt.mp hz
      simpa using Int32.le_iff_toInt_le.mp this
    show z.toInt = ((z.toInt.toNat : Nat) : Int)
    omega
  intro H locs ls hp hS hl T hT X
  subst hf
  have hK := C.2.2.2.2.1.2.1
  have hg := hp.obj ha hx
  have hc0 : H[b + a0]? = some (vp_cell (cA t) (N0, .inl f)) := hp.2 a0 _ (hp.obj ha0 hx0)
  have hc1 : H[b + a]? = some (vp_cell (cA t) (N, .inl g)) := hp.2 a _ hg
  obtain ⟨-, k0, hk0, cm0, hkk0⟩ := (hK.2 t _ ht).1 N0 (fun j => .int (f j))
  obtain ⟨-, k1, hk1, cm1, hkk1⟩ := (hK.2 t _ ht).1 N (fun j => .int (g j))
  obtain ⟨vm', X', step⟩ := X.arraycopy C.1 C.2.2.2.1 (C.w w1 rfl args) (C.w w2 rfl args) (C.w w3 rfl args) (C.w w4 rfl args) (src := b + a0) (dst := b + a) (cs := vp_cell (cA t) (N0, .inl f)) (cd := vp_cell (cA t) (N, .inl g)) (srcPos := sp) (destPos := dp) (n := k) (by rw [hT]; exact hc0) (by rw [hT]; exact hc1)
    (fun _ h => by cases h) (fun _ h => by cases h) (fun h => by cases h) (fun h => by cases h) hk0 hk1 hkk0 hkk1 (by simp [refKind]) h1 h2 h3
    (by rw [nn sp h1, nn k h3]; show ¬ _ > ((arrV (cA t) N0 (fun j => .int (f j))).slots.size : Int); rw [arrV_size]; omega)
    (by rw [nn dp h2, nn k h3]; show ¬ _ > ((arrV (cA t) N (fun j => .int (g j))).slots.size : Int); rw [arrV_size]; omega)
    (fun vm₁ _ i hi => by
      have e : (vp_cell (cA t) (N0, .inl f)).slots.getD (sp.toNatClampNeg + i) .null = .int (f (sp.toNatClampNeg + i)) := by
        show (arrV (cA t) N0 (fun j => .int (f j))).slots.getD _ _ = _
        rw [Array.getD_eq_getD_getElem?, arrV_read _ _ (by omega)]
        rfl
      refine ⟨?_, ?_⟩
      · rw [e]
        rfl
      · rw [e]
        exact trivial)
    (g := F0 m pc ls (.int k :: .int dp :: .ref (b + a) :: .int sp :: .ref (b + a0) :: st.map (sv b))) rfl (hl.1.trans C.2.2.1.symm) (rest := st.map (sv b)) rfl (by rw [C.2.1]; exact hd) hR1 (by show 2 * 0 + ((st.map (sv b)).map fun v => v.category).sum + _ ≤ _; rw [sv_sum]; omega)
  have e1 : copied (vp_cell (cA t) (N0, .inl f)) (vp_cell (cA t) (N, .inl g)) sp dp k = vp_cell (cA t) (N, .inl (va_cpy f g sp.toNatClampNeg dp.toNatClampNeg k.toNatClampNeg)) := va_copied (fun z => .int z) (cA t) (cA t) f g h4
  rw [e1] at X' step
  have hlt : b + a < H.size := (Array.getElem?_eq_some_iff.mp hc1).1
  have hheap : ((T.setVm vm').setCell (b + a) (vp_cell (cA t) (N, .inl (va_cpy f g sp.toNatClampNeg dp.toNatClampNeg k.toNatClampNeg)))).heap = H.setIfInBounds (b + a) (vp_cell (cA t) (N, .inl (va_cpy f g sp.toNatClampNeg dp.toNatClampNeg k.toNatClampNeg))) := by rw [← hT]; rfl
  have oq : ∀ q : Nat, q ≠ b + a → (H.setIfInBounds (b + a) (vp_cell (cA t) (N, .inl (va_cpy f g sp.toNatClampNeg dp.toNatClampNeg k.toNatClampNeg))))[q]? = H[q]? := fun q hq => by simp [Array.getElem?_setIfInBounds, Ne.symm hq]
  have hz : (H.setIfInBounds (b + a) (vp_cell (cA t) (N, .inl (va_cpy f g sp.toNatClampNeg dp.toNatClampNeg k.toNatClampNeg)))).size = H.size := by simp
  obtain ⟨t9, a1, b1⟩ := kk _ _ ls (hp.up ha hz (hp.2.set (wO_D b cA n h) hg (show (H.setIfInBounds (b + a) _)[b + a]? = some _ by simp [Array.getElem?_setIfInBounds, hlt]; rfl) oq)) ⟨by rw [hz]; exact hS.1, fun q g1 g2 => by
      rw [oq q (fun e => g2 (by rw [e]; exact Nat.le_add_right b a))]
      exact hS.2.1 q g1 g2, fun q hq => by
      rcases List.mem_append.mp hq with h | h
      · exact hS.2.2 q h
      · obtain ⟨z, -, hz⟩ := List.mem_map.mp h
        rw [← hz]
        exact Nat.le_add_right b a⟩ hl _ hheap X'
  exact ⟨t9, step t9 a1, b1⟩
end JZ
/-! ===== locals in another order ===== -/
theorem j_pick (ks' : List Nat) {p : Program} {l : Launch} {e : Env} {R : Room} {s : State} {m : MethodId} {args : Array Value} {below : List Frame} {meth : Method} {c : Code} {D : va_G} {cA : Nat → ClassId} {b nL : Nat} {Q : State → Prop} {n : Nat} {h : AH} {kc ks pc : Nat} {L L' : List (Nat × Value)} {st : List Value} (hL : lv_pick L ks' = L') (k : J p l e R s m args below meth c D cA b nL Q n h kc ks pc L' st) : J p l e R s m args below meth c D cA b nL Q n h kc ks pc L st := by
  intro H locs ls hp hS hl
  refine k H locs ls hp hS ⟨hl.1, hl.2.1, fun q hq => hl.2.2 q ?_⟩
  rw [← hL] at hq
  obtain ⟨q0, h1, rfl⟩ := List.mem_map.mp hq
  obtain ⟨i, -, h2⟩ := List.mem_filterMap.mp h1
  exact List.mem_map.mpr ⟨q0, List.mem_of_getElem? h2, rfl⟩
theorem j_widen {p : Program} {l : Launch} {e : Env} {R : Room} {s : State} {m : MethodId} {args : Array Value} {below : List Frame} {meth : Method} {c : Code} {D : va_G} {cA : Nat → ClassId} {b nL : Nat} {Q : State → Prop} {n : Nat} {h : AH} {kc ks kc' ks' pc : Nat} {L : List (Nat × Value)} {st : List Value} (h1 : kc ≤ kc') (h2 : ks ≤ ks') (k : J p l e R s m args below meth c D cA b nL Q n h kc' ks' pc L st) : J p l e R s m args below meth c D cA b nL Q n h kc ks pc L st :=
  fun H locs ls hp hS hl => W.widen h1 h2 (k H locs ls hp hS hl)
