/-! ===== fields, arrays, new ===== -/
/-- field k of class ci, as the entry 'index' of the class 'own' names it -/
def FL (own : String) (index ci k : Nat) : Prop := ∃ (C : String) (T : u_T) (N : Nat), g_cl[ci]? = some (C, T, N) ∧ k < N ∧ (∀ w ∈ u_ws C T N, w ∈ g_ws) ∧ (Cond.fieldLink own index (T k).1 (T k).2.1 (T k).2.2.1 ∈ g_ws ∨ ∃ host : String, Cond.fieldLinkNest own index (T k).1 (T k).2.1 (T k).2.2.1 host ∈ g_ws)
/-- .. and what may be stored there -/
def FP (own : String) (index ci k : Nat) (fin : Bool) (ty : FieldType) : Prop := ∃ (C : String) (T : u_T) (N : Nat) (t0 : Nat → FieldType), g_cl[ci]? = some (C, T, N) ∧ k < N ∧ (∀ w ∈ u_ws C T N, w ∈ g_ws) ∧ (Cond.fieldLink own index (T k).1 (T k).2.1 (T k).2.2.1 ∈ g_ws ∨ (fin = false ∧ ∃ host : String, Cond.fieldLinkNest own index (T k).1 (T k).2.1 (T k).2.2.1 host ∈ g_ws)) ∧ (∀ j, j < N → parseFieldDescriptor (T j).2.2.1 = some (t0 j)) ∧ (∀ i, i < N → ∀ j, j < N → i ≠ j → (T i).2.1 ≠ (T j).2.1) ∧ (T k).2.2.2 = fin ∧ t0 k = ty ∧ (fin = true → (T k).1 = own)
theorem sv_narrow {b : Nat} {ty : FieldType} {v : Value} (h : narrow ty v = v) : narrow ty (sv b v) = sv b v := by
  cases v with
  | ref a => cases ty <;> first | rfl | (simp [narrow] at h)
  | retAddr a => cases ty <;> first | rfl | (simp [narrow] at h)
  | _ => exact h
theorem sv_fits {b : Nat} {ty : FieldType} {v : Value} (h : fits ty v = true) : fits ty (sv b v) = true := by
  cases v with
  | ref a => cases ty <;> first | rfl | (simp [fits] at h)
  | retAddr a => cases ty <;> first | rfl | (simp [fits] at h)
  | _ => exact h
section JM
variable {p : Program} {l : Launch} {e : Env} {R : Room} {s : State} {m : MethodId} {args : Array Value} {below : List Frame} {meth : Method} {c : Code} {D : va_G} {cA : Nat → ClassId} {b nL : Nat} {Q : State → Prop} {n : Nat} {h : AH} {kc ks pc : Nat} {L : List (Nat × Value)} {st : List Value} {own mn : String} {cc : ByteArray} {ret : Option FieldType} {hh : List (Nat × Nat × Nat × Nat)}
theorem Cx.w (C : Cx p l s m meth c D cA b nL own mn cc ret hh) {w : Cond} (hw : w ∈ g_ws) (ho : w.onTables = true) (a : Array Value) : w.before a s = true := va_tabs ho rfl (C.2.2.2.2.1.1 w hw)
theorem Cx.ws (C : Cx p l s m meth c D cA b nL own mn cc ret hh) {ws : List Cond} (hw : ∀ w ∈ ws, w ∈ g_ws) (ho : ∀ w ∈ ws, w.onTables = true) (a : Array Value) : ∀ w ∈ ws, w.before a s = true := fun w h => C.w (hw w h) (ho w h) a
theorem u_ws_on (C : String) (T : u_T) (N : Nat) : ∀ w ∈ u_ws C T N, w.onTables = true := by
  intro w hw
  obtain ⟨k, -, rfl⟩ := List.mem_map.mp hw
  unfold u_lay
  split <;> rfl
theorem Hp.obj {H : Heap} (hp : Hp D cA b n h H) {a : Nat} (ha : a < n) {x : AC} (hx : h a = x) : (wO b cA n h)[a]? = some (b + a, toE b cA x) := by rw [← hx]; exact wO_get ha
theorem Hp.up {H H1 : Heap} (hp : Hp D cA b n h H) {a : Nat} (ha : a < n) {x : AC} (hz : H1.size = H.size) (hP : va_P D g_cl ((wO b cA n h).set a (b + a, toE b cA x)) H1) : Hp D cA b n (hu h a x) H1 := ⟨hz.trans hp.1, by rw [← wO_set ha x]; exact hP⟩
theorem j_get (C : Cx p l s m meth c D cA b nL own mn cc ret hh) {index ci k a : Nat} {fs : List Value} {v : Value} (hF : FL own index ci k) (hd : decode cc pc = .ok (.getfield index, 3)) (ha : a < n) (hx : h a = .inr (ci, fs)) (hv : fs[k]? = some v) (kk : J p l e R s m args below meth c D cA b nL Q n h kc ks (pc + 3) L (v :: st)) : J p l e R s m args below meth c D cA b nL Q n h kc ks pc L (.ref a :: st) := by
  intro H locs ls hp hS hl
  obtain ⟨Cl, T, N, h1, h2, h3, h4⟩ := hF
  have hts := C.ws h3 (u_ws_on Cl T N) args
  have hg := hp.obj ha hx
  have hv' : (fs.map (sv b))[k]? = some (sv b v) := by rw [List.getElem?_map, hv]; rfl
  rcases h4 with h4 | ⟨host, h4⟩
  · exact va_get C.1 C.2.1 hts (fun _ q => q) C.2.2.2.1 C.2.2.2.2.1.2.1 hp.2 a hg h1 k h2 (C.w h4 rfl args) (fun _ q => q) hv' hd (kk H locs ls hp hS hl)
  · exact va_getN C.1 C.2.1 hts (fun _ q => q) C.2.2.2.1 C.2.2.2.2.1.2.1 hp.2 a hg h1 k h2 (C.w h4 rfl args) (fun _ q => q) hv' hd (kk H locs ls hp hS hl)
theorem S_put {H H1 : Heap} {locs : List Loc} {x : Loc} (hS : va_S (fun q => b ≤ q) s.heap H locs) (hz : H1.size = H.size) (oq : ∀ q, q ≠ x.base → H1[q]? = H[q]?) (hx : b ≤ x.base) : va_S (fun q => b ≤ q) s.heap H1 (locs ++ [x]) := by
  refine ⟨by rw [hz]; exact hS.1, fun q h1 h2 => ?_, fun y hy => ?_⟩
  · rw [oq q (fun e => h2 (by rw [e]; exact hx))]; exact hS.2.1 q h1 h2
  · rcases List.mem_append.mp hy with h | h
    · exact hS.2.2 y h
    · rw [List.mem_singleton] at h; subst h; exact hx
theorem j_put (C : Cx p l s m meth c D cA b nL own mn cc ret hh) {index ci k a : Nat} {ty : FieldType} {fs fs' : List Value} {v : Value} (hF : FP own index ci k false ty) (hd : decode cc pc = .ok (.putfield index, 3)) (ha : a < n) (hx : h a = .inr (ci, fs)) (hl : k < fs.length) (hn : narrow ty v = v) (hf : fits ty v = true) (hfs : fs.set k v = fs') (kk : J p l e R s m args below meth c D cA b nL Q n (hu h a (.inr (ci, fs'))) kc ks (pc + 3) L st) : J p l e R s m args below meth c D cA b nL Q n h kc ks pc L (v :: .ref a :: st) := by
  intro H locs ls hp hS hl'
  subst hfs
  obtain ⟨Cl, T, N, t0, h1, h2, h3, h4, hty, hnm, hfin, rfl, -⟩ := hF
  have hts := C.ws h3 (u_ws_on Cl T N) args
  have hg := hp.obj ha hx
  have hK := C.2.2.2.2.1.2.1
  have hap := va_apart (own := own) hts (fun _ q => q) t0 hty hnm hK h1
  obtain ⟨r, g1, cell, q1, q2, q3, q4⟩ := hp.2 a _ hg
  cases Option.some.inj (g1.symm.trans h1)
  obtain ⟨hSl, hfc, kC, hkC, hkind⟩ := hK.1 ci _ h1
  obtain ⟨cf, kf, fi, f, hi, hsl⟩ := hSl k h2
  have hlay := hts _ (u_in_lay h2)
  unfold u_lay at hlay
  rw [if_neg (by rw [hfin]; decide)] at hlay
  have hst := (u_facts hfc hkC (u_lays hts (fun _ q => q) h2) hi).1
  have h6 := u_store hfc hkC hkind hlay hi (hty k h2) (sv_narrow (b := b) hn) (sv_fits (b := b) hf)
  have go : ∀ H' : Heap, H'[b + a]? = some (cell.setSlot f.slot (sv b v)) → H'.size = H.size → (∀ q, q ≠ b + a → H'[q]? = H[q]?) → W p l e R s m args below meth c H' (locs ++ [⟨b + a, f.slot⟩]) kc ks Q (F0 m (pc + 3) ls (st.map (sv b))) := by
    intro H' e1 e2 e3
    refine kk H' _ ls (hp.up ha e2 (hp.2.set (wO_D b cA n h) hg ⟨_, h1, ?_⟩ e3)) (S_put hS e2 e3 (Nat.le_add_right b a)) hl'
    rw [hsl] at e1
    refine t_OB.to (V := updV (vp_V (fs.map (sv b))) k (sv b v)) ⟨_, e1, q2, q3, t_set q4 hap h2 (sv b v)⟩ (fun j _ => ?_)
    rw [vp_updV_set (by simpa using hl), List.map_set]
  rcases h4 with h4 | ⟨-, host, h4⟩
  · exact W.putK C.1 C.2.1 (f := f) ⟨C.2.2.2.1, C.w h4 rfl args, ⟨_, _, _, hi⟩, hst⟩ (by rw [q2]; exact h6) q1 q3 (by rw [hsl]; exact k2_hasslot (q4 k h2)) rfl rfl hd go
  · exact va_WputK C.1 C.2.1 (f := f) C.2.2.2.1 (C.w h4 rfl args) hi hst (by rw [q2]; exact h6) q1 q3 (by rw [hsl]; exact k2_hasslot (q4 k h2)) rfl rfl hd go
theorem j_putF (C : Cx p l s m meth c D cA b nL own mn cc ret hh) {index ci k a : Nat} {ty : FieldType} {fs fs' : List Value} {v : Value} (hF : FP own index ci k true ty) (hmn : mn = "<init>") (hd : decode cc pc = .ok (.putfield index, 3)) (ha : a < n) (hx : h a = .inr (ci, fs)) (hl : k < fs.length) (hn : narrow ty v = v) (hf : fits ty v = true) (hfs : fs.set k v = fs') (kk : J p l e R s m args below meth c D cA b nL Q n (hu h a (.inr (ci, fs'))) kc ks (pc + 3) L st) : J p l e R s m args below meth c D cA b nL Q n h kc ks pc L (v :: .ref a :: st) := by
  intro H locs ls hp hS hl'
  subst hfs
  obtain ⟨Cl, T, N, t0, h1, h2, h3, h4, hty, hnm, hfin, rfl, hdecl⟩ := hF
  have hts := C.ws h3 (u_ws_on Cl T N) args
  have hg := hp.obj ha hx
  have hK := C.2.2.2.2.1.2.1
  have hap := va_apart (own := own) hts (fun _ q => q) t0 hty hnm hK h1
  obtain ⟨r, g1, cell, q1, q2, q3, q4⟩ := hp.2 a _ hg
  cases Option.some.inj (g1.symm.trans h1)
  obtain ⟨hSl, hfc, kC, hkC, hkind⟩ := hK.1 ci _ h1
  obtain ⟨cf, kf, fi, f, hi, hsl⟩ := hSl k h2
  have hlay := hts _ (u_in_lay h2)
  unfold u_lay at hlay
  rw [if_pos hfin] at hlay
  have hst := (u_facts hfc hkC (u_lays hts (fun _ q => q) h2) hi).1
  have hcf : m.cls = cf := by
    obtain ⟨_, _, c', _, _, _, -, -, hf', -, -, -, hown2, -⟩ := Cond.laysFinal_spec hlay
    have e1 : c' = cf := by have := hi.symm.trans hf'; simp at this; exact this.1.symm
    rw [hdecl rfl] at hown2
    rw [← e1]; exact Option.some.inj (C.2.2.2.1.symm.trans hown2)
  have h6 := u_fits hfc hkC hkind (Or.inr hlay) hi (hty k h2) (sv_narrow (b := b) hn) (sv_fits (b := b) hf)
  have go : ∀ H' : Heap, H'[b + a]? = some (cell.setSlot f.slot (sv b v)) → H'.size = H.size → (∀ q, q ≠ b + a → H'[q]? = H[q]?) → W p l e R s m args below meth c H' (locs ++ [⟨b + a, f.slot⟩]) kc ks Q (F0 m (pc + 3) ls (st.map (sv b))) := by
    intro H' e1 e2 e3
    refine kk H' _ ls (hp.up ha e2 (hp.2.set (wO_D b cA n h) hg ⟨_, h1, ?_⟩ e3)) (S_put hS e2 e3 (Nat.le_add_right b a)) hl'
    rw [hsl] at e1
    refine t_OB.to (V := updV (vp_V (fs.map (sv b))) k (sv b v)) ⟨_, e1, q2, q3, t_set q4 hap h2 (sv b v)⟩ (fun j _ => ?_)
    rw [vp_updV_set (by simpa using hl), List.map_set]
  rcases h4 with h4 | ⟨h4, -⟩
  · exact W.putFinK C.1 C.2.1 C.2.2.2.1 (C.w h4 rfl args) hi hst hcf (C.2.2.2.2.2.2.2.2.2.trans hmn) (by rw [q2]; exact h6) q1 q3 (by rw [hsl]; exact k2_hasslot (q4 k h2)) rfl rfl hd go
  · cases h4
theorem j_iald (C : Cx p l s m meth c D cA b nL own mn cc ret hh) {t a N : Nat} {f : Nat → Int32} {i v : Int32} (hd : decode cc pc = .ok (.iaload, 1)) (ht : (g_ty cA)[t]? = some (cA t, .int)) (ha : a < n) (hx : h a = .inl (t, N, .inl f)) (hi : vp_in i N) (hv : f i.toNatClampNeg = v) (kk : J p l e R s m args below meth c D cA b nL Q n h kc ks (pc + 1) L (.int v :: st)) : J p l e R s m args below meth c D cA b nL Q n h kc ks pc L (.int i :: .ref a :: st) := by
  intro H locs ls hp hS hl
  subst hv
  exact va_iald C.1 C.2.1 C.2.2.2.2.1.2.1 hp.2 a t (hp.obj ha hx) ht hi hd (kk H locs ls hp hS hl)
theorem j_bald (C : Cx p l s m meth c D cA b nL own mn cc ret hh) {t a N : Nat} {f : Nat → Int32} {i v : Int32} (hd : decode cc pc = .ok (.baload, 1)) (ht : (g_ty cA)[t]? = some (cA t, .byte)) (ha : a < n) (hx : h a = .inl (t, N, .inl f)) (hi : vp_in i N) (hv : f i.toNatClampNeg = v) (kk : J p l e R s m args below meth c D cA b nL Q n h kc ks (pc + 1) L (.int v :: st)) : J p l e R s m args below meth c D cA b nL Q n h kc ks pc L (.int i :: .ref a :: st) := by
  intro H locs ls hp hS hl
  subst hv
  exact va_bald C.1 C.2.1 C.2.2.2.2.1.2.1 hp.2 a t (hp.obj ha hx) ht hi hd (kk H locs ls hp hS hl)
theorem j_zald (C : Cx p l s m meth c D cA b nL own mn cc ret hh) {t a N : Nat} {f : Nat → Int32} {i v : Int32} (hd : decode cc pc = .ok (.baload, 1)) (ht : (g_ty cA)[t]? = some (cA t, .boolean)) (ha : a < n) (hx : h a = .inl (t, N, .inl f)) (hi : vp_in i N) (hv : f i.toNatClampNeg = v) (kk : J p l e R s m args below meth c D cA b nL Q n h kc ks (pc + 1) L (.int v :: st)) : J p l e R s m args below meth c D cA b nL Q n h kc ks pc L (.int i :: .ref a :: st) := by
  intro H locs ls hp hS hl
  subst hv
  exact va_zald C.1 C.2.1 C.2.2.2.2.1.2.1 hp.2 a t (hp.obj ha hx) ht hi hd (kk H locs ls hp hS hl)
theorem j_cald (C : Cx p l s m meth c D cA b nL own mn cc ret hh) {t a N : Nat} {f : Nat → Int32} {i v : Int32} (hd : decode cc pc = .ok (.caload, 1)) (ht : (g_ty cA)[t]? = some (cA t, .char)) (ha : a < n) (hx : h a = .inl (t, N, .inl f)) (hi : vp_in i N) (hv : f i.toNatClampNeg = v) (kk : J p l e R s m args below meth c D cA b nL Q n h kc ks (pc + 1) L (.int v :: st)) : J p l e R s m args below meth c D cA b nL Q n h kc ks pc L (.int i :: .ref a :: st) := by
  intro H locs ls hp hS hl
  subst hv
  exact va_cald C.1 C.2.1 C.2.2.2.2.1.2.1 hp.2 a t (hp.obj ha hx) ht hi hd (kk H locs ls hp hS hl)
theorem j_iast (C : Cx p l s m meth c D cA b nL own mn cc ret hh) {t a N : Nat} {f f' : Nat → Int32} {i x : Int32} (hd : decode cc pc = .ok (.iastore, 1)) (ht : (g_ty cA)[t]? = some (cA t, .int)) (ha : a < n) (hx : h a = .inl (t, N, .inl f)) (hi : vp_in i N) (hf : upd f i.toNatClampNeg x = f') (kk : J p l e R s m args below meth c D cA b nL Q n (hu h a (.inl (t, N, .inl f'))) kc ks (pc + 1) L st) : J p l e R s m args below meth c D cA b nL Q n h kc ks pc L (.int x :: .int i :: .ref a :: st) := by
  intro H locs ls hp hS hl
  subst hf
  have hg := hp.obj ha hx
  refine W.iast C.1 C.2.1 (hp.2 a _ hg) ((C.2.2.2.2.1.2.1.2 t _ ht).1 N (fun j => .int (f j))) (fun q => by cases q) (by show ¬ (i < 0 ∨ (arrV _ _ _).slots.size ≤ _); rw [arrV_size]; exact hi) rfl rfl hd fun H1 e z oq => ?_
  refine kk H1 _ ls (hp.up ha z (hp.2.set (wO_D b cA n h) hg ?_ oq)) (S_put hS z oq (Nat.le_add_right b a)) hl
  show H1[b + a]? = some (vp_cell _ _)
  rw [e]
  show some ((arrV (cA t) N (fun j => .int (f j))).setSlot i.toNatClampNeg _) = some (arrV (cA t) N (fun j => .int (upd f i.toNatClampNeg x j)))
  rw [arrV_store]
  congr 2
  funext q
  by_cases hq : q = i.toNatClampNeg
  · subst hq
    simp [updV, upd, vp_nar]
    try rfl
  · simp [updV, upd, hq]
theorem j_bast (C : Cx p l s m meth c D cA b nL own mn cc ret hh) {t a N : Nat} {f f' : Nat → Int32} {i x : Int32} (hd : decode cc pc = .ok (.bastore, 1)) (ht : (g_ty cA)[t]? = some (cA t, .byte)) (ha : a < n) (hx : h a = .inl (t, N, .inl f)) (hi : vp_in i N) (hf : upd f i.toNatClampNeg (vp_nar .byte x) = f') (kk : J p l e R s m args below meth c D cA b nL Q n (hu h a (.inl (t, N, .inl f'))) kc ks (pc + 1) L st) : J p l e R s m args below meth c D cA b nL Q n h kc ks pc L (.int x :: .int i :: .ref a :: st) := by
  intro H locs ls hp hS hl
  subst hf
  have hg := hp.obj ha hx
  refine W.bast C.1 C.2.1 (hp.2 a _ hg) ((C.2.2.2.2.1.2.1.2 t _ ht).1 N (fun j => .int (f j))) (fun q => by cases q) (by show ¬ (i < 0 ∨ (arrV _ _ _).slots.size ≤ _); rw [arrV_size]; exact hi) rfl rfl hd fun H1 e z oq => ?_
  refine kk H1 _ ls (hp.up ha z (hp.2.set (wO_D b cA n h) hg ?_ oq)) (S_put hS z oq (Nat.le_add_right b a)) hl
  show H1[b + a]? = some (vp_cell _ _)
  rw [e]
  show some ((arrV (cA t) N (fun j => .int (f j))).setSlot i.toNatClampNeg _) = some (arrV (cA t) N (fun j => .int (upd f i.toNatClampNeg (vp_nar .byte x) j)))
  rw [arrV_store]
  congr 2
  funext q
  by_cases hq : q = i.toNatClampNeg
  · subst hq
    simp [updV, upd, vp_nar]
    try rfl
  · simp [updV, upd, hq]
theorem j_zast (C : Cx p l s m meth c D cA b nL own mn cc ret hh) {t a N : Nat} {f f' : Nat → Int32} {i x : Int32} (hd : decode cc pc = .ok (.bastore, 1)) (ht : (g_ty cA)[t]? = some (cA t, .boolean)) (ha : a < n) (hx : h a = .inl (t, N, .inl f)) (hi : vp_in i N) (hf : upd f i.toNatClampNeg (vp_nar .boolean x) = f') (kk : J p l e R s m args below meth c D cA b nL Q n (hu h a (.inl (t, N, .inl f'))) kc ks (pc + 1) L st) : J p l e R s m args below meth c D cA b nL Q n h kc ks pc L (.int x :: .int i :: .ref a :: st) := by
  intro H locs ls hp hS hl
  subst hf
  have hg := hp.obj ha hx
  refine W.zast C.1 C.2.1 (hp.2 a _ hg) ((C.2.2.2.2.1.2.1.2 t _ ht).1 N (fun j => .int (f j))) (fun q => by cases q) (by show ¬ (i < 0 ∨ (arrV _ _ _).slots.size ≤ _); rw [arrV_size]; exact hi) rfl rfl hd fun H1 e z oq => ?_
  refine kk H1 _ ls (hp.up ha z (hp.2.set (wO_D b cA n h) hg ?_ oq)) (S_put hS z oq (Nat.le_add_right b a)) hl
  show H1[b + a]? = some (vp_cell _ _)
  rw [e]
  show some ((arrV (cA t) N (fun j => .int (f j))).setSlot i.toNatClampNeg _) = some (arrV (cA t) N (fun j => .int (upd f i.toNatClampNeg (vp_nar .boolean x) j)))
  rw [arrV_store]
  congr 2
  funext q
  by_cases hq : q = i.toNatClampNeg
  · subst hq
    simp [updV, upd, vp_nar]
    try rfl
  · simp [updV, upd, hq]
theorem j_cast (C : Cx p l s m meth c D cA b nL own mn cc ret hh) {t a N : Nat} {f f' : Nat → Int32} {i x : Int32} (hd : decode cc pc = .ok (.castore, 1)) (ht : (g_ty cA)[t]? = some (cA t, .char)) (ha : a < n) (hx : h a = .inl (t, N, .inl f)) (hi : vp_in i N) (hf : upd f i.toNatClampNeg (vp_nar .char x) = f') (kk : J p l e R s m args below meth c D cA b nL Q n (hu h a (.inl (t, N, .inl f'))) kc ks (pc + 1) L st) : J p l e R s m args below meth c D cA b nL Q n h kc ks pc L (.int x :: .int i :: .ref a :: st) := by
  intro H locs ls hp hS hl
  subst hf
  have hg := hp.obj ha hx
  refine W.cast C.1 C.2.1 (hp.2 a _ hg) ((C.2.2.2.2.1.2.1.2 t _ ht).1 N (fun j => .int (f j))) (fun q => by cases q) (by show ¬ (i < 0 ∨ (arrV _ _ _).slots.size ≤ _); rw [arrV_size]; exact hi) rfl rfl hd fun H1 e z oq => ?_
  refine kk H1 _ ls (hp.up ha z (hp.2.set (wO_D b cA n h) hg ?_ oq)) (S_put hS z oq (Nat.le_add_right b a)) hl
  show H1[b + a]? = some (vp_cell _ _)
  rw [e]
  show some ((arrV (cA t) N (fun j => .int (f j))).setSlot i.toNatClampNeg _) = some (arrV (cA t) N (fun j => .int (upd f i.toNatClampNeg (vp_nar .char x) j)))
  rw [arrV_store]
  congr 2
  funext q
  by_cases hq : q = i.toNatClampNeg
  · subst hq
    simp [updV, upd, vp_nar]
    try rfl
  · simp [updV, upd, hq]
theorem j_alen (C : Cx p l s m meth c D cA b nL own mn cc ret hh) {t a : Nat} {x : vp_A} {ty : FieldType} {v : Int32} (hd : decode cc pc = .ok (.arraylength, 1)) (ht : (g_ty cA)[t]? = some (cA t, ty)) (ha : a < n) (hx : h a = .inl (t, x)) (hv : Int32.ofNat x.1 = v) (kk : J p l e R s m args below meth c D cA b nL Q n h kc ks (pc + 1) L (.int v :: st)) : J p l e R s m args below meth c D cA b nL Q n h kc ks pc L (.ref a :: st) := by
  intro H locs ls hp hS hl
  refine va_alen C.1 C.2.1 C.2.2.2.2.1.2.1 hp.2 a t (hp.obj ha hx) ht ?_ hd (kk H locs ls hp hS hl)
  rw [← hv]
  obtain ⟨N, f | f | f | f | f⟩ := x <;> rfl
end JM
