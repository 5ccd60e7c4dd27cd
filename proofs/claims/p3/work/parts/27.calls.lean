/-! ===== throw new X("text"); calls by contracts; what was thrown leaves the method, or is caught ===== -/
/-- what 'new X; dup; ldc; <init>(String); athrow' asks: the entries ik (class), ic (constructor); ci: X's number -/
def TH (own : String) (ik ic ci : Nat) (names : List String) : Prop := ∃ (X : String) (T : u_T), g_cl[ci]? = some (X, T, 0) ∧ Bundle.fit X = true ∧ (∀ k ∈ names, Bundle.fit k = true) ∧ (∀ w ∈ Cond.classLink own ik X :: Cond.initialized X :: vx_atS own ic X names, w ∈ g_ws ∧ vx_ot w = true ∧ w.onTables = true)
/-- a method as a callee: its code's word, how many parameters -/
def MC (y : MethodName) (cd : Cond) (cc : ByteArray) (maxL : Nat) (ret : Option FieldType) (hh : List (Nat × Nat × Nat × Nat)) (k : Nat) : Prop := cd ∈ g_ws ∧ ((cd = Cond.code y cc maxL ret ∧ hh = []) ∨ cd = Cond.codeWith y cc maxL ret hh) ∧ Cond.initialized y.cls ∈ g_ws ∧ (y.cls ≠ "java/lang/invoke/MethodHandle" ∧ y.cls ≠ "java/lang/invoke/VarHandle") ∧ (parseMethodDescriptor y.desc).map (fun d => d.parameters.length) = some k
def ML (own : String) (index : Nat) (y : MethodName) : Prop := Cond.methodLink own index y ∈ g_ws ∨ ∃ host : String, Cond.methodLinkNest own index y host ∈ g_ws
section JC
variable {p : Program} {l : Launch} {e : Env} {R : Room} {s : State} {m : MethodId} {args : Array Value} {below : List Frame} {meth : Method} {c : Code} {D : va_G} {cA : Nat → ClassId} {b nL : Nat} {Q : State → Prop} {n : Nat} {h : AH} {kc ks pc : Nat} {L : List (Nat × Value)} {st : List Value} {own mn : String} {cc : ByteArray} {ret : Option FieldType} {hh : List (Nat × Nat × Nat × Nat)} {Qa : Rz → Nat → AH → Prop} {mc ms : Nat}
theorem th_at {H : Heap} {ci k : Nat} {X : String} {T : u_T} (hK : va_K D g_cl (g_ty cA) s) (hc : g_cl[ci]? = some (X, T, 0)) {ce : Cell} (h1 : H[b + k]? = some ce) (h2 : ce.vm = .none) (h3 : s.vm.findClass X = some ce.cls) : va_at D g_cl (b + k, toE b cA (.inr (ci, []))) H := by
  refine ⟨_, hc, ce, h1, ?_, h2, fun k hk => absurd hk (Nat.not_lt_zero k)⟩
  exact Option.some.inj (h3.symm.trans (hK.1 ci _ hc).2.1)
theorem j_throwS (C : Cx p l s m meth c D cA b nL own mn cc ret hh) {ik is ic ci : Nat} {text : String} {names : List String} (hT : TH own ik ic ci names) (hstr : (own, is, text) ∈ g_str) (hout : hh = [])
    (d0 : decode cc pc = .ok (.new ik, 3)) (d3 : decode cc (pc + 3) = .ok (.dup, 1)) (d4 : decode cc (pc + 4) = .ok (.ldc is, 2)) (d6 : decode cc (pc + 6) = .ok (.invokespecial ic, 3)) (d9 : decode cc (pc + 9) = .ok (.athrow, 1))
    (hR1 : names.length + 3 < R.frames) (hR2 : (st.map fun v => v.category).sum + (13 * (names.length + 1) + 43) ≤ R.locals) (hR3 : kc + 1 ≤ R.cells) (hR4 : ks + 6 ≤ R.slots) (hc : kc + 1 ≤ mc) (hs : ks + 6 ≤ ms) (hq : Qa (.inr ci) (n + 1) (hu h n (.inr (ci, [])))) : J p l e R s m args below meth c D cA b nL (EndQ D cA b s below Qa mc ms) n h kc ks pc L st := by
  intro H locs ls hp hS hl T hTH X
  obtain ⟨Xn, T0, t1, t2, t3, t4⟩ := hT
  obtain ⟨sa, hsa⟩ := C.2.2.2.2.1.2.2.2.2.1 _ hstr
  have hw : ∀ w ∈ Cond.classLink own ik Xn :: Cond.initialized Xn :: vx_atS own ic Xn names, w.before args s = true := fun w hw => C.w (t4 w hw).1 (t4 w hw).2.2 args
  obtain ⟨U, a1, a2, a3, a4, a5, a6, a7, ce, a8, a9, a10⟩ := tw_throwS (A := fun q => b ≤ q) (rest := st.map (sv b)) C.1 C.2.1 C.2.2.2.2.2.2.2.2.1 C.2.2.2.1 t2 t3 (hw _ List.mem_cons_self) (hw _ (List.mem_cons_of_mem _ List.mem_cons_self)) hsa (fun w h9 => hw w (List.mem_cons_of_mem _ (List.mem_cons_of_mem _ h9)))
    (fun w h9 => (t4 w h9).2.1) C.2.2.2.2.1.2.2.2.2.2.1 C.2.2.2.2.1.2.2.2.2.2.2 hS (hl.1.trans C.2.2.1.symm) d0 d3 d4 d6 d9 (by rw [C.2.2.2.2.2.2.2.1, hout]; intro x hx; cases hx)
    hR1 (by rw [List.map_map]; rw [show ((fun v : Value => v.category) ∘ sv b) = (fun v : Value => v.category) from funext (fun v => sv_cat b v)]; exact hR2) hR3 hR4 C.2.2.2.2.2.1 hTH X
  refine ⟨U, a1, _, a2, a3, a4, ⟨locs, a5.mono hc hs, hS.2.2⟩, fun q hq => ?_, n + 1, hu h n (.inr (ci, [])), .inr ci, hp.push a6 a7 (th_at C.2.2.2.2.1.2.1 t1 (by rw [← hp.1]; exact a8) a9 a10), ⟨n, Nat.lt_succ_self n, by rw [hp.1], hu_s _ _ _⟩, hq⟩
  rw [a7 q (Nat.lt_of_lt_of_le hq (by rw [hp.1]; omega))]
  exact S_low C.2.2.2.2.1.2.2.1 hS q hq
theorem j_throwSW (C : Cx p l s m meth c D cA b nL own mn cc ret hh) {ik is ic ci : Nat} {text : String} {names : List String} (hT : TH own ik ic ci names) (hstr : (own, is, text) ∈ g_str) (hout : hh = [])
    (d0 : decode cc pc = .ok (.new ik, 3)) (d3 : decode cc (pc + 3) = .ok (.dup, 1)) (d4 : decode cc (pc + 4) = .ok (.ldc_w is, 3)) (d6 : decode cc (pc + 7) = .ok (.invokespecial ic, 3)) (d9 : decode cc (pc + 10) = .ok (.athrow, 1))
    (hR1 : names.length + 3 < R.frames) (hR2 : (st.map fun v => v.category).sum + (13 * (names.length + 1) + 43) ≤ R.locals) (hR3 : kc + 1 ≤ R.cells) (hR4 : ks + 6 ≤ R.slots) (hc : kc + 1 ≤ mc) (hs : ks + 6 ≤ ms) (hq : Qa (.inr ci) (n + 1) (hu h n (.inr (ci, [])))) : J p l e R s m args below meth c D cA b nL (EndQ D cA b s below Qa mc ms) n h kc ks pc L st := by
  intro H locs ls hp hS hl T hTH X
  obtain ⟨Xn, T0, t1, t2, t3, t4⟩ := hT
  obtain ⟨sa, hsa⟩ := C.2.2.2.2.1.2.2.2.2.1 _ hstr
  have hw : ∀ w ∈ Cond.classLink own ik Xn :: Cond.initialized Xn :: vx_atS own ic Xn names, w.before args s = true := fun w hw => C.w (t4 w hw).1 (t4 w hw).2.2 args
  obtain ⟨U, a1, a2, a3, a4, a5, a6, a7, ce, a8, a9, a10⟩ := tw_throwSW (A := fun q => b ≤ q) (rest := st.map (sv b)) C.1 C.2.1 C.2.2.2.2.2.2.2.2.1 C.2.2.2.1 t2 t3 (hw _ List.mem_cons_self) (hw _ (List.mem_cons_of_mem _ List.mem_cons_self)) hsa (fun w h9 => hw w (List.mem_cons_of_mem _ (List.mem_cons_of_mem _ h9)))
    (fun w h9 => (t4 w h9).2.1) C.2.2.2.2.1.2.2.2.2.2.1 C.2.2.2.2.1.2.2.2.2.2.2 hS (hl.1.trans C.2.2.1.symm) d0 d3 d4 d6 d9 (by rw [C.2.2.2.2.2.2.2.1, hout]; intro x hx; cases hx)
    hR1 (by rw [List.map_map]; rw [show ((fun v : Value => v.category) ∘ sv b) = (fun v : Value => v.category) from funext (fun v => sv_cat b v)]; exact hR2) hR3 hR4 C.2.2.2.2.2.1 hTH X
  refine ⟨U, a1, _, a2, a3, a4, ⟨locs, a5.mono hc hs, hS.2.2⟩, fun q hq => ?_, n + 1, hu h n (.inr (ci, [])), .inr ci, hp.push a6 a7 (th_at C.2.2.2.2.1.2.1 t1 (by rw [← hp.1]; exact a8) a9 a10), ⟨n, Nat.lt_succ_self n, by rw [hp.1], hu_s _ _ _⟩, hq⟩
  rw [a7 q (Nat.lt_of_lt_of_le hq (by rw [hp.1]; omega))]
  exact S_low C.2.2.2.2.1.2.2.1 hS q hq
/-- the call itself, behind the invoking instruction's own step -/
theorem call_core {T : State} {locs : List Loc} {y : MethodName} {cd : Cond} {fr lo mc' ms' maxL len k : Nat} {vs : List Value} {Qc : Rz → Nat → AH → Prop} {cc' : ByteArray} {ret' : Option FieldType} {hh' : List (Nat × Nat × Nat × Nat)} {g : JFrame} {ig : Instr} {mk : MethodId}
    (hG : Gl D cA b s) (X : Stand p l e R s m args below meth c T locs kc ks) (hp : Hp D cA b n h T.heap) (hS : va_S (fun q => b ≤ q) s.heap T.heap locs)
    (hC : Cn l D cA b y cd fr lo mc' ms' vs n h Qc) (hM : MC y cd cc' maxL ret' hh' k) (hg : g.method = m) (hsize : g.locals.size = c.maxLocals) (hdg : decode c.code g.pc = .ok (ig, len)) (hn : T.methodNamed? y = some mk)
    (hR1 : fr + 1 ≤ R.frames) (hR2 : 2 * g.monitorRoom + (g.stack.map fun v => v.category).sum + (maxL + 11) + lo ≤ R.locals) (hR3 : kc + mc' ≤ R.cells) (hR4 : ks + ms' ≤ R.slots) :
    ∃ (n' : Nat) (h' : AH) (r : Rz) (T' : State) (locs' : List Loc), Qc r n' h' ∧ Stand p l e R s m args below meth c T' locs' (kc + mc') (ks + ms') ∧ Hp D cA b n' h' T'.heap ∧ va_S (fun q => b ≤ q) s.heap T'.heap locs' ∧
      match r with
      | .inl v => Steps p.tables e below (doInvoke e (T.setTop g) [] mk (vs.map (sv b)).toArray).1 (T'.setTop { g with pc := g.pc + len, stack := (v.map (sv b)).toList ++ g.stack })
      | .inr ci => ∃ q, q < n' ∧ h' q = .inr (ci, []) ∧ Steps p.tables e below (doInvoke e (T.setTop g) [] mk (vs.map (sv b)).toArray).1 ((T'.setTop g).pushFrame (.throwing (b + q))) := by
  obtain ⟨m1, m2, m3, -, -⟩ := hM
  have hlow := S_low hG.2.2.1 hS
  have hzb : b ≤ T.heap.size := by rw [hp.1]; omega
  have hGT : Gl D cA b T := hG.to X.warmed hzb hlow
  have hGc : Gl D cA b (T.calling g mk (vs.map (sv b)).toArray) := hGT.to (State.WarmedH.refl T) hzb (fun _ _ => rfl)
  have hcdT : ∀ a' : Array Value, cd.before a' T = true := by
    intro a'
    have h1 := hGT.1 cd m1
    rcases m2 with ⟨rfl, -⟩ | rfl <;> exact va_tabs rfl rfl h1
  have hini : (Cond.initialized y.cls).before (vs.map (sv b)).toArray T = true := va_tabs rfl rfl (hGT.1 _ m3)
  have hsp : ∃ methY cY, T.vm.method? mk = some methY ∧ methY.code = some cY ∧ cY.maxLocals = maxL := by
    rcases m2 with ⟨rfl, -⟩ | rfl
    · obtain ⟨methY, cY, hmY, hcY, -, hlY, -⟩ := Cond.code_spec hn (hcdT #[])
      exact ⟨methY, cY, hmY, hcY, hlY⟩
    · obtain ⟨m9, methY, cY, hn9, hmY, hcY, -, hlY, -⟩ := Cond.codeWith_spec (hcdT #[])
      cases Option.some.inj (hn9.symm.trans hn)
      exact ⟨methY, cY, hmY, hcY, hlY⟩
  obtain ⟨methY, cY, hmY, hcY, hlY⟩ := hsp
  obtain ⟨kY, hkY, -⟩ := className_of_methodNamed hn
  have hinitY : kY.init = .initialized := Cond.initialized_spec (findClass_of_methodNamed hn) hkY hini
  have hAt : At T g.method c below := by rw [hg]; exact X.here
  have happ : (headSpec [cd] { frames := fr, cells := mc', slots := ms', locals := lo }).appliesLoose y e.platform (T.calling g mk (vs.map (sv b)).toArray) = true :=
    Spec.appliesLoose_calling (g := g) hAt hdg hn hkY hinitY
      (X.room_calling (g := g) (R' := { frames := fr, cells := mc', slots := ms', locals := lo }) hsize hmY hcY hR1 (by rw [hlY]; exact hR2) hR3 hR4)
      (atoms_intro (fun w hw => by rw [List.mem_singleton] at hw; subst hw; exact hcdT _))
  obtain ⟨mid, hmid⟩ := hAt.above
  have hfr : (T.setTop g).frames = (.java g :: mid) ++ below := by rw [State.frames_setTop' g hAt.top, hmid]; rfl
  obtain ⟨o, s₂, hsteps, -, hend, hq⟩ := Steps.callFree hC p X.admits X.cas X.clock (acts := []) hfr happ ⟨rfl, hGc, hp⟩ trivial
  rw [State.frames_setTop' g hAt.top, X.tail] at hend
  obtain ⟨q1, ⟨L9, q2, q3⟩, q4, n', h', r, q5, q6, q7⟩ : EndO D cA b (T.calling g mk (vs.map (sv b)).toArray) o s₂ Qc mc' ms' := hq
  have fin : ∀ T' : State, T.sameButNew (T'.setVm T.vm) L9 mc' ms' → T'.heap = s₂.heap → Hp D cA b n' h' T'.heap ∧ va_S (fun q => b ≤ q) s.heap T'.heap (locs ++ L9) := by
    intro T' h1 h2
    refine ⟨by rw [h2]; exact q5, Nat.le_trans hS.1 h1.2.1, fun q a1 a2 => ?_, fun z hz => ?_⟩
    · rw [h2]
      exact (q4 q (Nat.not_le.mp a2)).trans (hS.2.1 q a1 a2)
    · rcases List.mem_append.mp hz with h9 | h9
      · exact hS.2.2 z h9
      · exact q3 z h9
  cases r with
  | inl v =>
    have q6' : o = .returned (v.map (sv b)) := q6
    subst q6'
    obtain ⟨T', X', hW', hsm, ht⟩ := X.outOf hg hdg hend q1 q2
    have hheap : T'.heap = s₂.heap := by rw [ht]; rfl
    obtain ⟨f1, f2⟩ := fin T' hsm hheap
    exact ⟨n', h', .inl v, T', locs ++ L9, q7, X', f1, f2, by have h9 := hsteps; rw [ht] at h9; exact h9⟩
  | inr ci =>
    obtain ⟨q, hqn, hqo, hqh⟩ := q6
    subst hqo
    obtain ⟨T', X', hW', hsm, ht⟩ := X.outOfThrown hg hend q1 q2
    have hheap : T'.heap = s₂.heap := by rw [ht]; exact (Stand.throwing_heap T' g (b + q)).symm
    obtain ⟨f1, f2⟩ := fin T' hsm hheap
    exact ⟨n', h', .inr ci, T', locs ++ L9, q7, X', f1, f2, q, hqn, hqh, by have h9 := hsteps; rw [ht] at h9; exact h9⟩
end JC
