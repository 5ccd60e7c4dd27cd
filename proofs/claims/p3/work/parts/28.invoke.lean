/-! ===== the invoking instructions ===== -/
/-- cell q is being thrown, over the frame at pc -/
def JX (p : Program) (l : Launch) (e : Env) (R : Room) (s : State) (m : MethodId) (args : Array Value) (below : List Frame) (meth : Method) (c : Code) (D : va_G) (cA : Nat → ClassId) (b nL : Nat) (Q : State → Prop) (n : Nat) (h : AH) (kc ks pc : Nat) (L : List (Nat × Value)) (q : Nat) : Prop :=
  ∀ (H : Heap) (locs : List Loc) (ls : Array Slot) (rest : List Value) (T : State), Hp D cA b n h H → va_S (fun q => b ≤ q) s.heap H locs → lv_has ls nL (sL b L) → T.heap = H → Stand p l e R s m args below meth c T locs kc ks → ∃ t, Steps p.tables e below ((T.setTop (F0 m pc ls rest)).pushFrame (.throwing (b + q))) t ∧ Q t
/-- where a call leads: on behind it, or up with what was thrown -/
def JK (p : Program) (l : Launch) (e : Env) (R : Room) (s : State) (m : MethodId) (args : Array Value) (below : List Frame) (meth : Method) (c : Code) (D : va_G) (cA : Nat → ClassId) (b nL : Nat) (Q : State → Prop) (kc ks pc : Nat) (L : List (Nat × Value)) (st : List Value) (Qc : Rz → Nat → AH → Prop) : Prop :=
  (∀ (v : Option Value) (n : Nat) (h : AH), Qc (.inl v) n h → J p l e R s m args below meth c D cA b nL Q n h kc ks (pc + 3) L (v.toList ++ st)) ∧ ∀ (ci : Nat) (n : Nat) (h : AH) (q : Nat), Qc (.inr ci) n h → q < n → h q = .inr (ci, []) → JX p l e R s m args below meth c D cA b nL Q n h kc ks pc L q
/-- it returns v, with the heap n1, h1 -/
def Re (v : Option Value) (n1 : Nat) (h1 : AH) : Rz → Nat → AH → Prop := fun r n h => r = .inl v ∧ n = n1 ∧ h = h1
section JI
variable {p : Program} {l : Launch} {e : Env} {R : Room} {s : State} {m : MethodId} {args : Array Value} {below : List Frame} {meth : Method} {c : Code} {D : va_G} {cA : Nat → ClassId} {b nL : Nat} {Q : State → Prop} {n : Nat} {h : AH} {kc ks pc : Nat} {L : List (Nat × Value)} {st : List Value} {own mn : String} {cc : ByteArray} {ret : Option FieldType} {hh : List (Nat × Nat × Nat × Nat)} {Qa : Rz → Nat → AH → Prop} {mc ms : Nat}
theorem jk_e {v : Option Value} {n1 : Nat} {h1 : AH} (k : J p l e R s m args below meth c D cA b nL Q n1 h1 kc ks (pc + 3) L (v.toList ++ st)) : JK p l e R s m args below meth c D cA b nL Q kc ks pc L st (Re v n1 h1) := by
  refine ⟨fun v' n' h' hq => ?_, fun ci n' h' q hq => by cases hq.1⟩
  obtain ⟨e1, rfl, rfl⟩ := hq
  cases e1
  exact k
theorem sv_sum (b : Nat) (st : List Value) : ((st.map (sv b)).map fun v => v.category).sum = (st.map fun v => v.category).sum := by
  rw [List.map_map]
  congr 2
  funext v
  exact sv_cat b v
theorem call_go {T T1 : State} {H : Heap} {locs : List Loc} {ls : Array Slot} {y : MethodName} {cd : Cond} {fr lo mc' ms' maxL k : Nat} {vs : List Value} {Qc : Rz → Nat → AH → Prop} {cc' : ByteArray} {ret' : Option FieldType} {hh' : List (Nat × Nat × Nat × Nat)} {ig : Instr} {mk : MethodId} {stk : List Value}
    (C : Cx p l s m meth c D cA b nL own mn cc ret hh) (X : Stand p l e R s m args below meth c T1 locs kc ks) (hp : Hp D cA b n h H) (hT1 : T1.heap = H) (hS : va_S (fun q => b ≤ q) s.heap H locs) (hl : lv_has ls nL (sL b L))
    (hC : Cn l D cA b y cd fr lo mc' ms' vs n h Qc) (hM : MC y cd cc' maxL ret' hh' k) (hd : decode cc pc = .ok (ig, 3)) (hn : T1.methodNamed? y = some mk)
    (hR1 : fr + 1 ≤ R.frames) (hR2 : (st.map fun v => v.category).sum + (maxL + 11) + lo ≤ R.locals) (hR3 : kc + mc' ≤ R.cells) (hR4 : ks + ms' ≤ R.slots)
    (kk : JK p l e R s m args below meth c D cA b nL Q (kc + mc') (ks + ms') pc L st Qc)
    (hstep : ∀ target, (∀ acts, Steps p.tables e below (doInvoke e (T1.setTop (F0 m pc ls (st.map (sv b)))) acts mk (vs.map (sv b)).toArray).1 target) → Steps p.tables e below (T.setTop (F0 m pc ls stk)) target) : ∃ t, Steps p.tables e below (T.setTop (F0 m pc ls stk)) t ∧ Q t := by
  obtain ⟨n', h', r, T', locs', g1, g2, g3, g4, g5⟩ := call_core C.2.2.2.2.1 X (by rw [hT1]; exact hp) (by rw [hT1]; exact hS) hC hM (g := F0 m pc ls (st.map (sv b))) (ig := ig) (len := 3) (mk := mk) rfl (hl.1.trans C.2.2.1.symm) (by rw [C.2.1]; exact hd) hn hR1 (by show 2 * 0 + ((st.map (sv b)).map fun v => v.category).sum + (maxL + 11) + lo ≤ R.locals; rw [sv_sum]; omega) hR3 hR4
  cases r with
  | inl v =>
    obtain ⟨t, a1, a2⟩ := kk.1 v n' h' g1 T'.heap locs' ls g3 g4 hl T' rfl g2
    refine ⟨t, hstep t (fun acts => ?_), a2⟩
    rw [doInvoke_state]
    refine Steps.trans g5 ?_
    have e1 : (v.map (sv b)).toList ++ st.map (sv b) = (v.toList ++ st).map (sv b) := by cases v <;> simp
    show Steps p.tables e below (T'.setTop (F0 m (pc + 3) ls ((v.map (sv b)).toList ++ st.map (sv b)))) t
    rw [e1]
    exact a1
  | inr ci =>
    obtain ⟨q, hqn, hqh, g6⟩ := g5
    obtain ⟨t, a1, a2⟩ := kk.2 ci n' h' q g1 hqn hqh T'.heap locs' ls (st.map (sv b)) T' g3 g4 hl rfl g2
    refine ⟨t, hstep t (fun acts => ?_), a2⟩
    rw [doInvoke_state]
    exact Steps.trans g6 a1
theorem j_callS (C : Cx p l s m meth c D cA b nL own mn cc ret hh) {index fr lo mc' ms' maxL k : Nat} {y : MethodName} {cd : Cond} {vs rv : List Value} {Qc : Rz → Nat → AH → Prop} {cc' : ByteArray} {ret' : Option FieldType} {hh' : List (Nat × Nat × Nat × Nat)} (hd : decode cc pc = .ok (.invokestatic index, 3)) (hL : ML own index y) (hM : MC y cd cc' maxL ret' hh' k) (hst : Cond.static y ∈ g_ws) (hC : Cn l D cA b y cd fr lo mc' ms' vs n h Qc) (hk : vs.length = k) (hrv : vs.reverse ++ st = rv)
    (hR1 : fr + 1 ≤ R.frames) (hR2 : (st.map fun v => v.category).sum + (maxL + 11) + lo ≤ R.locals) (hR3 : kc + mc' ≤ R.cells) (hR4 : ks + ms' ≤ R.slots) (kk : JK p l e R s m args below meth c D cA b nL Q (kc + mc') (ks + ms') pc L st Qc) : J p l e R s m args below meth c D cA b nL Q n h kc ks pc L rv := by
  intro H locs ls hp hS hl T hT X
  subst hrv
  obtain ⟨m1, m2, m3, m4, m5⟩ := id hM
  have hcd : cd.before args s = true := by
    rcases m2 with ⟨rfl, -⟩ | rfl <;> exact C.w m1 rfl args
  have hsp : ∃ mk methM, s.methodNamed? y = some mk ∧ s.vm.method? mk = some methM ∧ parseMethodDescriptor y.desc = some methM.sig := by
    rcases m2 with ⟨rfl, -⟩ | rfl
    · obtain ⟨mk, hnamed⟩ := Cond.code_named hcd
      obtain ⟨methM, cM, hmethM, -, -, -, -, -, -, hsigM⟩ := Cond.code_spec hnamed hcd
      exact ⟨mk, methM, hnamed, hmethM, hsigM⟩
    · obtain ⟨mk, methM, cM, hnamed, hmethM, -, -, -, -, -, -, hsigM⟩ := Cond.codeWith_spec hcd
      exact ⟨mk, methM, hnamed, hmethM, hsigM⟩
  obtain ⟨mk, methM, hnamed, hmethM, hsigM⟩ := hsp
  have hstatic : methM.isStatic = true := Cond.static_spec hnamed hmethM (C.w hst rfl args)
  obtain ⟨kP, hkP, -⟩ := className_of_methodNamed hnamed
  have hinitP : kP.init = .initialized := Cond.initialized_spec (findClass_of_methodNamed hnamed) hkP (C.w m3 rfl args)
  have hlen : (vs.map (sv b)).length = methM.sig.parameters.length := by
    rw [hsigM] at m5
    rw [List.length_map, hk]
    exact (Option.some.inj m5).symm
  have hstk : (vs.reverse ++ st).map (sv b) = (vs.map (sv b)).reverse ++ st.map (sv b) := by rw [List.map_append, List.map_reverse]
  rw [hstk]
  rcases hL with hL | ⟨host, hL⟩
  · obtain ⟨vm₁, X₁, hstep₁⟩ := X.invokestatic C.1 C.2.2.2.1 (C.w hL rfl args) hnamed hmethM hstatic hkP hinitP m4 (g := F0 m pc ls ((vs.map (sv b)).reverse ++ st.map (sv b))) rfl (argsL := vs.map (sv b)) (rest := st.map (sv b)) hlen rfl (by rw [C.2.1]; exact hd)
    exact call_go C X₁ hp hT hS hl hC hM hd (X₁.named hnamed) hR1 hR2 hR3 hR4 kk hstep₁
  · obtain ⟨vm₁, X₁, hstep₁⟩ := X.invokestaticNest C.1 C.2.2.2.1 (C.w hL rfl args) hnamed hmethM hstatic hkP hinitP m4 (g := F0 m pc ls ((vs.map (sv b)).reverse ++ st.map (sv b))) rfl (argsL := vs.map (sv b)) (rest := st.map (sv b)) hlen rfl (by rw [C.2.1]; exact hd)
    exact call_go C X₁ hp hT hS hl hC hM hd (X₁.named hnamed) hR1 hR2 hR3 hR4 kk hstep₁
theorem j_callV (C : Cx p l s m meth c D cA b nL own mn cc ret hh) {index fr lo mc' ms' maxL k a ci : Nat} {y : MethodName} {cc' : ByteArray} {ret' : Option FieldType} {vs rv fs : List Value} {Qc : Rz → Nat → AH → Prop} {Cl : String} {T0 : u_T} {N0 : Nat} (hd : decode cc pc = .ok (.invokevirtual index, 3)) (hL : ML own index y) (hM : MC y (Cond.code y cc' maxL ret') cc' maxL ret' [] k) (hin : Cond.instanceMethod y ∈ g_ws) (hc : g_cl[ci]? = some (Cl, T0, N0)) (hsel : Cond.selects Cl y y ∈ g_ws) (ha : a < n) (hx : h a = .inr (ci, fs)) (hC : Cn l D cA b y (Cond.code y cc' maxL ret') fr lo mc' ms' (.ref a :: vs) n h Qc) (hk : vs.length = k) (hrv : vs.reverse ++ .ref a :: st = rv)
    (hR1 : fr + 1 ≤ R.frames) (hR2 : (st.map fun v => v.category).sum + (maxL + 11) + lo ≤ R.locals) (hR3 : kc + mc' ≤ R.cells) (hR4 : ks + ms' ≤ R.slots) (kk : JK p l e R s m args below meth c D cA b nL Q (kc + mc') (ks + ms') pc L st Qc) : J p l e R s m args below meth c D cA b nL Q n h kc ks pc L rv := by
  intro H locs ls hp hS hl T hT X
  subst hrv
  obtain ⟨m1, m2, m3, m4, m5⟩ := id hM
  have hcode : (Cond.code y cc' maxL ret').before args s = true := C.w m1 rfl args
  obtain ⟨mk, methM, hnamed, hmethM, hstM, habM⟩ := Cond.instanceMethod_spec (C.w hin rfl args)
  obtain ⟨methM', cM, hmethM', -, -, -, -, -, -, hsigM⟩ := Cond.code_spec hnamed hcode
  cases hmethM.symm.trans hmethM'
  obtain ⟨c2, r2, m2', q1, q2, q3, q4, kP, hkP, hkPi⟩ := Cond.selects_spec (C.w hsel rfl args)
  obtain ⟨cellB, hcB, hoB, hclB⟩ := va_recv C.2.2.2.2.1.2.1 hp.2 hc (hp.obj ha hx)
  cases hclB.symm.trans q1
  cases (State.methodFound?_of_named hnamed m4).symm.trans q2
  cases hnamed.symm.trans q3
  have hselP : selectMethod e.platform s.vm cellB.cls mk = .method mk := by rw [Launch.admits_selectMethod X.admits]; exact q4
  have hlen : (vs.map (sv b)).length = methM.sig.parameters.length := by
    rw [hsigM] at m5
    rw [List.length_map, hk]
    exact (Option.some.inj m5).symm
  have hstk : (vs.reverse ++ .ref a :: st).map (sv b) = (vs.map (sv b)).reverse ++ .ref (b + a) :: st.map (sv b) := by rw [List.map_append, List.map_reverse]; rfl
  rw [hstk]
  have hcell : T.heap[b + a]? = some cellB := by rw [hT]; exact hcB
  rcases hL with hL | ⟨host, hL⟩
  · obtain ⟨vm₁, X₁, hstep₁⟩ := X.invokevirtual C.1 C.2.2.2.1 (C.w hL rfl args) hnamed hmethM hstM hkP hkPi m4 (a := b + a) (cell := cellB) hcell
      (fun z h => by rw [h] at hoB; cases hoB) hselP hmethM habM hkP hkPi (g := F0 m pc ls ((vs.map (sv b)).reverse ++ .ref (b + a) :: st.map (sv b))) rfl (argsL := vs.map (sv b)) (rest := st.map (sv b)) hlen rfl (by rw [C.2.1]; exact hd)
    exact call_go C X₁ hp hT hS hl hC hM hd (X₁.named hnamed) hR1 hR2 hR3 hR4 kk hstep₁
  · obtain ⟨vm₁, X₁, hstep₁⟩ := X.invokevirtualNest C.1 C.2.2.2.1 (C.w hL rfl args) hnamed hmethM hstM hkP hkPi m4 (a := b + a) (cell := cellB) hcell
      (fun z h => by rw [h] at hoB; cases hoB) hselP hmethM habM hkP hkPi (g := F0 m pc ls ((vs.map (sv b)).reverse ++ .ref (b + a) :: st.map (sv b))) rfl (argsL := vs.map (sv b)) (rest := st.map (sv b)) hlen rfl (by rw [C.2.1]; exact hd)
    exact call_go C X₁ hp hT hS hl hC hM hd (X₁.named hnamed) hR1 hR2 hR3 hR4 kk hstep₁
theorem j_callI (C : Cx p l s m meth c D cA b nL own mn cc ret hh) {index fr lo mc' ms' maxL k a : Nat} {y : MethodName} {cc' : ByteArray} {vs rv : List Value} {Qc : Rz → Nat → AH → Prop} (hd : decode cc pc = .ok (.invokespecial index, 3)) (hy1 : y.name = "<init>") (hL : ML own index y) (hM : MC y (Cond.code y cc' maxL none) cc' maxL none [] k) (hin : Cond.instanceMethod y ∈ g_ws) (hC : Cn l D cA b y (Cond.code y cc' maxL none) fr lo mc' ms' (.ref a :: vs) n h Qc) (hk : vs.length = k) (hrv : vs.reverse ++ .ref a :: st = rv)
    (hR1 : fr + 1 ≤ R.frames) (hR2 : (st.map fun v => v.category).sum + (maxL + 11) + lo ≤ R.locals) (hR3 : kc + mc' ≤ R.cells) (hR4 : ks + ms' ≤ R.slots) (kk : JK p l e R s m args below meth c D cA b nL Q (kc + mc') (ks + ms') pc L st Qc) : J p l e R s m args below meth c D cA b nL Q n h kc ks pc L rv := by
  intro H locs ls hp hS hl T hT X
  subst hrv
  obtain ⟨m1, m2, m3, m4, m5⟩ := id hM
  have hcode : (Cond.code y cc' maxL none).before args s = true := C.w m1 rfl args
  have hpl : e.platform.magicAccessors = ({} : Platform).magicAccessors := by rw [X.admits.platform]
  have hlen : ∀ sig, parseMethodDescriptor y.desc = some sig → (vs.map (sv b)).length = sig.parameters.length := by
    intro sig hsig
    rw [hsig] at m5
    rw [List.length_map, hk]
    exact (Option.some.inj m5).symm
  have hstk : (vs.reverse ++ .ref a :: st).map (sv b) = (vs.map (sv b)).reverse ++ .ref (b + a) :: st.map (sv b) := by rw [List.map_append, List.map_reverse]; rfl
  rw [hstk]
  rcases hL with hL | ⟨host, hL⟩
  · obtain ⟨mk, methM, cM, kP, vm₁, hnamed, hmethM, hcodeM, -, hlocalsM, -, hkP, -, hW₁, hstep₁⟩ := Steps.initColdArgs (e := e) X.here C.1 X.warmed hpl C.2.2.2.1 hy1 m4 (C.w hL rfl args) (C.w hin rfl args) hcode (f := F0 m pc ls ((vs.map (sv b)).reverse ++ .ref (b + a) :: st.map (sv b))) rfl (a := b + a) (argsL := vs.map (sv b)) (rest := st.map (sv b)) hlen rfl (by rw [C.2.1]; exact hd)
    have X₁ := X.noted hW₁
    exact call_go C X₁ hp hT hS hl hC hM hd (X₁.named hnamed) hR1 hR2 hR3 hR4 kk hstep₁
  · obtain ⟨mk, methM, cM, kP, vm₁, hnamed, hmethM, hcodeM, -, hlocalsM, -, hkP, -, hW₁, hstep₁⟩ := Steps.initColdArgsNest (e := e) X.here C.1 X.warmed hpl C.2.2.2.1 hy1 m4 (C.w hL rfl args) (C.w hin rfl args) hcode (f := F0 m pc ls ((vs.map (sv b)).reverse ++ .ref (b + a) :: st.map (sv b))) rfl (a := b + a) (argsL := vs.map (sv b)) (rest := st.map (sv b)) hlen rfl (by rw [C.2.1]; exact hd)
    have X₁ := X.noted hW₁
    exact call_go C X₁ hp hT hS hl hC hM hd (X₁.named hnamed) hR1 hR2 hR3 hR4 kk hstep₁
end JI
