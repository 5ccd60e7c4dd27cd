/-! ===== what holds at the entry of every method; the judgement J; contracts ===== -/
/-- exceptions that are none of another's class -/
def g_nc : List (String × String) := [("java/lang/IllegalArgumentException", "java/lang/IndexOutOfBoundsException"), ("java/lang/IllegalArgumentException", "java/lang/IllegalStateException"), ("java/lang/IllegalArgumentException", "java/lang/UnsupportedOperationException"), ("java/lang/IndexOutOfBoundsException", "java/lang/IllegalArgumentException"), ("java/lang/IndexOutOfBoundsException", "java/lang/IllegalStateException"), ("java/lang/IndexOutOfBoundsException", "java/lang/UnsupportedOperationException"), ("java/lang/IllegalStateException", "java/lang/IllegalArgumentException"), ("java/lang/IllegalStateException", "java/lang/IndexOutOfBoundsException"), ("java/lang/IllegalStateException", "java/lang/UnsupportedOperationException"), ("java/lang/UnsupportedOperationException", "java/lang/IllegalArgumentException"), ("java/lang/UnsupportedOperationException", "java/lang/IndexOutOfBoundsException"), ("java/lang/UnsupportedOperationException", "java/lang/IllegalStateException")]
/-- the texts of the exceptions -/
def g_str : List (String × Nat × String) := [("ReportChecks2", 264, "no such kind"), ("ReportChecks2", 81, "the incident is not 0 .. 9,999"), ("ReportChecks2", 277, "there are 30 reports"), ("ReportChecks2", 266, "no such field"), ("ReportChecks2", 262, "no such report"), ("ReportChecks2", 109, "the value is not -99,999 .. 99,999"), ("ReportChecks2", 117, "the field can't be told"), ("ReportChecks2", 126, "no such kind of acts"), ("ReportChecks2", 129, "the minute is to come, or below 0"), ("ReportChecks2", 270, "the report has a signature"), ("ReportChecks2", 139, "the persons inside are not 0 .. 99"), ("ReportChecks2", 144, "the bytes are not 1 .. 8"), ("ReportChecks2", 148, "there would be more than 300 bytes"), ("ReportChecks2", 155, "the text is wrong"), ("ReportChecks2", 165, "the latest check told no such thing"), ("ReportChecks2", 173, "no such what"), ("ReportChecks2", 268, "no such person"), ("ReportChecks2", 181, "the report can't be signed by that person"), ("ReportChecks2", 275, "the report is not closed"), ("ReportChecks2", 207, "the field is open"), ("ReportChecks2", 216, "the byte's number is below 0"), ("ReportChecks2", 221, "the minutes, or the number is below 0"), ("ReportChecks2", 226, "low is above high"), ("ReportChecks2", 255, "the field is empty"), ("ReportChecks2", 260, "the minutes are not 1 .. 5,000, or go beyond 99,999")]
/-- the words, the classes, the texts, the statics that a Throwable's constructor reads -/
def Gl (D : va_G) (cA : Nat → ClassId) (b : Nat) (U : State) : Prop :=
  (∀ w ∈ g_ws, w.before #[] U = true) ∧ va_K D g_cl (g_ty cA) U ∧ b ≤ U.heap.size ∧ (∀ q ∈ g_nc, va_Nc q.1 q.2 U) ∧ (∀ q ∈ g_str, ∃ a, vk_R q.1 q.2.1 q.2.2 a U) ∧
  vx_Zq Bundle.tN "UNASSIGNED_STACK" Bundle.steD (fun q => b ≤ q) U U.heap ∧ vx_Zq Bundle.tN "SUPPRESSED_SENTINEL" Bundle.listD (fun q => b ≤ q) U U.heap
theorem Gl.to {D : va_G} {cA : Nat → ClassId} {b : Nat} {s U : State} (h : Gl D cA b s) (hW : s.WarmedH U.vm) (hz : b ≤ U.heap.size) (hk : ∀ q : Nat, q < b → U.heap[q]? = s.heap[q]?) : Gl D cA b U := by
  obtain ⟨h1, h2, h3, h4, h5, h6, h7⟩ := h
  refine ⟨fun w hw => g_warm (g_okw hw) hW (h1 w hw), va_K.moved hW.alike h2, hz, fun q hq => va_Nc.moved hW.alike (h4 q hq), fun q hq => ?_, ?_, ?_⟩
  · obtain ⟨a, ha⟩ := h5 q hq
    exact ⟨a, vk_R.warm hW ha⟩
  · exact vx_Zq.moved hW.alike (h6.kept (fun a _ ha => hk a (Nat.not_le.mp ha)))
  · exact vx_Zq.moved hW.alike (h7.kept (fun a _ ha => hk a (Nat.not_le.mp ha)))
/-- the heap holds the abstract one -/
def Hp (D : va_G) (cA : Nat → ClassId) (b n : Nat) (h : AH) (H : Heap) : Prop := H.size = b + n ∧ va_P D g_cl (wO b cA n h) H
/-- an answer: returned, or thrown (the number of the exception's class) -/
abbrev Rz : Type := Option Value ⊕ Nat
def Ou (b n : Nat) (h : AH) (r : Rz) (o : Outcome) : Prop := match r with
  | .inl v => o = .returned (v.map (sv b))
  | .inr ci => ∃ k, k < n ∧ o = .threw (b + k) ∧ h k = .inr (ci, [])
def EndO (D : va_G) (cA : Nat → ClassId) (b : Nat) (s : State) (o : Outcome) (t : State) (Qa : Rz → Nat → AH → Prop) (mc ms : Nat) : Prop :=
  s.WarmedH t.vm ∧ (∃ L : List Loc, s.sameButNew ({ t with vm := s.vm } : State) L mc ms ∧ ∀ q ∈ L, b ≤ q.base) ∧ (∀ q : Nat, q < b → t.heap[q]? = s.heap[q]?) ∧ ∃ (n : Nat) (h : AH) (r : Rz), Hp D cA b n h t.heap ∧ Ou b n h r o ∧ Qa r n h
def EndQ (D : va_G) (cA : Nat → ClassId) (b : Nat) (s : State) (below : List Frame) (Qa : Rz → Nat → AH → Prop) (mc ms : Nat) : State → Prop := fun t =>
  ∃ o, t.status = .running ∧ Ended t below o ∧ EndO D cA b s o t Qa mc ms
/-- a contract: called with the values vs on the abstract heap n, h the method ends so that Qa; it makes at most mc cells of ms slots, it nests fr frames of lo words -/
def Cn (l : Launch) (D : va_G) (cA : Nat → ClassId) (b : Nat) (y : MethodName) (cd : Cond) (fr lo mc ms : Nat) (vs : List Value) (n : Nat) (h : AH) (Qa : Rz → Nat → AH → Prop) : Prop :=
  MetFree l y (headSpec [cd] { frames := fr, cells := mc, slots := ms, locals := lo }) (fun a U => a = (vs.map (sv b)).toArray ∧ Gl D cA b U ∧ Hp D cA b n h U.heap) (fun _ _ _ _ _ => True) (fun _ st o t => EndO D cA b st o t Qa mc ms)
/-- what stays the same all over a method's body -/
def Cx (p : Program) (l : Launch) (s : State) (m : MethodId) (meth : Method) (c : Code) (D : va_G) (cA : Nat → ClassId) (b nL : Nat) (own : String) (mn : String) (cc : ByteArray) (ret : Option FieldType) (hh : List (Nat × Nat × Nat × Nat)) : Prop :=
  p.tables.exec = Jvm.exec ∧ c.code = cc ∧ c.maxLocals = nL ∧ s.vm.findClass own = some m.cls ∧ Gl D cA b s ∧ meth.locks = false ∧ meth.sig.returnType = ret ∧ c.exceptionTable.toList = tableOf hh ∧ l.stackTraces = false ∧ meth.name = mn
def J (p : Program) (l : Launch) (e : Env) (R : Room) (s : State) (m : MethodId) (args : Array Value) (below : List Frame) (meth : Method) (c : Code) (D : va_G) (cA : Nat → ClassId) (b nL : Nat) (Q : State → Prop) (n : Nat) (h : AH) (kc ks pc : Nat) (L : List (Nat × Value)) (st : List Value) : Prop :=
  ∀ (H : Heap) (locs : List Loc) (ls : Array Slot), Hp D cA b n h H → va_S (fun q => b ≤ q) s.heap H locs → lv_has ls nL (sL b L) → W p l e R s m args below meth c H locs kc ks Q (F0 m pc ls (st.map (sv b)))
theorem sv_len (b : Nat) (vs : List Value) : (lg_sl (vs.map (sv b))).length = (lg_sl vs).length := by
  induction vs with
  | nil => rfl
  | cons v vs ih =>
    have h1 : lg_sl (v :: vs) = lg_sl [v] ++ lg_sl vs := by simp [lg_sl]
    have h2 : lg_sl ((v :: vs).map (sv b)) = lg_sl [sv b v] ++ lg_sl (vs.map (sv b)) := by simp [lg_sl]
    rw [h1, h2, List.length_append, List.length_append, ih]
    cases v <;> rfl
/-- a contract out of the body's walk -/
theorem Cn.of {l : Launch} {D : va_G} {cA : Nat → ClassId} {b : Nat} {y : MethodName} {cd : Cond} {fr lo mc ms : Nat} {vs : List Value} {n : Nat} {h : AH} {Qa : Rz → Nat → AH → Prop} {cc : ByteArray} {maxL : Nat} {ret : Option FieldType} {hh : List (Nat × Nat × Nat × Nat)}
    (hy : plainName y.cls = true) (hl : l.stackTraces = false) (hcd : (cd = Cond.code y cc maxL ret ∧ hh = []) ∨ cd = Cond.codeWith y cc maxL ret hh) (hn : (lg_sl vs).length ≤ maxL)
    (body : ∀ (p : Program) (e : Env) (s : State) (m : MethodId) (args : Array Value) (below : List Frame) (meth : Method) (c : Code), Cx p l s m meth c D cA b maxL y.cls y.name cc ret hh →
      J p l e { frames := fr, cells := mc, slots := ms, locals := lo } s m args below meth c D cA b maxL (EndQ D cA b s below Qa mc ms) n h 0 0 0 (lv_args 0 vs) []) : Cn l D cA b y cd fr lo mc ms vs n h Qa := by
  have hspec : ∀ (args : Array Value) (s : State) (m : MethodId), cd.before args s = true → s.methodNamed? y = some m → ∃ meth c, s.vm.method? m = some meth ∧ meth.code = some c ∧ c.code = cc ∧ c.maxLocals = maxL ∧ meth.sig.returnType = ret ∧ meth.locks = false ∧ c.exceptionTable.toList = tableOf hh := by
    intro args s m hb hm
    rcases hcd with ⟨rfl, rfl⟩ | rfl
    · obtain ⟨meth, c, h1, h2, h3, h4, h5, h6, h7, -⟩ := Cond.code_spec hm hb
      exact ⟨meth, c, h1, h2, h3, h4, h5, h6, by rw [Array.isEmpty_iff.mp h7]; rfl⟩
    · obtain ⟨m9, meth, c, hn9, h1, h2, h3, h4, h6, h5, h7, -⟩ := Cond.codeWith_spec hb
      cases hm.symm.trans hn9
      exact ⟨meth, c, h1, h2, h3, h4, h5, h7, by rw [← h6, table_eq]⟩
  refine MetFree.of_bodyS (code := cc) (maxLocals := maxL) (ret := ret) hy ?_ ?_
  · intro args s m hp hm
    obtain ⟨meth, c, h1, h2, h3, h4, h5, h6, -⟩ := hspec args s m (atoms_spec (ws := [cd]) hp cd List.mem_cons_self) hm
    exact ⟨meth, c, h1, h2, h3, h4, h5, h6⟩
  · intro p e s m args below meth c s₁ B hml hP _
    obtain ⟨rfl, hG, hH⟩ := hP
    have hh0 : s₁.heap = s.heap := by rw [B.state]; rfl
    obtain ⟨meth9, c9, g1, g2, -, -, -, -, g7⟩ := hspec _ s m (atoms_spec (ws := [cd]) B.pre cd List.mem_cons_self) B.named
    cases Option.some.inj (g1.symm.trans B.method)
    cases Option.some.inj (g2.symm.trans (Stand.of_body B).code)
    have hown : s.vm.findClass y.cls = some m.cls := findClass_of_methodNamed B.named
    have K := body p e s m (vs.map (sv b)).toArray below meth c ⟨B.exec, B.bytes, hml, hown, hG, B.notSynchronized, B.returns, g7, hl, (name_of_methodNamed B.named B.method).1⟩
    have hl0 := lv_entry (vs.map (sv b)) (n := maxL) (by rw [sv_len]; exact hn)
    rw [sv_args] at hl0
    have K2 := K s.heap [] _ hH va_S.rf hl0
    have K3 : W p l e { frames := fr, cells := mc, slots := ms, locals := lo } s m (vs.map (sv b)).toArray below meth c s.heap [] 0 0 (EndQ D cA b s below Qa mc ms) (entryFrame m (vs.map (sv b)).toArray maxL) := by
      rw [lg_entry_eq]
      exact K2
    obtain ⟨t, a1, o, b1, b2, b3⟩ := K3 s₁ hh0 (Stand.of_body B)
    exact ⟨t, o, a1, b1, b2, b3⟩
