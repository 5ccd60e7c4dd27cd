/-! ===== throwing: rows that began as claim/NAMES.whole.lean.txt's (its section VXA), names spelt out ===== -/
section VXA
variable {p : Program} {l : Launch} {e : Env} {R : Room} {s : State} {m : MethodId} {args : Array Value} {below : List Frame} {meth : Method} {c : Code} {H : Heap} {locs : List Loc} {cells slots : Nat} {Q : State → Prop}
variable {mc ms : Nat} {free : Addr → Prop} {A0 A1 : Nat → Prop} {H0 : Heap} {a : Array Value} {ls : Array Slot} {st0 rest : List Value}
theorem vx_frame {U : State} {k n : Nat} (h : s.sameButNew ({ U with vm := s.vm } : State) locs k n) : s.heap.size ≤ U.heap.size ∧ ∀ q : Nat, q < s.heap.size → (∀ z ∈ locs, z.base ≠ q) → U.heap[q]? = s.heap[q]? := by
  obtain ⟨-, h2, -, -, -, h6⟩ := h
  refine ⟨h2, fun q hq hz => ?_⟩
  obtain ⟨c9, e1, e2, e3, e4⟩ := h6 q _ (Array.getElem?_eq_getElem hq)
  have hs : c9.slots = (s.heap[q]).slots := Array.ext_getElem? fun i => e4 i fun hm => hz _ hm rfl
  have h9 : c9 = s.heap[q] := by
    rw [hs] at e2
    exact e2
  have e5 : U.heap[q]? = some c9 := e1
  rw [e5, h9, Array.getElem?_eq_getElem hq]
/-- the words of a throw but the four that speak of the heap -/
def vx_no (w : Cond) : Bool := decide (w ≠ .isRef (.static Bundle.tN "UNASSIGNED_STACK" Bundle.steD)) && decide (w ≠ .isRef (.static Bundle.tN "SUPPRESSED_SENTINEL" Bundle.listD)) && decide (w ≠ .laysStatic Bundle.tN "UNASSIGNED_STACK" Bundle.steD) && decide (w ≠ .laysStatic Bundle.tN "SUPPRESSED_SENTINEL" Bundle.listD)
def vx_at0 (own : String) (ic : Nat) (X : String) (names : List String) : List Cond := (Bundle.ownAtoms0 own ic X names).filter vx_no
def vx_atS (own : String) (ic : Nat) (X : String) (names : List String) : List Cond := (Bundle.ownAtoms own ic X names).filter vx_no
/-- a word that the tables alone decide, or a good one -/
def vx_ot (w : Cond) : Bool := w.onTables || goodWord w
theorem vx_ot_at {args a' : Array Value} {s U : State} {w : Cond} (hW : s.WarmedH U.vm) (hvm : s.vm = U.vm) (hg : vx_ot w = true) (h : w.before args s = true) : w.before a' U = true := by
  simp only [vx_ot, Bool.or_eq_true] at hg
  rcases hg with hg | hg
  · exact va_tabs hg hvm h
  · exact word_at hW (good_of_word hg) h
/-- a list's words: the good ones out of the method's own list, the others by premises of their own -/
theorem vx_hat {args : Array Value} {s : State} {L B : List Cond} (h1 : ∀ w ∈ L.filter goodWord, w.before args s = true) (h2 : ∀ w ∈ L.filter (fun w => !goodWord w), w ∈ B) (h3 : ∀ w ∈ B, w.before args s = true) : ∀ w ∈ L, w.before args s = true := by
  intro w hw
  by_cases g : goodWord w = true
  · exact h1 w (List.mem_filter.mpr ⟨hw, g⟩)
  · refine h3 w (h2 w (List.mem_filter.mpr ⟨hw, ?_⟩))
    show (!goodWord w) = true
    cases hgw : goodWord w
    · rfl
    · exact absurd hgw g
theorem vx_c {args : Array Value} {s : State} {w : Cond} {B : List Cond} (h : w.before args s = true) (t : ∀ w ∈ B, w.before args s = true) : ∀ w' ∈ w :: B, w'.before args s = true := fun w' h' => (List.mem_cons.mp h').elim (fun e => by rw [e]; exact h) (t w')
theorem vx_n {args : Array Value} {s : State} : ∀ w ∈ ([] : List Cond), w.before args s = true := fun _ h => nomatch h
theorem vx_own {args : Array Value} {s : State} {L : List Cond} (h1 : ∀ w ∈ L.filter vx_no, w.before args s = true)
    (hU : (Cond.isRef (.static Bundle.tN "UNASSIGNED_STACK" Bundle.steD)).before args s = true) (hN : (Cond.isRef (.static Bundle.tN "SUPPRESSED_SENTINEL" Bundle.listD)).before args s = true)
    (lU : (Cond.laysStatic Bundle.tN "UNASSIGNED_STACK" Bundle.steD).before args s = true) (lN : (Cond.laysStatic Bundle.tN "SUPPRESSED_SENTINEL" Bundle.listD).before args s = true) : ∀ w ∈ L, w.before args s = true := by
  intro w hw
  by_cases e1 : w = .isRef (.static Bundle.tN "UNASSIGNED_STACK" Bundle.steD)
  · rw [e1]; exact hU
  · by_cases e2 : w = .isRef (.static Bundle.tN "SUPPRESSED_SENTINEL" Bundle.listD)
    · rw [e2]; exact hN
    · by_cases e3 : w = .laysStatic Bundle.tN "UNASSIGNED_STACK" Bundle.steD
      · rw [e3]; exact lU
      · by_cases e4 : w = .laysStatic Bundle.tN "SUPPRESSED_SENTINEL" Bundle.listD
        · rw [e4]; exact lN
        · exact h1 w (List.mem_filter.mpr ⟨hw, by unfold vx_no; rw [decide_eq_true e1, decide_eq_true e2, decide_eq_true e3, decide_eq_true e4]; rfl⟩)
/-- where a static field lies, its class's statics cell in H -/
def vx_L (C n d : String) (A : Nat → Prop) (U : State) (H : Heap) : Prop := ∃ (c : ClassId) (k : Class) (i : Nat) (f : Field) (a : Nat) (cell : Cell), U.vm.findClass C = some c ∧ U.fieldFound? C n d = some (c, k, i, f) ∧ f.isStatic = true ∧ k.statics = some a ∧ H[a]? = some cell ∧ cell.vm.isStatics = true ∧ cell.cls = c ∧ f.slot < cell.slots.size ∧ k.staticTypes[f.slot]? = some f.type ∧ ¬ A a
theorem vx_L.moved {C n d : String} {A : Nat → Prop} {u U : State} {H : Heap} (hvm : u.vm.Alike U.vm) (h : vx_L C n d A u H) : vx_L C n d A U H := by
  obtain ⟨c, k, i, f, a, cell, h1, h2, h3, h4, h5, h6, h7, h8, h9, h10⟩ := h
  obtain ⟨k', hi', he⟩ := State.fieldFound?_setVm hvm h2
  exact ⟨c, k', i, f, a, cell, by rw [hvm.findClass]; exact h1, hi', h3, by rw [he]; exact h4, h5, h6, h7, h8, by rw [he]; exact h9, h10⟩
theorem vx_L.kept {C n d : String} {A : Nat → Prop} {U : State} {H H1 : Heap} (h : vx_L C n d A U H) (hq : ∀ a : Nat, a < H.size → ¬ A a → H1[a]? = H[a]?) : vx_L C n d A U H1 := by
  obtain ⟨c, k, i, f, a, cell, h1, h2, h3, h4, h5, h6, h7, h8, h9, h10⟩ := h
  exact ⟨c, k, i, f, a, cell, h1, h2, h3, h4, by rw [hq a (Array.getElem?_eq_some_iff.mp h5).1 h10]; exact h5, h6, h7, h8, h9, h10⟩
theorem vx_L.narrow {C n d : String} {A B : Nat → Prop} {U : State} {H : Heap} (h : vx_L C n d A U H) (hAB : ∀ q, B q → A q) : vx_L C n d B U H := by
  obtain ⟨c, k, i, f, a, cell, h1, h2, h3, h4, h5, h6, h7, h8, h9, h10⟩ := h
  exact ⟨c, k, i, f, a, cell, h1, h2, h3, h4, h5, h6, h7, h8, h9, fun z => h10 (hAB _ z)⟩
theorem vx_L.word {C n d : String} {A : Nat → Prop} {s : State} {args : Array Value} (h : vx_L C n d A s s.heap) : (Cond.laysStatic C n d).before args s = true := by
  obtain ⟨c, k, i, f, a, cell, h1, h2, h3, h4, h5, h6, h7, h8, h9, -⟩ := h
  show (Cond.laysStatic C n d).holds args s none s [] = true
  exact Cond.laysStatic_of h1 h2 h3 h4 h5 h6 h7 h8 h9
/-- .. and what it holds: null or some reference -/
def vx_Zq (C n d : String) (A : Nat → Prop) (U : State) (H : Heap) : Prop := va_Zq C n d A U H ∧ vx_L C n d A U H
theorem vx_Zq.moved {C n d : String} {A : Nat → Prop} {u U : State} {H : Heap} (hvm : u.vm.Alike U.vm) (h : vx_Zq C n d A u H) : vx_Zq C n d A U H := ⟨va_Zq.moved hvm h.1, vx_L.moved hvm h.2⟩
theorem vx_Zq.kept {C n d : String} {A : Nat → Prop} {U : State} {H H1 : Heap} (h : vx_Zq C n d A U H) (hq : ∀ a : Nat, a < H.size → ¬ A a → H1[a]? = H[a]?) : vx_Zq C n d A U H1 := ⟨va_Zq.kept h.1 hq, vx_L.kept h.2 hq⟩
theorem vx_Zq.narrow {C n d : String} {A B : Nat → Prop} {U : State} {H : Heap} (h : vx_Zq C n d A U H) (hAB : ∀ q, B q → A q) : vx_Zq C n d B U H := ⟨va_Zq.narrow h.1 hAB, vx_L.narrow h.2 hAB⟩
theorem vx_Zqof {args : Array Value} {s : State} {C n d : String} {A : Nat → Prop} (hl : (Cond.laysStatic C n d).before args s = true) (hini : (Cond.initialized C).before args s = true) (h : (Cond.isRef (.static C n d)).before args s = true) (hA : ∀ a : Nat, a < s.heap.size → ¬ A a) : vx_Zq C n d A s s.heap := by
  refine ⟨va_Zqof hl hini h hA, ?_⟩
  obtain ⟨c, k, i, f, a, cell, h1, h2, h3, h4, h5, h6, h7, h8, h9⟩ := Cond.laysStatic_spec hl
  exact ⟨c, k, i, f, a, cell, h1, h2, h3, h4, h5, h6, h7, h8, h9, hA a (Array.getElem?_eq_some_iff.mp h5).1⟩
theorem vx_isRef {C n d : String} {v : Value} {A : Nat → Prop} {s : State} {args : Array Value} (h : va_Z C n d v A s s.heap) (hv : v.isRef = true) : (Cond.isRef (.static C n d)).before args s = true := by
  obtain ⟨cf, kf, fi, f, a, cell, h1, h2, h3, h4, h5, h6, h7, -⟩ := h
  have he : (Term.static C n d).eval args s none [] s = some v := by
    simp [Term.eval, State.fieldNamed?, h1, h2, h4, h5, h6, h7]
  simp only [Cond.before, Cond.holds, Cond.value, he]
  cases v <;> simp_all [Value.isRef]
theorem vx_isRefq {C n d : String} {A : Nat → Prop} {s : State} {args : Array Value} (h : va_Zq C n d A s s.heap) : (Cond.isRef (.static C n d)).before args s = true := by
  rcases h with h | ⟨t, h⟩
  · exact vx_isRef h rfl
  · exact vx_isRef h rfl
/-- the same frame, seen from here: as if the method were called anew in this heap -/
theorem vx_rebase {T : State} (X : Stand p l e R s m args below meth c T locs cells slots) {R' : Room} (hf : R'.frames ≤ R.frames) (hl : R'.locals ≤ R.locals) (hc : cells + R'.cells ≤ R.cells) (hs : slots + R'.slots ≤ R.slots) :
    Stand p l e R' ((T.setVm s.vm).setFrames (.invoking m args :: below)) m args below meth c T [] 0 0 := by
  have htop : (T.setVm s.vm).topJava?.isSome := X.here.top
  have hF : ((T.setVm s.vm).setFrames (.invoking m args :: below)).frames = .invoking m args :: below := State.frames_setFrames _ (State.cur_lt_of_top htop)
  obtain ⟨g₀, hg0⟩ := Option.isSome_iff_exists.mp htop
  obtain ⟨r, hr⟩ := State.topJava?_eq_some.mp hg0
  have hl9 : e.platform.stackLimits (T.setVm s.vm).me = e.platform.stackLimits s.me := X.limits
  have hb9 : (T.setVm s.vm).me.stackBytes = s.me.stackBytes := X.bytes
  refine ⟨X.admits, X.cas, X.clock, hF, ?_, X.hears, X.method, X.code, X.here, X.tail, X.warmed, ?_, ?_, ?_⟩
  · have h := X.room
    have hU : ((T.setVm s.vm).setFrames (.invoking m args :: below)).localsInUse = s.localsInUse := by
      rw [State.localsInUse_invoking hF (meth := meth) (c := c) X.method X.code, State.localsInUse_invoking X.frames X.method X.code]
    simp only [State.hasRoom, Bool.and_eq_true, decide_eq_true_eq] at h ⊢
    obtain ⟨⟨⟨⟨h1, h2, h3, h4, h5, h6⟩, h7⟩, h8⟩, h9⟩ := h
    rw [X.frames, List.length_cons] at h2 h3
    have q1 := X.heapSize
    have q2 := X.used
    simp only [hF, hU, List.length_cons, State.stackLimits_setFrames, State.stackBytes_setFrames, hl9, hb9]
    refine ⟨⟨⟨⟨by omega, by omega, by omega, by omega, by omega, h6⟩, ?_⟩, ?_⟩, X.book⟩
    · show T.heap.size + R'.cells ≤ e.platform.maxCells
      omega
    · show T.slotsUsed + R'.slots ≤ e.platform.maxSlots
      omega
  · rw [State.stackLimits_setFrames]; rfl
  · rw [State.stackBytes_setFrames]; rfl
  · refine ⟨?_, Nat.le_refl _, Nat.le_refl _, ?_, ?_, fun a c9 h9 => ⟨c9, h9, rfl, rfl, fun _ _ => rfl⟩⟩
    · obtain ⟨t, ht, -⟩ := State.frames_cons hr
      show T.setVm s.vm = { ((T.setVm s.vm).setFrames (.invoking m args :: below)).setFrames (T.setVm s.vm).frames with heap := T.heap, slotsUsed := T.slotsUsed }
      rw [State.setFrames_setFrames, State.setFrames_self ht]
      rfl
    · show T.slotsUsed = T.slotsUsed + ((T.heap.toList.drop T.heap.size).map (·.slots.size)).sum
      rw [List.drop_eq_nil_of_le (Nat.le_of_eq Array.length_toList)]
      rfl
    · show ((T.heap.toList.drop T.heap.size).map (·.slots.size)).sum ≤ 0
      rw [List.drop_eq_nil_of_le (Nat.le_of_eq Array.length_toList)]
      exact Nat.le_refl _
end VXA
/-! ===== the abstract heap: cells numbered from 0 on, at the addresses b, b + 1, .. ===== -/
abbrev AC : Type := (Nat × vp_A) ⊕ (Nat × List Value)
abbrev AH : Type := Nat → AC
def hu (h : AH) (k : Nat) (x : AC) : AH := fun j => if j = k then x else h j
theorem hu_s (h : AH) (k : Nat) (x : AC) : hu h k x k = x := if_pos rfl
theorem hu_n {h : AH} {k j : Nat} {x : AC} (hj : j ≠ k) : hu h k x j = h j := if_neg hj
theorem hu_self {h : AH} {k : Nat} {x : AC} (hk : h k = x) : hu h k x = h := by
  funext j
  unfold hu
  split
  · rename_i e; rw [e, hk]
  · rfl
/-- cell a of the abstract heap; a return address stands for a cell that was there before, by its own address -/
def sv (b : Nat) (v : Value) : Value := match v with
  | .ref a => .ref (b + a)
  | .retAddr a => .ref a
  | w => w
def so (b : Nat) (f : Nat → Option Nat) : Nat → Option Nat := fun j => (f j).map (fun a => b + a)
def sa (b : Nat) (a : vp_A) : vp_A := match a with
  | (n, .inl f) => (n, .inl f)
  | (n, .inr (.inl f)) => (n, .inr (.inl f))
  | (n, .inr (.inr (.inl f))) => (n, .inr (.inr (.inl f)))
  | (n, .inr (.inr (.inr (.inl f)))) => (n, .inr (.inr (.inr (.inl f))))
  | (n, .inr (.inr (.inr (.inr f)))) => (n, .inr (.inr (.inr (.inr (so b f)))))
def toE (b : Nat) (cA : Nat → ClassId) (x : AC) : va_E := match x with
  | .inl y => .inl (cA y.1, sa b y.2)
  | .inr o => .inr (o.1, o.2.map (sv b))
def wO (b : Nat) (cA : Nat → ClassId) (n : Nat) (h : AH) : va_W := (List.range n).map (fun k => (b + k, toE b cA (h k)))
theorem wO_len (b : Nat) (cA : Nat → ClassId) (n : Nat) (h : AH) : (wO b cA n h).length = n := by simp [wO]
theorem wO_get {b : Nat} {cA : Nat → ClassId} {n : Nat} {h : AH} {k : Nat} (hk : k < n) : (wO b cA n h)[k]? = some (b + k, toE b cA (h k)) := by
  simp [wO, hk]
theorem wO_inv {b : Nat} {cA : Nat → ClassId} {n : Nat} {h : AH} {k : Nat} {q : Nat × va_E} (hq : (wO b cA n h)[k]? = some q) : k < n ∧ q = (b + k, toE b cA (h k)) := by
  have hk : k < n := by
    have := (List.getElem?_eq_some_iff.mp hq).1
    rwa [wO_len] at this
  rw [wO_get hk] at hq
  exact ⟨hk, (Option.some.inj hq).symm⟩
theorem wO_set {b : Nat} {cA : Nat → ClassId} {n : Nat} {h : AH} {k : Nat} (hk : k < n) (x : AC) : (wO b cA n h).set k (b + k, toE b cA x) = wO b cA n (hu h k x) := by
  apply List.ext_getElem?
  intro j
  by_cases hj : j < n
  · rw [wO_get hj]
    by_cases e : k = j
    · subst e
      rw [List.getElem?_set_self (by rw [wO_len]; exact hk), hu_s]
    · rw [List.getElem?_set_ne e, wO_get hj, hu_n (fun q => e q.symm)]
  · rw [List.getElem?_eq_none (by rw [List.length_set, wO_len]; omega), List.getElem?_eq_none (by rw [wO_len]; omega)]
theorem wO_push {b : Nat} {cA : Nat → ClassId} {n : Nat} {h : AH} (x : AC) : wO b cA n h ++ [(b + n, toE b cA x)] = wO b cA (n + 1) (hu h n x) := by
  apply List.ext_getElem?
  intro j
  by_cases hj : j < n
  · rw [List.getElem?_append_left (by rw [wO_len]; exact hj), wO_get hj, wO_get (by omega), hu_n (by omega)]
  · by_cases e : j = n
    · subst e
      rw [List.getElem?_append_right (by rw [wO_len]; exact Nat.le_refl _), wO_len, Nat.sub_self, wO_get (by omega), hu_s]
      rfl
    · rw [List.getElem?_eq_none (by simp [wO_len]; omega), List.getElem?_eq_none (by rw [wO_len]; omega)]
theorem wO_D (b : Nat) (cA : Nat → ClassId) (n : Nat) (h : AH) : va_D (fun q => b ≤ q) (wO b cA n h) := by
  refine ⟨fun i j x y hi hj he => ?_, fun k q hq => ?_⟩
  · obtain ⟨-, rfl⟩ := wO_inv hi
    obtain ⟨-, rfl⟩ := wO_inv hj
    have : b + i = b + j := he
    omega
  · obtain ⟨-, rfl⟩ := wO_inv hq
    exact Nat.le_add_right _ _
theorem sv_cat (b : Nat) (v : Value) : (sv b v).category = v.category := by cases v <;> rfl
theorem sv_args (b : Nat) : ∀ (i : Nat) (vs : List Value), lv_args i (vs.map (sv b)) = (lv_args i vs).map (fun q => (q.1, sv b q.2))
  | _, [] => rfl
  | i, v :: vs => by
    show (i, sv b v) :: lv_args (if (sv b v).category = 2 then i + 2 else i + 1) (vs.map (sv b)) = (i, sv b v) :: (lv_args (if v.category = 2 then i + 2 else i + 1) vs).map (fun q => (q.1, sv b q.2))
    rw [sv_cat, sv_args b _ vs]
theorem lk_mem {L : List (Nat × Value)} {i : Nat} {v : Value} (h : List.lookup i L = some v) : (i, v) ∈ L := by
  induction L with
  | nil => cases h
  | cons q L ih =>
    obtain ⟨j, w⟩ := q
    by_cases e : i = j
    · subst e
      simp at h
      subst h
      exact List.mem_cons_self
    · rw [List.lookup_cons] at h
      have : (i == j) = false := by simpa using e
      rw [this] at h
      exact List.mem_cons_of_mem _ (ih h)
def sL (b : Nat) (L : List (Nat × Value)) : List (Nat × Value) := L.map (fun q => (q.1, sv b q.2))
theorem sL_at {b nL : Nat} {ls : Array Slot} {L : List (Nat × Value)} (hl : lv_has ls nL (sL b L)) {i : Nat} {v : Value} (h : List.lookup i L = some v) : ls[i]? = some (.val (sv b v)) :=
  hl.2.2 (i, sv b v) (List.mem_map.mpr ⟨(i, v), lk_mem h, rfl⟩)
/-- the locals behind a store -/
def sT (L : List (Nat × Value)) (i : Nat) (v : Value) : List (Nat × Value) := (i, v) :: L.filter (fun q => !(q.1 == i) && !(q.1 + 1 == i && q.2.category == 2))
def sT2 (L : List (Nat × Value)) (i : Nat) (v : Value) : List (Nat × Value) := (i, v) :: L.filter (fun q => !(q.1 == i) && (!(q.1 == i + 1) && !(q.1 + 1 == i && q.2.category == 2)))
theorem sL_sT (b : Nat) (L : List (Nat × Value)) (i : Nat) (v : Value) : (i, sv b v) :: (sL b L).filter (fun q => !(q.1 == i) && !(q.1 + 1 == i && q.2.category == 2)) = sL b (sT L i v) := by
  unfold sL sT
  rw [List.map_cons, List.filter_map]
  congr 2
  apply List.filter_congr
  intro q _
  simp [sv_cat]
theorem sL_sT2 (b : Nat) (L : List (Nat × Value)) (i : Nat) (v : Value) : (i, sv b v) :: (sL b L).filter (fun q => !(q.1 == i) && (!(q.1 == i + 1) && !(q.1 + 1 == i && q.2.category == 2))) = sL b (sT2 L i v) := by
  unfold sL sT2
  rw [List.map_cons, List.filter_map]
  congr 2
  apply List.filter_congr
  intro q _
  simp [sv_cat]
/-! ===== what holds at the entry of every method; the judgement J; contracts ===== -/
/-- exceptions that are none of another's class -/
def g_nc : List (String × String) := [("java/lang/IllegalArgumentException", "java/lang/IndexOutOfBoundsException"), ("java/lang/IllegalArgumentException", "java/lang/IllegalStateException"), ("java/lang/IllegalArgumentException", "java/lang/UnsupportedOperationException"), ("java/lang/IndexOutOfBoundsException", "java/lang/IllegalArgumentException"), ("java/lang/IndexOutOfBoundsException", "java/lang/IllegalStateException"), ("java/lang/IndexOutOfBoundsException", "java/lang/UnsupportedOperationException"), ("java/lang/IllegalStateException", "java/lang/IllegalArgumentException"), ("java/lang/IllegalStateException", "java/lang/IndexOutOfBoundsException"), ("java/lang/IllegalStateException", "java/lang/UnsupportedOperationException"), ("java/lang/UnsupportedOperationException", "java/lang/IllegalArgumentException"), ("java/lang/UnsupportedOperationException", "java/lang/IndexOutOfBoundsException"), ("java/lang/UnsupportedOperationException", "java/lang/IllegalStateException")]
/-- the texts of the exceptions -/
def g_str : List (String × Nat × String) := [("ReportChecks2", 264, "no such kind"), ("ReportChecks2", 81, "the incident is not 0 .. 9,999"), ("ReportChecks2", 277, "there are 30 reports"), ("ReportChecks2", 266, "no such field"), ("ReportChecks2", 262, "no such report"), ("ReportChecks2", 109, "the value is not -99,999 .. 99,999"), ("ReportChecks2", 117, "the field can't be told"), ("ReportChecks2", 126, "no such kind of acts"), ("ReportChecks2", 129, "the minute is to come, or below 0"), ("ReportChecks2", 270, "the report has a signature"), ("ReportChecks2", 139, "the persons inside are not 0 .. 99"), ("ReportChecks2", 144, "the bytes are not 1 .. 8"), ("ReportChecks2", 148, "there would be more than 300 bytes"), ("ReportChecks2", 155, "the text is wrong"), ("ReportChecks2", 165, "the latest check told no such thing"), ("ReportChecks2", 173, "no such what"), ("ReportChecks2", 268, "no such person"), ("ReportChecks2", 181, "the report can't be signed by that person"), ("ReportChecks2", 275, "the report is not closed"), ("ReportChecks2", 207, "the field is open"), ("ReportChecks2", 216, "the byte's number is below 0"), ("ReportChecks2", 221, "the minutes, or the number is below 0"), ("ReportChecks2", 226, "low is above high"), ("ReportChecks2", 255, "the field is empty"), ("ReportChecks2", 260, "the minutes are not 1 .. 5,000, or go beyond 99,999")]
/-- the words, the classes, the texts, the statics that a Throwable's constructor reads -/
def Gl (D : va_G) (cA : Nat → ClassId) (b : Nat) (U : State) : Prop :=
  (∀ w ∈ g_ws, w.before #[] U = true) ∧ va_K D g_cl (g_ty cA) U ∧ b ≤ U.heap.size ∧ (∀ q ∈ g_nc, va_Nc q.1 q.2 U) ∧ (∀ q ∈ g_str, ∃ a, vk_R q.1 q.2.1 q.2.2 a U) ∧
  vx_Zq Bundle.tN "UNASSIGNED_STACK" Bundle.steD (fun q => b ≤ q) U U.heap ∧ vx_Zq Bundle.tN "SUPPRESSED_SENTINEL" Bundle.listD (fun q => b ≤ q) U U.heap
theorem Gl.to {D : va_G} {cA : Nat → ClassId} {b : Nat} {s U : State} (h : Gl D cA b s) (hW : s.WarmedH U.vm) (hz : b ≤ U.heap.size) (hk : ∀ q : Nat, q < b → U.heap[q]? = s.heap[q]?) : Gl D cA b U := by
  obtain ⟨h1, h2, h3, h4, h5, h6, h7⟩ := h
  refine ⟨fun w hw => g_warm (g_okw hw) hW (h1 w hw), va_K.moved hW.alike h2, hz, fun q hq => va_Nc.moved hW.alike (h4 q hq), fun q hq => ?_, ?_, ?_⟩
  · obtain ⟨a, ha⟩ := h5 q hq
    exact ⟨a, vk_R.warm hW ha⟩
  · exact vx_Zq.moved hW.alike (h6.kept (fun a _ ha => hk a (Nat.not_le.mp ha)))
  · exact vx_Zq.moved hW.alike (h7.kept (fun a _ ha => hk a (Nat.not_le.mp ha)))
/-- the heap holds the abstract one -/
def Hp (D : va_G) (cA : Nat → ClassId) (b n : Nat) (h : AH) (H : Heap) : Prop := H.size = b + n ∧ va_P D g_cl (wO b cA n h) H
/-- an answer: returned, or thrown (the number of the exception's class) -/
abbrev Rz : Type := Option Value ⊕ Nat
def Ou (b n : Nat) (h : AH) (r : Rz) (o : Outcome) : Prop := match r with
  | .inl v => o = .returned (v.map (sv b))
  | .inr ci => ∃ k, k < n ∧ o = .threw (b + k) ∧ h k = .inr (ci, [])
def EndO (D : va_G) (cA : Nat → ClassId) (b : Nat) (s : State) (o : Outcome) (t : State) (Qa : Rz → Nat → AH → Prop) (mc ms : Nat) : Prop :=
  s.WarmedH t.vm ∧ (∃ L : List Loc, s.sameButNew ({ t with vm := s.vm } : State) L mc ms ∧ ∀ q ∈ L, b ≤ q.base) ∧ (∀ q : Nat, q < b → t.heap[q]? = s.heap[q]?) ∧ ∃ (n : Nat) (h : AH) (r : Rz), Hp D cA b n h t.heap ∧ Ou b n h r o ∧ Qa r n h
def EndQ (D : va_G) (cA : Nat → ClassId) (b : Nat) (s : State) (below : List Frame) (Qa : Rz → Nat → AH → Prop) (mc ms : Nat) : State → Prop := fun t =>
  ∃ o, t.status = .running ∧ Ended t below o ∧ EndO D cA b s o t Qa mc ms
/-- a contract: called with the values vs on the abstract heap n, h the method ends so that Qa; it makes at most mc cells of ms slots, it nests fr frames of lo words -/
def Cn (l : Launch) (D : va_G) (cA : Nat → ClassId) (b : Nat) (y : MethodName) (cd : Cond) (fr lo mc ms : Nat) (vs : List Value) (n : Nat) (h : AH) (Qa : Rz → Nat → AH → Prop) : Prop :=
  MetFree l y (headSpec [cd] { frames := fr, cells := mc, slots := ms, locals := lo }) (fun a U => a = (vs.map (sv b)).toArray ∧ Gl D cA b U ∧ Hp D cA b n h U.heap) (fun _ _ _ _ _ => True) (fun _ st o t => EndO D cA b st o t Qa mc ms)
/-- what stays the same all over a method's body -/
def Cx (p : Program) (l : Launch) (s : State) (m : MethodId) (meth : Method) (c : Code) (D : va_G) (cA : Nat → ClassId) (b nL : Nat) (own : String) (mn : String) (cc : ByteArray) (ret : Option FieldType) (hh : List (Nat × Nat × Nat × Nat)) : Prop :=
  p.tables.exec = Jvm.exec ∧ c.code = cc ∧ c.maxLocals = nL ∧ s.vm.findClass own = some m.cls ∧ Gl D cA b s ∧ meth.locks = false ∧ meth.sig.returnType = ret ∧ c.exceptionTable.toList = tableOf hh ∧ l.stackTraces = false ∧ meth.name = mn
def J (p : Program) (l : Launch) (e : Env) (R : Room) (s : State) (m : MethodId) (args : Array Value) (below : List Frame) (meth : Method) (c : Code) (D : va_G) (cA : Nat → ClassId) (b nL : Nat) (Q : State → Prop) (n : Nat) (h : AH) (kc ks pc : Nat) (L : List (Nat × Value)) (st : List Value) : Prop :=
  ∀ (H : Heap) (locs : List Loc) (ls : Array Slot), Hp D cA b n h H → va_S (fun q => b ≤ q) s.heap H locs → lv_has ls nL (sL b L) → W p l e R s m args below meth c H locs kc ks Q (F0 m pc ls (st.map (sv b)))
theorem sv_len (b : Nat) (vs : List Value) : (lg_sl (vs.map (sv b))).length = (lg_sl vs).length := by
  induction vs with
  | nil => rfl
  | cons v vs ih =>
    have h1 : lg_sl (v :: vs) = lg_sl [v] ++ lg_sl vs := by simp [lg_sl]
    have h2 : lg_sl ((v :: vs).map (sv b)) = lg_sl [sv b v] ++ lg_sl (vs.map (sv b)) := by simp [lg_sl]
    rw [h1, h2, List.length_append, List.length_append, ih]
    cases v <;> rfl
/-- a contract out of the body's walk -/
theorem Cn.of {l : Launch} {D : va_G} {cA : Nat → ClassId} {b : Nat} {y : MethodName} {cd : Cond} {fr lo mc ms : Nat} {vs : List Value} {n : Nat} {h : AH} {Qa : Rz → Nat → AH → Prop} {cc : ByteArray} {maxL : Nat} {ret : Option FieldType} {hh : List (Nat × Nat × Nat × Nat)}
    (hy : plainName y.cls = true) (hl : l.stackTraces = false) (hcd : (cd = Cond.code y cc maxL ret ∧ hh = []) ∨ cd = Cond.codeWith y cc maxL ret hh) (hn : (lg_sl vs).length ≤ maxL)
    (body : ∀ (p : Program) (e : Env) (s : State) (m : MethodId) (args : Array Value) (below : List Frame) (meth : Method) (c : Code), Cx p l s m meth c D cA b maxL y.cls y.name cc ret hh →
      J p l e { frames := fr, cells := mc, slots := ms, locals := lo } s m args below meth c D cA b maxL (EndQ D cA b s below Qa mc ms) n h 0 0 0 (lv_args 0 vs) []) : Cn l D cA b y cd fr lo mc ms vs n h Qa := by
  have hspec : ∀ (args : Array Value) (s : State) (m : MethodId), cd.before args s = true → s.methodNamed? y = some m → ∃ meth c, s.vm.method? m = some meth ∧ meth.code = some c ∧ c.code = cc ∧ c.maxLocals = maxL ∧ meth.sig.returnType = ret ∧ meth.locks = false ∧ c.exceptionTable.toList = tableOf hh := by
    intro args s m hb hm
    rcases hcd with ⟨rfl, rfl⟩ | rfl
    · obtain ⟨meth, c, h1, h2, h3, h4, h5, h6, h7, -⟩ := Cond.code_spec hm hb
      exact ⟨meth, c, h1, h2, h3, h4, h5, h6, by rw [Array.isEmpty_iff.mp h7]; rfl⟩
    · obtain ⟨m9, meth, c, hn9, h1, h2, h3, h4, h6, h5, h7, -⟩ := Cond.codeWith_spec hb
      cases hm.symm.trans hn9
      exact ⟨meth, c, h1, h2, h3, h4, h5, h7, by rw [← h6, table_eq]⟩
  refine MetFree.of_bodyS (code := cc) (maxLocals := maxL) (ret := ret) hy ?_ ?_
  · intro args s m hp hm
    obtain ⟨meth, c, h1, h2, h3, h4, h5, h6, -⟩ := hspec args s m (atoms_spec (ws := [cd]) hp cd List.mem_cons_self) hm
    exact ⟨meth, c, h1, h2, h3, h4, h5, h6⟩
  · intro p e s m args below meth c s₁ B hml hP _
    obtain ⟨rfl, hG, hH⟩ := hP
    have hh0 : s₁.heap = s.heap := by rw [B.state]; rfl
    obtain ⟨meth9, c9, g1, g2, -, -, -, -, g7⟩ := hspec _ s m (atoms_spec (ws := [cd]) B.pre cd List.mem_cons_self) B.named
    cases Option.some.inj (g1.symm.trans B.method)
    cases Option.some.inj (g2.symm.trans (Stand.of_body B).code)
    have hown : s.vm.findClass y.cls = some m.cls := findClass_of_methodNamed B.named
    have K := body p e s m (vs.map (sv b)).toArray below meth c ⟨B.exec, B.bytes, hml, hown, hG, B.notSynchronized, B.returns, g7, hl, (name_of_methodNamed B.named B.method).1⟩
    have hl0 := lv_entry (vs.map (sv b)) (n := maxL) (by rw [sv_len]; exact hn)
    rw [sv_args] at hl0
    have K2 := K s.heap [] _ hH va_S.rf hl0
    have K3 : W p l e { frames := fr, cells := mc, slots := ms, locals := lo } s m (vs.map (sv b)).toArray below meth c s.heap [] 0 0 (EndQ D cA b s below Qa mc ms) (entryFrame m (vs.map (sv b)).toArray maxL) := by
      rw [lg_entry_eq]
      exact K2
    obtain ⟨t, a1, o, b1, b2, b3⟩ := K3 s₁ hh0 (Stand.of_body B)
    exact ⟨t, o, a1, b1, b2, b3⟩
section JR
variable {p : Program} {l : Launch} {e : Env} {R : Room} {s : State} {m : MethodId} {args : Array Value} {below : List Frame} {meth : Method} {c : Code} {D : va_G} {cA : Nat → ClassId} {b nL : Nat} {Q : State → Prop} {n : Nat} {h : AH} {kc ks pc : Nat} {L : List (Nat × Value)} {st : List Value} {own mn : String} {cc : ByteArray} {ret : Option FieldType} {hh : List (Nat × Nat × Nat × Nat)}
theorem j_iconst (C : Cx p l s m meth c D cA b nL own mn cc ret hh) {z : Int} {v : Int32} (hd : decode cc pc = .ok (.iconst z, 1)) (hv : Int32.ofInt z = v) (k : J p l e R s m args below meth c D cA b nL Q n h kc ks (pc + 1) L (.int v :: st)) : J p l e R s m args below meth c D cA b nL Q n h kc ks pc L st :=
  fun H locs ls hp hS hl => lv_iconst C.1 C.2.1 hd hv (k H locs ls hp hS hl)
theorem j_bipush (C : Cx p l s m meth c D cA b nL own mn cc ret hh) {z : Int} {v : Int32} (hd : decode cc pc = .ok (.bipush z, 2)) (hv : (Int8.ofInt z).toInt32 = v) (k : J p l e R s m args below meth c D cA b nL Q n h kc ks (pc + 2) L (.int v :: st)) : J p l e R s m args below meth c D cA b nL Q n h kc ks pc L st :=
  fun H locs ls hp hS hl => lv_bipush C.1 C.2.1 hd hv (k H locs ls hp hS hl)
theorem j_sipush (C : Cx p l s m meth c D cA b nL own mn cc ret hh) {z : Int} {v : Int32} (hd : decode cc pc = .ok (.sipush z, 3)) (hv : (Int16.ofInt z).toInt32 = v) (k : J p l e R s m args below meth c D cA b nL Q n h kc ks (pc + 3) L (.int v :: st)) : J p l e R s m args below meth c D cA b nL Q n h kc ks pc L st :=
  fun H locs ls hp hS hl => lv_sipush C.1 C.2.1 hd hv (k H locs ls hp hS hl)
theorem j_lconst (C : Cx p l s m meth c D cA b nL own mn cc ret hh) {z : Fin 2} {v : Int64} (hd : decode cc pc = .ok (.lconst z, 1)) (hv : Int64.ofNat (z : Nat) = v) (k : J p l e R s m args below meth c D cA b nL Q n h kc ks (pc + 1) L (.long v :: st)) : J p l e R s m args below meth c D cA b nL Q n h kc ks pc L st :=
  fun H locs ls hp hS hl => lv_lconst C.1 C.2.1 hd hv (k H locs ls hp hS hl)
theorem j_null (C : Cx p l s m meth c D cA b nL own mn cc ret hh)  (hd : decode cc pc = .ok (.aconst_null, 1))  (k : J p l e R s m args below meth c D cA b nL Q n h kc ks (pc + 1) L (.null :: st)) : J p l e R s m args below meth c D cA b nL Q n h kc ks pc L st :=
  fun H locs ls hp hS hl => lv_null C.1 C.2.1 hd (k H locs ls hp hS hl)
theorem j_iload_n (C : Cx p l s m meth c D cA b nL own mn cc ret hh) {i : Fin 4} {j : Nat} {x : Int32} (hd : decode cc pc = .ok (.iload_n i, 1)) (hi : (i : Nat) = j) (hx : List.lookup j L = some (.int x)) (k : J p l e R s m args below meth c D cA b nL Q n h kc ks (pc + 1) L (.int x :: st)) : J p l e R s m args below meth c D cA b nL Q n h kc ks pc L st :=
  fun H locs ls hp hS hl => lv_iload_n C.1 C.2.1 hd hi (sL_at hl hx) (k H locs ls hp hS hl)
theorem j_iload (C : Cx p l s m meth c D cA b nL own mn cc ret hh) {i : Nat} {x : Int32} (hd : decode cc pc = .ok (.iload i, 2)) (hx : List.lookup i L = some (.int x)) (k : J p l e R s m args below meth c D cA b nL Q n h kc ks (pc + 2) L (.int x :: st)) : J p l e R s m args below meth c D cA b nL Q n h kc ks pc L st :=
  fun H locs ls hp hS hl => lv_iload C.1 C.2.1 hd (sL_at hl hx) (k H locs ls hp hS hl)
theorem j_lload_n (C : Cx p l s m meth c D cA b nL own mn cc ret hh) {i : Fin 4} {j : Nat} {x : Int64} (hd : decode cc pc = .ok (.lload_n i, 1)) (hi : (i : Nat) = j) (hx : List.lookup j L = some (.long x)) (k : J p l e R s m args below meth c D cA b nL Q n h kc ks (pc + 1) L (.long x :: st)) : J p l e R s m args below meth c D cA b nL Q n h kc ks pc L st :=
  fun H locs ls hp hS hl => lv_lload_n C.1 C.2.1 hd hi (sL_at hl hx) (k H locs ls hp hS hl)
theorem j_lload (C : Cx p l s m meth c D cA b nL own mn cc ret hh) {i : Nat} {x : Int64} (hd : decode cc pc = .ok (.lload i, 2)) (hx : List.lookup i L = some (.long x)) (k : J p l e R s m args below meth c D cA b nL Q n h kc ks (pc + 2) L (.long x :: st)) : J p l e R s m args below meth c D cA b nL Q n h kc ks pc L st :=
  fun H locs ls hp hS hl => lv_lload C.1 C.2.1 hd (sL_at hl hx) (k H locs ls hp hS hl)
theorem j_aload_n (C : Cx p l s m meth c D cA b nL own mn cc ret hh) {i : Fin 4} {j : Nat} {x : Nat} (hd : decode cc pc = .ok (.aload_n i, 1)) (hi : (i : Nat) = j) (hx : List.lookup j L = some (.ref x)) (k : J p l e R s m args below meth c D cA b nL Q n h kc ks (pc + 1) L (.ref x :: st)) : J p l e R s m args below meth c D cA b nL Q n h kc ks pc L st :=
  fun H locs ls hp hS hl => lv_aload_n C.1 C.2.1 hd hi (sL_at hl hx) (k H locs ls hp hS hl)
theorem j_aload (C : Cx p l s m meth c D cA b nL own mn cc ret hh) {i : Nat} {x : Nat} (hd : decode cc pc = .ok (.aload i, 2)) (hx : List.lookup i L = some (.ref x)) (k : J p l e R s m args below meth c D cA b nL Q n h kc ks (pc + 2) L (.ref x :: st)) : J p l e R s m args below meth c D cA b nL Q n h kc ks pc L st :=
  fun H locs ls hp hS hl => lv_aload C.1 C.2.1 hd (sL_at hl hx) (k H locs ls hp hS hl)
theorem j_istore_n (C : Cx p l s m meth c D cA b nL own mn cc ret hh) {i : Fin 4} {j : Nat} {x : Int32} {L' : List (Nat × Value)} (hd : decode cc pc = .ok (.istore_n i, 1)) (hi : (i : Nat) = j) (hn : j < nL) (hL : sT L j (.int x) = L') (k : J p l e R s m args below meth c D cA b nL Q n h kc ks (pc + 1) L' st) : J p l e R s m args below meth c D cA b nL Q n h kc ks pc L (.int x :: st) := by
  intro H locs ls hp hS hl
  subst hL
  exact lv_istore_n C.1 C.2.1 hd hi hl hn (sL_sT b L j (.int x)) (fun ls hl => k H locs ls hp hS hl)
theorem j_istore (C : Cx p l s m meth c D cA b nL own mn cc ret hh) {i : Nat} {x : Int32} {L' : List (Nat × Value)} (hd : decode cc pc = .ok (.istore i, 2)) (hn : i < nL) (hL : sT L i (.int x) = L') (k : J p l e R s m args below meth c D cA b nL Q n h kc ks (pc + 2) L' st) : J p l e R s m args below meth c D cA b nL Q n h kc ks pc L (.int x :: st) := by
  intro H locs ls hp hS hl
  subst hL
  exact lv_istore C.1 C.2.1 hd hl hn (sL_sT b L i (.int x)) (fun ls hl => k H locs ls hp hS hl)
theorem j_astore_n (C : Cx p l s m meth c D cA b nL own mn cc ret hh) {i : Fin 4} {j : Nat} {x : Nat} {L' : List (Nat × Value)} (hd : decode cc pc = .ok (.astore_n i, 1)) (hi : (i : Nat) = j) (hn : j < nL) (hL : sT L j (.ref x) = L') (k : J p l e R s m args below meth c D cA b nL Q n h kc ks (pc + 1) L' st) : J p l e R s m args below meth c D cA b nL Q n h kc ks pc L (.ref x :: st) := by
  intro H locs ls hp hS hl
  subst hL
  exact lv_astore_n C.1 C.2.1 hd hi hl hn (sL_sT b L j (.ref x)) (fun ls hl => k H locs ls hp hS hl)
theorem j_astore (C : Cx p l s m meth c D cA b nL own mn cc ret hh) {i : Nat} {x : Nat} {L' : List (Nat × Value)} (hd : decode cc pc = .ok (.astore i, 2)) (hn : i < nL) (hL : sT L i (.ref x) = L') (k : J p l e R s m args below meth c D cA b nL Q n h kc ks (pc + 2) L' st) : J p l e R s m args below meth c D cA b nL Q n h kc ks pc L (.ref x :: st) := by
  intro H locs ls hp hS hl
  subst hL
  exact lv_astore C.1 C.2.1 hd hl hn (sL_sT b L i (.ref x)) (fun ls hl => k H locs ls hp hS hl)
theorem j_lstore_n (C : Cx p l s m meth c D cA b nL own mn cc ret hh) {i : Fin 4} {j : Nat} {x : Int64} {L' : List (Nat × Value)} (hd : decode cc pc = .ok (.lstore_n i, 1)) (hi : (i : Nat) = j) (hn : j + 1 < nL) (hL : sT2 L j (.long x) = L') (k : J p l e R s m args below meth c D cA b nL Q n h kc ks (pc + 1) L' st) : J p l e R s m args below meth c D cA b nL Q n h kc ks pc L (.long x :: st) := by
  intro H locs ls hp hS hl
  subst hL
  exact lv_lstore_n C.1 C.2.1 hd hi hl hn (sL_sT2 b L j (.long x)) (fun ls hl => k H locs ls hp hS hl)
theorem j_lstore (C : Cx p l s m meth c D cA b nL own mn cc ret hh) {i : Nat} {x : Int64} {L' : List (Nat × Value)} (hd : decode cc pc = .ok (.lstore i, 2)) (hn : i + 1 < nL) (hL : sT2 L i (.long x) = L') (k : J p l e R s m args below meth c D cA b nL Q n h kc ks (pc + 2) L' st) : J p l e R s m args below meth c D cA b nL Q n h kc ks pc L (.long x :: st) := by
  intro H locs ls hp hS hl
  subst hL
  exact lv_lstore C.1 C.2.1 hd hl hn (sL_sT2 b L i (.long x)) (fun ls hl => k H locs ls hp hS hl)
theorem j_iinc (C : Cx p l s m meth c D cA b nL own mn cc ret hh) {i : Nat} {z : Int} {x v : Int32} {L' : List (Nat × Value)} (hd : decode cc pc = .ok (.iinc i z, 3)) (hx : List.lookup i L = some (.int x)) (hv : x + Int32.ofInt z = v) (hn : i < nL) (hL : sT L i (.int v) = L') (k : J p l e R s m args below meth c D cA b nL Q n h kc ks (pc + 3) L' st) : J p l e R s m args below meth c D cA b nL Q n h kc ks pc L st := by
  intro H locs ls hp hS hl
  subst hL
  obtain ⟨q, hq⟩ := List.getElem?_of_mem (show (i, Value.int x) ∈ sL b L from List.mem_map.mpr ⟨(i, .int x), lk_mem hx, rfl⟩)
  exact lv_iinc C.1 C.2.1 hd hl hq hv hn (sL_sT b L i (.int v)) (fun ls hl => k H locs ls hp hS hl)
theorem j_iadd (C : Cx p l s m meth c D cA b nL own mn cc ret hh) {x y : Int32} (hd : decode cc pc = .ok (.iadd, 1))  (k : J p l e R s m args below meth c D cA b nL Q n h kc ks (pc + 1) L (.int (x + y) :: st)) : J p l e R s m args below meth c D cA b nL Q n h kc ks pc L (.int y :: .int x :: st) :=
  fun H locs ls hp hS hl => lv_iadd C.1 C.2.1 hd (k H locs ls hp hS hl)
theorem j_isub (C : Cx p l s m meth c D cA b nL own mn cc ret hh) {x y : Int32} (hd : decode cc pc = .ok (.isub, 1))  (k : J p l e R s m args below meth c D cA b nL Q n h kc ks (pc + 1) L (.int (x - y) :: st)) : J p l e R s m args below meth c D cA b nL Q n h kc ks pc L (.int y :: .int x :: st) :=
  fun H locs ls hp hS hl => lv_isub C.1 C.2.1 hd (k H locs ls hp hS hl)
theorem j_imul (C : Cx p l s m meth c D cA b nL own mn cc ret hh) {x y : Int32} (hd : decode cc pc = .ok (.imul, 1))  (k : J p l e R s m args below meth c D cA b nL Q n h kc ks (pc + 1) L (.int (x * y) :: st)) : J p l e R s m args below meth c D cA b nL Q n h kc ks pc L (.int y :: .int x :: st) :=
  fun H locs ls hp hS hl => lv_imul C.1 C.2.1 hd (k H locs ls hp hS hl)
theorem j_iand (C : Cx p l s m meth c D cA b nL own mn cc ret hh) {x y : Int32} (hd : decode cc pc = .ok (.iand, 1))  (k : J p l e R s m args below meth c D cA b nL Q n h kc ks (pc + 1) L (.int (x &&& y) :: st)) : J p l e R s m args below meth c D cA b nL Q n h kc ks pc L (.int y :: .int x :: st) :=
  fun H locs ls hp hS hl => lv_iand C.1 C.2.1 hd (k H locs ls hp hS hl)
theorem j_ior (C : Cx p l s m meth c D cA b nL own mn cc ret hh) {x y : Int32} (hd : decode cc pc = .ok (.ior, 1))  (k : J p l e R s m args below meth c D cA b nL Q n h kc ks (pc + 1) L (.int (x ||| y) :: st)) : J p l e R s m args below meth c D cA b nL Q n h kc ks pc L (.int y :: .int x :: st) :=
  fun H locs ls hp hS hl => lv_ior C.1 C.2.1 hd (k H locs ls hp hS hl)
theorem j_ixor (C : Cx p l s m meth c D cA b nL own mn cc ret hh) {x y : Int32} (hd : decode cc pc = .ok (.ixor, 1))  (k : J p l e R s m args below meth c D cA b nL Q n h kc ks (pc + 1) L (.int (x ^^^ y) :: st)) : J p l e R s m args below meth c D cA b nL Q n h kc ks pc L (.int y :: .int x :: st) :=
  fun H locs ls hp hS hl => lv_ixor C.1 C.2.1 hd (k H locs ls hp hS hl)
theorem j_ladd (C : Cx p l s m meth c D cA b nL own mn cc ret hh) {x y : Int64} (hd : decode cc pc = .ok (.ladd, 1))  (k : J p l e R s m args below meth c D cA b nL Q n h kc ks (pc + 1) L (.long (x + y) :: st)) : J p l e R s m args below meth c D cA b nL Q n h kc ks pc L (.long y :: .long x :: st) :=
  fun H locs ls hp hS hl => lv_ladd C.1 C.2.1 hd (k H locs ls hp hS hl)
theorem j_lsub (C : Cx p l s m meth c D cA b nL own mn cc ret hh) {x y : Int64} (hd : decode cc pc = .ok (.lsub, 1))  (k : J p l e R s m args below meth c D cA b nL Q n h kc ks (pc + 1) L (.long (x - y) :: st)) : J p l e R s m args below meth c D cA b nL Q n h kc ks pc L (.long y :: .long x :: st) :=
  fun H locs ls hp hS hl => lv_lsub C.1 C.2.1 hd (k H locs ls hp hS hl)
theorem j_lmul (C : Cx p l s m meth c D cA b nL own mn cc ret hh) {x y : Int64} (hd : decode cc pc = .ok (.lmul, 1))  (k : J p l e R s m args below meth c D cA b nL Q n h kc ks (pc + 1) L (.long (x * y) :: st)) : J p l e R s m args below meth c D cA b nL Q n h kc ks pc L (.long y :: .long x :: st) :=
  fun H locs ls hp hS hl => lv_lmul C.1 C.2.1 hd (k H locs ls hp hS hl)
theorem j_land (C : Cx p l s m meth c D cA b nL own mn cc ret hh) {x y : Int64} (hd : decode cc pc = .ok (.land, 1))  (k : J p l e R s m args below meth c D cA b nL Q n h kc ks (pc + 1) L (.long (x &&& y) :: st)) : J p l e R s m args below meth c D cA b nL Q n h kc ks pc L (.long y :: .long x :: st) :=
  fun H locs ls hp hS hl => lv_land C.1 C.2.1 hd (k H locs ls hp hS hl)
theorem j_lor (C : Cx p l s m meth c D cA b nL own mn cc ret hh) {x y : Int64} (hd : decode cc pc = .ok (.lor, 1))  (k : J p l e R s m args below meth c D cA b nL Q n h kc ks (pc + 1) L (.long (x ||| y) :: st)) : J p l e R s m args below meth c D cA b nL Q n h kc ks pc L (.long y :: .long x :: st) :=
  fun H locs ls hp hS hl => lv_lor C.1 C.2.1 hd (k H locs ls hp hS hl)
theorem j_lxor (C : Cx p l s m meth c D cA b nL own mn cc ret hh) {x y : Int64} (hd : decode cc pc = .ok (.lxor, 1))  (k : J p l e R s m args below meth c D cA b nL Q n h kc ks (pc + 1) L (.long (x ^^^ y) :: st)) : J p l e R s m args below meth c D cA b nL Q n h kc ks pc L (.long y :: .long x :: st) :=
  fun H locs ls hp hS hl => lv_lxor C.1 C.2.1 hd (k H locs ls hp hS hl)
theorem j_idiv (C : Cx p l s m meth c D cA b nL own mn cc ret hh) {x y : Int32} (hd : decode cc pc = .ok (.idiv, 1)) (hne : ¬ y = 0) (k : J p l e R s m args below meth c D cA b nL Q n h kc ks (pc + 1) L (.int (x / y) :: st)) : J p l e R s m args below meth c D cA b nL Q n h kc ks pc L (.int y :: .int x :: st) :=
  fun H locs ls hp hS hl => lv_idiv C.1 C.2.1 hd hne (k H locs ls hp hS hl)
theorem j_irem (C : Cx p l s m meth c D cA b nL own mn cc ret hh) {x y : Int32} (hd : decode cc pc = .ok (.irem, 1)) (hne : ¬ y = 0) (k : J p l e R s m args below meth c D cA b nL Q n h kc ks (pc + 1) L (.int (x - x / y * y) :: st)) : J p l e R s m args below meth c D cA b nL Q n h kc ks pc L (.int y :: .int x :: st) :=
  fun H locs ls hp hS hl => lv_irem C.1 C.2.1 hd hne (k H locs ls hp hS hl)
theorem j_ineg (C : Cx p l s m meth c D cA b nL own mn cc ret hh) {x : Int32} (hd : decode cc pc = .ok (.ineg, 1))  (k : J p l e R s m args below meth c D cA b nL Q n h kc ks (pc + 1) L (.int (-x) :: st)) : J p l e R s m args below meth c D cA b nL Q n h kc ks pc L (.int x :: st) :=
  fun H locs ls hp hS hl => lv_ineg C.1 C.2.1 hd (k H locs ls hp hS hl)
theorem j_ishl (C : Cx p l s m meth c D cA b nL own mn cc ret hh) {x y : Int32} (hd : decode cc pc = .ok (.ishl, 1))  (k : J p l e R s m args below meth c D cA b nL Q n h kc ks (pc + 1) L (.int (x <<< (y &&& 31)) :: st)) : J p l e R s m args below meth c D cA b nL Q n h kc ks pc L (.int y :: .int x :: st) :=
  fun H locs ls hp hS hl => lv_ishl C.1 C.2.1 hd (k H locs ls hp hS hl)
theorem j_ishr (C : Cx p l s m meth c D cA b nL own mn cc ret hh) {x y : Int32} (hd : decode cc pc = .ok (.ishr, 1))  (k : J p l e R s m args below meth c D cA b nL Q n h kc ks (pc + 1) L (.int (x >>> (y &&& 31)) :: st)) : J p l e R s m args below meth c D cA b nL Q n h kc ks pc L (.int y :: .int x :: st) :=
  fun H locs ls hp hS hl => lv_ishr C.1 C.2.1 hd (k H locs ls hp hS hl)
theorem j_iushr (C : Cx p l s m meth c D cA b nL own mn cc ret hh) {x y v : Int32} (hd : decode cc pc = .ok (.iushr, 1)) (hv : (x.toUInt32 >>> (y.toUInt32 &&& Int32.toUInt32 31)).toInt32 = v) (k : J p l e R s m args below meth c D cA b nL Q n h kc ks (pc + 1) L (.int v :: st)) : J p l e R s m args below meth c D cA b nL Q n h kc ks pc L (.int y :: .int x :: st) :=
  fun H locs ls hp hS hl => lv_iushr C.1 C.2.1 hd hv (k H locs ls hp hS hl)
theorem j_lushr (C : Cx p l s m meth c D cA b nL own mn cc ret hh) {x v : Int64} {y : Int32} (hd : decode cc pc = .ok (.lushr, 1)) (hv : (x.toUInt64 >>> (y.toInt64.toUInt64 &&& Int64.toUInt64 63)).toInt64 = v) (k : J p l e R s m args below meth c D cA b nL Q n h kc ks (pc + 1) L (.long v :: st)) : J p l e R s m args below meth c D cA b nL Q n h kc ks pc L (.int y :: .long x :: st) :=
  fun H locs ls hp hS hl => lv_lushr C.1 C.2.1 hd hv (k H locs ls hp hS hl)
theorem j_lshl (C : Cx p l s m meth c D cA b nL own mn cc ret hh) {x v : Int64} {y : Int32} (hd : decode cc pc = .ok (.lshl, 1)) (hv : x <<< (y.toInt64 &&& 63) = v) (k : J p l e R s m args below meth c D cA b nL Q n h kc ks (pc + 1) L (.long v :: st)) : J p l e R s m args below meth c D cA b nL Q n h kc ks pc L (.int y :: .long x :: st) :=
  fun H locs ls hp hS hl => lv_lshl C.1 C.2.1 hd hv (k H locs ls hp hS hl)
theorem j_i2l (C : Cx p l s m meth c D cA b nL own mn cc ret hh) {x : Int32} {v : Int64} (hd : decode cc pc = .ok (.i2l, 1)) (hv : x.toInt64 = v) (k : J p l e R s m args below meth c D cA b nL Q n h kc ks (pc + 1) L (.long v :: st)) : J p l e R s m args below meth c D cA b nL Q n h kc ks pc L (.int x :: st) :=
  fun H locs ls hp hS hl => lv_i2l C.1 C.2.1 hd hv (k H locs ls hp hS hl)
theorem j_l2i (C : Cx p l s m meth c D cA b nL own mn cc ret hh) {x : Int64} {v : Int32} (hd : decode cc pc = .ok (.l2i, 1)) (hv : x.toInt32 = v) (k : J p l e R s m args below meth c D cA b nL Q n h kc ks (pc + 1) L (.int v :: st)) : J p l e R s m args below meth c D cA b nL Q n h kc ks pc L (.long x :: st) :=
  fun H locs ls hp hS hl => lv_l2i C.1 C.2.1 hd hv (k H locs ls hp hS hl)
theorem j_i2b (C : Cx p l s m meth c D cA b nL own mn cc ret hh) {x v : Int32} (hd : decode cc pc = .ok (.i2b, 1)) (hv : x.toInt8.toInt32 = v) (k : J p l e R s m args below meth c D cA b nL Q n h kc ks (pc + 1) L (.int v :: st)) : J p l e R s m args below meth c D cA b nL Q n h kc ks pc L (.int x :: st) :=
  fun H locs ls hp hS hl => lv_i2b C.1 C.2.1 hd hv (k H locs ls hp hS hl)
theorem j_i2c (C : Cx p l s m meth c D cA b nL own mn cc ret hh) {x v : Int32} (hd : decode cc pc = .ok (.i2c, 1)) (hv : (x.toUInt32 % 65536).toInt32 = v) (k : J p l e R s m args below meth c D cA b nL Q n h kc ks (pc + 1) L (.int v :: st)) : J p l e R s m args below meth c D cA b nL Q n h kc ks pc L (.int x :: st) :=
  fun H locs ls hp hS hl => lv_i2c C.1 C.2.1 hd hv (k H locs ls hp hS hl)
theorem j_dup (C : Cx p l s m meth c D cA b nL own mn cc ret hh) {v : Value} (hd : decode cc pc = .ok (.dup, 1)) (hv : v.category = 1) (k : J p l e R s m args below meth c D cA b nL Q n h kc ks (pc + 1) L (v :: v :: st)) : J p l e R s m args below meth c D cA b nL Q n h kc ks pc L (v :: st) :=
  fun H locs ls hp hS hl => lv_dup C.1 C.2.1 hd ((sv_cat b v).trans hv) (k H locs ls hp hS hl)
theorem j_pop (C : Cx p l s m meth c D cA b nL own mn cc ret hh) {v : Value} (hd : decode cc pc = .ok (.pop, 1)) (hv : v.category = 1) (k : J p l e R s m args below meth c D cA b nL Q n h kc ks (pc + 1) L st) : J p l e R s m args below meth c D cA b nL Q n h kc ks pc L (v :: st) :=
  fun H locs ls hp hS hl => lv_pop C.1 C.2.1 hd ((sv_cat b v).trans hv) (k H locs ls hp hS hl)
theorem j_dup_x1 (C : Cx p l s m meth c D cA b nL own mn cc ret hh) {v w : Value} (hd : decode cc pc = .ok (.dup_x1, 1)) (hv : v.category = 1) (hw : w.category = 1) (k : J p l e R s m args below meth c D cA b nL Q n h kc ks (pc + 1) L (v :: w :: v :: st)) : J p l e R s m args below meth c D cA b nL Q n h kc ks pc L (v :: w :: st) :=
  fun H locs ls hp hS hl => lv_dup_x1 C.1 C.2.1 hd ((sv_cat b v).trans hv) ((sv_cat b w).trans hw) (k H locs ls hp hS hl)
theorem j_dup_x2 (C : Cx p l s m meth c D cA b nL own mn cc ret hh) {v w z : Value} (hd : decode cc pc = .ok (.dup_x2, 1)) (hv : v.category = 1) (hw : w.category = 1) (hz : z.category = 1) (k : J p l e R s m args below meth c D cA b nL Q n h kc ks (pc + 1) L (v :: w :: z :: v :: st)) : J p l e R s m args below meth c D cA b nL Q n h kc ks pc L (v :: w :: z :: st) :=
  fun H locs ls hp hS hl => lv_dup_x2 C.1 C.2.1 hd ((sv_cat b v).trans hv) ((sv_cat b w).trans hw) ((sv_cat b z).trans hz) (k H locs ls hp hS hl)
theorem j_dup2 (C : Cx p l s m meth c D cA b nL own mn cc ret hh) {v w : Value} (hd : decode cc pc = .ok (.dup2, 1)) (hv : v.category = 1) (hw : w.category = 1) (k : J p l e R s m args below meth c D cA b nL Q n h kc ks (pc + 1) L (v :: w :: v :: w :: st)) : J p l e R s m args below meth c D cA b nL Q n h kc ks pc L (v :: w :: st) :=
  fun H locs ls hp hS hl => lv_dup2_11 C.1 C.2.1 hd ((sv_cat b v).trans hv) ((sv_cat b w).trans hw) (k H locs ls hp hS hl)
theorem j_goto (C : Cx p l s m meth c D cA b nL own mn cc ret hh) {z : Int} {tgt : Nat} (hd : decode cc pc = .ok (.goto z, 3)) (ht : (pc : Int) + z = (tgt : Int)) (k : J p l e R s m args below meth c D cA b nL Q n h kc ks tgt L st) : J p l e R s m args below meth c D cA b nL Q n h kc ks pc L st :=
  fun H locs ls hp hS hl => lv_goto C.1 C.2.1 hd ht (k H locs ls hp hS hl)
theorem j_if_eq (C : Cx p l s m meth c D cA b nL own mn cc ret hh) {x : Int32} {z : Int} {tgt : Nat} (hd : decode cc pc = .ok (.ifCond .eq z, 3)) (ht : (pc : Int) + z = (tgt : Int)) (k1 : x = 0 → J p l e R s m args below meth c D cA b nL Q n h kc ks tgt L st) (k2 : ¬ x = 0 → J p l e R s m args below meth c D cA b nL Q n h kc ks (pc + 3) L st) : J p l e R s m args below meth c D cA b nL Q n h kc ks pc L (.int x :: st) :=
  fun H locs ls hp hS hl => lv_if_eq C.1 C.2.1 hd ht (fun q => k1 q H locs ls hp hS hl) (fun q => k2 q H locs ls hp hS hl)
theorem j_icmp_eq (C : Cx p l s m meth c D cA b nL own mn cc ret hh) {x y : Int32} {z : Int} {tgt : Nat} (hd : decode cc pc = .ok (.if_icmp .eq z, 3)) (ht : (pc : Int) + z = (tgt : Int)) (k1 : x = y → J p l e R s m args below meth c D cA b nL Q n h kc ks tgt L st) (k2 : ¬ x = y → J p l e R s m args below meth c D cA b nL Q n h kc ks (pc + 3) L st) : J p l e R s m args below meth c D cA b nL Q n h kc ks pc L (.int y :: .int x :: st) :=
  fun H locs ls hp hS hl => lv_icmp_eq C.1 C.2.1 hd ht (fun q => k1 q H locs ls hp hS hl) (fun q => k2 q H locs ls hp hS hl)
theorem j_if_ne (C : Cx p l s m meth c D cA b nL own mn cc ret hh) {x : Int32} {z : Int} {tgt : Nat} (hd : decode cc pc = .ok (.ifCond .ne z, 3)) (ht : (pc : Int) + z = (tgt : Int)) (k1 : ¬ x = 0 → J p l e R s m args below meth c D cA b nL Q n h kc ks tgt L st) (k2 : x = 0 → J p l e R s m args below meth c D cA b nL Q n h kc ks (pc + 3) L st) : J p l e R s m args below meth c D cA b nL Q n h kc ks pc L (.int x :: st) :=
  fun H locs ls hp hS hl => lv_if_ne C.1 C.2.1 hd ht (fun q => k1 q H locs ls hp hS hl) (fun q => k2 q H locs ls hp hS hl)
theorem j_icmp_ne (C : Cx p l s m meth c D cA b nL own mn cc ret hh) {x y : Int32} {z : Int} {tgt : Nat} (hd : decode cc pc = .ok (.if_icmp .ne z, 3)) (ht : (pc : Int) + z = (tgt : Int)) (k1 : ¬ x = y → J p l e R s m args below meth c D cA b nL Q n h kc ks tgt L st) (k2 : x = y → J p l e R s m args below meth c D cA b nL Q n h kc ks (pc + 3) L st) : J p l e R s m args below meth c D cA b nL Q n h kc ks pc L (.int y :: .int x :: st) :=
  fun H locs ls hp hS hl => lv_icmp_ne C.1 C.2.1 hd ht (fun q => k1 q H locs ls hp hS hl) (fun q => k2 q H locs ls hp hS hl)
theorem j_if_lt (C : Cx p l s m meth c D cA b nL own mn cc ret hh) {x : Int32} {z : Int} {tgt : Nat} (hd : decode cc pc = .ok (.ifCond .lt z, 3)) (ht : (pc : Int) + z = (tgt : Int)) (k1 : x < 0 → J p l e R s m args below meth c D cA b nL Q n h kc ks tgt L st) (k2 : ¬ x < 0 → J p l e R s m args below meth c D cA b nL Q n h kc ks (pc + 3) L st) : J p l e R s m args below meth c D cA b nL Q n h kc ks pc L (.int x :: st) :=
  fun H locs ls hp hS hl => lv_if_lt C.1 C.2.1 hd ht (fun q => k1 q H locs ls hp hS hl) (fun q => k2 q H locs ls hp hS hl)
theorem j_icmp_lt (C : Cx p l s m meth c D cA b nL own mn cc ret hh) {x y : Int32} {z : Int} {tgt : Nat} (hd : decode cc pc = .ok (.if_icmp .lt z, 3)) (ht : (pc : Int) + z = (tgt : Int)) (k1 : x < y → J p l e R s m args below meth c D cA b nL Q n h kc ks tgt L st) (k2 : ¬ x < y → J p l e R s m args below meth c D cA b nL Q n h kc ks (pc + 3) L st) : J p l e R s m args below meth c D cA b nL Q n h kc ks pc L (.int y :: .int x :: st) :=
  fun H locs ls hp hS hl => lv_icmp_lt C.1 C.2.1 hd ht (fun q => k1 q H locs ls hp hS hl) (fun q => k2 q H locs ls hp hS hl)
theorem j_if_ge (C : Cx p l s m meth c D cA b nL own mn cc ret hh) {x : Int32} {z : Int} {tgt : Nat} (hd : decode cc pc = .ok (.ifCond .ge z, 3)) (ht : (pc : Int) + z = (tgt : Int)) (k1 : 0 ≤ x → J p l e R s m args below meth c D cA b nL Q n h kc ks tgt L st) (k2 : ¬ 0 ≤ x → J p l e R s m args below meth c D cA b nL Q n h kc ks (pc + 3) L st) : J p l e R s m args below meth c D cA b nL Q n h kc ks pc L (.int x :: st) :=
  fun H locs ls hp hS hl => lv_if_ge C.1 C.2.1 hd ht (fun q => k1 q H locs ls hp hS hl) (fun q => k2 q H locs ls hp hS hl)
theorem j_icmp_ge (C : Cx p l s m meth c D cA b nL own mn cc ret hh) {x y : Int32} {z : Int} {tgt : Nat} (hd : decode cc pc = .ok (.if_icmp .ge z, 3)) (ht : (pc : Int) + z = (tgt : Int)) (k1 : y ≤ x → J p l e R s m args below meth c D cA b nL Q n h kc ks tgt L st) (k2 : ¬ y ≤ x → J p l e R s m args below meth c D cA b nL Q n h kc ks (pc + 3) L st) : J p l e R s m args below meth c D cA b nL Q n h kc ks pc L (.int y :: .int x :: st) :=
  fun H locs ls hp hS hl => lv_icmp_ge C.1 C.2.1 hd ht (fun q => k1 q H locs ls hp hS hl) (fun q => k2 q H locs ls hp hS hl)
theorem j_if_gt (C : Cx p l s m meth c D cA b nL own mn cc ret hh) {x : Int32} {z : Int} {tgt : Nat} (hd : decode cc pc = .ok (.ifCond .gt z, 3)) (ht : (pc : Int) + z = (tgt : Int)) (k1 : 0 < x → J p l e R s m args below meth c D cA b nL Q n h kc ks tgt L st) (k2 : ¬ 0 < x → J p l e R s m args below meth c D cA b nL Q n h kc ks (pc + 3) L st) : J p l e R s m args below meth c D cA b nL Q n h kc ks pc L (.int x :: st) :=
  fun H locs ls hp hS hl => lv_if_gt C.1 C.2.1 hd ht (fun q => k1 q H locs ls hp hS hl) (fun q => k2 q H locs ls hp hS hl)
theorem j_icmp_gt (C : Cx p l s m meth c D cA b nL own mn cc ret hh) {x y : Int32} {z : Int} {tgt : Nat} (hd : decode cc pc = .ok (.if_icmp .gt z, 3)) (ht : (pc : Int) + z = (tgt : Int)) (k1 : y < x → J p l e R s m args below meth c D cA b nL Q n h kc ks tgt L st) (k2 : ¬ y < x → J p l e R s m args below meth c D cA b nL Q n h kc ks (pc + 3) L st) : J p l e R s m args below meth c D cA b nL Q n h kc ks pc L (.int y :: .int x :: st) :=
  fun H locs ls hp hS hl => lv_icmp_gt C.1 C.2.1 hd ht (fun q => k1 q H locs ls hp hS hl) (fun q => k2 q H locs ls hp hS hl)
theorem j_if_le (C : Cx p l s m meth c D cA b nL own mn cc ret hh) {x : Int32} {z : Int} {tgt : Nat} (hd : decode cc pc = .ok (.ifCond .le z, 3)) (ht : (pc : Int) + z = (tgt : Int)) (k1 : x ≤ 0 → J p l e R s m args below meth c D cA b nL Q n h kc ks tgt L st) (k2 : ¬ x ≤ 0 → J p l e R s m args below meth c D cA b nL Q n h kc ks (pc + 3) L st) : J p l e R s m args below meth c D cA b nL Q n h kc ks pc L (.int x :: st) :=
  fun H locs ls hp hS hl => lv_if_le C.1 C.2.1 hd ht (fun q => k1 q H locs ls hp hS hl) (fun q => k2 q H locs ls hp hS hl)
theorem j_icmp_le (C : Cx p l s m meth c D cA b nL own mn cc ret hh) {x y : Int32} {z : Int} {tgt : Nat} (hd : decode cc pc = .ok (.if_icmp .le z, 3)) (ht : (pc : Int) + z = (tgt : Int)) (k1 : x ≤ y → J p l e R s m args below meth c D cA b nL Q n h kc ks tgt L st) (k2 : ¬ x ≤ y → J p l e R s m args below meth c D cA b nL Q n h kc ks (pc + 3) L st) : J p l e R s m args below meth c D cA b nL Q n h kc ks pc L (.int y :: .int x :: st) :=
  fun H locs ls hp hS hl => lv_icmp_le C.1 C.2.1 hd ht (fun q => k1 q H locs ls hp hS hl) (fun q => k2 q H locs ls hp hS hl)
theorem j_ifnonnull (C : Cx p l s m meth c D cA b nL own mn cc ret hh) {x : Nat} {z : Int} {tgt : Nat} (hd : decode cc pc = .ok (.ifnonnull z, 3)) (ht : (pc : Int) + z = (tgt : Int)) (k : J p l e R s m args below meth c D cA b nL Q n h kc ks tgt L st) : J p l e R s m args below meth c D cA b nL Q n h kc ks pc L (.ref x :: st) :=
  fun H locs ls hp hS hl => lv_ifnonnull C.1 C.2.1 hd ht (k H locs ls hp hS hl)
theorem j_ifnullN (C : Cx p l s m meth c D cA b nL own mn cc ret hh)  {z : Int} {tgt : Nat} (hd : decode cc pc = .ok (.ifnull z, 3)) (ht : (pc : Int) + z = (tgt : Int)) (k : J p l e R s m args below meth c D cA b nL Q n h kc ks tgt L st) : J p l e R s m args below meth c D cA b nL Q n h kc ks pc L (.null :: st) :=
  fun H locs ls hp hS hl => lv_ifnullN C.1 C.2.1 hd ht (k H locs ls hp hS hl)
theorem j_ifnull (C : Cx p l s m meth c D cA b nL own mn cc ret hh) {x : Nat} {z : Int} (hd : decode cc pc = .ok (.ifnull z, 3)) (k : J p l e R s m args below meth c D cA b nL Q n h kc ks (pc + 3) L st) : J p l e R s m args below meth c D cA b nL Q n h kc ks pc L (.ref x :: st) :=
  fun H locs ls hp hS hl => lv_ifnull C.1 C.2.1 hd (k H locs ls hp hS hl)
theorem j_ifnonnullN (C : Cx p l s m meth c D cA b nL own mn cc ret hh)  {z : Int} (hd : decode cc pc = .ok (.ifnonnull z, 3)) (k : J p l e R s m args below meth c D cA b nL Q n h kc ks (pc + 3) L st) : J p l e R s m args below meth c D cA b nL Q n h kc ks pc L (.null :: st) :=
  fun H locs ls hp hS hl => lv_ifnonnullN C.1 C.2.1 hd (k H locs ls hp hS hl)
end JR
/-! ===== fields, arrays, new ===== -/
/-- field k of class ci, as the entry 'index' of the class 'own' names it -/
def FL (own : String) (index ci k : Nat) : Prop := ∃ (C : String) (T : u_T) (N : Nat), g_cl[ci]? = some (C, T, N) ∧ k < N ∧ (∀ w ∈ u_ws C T N, w ∈ g_ws) ∧ (Cond.fieldLink own index (T k).1 (T k).2.1 (T k).2.2.1 ∈ g_ws ∨ ∃ host : String, Cond.fieldLinkNest own index (T k).1 (T k).2.1 (T k).2.2.1 host ∈ g_ws)
/-- .. and what may be stored there -/
def FP (own : String) (index ci k : Nat) (fin : Bool) (ty : FieldType) : Prop := ∃ (C : String) (T : u_T) (N : Nat) (t0 : Nat → FieldType), g_cl[ci]? = some (C, T, N) ∧ k < N ∧ (∀ w ∈ u_ws C T N, w ∈ g_ws) ∧ (Cond.fieldLink own index (T k).1 (T k).2.1 (T k).2.2.1 ∈ g_ws ∨ (fin = false ∧ ∃ host : String, Cond.fieldLinkNest own index (T k).1 (T k).2.1 (T k).2.2.1 host ∈ g_ws)) ∧ (∀ j, j < N → parseFieldDescriptor (T j).2.2.1 = some (t0 j)) ∧ (∀ i, i < N → ∀ j, j < N → i ≠ j → (T i).2.1 ≠ (T j).2.1) ∧ (T k).2.2.2 = fin ∧ t0 k = ty ∧ (fin = true → (T k).1 = own)
theorem sv_narrow {b : Nat} {ty : FieldType} {v : Value} (h : narrow ty v = v) : narrow ty (sv b v) = sv b v := by
  cases v with
  | ref a => cases ty <;> first | rfl | (simp [narrow] at h)
  | retAddr a => cases ty <;> first | rfl | (simp [narrow] at h)
  | _ => exact h
theorem sv_fits {b : Nat} {ty : FieldType} {v : Value} (h : fits ty v = true) : fits ty (sv b v) = true := by
  cases v with
  | ref a => cases ty <;> first | rfl | (simp [fits] at h)
  | retAddr a => cases ty <;> first | rfl | (simp [fits] at h)
  | _ => exact h
section JM
variable {p : Program} {l : Launch} {e : Env} {R : Room} {s : State} {m : MethodId} {args : Array Value} {below : List Frame} {meth : Method} {c : Code} {D : va_G} {cA : Nat → ClassId} {b nL : Nat} {Q : State → Prop} {n : Nat} {h : AH} {kc ks pc : Nat} {L : List (Nat × Value)} {st : List Value} {own mn : String} {cc : ByteArray} {ret : Option FieldType} {hh : List (Nat × Nat × Nat × Nat)}
theorem Cx.w (C : Cx p l s m meth c D cA b nL own mn cc ret hh) {w : Cond} (hw : w ∈ g_ws) (ho : w.onTables = true) (a : Array Value) : w.before a s = true := va_tabs ho rfl (C.2.2.2.2.1.1 w hw)
theorem Cx.ws (C : Cx p l s m meth c D cA b nL own mn cc ret hh) {ws : List Cond} (hw : ∀ w ∈ ws, w ∈ g_ws) (ho : ∀ w ∈ ws, w.onTables = true) (a : Array Value) : ∀ w ∈ ws, w.before a s = true := fun w h => C.w (hw w h) (ho w h) a
theorem u_ws_on (C : String) (T : u_T) (N : Nat) : ∀ w ∈ u_ws C T N, w.onTables = true := by
  intro w hw
  obtain ⟨k, -, rfl⟩ := List.mem_map.mp hw
  unfold u_lay
  split <;> rfl
theorem Hp.obj {H : Heap} (hp : Hp D cA b n h H) {a : Nat} (ha : a < n) {x : AC} (hx : h a = x) : (wO b cA n h)[a]? = some (b + a, toE b cA x) := by rw [← hx]; exact wO_get ha
theorem Hp.up {H H1 : Heap} (hp : Hp D cA b n h H) {a : Nat} (ha : a < n) {x : AC} (hz : H1.size = H.size) (hP : va_P D g_cl ((wO b cA n h).set a (b + a, toE b cA x)) H1) : Hp D cA b n (hu h a x) H1 := ⟨hz.trans hp.1, by rw [← wO_set ha x]; exact hP⟩
theorem j_get (C : Cx p l s m meth c D cA b nL own mn cc ret hh) {index ci k a : Nat} {fs : List Value} {v : Value} (hF : FL own index ci k) (hd : decode cc pc = .ok (.getfield index, 3)) (ha : a < n) (hx : h a = .inr (ci, fs)) (hv : fs[k]? = some v) (kk : J p l e R s m args below meth c D cA b nL Q n h kc ks (pc + 3) L (v :: st)) : J p l e R s m args below meth c D cA b nL Q n h kc ks pc L (.ref a :: st) := by
  intro H locs ls hp hS hl
  obtain ⟨Cl, T, N, h1, h2, h3, h4⟩ := hF
  have hts := C.ws h3 (u_ws_on Cl T N) args
  have hg := hp.obj ha hx
  have hv' : (fs.map (sv b))[k]? = some (sv b v) := by rw [List.getElem?_map, hv]; rfl
  rcases h4 with h4 | ⟨host, h4⟩
  · exact va_get C.1 C.2.1 hts (fun _ q => q) C.2.2.2.1 C.2.2.2.2.1.2.1 hp.2 a hg h1 k h2 (C.w h4 rfl args) (fun _ q => q) hv' hd (kk H locs ls hp hS hl)
  · exact va_getN C.1 C.2.1 hts (fun _ q => q) C.2.2.2.1 C.2.2.2.2.1.2.1 hp.2 a hg h1 k h2 (C.w h4 rfl args) (fun _ q => q) hv' hd (kk H locs ls hp hS hl)
theorem S_put {H H1 : Heap} {locs : List Loc} {x : Loc} (hS : va_S (fun q => b ≤ q) s.heap H locs) (hz : H1.size = H.size) (oq : ∀ q, q ≠ x.base → H1[q]? = H[q]?) (hx : b ≤ x.base) : va_S (fun q => b ≤ q) s.heap H1 (locs ++ [x]) := by
  refine ⟨by rw [hz]; exact hS.1, fun q h1 h2 => ?_, fun y hy => ?_⟩
  · rw [oq q (fun e => h2 (by rw [e]; exact hx))]; exact hS.2.1 q h1 h2
  · rcases List.mem_append.mp hy with h | h
    · exact hS.2.2 y h
    · rw [List.mem_singleton] at h; subst h; exact hx
theorem j_put (C : Cx p l s m meth c D cA b nL own mn cc ret hh) {index ci k a : Nat} {ty : FieldType} {fs fs' : List Value} {v : Value} (hF : FP own index ci k false ty) (hd : decode cc pc = .ok (.putfield index, 3)) (ha : a < n) (hx : h a = .inr (ci, fs)) (hl : k < fs.length) (hn : narrow ty v = v) (hf : fits ty v = true) (hfs : fs.set k v = fs') (kk : J p l e R s m args below meth c D cA b nL Q n (hu h a (.inr (ci, fs'))) kc ks (pc + 3) L st) : J p l e R s m args below meth c D cA b nL Q n h kc ks pc L (v :: .ref a :: st) := by
  intro H locs ls hp hS hl'
  subst hfs
  obtain ⟨Cl, T, N, t0, h1, h2, h3, h4, hty, hnm, hfin, rfl, -⟩ := hF
  have hts := C.ws h3 (u_ws_on Cl T N) args
  have hg := hp.obj ha hx
  have hK := C.2.2.2.2.1.2.1
  have hap := va_apart (own := own) hts (fun _ q => q) t0 hty hnm hK h1
  obtain ⟨r, g1, cell, q1, q2, q3, q4⟩ := hp.2 a _ hg
  cases Option.some.inj (g1.symm.trans h1)
  obtain ⟨hSl, hfc, kC, hkC, hkind⟩ := hK.1 ci _ h1
  obtain ⟨cf, kf, fi, f, hi, hsl⟩ := hSl k h2
  have hlay := hts _ (u_in_lay h2)
  unfold u_lay at hlay
  rw [if_neg (by rw [hfin]; decide)] at hlay
  have hst := (u_facts hfc hkC (u_lays hts (fun _ q => q) h2) hi).1
  have h6 := u_store hfc hkC hkind hlay hi (hty k h2) (sv_narrow (b := b) hn) (sv_fits (b := b) hf)
  have go : ∀ H' : Heap, H'[b + a]? = some (cell.setSlot f.slot (sv b v)) → H'.size = H.size → (∀ q, q ≠ b + a → H'[q]? = H[q]?) → W p l e R s m args below meth c H' (locs ++ [⟨b + a, f.slot⟩]) kc ks Q (F0 m (pc + 3) ls (st.map (sv b))) := by
    intro H' e1 e2 e3
    refine kk H' _ ls (hp.up ha e2 (hp.2.set (wO_D b cA n h) hg ⟨_, h1, ?_⟩ e3)) (S_put hS e2 e3 (Nat.le_add_right b a)) hl'
    rw [hsl] at e1
    refine t_OB.to (V := updV (vp_V (fs.map (sv b))) k (sv b v)) ⟨_, e1, q2, q3, t_set q4 hap h2 (sv b v)⟩ (fun j _ => ?_)
    rw [vp_updV_set (by simpa using hl), List.map_set]
  rcases h4 with h4 | ⟨-, host, h4⟩
  · exact W.putK C.1 C.2.1 (f := f) ⟨C.2.2.2.1, C.w h4 rfl args, ⟨_, _, _, hi⟩, hst⟩ (by rw [q2]; exact h6) q1 q3 (by rw [hsl]; exact k2_hasslot (q4 k h2)) rfl rfl hd go
  · exact va_WputK C.1 C.2.1 (f := f) C.2.2.2.1 (C.w h4 rfl args) hi hst (by rw [q2]; exact h6) q1 q3 (by rw [hsl]; exact k2_hasslot (q4 k h2)) rfl rfl hd go
theorem j_putF (C : Cx p l s m meth c D cA b nL own mn cc ret hh) {index ci k a : Nat} {ty : FieldType} {fs fs' : List Value} {v : Value} (hF : FP own index ci k true ty) (hmn : mn = "<init>") (hd : decode cc pc = .ok (.putfield index, 3)) (ha : a < n) (hx : h a = .inr (ci, fs)) (hl : k < fs.length) (hn : narrow ty v = v) (hf : fits ty v = true) (hfs : fs.set k v = fs') (kk : J p l e R s m args below meth c D cA b nL Q n (hu h a (.inr (ci, fs'))) kc ks (pc + 3) L st) : J p l e R s m args below meth c D cA b nL Q n h kc ks pc L (v :: .ref a :: st) := by
  intro H locs ls hp hS hl'
  subst hfs
  obtain ⟨Cl, T, N, t0, h1, h2, h3, h4, hty, hnm, hfin, rfl, hdecl⟩ := hF
  have hts := C.ws h3 (u_ws_on Cl T N) args
  have hg := hp.obj ha hx
  have hK := C.2.2.2.2.1.2.1
  have hap := va_apart (own := own) hts (fun _ q => q) t0 hty hnm hK h1
  obtain ⟨r, g1, cell, q1, q2, q3, q4⟩ := hp.2 a _ hg
  cases Option.some.inj (g1.symm.trans h1)
  obtain ⟨hSl, hfc, kC, hkC, hkind⟩ := hK.1 ci _ h1
  obtain ⟨cf, kf, fi, f, hi, hsl⟩ := hSl k h2
  have hlay := hts _ (u_in_lay h2)
  unfold u_lay at hlay
  rw [if_pos hfin] at hlay
  have hst := (u_facts hfc hkC (u_lays hts (fun _ q => q) h2) hi).1
  have hcf : m.cls = cf := by
    obtain ⟨_, _, c', _, _, _, -, -, hf', -, -, -, hown2, -⟩ := Cond.laysFinal_spec hlay
    have e1 : c' = cf := by have := hi.symm.trans hf'; simp at this; exact this.1.symm
    rw [hdecl rfl] at hown2
    rw [← e1]; exact Option.some.inj (C.2.2.2.1.symm.trans hown2)
  have h6 := u_fits hfc hkC hkind (Or.inr hlay) hi (hty k h2) (sv_narrow (b := b) hn) (sv_fits (b := b) hf)
  have go : ∀ H' : Heap, H'[b + a]? = some (cell.setSlot f.slot (sv b v)) → H'.size = H.size → (∀ q, q ≠ b + a → H'[q]? = H[q]?) → W p l e R s m args below meth c H' (locs ++ [⟨b + a, f.slot⟩]) kc ks Q (F0 m (pc + 3) ls (st.map (sv b))) := by
    intro H' e1 e2 e3
    refine kk H' _ ls (hp.up ha e2 (hp.2.set (wO_D b cA n h) hg ⟨_, h1, ?_⟩ e3)) (S_put hS e2 e3 (Nat.le_add_right b a)) hl'
    rw [hsl] at e1
    refine t_OB.to (V := updV (vp_V (fs.map (sv b))) k (sv b v)) ⟨_, e1, q2, q3, t_set q4 hap h2 (sv b v)⟩ (fun j _ => ?_)
    rw [vp_updV_set (by simpa using hl), List.map_set]
  rcases h4 with h4 | ⟨h4, -⟩
  · exact W.putFinK C.1 C.2.1 C.2.2.2.1 (C.w h4 rfl args) hi hst hcf (C.2.2.2.2.2.2.2.2.2.trans hmn) (by rw [q2]; exact h6) q1 q3 (by rw [hsl]; exact k2_hasslot (q4 k h2)) rfl rfl hd go
  · cases h4
theorem j_iald (C : Cx p l s m meth c D cA b nL own mn cc ret hh) {t a N : Nat} {f : Nat → Int32} {i v : Int32} (hd : decode cc pc = .ok (.iaload, 1)) (ht : (g_ty cA)[t]? = some (cA t, .int)) (ha : a < n) (hx : h a = .inl (t, N, .inl f)) (hi : vp_in i N) (hv : f i.toNatClampNeg = v) (kk : J p l e R s m args below meth c D cA b nL Q n h kc ks (pc + 1) L (.int v :: st)) : J p l e R s m args below meth c D cA b nL Q n h kc ks pc L (.int i :: .ref a :: st) := by
  intro H locs ls hp hS hl
  subst hv
  exact va_iald C.1 C.2.1 C.2.2.2.2.1.2.1 hp.2 a t (hp.obj ha hx) ht hi hd (kk H locs ls hp hS hl)
theorem j_bald (C : Cx p l s m meth c D cA b nL own mn cc ret hh) {t a N : Nat} {f : Nat → Int32} {i v : Int32} (hd : decode cc pc = .ok (.baload, 1)) (ht : (g_ty cA)[t]? = some (cA t, .byte)) (ha : a < n) (hx : h a = .inl (t, N, .inl f)) (hi : vp_in i N) (hv : f i.toNatClampNeg = v) (kk : J p l e R s m args below meth c D cA b nL Q n h kc ks (pc + 1) L (.int v :: st)) : J p l e R s m args below meth c D cA b nL Q n h kc ks pc L (.int i :: .ref a :: st) := by
  intro H locs ls hp hS hl
  subst hv
  exact va_bald C.1 C.2.1 C.2.2.2.2.1.2.1 hp.2 a t (hp.obj ha hx) ht hi hd (kk H locs ls hp hS hl)
theorem j_zald (C : Cx p l s m meth c D cA b nL own mn cc ret hh) {t a N : Nat} {f : Nat → Int32} {i v : Int32} (hd : decode cc pc = .ok (.baload, 1)) (ht : (g_ty cA)[t]? = some (cA t, .boolean)) (ha : a < n) (hx : h a = .inl (t, N, .inl f)) (hi : vp_in i N) (hv : f i.toNatClampNeg = v) (kk : J p l e R s m args below meth c D cA b nL Q n h kc ks (pc + 1) L (.int v :: st)) : J p l e R s m args below meth c D cA b nL Q n h kc ks pc L (.int i :: .ref a :: st) := by
  intro H locs ls hp hS hl
  subst hv
  exact va_zald C.1 C.2.1 C.2.2.2.2.1.2.1 hp.2 a t (hp.obj ha hx) ht hi hd (kk H locs ls hp hS hl)
theorem j_cald (C : Cx p l s m meth c D cA b nL own mn cc ret hh) {t a N : Nat} {f : Nat → Int32} {i v : Int32} (hd : decode cc pc = .ok (.caload, 1)) (ht : (g_ty cA)[t]? = some (cA t, .char)) (ha : a < n) (hx : h a = .inl (t, N, .inl f)) (hi : vp_in i N) (hv : f i.toNatClampNeg = v) (kk : J p l e R s m args below meth c D cA b nL Q n h kc ks (pc + 1) L (.int v :: st)) : J p l e R s m args below meth c D cA b nL Q n h kc ks pc L (.int i :: .ref a :: st) := by
  intro H locs ls hp hS hl
  subst hv
  exact va_cald C.1 C.2.1 C.2.2.2.2.1.2.1 hp.2 a t (hp.obj ha hx) ht hi hd (kk H locs ls hp hS hl)
theorem j_iast (C : Cx p l s m meth c D cA b nL own mn cc ret hh) {t a N : Nat} {f f' : Nat → Int32} {i x : Int32} (hd : decode cc pc = .ok (.iastore, 1)) (ht : (g_ty cA)[t]? = some (cA t, .int)) (ha : a < n) (hx : h a = .inl (t, N, .inl f)) (hi : vp_in i N) (hf : upd f i.toNatClampNeg x = f') (kk : J p l e R s m args below meth c D cA b nL Q n (hu h a (.inl (t, N, .inl f'))) kc ks (pc + 1) L st) : J p l e R s m args below meth c D cA b nL Q n h kc ks pc L (.int x :: .int i :: .ref a :: st) := by
  intro H locs ls hp hS hl
  subst hf
  have hg := hp.obj ha hx
  refine W.iast C.1 C.2.1 (hp.2 a _ hg) ((C.2.2.2.2.1.2.1.2 t _ ht).1 N (fun j => .int (f j))) (fun q => by cases q) (by show ¬ (i < 0 ∨ (arrV _ _ _).slots.size ≤ _); rw [arrV_size]; exact hi) rfl rfl hd fun H1 e z oq => ?_
  refine kk H1 _ ls (hp.up ha z (hp.2.set (wO_D b cA n h) hg ?_ oq)) (S_put hS z oq (Nat.le_add_right b a)) hl
  show H1[b + a]? = some (vp_cell _ _)
  rw [e]
  show some ((arrV (cA t) N (fun j => .int (f j))).setSlot i.toNatClampNeg _) = some (arrV (cA t) N (fun j => .int (upd f i.toNatClampNeg x j)))
  rw [arrV_store]
  congr 2
  funext q
  by_cases hq : q = i.toNatClampNeg
  · subst hq
    simp [updV, upd, vp_nar]
    try rfl
  · simp [updV, upd, hq]
theorem j_bast (C : Cx p l s m meth c D cA b nL own mn cc ret hh) {t a N : Nat} {f f' : Nat → Int32} {i x : Int32} (hd : decode cc pc = .ok (.bastore, 1)) (ht : (g_ty cA)[t]? = some (cA t, .byte)) (ha : a < n) (hx : h a = .inl (t, N, .inl f)) (hi : vp_in i N) (hf : upd f i.toNatClampNeg (vp_nar .byte x) = f') (kk : J p l e R s m args below meth c D cA b nL Q n (hu h a (.inl (t, N, .inl f'))) kc ks (pc + 1) L st) : J p l e R s m args below meth c D cA b nL Q n h kc ks pc L (.int x :: .int i :: .ref a :: st) := by
  intro H locs ls hp hS hl
  subst hf
  have hg := hp.obj ha hx
  refine W.bast C.1 C.2.1 (hp.2 a _ hg) ((C.2.2.2.2.1.2.1.2 t _ ht).1 N (fun j => .int (f j))) (fun q => by cases q) (by show ¬ (i < 0 ∨ (arrV _ _ _).slots.size ≤ _); rw [arrV_size]; exact hi) rfl rfl hd fun H1 e z oq => ?_
  refine kk H1 _ ls (hp.up ha z (hp.2.set (wO_D b cA n h) hg ?_ oq)) (S_put hS z oq (Nat.le_add_right b a)) hl
  show H1[b + a]? = some (vp_cell _ _)
  rw [e]
  show some ((arrV (cA t) N (fun j => .int (f j))).setSlot i.toNatClampNeg _) = some (arrV (cA t) N (fun j => .int (upd f i.toNatClampNeg (vp_nar .byte x) j)))
  rw [arrV_store]
  congr 2
  funext q
  by_cases hq : q = i.toNatClampNeg
  · subst hq
    simp [updV, upd, vp_nar]
    try rfl
  · simp [updV, upd, hq]
theorem j_zast (C : Cx p l s m meth c D cA b nL own mn cc ret hh) {t a N : Nat} {f f' : Nat → Int32} {i x : Int32} (hd : decode cc pc = .ok (.bastore, 1)) (ht : (g_ty cA)[t]? = some (cA t, .boolean)) (ha : a < n) (hx : h a = .inl (t, N, .inl f)) (hi : vp_in i N) (hf : upd f i.toNatClampNeg (vp_nar .boolean x) = f') (kk : J p l e R s m args below meth c D cA b nL Q n (hu h a (.inl (t, N, .inl f'))) kc ks (pc + 1) L st) : J p l e R s m args below meth c D cA b nL Q n h kc ks pc L (.int x :: .int i :: .ref a :: st) := by
  intro H locs ls hp hS hl
  subst hf
  have hg := hp.obj ha hx
  refine W.zast C.1 C.2.1 (hp.2 a _ hg) ((C.2.2.2.2.1.2.1.2 t _ ht).1 N (fun j => .int (f j))) (fun q => by cases q) (by show ¬ (i < 0 ∨ (arrV _ _ _).slots.size ≤ _); rw [arrV_size]; exact hi) rfl rfl hd fun H1 e z oq => ?_
  refine kk H1 _ ls (hp.up ha z (hp.2.set (wO_D b cA n h) hg ?_ oq)) (S_put hS z oq (Nat.le_add_right b a)) hl
  show H1[b + a]? = some (vp_cell _ _)
  rw [e]
  show some ((arrV (cA t) N (fun j => .int (f j))).setSlot i.toNatClampNeg _) = some (arrV (cA t) N (fun j => .int (upd f i.toNatClampNeg (vp_nar .boolean x) j)))
  rw [arrV_store]
  congr 2
  funext q
  by_cases hq : q = i.toNatClampNeg
  · subst hq
    simp [updV, upd, vp_nar]
    try rfl
  · simp [updV, upd, hq]
theorem j_cast (C : Cx p l s m meth c D cA b nL own mn cc ret hh) {t a N : Nat} {f f' : Nat → Int32} {i x : Int32} (hd : decode cc pc = .ok (.castore, 1)) (ht : (g_ty cA)[t]? = some (cA t, .char)) (ha : a < n) (hx : h a = .inl (t, N, .inl f)) (hi : vp_in i N) (hf : upd f i.toNatClampNeg (vp_nar .char x) = f') (kk : J p l e R s m args below meth c D cA b nL Q n (hu h a (.inl (t, N, .inl f'))) kc ks (pc + 1) L st) : J p l e R s m args below meth c D cA b nL Q n h kc ks pc L (.int x :: .int i :: .ref a :: st) := by
  intro H locs ls hp hS hl
  subst hf
  have hg := hp.obj ha hx
  refine W.cast C.1 C.2.1 (hp.2 a _ hg) ((C.2.2.2.2.1.2.1.2 t _ ht).1 N (fun j => .int (f j))) (fun q => by cases q) (by show ¬ (i < 0 ∨ (arrV _ _ _).slots.size ≤ _); rw [arrV_size]; exact hi) rfl rfl hd fun H1 e z oq => ?_
  refine kk H1 _ ls (hp.up ha z (hp.2.set (wO_D b cA n h) hg ?_ oq)) (S_put hS z oq (Nat.le_add_right b a)) hl
  show H1[b + a]? = some (vp_cell _ _)
  rw [e]
  show some ((arrV (cA t) N (fun j => .int (f j))).setSlot i.toNatClampNeg _) = some (arrV (cA t) N (fun j => .int (upd f i.toNatClampNeg (vp_nar .char x) j)))
  rw [arrV_store]
  congr 2
  funext q
  by_cases hq : q = i.toNatClampNeg
  · subst hq
    simp [updV, upd, vp_nar]
    try rfl
  · simp [updV, upd, hq]
theorem j_alen (C : Cx p l s m meth c D cA b nL own mn cc ret hh) {t a : Nat} {x : vp_A} {ty : FieldType} {v : Int32} (hd : decode cc pc = .ok (.arraylength, 1)) (ht : (g_ty cA)[t]? = some (cA t, ty)) (ha : a < n) (hx : h a = .inl (t, x)) (hv : Int32.ofNat x.1 = v) (kk : J p l e R s m args below meth c D cA b nL Q n h kc ks (pc + 1) L (.int v :: st)) : J p l e R s m args below meth c D cA b nL Q n h kc ks pc L (.ref a :: st) := by
  intro H locs ls hp hS hl
  refine va_alen C.1 C.2.1 C.2.2.2.2.1.2.1 hp.2 a t (hp.obj ha hx) ht ?_ hd (kk H locs ls hp hS hl)
  rw [← hv]
  obtain ⟨N, f | f | f | f | f⟩ := x <;> rfl
end JM
