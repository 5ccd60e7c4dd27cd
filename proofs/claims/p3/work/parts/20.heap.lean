/-! ===== the abstract heap: cells numbered from 0 on, at the addresses b, b + 1, .. ===== -/
abbrev AC : Type := (Nat × vp_A) ⊕ (Nat × List Value)
abbrev AH : Type := Nat → AC
def hu (h : AH) (k : Nat) (x : AC) : AH := fun j => if j = k then x else h j
theorem hu_s (h : AH) (k : Nat) (x : AC) : hu h k x k = x := if_pos rfl
theorem hu_n {h : AH} {k j : Nat} {x : AC} (hj : j ≠ k) : hu h k x j = h j := if_neg hj
theorem hu_self {h : AH} {k : Nat} {x : AC} (hk : h k = x) : hu h k x = h := by
  funext j
  unfold hu
  split
  · rename_i e; rw [e, hk]
  · rfl
/-- cell a of the abstract heap; a return address stands for a cell that was there before, by its own address -/
def sv (b : Nat) (v : Value) : Value := match v with
  | .ref a => .ref (b + a)
  | .retAddr a => .ref a
  | w => w
def so (b : Nat) (f : Nat → Option Nat) : Nat → Option Nat := fun j => (f j).map (fun a => b + a)
def sa (b : Nat) (a : vp_A) : vp_A := match a with
  | (n, .inl f) => (n, .inl f)
  | (n, .inr (.inl f)) => (n, .inr (.inl f))
  | (n, .inr (.inr (.inl f))) => (n, .inr (.inr (.inl f)))
  | (n, .inr (.inr (.inr (.inl f)))) => (n, .inr (.inr (.inr (.inl f))))
  | (n, .inr (.inr (.inr (.inr f)))) => (n, .inr (.inr (.inr (.inr (so b f)))))
def toE (b : Nat) (cA : Nat → ClassId) (x : AC) : va_E := match x with
  | .inl y => .inl (cA y.1, sa b y.2)
  | .inr o => .inr (o.1, o.2.map (sv b))
def wO (b : Nat) (cA : Nat → ClassId) (n : Nat) (h : AH) : va_W := (List.range n).map (fun k => (b + k, toE b cA (h k)))
theorem wO_len (b : Nat) (cA : Nat → ClassId) (n : Nat) (h : AH) : (wO b cA n h).length = n := by simp [wO]
theorem wO_get {b : Nat} {cA : Nat → ClassId} {n : Nat} {h : AH} {k : Nat} (hk : k < n) : (wO b cA n h)[k]? = some (b + k, toE b cA (h k)) := by
  simp [wO, hk]
theorem wO_inv {b : Nat} {cA : Nat → ClassId} {n : Nat} {h : AH} {k : Nat} {q : Nat × va_E} (hq : (wO b cA n h)[k]? = some q) : k < n ∧ q = (b + k, toE b cA (h k)) := by
  have hk : k < n := by
    have := (List.getElem?_eq_some_iff.mp hq).1
    rwa [wO_len] at this
  rw [wO_get hk] at hq
  exact ⟨hk, (Option.some.inj hq).symm⟩
theorem wO_set {b : Nat} {cA : Nat → ClassId} {n : Nat} {h : AH} {k : Nat} (hk : k < n) (x : AC) : (wO b cA n h).set k (b + k, toE b cA x) = wO b cA n (hu h k x) := by
  apply List.ext_getElem?
  intro j
  by_cases hj : j < n
  · rw [wO_get hj]
    by_cases e : k = j
    · subst e
      rw [List.getElem?_set_self (by rw [wO_len]; exact hk), hu_s]
    · rw [List.getElem?_set_ne e, wO_get hj, hu_n (fun q => e q.symm)]
  · rw [List.getElem?_eq_none (by rw [List.length_set, wO_len]; omega), List.getElem?_eq_none (by rw [wO_len]; omega)]
theorem wO_push {b : Nat} {cA : Nat → ClassId} {n : Nat} {h : AH} (x : AC) : wO b cA n h ++ [(b + n, toE b cA x)] = wO b cA (n + 1) (hu h n x) := by
  apply List.ext_getElem?
  intro j
  by_cases hj : j < n
  · rw [List.getElem?_append_left (by rw [wO_len]; exact hj), wO_get hj, wO_get (by omega), hu_n (by omega)]
  · by_cases e : j = n
    · subst e
      rw [List.getElem?_append_right (by rw [wO_len]; exact Nat.le_refl _), wO_len, Nat.sub_self, wO_get (by omega), hu_s]
      rfl
    · rw [List.getElem?_eq_none (by simp [wO_len]; omega), List.getElem?_eq_none (by rw [wO_len]; omega)]
theorem wO_D (b : Nat) (cA : Nat → ClassId) (n : Nat) (h : AH) : va_D (fun q => b ≤ q) (wO b cA n h) := by
  refine ⟨fun i j x y hi hj he => ?_, fun k q hq => ?_⟩
  · obtain ⟨-, rfl⟩ := wO_inv hi
    obtain ⟨-, rfl⟩ := wO_inv hj
    have : b + i = b + j := he
    omega
  · obtain ⟨-, rfl⟩ := wO_inv hq
    exact Nat.le_add_right _ _
theorem sv_cat (b : Nat) (v : Value) : (sv b v).category = v.category := by cases v <;> rfl
theorem sv_args (b : Nat) : ∀ (i : Nat) (vs : List Value), lv_args i (vs.map (sv b)) = (lv_args i vs).map (fun q => (q.1, sv b q.2))
  | _, [] => rfl
  | i, v :: vs => by
    show (i, sv b v) :: lv_args (if (sv b v).category = 2 then i + 2 else i + 1) (vs.map (sv b)) = (i, sv b v) :: (lv_args (if v.category = 2 then i + 2 else i + 1) vs).map (fun q => (q.1, sv b q.2))
    rw [sv_cat, sv_args b _ vs]
theorem lk_mem {L : List (Nat × Value)} {i : Nat} {v : Value} (h : List.lookup i L = some v) : (i, v) ∈ L := by
  induction L with
  | nil => cases h
  | cons q L ih =>
    obtain ⟨j, w⟩ := q
    by_cases e : i = j
    · subst e
      simp at h
      subst h
      exact List.mem_cons_self
    · rw [List.lookup_cons] at h
      have : (i == j) = false := by simpa using e
      rw [this] at h
      exact List.mem_cons_of_mem _ (ih h)
def sL (b : Nat) (L : List (Nat × Value)) : List (Nat × Value) := L.map (fun q => (q.1, sv b q.2))
theorem sL_at {b nL : Nat} {ls : Array Slot} {L : List (Nat × Value)} (hl : lv_has ls nL (sL b L)) {i : Nat} {v : Value} (h : List.lookup i L = some v) : ls[i]? = some (.val (sv b v)) :=
  hl.2.2 (i, sv b v) (List.mem_map.mpr ⟨(i, v), lk_mem h, rfl⟩)
/-- the locals behind a store -/
def sT (L : List (Nat × Value)) (i : Nat) (v : Value) : List (Nat × Value) := (i, v) :: L.filter (fun q => !(q.1 == i) && !(q.1 + 1 == i && q.2.category == 2))
def sT2 (L : List (Nat × Value)) (i : Nat) (v : Value) : List (Nat × Value) := (i, v) :: L.filter (fun q => !(q.1 == i) && (!(q.1 == i + 1) && !(q.1 + 1 == i && q.2.category == 2)))
theorem sL_sT (b : Nat) (L : List (Nat × Value)) (i : Nat) (v : Value) : (i, sv b v) :: (sL b L).filter (fun q => !(q.1 == i) && !(q.1 + 1 == i && q.2.category == 2)) = sL b (sT L i v) := by
  unfold sL sT
  rw [List.map_cons, List.filter_map]
  congr 2
  apply List.filter_congr
  intro q _
  simp [sv_cat]
theorem sL_sT2 (b : Nat) (L : List (Nat × Value)) (i : Nat) (v : Value) : (i, sv b v) :: (sL b L).filter (fun q => !(q.1 == i) && (!(q.1 == i + 1) && !(q.1 + 1 == i && q.2.category == 2))) = sL b (sT2 L i v) := by
  unfold sL sT2
  rw [List.map_cons, List.filter_map]
  congr 2
  apply List.filter_congr
  intro q _
  simp [sv_cat]
