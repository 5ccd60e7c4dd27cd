/-! ===== the law's script, and where its calls lead ===== -/
section JLW
variable {p : Program} {l : Launch} {e : Env} {R : Room} {s : State} {m : MethodId} {args : Array Value} {below : List Frame} {meth : Method} {c : Code} {D : va_G} {cA : Nat → ClassId} {b nL : Nat} {Q : State → Prop} {n : Nat} {h : AH} {kc ks pc : Nat} {L : List (Nat × Value)} {st : List Value} {own mn : String} {cc : ByteArray} {ret : Option FieldType} {hh : List (Nat × Nat × Nat × Nat)}
theorem j_aloadr_n (C : Cx p l s m meth c D cA b nL own mn cc ret hh) {i : Fin 4} {j : Nat} {x : Nat} (hd : decode cc pc = .ok (.aload_n i, 1)) (hi : (i : Nat) = j) (hx : List.lookup j L = some (.retAddr x)) (k : J p l e R s m args below meth c D cA b nL Q n h kc ks (pc + 1) L (.retAddr x :: st)) : J p l e R s m args below meth c D cA b nL Q n h kc ks pc L st :=
  fun H locs ls hp hS hl => lv_aload_n C.1 C.2.1 hd hi (show ls[j]? = some (.val (.ref x)) from sL_at hl hx) (k H locs ls hp hS hl)
theorem j_sld (C : Cx p l s m meth c D cA b nL own mn cc ret hh) {sc len : Nat} {xs : Nat → Int32} {i w : Int32} (hX : va_X sc len xs s s.heap) (hsc : sc < s.heap.size) (hscb : sc < b) (hd : decode cc pc = .ok (.iaload, 1)) (hi : vp_in i len) (hv : xs i.toNatClampNeg = w) (k : J p l e R s m args below meth c D cA b nL Q n h kc ks (pc + 1) L (.int w :: st)) : J p l e R s m args below meth c D cA b nL Q n h kc ks pc L (.int i :: .retAddr sc :: st) := by
  intro H locs ls hp hS hl
  subst hv
  exact va_sld C.1 C.2.1 hX hsc (Nat.not_le.mpr hscb) hS hi hd (k H locs ls hp hS hl)
theorem j_slen (C : Cx p l s m meth c D cA b nL own mn cc ret hh) {sc len : Nat} {xs : Nat → Int32} (hX : va_X sc len xs s s.heap) (hsc : sc < s.heap.size) (hscb : sc < b) (hd : decode cc pc = .ok (.arraylength, 1)) (k : J p l e R s m args below meth c D cA b nL Q n h kc ks (pc + 1) L (.int (nI len) :: st)) : J p l e R s m args below meth c D cA b nL Q n h kc ks pc L (.retAddr sc :: st) := by
  intro H locs ls hp hS hl
  exact va_slen C.1 C.2.1 hX hsc (Nat.not_le.mpr hscb) hS hd (k H locs ls hp hS hl)
variable {y : MethodName} {cd : Cond} {fr lo : Nat} {vs : List Value} {P : Int32 → Int64 → Int32 → Prop} {k0 : Int32}
theorem jk_wz (k : ∀ (k1 : Int32) (n1 : Nat) (h1 : AH), 57 ≤ n1 → (∃ fs, h1 28 = .inr (6, fs)) → Cn l D cA b y cd fr lo 0 0 vs n1 h1 (Mz P n1 k1) → J p l e R s m args below meth c D cA b nL Q n1 h1 kc ks (pc + 3) L (.int k1 :: st)) : JK p l e R s m args below meth c D cA b nL Q kc ks pc L st (Wz P l D cA b y cd fr lo vs) := by
  refine ⟨fun v n' h' hq => ?_, fun ci n' h' q hq => ?_⟩
  · obtain ⟨k1, e1, h57, hf, hc⟩ := hq
    cases e1
    exact k k1 n' h' h57 hf hc
  · obtain ⟨k1, e1, -⟩ := hq
    cases e1
theorem jk_wv (k : ∀ (k1 : Int32) (n1 : Nat) (h1 : AH), 57 ≤ n1 → (∃ fs, h1 28 = .inr (6, fs)) → Cn l D cA b y cd fr lo 0 0 vs n1 h1 (Mv n1 k1) → J p l e R s m args below meth c D cA b nL Q n1 h1 kc ks (pc + 3) L (.int k1 :: st)) : JK p l e R s m args below meth c D cA b nL Q kc ks pc L st (Wv l D cA b y cd fr lo vs) := by
  refine ⟨fun v n' h' hq => ?_, fun ci n' h' q hq => ?_⟩
  · obtain ⟨k1, e1, h57, hf, hc⟩ := hq
    cases e1
    exact k k1 n' h' h57 hf hc
  · obtain ⟨k1, e1, -⟩ := hq
    cases e1
theorem jk_mz (k : ∀ (v2 : Int32) (f2 : Nat → Int64) (h2 : AH), Bo n h2 k0 f2 → P k0 (f2 0) v2 → J p l e R s m args below meth c D cA b nL Q n h2 kc ks (pc + 3) L (.int v2 :: st)) : JK p l e R s m args below meth c D cA b nL Q kc ks pc L st (Mz P n k0) := by
  refine ⟨fun v n' h' hq => ?_, fun ci n' h' q hq => ?_⟩
  · obtain ⟨rfl, v2, f2, e1, hB, hP⟩ := hq
    cases e1
    exact k v2 f2 h' hB hP
  · obtain ⟨rfl, v2, f2, e1, -⟩ := hq
    cases e1
theorem jk_mv (k : ∀ (f2 : Nat → Int64) (h2 : AH), Bo n h2 k0 f2 → J p l e R s m args below meth c D cA b nL Q n h2 kc ks (pc + 3) L st) : JK p l e R s m args below meth c D cA b nL Q kc ks pc L st (Mv n k0) := by
  refine ⟨fun v n' h' hq => ?_, fun ci n' h' q hq => ?_⟩
  · obtain ⟨rfl, e1, f2, hB⟩ := hq
    cases e1
    exact k f2 h' hB
  · obtain ⟨rfl, e1, -⟩ := hq
    cases e1
theorem jk_px (k : ∀ v1 : Int32, J p l e R s m args below meth c D cA b nL Q n h kc ks (pc + 3) L (.int v1 :: st)) : JK p l e R s m args below meth c D cA b nL Q kc ks pc L st (fun r n' h' => n' = n ∧ h' = h ∧ ∃ v : Int32, r = .inl (some (.int v))) := by
  refine ⟨fun v n' h' hq => ?_, fun ci n' h' q hq => ?_⟩
  · obtain ⟨rfl, rfl, v1, e1⟩ := hq
    cases e1
    exact k v1
  · obtain ⟨-, -, v1, e1⟩ := hq
    cases e1
theorem jk_pm (k : ∀ (v2 : Int32) (h2 : AH), St n h2 → J p l e R s m args below meth c D cA b nL Q n h2 kc ks (pc + 3) L (.int v2 :: st)) : JK p l e R s m args below meth c D cA b nL Q kc ks pc L st (fun r n' h' => n' = n ∧ St n h' ∧ ∃ v : Int32, r = .inl (some (.int v))) := by
  refine ⟨fun v n' h' hq => ?_, fun ci n' h' q hq => ?_⟩
  · obtain ⟨rfl, hS, v2, e1⟩ := hq
    cases e1
    exact k v2 h' hS
  · obtain ⟨-, -, v2, e1⟩ := hq
    cases e1
end JLW
theorem six {q k len : Nat} (h : q + k < len) (hl : len < 2 ^ 31) : vp_in (nI q + nI k) len := by
  rw [nI_add]
  exact vp_in_nI h hl
theorem sixc {xs : Nat → Int32} {q k len : Nat} (h : q + k < len) (hl : len < 2 ^ 31) : xs (nI q + nI k).toNatClampNeg = xs (q + k) := by
  rw [nI_add, nI_clamp (by omega)]
theorem lcz {a b : Int64} (h : a = b) : lg_cmp a b = 0 := by
  subst h
  unfold lg_cmp
  simp
theorem lexit {len q : Nat} (h1 : len ≤ 2048) (h2 : q ≤ 2052) : nI len - nI 4 < nI q ↔ len < q + 4 := by
  rw [Int32.lt_iff_toInt_lt, Int32.toInt_sub, nI_toInt (by omega), nI_toInt (by omega), nI_toInt (by omega)]
  have e : ((len : Int) - (4 : Nat)).bmod (2 ^ 32) = (len : Int) - 4 := Int.bmod_eq_of_le (by omega) (by omega)
  rw [e]
  omega
