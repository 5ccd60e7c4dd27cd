/-! ===== locals in another order ===== -/
theorem j_pick (ks' : List Nat) {p : Program} {l : Launch} {e : Env} {R : Room} {s : State} {m : MethodId} {args : Array Value} {below : List Frame} {meth : Method} {c : Code} {D : va_G} {cA : Nat → ClassId} {b nL : Nat} {Q : State → Prop} {n : Nat} {h : AH} {kc ks pc : Nat} {L L' : List (Nat × Value)} {st : List Value} (hL : lv_pick L ks' = L') (k : J p l e R s m args below meth c D cA b nL Q n h kc ks pc L' st) : J p l e R s m args below meth c D cA b nL Q n h kc ks pc L st := by
  intro H locs ls hp hS hl
  refine k H locs ls hp hS ⟨hl.1, hl.2.1, fun q hq => hl.2.2 q ?_⟩
  rw [← hL] at hq
  obtain ⟨q0, h1, rfl⟩ := List.mem_map.mp hq
  obtain ⟨i, -, h2⟩ := List.mem_filterMap.mp h1
  exact List.mem_map.mpr ⟨q0, List.mem_of_getElem? h2, rfl⟩
theorem j_widen {p : Program} {l : Launch} {e : Env} {R : Room} {s : State} {m : MethodId} {args : Array Value} {below : List Frame} {meth : Method} {c : Code} {D : va_G} {cA : Nat → ClassId} {b nL : Nat} {Q : State → Prop} {n : Nat} {h : AH} {kc ks kc' ks' pc : Nat} {L : List (Nat × Value)} {st : List Value} (h1 : kc ≤ kc') (h2 : ks ≤ ks') (k : J p l e R s m args below meth c D cA b nL Q n h kc' ks' pc L st) : J p l e R s m args below meth c D cA b nL Q n h kc ks pc L st :=
  fun H locs ls hp hS hl => W.widen h1 h2 (k H locs ls hp hS hl)
