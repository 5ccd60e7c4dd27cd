section JR
variable {p : Program} {l : Launch} {e : Env} {R : Room} {s : State} {m : MethodId} {args : Array Value} {below : List Frame} {meth : Method} {c : Code} {D : va_G} {cA : Nat → ClassId} {b nL : Nat} {Q : State → Prop} {n : Nat} {h : AH} {kc ks pc : Nat} {L : List (Nat × Value)} {st : List Value} {own mn : String} {cc : ByteArray} {ret : Option FieldType} {hh : List (Nat × Nat × Nat × Nat)}
theorem j_iconst (C : Cx p l s m meth c D cA b nL own mn cc ret hh) {z : Int} {v : Int32} (hd : decode cc pc = .ok (.iconst z, 1)) (hv : Int32.ofInt z = v) (k : J p l e R s m args below meth c D cA b nL Q n h kc ks (pc + 1) L (.int v :: st)) : J p l e R s m args below meth c D cA b nL Q n h kc ks pc L st :=
  fun H locs ls hp hS hl => lv_iconst C.1 C.2.1 hd hv (k H locs ls hp hS hl)
theorem j_bipush (C : Cx p l s m meth c D cA b nL own mn cc ret hh) {z : Int} {v : Int32} (hd : decode cc pc = .ok (.bipush z, 2)) (hv : (Int8.ofInt z).toInt32 = v) (k : J p l e R s m args below meth c D cA b nL Q n h kc ks (pc + 2) L (.int v :: st)) : J p l e R s m args below meth c D cA b nL Q n h kc ks pc L st :=
  fun H locs ls hp hS hl => lv_bipush C.1 C.2.1 hd hv (k H locs ls hp hS hl)
theorem j_sipush (C : Cx p l s m meth c D cA b nL own mn cc ret hh) {z : Int} {v : Int32} (hd : decode cc pc = .ok (.sipush z, 3)) (hv : (Int16.ofInt z).toInt32 = v) (k : J p l e R s m args below meth c D cA b nL Q n h kc ks (pc + 3) L (.int v :: st)) : J p l e R s m args below meth c D cA b nL Q n h kc ks pc L st :=
  fun H locs ls hp hS hl => lv_sipush C.1 C.2.1 hd hv (k H locs ls hp hS hl)
theorem j_lconst (C : Cx p l s m meth c D cA b nL own mn cc ret hh) {z : Fin 2} {v : Int64} (hd : decode cc pc = .ok (.lconst z, 1)) (hv : Int64.ofNat (z : Nat) = v) (k : J p l e R s m args below meth c D cA b nL Q n h kc ks (pc + 1) L (.long v :: st)) : J p l e R s m args below meth c D cA b nL Q n h kc ks pc L st :=
  fun H locs ls hp hS hl => lv_lconst C.1 C.2.1 hd hv (k H locs ls hp hS hl)
theorem j_null (C : Cx p l s m meth c D cA b nL own mn cc ret hh)  (hd : decode cc pc = .ok (.aconst_null, 1))  (k : J p l e R s m args below meth c D cA b nL Q n h kc ks (pc + 1) L (.null :: st)) : J p l e R s m args below meth c D cA b nL Q n h kc ks pc L st :=
  fun H locs ls hp hS hl => lv_null C.1 C.2.1 hd (k H locs ls hp hS hl)
theorem j_iload_n (C : Cx p l s m meth c D cA b nL own mn cc ret hh) {i : Fin 4} {j : Nat} {x : Int32} (hd : decode cc pc = .ok (.iload_n i, 1)) (hi : (i : Nat) = j) (hx : List.lookup j L = some (.int x)) (k : J p l e R s m args below meth c D cA b nL Q n h kc ks (pc + 1) L (.int x :: st)) : J p l e R s m args below meth c D cA b nL Q n h kc ks pc L st :=
  fun H locs ls hp hS hl => lv_iload_n C.1 C.2.1 hd hi (sL_at hl hx) (k H locs ls hp hS hl)
theorem j_iload (C : Cx p l s m meth c D cA b nL own mn cc ret hh) {i : Nat} {x : Int32} (hd : decode cc pc = .ok (.iload i, 2)) (hx : List.lookup i L = some (.int x)) (k : J p l e R s m args below meth c D cA b nL Q n h kc ks (pc + 2) L (.int x :: st)) : J p l e R s m args below meth c D cA b nL Q n h kc ks pc L st :=
  fun H locs ls hp hS hl => lv_iload C.1 C.2.1 hd (sL_at hl hx) (k H locs ls hp hS hl)
theorem j_lload_n (C : Cx p l s m meth c D cA b nL own mn cc ret hh) {i : Fin 4} {j : Nat} {x : Int64} (hd : decode cc pc = .ok (.lload_n i, 1)) (hi : (i : Nat) = j) (hx : List.lookup j L = some (.long x)) (k : J p l e R s m args below meth c D cA b nL Q n h kc ks (pc + 1) L (.long x :: st)) : J p l e R s m args below meth c D cA b nL Q n h kc ks pc L st :=
  fun H locs ls hp hS hl => lv_lload_n C.1 C.2.1 hd hi (sL_at hl hx) (k H locs ls hp hS hl)
theorem j_lload (C : Cx p l s m meth c D cA b nL own mn cc ret hh) {i : Nat} {x : Int64} (hd : decode cc pc = .ok (.lload i, 2)) (hx : List.lookup i L = some (.long x)) (k : J p l e R s m args below meth c D cA b nL Q n h kc ks (pc + 2) L (.long x :: st)) : J p l e R s m args below meth c D cA b nL Q n h kc ks pc L st :=
  fun H locs ls hp hS hl => lv_lload C.1 C.2.1 hd (sL_at hl hx) (k H locs ls hp hS hl)
theorem j_aload_n (C : Cx p l s m meth c D cA b nL own mn cc ret hh) {i : Fin 4} {j : Nat} {x : Nat} (hd : decode cc pc = .ok (.aload_n i, 1)) (hi : (i : Nat) = j) (hx : List.lookup j L = some (.ref x)) (k : J p l e R s m args below meth c D cA b nL Q n h kc ks (pc + 1) L (.ref x :: st)) : J p l e R s m args below meth c D cA b nL Q n h kc ks pc L st :=
  fun H locs ls hp hS hl => lv_aload_n C.1 C.2.1 hd hi (sL_at hl hx) (k H locs ls hp hS hl)
theorem j_aload (C : Cx p l s m meth c D cA b nL own mn cc ret hh) {i : Nat} {x : Nat} (hd : decode cc pc = .ok (.aload i, 2)) (hx : List.lookup i L = some (.ref x)) (k : J p l e R s m args below meth c D cA b nL Q n h kc ks (pc + 2) L (.ref x :: st)) : J p l e R s m args below meth c D cA b nL Q n h kc ks pc L st :=
  fun H locs ls hp hS hl => lv_aload C.1 C.2.1 hd (sL_at hl hx) (k H locs ls hp hS hl)
theorem j_istore_n (C : Cx p l s m meth c D cA b nL own mn cc ret hh) {i : Fin 4} {j : Nat} {x : Int32} {L' : List (Nat × Value)} (hd : decode cc pc = .ok (.istore_n i, 1)) (hi : (i : Nat) = j) (hn : j < nL) (hL : sT L j (.int x) = L') (k : J p l e R s m args below meth c D cA b nL Q n h kc ks (pc + 1) L' st) : J p l e R s m args below meth c D cA b nL Q n h kc ks pc L (.int x :: st) := by
  intro H locs ls hp hS hl
  subst hL
  exact lv_istore_n C.1 C.2.1 hd hi hl hn (sL_sT b L j (.int x)) (fun ls hl => k H locs ls hp hS hl)
theorem j_istore (C : Cx p l s m meth c D cA b nL own mn cc ret hh) {i : Nat} {x : Int32} {L' : List (Nat × Value)} (hd : decode cc pc = .ok (.istore i, 2)) (hn : i < nL) (hL : sT L i (.int x) = L') (k : J p l e R s m args below meth c D cA b nL Q n h kc ks (pc + 2) L' st) : J p l e R s m args below meth c D cA b nL Q n h kc ks pc L (.int x :: st) := by
  intro H locs ls hp hS hl
  subst hL
  exact lv_istore C.1 C.2.1 hd hl hn (sL_sT b L i (.int x)) (fun ls hl => k H locs ls hp hS hl)
theorem j_astore_n (C : Cx p l s m meth c D cA b nL own mn cc ret hh) {i : Fin 4} {j : Nat} {x : Nat} {L' : List (Nat × Value)} (hd : decode cc pc = .ok (.astore_n i, 1)) (hi : (i : Nat) = j) (hn : j < nL) (hL : sT L j (.ref x) = L') (k : J p l e R s m args below meth c D cA b nL Q n h kc ks (pc + 1) L' st) : J p l e R s m args below meth c D cA b nL Q n h kc ks pc L (.ref x :: st) := by
  intro H locs ls hp hS hl
  subst hL
  exact lv_astore_n C.1 C.2.1 hd hi hl hn (sL_sT b L j (.ref x)) (fun ls hl => k H locs ls hp hS hl)
theorem j_astore (C : Cx p l s m meth c D cA b nL own mn cc ret hh) {i : Nat} {x : Nat} {L' : List (Nat × Value)} (hd : decode cc pc = .ok (.astore i, 2)) (hn : i < nL) (hL : sT L i (.ref x) = L') (k : J p l e R s m args below meth c D cA b nL Q n h kc ks (pc + 2) L' st) : J p l e R s m args below meth c D cA b nL Q n h kc ks pc L (.ref x :: st) := by
  intro H locs ls hp hS hl
  subst hL
  exact lv_astore C.1 C.2.1 hd hl hn (sL_sT b L i (.ref x)) (fun ls hl => k H locs ls hp hS hl)
theorem j_lstore_n (C : Cx p l s m meth c D cA b nL own mn cc ret hh) {i : Fin 4} {j : Nat} {x : Int64} {L' : List (Nat × Value)} (hd : decode cc pc = .ok (.lstore_n i, 1)) (hi : (i : Nat) = j) (hn : j + 1 < nL) (hL : sT2 L j (.long x) = L') (k : J p l e R s m args below meth c D cA b nL Q n h kc ks (pc + 1) L' st) : J p l e R s m args below meth c D cA b nL Q n h kc ks pc L (.long x :: st) := by
  intro H locs ls hp hS hl
  subst hL
  exact lv_lstore_n C.1 C.2.1 hd hi hl hn (sL_sT2 b L j (.long x)) (fun ls hl => k H locs ls hp hS hl)
theorem j_lstore (C : Cx p l s m meth c D cA b nL own mn cc ret hh) {i : Nat} {x : Int64} {L' : List (Nat × Value)} (hd : decode cc pc = .ok (.lstore i, 2)) (hn : i + 1 < nL) (hL : sT2 L i (.long x) = L') (k : J p l e R s m args below meth c D cA b nL Q n h kc ks (pc + 2) L' st) : J p l e R s m args below meth c D cA b nL Q n h kc ks pc L (.long x :: st) := by
  intro H locs ls hp hS hl
  subst hL
  exact lv_lstore C.1 C.2.1 hd hl hn (sL_sT2 b L i (.long x)) (fun ls hl => k H locs ls hp hS hl)
theorem j_iinc (C : Cx p l s m meth c D cA b nL own mn cc ret hh) {i : Nat} {z : Int} {x v : Int32} {L' : List (Nat × Value)} (hd : decode cc pc = .ok (.iinc i z, 3)) (hx : List.lookup i L = some (.int x)) (hv : x + Int32.ofInt z = v) (hn : i < nL) (hL : sT L i (.int v) = L') (k : J p l e R s m args below meth c D cA b nL Q n h kc ks (pc + 3) L' st) : J p l e R s m args below meth c D cA b nL Q n h kc ks pc L st := by
  intro H locs ls hp hS hl
  subst hL
  obtain ⟨q, hq⟩ := List.getElem?_of_mem (show (i, Value.int x) ∈ sL b L from List.mem_map.mpr ⟨(i, .int x), lk_mem hx, rfl⟩)
  exact lv_iinc C.1 C.2.1 hd hl hq hv hn (sL_sT b L i (.int v)) (fun ls hl => k H locs ls hp hS hl)
theorem j_iadd (C : Cx p l s m meth c D cA b nL own mn cc ret hh) {x y : Int32} (hd : decode cc pc = .ok (.iadd, 1))  (k : J p l e R s m args below meth c D cA b nL Q n h kc ks (pc + 1) L (.int (x + y) :: st)) : J p l e R s m args below meth c D cA b nL Q n h kc ks pc L (.int y :: .int x :: st) :=
  fun H locs ls hp hS hl => lv_iadd C.1 C.2.1 hd (k H locs ls hp hS hl)
theorem j_isub (C : Cx p l s m meth c D cA b nL own mn cc ret hh) {x y : Int32} (hd : decode cc pc = .ok (.isub, 1))  (k : J p l e R s m args below meth c D cA b nL Q n h kc ks (pc + 1) L (.int (x - y) :: st)) : J p l e R s m args below meth c D cA b nL Q n h kc ks pc L (.int y :: .int x :: st) :=
  fun H locs ls hp hS hl => lv_isub C.1 C.2.1 hd (k H locs ls hp hS hl)
theorem j_imul (C : Cx p l s m meth c D cA b nL own mn cc ret hh) {x y : Int32} (hd : decode cc pc = .ok (.imul, 1))  (k : J p l e R s m args below meth c D cA b nL Q n h kc ks (pc + 1) L (.int (x * y) :: st)) : J p l e R s m args below meth c D cA b nL Q n h kc ks pc L (.int y :: .int x :: st) :=
  fun H locs ls hp hS hl => lv_imul C.1 C.2.1 hd (k H locs ls hp hS hl)
theorem j_iand (C : Cx p l s m meth c D cA b nL own mn cc ret hh) {x y : Int32} (hd : decode cc pc = .ok (.iand, 1))  (k : J p l e R s m args below meth c D cA b nL Q n h kc ks (pc + 1) L (.int (x &&& y) :: st)) : J p l e R s m args below meth c D cA b nL Q n h kc ks pc L (.int y :: .int x :: st) :=
  fun H locs ls hp hS hl => lv_iand C.1 C.2.1 hd (k H locs ls hp hS hl)
theorem j_ior (C : Cx p l s m meth c D cA b nL own mn cc ret hh) {x y : Int32} (hd : decode cc pc = .ok (.ior, 1))  (k : J p l e R s m args below meth c D cA b nL Q n h kc ks (pc + 1) L (.int (x ||| y) :: st)) : J p l e R s m args below meth c D cA b nL Q n h kc ks pc L (.int y :: .int x :: st) :=
  fun H locs ls hp hS hl => lv_ior C.1 C.2.1 hd (k H locs ls hp hS hl)
theorem j_ixor (C : Cx p l s m meth c D cA b nL own mn cc ret hh) {x y : Int32} (hd : decode cc pc = .ok (.ixor, 1))  (k : J p l e R s m args below meth c D cA b nL Q n h kc ks (pc + 1) L (.int (x ^^^ y) :: st)) : J p l e R s m args below meth c D cA b nL Q n h kc ks pc L (.int y :: .int x :: st) :=
  fun H locs ls hp hS hl => lv_ixor C.1 C.2.1 hd (k H locs ls hp hS hl)
theorem j_ladd (C : Cx p l s m meth c D cA b nL own mn cc ret hh) {x y : Int64} (hd : decode cc pc = .ok (.ladd, 1))  (k : J p l e R s m args below meth c D cA b nL Q n h kc ks (pc + 1) L (.long (x + y) :: st)) : J p l e R s m args below meth c D cA b nL Q n h kc ks pc L (.long y :: .long x :: st) :=
  fun H locs ls hp hS hl => lv_ladd C.1 C.2.1 hd (k H locs ls hp hS hl)
theorem j_lsub (C : Cx p l s m meth c D cA b nL own mn cc ret hh) {x y : Int64} (hd : decode cc pc = .ok (.lsub, 1))  (k : J p l e R s m args below meth c D cA b nL Q n h kc ks (pc + 1) L (.long (x - y) :: st)) : J p l e R s m args below meth c D cA b nL Q n h kc ks pc L (.long y :: .long x :: st) :=
  fun H locs ls hp hS hl => lv_lsub C.1 C.2.1 hd (k H locs ls hp hS hl)
theorem j_lmul (C : Cx p l s m meth c D cA b nL own mn cc ret hh) {x y : Int64} (hd : decode cc pc = .ok (.lmul, 1))  (k : J p l e R s m args below meth c D cA b nL Q n h kc ks (pc + 1) L (.long (x * y) :: st)) : J p l e R s m args below meth c D cA b nL Q n h kc ks pc L (.long y :: .long x :: st) :=
  fun H locs ls hp hS hl => lv_lmul C.1 C.2.1 hd (k H locs ls hp hS hl)
theorem j_land (C : Cx p l s m meth c D cA b nL own mn cc ret hh) {x y : Int64} (hd : decode cc pc = .ok (.land, 1))  (k : J p l e R s m args below meth c D cA b nL Q n h kc ks (pc + 1) L (.long (x &&& y) :: st)) : J p l e R s m args below meth c D cA b nL Q n h kc ks pc L (.long y :: .long x :: st) :=
  fun H locs ls hp hS hl => lv_land C.1 C.2.1 hd (k H locs ls hp hS hl)
theorem j_lor (C : Cx p l s m meth c D cA b nL own mn cc ret hh) {x y : Int64} (hd : decode cc pc = .ok (.lor, 1))  (k : J p l e R s m args below meth c D cA b nL Q n h kc ks (pc + 1) L (.long (x ||| y) :: st)) : J p l e R s m args below meth c D cA b nL Q n h kc ks pc L (.long y :: .long x :: st) :=
  fun H locs ls hp hS hl => lv_lor C.1 C.2.1 hd (k H locs ls hp hS hl)
theorem j_lxor (C : Cx p l s m meth c D cA b nL own mn cc ret hh) {x y : Int64} (hd : decode cc pc = .ok (.lxor, 1))  (k : J p l e R s m args below meth c D cA b nL Q n h kc ks (pc + 1) L (.long (x ^^^ y) :: st)) : J p l e R s m args below meth c D cA b nL Q n h kc ks pc L (.long y :: .long x :: st) :=
  fun H locs ls hp hS hl => lv_lxor C.1 C.2.1 hd (k H locs ls hp hS hl)
theorem j_idiv (C : Cx p l s m meth c D cA b nL own mn cc ret hh) {x y : Int32} (hd : decode cc pc = .ok (.idiv, 1)) (hne : ¬ y = 0) (k : J p l e R s m args below meth c D cA b nL Q n h kc ks (pc + 1) L (.int (x / y) :: st)) : J p l e R s m args below meth c D cA b nL Q n h kc ks pc L (.int y :: .int x :: st) :=
  fun H locs ls hp hS hl => lv_idiv C.1 C.2.1 hd hne (k H locs ls hp hS hl)
theorem j_irem (C : Cx p l s m meth c D cA b nL own mn cc ret hh) {x y : Int32} (hd : decode cc pc = .ok (.irem, 1)) (hne : ¬ y = 0) (k : J p l e R s m args below meth c D cA b nL Q n h kc ks (pc + 1) L (.int (x - x / y * y) :: st)) : J p l e R s m args below meth c D cA b nL Q n h kc ks pc L (.int y :: .int x :: st) :=
  fun H locs ls hp hS hl => lv_irem C.1 C.2.1 hd hne (k H locs ls hp hS hl)
theorem j_ineg (C : Cx p l s m meth c D cA b nL own mn cc ret hh) {x : Int32} (hd : decode cc pc = .ok (.ineg, 1))  (k : J p l e R s m args below meth c D cA b nL Q n h kc ks (pc + 1) L (.int (-x) :: st)) : J p l e R s m args below meth c D cA b nL Q n h kc ks pc L (.int x :: st) :=
  fun H locs ls hp hS hl => lv_ineg C.1 C.2.1 hd (k H locs ls hp hS hl)
theorem j_ishl (C : Cx p l s m meth c D cA b nL own mn cc ret hh) {x y : Int32} (hd : decode cc pc = .ok (.ishl, 1))  (k : J p l e R s m args below meth c D cA b nL Q n h kc ks (pc + 1) L (.int (x <<< (y &&& 31)) :: st)) : J p l e R s m args below meth c D cA b nL Q n h kc ks pc L (.int y :: .int x :: st) :=
  fun H locs ls hp hS hl => lv_ishl C.1 C.2.1 hd (k H locs ls hp hS hl)
theorem j_ishr (C : Cx p l s m meth c D cA b nL own mn cc ret hh) {x y : Int32} (hd : decode cc pc = .ok (.ishr, 1))  (k : J p l e R s m args below meth c D cA b nL Q n h kc ks (pc + 1) L (.int (x >>> (y &&& 31)) :: st)) : J p l e R s m args below meth c D cA b nL Q n h kc ks pc L (.int y :: .int x :: st) :=
  fun H locs ls hp hS hl => lv_ishr C.1 C.2.1 hd (k H locs ls hp hS hl)
theorem j_iushr (C : Cx p l s m meth c D cA b nL own mn cc ret hh) {x y v : Int32} (hd : decode cc pc = .ok (.iushr, 1)) (hv : (x.toUInt32 >>> (y.toUInt32 &&& Int32.toUInt32 31)).toInt32 = v) (k : J p l e R s m args below meth c D cA b nL Q n h kc ks (pc + 1) L (.int v :: st)) : J p l e R s m args below meth c D cA b nL Q n h kc ks pc L (.int y :: .int x :: st) :=
  fun H locs ls hp hS hl => lv_iushr C.1 C.2.1 hd hv (k H locs ls hp hS hl)
theorem j_lushr (C : Cx p l s m meth c D cA b nL own mn cc ret hh) {x v : Int64} {y : Int32} (hd : decode cc pc = .ok (.lushr, 1)) (hv : (x.toUInt64 >>> (y.toInt64.toUInt64 &&& Int64.toUInt64 63)).toInt64 = v) (k : J p l e R s m args below meth c D cA b nL Q n h kc ks (pc + 1) L (.long v :: st)) : J p l e R s m args below meth c D cA b nL Q n h kc ks pc L (.int y :: .long x :: st) :=
  fun H locs ls hp hS hl => lv_lushr C.1 C.2.1 hd hv (k H locs ls hp hS hl)
theorem j_lshl (C : Cx p l s m meth c D cA b nL own mn cc ret hh) {x v : Int64} {y : Int32} (hd : decode cc pc = .ok (.lshl, 1)) (hv : x <<< (y.toInt64 &&& 63) = v) (k : J p l e R s m args below meth c D cA b nL Q n h kc ks (pc + 1) L (.long v :: st)) : J p l e R s m args below meth c D cA b nL Q n h kc ks pc L (.int y :: .long x :: st) :=
  fun H locs ls hp hS hl => lv_lshl C.1 C.2.1 hd hv (k H locs ls hp hS hl)
theorem j_i2l (C : Cx p l s m meth c D cA b nL own mn cc ret hh) {x : Int32} {v : Int64} (hd : decode cc pc = .ok (.i2l, 1)) (hv : x.toInt64 = v) (k : J p l e R s m args below meth c D cA b nL Q n h kc ks (pc + 1) L (.long v :: st)) : J p l e R s m args below meth c D cA b nL Q n h kc ks pc L (.int x :: st) :=
  fun H locs ls hp hS hl => lv_i2l C.1 C.2.1 hd hv (k H locs ls hp hS hl)
theorem j_l2i (C : Cx p l s m meth c D cA b nL own mn cc ret hh) {x : Int64} {v : Int32} (hd : decode cc pc = .ok (.l2i, 1)) (hv : x.toInt32 = v) (k : J p l e R s m args below meth c D cA b nL Q n h kc ks (pc + 1) L (.int v :: st)) : J p l e R s m args below meth c D cA b nL Q n h kc ks pc L (.long x :: st) :=
  fun H locs ls hp hS hl => lv_l2i C.1 C.2.1 hd hv (k H locs ls hp hS hl)
theorem j_i2b (C : Cx p l s m meth c D cA b nL own mn cc ret hh) {x v : Int32} (hd : decode cc pc = .ok (.i2b, 1)) (hv : x.toInt8.toInt32 = v) (k : J p l e R s m args below meth c D cA b nL Q n h kc ks (pc + 1) L (.int v :: st)) : J p l e R s m args below meth c D cA b nL Q n h kc ks pc L (.int x :: st) :=
  fun H locs ls hp hS hl => lv_i2b C.1 C.2.1 hd hv (k H locs ls hp hS hl)
theorem j_i2c (C : Cx p l s m meth c D cA b nL own mn cc ret hh) {x v : Int32} (hd : decode cc pc = .ok (.i2c, 1)) (hv : (x.toUInt32 % 65536).toInt32 = v) (k : J p l e R s m args below meth c D cA b nL Q n h kc ks (pc + 1) L (.int v :: st)) : J p l e R s m args below meth c D cA b nL Q n h kc ks pc L (.int x :: st) :=
  fun H locs ls hp hS hl => lv_i2c C.1 C.2.1 hd hv (k H locs ls hp hS hl)
theorem j_dup (C : Cx p l s m meth c D cA b nL own mn cc ret hh) {v : Value} (hd : decode cc pc = .ok (.dup, 1)) (hv : v.category = 1) (k : J p l e R s m args below meth c D cA b nL Q n h kc ks (pc + 1) L (v :: v :: st)) : J p l e R s m args below meth c D cA b nL Q n h kc ks pc L (v :: st) :=
  fun H locs ls hp hS hl => lv_dup C.1 C.2.1 hd ((sv_cat b v).trans hv) (k H locs ls hp hS hl)
theorem j_pop (C : Cx p l s m meth c D cA b nL own mn cc ret hh) {v : Value} (hd : decode cc pc = .ok (.pop, 1)) (hv : v.category = 1) (k : J p l e R s m args below meth c D cA b nL Q n h kc ks (pc + 1) L st) : J p l e R s m args below meth c D cA b nL Q n h kc ks pc L (v :: st) :=
  fun H locs ls hp hS hl => lv_pop C.1 C.2.1 hd ((sv_cat b v).trans hv) (k H locs ls hp hS hl)
theorem j_dup_x1 (C : Cx p l s m meth c D cA b nL own mn cc ret hh) {v w : Value} (hd : decode cc pc = .ok (.dup_x1, 1)) (hv : v.category = 1) (hw : w.category = 1) (k : J p l e R s m args below meth c D cA b nL Q n h kc ks (pc + 1) L (v :: w :: v :: st)) : J p l e R s m args below meth c D cA b nL Q n h kc ks pc L (v :: w :: st) :=
  fun H locs ls hp hS hl => lv_dup_x1 C.1 C.2.1 hd ((sv_cat b v).trans hv) ((sv_cat b w).trans hw) (k H locs ls hp hS hl)
theorem j_dup_x2 (C : Cx p l s m meth c D cA b nL own mn cc ret hh) {v w z : Value} (hd : decode cc pc = .ok (.dup_x2, 1)) (hv : v.category = 1) (hw : w.category = 1) (hz : z.category = 1) (k : J p l e R s m args below meth c D cA b nL Q n h kc ks (pc + 1) L (v :: w :: z :: v :: st)) : J p l e R s m args below meth c D cA b nL Q n h kc ks pc L (v :: w :: z :: st) :=
  fun H locs ls hp hS hl => lv_dup_x2 C.1 C.2.1 hd ((sv_cat b v).trans hv) ((sv_cat b w).trans hw) ((sv_cat b z).trans hz) (k H locs ls hp hS hl)
theorem j_dup2 (C : Cx p l s m meth c D cA b nL own mn cc ret hh) {v w : Value} (hd : decode cc pc = .ok (.dup2, 1)) (hv : v.category = 1) (hw : w.category = 1) (k : J p l e R s m args below meth c D cA b nL Q n h kc ks (pc + 1) L (v :: w :: v :: w :: st)) : J p l e R s m args below meth c D cA b nL Q n h kc ks pc L (v :: w :: st) :=
  fun H locs ls hp hS hl => lv_dup2_11 C.1 C.2.1 hd ((sv_cat b v).trans hv) ((sv_cat b w).trans hw) (k H locs ls hp hS hl)
theorem j_goto (C : Cx p l s m meth c D cA b nL own mn cc ret hh) {z : Int} {tgt : Nat} (hd : decode cc pc = .ok (.goto z, 3)) (ht : (pc : Int) + z = (tgt : Int)) (k : J p l e R s m args below meth c D cA b nL Q n h kc ks tgt L st) : J p l e R s m args below meth c D cA b nL Q n h kc ks pc L st :=
  fun H locs ls hp hS hl => lv_goto C.1 C.2.1 hd ht (k H locs ls hp hS hl)
theorem j_if_eq (C : Cx p l s m meth c D cA b nL own mn cc ret hh) {x : Int32} {z : Int} {tgt : Nat} (hd : decode cc pc = .ok (.ifCond .eq z, 3)) (ht : (pc : Int) + z = (tgt : Int)) (k1 : x = 0 → J p l e R s m args below meth c D cA b nL Q n h kc ks tgt L st) (k2 : ¬ x = 0 → J p l e R s m args below meth c D cA b nL Q n h kc ks (pc + 3) L st) : J p l e R s m args below meth c D cA b nL Q n h kc ks pc L (.int x :: st) :=
  fun H locs ls hp hS hl => lv_if_eq C.1 C.2.1 hd ht (fun q => k1 q H locs ls hp hS hl) (fun q => k2 q H locs ls hp hS hl)
theorem j_icmp_eq (C : Cx p l s m meth c D cA b nL own mn cc ret hh) {x y : Int32} {z : Int} {tgt : Nat} (hd : decode cc pc = .ok (.if_icmp .eq z, 3)) (ht : (pc : Int) + z = (tgt : Int)) (k1 : x = y → J p l e R s m args below meth c D cA b nL Q n h kc ks tgt L st) (k2 : ¬ x = y → J p l e R s m args below meth c D cA b nL Q n h kc ks (pc + 3) L st) : J p l e R s m args below meth c D cA b nL Q n h kc ks pc L (.int y :: .int x :: st) :=
  fun H locs ls hp hS hl => lv_icmp_eq C.1 C.2.1 hd ht (fun q => k1 q H locs ls hp hS hl) (fun q => k2 q H locs ls hp hS hl)
theorem j_if_ne (C : Cx p l s m meth c D cA b nL own mn cc ret hh) {x : Int32} {z : Int} {tgt : Nat} (hd : decode cc pc = .ok (.ifCond .ne z, 3)) (ht : (pc : Int) + z = (tgt : Int)) (k1 : ¬ x = 0 → J p l e R s m args below meth c D cA b nL Q n h kc ks tgt L st) (k2 : x = 0 → J p l e R s m args below meth c D cA b nL Q n h kc ks (pc + 3) L st) : J p l e R s m args below meth c D cA b nL Q n h kc ks pc L (.int x :: st) :=
  fun H locs ls hp hS hl => lv_if_ne C.1 C.2.1 hd ht (fun q => k1 q H locs ls hp hS hl) (fun q => k2 q H locs ls hp hS hl)
theorem j_icmp_ne (C : Cx p l s m meth c D cA b nL own mn cc ret hh) {x y : Int32} {z : Int} {tgt : Nat} (hd : decode cc pc = .ok (.if_icmp .ne z, 3)) (ht : (pc : Int) + z = (tgt : Int)) (k1 : ¬ x = y → J p l e R s m args below meth c D cA b nL Q n h kc ks tgt L st) (k2 : x = y → J p l e R s m args below meth c D cA b nL Q n h kc ks (pc + 3) L st) : J p l e R s m args below meth c D cA b nL Q n h kc ks pc L (.int y :: .int x :: st) :=
  fun H locs ls hp hS hl => lv_icmp_ne C.1 C.2.1 hd ht (fun q => k1 q H locs ls hp hS hl) (fun q => k2 q H locs ls hp hS hl)
theorem j_if_lt (C : Cx p l s m meth c D cA b nL own mn cc ret hh) {x : Int32} {z : Int} {tgt : Nat} (hd : decode cc pc = .ok (.ifCond .lt z, 3)) (ht : (pc : Int) + z = (tgt : Int)) (k1 : x < 0 → J p l e R s m args below meth c D cA b nL Q n h kc ks tgt L st) (k2 : ¬ x < 0 → J p l e R s m args below meth c D cA b nL Q n h kc ks (pc + 3) L st) : J p l e R s m args below meth c D cA b nL Q n h kc ks pc L (.int x :: st) :=
  fun H locs ls hp hS hl => lv_if_lt C.1 C.2.1 hd ht (fun q => k1 q H locs ls hp hS hl) (fun q => k2 q H locs ls hp hS hl)
theorem j_icmp_lt (C : Cx p l s m meth c D cA b nL own mn cc ret hh) {x y : Int32} {z : Int} {tgt : Nat} (hd : decode cc pc = .ok (.if_icmp .lt z, 3)) (ht : (pc : Int) + z = (tgt : Int)) (k1 : x < y → J p l e R s m args below meth c D cA b nL Q n h kc ks tgt L st) (k2 : ¬ x < y → J p l e R s m args below meth c D cA b nL Q n h kc ks (pc + 3) L st) : J p l e R s m args below meth c D cA b nL Q n h kc ks pc L (.int y :: .int x :: st) :=
  fun H locs ls hp hS hl => lv_icmp_lt C.1 C.2.1 hd ht (fun q => k1 q H locs ls hp hS hl) (fun q => k2 q H locs ls hp hS hl)
theorem j_if_ge (C : Cx p l s m meth c D cA b nL own mn cc ret hh) {x : Int32} {z : Int} {tgt : Nat} (hd : decode cc pc = .ok (.ifCond .ge z, 3)) (ht : (pc : Int) + z = (tgt : Int)) (k1 : 0 ≤ x → J p l e R s m args below meth c D cA b nL Q n h kc ks tgt L st) (k2 : ¬ 0 ≤ x → J p l e R s m args below meth c D cA b nL Q n h kc ks (pc + 3) L st) : J p l e R s m args below meth c D cA b nL Q n h kc ks pc L (.int x :: st) :=
  fun H locs ls hp hS hl => lv_if_ge C.1 C.2.1 hd ht (fun q => k1 q H locs ls hp hS hl) (fun q => k2 q H locs ls hp hS hl)
theorem j_icmp_ge (C : Cx p l s m meth c D cA b nL own mn cc ret hh) {x y : Int32} {z : Int} {tgt : Nat} (hd : decode cc pc = .ok (.if_icmp .ge z, 3)) (ht : (pc : Int) + z = (tgt : Int)) (k1 : y ≤ x → J p l e R s m args below meth c D cA b nL Q n h kc ks tgt L st) (k2 : ¬ y ≤ x → J p l e R s m args below meth c D cA b nL Q n h kc ks (pc + 3) L st) : J p l e R s m args below meth c D cA b nL Q n h kc ks pc L (.int y :: .int x :: st) :=
  fun H locs ls hp hS hl => lv_icmp_ge C.1 C.2.1 hd ht (fun q => k1 q H locs ls hp hS hl) (fun q => k2 q H locs ls hp hS hl)
theorem j_if_gt (C : Cx p l s m meth c D cA b nL own mn cc ret hh) {x : Int32} {z : Int} {tgt : Nat} (hd : decode cc pc = .ok (.ifCond .gt z, 3)) (ht : (pc : Int) + z = (tgt : Int)) (k1 : 0 < x → J p l e R s m args below meth c D cA b nL Q n h kc ks tgt L st) (k2 : ¬ 0 < x → J p l e R s m args below meth c D cA b nL Q n h kc ks (pc + 3) L st) : J p l e R s m args below meth c D cA b nL Q n h kc ks pc L (.int x :: st) :=
  fun H locs ls hp hS hl => lv_if_gt C.1 C.2.1 hd ht (fun q => k1 q H locs ls hp hS hl) (fun q => k2 q H locs ls hp hS hl)
theorem j_icmp_gt (C : Cx p l s m meth c D cA b nL own mn cc ret hh) {x y : Int32} {z : Int} {tgt : Nat} (hd : decode cc pc = .ok (.if_icmp .gt z, 3)) (ht : (pc : Int) + z = (tgt : Int)) (k1 : y < x → J p l e R s m args below meth c D cA b nL Q n h kc ks tgt L st) (k2 : ¬ y < x → J p l e R s m args below meth c D cA b nL Q n h kc ks (pc + 3) L st) : J p l e R s m args below meth c D cA b nL Q n h kc ks pc L (.int y :: .int x :: st) :=
  fun H locs ls hp hS hl => lv_icmp_gt C.1 C.2.1 hd ht (fun q => k1 q H locs ls hp hS hl) (fun q => k2 q H locs ls hp hS hl)
theorem j_if_le (C : Cx p l s m meth c D cA b nL own mn cc ret hh) {x : Int32} {z : Int} {tgt : Nat} (hd : decode cc pc = .ok (.ifCond .le z, 3)) (ht : (pc : Int) + z = (tgt : Int)) (k1 : x ≤ 0 → J p l e R s m args below meth c D cA b nL Q n h kc ks tgt L st) (k2 : ¬ x ≤ 0 → J p l e R s m args below meth c D cA b nL Q n h kc ks (pc + 3) L st) : J p l e R s m args below meth c D cA b nL Q n h kc ks pc L (.int x :: st) :=
  fun H locs ls hp hS hl => lv_if_le C.1 C.2.1 hd ht (fun q => k1 q H locs ls hp hS hl) (fun q => k2 q H locs ls hp hS hl)
theorem j_icmp_le (C : Cx p l s m meth c D cA b nL own mn cc ret hh) {x y : Int32} {z : Int} {tgt : Nat} (hd : decode cc pc = .ok (.if_icmp .le z, 3)) (ht : (pc : Int) + z = (tgt : Int)) (k1 : x ≤ y → J p l e R s m args below meth c D cA b nL Q n h kc ks tgt L st) (k2 : ¬ x ≤ y → J p l e R s m args below meth c D cA b nL Q n h kc ks (pc + 3) L st) : J p l e R s m args below meth c D cA b nL Q n h kc ks pc L (.int y :: .int x :: st) :=
  fun H locs ls hp hS hl => lv_icmp_le C.1 C.2.1 hd ht (fun q => k1 q H locs ls hp hS hl) (fun q => k2 q H locs ls hp hS hl)
theorem j_ifnonnull (C : Cx p l s m meth c D cA b nL own mn cc ret hh) {x : Nat} {z : Int} {tgt : Nat} (hd : decode cc pc = .ok (.ifnonnull z, 3)) (ht : (pc : Int) + z = (tgt : Int)) (k : J p l e R s m args below meth c D cA b nL Q n h kc ks tgt L st) : J p l e R s m args below meth c D cA b nL Q n h kc ks pc L (.ref x :: st) :=
  fun H locs ls hp hS hl => lv_ifnonnull C.1 C.2.1 hd ht (k H locs ls hp hS hl)
theorem j_ifnullN (C : Cx p l s m meth c D cA b nL own mn cc ret hh)  {z : Int} {tgt : Nat} (hd : decode cc pc = .ok (.ifnull z, 3)) (ht : (pc : Int) + z = (tgt : Int)) (k : J p l e R s m args below meth c D cA b nL Q n h kc ks tgt L st) : J p l e R s m args below meth c D cA b nL Q n h kc ks pc L (.null :: st) :=
  fun H locs ls hp hS hl => lv_ifnullN C.1 C.2.1 hd ht (k H locs ls hp hS hl)
theorem j_ifnull (C : Cx p l s m meth c D cA b nL own mn cc ret hh) {x : Nat} {z : Int} (hd : decode cc pc = .ok (.ifnull z, 3)) (k : J p l e R s m args below meth c D cA b nL Q n h kc ks (pc + 3) L st) : J p l e R s m args below meth c D cA b nL Q n h kc ks pc L (.ref x :: st) :=
  fun H locs ls hp hS hl => lv_ifnull C.1 C.2.1 hd (k H locs ls hp hS hl)
theorem j_ifnonnullN (C : Cx p l s m meth c D cA b nL own mn cc ret hh)  {z : Int} (hd : decode cc pc = .ok (.ifnonnull z, 3)) (k : J p l e R s m args below meth c D cA b nL Q n h kc ks (pc + 3) L st) : J p l e R s m args below meth c D cA b nL Q n h kc ks pc L (.null :: st) :=
  fun H locs ls hp hS hl => lv_ifnonnullN C.1 C.2.1 hd (k H locs ls hp hS hl)
end JR
