/-! ===== the reference: check, canSign, put: printed by program ===== -/
/-- it returns v, with a heap so that P -/
def Rp (v : Option Value) (n1 : Nat) (P : AH → Prop) : Rz → Nat → AH → Prop := fun r n h => r = .inl v ∧ n = n1 ∧ P h
section JRp
variable {p : Program} {l : Launch} {e : Env} {R : Room} {s : State} {m : MethodId} {args : Array Value} {below : List Frame} {meth : Method} {c : Code} {D : va_G} {cA : Nat → ClassId} {b nL : Nat} {Q : State → Prop} {n : Nat} {kc ks pc : Nat} {L : List (Nat × Value)} {st : List Value}
theorem jk_p {x : Value} {P : AH → Prop} (k : ∀ h, P h → J p l e R s m args below meth c D cA b nL Q n h kc ks (pc + 3) L (x :: st)) : JK p l e R s m args below meth c D cA b nL Q kc ks pc L st (Rp (some x) n P) := by
  refine ⟨fun v' n' h' hq => ?_, fun ci n' h' q hq => by cases hq.1⟩
  obtain ⟨e1, rfl, hp⟩ := hq
  cases e1
  exact k h' hp
theorem jk_pv {P : AH → Prop} (k : ∀ h, P h → J p l e R s m args below meth c D cA b nL Q n h kc ks (pc + 3) L st) : JK p l e R s m args below meth c D cA b nL Q kc ks pc L st (Rp none n P) := by
  refine ⟨fun v' n' h' hq => ?_, fun ci n' h' q hq => by cases hq.1⟩
  obtain ⟨e1, rfl, hp⟩ := hq
  cases e1
  exact k h' hp
end JRp
/-- all the arrays but those of what is wanting -/
def Aw (α1 α : Nat → Nat → Int32) : Prop := ∀ k, k ≠ 35 → k ≠ 36 → α1 k = α k
theorem Aw_e {α1 α : Nat → Nat → Int32} (hA : Aw α1 α) : α1 = upa (upa α 35 (α1 35)) 36 (α1 36) := by
  funext k
  unfold upa
  by_cases e : k = 36
  · rw [if_pos e, e]
  · rw [if_neg e]
    by_cases e2 : k = 35
    · rw [if_pos e2, e2]
    · rw [if_neg e2]
      exact hA k e2 e
theorem mias_u (α : Nat → Nat → Int32) (f g : Nat → Int32) (r : Nat) : ∀ n k, mias (upa (upa α 35 f) 36 g) r n k = mias α r n k := by
  intro n
  induction n with
  | zero => intro k; rfl
  | succ n ih =>
    intro k
    show (if α 23 k ≤ 0 then mias (upa (upa α 35 f) 36 g) r n (k + 1) else if mhas α (nI r) (α 24 k) = 0 then 0 else if α 26 k = 0 then mias (upa (upa α 35 f) 36 g) r n (k + 1) else if mhas α (nI r) (α 25 k) = 0 then 0 else mias (upa (upa α 35 f) 36 g) r n (k + 1)) = _
    rw [ih]
    rfl
theorem rkS_u (α : Nat → Nat → Int32) (f g : Nat → Int32) (r : Nat) : ∀ n k s, rkS (upa (upa α 35 f) 36 g) r n k s = rkS α r n k s := by
  intro n
  induction n with
  | zero => intro k s; rfl
  | succ n ih =>
    intro k s
    show rkS (upa (upa α 35 f) 36 g) r n (k + 1) (rks α r k s) = _
    rw [ih]
    rfl
theorem rkB_u (α : Nat → Nat → Int32) (f g : Nat → Int32) (r : Nat) : ∀ n k s, rkB (upa (upa α 35 f) 36 g) r n k s = rkB α r n k s := by
  intro n
  induction n with
  | zero => intro k s; rfl
  | succ n ih =>
    intro k s
    show rkB (upa (upa α 35 f) 36 g) r n (k + 1) (rkb α r k s) = _
    rw [ih]
    rfl
theorem mvd_u (α : Nat → Nat → Int32) (f g : Nat → Int32) (r q : Nat) : mvd (upa (upa α 35 f) 36 g) r q = mvd α r q := by
  show (if mias (upa (upa α 35 f) 36 g) r 8 (8 * q) = 0 then 0 else if rkB (upa (upa α 35 f) 36 g) r 4 (8 * q + 4) (rkB (upa (upa α 35 f) 36 g) r 4 (8 * q) 0) = 0 then mcmp (α 22 q) (rkS (upa (upa α 35 f) 36 g) r 4 (8 * q) 0) (rkS (upa (upa α 35 f) 36 g) r 4 (8 * q + 4) 0) else 3) = _
  rw [mias_u, rkB_u, rkB_u, rkS_u, rkS_u]
  rfl
theorem mvd_c {α1 α : Nat → Nat → Int32} (hA : Aw α1 α) (r q : Nat) : mvd α1 r q = mvd α r q := by
  rw [Aw_e hA]
  exact mvd_u α _ _ r q
theorem FR_c {α1 α : Nat → Nat → Int32} (hA : Aw α1 α) (hF : FR α) : FR α1 := by
  intro k hk
  rw [hA 24 (by decide) (by decide), hA 25 (by decide) (by decide)]
  exact hF k hk
/-- what is wanting, as the arrays tell it -/
def Wl (α : Nat → Nat → Int32) (w : List (Int32 × Int32)) : Prop := ∀ j x, w[j]? = some x → α 35 j = x.1 ∧ α 36 j = x.2
def cki (α : Nat → Nat → Int32) (r kd f : Nat) : List (Int32 × Int32) := if α 14 (20 * kd + f) = 0 then [] else if α 10 (20 * r + f) = 0 then [(1, nI f)] else []
def ckf (α : Nat → Nat → Int32) (r kd : Nat) : Nat → Nat → List (Int32 × Int32)
  | 0, _ => []
  | n + 1, f => cki α r kd f ++ ckf α r kd n (f + 1)
def ckj (α : Nat → Nat → Int32) (r q : Nat) : List (Int32 × Int32) := if mvd α r q ≤ 0 then [] else [(mvd α r q, nI q)]
def ckr (α : Nat → Nat → Int32) (r : Nat) : Nat → Nat → List (Int32 × Int32)
  | 0, _ => []
  | n + 1, q => ckj α r q ++ ckr α r n (q + 1)
def ckl (α : Nat → Nat → Int32) (r kd nq : Nat) : List (Int32 × Int32) := ckf α r kd 20 0 ++ ckr α r nq 0
theorem Wl_nil (α : Nat → Nat → Int32) : Wl α [] := fun j x h => by cases h
theorem Wl_push {σ : Nat → Int32} {α : Nat → Nat → Int32} {w : List (Int32 × Int32)} {x y : Int32} (hw : Wl α w) (hs : σ 34 = nI w.length) (hl : w.length < 40) : Wl (mwanted σ α x y).2 (w ++ [(x, y)]) := by
  intro j z hz
  have hc : (σ 34).toNatClampNeg = w.length := by rw [hs, nI_clamp (by omega)]
  show upd (α 35) (σ 34).toNatClampNeg x j = z.1 ∧ upd (α 36) (σ 34).toNatClampNeg y j = z.2
  rw [hc]
  by_cases e : j = w.length
  · subst e
    rw [List.getElem?_append_right (Nat.le_refl _), Nat.sub_self] at hz
    cases hz
    exact ⟨pk_us, pk_us⟩
  · rw [pk_un e, pk_un e]
    by_cases e2 : j < w.length
    · rw [List.getElem?_append_left e2] at hz
      exact hw j z hz
    · rw [List.getElem?_eq_none (by rw [List.length_append, List.length_singleton]; omega)] at hz
      cases hz
theorem Aw_push {σ : Nat → Int32} {α1 α : Nat → Nat → Int32} {x y : Int32} (hA : Aw α1 α) : Aw (mwanted σ α1 x y).2 α := by
  intro k h1 h2
  show upa (upa α1 35 _) 36 _ k = α k
  rw [upa_n h2, upa_n h1]
  exact hA k h1 h2
theorem len_snoc {τ : Type} (w : List τ) (x : τ) : (w ++ [x]).length = w.length + 1 := by simp
theorem upd_x {f : Nat → Int32} {k j : Nat} {x y : Int32} (h : k ≠ j) : upd (upd f k x) j y = upd (upd f j y) k x := by
  funext i
  by_cases e : i = j
  · subst e
    rw [pk_us, pk_un (Ne.symm h), pk_us]
  · rw [pk_un e]
    by_cases e2 : i = k
    · subst e2; rw [pk_us, pk_us]
    · rw [pk_un e2, pk_un e2, pk_un e]
set_option maxHeartbeats 4000000 in
set_option maxRecDepth 100000 in
theorem c_M_check_r {l : Launch} (hl : l.stackTraces = false) {D : va_G} {cA : Nat → ClassId} {b n mo : Nat} (r : Nat) (σ : Nat → Int32) (α : Nat → Nat → Int32) (h : AH) (hmo : mo + 27 < n) (nr : Nat) (hnr : σ 2 = nI nr) (hle : nr ≤ 30) (hr : r < nr) (kd : Nat) (hkd : α 4 r = nI kd) (hkl : kd < 5) (nq : Nat) (hnq : σ 21 = nI nq) (hql : nq ≤ 20) (hF : FR α) : Cn l D cA b y_M_check k_M_check 3 49 0 0 [.ref mo, .int (nI r)] n (ovM mo σ α h) (Rp (some (.int (nI (ckl α r kd nq).length))) n (fun h' => ∃ (w : Int32) (α1 : Nat → Nat → Int32), h' = ovM mo (upd (upd (upd σ 0 0) 34 (nI (ckl α r kd nq).length)) 33 w) α1 h ∧ Wl α1 (ckl α r kd nq) ∧ Aw α1 α)) := by
  refine Cn.of (cc := b_M_check) (maxL := 3) (ret := (some .int)) (hh := []) (by decide +kernel) hl (Or.inl ⟨rfl, rfl⟩) (Nat.le_of_ble_eq_true rfl) ?_
  intro p e s m args below meth c C
  have loop2 : ∀ (m9 q : Nat) (w : List (Int32 × Int32)) (α1 : Nat → Nat → Int32) (bk : Int32), q + m9 = nq → w.length ≤ 20 + q → Wl α1 w → Aw α1 α → w ++ ckr α r m9 q = (ckl α r kd nq) → J p l e { frames := 3, cells := 0, slots := 0, locals := 49 } s m args below meth c D cA b 3 (EndQ D cA b s below (Rp (some (.int (nI (ckl α r kd nq).length))) n (fun h' => ∃ (w : Int32) (α1 : Nat → Nat → Int32), h' = ovM mo (upd (upd (upd σ 0 0) 34 (nI (ckl α r kd nq).length)) 33 w) α1 h ∧ Wl α1 (ckl α r kd nq) ∧ Aw α1 α)) 0 0) n (ovM mo (upd (upd (upd σ 0 0) 34 (nI w.length)) 33 bk) α1 h) 0 0 76 [(2, .int (nI q)), (0, .ref mo), (1, .int (nI r))] [] := by
    intro m9
    induction m9 with
    | zero =>
      intro q w α1 bk hq hlen hW hA hv
      obtain rfl : q = nq := by omega
      refine j_iload_n C d_M_check_76 rfl rfl ?_
      refine j_aload_n C d_M_check_77 rfl rfl ?_
      refine jm_get C fl_6_166 d_M_check_78 hmo rfl ?_
      refine j_icmp_ge (tgt := 110) C d_M_check_81 (by decide) (fun c81 => ?_) (fun c81 => ?_)
      · refine j_aload_n C d_M_check_110 rfl rfl ?_
        refine jm_get C fl_6_187 d_M_check_111 hmo rfl ?_
        obtain rfl : w = (ckl α r kd q) := by rw [← hv]; exact (List.append_nil _).symm
        exact j_ireturn C d_M_check_114 rfl (by decide) (by decide) ⟨rfl, rfl, bk, α1, rfl, hW, hA⟩
      · exact absurd (show σ 21 ≤ nI q by rw [hnq]; exact nI_le (Nat.le_refl _) (by omega)) c81
    | succ m9 ih =>
      intro q w α1 bk hq hlen hW hA hv
      refine j_iload_n C d_M_check_76 rfl rfl ?_
      refine j_aload_n C d_M_check_77 rfl rfl ?_
      refine jm_get C fl_6_166 d_M_check_78 hmo rfl ?_
      refine j_icmp_ge (tgt := 110) C d_M_check_81 (by decide) (fun c81 => ?_) (fun c81 => ?_)
      · exact absurd (show σ 21 ≤ nI q from c81) (by rw [hnq]; exact nI_ge (by omega) (by omega))
      · refine j_aload_n C d_M_check_84 rfl rfl ?_
        refine j_iload_n C d_M_check_85 rfl rfl ?_
        refine j_iload_n C d_M_check_86 rfl rfl ?_
        refine j_callV C d_M_check_87 ml_M_194 mc_M_verdict in_M_verdict rfl se_M_verdict (by omega) (ovM_o _ _ _ _) (c_M_verdict hl r q _ _ _ hmo (by omega) (by omega) (FR_c hA hF)) rfl rfl (Nat.le_of_ble_eq_true rfl) (Nat.le_of_ble_eq_true rfl) (Nat.le_of_ble_eq_true rfl) (Nat.le_of_ble_eq_true rfl) (jk_o (fun b1 => ?_))
        refine j_if_le (tgt := 104) C d_M_check_90 (by decide) (fun c90 => ?_) (fun c90 => ?_)
        · rw [mvd_c hA r q] at c90
          have e9 : ckj α r q = [] := by unfold ckj; rw [if_pos c90]
          refine j_iinc (v := nI (q + 1)) C d_M_check_104 rfl (nI_inc q) (by decide) rfl ?_
          refine j_goto (tgt := 76) C d_M_check_107 (by decide) ?_
          exact j_h (by rw [upd_uu]) (j_pick [0, 1, 2] rfl (ih (q + 1) w α1 b1 (by omega) (by omega) hW hA (by rw [← hv]; show _ = w ++ (ckj α r q ++ _); rw [e9]; rfl)))
        · refine j_aload_n C d_M_check_93 rfl rfl ?_
          refine j_aload_n C d_M_check_94 rfl rfl ?_
          refine j_iload_n C d_M_check_95 rfl rfl ?_
          refine j_iload_n C d_M_check_96 rfl rfl ?_
          refine j_callV C d_M_check_97 ml_M_194 mc_M_verdict in_M_verdict rfl se_M_verdict (by omega) (ovM_o _ _ _ _) (c_M_verdict hl r q _ _ _ hmo (by omega) (by omega) (FR_c hA hF)) rfl rfl (Nat.le_of_ble_eq_true rfl) (Nat.le_of_ble_eq_true rfl) (Nat.le_of_ble_eq_true rfl) (Nat.le_of_ble_eq_true rfl) (jk_o (fun b2 => ?_))
          refine j_iload_n C d_M_check_100 rfl rfl ?_
          refine j_callV C d_M_check_101 ml_M_190 mc_M_wanted in_M_wanted rfl se_M_wanted (by omega) (ovM_o _ _ _ _) (c_M_wanted hl _ _ _ _ _ hmo (show vp_in (nI w.length) 40 from vp_in_nI (by omega) (by omega))) rfl rfl (Nat.le_of_ble_eq_true rfl) (Nat.le_of_ble_eq_true rfl) (Nat.le_of_ble_eq_true rfl) (Nat.le_of_ble_eq_true rfl) (jk_v ?_)
          rw [mvd_c hA r q] at c90
          have e9 : ckj α r q = [(mvd α r q, nI q)] := by unfold ckj; rw [if_neg c90]
          refine j_iinc (v := nI (q + 1)) C d_M_check_104 rfl (nI_inc q) (by decide) rfl ?_
          refine j_goto (tgt := 76) C d_M_check_107 (by decide) ?_
          exact j_h (by rw [mvd_c hA r q]; show ovM mo (upd (upd (upd (upd (upd (upd σ 0 0) 34 (nI w.length)) 33 bk) 33 b1) 33 b2) 34 (nI w.length + 1)) _ h = ovM mo (upd (upd (upd σ 0 0) 34 (nI (w ++ [(mvd α r q, nI q)]).length)) 33 b2) _ h; rw [upd_uu, upd_uu, upd_x (show (33 : Nat) ≠ 34 by decide), upd_uu, nI_1, len_snoc]) (j_pick [0, 1, 2] rfl (ih (q + 1) (w ++ [(mvd α r q, nI q)]) _ b2 (by omega) (by rw [len_snoc]; omega) (Wl_push hW rfl (by omega)) (Aw_push hA) (by rw [← hv]; show _ = w ++ (ckj α r q ++ _); rw [e9]; simp)))
  have loop1 : ∀ (m9 f : Nat) (w : List (Int32 × Int32)) (α1 : Nat → Nat → Int32), f + m9 = 20 → w.length ≤ f → Wl α1 w → Aw α1 α → w ++ ckf α r kd m9 f ++ ckr α r nq 0 = (ckl α r kd nq) → J p l e { frames := 3, cells := 0, slots := 0, locals := 49 } s m args below meth c D cA b 3 (EndQ D cA b s below (Rp (some (.int (nI (ckl α r kd nq).length))) n (fun h' => ∃ (w : Int32) (α1 : Nat → Nat → Int32), h' = ovM mo (upd (upd (upd σ 0 0) 34 (nI (ckl α r kd nq).length)) 33 w) α1 h ∧ Wl α1 (ckl α r kd nq) ∧ Aw α1 α)) 0 0) n (ovM mo (upd (upd σ 0 0) 34 (nI w.length)) α1 h) 0 0 23 [(2, .int (nI f)), (0, .ref mo), (1, .int (nI r))] [] := by
    intro m9
    induction m9 with
    | zero =>
      intro f w α1 hf hlen hW hA hv
      obtain rfl : f = 20 := by omega
      have hv : w ++ ckr α r nq 0 = (ckl α r kd nq) := by rw [← hv]; show _ = w ++ [] ++ _; rw [List.append_nil]
      refine j_iload_n C d_M_check_23 rfl rfl ?_
      refine j_bipush (v := 20) C d_M_check_24 (by decide) ?_
      refine j_icmp_ge (tgt := 74) C d_M_check_26 (by decide) (fun c26 => ?_) (fun c26 => ?_)
      · refine j_iconst (v := 0) C d_M_check_74 (by decide) ?_
        refine j_istore_n C d_M_check_75 rfl (by decide) rfl ?_
        refine j_h (h' := ovM mo (upd (upd (upd σ 0 0) 34 (nI w.length)) 33 (σ 33)) α1 h) (by rw [upd_self (show upd (upd σ 0 0) 34 (nI w.length) 33 = σ 33 from rfl)]) ?_
        exact j_pick [0, 1, 2] rfl (loop2 nq 0 w α1 (σ 33) (by omega) (by omega) hW hA hv)
      · exact absurd (by decide) c26
    | succ m9 ih =>
      intro f w α1 hf hlen hW hA hv
      refine j_iload_n C d_M_check_23 rfl rfl ?_
      refine j_bipush (v := 20) C d_M_check_24 (by decide) ?_
      refine j_icmp_ge (tgt := 74) C d_M_check_26 (by decide) (fun c26 => ?_) (fun c26 => ?_)
      · exact absurd (show nI 20 ≤ nI f from c26) (nI_ge (by omega) (by omega))
      · refine j_aload_n C d_M_check_29 rfl rfl ?_
        refine jm_get C fl_6_44 d_M_check_30 hmo rfl ?_
        refine j_bipush (v := 20) C d_M_check_33 (by decide) ?_
        refine j_aload_n C d_M_check_35 rfl rfl ?_
        refine jm_get C fl_6_13 d_M_check_36 hmo rfl ?_
        refine j_iload_n C d_M_check_39 rfl rfl ?_
        refine jm_ialdn C 1 (r) d_M_check_40 (by decide) rfl hmo rfl (by omega) (by omega) ?_
        refine j_imul C d_M_check_41 ?_
        refine j_iload_n C d_M_check_42 rfl rfl ?_
        refine j_iadd C d_M_check_43 ?_
        refine jm_zaldn C 11 (20 * kd + f) d_M_check_44 (by decide) rfl hmo (by rw [hA 4 (by decide) (by decide), hkd]; exact e20 kd f) (by omega) (by omega) ?_
        refine j_if_eq (tgt := 68) C d_M_check_45 (by decide) (fun c45 => ?_) (fun c45 => ?_)
        · rw [hA 14 (by decide) (by decide)] at c45
          have e9 : cki α r kd f = [] := by unfold cki; rw [if_pos c45]
          refine j_iinc (v := nI (f + 1)) C d_M_check_68 rfl (nI_inc f) (by decide) rfl ?_
          refine j_goto (tgt := 23) C d_M_check_71 (by decide) ?_
          exact j_pick [0, 1, 2] rfl (ih (f + 1) w α1 (by omega) (by omega) hW hA (by rw [← hv]; show _ = w ++ (cki α r kd f ++ _) ++ _; rw [e9]; rfl))
        · refine j_aload_n C d_M_check_48 rfl rfl ?_
          refine jm_get C fl_6_31 d_M_check_49 hmo rfl ?_
          refine j_bipush (v := 20) C d_M_check_52 (by decide) ?_
          refine j_iload_n C d_M_check_54 rfl rfl ?_
          refine j_imul C d_M_check_55 ?_
          refine j_iload_n C d_M_check_56 rfl rfl ?_
          refine j_iadd C d_M_check_57 ?_
          refine jm_zaldn C 7 (20 * r + f) d_M_check_58 (by decide) rfl hmo (e20 r f) (by omega) (by omega) ?_
          refine j_if_ne (tgt := 68) C d_M_check_59 (by decide) (fun c59 => ?_) (fun c59 => ?_)
          · rw [hA 14 (by decide) (by decide)] at c45
            rw [hA 10 (by decide) (by decide)] at c59
            have e9 : cki α r kd f = [] := by unfold cki; rw [if_neg c45, if_neg c59]
            refine j_iinc (v := nI (f + 1)) C d_M_check_68 rfl (nI_inc f) (by decide) rfl ?_
            refine j_goto (tgt := 23) C d_M_check_71 (by decide) ?_
            exact j_pick [0, 1, 2] rfl (ih (f + 1) w α1 (by omega) (by omega) hW hA (by rw [← hv]; show _ = w ++ (cki α r kd f ++ _) ++ _; rw [e9]; rfl))
          · refine j_aload_n C d_M_check_62 rfl rfl ?_
            refine j_iconst (v := 1) C d_M_check_63 (by decide) ?_
            refine j_iload_n C d_M_check_64 rfl rfl ?_
            refine j_callV C d_M_check_65 ml_M_190 mc_M_wanted in_M_wanted rfl se_M_wanted (by omega) (ovM_o _ _ _ _) (c_M_wanted hl _ _ _ _ _ hmo (show vp_in (nI w.length) 40 from vp_in_nI (by omega) (by omega))) rfl rfl (Nat.le_of_ble_eq_true rfl) (Nat.le_of_ble_eq_true rfl) (Nat.le_of_ble_eq_true rfl) (Nat.le_of_ble_eq_true rfl) (jk_v ?_)
            rw [hA 14 (by decide) (by decide)] at c45
            rw [hA 10 (by decide) (by decide)] at c59
            have e9 : cki α r kd f = [(1, nI f)] := by unfold cki; rw [if_neg c45, if_pos c59]
            refine j_iinc (v := nI (f + 1)) C d_M_check_68 rfl (nI_inc f) (by decide) rfl ?_
            refine j_goto (tgt := 23) C d_M_check_71 (by decide) ?_
            exact j_h (by show ovM mo (upd (upd (upd σ 0 0) 34 (nI w.length)) 34 (nI w.length + 1)) _ h = _; rw [upd_uu, nI_1, ← len_snoc]) (j_pick [0, 1, 2] rfl (ih (f + 1) (w ++ [(1, nI f)]) _ (by omega) (by rw [List.length_append, List.length_singleton]; omega) (Wl_push hW rfl (by omega)) (Aw_push hA) (by rw [← hv]; show _ = w ++ (cki α r kd f ++ _) ++ _; rw [e9]; simp)))
  refine j_aload_n C d_M_check_0 rfl rfl ?_
  refine j_aload_n C d_M_check_1 rfl rfl ?_
  refine j_iload_n C d_M_check_2 rfl rfl ?_
  refine j_callV C d_M_check_3 ml_M_121 mc_M_isReport in_M_isReport rfl se_M_isReport (by omega) (ovM_o _ _ _ _) (c_M_isReportK hl _ _ _ _ hmo (in_rep hnr hle hr)) rfl rfl (Nat.le_of_ble_eq_true rfl) (Nat.le_of_ble_eq_true rfl) (Nat.le_of_ble_eq_true rfl) (Nat.le_of_ble_eq_true rfl) (jk_r ?_)
  refine j_iconst (v := 1) C d_M_check_6 (by decide) ?_
  refine j_iconst (v := 1) C d_M_check_7 (by decide) ?_
  refine j_callV C d_M_check_8 ml_M_109 mc_M_goes in_M_goes rfl se_M_goes (by omega) (ovM_o _ _ _ _) (c_M_goesK hl _ _ _ _ _ _ hmo (gs_0 (by decide) (by decide) (by decide))) rfl rfl (Nat.le_of_ble_eq_true rfl) (Nat.le_of_ble_eq_true rfl) (Nat.le_of_ble_eq_true rfl) (Nat.le_of_ble_eq_true rfl) (jk_r ?_)
  refine j_if_ne (tgt := 16) C d_M_check_11 (by decide) (fun c11 => ?_) (fun c11 => ?_)
  · refine j_aload_n C d_M_check_16 rfl rfl ?_
    refine j_iconst (v := 0) C d_M_check_17 (by decide) ?_
    refine jm_puti 34 C fp_6_187 d_M_check_18 hmo (by decide) (by first | rfl | assumption) rfl rfl ?_
    refine j_iconst (v := 0) C d_M_check_21 (by decide) ?_
    refine j_istore_n C d_M_check_22 rfl (by decide) rfl ?_
    exact j_pick [0, 1, 2] rfl (loop1 20 0 [] α rfl (by simp) (Wl_nil α) (fun _ _ _ => rfl) rfl)
  · exact absurd c11 (by decide)

