/-! ===== the reference: number0, code: printed by program ===== -/
/-- g with the bytes of w ahead -/
def wl (g : Nat → Int32) (w : List Int32) : Nat → Int32 := fun j => if j < w.length then w.getD j 0 else g j
theorem wl_nil (g : Nat → Int32) : wl g [] = g := by
  funext j
  unfold wl
  rw [if_neg (by simp)]
theorem wl_snoc (g : Nat → Int32) (w : List Int32) (x : Int32) : upd (wl g w) w.length x = wl g (w ++ [x]) := by
  funext j
  by_cases e : j = w.length
  · subst e
    rw [pk_us]
    unfold wl
    rw [if_pos (by simp), List.getD_eq_getElem?_getD, List.getElem?_append_right (Nat.le_refl _), Nat.sub_self]
    rfl
  · rw [pk_un e]
    unfold wl
    by_cases e2 : j < w.length
    · rw [if_pos e2, if_pos (by rw [List.length_append]; omega), List.getD_eq_getElem?_getD, List.getD_eq_getElem?_getD, List.getElem?_append_left e2]
    · rw [if_neg e2, if_neg (by rw [List.length_append, List.length_singleton]; omega)]
/-- the reference with the bytes w written -/
def ovW (mo : Nat) (σ : Nat → Int32) (α : Nat → Nat → Int32) (h : AH) (w : List Int32) : AH := ovM mo (upd σ 37 (nI w.length)) (upa α 38 (wl (α 38) w)) h
theorem c_M_writeL {l : Launch} (hl : l.stackTraces = false) {D : va_G} {cA : Nat → ClassId} {b n mo : Nat} (x : Int32) (σ : Nat → Int32) (α : Nat → Nat → Int32) (h : AH) (hmo : mo + 27 < n) (w : List Int32) (hw : w.length < 300) : Cn l D cA b y_M_write k_M_write 0 0 0 0 [.ref mo, .int x] n (ovW mo σ α h w) (Re none n (ovW mo σ α h (w ++ [x]))) := by
  have z := c_M_write hl (D := D) (cA := cA) (b := b) x (upd σ 37 (nI w.length)) (upa α 38 (wl (α 38) w)) h hmo (by rw [upd_s]; exact vp_in_nI hw (by omega))
  have e : ovM mo (mwrite (upd σ 37 (nI w.length)) (upa α 38 (wl (α 38) w)) x).1 (mwrite (upd σ 37 (nI w.length)) (upa α 38 (wl (α 38) w)) x).2 h = ovW mo σ α h (w ++ [x]) := by
    show ovM mo (upd (upd σ 37 (nI w.length)) 37 (upd σ 37 (nI w.length) 37 + 1)) (upa (upa α 38 (wl (α 38) w)) 38 (upd (upa α 38 (wl (α 38) w) 38) (upd σ 37 (nI w.length) 37).toNatClampNeg x)) h = _
    rw [upd_uu, upd_s, nI_1, upa_uu, upa_s, nI_clamp (by omega), wl_snoc]
    unfold ovW
    rw [len_snoc]
  rw [e] at z
  exact z
theorem ovW_o (mo : Nat) (σ : Nat → Int32) (α : Nat → Nat → Int32) (h : AH) (w : List Int32) : ovW mo σ α h w mo = .inr (6, mfs mo (upd σ 37 (nI w.length))) := ovM_o _ _ _ _
/-- the digits of m at the places e - 1, .., 0 -/
def dgs (m : Nat) : Nat → List Int32
  | 0 => []
  | e + 1 => nI (48 + m / 10 ^ e % 10) :: dgs m e
def dn (m : Nat) : Nat := if m < 10 then 1 else if m < 100 then 2 else if m < 1000 then 3 else if m < 10000 then 4 else 5
def nb (m : Nat) : List Int32 := dgs m (dn m)
def pw : Nat → Nat
  | 0 => 0
  | e + 1 => 10 ^ e
theorem dgs_len (m : Nat) : ∀ e, (dgs m e).length = e
  | 0 => rfl
  | e + 1 => by show (dgs m e).length + 1 = e + 1; rw [dgs_len m e]
theorem dn_c (m : Nat) : (m < 10 ∧ dn m = 1) ∨ (10 ≤ m ∧ m < 100 ∧ dn m = 2) ∨ (100 ≤ m ∧ m < 1000 ∧ dn m = 3) ∨ (1000 ≤ m ∧ m < 10000 ∧ dn m = 4) ∨ (10000 ≤ m ∧ dn m = 5) := by
  by_cases h1 : m < 10
  · exact Or.inl ⟨h1, by unfold dn; rw [if_pos h1]⟩
  · by_cases h2 : m < 100
    · exact Or.inr (Or.inl ⟨by omega, h2, by unfold dn; rw [if_neg h1, if_pos h2]⟩)
    · by_cases h3 : m < 1000
      · exact Or.inr (Or.inr (Or.inl ⟨by omega, h3, by unfold dn; rw [if_neg h1, if_neg h2, if_pos h3]⟩))
      · by_cases h4 : m < 10000
        · exact Or.inr (Or.inr (Or.inr (Or.inl ⟨by omega, h4, by unfold dn; rw [if_neg h1, if_neg h2, if_neg h3, if_pos h4]⟩)))
        · exact Or.inr (Or.inr (Or.inr (Or.inr ⟨by omega, by unfold dn; rw [if_neg h1, if_neg h2, if_neg h3, if_neg h4]⟩)))
theorem dn_le (m : Nat) : dn m ≤ 5 := by
  have := dn_c m
  omega
theorem dn_go {m e : Nat} (hm : m ≤ 99999) (he : e + 1 ≤ dn m) (h9 : ¬ m / 10 ^ e ≤ 9) : e + 2 ≤ dn m := by
  have h5 := dn_le m
  have hc := dn_c m
  rcases (show e = 0 ∨ e = 1 ∨ e = 2 ∨ e = 3 ∨ e = 4 by omega) with rfl | rfl | rfl | rfl | rfl
  · rw [show (10 : Nat) ^ 0 = 1 from rfl] at h9; omega
  · rw [show (10 : Nat) ^ 1 = 10 from rfl] at h9; omega
  · rw [show (10 : Nat) ^ 2 = 100 from rfl] at h9; omega
  · rw [show (10 : Nat) ^ 3 = 1000 from rfl] at h9; omega
  · rw [show (10 : Nat) ^ 4 = 10000 from rfl] at h9; omega
theorem dn_end {m e : Nat} (hm : m ≤ 99999) (he : e + 1 ≤ dn m) (h9 : m / 10 ^ e ≤ 9) : dn m = e + 1 := by
  have h5 := dn_le m
  have hc := dn_c m
  rcases (show e = 0 ∨ e = 1 ∨ e = 2 ∨ e = 3 ∨ e = 4 by omega) with rfl | rfl | rfl | rfl | rfl
  · rw [show (10 : Nat) ^ 0 = 1 from rfl] at h9; omega
  · rw [show (10 : Nat) ^ 1 = 10 from rfl] at h9; omega
  · rw [show (10 : Nat) ^ 2 = 100 from rfl] at h9; omega
  · rw [show (10 : Nat) ^ 3 = 1000 from rfl] at h9; omega
  · rw [show (10 : Nat) ^ 4 = 10000 from rfl] at h9; omega
theorem p10_lt {e : Nat} (he : e ≤ 5) : 10 ^ e < 2 ^ 31 ∧ 0 < 10 ^ e := by
  rcases (show e = 0 ∨ e = 1 ∨ e = 2 ∨ e = 3 ∨ e = 4 ∨ e = 5 by omega) with rfl | rfl | rfl | rfl | rfl | rfl <;> decide
theorem p10_d (e : Nat) : 10 ^ e / 10 = pw e := by
  cases e with
  | zero => rfl
  | succ e => show 10 ^ (e + 1) / 10 = 10 ^ e; rw [Nat.pow_succ, Nat.mul_div_cancel _ (by omega)]
theorem dn_pos (m : Nat) : 0 + 1 ≤ dn m := by
  have := dn_c m
  omega
theorem neg_lt {m : Nat} (h1 : 1 ≤ m) (hm : m ≤ 99999) : ¬ (0 : Int32) ≤ -(nI m) := by
  intro z
  have h := Int32.le_iff_toInt_le.mp z
  have e : (-(nI m)).toInt = -(m : Int) := by
    rw [Int32.toInt_neg, nI_toInt (by omega)]
    apply Int.bmod_eq_of_le <;> omega
  have e0 : (0 : Int32).toInt = 0 := by decide
  omega
set_option maxHeartbeats 4000000 in
set_option maxRecDepth 100000 in
theorem c_M_number0_p {l : Launch} (hl : l.stackTraces = false) {D : va_G} {cA : Nat → ClassId} {b n mo : Nat} (m0 : Nat) (σ : Nat → Int32) (α : Nat → Nat → Int32) (h : AH) (hmo : mo + 27 < n) (w : List Int32) (hm : m0 ≤ 99999) (hw : w.length + 6 < 300) : Cn l D cA b y_M_number0 k_M_number0 1 13 0 0 [.ref mo, .int (nI m0)] n (ovW mo σ α h w) (Re none n (ovW mo σ α h (w ++ nb m0))) := by
  refine Cn.of (cc := b_M_number0) (maxL := 4) (ret := none) (hh := []) (by decide +kernel) hl (Or.inl ⟨rfl, rfl⟩) (Nat.le_of_ble_eq_true rfl) ?_
  intro p e s m args below meth c C
  have loop2 : ∀ (e9 : Nat) (w1 : List Int32), e9 ≤ 5 → w1 ++ dgs m0 e9 = (w ++ nb m0) → w1.length + e9 < 300 → J p l e { frames := 1, cells := 0, slots := 0, locals := 13 } s m args below meth c D cA b 4 (EndQ D cA b s below (Re none n (ovW mo σ α h (w ++ nb m0))) 0 0) n (ovW mo σ α h w1) 0 0 39 [(3, .int (nI (pw e9))), (2, .int (nI m0)), (0, .ref mo), (1, .int (nI m0))] [] := by
    intro e9
    induction e9 with
    | zero =>
      intro w1 he hv hw1
      refine j_iload_n C d_M_number0_39 rfl rfl ?_
      refine j_if_le (tgt := 64) C d_M_number0_40 (by decide) (fun c40 => ?_) (fun c40 => ?_)
      · exact j_vreturn C d_M_number0_64 rfl (by decide) (by decide) ⟨rfl, rfl, by rw [← hv]; simp [dgs]⟩
      · exact absurd (by decide) c40
    | succ e9 ih =>
      intro w1 he hv hw1
      refine j_iload_n C d_M_number0_39 rfl rfl ?_
      refine j_if_le (tgt := 64) C d_M_number0_40 (by decide) (fun c40 => ?_) (fun c40 => ?_)
      · exact absurd c40 (nI_nle (p10_lt (by omega)).2 (p10_lt (by omega)).1)
      · refine j_aload_n C d_M_number0_43 rfl rfl ?_
        refine j_bipush (v := 48) C d_M_number0_44 (by decide) ?_
        refine j_iload_n C d_M_number0_46 rfl rfl ?_
        refine j_iload_n C d_M_number0_47 rfl rfl ?_
        refine j_idiv C d_M_number0_48 (nI_ne0 (p10_lt (by omega)).2 (p10_lt (by omega)).1) ?_
        rw [show pw (e9 + 1) = 10 ^ e9 from rfl, pk_div (by omega) (p10_lt (by omega)).2 (p10_lt (by omega)).1]
        refine j_bipush (v := 10) C d_M_number0_49 (by decide) ?_
        refine j_irem C d_M_number0_51 (by decide) ?_
        rw [show (10 : Int32) = nI 10 from rfl, pk_rem (Nat.lt_of_le_of_lt (Nat.div_le_self _ _) (by omega)) (by omega) (by omega)]
        refine j_iadd C d_M_number0_52 ?_
        rw [show (48 : Int32) = nI 48 from rfl, nI_add]
        refine j_callV C d_M_number0_53 ml_M_209 mc_M_write in_M_write rfl se_M_write (by omega) (ovW_o _ _ _ _ _) (c_M_writeL hl _ σ α h hmo w1 (by omega)) rfl rfl (Nat.le_of_ble_eq_true rfl) (Nat.le_of_ble_eq_true rfl) (Nat.le_of_ble_eq_true rfl) (Nat.le_of_ble_eq_true rfl) (jk_v ?_)
        refine j_iload_n C d_M_number0_56 rfl rfl ?_
        refine j_bipush (v := 10) C d_M_number0_57 (by decide) ?_
        refine j_idiv C d_M_number0_59 (by decide) ?_
        rw [show (10 : Int32) = nI 10 from rfl, pk_div (p10_lt (by omega)).1 (by omega) (by omega), show 10 ^ e9 / 10 = pw e9 from p10_d e9]
        refine j_istore_n C d_M_number0_60 rfl (by decide) rfl ?_
        refine j_goto (tgt := 39) C d_M_number0_61 (by decide) ?_
        exact j_pick [0, 1, 2, 3] rfl (ih (w1 ++ [nI (48 + m0 / 10 ^ e9 % 10)]) (by omega) (by rw [← hv]; simp [dgs]) (by rw [len_snoc]; omega))
  have loop1 : ∀ (k9 e9 : Nat), e9 + k9 = 4 → e9 + 1 ≤ dn m0 → J p l e { frames := 1, cells := 0, slots := 0, locals := 13 } s m args below meth c D cA b 4 (EndQ D cA b s below (Re none n (ovW mo σ α h (w ++ nb m0))) 0 0) n (ovW mo σ α h w) 0 0 23 [(3, .int (nI (10 ^ e9))), (2, .int (nI m0)), (0, .ref mo), (1, .int (nI m0))] [] := by
    intro k9
    induction k9 with
    | zero =>
      intro e9 hk he
      refine j_iload_n C d_M_number0_23 rfl rfl ?_
      refine j_iload_n C d_M_number0_24 rfl rfl ?_
      refine j_idiv C d_M_number0_25 (nI_ne0 (p10_lt (by omega)).2 (p10_lt (by omega)).1) ?_
      rw [pk_div (by omega) (p10_lt (by omega)).2 (p10_lt (by omega)).1]
      refine j_bipush (v := 9) C d_M_number0_26 (by decide) ?_
      refine j_icmp_le (tgt := 39) C d_M_number0_28 (by decide) (fun c28 => ?_) (fun c28 => ?_)
      · have h9 : m0 / 10 ^ e9 ≤ 9 := (nI_leI (Nat.lt_of_le_of_lt (Nat.div_le_self _ _) (by omega)) (by omega)).mp (show nI (m0 / 10 ^ e9) ≤ nI 9 from c28)
        have hd := dn_end hm he h9
        exact loop2 (e9 + 1) w (by omega) (by show _ ++ dgs m0 (e9 + 1) = _; rw [← hd]; simp [nb]) (by omega)
      · have h9 : ¬ m0 / 10 ^ e9 ≤ 9 := fun z => c28 (show nI (m0 / 10 ^ e9) ≤ nI 9 from nI_le z (by omega))
        have hg := dn_go hm he h9
        have hg5 := dn_le m0
        exact absurd hg (by omega)
    | succ k9 ih =>
      intro e9 hk he
      refine j_iload_n C d_M_number0_23 rfl rfl ?_
      refine j_iload_n C d_M_number0_24 rfl rfl ?_
      refine j_idiv C d_M_number0_25 (nI_ne0 (p10_lt (by omega)).2 (p10_lt (by omega)).1) ?_
      rw [pk_div (by omega) (p10_lt (by omega)).2 (p10_lt (by omega)).1]
      refine j_bipush (v := 9) C d_M_number0_26 (by decide) ?_
      refine j_icmp_le (tgt := 39) C d_M_number0_28 (by decide) (fun c28 => ?_) (fun c28 => ?_)
      · have h9 : m0 / 10 ^ e9 ≤ 9 := (nI_leI (Nat.lt_of_le_of_lt (Nat.div_le_self _ _) (by omega)) (by omega)).mp (show nI (m0 / 10 ^ e9) ≤ nI 9 from c28)
        have hd := dn_end hm he h9
        exact loop2 (e9 + 1) w (by omega) (by show _ ++ dgs m0 (e9 + 1) = _; rw [← hd]; simp [nb]) (by omega)
      · have h9 : ¬ m0 / 10 ^ e9 ≤ 9 := fun z => c28 (show nI (m0 / 10 ^ e9) ≤ nI 9 from nI_le z (by omega))
        have hg := dn_go hm he h9
        have hg5 := dn_le m0
        refine j_bipush (v := 10) C d_M_number0_31 (by decide) ?_
        refine j_iload_n C d_M_number0_33 rfl rfl ?_
        refine j_imul C d_M_number0_34 ?_
        rw [show (10 : Int32) = nI 10 from rfl, pk_mul, show 10 * 10 ^ e9 = 10 ^ (e9 + 1) by rw [Nat.pow_succ]; omega]
        refine j_istore_n C d_M_number0_35 rfl (by decide) rfl ?_
        refine j_goto (tgt := 23) C d_M_number0_36 (by decide) ?_
        exact j_pick [0, 1, 2, 3] rfl (ih (e9 + 1) (by omega) (by omega))
  refine j_iload_n C d_M_number0_0 rfl rfl ?_
  refine j_if_ge (tgt := 10) C d_M_number0_1 (by decide) (fun c1 => ?_) (fun c1 => ?_)
  · refine j_iload_n C d_M_number0_10 rfl rfl ?_
    refine j_if_ge (tgt := 19) C d_M_number0_11 (by decide) (fun c11 => ?_) (fun c11 => ?_)
    · refine j_iload_n C d_M_number0_19 rfl rfl ?_
      refine j_istore_n C d_M_number0_20 rfl (by decide) rfl ?_
      refine j_iconst (v := 1) C d_M_number0_21 (by decide) ?_
      refine j_istore_n C d_M_number0_22 rfl (by decide) rfl ?_
      exact j_pick [0, 1, 2, 3] rfl (loop1 4 0 rfl (dn_pos m0))
    · exact absurd (nI_pos' (by omega)) c11
  · exact absurd (nI_pos' (by omega)) c1

set_option maxHeartbeats 4000000 in
set_option maxRecDepth 100000 in
theorem c_M_number0_n {l : Launch} (hl : l.stackTraces = false) {D : va_G} {cA : Nat → ClassId} {b n mo : Nat} (m0 : Nat) (σ : Nat → Int32) (α : Nat → Nat → Int32) (h : AH) (hmo : mo + 27 < n) (w : List Int32) (h1 : 1 ≤ m0) (hm : m0 ≤ 99999) (hw : w.length + 6 < 300) : Cn l D cA b y_M_number0 k_M_number0 1 13 0 0 [.ref mo, .int (-(nI m0))] n (ovW mo σ α h w) (Re none n (ovW mo σ α h (w ++ (45 :: nb m0)))) := by
  refine Cn.of (cc := b_M_number0) (maxL := 4) (ret := none) (hh := []) (by decide +kernel) hl (Or.inl ⟨rfl, rfl⟩) (Nat.le_of_ble_eq_true rfl) ?_
  intro p e s m args below meth c C
  have loop2 : ∀ (e9 : Nat) (w1 : List Int32), e9 ≤ 5 → w1 ++ dgs m0 e9 = (w ++ (45 :: nb m0)) → w1.length + e9 < 300 → J p l e { frames := 1, cells := 0, slots := 0, locals := 13 } s m args below meth c D cA b 4 (EndQ D cA b s below (Re none n (ovW mo σ α h (w ++ (45 :: nb m0)))) 0 0) n (ovW mo σ α h w1) 0 0 39 [(3, .int (nI (pw e9))), (2, .int (nI m0)), (0, .ref mo), (1, .int (-(nI m0)))] [] := by
    intro e9
    induction e9 with
    | zero =>
      intro w1 he hv hw1
      refine j_iload_n C d_M_number0_39 rfl rfl ?_
      refine j_if_le (tgt := 64) C d_M_number0_40 (by decide) (fun c40 => ?_) (fun c40 => ?_)
      · exact j_vreturn C d_M_number0_64 rfl (by decide) (by decide) ⟨rfl, rfl, by rw [← hv]; simp [dgs]⟩
      · exact absurd (by decide) c40
    | succ e9 ih =>
      intro w1 he hv hw1
      refine j_iload_n C d_M_number0_39 rfl rfl ?_
      refine j_if_le (tgt := 64) C d_M_number0_40 (by decide) (fun c40 => ?_) (fun c40 => ?_)
      · exact absurd c40 (nI_nle (p10_lt (by omega)).2 (p10_lt (by omega)).1)
      · refine j_aload_n C d_M_number0_43 rfl rfl ?_
        refine j_bipush (v := 48) C d_M_number0_44 (by decide) ?_
        refine j_iload_n C d_M_number0_46 rfl rfl ?_
        refine j_iload_n C d_M_number0_47 rfl rfl ?_
        refine j_idiv C d_M_number0_48 (nI_ne0 (p10_lt (by omega)).2 (p10_lt (by omega)).1) ?_
        rw [show pw (e9 + 1) = 10 ^ e9 from rfl, pk_div (by omega) (p10_lt (by omega)).2 (p10_lt (by omega)).1]
        refine j_bipush (v := 10) C d_M_number0_49 (by decide) ?_
        refine j_irem C d_M_number0_51 (by decide) ?_
        rw [show (10 : Int32) = nI 10 from rfl, pk_rem (Nat.lt_of_le_of_lt (Nat.div_le_self _ _) (by omega)) (by omega) (by omega)]
        refine j_iadd C d_M_number0_52 ?_
        rw [show (48 : Int32) = nI 48 from rfl, nI_add]
        refine j_callV C d_M_number0_53 ml_M_209 mc_M_write in_M_write rfl se_M_write (by omega) (ovW_o _ _ _ _ _) (c_M_writeL hl _ σ α h hmo w1 (by omega)) rfl rfl (Nat.le_of_ble_eq_true rfl) (Nat.le_of_ble_eq_true rfl) (Nat.le_of_ble_eq_true rfl) (Nat.le_of_ble_eq_true rfl) (jk_v ?_)
        refine j_iload_n C d_M_number0_56 rfl rfl ?_
        refine j_bipush (v := 10) C d_M_number0_57 (by decide) ?_
        refine j_idiv C d_M_number0_59 (by decide) ?_
        rw [show (10 : Int32) = nI 10 from rfl, pk_div (p10_lt (by omega)).1 (by omega) (by omega), show 10 ^ e9 / 10 = pw e9 from p10_d e9]
        refine j_istore_n C d_M_number0_60 rfl (by decide) rfl ?_
        refine j_goto (tgt := 39) C d_M_number0_61 (by decide) ?_
        exact j_pick [0, 1, 2, 3] rfl (ih (w1 ++ [nI (48 + m0 / 10 ^ e9 % 10)]) (by omega) (by rw [← hv]; simp [dgs]) (by rw [len_snoc]; omega))
  have loop1 : ∀ (k9 e9 : Nat), e9 + k9 = 4 → e9 + 1 ≤ dn m0 → J p l e { frames := 1, cells := 0, slots := 0, locals := 13 } s m args below meth c D cA b 4 (EndQ D cA b s below (Re none n (ovW mo σ α h (w ++ (45 :: nb m0)))) 0 0) n (ovW mo σ α h (w ++ [45])) 0 0 23 [(3, .int (nI (10 ^ e9))), (2, .int (nI m0)), (0, .ref mo), (1, .int (-(nI m0)))] [] := by
    intro k9
    induction k9 with
    | zero =>
      intro e9 hk he
      refine j_iload_n C d_M_number0_23 rfl rfl ?_
      refine j_iload_n C d_M_number0_24 rfl rfl ?_
      refine j_idiv C d_M_number0_25 (nI_ne0 (p10_lt (by omega)).2 (p10_lt (by omega)).1) ?_
      rw [pk_div (by omega) (p10_lt (by omega)).2 (p10_lt (by omega)).1]
      refine j_bipush (v := 9) C d_M_number0_26 (by decide) ?_
      refine j_icmp_le (tgt := 39) C d_M_number0_28 (by decide) (fun c28 => ?_) (fun c28 => ?_)
      · have h9 : m0 / 10 ^ e9 ≤ 9 := (nI_leI (Nat.lt_of_le_of_lt (Nat.div_le_self _ _) (by omega)) (by omega)).mp (show nI (m0 / 10 ^ e9) ≤ nI 9 from c28)
        have hd := dn_end hm he h9
        exact loop2 (e9 + 1) (w ++ [45]) (by omega) (by show _ ++ dgs m0 (e9 + 1) = _; rw [← hd]; simp [nb]) (by rw [len_snoc]; omega)
      · have h9 : ¬ m0 / 10 ^ e9 ≤ 9 := fun z => c28 (show nI (m0 / 10 ^ e9) ≤ nI 9 from nI_le z (by omega))
        have hg := dn_go hm he h9
        have hg5 := dn_le m0
        exact absurd hg (by omega)
    | succ k9 ih =>
      intro e9 hk he
      refine j_iload_n C d_M_number0_23 rfl rfl ?_
      refine j_iload_n C d_M_number0_24 rfl rfl ?_
      refine j_idiv C d_M_number0_25 (nI_ne0 (p10_lt (by omega)).2 (p10_lt (by omega)).1) ?_
      rw [pk_div (by omega) (p10_lt (by omega)).2 (p10_lt (by omega)).1]
      refine j_bipush (v := 9) C d_M_number0_26 (by decide) ?_
      refine j_icmp_le (tgt := 39) C d_M_number0_28 (by decide) (fun c28 => ?_) (fun c28 => ?_)
      · have h9 : m0 / 10 ^ e9 ≤ 9 := (nI_leI (Nat.lt_of_le_of_lt (Nat.div_le_self _ _) (by omega)) (by omega)).mp (show nI (m0 / 10 ^ e9) ≤ nI 9 from c28)
        have hd := dn_end hm he h9
        exact loop2 (e9 + 1) (w ++ [45]) (by omega) (by show _ ++ dgs m0 (e9 + 1) = _; rw [← hd]; simp [nb]) (by rw [len_snoc]; omega)
      · have h9 : ¬ m0 / 10 ^ e9 ≤ 9 := fun z => c28 (show nI (m0 / 10 ^ e9) ≤ nI 9 from nI_le z (by omega))
        have hg := dn_go hm he h9
        have hg5 := dn_le m0
        refine j_bipush (v := 10) C d_M_number0_31 (by decide) ?_
        refine j_iload_n C d_M_number0_33 rfl rfl ?_
        refine j_imul C d_M_number0_34 ?_
        rw [show (10 : Int32) = nI 10 from rfl, pk_mul, show 10 * 10 ^ e9 = 10 ^ (e9 + 1) by rw [Nat.pow_succ]; omega]
        refine j_istore_n C d_M_number0_35 rfl (by decide) rfl ?_
        refine j_goto (tgt := 23) C d_M_number0_36 (by decide) ?_
        exact j_pick [0, 1, 2, 3] rfl (ih (e9 + 1) (by omega) (by omega))
  refine j_iload_n C d_M_number0_0 rfl rfl ?_
  refine j_if_ge (tgt := 10) C d_M_number0_1 (by decide) (fun c1 => ?_) (fun c1 => ?_)
  · exact absurd (show (0 : Int32) ≤ -(nI m0) from c1) (neg_lt h1 hm)
  · refine j_aload_n C d_M_number0_4 rfl rfl ?_
    refine j_bipush (v := 45) C d_M_number0_5 (by decide) ?_
    refine j_callV C d_M_number0_7 ml_M_209 mc_M_write in_M_write rfl se_M_write (by omega) (ovW_o _ _ _ _ _) (c_M_writeL hl _ σ α h hmo w (by omega)) rfl rfl (Nat.le_of_ble_eq_true rfl) (Nat.le_of_ble_eq_true rfl) (Nat.le_of_ble_eq_true rfl) (Nat.le_of_ble_eq_true rfl) (jk_v ?_)
    refine j_iload_n C d_M_number0_10 rfl rfl ?_
    refine j_if_ge (tgt := 19) C d_M_number0_11 (by decide) (fun c11 => ?_) (fun c11 => ?_)
    · exact absurd (show (0 : Int32) ≤ -(nI m0) from c11) (neg_lt h1 hm)
    · refine j_iload_n C d_M_number0_14 rfl rfl ?_
      refine j_ineg C d_M_number0_15 ?_
      refine j_goto (tgt := 20) C d_M_number0_16 (by decide) ?_
      rw [show - -(nI m0) = nI m0 from Int32.neg_neg]
      refine j_istore_n C d_M_number0_20 rfl (by decide) rfl ?_
      refine j_iconst (v := 1) C d_M_number0_21 (by decide) ?_
      refine j_istore_n C d_M_number0_22 rfl (by decide) rfl ?_
      exact j_pick [0, 1, 2, 3] rfl (loop1 4 0 rfl (dn_pos m0))

