/-! ===== the reference: rule, rules: printed by program ===== -/
theorem sp_sp (σ : Nat → Int32) (a a' : Nat) (w w' : Int32) : sp (sp σ a w) a' w' = sp σ a' w' := sp_f σ a a' w w'
/-- one rule from a on: its sums and its sign, and where it ends -/
def prule (g : Nat → Int32) (t a : Nat) : Option (((List (Int32 × Int32 × Option Int32)) × Int32 × (List (Int32 × Int32 × Option Int32))) × Nat) := match psum g t 4 1 a with
  | none => none
  | some q =>
    if hr g t (skp g t q.2) = 60 ∨ hr g t (skp g t q.2) = 61 ∨ hr g t (skp g t q.2) = 33 then
      (match psum g t 4 1 (skp g t q.2 + 1) with
      | none => none
      | some u => if hr g t (skp g t u.2) = 59 then some ((q.1, hr g t (skp g t q.2), u.1), skp g t u.2 + 1) else none)
    else none
def An5 (α1 α : Nat → Nat → Int32) : Prop := ∀ x, x < 28 ∨ 32 < x → α1 x = α x
/-- the terms ts stand in the four places from k on -/
def TmA (f d v w : Nat → Int32) (k : Nat) (ts : List (Int32 × Int32 × Option Int32)) : Prop := (∀ i x, ts[i]? = some x → f (k + i) = x.1 ∧ v (k + i) = x.2.1 ∧ (x.2.2 = none → d (k + i) = 0) ∧ ∀ y, x.2.2 = some y → d (k + i) = 1 ∧ w (k + i) = y) ∧ ∀ i, ts.length ≤ i → i < 4 → f (k + i) = 0
/-- the rules rs stand in the arrays s (signs), f, d, v, w (terms) -/
def RuA (s f d v w : Nat → Int32) (rs : List ((List (Int32 × Int32 × Option Int32)) × Int32 × (List (Int32 × Int32 × Option Int32)))) : Prop := ∀ q x, rs[q]? = some x → s q = x.2.1 ∧ TmA f d v w (8 * q) x.1 ∧ TmA f d v w (8 * q + 4) x.2.2
abbrev RuN (α : Nat → Nat → Int32) (rs : List ((List (Int32 × Int32 × Option Int32)) × Int32 × (List (Int32 × Int32 × Option Int32)))) : Prop := RuA (α 28) (α 29) (α 32) (α 30) (α 31) rs
abbrev RuM (α : Nat → Nat → Int32) (rs : List ((List (Int32 × Int32 × Option Int32)) × Int32 × (List (Int32 × Int32 × Option Int32)))) : Prop := RuA (α 22) (α 23) (α 26) (α 24) (α 25) rs
theorem psum_len (g : Nat → Int32) (t : Nat) : ∀ (n : Nat) (how : Int32) (a : Nat) q, psum g t n how a = some q → q.1.length ≤ n := by
  intro n
  induction n with
  | zero => intro how a q h; cases h
  | succ n ih =>
    intro how a q h
    unfold psum at h
    have stp : ∀ (hw : Int32) (b : Nat) (z : Int32 × Int32 × Option Int32), (psum g t n hw b).map (fun q => (z :: q.1, q.2)) = some q → q.1.length ≤ n + 1 := by
      intro hw b z hz
      obtain ⟨q', h1, h2⟩ := Option.map_eq_some_iff.mp hz
      rw [← h2]
      have := ih hw b q' h1
      show q'.1.length + 1 ≤ n + 1
      omega
    split at h
    · split at h
      · split at h
        · split at h
          · cases h; simp
          · split at h
            · exact stp _ _ _ h
            · split at h
              · exact stp _ _ _ h
              · cases h; simp
        · cases h
      · split at h
        · cases h; simp
        · split at h
          · exact stp _ _ _ h
          · split at h
            · exact stp _ _ _ h
            · cases h; simp
    · cases h
theorem skf_ge (g : Nat → Int32) (t : Nat) : ∀ (k a : Nat), a ≤ skf g t k a
  | 0, a => Nat.le_refl _
  | k + 1, a => by
    unfold skf
    split
    · have := skf_ge g t k (a + 1)
      omega
    · exact Nat.le_refl _
theorem skp_ge (g : Nat → Int32) (t a : Nat) : a ≤ skp g t a := skf_ge g t _ a
theorem mnum_ge {g : Nat → Int32} {t a bd : Nat} (ha : a ≤ t) : a ≤ (mnum g t a (nI bd)).1 := by
  have hs := skp_ge g t a
  unfold mnum
  by_cases hd : inI (hr g t (skp g t a)) 48 57 = 0
  · rw [if_pos hd]; exact hs
  · rw [if_neg hd]
    obtain ⟨-, h2, -⟩ := nlp_ok g t 5 (skp g t a) 0 (by omega) (skp_le g ha) (by decide)
    exact Nat.le_trans hs h2
theorem mfA_ge {g : Nat → Int32} {t a : Nat} (ha : a ≤ t) : a ≤ mfA g t a := by
  have hs := skp_ge g t a
  unfold mfA
  by_cases h : hr g t (skp g t a) = 102
  · rw [if_pos h]
    have h1 : skp g t a + 1 ≤ t := hr_lt2 h (by decide)
    have := mnum_ge (g := g) (bd := 19) h1
    exact Nat.le_trans hs (Nat.le_trans (Nat.le_succ _) this)
  · rw [if_neg h]
    exact Nat.le_trans hs (mnum_ge (g := g) (bd := 99999) (skp_le g ha))
theorem psum_ge (g : Nat → Int32) (t : Nat) (ht : t ≤ 300) : ∀ (n : Nat) (how : Int32) (a : Nat) q, a ≤ t → psum g t n how a = some q → a ≤ q.2 := by
  intro n
  induction n with
  | zero => intro how a q ha h; cases h
  | succ n ih =>
    intro how a q ha h
    unfold psum at h
    have m1 := mf_ok (g := g) ha ht
    have k1 := mfA_ge (g := g) ha
    have s1 := skp_ge g t (mfA g t a)
    have stp : ∀ (hw : Int32) (b : Nat) (z : Int32 × Int32 × Option Int32), a ≤ b → b ≤ t → (psum g t n hw b).map (fun q => (z :: q.1, q.2)) = some q → a ≤ q.2 := by
      intro hw b z hab hbt hz
      obtain ⟨q', h1, h2⟩ := Option.map_eq_some_iff.mp hz
      rw [← h2]
      exact Nat.le_trans hab (ih hw b q' hbt h1)
    split at h
    · split at h
      · rename_i h47
        have hlt : skp g t (mfA g t a) + 1 ≤ t := hr_lt2 h47 (by decide)
        have m2 := mf_ok (g := g) hlt ht
        have k2 := mfA_ge (g := g) hlt
        have s2 := skp_ge g t (mfA g t (skp g t (mfA g t a) + 1))
        split at h
        · split at h
          · cases h; show a ≤ mfA g t (skp g t (mfA g t a) + 1); omega
          · split at h
            · rename_i h43
              exact stp _ _ _ (by omega) (hr_lt2 h43 (by decide)) h
            · split at h
              · rename_i h45
                exact stp _ _ _ (by omega) (hr_lt2 h45 (by decide)) h
              · cases h; show a ≤ skp g t (mfA g t (skp g t (mfA g t a) + 1)); omega
        · cases h
      · have s2 := skp_ge g t (skp g t (mfA g t a))
        split at h
        · cases h; show a ≤ skp g t (mfA g t a); omega
        · split at h
          · rename_i h43
            exact stp _ _ _ (by omega) (hr_lt2 h43 (by decide)) h
          · split at h
            · rename_i h45
              exact stp _ _ _ (by omega) (hr_lt2 h45 (by decide)) h
            · cases h; show a ≤ skp g t (skp g t (mfA g t a)); omega
    · cases h
/-- from a cleared block -/
theorem TmA_of {α α1 : Nat → Nat → Int32} {k : Nat} {ps : List (Int32 × Int32 × Option Int32)} (h : Pst α k α1 ps) (hz : ∀ i, i < 4 → α 29 (k + i) = 0) : TmA (α1 29) (α1 32) (α1 30) (α1 31) k ps :=
  ⟨h.2, fun i h1 h2 => ((h.1 (k + i) (Or.inr (by omega))).1).trans (hz i h2)⟩
theorem TmA_keep {f d v w f' d' v' w' : Nat → Int32} {k : Nat} {ps : List (Int32 × Int32 × Option Int32)} (h : TmA f d v w k ps) (hl : ps.length ≤ 4) (hk : ∀ i, i < 4 → f' (k + i) = f (k + i) ∧ d' (k + i) = d (k + i) ∧ v' (k + i) = v (k + i) ∧ w' (k + i) = w (k + i)) : TmA f' d' v' w' k ps := by
  refine ⟨fun i x hx => ?_, fun i h1 h2 => ?_⟩
  · have hi : i < 4 := Nat.lt_of_lt_of_le (List.getElem?_eq_some_iff.mp hx).1 hl
    obtain ⟨e1, e2, e3, e4⟩ := hk i hi
    rw [e1, e2, e3, e4]
    exact h.1 i x hx
  · rw [(hk i h2).1]
    exact h.2 i h1 h2
/-- newTerm cleared from k on, as far as i -/
def clr (g : Nat → Int32) (k i : Nat) : Nat → Int32 := fun j => if k ≤ j ∧ j < k + i then 0 else g j
theorem clr_0 (g : Nat → Int32) (k : Nat) : clr g k 0 = g := by
  funext j
  unfold clr
  rw [if_neg (by omega)]
theorem clr_s (g : Nat → Int32) (k i : Nat) : upd (clr g k i) (k + i) 0 = clr g k (i + 1) := by
  funext j
  by_cases e : j = k + i
  · subst e
    rw [pk_us]
    unfold clr
    rw [if_pos (by omega)]
  · rw [pk_un e]
    unfold clr
    by_cases e2 : k ≤ j ∧ j < k + i
    · rw [if_pos e2, if_pos (by omega)]
    · rw [if_neg e2, if_neg (by omega)]
/-! ===== the reference: rule: printed by program ===== -/
theorem sp_w (σ : Nat → Int32) (a : Nat) (w W : Int32) : upd (sp σ a w) 20 W = sp σ a W := by
  unfold sp
  rw [upd_uu]
theorem sp_0 {σ : Nat → Int32} {a : Nat} {w : Int32} (h19 : σ 19 = nI a) (hw : σ 20 = w) : sp σ a w = σ := by
  unfold sp
  rw [upd_self h19, upd_self hw]
def Lk (rs : List ((List (Int32 × Int32 × Option Int32)) × Int32 × (List (Int32 × Int32 × Option Int32)))) : Prop := ∀ (q : Nat) (x : (List (Int32 × Int32 × Option Int32)) × Int32 × (List (Int32 × Int32 × Option Int32))), rs[q]? = some x → x.1.length ≤ 4 ∧ x.2.2.length ≤ 4
def RulP (mo : Nat) (σ : Nat → Int32) (α : Nat → Nat → Int32) (h : AH) (t : Nat) (rs : List ((List (Int32 × Int32 × Option Int32)) × Int32 × (List (Int32 × Int32 × Option Int32)))) (res : Option (((List (Int32 × Int32 × Option Int32)) × Int32 × (List (Int32 × Int32 × Option Int32))) × Nat)) : AH → Prop := fun h' => ∃ (a' : Nat) (w' : Int32) (rs' : List ((List (Int32 × Int32 × Option Int32)) × Int32 × (List (Int32 × Int32 × Option Int32)))) (α' : Nat → Nat → Int32), h' = ovM mo (sp (upd σ 27 (nI rs'.length)) a' w') α' h ∧ An5 α' α ∧ FRn α' ∧ (res = none → 0 ≤ w') ∧ ∀ q, res = some q → w' = -1 ∧ a' = q.2 ∧ q.2 ≤ t ∧ rs' = rs ++ [q.1] ∧ RuN α' rs'
theorem An_5 {α1 α : Nat → Nat → Int32} (hA : An α1 α) : An5 α1 α := fun x hx => hA x (by omega)
theorem An5_t {α2 α1 α : Nat → Nat → Int32} (h2 : An5 α2 α1) (h1 : An5 α1 α) : An5 α2 α := fun x hx => (h2 x hx).trans (h1 x hx)
theorem An5_u {α : Nat → Nat → Int32} {x : Nat} {f : Nat → Int32} (h1 : 28 ≤ x) (h2 : x ≤ 32) : An5 (upa α x f) α := fun y hy => by rw [upa_n (by omega)]
/-- the rules behind one more: the block of the m-th was cleared, its sign and its sums were written -/
theorem RuN_snoc {α α1 α3 : Nat → Nat → Int32} {rs : List ((List (Int32 × Int32 × Option Int32)) × Int32 × (List (Int32 × Int32 × Option Int32)))} {q1 u1 : List (Int32 × Int32 × Option Int32)} {c : Int32} (hR : RuN α rs) (hLk : Lk rs) (hl1 : q1.length ≤ 4) (hl2 : u1.length ≤ 4)
    (hc28 : ∀ j, α1 28 j = α 28 j) (P1 : Pst (upa α 29 (clr (α 29) (8 * rs.length) 8)) (8 * rs.length) α1 q1) (P2 : Pst (upa α1 28 (upd (α1 28) rs.length c)) (8 * rs.length + 4) α3 u1) (h28 : α3 28 = upd (α1 28) rs.length c) : RuN α3 (rs ++ [(q1, c, u1)]) := by
  have old : ∀ j, j < 8 * rs.length → α3 29 j = α 29 j ∧ α3 32 j = α 32 j ∧ α3 30 j = α 30 j ∧ α3 31 j = α 31 j := by
    intro j hj
    obtain ⟨a1, a2, a3, a4⟩ := P2.1 j (by omega)
    obtain ⟨b1, b2, b3, b4⟩ := P1.1 j (by omega)
    have b1' : α1 29 j = clr (α 29) (8 * rs.length) 8 j := b1
    unfold clr at b1'
    rw [if_neg (by omega)] at b1'
    exact ⟨a1.trans b1', a4.trans b4, a2.trans b2, a3.trans b3⟩
  intro i x hx
  by_cases e : i = rs.length
  · subst e
    rw [List.getElem?_append_right (Nat.le_refl _), Nat.sub_self] at hx
    cases hx
    refine ⟨by rw [h28, pk_us], ?_, ?_⟩
    · have T1 := TmA_of P1 (fun i hi => by show clr (α 29) (8 * rs.length) 8 (8 * rs.length + i) = 0; unfold clr; rw [if_pos (by omega)])
      refine TmA_keep T1 hl1 (fun i hi => ?_)
      obtain ⟨a1, a2, a3, a4⟩ := P2.1 (8 * rs.length + i) (by omega)
      exact ⟨a1, a4, a2, a3⟩
    · refine TmA_of P2 (fun i hi => ?_)
      show α1 29 (8 * rs.length + 4 + i) = 0
      obtain ⟨b1, -⟩ := P1.1 (8 * rs.length + 4 + i) (by omega)
      rw [b1]
      show clr (α 29) (8 * rs.length) 8 (8 * rs.length + 4 + i) = 0
      unfold clr
      rw [if_pos (by omega)]
  · have hi : i < rs.length := by
      have := (List.getElem?_eq_some_iff.mp hx).1
      rw [List.length_append, List.length_singleton] at this
      omega
    rw [List.getElem?_append_left hi] at hx
    obtain ⟨r1, r2, r3⟩ := hR i x hx
    obtain ⟨l1, l2⟩ := hLk i x hx
    refine ⟨by rw [h28, pk_un e, hc28]; exact r1, TmA_keep r2 l1 (fun j hj => old _ (by omega)), TmA_keep r3 l2 (fun j hj => old _ (by omega))⟩
set_option maxHeartbeats 4000000 in
set_option maxRecDepth 100000 in
theorem c_M_rule_20 {l : Launch} (hl : l.stackTraces = false) {D : va_G} {cA : Nat → ClassId} {b n mo : Nat} (rs : List ((List (Int32 × Int32 × Option Int32)) × Int32 × (List (Int32 × Int32 × Option Int32)))) (σ : Nat → Int32) (α : Nat → Nat → Int32) (h : AH) (hmo : mo + 27 < n) (t a : Nat) (h16 : σ 16 = nI t) (h19 : σ 19 = nI a) (ht : t ≤ 300) (hat : a ≤ t) (hw : σ 20 = -1) (h27 : σ 27 = nI rs.length) (hm : rs.length = 20) (hFn : FRn α) : Cn l D cA b y_M_rule k_M_rule 5 71 0 0 [.ref mo] n (ovM mo σ α h) (Rp none n (RulP mo σ α h t rs none)) := by
  refine Cn.of (cc := b_M_rule) (maxL := 3) (ret := none) (hh := []) (by decide +kernel) hl (Or.inl ⟨rfl, rfl⟩) (Nat.le_of_ble_eq_true rfl) ?_
  intro p e s m args below meth c C
  refine j_aload_n C d_M_rule_0 rfl rfl ?_
  refine jm_get C fl_6_157 d_M_rule_1 hmo rfl ?_
  refine j_bipush (v := 20) C d_M_rule_4 (by decide) ?_
  refine j_icmp_ne (tgt := 18) C d_M_rule_6 (by decide) (fun c6 => ?_) (fun c6 => ?_)
  · exact absurd (show σ 27 = 20 by rw [h27, hm]; rfl) c6
  · refine j_aload_n C d_M_rule_9 rfl rfl ?_
    refine j_aload_n C d_M_rule_10 rfl rfl ?_
    refine jm_get C fl_6_129 d_M_rule_11 hmo rfl ?_
    refine j_callV C d_M_rule_14 ml_M_146 mc_M_fail in_M_fail rfl se_M_fail (by omega) (ovM_o _ _ _ _) (c_M_failN hl _ _ _ _ hmo (by rw [hw]; decide)) rfl rfl (Nat.le_of_ble_eq_true rfl) (Nat.le_of_ble_eq_true rfl) (Nat.le_of_ble_eq_true rfl) (Nat.le_of_ble_eq_true rfl) (jk_v ?_)
    exact j_vreturn C d_M_rule_17 rfl (by decide) (by decide) ⟨rfl, rfl, a, σ 19, rs, α, by unfold sp; rw [upd_self h27, upd_self h19], fun _ _ => rfl, hFn, fun _ => by rw [h19]; exact nI_pos' (by omega), fun q hq => by cases hq⟩

theorem rul_eq (σ : Nat → Int32) (d : Nat) (x : Int32) (h27 : σ 27 = x) : upd (upd (sp σ d (-1)) 19 (sp σ d (-1) 19 + 1)) 27 (upd (sp σ d (-1)) 19 (sp σ d (-1) 19 + 1) 27 + 1) = sp (upd σ 27 (x + 1)) (d + 1) (-1) := by
  rw [sp_i, show sp σ (d + 1) (-1) 27 = x from h27]
  unfold sp
  rw [upd_x (show (20 : Nat) ≠ 27 by decide), upd_x (show (19 : Nat) ≠ 27 by decide)]
set_option maxHeartbeats 4000000 in
set_option maxRecDepth 100000 in
theorem c_M_rule_r {l : Launch} (hl : l.stackTraces = false) {D : va_G} {cA : Nat → ClassId} {b n mo : Nat} (rs : List ((List (Int32 × Int32 × Option Int32)) × Int32 × (List (Int32 × Int32 × Option Int32)))) (σ : Nat → Int32) (α : Nat → Nat → Int32) (h : AH) (hmo : mo + 27 < n) (t a : Nat) (h16 : σ 16 = nI t) (h19 : σ 19 = nI a) (ht : t ≤ 300) (hat : a ≤ t) (hw : σ 20 = -1) (h27 : σ 27 = nI rs.length) (hm : rs.length < 20) (hR : RuN α rs) (hLk : Lk rs) (hFn : FRn α) : Cn l D cA b y_M_rule k_M_rule 5 71 0 0 [.ref mo] n (ovM mo σ α h) (Rp none n (RulP mo σ α h t rs (prule (α 17) t a))) := by
  refine Cn.of (cc := b_M_rule) (maxL := 3) (ret := none) (hh := []) (by decide +kernel) hl (Or.inl ⟨rfl, rfl⟩) (Nat.le_of_ble_eq_true rfl) ?_
  intro p e s m args below meth c C
  have mC : ∀ (q u : (List (Int32 × Int32 × Option Int32)) × Nat) (α1 α3 : Nat → Nat → Int32), psum (α 17) t 4 1 a = some q → ((hr (α 17) t (skp (α 17) t q.2)) = 60 ∨ (hr (α 17) t (skp (α 17) t q.2)) = 61 ∨ (hr (α 17) t (skp (α 17) t q.2)) = 33) → psum (α 17) t 4 1 ((skp (α 17) t q.2) + 1) = some u → u.2 ≤ t → An α1 (upa α 29 (clr (α 29) (8 * rs.length) 8)) → An α3 (upa α1 28 (upd (α1 28) rs.length (hr (α 17) t (skp (α 17) t q.2)))) → FRn α3 → Pst (upa α 29 (clr (α 29) (8 * rs.length) 8)) (8 * rs.length) α1 q.1 → Pst (upa α1 28 (upd (α1 28) rs.length (hr (α 17) t (skp (α 17) t q.2)))) (8 * rs.length + 4) α3 u.1 → J p l e { frames := 5, cells := 0, slots := 0, locals := 71 } s m args below meth c D cA b 3 (EndQ D cA b s below (Rp none n (RulP mo σ α h t rs (prule (α 17) t a))) 0 0) n (ovM mo (sp σ u.2 (-1)) α3 h) 0 0 134 [(1, .int (nI (8 * rs.length))), (0, .ref mo)] [] := by
    intro q u α1 α3 hp1 hc hp2 hu hA1 hA3 hF3 P1 P2
    refine j_aload_n C d_M_rule_134 rfl rfl ?_
    refine jm_get C fl_6_136 d_M_rule_135 hmo rfl ?_
    refine j_if_ge (tgt := 158) C d_M_rule_138 (by decide) (fun c138 => ?_) (fun c138 => ?_)
    · exact absurd (show (0 : Int32) ≤ -1 from c138) (by decide)
    · refine j_aload_n C d_M_rule_141 rfl rfl ?_
      refine j_callV C d_M_rule_142 ml_M_139 mc_M_see in_M_see rfl se_M_see (by omega) (ovM_o _ _ _ _) (c_M_seeG hl σ _ h hmo (α 17) (by exact ((hA3 17 (by omega)).trans (hA1 17 (by omega)))) t u.2 (-1) h16 ht hu) rfl rfl (Nat.le_of_ble_eq_true rfl) (Nat.le_of_ble_eq_true rfl) (Nat.le_of_ble_eq_true rfl) (Nat.le_of_ble_eq_true rfl) (jk_r ?_)
      refine j_bipush (v := 59) C d_M_rule_145 (by decide) ?_
      refine j_icmp_eq (tgt := 158) C d_M_rule_147 (by decide) (fun c147 => ?_) (fun c147 => ?_)
      · refine j_aload_n C d_M_rule_158 rfl rfl ?_
        refine jm_get C fl_6_136 d_M_rule_159 hmo rfl ?_
        refine j_if_lt (tgt := 166) C d_M_rule_162 (by decide) (fun c162 => ?_) (fun c162 => ?_)
        · refine j_aload_n C d_M_rule_166 rfl rfl ?_
          refine j_dup C d_M_rule_167 rfl ?_
          refine jm_get C fl_6_129 d_M_rule_168 hmo rfl ?_
          refine j_iconst (v := 1) C d_M_rule_171 (by decide) ?_
          refine j_iadd C d_M_rule_172 ?_
          refine jm_puti 19 C fp_6_129 d_M_rule_173 hmo (by decide) (by first | rfl | assumption) rfl rfl ?_
          refine j_aload_n C d_M_rule_176 rfl rfl ?_
          refine j_dup C d_M_rule_177 rfl ?_
          refine jm_get C fl_6_157 d_M_rule_178 hmo rfl ?_
          refine j_iconst (v := 1) C d_M_rule_181 (by decide) ?_
          refine j_iadd C d_M_rule_182 ?_
          refine jm_puti 27 C fp_6_157 d_M_rule_183 hmo (by decide) (by first | rfl | assumption) rfl rfl ?_
          have er : (prule (α 17) t a) = some ((q.1, (hr (α 17) t (skp (α 17) t q.2)), u.1), (skp (α 17) t u.2) + 1) := by simp only [prule, hp1, hp2, if_pos hc, if_pos c147]
          exact j_vreturn C d_M_rule_186 rfl (by decide) (by decide) ⟨rfl, rfl, (skp (α 17) t u.2) + 1, -1, rs ++ [(q.1, (hr (α 17) t (skp (α 17) t q.2)), u.1)], α3, by rw [len_snoc, ← nI_1]; exact congrArg (fun z => ovM mo z α3 h) (rul_eq σ _ _ (show σ 27 = nI rs.length from h27)), (An5_t (An_5 hA3) (An5_t (An5_u (by decide) (by decide)) (An5_t (An_5 hA1) (An5_u (by decide) (by decide))))), hF3, (fun z => (by rw [er] at z; cases z)), fun q' hq' => by rw [er] at hq'; cases hq'; exact ⟨rfl, rfl, hr_lt2 c147 (by decide), rfl, RuN_snoc hR hLk (psum_len _ _ _ _ _ _ hp1) (psum_len _ _ _ _ _ _ hp2) (fun j => by rw [hA1 28 (by omega)]; rfl) P1 P2 (hA3 28 (by omega))⟩⟩
        · exact absurd (show (-1 : Int32) < 0 by decide) c162
      · refine j_aload_n C d_M_rule_150 rfl rfl ?_
        refine j_aload_n C d_M_rule_151 rfl rfl ?_
        refine jm_get C fl_6_129 d_M_rule_152 hmo rfl ?_
        refine j_callV C d_M_rule_155 ml_M_146 mc_M_fail in_M_fail rfl se_M_fail (by omega) (ovM_o _ _ _ _) (c_M_failN hl _ _ _ _ hmo (show ¬ (0 : Int32) ≤ -1 by decide)) rfl rfl (Nat.le_of_ble_eq_true rfl) (Nat.le_of_ble_eq_true rfl) (Nat.le_of_ble_eq_true rfl) (Nat.le_of_ble_eq_true rfl) (jk_v ?_)
        refine j_h (h' := (ovM mo (sp σ (skp (α 17) t u.2) (nI (skp (α 17) t u.2))) α3 h)) (by rw [show sp σ (skp (α 17) t u.2) (-1) 19 = nI (skp (α 17) t u.2) from rfl, sp_w]) ?_
        refine j_aload_n C d_M_rule_158 rfl rfl ?_
        refine jm_get C fl_6_136 d_M_rule_159 hmo rfl ?_
        refine j_if_lt (tgt := 166) C d_M_rule_162 (by decide) (fun c162 => ?_) (fun c162 => ?_)
        · exact absurd (show nI (skp (α 17) t u.2) < 0 from c162) (nI_pos (by have := skp_le (α 17) hu; omega))
        · have er : (prule (α 17) t a) = none := by simp only [prule, hp1, hp2, if_pos hc, if_neg c147]
          exact j_vreturn C d_M_rule_165 rfl (by decide) (by decide) ⟨rfl, rfl, (skp (α 17) t u.2), (nI (skp (α 17) t u.2)), rs, α3, by rw [upd_self h27], (An5_t (An_5 hA3) (An5_t (An5_u (by decide) (by decide)) (An5_t (An_5 hA1) (An5_u (by decide) (by decide))))), hF3, fun _ => nI_pos' (by have := skp_le (α 17) hu; omega), fun q' hq' => by rw [er] at hq'; cases hq'⟩
  have mB : ∀ (q : (List (Int32 × Int32 × Option Int32)) × Nat) (α1 : Nat → Nat → Int32), psum (α 17) t 4 1 a = some q → ((hr (α 17) t (skp (α 17) t q.2)) = 60 ∨ (hr (α 17) t (skp (α 17) t q.2)) = 61 ∨ (hr (α 17) t (skp (α 17) t q.2)) = 33) → q.2 ≤ t → An α1 (upa α 29 (clr (α 29) (8 * rs.length) 8)) → FRn α1 → Pst (upa α 29 (clr (α 29) (8 * rs.length) 8)) (8 * rs.length) α1 q.1 → J p l e { frames := 5, cells := 0, slots := 0, locals := 71 } s m args below meth c D cA b 3 (EndQ D cA b s below (Rp none n (RulP mo σ α h t rs (prule (α 17) t a))) 0 0) n (ovM mo (sp σ (skp (α 17) t q.2) (-1)) α1 h) 0 0 104 [(1, .int (nI (8 * rs.length))), (0, .ref mo)] [] := by
    intro q α1 hp1 hc hq hA1 hF1 P1
    have hlt : (skp (α 17) t q.2) + 1 ≤ t := by
      rcases hc with z | z | z <;> exact hr_lt2 z (by decide)
    refine j_aload_n C d_M_rule_104 rfl rfl ?_
    refine jm_get C fl_6_72 d_M_rule_105 hmo rfl ?_
    refine j_aload_n C d_M_rule_108 rfl rfl ?_
    refine jm_get C fl_6_157 d_M_rule_109 hmo rfl ?_
    refine j_aload_n C d_M_rule_112 rfl rfl ?_
    refine j_callV C d_M_rule_113 ml_M_132 mc_M_here in_M_here rfl se_M_here (by omega) (ovM_o _ _ _ _) (c_M_hereG hl σ _ h hmo (α 17) (by exact (hA1 17 (by omega))) t (skp (α 17) t q.2) (-1) h16 ht (skp_le _ hq)) rfl rfl (Nat.le_of_ble_eq_true rfl) (Nat.le_of_ble_eq_true rfl) (Nat.le_of_ble_eq_true rfl) (Nat.le_of_ble_eq_true rfl) (jk_r ?_)
    refine jm_iastn C 19 28 (rs.length) d_M_rule_116 (by decide) rfl hmo (show σ 27 = nI rs.length from h27) (by omega) (by omega) rfl ?_
    refine j_aload_n C d_M_rule_117 rfl rfl ?_
    refine j_dup C d_M_rule_118 rfl ?_
    refine jm_get C fl_6_129 d_M_rule_119 hmo rfl ?_
    refine j_iconst (v := 1) C d_M_rule_122 (by decide) ?_
    refine j_iadd C d_M_rule_123 ?_
    refine jm_puti 19 C fp_6_129 d_M_rule_124 hmo (by decide) (by first | rfl | assumption) rfl rfl ?_
    refine j_h (h' := (ovM mo (sp σ ((skp (α 17) t q.2) + 1) (-1)) (upa α1 28 (upd (α1 28) rs.length (hr (α 17) t (skp (α 17) t q.2)))) h)) (by rw [sp_i]) ?_
    refine j_aload_n C d_M_rule_127 rfl rfl ?_
    refine j_iload_n C d_M_rule_128 rfl rfl ?_
    refine j_iconst (v := 4) C d_M_rule_129 (by decide) ?_
    refine j_iadd C d_M_rule_130 ?_
    rw [e4]
    refine j_callV C d_M_rule_131 ml_M_160 mc_M_sum in_M_sum rfl se_M_sum (by omega) (ovM_o _ _ _ _) (c_M_sum hl (8 * rs.length + 4) (sp σ ((skp (α 17) t q.2) + 1) (-1)) (upa α1 28 (upd (α1 28) rs.length (hr (α 17) t (skp (α 17) t q.2)))) h hmo t ((skp (α 17) t q.2) + 1) (show σ 16 = nI t from h16) rfl ht hlt rfl (by omega) (FRn_o hF1 (by decide) (by decide))) rfl rfl (Nat.le_of_ble_eq_true rfl) (Nat.le_of_ble_eq_true rfl) (Nat.le_of_ble_eq_true rfl) (Nat.le_of_ble_eq_true rfl) (jk_pv (fun hX hPX => ?_))
    obtain ⟨a2, w2, α3, rfl, hA3, hF3, hn3, hs3⟩ := hPX
    refine j_h (h' := ovM mo (sp σ a2 w2) α3 h) (by rw [sp_sp]) ?_
    have e17 : (upa α1 28 (upd (α1 28) rs.length (hr (α 17) t (skp (α 17) t q.2)))) 17 = α 17 := hA1 17 (by omega)
    rw [e17] at hs3 hn3
    cases hp2 : psum (α 17) t 4 1 ((skp (α 17) t q.2) + 1) with
    | none =>
      have hw2 := hn3 hp2
      have er : (prule (α 17) t a) = none := by simp only [prule, hp1, hp2, if_pos hc]
      refine j_aload_n C d_M_rule_134 rfl rfl ?_
      refine jm_get C fl_6_136 d_M_rule_135 hmo rfl ?_
      refine j_if_ge (tgt := 158) C d_M_rule_138 (by decide) (fun c138 => ?_) (fun c138 => ?_)
      · refine j_aload_n C d_M_rule_158 rfl rfl ?_
        refine jm_get C fl_6_136 d_M_rule_159 hmo rfl ?_
        refine j_if_lt (tgt := 166) C d_M_rule_162 (by decide) (fun c162 => ?_) (fun c162 => ?_)
        · exact absurd (show w2 < 0 from c162) (Int32.not_lt.mpr hw2)
        · exact j_vreturn C d_M_rule_165 rfl (by decide) (by decide) ⟨rfl, rfl, a2, w2, rs, α3, by rw [upd_self h27], (An5_t (An_5 hA3) (An5_t (An5_u (by decide) (by decide)) (An5_t (An_5 hA1) (An5_u (by decide) (by decide))))), hF3, fun _ => hw2, fun q' hq' => by rw [er] at hq'; cases hq'⟩
      · exact absurd hw2 (show ¬ 0 ≤ w2 from c138)
    | some u =>
      obtain ⟨rfl, rfl, hu, P2⟩ := hs3 u hp2
      exact j_pick [0, 1] rfl (mC q u α1 α3 hp1 hc hp2 hu hA1 hA3 hF3 P1 P2)
  have mA : J p l e { frames := 5, cells := 0, slots := 0, locals := 71 } s m args below meth c D cA b 3 (EndQ D cA b s below (Rp none n (RulP mo σ α h t rs (prule (α 17) t a))) 0 0) n (ovM mo (sp σ a (-1)) (upa α 29 (clr (α 29) (8 * rs.length) 8)) h) 0 0 49 [(1, .int (nI (8 * rs.length))), (0, .ref mo)] [] := by
    refine j_aload_n C d_M_rule_49 rfl rfl ?_
    refine j_iload_n C d_M_rule_50 rfl rfl ?_
    refine j_callV C d_M_rule_51 ml_M_160 mc_M_sum in_M_sum rfl se_M_sum (by omega) (ovM_o _ _ _ _) (c_M_sum hl (8 * rs.length) (sp σ a (-1)) (upa α 29 (clr (α 29) (8 * rs.length) 8)) h hmo t a (show σ 16 = nI t from h16) rfl ht hat rfl (by omega) (FRn_o hFn (by decide) (by decide))) rfl rfl (Nat.le_of_ble_eq_true rfl) (Nat.le_of_ble_eq_true rfl) (Nat.le_of_ble_eq_true rfl) (Nat.le_of_ble_eq_true rfl) (jk_pv (fun hX hPX => ?_))
    obtain ⟨a1, w1, α1, rfl, hA1, hF1, hn1, hs1⟩ := hPX
    refine j_h (h' := ovM mo (sp σ a1 w1) α1 h) (by rw [sp_sp]) ?_
    have hs1 : ∀ q, psum (α 17) t 4 1 a = some q → w1 = -1 ∧ a1 = q.2 ∧ q.2 ≤ t ∧ Pst (upa α 29 (clr (α 29) (8 * rs.length) 8)) (8 * rs.length) α1 q.1 := hs1
    have hn1 : psum (α 17) t 4 1 a = none → 0 ≤ w1 := hn1
    cases hp1 : psum (α 17) t 4 1 a with
    | none =>
      have hw1 := hn1 hp1
      have er : (prule (α 17) t a) = none := by simp only [prule, hp1]
      refine j_aload_n C d_M_rule_54 rfl rfl ?_
      refine jm_get C fl_6_136 d_M_rule_55 hmo rfl ?_
      refine j_if_ge (tgt := 96) C d_M_rule_58 (by decide) (fun c58 => ?_) (fun c58 => ?_)
      · refine j_aload_n C d_M_rule_96 rfl rfl ?_
        refine jm_get C fl_6_136 d_M_rule_97 hmo rfl ?_
        refine j_if_lt (tgt := 104) C d_M_rule_100 (by decide) (fun c100 => ?_) (fun c100 => ?_)
        · exact absurd (show w1 < 0 from c100) (Int32.not_lt.mpr hw1)
        · exact j_vreturn C d_M_rule_103 rfl (by decide) (by decide) ⟨rfl, rfl, a1, w1, rs, α1, by rw [upd_self h27], (An5_t (An_5 hA1) (An5_u (by decide) (by decide))), hF1, fun _ => hw1, fun q' hq' => by rw [er] at hq'; cases hq'⟩
      · exact absurd hw1 (show ¬ 0 ≤ w1 from c58)
    | some q =>
      obtain ⟨rfl, rfl, hq, P1⟩ := hs1 q hp1
      refine j_aload_n C d_M_rule_54 rfl rfl ?_
      refine jm_get C fl_6_136 d_M_rule_55 hmo rfl ?_
      refine j_if_ge (tgt := 96) C d_M_rule_58 (by decide) (fun c58 => ?_) (fun c58 => ?_)
      · exact absurd (show (0 : Int32) ≤ -1 from c58) (by decide)
      · refine j_aload_n C d_M_rule_61 rfl rfl ?_
        refine j_callV C d_M_rule_62 ml_M_139 mc_M_see in_M_see rfl se_M_see (by omega) (ovM_o _ _ _ _) (c_M_seeG hl σ _ h hmo (α 17) (by exact (hA1 17 (by omega))) t q.2 (-1) h16 ht hq) rfl rfl (Nat.le_of_ble_eq_true rfl) (Nat.le_of_ble_eq_true rfl) (Nat.le_of_ble_eq_true rfl) (Nat.le_of_ble_eq_true rfl) (jk_r ?_)
        refine j_bipush (v := 60) C d_M_rule_65 (by decide) ?_
        refine j_icmp_eq (tgt := 96) C d_M_rule_67 (by decide) (fun c67 => ?_) (fun c67 => ?_)
        · refine j_aload_n C d_M_rule_96 rfl rfl ?_
          refine jm_get C fl_6_136 d_M_rule_97 hmo rfl ?_
          refine j_if_lt (tgt := 104) C d_M_rule_100 (by decide) (fun c100 => ?_) (fun c100 => ?_)
          · exact j_pick [0, 1] rfl (mB q α1 hp1 (Or.inl c67) hq hA1 hF1 P1)
          · exact absurd (show (-1 : Int32) < 0 by decide) c100
        · refine j_aload_n C d_M_rule_70 rfl rfl ?_
          refine j_callV C d_M_rule_71 ml_M_132 mc_M_here in_M_here rfl se_M_here (by omega) (ovM_o _ _ _ _) (c_M_hereG hl σ _ h hmo (α 17) (by exact (hA1 17 (by omega))) t (skp (α 17) t q.2) (-1) h16 ht (skp_le _ hq)) rfl rfl (Nat.le_of_ble_eq_true rfl) (Nat.le_of_ble_eq_true rfl) (Nat.le_of_ble_eq_true rfl) (Nat.le_of_ble_eq_true rfl) (jk_r ?_)
          refine j_bipush (v := 61) C d_M_rule_74 (by decide) ?_
          refine j_icmp_eq (tgt := 96) C d_M_rule_76 (by decide) (fun c76 => ?_) (fun c76 => ?_)
          · refine j_aload_n C d_M_rule_96 rfl rfl ?_
            refine jm_get C fl_6_136 d_M_rule_97 hmo rfl ?_
            refine j_if_lt (tgt := 104) C d_M_rule_100 (by decide) (fun c100 => ?_) (fun c100 => ?_)
            · exact j_pick [0, 1] rfl (mB q α1 hp1 (Or.inr (Or.inl c76)) hq hA1 hF1 P1)
            · exact absurd (show (-1 : Int32) < 0 by decide) c100
          · refine j_aload_n C d_M_rule_79 rfl rfl ?_
            refine j_callV C d_M_rule_80 ml_M_132 mc_M_here in_M_here rfl se_M_here (by omega) (ovM_o _ _ _ _) (c_M_hereG hl σ _ h hmo (α 17) (by exact (hA1 17 (by omega))) t (skp (α 17) t q.2) (-1) h16 ht (skp_le _ hq)) rfl rfl (Nat.le_of_ble_eq_true rfl) (Nat.le_of_ble_eq_true rfl) (Nat.le_of_ble_eq_true rfl) (Nat.le_of_ble_eq_true rfl) (jk_r ?_)
            refine j_bipush (v := 33) C d_M_rule_83 (by decide) ?_
            refine j_icmp_eq (tgt := 96) C d_M_rule_85 (by decide) (fun c85 => ?_) (fun c85 => ?_)
            · refine j_aload_n C d_M_rule_96 rfl rfl ?_
              refine jm_get C fl_6_136 d_M_rule_97 hmo rfl ?_
              refine j_if_lt (tgt := 104) C d_M_rule_100 (by decide) (fun c100 => ?_) (fun c100 => ?_)
              · exact j_pick [0, 1] rfl (mB q α1 hp1 (Or.inr (Or.inr c85)) hq hA1 hF1 P1)
              · exact absurd (show (-1 : Int32) < 0 by decide) c100
            · refine j_aload_n C d_M_rule_88 rfl rfl ?_
              refine j_aload_n C d_M_rule_89 rfl rfl ?_
              refine jm_get C fl_6_129 d_M_rule_90 hmo rfl ?_
              refine j_callV C d_M_rule_93 ml_M_146 mc_M_fail in_M_fail rfl se_M_fail (by omega) (ovM_o _ _ _ _) (c_M_failN hl _ _ _ _ hmo (show ¬ (0 : Int32) ≤ -1 by decide)) rfl rfl (Nat.le_of_ble_eq_true rfl) (Nat.le_of_ble_eq_true rfl) (Nat.le_of_ble_eq_true rfl) (Nat.le_of_ble_eq_true rfl) (jk_v ?_)
              refine j_h (h' := (ovM mo (sp σ (skp (α 17) t q.2) (nI (skp (α 17) t q.2))) α1 h)) (by rw [show sp σ (skp (α 17) t q.2) (-1) 19 = nI (skp (α 17) t q.2) from rfl, sp_w]) ?_
              refine j_aload_n C d_M_rule_96 rfl rfl ?_
              refine jm_get C fl_6_136 d_M_rule_97 hmo rfl ?_
              refine j_if_lt (tgt := 104) C d_M_rule_100 (by decide) (fun c100 => ?_) (fun c100 => ?_)
              · exact absurd (show nI (skp (α 17) t q.2) < 0 from c100) (nI_pos (by have := skp_le (α 17) hq; omega))
              · have er : (prule (α 17) t a) = none := by simp only [prule, hp1, if_neg (show ¬ ((hr (α 17) t (skp (α 17) t q.2)) = 60 ∨ (hr (α 17) t (skp (α 17) t q.2)) = 61 ∨ (hr (α 17) t (skp (α 17) t q.2)) = 33) from fun z => z.elim c67 (fun z => z.elim c76 c85))]
                exact j_vreturn C d_M_rule_103 rfl (by decide) (by decide) ⟨rfl, rfl, (skp (α 17) t q.2), (nI (skp (α 17) t q.2)), rs, α1, by rw [upd_self h27], (An5_t (An_5 hA1) (An5_u (by decide) (by decide))), hF1, fun _ => nI_pos' (by have := skp_le (α 17) hq; omega), fun q' hq' => by rw [er] at hq'; cases hq'⟩
  have loop : ∀ (m9 i : Nat), i + m9 = 8 → J p l e { frames := 5, cells := 0, slots := 0, locals := 71 } s m args below meth c D cA b 3 (EndQ D cA b s below (Rp none n (RulP mo σ α h t rs (prule (α 17) t a))) 0 0) n (ovM mo (sp σ a (-1)) (upa α 29 (clr (α 29) (8 * rs.length) i)) h) 0 0 28 [(2, .int (nI i)), (1, .int (nI (8 * rs.length))), (0, .ref mo)] [] := by
    intro m9
    induction m9 with
    | zero =>
      intro i hi
      obtain rfl : i = 8 := by omega
      refine j_iload_n C d_M_rule_28 rfl rfl ?_
      refine j_bipush (v := 8) C d_M_rule_29 (by decide) ?_
      refine j_icmp_ge (tgt := 49) C d_M_rule_31 (by decide) (fun c31 => ?_) (fun c31 => ?_)
      · exact j_pick [1, 2] rfl mA
      · exact absurd (by decide) c31
    | succ m9 ih =>
      intro i hi
      refine j_iload_n C d_M_rule_28 rfl rfl ?_
      refine j_bipush (v := 8) C d_M_rule_29 (by decide) ?_
      refine j_icmp_ge (tgt := 49) C d_M_rule_31 (by decide) (fun c31 => ?_) (fun c31 => ?_)
      · exact absurd (show nI 8 ≤ nI i from c31) (nI_ge (by omega) (by omega))
      · refine j_aload_n C d_M_rule_34 rfl rfl ?_
        refine jm_get C fl_6_75 d_M_rule_35 hmo rfl ?_
        refine j_iload_n C d_M_rule_38 rfl rfl ?_
        refine j_iload_n C d_M_rule_39 rfl rfl ?_
        refine j_iadd C d_M_rule_40 ?_
        refine j_iconst (v := 0) C d_M_rule_41 (by decide) ?_
        refine jm_iastn C 20 29 (8 * rs.length + i) d_M_rule_42 (by decide) rfl hmo (nI_add (8 * rs.length) i) (by omega) (by omega) rfl ?_
        refine j_iinc (v := nI (i + 1)) C d_M_rule_43 rfl (nI_inc i) (by decide) rfl ?_
        refine j_goto (tgt := 28) C d_M_rule_46 (by decide) ?_
        exact j_h (by rw [upa_uu, upa_s, clr_s]) (j_pick [0, 1, 2] rfl (ih (i + 1) (by omega)))
  refine j_h (h' := (ovM mo (sp σ a (-1)) α h)) (by rw [sp_0 h19 hw]) ?_
  refine j_aload_n C d_M_rule_0 rfl rfl ?_
  refine jm_get C fl_6_157 d_M_rule_1 hmo rfl ?_
  refine j_bipush (v := 20) C d_M_rule_4 (by decide) ?_
  refine j_icmp_ne (tgt := 18) C d_M_rule_6 (by decide) (fun c6 => ?_) (fun c6 => ?_)
  · refine j_bipush (v := 8) C d_M_rule_18 (by decide) ?_
    refine j_aload_n C d_M_rule_20 rfl rfl ?_
    refine jm_get C fl_6_157 d_M_rule_21 hmo rfl ?_
    refine j_imul C d_M_rule_24 ?_
    rw [show (8 : Int32) * sp σ a (-1) 27 = nI (8 * rs.length) by rw [show sp σ a (-1) 27 = nI rs.length from h27]; exact e8 _]
    refine j_istore_n C d_M_rule_25 rfl (by decide) rfl ?_
    refine j_iconst (v := 0) C d_M_rule_26 (by decide) ?_
    refine j_istore_n C d_M_rule_27 rfl (by decide) rfl ?_
    refine j_h (h' := (ovM mo (sp σ a (-1)) (upa α 29 (clr (α 29) (8 * rs.length) 0)) h)) (by rw [clr_0, upa_self rfl]) ?_
    exact j_pick [0, 1, 2] rfl (loop 8 0 rfl)
  · exact absurd (show nI rs.length = nI 20 by rw [← h27]; exact c6) (fun z => by have := (nI_eq (by omega) (by omega)).mp z; omega)
/-! ===== the reference: rules: printed by program ===== -/
/-- the rules from a on, behind those of rs -/
def prul (g : Nat → Int32) (t : Nat) : Nat → Nat → List ((List (Int32 × Int32 × Option Int32)) × Int32 × (List (Int32 × Int32 × Option Int32))) → Option (List ((List (Int32 × Int32 × Option Int32)) × Int32 × (List (Int32 × Int32 × Option Int32))))
  | 0, _, _ => none
  | n + 1, a, rs => if hr g t (skp g t a) < 0 then some rs else if rs.length = 20 then none else (match prule g t (skp g t a) with
    | none => none
    | some q => prul g t n q.2 (rs ++ [q.1]))
def prules (g : Nat → Int32) (t : Nat) : Option (List ((List (Int32 × Int32 × Option Int32)) × Int32 × (List (Int32 × Int32 × Option Int32)))) := prul g t (t + 1) 0 []
def rvl (res : Option (List ((List (Int32 × Int32 × Option Int32)) × Int32 × (List (Int32 × Int32 × Option Int32))))) : Int32 := match res with
  | none => 0
  | some rs => nI rs.length
theorem prule_gt {g : Nat → Int32} {t a : Nat} {q : ((List (Int32 × Int32 × Option Int32)) × Int32 × (List (Int32 × Int32 × Option Int32))) × Nat} (ht : t ≤ 300) (ha : a ≤ t) (h : prule g t a = some q) : a < q.2 ∧ q.1.1.length ≤ 4 ∧ q.1.2.2.length ≤ 4 := by
  unfold prule at h
  split at h
  · cases h
  · rename_i q1 h1
    split at h
    · rename_i hc
      have k1 := psum_ge g t ht _ _ _ _ ha h1
      have s1 := skp_ge g t q1.2
      have hlt : skp g t q1.2 + 1 ≤ t := by
        rcases hc with z | z | z <;> exact hr_lt2 z (by decide)
      split at h
      · cases h
      · rename_i u1 h2
        split at h
        · cases h
          have k2 := psum_ge g t ht _ _ _ _ hlt h2
          have s2 := skp_ge g t u1.2
          refine ⟨?_, psum_len _ _ _ _ _ _ h1, psum_len _ _ _ _ _ _ h2⟩
          show a < skp g t u1.2 + 1
          omega
        · cases h
    · cases h
def KeS (σ' σ : Nat → Int32) : Prop := ∀ k, k ≠ 0 → k ≠ 16 → k ≠ 18 → k ≠ 19 → k ≠ 20 → k ≠ 21 → k ≠ 27 → σ' k = σ k
def RusP (mo : Nat) (σ : Nat → Int32) (α : Nat → Nat → Int32) (h : AH) (res : Option (List ((List (Int32 × Int32 × Option Int32)) × Int32 × (List (Int32 × Int32 × Option Int32))))) : AH → Prop := fun h' => ∃ (σ' : Nat → Int32) (α' : Nat → Nat → Int32), h' = ovM mo σ' α' h ∧ KeS σ' σ ∧ σ' 16 = 0 ∧ FRn α' ∧ (∀ x, x < 22 ∨ 32 < x → α' x = α x) ∧ (res = none → σ' 0 = 1 ∧ σ' 21 = σ 21 ∧ 0 ≤ σ' 18 ∧ ∀ x, x < 28 → α' x = α x) ∧ ∀ rs, res = some rs → σ' 0 = 0 ∧ σ' 21 = nI rs.length ∧ σ' 18 = -1 ∧ RuM α' rs ∧ FR α' ∧ rs.length ≤ 20 ∧ Lk rs
theorem cpd_lt {f g : Nat → Int32} {k j : Nat} (h : j < k) : cpd f g k j = g j := if_pos h
theorem RuM_tk {α : Nat → Nat → Int32} {rs : List ((List (Int32 × Int32 × Option Int32)) × Int32 × (List (Int32 × Int32 × Option Int32)))} (hR : RuN α rs) (hLk : Lk rs) (hl : rs.length ≤ 20) : RuM (mtk α 20 160) rs := by
  have tm : ∀ (k : Nat) (ts : List (Int32 × Int32 × Option Int32)), k + 4 ≤ 160 → ts.length ≤ 4 → TmA (α 29) (α 32) (α 30) (α 31) k ts → TmA (mtk α 20 160 23) (mtk α 20 160 26) (mtk α 20 160 24) (mtk α 20 160 25) k ts := by
    intro k ts hk htl hT
    have e23 : ∀ i, i < 4 → mtk α 20 160 23 (k + i) = α 29 (k + i) := fun i hi => cpd_lt (f := α 23) (g := α 29) (by omega)
    have e24 : ∀ i, i < 4 → mtk α 20 160 24 (k + i) = α 30 (k + i) := fun i hi => cpd_lt (f := α 24) (g := α 30) (by omega)
    have e25 : ∀ i, i < 4 → mtk α 20 160 25 (k + i) = α 31 (k + i) := fun i hi => cpd_lt (f := α 25) (g := α 31) (by omega)
    have e26 : ∀ i, i < 4 → mtk α 20 160 26 (k + i) = vp_nar .boolean (α 32 (k + i)) := fun i hi => cpd_lt (f := α 26) (g := fun j => vp_nar .boolean (α 32 j)) (by omega)
    refine ⟨fun i x hx => ?_, fun i h1 h2 => by rw [e23 i h2]; exact hT.2 i h1 h2⟩
    have hi : i < 4 := Nat.lt_of_lt_of_le (List.getElem?_eq_some_iff.mp hx).1 htl
    obtain ⟨h1, h2, h3, h4⟩ := hT.1 i x hx
    rw [e23 i hi, e24 i hi, e25 i hi, e26 i hi]
    refine ⟨h1, h2, fun z => by rw [h3 z]; rfl, fun y z => ?_⟩
    obtain ⟨g1, g2⟩ := h4 y z
    exact ⟨by rw [g1]; rfl, g2⟩
  intro q x hx
  have hq : q < rs.length := (List.getElem?_eq_some_iff.mp hx).1
  obtain ⟨r1, r2, r3⟩ := hR q x hx
  obtain ⟨l1, l2⟩ := hLk q x hx
  exact ⟨(cpd_lt (f := α 22) (g := α 28) (by omega)).trans r1, tm _ _ (by omega) l1 r2, tm _ _ (by omega) l2 r3⟩
theorem FR_tk {α : Nat → Nat → Int32} (hF : FRn α) : FR (mtk α 20 160) := by
  intro k hk
  have e24 : mtk α 20 160 24 k = α 30 k := cpd_lt (f := α 24) (g := α 30) hk
  have e25 : mtk α 20 160 25 k = α 31 k := cpd_lt (f := α 25) (g := α 31) hk
  rw [e24, e25]
  exact hF k hk
theorem Lk_snoc {rs : List ((List (Int32 × Int32 × Option Int32)) × Int32 × (List (Int32 × Int32 × Option Int32)))} {x : (List (Int32 × Int32 × Option Int32)) × Int32 × (List (Int32 × Int32 × Option Int32))} (h : Lk rs) (h1 : x.1.length ≤ 4) (h2 : x.2.2.length ≤ 4) : Lk (rs ++ [x]) := by
  intro q y hy
  by_cases e : q < rs.length
  · rw [List.getElem?_append_left e] at hy
    exact h q y hy
  · have hq := (List.getElem?_eq_some_iff.mp hy).1
    rw [List.length_append, List.length_singleton] at hq
    obtain rfl : q = rs.length := by omega
    rw [List.getElem?_append_right (Nat.le_refl _), Nat.sub_self] at hy
    cases hy
    exact ⟨h1, h2⟩
theorem sp_27 (σ : Nat → Int32) (a : Nat) (w x : Int32) : upd (sp σ a w) 27 x = sp (upd σ 27 x) a w := by
  unfold sp
  rw [upd_x (show (20 : Nat) ≠ 27 by decide), upd_x (show (19 : Nat) ≠ 27 by decide)]
theorem mtk_o (α : Nat → Nat → Int32) (x : Nat) (hx : x < 22 ∨ 26 < x) : mtk α 20 160 x = α x := by
  unfold mtk
  rw [upa_n (by omega), upa_n (by omega), upa_n (by omega), upa_n (by omega), upa_n (by omega)]
set_option maxHeartbeats 4000000 in
set_option maxRecDepth 100000 in
theorem c_M_rules_r {l : Launch} (hl : l.stackTraces = false) {D : va_G} {cA : Nat → ClassId} {b n mo : Nat} (σ : Nat → Int32) (α : Nat → Nat → Int32) (h : AH) (hmo : mo + 27 < n) (t : Nat) (h16 : σ 16 = nI t) (ht : t ≤ 300) (hFn : FRn α) : Cn l D cA b y_M_rules k_M_rules 6 85 0 0 [.ref mo] n (ovM mo σ α h) (Rp (some (.int (rvl (prules (α 17) t)))) n (RusP mo σ α h (prules (α 17) t))) := by
  refine Cn.of (cc := b_M_rules) (maxL := 2) (ret := (some .int)) (hh := []) (by decide +kernel) hl (Or.inl ⟨rfl, rfl⟩) (Nat.le_of_ble_eq_true rfl) ?_
  intro p e s m args below meth c C
  have finN : ∀ (a' : Nat) (w' : Int32) (rs' : List ((List (Int32 × Int32 × Option Int32)) × Int32 × (List (Int32 × Int32 × Option Int32)))) (α' : Nat → Nat → Int32), 0 ≤ w' → (prules (α 17) t) = none → An5 α' α → FRn α' → J p l e { frames := 6, cells := 0, slots := 0, locals := 85 } s m args below meth c D cA b 2 (EndQ D cA b s below (Rp (some (.int (rvl (prules (α 17) t)))) n (RusP mo σ α h (prules (α 17) t))) 0 0) n (ovM mo (sp (upd σ 27 (nI rs'.length)) a' w') α' h) 0 0 36 [(0, .ref mo)] [] := by
    intro a' w' rs' α' hw' hres hA' hF'
    refine j_aload_n C d_M_rules_36 rfl rfl ?_
    refine j_iconst (v := 0) C d_M_rules_37 (by decide) ?_
    refine jm_puti 16 C fp_6_126 d_M_rules_38 hmo (by decide) (by first | rfl | assumption) rfl rfl ?_
    refine j_aload_n C d_M_rules_41 rfl rfl ?_
    refine j_aload_n C d_M_rules_42 rfl rfl ?_
    refine jm_get C fl_6_136 d_M_rules_43 hmo rfl ?_
    refine jm_puti 18 C fp_6_53 d_M_rules_46 hmo (by decide) (by first | rfl | assumption) rfl rfl ?_
    refine j_aload_n C d_M_rules_49 rfl rfl ?_
    refine j_aload_n C d_M_rules_50 rfl rfl ?_
    refine jm_get C fl_6_136 d_M_rules_51 hmo rfl ?_
    refine j_if_ge (tgt := 61) C d_M_rules_54 (by decide) (fun c54 => ?_) (fun c54 => ?_)
    · refine j_iconst (v := 0) C d_M_rules_61 (by decide) ?_
      refine j_iconst (v := 1) C d_M_rules_62 (by decide) ?_
      refine j_iconst (v := 1) C d_M_rules_63 (by decide) ?_
      refine j_callV C d_M_rules_64 ml_M_109 mc_M_goes in_M_goes rfl se_M_goes (by omega) (ovM_o _ _ _ _) (c_M_goesK hl _ _ _ _ _ _ hmo (gs_1 _ _)) rfl rfl (Nat.le_of_ble_eq_true rfl) (Nat.le_of_ble_eq_true rfl) (Nat.le_of_ble_eq_true rfl) (Nat.le_of_ble_eq_true rfl) (jk_r ?_)
      refine j_if_ne (tgt := 72) C d_M_rules_67 (by decide) (fun c67 => ?_) (fun c67 => ?_)
      · exact absurd (by decide) c67
      · refine j_iconst (v := 0) C d_M_rules_70 (by decide) ?_
        exact j_ireturn C d_M_rules_71 rfl (by decide) (by decide) ⟨by rw [hres]; rfl, rfl, _, α', rfl, fun k h1 h2 h3 h4 h5 h6 h7 => by rw [pk_un h1, pk_un h3, pk_un h2]; unfold sp; rw [pk_un h5, pk_un h4, pk_un h7], rfl, hF', fun x hx => hA' x (by omega), fun _ => ⟨rfl, rfl, hw', fun x hx => hA' x (by omega)⟩, fun rs z => by rw [hres] at z; cases z⟩
    · exact absurd hw' (show ¬ 0 ≤ w' from c54)
  have finS : ∀ (a' : Nat) (rs : List ((List (Int32 × Int32 × Option Int32)) × Int32 × (List (Int32 × Int32 × Option Int32)))) (α1 : Nat → Nat → Int32), (prules (α 17) t) = some rs → An5 α1 α → FRn α1 → RuN α1 rs → Lk rs → rs.length ≤ 20 → J p l e { frames := 6, cells := 0, slots := 0, locals := 85 } s m args below meth c D cA b 2 (EndQ D cA b s below (Rp (some (.int (rvl (prules (α 17) t)))) n (RusP mo σ α h (prules (α 17) t))) 0 0) n (ovM mo (sp (upd σ 27 (nI rs.length)) a' (-1)) α1 h) 0 0 36 [(0, .ref mo)] [] := by
    intro a' rs α1 hres hA1 hF1 hR1 hLk hl1
    have loop2 : ∀ (k9 a9 : Nat), a9 + k9 = 160 → J p l e { frames := 6, cells := 0, slots := 0, locals := 85 } s m args below meth c D cA b 2 (EndQ D cA b s below (Rp (some (.int (rvl (prules (α 17) t)))) n (RusP mo σ α h (prules (α 17) t))) 0 0) n (ovM mo (upd (upd (upd (upd (sp (upd σ 27 (nI rs.length)) a' (-1)) 16 0) 18 (-1)) 0 0) 21 (nI rs.length)) (mtk α1 20 a9) h) 0 0 108 [(1, .int (nI a9)), (0, .ref mo)] [] := by
      intro k9
      induction k9 with
      | zero =>
        intro a9 ha
        obtain rfl : a9 = 160 := by omega
        refine j_iload_n C d_M_rules_108 rfl rfl ?_
        refine j_sipush (v := 160) C d_M_rules_109 (by decide) ?_
        refine j_icmp_ge (tgt := 169) C d_M_rules_112 (by decide) (fun c112 => ?_) (fun c112 => ?_)
        · refine j_aload_n C d_M_rules_169 rfl rfl ?_
          refine jm_get C fl_6_166 d_M_rules_170 hmo rfl ?_
          exact j_ireturn C d_M_rules_173 rfl (by decide) (by decide) ⟨by rw [hres]; rfl, rfl, _, mtk α1 20 160, rfl, fun k h1 h2 h3 h4 h5 h6 h7 => by rw [pk_un h6, pk_un h1, pk_un h3, pk_un h2]; unfold sp; rw [pk_un h5, pk_un h4, pk_un h7], rfl, hF1, fun x hx => (mtk_o α1 x (by omega)).trans (hA1 x (by omega)), (fun z => (by rw [hres] at z; cases z)), fun rs2 z => by rw [hres] at z; cases z; exact ⟨rfl, rfl, rfl, RuM_tk hR1 hLk hl1, FR_tk hF1, hl1, hLk⟩⟩
        · exact absurd (by decide) c112
      | succ k9 ih =>
        intro a9 ha
        refine j_iload_n C d_M_rules_108 rfl rfl ?_
        refine j_sipush (v := 160) C d_M_rules_109 (by decide) ?_
        refine j_icmp_ge (tgt := 169) C d_M_rules_112 (by decide) (fun c112 => ?_) (fun c112 => ?_)
        · exact absurd (show nI 160 ≤ nI a9 from c112) (nI_ge (by omega) (by omega))
        · refine j_aload_n C d_M_rules_115 rfl rfl ?_
          refine jm_get C fl_6_60 d_M_rules_116 hmo rfl ?_
          refine j_iload_n C d_M_rules_119 rfl rfl ?_
          refine j_aload_n C d_M_rules_120 rfl rfl ?_
          refine jm_get C fl_6_75 d_M_rules_121 hmo rfl ?_
          refine j_iload_n C d_M_rules_124 rfl rfl ?_
          refine jm_iald C 20 d_M_rules_125 (by decide) rfl hmo (vp_in_nI (by omega) (by omega)) rfl ?_
          refine jm_iasti C 15 23 d_M_rules_126 (by decide) rfl hmo (vp_in_nI (by omega) (by omega)) rfl ?_
          refine j_aload_n C d_M_rules_127 rfl rfl ?_
          refine jm_get C fl_6_63 d_M_rules_128 hmo rfl ?_
          refine j_iload_n C d_M_rules_131 rfl rfl ?_
          refine j_aload_n C d_M_rules_132 rfl rfl ?_
          refine jm_get C fl_6_78 d_M_rules_133 hmo rfl ?_
          refine j_iload_n C d_M_rules_136 rfl rfl ?_
          refine jm_iald C 21 d_M_rules_137 (by decide) rfl hmo (vp_in_nI (by omega) (by omega)) rfl ?_
          refine jm_iasti C 16 24 d_M_rules_138 (by decide) rfl hmo (vp_in_nI (by omega) (by omega)) rfl ?_
          refine j_aload_n C d_M_rules_139 rfl rfl ?_
          refine jm_get C fl_6_66 d_M_rules_140 hmo rfl ?_
          refine j_iload_n C d_M_rules_143 rfl rfl ?_
          refine j_aload_n C d_M_rules_144 rfl rfl ?_
          refine jm_get C fl_6_81 d_M_rules_145 hmo rfl ?_
          refine j_iload_n C d_M_rules_148 rfl rfl ?_
          refine jm_iald C 22 d_M_rules_149 (by decide) rfl hmo (vp_in_nI (by omega) (by omega)) rfl ?_
          refine jm_iasti C 17 25 d_M_rules_150 (by decide) rfl hmo (vp_in_nI (by omega) (by omega)) rfl ?_
          refine j_aload_n C d_M_rules_151 rfl rfl ?_
          refine jm_get C fl_6_69 d_M_rules_152 hmo rfl ?_
          refine j_iload_n C d_M_rules_155 rfl rfl ?_
          refine j_aload_n C d_M_rules_156 rfl rfl ?_
          refine jm_get C fl_6_84 d_M_rules_157 hmo rfl ?_
          refine j_iload_n C d_M_rules_160 rfl rfl ?_
          refine jm_zald C 23 d_M_rules_161 (by decide) rfl hmo (vp_in_nI (by omega) (by omega)) rfl ?_
          refine jm_zasti C 18 26 d_M_rules_162 (by decide) rfl hmo (vp_in_nI (by omega) (by omega)) rfl ?_
          refine j_iinc (v := nI (a9 + 1)) C d_M_rules_163 rfl (nI_inc a9) (by decide) rfl ?_
          refine j_goto (tgt := 108) C d_M_rules_166 (by decide) ?_
          exact j_h (by rw [nI_clamp (by omega), ← mtk_k, ← cpd_s, ← cpd_s, ← cpd_s, ← cpd_s]; rfl) (j_pick [0, 1] rfl (ih (a9 + 1) (by omega)))
    have loop1 : ∀ (k9 a9 : Nat), a9 + k9 = 20 → J p l e { frames := 6, cells := 0, slots := 0, locals := 85 } s m args below meth c D cA b 2 (EndQ D cA b s below (Rp (some (.int (rvl (prules (α 17) t)))) n (RusP mo σ α h (prules (α 17) t))) 0 0) n (ovM mo (upd (upd (upd (upd (sp (upd σ 27 (nI rs.length)) a' (-1)) 16 0) 18 (-1)) 0 0) 21 (nI rs.length)) (mtk α1 a9 0) h) 0 0 82 [(1, .int (nI a9)), (0, .ref mo)] [] := by
      intro k9
      induction k9 with
      | zero =>
        intro a9 ha
        obtain rfl : a9 = 20 := by omega
        refine j_iload_n C d_M_rules_82 rfl rfl ?_
        refine j_bipush (v := 20) C d_M_rules_83 (by decide) ?_
        refine j_icmp_ge (tgt := 106) C d_M_rules_85 (by decide) (fun c85 => ?_) (fun c85 => ?_)
        · refine j_iconst (v := 0) C d_M_rules_106 (by decide) ?_
          refine j_istore_n C d_M_rules_107 rfl (by decide) rfl ?_
          exact j_pick [0, 1] rfl (loop2 160 0 rfl)
        · exact absurd (by decide) c85
      | succ k9 ih =>
        intro a9 ha
        refine j_iload_n C d_M_rules_82 rfl rfl ?_
        refine j_bipush (v := 20) C d_M_rules_83 (by decide) ?_
        refine j_icmp_ge (tgt := 106) C d_M_rules_85 (by decide) (fun c85 => ?_) (fun c85 => ?_)
        · exact absurd (show nI 20 ≤ nI a9 from c85) (nI_ge (by omega) (by omega))
        · refine j_aload_n C d_M_rules_88 rfl rfl ?_
          refine jm_get C fl_6_57 d_M_rules_89 hmo rfl ?_
          refine j_iload_n C d_M_rules_92 rfl rfl ?_
          refine j_aload_n C d_M_rules_93 rfl rfl ?_
          refine jm_get C fl_6_72 d_M_rules_94 hmo rfl ?_
          refine j_iload_n C d_M_rules_97 rfl rfl ?_
          refine jm_iald C 19 d_M_rules_98 (by decide) rfl hmo (vp_in_nI (by omega) (by omega)) rfl ?_
          refine jm_iasti C 14 22 d_M_rules_99 (by decide) rfl hmo (vp_in_nI (by omega) (by omega)) rfl ?_
          refine j_iinc (v := nI (a9 + 1)) C d_M_rules_100 rfl (nI_inc a9) (by decide) rfl ?_
          refine j_goto (tgt := 82) C d_M_rules_103 (by decide) ?_
          exact j_h (by rw [nI_clamp (by omega), mtk_a]) (j_pick [0, 1] rfl (ih (a9 + 1) (by omega)))
    refine j_aload_n C d_M_rules_36 rfl rfl ?_
    refine j_iconst (v := 0) C d_M_rules_37 (by decide) ?_
    refine jm_puti 16 C fp_6_126 d_M_rules_38 hmo (by decide) (by first | rfl | assumption) rfl rfl ?_
    refine j_aload_n C d_M_rules_41 rfl rfl ?_
    refine j_aload_n C d_M_rules_42 rfl rfl ?_
    refine jm_get C fl_6_136 d_M_rules_43 hmo rfl ?_
    refine jm_puti 18 C fp_6_53 d_M_rules_46 hmo (by decide) (by first | rfl | assumption) rfl rfl ?_
    refine j_aload_n C d_M_rules_49 rfl rfl ?_
    refine j_aload_n C d_M_rules_50 rfl rfl ?_
    refine jm_get C fl_6_136 d_M_rules_51 hmo rfl ?_
    refine j_if_ge (tgt := 61) C d_M_rules_54 (by decide) (fun c54 => ?_) (fun c54 => ?_)
    · exact absurd (show (0 : Int32) ≤ -1 from c54) (by decide)
    · refine j_iconst (v := 1) C d_M_rules_57 (by decide) ?_
      refine j_goto (tgt := 62) C d_M_rules_58 (by decide) ?_
      refine j_iconst (v := 1) C d_M_rules_62 (by decide) ?_
      refine j_iconst (v := 1) C d_M_rules_63 (by decide) ?_
      refine j_callV C d_M_rules_64 ml_M_109 mc_M_goes in_M_goes rfl se_M_goes (by omega) (ovM_o _ _ _ _) (c_M_goesK hl _ _ _ _ _ _ hmo (gs_0 (by decide) (by decide) (by decide))) rfl rfl (Nat.le_of_ble_eq_true rfl) (Nat.le_of_ble_eq_true rfl) (Nat.le_of_ble_eq_true rfl) (Nat.le_of_ble_eq_true rfl) (jk_r ?_)
      refine j_if_ne (tgt := 72) C d_M_rules_67 (by decide) (fun c67 => ?_) (fun c67 => ?_)
      · refine j_aload_n C d_M_rules_72 rfl rfl ?_
        refine j_aload_n C d_M_rules_73 rfl rfl ?_
        refine jm_get C fl_6_157 d_M_rules_74 hmo rfl ?_
        refine jm_puti 21 C fp_6_166 d_M_rules_77 hmo (by decide) (by first | rfl | assumption) rfl rfl ?_
        refine j_iconst (v := 0) C d_M_rules_80 (by decide) ?_
        refine j_istore_n C d_M_rules_81 rfl (by decide) rfl ?_
        refine j_h (h' := ovM mo (upd (upd (upd (upd (sp (upd σ 27 (nI rs.length)) a' (-1)) 16 0) 18 (-1)) 0 0) 21 (nI rs.length)) (mtk α1 0 0) h) (by rw [mtk_0]; rfl) ?_
        exact j_pick [0, 1] rfl (loop1 20 0 rfl)
      · exact absurd c67 (by decide)
  have loop : ∀ (n9 a : Nat) (rs : List ((List (Int32 × Int32 × Option Int32)) × Int32 × (List (Int32 × Int32 × Option Int32)))) (α1 : Nat → Nat → Int32), a ≤ t → t + 1 ≤ a + n9 → rs.length ≤ 20 → An5 α1 α → FRn α1 → RuN α1 rs → Lk rs → prul (α 17) t n9 a rs = (prules (α 17) t) → J p l e { frames := 6, cells := 0, slots := 0, locals := 85 } s m args below meth c D cA b 2 (EndQ D cA b s below (Rp (some (.int (rvl (prules (α 17) t)))) n (RusP mo σ α h (prules (α 17) t))) 0 0) n (ovM mo (sp (upd σ 27 (nI rs.length)) a (-1)) α1 h) 0 0 15 [(0, .ref mo)] [] := by
    intro n9
    induction n9 with
    | zero =>
      intro a rs α1 ha hfu
      exact absurd hfu (by omega)
    | succ n9 ih =>
      intro a rs α1 ha hfu hl1 hA1 hF1 hR1 hLk hv
      refine j_aload_n C d_M_rules_15 rfl rfl ?_
      refine jm_get C fl_6_136 d_M_rules_16 hmo rfl ?_
      refine j_if_ge (tgt := 36) C d_M_rules_19 (by decide) (fun c19 => ?_) (fun c19 => ?_)
      · exact absurd (show (0 : Int32) ≤ -1 from c19) (by decide)
      · refine j_aload_n C d_M_rules_22 rfl rfl ?_
        refine j_callV C d_M_rules_23 ml_M_139 mc_M_see in_M_see rfl se_M_see (by omega) (ovM_o _ _ _ _) (c_M_seeG hl (upd σ 27 (nI rs.length)) _ h hmo (α 17) (by exact (hA1 17 (by omega))) t a (-1) (show σ 16 = nI t from h16) ht ha) rfl rfl (Nat.le_of_ble_eq_true rfl) (Nat.le_of_ble_eq_true rfl) (Nat.le_of_ble_eq_true rfl) (Nat.le_of_ble_eq_true rfl) (jk_r ?_)
        refine j_if_lt (tgt := 36) C d_M_rules_26 (by decide) (fun c26 => ?_) (fun c26 => ?_)
        · exact finS (skp (α 17) t a) rs α1 (by rw [← hv]; show (if _ then some rs else _) = some rs; rw [if_pos c26]) hA1 hF1 hR1 hLk hl1
        · by_cases h20 : rs.length = 20
          · refine j_aload_n C d_M_rules_29 rfl rfl ?_
            refine j_callV C d_M_rules_30 ml_M_163 mc_M_rule in_M_rule rfl se_M_rule (by omega) (ovM_o _ _ _ _) (c_M_rule_20 hl rs (sp (upd σ 27 (nI rs.length)) (skp (α 17) t a) (-1)) α1 h hmo t (skp (α 17) t a) (show σ 16 = nI t from h16) rfl ht (skp_le _ ha) rfl rfl h20 hF1) rfl rfl (Nat.le_of_ble_eq_true rfl) (Nat.le_of_ble_eq_true rfl) (Nat.le_of_ble_eq_true rfl) (Nat.le_of_ble_eq_true rfl) (jk_pv (fun hX hPX => ?_))
            obtain ⟨a2, w2, rs2, α2, rfl, hA2, hF2, hn2, hs2⟩ := hPX
            refine j_h (h' := ovM mo (sp (upd σ 27 (nI rs2.length)) a2 w2) α2 h) (by rw [sp_27, sp_sp, upd_uu]) ?_
            refine j_goto (tgt := 15) C d_M_rules_33 (by decide) ?_
            have er : (prules (α 17) t) = none := by rw [← hv]; show (if _ then _ else if rs.length = 20 then none else _) = none; rw [if_neg c26, if_pos h20]
            have hw2 := hn2 rfl
            refine j_aload_n C d_M_rules_15 rfl rfl ?_
            refine jm_get C fl_6_136 d_M_rules_16 hmo rfl ?_
            refine j_if_ge (tgt := 36) C d_M_rules_19 (by decide) (fun c19 => ?_) (fun c19 => ?_)
            · exact finN a2 w2 rs2 α2 hw2 er (An5_t hA2 hA1) hF2
            · exact absurd hw2 (show ¬ 0 ≤ w2 from c19)
          · refine j_aload_n C d_M_rules_29 rfl rfl ?_
            refine j_callV C d_M_rules_30 ml_M_163 mc_M_rule in_M_rule rfl se_M_rule (by omega) (ovM_o _ _ _ _) (c_M_rule_r hl rs (sp (upd σ 27 (nI rs.length)) (skp (α 17) t a) (-1)) α1 h hmo t (skp (α 17) t a) (show σ 16 = nI t from h16) rfl ht (skp_le _ ha) rfl rfl (by omega) hR1 hLk hF1) rfl rfl (Nat.le_of_ble_eq_true rfl) (Nat.le_of_ble_eq_true rfl) (Nat.le_of_ble_eq_true rfl) (Nat.le_of_ble_eq_true rfl) (jk_pv (fun hX hPX => ?_))
            obtain ⟨a2, w2, rs2, α2, rfl, hA2, hF2, hn2, hs2⟩ := hPX
            refine j_h (h' := ovM mo (sp (upd σ 27 (nI rs2.length)) a2 w2) α2 h) (by rw [sp_27, sp_sp, upd_uu]) ?_
            refine j_goto (tgt := 15) C d_M_rules_33 (by decide) ?_
            rw [show α1 17 = α 17 from hA1 17 (by omega)] at hn2 hs2
            cases hpr : prule (α 17) t (skp (α 17) t a) with
            | none =>
              have er : (prules (α 17) t) = none := by rw [← hv]; show (if _ then _ else if rs.length = 20 then none else _) = none; rw [if_neg c26, if_neg h20, hpr]
              have hw2 := hn2 hpr
              refine j_aload_n C d_M_rules_15 rfl rfl ?_
              refine jm_get C fl_6_136 d_M_rules_16 hmo rfl ?_
              refine j_if_ge (tgt := 36) C d_M_rules_19 (by decide) (fun c19 => ?_) (fun c19 => ?_)
              · exact finN a2 w2 rs2 α2 hw2 er (An5_t hA2 hA1) hF2
              · exact absurd hw2 (show ¬ 0 ≤ w2 from c19)
            | some q =>
              obtain ⟨rfl, rfl, hq, rfl, hR2⟩ := hs2 q hpr
              obtain ⟨g1, g2, g3⟩ := prule_gt ht (skp_le _ ha) hpr
              have g4 := skp_ge (α 17) t a
              exact ih q.2 (rs ++ [q.1]) α2 hq (by omega) (by rw [len_snoc]; omega) (An5_t hA2 hA1) hF2 hR2 (Lk_snoc hLk g2 g3) (by rw [← hv]; show _ = (if _ then _ else if rs.length = 20 then none else _); rw [if_neg c26, if_neg h20, hpr])
  refine j_aload_n C d_M_rules_0 rfl rfl ?_
  refine j_iconst (v := 0) C d_M_rules_1 (by decide) ?_
  refine jm_puti 27 C fp_6_157 d_M_rules_2 hmo (by decide) (by first | rfl | assumption) rfl rfl ?_
  refine j_aload_n C d_M_rules_5 rfl rfl ?_
  refine j_iconst (v := 0) C d_M_rules_6 (by decide) ?_
  refine jm_puti 19 C fp_6_129 d_M_rules_7 hmo (by decide) (by first | rfl | assumption) rfl rfl ?_
  refine j_aload_n C d_M_rules_10 rfl rfl ?_
  refine j_iconst (v := (-1)) C d_M_rules_11 (by decide) ?_
  refine jm_puti 20 C fp_6_136 d_M_rules_12 hmo (by decide) (by first | rfl | assumption) rfl rfl ?_
  refine j_h (h' := (ovM mo (sp (upd σ 27 (nI ([] : List ((List (Int32 × Int32 × Option Int32)) × Int32 × (List (Int32 × Int32 × Option Int32)))).length)) 0 (-1)) α h)) rfl ?_
  exact loop (t + 1) 0 [] α (by omega) (by omega) (by simp) (fun _ _ => rfl) hFn (fun q x hx => by cases hx) (fun q x hx => by cases hx) rfl
