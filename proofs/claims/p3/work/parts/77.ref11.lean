/-! ===== the reference: rule: printed by program ===== -/
theorem sp_w (σ : Nat → Int32) (a : Nat) (w W : Int32) : upd (sp σ a w) 20 W = sp σ a W := by
  unfold sp
  rw [upd_uu]
theorem sp_0 {σ : Nat → Int32} {a : Nat} {w : Int32} (h19 : σ 19 = nI a) (hw : σ 20 = w) : sp σ a w = σ := by
  unfold sp
  rw [upd_self h19, upd_self hw]
def Lk (rs : List ((List (Int32 × Int32 × Option Int32)) × Int32 × (List (Int32 × Int32 × Option Int32)))) : Prop := ∀ (q : Nat) (x : (List (Int32 × Int32 × Option Int32)) × Int32 × (List (Int32 × Int32 × Option Int32))), rs[q]? = some x → x.1.length ≤ 4 ∧ x.2.2.length ≤ 4
def RulP (mo : Nat) (σ : Nat → Int32) (α : Nat → Nat → Int32) (h : AH) (t : Nat) (rs : List ((List (Int32 × Int32 × Option Int32)) × Int32 × (List (Int32 × Int32 × Option Int32)))) (res : Option (((List (Int32 × Int32 × Option Int32)) × Int32 × (List (Int32 × Int32 × Option Int32))) × Nat)) : AH → Prop := fun h' => ∃ (a' : Nat) (w' : Int32) (rs' : List ((List (Int32 × Int32 × Option Int32)) × Int32 × (List (Int32 × Int32 × Option Int32)))) (α' : Nat → Nat → Int32), h' = ovM mo (sp (upd σ 27 (nI rs'.length)) a' w') α' h ∧ An5 α' α ∧ FRn α' ∧ (res = none → 0 ≤ w') ∧ ∀ q, res = some q → w' = -1 ∧ a' = q.2 ∧ q.2 ≤ t ∧ rs' = rs ++ [q.1] ∧ RuN α' rs'
theorem An_5 {α1 α : Nat → Nat → Int32} (hA : An α1 α) : An5 α1 α := fun x hx => hA x (by omega)
theorem An5_t {α2 α1 α : Nat → Nat → Int32} (h2 : An5 α2 α1) (h1 : An5 α1 α) : An5 α2 α := fun x hx => (h2 x hx).trans (h1 x hx)
theorem An5_u {α : Nat → Nat → Int32} {x : Nat} {f : Nat → Int32} (h1 : 28 ≤ x) (h2 : x ≤ 32) : An5 (upa α x f) α := fun y hy => by rw [upa_n (by omega)]
/-- the rules behind one more: the block of the m-th was cleared, its sign and its sums were written -/
theorem RuN_snoc {α α1 α3 : Nat → Nat → Int32} {rs : List ((List (Int32 × Int32 × Option Int32)) × Int32 × (List (Int32 × Int32 × Option Int32)))} {q1 u1 : List (Int32 × Int32 × Option Int32)} {c : Int32} (hR : RuN α rs) (hLk : Lk rs) (hl1 : q1.length ≤ 4) (hl2 : u1.length ≤ 4)
    (hc28 : ∀ j, α1 28 j = α 28 j) (P1 : Pst (upa α 29 (clr (α 29) (8 * rs.length) 8)) (8 * rs.length) α1 q1) (P2 : Pst (upa α1 28 (upd (α1 28) rs.length c)) (8 * rs.length + 4) α3 u1) (h28 : α3 28 = upd (α1 28) rs.length c) : RuN α3 (rs ++ [(q1, c, u1)]) := by
  have old : ∀ j, j < 8 * rs.length → α3 29 j = α 29 j ∧ α3 32 j = α 32 j ∧ α3 30 j = α 30 j ∧ α3 31 j = α 31 j := by
    intro j hj
    obtain ⟨a1, a2, a3, a4⟩ := P2.1 j (by omega)
    obtain ⟨b1, b2, b3, b4⟩ := P1.1 j (by omega)
    have b1' : α1 29 j = clr (α 29) (8 * rs.length) 8 j := b1
    unfold clr at b1'
    rw [if_neg (by omega)] at b1'
    exact ⟨a1.trans b1', a4.trans b4, a2.trans b2, a3.trans b3⟩
  intro i x hx
  by_cases e : i = rs.length
  · subst e
    rw [List.getElem?_append_right (Nat.le_refl _), Nat.sub_self] at hx
    cases hx
    refine ⟨by rw [h28, pk_us], ?_, ?_⟩
    · have T1 := TmA_of P1 (fun i hi => by show clr (α 29) (8 * rs.length) 8 (8 * rs.length + i) = 0; unfold clr; rw [if_pos (by omega)])
      refine TmA_keep T1 hl1 (fun i hi => ?_)
      obtain ⟨a1, a2, a3, a4⟩ := P2.1 (8 * rs.length + i) (by omega)
      exact ⟨a1, a4, a2, a3⟩
    · refine TmA_of P2 (fun i hi => ?_)
      show α1 29 (8 * rs.length + 4 + i) = 0
      obtain ⟨b1, -⟩ := P1.1 (8 * rs.length + 4 + i) (by omega)
      rw [b1]
      show clr (α 29) (8 * rs.length) 8 (8 * rs.length + 4 + i) = 0
      unfold clr
      rw [if_pos (by omega)]
  · have hi : i < rs.length := by
      have := (List.getElem?_eq_some_iff.mp hx).1
      rw [List.length_append, List.length_singleton] at this
      omega
    rw [List.getElem?_append_left hi] at hx
    obtain ⟨r1, r2, r3⟩ := hR i x hx
    obtain ⟨l1, l2⟩ := hLk i x hx
    refine ⟨by rw [h28, pk_un e, hc28]; exact r1, TmA_keep r2 l1 (fun j hj => old _ (by omega)), TmA_keep r3 l2 (fun j hj => old _ (by omega))⟩
set_option maxHeartbeats 4000000 in
set_option maxRecDepth 100000 in
theorem c_M_rule_20 {l : Launch} (hl : l.stackTraces = false) {D : va_G} {cA : Nat → ClassId} {b n mo : Nat} (rs : List ((List (Int32 × Int32 × Option Int32)) × Int32 × (List (Int32 × Int32 × Option Int32)))) (σ : Nat → Int32) (α : Nat → Nat → Int32) (h : AH) (hmo : mo + 27 < n) (t a : Nat) (h16 : σ 16 = nI t) (h19 : σ 19 = nI a) (ht : t ≤ 300) (hat : a ≤ t) (hw : σ 20 = -1) (h27 : σ 27 = nI rs.length) (hm : rs.length = 20) (hFn : FRn α) : Cn l D cA b y_M_rule k_M_rule 5 71 0 0 [.ref mo] n (ovM mo σ α h) (Rp none n (RulP mo σ α h t rs none)) := by
  refine Cn.of (cc := b_M_rule) (maxL := 3) (ret := none) (hh := []) (by decide +kernel) hl (Or.inl ⟨rfl, rfl⟩) (Nat.le_of_ble_eq_true rfl) ?_
  intro p e s m args below meth c C
  refine j_aload_n C d_M_rule_0 rfl rfl ?_
  refine jm_get C fl_6_157 d_M_rule_1 hmo rfl ?_
  refine j_bipush (v := 20) C d_M_rule_4 (by decide) ?_
  refine j_icmp_ne (tgt := 18) C d_M_rule_6 (by decide) (fun c6 => ?_) (fun c6 => ?_)
  · exact absurd (show σ 27 = 20 by rw [h27, hm]; rfl) c6
  · refine j_aload_n C d_M_rule_9 rfl rfl ?_
    refine j_aload_n C d_M_rule_10 rfl rfl ?_
    refine jm_get C fl_6_129 d_M_rule_11 hmo rfl ?_
    refine j_callV C d_M_rule_14 ml_M_146 mc_M_fail in_M_fail rfl se_M_fail (by omega) (ovM_o _ _ _ _) (c_M_failN hl _ _ _ _ hmo (by rw [hw]; decide)) rfl rfl (Nat.le_of_ble_eq_true rfl) (Nat.le_of_ble_eq_true rfl) (Nat.le_of_ble_eq_true rfl) (Nat.le_of_ble_eq_true rfl) (jk_v ?_)
    exact j_vreturn C d_M_rule_17 rfl (by decide) (by decide) ⟨rfl, rfl, a, σ 19, rs, α, by unfold sp; rw [upd_self h27, upd_self h19], fun _ _ => rfl, hFn, fun _ => by rw [h19]; exact nI_pos' (by omega), fun q hq => by cases hq⟩

theorem rul_eq (σ : Nat → Int32) (d : Nat) (x : Int32) (h27 : σ 27 = x) : upd (upd (sp σ d (-1)) 19 (sp σ d (-1) 19 + 1)) 27 (upd (sp σ d (-1)) 19 (sp σ d (-1) 19 + 1) 27 + 1) = sp (upd σ 27 (x + 1)) (d + 1) (-1) := by
  rw [sp_i, show sp σ (d + 1) (-1) 27 = x from h27]
  unfold sp
  rw [upd_x (show (20 : Nat) ≠ 27 by decide), upd_x (show (19 : Nat) ≠ 27 by decide)]
set_option maxHeartbeats 4000000 in
set_option maxRecDepth 100000 in
theorem c_M_rule_r {l : Launch} (hl : l.stackTraces = false) {D : va_G} {cA : Nat → ClassId} {b n mo : Nat} (rs : List ((List (Int32 × Int32 × Option Int32)) × Int32 × (List (Int32 × Int32 × Option Int32)))) (σ : Nat → Int32) (α : Nat → Nat → Int32) (h : AH) (hmo : mo + 27 < n) (t a : Nat) (h16 : σ 16 = nI t) (h19 : σ 19 = nI a) (ht : t ≤ 300) (hat : a ≤ t) (hw : σ 20 = -1) (h27 : σ 27 = nI rs.length) (hm : rs.length < 20) (hR : RuN α rs) (hLk : Lk rs) (hFn : FRn α) : Cn l D cA b y_M_rule k_M_rule 5 71 0 0 [.ref mo] n (ovM mo σ α h) (Rp none n (RulP mo σ α h t rs (prule (α 17) t a))) := by
  refine Cn.of (cc := b_M_rule) (maxL := 3) (ret := none) (hh := []) (by decide +kernel) hl (Or.inl ⟨rfl, rfl⟩) (Nat.le_of_ble_eq_true rfl) ?_
  intro p e s m args below meth c C
  have mC : ∀ (q u : (List (Int32 × Int32 × Option Int32)) × Nat) (α1 α3 : Nat → Nat → Int32), psum (α 17) t 4 1 a = some q → ((hr (α 17) t (skp (α 17) t q.2)) = 60 ∨ (hr (α 17) t (skp (α 17) t q.2)) = 61 ∨ (hr (α 17) t (skp (α 17) t q.2)) = 33) → psum (α 17) t 4 1 ((skp (α 17) t q.2) + 1) = some u → u.2 ≤ t → An α1 (upa α 29 (clr (α 29) (8 * rs.length) 8)) → An α3 (upa α1 28 (upd (α1 28) rs.length (hr (α 17) t (skp (α 17) t q.2)))) → FRn α3 → Pst (upa α 29 (clr (α 29) (8 * rs.length) 8)) (8 * rs.length) α1 q.1 → Pst (upa α1 28 (upd (α1 28) rs.length (hr (α 17) t (skp (α 17) t q.2)))) (8 * rs.length + 4) α3 u.1 → J p l e { frames := 5, cells := 0, slots := 0, locals := 71 } s m args below meth c D cA b 3 (EndQ D cA b s below (Rp none n (RulP mo σ α h t rs (prule (α 17) t a))) 0 0) n (ovM mo (sp σ u.2 (-1)) α3 h) 0 0 134 [(1, .int (nI (8 * rs.length))), (0, .ref mo)] [] := by
    intro q u α1 α3 hp1 hc hp2 hu hA1 hA3 hF3 P1 P2
    refine j_aload_n C d_M_rule_134 rfl rfl ?_
    refine jm_get C fl_6_136 d_M_rule_135 hmo rfl ?_
    refine j_if_ge (tgt := 158) C d_M_rule_138 (by decide) (fun c138 => ?_) (fun c138 => ?_)
    · exact absurd (show (0 : Int32) ≤ -1 from c138) (by decide)
    · refine j_aload_n C d_M_rule_141 rfl rfl ?_
      refine j_callV C d_M_rule_142 ml_M_139 mc_M_see in_M_see rfl se_M_see (by omega) (ovM_o _ _ _ _) (c_M_seeG hl σ _ h hmo (α 17) (by exact ((hA3 17 (by omega)).trans (hA1 17 (by omega)))) t u.2 (-1) h16 ht hu) rfl rfl (Nat.le_of_ble_eq_true rfl) (Nat.le_of_ble_eq_true rfl) (Nat.le_of_ble_eq_true rfl) (Nat.le_of_ble_eq_true rfl) (jk_r ?_)
      refine j_bipush (v := 59) C d_M_rule_145 (by decide) ?_
      refine j_icmp_eq (tgt := 158) C d_M_rule_147 (by decide) (fun c147 => ?_) (fun c147 => ?_)
      · refine j_aload_n C d_M_rule_158 rfl rfl ?_
        refine jm_get C fl_6_136 d_M_rule_159 hmo rfl ?_
        refine j_if_lt (tgt := 166) C d_M_rule_162 (by decide) (fun c162 => ?_) (fun c162 => ?_)
        · refine j_aload_n C d_M_rule_166 rfl rfl ?_
          refine j_dup C d_M_rule_167 rfl ?_
          refine jm_get C fl_6_129 d_M_rule_168 hmo rfl ?_
          refine j_iconst (v := 1) C d_M_rule_171 (by decide) ?_
          refine j_iadd C d_M_rule_172 ?_
          refine jm_puti 19 C fp_6_129 d_M_rule_173 hmo (by decide) (by first | rfl | assumption) rfl rfl ?_
          refine j_aload_n C d_M_rule_176 rfl rfl ?_
          refine j_dup C d_M_rule_177 rfl ?_
          refine jm_get C fl_6_157 d_M_rule_178 hmo rfl ?_
          refine j_iconst (v := 1) C d_M_rule_181 (by decide) ?_
          refine j_iadd C d_M_rule_182 ?_
          refine jm_puti 27 C fp_6_157 d_M_rule_183 hmo (by decide) (by first | rfl | assumption) rfl rfl ?_
          have er : (prule (α 17) t a) = some ((q.1, (hr (α 17) t (skp (α 17) t q.2)), u.1), (skp (α 17) t u.2) + 1) := by simp only [prule, hp1, hp2, if_pos hc, if_pos c147]
          exact j_vreturn C d_M_rule_186 rfl (by decide) (by decide) ⟨rfl, rfl, (skp (α 17) t u.2) + 1, -1, rs ++ [(q.1, (hr (α 17) t (skp (α 17) t q.2)), u.1)], α3, by rw [len_snoc, ← nI_1]; exact congrArg (fun z => ovM mo z α3 h) (rul_eq σ _ _ (show σ 27 = nI rs.length from h27)), (An5_t (An_5 hA3) (An5_t (An5_u (by decide) (by decide)) (An5_t (An_5 hA1) (An5_u (by decide) (by decide))))), hF3, (fun z => (by rw [er] at z; cases z)), fun q' hq' => by rw [er] at hq'; cases hq'; exact ⟨rfl, rfl, hr_lt2 c147 (by decide), rfl, RuN_snoc hR hLk (psum_len _ _ _ _ _ _ hp1) (psum_len _ _ _ _ _ _ hp2) (fun j => by rw [hA1 28 (by omega)]; rfl) P1 P2 (hA3 28 (by omega))⟩⟩
        · exact absurd (show (-1 : Int32) < 0 by decide) c162
      · refine j_aload_n C d_M_rule_150 rfl rfl ?_
        refine j_aload_n C d_M_rule_151 rfl rfl ?_
        refine jm_get C fl_6_129 d_M_rule_152 hmo rfl ?_
        refine j_callV C d_M_rule_155 ml_M_146 mc_M_fail in_M_fail rfl se_M_fail (by omega) (ovM_o _ _ _ _) (c_M_failN hl _ _ _ _ hmo (show ¬ (0 : Int32) ≤ -1 by decide)) rfl rfl (Nat.le_of_ble_eq_true rfl) (Nat.le_of_ble_eq_true rfl) (Nat.le_of_ble_eq_true rfl) (Nat.le_of_ble_eq_true rfl) (jk_v ?_)
        refine j_h (h' := (ovM mo (sp σ (skp (α 17) t u.2) (nI (skp (α 17) t u.2))) α3 h)) (by rw [show sp σ (skp (α 17) t u.2) (-1) 19 = nI (skp (α 17) t u.2) from rfl, sp_w]) ?_
        refine j_aload_n C d_M_rule_158 rfl rfl ?_
        refine jm_get C fl_6_136 d_M_rule_159 hmo rfl ?_
        refine j_if_lt (tgt := 166) C d_M_rule_162 (by decide) (fun c162 => ?_) (fun c162 => ?_)
        · exact absurd (show nI (skp (α 17) t u.2) < 0 from c162) (nI_pos (by have := skp_le (α 17) hu; omega))
        · have er : (prule (α 17) t a) = none := by simp only [prule, hp1, hp2, if_pos hc, if_neg c147]
          exact j_vreturn C d_M_rule_165 rfl (by decide) (by decide) ⟨rfl, rfl, (skp (α 17) t u.2), (nI (skp (α 17) t u.2)), rs, α3, by rw [upd_self h27], (An5_t (An_5 hA3) (An5_t (An5_u (by decide) (by decide)) (An5_t (An_5 hA1) (An5_u (by decide) (by decide))))), hF3, fun _ => nI_pos' (by have := skp_le (α 17) hu; omega), fun q' hq' => by rw [er] at hq'; cases hq'⟩
  have mB : ∀ (q : (List (Int32 × Int32 × Option Int32)) × Nat) (α1 : Nat → Nat → Int32), psum (α 17) t 4 1 a = some q → ((hr (α 17) t (skp (α 17) t q.2)) = 60 ∨ (hr (α 17) t (skp (α 17) t q.2)) = 61 ∨ (hr (α 17) t (skp (α 17) t q.2)) = 33) → q.2 ≤ t → An α1 (upa α 29 (clr (α 29) (8 * rs.length) 8)) → FRn α1 → Pst (upa α 29 (clr (α 29) (8 * rs.length) 8)) (8 * rs.length) α1 q.1 → J p l e { frames := 5, cells := 0, slots := 0, locals := 71 } s m args below meth c D cA b 3 (EndQ D cA b s below (Rp none n (RulP mo σ α h t rs (prule (α 17) t a))) 0 0) n (ovM mo (sp σ (skp (α 17) t q.2) (-1)) α1 h) 0 0 104 [(1, .int (nI (8 * rs.length))), (0, .ref mo)] [] := by
    intro q α1 hp1 hc hq hA1 hF1 P1
    have hlt : (skp (α 17) t q.2) + 1 ≤ t := by
      rcases hc with z | z | z <;> exact hr_lt2 z (by decide)
    refine j_aload_n C d_M_rule_104 rfl rfl ?_
    refine jm_get C fl_6_72 d_M_rule_105 hmo rfl ?_
    refine j_aload_n C d_M_rule_108 rfl rfl ?_
    refine jm_get C fl_6_157 d_M_rule_109 hmo rfl ?_
    refine j_aload_n C d_M_rule_112 rfl rfl ?_
    refine j_callV C d_M_rule_113 ml_M_132 mc_M_here in_M_here rfl se_M_here (by omega) (ovM_o _ _ _ _) (c_M_hereG hl σ _ h hmo (α 17) (by exact (hA1 17 (by omega))) t (skp (α 17) t q.2) (-1) h16 ht (skp_le _ hq)) rfl rfl (Nat.le_of_ble_eq_true rfl) (Nat.le_of_ble_eq_true rfl) (Nat.le_of_ble_eq_true rfl) (Nat.le_of_ble_eq_true rfl) (jk_r ?_)
    refine jm_iastn C 19 28 (rs.length) d_M_rule_116 (by decide) rfl hmo (show σ 27 = nI rs.length from h27) (by omega) (by omega) rfl ?_
    refine j_aload_n C d_M_rule_117 rfl rfl ?_
    refine j_dup C d_M_rule_118 rfl ?_
    refine jm_get C fl_6_129 d_M_rule_119 hmo rfl ?_
    refine j_iconst (v := 1) C d_M_rule_122 (by decide) ?_
    refine j_iadd C d_M_rule_123 ?_
    refine jm_puti 19 C fp_6_129 d_M_rule_124 hmo (by decide) (by first | rfl | assumption) rfl rfl ?_
    refine j_h (h' := (ovM mo (sp σ ((skp (α 17) t q.2) + 1) (-1)) (upa α1 28 (upd (α1 28) rs.length (hr (α 17) t (skp (α 17) t q.2)))) h)) (by rw [sp_i]) ?_
    refine j_aload_n C d_M_rule_127 rfl rfl ?_
    refine j_iload_n C d_M_rule_128 rfl rfl ?_
    refine j_iconst (v := 4) C d_M_rule_129 (by decide) ?_
    refine j_iadd C d_M_rule_130 ?_
    rw [e4]
    refine j_callV C d_M_rule_131 ml_M_160 mc_M_sum in_M_sum rfl se_M_sum (by omega) (ovM_o _ _ _ _) (c_M_sum hl (8 * rs.length + 4) (sp σ ((skp (α 17) t q.2) + 1) (-1)) (upa α1 28 (upd (α1 28) rs.length (hr (α 17) t (skp (α 17) t q.2)))) h hmo t ((skp (α 17) t q.2) + 1) (show σ 16 = nI t from h16) rfl ht hlt rfl (by omega) (FRn_o hF1 (by decide) (by decide))) rfl rfl (Nat.le_of_ble_eq_true rfl) (Nat.le_of_ble_eq_true rfl) (Nat.le_of_ble_eq_true rfl) (Nat.le_of_ble_eq_true rfl) (jk_pv (fun hX hPX => ?_))
    obtain ⟨a2, w2, α3, rfl, hA3, hF3, hn3, hs3⟩ := hPX
    refine j_h (h' := ovM mo (sp σ a2 w2) α3 h) (by rw [sp_sp]) ?_
    have e17 : (upa α1 28 (upd (α1 28) rs.length (hr (α 17) t (skp (α 17) t q.2)))) 17 = α 17 := hA1 17 (by omega)
    rw [e17] at hs3 hn3
    cases hp2 : psum (α 17) t 4 1 ((skp (α 17) t q.2) + 1) with
    | none =>
      have hw2 := hn3 hp2
      have er : (prule (α 17) t a) = none := by simp only [prule, hp1, hp2, if_pos hc]
      refine j_aload_n C d_M_rule_134 rfl rfl ?_
      refine jm_get C fl_6_136 d_M_rule_135 hmo rfl ?_
      refine j_if_ge (tgt := 158) C d_M_rule_138 (by decide) (fun c138 => ?_) (fun c138 => ?_)
      · refine j_aload_n C d_M_rule_158 rfl rfl ?_
        refine jm_get C fl_6_136 d_M_rule_159 hmo rfl ?_
        refine j_if_lt (tgt := 166) C d_M_rule_162 (by decide) (fun c162 => ?_) (fun c162 => ?_)
        · exact absurd (show w2 < 0 from c162) (Int32.not_lt.mpr hw2)
        · exact j_vreturn C d_M_rule_165 rfl (by decide) (by decide) ⟨rfl, rfl, a2, w2, rs, α3, by rw [upd_self h27], (An5_t (An_5 hA3) (An5_t (An5_u (by decide) (by decide)) (An5_t (An_5 hA1) (An5_u (by decide) (by decide))))), hF3, fun _ => hw2, fun q' hq' => by rw [er] at hq'; cases hq'⟩
      · exact absurd hw2 (show ¬ 0 ≤ w2 from c138)
    | some u =>
      obtain ⟨rfl, rfl, hu, P2⟩ := hs3 u hp2
      exact j_pick [0, 1] rfl (mC q u α1 α3 hp1 hc hp2 hu hA1 hA3 hF3 P1 P2)
  have mA : J p l e { frames := 5, cells := 0, slots := 0, locals := 71 } s m args below meth c D cA b 3 (EndQ D cA b s below (Rp none n (RulP mo σ α h t rs (prule (α 17) t a))) 0 0) n (ovM mo (sp σ a (-1)) (upa α 29 (clr (α 29) (8 * rs.length) 8)) h) 0 0 49 [(1, .int (nI (8 * rs.length))), (0, .ref mo)] [] := by
    refine j_aload_n C d_M_rule_49 rfl rfl ?_
    refine j_iload_n C d_M_rule_50 rfl rfl ?_
    refine j_callV C d_M_rule_51 ml_M_160 mc_M_sum in_M_sum rfl se_M_sum (by omega) (ovM_o _ _ _ _) (c_M_sum hl (8 * rs.length) (sp σ a (-1)) (upa α 29 (clr (α 29) (8 * rs.length) 8)) h hmo t a (show σ 16 = nI t from h16) rfl ht hat rfl (by omega) (FRn_o hFn (by decide) (by decide))) rfl rfl (Nat.le_of_ble_eq_true rfl) (Nat.le_of_ble_eq_true rfl) (Nat.le_of_ble_eq_true rfl) (Nat.le_of_ble_eq_true rfl) (jk_pv (fun hX hPX => ?_))
    obtain ⟨a1, w1, α1, rfl, hA1, hF1, hn1, hs1⟩ := hPX
    refine j_h (h' := ovM mo (sp σ a1 w1) α1 h) (by rw [sp_sp]) ?_
    have hs1 : ∀ q, psum (α 17) t 4 1 a = some q → w1 = -1 ∧ a1 = q.2 ∧ q.2 ≤ t ∧ Pst (upa α 29 (clr (α 29) (8 * rs.length) 8)) (8 * rs.length) α1 q.1 := hs1
    have hn1 : psum (α 17) t 4 1 a = none → 0 ≤ w1 := hn1
    cases hp1 : psum (α 17) t 4 1 a with
    | none =>
      have hw1 := hn1 hp1
      have er : (prule (α 17) t a) = none := by simp only [prule, hp1]
      refine j_aload_n C d_M_rule_54 rfl rfl ?_
      refine jm_get C fl_6_136 d_M_rule_55 hmo rfl ?_
      refine j_if_ge (tgt := 96) C d_M_rule_58 (by decide) (fun c58 => ?_) (fun c58 => ?_)
      · refine j_aload_n C d_M_rule_96 rfl rfl ?_
        refine jm_get C fl_6_136 d_M_rule_97 hmo rfl ?_
        refine j_if_lt (tgt := 104) C d_M_rule_100 (by decide) (fun c100 => ?_) (fun c100 => ?_)
        · exact absurd (show w1 < 0 from c100) (Int32.not_lt.mpr hw1)
        · exact j_vreturn C d_M_rule_103 rfl (by decide) (by decide) ⟨rfl, rfl, a1, w1, rs, α1, by rw [upd_self h27], (An5_t (An_5 hA1) (An5_u (by decide) (by decide))), hF1, fun _ => hw1, fun q' hq' => by rw [er] at hq'; cases hq'⟩
      · exact absurd hw1 (show ¬ 0 ≤ w1 from c58)
    | some q =>
      obtain ⟨rfl, rfl, hq, P1⟩ := hs1 q hp1
      refine j_aload_n C d_M_rule_54 rfl rfl ?_
      refine jm_get C fl_6_136 d_M_rule_55 hmo rfl ?_
      refine j_if_ge (tgt := 96) C d_M_rule_58 (by decide) (fun c58 => ?_) (fun c58 => ?_)
      · exact absurd (show (0 : Int32) ≤ -1 from c58) (by decide)
      · refine j_aload_n C d_M_rule_61 rfl rfl ?_
        refine j_callV C d_M_rule_62 ml_M_139 mc_M_see in_M_see rfl se_M_see (by omega) (ovM_o _ _ _ _) (c_M_seeG hl σ _ h hmo (α 17) (by exact (hA1 17 (by omega))) t q.2 (-1) h16 ht hq) rfl rfl (Nat.le_of_ble_eq_true rfl) (Nat.le_of_ble_eq_true rfl) (Nat.le_of_ble_eq_true rfl) (Nat.le_of_ble_eq_true rfl) (jk_r ?_)
        refine j_bipush (v := 60) C d_M_rule_65 (by decide) ?_
        refine j_icmp_eq (tgt := 96) C d_M_rule_67 (by decide) (fun c67 => ?_) (fun c67 => ?_)
        · refine j_aload_n C d_M_rule_96 rfl rfl ?_
          refine jm_get C fl_6_136 d_M_rule_97 hmo rfl ?_
          refine j_if_lt (tgt := 104) C d_M_rule_100 (by decide) (fun c100 => ?_) (fun c100 => ?_)
          · exact j_pick [0, 1] rfl (mB q α1 hp1 (Or.inl c67) hq hA1 hF1 P1)
          · exact absurd (show (-1 : Int32) < 0 by decide) c100
        · refine j_aload_n C d_M_rule_70 rfl rfl ?_
          refine j_callV C d_M_rule_71 ml_M_132 mc_M_here in_M_here rfl se_M_here (by omega) (ovM_o _ _ _ _) (c_M_hereG hl σ _ h hmo (α 17) (by exact (hA1 17 (by omega))) t (skp (α 17) t q.2) (-1) h16 ht (skp_le _ hq)) rfl rfl (Nat.le_of_ble_eq_true rfl) (Nat.le_of_ble_eq_true rfl) (Nat.le_of_ble_eq_true rfl) (Nat.le_of_ble_eq_true rfl) (jk_r ?_)
          refine j_bipush (v := 61) C d_M_rule_74 (by decide) ?_
          refine j_icmp_eq (tgt := 96) C d_M_rule_76 (by decide) (fun c76 => ?_) (fun c76 => ?_)
          · refine j_aload_n C d_M_rule_96 rfl rfl ?_
            refine jm_get C fl_6_136 d_M_rule_97 hmo rfl ?_
            refine j_if_lt (tgt := 104) C d_M_rule_100 (by decide) (fun c100 => ?_) (fun c100 => ?_)
            · exact j_pick [0, 1] rfl (mB q α1 hp1 (Or.inr (Or.inl c76)) hq hA1 hF1 P1)
            · exact absurd (show (-1 : Int32) < 0 by decide) c100
          · refine j_aload_n C d_M_rule_79 rfl rfl ?_
            refine j_callV C d_M_rule_80 ml_M_132 mc_M_here in_M_here rfl se_M_here (by omega) (ovM_o _ _ _ _) (c_M_hereG hl σ _ h hmo (α 17) (by exact (hA1 17 (by omega))) t (skp (α 17) t q.2) (-1) h16 ht (skp_le _ hq)) rfl rfl (Nat.le_of_ble_eq_true rfl) (Nat.le_of_ble_eq_true rfl) (Nat.le_of_ble_eq_true rfl) (Nat.le_of_ble_eq_true rfl) (jk_r ?_)
            refine j_bipush (v := 33) C d_M_rule_83 (by decide) ?_
            refine j_icmp_eq (tgt := 96) C d_M_rule_85 (by decide) (fun c85 => ?_) (fun c85 => ?_)
            · refine j_aload_n C d_M_rule_96 rfl rfl ?_
              refine jm_get C fl_6_136 d_M_rule_97 hmo rfl ?_
              refine j_if_lt (tgt := 104) C d_M_rule_100 (by decide) (fun c100 => ?_) (fun c100 => ?_)
              · exact j_pick [0, 1] rfl (mB q α1 hp1 (Or.inr (Or.inr c85)) hq hA1 hF1 P1)
              · exact absurd (show (-1 : Int32) < 0 by decide) c100
            · refine j_aload_n C d_M_rule_88 rfl rfl ?_
              refine j_aload_n C d_M_rule_89 rfl rfl ?_
              refine jm_get C fl_6_129 d_M_rule_90 hmo rfl ?_
              refine j_callV C d_M_rule_93 ml_M_146 mc_M_fail in_M_fail rfl se_M_fail (by omega) (ovM_o _ _ _ _) (c_M_failN hl _ _ _ _ hmo (show ¬ (0 : Int32) ≤ -1 by decide)) rfl rfl (Nat.le_of_ble_eq_true rfl) (Nat.le_of_ble_eq_true rfl) (Nat.le_of_ble_eq_true rfl) (Nat.le_of_ble_eq_true rfl) (jk_v ?_)
              refine j_h (h' := (ovM mo (sp σ (skp (α 17) t q.2) (nI (skp (α 17) t q.2))) α1 h)) (by rw [show sp σ (skp (α 17) t q.2) (-1) 19 = nI (skp (α 17) t q.2) from rfl, sp_w]) ?_
              refine j_aload_n C d_M_rule_96 rfl rfl ?_
              refine jm_get C fl_6_136 d_M_rule_97 hmo rfl ?_
              refine j_if_lt (tgt := 104) C d_M_rule_100 (by decide) (fun c100 => ?_) (fun c100 => ?_)
              · exact absurd (show nI (skp (α 17) t q.2) < 0 from c100) (nI_pos (by have := skp_le (α 17) hq; omega))
              · have er : (prule (α 17) t a) = none := by simp only [prule, hp1, if_neg (show ¬ ((hr (α 17) t (skp (α 17) t q.2)) = 60 ∨ (hr (α 17) t (skp (α 17) t q.2)) = 61 ∨ (hr (α 17) t (skp (α 17) t q.2)) = 33) from fun z => z.elim c67 (fun z => z.elim c76 c85))]
                exact j_vreturn C d_M_rule_103 rfl (by decide) (by decide) ⟨rfl, rfl, (skp (α 17) t q.2), (nI (skp (α 17) t q.2)), rs, α1, by rw [upd_self h27], (An5_t (An_5 hA1) (An5_u (by decide) (by decide))), hF1, fun _ => nI_pos' (by have := skp_le (α 17) hq; omega), fun q' hq' => by rw [er] at hq'; cases hq'⟩
  have loop : ∀ (m9 i : Nat), i + m9 = 8 → J p l e { frames := 5, cells := 0, slots := 0, locals := 71 } s m args below meth c D cA b 3 (EndQ D cA b s below (Rp none n (RulP mo σ α h t rs (prule (α 17) t a))) 0 0) n (ovM mo (sp σ a (-1)) (upa α 29 (clr (α 29) (8 * rs.length) i)) h) 0 0 28 [(2, .int (nI i)), (1, .int (nI (8 * rs.length))), (0, .ref mo)] [] := by
    intro m9
    induction m9 with
    | zero =>
      intro i hi
      obtain rfl : i = 8 := by omega
      refine j_iload_n C d_M_rule_28 rfl rfl ?_
      refine j_bipush (v := 8) C d_M_rule_29 (by decide) ?_
      refine j_icmp_ge (tgt := 49) C d_M_rule_31 (by decide) (fun c31 => ?_) (fun c31 => ?_)
      · exact j_pick [1, 2] rfl mA
      · exact absurd (by decide) c31
    | succ m9 ih =>
      intro i hi
      refine j_iload_n C d_M_rule_28 rfl rfl ?_
      refine j_bipush (v := 8) C d_M_rule_29 (by decide) ?_
      refine j_icmp_ge (tgt := 49) C d_M_rule_31 (by decide) (fun c31 => ?_) (fun c31 => ?_)
      · exact absurd (show nI 8 ≤ nI i from c31) (nI_ge (by omega) (by omega))
      · refine j_aload_n C d_M_rule_34 rfl rfl ?_
        refine jm_get C fl_6_75 d_M_rule_35 hmo rfl ?_
        refine j_iload_n C d_M_rule_38 rfl rfl ?_
        refine j_iload_n C d_M_rule_39 rfl rfl ?_
        refine j_iadd C d_M_rule_40 ?_
        refine j_iconst (v := 0) C d_M_rule_41 (by decide) ?_
        refine jm_iastn C 20 29 (8 * rs.length + i) d_M_rule_42 (by decide) rfl hmo (nI_add (8 * rs.length) i) (by omega) (by omega) rfl ?_
        refine j_iinc (v := nI (i + 1)) C d_M_rule_43 rfl (nI_inc i) (by decide) rfl ?_
        refine j_goto (tgt := 28) C d_M_rule_46 (by decide) ?_
        exact j_h (by rw [upa_uu, upa_s, clr_s]) (j_pick [0, 1, 2] rfl (ih (i + 1) (by omega)))
  refine j_h (h' := (ovM mo (sp σ a (-1)) α h)) (by rw [sp_0 h19 hw]) ?_
  refine j_aload_n C d_M_rule_0 rfl rfl ?_
  refine jm_get C fl_6_157 d_M_rule_1 hmo rfl ?_
  refine j_bipush (v := 20) C d_M_rule_4 (by decide) ?_
  refine j_icmp_ne (tgt := 18) C d_M_rule_6 (by decide) (fun c6 => ?_) (fun c6 => ?_)
  · refine j_bipush (v := 8) C d_M_rule_18 (by decide) ?_
    refine j_aload_n C d_M_rule_20 rfl rfl ?_
    refine jm_get C fl_6_157 d_M_rule_21 hmo rfl ?_
    refine j_imul C d_M_rule_24 ?_
    rw [show (8 : Int32) * sp σ a (-1) 27 = nI (8 * rs.length) by rw [show sp σ a (-1) 27 = nI rs.length from h27]; exact e8 _]
    refine j_istore_n C d_M_rule_25 rfl (by decide) rfl ?_
    refine j_iconst (v := 0) C d_M_rule_26 (by decide) ?_
    refine j_istore_n C d_M_rule_27 rfl (by decide) rfl ?_
    refine j_h (h' := (ovM mo (sp σ a (-1)) (upa α 29 (clr (α 29) (8 * rs.length) 0)) h)) (by rw [clr_0, upa_self rfl]) ?_
    exact j_pick [0, 1, 2] rfl (loop 8 0 rfl)
  · exact absurd (show nI rs.length = nI 20 by rw [← h27]; exact c6) (fun z => by have := (nI_eq (by omega) (by omega)).mp z; omega)

