/-! ===== the reference: rules: printed by program ===== -/
/-- the rules from a on, behind those of rs -/
def prul (g : Nat → Int32) (t : Nat) : Nat → Nat → List ((List (Int32 × Int32 × Option Int32)) × Int32 × (List (Int32 × Int32 × Option Int32))) → Option (List ((List (Int32 × Int32 × Option Int32)) × Int32 × (List (Int32 × Int32 × Option Int32))))
  | 0, _, _ => none
  | n + 1, a, rs => if hr g t (skp g t a) < 0 then some rs else if rs.length = 20 then none else (match prule g t (skp g t a) with
    | none => none
    | some q => prul g t n q.2 (rs ++ [q.1]))
def prules (g : Nat → Int32) (t : Nat) : Option (List ((List (Int32 × Int32 × Option Int32)) × Int32 × (List (Int32 × Int32 × Option Int32)))) := prul g t (t + 1) 0 []
def rvl (res : Option (List ((List (Int32 × Int32 × Option Int32)) × Int32 × (List (Int32 × Int32 × Option Int32))))) : Int32 := match res with
  | none => 0
  | some rs => nI rs.length
theorem prule_gt {g : Nat → Int32} {t a : Nat} {q : ((List (Int32 × Int32 × Option Int32)) × Int32 × (List (Int32 × Int32 × Option Int32))) × Nat} (ht : t ≤ 300) (ha : a ≤ t) (h : prule g t a = some q) : a < q.2 ∧ q.1.1.length ≤ 4 ∧ q.1.2.2.length ≤ 4 := by
  unfold prule at h
  split at h
  · cases h
  · rename_i q1 h1
    split at h
    · rename_i hc
      have k1 := psum_ge g t ht _ _ _ _ ha h1
      have s1 := skp_ge g t q1.2
      have hlt : skp g t q1.2 + 1 ≤ t := by
        rcases hc with z | z | z <;> exact hr_lt2 z (by decide)
      split at h
      · cases h
      · rename_i u1 h2
        split at h
        · cases h
          have k2 := psum_ge g t ht _ _ _ _ hlt h2
          have s2 := skp_ge g t u1.2
          refine ⟨?_, psum_len _ _ _ _ _ _ h1, psum_len _ _ _ _ _ _ h2⟩
          show a < skp g t u1.2 + 1
          omega
        · cases h
    · cases h
def KeS (σ' σ : Nat → Int32) : Prop := ∀ k, k ≠ 0 → k ≠ 16 → k ≠ 18 → k ≠ 19 → k ≠ 20 → k ≠ 21 → k ≠ 27 → σ' k = σ k
def RusP (mo : Nat) (σ : Nat → Int32) (α : Nat → Nat → Int32) (h : AH) (res : Option (List ((List (Int32 × Int32 × Option Int32)) × Int32 × (List (Int32 × Int32 × Option Int32))))) : AH → Prop := fun h' => ∃ (σ' : Nat → Int32) (α' : Nat → Nat → Int32), h' = ovM mo σ' α' h ∧ KeS σ' σ ∧ σ' 16 = 0 ∧ FRn α' ∧ (∀ x, x < 22 ∨ 32 < x → α' x = α x) ∧ (res = none → σ' 0 = 1 ∧ σ' 21 = σ 21 ∧ 0 ≤ σ' 18 ∧ ∀ x, x < 28 → α' x = α x) ∧ ∀ rs, res = some rs → σ' 0 = 0 ∧ σ' 21 = nI rs.length ∧ σ' 18 = -1 ∧ RuM α' rs ∧ FR α' ∧ rs.length ≤ 20 ∧ Lk rs
theorem cpd_lt {f g : Nat → Int32} {k j : Nat} (h : j < k) : cpd f g k j = g j := if_pos h
theorem RuM_tk {α : Nat → Nat → Int32} {rs : List ((List (Int32 × Int32 × Option Int32)) × Int32 × (List (Int32 × Int32 × Option Int32)))} (hR : RuN α rs) (hLk : Lk rs) (hl : rs.length ≤ 20) : RuM (mtk α 20 160) rs := by
  have tm : ∀ (k : Nat) (ts : List (Int32 × Int32 × Option Int32)), k + 4 ≤ 160 → ts.length ≤ 4 → TmA (α 29) (α 32) (α 30) (α 31) k ts → TmA (mtk α 20 160 23) (mtk α 20 160 26) (mtk α 20 160 24) (mtk α 20 160 25) k ts := by
    intro k ts hk htl hT
    have e23 : ∀ i, i < 4 → mtk α 20 160 23 (k + i) = α 29 (k + i) := fun i hi => cpd_lt (f := α 23) (g := α 29) (by omega)
    have e24 : ∀ i, i < 4 → mtk α 20 160 24 (k + i) = α 30 (k + i) := fun i hi => cpd_lt (f := α 24) (g := α 30) (by omega)
    have e25 : ∀ i, i < 4 → mtk α 20 160 25 (k + i) = α 31 (k + i) := fun i hi => cpd_lt (f := α 25) (g := α 31) (by omega)
    have e26 : ∀ i, i < 4 → mtk α 20 160 26 (k + i) = vp_nar .boolean (α 32 (k + i)) := fun i hi => cpd_lt (f := α 26) (g := fun j => vp_nar .boolean (α 32 j)) (by omega)
    refine ⟨fun i x hx => ?_, fun i h1 h2 => by rw [e23 i h2]; exact hT.2 i h1 h2⟩
    have hi : i < 4 := Nat.lt_of_lt_of_le (List.getElem?_eq_some_iff.mp hx).1 htl
    obtain ⟨h1, h2, h3, h4⟩ := hT.1 i x hx
    rw [e23 i hi, e24 i hi, e25 i hi, e26 i hi]
    refine ⟨h1, h2, fun z => by rw [h3 z]; rfl, fun y z => ?_⟩
    obtain ⟨g1, g2⟩ := h4 y z
    exact ⟨by rw [g1]; rfl, g2⟩
  intro q x hx
  have hq : q < rs.length := (List.getElem?_eq_some_iff.mp hx).1
  obtain ⟨r1, r2, r3⟩ := hR q x hx
  obtain ⟨l1, l2⟩ := hLk q x hx
  exact ⟨(cpd_lt (f := α 22) (g := α 28) (by omega)).trans r1, tm _ _ (by omega) l1 r2, tm _ _ (by omega) l2 r3⟩
theorem FR_tk {α : Nat → Nat → Int32} (hF : FRn α) : FR (mtk α 20 160) := by
  intro k hk
  have e24 : mtk α 20 160 24 k = α 30 k := cpd_lt (f := α 24) (g := α 30) hk
  have e25 : mtk α 20 160 25 k = α 31 k := cpd_lt (f := α 25) (g := α 31) hk
  rw [e24, e25]
  exact hF k hk
theorem Lk_snoc {rs : List ((List (Int32 × Int32 × Option Int32)) × Int32 × (List (Int32 × Int32 × Option Int32)))} {x : (List (Int32 × Int32 × Option Int32)) × Int32 × (List (Int32 × Int32 × Option Int32))} (h : Lk rs) (h1 : x.1.length ≤ 4) (h2 : x.2.2.length ≤ 4) : Lk (rs ++ [x]) := by
  intro q y hy
  by_cases e : q < rs.length
  · rw [List.getElem?_append_left e] at hy
    exact h q y hy
  · have hq := (List.getElem?_eq_some_iff.mp hy).1
    rw [List.length_append, List.length_singleton] at hq
    obtain rfl : q = rs.length := by omega
    rw [List.getElem?_append_right (Nat.le_refl _), Nat.sub_self] at hy
    cases hy
    exact ⟨h1, h2⟩
theorem sp_27 (σ : Nat → Int32) (a : Nat) (w x : Int32) : upd (sp σ a w) 27 x = sp (upd σ 27 x) a w := by
  unfold sp
  rw [upd_x (show (20 : Nat) ≠ 27 by decide), upd_x (show (19 : Nat) ≠ 27 by decide)]
theorem mtk_o (α : Nat → Nat → Int32) (x : Nat) (hx : x < 22 ∨ 26 < x) : mtk α 20 160 x = α x := by
  unfold mtk
  rw [upa_n (by omega), upa_n (by omega), upa_n (by omega), upa_n (by omega), upa_n (by omega)]
set_option maxHeartbeats 4000000 in
set_option maxRecDepth 100000 in
theorem c_M_rules_r {l : Launch} (hl : l.stackTraces = false) {D : va_G} {cA : Nat → ClassId} {b n mo : Nat} (σ : Nat → Int32) (α : Nat → Nat → Int32) (h : AH) (hmo : mo + 27 < n) (t : Nat) (h16 : σ 16 = nI t) (ht : t ≤ 300) (hFn : FRn α) : Cn l D cA b y_M_rules k_M_rules 6 85 0 0 [.ref mo] n (ovM mo σ α h) (Rp (some (.int (rvl (prules (α 17) t)))) n (RusP mo σ α h (prules (α 17) t))) := by
  refine Cn.of (cc := b_M_rules) (maxL := 2) (ret := (some .int)) (hh := []) (by decide +kernel) hl (Or.inl ⟨rfl, rfl⟩) (Nat.le_of_ble_eq_true rfl) ?_
  intro p e s m args below meth c C
  have finN : ∀ (a' : Nat) (w' : Int32) (rs' : List ((List (Int32 × Int32 × Option Int32)) × Int32 × (List (Int32 × Int32 × Option Int32)))) (α' : Nat → Nat → Int32), 0 ≤ w' → (prules (α 17) t) = none → An5 α' α → FRn α' → J p l e { frames := 6, cells := 0, slots := 0, locals := 85 } s m args below meth c D cA b 2 (EndQ D cA b s below (Rp (some (.int (rvl (prules (α 17) t)))) n (RusP mo σ α h (prules (α 17) t))) 0 0) n (ovM mo (sp (upd σ 27 (nI rs'.length)) a' w') α' h) 0 0 36 [(0, .ref mo)] [] := by
    intro a' w' rs' α' hw' hres hA' hF'
    refine j_aload_n C d_M_rules_36 rfl rfl ?_
    refine j_iconst (v := 0) C d_M_rules_37 (by decide) ?_
    refine jm_puti 16 C fp_6_126 d_M_rules_38 hmo (by decide) (by first | rfl | assumption) rfl rfl ?_
    refine j_aload_n C d_M_rules_41 rfl rfl ?_
    refine j_aload_n C d_M_rules_42 rfl rfl ?_
    refine jm_get C fl_6_136 d_M_rules_43 hmo rfl ?_
    refine jm_puti 18 C fp_6_53 d_M_rules_46 hmo (by decide) (by first | rfl | assumption) rfl rfl ?_
    refine j_aload_n C d_M_rules_49 rfl rfl ?_
    refine j_aload_n C d_M_rules_50 rfl rfl ?_
    refine jm_get C fl_6_136 d_M_rules_51 hmo rfl ?_
    refine j_if_ge (tgt := 61) C d_M_rules_54 (by decide) (fun c54 => ?_) (fun c54 => ?_)
    · refine j_iconst (v := 0) C d_M_rules_61 (by decide) ?_
      refine j_iconst (v := 1) C d_M_rules_62 (by decide) ?_
      refine j_iconst (v := 1) C d_M_rules_63 (by decide) ?_
      refine j_callV C d_M_rules_64 ml_M_109 mc_M_goes in_M_goes rfl se_M_goes (by omega) (ovM_o _ _ _ _) (c_M_goesK hl _ _ _ _ _ _ hmo (gs_1 _ _)) rfl rfl (Nat.le_of_ble_eq_true rfl) (Nat.le_of_ble_eq_true rfl) (Nat.le_of_ble_eq_true rfl) (Nat.le_of_ble_eq_true rfl) (jk_r ?_)
      refine j_if_ne (tgt := 72) C d_M_rules_67 (by decide) (fun c67 => ?_) (fun c67 => ?_)
      · exact absurd (by decide) c67
      · refine j_iconst (v := 0) C d_M_rules_70 (by decide) ?_
        exact j_ireturn C d_M_rules_71 rfl (by decide) (by decide) ⟨by rw [hres]; rfl, rfl, _, α', rfl, fun k h1 h2 h3 h4 h5 h6 h7 => by rw [pk_un h1, pk_un h3, pk_un h2]; unfold sp; rw [pk_un h5, pk_un h4, pk_un h7], rfl, hF', fun x hx => hA' x (by omega), fun _ => ⟨rfl, rfl, hw', fun x hx => hA' x (by omega)⟩, fun rs z => by rw [hres] at z; cases z⟩
    · exact absurd hw' (show ¬ 0 ≤ w' from c54)
  have finS : ∀ (a' : Nat) (rs : List ((List (Int32 × Int32 × Option Int32)) × Int32 × (List (Int32 × Int32 × Option Int32)))) (α1 : Nat → Nat → Int32), (prules (α 17) t) = some rs → An5 α1 α → FRn α1 → RuN α1 rs → Lk rs → rs.length ≤ 20 → J p l e { frames := 6, cells := 0, slots := 0, locals := 85 } s m args below meth c D cA b 2 (EndQ D cA b s below (Rp (some (.int (rvl (prules (α 17) t)))) n (RusP mo σ α h (prules (α 17) t))) 0 0) n (ovM mo (sp (upd σ 27 (nI rs.length)) a' (-1)) α1 h) 0 0 36 [(0, .ref mo)] [] := by
    intro a' rs α1 hres hA1 hF1 hR1 hLk hl1
    have loop2 : ∀ (k9 a9 : Nat), a9 + k9 = 160 → J p l e { frames := 6, cells := 0, slots := 0, locals := 85 } s m args below meth c D cA b 2 (EndQ D cA b s below (Rp (some (.int (rvl (prules (α 17) t)))) n (RusP mo σ α h (prules (α 17) t))) 0 0) n (ovM mo (upd (upd (upd (upd (sp (upd σ 27 (nI rs.length)) a' (-1)) 16 0) 18 (-1)) 0 0) 21 (nI rs.length)) (mtk α1 20 a9) h) 0 0 108 [(1, .int (nI a9)), (0, .ref mo)] [] := by
      intro k9
      induction k9 with
      | zero =>
        intro a9 ha
        obtain rfl : a9 = 160 := by omega
        refine j_iload_n C d_M_rules_108 rfl rfl ?_
        refine j_sipush (v := 160) C d_M_rules_109 (by decide) ?_
        refine j_icmp_ge (tgt := 169) C d_M_rules_112 (by decide) (fun c112 => ?_) (fun c112 => ?_)
        · refine j_aload_n C d_M_rules_169 rfl rfl ?_
          refine jm_get C fl_6_166 d_M_rules_170 hmo rfl ?_
          exact j_ireturn C d_M_rules_173 rfl (by decide) (by decide) ⟨by rw [hres]; rfl, rfl, _, mtk α1 20 160, rfl, fun k h1 h2 h3 h4 h5 h6 h7 => by rw [pk_un h6, pk_un h1, pk_un h3, pk_un h2]; unfold sp; rw [pk_un h5, pk_un h4, pk_un h7], rfl, hF1, fun x hx => (mtk_o α1 x (by omega)).trans (hA1 x (by omega)), (fun z => (by rw [hres] at z; cases z)), fun rs2 z => by rw [hres] at z; cases z; exact ⟨rfl, rfl, rfl, RuM_tk hR1 hLk hl1, FR_tk hF1, hl1, hLk⟩⟩
        · exact absurd (by decide) c112
      | succ k9 ih =>
        intro a9 ha
        refine j_iload_n C d_M_rules_108 rfl rfl ?_
        refine j_sipush (v := 160) C d_M_rules_109 (by decide) ?_
        refine j_icmp_ge (tgt := 169) C d_M_rules_112 (by decide) (fun c112 => ?_) (fun c112 => ?_)
        · exact absurd (show nI 160 ≤ nI a9 from c112) (nI_ge (by omega) (by omega))
        · refine j_aload_n C d_M_rules_115 rfl rfl ?_
          refine jm_get C fl_6_60 d_M_rules_116 hmo rfl ?_
          refine j_iload_n C d_M_rules_119 rfl rfl ?_
          refine j_aload_n C d_M_rules_120 rfl rfl ?_
          refine jm_get C fl_6_75 d_M_rules_121 hmo rfl ?_
          refine j_iload_n C d_M_rules_124 rfl rfl ?_
          refine jm_iald C 20 d_M_rules_125 (by decide) rfl hmo (vp_in_nI (by omega) (by omega)) rfl ?_
          refine jm_iasti C 15 23 d_M_rules_126 (by decide) rfl hmo (vp_in_nI (by omega) (by omega)) rfl ?_
          refine j_aload_n C d_M_rules_127 rfl rfl ?_
          refine jm_get C fl_6_63 d_M_rules_128 hmo rfl ?_
          refine j_iload_n C d_M_rules_131 rfl rfl ?_
          refine j_aload_n C d_M_rules_132 rfl rfl ?_
          refine jm_get C fl_6_78 d_M_rules_133 hmo rfl ?_
          refine j_iload_n C d_M_rules_136 rfl rfl ?_
          refine jm_iald C 21 d_M_rules_137 (by decide) rfl hmo (vp_in_nI (by omega) (by omega)) rfl ?_
          refine jm_iasti C 16 24 d_M_rules_138 (by decide) rfl hmo (vp_in_nI (by omega) (by omega)) rfl ?_
          refine j_aload_n C d_M_rules_139 rfl rfl ?_
          refine jm_get C fl_6_66 d_M_rules_140 hmo rfl ?_
          refine j_iload_n C d_M_rules_143 rfl rfl ?_
          refine j_aload_n C d_M_rules_144 rfl rfl ?_
          refine jm_get C fl_6_81 d_M_rules_145 hmo rfl ?_
          refine j_iload_n C d_M_rules_148 rfl rfl ?_
          refine jm_iald C 22 d_M_rules_149 (by decide) rfl hmo (vp_in_nI (by omega) (by omega)) rfl ?_
          refine jm_iasti C 17 25 d_M_rules_150 (by decide) rfl hmo (vp_in_nI (by omega) (by omega)) rfl ?_
          refine j_aload_n C d_M_rules_151 rfl rfl ?_
          refine jm_get C fl_6_69 d_M_rules_152 hmo rfl ?_
          refine j_iload_n C d_M_rules_155 rfl rfl ?_
          refine j_aload_n C d_M_rules_156 rfl rfl ?_
          refine jm_get C fl_6_84 d_M_rules_157 hmo rfl ?_
          refine j_iload_n C d_M_rules_160 rfl rfl ?_
          refine jm_zald C 23 d_M_rules_161 (by decide) rfl hmo (vp_in_nI (by omega) (by omega)) rfl ?_
          refine jm_zasti C 18 26 d_M_rules_162 (by decide) rfl hmo (vp_in_nI (by omega) (by omega)) rfl ?_
          refine j_iinc (v := nI (a9 + 1)) C d_M_rules_163 rfl (nI_inc a9) (by decide) rfl ?_
          refine j_goto (tgt := 108) C d_M_rules_166 (by decide) ?_
          exact j_h (by rw [nI_clamp (by omega), ← mtk_k, ← cpd_s, ← cpd_s, ← cpd_s, ← cpd_s]; rfl) (j_pick [0, 1] rfl (ih (a9 + 1) (by omega)))
    have loop1 : ∀ (k9 a9 : Nat), a9 + k9 = 20 → J p l e { frames := 6, cells := 0, slots := 0, locals := 85 } s m args below meth c D cA b 2 (EndQ D cA b s below (Rp (some (.int (rvl (prules (α 17) t)))) n (RusP mo σ α h (prules (α 17) t))) 0 0) n (ovM mo (upd (upd (upd (upd (sp (upd σ 27 (nI rs.length)) a' (-1)) 16 0) 18 (-1)) 0 0) 21 (nI rs.length)) (mtk α1 a9 0) h) 0 0 82 [(1, .int (nI a9)), (0, .ref mo)] [] := by
      intro k9
      induction k9 with
      | zero =>
        intro a9 ha
        obtain rfl : a9 = 20 := by omega
        refine j_iload_n C d_M_rules_82 rfl rfl ?_
        refine j_bipush (v := 20) C d_M_rules_83 (by decide) ?_
        refine j_icmp_ge (tgt := 106) C d_M_rules_85 (by decide) (fun c85 => ?_) (fun c85 => ?_)
        · refine j_iconst (v := 0) C d_M_rules_106 (by decide) ?_
          refine j_istore_n C d_M_rules_107 rfl (by decide) rfl ?_
          exact j_pick [0, 1] rfl (loop2 160 0 rfl)
        · exact absurd (by decide) c85
      | succ k9 ih =>
        intro a9 ha
        refine j_iload_n C d_M_rules_82 rfl rfl ?_
        refine j_bipush (v := 20) C d_M_rules_83 (by decide) ?_
        refine j_icmp_ge (tgt := 106) C d_M_rules_85 (by decide) (fun c85 => ?_) (fun c85 => ?_)
        · exact absurd (show nI 20 ≤ nI a9 from c85) (nI_ge (by omega) (by omega))
        · refine j_aload_n C d_M_rules_88 rfl rfl ?_
          refine jm_get C fl_6_57 d_M_rules_89 hmo rfl ?_
          refine j_iload_n C d_M_rules_92 rfl rfl ?_
          refine j_aload_n C d_M_rules_93 rfl rfl ?_
          refine jm_get C fl_6_72 d_M_rules_94 hmo rfl ?_
          refine j_iload_n C d_M_rules_97 rfl rfl ?_
          refine jm_iald C 19 d_M_rules_98 (by decide) rfl hmo (vp_in_nI (by omega) (by omega)) rfl ?_
          refine jm_iasti C 14 22 d_M_rules_99 (by decide) rfl hmo (vp_in_nI (by omega) (by omega)) rfl ?_
          refine j_iinc (v := nI (a9 + 1)) C d_M_rules_100 rfl (nI_inc a9) (by decide) rfl ?_
          refine j_goto (tgt := 82) C d_M_rules_103 (by decide) ?_
          exact j_h (by rw [nI_clamp (by omega), mtk_a]) (j_pick [0, 1] rfl (ih (a9 + 1) (by omega)))
    refine j_aload_n C d_M_rules_36 rfl rfl ?_
    refine j_iconst (v := 0) C d_M_rules_37 (by decide) ?_
    refine jm_puti 16 C fp_6_126 d_M_rules_38 hmo (by decide) (by first | rfl | assumption) rfl rfl ?_
    refine j_aload_n C d_M_rules_41 rfl rfl ?_
    refine j_aload_n C d_M_rules_42 rfl rfl ?_
    refine jm_get C fl_6_136 d_M_rules_43 hmo rfl ?_
    refine jm_puti 18 C fp_6_53 d_M_rules_46 hmo (by decide) (by first | rfl | assumption) rfl rfl ?_
    refine j_aload_n C d_M_rules_49 rfl rfl ?_
    refine j_aload_n C d_M_rules_50 rfl rfl ?_
    refine jm_get C fl_6_136 d_M_rules_51 hmo rfl ?_
    refine j_if_ge (tgt := 61) C d_M_rules_54 (by decide) (fun c54 => ?_) (fun c54 => ?_)
    · exact absurd (show (0 : Int32) ≤ -1 from c54) (by decide)
    · refine j_iconst (v := 1) C d_M_rules_57 (by decide) ?_
      refine j_goto (tgt := 62) C d_M_rules_58 (by decide) ?_
      refine j_iconst (v := 1) C d_M_rules_62 (by decide) ?_
      refine j_iconst (v := 1) C d_M_rules_63 (by decide) ?_
      refine j_callV C d_M_rules_64 ml_M_109 mc_M_goes in_M_goes rfl se_M_goes (by omega) (ovM_o _ _ _ _) (c_M_goesK hl _ _ _ _ _ _ hmo (gs_0 (by decide) (by decide) (by decide))) rfl rfl (Nat.le_of_ble_eq_true rfl) (Nat.le_of_ble_eq_true rfl) (Nat.le_of_ble_eq_true rfl) (Nat.le_of_ble_eq_true rfl) (jk_r ?_)
      refine j_if_ne (tgt := 72) C d_M_rules_67 (by decide) (fun c67 => ?_) (fun c67 => ?_)
      · refine j_aload_n C d_M_rules_72 rfl rfl ?_
        refine j_aload_n C d_M_rules_73 rfl rfl ?_
        refine jm_get C fl_6_157 d_M_rules_74 hmo rfl ?_
        refine jm_puti 21 C fp_6_166 d_M_rules_77 hmo (by decide) (by first | rfl | assumption) rfl rfl ?_
        refine j_iconst (v := 0) C d_M_rules_80 (by decide) ?_
        refine j_istore_n C d_M_rules_81 rfl (by decide) rfl ?_
        refine j_h (h' := ovM mo (upd (upd (upd (upd (sp (upd σ 27 (nI rs.length)) a' (-1)) 16 0) 18 (-1)) 0 0) 21 (nI rs.length)) (mtk α1 0 0) h) (by rw [mtk_0]; rfl) ?_
        exact j_pick [0, 1] rfl (loop1 20 0 rfl)
      · exact absurd c67 (by decide)
  have loop : ∀ (n9 a : Nat) (rs : List ((List (Int32 × Int32 × Option Int32)) × Int32 × (List (Int32 × Int32 × Option Int32)))) (α1 : Nat → Nat → Int32), a ≤ t → t + 1 ≤ a + n9 → rs.length ≤ 20 → An5 α1 α → FRn α1 → RuN α1 rs → Lk rs → prul (α 17) t n9 a rs = (prules (α 17) t) → J p l e { frames := 6, cells := 0, slots := 0, locals := 85 } s m args below meth c D cA b 2 (EndQ D cA b s below (Rp (some (.int (rvl (prules (α 17) t)))) n (RusP mo σ α h (prules (α 17) t))) 0 0) n (ovM mo (sp (upd σ 27 (nI rs.length)) a (-1)) α1 h) 0 0 15 [(0, .ref mo)] [] := by
    intro n9
    induction n9 with
    | zero =>
      intro a rs α1 ha hfu
      exact absurd hfu (by omega)
    | succ n9 ih =>
      intro a rs α1 ha hfu hl1 hA1 hF1 hR1 hLk hv
      refine j_aload_n C d_M_rules_15 rfl rfl ?_
      refine jm_get C fl_6_136 d_M_rules_16 hmo rfl ?_
      refine j_if_ge (tgt := 36) C d_M_rules_19 (by decide) (fun c19 => ?_) (fun c19 => ?_)
      · exact absurd (show (0 : Int32) ≤ -1 from c19) (by decide)
      · refine j_aload_n C d_M_rules_22 rfl rfl ?_
        refine j_callV C d_M_rules_23 ml_M_139 mc_M_see in_M_see rfl se_M_see (by omega) (ovM_o _ _ _ _) (c_M_seeG hl (upd σ 27 (nI rs.length)) _ h hmo (α 17) (by exact (hA1 17 (by omega))) t a (-1) (show σ 16 = nI t from h16) ht ha) rfl rfl (Nat.le_of_ble_eq_true rfl) (Nat.le_of_ble_eq_true rfl) (Nat.le_of_ble_eq_true rfl) (Nat.le_of_ble_eq_true rfl) (jk_r ?_)
        refine j_if_lt (tgt := 36) C d_M_rules_26 (by decide) (fun c26 => ?_) (fun c26 => ?_)
        · exact finS (skp (α 17) t a) rs α1 (by rw [← hv]; show (if _ then some rs else _) = some rs; rw [if_pos c26]) hA1 hF1 hR1 hLk hl1
        · by_cases h20 : rs.length = 20
          · refine j_aload_n C d_M_rules_29 rfl rfl ?_
            refine j_callV C d_M_rules_30 ml_M_163 mc_M_rule in_M_rule rfl se_M_rule (by omega) (ovM_o _ _ _ _) (c_M_rule_20 hl rs (sp (upd σ 27 (nI rs.length)) (skp (α 17) t a) (-1)) α1 h hmo t (skp (α 17) t a) (show σ 16 = nI t from h16) rfl ht (skp_le _ ha) rfl rfl h20 hF1) rfl rfl (Nat.le_of_ble_eq_true rfl) (Nat.le_of_ble_eq_true rfl) (Nat.le_of_ble_eq_true rfl) (Nat.le_of_ble_eq_true rfl) (jk_pv (fun hX hPX => ?_))
            obtain ⟨a2, w2, rs2, α2, rfl, hA2, hF2, hn2, hs2⟩ := hPX
            refine j_h (h' := ovM mo (sp (upd σ 27 (nI rs2.length)) a2 w2) α2 h) (by rw [sp_27, sp_sp, upd_uu]) ?_
            refine j_goto (tgt := 15) C d_M_rules_33 (by decide) ?_
            have er : (prules (α 17) t) = none := by rw [← hv]; show (if _ then _ else if rs.length = 20 then none else _) = none; rw [if_neg c26, if_pos h20]
            have hw2 := hn2 rfl
            refine j_aload_n C d_M_rules_15 rfl rfl ?_
            refine jm_get C fl_6_136 d_M_rules_16 hmo rfl ?_
            refine j_if_ge (tgt := 36) C d_M_rules_19 (by decide) (fun c19 => ?_) (fun c19 => ?_)
            · exact finN a2 w2 rs2 α2 hw2 er (An5_t hA2 hA1) hF2
            · exact absurd hw2 (show ¬ 0 ≤ w2 from c19)
          · refine j_aload_n C d_M_rules_29 rfl rfl ?_
            refine j_callV C d_M_rules_30 ml_M_163 mc_M_rule in_M_rule rfl se_M_rule (by omega) (ovM_o _ _ _ _) (c_M_rule_r hl rs (sp (upd σ 27 (nI rs.length)) (skp (α 17) t a) (-1)) α1 h hmo t (skp (α 17) t a) (show σ 16 = nI t from h16) rfl ht (skp_le _ ha) rfl rfl (by omega) hR1 hLk hF1) rfl rfl (Nat.le_of_ble_eq_true rfl) (Nat.le_of_ble_eq_true rfl) (Nat.le_of_ble_eq_true rfl) (Nat.le_of_ble_eq_true rfl) (jk_pv (fun hX hPX => ?_))
            obtain ⟨a2, w2, rs2, α2, rfl, hA2, hF2, hn2, hs2⟩ := hPX
            refine j_h (h' := ovM mo (sp (upd σ 27 (nI rs2.length)) a2 w2) α2 h) (by rw [sp_27, sp_sp, upd_uu]) ?_
            refine j_goto (tgt := 15) C d_M_rules_33 (by decide) ?_
            rw [show α1 17 = α 17 from hA1 17 (by omega)] at hn2 hs2
            cases hpr : prule (α 17) t (skp (α 17) t a) with
            | none =>
              have er : (prules (α 17) t) = none := by rw [← hv]; show (if _ then _ else if rs.length = 20 then none else _) = none; rw [if_neg c26, if_neg h20, hpr]
              have hw2 := hn2 hpr
              refine j_aload_n C d_M_rules_15 rfl rfl ?_
              refine jm_get C fl_6_136 d_M_rules_16 hmo rfl ?_
              refine j_if_ge (tgt := 36) C d_M_rules_19 (by decide) (fun c19 => ?_) (fun c19 => ?_)
              · exact finN a2 w2 rs2 α2 hw2 er (An5_t hA2 hA1) hF2
              · exact absurd hw2 (show ¬ 0 ≤ w2 from c19)
            | some q =>
              obtain ⟨rfl, rfl, hq, rfl, hR2⟩ := hs2 q hpr
              obtain ⟨g1, g2, g3⟩ := prule_gt ht (skp_le _ ha) hpr
              have g4 := skp_ge (α 17) t a
              exact ih q.2 (rs ++ [q.1]) α2 hq (by omega) (by rw [len_snoc]; omega) (An5_t hA2 hA1) hF2 hR2 (Lk_snoc hLk g2 g3) (by rw [← hv]; show _ = (if _ then _ else if rs.length = 20 then none else _); rw [if_neg c26, if_neg h20, hpr])
  refine j_aload_n C d_M_rules_0 rfl rfl ?_
  refine j_iconst (v := 0) C d_M_rules_1 (by decide) ?_
  refine jm_puti 27 C fp_6_157 d_M_rules_2 hmo (by decide) (by first | rfl | assumption) rfl rfl ?_
  refine j_aload_n C d_M_rules_5 rfl rfl ?_
  refine j_iconst (v := 0) C d_M_rules_6 (by decide) ?_
  refine jm_puti 19 C fp_6_129 d_M_rules_7 hmo (by decide) (by first | rfl | assumption) rfl rfl ?_
  refine j_aload_n C d_M_rules_10 rfl rfl ?_
  refine j_iconst (v := (-1)) C d_M_rules_11 (by decide) ?_
  refine jm_puti 20 C fp_6_136 d_M_rules_12 hmo (by decide) (by first | rfl | assumption) rfl rfl ?_
  refine j_h (h' := (ovM mo (sp (upd σ 27 (nI ([] : List ((List (Int32 × Int32 × Option Int32)) × Int32 × (List (Int32 × Int32 × Option Int32)))).length)) 0 (-1)) α h)) rfl ?_
  exact loop (t + 1) 0 [] α (by omega) (by omega) (by simp) (fun _ _ => rfl) hFn (fun q x hx => by cases hx) (fun q x hx => by cases hx) rfl

