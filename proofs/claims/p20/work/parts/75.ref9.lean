/-! ===== the reference: sum: printed by program ===== -/
/-- where it stands, and what is wrong -/
def sp (σ : Nat → Int32) (a : Nat) (w : Int32) : Nat → Int32 := upd (upd σ 19 (nI a)) 20 w
theorem sp_f (σ : Nat → Int32) (a A : Nat) (w W : Int32) : upd (upd (sp σ a w) 19 (nI A)) 20 W = sp σ A W := by
  unfold sp
  rw [upd_x (show (20 : Nat) ≠ 19 by decide), upd_uu, upd_uu]
theorem sp_s (σ : Nat → Int32) (a A : Nat) (w : Int32) : upd (sp σ a w) 19 (nI A) = sp σ A w := by
  unfold sp
  rw [upd_x (show (20 : Nat) ≠ 19 by decide), upd_uu]
theorem sp_i (σ : Nat → Int32) (a : Nat) (w : Int32) : upd (sp σ a w) 19 (sp σ a w 19 + 1) = sp σ (a + 1) w := by
  rw [show sp σ a w 19 = nI a from rfl, nI_1, sp_s]
theorem c_M_seeG {l : Launch} (hl : l.stackTraces = false) {D : va_G} {cA : Nat → ClassId} {b n mo : Nat} (σ : Nat → Int32) (α : Nat → Nat → Int32) (h : AH) (hmo : mo + 27 < n) (g : Nat → Int32) (hg : α 17 = g) (t a : Nat) (w : Int32) (h16 : σ 16 = nI t) (ht : t ≤ 300) (hat : a ≤ t) : Cn l D cA b y_M_see k_M_see 1 12 0 0 [.ref mo] n (ovM mo (sp σ a w) α h) (Re (some (.int (hr g t (skp g t a)))) n (ovM mo (sp σ (skp g t a) w) α h)) := by
  subst hg
  have z := c_M_see hl (D := D) (cA := cA) (b := b) (sp σ a w) α h hmo t a (show σ 16 = nI t from h16) rfl ht hat
  rw [sp_s] at z
  exact z
theorem c_M_hereG {l : Launch} (hl : l.stackTraces = false) {D : va_G} {cA : Nat → ClassId} {b n mo : Nat} (σ : Nat → Int32) (α : Nat → Nat → Int32) (h : AH) (hmo : mo + 27 < n) (g : Nat → Int32) (hg : α 17 = g) (t a : Nat) (w : Int32) (h16 : σ 16 = nI t) (ht : t ≤ 300) (hat : a ≤ t) : Cn l D cA b y_M_here k_M_here 0 0 0 0 [.ref mo] n (ovM mo (sp σ a w) α h) (Re (some (.int (hr g t a))) n (ovM mo (sp σ a w) α h)) := by
  subst hg
  exact c_M_hereN hl (sp σ a w) α h hmo t a (show σ 16 = nI t from h16) rfl ht (by omega)
theorem c_M_factorG {l : Launch} (hl : l.stackTraces = false) {D : va_G} {cA : Nat → ClassId} {b n mo : Nat} (σ : Nat → Int32) (α : Nat → Nat → Int32) (h : AH) (hmo : mo + 27 < n) (g : Nat → Int32) (hg : α 17 = g) (t a : Nat) (h16 : σ 16 = nI t) (ht : t ≤ 300) (hat : a ≤ t) : Cn l D cA b y_M_factor k_M_factor 3 42 0 0 [.ref mo] n (ovM mo (sp σ a (-1)) α h) (Re (some (.int (mfV g t a))) n (ovM mo (sp σ (mfA g t a) (mfW g t a)) α h)) := by
  subst hg
  have z := c_M_factor hl (D := D) (cA := cA) (b := b) (sp σ a (-1)) α h hmo t a (show σ 16 = nI t from h16) rfl ht hat rfl
  rw [sp_f] at z
  exact z
theorem Pst_snocI {α α1 α2 : Nat → Nat → Int32} {k i : Nat} {ps : List (Int32 × Int32 × Option Int32)} {how v : Int32} {o : Option Int32} (hi : ps.length = i) (h : Pst α k α1 ps)
    (h29 : α2 29 = upd (α1 29) (k + i) how) (h30 : α2 30 = upd (α1 30) (k + i) v) (h32 : α2 32 = upd (α1 32) (k + i) (if o = none then 0 else 1))
    (h31 : ∀ j, j ≠ k + i → α2 31 j = α1 31 j) (h31s : ∀ y, o = some y → α2 31 (k + i) = y) : Pst α k α2 (ps ++ [(how, v, o)]) := by
  subst hi
  exact Pst_snoc h h29 h30 h32 h31 h31s
def SumP (mo : Nat) (σ : Nat → Int32) (α : Nat → Nat → Int32) (h : AH) (t k : Nat) (res : Option (List (Int32 × Int32 × Option Int32) × Nat)) : AH → Prop := fun h' => ∃ (a' : Nat) (w' : Int32) (α' : Nat → Nat → Int32), h' = ovM mo (sp σ a' w') α' h ∧ An α' α ∧ FRn α' ∧ (res = none → 0 ≤ w') ∧ ∀ q, res = some q → w' = -1 ∧ a' = q.2 ∧ q.2 ≤ t ∧ Pst α k α' q.1
theorem FRn_30 {α : Nat → Nat → Int32} {j : Nat} {v : Int32} (hF : FRn α) (hv : fok v) : FRn (upa α 30 (upd (α 30) j v)) := by
  intro i hi
  refine ⟨?_, (hF i hi).2⟩
  show fok (upd (α 30) j v i)
  by_cases e : i = j
  · subst e; rw [pk_us]; exact hv
  · rw [pk_un e]; exact (hF i hi).1
theorem FRn_31 {α : Nat → Nat → Int32} {j : Nat} {v : Int32} (hF : FRn α) (hv : fok v) : FRn (upa α 31 (upd (α 31) j v)) := by
  intro i hi
  refine ⟨(hF i hi).1, ?_⟩
  show fok (upd (α 31) j v i)
  by_cases e : i = j
  · subst e; rw [pk_us]; exact hv
  · rw [pk_un e]; exact (hF i hi).2
theorem FRn_o {α : Nat → Nat → Int32} {x : Nat} {f : Nat → Int32} (hF : FRn α) (h1 : (30 : Nat) ≠ x) (h2 : (31 : Nat) ≠ x) : FRn (upa α x f) := by
  intro i hi
  rw [upa_n h1, upa_n h2]
  exact hF i hi
theorem An_u {α1 α : Nat → Nat → Int32} {x : Nat} {f : Nat → Int32} (hA : An α1 α) (h1 : 29 ≤ x) (h2 : x ≤ 32) : An (upa α1 x f) α := by
  intro y hy
  rw [upa_n (by omega)]
  exact hA y hy
set_option maxHeartbeats 4000000 in
set_option maxRecDepth 100000 in
theorem c_M_sum {l : Launch} (hl : l.stackTraces = false) {D : va_G} {cA : Nat → ClassId} {b n mo : Nat} (k : Nat) (σ : Nat → Int32) (α : Nat → Nat → Int32) (h : AH) (hmo : mo + 27 < n) (t a : Nat) (h16 : σ 16 = nI t) (h19 : σ 19 = nI a) (ht : t ≤ 300) (hat : a ≤ t) (hw : σ 20 = -1) (hk : k + 4 ≤ 160) (hFn : FRn α) : Cn l D cA b y_M_sum k_M_sum 4 56 0 0 [.ref mo, .int (nI k)] n (ovM mo σ α h) (Rp none n (SumP mo σ α h t k (psum (α 17) t 4 1 a))) := by
  refine Cn.of (cc := b_M_sum) (maxL := 4) (ret := none) (hh := []) (by decide +kernel) hl (Or.inl ⟨rfl, rfl⟩) (Nat.le_of_ble_eq_true rfl) ?_
  intro p e s m args below meth c C
  have fin : ∀ (i : Nat) (how : Int32) (a' : Nat) (w' : Int32) (α' : Nat → Nat → Int32), (4 ≤ i ∨ how ≤ 0 ∨ 0 ≤ w') → i ≤ 4 → SumP mo σ α h t k (psum (α 17) t 4 1 a) (ovM mo (sp σ a' w') α' h) → J p l e { frames := 4, cells := 0, slots := 0, locals := 56 } s m args below meth c D cA b 4 (EndQ D cA b s below (Rp none n (SumP mo σ α h t k (psum (α 17) t 4 1 a))) 0 0) n (ovM mo (sp σ a' w') α' h) 0 0 4 [(3, .int (nI i)), (2, .int how), (0, .ref mo), (1, .int (nI k))] [] := by
    intro i how a' w' α' hc hi hP
    refine j_iload_n C d_M_sum_4 rfl rfl ?_
    refine j_iconst (v := 4) C d_M_sum_5 (by decide) ?_
    refine j_icmp_ge (tgt := 166) C d_M_sum_6 (by decide) (fun c6 => ?_) (fun c6 => ?_)
    · exact j_vreturn C d_M_sum_166 rfl (by decide) (by decide) ⟨rfl, rfl, hP⟩
    · refine j_iload_n C d_M_sum_9 rfl rfl ?_
      refine j_if_le (tgt := 166) C d_M_sum_10 (by decide) (fun c10 => ?_) (fun c10 => ?_)
      · exact j_vreturn C d_M_sum_166 rfl (by decide) (by decide) ⟨rfl, rfl, hP⟩
      · refine j_aload_n C d_M_sum_13 rfl rfl ?_
        refine jm_get C fl_6_136 d_M_sum_14 hmo rfl ?_
        refine j_if_ge (tgt := 166) C d_M_sum_17 (by decide) (fun c17 => ?_) (fun c17 => ?_)
        · exact j_vreturn C d_M_sum_166 rfl (by decide) (by decide) ⟨rfl, rfl, hP⟩
        · exact absurd (hc.elim (fun z => absurd (show nI 4 ≤ nI i from nI_le z (by omega)) c6) (fun z => z.elim (fun y => absurd y c10) id)) (show ¬ 0 ≤ w' from c17)
  have loop : ∀ (n9 i : Nat) (how : Int32) (a1 : Nat) (α1 : Nat → Nat → Int32) (ps : List (Int32 × Int32 × Option Int32)), i + n9 = 3 → ps.length = i → ¬ how ≤ 0 → An α1 α → FRn α1 → Pst α k α1 ps → a1 ≤ t → (psum (α 17) t (n9 + 1) how a1).map (fun q => (ps ++ q.1, q.2)) = psum (α 17) t 4 1 a → J p l e { frames := 4, cells := 0, slots := 0, locals := 56 } s m args below meth c D cA b 4 (EndQ D cA b s below (Rp none n (SumP mo σ α h t k (psum (α 17) t 4 1 a))) 0 0) n (ovM mo (sp σ a1 (-1)) α1 h) 0 0 4 [(3, .int (nI i)), (2, .int how), (0, .ref mo), (1, .int (nI k))] [] := by
    intro n9
    induction n9 with
    | zero =>
      intro i how a1 α1 ps hi hps hh hA hF hP hat1 hv
      have m1 := mf_ok (g := α 17) hat1 ht
      obtain rfl : i = 3 := by omega
      refine j_iload_n C d_M_sum_4 rfl rfl ?_
      refine j_iconst (v := 4) C d_M_sum_5 (by decide) ?_
      refine j_icmp_ge (tgt := 166) C d_M_sum_6 (by decide) (fun c6 => ?_) (fun c6 => ?_)
      · exact absurd (show nI 4 ≤ nI 3 from c6) (nI_ge (by omega) (by omega))
      · refine j_iload_n C d_M_sum_9 rfl rfl ?_
        refine j_if_le (tgt := 166) C d_M_sum_10 (by decide) (fun c10 => ?_) (fun c10 => ?_)
        · exact absurd c10 hh
        · refine j_aload_n C d_M_sum_13 rfl rfl ?_
          refine jm_get C fl_6_136 d_M_sum_14 hmo rfl ?_
          refine j_if_ge (tgt := 166) C d_M_sum_17 (by decide) (fun c17 => ?_) (fun c17 => ?_)
          · exact absurd (show (0 : Int32) ≤ -1 from c17) (by decide)
          · refine j_aload_n C d_M_sum_20 rfl rfl ?_
            refine jm_get C fl_6_78 d_M_sum_21 hmo rfl ?_
            refine j_iload_n C d_M_sum_24 rfl rfl ?_
            refine j_iload_n C d_M_sum_25 rfl rfl ?_
            refine j_iadd C d_M_sum_26 ?_
            refine j_aload_n C d_M_sum_27 rfl rfl ?_
            refine j_callV C d_M_sum_28 ml_M_154 mc_M_factor in_M_factor rfl se_M_factor (by omega) (ovM_o _ _ _ _) (c_M_factorG hl σ _ h hmo (α 17) (by exact (show α1 17 = α 17 from hA 17 (by omega))) t a1 h16 ht hat1) rfl rfl (Nat.le_of_ble_eq_true rfl) (Nat.le_of_ble_eq_true rfl) (Nat.le_of_ble_eq_true rfl) (Nat.le_of_ble_eq_true rfl) (jk_r ?_)
            refine jm_iastn C 21 30 (k + 3) d_M_sum_31 (by decide) rfl hmo (nI_add k 3) (by omega) (by omega) rfl ?_
            refine j_aload_n C d_M_sum_32 rfl rfl ?_
            refine jm_get C fl_6_84 d_M_sum_33 hmo rfl ?_
            refine j_iload_n C d_M_sum_36 rfl rfl ?_
            refine j_iload_n C d_M_sum_37 rfl rfl ?_
            refine j_iadd C d_M_sum_38 ?_
            refine j_aload_n C d_M_sum_39 rfl rfl ?_
            refine jm_get C fl_6_136 d_M_sum_40 hmo rfl ?_
            refine j_if_ge (tgt := 59) C d_M_sum_43 (by decide) (fun c43 => ?_) (fun c43 => ?_)
            · refine j_iconst (v := 0) C d_M_sum_59 (by decide) ?_
              refine jm_zastn C 23 32 (k + 3) d_M_sum_60 (by decide) rfl hmo (nI_add k 3) (by omega) (by omega) rfl ?_
              refine j_aload_n C d_M_sum_61 rfl rfl ?_
              refine jm_get C fl_6_84 d_M_sum_62 hmo rfl ?_
              refine j_iload_n C d_M_sum_65 rfl rfl ?_
              refine j_iload_n C d_M_sum_66 rfl rfl ?_
              refine j_iadd C d_M_sum_67 ?_
              refine jm_zaldn C 23 (k + 3) d_M_sum_68 (by decide) rfl hmo (nI_add k 3) (by omega) (by omega) ?_
              refine j_if_eq (tgt := 94) C d_M_sum_69 (by decide) (fun c69 => ?_) (fun c69 => ?_)
              · refine j_aload_n C d_M_sum_94 rfl rfl ?_
                refine jm_get C fl_6_75 d_M_sum_95 hmo rfl ?_
                refine j_iload_n C d_M_sum_98 rfl rfl ?_
                refine j_iload_n C d_M_sum_99 rfl rfl ?_
                refine j_iadd C d_M_sum_100 ?_
                refine j_iload_n C d_M_sum_101 rfl rfl ?_
                refine jm_iastn C 20 29 (k + 3) d_M_sum_102 (by decide) rfl hmo (nI_add k 3) (by omega) (by omega) rfl ?_
                refine j_iconst (v := 0) C d_M_sum_103 (by decide) ?_
                refine j_istore_n C d_M_sum_104 rfl (by decide) rfl ?_
                refine j_aload_n C d_M_sum_105 rfl rfl ?_
                refine jm_get C fl_6_136 d_M_sum_106 hmo rfl ?_
                refine j_if_ge (tgt := 160) C d_M_sum_109 (by decide) (fun c109 => ?_) (fun c109 => ?_)
                · have ev : psum (α 17) t (0 + 1) how a1 = none := by
                    conv =>
                      lhs
                      unfold psum
                    rw [if_neg (fun z => absurd (show (0 : Int32) ≤ (mfW (α 17) t a1) from c43) (by rw [z]; decide))]
                  have er : psum (α 17) t 4 1 a = none := by rw [← hv, ev]; rfl
                  refine j_iinc (v := nI (3 + 1)) C d_M_sum_160 rfl (nI_inc 3) (by decide) rfl ?_
                  refine j_goto (tgt := 4) C d_M_sum_163 (by decide) ?_
                  exact j_pick [0, 1, 2, 3] rfl (fin (3 + 1) 0 (mfA (α 17) t a1) (mfW (α 17) t a1) (upa (upa (upa α1 30 (upd (α1 30) (k + 3) (mfV (α 17) t a1))) 32 (upd ((upa α1 30 (upd (α1 30) (k + 3) (mfV (α 17) t a1))) 32) (k + 3) (vp_nar .boolean 0))) 29 (upd ((upa (upa α1 30 (upd (α1 30) (k + 3) (mfV (α 17) t a1))) 32 (upd ((upa α1 30 (upd (α1 30) (k + 3) (mfV (α 17) t a1))) 32) (k + 3) (vp_nar .boolean 0))) 29) (k + 3) how)) (Or.inr (Or.inr (show (0 : Int32) ≤ (mfW (α 17) t a1) from c43))) (by omega) ⟨(mfA (α 17) t a1), (mfW (α 17) t a1), (upa (upa (upa α1 30 (upd (α1 30) (k + 3) (mfV (α 17) t a1))) 32 (upd ((upa α1 30 (upd (α1 30) (k + 3) (mfV (α 17) t a1))) 32) (k + 3) (vp_nar .boolean 0))) 29 (upd ((upa (upa α1 30 (upd (α1 30) (k + 3) (mfV (α 17) t a1))) 32 (upd ((upa α1 30 (upd (α1 30) (k + 3) (mfV (α 17) t a1))) 32) (k + 3) (vp_nar .boolean 0))) 29) (k + 3) how)), rfl, (An_u (An_u (An_u hA (by decide) (by decide)) (by decide) (by decide)) (by decide) (by decide)), (FRn_o (FRn_o (FRn_30 hF m1.2.1) (by decide) (by decide)) (by decide) (by decide)), fun _ => (show (0 : Int32) ≤ (mfW (α 17) t a1) from c43), fun q hq => by rw [er] at hq; cases hq⟩)
                · exact absurd (show (0 : Int32) ≤ (mfW (α 17) t a1) from c43) (show ¬ (0 : Int32) ≤ (mfW (α 17) t a1) from c109)
              · exact absurd (show vp_nar .boolean 0 = 0 from rfl) (fun z => c69 (by rw [upa_s, upd_s]; exact z))
            · have hW1 : (mfW (α 17) t a1) = -1 := m1.2.2.resolve_right c43
              rw [hW1]
              refine j_aload_n C d_M_sum_46 rfl rfl ?_
              refine j_callV C d_M_sum_47 ml_M_139 mc_M_see in_M_see rfl se_M_see (by omega) (ovM_o _ _ _ _) (c_M_seeG hl σ _ h hmo (α 17) (by exact (show α1 17 = α 17 from hA 17 (by omega))) t (mfA (α 17) t a1) (-1) h16 ht m1.1) rfl rfl (Nat.le_of_ble_eq_true rfl) (Nat.le_of_ble_eq_true rfl) (Nat.le_of_ble_eq_true rfl) (Nat.le_of_ble_eq_true rfl) (jk_r ?_)
              refine j_bipush (v := 47) C d_M_sum_50 (by decide) ?_
              refine j_icmp_ne (tgt := 59) C d_M_sum_52 (by decide) (fun c52 => ?_) (fun c52 => ?_)
              · refine j_iconst (v := 0) C d_M_sum_59 (by decide) ?_
                refine jm_zastn C 23 32 (k + 3) d_M_sum_60 (by decide) rfl hmo (nI_add k 3) (by omega) (by omega) rfl ?_
                refine j_aload_n C d_M_sum_61 rfl rfl ?_
                refine jm_get C fl_6_84 d_M_sum_62 hmo rfl ?_
                refine j_iload_n C d_M_sum_65 rfl rfl ?_
                refine j_iload_n C d_M_sum_66 rfl rfl ?_
                refine j_iadd C d_M_sum_67 ?_
                refine jm_zaldn C 23 (k + 3) d_M_sum_68 (by decide) rfl hmo (nI_add k 3) (by omega) (by omega) ?_
                refine j_if_eq (tgt := 94) C d_M_sum_69 (by decide) (fun c69 => ?_) (fun c69 => ?_)
                · refine j_aload_n C d_M_sum_94 rfl rfl ?_
                  refine jm_get C fl_6_75 d_M_sum_95 hmo rfl ?_
                  refine j_iload_n C d_M_sum_98 rfl rfl ?_
                  refine j_iload_n C d_M_sum_99 rfl rfl ?_
                  refine j_iadd C d_M_sum_100 ?_
                  refine j_iload_n C d_M_sum_101 rfl rfl ?_
                  refine jm_iastn C 20 29 (k + 3) d_M_sum_102 (by decide) rfl hmo (nI_add k 3) (by omega) (by omega) rfl ?_
                  refine j_iconst (v := 0) C d_M_sum_103 (by decide) ?_
                  refine j_istore_n C d_M_sum_104 rfl (by decide) rfl ?_
                  refine j_aload_n C d_M_sum_105 rfl rfl ?_
                  refine jm_get C fl_6_136 d_M_sum_106 hmo rfl ?_
                  refine j_if_ge (tgt := 160) C d_M_sum_109 (by decide) (fun c109 => ?_) (fun c109 => ?_)
                  · exact absurd (show (0 : Int32) ≤ -1 from c109) (by decide)
                  · skip
                    refine j_iload_n C d_M_sum_112 rfl rfl ?_
                    refine j_iconst (v := 3) C d_M_sum_113 (by decide) ?_
                    refine j_icmp_ge (tgt := 160) C d_M_sum_114 (by decide) (fun c114 => ?_) (fun c114 => ?_)
                    · have ev : psum (α 17) t (0 + 1) how a1 = some ([(how, (mfV (α 17) t a1), none)], (skp (α 17) t (mfA (α 17) t a1))) := by
                        conv =>
                          lhs
                          unfold psum
                        rw [if_pos hW1, if_neg c52, if_pos rfl]
                      have er : psum (α 17) t 4 1 a = some (ps ++ [(how, (mfV (α 17) t a1), none)], (skp (α 17) t (mfA (α 17) t a1))) := by rw [← hv, ev]; rfl
                      have hp9 : Pst α k (upa (upa (upa α1 30 (upd (α1 30) (k + 3) (mfV (α 17) t a1))) 32 (upd ((upa α1 30 (upd (α1 30) (k + 3) (mfV (α 17) t a1))) 32) (k + 3) (vp_nar .boolean 0))) 29 (upd ((upa (upa α1 30 (upd (α1 30) (k + 3) (mfV (α 17) t a1))) 32 (upd ((upa α1 30 (upd (α1 30) (k + 3) (mfV (α 17) t a1))) 32) (k + 3) (vp_nar .boolean 0))) 29) (k + 3) how)) (ps ++ [(how, (mfV (α 17) t a1), none)]) := Pst_snocI hps hP rfl rfl rfl (fun j hj => rfl) (fun y hy => by cases hy)
                      refine j_iinc (v := nI (3 + 1)) C d_M_sum_160 rfl (nI_inc 3) (by decide) rfl ?_
                      refine j_goto (tgt := 4) C d_M_sum_163 (by decide) ?_
                      exact j_pick [0, 1, 2, 3] rfl (fin (3 + 1) 0 (skp (α 17) t (mfA (α 17) t a1)) (-1) (upa (upa (upa α1 30 (upd (α1 30) (k + 3) (mfV (α 17) t a1))) 32 (upd ((upa α1 30 (upd (α1 30) (k + 3) (mfV (α 17) t a1))) 32) (k + 3) (vp_nar .boolean 0))) 29 (upd ((upa (upa α1 30 (upd (α1 30) (k + 3) (mfV (α 17) t a1))) 32 (upd ((upa α1 30 (upd (α1 30) (k + 3) (mfV (α 17) t a1))) 32) (k + 3) (vp_nar .boolean 0))) 29) (k + 3) how)) (Or.inr (Or.inl (by decide))) (by omega) ⟨(skp (α 17) t (mfA (α 17) t a1)), -1, (upa (upa (upa α1 30 (upd (α1 30) (k + 3) (mfV (α 17) t a1))) 32 (upd ((upa α1 30 (upd (α1 30) (k + 3) (mfV (α 17) t a1))) 32) (k + 3) (vp_nar .boolean 0))) 29 (upd ((upa (upa α1 30 (upd (α1 30) (k + 3) (mfV (α 17) t a1))) 32 (upd ((upa α1 30 (upd (α1 30) (k + 3) (mfV (α 17) t a1))) 32) (k + 3) (vp_nar .boolean 0))) 29) (k + 3) how)), rfl, (An_u (An_u (An_u hA (by decide) (by decide)) (by decide) (by decide)) (by decide) (by decide)), (FRn_o (FRn_o (FRn_30 hF m1.2.1) (by decide) (by decide)) (by decide) (by decide)), (fun z => (by rw [er] at z; cases z)), fun q hq => by rw [er] at hq; cases hq; exact ⟨rfl, rfl, (skp_le _ m1.1), hp9⟩⟩)
                    · exact absurd (show nI 3 ≤ nI 3 from nI_le (Nat.le_refl _) (by omega)) c114
                · exact absurd (show vp_nar .boolean 0 = 0 from rfl) (fun z => c69 (by rw [upa_s, upd_s]; exact z))
              · refine j_iconst (v := 1) C d_M_sum_55 (by decide) ?_
                refine j_goto (tgt := 60) C d_M_sum_56 (by decide) ?_
                refine jm_zastn C 23 32 (k + 3) d_M_sum_60 (by decide) rfl hmo (nI_add k 3) (by omega) (by omega) rfl ?_
                refine j_aload_n C d_M_sum_61 rfl rfl ?_
                refine jm_get C fl_6_84 d_M_sum_62 hmo rfl ?_
                refine j_iload_n C d_M_sum_65 rfl rfl ?_
                refine j_iload_n C d_M_sum_66 rfl rfl ?_
                refine j_iadd C d_M_sum_67 ?_
                refine jm_zaldn C 23 (k + 3) d_M_sum_68 (by decide) rfl hmo (nI_add k 3) (by omega) (by omega) ?_
                refine j_if_eq (tgt := 94) C d_M_sum_69 (by decide) (fun c69 => ?_) (fun c69 => ?_)
                · exact absurd (show vp_nar .boolean 1 = 0 by rw [upa_s, upd_s] at c69; exact c69) (by decide)
                · refine j_aload_n C d_M_sum_72 rfl rfl ?_
                  refine j_dup C d_M_sum_73 rfl ?_
                  refine jm_get C fl_6_129 d_M_sum_74 hmo rfl ?_
                  refine j_iconst (v := 1) C d_M_sum_77 (by decide) ?_
                  refine j_iadd C d_M_sum_78 ?_
                  have hlt1 : (skp (α 17) t (mfA (α 17) t a1)) + 1 ≤ t := hr_lt2 c52 (by decide)
                  have m2 := mf_ok (g := α 17) hlt1 ht
                  refine jm_puti 19 C fp_6_129 d_M_sum_79 hmo (by decide) (by first | rfl | assumption) rfl rfl ?_
                  refine j_h (h' := (ovM mo (sp σ ((skp (α 17) t (mfA (α 17) t a1)) + 1) (-1)) (upa (upa α1 30 (upd (α1 30) (k + 3) (mfV (α 17) t a1))) 32 (upd ((upa α1 30 (upd (α1 30) (k + 3) (mfV (α 17) t a1))) 32) (k + 3) (vp_nar .boolean 1))) h)) (by rw [sp_i]) ?_
                  refine j_aload_n C d_M_sum_82 rfl rfl ?_
                  refine jm_get C fl_6_81 d_M_sum_83 hmo rfl ?_
                  refine j_iload_n C d_M_sum_86 rfl rfl ?_
                  refine j_iload_n C d_M_sum_87 rfl rfl ?_
                  refine j_iadd C d_M_sum_88 ?_
                  refine j_aload_n C d_M_sum_89 rfl rfl ?_
                  refine j_callV C d_M_sum_90 ml_M_154 mc_M_factor in_M_factor rfl se_M_factor (by omega) (ovM_o _ _ _ _) (c_M_factorG hl σ _ h hmo (α 17) (by exact (show α1 17 = α 17 from hA 17 (by omega))) t ((skp (α 17) t (mfA (α 17) t a1)) + 1) h16 ht hlt1) rfl rfl (Nat.le_of_ble_eq_true rfl) (Nat.le_of_ble_eq_true rfl) (Nat.le_of_ble_eq_true rfl) (Nat.le_of_ble_eq_true rfl) (jk_r ?_)
                  refine jm_iastn C 22 31 (k + 3) d_M_sum_93 (by decide) rfl hmo (nI_add k 3) (by omega) (by omega) rfl ?_
                  refine j_aload_n C d_M_sum_94 rfl rfl ?_
                  refine jm_get C fl_6_75 d_M_sum_95 hmo rfl ?_
                  refine j_iload_n C d_M_sum_98 rfl rfl ?_
                  refine j_iload_n C d_M_sum_99 rfl rfl ?_
                  refine j_iadd C d_M_sum_100 ?_
                  refine j_iload_n C d_M_sum_101 rfl rfl ?_
                  refine jm_iastn C 20 29 (k + 3) d_M_sum_102 (by decide) rfl hmo (nI_add k 3) (by omega) (by omega) rfl ?_
                  refine j_iconst (v := 0) C d_M_sum_103 (by decide) ?_
                  refine j_istore_n C d_M_sum_104 rfl (by decide) rfl ?_
                  refine j_aload_n C d_M_sum_105 rfl rfl ?_
                  refine jm_get C fl_6_136 d_M_sum_106 hmo rfl ?_
                  refine j_if_ge (tgt := 160) C d_M_sum_109 (by decide) (fun c109 => ?_) (fun c109 => ?_)
                  · have ev : psum (α 17) t (0 + 1) how a1 = none := by
                      conv =>
                        lhs
                        unfold psum
                      rw [if_pos hW1, if_pos c52, if_neg (fun z => absurd (show (0 : Int32) ≤ (mfW (α 17) t ((skp (α 17) t (mfA (α 17) t a1)) + 1)) from c109) (by rw [z]; decide))]
                    have er : psum (α 17) t 4 1 a = none := by rw [← hv, ev]; rfl
                    refine j_iinc (v := nI (3 + 1)) C d_M_sum_160 rfl (nI_inc 3) (by decide) rfl ?_
                    refine j_goto (tgt := 4) C d_M_sum_163 (by decide) ?_
                    exact j_pick [0, 1, 2, 3] rfl (fin (3 + 1) 0 (mfA (α 17) t ((skp (α 17) t (mfA (α 17) t a1)) + 1)) (mfW (α 17) t ((skp (α 17) t (mfA (α 17) t a1)) + 1)) (upa (upa (upa (upa α1 30 (upd (α1 30) (k + 3) (mfV (α 17) t a1))) 32 (upd ((upa α1 30 (upd (α1 30) (k + 3) (mfV (α 17) t a1))) 32) (k + 3) (vp_nar .boolean 1))) 31 (upd ((upa (upa α1 30 (upd (α1 30) (k + 3) (mfV (α 17) t a1))) 32 (upd ((upa α1 30 (upd (α1 30) (k + 3) (mfV (α 17) t a1))) 32) (k + 3) (vp_nar .boolean 1))) 31) (k + 3) (mfV (α 17) t ((skp (α 17) t (mfA (α 17) t a1)) + 1)))) 29 (upd ((upa (upa (upa α1 30 (upd (α1 30) (k + 3) (mfV (α 17) t a1))) 32 (upd ((upa α1 30 (upd (α1 30) (k + 3) (mfV (α 17) t a1))) 32) (k + 3) (vp_nar .boolean 1))) 31 (upd ((upa (upa α1 30 (upd (α1 30) (k + 3) (mfV (α 17) t a1))) 32 (upd ((upa α1 30 (upd (α1 30) (k + 3) (mfV (α 17) t a1))) 32) (k + 3) (vp_nar .boolean 1))) 31) (k + 3) (mfV (α 17) t ((skp (α 17) t (mfA (α 17) t a1)) + 1)))) 29) (k + 3) how)) (Or.inr (Or.inr (show (0 : Int32) ≤ (mfW (α 17) t ((skp (α 17) t (mfA (α 17) t a1)) + 1)) from c109))) (by omega) ⟨(mfA (α 17) t ((skp (α 17) t (mfA (α 17) t a1)) + 1)), (mfW (α 17) t ((skp (α 17) t (mfA (α 17) t a1)) + 1)), (upa (upa (upa (upa α1 30 (upd (α1 30) (k + 3) (mfV (α 17) t a1))) 32 (upd ((upa α1 30 (upd (α1 30) (k + 3) (mfV (α 17) t a1))) 32) (k + 3) (vp_nar .boolean 1))) 31 (upd ((upa (upa α1 30 (upd (α1 30) (k + 3) (mfV (α 17) t a1))) 32 (upd ((upa α1 30 (upd (α1 30) (k + 3) (mfV (α 17) t a1))) 32) (k + 3) (vp_nar .boolean 1))) 31) (k + 3) (mfV (α 17) t ((skp (α 17) t (mfA (α 17) t a1)) + 1)))) 29 (upd ((upa (upa (upa α1 30 (upd (α1 30) (k + 3) (mfV (α 17) t a1))) 32 (upd ((upa α1 30 (upd (α1 30) (k + 3) (mfV (α 17) t a1))) 32) (k + 3) (vp_nar .boolean 1))) 31 (upd ((upa (upa α1 30 (upd (α1 30) (k + 3) (mfV (α 17) t a1))) 32 (upd ((upa α1 30 (upd (α1 30) (k + 3) (mfV (α 17) t a1))) 32) (k + 3) (vp_nar .boolean 1))) 31) (k + 3) (mfV (α 17) t ((skp (α 17) t (mfA (α 17) t a1)) + 1)))) 29) (k + 3) how)), rfl, (An_u (An_u (An_u (An_u hA (by decide) (by decide)) (by decide) (by decide)) (by decide) (by decide)) (by decide) (by decide)), (FRn_o (FRn_31 (FRn_o (FRn_30 hF m1.2.1) (by decide) (by decide)) m2.2.1) (by decide) (by decide)), fun _ => (show (0 : Int32) ≤ (mfW (α 17) t ((skp (α 17) t (mfA (α 17) t a1)) + 1)) from c109), fun q hq => by rw [er] at hq; cases hq⟩)
                  · have hW2 : (mfW (α 17) t ((skp (α 17) t (mfA (α 17) t a1)) + 1)) = -1 := m2.2.2.resolve_right c109
                    rw [hW2]
                    refine j_iload_n C d_M_sum_112 rfl rfl ?_
                    refine j_iconst (v := 3) C d_M_sum_113 (by decide) ?_
                    refine j_icmp_ge (tgt := 160) C d_M_sum_114 (by decide) (fun c114 => ?_) (fun c114 => ?_)
                    · have ev : psum (α 17) t (0 + 1) how a1 = some ([(how, (mfV (α 17) t a1), some (mfV (α 17) t ((skp (α 17) t (mfA (α 17) t a1)) + 1)))], (mfA (α 17) t ((skp (α 17) t (mfA (α 17) t a1)) + 1))) := by
                        conv =>
                          lhs
                          unfold psum
                        rw [if_pos hW1, if_pos c52, if_pos hW2, if_pos rfl]
                      have er : psum (α 17) t 4 1 a = some (ps ++ [(how, (mfV (α 17) t a1), some (mfV (α 17) t ((skp (α 17) t (mfA (α 17) t a1)) + 1)))], (mfA (α 17) t ((skp (α 17) t (mfA (α 17) t a1)) + 1))) := by rw [← hv, ev]; rfl
                      have hp9 : Pst α k (upa (upa (upa (upa α1 30 (upd (α1 30) (k + 3) (mfV (α 17) t a1))) 32 (upd ((upa α1 30 (upd (α1 30) (k + 3) (mfV (α 17) t a1))) 32) (k + 3) (vp_nar .boolean 1))) 31 (upd ((upa (upa α1 30 (upd (α1 30) (k + 3) (mfV (α 17) t a1))) 32 (upd ((upa α1 30 (upd (α1 30) (k + 3) (mfV (α 17) t a1))) 32) (k + 3) (vp_nar .boolean 1))) 31) (k + 3) (mfV (α 17) t ((skp (α 17) t (mfA (α 17) t a1)) + 1)))) 29 (upd ((upa (upa (upa α1 30 (upd (α1 30) (k + 3) (mfV (α 17) t a1))) 32 (upd ((upa α1 30 (upd (α1 30) (k + 3) (mfV (α 17) t a1))) 32) (k + 3) (vp_nar .boolean 1))) 31 (upd ((upa (upa α1 30 (upd (α1 30) (k + 3) (mfV (α 17) t a1))) 32 (upd ((upa α1 30 (upd (α1 30) (k + 3) (mfV (α 17) t a1))) 32) (k + 3) (vp_nar .boolean 1))) 31) (k + 3) (mfV (α 17) t ((skp (α 17) t (mfA (α 17) t a1)) + 1)))) 29) (k + 3) how)) (ps ++ [(how, (mfV (α 17) t a1), some (mfV (α 17) t ((skp (α 17) t (mfA (α 17) t a1)) + 1)))]) := Pst_snocI hps hP rfl rfl rfl (fun j hj => by show upd _ _ _ j = _; rw [pk_un hj]; rfl) (fun y hy => by cases hy; exact pk_us)
                      refine j_iinc (v := nI (3 + 1)) C d_M_sum_160 rfl (nI_inc 3) (by decide) rfl ?_
                      refine j_goto (tgt := 4) C d_M_sum_163 (by decide) ?_
                      exact j_pick [0, 1, 2, 3] rfl (fin (3 + 1) 0 (mfA (α 17) t ((skp (α 17) t (mfA (α 17) t a1)) + 1)) (-1) (upa (upa (upa (upa α1 30 (upd (α1 30) (k + 3) (mfV (α 17) t a1))) 32 (upd ((upa α1 30 (upd (α1 30) (k + 3) (mfV (α 17) t a1))) 32) (k + 3) (vp_nar .boolean 1))) 31 (upd ((upa (upa α1 30 (upd (α1 30) (k + 3) (mfV (α 17) t a1))) 32 (upd ((upa α1 30 (upd (α1 30) (k + 3) (mfV (α 17) t a1))) 32) (k + 3) (vp_nar .boolean 1))) 31) (k + 3) (mfV (α 17) t ((skp (α 17) t (mfA (α 17) t a1)) + 1)))) 29 (upd ((upa (upa (upa α1 30 (upd (α1 30) (k + 3) (mfV (α 17) t a1))) 32 (upd ((upa α1 30 (upd (α1 30) (k + 3) (mfV (α 17) t a1))) 32) (k + 3) (vp_nar .boolean 1))) 31 (upd ((upa (upa α1 30 (upd (α1 30) (k + 3) (mfV (α 17) t a1))) 32 (upd ((upa α1 30 (upd (α1 30) (k + 3) (mfV (α 17) t a1))) 32) (k + 3) (vp_nar .boolean 1))) 31) (k + 3) (mfV (α 17) t ((skp (α 17) t (mfA (α 17) t a1)) + 1)))) 29) (k + 3) how)) (Or.inr (Or.inl (by decide))) (by omega) ⟨(mfA (α 17) t ((skp (α 17) t (mfA (α 17) t a1)) + 1)), -1, (upa (upa (upa (upa α1 30 (upd (α1 30) (k + 3) (mfV (α 17) t a1))) 32 (upd ((upa α1 30 (upd (α1 30) (k + 3) (mfV (α 17) t a1))) 32) (k + 3) (vp_nar .boolean 1))) 31 (upd ((upa (upa α1 30 (upd (α1 30) (k + 3) (mfV (α 17) t a1))) 32 (upd ((upa α1 30 (upd (α1 30) (k + 3) (mfV (α 17) t a1))) 32) (k + 3) (vp_nar .boolean 1))) 31) (k + 3) (mfV (α 17) t ((skp (α 17) t (mfA (α 17) t a1)) + 1)))) 29 (upd ((upa (upa (upa α1 30 (upd (α1 30) (k + 3) (mfV (α 17) t a1))) 32 (upd ((upa α1 30 (upd (α1 30) (k + 3) (mfV (α 17) t a1))) 32) (k + 3) (vp_nar .boolean 1))) 31 (upd ((upa (upa α1 30 (upd (α1 30) (k + 3) (mfV (α 17) t a1))) 32 (upd ((upa α1 30 (upd (α1 30) (k + 3) (mfV (α 17) t a1))) 32) (k + 3) (vp_nar .boolean 1))) 31) (k + 3) (mfV (α 17) t ((skp (α 17) t (mfA (α 17) t a1)) + 1)))) 29) (k + 3) how)), rfl, (An_u (An_u (An_u (An_u hA (by decide) (by decide)) (by decide) (by decide)) (by decide) (by decide)) (by decide) (by decide)), (FRn_o (FRn_31 (FRn_o (FRn_30 hF m1.2.1) (by decide) (by decide)) m2.2.1) (by decide) (by decide)), (fun z => (by rw [er] at z; cases z)), fun q hq => by rw [er] at hq; cases hq; exact ⟨rfl, rfl, m2.1, hp9⟩⟩)
                    · exact absurd (show nI 3 ≤ nI 3 from nI_le (Nat.le_refl _) (by omega)) c114
    | succ n9 ih =>
      intro i how a1 α1 ps hi hps hh hA hF hP hat1 hv
      have m1 := mf_ok (g := α 17) hat1 ht
      refine j_iload_n C d_M_sum_4 rfl rfl ?_
      refine j_iconst (v := 4) C d_M_sum_5 (by decide) ?_
      refine j_icmp_ge (tgt := 166) C d_M_sum_6 (by decide) (fun c6 => ?_) (fun c6 => ?_)
      · exact absurd (show nI 4 ≤ nI i from c6) (nI_ge (by omega) (by omega))
      · refine j_iload_n C d_M_sum_9 rfl rfl ?_
        refine j_if_le (tgt := 166) C d_M_sum_10 (by decide) (fun c10 => ?_) (fun c10 => ?_)
        · exact absurd c10 hh
        · refine j_aload_n C d_M_sum_13 rfl rfl ?_
          refine jm_get C fl_6_136 d_M_sum_14 hmo rfl ?_
          refine j_if_ge (tgt := 166) C d_M_sum_17 (by decide) (fun c17 => ?_) (fun c17 => ?_)
          · exact absurd (show (0 : Int32) ≤ -1 from c17) (by decide)
          · refine j_aload_n C d_M_sum_20 rfl rfl ?_
            refine jm_get C fl_6_78 d_M_sum_21 hmo rfl ?_
            refine j_iload_n C d_M_sum_24 rfl rfl ?_
            refine j_iload_n C d_M_sum_25 rfl rfl ?_
            refine j_iadd C d_M_sum_26 ?_
            refine j_aload_n C d_M_sum_27 rfl rfl ?_
            refine j_callV C d_M_sum_28 ml_M_154 mc_M_factor in_M_factor rfl se_M_factor (by omega) (ovM_o _ _ _ _) (c_M_factorG hl σ _ h hmo (α 17) (by exact (show α1 17 = α 17 from hA 17 (by omega))) t a1 h16 ht hat1) rfl rfl (Nat.le_of_ble_eq_true rfl) (Nat.le_of_ble_eq_true rfl) (Nat.le_of_ble_eq_true rfl) (Nat.le_of_ble_eq_true rfl) (jk_r ?_)
            refine jm_iastn C 21 30 (k + i) d_M_sum_31 (by decide) rfl hmo (nI_add k i) (by omega) (by omega) rfl ?_
            refine j_aload_n C d_M_sum_32 rfl rfl ?_
            refine jm_get C fl_6_84 d_M_sum_33 hmo rfl ?_
            refine j_iload_n C d_M_sum_36 rfl rfl ?_
            refine j_iload_n C d_M_sum_37 rfl rfl ?_
            refine j_iadd C d_M_sum_38 ?_
            refine j_aload_n C d_M_sum_39 rfl rfl ?_
            refine jm_get C fl_6_136 d_M_sum_40 hmo rfl ?_
            refine j_if_ge (tgt := 59) C d_M_sum_43 (by decide) (fun c43 => ?_) (fun c43 => ?_)
            · refine j_iconst (v := 0) C d_M_sum_59 (by decide) ?_
              refine jm_zastn C 23 32 (k + i) d_M_sum_60 (by decide) rfl hmo (nI_add k i) (by omega) (by omega) rfl ?_
              refine j_aload_n C d_M_sum_61 rfl rfl ?_
              refine jm_get C fl_6_84 d_M_sum_62 hmo rfl ?_
              refine j_iload_n C d_M_sum_65 rfl rfl ?_
              refine j_iload_n C d_M_sum_66 rfl rfl ?_
              refine j_iadd C d_M_sum_67 ?_
              refine jm_zaldn C 23 (k + i) d_M_sum_68 (by decide) rfl hmo (nI_add k i) (by omega) (by omega) ?_
              refine j_if_eq (tgt := 94) C d_M_sum_69 (by decide) (fun c69 => ?_) (fun c69 => ?_)
              · refine j_aload_n C d_M_sum_94 rfl rfl ?_
                refine jm_get C fl_6_75 d_M_sum_95 hmo rfl ?_
                refine j_iload_n C d_M_sum_98 rfl rfl ?_
                refine j_iload_n C d_M_sum_99 rfl rfl ?_
                refine j_iadd C d_M_sum_100 ?_
                refine j_iload_n C d_M_sum_101 rfl rfl ?_
                refine jm_iastn C 20 29 (k + i) d_M_sum_102 (by decide) rfl hmo (nI_add k i) (by omega) (by omega) rfl ?_
                refine j_iconst (v := 0) C d_M_sum_103 (by decide) ?_
                refine j_istore_n C d_M_sum_104 rfl (by decide) rfl ?_
                refine j_aload_n C d_M_sum_105 rfl rfl ?_
                refine jm_get C fl_6_136 d_M_sum_106 hmo rfl ?_
                refine j_if_ge (tgt := 160) C d_M_sum_109 (by decide) (fun c109 => ?_) (fun c109 => ?_)
                · have ev : psum (α 17) t ((n9 + 1) + 1) how a1 = none := by
                    conv =>
                      lhs
                      unfold psum
                    rw [if_neg (fun z => absurd (show (0 : Int32) ≤ (mfW (α 17) t a1) from c43) (by rw [z]; decide))]
                  have er : psum (α 17) t 4 1 a = none := by rw [← hv, ev]; rfl
                  refine j_iinc (v := nI (i + 1)) C d_M_sum_160 rfl (nI_inc i) (by decide) rfl ?_
                  refine j_goto (tgt := 4) C d_M_sum_163 (by decide) ?_
                  exact j_pick [0, 1, 2, 3] rfl (fin (i + 1) 0 (mfA (α 17) t a1) (mfW (α 17) t a1) (upa (upa (upa α1 30 (upd (α1 30) (k + i) (mfV (α 17) t a1))) 32 (upd ((upa α1 30 (upd (α1 30) (k + i) (mfV (α 17) t a1))) 32) (k + i) (vp_nar .boolean 0))) 29 (upd ((upa (upa α1 30 (upd (α1 30) (k + i) (mfV (α 17) t a1))) 32 (upd ((upa α1 30 (upd (α1 30) (k + i) (mfV (α 17) t a1))) 32) (k + i) (vp_nar .boolean 0))) 29) (k + i) how)) (Or.inr (Or.inr (show (0 : Int32) ≤ (mfW (α 17) t a1) from c43))) (by omega) ⟨(mfA (α 17) t a1), (mfW (α 17) t a1), (upa (upa (upa α1 30 (upd (α1 30) (k + i) (mfV (α 17) t a1))) 32 (upd ((upa α1 30 (upd (α1 30) (k + i) (mfV (α 17) t a1))) 32) (k + i) (vp_nar .boolean 0))) 29 (upd ((upa (upa α1 30 (upd (α1 30) (k + i) (mfV (α 17) t a1))) 32 (upd ((upa α1 30 (upd (α1 30) (k + i) (mfV (α 17) t a1))) 32) (k + i) (vp_nar .boolean 0))) 29) (k + i) how)), rfl, (An_u (An_u (An_u hA (by decide) (by decide)) (by decide) (by decide)) (by decide) (by decide)), (FRn_o (FRn_o (FRn_30 hF m1.2.1) (by decide) (by decide)) (by decide) (by decide)), fun _ => (show (0 : Int32) ≤ (mfW (α 17) t a1) from c43), fun q hq => by rw [er] at hq; cases hq⟩)
                · exact absurd (show (0 : Int32) ≤ (mfW (α 17) t a1) from c43) (show ¬ (0 : Int32) ≤ (mfW (α 17) t a1) from c109)
              · exact absurd (show vp_nar .boolean 0 = 0 from rfl) (fun z => c69 (by rw [upa_s, upd_s]; exact z))
            · have hW1 : (mfW (α 17) t a1) = -1 := m1.2.2.resolve_right c43
              rw [hW1]
              refine j_aload_n C d_M_sum_46 rfl rfl ?_
              refine j_callV C d_M_sum_47 ml_M_139 mc_M_see in_M_see rfl se_M_see (by omega) (ovM_o _ _ _ _) (c_M_seeG hl σ _ h hmo (α 17) (by exact (show α1 17 = α 17 from hA 17 (by omega))) t (mfA (α 17) t a1) (-1) h16 ht m1.1) rfl rfl (Nat.le_of_ble_eq_true rfl) (Nat.le_of_ble_eq_true rfl) (Nat.le_of_ble_eq_true rfl) (Nat.le_of_ble_eq_true rfl) (jk_r ?_)
              refine j_bipush (v := 47) C d_M_sum_50 (by decide) ?_
              refine j_icmp_ne (tgt := 59) C d_M_sum_52 (by decide) (fun c52 => ?_) (fun c52 => ?_)
              · refine j_iconst (v := 0) C d_M_sum_59 (by decide) ?_
                refine jm_zastn C 23 32 (k + i) d_M_sum_60 (by decide) rfl hmo (nI_add k i) (by omega) (by omega) rfl ?_
                refine j_aload_n C d_M_sum_61 rfl rfl ?_
                refine jm_get C fl_6_84 d_M_sum_62 hmo rfl ?_
                refine j_iload_n C d_M_sum_65 rfl rfl ?_
                refine j_iload_n C d_M_sum_66 rfl rfl ?_
                refine j_iadd C d_M_sum_67 ?_
                refine jm_zaldn C 23 (k + i) d_M_sum_68 (by decide) rfl hmo (nI_add k i) (by omega) (by omega) ?_
                refine j_if_eq (tgt := 94) C d_M_sum_69 (by decide) (fun c69 => ?_) (fun c69 => ?_)
                · refine j_aload_n C d_M_sum_94 rfl rfl ?_
                  refine jm_get C fl_6_75 d_M_sum_95 hmo rfl ?_
                  refine j_iload_n C d_M_sum_98 rfl rfl ?_
                  refine j_iload_n C d_M_sum_99 rfl rfl ?_
                  refine j_iadd C d_M_sum_100 ?_
                  refine j_iload_n C d_M_sum_101 rfl rfl ?_
                  refine jm_iastn C 20 29 (k + i) d_M_sum_102 (by decide) rfl hmo (nI_add k i) (by omega) (by omega) rfl ?_
                  refine j_iconst (v := 0) C d_M_sum_103 (by decide) ?_
                  refine j_istore_n C d_M_sum_104 rfl (by decide) rfl ?_
                  refine j_aload_n C d_M_sum_105 rfl rfl ?_
                  refine jm_get C fl_6_136 d_M_sum_106 hmo rfl ?_
                  refine j_if_ge (tgt := 160) C d_M_sum_109 (by decide) (fun c109 => ?_) (fun c109 => ?_)
                  · exact absurd (show (0 : Int32) ≤ -1 from c109) (by decide)
                  · skip
                    refine j_iload_n C d_M_sum_112 rfl rfl ?_
                    refine j_iconst (v := 3) C d_M_sum_113 (by decide) ?_
                    refine j_icmp_ge (tgt := 160) C d_M_sum_114 (by decide) (fun c114 => ?_) (fun c114 => ?_)
                    · exact absurd (show nI 3 ≤ nI i from c114) (nI_ge (by omega) (by omega))
                    · refine j_aload_n C d_M_sum_117 rfl rfl ?_
                      refine j_callV C d_M_sum_118 ml_M_139 mc_M_see in_M_see rfl se_M_see (by omega) (ovM_o _ _ _ _) (c_M_seeG hl σ _ h hmo (α 17) (by exact (show α1 17 = α 17 from hA 17 (by omega))) t (skp (α 17) t (mfA (α 17) t a1)) (-1) h16 ht (skp_le _ m1.1)) rfl rfl (Nat.le_of_ble_eq_true rfl) (Nat.le_of_ble_eq_true rfl) (Nat.le_of_ble_eq_true rfl) (Nat.le_of_ble_eq_true rfl) (jk_r ?_)
                      refine j_bipush (v := 43) C d_M_sum_121 (by decide) ?_
                      refine j_icmp_eq (tgt := 135) C d_M_sum_123 (by decide) (fun c123 => ?_) (fun c123 => ?_)
                      · refine j_aload_n C d_M_sum_135 rfl rfl ?_
                        refine j_callV C d_M_sum_136 ml_M_132 mc_M_here in_M_here rfl se_M_here (by omega) (ovM_o _ _ _ _) (c_M_hereG hl σ _ h hmo (α 17) (by exact (show α1 17 = α 17 from hA 17 (by omega))) t (skp (α 17) t (skp (α 17) t (mfA (α 17) t a1))) (-1) h16 ht (skp_le _ (skp_le _ m1.1))) rfl rfl (Nat.le_of_ble_eq_true rfl) (Nat.le_of_ble_eq_true rfl) (Nat.le_of_ble_eq_true rfl) (Nat.le_of_ble_eq_true rfl) (jk_r ?_)
                        refine j_bipush (v := 43) C d_M_sum_139 (by decide) ?_
                        refine j_icmp_ne (tgt := 148) C d_M_sum_141 (by decide) (fun c141 => ?_) (fun c141 => ?_)
                        · exact absurd c123 c141
                        · refine j_iconst (v := 1) C d_M_sum_144 (by decide) ?_
                          refine j_goto (tgt := 149) C d_M_sum_145 (by decide) ?_
                          refine j_istore_n C d_M_sum_149 rfl (by decide) rfl ?_
                          refine j_aload_n C d_M_sum_150 rfl rfl ?_
                          refine j_dup C d_M_sum_151 rfl ?_
                          refine jm_get C fl_6_129 d_M_sum_152 hmo rfl ?_
                          refine j_iconst (v := 1) C d_M_sum_155 (by decide) ?_
                          refine j_iadd C d_M_sum_156 ?_
                          refine jm_puti 19 C fp_6_129 d_M_sum_157 hmo (by decide) (by first | rfl | assumption) rfl rfl ?_
                          refine j_h (h' := (ovM mo (sp σ (skp (α 17) t (skp (α 17) t (mfA (α 17) t a1)) + 1) (-1)) (upa (upa (upa α1 30 (upd (α1 30) (k + i) (mfV (α 17) t a1))) 32 (upd ((upa α1 30 (upd (α1 30) (k + i) (mfV (α 17) t a1))) 32) (k + i) (vp_nar .boolean 0))) 29 (upd ((upa (upa α1 30 (upd (α1 30) (k + i) (mfV (α 17) t a1))) 32 (upd ((upa α1 30 (upd (α1 30) (k + i) (mfV (α 17) t a1))) 32) (k + i) (vp_nar .boolean 0))) 29) (k + i) how)) h)) (by rw [sp_i]) ?_
                          have ev : psum (α 17) t ((n9 + 1) + 1) how a1 = (psum (α 17) t (n9 + 1) 1 ((skp (α 17) t (skp (α 17) t (mfA (α 17) t a1))) + 1)).map (fun q => ((how, (mfV (α 17) t a1), none) :: q.1, q.2)) := by
                            conv =>
                              lhs
                              unfold psum
                            rw [if_pos hW1, if_neg c52, if_neg (by omega), if_pos c123]
                          have hp9 : Pst α k (upa (upa (upa α1 30 (upd (α1 30) (k + i) (mfV (α 17) t a1))) 32 (upd ((upa α1 30 (upd (α1 30) (k + i) (mfV (α 17) t a1))) 32) (k + i) (vp_nar .boolean 0))) 29 (upd ((upa (upa α1 30 (upd (α1 30) (k + i) (mfV (α 17) t a1))) 32 (upd ((upa α1 30 (upd (α1 30) (k + i) (mfV (α 17) t a1))) 32) (k + i) (vp_nar .boolean 0))) 29) (k + i) how)) (ps ++ [(how, (mfV (α 17) t a1), none)]) := Pst_snocI hps hP rfl rfl rfl (fun j hj => rfl) (fun y hy => by cases hy)
                          refine j_iinc (v := nI (i + 1)) C d_M_sum_160 rfl (nI_inc i) (by decide) rfl ?_
                          refine j_goto (tgt := 4) C d_M_sum_163 (by decide) ?_
                          exact j_pick [0, 1, 2, 3] rfl (ih (i + 1) 1 ((skp (α 17) t (skp (α 17) t (mfA (α 17) t a1))) + 1) (upa (upa (upa α1 30 (upd (α1 30) (k + i) (mfV (α 17) t a1))) 32 (upd ((upa α1 30 (upd (α1 30) (k + i) (mfV (α 17) t a1))) 32) (k + i) (vp_nar .boolean 0))) 29 (upd ((upa (upa α1 30 (upd (α1 30) (k + i) (mfV (α 17) t a1))) 32 (upd ((upa α1 30 (upd (α1 30) (k + i) (mfV (α 17) t a1))) 32) (k + i) (vp_nar .boolean 0))) 29) (k + i) how)) (ps ++ [(how, (mfV (α 17) t a1), none)]) (by omega) (by rw [len_snoc]; omega) (by decide) (An_u (An_u (An_u hA (by decide) (by decide)) (by decide) (by decide)) (by decide) (by decide)) (FRn_o (FRn_o (FRn_30 hF m1.2.1) (by decide) (by decide)) (by decide) (by decide)) hp9 (hr_lt2 c123 (by decide)) (by rw [← hv, ev, Option.map_map]; congr 1; funext q; simp))
                      · refine j_aload_n C d_M_sum_126 rfl rfl ?_
                        refine j_callV C d_M_sum_127 ml_M_132 mc_M_here in_M_here rfl se_M_here (by omega) (ovM_o _ _ _ _) (c_M_hereG hl σ _ h hmo (α 17) (by exact (show α1 17 = α 17 from hA 17 (by omega))) t (skp (α 17) t (skp (α 17) t (mfA (α 17) t a1))) (-1) h16 ht (skp_le _ (skp_le _ m1.1))) rfl rfl (Nat.le_of_ble_eq_true rfl) (Nat.le_of_ble_eq_true rfl) (Nat.le_of_ble_eq_true rfl) (Nat.le_of_ble_eq_true rfl) (jk_r ?_)
                        refine j_bipush (v := 45) C d_M_sum_130 (by decide) ?_
                        refine j_icmp_ne (tgt := 160) C d_M_sum_132 (by decide) (fun c132 => ?_) (fun c132 => ?_)
                        · have ev : psum (α 17) t ((n9 + 1) + 1) how a1 = some ([(how, (mfV (α 17) t a1), none)], (skp (α 17) t (skp (α 17) t (mfA (α 17) t a1)))) := by
                            conv =>
                              lhs
                              unfold psum
                            rw [if_pos hW1, if_neg c52, if_neg (by omega), if_neg c123, if_neg c132]
                          have er : psum (α 17) t 4 1 a = some (ps ++ [(how, (mfV (α 17) t a1), none)], (skp (α 17) t (skp (α 17) t (mfA (α 17) t a1)))) := by rw [← hv, ev]; rfl
                          have hp9 : Pst α k (upa (upa (upa α1 30 (upd (α1 30) (k + i) (mfV (α 17) t a1))) 32 (upd ((upa α1 30 (upd (α1 30) (k + i) (mfV (α 17) t a1))) 32) (k + i) (vp_nar .boolean 0))) 29 (upd ((upa (upa α1 30 (upd (α1 30) (k + i) (mfV (α 17) t a1))) 32 (upd ((upa α1 30 (upd (α1 30) (k + i) (mfV (α 17) t a1))) 32) (k + i) (vp_nar .boolean 0))) 29) (k + i) how)) (ps ++ [(how, (mfV (α 17) t a1), none)]) := Pst_snocI hps hP rfl rfl rfl (fun j hj => rfl) (fun y hy => by cases hy)
                          refine j_iinc (v := nI (i + 1)) C d_M_sum_160 rfl (nI_inc i) (by decide) rfl ?_
                          refine j_goto (tgt := 4) C d_M_sum_163 (by decide) ?_
                          exact j_pick [0, 1, 2, 3] rfl (fin (i + 1) 0 (skp (α 17) t (skp (α 17) t (mfA (α 17) t a1))) (-1) (upa (upa (upa α1 30 (upd (α1 30) (k + i) (mfV (α 17) t a1))) 32 (upd ((upa α1 30 (upd (α1 30) (k + i) (mfV (α 17) t a1))) 32) (k + i) (vp_nar .boolean 0))) 29 (upd ((upa (upa α1 30 (upd (α1 30) (k + i) (mfV (α 17) t a1))) 32 (upd ((upa α1 30 (upd (α1 30) (k + i) (mfV (α 17) t a1))) 32) (k + i) (vp_nar .boolean 0))) 29) (k + i) how)) (Or.inr (Or.inl (by decide))) (by omega) ⟨(skp (α 17) t (skp (α 17) t (mfA (α 17) t a1))), -1, (upa (upa (upa α1 30 (upd (α1 30) (k + i) (mfV (α 17) t a1))) 32 (upd ((upa α1 30 (upd (α1 30) (k + i) (mfV (α 17) t a1))) 32) (k + i) (vp_nar .boolean 0))) 29 (upd ((upa (upa α1 30 (upd (α1 30) (k + i) (mfV (α 17) t a1))) 32 (upd ((upa α1 30 (upd (α1 30) (k + i) (mfV (α 17) t a1))) 32) (k + i) (vp_nar .boolean 0))) 29) (k + i) how)), rfl, (An_u (An_u (An_u hA (by decide) (by decide)) (by decide) (by decide)) (by decide) (by decide)), (FRn_o (FRn_o (FRn_30 hF m1.2.1) (by decide) (by decide)) (by decide) (by decide)), (fun z => (by rw [er] at z; cases z)), fun q hq => by rw [er] at hq; cases hq; exact ⟨rfl, rfl, (skp_le _ (skp_le _ m1.1)), hp9⟩⟩)
                        · refine j_aload_n C d_M_sum_135 rfl rfl ?_
                          refine j_callV C d_M_sum_136 ml_M_132 mc_M_here in_M_here rfl se_M_here (by omega) (ovM_o _ _ _ _) (c_M_hereG hl σ _ h hmo (α 17) (by exact (show α1 17 = α 17 from hA 17 (by omega))) t (skp (α 17) t (skp (α 17) t (mfA (α 17) t a1))) (-1) h16 ht (skp_le _ (skp_le _ m1.1))) rfl rfl (Nat.le_of_ble_eq_true rfl) (Nat.le_of_ble_eq_true rfl) (Nat.le_of_ble_eq_true rfl) (Nat.le_of_ble_eq_true rfl) (jk_r ?_)
                          refine j_bipush (v := 43) C d_M_sum_139 (by decide) ?_
                          refine j_icmp_ne (tgt := 148) C d_M_sum_141 (by decide) (fun c141 => ?_) (fun c141 => ?_)
                          · refine j_iconst (v := 2) C d_M_sum_148 (by decide) ?_
                            refine j_istore_n C d_M_sum_149 rfl (by decide) rfl ?_
                            refine j_aload_n C d_M_sum_150 rfl rfl ?_
                            refine j_dup C d_M_sum_151 rfl ?_
                            refine jm_get C fl_6_129 d_M_sum_152 hmo rfl ?_
                            refine j_iconst (v := 1) C d_M_sum_155 (by decide) ?_
                            refine j_iadd C d_M_sum_156 ?_
                            refine jm_puti 19 C fp_6_129 d_M_sum_157 hmo (by decide) (by first | rfl | assumption) rfl rfl ?_
                            refine j_h (h' := (ovM mo (sp σ (skp (α 17) t (skp (α 17) t (mfA (α 17) t a1)) + 1) (-1)) (upa (upa (upa α1 30 (upd (α1 30) (k + i) (mfV (α 17) t a1))) 32 (upd ((upa α1 30 (upd (α1 30) (k + i) (mfV (α 17) t a1))) 32) (k + i) (vp_nar .boolean 0))) 29 (upd ((upa (upa α1 30 (upd (α1 30) (k + i) (mfV (α 17) t a1))) 32 (upd ((upa α1 30 (upd (α1 30) (k + i) (mfV (α 17) t a1))) 32) (k + i) (vp_nar .boolean 0))) 29) (k + i) how)) h)) (by rw [sp_i]) ?_
                            have ev : psum (α 17) t ((n9 + 1) + 1) how a1 = (psum (α 17) t (n9 + 1) 2 ((skp (α 17) t (skp (α 17) t (mfA (α 17) t a1))) + 1)).map (fun q => ((how, (mfV (α 17) t a1), none) :: q.1, q.2)) := by
                              conv =>
                                lhs
                                unfold psum
                              rw [if_pos hW1, if_neg c52, if_neg (by omega), if_neg c123, if_pos c132]
                            have hp9 : Pst α k (upa (upa (upa α1 30 (upd (α1 30) (k + i) (mfV (α 17) t a1))) 32 (upd ((upa α1 30 (upd (α1 30) (k + i) (mfV (α 17) t a1))) 32) (k + i) (vp_nar .boolean 0))) 29 (upd ((upa (upa α1 30 (upd (α1 30) (k + i) (mfV (α 17) t a1))) 32 (upd ((upa α1 30 (upd (α1 30) (k + i) (mfV (α 17) t a1))) 32) (k + i) (vp_nar .boolean 0))) 29) (k + i) how)) (ps ++ [(how, (mfV (α 17) t a1), none)]) := Pst_snocI hps hP rfl rfl rfl (fun j hj => rfl) (fun y hy => by cases hy)
                            refine j_iinc (v := nI (i + 1)) C d_M_sum_160 rfl (nI_inc i) (by decide) rfl ?_
                            refine j_goto (tgt := 4) C d_M_sum_163 (by decide) ?_
                            exact j_pick [0, 1, 2, 3] rfl (ih (i + 1) 2 ((skp (α 17) t (skp (α 17) t (mfA (α 17) t a1))) + 1) (upa (upa (upa α1 30 (upd (α1 30) (k + i) (mfV (α 17) t a1))) 32 (upd ((upa α1 30 (upd (α1 30) (k + i) (mfV (α 17) t a1))) 32) (k + i) (vp_nar .boolean 0))) 29 (upd ((upa (upa α1 30 (upd (α1 30) (k + i) (mfV (α 17) t a1))) 32 (upd ((upa α1 30 (upd (α1 30) (k + i) (mfV (α 17) t a1))) 32) (k + i) (vp_nar .boolean 0))) 29) (k + i) how)) (ps ++ [(how, (mfV (α 17) t a1), none)]) (by omega) (by rw [len_snoc]; omega) (by decide) (An_u (An_u (An_u hA (by decide) (by decide)) (by decide) (by decide)) (by decide) (by decide)) (FRn_o (FRn_o (FRn_30 hF m1.2.1) (by decide) (by decide)) (by decide) (by decide)) hp9 (hr_lt2 c132 (by decide)) (by rw [← hv, ev, Option.map_map]; congr 1; funext q; simp))
                          · exact absurd (c132.symm.trans c141) (by decide)
                · exact absurd (show vp_nar .boolean 0 = 0 from rfl) (fun z => c69 (by rw [upa_s, upd_s]; exact z))
              · refine j_iconst (v := 1) C d_M_sum_55 (by decide) ?_
                refine j_goto (tgt := 60) C d_M_sum_56 (by decide) ?_
                refine jm_zastn C 23 32 (k + i) d_M_sum_60 (by decide) rfl hmo (nI_add k i) (by omega) (by omega) rfl ?_
                refine j_aload_n C d_M_sum_61 rfl rfl ?_
                refine jm_get C fl_6_84 d_M_sum_62 hmo rfl ?_
                refine j_iload_n C d_M_sum_65 rfl rfl ?_
                refine j_iload_n C d_M_sum_66 rfl rfl ?_
                refine j_iadd C d_M_sum_67 ?_
                refine jm_zaldn C 23 (k + i) d_M_sum_68 (by decide) rfl hmo (nI_add k i) (by omega) (by omega) ?_
                refine j_if_eq (tgt := 94) C d_M_sum_69 (by decide) (fun c69 => ?_) (fun c69 => ?_)
                · exact absurd (show vp_nar .boolean 1 = 0 by rw [upa_s, upd_s] at c69; exact c69) (by decide)
                · refine j_aload_n C d_M_sum_72 rfl rfl ?_
                  refine j_dup C d_M_sum_73 rfl ?_
                  refine jm_get C fl_6_129 d_M_sum_74 hmo rfl ?_
                  refine j_iconst (v := 1) C d_M_sum_77 (by decide) ?_
                  refine j_iadd C d_M_sum_78 ?_
                  have hlt1 : (skp (α 17) t (mfA (α 17) t a1)) + 1 ≤ t := hr_lt2 c52 (by decide)
                  have m2 := mf_ok (g := α 17) hlt1 ht
                  refine jm_puti 19 C fp_6_129 d_M_sum_79 hmo (by decide) (by first | rfl | assumption) rfl rfl ?_
                  refine j_h (h' := (ovM mo (sp σ ((skp (α 17) t (mfA (α 17) t a1)) + 1) (-1)) (upa (upa α1 30 (upd (α1 30) (k + i) (mfV (α 17) t a1))) 32 (upd ((upa α1 30 (upd (α1 30) (k + i) (mfV (α 17) t a1))) 32) (k + i) (vp_nar .boolean 1))) h)) (by rw [sp_i]) ?_
                  refine j_aload_n C d_M_sum_82 rfl rfl ?_
                  refine jm_get C fl_6_81 d_M_sum_83 hmo rfl ?_
                  refine j_iload_n C d_M_sum_86 rfl rfl ?_
                  refine j_iload_n C d_M_sum_87 rfl rfl ?_
                  refine j_iadd C d_M_sum_88 ?_
                  refine j_aload_n C d_M_sum_89 rfl rfl ?_
                  refine j_callV C d_M_sum_90 ml_M_154 mc_M_factor in_M_factor rfl se_M_factor (by omega) (ovM_o _ _ _ _) (c_M_factorG hl σ _ h hmo (α 17) (by exact (show α1 17 = α 17 from hA 17 (by omega))) t ((skp (α 17) t (mfA (α 17) t a1)) + 1) h16 ht hlt1) rfl rfl (Nat.le_of_ble_eq_true rfl) (Nat.le_of_ble_eq_true rfl) (Nat.le_of_ble_eq_true rfl) (Nat.le_of_ble_eq_true rfl) (jk_r ?_)
                  refine jm_iastn C 22 31 (k + i) d_M_sum_93 (by decide) rfl hmo (nI_add k i) (by omega) (by omega) rfl ?_
                  refine j_aload_n C d_M_sum_94 rfl rfl ?_
                  refine jm_get C fl_6_75 d_M_sum_95 hmo rfl ?_
                  refine j_iload_n C d_M_sum_98 rfl rfl ?_
                  refine j_iload_n C d_M_sum_99 rfl rfl ?_
                  refine j_iadd C d_M_sum_100 ?_
                  refine j_iload_n C d_M_sum_101 rfl rfl ?_
                  refine jm_iastn C 20 29 (k + i) d_M_sum_102 (by decide) rfl hmo (nI_add k i) (by omega) (by omega) rfl ?_
                  refine j_iconst (v := 0) C d_M_sum_103 (by decide) ?_
                  refine j_istore_n C d_M_sum_104 rfl (by decide) rfl ?_
                  refine j_aload_n C d_M_sum_105 rfl rfl ?_
                  refine jm_get C fl_6_136 d_M_sum_106 hmo rfl ?_
                  refine j_if_ge (tgt := 160) C d_M_sum_109 (by decide) (fun c109 => ?_) (fun c109 => ?_)
                  · have ev : psum (α 17) t ((n9 + 1) + 1) how a1 = none := by
                      conv =>
                        lhs
                        unfold psum
                      rw [if_pos hW1, if_pos c52, if_neg (fun z => absurd (show (0 : Int32) ≤ (mfW (α 17) t ((skp (α 17) t (mfA (α 17) t a1)) + 1)) from c109) (by rw [z]; decide))]
                    have er : psum (α 17) t 4 1 a = none := by rw [← hv, ev]; rfl
                    refine j_iinc (v := nI (i + 1)) C d_M_sum_160 rfl (nI_inc i) (by decide) rfl ?_
                    refine j_goto (tgt := 4) C d_M_sum_163 (by decide) ?_
                    exact j_pick [0, 1, 2, 3] rfl (fin (i + 1) 0 (mfA (α 17) t ((skp (α 17) t (mfA (α 17) t a1)) + 1)) (mfW (α 17) t ((skp (α 17) t (mfA (α 17) t a1)) + 1)) (upa (upa (upa (upa α1 30 (upd (α1 30) (k + i) (mfV (α 17) t a1))) 32 (upd ((upa α1 30 (upd (α1 30) (k + i) (mfV (α 17) t a1))) 32) (k + i) (vp_nar .boolean 1))) 31 (upd ((upa (upa α1 30 (upd (α1 30) (k + i) (mfV (α 17) t a1))) 32 (upd ((upa α1 30 (upd (α1 30) (k + i) (mfV (α 17) t a1))) 32) (k + i) (vp_nar .boolean 1))) 31) (k + i) (mfV (α 17) t ((skp (α 17) t (mfA (α 17) t a1)) + 1)))) 29 (upd ((upa (upa (upa α1 30 (upd (α1 30) (k + i) (mfV (α 17) t a1))) 32 (upd ((upa α1 30 (upd (α1 30) (k + i) (mfV (α 17) t a1))) 32) (k + i) (vp_nar .boolean 1))) 31 (upd ((upa (upa α1 30 (upd (α1 30) (k + i) (mfV (α 17) t a1))) 32 (upd ((upa α1 30 (upd (α1 30) (k + i) (mfV (α 17) t a1))) 32) (k + i) (vp_nar .boolean 1))) 31) (k + i) (mfV (α 17) t ((skp (α 17) t (mfA (α 17) t a1)) + 1)))) 29) (k + i) how)) (Or.inr (Or.inr (show (0 : Int32) ≤ (mfW (α 17) t ((skp (α 17) t (mfA (α 17) t a1)) + 1)) from c109))) (by omega) ⟨(mfA (α 17) t ((skp (α 17) t (mfA (α 17) t a1)) + 1)), (mfW (α 17) t ((skp (α 17) t (mfA (α 17) t a1)) + 1)), (upa (upa (upa (upa α1 30 (upd (α1 30) (k + i) (mfV (α 17) t a1))) 32 (upd ((upa α1 30 (upd (α1 30) (k + i) (mfV (α 17) t a1))) 32) (k + i) (vp_nar .boolean 1))) 31 (upd ((upa (upa α1 30 (upd (α1 30) (k + i) (mfV (α 17) t a1))) 32 (upd ((upa α1 30 (upd (α1 30) (k + i) (mfV (α 17) t a1))) 32) (k + i) (vp_nar .boolean 1))) 31) (k + i) (mfV (α 17) t ((skp (α 17) t (mfA (α 17) t a1)) + 1)))) 29 (upd ((upa (upa (upa α1 30 (upd (α1 30) (k + i) (mfV (α 17) t a1))) 32 (upd ((upa α1 30 (upd (α1 30) (k + i) (mfV (α 17) t a1))) 32) (k + i) (vp_nar .boolean 1))) 31 (upd ((upa (upa α1 30 (upd (α1 30) (k + i) (mfV (α 17) t a1))) 32 (upd ((upa α1 30 (upd (α1 30) (k + i) (mfV (α 17) t a1))) 32) (k + i) (vp_nar .boolean 1))) 31) (k + i) (mfV (α 17) t ((skp (α 17) t (mfA (α 17) t a1)) + 1)))) 29) (k + i) how)), rfl, (An_u (An_u (An_u (An_u hA (by decide) (by decide)) (by decide) (by decide)) (by decide) (by decide)) (by decide) (by decide)), (FRn_o (FRn_31 (FRn_o (FRn_30 hF m1.2.1) (by decide) (by decide)) m2.2.1) (by decide) (by decide)), fun _ => (show (0 : Int32) ≤ (mfW (α 17) t ((skp (α 17) t (mfA (α 17) t a1)) + 1)) from c109), fun q hq => by rw [er] at hq; cases hq⟩)
                  · have hW2 : (mfW (α 17) t ((skp (α 17) t (mfA (α 17) t a1)) + 1)) = -1 := m2.2.2.resolve_right c109
                    rw [hW2]
                    refine j_iload_n C d_M_sum_112 rfl rfl ?_
                    refine j_iconst (v := 3) C d_M_sum_113 (by decide) ?_
                    refine j_icmp_ge (tgt := 160) C d_M_sum_114 (by decide) (fun c114 => ?_) (fun c114 => ?_)
                    · exact absurd (show nI 3 ≤ nI i from c114) (nI_ge (by omega) (by omega))
                    · refine j_aload_n C d_M_sum_117 rfl rfl ?_
                      refine j_callV C d_M_sum_118 ml_M_139 mc_M_see in_M_see rfl se_M_see (by omega) (ovM_o _ _ _ _) (c_M_seeG hl σ _ h hmo (α 17) (by exact (show α1 17 = α 17 from hA 17 (by omega))) t (mfA (α 17) t ((skp (α 17) t (mfA (α 17) t a1)) + 1)) (-1) h16 ht m2.1) rfl rfl (Nat.le_of_ble_eq_true rfl) (Nat.le_of_ble_eq_true rfl) (Nat.le_of_ble_eq_true rfl) (Nat.le_of_ble_eq_true rfl) (jk_r ?_)
                      refine j_bipush (v := 43) C d_M_sum_121 (by decide) ?_
                      refine j_icmp_eq (tgt := 135) C d_M_sum_123 (by decide) (fun c123 => ?_) (fun c123 => ?_)
                      · refine j_aload_n C d_M_sum_135 rfl rfl ?_
                        refine j_callV C d_M_sum_136 ml_M_132 mc_M_here in_M_here rfl se_M_here (by omega) (ovM_o _ _ _ _) (c_M_hereG hl σ _ h hmo (α 17) (by exact (show α1 17 = α 17 from hA 17 (by omega))) t (skp (α 17) t (mfA (α 17) t ((skp (α 17) t (mfA (α 17) t a1)) + 1))) (-1) h16 ht (skp_le _ m2.1)) rfl rfl (Nat.le_of_ble_eq_true rfl) (Nat.le_of_ble_eq_true rfl) (Nat.le_of_ble_eq_true rfl) (Nat.le_of_ble_eq_true rfl) (jk_r ?_)
                        refine j_bipush (v := 43) C d_M_sum_139 (by decide) ?_
                        refine j_icmp_ne (tgt := 148) C d_M_sum_141 (by decide) (fun c141 => ?_) (fun c141 => ?_)
                        · exact absurd c123 c141
                        · refine j_iconst (v := 1) C d_M_sum_144 (by decide) ?_
                          refine j_goto (tgt := 149) C d_M_sum_145 (by decide) ?_
                          refine j_istore_n C d_M_sum_149 rfl (by decide) rfl ?_
                          refine j_aload_n C d_M_sum_150 rfl rfl ?_
                          refine j_dup C d_M_sum_151 rfl ?_
                          refine jm_get C fl_6_129 d_M_sum_152 hmo rfl ?_
                          refine j_iconst (v := 1) C d_M_sum_155 (by decide) ?_
                          refine j_iadd C d_M_sum_156 ?_
                          refine jm_puti 19 C fp_6_129 d_M_sum_157 hmo (by decide) (by first | rfl | assumption) rfl rfl ?_
                          refine j_h (h' := (ovM mo (sp σ (skp (α 17) t (mfA (α 17) t ((skp (α 17) t (mfA (α 17) t a1)) + 1)) + 1) (-1)) (upa (upa (upa (upa α1 30 (upd (α1 30) (k + i) (mfV (α 17) t a1))) 32 (upd ((upa α1 30 (upd (α1 30) (k + i) (mfV (α 17) t a1))) 32) (k + i) (vp_nar .boolean 1))) 31 (upd ((upa (upa α1 30 (upd (α1 30) (k + i) (mfV (α 17) t a1))) 32 (upd ((upa α1 30 (upd (α1 30) (k + i) (mfV (α 17) t a1))) 32) (k + i) (vp_nar .boolean 1))) 31) (k + i) (mfV (α 17) t ((skp (α 17) t (mfA (α 17) t a1)) + 1)))) 29 (upd ((upa (upa (upa α1 30 (upd (α1 30) (k + i) (mfV (α 17) t a1))) 32 (upd ((upa α1 30 (upd (α1 30) (k + i) (mfV (α 17) t a1))) 32) (k + i) (vp_nar .boolean 1))) 31 (upd ((upa (upa α1 30 (upd (α1 30) (k + i) (mfV (α 17) t a1))) 32 (upd ((upa α1 30 (upd (α1 30) (k + i) (mfV (α 17) t a1))) 32) (k + i) (vp_nar .boolean 1))) 31) (k + i) (mfV (α 17) t ((skp (α 17) t (mfA (α 17) t a1)) + 1)))) 29) (k + i) how)) h)) (by rw [sp_i]) ?_
                          have ev : psum (α 17) t ((n9 + 1) + 1) how a1 = (psum (α 17) t (n9 + 1) 1 ((skp (α 17) t (mfA (α 17) t ((skp (α 17) t (mfA (α 17) t a1)) + 1))) + 1)).map (fun q => ((how, (mfV (α 17) t a1), some (mfV (α 17) t ((skp (α 17) t (mfA (α 17) t a1)) + 1))) :: q.1, q.2)) := by
                            conv =>
                              lhs
                              unfold psum
                            rw [if_pos hW1, if_pos c52, if_pos hW2, if_neg (by omega), if_pos c123]
                          have hp9 : Pst α k (upa (upa (upa (upa α1 30 (upd (α1 30) (k + i) (mfV (α 17) t a1))) 32 (upd ((upa α1 30 (upd (α1 30) (k + i) (mfV (α 17) t a1))) 32) (k + i) (vp_nar .boolean 1))) 31 (upd ((upa (upa α1 30 (upd (α1 30) (k + i) (mfV (α 17) t a1))) 32 (upd ((upa α1 30 (upd (α1 30) (k + i) (mfV (α 17) t a1))) 32) (k + i) (vp_nar .boolean 1))) 31) (k + i) (mfV (α 17) t ((skp (α 17) t (mfA (α 17) t a1)) + 1)))) 29 (upd ((upa (upa (upa α1 30 (upd (α1 30) (k + i) (mfV (α 17) t a1))) 32 (upd ((upa α1 30 (upd (α1 30) (k + i) (mfV (α 17) t a1))) 32) (k + i) (vp_nar .boolean 1))) 31 (upd ((upa (upa α1 30 (upd (α1 30) (k + i) (mfV (α 17) t a1))) 32 (upd ((upa α1 30 (upd (α1 30) (k + i) (mfV (α 17) t a1))) 32) (k + i) (vp_nar .boolean 1))) 31) (k + i) (mfV (α 17) t ((skp (α 17) t (mfA (α 17) t a1)) + 1)))) 29) (k + i) how)) (ps ++ [(how, (mfV (α 17) t a1), some (mfV (α 17) t ((skp (α 17) t (mfA (α 17) t a1)) + 1)))]) := Pst_snocI hps hP rfl rfl rfl (fun j hj => by show upd _ _ _ j = _; rw [pk_un hj]; rfl) (fun y hy => by cases hy; exact pk_us)
                          refine j_iinc (v := nI (i + 1)) C d_M_sum_160 rfl (nI_inc i) (by decide) rfl ?_
                          refine j_goto (tgt := 4) C d_M_sum_163 (by decide) ?_
                          exact j_pick [0, 1, 2, 3] rfl (ih (i + 1) 1 ((skp (α 17) t (mfA (α 17) t ((skp (α 17) t (mfA (α 17) t a1)) + 1))) + 1) (upa (upa (upa (upa α1 30 (upd (α1 30) (k + i) (mfV (α 17) t a1))) 32 (upd ((upa α1 30 (upd (α1 30) (k + i) (mfV (α 17) t a1))) 32) (k + i) (vp_nar .boolean 1))) 31 (upd ((upa (upa α1 30 (upd (α1 30) (k + i) (mfV (α 17) t a1))) 32 (upd ((upa α1 30 (upd (α1 30) (k + i) (mfV (α 17) t a1))) 32) (k + i) (vp_nar .boolean 1))) 31) (k + i) (mfV (α 17) t ((skp (α 17) t (mfA (α 17) t a1)) + 1)))) 29 (upd ((upa (upa (upa α1 30 (upd (α1 30) (k + i) (mfV (α 17) t a1))) 32 (upd ((upa α1 30 (upd (α1 30) (k + i) (mfV (α 17) t a1))) 32) (k + i) (vp_nar .boolean 1))) 31 (upd ((upa (upa α1 30 (upd (α1 30) (k + i) (mfV (α 17) t a1))) 32 (upd ((upa α1 30 (upd (α1 30) (k + i) (mfV (α 17) t a1))) 32) (k + i) (vp_nar .boolean 1))) 31) (k + i) (mfV (α 17) t ((skp (α 17) t (mfA (α 17) t a1)) + 1)))) 29) (k + i) how)) (ps ++ [(how, (mfV (α 17) t a1), some (mfV (α 17) t ((skp (α 17) t (mfA (α 17) t a1)) + 1)))]) (by omega) (by rw [len_snoc]; omega) (by decide) (An_u (An_u (An_u (An_u hA (by decide) (by decide)) (by decide) (by decide)) (by decide) (by decide)) (by decide) (by decide)) (FRn_o (FRn_31 (FRn_o (FRn_30 hF m1.2.1) (by decide) (by decide)) m2.2.1) (by decide) (by decide)) hp9 (hr_lt2 c123 (by decide)) (by rw [← hv, ev, Option.map_map]; congr 1; funext q; simp))
                      · refine j_aload_n C d_M_sum_126 rfl rfl ?_
                        refine j_callV C d_M_sum_127 ml_M_132 mc_M_here in_M_here rfl se_M_here (by omega) (ovM_o _ _ _ _) (c_M_hereG hl σ _ h hmo (α 17) (by exact (show α1 17 = α 17 from hA 17 (by omega))) t (skp (α 17) t (mfA (α 17) t ((skp (α 17) t (mfA (α 17) t a1)) + 1))) (-1) h16 ht (skp_le _ m2.1)) rfl rfl (Nat.le_of_ble_eq_true rfl) (Nat.le_of_ble_eq_true rfl) (Nat.le_of_ble_eq_true rfl) (Nat.le_of_ble_eq_true rfl) (jk_r ?_)
                        refine j_bipush (v := 45) C d_M_sum_130 (by decide) ?_
                        refine j_icmp_ne (tgt := 160) C d_M_sum_132 (by decide) (fun c132 => ?_) (fun c132 => ?_)
                        · have ev : psum (α 17) t ((n9 + 1) + 1) how a1 = some ([(how, (mfV (α 17) t a1), some (mfV (α 17) t ((skp (α 17) t (mfA (α 17) t a1)) + 1)))], (skp (α 17) t (mfA (α 17) t ((skp (α 17) t (mfA (α 17) t a1)) + 1)))) := by
                            conv =>
                              lhs
                              unfold psum
                            rw [if_pos hW1, if_pos c52, if_pos hW2, if_neg (by omega), if_neg c123, if_neg c132]
                          have er : psum (α 17) t 4 1 a = some (ps ++ [(how, (mfV (α 17) t a1), some (mfV (α 17) t ((skp (α 17) t (mfA (α 17) t a1)) + 1)))], (skp (α 17) t (mfA (α 17) t ((skp (α 17) t (mfA (α 17) t a1)) + 1)))) := by rw [← hv, ev]; rfl
                          have hp9 : Pst α k (upa (upa (upa (upa α1 30 (upd (α1 30) (k + i) (mfV (α 17) t a1))) 32 (upd ((upa α1 30 (upd (α1 30) (k + i) (mfV (α 17) t a1))) 32) (k + i) (vp_nar .boolean 1))) 31 (upd ((upa (upa α1 30 (upd (α1 30) (k + i) (mfV (α 17) t a1))) 32 (upd ((upa α1 30 (upd (α1 30) (k + i) (mfV (α 17) t a1))) 32) (k + i) (vp_nar .boolean 1))) 31) (k + i) (mfV (α 17) t ((skp (α 17) t (mfA (α 17) t a1)) + 1)))) 29 (upd ((upa (upa (upa α1 30 (upd (α1 30) (k + i) (mfV (α 17) t a1))) 32 (upd ((upa α1 30 (upd (α1 30) (k + i) (mfV (α 17) t a1))) 32) (k + i) (vp_nar .boolean 1))) 31 (upd ((upa (upa α1 30 (upd (α1 30) (k + i) (mfV (α 17) t a1))) 32 (upd ((upa α1 30 (upd (α1 30) (k + i) (mfV (α 17) t a1))) 32) (k + i) (vp_nar .boolean 1))) 31) (k + i) (mfV (α 17) t ((skp (α 17) t (mfA (α 17) t a1)) + 1)))) 29) (k + i) how)) (ps ++ [(how, (mfV (α 17) t a1), some (mfV (α 17) t ((skp (α 17) t (mfA (α 17) t a1)) + 1)))]) := Pst_snocI hps hP rfl rfl rfl (fun j hj => by show upd _ _ _ j = _; rw [pk_un hj]; rfl) (fun y hy => by cases hy; exact pk_us)
                          refine j_iinc (v := nI (i + 1)) C d_M_sum_160 rfl (nI_inc i) (by decide) rfl ?_
                          refine j_goto (tgt := 4) C d_M_sum_163 (by decide) ?_
                          exact j_pick [0, 1, 2, 3] rfl (fin (i + 1) 0 (skp (α 17) t (mfA (α 17) t ((skp (α 17) t (mfA (α 17) t a1)) + 1))) (-1) (upa (upa (upa (upa α1 30 (upd (α1 30) (k + i) (mfV (α 17) t a1))) 32 (upd ((upa α1 30 (upd (α1 30) (k + i) (mfV (α 17) t a1))) 32) (k + i) (vp_nar .boolean 1))) 31 (upd ((upa (upa α1 30 (upd (α1 30) (k + i) (mfV (α 17) t a1))) 32 (upd ((upa α1 30 (upd (α1 30) (k + i) (mfV (α 17) t a1))) 32) (k + i) (vp_nar .boolean 1))) 31) (k + i) (mfV (α 17) t ((skp (α 17) t (mfA (α 17) t a1)) + 1)))) 29 (upd ((upa (upa (upa α1 30 (upd (α1 30) (k + i) (mfV (α 17) t a1))) 32 (upd ((upa α1 30 (upd (α1 30) (k + i) (mfV (α 17) t a1))) 32) (k + i) (vp_nar .boolean 1))) 31 (upd ((upa (upa α1 30 (upd (α1 30) (k + i) (mfV (α 17) t a1))) 32 (upd ((upa α1 30 (upd (α1 30) (k + i) (mfV (α 17) t a1))) 32) (k + i) (vp_nar .boolean 1))) 31) (k + i) (mfV (α 17) t ((skp (α 17) t (mfA (α 17) t a1)) + 1)))) 29) (k + i) how)) (Or.inr (Or.inl (by decide))) (by omega) ⟨(skp (α 17) t (mfA (α 17) t ((skp (α 17) t (mfA (α 17) t a1)) + 1))), -1, (upa (upa (upa (upa α1 30 (upd (α1 30) (k + i) (mfV (α 17) t a1))) 32 (upd ((upa α1 30 (upd (α1 30) (k + i) (mfV (α 17) t a1))) 32) (k + i) (vp_nar .boolean 1))) 31 (upd ((upa (upa α1 30 (upd (α1 30) (k + i) (mfV (α 17) t a1))) 32 (upd ((upa α1 30 (upd (α1 30) (k + i) (mfV (α 17) t a1))) 32) (k + i) (vp_nar .boolean 1))) 31) (k + i) (mfV (α 17) t ((skp (α 17) t (mfA (α 17) t a1)) + 1)))) 29 (upd ((upa (upa (upa α1 30 (upd (α1 30) (k + i) (mfV (α 17) t a1))) 32 (upd ((upa α1 30 (upd (α1 30) (k + i) (mfV (α 17) t a1))) 32) (k + i) (vp_nar .boolean 1))) 31 (upd ((upa (upa α1 30 (upd (α1 30) (k + i) (mfV (α 17) t a1))) 32 (upd ((upa α1 30 (upd (α1 30) (k + i) (mfV (α 17) t a1))) 32) (k + i) (vp_nar .boolean 1))) 31) (k + i) (mfV (α 17) t ((skp (α 17) t (mfA (α 17) t a1)) + 1)))) 29) (k + i) how)), rfl, (An_u (An_u (An_u (An_u hA (by decide) (by decide)) (by decide) (by decide)) (by decide) (by decide)) (by decide) (by decide)), (FRn_o (FRn_31 (FRn_o (FRn_30 hF m1.2.1) (by decide) (by decide)) m2.2.1) (by decide) (by decide)), (fun z => (by rw [er] at z; cases z)), fun q hq => by rw [er] at hq; cases hq; exact ⟨rfl, rfl, (skp_le _ m2.1), hp9⟩⟩)
                        · refine j_aload_n C d_M_sum_135 rfl rfl ?_
                          refine j_callV C d_M_sum_136 ml_M_132 mc_M_here in_M_here rfl se_M_here (by omega) (ovM_o _ _ _ _) (c_M_hereG hl σ _ h hmo (α 17) (by exact (show α1 17 = α 17 from hA 17 (by omega))) t (skp (α 17) t (mfA (α 17) t ((skp (α 17) t (mfA (α 17) t a1)) + 1))) (-1) h16 ht (skp_le _ m2.1)) rfl rfl (Nat.le_of_ble_eq_true rfl) (Nat.le_of_ble_eq_true rfl) (Nat.le_of_ble_eq_true rfl) (Nat.le_of_ble_eq_true rfl) (jk_r ?_)
                          refine j_bipush (v := 43) C d_M_sum_139 (by decide) ?_
                          refine j_icmp_ne (tgt := 148) C d_M_sum_141 (by decide) (fun c141 => ?_) (fun c141 => ?_)
                          · refine j_iconst (v := 2) C d_M_sum_148 (by decide) ?_
                            refine j_istore_n C d_M_sum_149 rfl (by decide) rfl ?_
                            refine j_aload_n C d_M_sum_150 rfl rfl ?_
                            refine j_dup C d_M_sum_151 rfl ?_
                            refine jm_get C fl_6_129 d_M_sum_152 hmo rfl ?_
                            refine j_iconst (v := 1) C d_M_sum_155 (by decide) ?_
                            refine j_iadd C d_M_sum_156 ?_
                            refine jm_puti 19 C fp_6_129 d_M_sum_157 hmo (by decide) (by first | rfl | assumption) rfl rfl ?_
                            refine j_h (h' := (ovM mo (sp σ (skp (α 17) t (mfA (α 17) t ((skp (α 17) t (mfA (α 17) t a1)) + 1)) + 1) (-1)) (upa (upa (upa (upa α1 30 (upd (α1 30) (k + i) (mfV (α 17) t a1))) 32 (upd ((upa α1 30 (upd (α1 30) (k + i) (mfV (α 17) t a1))) 32) (k + i) (vp_nar .boolean 1))) 31 (upd ((upa (upa α1 30 (upd (α1 30) (k + i) (mfV (α 17) t a1))) 32 (upd ((upa α1 30 (upd (α1 30) (k + i) (mfV (α 17) t a1))) 32) (k + i) (vp_nar .boolean 1))) 31) (k + i) (mfV (α 17) t ((skp (α 17) t (mfA (α 17) t a1)) + 1)))) 29 (upd ((upa (upa (upa α1 30 (upd (α1 30) (k + i) (mfV (α 17) t a1))) 32 (upd ((upa α1 30 (upd (α1 30) (k + i) (mfV (α 17) t a1))) 32) (k + i) (vp_nar .boolean 1))) 31 (upd ((upa (upa α1 30 (upd (α1 30) (k + i) (mfV (α 17) t a1))) 32 (upd ((upa α1 30 (upd (α1 30) (k + i) (mfV (α 17) t a1))) 32) (k + i) (vp_nar .boolean 1))) 31) (k + i) (mfV (α 17) t ((skp (α 17) t (mfA (α 17) t a1)) + 1)))) 29) (k + i) how)) h)) (by rw [sp_i]) ?_
                            have ev : psum (α 17) t ((n9 + 1) + 1) how a1 = (psum (α 17) t (n9 + 1) 2 ((skp (α 17) t (mfA (α 17) t ((skp (α 17) t (mfA (α 17) t a1)) + 1))) + 1)).map (fun q => ((how, (mfV (α 17) t a1), some (mfV (α 17) t ((skp (α 17) t (mfA (α 17) t a1)) + 1))) :: q.1, q.2)) := by
                              conv =>
                                lhs
                                unfold psum
                              rw [if_pos hW1, if_pos c52, if_pos hW2, if_neg (by omega), if_neg c123, if_pos c132]
                            have hp9 : Pst α k (upa (upa (upa (upa α1 30 (upd (α1 30) (k + i) (mfV (α 17) t a1))) 32 (upd ((upa α1 30 (upd (α1 30) (k + i) (mfV (α 17) t a1))) 32) (k + i) (vp_nar .boolean 1))) 31 (upd ((upa (upa α1 30 (upd (α1 30) (k + i) (mfV (α 17) t a1))) 32 (upd ((upa α1 30 (upd (α1 30) (k + i) (mfV (α 17) t a1))) 32) (k + i) (vp_nar .boolean 1))) 31) (k + i) (mfV (α 17) t ((skp (α 17) t (mfA (α 17) t a1)) + 1)))) 29 (upd ((upa (upa (upa α1 30 (upd (α1 30) (k + i) (mfV (α 17) t a1))) 32 (upd ((upa α1 30 (upd (α1 30) (k + i) (mfV (α 17) t a1))) 32) (k + i) (vp_nar .boolean 1))) 31 (upd ((upa (upa α1 30 (upd (α1 30) (k + i) (mfV (α 17) t a1))) 32 (upd ((upa α1 30 (upd (α1 30) (k + i) (mfV (α 17) t a1))) 32) (k + i) (vp_nar .boolean 1))) 31) (k + i) (mfV (α 17) t ((skp (α 17) t (mfA (α 17) t a1)) + 1)))) 29) (k + i) how)) (ps ++ [(how, (mfV (α 17) t a1), some (mfV (α 17) t ((skp (α 17) t (mfA (α 17) t a1)) + 1)))]) := Pst_snocI hps hP rfl rfl rfl (fun j hj => by show upd _ _ _ j = _; rw [pk_un hj]; rfl) (fun y hy => by cases hy; exact pk_us)
                            refine j_iinc (v := nI (i + 1)) C d_M_sum_160 rfl (nI_inc i) (by decide) rfl ?_
                            refine j_goto (tgt := 4) C d_M_sum_163 (by decide) ?_
                            exact j_pick [0, 1, 2, 3] rfl (ih (i + 1) 2 ((skp (α 17) t (mfA (α 17) t ((skp (α 17) t (mfA (α 17) t a1)) + 1))) + 1) (upa (upa (upa (upa α1 30 (upd (α1 30) (k + i) (mfV (α 17) t a1))) 32 (upd ((upa α1 30 (upd (α1 30) (k + i) (mfV (α 17) t a1))) 32) (k + i) (vp_nar .boolean 1))) 31 (upd ((upa (upa α1 30 (upd (α1 30) (k + i) (mfV (α 17) t a1))) 32 (upd ((upa α1 30 (upd (α1 30) (k + i) (mfV (α 17) t a1))) 32) (k + i) (vp_nar .boolean 1))) 31) (k + i) (mfV (α 17) t ((skp (α 17) t (mfA (α 17) t a1)) + 1)))) 29 (upd ((upa (upa (upa α1 30 (upd (α1 30) (k + i) (mfV (α 17) t a1))) 32 (upd ((upa α1 30 (upd (α1 30) (k + i) (mfV (α 17) t a1))) 32) (k + i) (vp_nar .boolean 1))) 31 (upd ((upa (upa α1 30 (upd (α1 30) (k + i) (mfV (α 17) t a1))) 32 (upd ((upa α1 30 (upd (α1 30) (k + i) (mfV (α 17) t a1))) 32) (k + i) (vp_nar .boolean 1))) 31) (k + i) (mfV (α 17) t ((skp (α 17) t (mfA (α 17) t a1)) + 1)))) 29) (k + i) how)) (ps ++ [(how, (mfV (α 17) t a1), some (mfV (α 17) t ((skp (α 17) t (mfA (α 17) t a1)) + 1)))]) (by omega) (by rw [len_snoc]; omega) (by decide) (An_u (An_u (An_u (An_u hA (by decide) (by decide)) (by decide) (by decide)) (by decide) (by decide)) (by decide) (by decide)) (FRn_o (FRn_31 (FRn_o (FRn_30 hF m1.2.1) (by decide) (by decide)) m2.2.1) (by decide) (by decide)) hp9 (hr_lt2 c132 (by decide)) (by rw [← hv, ev, Option.map_map]; congr 1; funext q; simp))
                          · exact absurd (c132.symm.trans c141) (by decide)
  refine j_iconst (v := 1) C d_M_sum_0 (by decide) ?_
  refine j_istore_n C d_M_sum_1 rfl (by decide) rfl ?_
  refine j_iconst (v := 0) C d_M_sum_2 (by decide) ?_
  refine j_istore_n C d_M_sum_3 rfl (by decide) rfl ?_
  refine j_h (h' := (ovM mo (sp σ a (-1)) α h)) (by unfold sp; rw [upd_self h19, upd_self hw]) ?_
  exact j_pick [0, 1, 2, 3] rfl (loop 3 0 1 a α [] rfl rfl (by decide) (fun _ _ => rfl) hFn (Pst_nil α k) hat (by simp))

