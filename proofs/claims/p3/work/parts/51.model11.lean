/-! ===== contracts of the reference: number ===== -/
def nlp (g : Nat → Int32) (t : Nat) : Nat → Nat → Int32 → Nat × Int32 × Nat
  | 0, a, v => (a, v, 0)
  | k + 1, a, v => if inI (hr g t a) 48 57 = 0 then (a, v, k + 1) else if k = 4 then nlp g t k (a + 1) (10 * v + hr g t a - 48) else if v ≤ 0 then (a, v, k + 1) else nlp g t k (a + 1) (10 * v + hr g t a - 48)
/-- behind the digits: the answer, and the place if it is wrong -/
def ntl (g : Nat → Int32) (t a : Nat) (v : Int32) (d : Nat) (bd : Int32) : Int32 × Int32 :=
  if v ≤ bd then (if d = 5 then (if inI (hr g t a) 48 57 = 0 then (v, -1) else (0, nI a)) else (v, -1)) else (0, nI a - 1)
def mnum (g : Nat → Int32) (t a : Nat) (bd : Int32) : Nat × Int32 × Int32 :=
  if inI (hr g t (skp g t a)) 48 57 = 0 then (skp g t a, 0, nI (skp g t a)) else ((nlp g t 5 (skp g t a) 0).1, ntl g t (nlp g t 5 (skp g t a) 0).1 (nlp g t 5 (skp g t a) 0).2.1 (5 - (nlp g t 5 (skp g t a) 0).2.2) bd)
theorem skf_le (g : Nat → Int32) (t : Nat) : ∀ (k a : Nat), a + k ≤ t → skf g t k a ≤ t
  | 0, a, h => h
  | k + 1, a, h => by
    unfold skf
    split
    · exact skf_le g t k (a + 1) (by omega)
    · omega
theorem skp_le (g : Nat → Int32) {t a : Nat} (h : a ≤ t) : skp g t a ≤ t := skf_le g t (t - a) a (by omega)
theorem hr_lt {g : Nat → Int32} {t a : Nat} (h : ¬ inI (hr g t a) 48 57 = 0) : a < t := by
  apply Nat.not_le.mp
  intro q
  apply h
  unfold hr
  rw [if_pos q]
  decide
theorem nI5 {d : Nat} (hd : d ≤ 5) : nI d = 5 ↔ d = 5 := by
  rw [show (5 : Int32) = nI 5 from rfl, nI_eq (by omega) (by omega)]
theorem nI0 {d : Nat} (hd : d ≤ 5) : nI d = 0 ↔ d = 0 := by
  rw [show (0 : Int32) = nI 0 from rfl, nI_eq (by omega) (by omega)]
theorem nIp {a : Nat} (h : 1 ≤ a) (h2 : a ≤ 300) : (0 : Int32) ≤ nI a - 1 := by
  obtain ⟨c, rfl⟩ : ∃ c, a = c + 1 := ⟨a - 1, by omega⟩
  rw [nI_pred]
  exact nI_pos' (by omega)
set_option maxHeartbeats 4000000 in
set_option maxRecDepth 100000 in
theorem c_M_number {l : Launch} (hl : l.stackTraces = false) {D : va_G} {cA : Nat → ClassId} {b n mo : Nat} (bd : Int32) (σ : Nat → Int32) (α : Nat → Nat → Int32) (h : AH) (hmo : mo + 27 < n) (t a : Nat) (h16 : σ 16 = nI t) (h19 : σ 19 = nI a) (ht : t ≤ 300) (hat : a ≤ t) (hw : σ 20 = -1) (hb : 0 ≤ bd) : Cn l D cA b y_M_number k_M_number 2 26 0 0 [.ref mo, .int bd] n (ovM mo σ α h) (Re (some (.int (mnum (α 17) t a bd).2.1)) n (ovM mo (upd (upd σ 19 (nI (mnum (α 17) t a bd).1)) 20 (mnum (α 17) t a bd).2.2) α h)) := by
  refine Cn.of (cc := b_M_number) (maxL := 4) (ret := (some .int)) (hh := []) (by decide +kernel) hl (Or.inl ⟨rfl, rfl⟩) (Nat.le_of_ble_eq_true rfl) ?_
  intro p e s m args below meth c C
  have tail : ∀ (a1 k : Nat) (v : Int32), a1 ≤ t → 1 ≤ a1 → k ≤ 5 → (mnum (α 17) t a bd) = (a1, ntl (α 17) t a1 v (5 - k) bd) → J p l e { frames := 2, cells := 0, slots := 0, locals := 26 } s m args below meth c D cA b 4 (EndQ D cA b s below (Re (some (.int (mnum (α 17) t a bd).2.1)) n (ovM mo (upd (upd σ 19 (nI (mnum (α 17) t a bd).1)) 20 (mnum (α 17) t a bd).2.2) α h)) 0 0) n (ovM mo (upd σ 19 (nI a1)) α h) 0 0 80 [(3, .int (nI (5 - k))), (2, .int v), (0, .ref mo), (1, .int bd)] [] := by
    intro a1 k v hle1 h1 hk hq
    refine j_iload_n C d_M_number_80 rfl rfl ?_
    refine j_iload_n C d_M_number_81 rfl rfl ?_
    refine j_icmp_le (tgt := 95) C d_M_number_82 (by decide) (fun c82 => ?_) (fun c82 => ?_)
    · refine j_iload_n C d_M_number_95 rfl rfl ?_
      refine j_iconst (v := 5) C d_M_number_96 (by decide) ?_
      refine j_icmp_ne (tgt := 115) C d_M_number_97 (by decide) (fun c97 => ?_) (fun c97 => ?_)
      · refine j_aload_n C d_M_number_115 rfl rfl ?_
        refine jm_get C fl_6_136 d_M_number_116 hmo rfl ?_
        refine j_if_ge (tgt := 126) C d_M_number_119 (by decide) (fun c119 => ?_) (fun c119 => ?_)
        · exact absurd (show (0 : Int32) ≤ σ 20 from c119) (by rw [hw]; decide)
        · refine j_iload_n C d_M_number_122 rfl rfl ?_
          refine j_goto (tgt := 127) C d_M_number_123 (by decide) ?_
          have h97 : ¬ 5 - k = 5 := fun z => c97 ((nI5 (by omega)).mpr z)
          exact j_ireturn C d_M_number_127 rfl (by decide) (by decide) ⟨by rw [hq]; unfold ntl; simp only []; rw [if_pos c82, if_neg h97], rfl, by rw [hq]; unfold ntl; simp only []; rw [if_pos c82, if_neg h97]; first | rfl | (rw [(show upd (upd σ 19 (nI a1)) 20 (-1) = upd σ 19 (nI a1) from upd_self hw)])⟩
      · refine j_aload_n C d_M_number_100 rfl rfl ?_
        refine j_callV C d_M_number_101 ml_M_142 mc_M_isDigit in_M_isDigit rfl se_M_isDigit (by omega) (ovM_o _ _ _ _) (c_M_isDigit hl _ _ _ hmo t a1 h16 rfl ht hle1) rfl rfl (Nat.le_of_ble_eq_true rfl) (Nat.le_of_ble_eq_true rfl) (Nat.le_of_ble_eq_true rfl) (Nat.le_of_ble_eq_true rfl) (jk_r ?_)
        refine j_if_eq (tgt := 115) C d_M_number_104 (by decide) (fun c104 => ?_) (fun c104 => ?_)
        · refine j_aload_n C d_M_number_115 rfl rfl ?_
          refine jm_get C fl_6_136 d_M_number_116 hmo rfl ?_
          refine j_if_ge (tgt := 126) C d_M_number_119 (by decide) (fun c119 => ?_) (fun c119 => ?_)
          · exact absurd (show (0 : Int32) ≤ σ 20 from c119) (by rw [hw]; decide)
          · refine j_iload_n C d_M_number_122 rfl rfl ?_
            refine j_goto (tgt := 127) C d_M_number_123 (by decide) ?_
            have h97 : 5 - k = 5 := (nI5 (by omega)).mp c97
            exact j_ireturn C d_M_number_127 rfl (by decide) (by decide) ⟨by rw [hq]; unfold ntl; simp only []; rw [if_pos c82, if_pos h97, if_pos c104], rfl, by rw [hq]; unfold ntl; simp only []; rw [if_pos c82, if_pos h97, if_pos c104]; first | rfl | (rw [(show upd (upd σ 19 (nI a1)) 20 (-1) = upd σ 19 (nI a1) from upd_self hw)])⟩
        · refine j_aload_n C d_M_number_107 rfl rfl ?_
          refine j_aload_n C d_M_number_108 rfl rfl ?_
          refine jm_get C fl_6_129 d_M_number_109 hmo rfl ?_
          refine j_callV C d_M_number_112 ml_M_146 mc_M_fail in_M_fail rfl se_M_fail (by omega) (ovM_o _ _ _ _) (c_M_failN hl _ _ _ _ hmo (by show ¬ (0 : Int32) ≤ σ 20; rw [hw]; decide)) rfl rfl (Nat.le_of_ble_eq_true rfl) (Nat.le_of_ble_eq_true rfl) (Nat.le_of_ble_eq_true rfl) (Nat.le_of_ble_eq_true rfl) (jk_v ?_)
          refine j_aload_n C d_M_number_115 rfl rfl ?_
          refine jm_get C fl_6_136 d_M_number_116 hmo rfl ?_
          refine j_if_ge (tgt := 126) C d_M_number_119 (by decide) (fun c119 => ?_) (fun c119 => ?_)
          · refine j_iconst (v := 0) C d_M_number_126 (by decide) ?_
            have h97 : 5 - k = 5 := (nI5 (by omega)).mp c97
            exact j_ireturn C d_M_number_127 rfl (by decide) (by decide) ⟨by rw [hq]; unfold ntl; simp only []; rw [if_pos c82, if_pos h97, if_neg c104], rfl, by rw [hq]; unfold ntl; simp only []; rw [if_pos c82, if_pos h97, if_neg c104]; first | rfl | (rw [pk_us])⟩
          · exact absurd (show (0 : Int32) ≤ nI a1 from nI_pos' (by omega)) c119
    · refine j_aload_n C d_M_number_85 rfl rfl ?_
      refine j_aload_n C d_M_number_86 rfl rfl ?_
      refine jm_get C fl_6_129 d_M_number_87 hmo rfl ?_
      refine j_iconst (v := 1) C d_M_number_90 (by decide) ?_
      refine j_isub C d_M_number_91 ?_
      refine j_callV C d_M_number_92 ml_M_146 mc_M_fail in_M_fail rfl se_M_fail (by omega) (ovM_o _ _ _ _) (c_M_failN hl _ _ _ _ hmo (by show ¬ (0 : Int32) ≤ σ 20; rw [hw]; decide)) rfl rfl (Nat.le_of_ble_eq_true rfl) (Nat.le_of_ble_eq_true rfl) (Nat.le_of_ble_eq_true rfl) (Nat.le_of_ble_eq_true rfl) (jk_v ?_)
      refine j_iload_n C d_M_number_95 rfl rfl ?_
      refine j_iconst (v := 5) C d_M_number_96 (by decide) ?_
      refine j_icmp_ne (tgt := 115) C d_M_number_97 (by decide) (fun c97 => ?_) (fun c97 => ?_)
      · refine j_aload_n C d_M_number_115 rfl rfl ?_
        refine jm_get C fl_6_136 d_M_number_116 hmo rfl ?_
        refine j_if_ge (tgt := 126) C d_M_number_119 (by decide) (fun c119 => ?_) (fun c119 => ?_)
        · refine j_iconst (v := 0) C d_M_number_126 (by decide) ?_
          have h97 : ¬ 5 - k = 5 := fun z => c97 ((nI5 (by omega)).mpr z)
          exact j_ireturn C d_M_number_127 rfl (by decide) (by decide) ⟨by rw [hq]; unfold ntl; simp only []; rw [if_neg c82], rfl, by rw [hq]; unfold ntl; simp only []; rw [if_neg c82]; first | rfl | (rw [pk_us])⟩
        · exact absurd (show (0 : Int32) ≤ nI a1 - 1 from nIp h1 (by omega)) c119
      · refine j_aload_n C d_M_number_100 rfl rfl ?_
        refine j_callV C d_M_number_101 ml_M_142 mc_M_isDigit in_M_isDigit rfl se_M_isDigit (by omega) (ovM_o _ _ _ _) (c_M_isDigit hl _ _ _ hmo t a1 h16 rfl ht hle1) rfl rfl (Nat.le_of_ble_eq_true rfl) (Nat.le_of_ble_eq_true rfl) (Nat.le_of_ble_eq_true rfl) (Nat.le_of_ble_eq_true rfl) (jk_r ?_)
        refine j_if_eq (tgt := 115) C d_M_number_104 (by decide) (fun c104 => ?_) (fun c104 => ?_)
        · refine j_aload_n C d_M_number_115 rfl rfl ?_
          refine jm_get C fl_6_136 d_M_number_116 hmo rfl ?_
          refine j_if_ge (tgt := 126) C d_M_number_119 (by decide) (fun c119 => ?_) (fun c119 => ?_)
          · refine j_iconst (v := 0) C d_M_number_126 (by decide) ?_
            have h97 : 5 - k = 5 := (nI5 (by omega)).mp c97
            exact j_ireturn C d_M_number_127 rfl (by decide) (by decide) ⟨by rw [hq]; unfold ntl; simp only []; rw [if_neg c82], rfl, by rw [hq]; unfold ntl; simp only []; rw [if_neg c82]; first | rfl | (rw [pk_us])⟩
          · exact absurd (show (0 : Int32) ≤ nI a1 - 1 from nIp h1 (by omega)) c119
        · refine j_aload_n C d_M_number_107 rfl rfl ?_
          refine j_aload_n C d_M_number_108 rfl rfl ?_
          refine jm_get C fl_6_129 d_M_number_109 hmo rfl ?_
          refine j_callV C d_M_number_112 ml_M_146 mc_M_fail in_M_fail rfl se_M_fail (by omega) (ovM_o _ _ _ _) (c_M_failY hl _ _ _ _ hmo (show (0 : Int32) ≤ nI a1 - 1 from nIp h1 (by omega))) rfl rfl (Nat.le_of_ble_eq_true rfl) (Nat.le_of_ble_eq_true rfl) (Nat.le_of_ble_eq_true rfl) (Nat.le_of_ble_eq_true rfl) (jk_v ?_)
          refine j_aload_n C d_M_number_115 rfl rfl ?_
          refine jm_get C fl_6_136 d_M_number_116 hmo rfl ?_
          refine j_if_ge (tgt := 126) C d_M_number_119 (by decide) (fun c119 => ?_) (fun c119 => ?_)
          · refine j_iconst (v := 0) C d_M_number_126 (by decide) ?_
            have h97 : 5 - k = 5 := (nI5 (by omega)).mp c97
            exact j_ireturn C d_M_number_127 rfl (by decide) (by decide) ⟨by rw [hq]; unfold ntl; simp only []; rw [if_neg c82], rfl, by rw [hq]; unfold ntl; simp only []; rw [if_neg c82]; first | rfl | (rw [pk_us])⟩
          · exact absurd (show (0 : Int32) ≤ nI a1 - 1 from nIp h1 (by omega)) c119
  have loop : (mnum (α 17) t a bd) = ((nlp (α 17) t 5 (skp (α 17) t a) 0).1, ntl (α 17) t (nlp (α 17) t 5 (skp (α 17) t a) 0).1 (nlp (α 17) t 5 (skp (α 17) t a) 0).2.1 (5 - (nlp (α 17) t 5 (skp (α 17) t a) 0).2.2) bd) → ∀ (k a1 : Nat) (v : Int32), k ≤ 5 → a1 ≤ t → (k = 5 → ¬ inI (hr (α 17) t a1) 48 57 = 0) → (k < 5 → 1 ≤ a1) → nlp (α 17) t k a1 v = nlp (α 17) t 5 (skp (α 17) t a) 0 → J p l e { frames := 2, cells := 0, slots := 0, locals := 26 } s m args below meth c D cA b 4 (EndQ D cA b s below (Re (some (.int (mnum (α 17) t a bd).2.1)) n (ovM mo (upd (upd σ 19 (nI (mnum (α 17) t a bd).1)) 20 (mnum (α 17) t a bd).2.2) α h)) 0 0) n (ovM mo (upd σ 19 (nI a1)) α h) 0 0 24 [(3, .int (nI (5 - k))), (2, .int v), (0, .ref mo), (1, .int bd)] [] := by
    intro hm k
    induction k with
    | zero =>
      intro a1 v hk hle1 hk5 hk1 hv
      refine j_aload_n C d_M_number_24 rfl rfl ?_
      refine jm_get C fl_6_136 d_M_number_25 hmo rfl ?_
      refine j_if_ge (tgt := 80) C d_M_number_28 (by decide) (fun c28 => ?_) (fun c28 => ?_)
      · exact absurd (show (0 : Int32) ≤ σ 20 from c28) (by rw [hw]; decide)
      · refine j_aload_n C d_M_number_31 rfl rfl ?_
        refine j_callV C d_M_number_32 ml_M_142 mc_M_isDigit in_M_isDigit rfl se_M_isDigit (by omega) (ovM_o _ _ _ _) (c_M_isDigit hl _ _ _ hmo t a1 h16 rfl ht hle1) rfl rfl (Nat.le_of_ble_eq_true rfl) (Nat.le_of_ble_eq_true rfl) (Nat.le_of_ble_eq_true rfl) (Nat.le_of_ble_eq_true rfl) (jk_r ?_)
        refine j_if_eq (tgt := 80) C d_M_number_35 (by decide) (fun c35 => ?_) (fun c35 => ?_)
        · exact tail a1 0 v hle1 (hk1 (by omega)) (by omega) (by rw [hm, ← hv]; rfl)
        · refine j_iload_n C d_M_number_38 rfl rfl ?_
          refine j_iconst (v := 5) C d_M_number_39 (by decide) ?_
          refine j_icmp_ge (tgt := 80) C d_M_number_40 (by decide) (fun c40 => ?_) (fun c40 => ?_)
          · exact tail a1 0 v hle1 (hk1 (by omega)) (by omega) (by rw [hm, ← hv]; rfl)
          · exact absurd (by decide) c40
    | succ k ih =>
      intro a1 v hk hle1 hk5 hk1 hv
      refine j_aload_n C d_M_number_24 rfl rfl ?_
      refine jm_get C fl_6_136 d_M_number_25 hmo rfl ?_
      refine j_if_ge (tgt := 80) C d_M_number_28 (by decide) (fun c28 => ?_) (fun c28 => ?_)
      · exact absurd (show (0 : Int32) ≤ σ 20 from c28) (by rw [hw]; decide)
      · refine j_aload_n C d_M_number_31 rfl rfl ?_
        refine j_callV C d_M_number_32 ml_M_142 mc_M_isDigit in_M_isDigit rfl se_M_isDigit (by omega) (ovM_o _ _ _ _) (c_M_isDigit hl _ _ _ hmo t a1 h16 rfl ht hle1) rfl rfl (Nat.le_of_ble_eq_true rfl) (Nat.le_of_ble_eq_true rfl) (Nat.le_of_ble_eq_true rfl) (Nat.le_of_ble_eq_true rfl) (jk_r ?_)
        refine j_if_eq (tgt := 80) C d_M_number_35 (by decide) (fun c35 => ?_) (fun c35 => ?_)
        · by_cases h5 : k + 1 = 5
          · exact absurd c35 (hk5 h5)
          · exact tail a1 (k + 1) v hle1 (hk1 (by omega)) (by omega) (by rw [hm, ← hv]; unfold nlp; rw [if_pos c35])
        · refine j_iload_n C d_M_number_38 rfl rfl ?_
          refine j_iconst (v := 5) C d_M_number_39 (by decide) ?_
          refine j_icmp_ge (tgt := 80) C d_M_number_40 (by decide) (fun c40 => ?_) (fun c40 => ?_)
          · exact absurd (show nI 5 ≤ nI (5 - (k + 1)) from c40) (nI_ge (by omega) (by omega))
          · refine j_iload_n C d_M_number_43 rfl rfl ?_
            refine j_if_eq (tgt := 51) C d_M_number_44 (by decide) (fun c44 => ?_) (fun c44 => ?_)
            · refine j_bipush (v := 10) C d_M_number_51 (by decide) ?_
              refine j_iload_n C d_M_number_53 rfl rfl ?_
              refine j_imul C d_M_number_54 ?_
              refine j_aload_n C d_M_number_55 rfl rfl ?_
              refine j_callV C d_M_number_56 ml_M_132 mc_M_here in_M_here rfl se_M_here (by omega) (ovM_o _ _ _ _) (c_M_hereN hl _ _ _ hmo t a1 h16 rfl ht (by omega)) rfl rfl (Nat.le_of_ble_eq_true rfl) (Nat.le_of_ble_eq_true rfl) (Nat.le_of_ble_eq_true rfl) (Nat.le_of_ble_eq_true rfl) (jk_r ?_)
              refine j_iadd C d_M_number_59 ?_
              refine j_bipush (v := 48) C d_M_number_60 (by decide) ?_
              refine j_isub C d_M_number_62 ?_
              refine j_istore_n C d_M_number_63 rfl (by decide) rfl ?_
              refine j_iinc (v := nI (5 - k)) C d_M_number_64 rfl (by rw [nI_inc]; congr 1; omega) (by decide) rfl ?_
              refine j_aload_n C d_M_number_67 rfl rfl ?_
              refine j_dup C d_M_number_68 rfl ?_
              refine jm_get C fl_6_129 d_M_number_69 hmo rfl ?_
              refine j_iconst (v := 1) C d_M_number_72 (by decide) ?_
              refine j_iadd C d_M_number_73 ?_
              refine jm_puti 19 C fp_6_129 d_M_number_74 hmo (by decide) (by first | rfl | assumption) rfl rfl ?_
              have h4 : k = 4 := by have z := (nI0 (by omega)).mp c44; omega
              refine j_goto (tgt := 24) C d_M_number_77 (by decide) ?_
              exact j_h (by rw [upd_uu, pk_us, nI_1]) (j_pick [0, 1, 2, 3] rfl (ih (a1 + 1) (10 * v + hr (α 17) t a1 - 48) (by omega) (hr_lt c35) (fun z => absurd z (by omega)) (fun _ => by omega) (by rw [← hv]; show _ = (if inI (hr (α 17) t a1) 48 57 = 0 then (a1, v, k + 1) else if k = 4 then nlp (α 17) t k (a1 + 1) (10 * v + hr (α 17) t a1 - 48) else if v ≤ 0 then (a1, v, k + 1) else nlp (α 17) t k (a1 + 1) (10 * v + hr (α 17) t a1 - 48)); rw [if_neg c35, if_pos h4])))
            · refine j_iload_n C d_M_number_47 rfl rfl ?_
              refine j_if_le (tgt := 80) C d_M_number_48 (by decide) (fun c48 => ?_) (fun c48 => ?_)
              · have h4 : ¬ k = 4 := fun z => c44 ((nI0 (by omega)).mpr (by omega))
                exact tail a1 (k + 1) v hle1 (hk1 (by omega)) (by omega) (by rw [hm, ← hv]; unfold nlp; rw [if_neg c35, if_neg h4, if_pos c48])
              · refine j_bipush (v := 10) C d_M_number_51 (by decide) ?_
                refine j_iload_n C d_M_number_53 rfl rfl ?_
                refine j_imul C d_M_number_54 ?_
                refine j_aload_n C d_M_number_55 rfl rfl ?_
                refine j_callV C d_M_number_56 ml_M_132 mc_M_here in_M_here rfl se_M_here (by omega) (ovM_o _ _ _ _) (c_M_hereN hl _ _ _ hmo t a1 h16 rfl ht (by omega)) rfl rfl (Nat.le_of_ble_eq_true rfl) (Nat.le_of_ble_eq_true rfl) (Nat.le_of_ble_eq_true rfl) (Nat.le_of_ble_eq_true rfl) (jk_r ?_)
                refine j_iadd C d_M_number_59 ?_
                refine j_bipush (v := 48) C d_M_number_60 (by decide) ?_
                refine j_isub C d_M_number_62 ?_
                refine j_istore_n C d_M_number_63 rfl (by decide) rfl ?_
                refine j_iinc (v := nI (5 - k)) C d_M_number_64 rfl (by rw [nI_inc]; congr 1; omega) (by decide) rfl ?_
                refine j_aload_n C d_M_number_67 rfl rfl ?_
                refine j_dup C d_M_number_68 rfl ?_
                refine jm_get C fl_6_129 d_M_number_69 hmo rfl ?_
                refine j_iconst (v := 1) C d_M_number_72 (by decide) ?_
                refine j_iadd C d_M_number_73 ?_
                refine jm_puti 19 C fp_6_129 d_M_number_74 hmo (by decide) (by first | rfl | assumption) rfl rfl ?_
                have h4 : ¬ k = 4 := fun z => c44 ((nI0 (by omega)).mpr (by omega))
                refine j_goto (tgt := 24) C d_M_number_77 (by decide) ?_
                exact j_h (by rw [upd_uu, pk_us, nI_1]) (j_pick [0, 1, 2, 3] rfl (ih (a1 + 1) (10 * v + hr (α 17) t a1 - 48) (by omega) (hr_lt c35) (fun z => absurd z (by omega)) (fun _ => by omega) (by rw [← hv]; show _ = (if inI (hr (α 17) t a1) 48 57 = 0 then (a1, v, k + 1) else if k = 4 then nlp (α 17) t k (a1 + 1) (10 * v + hr (α 17) t a1 - 48) else if v ≤ 0 then (a1, v, k + 1) else nlp (α 17) t k (a1 + 1) (10 * v + hr (α 17) t a1 - 48)); rw [if_neg c35, if_neg h4, if_neg c48])))
  refine j_aload_n C d_M_number_0 rfl rfl ?_
  refine j_callV C d_M_number_1 ml_M_139 mc_M_see in_M_see rfl se_M_see (by omega) (ovM_o _ _ _ _) (c_M_see hl _ _ _ hmo t a h16 h19 ht hat) rfl rfl (Nat.le_of_ble_eq_true rfl) (Nat.le_of_ble_eq_true rfl) (Nat.le_of_ble_eq_true rfl) (Nat.le_of_ble_eq_true rfl) (jk_r ?_)
  refine j_pop C d_M_number_4 rfl ?_
  refine j_aload_n C d_M_number_5 rfl rfl ?_
  refine j_callV C d_M_number_6 ml_M_142 mc_M_isDigit in_M_isDigit rfl se_M_isDigit (by omega) (ovM_o _ _ _ _) (c_M_isDigit hl _ _ _ hmo t (skp (α 17) t a) h16 rfl ht (skp_le (α 17) hat)) rfl rfl (Nat.le_of_ble_eq_true rfl) (Nat.le_of_ble_eq_true rfl) (Nat.le_of_ble_eq_true rfl) (Nat.le_of_ble_eq_true rfl) (jk_r ?_)
  refine j_if_ne (tgt := 20) C d_M_number_9 (by decide) (fun c9 => ?_) (fun c9 => ?_)
  · refine j_iconst (v := 0) C d_M_number_20 (by decide) ?_
    refine j_istore_n C d_M_number_21 rfl (by decide) rfl ?_
    refine j_iconst (v := 0) C d_M_number_22 (by decide) ?_
    refine j_istore_n C d_M_number_23 rfl (by decide) rfl ?_
    exact j_pick [0, 1, 2, 3] rfl (loop (by unfold mnum; rw [if_neg c9]) 5 (skp (α 17) t a) 0 (by omega) (skp_le (α 17) hat) (fun _ => c9) (fun z => absurd z (by omega)) rfl)
  · refine j_aload_n C d_M_number_12 rfl rfl ?_
    refine j_aload_n C d_M_number_13 rfl rfl ?_
    refine jm_get C fl_6_129 d_M_number_14 hmo rfl ?_
    refine j_callV C d_M_number_17 ml_M_146 mc_M_fail in_M_fail rfl se_M_fail (by omega) (ovM_o _ _ _ _) (c_M_failN hl _ _ _ _ hmo (by show ¬ (0 : Int32) ≤ σ 20; rw [hw]; decide)) rfl rfl (Nat.le_of_ble_eq_true rfl) (Nat.le_of_ble_eq_true rfl) (Nat.le_of_ble_eq_true rfl) (Nat.le_of_ble_eq_true rfl) (jk_v ?_)
    refine j_iconst (v := 0) C d_M_number_20 (by decide) ?_
    refine j_istore_n C d_M_number_21 rfl (by decide) rfl ?_
    refine j_iconst (v := 0) C d_M_number_22 (by decide) ?_
    refine j_istore_n C d_M_number_23 rfl (by decide) rfl ?_
    skip
    refine j_aload_n C d_M_number_24 rfl rfl ?_
    refine jm_get C fl_6_136 d_M_number_25 hmo rfl ?_
    refine j_if_ge (tgt := 80) C d_M_number_28 (by decide) (fun c28 => ?_) (fun c28 => ?_)
    · refine j_iload_n C d_M_number_80 rfl rfl ?_
      refine j_iload_n C d_M_number_81 rfl rfl ?_
      refine j_icmp_le (tgt := 95) C d_M_number_82 (by decide) (fun c82 => ?_) (fun c82 => ?_)
      · refine j_iload_n C d_M_number_95 rfl rfl ?_
        refine j_iconst (v := 5) C d_M_number_96 (by decide) ?_
        refine j_icmp_ne (tgt := 115) C d_M_number_97 (by decide) (fun c97 => ?_) (fun c97 => ?_)
        · refine j_aload_n C d_M_number_115 rfl rfl ?_
          refine jm_get C fl_6_136 d_M_number_116 hmo rfl ?_
          refine j_if_ge (tgt := 126) C d_M_number_119 (by decide) (fun c119 => ?_) (fun c119 => ?_)
          · refine j_iconst (v := 0) C d_M_number_126 (by decide) ?_
            exact j_ireturn C d_M_number_127 rfl (by decide) (by decide) ⟨by unfold mnum; rw [if_pos c9], rfl, by unfold mnum; rw [if_pos c9]; rfl⟩
          · exact absurd (show (0 : Int32) ≤ nI (skp (α 17) t a) from nI_pos' (by have z := skp_le (α 17) hat; omega)) c119
        · exact absurd c97 (by decide)
      · exact absurd hb c82
    · exact absurd (show (0 : Int32) ≤ nI (skp (α 17) t a) from nI_pos' (by have z := skp_le (α 17) hat; omega)) c28

