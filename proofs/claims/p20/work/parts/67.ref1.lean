/-! ===== the reference: indices as numbers; count, edition: printed by program ===== -/
section JMn
variable {p : Program} {l : Launch} {e : Env} {R : Room} {s : State} {m : MethodId} {args : Array Value} {below : List Frame} {meth : Method} {c : Code} {D : va_G} {cA : Nat → ClassId} {b nL : Nat} {Q : State → Prop} {n : Nat} {h : AH} {kc ks pc : Nat} {L : List (Nat × Value)} {st : List Value} {mn : String} {cc : ByteArray} {ret : Option FieldType} {hh : List (Nat × Nat × Nat × Nat)} {mo : Nat} {σ σ' : Nat → Int32} {α α' : Nat → Nat → Int32}

theorem jm_ialdn (C : Cx p l s m meth c D cA b nL cR6 mn cc ret hh) (o j : Nat) {N : Nat} {f : Nat → Int32} {i : Int32} (hd : decode cc pc = .ok (.iaload, 1)) (ho : o < 27) (hx : (mar α)[o]? = some (.inl (0, N, .inl f))) (hmo : mo + 27 < n) (hij : i = nI j) (hj : j < N) (hN : N < 2 ^ 31) (kk : J p l e R s m args below meth c D cA b nL Q n (ovM mo σ α h) kc ks (pc + 1) L (.int (f j) :: st)) : J p l e R s m args below meth c D cA b nL Q n (ovM mo σ α h) kc ks pc L (.int i :: .ref (mo + (o + 1)) :: st) := by
  subst hij
  exact jm_iald C o hd ho hx hmo (vp_in_nI hj hN) (by rw [nI_clamp (by omega)]) kk
theorem jm_zaldn (C : Cx p l s m meth c D cA b nL cR6 mn cc ret hh) (o j : Nat) {N : Nat} {f : Nat → Int32} {i : Int32} (hd : decode cc pc = .ok (.baload, 1)) (ho : o < 27) (hx : (mar α)[o]? = some (.inl (2, N, .inl f))) (hmo : mo + 27 < n) (hij : i = nI j) (hj : j < N) (hN : N < 2 ^ 31) (kk : J p l e R s m args below meth c D cA b nL Q n (ovM mo σ α h) kc ks (pc + 1) L (.int (f j) :: st)) : J p l e R s m args below meth c D cA b nL Q n (ovM mo σ α h) kc ks pc L (.int i :: .ref (mo + (o + 1)) :: st) := by
  subst hij
  exact jm_zald C o hd ho hx hmo (vp_in_nI hj hN) (by rw [nI_clamp (by omega)]) kk
theorem jm_iastn (C : Cx p l s m meth c D cA b nL cR6 mn cc ret hh) (o k j : Nat) {N : Nat} {i x : Int32} (hd : decode cc pc = .ok (.iastore, 1)) (ho : o < 27) (hx : (mar α)[o]? = some (.inl (0, N, .inl (α k)))) (hmo : mo + 27 < n) (hij : i = nI j) (hj : j < N) (hN : N < 2 ^ 31) (hα : (mar α).set o (.inl (0, N, .inl (upd (α k) j x))) = mar (upa α k (upd (α k) j x))) (kk : J p l e R s m args below meth c D cA b nL Q n (ovM mo σ (upa α k (upd (α k) j x)) h) kc ks (pc + 1) L st) : J p l e R s m args below meth c D cA b nL Q n (ovM mo σ α h) kc ks pc L (.int x :: .int i :: .ref (mo + (o + 1)) :: st) := by
  subst hij
  exact jm_iast C o hd ho hx hmo (vp_in_nI hj hN) (by rw [nI_clamp (by omega)]) hα kk
theorem jm_zastn (C : Cx p l s m meth c D cA b nL cR6 mn cc ret hh) (o k j : Nat) {N : Nat} {i x : Int32} (hd : decode cc pc = .ok (.bastore, 1)) (ho : o < 27) (hx : (mar α)[o]? = some (.inl (2, N, .inl (α k)))) (hmo : mo + 27 < n) (hij : i = nI j) (hj : j < N) (hN : N < 2 ^ 31) (hα : (mar α).set o (.inl (2, N, .inl (upd (α k) j (vp_nar .boolean x)))) = mar (upa α k (upd (α k) j (vp_nar .boolean x)))) (kk : J p l e R s m args below meth c D cA b nL Q n (ovM mo σ (upa α k (upd (α k) j (vp_nar .boolean x))) h) kc ks (pc + 1) L st) : J p l e R s m args below meth c D cA b nL Q n (ovM mo σ α h) kc ks pc L (.int x :: .int i :: .ref (mo + (o + 1)) :: st) := by
  subst hij
  exact jm_zast C o hd ho hx hmo (vp_in_nI hj hN) (by rw [nI_clamp (by omega)]) hα kk
end JMn
/-- one more, if report r is signed by three, has no open field, and its field f is between lo and hi -/
def mcs (α : Nat → Nat → Int32) (f : Nat) (lo hi : Int32) (r : Nat) (c : Int32) : Int32 := if α 8 r = 3 then (if opn (α 12) (20 * r) 20 0 0 = 0 then (if α 10 (20 * r + f) = 0 then c else if inI (α 13 (20 * r + f)) lo hi = 0 then c else c + 1) else c) else c
def mcn (α : Nat → Nat → Int32) (f : Nat) (lo hi : Int32) : Nat → Nat → Int32 → Int32
  | 0, _, c => c
  | k + 1, r, c => mcn α f lo hi k (r + 1) (mcs α f lo hi r c)
set_option maxHeartbeats 4000000 in
set_option maxRecDepth 100000 in
theorem c_M_count_r {l : Launch} (hl : l.stackTraces = false) {D : va_G} {cA : Nat → ClassId} {b n mo : Nat} (f : Nat) (lo hi : Int32) (σ : Nat → Int32) (α : Nat → Nat → Int32) (h : AH) (hmo : mo + 27 < n) (nr : Nat) (hnr : σ 2 = nI nr) (hle : nr ≤ 30) (hf : f < 20) (hk : lo ≤ hi) : Cn l D cA b y_M_count k_M_count 2 27 0 0 [.ref mo, .int (nI f), .int lo, .int hi] n (ovM mo σ α h) (Re (some (.int (mcn α f lo hi nr 0 0))) n (ovM mo (upd σ 0 0) α h)) := by
  refine Cn.of (cc := b_M_count) (maxL := 6) (ret := (some .int)) (hh := []) (by decide +kernel) hl (Or.inl ⟨rfl, rfl⟩) (Nat.le_of_ble_eq_true rfl) ?_
  intro p e s m args below meth c C
  have loop : ∀ (k r : Nat) (c0 : Int32), r + k = nr → mcn α f lo hi k r c0 = mcn α f lo hi nr 0 0 → J p l e { frames := 2, cells := 0, slots := 0, locals := 27 } s m args below meth c D cA b 6 (EndQ D cA b s below (Re (some (.int (mcn α f lo hi nr 0 0))) n (ovM mo (upd σ 0 0) α h)) 0 0) n (ovM mo (upd σ 0 0) α h) 0 0 30 [(5, .int (nI r)), (4, .int c0), (0, .ref mo), (1, .int (nI f)), (2, .int lo), (3, .int hi)] [] := by
    intro k
    induction k with
    | zero =>
      intro r c0 hr hv
      obtain rfl : r = nr := by omega
      refine j_iload C d_M_count_30 rfl ?_
      refine j_aload_n C d_M_count_32 rfl rfl ?_
      refine jm_get C fl_6_99 d_M_count_33 hmo rfl ?_
      refine j_icmp_ge (tgt := 103) C d_M_count_36 (by decide) (fun c36 => ?_) (fun c36 => ?_)
      · refine j_iload C d_M_count_103 rfl ?_
        exact j_ireturn C d_M_count_105 rfl (by decide) (by decide) ⟨by rw [← hv]; rfl, rfl, rfl⟩
      · exact absurd (show σ 2 ≤ nI r by rw [hnr]; exact nI_le (Nat.le_refl _) (by omega)) c36
    | succ k ih =>
      intro r c0 hr hv
      refine j_iload C d_M_count_30 rfl ?_
      refine j_aload_n C d_M_count_32 rfl rfl ?_
      refine jm_get C fl_6_99 d_M_count_33 hmo rfl ?_
      refine j_icmp_ge (tgt := 103) C d_M_count_36 (by decide) (fun c36 => ?_) (fun c36 => ?_)
      · exact absurd (show σ 2 ≤ nI r from c36) (by rw [hnr]; exact nI_ge (by omega) (by omega))
      · refine j_aload_n C d_M_count_39 rfl rfl ?_
        refine jm_get C fl_6_25 d_M_count_40 hmo rfl ?_
        refine j_iload C d_M_count_43 rfl ?_
        refine jm_ialdn C 5 (r) d_M_count_45 (by decide) rfl hmo rfl (by omega) (by omega) ?_
        refine j_iconst (v := 3) C d_M_count_46 (by decide) ?_
        refine j_icmp_ne (tgt := 97) C d_M_count_47 (by decide) (fun c47 => ?_) (fun c47 => ?_)
        · refine j_iinc (v := nI (r + 1)) C d_M_count_97 rfl (nI_inc r) (by decide) rfl ?_
          refine j_goto (tgt := 30) C d_M_count_100 (by decide) ?_
          exact j_pick [0, 1, 2, 3, 4, 5] rfl (ih (r + 1) c0 (by omega) (by rw [← hv]; show _ = mcn α f lo hi k (r + 1) (mcs α f lo hi r c0); unfold mcs; rw [if_neg c47]))
        · refine j_aload_n C d_M_count_50 rfl rfl ?_
          refine j_iload C d_M_count_51 rfl ?_
          refine j_callV C d_M_count_53 ml_M_197 mc_M_opened in_M_opened rfl se_M_opened (by omega) (ovM_o _ _ _ _) (c_M_opened hl r _ _ _ hmo (by omega)) rfl rfl (Nat.le_of_ble_eq_true rfl) (Nat.le_of_ble_eq_true rfl) (Nat.le_of_ble_eq_true rfl) (Nat.le_of_ble_eq_true rfl) (jk_r ?_)
          refine j_if_ne (tgt := 97) C d_M_count_56 (by decide) (fun c56 => ?_) (fun c56 => ?_)
          · refine j_iinc (v := nI (r + 1)) C d_M_count_97 rfl (nI_inc r) (by decide) rfl ?_
            refine j_goto (tgt := 30) C d_M_count_100 (by decide) ?_
            exact j_pick [0, 1, 2, 3, 4, 5] rfl (ih (r + 1) c0 (by omega) (by rw [← hv]; show _ = mcn α f lo hi k (r + 1) (mcs α f lo hi r c0); unfold mcs; rw [if_pos c47, if_neg c56]))
          · refine j_aload_n C d_M_count_59 rfl rfl ?_
            refine jm_get C fl_6_31 d_M_count_60 hmo rfl ?_
            refine j_bipush (v := 20) C d_M_count_63 (by decide) ?_
            refine j_iload C d_M_count_65 rfl ?_
            refine j_imul C d_M_count_67 ?_
            refine j_iload_n C d_M_count_68 rfl rfl ?_
            refine j_iadd C d_M_count_69 ?_
            refine jm_zaldn C 7 (20 * r + f) d_M_count_70 (by decide) rfl hmo (e20 r f) (by omega) (by omega) ?_
            refine j_if_eq (tgt := 97) C d_M_count_71 (by decide) (fun c71 => ?_) (fun c71 => ?_)
            · refine j_iinc (v := nI (r + 1)) C d_M_count_97 rfl (nI_inc r) (by decide) rfl ?_
              refine j_goto (tgt := 30) C d_M_count_100 (by decide) ?_
              exact j_pick [0, 1, 2, 3, 4, 5] rfl (ih (r + 1) c0 (by omega) (by rw [← hv]; show _ = mcn α f lo hi k (r + 1) (mcs α f lo hi r c0); unfold mcs; rw [if_pos c47, if_pos c56, if_pos c71]))
            · refine j_aload_n C d_M_count_74 rfl rfl ?_
              refine jm_get C fl_6_41 d_M_count_75 hmo rfl ?_
              refine j_bipush (v := 20) C d_M_count_78 (by decide) ?_
              refine j_iload C d_M_count_80 rfl ?_
              refine j_imul C d_M_count_82 ?_
              refine j_iload_n C d_M_count_83 rfl rfl ?_
              refine j_iadd C d_M_count_84 ?_
              refine jm_ialdn C 10 (20 * r + f) d_M_count_85 (by decide) rfl hmo (e20 r f) (by omega) (by omega) ?_
              refine j_iload_n C d_M_count_86 rfl rfl ?_
              refine j_iload_n C d_M_count_87 rfl rfl ?_
              refine j_callS C d_M_count_88 ml_M_102 mc_M_in st_M_in (c_M_in hl _ _ _ _) rfl rfl (Nat.le_of_ble_eq_true rfl) (Nat.le_of_ble_eq_true rfl) (Nat.le_of_ble_eq_true rfl) (Nat.le_of_ble_eq_true rfl) (jk_r ?_)
              refine j_if_eq (tgt := 97) C d_M_count_91 (by decide) (fun c91 => ?_) (fun c91 => ?_)
              · refine j_iinc (v := nI (r + 1)) C d_M_count_97 rfl (nI_inc r) (by decide) rfl ?_
                refine j_goto (tgt := 30) C d_M_count_100 (by decide) ?_
                exact j_pick [0, 1, 2, 3, 4, 5] rfl (ih (r + 1) c0 (by omega) (by rw [← hv]; show _ = mcn α f lo hi k (r + 1) (mcs α f lo hi r c0); unfold mcs; rw [if_pos c47, if_pos c56, if_neg c71, if_pos c91]))
              · refine j_iinc (v := c0 + 1) C d_M_count_94 rfl rfl (by decide) rfl ?_
                refine j_iinc (v := nI (r + 1)) C d_M_count_97 rfl (nI_inc r) (by decide) rfl ?_
                refine j_goto (tgt := 30) C d_M_count_100 (by decide) ?_
                exact j_pick [0, 1, 2, 3, 4, 5] rfl (ih (r + 1) (c0 + 1) (by omega) (by rw [← hv]; show _ = mcn α f lo hi k (r + 1) (mcs α f lo hi r c0); unfold mcs; rw [if_pos c47, if_pos c56, if_neg c71, if_neg c91]))
  refine j_aload_n C d_M_count_0 rfl rfl ?_
  refine j_iload_n C d_M_count_1 rfl rfl ?_
  refine j_callS C d_M_count_2 ml_M_117 mc_M_isField st_M_isField (c_M_isFieldK hl _ _ (in_ok (nI_pos (by omega)) (nI_le (b := 19) (by omega) (by omega)))) rfl rfl (Nat.le_of_ble_eq_true rfl) (Nat.le_of_ble_eq_true rfl) (Nat.le_of_ble_eq_true rfl) (Nat.le_of_ble_eq_true rfl) (jk_r ?_)
  refine j_iload_n C d_M_count_5 rfl rfl ?_
  refine j_iload_n C d_M_count_6 rfl rfl ?_
  refine j_icmp_gt (tgt := 14) C d_M_count_7 (by decide) (fun c7 => ?_) (fun c7 => ?_)
  · exact absurd hk (Int32.not_le.mpr c7)
  · refine j_iconst (v := 1) C d_M_count_10 (by decide) ?_
    refine j_goto (tgt := 15) C d_M_count_11 (by decide) ?_
    refine j_iconst (v := 1) C d_M_count_15 (by decide) ?_
    refine j_callV C d_M_count_16 ml_M_109 mc_M_goes in_M_goes rfl se_M_goes (by omega) (ovM_o _ _ _ _) (c_M_goesK hl _ _ _ _ _ _ hmo (gs_0 (by decide) (by decide) (by decide))) rfl rfl (Nat.le_of_ble_eq_true rfl) (Nat.le_of_ble_eq_true rfl) (Nat.le_of_ble_eq_true rfl) (Nat.le_of_ble_eq_true rfl) (jk_r ?_)
    refine j_if_ne (tgt := 24) C d_M_count_19 (by decide) (fun c19 => ?_) (fun c19 => ?_)
    · refine j_iconst (v := 0) C d_M_count_24 (by decide) ?_
      refine j_istore C d_M_count_25 (by decide) rfl ?_
      refine j_iconst (v := 0) C d_M_count_27 (by decide) ?_
      refine j_istore C d_M_count_28 (by decide) rfl ?_
      exact j_pick [0, 1, 2, 3, 4, 5] rfl (loop nr 0 0 (by omega) rfl)
    · exact absurd c19 (by decide)

/-- the first k fields of report r copied to report d -/
def cpf (g : Nat → Int32) (d r k : Nat) : Nat → Int32 := fun j => if 20 * d ≤ j ∧ j < 20 * d + k then g (20 * r + (j - 20 * d)) else g j
theorem cpf_0 (g : Nat → Int32) (d r : Nat) : cpf g d r 0 = g := by
  funext j
  unfold cpf
  rw [if_neg (by omega)]
theorem cpf_r {g : Nat → Int32} {d r k i : Nat} (h : r < d) (hi : i < 20) : cpf g d r k (20 * r + i) = g (20 * r + i) := by
  unfold cpf
  rw [if_neg (by omega)]
theorem cpf_s (g : Nat → Int32) (d r k : Nat) : upd (cpf g d r k) (20 * d + k) (g (20 * r + k)) = cpf g d r (k + 1) := by
  funext j
  by_cases e : j = 20 * d + k
  · subst e
    rw [pk_us]
    unfold cpf
    rw [if_pos (by omega), show 20 * d + k - 20 * d = k by omega]
  · rw [pk_un e]
    unfold cpf
    by_cases e2 : 20 * d ≤ j ∧ j < 20 * d + k
    · rw [if_pos e2, if_pos (by omega)]
    · rw [if_neg e2, if_neg (by omega)]
def med (α : Nat → Nat → Int32) (d r k : Nat) : Nat → Nat → Int32 := upa (upa (upa α 10 (cpf (α 10) d r k)) 11 (cpf (α 11) d r k)) 13 (cpf (α 13) d r k)
theorem med_0 (α : Nat → Nat → Int32) (d r : Nat) : med α d r 0 = α := by
  unfold med
  rw [cpf_0, cpf_0, cpf_0, upa_self rfl, upa_self rfl, upa_self rfl]
theorem med_s (α : Nat → Nat → Int32) (d r k : Nat) : upa (upa (upa (med α d r k) 10 (cpf (α 10) d r (k + 1))) 11 (cpf (α 11) d r (k + 1))) 13 (cpf (α 13) d r (k + 1)) = med α d r (k + 1) := by
  funext i
  unfold med upa
  by_cases e1 : i = 13
  · simp only [if_pos e1]
  · by_cases e2 : i = 11
    · simp only [if_neg e1, if_pos e2]
    · by_cases e3 : i = 10
      · simp only [if_neg e1, if_neg e2, if_pos e3]
      · simp only [if_neg e1, if_neg e2, if_neg e3]
theorem c_M_isReportK {l : Launch} (hl : l.stackTraces = false) {D : va_G} {cA : Nat → ClassId} {b n mo : Nat} (x : Int32) (σ : Nat → Int32) (α : Nat → Nat → Int32) (h : AH) (hmo : mo + 27 < n) {w : Int32} (hx : inI x 0 (σ 2 - 1) = w) : Cn l D cA b y_M_isReport k_M_isReport 1 14 0 0 [.ref mo, .int x] n (ovM mo σ α h) (Re (some (.int w)) n (ovM mo σ α h)) := by
  subst hx
  exact c_M_isReport hl x σ α h hmo
theorem in_rep {t : Int32} {nr r : Nat} (hnr : t = nI nr) (hle : nr ≤ 30) (hr : r < nr) : inI (nI r) 0 (t - 1) = 1 := by
  obtain ⟨c, rfl⟩ : ∃ c, nr = c + 1 := ⟨nr - 1, by omega⟩
  rw [hnr, nI_pred]
  exact in_ok (nI_pos (by omega)) (nI_le (by omega) (by omega))
set_option maxHeartbeats 4000000 in
set_option maxRecDepth 100000 in
theorem c_M_edition_r {l : Launch} (hl : l.stackTraces = false) {D : va_G} {cA : Nat → ClassId} {b n mo : Nat} (r : Nat) (σ : Nat → Int32) (α : Nat → Nat → Int32) (h : AH) (hmo : mo + 27 < n) (nr : Nat) (hnr : σ 2 = nI nr) (hle : nr ≤ 29) (hr : r < nr) (h8 : α 8 r = 3) (h10 : ∀ j, vp_nar .boolean (α 10 j) = α 10 j) (h11 : ∀ j, vp_nar .boolean (α 11 j) = α 11 j) : Cn l D cA b y_M_edition k_M_edition 2 29 0 0 [.ref mo, .int (nI r)] n (ovM mo σ α h) (Re (some (.int (nI nr))) n (ovM mo (mmakes (upd σ 0 0) α (α 3 r) (α 4 r) (nI r)).1 (med (mmakes (upd σ 0 0) α (α 3 r) (α 4 r) (nI r)).2 nr r 20) h)) := by
  refine Cn.of (cc := b_M_edition) (maxL := 4) (ret := (some .int)) (hh := []) (by decide +kernel) hl (Or.inl ⟨rfl, rfl⟩) (Nat.le_of_ble_eq_true rfl) ?_
  intro p e s m args below meth c C
  have z10 : ∀ j, vp_nar .boolean ((mmakes (upd σ 0 0) α (α 3 r) (α 4 r) (nI r)).2 10 j) = (mmakes (upd σ 0 0) α (α 3 r) (α 4 r) (nI r)).2 10 j := fun j => h10 j
  have z11 : ∀ j, vp_nar .boolean ((mmakes (upd σ 0 0) α (α 3 r) (α 4 r) (nI r)).2 11 j) = (mmakes (upd σ 0 0) α (α 3 r) (α 4 r) (nI r)).2 11 j := fun j => h11 j
  have loop : ∀ (m9 k : Nat), k + m9 = 20 → J p l e { frames := 2, cells := 0, slots := 0, locals := 29 } s m args below meth c D cA b 4 (EndQ D cA b s below (Re (some (.int (nI nr))) n (ovM mo (mmakes (upd σ 0 0) α (α 3 r) (α 4 r) (nI r)).1 (med (mmakes (upd σ 0 0) α (α 3 r) (α 4 r) (nI r)).2 nr r 20) h)) 0 0) n (ovM mo (mmakes (upd σ 0 0) α (α 3 r) (α 4 r) (nI r)).1 (med (mmakes (upd σ 0 0) α (α 3 r) (α 4 r) (nI r)).2 nr r k) h) 0 0 71 [(3, .int (nI k)), (2, .int (nI nr)), (0, .ref mo), (1, .int (nI r))] [] := by
    intro m9
    induction m9 with
    | zero =>
      intro k hk
      obtain rfl : k = 20 := by omega
      refine j_iload_n C d_M_edition_71 rfl rfl ?_
      refine j_bipush (v := 20) C d_M_edition_72 (by decide) ?_
      refine j_icmp_ge (tgt := 149) C d_M_edition_74 (by decide) (fun c74 => ?_) (fun c74 => ?_)
      · refine j_iload_n C d_M_edition_149 rfl rfl ?_
        exact j_ireturn C d_M_edition_150 rfl (by decide) (by decide) ⟨rfl, rfl, rfl⟩
      · exact absurd (by decide) c74
    | succ m9 ih =>
      intro k hk
      refine j_iload_n C d_M_edition_71 rfl rfl ?_
      refine j_bipush (v := 20) C d_M_edition_72 (by decide) ?_
      refine j_icmp_ge (tgt := 149) C d_M_edition_74 (by decide) (fun c74 => ?_) (fun c74 => ?_)
      · exact absurd (show nI 20 ≤ nI k from c74) (nI_ge (by omega) (by omega))
      · refine j_aload_n C d_M_edition_77 rfl rfl ?_
        refine jm_get C fl_6_31 d_M_edition_78 hmo rfl ?_
        refine j_bipush (v := 20) C d_M_edition_81 (by decide) ?_
        refine j_iload_n C d_M_edition_83 rfl rfl ?_
        refine j_imul C d_M_edition_84 ?_
        refine j_iload_n C d_M_edition_85 rfl rfl ?_
        refine j_iadd C d_M_edition_86 ?_
        refine j_aload_n C d_M_edition_87 rfl rfl ?_
        refine jm_get C fl_6_31 d_M_edition_88 hmo rfl ?_
        refine j_bipush (v := 20) C d_M_edition_91 (by decide) ?_
        refine j_iload_n C d_M_edition_93 rfl rfl ?_
        refine j_imul C d_M_edition_94 ?_
        refine j_iload_n C d_M_edition_95 rfl rfl ?_
        refine j_iadd C d_M_edition_96 ?_
        refine jm_zaldn C 7 (20 * r + k) d_M_edition_97 (by decide) rfl hmo (e20 r k) (by omega) (by omega) ?_
        refine jm_zastn C 7 10 (20 * nr + k) d_M_edition_98 (by decide) rfl hmo (e20 nr k) (by omega) (by omega) rfl ?_
        refine j_aload_n C d_M_edition_99 rfl rfl ?_
        refine jm_get C fl_6_35 d_M_edition_100 hmo rfl ?_
        refine j_bipush (v := 20) C d_M_edition_103 (by decide) ?_
        refine j_iload_n C d_M_edition_105 rfl rfl ?_
        refine j_imul C d_M_edition_106 ?_
        refine j_iload_n C d_M_edition_107 rfl rfl ?_
        refine j_iadd C d_M_edition_108 ?_
        refine j_aload_n C d_M_edition_109 rfl rfl ?_
        refine jm_get C fl_6_35 d_M_edition_110 hmo rfl ?_
        refine j_bipush (v := 20) C d_M_edition_113 (by decide) ?_
        refine j_iload_n C d_M_edition_115 rfl rfl ?_
        refine j_imul C d_M_edition_116 ?_
        refine j_iload_n C d_M_edition_117 rfl rfl ?_
        refine j_iadd C d_M_edition_118 ?_
        refine jm_zaldn C 8 (20 * r + k) d_M_edition_119 (by decide) rfl hmo (e20 r k) (by omega) (by omega) ?_
        refine jm_zastn C 8 11 (20 * nr + k) d_M_edition_120 (by decide) rfl hmo (e20 nr k) (by omega) (by omega) rfl ?_
        refine j_aload_n C d_M_edition_121 rfl rfl ?_
        refine jm_get C fl_6_41 d_M_edition_122 hmo rfl ?_
        refine j_bipush (v := 20) C d_M_edition_125 (by decide) ?_
        refine j_iload_n C d_M_edition_127 rfl rfl ?_
        refine j_imul C d_M_edition_128 ?_
        refine j_iload_n C d_M_edition_129 rfl rfl ?_
        refine j_iadd C d_M_edition_130 ?_
        refine j_aload_n C d_M_edition_131 rfl rfl ?_
        refine jm_get C fl_6_41 d_M_edition_132 hmo rfl ?_
        refine j_bipush (v := 20) C d_M_edition_135 (by decide) ?_
        refine j_iload_n C d_M_edition_137 rfl rfl ?_
        refine j_imul C d_M_edition_138 ?_
        refine j_iload_n C d_M_edition_139 rfl rfl ?_
        refine j_iadd C d_M_edition_140 ?_
        refine jm_ialdn C 10 (20 * r + k) d_M_edition_141 (by decide) rfl hmo (e20 r k) (by omega) (by omega) ?_
        refine jm_iastn C 10 13 (20 * nr + k) d_M_edition_142 (by decide) rfl hmo (e20 nr k) (by omega) (by omega) rfl ?_
        refine j_iinc (v := nI (k + 1)) C d_M_edition_143 rfl (nI_inc k) (by decide) rfl ?_
        refine j_goto (tgt := 71) C d_M_edition_146 (by decide) ?_
        exact j_h (by rw [← med_s, ← cpf_s, ← cpf_s, ← cpf_s]; rw [show med (mmakes (upd σ 0 0) α (α 3 r) (α 4 r) (nI r)).2 nr r k 10 = cpf ((mmakes (upd σ 0 0) α (α 3 r) (α 4 r) (nI r)).2 10) nr r k from rfl, cpf_r hr (by omega), z10]; rw [show upa (med (mmakes (upd σ 0 0) α (α 3 r) (α 4 r) (nI r)).2 nr r k) 10 _ 11 = cpf ((mmakes (upd σ 0 0) α (α 3 r) (α 4 r) (nI r)).2 11) nr r k from rfl, cpf_r hr (by omega), z11]; rw [show upa (upa (med (mmakes (upd σ 0 0) α (α 3 r) (α 4 r) (nI r)).2 nr r k) 10 _) 11 _ 13 = cpf ((mmakes (upd σ 0 0) α (α 3 r) (α 4 r) (nI r)).2 13) nr r k from rfl, cpf_r hr (by omega)]) (j_pick [0, 1, 2, 3] rfl (ih (k + 1) (by omega)))
  refine j_aload_n C d_M_edition_0 rfl rfl ?_
  refine j_aload_n C d_M_edition_1 rfl rfl ?_
  refine j_iload_n C d_M_edition_2 rfl rfl ?_
  refine j_callV C d_M_edition_3 ml_M_121 mc_M_isReport in_M_isReport rfl se_M_isReport (by omega) (ovM_o _ _ _ _) (c_M_isReportK hl _ _ _ _ hmo (in_rep hnr (by omega) hr)) rfl rfl (Nat.le_of_ble_eq_true rfl) (Nat.le_of_ble_eq_true rfl) (Nat.le_of_ble_eq_true rfl) (Nat.le_of_ble_eq_true rfl) (jk_r ?_)
  refine j_aload_n C d_M_edition_6 rfl rfl ?_
  refine j_iload_n C d_M_edition_7 rfl rfl ?_
  refine j_callV C d_M_edition_8 ml_M_121 mc_M_isReport in_M_isReport rfl se_M_isReport (by omega) (ovM_o _ _ _ _) (c_M_isReportK hl _ _ _ _ hmo (in_rep hnr (by omega) hr)) rfl rfl (Nat.le_of_ble_eq_true rfl) (Nat.le_of_ble_eq_true rfl) (Nat.le_of_ble_eq_true rfl) (Nat.le_of_ble_eq_true rfl) (jk_r ?_)
  refine j_if_eq (tgt := 28) C d_M_edition_11 (by decide) (fun c11 => ?_) (fun c11 => ?_)
  · exact absurd c11 (by decide)
  · refine j_aload_n C d_M_edition_14 rfl rfl ?_
    refine jm_get C fl_6_25 d_M_edition_15 hmo rfl ?_
    refine j_iload_n C d_M_edition_18 rfl rfl ?_
    refine jm_ialdn C 5 (r) d_M_edition_19 (by decide) rfl hmo rfl (by omega) (by omega) ?_
    refine j_iconst (v := 3) C d_M_edition_20 (by decide) ?_
    refine j_icmp_ne (tgt := 28) C d_M_edition_21 (by decide) (fun c21 => ?_) (fun c21 => ?_)
    · exact absurd h8 c21
    · refine j_iconst (v := 1) C d_M_edition_24 (by decide) ?_
      refine j_goto (tgt := 29) C d_M_edition_25 (by decide) ?_
      refine j_aload_n C d_M_edition_29 rfl rfl ?_
      refine jm_get C fl_6_99 d_M_edition_30 hmo rfl ?_
      refine j_bipush (v := 30) C d_M_edition_33 (by decide) ?_
      refine j_icmp_ge (tgt := 42) C d_M_edition_35 (by decide) (fun c35 => ?_) (fun c35 => ?_)
      · exact absurd (show (30 : Int32) ≤ nI nr by rw [← hnr]; exact c35) (show ¬ nI 30 ≤ nI nr from nI_ge (by omega) (by omega))
      · refine j_iconst (v := 1) C d_M_edition_38 (by decide) ?_
        refine j_goto (tgt := 43) C d_M_edition_39 (by decide) ?_
        refine j_callV C d_M_edition_43 ml_M_109 mc_M_goes in_M_goes rfl se_M_goes (by omega) (ovM_o _ _ _ _) (c_M_goesK hl _ _ _ _ _ _ hmo (gs_0 (by decide) (by decide) (by decide))) rfl rfl (Nat.le_of_ble_eq_true rfl) (Nat.le_of_ble_eq_true rfl) (Nat.le_of_ble_eq_true rfl) (Nat.le_of_ble_eq_true rfl) (jk_r ?_)
        refine j_if_ne (tgt := 51) C d_M_edition_46 (by decide) (fun c46 => ?_) (fun c46 => ?_)
        · refine j_aload_n C d_M_edition_51 rfl rfl ?_
          refine j_aload_n C d_M_edition_52 rfl rfl ?_
          refine jm_get C fl_6_7 d_M_edition_53 hmo rfl ?_
          refine j_iload_n C d_M_edition_56 rfl rfl ?_
          refine jm_ialdn C 0 (r) d_M_edition_57 (by decide) rfl hmo rfl (by omega) (by omega) ?_
          refine j_aload_n C d_M_edition_58 rfl rfl ?_
          refine jm_get C fl_6_13 d_M_edition_59 hmo rfl ?_
          refine j_iload_n C d_M_edition_62 rfl rfl ?_
          refine jm_ialdn C 1 (r) d_M_edition_63 (by decide) rfl hmo rfl (by omega) (by omega) ?_
          refine j_iload_n C d_M_edition_64 rfl rfl ?_
          refine j_callV C d_M_edition_65 ml_M_113 mc_M_makes in_M_makes rfl se_M_makes (by omega) (ovM_o _ _ _ _) (c_M_makes hl _ _ _ _ _ _ hmo (by show vp_in (σ 2) 30; rw [hnr]; exact vp_in_nI (by omega) (by omega))) rfl rfl (Nat.le_of_ble_eq_true rfl) (Nat.le_of_ble_eq_true rfl) (Nat.le_of_ble_eq_true rfl) (Nat.le_of_ble_eq_true rfl) (jk_r ?_)
          rw [show upd σ 0 0 2 + 1 - 1 = nI nr by show σ 2 + 1 - 1 = nI nr; rw [hnr, nI_1, nI_pred]]
          refine j_istore_n C d_M_edition_68 rfl (by decide) rfl ?_
          refine j_iconst (v := 0) C d_M_edition_69 (by decide) ?_
          refine j_istore_n C d_M_edition_70 rfl (by decide) rfl ?_
          refine j_h (h' := ovM mo (mmakes (upd σ 0 0) α (α 3 r) (α 4 r) (nI r)).1 (med (mmakes (upd σ 0 0) α (α 3 r) (α 4 r) (nI r)).2 nr r 0) h) (by rw [med_0]) ?_
          exact j_pick [0, 1, 2, 3] rfl (loop 20 0 rfl)
        · exact absurd c46 (by decide)
/-! ===== the reference: isAsked, reckon, verdict: printed by program ===== -/
/-- a factor: a number, or a field as -1 - field -/
def fok (x : Int32) : Prop := 0 ≤ x ∨ ∃ g : Nat, g < 20 ∧ x = -1 - nI g
def FR (α : Nat → Nat → Int32) : Prop := ∀ k, k < 160 → fok (α 24 k) ∧ fok (α 25 k)
theorem fx_ix (r g : Nat) : 20 * nI r - 1 - (-1 - nI g) = nI (20 * r + g) := by
  rw [← e20]
  grind
theorem fok_in {x : Int32} {r : Nat} (hx : fok x) (hr : r < 30) (h0 : ¬ 0 ≤ x) : vp_in (20 * nI r - 1 - x) 600 := by
  rcases hx with h | ⟨g, hg, rfl⟩
  · exact absurd h h0
  · rw [fx_ix]
    exact vp_in_nI (by omega) (by omega)
theorem e8 (q : Nat) : (8 : Int32) * nI q = nI (8 * q) := pk_mul 8 q
theorem e8b (q : Nat) : (8 : Int32) * nI q + 8 = nI (8 * q + 8) := by rw [e8]; exact nI_add (8 * q) 8
theorem e8c (q : Nat) : (8 : Int32) * nI q + 4 = nI (8 * q + 4) := by rw [e8]; exact nI_add (8 * q) 4
theorem e4 (k : Nat) : nI k + 4 = nI (k + 4) := nI_add k 4
/-- all the fields that the terms k, k + 1, .. tell are there -/
def mias (α : Nat → Nat → Int32) (r : Nat) : Nat → Nat → Int32
  | 0, _ => 1
  | n + 1, k => if α 23 k ≤ 0 then mias α r n (k + 1) else if mhas α (nI r) (α 24 k) = 0 then 0 else if α 26 k = 0 then mias α r n (k + 1) else if mhas α (nI r) (α 25 k) = 0 then 0 else mias α r n (k + 1)
set_option maxHeartbeats 4000000 in
set_option maxRecDepth 100000 in
theorem c_M_isAsked {l : Launch} (hl : l.stackTraces = false) {D : va_G} {cA : Nat → ClassId} {b n mo : Nat} (r q : Nat) (σ : Nat → Int32) (α : Nat → Nat → Int32) (h : AH) (hmo : mo + 27 < n) (hr : r < 30) (hq : q < 20) (hF : FR α) : Cn l D cA b y_M_isAsked k_M_isAsked 1 14 0 0 [.ref mo, .int (nI r), .int (nI q)] n (ovM mo σ α h) (Re (some (.int (mias α r 8 (8 * q)))) n (ovM mo σ α h)) := by
  refine Cn.of (cc := b_M_isAsked) (maxL := 4) (ret := (some .boolean)) (hh := []) (by decide +kernel) hl (Or.inl ⟨rfl, rfl⟩) (Nat.le_of_ble_eq_true rfl) ?_
  intro p e s m args below meth c C
  have loop : ∀ (m9 k : Nat), k + m9 = 8 * q + 8 → mias α r m9 k = mias α r 8 (8 * q) → J p l e { frames := 1, cells := 0, slots := 0, locals := 14 } s m args below meth c D cA b 4 (EndQ D cA b s below (Re (some (.int (mias α r 8 (8 * q)))) n (ovM mo σ α h)) 0 0) n (ovM mo σ α h) 0 0 5 [(3, .int (nI k)), (0, .ref mo), (1, .int (nI r)), (2, .int (nI q))] [] := by
    intro m9
    induction m9 with
    | zero =>
      intro k hk hv
      obtain rfl : k = 8 * q + 8 := by omega
      refine j_iload_n C d_M_isAsked_5 rfl rfl ?_
      refine j_bipush (v := 8) C d_M_isAsked_6 (by decide) ?_
      refine j_iload_n C d_M_isAsked_8 rfl rfl ?_
      refine j_imul C d_M_isAsked_9 ?_
      refine j_bipush (v := 8) C d_M_isAsked_10 (by decide) ?_
      refine j_iadd C d_M_isAsked_12 ?_
      refine j_icmp_ge (tgt := 70) C d_M_isAsked_13 (by decide) (fun c13 => ?_) (fun c13 => ?_)
      · refine j_iconst (v := 1) C d_M_isAsked_70 (by decide) ?_
        exact j_zreturn C d_M_isAsked_71 rfl (by decide) (by decide) (by decide) ⟨by rw [← hv]; rfl, rfl, rfl⟩
      · exact absurd (show 8 * nI q + 8 ≤ nI (8 * q + 8) by rw [e8b]; exact nI_le (Nat.le_refl _) (by omega)) c13
    | succ m9 ih =>
      intro k hk hv
      refine j_iload_n C d_M_isAsked_5 rfl rfl ?_
      refine j_bipush (v := 8) C d_M_isAsked_6 (by decide) ?_
      refine j_iload_n C d_M_isAsked_8 rfl rfl ?_
      refine j_imul C d_M_isAsked_9 ?_
      refine j_bipush (v := 8) C d_M_isAsked_10 (by decide) ?_
      refine j_iadd C d_M_isAsked_12 ?_
      refine j_icmp_ge (tgt := 70) C d_M_isAsked_13 (by decide) (fun c13 => ?_) (fun c13 => ?_)
      · exact absurd (show nI (8 * q + 8) ≤ nI k by rw [← e8b]; exact c13) (nI_ge (by omega) (by omega))
      · refine j_aload_n C d_M_isAsked_16 rfl rfl ?_
        refine jm_get C fl_6_60 d_M_isAsked_17 hmo rfl ?_
        refine j_iload_n C d_M_isAsked_20 rfl rfl ?_
        refine jm_ialdn C 15 (k) d_M_isAsked_21 (by decide) rfl hmo rfl (by omega) (by omega) ?_
        refine j_if_le (tgt := 64) C d_M_isAsked_22 (by decide) (fun c22 => ?_) (fun c22 => ?_)
        · refine j_iinc (v := nI (k + 1)) C d_M_isAsked_64 rfl (nI_inc k) (by decide) rfl ?_
          refine j_goto (tgt := 5) C d_M_isAsked_67 (by decide) ?_
          exact j_pick [0, 1, 2, 3] rfl (ih (k + 1) (by omega) (by rw [← hv]; show _ = (if α 23 k ≤ 0 then mias α r m9 (k + 1) else if mhas α (nI r) (α 24 k) = 0 then 0 else if α 26 k = 0 then mias α r m9 (k + 1) else if mhas α (nI r) (α 25 k) = 0 then 0 else mias α r m9 (k + 1)); rw [if_pos c22]))
        · refine j_aload_n C d_M_isAsked_25 rfl rfl ?_
          refine j_iload_n C d_M_isAsked_26 rfl rfl ?_
          refine j_aload_n C d_M_isAsked_27 rfl rfl ?_
          refine jm_get C fl_6_63 d_M_isAsked_28 hmo rfl ?_
          refine j_iload_n C d_M_isAsked_31 rfl rfl ?_
          refine jm_ialdn C 16 (k) d_M_isAsked_32 (by decide) rfl hmo rfl (by omega) (by omega) ?_
          refine j_callV C d_M_isAsked_33 ml_M_169 mc_M_has in_M_has rfl se_M_has (by omega) (ovM_o _ _ _ _) (c_M_has hl _ _ _ _ _ hmo (fok_in (hF k (by omega)).1 hr)) rfl rfl (Nat.le_of_ble_eq_true rfl) (Nat.le_of_ble_eq_true rfl) (Nat.le_of_ble_eq_true rfl) (Nat.le_of_ble_eq_true rfl) (jk_r ?_)
          refine j_if_eq (tgt := 62) C d_M_isAsked_36 (by decide) (fun c36 => ?_) (fun c36 => ?_)
          · refine j_iconst (v := 0) C d_M_isAsked_62 (by decide) ?_
            exact j_zreturn C d_M_isAsked_63 rfl (by decide) (by decide) (by decide) ⟨by rw [← hv]; congr 3; symm; show (if α 23 k ≤ 0 then mias α r m9 (k + 1) else if mhas α (nI r) (α 24 k) = 0 then 0 else if α 26 k = 0 then mias α r m9 (k + 1) else if mhas α (nI r) (α 25 k) = 0 then 0 else mias α r m9 (k + 1)) = 0; rw [if_neg c22, if_pos c36], rfl, rfl⟩
          · refine j_aload_n C d_M_isAsked_39 rfl rfl ?_
            refine jm_get C fl_6_69 d_M_isAsked_40 hmo rfl ?_
            refine j_iload_n C d_M_isAsked_43 rfl rfl ?_
            refine jm_zaldn C 18 (k) d_M_isAsked_44 (by decide) rfl hmo rfl (by omega) (by omega) ?_
            refine j_if_eq (tgt := 64) C d_M_isAsked_45 (by decide) (fun c45 => ?_) (fun c45 => ?_)
            · refine j_iinc (v := nI (k + 1)) C d_M_isAsked_64 rfl (nI_inc k) (by decide) rfl ?_
              refine j_goto (tgt := 5) C d_M_isAsked_67 (by decide) ?_
              exact j_pick [0, 1, 2, 3] rfl (ih (k + 1) (by omega) (by rw [← hv]; show _ = (if α 23 k ≤ 0 then mias α r m9 (k + 1) else if mhas α (nI r) (α 24 k) = 0 then 0 else if α 26 k = 0 then mias α r m9 (k + 1) else if mhas α (nI r) (α 25 k) = 0 then 0 else mias α r m9 (k + 1)); rw [if_neg c22, if_neg c36, if_pos c45]))
            · refine j_aload_n C d_M_isAsked_48 rfl rfl ?_
              refine j_iload_n C d_M_isAsked_49 rfl rfl ?_
              refine j_aload_n C d_M_isAsked_50 rfl rfl ?_
              refine jm_get C fl_6_66 d_M_isAsked_51 hmo rfl ?_
              refine j_iload_n C d_M_isAsked_54 rfl rfl ?_
              refine jm_ialdn C 17 (k) d_M_isAsked_55 (by decide) rfl hmo rfl (by omega) (by omega) ?_
              refine j_callV C d_M_isAsked_56 ml_M_169 mc_M_has in_M_has rfl se_M_has (by omega) (ovM_o _ _ _ _) (c_M_has hl _ _ _ _ _ hmo (fok_in (hF k (by omega)).2 hr)) rfl rfl (Nat.le_of_ble_eq_true rfl) (Nat.le_of_ble_eq_true rfl) (Nat.le_of_ble_eq_true rfl) (Nat.le_of_ble_eq_true rfl) (jk_r ?_)
              refine j_if_ne (tgt := 64) C d_M_isAsked_59 (by decide) (fun c59 => ?_) (fun c59 => ?_)
              · refine j_iinc (v := nI (k + 1)) C d_M_isAsked_64 rfl (nI_inc k) (by decide) rfl ?_
                refine j_goto (tgt := 5) C d_M_isAsked_67 (by decide) ?_
                exact j_pick [0, 1, 2, 3] rfl (ih (k + 1) (by omega) (by rw [← hv]; show _ = (if α 23 k ≤ 0 then mias α r m9 (k + 1) else if mhas α (nI r) (α 24 k) = 0 then 0 else if α 26 k = 0 then mias α r m9 (k + 1) else if mhas α (nI r) (α 25 k) = 0 then 0 else mias α r m9 (k + 1)); rw [if_neg c22, if_neg c36, if_neg c45, if_neg c59]))
              · refine j_iconst (v := 0) C d_M_isAsked_62 (by decide) ?_
                exact j_zreturn C d_M_isAsked_63 rfl (by decide) (by decide) (by decide) ⟨by rw [← hv]; congr 3; symm; show (if α 23 k ≤ 0 then mias α r m9 (k + 1) else if mhas α (nI r) (α 24 k) = 0 then 0 else if α 26 k = 0 then mias α r m9 (k + 1) else if mhas α (nI r) (α 25 k) = 0 then 0 else mias α r m9 (k + 1)) = 0; rw [if_neg c22, if_neg c36, if_neg c45, if_pos c59], rfl, rfl⟩
  refine j_bipush (v := 8) C d_M_isAsked_0 (by decide) ?_
  refine j_iload_n C d_M_isAsked_2 rfl rfl ?_
  refine j_imul C d_M_isAsked_3 ?_
  refine j_istore_n C d_M_isAsked_4 rfl (by decide) rfl ?_
  refine j_pick [0, 1, 2, 3] (L' := [(3, .int (nI (8 * q))), (0, .ref mo), (1, .int (nI r)), (2, .int (nI q))]) (by rw [← e8]; rfl) ?_
  exact loop 8 (8 * q) rfl rfl

def rkV (α : Nat → Nat → Int32) (r k : Nat) : Int32 := if α 26 k = 0 then mof α (nI r) (α 24 k) else if mof α (nI r) (α 25 k) = 0 then 0 else mof α (nI r) (α 24 k) / mof α (nI r) (α 25 k)
def rks (α : Nat → Nat → Int32) (r k : Nat) (s : Int32) : Int32 := if α 23 k = 0 then s else if α 23 k = 1 then s + rkV α r k else s - rkV α r k
def rkS (α : Nat → Nat → Int32) (r : Nat) : Nat → Nat → Int32 → Int32
  | 0, _, s => s
  | n + 1, k, s => rkS α r n (k + 1) (rks α r k s)
def rkb (α : Nat → Nat → Int32) (r k : Nat) (b : Int32) : Int32 := if α 23 k = 0 then b else if α 26 k = 0 then b else if b = 0 then (if mof α (nI r) (α 25 k) = 0 then 1 else 0) else 1
def rkB (α : Nat → Nat → Int32) (r : Nat) : Nat → Nat → Int32 → Int32
  | 0, _, b => b
  | n + 1, k, b => rkB α r n (k + 1) (rkb α r k b)
set_option maxHeartbeats 4000000 in
set_option maxRecDepth 100000 in
theorem c_M_reckon {l : Launch} (hl : l.stackTraces = false) {D : va_G} {cA : Nat → ClassId} {b n mo : Nat} (r k0 : Nat) (σ : Nat → Int32) (α : Nat → Nat → Int32) (h : AH) (hmo : mo + 27 < n) (hr : r < 30) (hk0 : k0 + 4 ≤ 160) (hF : FR α) : Cn l D cA b y_M_reckon k_M_reckon 1 14 0 0 [.ref mo, .int (nI r), .int (nI k0)] n (ovM mo σ α h) (Re (some (.int (rkS α r 4 k0 0))) n (ovM mo (upd σ 33 (rkB α r 4 k0 (σ 33))) α h)) := by
  refine Cn.of (cc := b_M_reckon) (maxL := 7) (ret := (some .int)) (hh := []) (by decide +kernel) hl (Or.inl ⟨rfl, rfl⟩) (Nat.le_of_ble_eq_true rfl) ?_
  intro p e s m args below meth c C
  have loop : ∀ (m9 k : Nat) (sm bk : Int32), k + m9 = k0 + 4 → rkS α r m9 k sm = rkS α r 4 k0 0 → rkB α r m9 k bk = rkB α r 4 k0 (σ 33) → J p l e { frames := 1, cells := 0, slots := 0, locals := 14 } s m args below meth c D cA b 7 (EndQ D cA b s below (Re (some (.int (rkS α r 4 k0 0))) n (ovM mo (upd σ 33 (rkB α r 4 k0 (σ 33))) α h)) 0 0) n (ovM mo (upd σ 33 bk) α h) 0 0 5 [(4, .int (nI k)), (3, .int sm), (0, .ref mo), (1, .int (nI r)), (2, .int (nI k0))] [] := by
    intro m9
    induction m9 with
    | zero =>
      intro k sm bk hk hvs hvb
      obtain rfl : k = k0 + 4 := by omega
      refine j_iload C d_M_reckon_5 rfl ?_
      refine j_iload_n C d_M_reckon_7 rfl rfl ?_
      refine j_iconst (v := 4) C d_M_reckon_8 (by decide) ?_
      refine j_iadd C d_M_reckon_9 ?_
      refine j_icmp_ge (tgt := 130) C d_M_reckon_10 (by decide) (fun c10 => ?_) (fun c10 => ?_)
      · refine j_iload_n C d_M_reckon_130 rfl rfl ?_
        exact j_ireturn C d_M_reckon_131 rfl (by decide) (by decide) ⟨by rw [← hvs]; rfl, rfl, by rw [← hvb]; rfl⟩
      · exact absurd (show nI k0 + 4 ≤ nI (k0 + 4) by rw [e4]; exact nI_le (Nat.le_refl _) (by omega)) c10
    | succ m9 ih =>
      intro k sm bk hk hvs hvb
      refine j_iload C d_M_reckon_5 rfl ?_
      refine j_iload_n C d_M_reckon_7 rfl rfl ?_
      refine j_iconst (v := 4) C d_M_reckon_8 (by decide) ?_
      refine j_iadd C d_M_reckon_9 ?_
      refine j_icmp_ge (tgt := 130) C d_M_reckon_10 (by decide) (fun c10 => ?_) (fun c10 => ?_)
      · exact absurd (show nI (k0 + 4) ≤ nI k by rw [← e4]; exact c10) (nI_ge (by omega) (by omega))
      · refine j_aload_n C d_M_reckon_13 rfl rfl ?_
        refine jm_get C fl_6_60 d_M_reckon_14 hmo rfl ?_
        refine j_iload C d_M_reckon_17 rfl ?_
        refine jm_ialdn C 15 (k) d_M_reckon_19 (by decide) rfl hmo rfl (by omega) (by omega) ?_
        refine j_if_ne (tgt := 26) C d_M_reckon_20 (by decide) (fun c20 => ?_) (fun c20 => ?_)
        · refine j_aload_n C d_M_reckon_26 rfl rfl ?_
          refine j_iload_n C d_M_reckon_27 rfl rfl ?_
          refine j_aload_n C d_M_reckon_28 rfl rfl ?_
          refine jm_get C fl_6_63 d_M_reckon_29 hmo rfl ?_
          refine j_iload C d_M_reckon_32 rfl ?_
          refine jm_ialdn C 16 (k) d_M_reckon_34 (by decide) rfl hmo rfl (by omega) (by omega) ?_
          refine j_callV C d_M_reckon_35 ml_M_173 mc_M_of in_M_of rfl se_M_of (by omega) (ovM_o _ _ _ _) (c_M_of hl _ _ _ _ _ hmo (fun z => fok_in (hF k (by omega)).1 hr (Int32.not_le.mpr z))) rfl rfl (Nat.le_of_ble_eq_true rfl) (Nat.le_of_ble_eq_true rfl) (Nat.le_of_ble_eq_true rfl) (Nat.le_of_ble_eq_true rfl) (jk_r ?_)
          refine j_istore C d_M_reckon_38 (by decide) rfl ?_
          refine j_aload_n C d_M_reckon_40 rfl rfl ?_
          refine jm_get C fl_6_69 d_M_reckon_41 hmo rfl ?_
          refine j_iload C d_M_reckon_44 rfl ?_
          refine jm_zaldn C 18 (k) d_M_reckon_46 (by decide) rfl hmo rfl (by omega) (by omega) ?_
          refine j_if_eq (tgt := 101) C d_M_reckon_47 (by decide) (fun c47 => ?_) (fun c47 => ?_)
          · refine j_aload_n C d_M_reckon_101 rfl rfl ?_
            refine jm_get C fl_6_60 d_M_reckon_102 hmo rfl ?_
            refine j_iload C d_M_reckon_105 rfl ?_
            refine jm_ialdn C 15 (k) d_M_reckon_107 (by decide) rfl hmo rfl (by omega) (by omega) ?_
            refine j_iconst (v := 1) C d_M_reckon_108 (by decide) ?_
            refine j_icmp_ne (tgt := 119) C d_M_reckon_109 (by decide) (fun c109 => ?_) (fun c109 => ?_)
            · refine j_iload_n C d_M_reckon_119 rfl rfl ?_
              refine j_iload C d_M_reckon_120 rfl ?_
              refine j_isub C d_M_reckon_122 ?_
              refine j_istore_n C d_M_reckon_123 rfl (by decide) rfl ?_
              have e1 : rks α r k sm = (sm - (mof α (nI r) (α 24 k))) := by unfold rks; rw [if_neg c20, if_neg c109]; unfold rkV; rw [if_pos c47]
              have e2 : rkb α r k bk = bk := by unfold rkb; rw [if_neg c20, if_pos c47]
              refine j_iinc (v := nI (k + 1)) C d_M_reckon_124 rfl (nI_inc k) (by decide) rfl ?_
              refine j_goto (tgt := 5) C d_M_reckon_127 (by decide) ?_
              have J9 := ih (k + 1) (sm - (mof α (nI r) (α 24 k))) bk (by omega) (by rw [← hvs]; show _ = rkS α r m9 (k + 1) (rks α r k sm); rw [e1]) (by rw [← hvb]; show _ = rkB α r m9 (k + 1) (rkb α r k bk); rw [e2])
              exact j_pick [0, 1, 3, 4, 5] rfl J9
            · refine j_iload_n C d_M_reckon_112 rfl rfl ?_
              refine j_iload C d_M_reckon_113 rfl ?_
              refine j_iadd C d_M_reckon_115 ?_
              refine j_goto (tgt := 123) C d_M_reckon_116 (by decide) ?_
              refine j_istore_n C d_M_reckon_123 rfl (by decide) rfl ?_
              have e1 : rks α r k sm = (sm + (mof α (nI r) (α 24 k))) := by unfold rks; rw [if_neg c20, if_pos c109]; unfold rkV; rw [if_pos c47]
              have e2 : rkb α r k bk = bk := by unfold rkb; rw [if_neg c20, if_pos c47]
              refine j_iinc (v := nI (k + 1)) C d_M_reckon_124 rfl (nI_inc k) (by decide) rfl ?_
              refine j_goto (tgt := 5) C d_M_reckon_127 (by decide) ?_
              have J9 := ih (k + 1) (sm + (mof α (nI r) (α 24 k))) bk (by omega) (by rw [← hvs]; show _ = rkS α r m9 (k + 1) (rks α r k sm); rw [e1]) (by rw [← hvb]; show _ = rkB α r m9 (k + 1) (rkb α r k bk); rw [e2])
              exact j_pick [0, 1, 3, 4, 5] rfl J9
          · refine j_aload_n C d_M_reckon_50 rfl rfl ?_
            refine j_iload_n C d_M_reckon_51 rfl rfl ?_
            refine j_aload_n C d_M_reckon_52 rfl rfl ?_
            refine jm_get C fl_6_66 d_M_reckon_53 hmo rfl ?_
            refine j_iload C d_M_reckon_56 rfl ?_
            refine jm_ialdn C 17 (k) d_M_reckon_58 (by decide) rfl hmo rfl (by omega) (by omega) ?_
            refine j_callV C d_M_reckon_59 ml_M_173 mc_M_of in_M_of rfl se_M_of (by omega) (ovM_o _ _ _ _) (c_M_of hl _ _ _ _ _ hmo (fun z => fok_in (hF k (by omega)).2 hr (Int32.not_le.mpr z))) rfl rfl (Nat.le_of_ble_eq_true rfl) (Nat.le_of_ble_eq_true rfl) (Nat.le_of_ble_eq_true rfl) (Nat.le_of_ble_eq_true rfl) (jk_r ?_)
            refine j_istore C d_M_reckon_62 (by decide) rfl ?_
            refine j_aload_n C d_M_reckon_64 rfl rfl ?_
            refine j_aload_n C d_M_reckon_65 rfl rfl ?_
            refine jm_get C fl_6_177 d_M_reckon_66 hmo rfl ?_
            refine j_if_ne (tgt := 77) C d_M_reckon_69 (by decide) (fun c69 => ?_) (fun c69 => ?_)
            · refine j_iconst (v := 1) C d_M_reckon_77 (by decide) ?_
              refine j_goto (tgt := 82) C d_M_reckon_78 (by decide) ?_
              refine jm_puti 33 C fp_6_177 d_M_reckon_82 hmo (by decide) (by first | rfl | assumption) rfl rfl ?_
              refine j_iload C d_M_reckon_85 rfl ?_
              refine j_if_ne (tgt := 94) C d_M_reckon_87 (by decide) (fun c87 => ?_) (fun c87 => ?_)
              · refine j_iload C d_M_reckon_94 rfl ?_
                refine j_iload C d_M_reckon_96 rfl ?_
                refine j_idiv C d_M_reckon_98 c87 ?_
                refine j_istore C d_M_reckon_99 (by decide) rfl ?_
                refine j_aload_n C d_M_reckon_101 rfl rfl ?_
                refine jm_get C fl_6_60 d_M_reckon_102 hmo rfl ?_
                refine j_iload C d_M_reckon_105 rfl ?_
                refine jm_ialdn C 15 (k) d_M_reckon_107 (by decide) rfl hmo rfl (by omega) (by omega) ?_
                refine j_iconst (v := 1) C d_M_reckon_108 (by decide) ?_
                refine j_icmp_ne (tgt := 119) C d_M_reckon_109 (by decide) (fun c109 => ?_) (fun c109 => ?_)
                · refine j_iload_n C d_M_reckon_119 rfl rfl ?_
                  refine j_iload C d_M_reckon_120 rfl ?_
                  refine j_isub C d_M_reckon_122 ?_
                  refine j_istore_n C d_M_reckon_123 rfl (by decide) rfl ?_
                  have e1 : rks α r k sm = (sm - (mof α (nI r) (α 24 k) / mof α (nI r) (α 25 k))) := by unfold rks; rw [if_neg c20, if_neg c109]; unfold rkV; rw [if_neg c47, if_neg c87]
                  have e2 : rkb α r k bk = 1 := by unfold rkb; rw [if_neg c20, if_neg c47, if_neg (show ¬ bk = 0 from c69)]
                  refine j_iinc (v := nI (k + 1)) C d_M_reckon_124 rfl (nI_inc k) (by decide) rfl ?_
                  refine j_goto (tgt := 5) C d_M_reckon_127 (by decide) ?_
                  have J9 := ih (k + 1) (sm - (mof α (nI r) (α 24 k) / mof α (nI r) (α 25 k))) 1 (by omega) (by rw [← hvs]; show _ = rkS α r m9 (k + 1) (rks α r k sm); rw [e1]) (by rw [← hvb]; show _ = rkB α r m9 (k + 1) (rkb α r k bk); rw [e2])
                  exact j_h (by rw [upd_uu]) (j_pick [0, 1, 4, 5, 6] rfl J9)
                · refine j_iload_n C d_M_reckon_112 rfl rfl ?_
                  refine j_iload C d_M_reckon_113 rfl ?_
                  refine j_iadd C d_M_reckon_115 ?_
                  refine j_goto (tgt := 123) C d_M_reckon_116 (by decide) ?_
                  refine j_istore_n C d_M_reckon_123 rfl (by decide) rfl ?_
                  have e1 : rks α r k sm = (sm + (mof α (nI r) (α 24 k) / mof α (nI r) (α 25 k))) := by unfold rks; rw [if_neg c20, if_pos c109]; unfold rkV; rw [if_neg c47, if_neg c87]
                  have e2 : rkb α r k bk = 1 := by unfold rkb; rw [if_neg c20, if_neg c47, if_neg (show ¬ bk = 0 from c69)]
                  refine j_iinc (v := nI (k + 1)) C d_M_reckon_124 rfl (nI_inc k) (by decide) rfl ?_
                  refine j_goto (tgt := 5) C d_M_reckon_127 (by decide) ?_
                  have J9 := ih (k + 1) (sm + (mof α (nI r) (α 24 k) / mof α (nI r) (α 25 k))) 1 (by omega) (by rw [← hvs]; show _ = rkS α r m9 (k + 1) (rks α r k sm); rw [e1]) (by rw [← hvb]; show _ = rkB α r m9 (k + 1) (rkb α r k bk); rw [e2])
                  exact j_h (by rw [upd_uu]) (j_pick [0, 1, 4, 5, 6] rfl J9)
              · refine j_iconst (v := 0) C d_M_reckon_90 (by decide) ?_
                refine j_goto (tgt := 99) C d_M_reckon_91 (by decide) ?_
                refine j_istore C d_M_reckon_99 (by decide) rfl ?_
                refine j_aload_n C d_M_reckon_101 rfl rfl ?_
                refine jm_get C fl_6_60 d_M_reckon_102 hmo rfl ?_
                refine j_iload C d_M_reckon_105 rfl ?_
                refine jm_ialdn C 15 (k) d_M_reckon_107 (by decide) rfl hmo rfl (by omega) (by omega) ?_
                refine j_iconst (v := 1) C d_M_reckon_108 (by decide) ?_
                refine j_icmp_ne (tgt := 119) C d_M_reckon_109 (by decide) (fun c109 => ?_) (fun c109 => ?_)
                · refine j_iload_n C d_M_reckon_119 rfl rfl ?_
                  refine j_iload C d_M_reckon_120 rfl ?_
                  refine j_isub C d_M_reckon_122 ?_
                  refine j_istore_n C d_M_reckon_123 rfl (by decide) rfl ?_
                  have e1 : rks α r k sm = (sm - 0) := by unfold rks; rw [if_neg c20, if_neg c109]; unfold rkV; rw [if_neg c47, if_pos c87]
                  have e2 : rkb α r k bk = 1 := by unfold rkb; rw [if_neg c20, if_neg c47, if_neg (show ¬ bk = 0 from c69)]
                  refine j_iinc (v := nI (k + 1)) C d_M_reckon_124 rfl (nI_inc k) (by decide) rfl ?_
                  refine j_goto (tgt := 5) C d_M_reckon_127 (by decide) ?_
                  have J9 := ih (k + 1) (sm - 0) 1 (by omega) (by rw [← hvs]; show _ = rkS α r m9 (k + 1) (rks α r k sm); rw [e1]) (by rw [← hvb]; show _ = rkB α r m9 (k + 1) (rkb α r k bk); rw [e2])
                  exact j_h (by rw [upd_uu]) (j_pick [0, 1, 4, 5, 6] rfl J9)
                · refine j_iload_n C d_M_reckon_112 rfl rfl ?_
                  refine j_iload C d_M_reckon_113 rfl ?_
                  refine j_iadd C d_M_reckon_115 ?_
                  refine j_goto (tgt := 123) C d_M_reckon_116 (by decide) ?_
                  refine j_istore_n C d_M_reckon_123 rfl (by decide) rfl ?_
                  have e1 : rks α r k sm = (sm + 0) := by unfold rks; rw [if_neg c20, if_pos c109]; unfold rkV; rw [if_neg c47, if_pos c87]
                  have e2 : rkb α r k bk = 1 := by unfold rkb; rw [if_neg c20, if_neg c47, if_neg (show ¬ bk = 0 from c69)]
                  refine j_iinc (v := nI (k + 1)) C d_M_reckon_124 rfl (nI_inc k) (by decide) rfl ?_
                  refine j_goto (tgt := 5) C d_M_reckon_127 (by decide) ?_
                  have J9 := ih (k + 1) (sm + 0) 1 (by omega) (by rw [← hvs]; show _ = rkS α r m9 (k + 1) (rks α r k sm); rw [e1]) (by rw [← hvb]; show _ = rkB α r m9 (k + 1) (rkb α r k bk); rw [e2])
                  exact j_h (by rw [upd_uu]) (j_pick [0, 1, 4, 5, 6] rfl J9)
            · refine j_iload C d_M_reckon_72 rfl ?_
              refine j_if_ne (tgt := 81) C d_M_reckon_74 (by decide) (fun c74 => ?_) (fun c74 => ?_)
              · refine j_iconst (v := 0) C d_M_reckon_81 (by decide) ?_
                refine jm_puti 33 C fp_6_177 d_M_reckon_82 hmo (by decide) (by first | rfl | assumption) rfl rfl ?_
                refine j_iload C d_M_reckon_85 rfl ?_
                refine j_if_ne (tgt := 94) C d_M_reckon_87 (by decide) (fun c87 => ?_) (fun c87 => ?_)
                · refine j_iload C d_M_reckon_94 rfl ?_
                  refine j_iload C d_M_reckon_96 rfl ?_
                  refine j_idiv C d_M_reckon_98 c87 ?_
                  refine j_istore C d_M_reckon_99 (by decide) rfl ?_
                  refine j_aload_n C d_M_reckon_101 rfl rfl ?_
                  refine jm_get C fl_6_60 d_M_reckon_102 hmo rfl ?_
                  refine j_iload C d_M_reckon_105 rfl ?_
                  refine jm_ialdn C 15 (k) d_M_reckon_107 (by decide) rfl hmo rfl (by omega) (by omega) ?_
                  refine j_iconst (v := 1) C d_M_reckon_108 (by decide) ?_
                  refine j_icmp_ne (tgt := 119) C d_M_reckon_109 (by decide) (fun c109 => ?_) (fun c109 => ?_)
                  · refine j_iload_n C d_M_reckon_119 rfl rfl ?_
                    refine j_iload C d_M_reckon_120 rfl ?_
                    refine j_isub C d_M_reckon_122 ?_
                    refine j_istore_n C d_M_reckon_123 rfl (by decide) rfl ?_
                    have e1 : rks α r k sm = (sm - (mof α (nI r) (α 24 k) / mof α (nI r) (α 25 k))) := by unfold rks; rw [if_neg c20, if_neg c109]; unfold rkV; rw [if_neg c47, if_neg c87]
                    have e2 : rkb α r k bk = 0 := by unfold rkb; rw [if_neg c20, if_neg c47, if_pos (show bk = 0 from c69), if_neg c87]
                    refine j_iinc (v := nI (k + 1)) C d_M_reckon_124 rfl (nI_inc k) (by decide) rfl ?_
                    refine j_goto (tgt := 5) C d_M_reckon_127 (by decide) ?_
                    have J9 := ih (k + 1) (sm - (mof α (nI r) (α 24 k) / mof α (nI r) (α 25 k))) 0 (by omega) (by rw [← hvs]; show _ = rkS α r m9 (k + 1) (rks α r k sm); rw [e1]) (by rw [← hvb]; show _ = rkB α r m9 (k + 1) (rkb α r k bk); rw [e2])
                    exact j_h (by rw [upd_uu]) (j_pick [0, 1, 4, 5, 6] rfl J9)
                  · refine j_iload_n C d_M_reckon_112 rfl rfl ?_
                    refine j_iload C d_M_reckon_113 rfl ?_
                    refine j_iadd C d_M_reckon_115 ?_
                    refine j_goto (tgt := 123) C d_M_reckon_116 (by decide) ?_
                    refine j_istore_n C d_M_reckon_123 rfl (by decide) rfl ?_
                    have e1 : rks α r k sm = (sm + (mof α (nI r) (α 24 k) / mof α (nI r) (α 25 k))) := by unfold rks; rw [if_neg c20, if_pos c109]; unfold rkV; rw [if_neg c47, if_neg c87]
                    have e2 : rkb α r k bk = 0 := by unfold rkb; rw [if_neg c20, if_neg c47, if_pos (show bk = 0 from c69), if_neg c87]
                    refine j_iinc (v := nI (k + 1)) C d_M_reckon_124 rfl (nI_inc k) (by decide) rfl ?_
                    refine j_goto (tgt := 5) C d_M_reckon_127 (by decide) ?_
                    have J9 := ih (k + 1) (sm + (mof α (nI r) (α 24 k) / mof α (nI r) (α 25 k))) 0 (by omega) (by rw [← hvs]; show _ = rkS α r m9 (k + 1) (rks α r k sm); rw [e1]) (by rw [← hvb]; show _ = rkB α r m9 (k + 1) (rkb α r k bk); rw [e2])
                    exact j_h (by rw [upd_uu]) (j_pick [0, 1, 4, 5, 6] rfl J9)
                · exact absurd c87 c74
              · refine j_iconst (v := 1) C d_M_reckon_77 (by decide) ?_
                refine j_goto (tgt := 82) C d_M_reckon_78 (by decide) ?_
                refine jm_puti 33 C fp_6_177 d_M_reckon_82 hmo (by decide) (by first | rfl | assumption) rfl rfl ?_
                refine j_iload C d_M_reckon_85 rfl ?_
                refine j_if_ne (tgt := 94) C d_M_reckon_87 (by decide) (fun c87 => ?_) (fun c87 => ?_)
                · exact absurd c74 c87
                · refine j_iconst (v := 0) C d_M_reckon_90 (by decide) ?_
                  refine j_goto (tgt := 99) C d_M_reckon_91 (by decide) ?_
                  refine j_istore C d_M_reckon_99 (by decide) rfl ?_
                  refine j_aload_n C d_M_reckon_101 rfl rfl ?_
                  refine jm_get C fl_6_60 d_M_reckon_102 hmo rfl ?_
                  refine j_iload C d_M_reckon_105 rfl ?_
                  refine jm_ialdn C 15 (k) d_M_reckon_107 (by decide) rfl hmo rfl (by omega) (by omega) ?_
                  refine j_iconst (v := 1) C d_M_reckon_108 (by decide) ?_
                  refine j_icmp_ne (tgt := 119) C d_M_reckon_109 (by decide) (fun c109 => ?_) (fun c109 => ?_)
                  · refine j_iload_n C d_M_reckon_119 rfl rfl ?_
                    refine j_iload C d_M_reckon_120 rfl ?_
                    refine j_isub C d_M_reckon_122 ?_
                    refine j_istore_n C d_M_reckon_123 rfl (by decide) rfl ?_
                    have e1 : rks α r k sm = (sm - 0) := by unfold rks; rw [if_neg c20, if_neg c109]; unfold rkV; rw [if_neg c47, if_pos c87]
                    have e2 : rkb α r k bk = 1 := by unfold rkb; rw [if_neg c20, if_neg c47, if_pos (show bk = 0 from c69), if_pos c87]
                    refine j_iinc (v := nI (k + 1)) C d_M_reckon_124 rfl (nI_inc k) (by decide) rfl ?_
                    refine j_goto (tgt := 5) C d_M_reckon_127 (by decide) ?_
                    have J9 := ih (k + 1) (sm - 0) 1 (by omega) (by rw [← hvs]; show _ = rkS α r m9 (k + 1) (rks α r k sm); rw [e1]) (by rw [← hvb]; show _ = rkB α r m9 (k + 1) (rkb α r k bk); rw [e2])
                    exact j_h (by rw [upd_uu]) (j_pick [0, 1, 4, 5, 6] rfl J9)
                  · refine j_iload_n C d_M_reckon_112 rfl rfl ?_
                    refine j_iload C d_M_reckon_113 rfl ?_
                    refine j_iadd C d_M_reckon_115 ?_
                    refine j_goto (tgt := 123) C d_M_reckon_116 (by decide) ?_
                    refine j_istore_n C d_M_reckon_123 rfl (by decide) rfl ?_
                    have e1 : rks α r k sm = (sm + 0) := by unfold rks; rw [if_neg c20, if_pos c109]; unfold rkV; rw [if_neg c47, if_pos c87]
                    have e2 : rkb α r k bk = 1 := by unfold rkb; rw [if_neg c20, if_neg c47, if_pos (show bk = 0 from c69), if_pos c87]
                    refine j_iinc (v := nI (k + 1)) C d_M_reckon_124 rfl (nI_inc k) (by decide) rfl ?_
                    refine j_goto (tgt := 5) C d_M_reckon_127 (by decide) ?_
                    have J9 := ih (k + 1) (sm + 0) 1 (by omega) (by rw [← hvs]; show _ = rkS α r m9 (k + 1) (rks α r k sm); rw [e1]) (by rw [← hvb]; show _ = rkB α r m9 (k + 1) (rkb α r k bk); rw [e2])
                    exact j_h (by rw [upd_uu]) (j_pick [0, 1, 4, 5, 6] rfl J9)
        · refine j_goto (tgt := 124) C d_M_reckon_23 (by decide) ?_
          have e1 : rks α r k sm = sm := by unfold rks; rw [if_pos c20]
          have e2 : rkb α r k bk = bk := by unfold rkb; rw [if_pos c20]
          refine j_iinc (v := nI (k + 1)) C d_M_reckon_124 rfl (nI_inc k) (by decide) rfl ?_
          refine j_goto (tgt := 5) C d_M_reckon_127 (by decide) ?_
          have J9 := ih (k + 1) sm bk (by omega) (by rw [← hvs]; show _ = rkS α r m9 (k + 1) (rks α r k sm); rw [e1]) (by rw [← hvb]; show _ = rkB α r m9 (k + 1) (rkb α r k bk); rw [e2])
          exact j_pick [0, 1, 2, 3, 4] rfl J9
  refine j_iconst (v := 0) C d_M_reckon_0 (by decide) ?_
  refine j_istore_n C d_M_reckon_1 rfl (by decide) rfl ?_
  refine j_iload_n C d_M_reckon_2 rfl rfl ?_
  refine j_istore C d_M_reckon_3 (by decide) rfl ?_
  refine j_h (h' := ovM mo (upd σ 33 (σ 33)) α h) (by rw [upd_self rfl]) ?_
  exact j_pick [0, 1, 2, 3, 4] rfl (loop 4 k0 0 (σ 33) rfl rfl rfl)
/-! ===== the reference: verdict, check, canSign, put: printed by program ===== -/
/-- it returns v; the heap is one of a family -/
def Ro {τ : Type} (v : Option Value) (n1 : Nat) (F : τ → AH) : Rz → Nat → AH → Prop := fun r n h => ∃ w, r = .inl v ∧ n = n1 ∧ h = F w
section JRo
variable {p : Program} {l : Launch} {e : Env} {R : Room} {s : State} {m : MethodId} {args : Array Value} {below : List Frame} {meth : Method} {c : Code} {D : va_G} {cA : Nat → ClassId} {b nL : Nat} {Q : State → Prop} {n : Nat} {kc ks pc : Nat} {L : List (Nat × Value)} {st : List Value}
theorem jk_o {τ : Type} {x : Value} {F : τ → AH} (k : ∀ w, J p l e R s m args below meth c D cA b nL Q n (F w) kc ks (pc + 3) L (x :: st)) : JK p l e R s m args below meth c D cA b nL Q kc ks pc L st (Ro (some x) n F) := by
  refine ⟨fun v' n' h' hq => ?_, fun ci n' h' q hq => by obtain ⟨w, e1, -⟩ := hq; cases e1⟩
  obtain ⟨w, e1, rfl, rfl⟩ := hq
  cases e1
  exact k w
theorem jk_ov {τ : Type} {F : τ → AH} (k : ∀ w, J p l e R s m args below meth c D cA b nL Q n (F w) kc ks (pc + 3) L st) : JK p l e R s m args below meth c D cA b nL Q kc ks pc L st (Ro none n F) := by
  refine ⟨fun v' n' h' hq => ?_, fun ci n' h' q hq => by obtain ⟨w, e1, -⟩ := hq; cases e1⟩
  obtain ⟨w, e1, rfl, rfl⟩ := hq
  cases e1
  exact k w
end JRo
/-- how the two sums stand -/
def mcmp (s a z : Int32) : Int32 := if s = 60 then (if z ≤ a then 2 else 0) else if s = 61 then (if a = z then 0 else 2) else if z < a then 2 else 0
def mvd (α : Nat → Nat → Int32) (r q : Nat) : Int32 := if mias α r 8 (8 * q) = 0 then 0 else if rkB α r 4 (8 * q + 4) (rkB α r 4 (8 * q) 0) = 0 then mcmp (α 22 q) (rkS α r 4 (8 * q) 0) (rkS α r 4 (8 * q + 4) 0) else 3
set_option maxHeartbeats 4000000 in
set_option maxRecDepth 100000 in
theorem c_M_verdict {l : Launch} (hl : l.stackTraces = false) {D : va_G} {cA : Nat → ClassId} {b n mo : Nat} (r q : Nat) (σ : Nat → Int32) (α : Nat → Nat → Int32) (h : AH) (hmo : mo + 27 < n) (hr : r < 30) (hq : q < 20) (hF : FR α) : Cn l D cA b y_M_verdict k_M_verdict 2 32 0 0 [.ref mo, .int (nI r), .int (nI q)] n (ovM mo σ α h) (Ro (some (.int (mvd α r q))) n (fun w : Int32 => ovM mo (upd σ 33 w) α h)) := by
  refine Cn.of (cc := b_M_verdict) (maxL := 5) (ret := (some .int)) (hh := []) (by decide +kernel) hl (Or.inl ⟨rfl, rfl⟩) (Nat.le_of_ble_eq_true rfl) ?_
  intro p e s m args below meth c C
  refine j_aload_n C d_M_verdict_0 rfl rfl ?_
  refine j_iload_n C d_M_verdict_1 rfl rfl ?_
  refine j_iload_n C d_M_verdict_2 rfl rfl ?_
  refine j_callV C d_M_verdict_3 ml_M_181 mc_M_isAsked in_M_isAsked rfl se_M_isAsked (by omega) (ovM_o _ _ _ _) (c_M_isAsked hl r q _ _ _ hmo hr hq hF) rfl rfl (Nat.le_of_ble_eq_true rfl) (Nat.le_of_ble_eq_true rfl) (Nat.le_of_ble_eq_true rfl) (Nat.le_of_ble_eq_true rfl) (jk_r ?_)
  refine j_if_ne (tgt := 11) C d_M_verdict_6 (by decide) (fun c6 => ?_) (fun c6 => ?_)
  · refine j_aload_n C d_M_verdict_11 rfl rfl ?_
    refine j_iconst (v := 0) C d_M_verdict_12 (by decide) ?_
    refine jm_puti 33 C fp_6_177 d_M_verdict_13 hmo (by decide) (by first | rfl | assumption) rfl rfl ?_
    refine j_aload_n C d_M_verdict_16 rfl rfl ?_
    refine j_iload_n C d_M_verdict_17 rfl rfl ?_
    refine j_bipush (v := 8) C d_M_verdict_18 (by decide) ?_
    refine j_iload_n C d_M_verdict_20 rfl rfl ?_
    refine j_imul C d_M_verdict_21 ?_
    rw [e8]
    refine j_callV C d_M_verdict_22 ml_M_184 mc_M_reckon in_M_reckon rfl se_M_reckon (by omega) (ovM_o _ _ _ _) (c_M_reckon hl r (8 * q) _ _ _ hmo hr (by omega) hF) rfl rfl (Nat.le_of_ble_eq_true rfl) (Nat.le_of_ble_eq_true rfl) (Nat.le_of_ble_eq_true rfl) (Nat.le_of_ble_eq_true rfl) (jk_r ?_)
    refine j_istore_n C d_M_verdict_25 rfl (by decide) rfl ?_
    refine j_aload_n C d_M_verdict_26 rfl rfl ?_
    refine j_iload_n C d_M_verdict_27 rfl rfl ?_
    refine j_bipush (v := 8) C d_M_verdict_28 (by decide) ?_
    refine j_iload_n C d_M_verdict_30 rfl rfl ?_
    refine j_imul C d_M_verdict_31 ?_
    refine j_iconst (v := 4) C d_M_verdict_32 (by decide) ?_
    refine j_iadd C d_M_verdict_33 ?_
    rw [e8c]
    refine j_callV C d_M_verdict_34 ml_M_184 mc_M_reckon in_M_reckon rfl se_M_reckon (by omega) (ovM_o _ _ _ _) (c_M_reckon hl r (8 * q + 4) _ _ _ hmo hr (by omega) hF) rfl rfl (Nat.le_of_ble_eq_true rfl) (Nat.le_of_ble_eq_true rfl) (Nat.le_of_ble_eq_true rfl) (Nat.le_of_ble_eq_true rfl) (jk_r ?_)
    refine j_h (h' := ovM mo (upd σ 33 (rkB α r 4 (8 * q + 4) (rkB α r 4 (8 * q) 0))) α h) (by rw [upd_uu, upd_uu]; rfl) ?_
    refine j_istore C d_M_verdict_37 (by decide) rfl ?_
    refine j_aload_n C d_M_verdict_39 rfl rfl ?_
    refine jm_get C fl_6_177 d_M_verdict_40 hmo rfl ?_
    refine j_if_eq (tgt := 48) C d_M_verdict_43 (by decide) (fun c43 => ?_) (fun c43 => ?_)
    · refine j_aload_n C d_M_verdict_48 rfl rfl ?_
      refine jm_get C fl_6_57 d_M_verdict_49 hmo rfl ?_
      refine j_iload_n C d_M_verdict_52 rfl rfl ?_
      refine jm_ialdn C 14 (q) d_M_verdict_53 (by decide) rfl hmo rfl (by omega) (by omega) ?_
      refine j_bipush (v := 60) C d_M_verdict_54 (by decide) ?_
      refine j_icmp_ne (tgt := 68) C d_M_verdict_56 (by decide) (fun c56 => ?_) (fun c56 => ?_)
      · refine j_aload_n C d_M_verdict_68 rfl rfl ?_
        refine jm_get C fl_6_57 d_M_verdict_69 hmo rfl ?_
        refine j_iload_n C d_M_verdict_72 rfl rfl ?_
        refine jm_ialdn C 14 (q) d_M_verdict_73 (by decide) rfl hmo rfl (by omega) (by omega) ?_
        refine j_bipush (v := 61) C d_M_verdict_74 (by decide) ?_
        refine j_icmp_ne (tgt := 88) C d_M_verdict_76 (by decide) (fun c76 => ?_) (fun c76 => ?_)
        · refine j_iload_n C d_M_verdict_88 rfl rfl ?_
          refine j_iload C d_M_verdict_89 rfl ?_
          refine j_icmp_gt (tgt := 98) C d_M_verdict_91 (by decide) (fun c91 => ?_) (fun c91 => ?_)
          · refine j_iconst (v := 2) C d_M_verdict_98 (by decide) ?_
            exact j_ireturn C d_M_verdict_99 rfl (by decide) (by decide) ⟨_, by unfold mvd; rw [if_neg c6, if_pos (show rkB α r 4 (8 * q + 4) (rkB α r 4 (8 * q) 0) = 0 from c43)]; unfold mcmp; rw [if_neg c56, if_neg c76, if_pos c91], rfl, rfl⟩
          · refine j_iconst (v := 0) C d_M_verdict_94 (by decide) ?_
            refine j_goto (tgt := 99) C d_M_verdict_95 (by decide) ?_
            exact j_ireturn C d_M_verdict_99 rfl (by decide) (by decide) ⟨_, by unfold mvd; rw [if_neg c6, if_pos (show rkB α r 4 (8 * q + 4) (rkB α r 4 (8 * q) 0) = 0 from c43)]; unfold mcmp; rw [if_neg c56, if_neg c76, if_neg c91], rfl, rfl⟩
        · refine j_iload_n C d_M_verdict_79 rfl rfl ?_
          refine j_iload C d_M_verdict_80 rfl ?_
          refine j_icmp_ne (tgt := 98) C d_M_verdict_82 (by decide) (fun c82 => ?_) (fun c82 => ?_)
          · refine j_iconst (v := 2) C d_M_verdict_98 (by decide) ?_
            exact j_ireturn C d_M_verdict_99 rfl (by decide) (by decide) ⟨_, by unfold mvd; rw [if_neg c6, if_pos (show rkB α r 4 (8 * q + 4) (rkB α r 4 (8 * q) 0) = 0 from c43)]; unfold mcmp; rw [if_neg c56, if_pos c76, if_neg c82], rfl, rfl⟩
          · refine j_goto (tgt := 94) C d_M_verdict_85 (by decide) ?_
            refine j_iconst (v := 0) C d_M_verdict_94 (by decide) ?_
            refine j_goto (tgt := 99) C d_M_verdict_95 (by decide) ?_
            exact j_ireturn C d_M_verdict_99 rfl (by decide) (by decide) ⟨_, by unfold mvd; rw [if_neg c6, if_pos (show rkB α r 4 (8 * q + 4) (rkB α r 4 (8 * q) 0) = 0 from c43)]; unfold mcmp; rw [if_neg c56, if_pos c76, if_pos c82], rfl, rfl⟩
      · refine j_iload_n C d_M_verdict_59 rfl rfl ?_
        refine j_iload C d_M_verdict_60 rfl ?_
        refine j_icmp_ge (tgt := 98) C d_M_verdict_62 (by decide) (fun c62 => ?_) (fun c62 => ?_)
        · refine j_iconst (v := 2) C d_M_verdict_98 (by decide) ?_
          exact j_ireturn C d_M_verdict_99 rfl (by decide) (by decide) ⟨_, by unfold mvd; rw [if_neg c6, if_pos (show rkB α r 4 (8 * q + 4) (rkB α r 4 (8 * q) 0) = 0 from c43)]; unfold mcmp; rw [if_pos c56, if_pos c62], rfl, rfl⟩
        · refine j_goto (tgt := 94) C d_M_verdict_65 (by decide) ?_
          refine j_iconst (v := 0) C d_M_verdict_94 (by decide) ?_
          refine j_goto (tgt := 99) C d_M_verdict_95 (by decide) ?_
          exact j_ireturn C d_M_verdict_99 rfl (by decide) (by decide) ⟨_, by unfold mvd; rw [if_neg c6, if_pos (show rkB α r 4 (8 * q + 4) (rkB α r 4 (8 * q) 0) = 0 from c43)]; unfold mcmp; rw [if_pos c56, if_neg c62], rfl, rfl⟩
    · refine j_iconst (v := 3) C d_M_verdict_46 (by decide) ?_
      exact j_ireturn C d_M_verdict_47 rfl (by decide) (by decide) ⟨_, by unfold mvd; rw [if_neg c6, if_neg (show ¬ rkB α r 4 (8 * q + 4) (rkB α r 4 (8 * q) 0) = 0 from c43)], rfl, rfl⟩
  · refine j_iconst (v := 0) C d_M_verdict_9 (by decide) ?_
    exact j_ireturn C d_M_verdict_10 rfl (by decide) (by decide) ⟨σ 33, by unfold mvd; rw [if_pos c6], rfl, by show _ = ovM mo (upd σ 33 (σ 33)) α h; rw [upd_self rfl]⟩
/-! ===== the reference: check, canSign, put: printed by program ===== -/
/-- it returns v, with a heap so that P -/
def Rp (v : Option Value) (n1 : Nat) (P : AH → Prop) : Rz → Nat → AH → Prop := fun r n h => r = .inl v ∧ n = n1 ∧ P h
section JRp
variable {p : Program} {l : Launch} {e : Env} {R : Room} {s : State} {m : MethodId} {args : Array Value} {below : List Frame} {meth : Method} {c : Code} {D : va_G} {cA : Nat → ClassId} {b nL : Nat} {Q : State → Prop} {n : Nat} {kc ks pc : Nat} {L : List (Nat × Value)} {st : List Value}
theorem jk_p {x : Value} {P : AH → Prop} (k : ∀ h, P h → J p l e R s m args below meth c D cA b nL Q n h kc ks (pc + 3) L (x :: st)) : JK p l e R s m args below meth c D cA b nL Q kc ks pc L st (Rp (some x) n P) := by
  refine ⟨fun v' n' h' hq => ?_, fun ci n' h' q hq => by cases hq.1⟩
  obtain ⟨e1, rfl, hp⟩ := hq
  cases e1
  exact k h' hp
theorem jk_pv {P : AH → Prop} (k : ∀ h, P h → J p l e R s m args below meth c D cA b nL Q n h kc ks (pc + 3) L st) : JK p l e R s m args below meth c D cA b nL Q kc ks pc L st (Rp none n P) := by
  refine ⟨fun v' n' h' hq => ?_, fun ci n' h' q hq => by cases hq.1⟩
  obtain ⟨e1, rfl, hp⟩ := hq
  cases e1
  exact k h' hp
end JRp
/-- all the arrays but those of what is wanting -/
def Aw (α1 α : Nat → Nat → Int32) : Prop := ∀ k, k ≠ 35 → k ≠ 36 → α1 k = α k
theorem Aw_e {α1 α : Nat → Nat → Int32} (hA : Aw α1 α) : α1 = upa (upa α 35 (α1 35)) 36 (α1 36) := by
  funext k
  unfold upa
  by_cases e : k = 36
  · rw [if_pos e, e]
  · rw [if_neg e]
    by_cases e2 : k = 35
    · rw [if_pos e2, e2]
    · rw [if_neg e2]
      exact hA k e2 e
theorem mias_u (α : Nat → Nat → Int32) (f g : Nat → Int32) (r : Nat) : ∀ n k, mias (upa (upa α 35 f) 36 g) r n k = mias α r n k := by
  intro n
  induction n with
  | zero => intro k; rfl
  | succ n ih =>
    intro k
    show (if α 23 k ≤ 0 then mias (upa (upa α 35 f) 36 g) r n (k + 1) else if mhas α (nI r) (α 24 k) = 0 then 0 else if α 26 k = 0 then mias (upa (upa α 35 f) 36 g) r n (k + 1) else if mhas α (nI r) (α 25 k) = 0 then 0 else mias (upa (upa α 35 f) 36 g) r n (k + 1)) = _
    rw [ih]
    rfl
theorem rkS_u (α : Nat → Nat → Int32) (f g : Nat → Int32) (r : Nat) : ∀ n k s, rkS (upa (upa α 35 f) 36 g) r n k s = rkS α r n k s := by
  intro n
  induction n with
  | zero => intro k s; rfl
  | succ n ih =>
    intro k s
    show rkS (upa (upa α 35 f) 36 g) r n (k + 1) (rks α r k s) = _
    rw [ih]
    rfl
theorem rkB_u (α : Nat → Nat → Int32) (f g : Nat → Int32) (r : Nat) : ∀ n k s, rkB (upa (upa α 35 f) 36 g) r n k s = rkB α r n k s := by
  intro n
  induction n with
  | zero => intro k s; rfl
  | succ n ih =>
    intro k s
    show rkB (upa (upa α 35 f) 36 g) r n (k + 1) (rkb α r k s) = _
    rw [ih]
    rfl
theorem mvd_u (α : Nat → Nat → Int32) (f g : Nat → Int32) (r q : Nat) : mvd (upa (upa α 35 f) 36 g) r q = mvd α r q := by
  show (if mias (upa (upa α 35 f) 36 g) r 8 (8 * q) = 0 then 0 else if rkB (upa (upa α 35 f) 36 g) r 4 (8 * q + 4) (rkB (upa (upa α 35 f) 36 g) r 4 (8 * q) 0) = 0 then mcmp (α 22 q) (rkS (upa (upa α 35 f) 36 g) r 4 (8 * q) 0) (rkS (upa (upa α 35 f) 36 g) r 4 (8 * q + 4) 0) else 3) = _
  rw [mias_u, rkB_u, rkB_u, rkS_u, rkS_u]
  rfl
theorem mvd_c {α1 α : Nat → Nat → Int32} (hA : Aw α1 α) (r q : Nat) : mvd α1 r q = mvd α r q := by
  rw [Aw_e hA]
  exact mvd_u α _ _ r q
theorem FR_c {α1 α : Nat → Nat → Int32} (hA : Aw α1 α) (hF : FR α) : FR α1 := by
  intro k hk
  rw [hA 24 (by decide) (by decide), hA 25 (by decide) (by decide)]
  exact hF k hk
/-- what is wanting, as the arrays tell it -/
def Wl (α : Nat → Nat → Int32) (w : List (Int32 × Int32)) : Prop := ∀ j x, w[j]? = some x → α 35 j = x.1 ∧ α 36 j = x.2
def cki (α : Nat → Nat → Int32) (r kd f : Nat) : List (Int32 × Int32) := if α 14 (20 * kd + f) = 0 then [] else if α 10 (20 * r + f) = 0 then [(1, nI f)] else []
def ckf (α : Nat → Nat → Int32) (r kd : Nat) : Nat → Nat → List (Int32 × Int32)
  | 0, _ => []
  | n + 1, f => cki α r kd f ++ ckf α r kd n (f + 1)
def ckj (α : Nat → Nat → Int32) (r q : Nat) : List (Int32 × Int32) := if mvd α r q ≤ 0 then [] else [(mvd α r q, nI q)]
def ckr (α : Nat → Nat → Int32) (r : Nat) : Nat → Nat → List (Int32 × Int32)
  | 0, _ => []
  | n + 1, q => ckj α r q ++ ckr α r n (q + 1)
def ckl (α : Nat → Nat → Int32) (r kd nq : Nat) : List (Int32 × Int32) := ckf α r kd 20 0 ++ ckr α r nq 0
theorem Wl_nil (α : Nat → Nat → Int32) : Wl α [] := fun j x h => by cases h
theorem Wl_push {σ : Nat → Int32} {α : Nat → Nat → Int32} {w : List (Int32 × Int32)} {x y : Int32} (hw : Wl α w) (hs : σ 34 = nI w.length) (hl : w.length < 40) : Wl (mwanted σ α x y).2 (w ++ [(x, y)]) := by
  intro j z hz
  have hc : (σ 34).toNatClampNeg = w.length := by rw [hs, nI_clamp (by omega)]
  show upd (α 35) (σ 34).toNatClampNeg x j = z.1 ∧ upd (α 36) (σ 34).toNatClampNeg y j = z.2
  rw [hc]
  by_cases e : j = w.length
  · subst e
    rw [List.getElem?_append_right (Nat.le_refl _), Nat.sub_self] at hz
    cases hz
    exact ⟨pk_us, pk_us⟩
  · rw [pk_un e, pk_un e]
    by_cases e2 : j < w.length
    · rw [List.getElem?_append_left e2] at hz
      exact hw j z hz
    · rw [List.getElem?_eq_none (by rw [List.length_append, List.length_singleton]; omega)] at hz
      cases hz
theorem Aw_push {σ : Nat → Int32} {α1 α : Nat → Nat → Int32} {x y : Int32} (hA : Aw α1 α) : Aw (mwanted σ α1 x y).2 α := by
  intro k h1 h2
  show upa (upa α1 35 _) 36 _ k = α k
  rw [upa_n h2, upa_n h1]
  exact hA k h1 h2
theorem len_snoc {τ : Type} (w : List τ) (x : τ) : (w ++ [x]).length = w.length + 1 := by simp
theorem upd_x {f : Nat → Int32} {k j : Nat} {x y : Int32} (h : k ≠ j) : upd (upd f k x) j y = upd (upd f j y) k x := by
  funext i
  by_cases e : i = j
  · subst e
    rw [pk_us, pk_un (Ne.symm h), pk_us]
  · rw [pk_un e]
    by_cases e2 : i = k
    · subst e2; rw [pk_us, pk_us]
    · rw [pk_un e2, pk_un e2, pk_un e]
set_option maxHeartbeats 4000000 in
set_option maxRecDepth 100000 in
theorem c_M_check_r {l : Launch} (hl : l.stackTraces = false) {D : va_G} {cA : Nat → ClassId} {b n mo : Nat} (r : Nat) (σ : Nat → Int32) (α : Nat → Nat → Int32) (h : AH) (hmo : mo + 27 < n) (nr : Nat) (hnr : σ 2 = nI nr) (hle : nr ≤ 30) (hr : r < nr) (kd : Nat) (hkd : α 4 r = nI kd) (hkl : kd < 5) (nq : Nat) (hnq : σ 21 = nI nq) (hql : nq ≤ 20) (hF : FR α) : Cn l D cA b y_M_check k_M_check 3 49 0 0 [.ref mo, .int (nI r)] n (ovM mo σ α h) (Rp (some (.int (nI (ckl α r kd nq).length))) n (fun h' => ∃ (w : Int32) (α1 : Nat → Nat → Int32), h' = ovM mo (upd (upd (upd σ 0 0) 34 (nI (ckl α r kd nq).length)) 33 w) α1 h ∧ Wl α1 (ckl α r kd nq) ∧ Aw α1 α)) := by
  refine Cn.of (cc := b_M_check) (maxL := 3) (ret := (some .int)) (hh := []) (by decide +kernel) hl (Or.inl ⟨rfl, rfl⟩) (Nat.le_of_ble_eq_true rfl) ?_
  intro p e s m args below meth c C
  have loop2 : ∀ (m9 q : Nat) (w : List (Int32 × Int32)) (α1 : Nat → Nat → Int32) (bk : Int32), q + m9 = nq → w.length ≤ 20 + q → Wl α1 w → Aw α1 α → w ++ ckr α r m9 q = (ckl α r kd nq) → J p l e { frames := 3, cells := 0, slots := 0, locals := 49 } s m args below meth c D cA b 3 (EndQ D cA b s below (Rp (some (.int (nI (ckl α r kd nq).length))) n (fun h' => ∃ (w : Int32) (α1 : Nat → Nat → Int32), h' = ovM mo (upd (upd (upd σ 0 0) 34 (nI (ckl α r kd nq).length)) 33 w) α1 h ∧ Wl α1 (ckl α r kd nq) ∧ Aw α1 α)) 0 0) n (ovM mo (upd (upd (upd σ 0 0) 34 (nI w.length)) 33 bk) α1 h) 0 0 76 [(2, .int (nI q)), (0, .ref mo), (1, .int (nI r))] [] := by
    intro m9
    induction m9 with
    | zero =>
      intro q w α1 bk hq hlen hW hA hv
      obtain rfl : q = nq := by omega
      refine j_iload_n C d_M_check_76 rfl rfl ?_
      refine j_aload_n C d_M_check_77 rfl rfl ?_
      refine jm_get C fl_6_166 d_M_check_78 hmo rfl ?_
      refine j_icmp_ge (tgt := 110) C d_M_check_81 (by decide) (fun c81 => ?_) (fun c81 => ?_)
      · refine j_aload_n C d_M_check_110 rfl rfl ?_
        refine jm_get C fl_6_187 d_M_check_111 hmo rfl ?_
        obtain rfl : w = (ckl α r kd q) := by rw [← hv]; exact (List.append_nil _).symm
        exact j_ireturn C d_M_check_114 rfl (by decide) (by decide) ⟨rfl, rfl, bk, α1, rfl, hW, hA⟩
      · exact absurd (show σ 21 ≤ nI q by rw [hnq]; exact nI_le (Nat.le_refl _) (by omega)) c81
    | succ m9 ih =>
      intro q w α1 bk hq hlen hW hA hv
      refine j_iload_n C d_M_check_76 rfl rfl ?_
      refine j_aload_n C d_M_check_77 rfl rfl ?_
      refine jm_get C fl_6_166 d_M_check_78 hmo rfl ?_
      refine j_icmp_ge (tgt := 110) C d_M_check_81 (by decide) (fun c81 => ?_) (fun c81 => ?_)
      · exact absurd (show σ 21 ≤ nI q from c81) (by rw [hnq]; exact nI_ge (by omega) (by omega))
      · refine j_aload_n C d_M_check_84 rfl rfl ?_
        refine j_iload_n C d_M_check_85 rfl rfl ?_
        refine j_iload_n C d_M_check_86 rfl rfl ?_
        refine j_callV C d_M_check_87 ml_M_194 mc_M_verdict in_M_verdict rfl se_M_verdict (by omega) (ovM_o _ _ _ _) (c_M_verdict hl r q _ _ _ hmo (by omega) (by omega) (FR_c hA hF)) rfl rfl (Nat.le_of_ble_eq_true rfl) (Nat.le_of_ble_eq_true rfl) (Nat.le_of_ble_eq_true rfl) (Nat.le_of_ble_eq_true rfl) (jk_o (fun b1 => ?_))
        refine j_if_le (tgt := 104) C d_M_check_90 (by decide) (fun c90 => ?_) (fun c90 => ?_)
        · rw [mvd_c hA r q] at c90
          have e9 : ckj α r q = [] := by unfold ckj; rw [if_pos c90]
          refine j_iinc (v := nI (q + 1)) C d_M_check_104 rfl (nI_inc q) (by decide) rfl ?_
          refine j_goto (tgt := 76) C d_M_check_107 (by decide) ?_
          exact j_h (by rw [upd_uu]) (j_pick [0, 1, 2] rfl (ih (q + 1) w α1 b1 (by omega) (by omega) hW hA (by rw [← hv]; show _ = w ++ (ckj α r q ++ _); rw [e9]; rfl)))
        · refine j_aload_n C d_M_check_93 rfl rfl ?_
          refine j_aload_n C d_M_check_94 rfl rfl ?_
          refine j_iload_n C d_M_check_95 rfl rfl ?_
          refine j_iload_n C d_M_check_96 rfl rfl ?_
          refine j_callV C d_M_check_97 ml_M_194 mc_M_verdict in_M_verdict rfl se_M_verdict (by omega) (ovM_o _ _ _ _) (c_M_verdict hl r q _ _ _ hmo (by omega) (by omega) (FR_c hA hF)) rfl rfl (Nat.le_of_ble_eq_true rfl) (Nat.le_of_ble_eq_true rfl) (Nat.le_of_ble_eq_true rfl) (Nat.le_of_ble_eq_true rfl) (jk_o (fun b2 => ?_))
          refine j_iload_n C d_M_check_100 rfl rfl ?_
          refine j_callV C d_M_check_101 ml_M_190 mc_M_wanted in_M_wanted rfl se_M_wanted (by omega) (ovM_o _ _ _ _) (c_M_wanted hl _ _ _ _ _ hmo (show vp_in (nI w.length) 40 from vp_in_nI (by omega) (by omega))) rfl rfl (Nat.le_of_ble_eq_true rfl) (Nat.le_of_ble_eq_true rfl) (Nat.le_of_ble_eq_true rfl) (Nat.le_of_ble_eq_true rfl) (jk_v ?_)
          rw [mvd_c hA r q] at c90
          have e9 : ckj α r q = [(mvd α r q, nI q)] := by unfold ckj; rw [if_neg c90]
          refine j_iinc (v := nI (q + 1)) C d_M_check_104 rfl (nI_inc q) (by decide) rfl ?_
          refine j_goto (tgt := 76) C d_M_check_107 (by decide) ?_
          exact j_h (by rw [mvd_c hA r q]; show ovM mo (upd (upd (upd (upd (upd (upd σ 0 0) 34 (nI w.length)) 33 bk) 33 b1) 33 b2) 34 (nI w.length + 1)) _ h = ovM mo (upd (upd (upd σ 0 0) 34 (nI (w ++ [(mvd α r q, nI q)]).length)) 33 b2) _ h; rw [upd_uu, upd_uu, upd_x (show (33 : Nat) ≠ 34 by decide), upd_uu, nI_1, len_snoc]) (j_pick [0, 1, 2] rfl (ih (q + 1) (w ++ [(mvd α r q, nI q)]) _ b2 (by omega) (by rw [len_snoc]; omega) (Wl_push hW rfl (by omega)) (Aw_push hA) (by rw [← hv]; show _ = w ++ (ckj α r q ++ _); rw [e9]; simp)))
  have loop1 : ∀ (m9 f : Nat) (w : List (Int32 × Int32)) (α1 : Nat → Nat → Int32), f + m9 = 20 → w.length ≤ f → Wl α1 w → Aw α1 α → w ++ ckf α r kd m9 f ++ ckr α r nq 0 = (ckl α r kd nq) → J p l e { frames := 3, cells := 0, slots := 0, locals := 49 } s m args below meth c D cA b 3 (EndQ D cA b s below (Rp (some (.int (nI (ckl α r kd nq).length))) n (fun h' => ∃ (w : Int32) (α1 : Nat → Nat → Int32), h' = ovM mo (upd (upd (upd σ 0 0) 34 (nI (ckl α r kd nq).length)) 33 w) α1 h ∧ Wl α1 (ckl α r kd nq) ∧ Aw α1 α)) 0 0) n (ovM mo (upd (upd σ 0 0) 34 (nI w.length)) α1 h) 0 0 23 [(2, .int (nI f)), (0, .ref mo), (1, .int (nI r))] [] := by
    intro m9
    induction m9 with
    | zero =>
      intro f w α1 hf hlen hW hA hv
      obtain rfl : f = 20 := by omega
      have hv : w ++ ckr α r nq 0 = (ckl α r kd nq) := by rw [← hv]; show _ = w ++ [] ++ _; rw [List.append_nil]
      refine j_iload_n C d_M_check_23 rfl rfl ?_
      refine j_bipush (v := 20) C d_M_check_24 (by decide) ?_
      refine j_icmp_ge (tgt := 74) C d_M_check_26 (by decide) (fun c26 => ?_) (fun c26 => ?_)
      · refine j_iconst (v := 0) C d_M_check_74 (by decide) ?_
        refine j_istore_n C d_M_check_75 rfl (by decide) rfl ?_
        refine j_h (h' := ovM mo (upd (upd (upd σ 0 0) 34 (nI w.length)) 33 (σ 33)) α1 h) (by rw [upd_self (show upd (upd σ 0 0) 34 (nI w.length) 33 = σ 33 from rfl)]) ?_
        exact j_pick [0, 1, 2] rfl (loop2 nq 0 w α1 (σ 33) (by omega) (by omega) hW hA hv)
      · exact absurd (by decide) c26
    | succ m9 ih =>
      intro f w α1 hf hlen hW hA hv
      refine j_iload_n C d_M_check_23 rfl rfl ?_
      refine j_bipush (v := 20) C d_M_check_24 (by decide) ?_
      refine j_icmp_ge (tgt := 74) C d_M_check_26 (by decide) (fun c26 => ?_) (fun c26 => ?_)
      · exact absurd (show nI 20 ≤ nI f from c26) (nI_ge (by omega) (by omega))
      · refine j_aload_n C d_M_check_29 rfl rfl ?_
        refine jm_get C fl_6_44 d_M_check_30 hmo rfl ?_
        refine j_bipush (v := 20) C d_M_check_33 (by decide) ?_
        refine j_aload_n C d_M_check_35 rfl rfl ?_
        refine jm_get C fl_6_13 d_M_check_36 hmo rfl ?_
        refine j_iload_n C d_M_check_39 rfl rfl ?_
        refine jm_ialdn C 1 (r) d_M_check_40 (by decide) rfl hmo rfl (by omega) (by omega) ?_
        refine j_imul C d_M_check_41 ?_
        refine j_iload_n C d_M_check_42 rfl rfl ?_
        refine j_iadd C d_M_check_43 ?_
        refine jm_zaldn C 11 (20 * kd + f) d_M_check_44 (by decide) rfl hmo (by rw [hA 4 (by decide) (by decide), hkd]; exact e20 kd f) (by omega) (by omega) ?_
        refine j_if_eq (tgt := 68) C d_M_check_45 (by decide) (fun c45 => ?_) (fun c45 => ?_)
        · rw [hA 14 (by decide) (by decide)] at c45
          have e9 : cki α r kd f = [] := by unfold cki; rw [if_pos c45]
          refine j_iinc (v := nI (f + 1)) C d_M_check_68 rfl (nI_inc f) (by decide) rfl ?_
          refine j_goto (tgt := 23) C d_M_check_71 (by decide) ?_
          exact j_pick [0, 1, 2] rfl (ih (f + 1) w α1 (by omega) (by omega) hW hA (by rw [← hv]; show _ = w ++ (cki α r kd f ++ _) ++ _; rw [e9]; rfl))
        · refine j_aload_n C d_M_check_48 rfl rfl ?_
          refine jm_get C fl_6_31 d_M_check_49 hmo rfl ?_
          refine j_bipush (v := 20) C d_M_check_52 (by decide) ?_
          refine j_iload_n C d_M_check_54 rfl rfl ?_
          refine j_imul C d_M_check_55 ?_
          refine j_iload_n C d_M_check_56 rfl rfl ?_
          refine j_iadd C d_M_check_57 ?_
          refine jm_zaldn C 7 (20 * r + f) d_M_check_58 (by decide) rfl hmo (e20 r f) (by omega) (by omega) ?_
          refine j_if_ne (tgt := 68) C d_M_check_59 (by decide) (fun c59 => ?_) (fun c59 => ?_)
          · rw [hA 14 (by decide) (by decide)] at c45
            rw [hA 10 (by decide) (by decide)] at c59
            have e9 : cki α r kd f = [] := by unfold cki; rw [if_neg c45, if_neg c59]
            refine j_iinc (v := nI (f + 1)) C d_M_check_68 rfl (nI_inc f) (by decide) rfl ?_
            refine j_goto (tgt := 23) C d_M_check_71 (by decide) ?_
            exact j_pick [0, 1, 2] rfl (ih (f + 1) w α1 (by omega) (by omega) hW hA (by rw [← hv]; show _ = w ++ (cki α r kd f ++ _) ++ _; rw [e9]; rfl))
          · refine j_aload_n C d_M_check_62 rfl rfl ?_
            refine j_iconst (v := 1) C d_M_check_63 (by decide) ?_
            refine j_iload_n C d_M_check_64 rfl rfl ?_
            refine j_callV C d_M_check_65 ml_M_190 mc_M_wanted in_M_wanted rfl se_M_wanted (by omega) (ovM_o _ _ _ _) (c_M_wanted hl _ _ _ _ _ hmo (show vp_in (nI w.length) 40 from vp_in_nI (by omega) (by omega))) rfl rfl (Nat.le_of_ble_eq_true rfl) (Nat.le_of_ble_eq_true rfl) (Nat.le_of_ble_eq_true rfl) (Nat.le_of_ble_eq_true rfl) (jk_v ?_)
            rw [hA 14 (by decide) (by decide)] at c45
            rw [hA 10 (by decide) (by decide)] at c59
            have e9 : cki α r kd f = [(1, nI f)] := by unfold cki; rw [if_neg c45, if_pos c59]
            refine j_iinc (v := nI (f + 1)) C d_M_check_68 rfl (nI_inc f) (by decide) rfl ?_
            refine j_goto (tgt := 23) C d_M_check_71 (by decide) ?_
            exact j_h (by show ovM mo (upd (upd (upd σ 0 0) 34 (nI w.length)) 34 (nI w.length + 1)) _ h = _; rw [upd_uu, nI_1, ← len_snoc]) (j_pick [0, 1, 2] rfl (ih (f + 1) (w ++ [(1, nI f)]) _ (by omega) (by rw [List.length_append, List.length_singleton]; omega) (Wl_push hW rfl (by omega)) (Aw_push hA) (by rw [← hv]; show _ = w ++ (cki α r kd f ++ _) ++ _; rw [e9]; simp)))
  refine j_aload_n C d_M_check_0 rfl rfl ?_
  refine j_aload_n C d_M_check_1 rfl rfl ?_
  refine j_iload_n C d_M_check_2 rfl rfl ?_
  refine j_callV C d_M_check_3 ml_M_121 mc_M_isReport in_M_isReport rfl se_M_isReport (by omega) (ovM_o _ _ _ _) (c_M_isReportK hl _ _ _ _ hmo (in_rep hnr hle hr)) rfl rfl (Nat.le_of_ble_eq_true rfl) (Nat.le_of_ble_eq_true rfl) (Nat.le_of_ble_eq_true rfl) (Nat.le_of_ble_eq_true rfl) (jk_r ?_)
  refine j_iconst (v := 1) C d_M_check_6 (by decide) ?_
  refine j_iconst (v := 1) C d_M_check_7 (by decide) ?_
  refine j_callV C d_M_check_8 ml_M_109 mc_M_goes in_M_goes rfl se_M_goes (by omega) (ovM_o _ _ _ _) (c_M_goesK hl _ _ _ _ _ _ hmo (gs_0 (by decide) (by decide) (by decide))) rfl rfl (Nat.le_of_ble_eq_true rfl) (Nat.le_of_ble_eq_true rfl) (Nat.le_of_ble_eq_true rfl) (Nat.le_of_ble_eq_true rfl) (jk_r ?_)
  refine j_if_ne (tgt := 16) C d_M_check_11 (by decide) (fun c11 => ?_) (fun c11 => ?_)
  · refine j_aload_n C d_M_check_16 rfl rfl ?_
    refine j_iconst (v := 0) C d_M_check_17 (by decide) ?_
    refine jm_puti 34 C fp_6_187 d_M_check_18 hmo (by decide) (by first | rfl | assumption) rfl rfl ?_
    refine j_iconst (v := 0) C d_M_check_21 (by decide) ?_
    refine j_istore_n C d_M_check_22 rfl (by decide) rfl ?_
    exact j_pick [0, 1, 2] rfl (loop1 20 0 [] α rfl (by simp) (Wl_nil α) (fun _ _ _ => rfl) rfl)
  · exact absurd c11 (by decide)
