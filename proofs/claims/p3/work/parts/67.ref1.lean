/-! ===== the reference: indices as numbers; count, edition: printed by program ===== -/
section JMn
variable {p : Program} {l : Launch} {e : Env} {R : Room} {s : State} {m : MethodId} {args : Array Value} {below : List Frame} {meth : Method} {c : Code} {D : va_G} {cA : Nat → ClassId} {b nL : Nat} {Q : State → Prop} {n : Nat} {h : AH} {kc ks pc : Nat} {L : List (Nat × Value)} {st : List Value} {mn : String} {cc : ByteArray} {ret : Option FieldType} {hh : List (Nat × Nat × Nat × Nat)} {mo : Nat} {σ σ' : Nat → Int32} {α α' : Nat → Nat → Int32}

theorem jm_ialdn (C : Cx p l s m meth c D cA b nL cR6 mn cc ret hh) (o j : Nat) {N : Nat} {f : Nat → Int32} {i : Int32} (hd : decode cc pc = .ok (.iaload, 1)) (ho : o < 27) (hx : (mar α)[o]? = some (.inl (0, N, .inl f))) (hmo : mo + 27 < n) (hij : i = nI j) (hj : j < N) (hN : N < 2 ^ 31) (kk : J p l e R s m args below meth c D cA b nL Q n (ovM mo σ α h) kc ks (pc + 1) L (.int (f j) :: st)) : J p l e R s m args below meth c D cA b nL Q n (ovM mo σ α h) kc ks pc L (.int i :: .ref (mo + (o + 1)) :: st) := by
  subst hij
  exact jm_iald C o hd ho hx hmo (vp_in_nI hj hN) (by rw [nI_clamp (by omega)]) kk
theorem jm_zaldn (C : Cx p l s m meth c D cA b nL cR6 mn cc ret hh) (o j : Nat) {N : Nat} {f : Nat → Int32} {i : Int32} (hd : decode cc pc = .ok (.baload, 1)) (ho : o < 27) (hx : (mar α)[o]? = some (.inl (2, N, .inl f))) (hmo : mo + 27 < n) (hij : i = nI j) (hj : j < N) (hN : N < 2 ^ 31) (kk : J p l e R s m args below meth c D cA b nL Q n (ovM mo σ α h) kc ks (pc + 1) L (.int (f j) :: st)) : J p l e R s m args below meth c D cA b nL Q n (ovM mo σ α h) kc ks pc L (.int i :: .ref (mo + (o + 1)) :: st) := by
  subst hij
  exact jm_zald C o hd ho hx hmo (vp_in_nI hj hN) (by rw [nI_clamp (by omega)]) kk
theorem jm_iastn (C : Cx p l s m meth c D cA b nL cR6 mn cc ret hh) (o k j : Nat) {N : Nat} {i x : Int32} (hd : decode cc pc = .ok (.iastore, 1)) (ho : o < 27) (hx : (mar α)[o]? = some (.inl (0, N, .inl (α k)))) (hmo : mo + 27 < n) (hij : i = nI j) (hj : j < N) (hN : N < 2 ^ 31) (hα : (mar α).set o (.inl (0, N, .inl (upd (α k) j x))) = mar (upa α k (upd (α k) j x))) (kk : J p l e R s m args below meth c D cA b nL Q n (ovM mo σ (upa α k (upd (α k) j x)) h) kc ks (pc + 1) L st) : J p l e R s m args below meth c D cA b nL Q n (ovM mo σ α h) kc ks pc L (.int x :: .int i :: .ref (mo + (o + 1)) :: st) := by
  subst hij
  exact jm_iast C o hd ho hx hmo (vp_in_nI hj hN) (by rw [nI_clamp (by omega)]) hα kk
theorem jm_zastn (C : Cx p l s m meth c D cA b nL cR6 mn cc ret hh) (o k j : Nat) {N : Nat} {i x : Int32} (hd : decode cc pc = .ok (.bastore, 1)) (ho : o < 27) (hx : (mar α)[o]? = some (.inl (2, N, .inl (α k)))) (hmo : mo + 27 < n) (hij : i = nI j) (hj : j < N) (hN : N < 2 ^ 31) (hα : (mar α).set o (.inl (2, N, .inl (upd (α k) j (vp_nar .boolean x)))) = mar (upa α k (upd (α k) j (vp_nar .boolean x)))) (kk : J p l e R s m args below meth c D cA b nL Q n (ovM mo σ (upa α k (upd (α k) j (vp_nar .boolean x))) h) kc ks (pc + 1) L st) : J p l e R s m args below meth c D cA b nL Q n (ovM mo σ α h) kc ks pc L (.int x :: .int i :: .ref (mo + (o + 1)) :: st) := by
  subst hij
  exact jm_zast C o hd ho hx hmo (vp_in_nI hj hN) (by rw [nI_clamp (by omega)]) hα kk
end JMn
/-- one more, if report r is signed by three, has no open field, and its field f is between lo and hi -/
def mcs (α : Nat → Nat → Int32) (f : Nat) (lo hi : Int32) (r : Nat) (c : Int32) : Int32 := if α 8 r = 3 then (if opn (α 12) (20 * r) 20 0 0 = 0 then (if α 10 (20 * r + f) = 0 then c else if inI (α 13 (20 * r + f)) lo hi = 0 then c else c + 1) else c) else c
def mcn (α : Nat → Nat → Int32) (f : Nat) (lo hi : Int32) : Nat → Nat → Int32 → Int32
  | 0, _, c => c
  | k + 1, r, c => mcn α f lo hi k (r + 1) (mcs α f lo hi r c)
set_option maxHeartbeats 4000000 in
set_option maxRecDepth 100000 in
theorem c_M_count_r {l : Launch} (hl : l.stackTraces = false) {D : va_G} {cA : Nat → ClassId} {b n mo : Nat} (f : Nat) (lo hi : Int32) (σ : Nat → Int32) (α : Nat → Nat → Int32) (h : AH) (hmo : mo + 27 < n) (nr : Nat) (hnr : σ 2 = nI nr) (hle : nr ≤ 30) (hf : f < 20) (hk : lo ≤ hi) : Cn l D cA b y_M_count k_M_count 2 27 0 0 [.ref mo, .int (nI f), .int lo, .int hi] n (ovM mo σ α h) (Re (some (.int (mcn α f lo hi nr 0 0))) n (ovM mo (upd σ 0 0) α h)) := by
  refine Cn.of (cc := b_M_count) (maxL := 6) (ret := (some .int)) (hh := []) (by decide +kernel) hl (Or.inl ⟨rfl, rfl⟩) (Nat.le_of_ble_eq_true rfl) ?_
  intro p e s m args below meth c C
  have loop : ∀ (k r : Nat) (c0 : Int32), r + k = nr → mcn α f lo hi k r c0 = mcn α f lo hi nr 0 0 → J p l e { frames := 2, cells := 0, slots := 0, locals := 27 } s m args below meth c D cA b 6 (EndQ D cA b s below (Re (some (.int (mcn α f lo hi nr 0 0))) n (ovM mo (upd σ 0 0) α h)) 0 0) n (ovM mo (upd σ 0 0) α h) 0 0 30 [(5, .int (nI r)), (4, .int c0), (0, .ref mo), (1, .int (nI f)), (2, .int lo), (3, .int hi)] [] := by
    intro k
    induction k with
    | zero =>
      intro r c0 hr hv
      obtain rfl : r = nr := by omega
      refine j_iload C d_M_count_30 rfl ?_
      refine j_aload_n C d_M_count_32 rfl rfl ?_
      refine jm_get C fl_6_99 d_M_count_33 hmo rfl ?_
      refine j_icmp_ge (tgt := 103) C d_M_count_36 (by decide) (fun c36 => ?_) (fun c36 => ?_)
      · refine j_iload C d_M_count_103 rfl ?_
        exact j_ireturn C d_M_count_105 rfl (by decide) (by decide) ⟨by rw [← hv]; rfl, rfl, rfl⟩
      · exact absurd (show σ 2 ≤ nI r by rw [hnr]; exact nI_le (Nat.le_refl _) (by omega)) c36
    | succ k ih =>
      intro r c0 hr hv
      refine j_iload C d_M_count_30 rfl ?_
      refine j_aload_n C d_M_count_32 rfl rfl ?_
      refine jm_get C fl_6_99 d_M_count_33 hmo rfl ?_
      refine j_icmp_ge (tgt := 103) C d_M_count_36 (by decide) (fun c36 => ?_) (fun c36 => ?_)
      · exact absurd (show σ 2 ≤ nI r from c36) (by rw [hnr]; exact nI_ge (by omega) (by omega))
      · refine j_aload_n C d_M_count_39 rfl rfl ?_
        refine jm_get C fl_6_25 d_M_count_40 hmo rfl ?_
        refine j_iload C d_M_count_43 rfl ?_
        refine jm_ialdn C 5 (r) d_M_count_45 (by decide) rfl hmo rfl (by omega) (by omega) ?_
        refine j_iconst (v := 3) C d_M_count_46 (by decide) ?_
        refine j_icmp_ne (tgt := 97) C d_M_count_47 (by decide) (fun c47 => ?_) (fun c47 => ?_)
        · refine j_iinc (v := nI (r + 1)) C d_M_count_97 rfl (nI_inc r) (by decide) rfl ?_
          refine j_goto (tgt := 30) C d_M_count_100 (by decide) ?_
          exact j_pick [0, 1, 2, 3, 4, 5] rfl (ih (r + 1) c0 (by omega) (by rw [← hv]; show _ = mcn α f lo hi k (r + 1) (mcs α f lo hi r c0); unfold mcs; rw [if_neg c47]))
        · refine j_aload_n C d_M_count_50 rfl rfl ?_
          refine j_iload C d_M_count_51 rfl ?_
          refine j_callV C d_M_count_53 ml_M_197 mc_M_opened in_M_opened rfl se_M_opened (by omega) (ovM_o _ _ _ _) (c_M_opened hl r _ _ _ hmo (by omega)) rfl rfl (Nat.le_of_ble_eq_true rfl) (Nat.le_of_ble_eq_true rfl) (Nat.le_of_ble_eq_true rfl) (Nat.le_of_ble_eq_true rfl) (jk_r ?_)
          refine j_if_ne (tgt := 97) C d_M_count_56 (by decide) (fun c56 => ?_) (fun c56 => ?_)
          · refine j_iinc (v := nI (r + 1)) C d_M_count_97 rfl (nI_inc r) (by decide) rfl ?_
            refine j_goto (tgt := 30) C d_M_count_100 (by decide) ?_
            exact j_pick [0, 1, 2, 3, 4, 5] rfl (ih (r + 1) c0 (by omega) (by rw [← hv]; show _ = mcn α f lo hi k (r + 1) (mcs α f lo hi r c0); unfold mcs; rw [if_pos c47, if_neg c56]))
          · refine j_aload_n C d_M_count_59 rfl rfl ?_
            refine jm_get C fl_6_31 d_M_count_60 hmo rfl ?_
            refine j_bipush (v := 20) C d_M_count_63 (by decide) ?_
            refine j_iload C d_M_count_65 rfl ?_
            refine j_imul C d_M_count_67 ?_
            refine j_iload_n C d_M_count_68 rfl rfl ?_
            refine j_iadd C d_M_count_69 ?_
            refine jm_zaldn C 7 (20 * r + f) d_M_count_70 (by decide) rfl hmo (e20 r f) (by omega) (by omega) ?_
            refine j_if_eq (tgt := 97) C d_M_count_71 (by decide) (fun c71 => ?_) (fun c71 => ?_)
            · refine j_iinc (v := nI (r + 1)) C d_M_count_97 rfl (nI_inc r) (by decide) rfl ?_
              refine j_goto (tgt := 30) C d_M_count_100 (by decide) ?_
              exact j_pick [0, 1, 2, 3, 4, 5] rfl (ih (r + 1) c0 (by omega) (by rw [← hv]; show _ = mcn α f lo hi k (r + 1) (mcs α f lo hi r c0); unfold mcs; rw [if_pos c47, if_pos c56, if_pos c71]))
            · refine j_aload_n C d_M_count_74 rfl rfl ?_
              refine jm_get C fl_6_41 d_M_count_75 hmo rfl ?_
              refine j_bipush (v := 20) C d_M_count_78 (by decide) ?_
              refine j_iload C d_M_count_80 rfl ?_
              refine j_imul C d_M_count_82 ?_
              refine j_iload_n C d_M_count_83 rfl rfl ?_
              refine j_iadd C d_M_count_84 ?_
              refine jm_ialdn C 10 (20 * r + f) d_M_count_85 (by decide) rfl hmo (e20 r f) (by omega) (by omega) ?_
              refine j_iload_n C d_M_count_86 rfl rfl ?_
              refine j_iload_n C d_M_count_87 rfl rfl ?_
              refine j_callS C d_M_count_88 ml_M_102 mc_M_in st_M_in (c_M_in hl _ _ _ _) rfl rfl (Nat.le_of_ble_eq_true rfl) (Nat.le_of_ble_eq_true rfl) (Nat.le_of_ble_eq_true rfl) (Nat.le_of_ble_eq_true rfl) (jk_r ?_)
              refine j_if_eq (tgt := 97) C d_M_count_91 (by decide) (fun c91 => ?_) (fun c91 => ?_)
              · refine j_iinc (v := nI (r + 1)) C d_M_count_97 rfl (nI_inc r) (by decide) rfl ?_
                refine j_goto (tgt := 30) C d_M_count_100 (by decide) ?_
                exact j_pick [0, 1, 2, 3, 4, 5] rfl (ih (r + 1) c0 (by omega) (by rw [← hv]; show _ = mcn α f lo hi k (r + 1) (mcs α f lo hi r c0); unfold mcs; rw [if_pos c47, if_pos c56, if_neg c71, if_pos c91]))
              · refine j_iinc (v := c0 + 1) C d_M_count_94 rfl rfl (by decide) rfl ?_
                refine j_iinc (v := nI (r + 1)) C d_M_count_97 rfl (nI_inc r) (by decide) rfl ?_
                refine j_goto (tgt := 30) C d_M_count_100 (by decide) ?_
                exact j_pick [0, 1, 2, 3, 4, 5] rfl (ih (r + 1) (c0 + 1) (by omega) (by rw [← hv]; show _ = mcn α f lo hi k (r + 1) (mcs α f lo hi r c0); unfold mcs; rw [if_pos c47, if_pos c56, if_neg c71, if_neg c91]))
  refine j_aload_n C d_M_count_0 rfl rfl ?_
  refine j_iload_n C d_M_count_1 rfl rfl ?_
  refine j_callS C d_M_count_2 ml_M_117 mc_M_isField st_M_isField (c_M_isFieldK hl _ _ (in_ok (nI_pos (by omega)) (nI_le (b := 19) (by omega) (by omega)))) rfl rfl (Nat.le_of_ble_eq_true rfl) (Nat.le_of_ble_eq_true rfl) (Nat.le_of_ble_eq_true rfl) (Nat.le_of_ble_eq_true rfl) (jk_r ?_)
  refine j_iload_n C d_M_count_5 rfl rfl ?_
  refine j_iload_n C d_M_count_6 rfl rfl ?_
  refine j_icmp_gt (tgt := 14) C d_M_count_7 (by decide) (fun c7 => ?_) (fun c7 => ?_)
  · exact absurd hk (Int32.not_le.mpr c7)
  · refine j_iconst (v := 1) C d_M_count_10 (by decide) ?_
    refine j_goto (tgt := 15) C d_M_count_11 (by decide) ?_
    refine j_iconst (v := 1) C d_M_count_15 (by decide) ?_
    refine j_callV C d_M_count_16 ml_M_109 mc_M_goes in_M_goes rfl se_M_goes (by omega) (ovM_o _ _ _ _) (c_M_goesK hl _ _ _ _ _ _ hmo (gs_0 (by decide) (by decide) (by decide))) rfl rfl (Nat.le_of_ble_eq_true rfl) (Nat.le_of_ble_eq_true rfl) (Nat.le_of_ble_eq_true rfl) (Nat.le_of_ble_eq_true rfl) (jk_r ?_)
    refine j_if_ne (tgt := 24) C d_M_count_19 (by decide) (fun c19 => ?_) (fun c19 => ?_)
    · refine j_iconst (v := 0) C d_M_count_24 (by decide) ?_
      refine j_istore C d_M_count_25 (by decide) rfl ?_
      refine j_iconst (v := 0) C d_M_count_27 (by decide) ?_
      refine j_istore C d_M_count_28 (by decide) rfl ?_
      exact j_pick [0, 1, 2, 3, 4, 5] rfl (loop nr 0 0 (by omega) rfl)
    · exact absurd c19 (by decide)

/-- the first k fields of report r copied to report d -/
def cpf (g : Nat → Int32) (d r k : Nat) : Nat → Int32 := fun j => if 20 * d ≤ j ∧ j < 20 * d + k then g (20 * r + (j - 20 * d)) else g j
theorem cpf_0 (g : Nat → Int32) (d r : Nat) : cpf g d r 0 = g := by
  funext j
  unfold cpf
  rw [if_neg (by omega)]
theorem cpf_r {g : Nat → Int32} {d r k i : Nat} (h : r < d) (hi : i < 20) : cpf g d r k (20 * r + i) = g (20 * r + i) := by
  unfold cpf
  rw [if_neg (by omega)]
theorem cpf_s (g : Nat → Int32) (d r k : Nat) : upd (cpf g d r k) (20 * d + k) (g (20 * r + k)) = cpf g d r (k + 1) := by
  funext j
  by_cases e : j = 20 * d + k
  · subst e
    rw [pk_us]
    unfold cpf
    rw [if_pos (by omega), show 20 * d + k - 20 * d = k by omega]
  · rw [pk_un e]
    unfold cpf
    by_cases e2 : 20 * d ≤ j ∧ j < 20 * d + k
    · rw [if_pos e2, if_pos (by omega)]
    · rw [if_neg e2, if_neg (by omega)]
def med (α : Nat → Nat → Int32) (d r k : Nat) : Nat → Nat → Int32 := upa (upa (upa α 10 (cpf (α 10) d r k)) 11 (cpf (α 11) d r k)) 13 (cpf (α 13) d r k)
theorem med_0 (α : Nat → Nat → Int32) (d r : Nat) : med α d r 0 = α := by
  unfold med
  rw [cpf_0, cpf_0, cpf_0, upa_self rfl, upa_self rfl, upa_self rfl]
theorem med_s (α : Nat → Nat → Int32) (d r k : Nat) : upa (upa (upa (med α d r k) 10 (cpf (α 10) d r (k + 1))) 11 (cpf (α 11) d r (k + 1))) 13 (cpf (α 13) d r (k + 1)) = med α d r (k + 1) := by
  funext i
  unfold med upa
  by_cases e1 : i = 13
  · simp only [if_pos e1]
  · by_cases e2 : i = 11
    · simp only [if_neg e1, if_pos e2]
    · by_cases e3 : i = 10
      · simp only [if_neg e1, if_neg e2, if_pos e3]
      · simp only [if_neg e1, if_neg e2, if_neg e3]
theorem c_M_isReportK {l : Launch} (hl : l.stackTraces = false) {D : va_G} {cA : Nat → ClassId} {b n mo : Nat} (x : Int32) (σ : Nat → Int32) (α : Nat → Nat → Int32) (h : AH) (hmo : mo + 27 < n) {w : Int32} (hx : inI x 0 (σ 2 - 1) = w) : Cn l D cA b y_M_isReport k_M_isReport 1 14 0 0 [.ref mo, .int x] n (ovM mo σ α h) (Re (some (.int w)) n (ovM mo σ α h)) := by
  subst hx
  exact c_M_isReport hl x σ α h hmo
theorem in_rep {t : Int32} {nr r : Nat} (hnr : t = nI nr) (hle : nr ≤ 30) (hr : r < nr) : inI (nI r) 0 (t - 1) = 1 := by
  obtain ⟨c, rfl⟩ : ∃ c, nr = c + 1 := ⟨nr - 1, by omega⟩
  rw [hnr, nI_pred]
  exact in_ok (nI_pos (by omega)) (nI_le (by omega) (by omega))
set_option maxHeartbeats 4000000 in
set_option maxRecDepth 100000 in
theorem c_M_edition_r {l : Launch} (hl : l.stackTraces = false) {D : va_G} {cA : Nat → ClassId} {b n mo : Nat} (r : Nat) (σ : Nat → Int32) (α : Nat → Nat → Int32) (h : AH) (hmo : mo + 27 < n) (nr : Nat) (hnr : σ 2 = nI nr) (hle : nr ≤ 29) (hr : r < nr) (h8 : α 8 r = 3) (h10 : ∀ j, vp_nar .boolean (α 10 j) = α 10 j) (h11 : ∀ j, vp_nar .boolean (α 11 j) = α 11 j) : Cn l D cA b y_M_edition k_M_edition 2 29 0 0 [.ref mo, .int (nI r)] n (ovM mo σ α h) (Re (some (.int (nI nr))) n (ovM mo (mmakes (upd σ 0 0) α (α 3 r) (α 4 r) (nI r)).1 (med (mmakes (upd σ 0 0) α (α 3 r) (α 4 r) (nI r)).2 nr r 20) h)) := by
  refine Cn.of (cc := b_M_edition) (maxL := 4) (ret := (some .int)) (hh := []) (by decide +kernel) hl (Or.inl ⟨rfl, rfl⟩) (Nat.le_of_ble_eq_true rfl) ?_
  intro p e s m args below meth c C
  have z10 : ∀ j, vp_nar .boolean ((mmakes (upd σ 0 0) α (α 3 r) (α 4 r) (nI r)).2 10 j) = (mmakes (upd σ 0 0) α (α 3 r) (α 4 r) (nI r)).2 10 j := fun j => h10 j
  have z11 : ∀ j, vp_nar .boolean ((mmakes (upd σ 0 0) α (α 3 r) (α 4 r) (nI r)).2 11 j) = (mmakes (upd σ 0 0) α (α 3 r) (α 4 r) (nI r)).2 11 j := fun j => h11 j
  have loop : ∀ (m9 k : Nat), k + m9 = 20 → J p l e { frames := 2, cells := 0, slots := 0, locals := 29 } s m args below meth c D cA b 4 (EndQ D cA b s below (Re (some (.int (nI nr))) n (ovM mo (mmakes (upd σ 0 0) α (α 3 r) (α 4 r) (nI r)).1 (med (mmakes (upd σ 0 0) α (α 3 r) (α 4 r) (nI r)).2 nr r 20) h)) 0 0) n (ovM mo (mmakes (upd σ 0 0) α (α 3 r) (α 4 r) (nI r)).1 (med (mmakes (upd σ 0 0) α (α 3 r) (α 4 r) (nI r)).2 nr r k) h) 0 0 71 [(3, .int (nI k)), (2, .int (nI nr)), (0, .ref mo), (1, .int (nI r))] [] := by
    intro m9
    induction m9 with
    | zero =>
      intro k hk
      obtain rfl : k = 20 := by omega
      refine j_iload_n C d_M_edition_71 rfl rfl ?_
      refine j_bipush (v := 20) C d_M_edition_72 (by decide) ?_
      refine j_icmp_ge (tgt := 149) C d_M_edition_74 (by decide) (fun c74 => ?_) (fun c74 => ?_)
      · refine j_iload_n C d_M_edition_149 rfl rfl ?_
        exact j_ireturn C d_M_edition_150 rfl (by decide) (by decide) ⟨rfl, rfl, rfl⟩
      · exact absurd (by decide) c74
    | succ m9 ih =>
      intro k hk
      refine j_iload_n C d_M_edition_71 rfl rfl ?_
      refine j_bipush (v := 20) C d_M_edition_72 (by decide) ?_
      refine j_icmp_ge (tgt := 149) C d_M_edition_74 (by decide) (fun c74 => ?_) (fun c74 => ?_)
      · exact absurd (show nI 20 ≤ nI k from c74) (nI_ge (by omega) (by omega))
      · refine j_aload_n C d_M_edition_77 rfl rfl ?_
        refine jm_get C fl_6_31 d_M_edition_78 hmo rfl ?_
        refine j_bipush (v := 20) C d_M_edition_81 (by decide) ?_
        refine j_iload_n C d_M_edition_83 rfl rfl ?_
        refine j_imul C d_M_edition_84 ?_
        refine j_iload_n C d_M_edition_85 rfl rfl ?_
        refine j_iadd C d_M_edition_86 ?_
        refine j_aload_n C d_M_edition_87 rfl rfl ?_
        refine jm_get C fl_6_31 d_M_edition_88 hmo rfl ?_
        refine j_bipush (v := 20) C d_M_edition_91 (by decide) ?_
        refine j_iload_n C d_M_edition_93 rfl rfl ?_
        refine j_imul C d_M_edition_94 ?_
        refine j_iload_n C d_M_edition_95 rfl rfl ?_
        refine j_iadd C d_M_edition_96 ?_
        refine jm_zaldn C 7 (20 * r + k) d_M_edition_97 (by decide) rfl hmo (e20 r k) (by omega) (by omega) ?_
        refine jm_zastn C 7 10 (20 * nr + k) d_M_edition_98 (by decide) rfl hmo (e20 nr k) (by omega) (by omega) rfl ?_
        refine j_aload_n C d_M_edition_99 rfl rfl ?_
        refine jm_get C fl_6_35 d_M_edition_100 hmo rfl ?_
        refine j_bipush (v := 20) C d_M_edition_103 (by decide) ?_
        refine j_iload_n C d_M_edition_105 rfl rfl ?_
        refine j_imul C d_M_edition_106 ?_
        refine j_iload_n C d_M_edition_107 rfl rfl ?_
        refine j_iadd C d_M_edition_108 ?_
        refine j_aload_n C d_M_edition_109 rfl rfl ?_
        refine jm_get C fl_6_35 d_M_edition_110 hmo rfl ?_
        refine j_bipush (v := 20) C d_M_edition_113 (by decide) ?_
        refine j_iload_n C d_M_edition_115 rfl rfl ?_
        refine j_imul C d_M_edition_116 ?_
        refine j_iload_n C d_M_edition_117 rfl rfl ?_
        refine j_iadd C d_M_edition_118 ?_
        refine jm_zaldn C 8 (20 * r + k) d_M_edition_119 (by decide) rfl hmo (e20 r k) (by omega) (by omega) ?_
        refine jm_zastn C 8 11 (20 * nr + k) d_M_edition_120 (by decide) rfl hmo (e20 nr k) (by omega) (by omega) rfl ?_
        refine j_aload_n C d_M_edition_121 rfl rfl ?_
        refine jm_get C fl_6_41 d_M_edition_122 hmo rfl ?_
        refine j_bipush (v := 20) C d_M_edition_125 (by decide) ?_
        refine j_iload_n C d_M_edition_127 rfl rfl ?_
        refine j_imul C d_M_edition_128 ?_
        refine j_iload_n C d_M_edition_129 rfl rfl ?_
        refine j_iadd C d_M_edition_130 ?_
        refine j_aload_n C d_M_edition_131 rfl rfl ?_
        refine jm_get C fl_6_41 d_M_edition_132 hmo rfl ?_
        refine j_bipush (v := 20) C d_M_edition_135 (by decide) ?_
        refine j_iload_n C d_M_edition_137 rfl rfl ?_
        refine j_imul C d_M_edition_138 ?_
        refine j_iload_n C d_M_edition_139 rfl rfl ?_
        refine j_iadd C d_M_edition_140 ?_
        refine jm_ialdn C 10 (20 * r + k) d_M_edition_141 (by decide) rfl hmo (e20 r k) (by omega) (by omega) ?_
        refine jm_iastn C 10 13 (20 * nr + k) d_M_edition_142 (by decide) rfl hmo (e20 nr k) (by omega) (by omega) rfl ?_
        refine j_iinc (v := nI (k + 1)) C d_M_edition_143 rfl (nI_inc k) (by decide) rfl ?_
        refine j_goto (tgt := 71) C d_M_edition_146 (by decide) ?_
        exact j_h (by rw [← med_s, ← cpf_s, ← cpf_s, ← cpf_s]; rw [show med (mmakes (upd σ 0 0) α (α 3 r) (α 4 r) (nI r)).2 nr r k 10 = cpf ((mmakes (upd σ 0 0) α (α 3 r) (α 4 r) (nI r)).2 10) nr r k from rfl, cpf_r hr (by omega), z10]; rw [show upa (med (mmakes (upd σ 0 0) α (α 3 r) (α 4 r) (nI r)).2 nr r k) 10 _ 11 = cpf ((mmakes (upd σ 0 0) α (α 3 r) (α 4 r) (nI r)).2 11) nr r k from rfl, cpf_r hr (by omega), z11]; rw [show upa (upa (med (mmakes (upd σ 0 0) α (α 3 r) (α 4 r) (nI r)).2 nr r k) 10 _) 11 _ 13 = cpf ((mmakes (upd σ 0 0) α (α 3 r) (α 4 r) (nI r)).2 13) nr r k from rfl, cpf_r hr (by omega)]) (j_pick [0, 1, 2, 3] rfl (ih (k + 1) (by omega)))
  refine j_aload_n C d_M_edition_0 rfl rfl ?_
  refine j_aload_n C d_M_edition_1 rfl rfl ?_
  refine j_iload_n C d_M_edition_2 rfl rfl ?_
  refine j_callV C d_M_edition_3 ml_M_121 mc_M_isReport in_M_isReport rfl se_M_isReport (by omega) (ovM_o _ _ _ _) (c_M_isReportK hl _ _ _ _ hmo (in_rep hnr (by omega) hr)) rfl rfl (Nat.le_of_ble_eq_true rfl) (Nat.le_of_ble_eq_true rfl) (Nat.le_of_ble_eq_true rfl) (Nat.le_of_ble_eq_true rfl) (jk_r ?_)
  refine j_aload_n C d_M_edition_6 rfl rfl ?_
  refine j_iload_n C d_M_edition_7 rfl rfl ?_
  refine j_callV C d_M_edition_8 ml_M_121 mc_M_isReport in_M_isReport rfl se_M_isReport (by omega) (ovM_o _ _ _ _) (c_M_isReportK hl _ _ _ _ hmo (in_rep hnr (by omega) hr)) rfl rfl (Nat.le_of_ble_eq_true rfl) (Nat.le_of_ble_eq_true rfl) (Nat.le_of_ble_eq_true rfl) (Nat.le_of_ble_eq_true rfl) (jk_r ?_)
  refine j_if_eq (tgt := 28) C d_M_edition_11 (by decide) (fun c11 => ?_) (fun c11 => ?_)
  · exact absurd c11 (by decide)
  · refine j_aload_n C d_M_edition_14 rfl rfl ?_
    refine jm_get C fl_6_25 d_M_edition_15 hmo rfl ?_
    refine j_iload_n C d_M_edition_18 rfl rfl ?_
    refine jm_ialdn C 5 (r) d_M_edition_19 (by decide) rfl hmo rfl (by omega) (by omega) ?_
    refine j_iconst (v := 3) C d_M_edition_20 (by decide) ?_
    refine j_icmp_ne (tgt := 28) C d_M_edition_21 (by decide) (fun c21 => ?_) (fun c21 => ?_)
    · exact absurd h8 c21
    · refine j_iconst (v := 1) C d_M_edition_24 (by decide) ?_
      refine j_goto (tgt := 29) C d_M_edition_25 (by decide) ?_
      refine j_aload_n C d_M_edition_29 rfl rfl ?_
      refine jm_get C fl_6_99 d_M_edition_30 hmo rfl ?_
      refine j_bipush (v := 30) C d_M_edition_33 (by decide) ?_
      refine j_icmp_ge (tgt := 42) C d_M_edition_35 (by decide) (fun c35 => ?_) (fun c35 => ?_)
      · exact absurd (show (30 : Int32) ≤ nI nr by rw [← hnr]; exact c35) (show ¬ nI 30 ≤ nI nr from nI_ge (by omega) (by omega))
      · refine j_iconst (v := 1) C d_M_edition_38 (by decide) ?_
        refine j_goto (tgt := 43) C d_M_edition_39 (by decide) ?_
        refine j_callV C d_M_edition_43 ml_M_109 mc_M_goes in_M_goes rfl se_M_goes (by omega) (ovM_o _ _ _ _) (c_M_goesK hl _ _ _ _ _ _ hmo (gs_0 (by decide) (by decide) (by decide))) rfl rfl (Nat.le_of_ble_eq_true rfl) (Nat.le_of_ble_eq_true rfl) (Nat.le_of_ble_eq_true rfl) (Nat.le_of_ble_eq_true rfl) (jk_r ?_)
        refine j_if_ne (tgt := 51) C d_M_edition_46 (by decide) (fun c46 => ?_) (fun c46 => ?_)
        · refine j_aload_n C d_M_edition_51 rfl rfl ?_
          refine j_aload_n C d_M_edition_52 rfl rfl ?_
          refine jm_get C fl_6_7 d_M_edition_53 hmo rfl ?_
          refine j_iload_n C d_M_edition_56 rfl rfl ?_
          refine jm_ialdn C 0 (r) d_M_edition_57 (by decide) rfl hmo rfl (by omega) (by omega) ?_
          refine j_aload_n C d_M_edition_58 rfl rfl ?_
          refine jm_get C fl_6_13 d_M_edition_59 hmo rfl ?_
          refine j_iload_n C d_M_edition_62 rfl rfl ?_
          refine jm_ialdn C 1 (r) d_M_edition_63 (by decide) rfl hmo rfl (by omega) (by omega) ?_
          refine j_iload_n C d_M_edition_64 rfl rfl ?_
          refine j_callV C d_M_edition_65 ml_M_113 mc_M_makes in_M_makes rfl se_M_makes (by omega) (ovM_o _ _ _ _) (c_M_makes hl _ _ _ _ _ _ hmo (by show vp_in (σ 2) 30; rw [hnr]; exact vp_in_nI (by omega) (by omega))) rfl rfl (Nat.le_of_ble_eq_true rfl) (Nat.le_of_ble_eq_true rfl) (Nat.le_of_ble_eq_true rfl) (Nat.le_of_ble_eq_true rfl) (jk_r ?_)
          rw [show upd σ 0 0 2 + 1 - 1 = nI nr by show σ 2 + 1 - 1 = nI nr; rw [hnr, nI_1, nI_pred]]
          refine j_istore_n C d_M_edition_68 rfl (by decide) rfl ?_
          refine j_iconst (v := 0) C d_M_edition_69 (by decide) ?_
          refine j_istore_n C d_M_edition_70 rfl (by decide) rfl ?_
          refine j_h (h' := ovM mo (mmakes (upd σ 0 0) α (α 3 r) (α 4 r) (nI r)).1 (med (mmakes (upd σ 0 0) α (α 3 r) (α 4 r) (nI r)).2 nr r 0) h) (by rw [med_0]) ?_
          exact j_pick [0, 1, 2, 3] rfl (loop 20 0 rfl)
        · exact absurd c46 (by decide)

