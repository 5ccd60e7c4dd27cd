/-! ===== contracts of the reference: opened ===== -/
/-- how many of g's places b, b + 1, .. (k of them) aren't 0, from c on -/
def opn (g : Nat → Int32) (b : Nat) : Nat → Nat → Int32 → Int32
  | 0, _, c => c
  | k + 1, i, c => opn g b k (i + 1) (if g (b + i) = 0 then c else c + 1)
theorem nI_inc (i : Nat) : nI i + Int32.ofInt 1 = nI (i + 1) := nI_1 i
theorem nI_nle20 {i N : Nat} (h : i < N) (hN : N < 2 ^ 31 := by omega) : ¬ nI N ≤ nI i := nI_ge h hN
set_option maxHeartbeats 4000000 in
set_option maxRecDepth 100000 in
theorem c_M_opened {l : Launch} (hl : l.stackTraces = false) {D : va_G} {cA : Nat → ClassId} {b n mo : Nat} (r : Nat) (σ : Nat → Int32) (α : Nat → Nat → Int32) (h : AH) (hmo : mo + 27 < n) (hrl : r < 30) : Cn l D cA b y_M_opened k_M_opened 0 0 0 0 [.ref mo, .int (nI r)] n (ovM mo σ α h) (Re (some (.int (opn (α 12) (20 * r) 20 0 0))) n (ovM mo σ α h)) := by
  refine Cn.of (cc := b_M_opened) (maxL := 4) (ret := (some .int)) (hh := []) (by decide +kernel) hl (Or.inl ⟨rfl, rfl⟩) (Nat.le_of_ble_eq_true rfl) ?_
  intro p e s m args below meth c C
  have loop : ∀ (k i : Nat) (cnt : Int32), i + k = 20 → opn (α 12) (20 * r) k i cnt = opn (α 12) (20 * r) 20 0 0 → J p l e { frames := 0, cells := 0, slots := 0, locals := 0 } s m args below meth c D cA b 4 (EndQ D cA b s below (Re (some (.int (opn (α 12) (20 * r) 20 0 0))) n (ovM mo σ α h)) 0 0) n (ovM mo σ α h) 0 0 4 [(3, .int (nI i)), (2, .int cnt), (0, .ref mo), (1, .int (nI r))] [] := by
    intro k
    induction k with
    | zero =>
      intro i cnt hi hv
      obtain rfl : i = 20 := by omega
      refine j_iload_n C d_M_opened_4 rfl rfl ?_
      refine j_bipush (v := 20) C d_M_opened_5 (by decide) ?_
      refine j_icmp_ge (tgt := 33) C d_M_opened_7 (by decide) (fun c7 => ?_) (fun c7 => absurd (by decide) c7)
      refine j_iload_n C d_M_opened_33 rfl rfl ?_
      exact j_ireturn C d_M_opened_34 rfl (by decide) (by decide) ⟨by rw [← hv]; rfl, rfl, rfl⟩
    | succ k ih =>
      intro i cnt hi hv
      have hin : vp_in (20 * nI r + nI i) 600 := by rw [e20]; exact vp_in_nI (by omega) (by omega)
      have hcl : (20 * nI r + nI i).toNatClampNeg = 20 * r + i := by rw [e20]; exact nI_clamp (by omega)
      refine j_iload_n C d_M_opened_4 rfl rfl ?_
      refine j_bipush (v := 20) C d_M_opened_5 (by decide) ?_
      refine j_icmp_ge (tgt := 33) C d_M_opened_7 (by decide) (fun c7 => ?_) (fun c7 => ?_)
      · exact absurd c7 (nI_nle20 (N := 20) (by omega))
      · refine j_aload_n C d_M_opened_10 rfl rfl ?_
        refine jm_get C fl_6_38 d_M_opened_11 hmo rfl ?_
        refine j_bipush (v := 20) C d_M_opened_14 (by decide) ?_
        refine j_iload_n C d_M_opened_16 rfl rfl ?_
        refine j_imul C d_M_opened_17 ?_
        refine j_iload_n C d_M_opened_18 rfl rfl ?_
        refine j_iadd C d_M_opened_19 ?_
        refine jm_zald C 9 d_M_opened_20 (by decide) rfl hmo hin rfl ?_
        refine j_if_eq (tgt := 27) C d_M_opened_21 (by decide) (fun c21 => ?_) (fun c21 => ?_)
        · refine j_iinc (v := nI (i + 1)) C d_M_opened_27 rfl (nI_inc i) (by decide) rfl ?_
          refine j_goto (tgt := 4) C d_M_opened_30 (by decide) ?_
          first
            | exact j_pick [0, 1, 2, 3] rfl (ih (i + 1) (cnt + 1) (by omega) (by rw [← hv]; show _ = opn (α 12) (20 * r) k (i + 1) (if _ = 0 then cnt else cnt + 1); rw [← hcl, if_neg c21]))
            | exact j_pick [0, 1, 2, 3] rfl (ih (i + 1) cnt (by omega) (by rw [← hv]; show _ = opn (α 12) (20 * r) k (i + 1) (if _ = 0 then cnt else cnt + 1); rw [← hcl, if_pos c21]))
        · refine j_iinc (v := cnt + 1) C d_M_opened_24 rfl rfl (by decide) rfl ?_
          refine j_iinc (v := nI (i + 1)) C d_M_opened_27 rfl (nI_inc i) (by decide) rfl ?_
          refine j_goto (tgt := 4) C d_M_opened_30 (by decide) ?_
          first
            | exact j_pick [0, 1, 2, 3] rfl (ih (i + 1) (cnt + 1) (by omega) (by rw [← hv]; show _ = opn (α 12) (20 * r) k (i + 1) (if _ = 0 then cnt else cnt + 1); rw [← hcl, if_neg c21]))
            | exact j_pick [0, 1, 2, 3] rfl (ih (i + 1) cnt (by omega) (by rw [← hv]; show _ = opn (α 12) (20 * r) k (i + 1) (if _ = 0 then cnt else cnt + 1); rw [← hcl, if_pos c21]))
  refine j_iconst (v := 0) C d_M_opened_0 (by decide) ?_
  refine j_istore_n C d_M_opened_1 rfl (by decide) rfl ?_
  refine j_iconst (v := 0) C d_M_opened_2 (by decide) ?_
  refine j_istore_n C d_M_opened_3 rfl (by decide) rfl ?_
  exact j_pick [0, 1, 2, 3] rfl (loop 20 0 0 rfl rfl)

