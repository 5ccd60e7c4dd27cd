/-! ===== the reference: verdict, check, canSign, put: printed by program ===== -/
/-- it returns v; the heap is one of a family -/
def Ro {τ : Type} (v : Option Value) (n1 : Nat) (F : τ → AH) : Rz → Nat → AH → Prop := fun r n h => ∃ w, r = .inl v ∧ n = n1 ∧ h = F w
section JRo
variable {p : Program} {l : Launch} {e : Env} {R : Room} {s : State} {m : MethodId} {args : Array Value} {below : List Frame} {meth : Method} {c : Code} {D : va_G} {cA : Nat → ClassId} {b nL : Nat} {Q : State → Prop} {n : Nat} {kc ks pc : Nat} {L : List (Nat × Value)} {st : List Value}
theorem jk_o {τ : Type} {x : Value} {F : τ → AH} (k : ∀ w, J p l e R s m args below meth c D cA b nL Q n (F w) kc ks (pc + 3) L (x :: st)) : JK p l e R s m args below meth c D cA b nL Q kc ks pc L st (Ro (some x) n F) := by
  refine ⟨fun v' n' h' hq => ?_, fun ci n' h' q hq => by obtain ⟨w, e1, -⟩ := hq; cases e1⟩
  obtain ⟨w, e1, rfl, rfl⟩ := hq
  cases e1
  exact k w
theorem jk_ov {τ : Type} {F : τ → AH} (k : ∀ w, J p l e R s m args below meth c D cA b nL Q n (F w) kc ks (pc + 3) L st) : JK p l e R s m args below meth c D cA b nL Q kc ks pc L st (Ro none n F) := by
  refine ⟨fun v' n' h' hq => ?_, fun ci n' h' q hq => by obtain ⟨w, e1, -⟩ := hq; cases e1⟩
  obtain ⟨w, e1, rfl, rfl⟩ := hq
  cases e1
  exact k w
end JRo
/-- how the two sums stand -/
def mcmp (s a z : Int32) : Int32 := if s = 60 then (if z ≤ a then 2 else 0) else if s = 61 then (if a = z then 0 else 2) else if z < a then 2 else 0
def mvd (α : Nat → Nat → Int32) (r q : Nat) : Int32 := if mias α r 8 (8 * q) = 0 then 0 else if rkB α r 4 (8 * q + 4) (rkB α r 4 (8 * q) 0) = 0 then mcmp (α 22 q) (rkS α r 4 (8 * q) 0) (rkS α r 4 (8 * q + 4) 0) else 3
set_option maxHeartbeats 4000000 in
set_option maxRecDepth 100000 in
theorem c_M_verdict {l : Launch} (hl : l.stackTraces = false) {D : va_G} {cA : Nat → ClassId} {b n mo : Nat} (r q : Nat) (σ : Nat → Int32) (α : Nat → Nat → Int32) (h : AH) (hmo : mo + 27 < n) (hr : r < 30) (hq : q < 20) (hF : FR α) : Cn l D cA b y_M_verdict k_M_verdict 2 32 0 0 [.ref mo, .int (nI r), .int (nI q)] n (ovM mo σ α h) (Ro (some (.int (mvd α r q))) n (fun w : Int32 => ovM mo (upd σ 33 w) α h)) := by
  refine Cn.of (cc := b_M_verdict) (maxL := 5) (ret := (some .int)) (hh := []) (by decide +kernel) hl (Or.inl ⟨rfl, rfl⟩) (Nat.le_of_ble_eq_true rfl) ?_
  intro p e s m args below meth c C
  refine j_aload_n C d_M_verdict_0 rfl rfl ?_
  refine j_iload_n C d_M_verdict_1 rfl rfl ?_
  refine j_iload_n C d_M_verdict_2 rfl rfl ?_
  refine j_callV C d_M_verdict_3 ml_M_181 mc_M_isAsked in_M_isAsked rfl se_M_isAsked (by omega) (ovM_o _ _ _ _) (c_M_isAsked hl r q _ _ _ hmo hr hq hF) rfl rfl (Nat.le_of_ble_eq_true rfl) (Nat.le_of_ble_eq_true rfl) (Nat.le_of_ble_eq_true rfl) (Nat.le_of_ble_eq_true rfl) (jk_r ?_)
  refine j_if_ne (tgt := 11) C d_M_verdict_6 (by decide) (fun c6 => ?_) (fun c6 => ?_)
  · refine j_aload_n C d_M_verdict_11 rfl rfl ?_
    refine j_iconst (v := 0) C d_M_verdict_12 (by decide) ?_
    refine jm_puti 33 C fp_6_177 d_M_verdict_13 hmo (by decide) (by first | rfl | assumption) rfl rfl ?_
    refine j_aload_n C d_M_verdict_16 rfl rfl ?_
    refine j_iload_n C d_M_verdict_17 rfl rfl ?_
    refine j_bipush (v := 8) C d_M_verdict_18 (by decide) ?_
    refine j_iload_n C d_M_verdict_20 rfl rfl ?_
    refine j_imul C d_M_verdict_21 ?_
    rw [e8]
    refine j_callV C d_M_verdict_22 ml_M_184 mc_M_reckon in_M_reckon rfl se_M_reckon (by omega) (ovM_o _ _ _ _) (c_M_reckon hl r (8 * q) _ _ _ hmo hr (by omega) hF) rfl rfl (Nat.le_of_ble_eq_true rfl) (Nat.le_of_ble_eq_true rfl) (Nat.le_of_ble_eq_true rfl) (Nat.le_of_ble_eq_true rfl) (jk_r ?_)
    refine j_istore_n C d_M_verdict_25 rfl (by decide) rfl ?_
    refine j_aload_n C d_M_verdict_26 rfl rfl ?_
    refine j_iload_n C d_M_verdict_27 rfl rfl ?_
    refine j_bipush (v := 8) C d_M_verdict_28 (by decide) ?_
    refine j_iload_n C d_M_verdict_30 rfl rfl ?_
    refine j_imul C d_M_verdict_31 ?_
    refine j_iconst (v := 4) C d_M_verdict_32 (by decide) ?_
    refine j_iadd C d_M_verdict_33 ?_
    rw [e8c]
    refine j_callV C d_M_verdict_34 ml_M_184 mc_M_reckon in_M_reckon rfl se_M_reckon (by omega) (ovM_o _ _ _ _) (c_M_reckon hl r (8 * q + 4) _ _ _ hmo hr (by omega) hF) rfl rfl (Nat.le_of_ble_eq_true rfl) (Nat.le_of_ble_eq_true rfl) (Nat.le_of_ble_eq_true rfl) (Nat.le_of_ble_eq_true rfl) (jk_r ?_)
    refine j_h (h' := ovM mo (upd σ 33 (rkB α r 4 (8 * q + 4) (rkB α r 4 (8 * q) 0))) α h) (by rw [upd_uu, upd_uu]; rfl) ?_
    refine j_istore C d_M_verdict_37 (by decide) rfl ?_
    refine j_aload_n C d_M_verdict_39 rfl rfl ?_
    refine jm_get C fl_6_177 d_M_verdict_40 hmo rfl ?_
    refine j_if_eq (tgt := 48) C d_M_verdict_43 (by decide) (fun c43 => ?_) (fun c43 => ?_)
    · refine j_aload_n C d_M_verdict_48 rfl rfl ?_
      refine jm_get C fl_6_57 d_M_verdict_49 hmo rfl ?_
      refine j_iload_n C d_M_verdict_52 rfl rfl ?_
      refine jm_ialdn C 14 (q) d_M_verdict_53 (by decide) rfl hmo rfl (by omega) (by omega) ?_
      refine j_bipush (v := 60) C d_M_verdict_54 (by decide) ?_
      refine j_icmp_ne (tgt := 68) C d_M_verdict_56 (by decide) (fun c56 => ?_) (fun c56 => ?_)
      · refine j_aload_n C d_M_verdict_68 rfl rfl ?_
        refine jm_get C fl_6_57 d_M_verdict_69 hmo rfl ?_
        refine j_iload_n C d_M_verdict_72 rfl rfl ?_
        refine jm_ialdn C 14 (q) d_M_verdict_73 (by decide) rfl hmo rfl (by omega) (by omega) ?_
        refine j_bipush (v := 61) C d_M_verdict_74 (by decide) ?_
        refine j_icmp_ne (tgt := 88) C d_M_verdict_76 (by decide) (fun c76 => ?_) (fun c76 => ?_)
        · refine j_iload_n C d_M_verdict_88 rfl rfl ?_
          refine j_iload C d_M_verdict_89 rfl ?_
          refine j_icmp_gt (tgt := 98) C d_M_verdict_91 (by decide) (fun c91 => ?_) (fun c91 => ?_)
          · refine j_iconst (v := 2) C d_M_verdict_98 (by decide) ?_
            exact j_ireturn C d_M_verdict_99 rfl (by decide) (by decide) ⟨_, by unfold mvd; rw [if_neg c6, if_pos (show rkB α r 4 (8 * q + 4) (rkB α r 4 (8 * q) 0) = 0 from c43)]; unfold mcmp; rw [if_neg c56, if_neg c76, if_pos c91], rfl, rfl⟩
          · refine j_iconst (v := 0) C d_M_verdict_94 (by decide) ?_
            refine j_goto (tgt := 99) C d_M_verdict_95 (by decide) ?_
            exact j_ireturn C d_M_verdict_99 rfl (by decide) (by decide) ⟨_, by unfold mvd; rw [if_neg c6, if_pos (show rkB α r 4 (8 * q + 4) (rkB α r 4 (8 * q) 0) = 0 from c43)]; unfold mcmp; rw [if_neg c56, if_neg c76, if_neg c91], rfl, rfl⟩
        · refine j_iload_n C d_M_verdict_79 rfl rfl ?_
          refine j_iload C d_M_verdict_80 rfl ?_
          refine j_icmp_ne (tgt := 98) C d_M_verdict_82 (by decide) (fun c82 => ?_) (fun c82 => ?_)
          · refine j_iconst (v := 2) C d_M_verdict_98 (by decide) ?_
            exact j_ireturn C d_M_verdict_99 rfl (by decide) (by decide) ⟨_, by unfold mvd; rw [if_neg c6, if_pos (show rkB α r 4 (8 * q + 4) (rkB α r 4 (8 * q) 0) = 0 from c43)]; unfold mcmp; rw [if_neg c56, if_pos c76, if_neg c82], rfl, rfl⟩
          · refine j_goto (tgt := 94) C d_M_verdict_85 (by decide) ?_
            refine j_iconst (v := 0) C d_M_verdict_94 (by decide) ?_
            refine j_goto (tgt := 99) C d_M_verdict_95 (by decide) ?_
            exact j_ireturn C d_M_verdict_99 rfl (by decide) (by decide) ⟨_, by unfold mvd; rw [if_neg c6, if_pos (show rkB α r 4 (8 * q + 4) (rkB α r 4 (8 * q) 0) = 0 from c43)]; unfold mcmp; rw [if_neg c56, if_pos c76, if_pos c82], rfl, rfl⟩
      · refine j_iload_n C d_M_verdict_59 rfl rfl ?_
        refine j_iload C d_M_verdict_60 rfl ?_
        refine j_icmp_ge (tgt := 98) C d_M_verdict_62 (by decide) (fun c62 => ?_) (fun c62 => ?_)
        · refine j_iconst (v := 2) C d_M_verdict_98 (by decide) ?_
          exact j_ireturn C d_M_verdict_99 rfl (by decide) (by decide) ⟨_, by unfold mvd; rw [if_neg c6, if_pos (show rkB α r 4 (8 * q + 4) (rkB α r 4 (8 * q) 0) = 0 from c43)]; unfold mcmp; rw [if_pos c56, if_pos c62], rfl, rfl⟩
        · refine j_goto (tgt := 94) C d_M_verdict_65 (by decide) ?_
          refine j_iconst (v := 0) C d_M_verdict_94 (by decide) ?_
          refine j_goto (tgt := 99) C d_M_verdict_95 (by decide) ?_
          exact j_ireturn C d_M_verdict_99 rfl (by decide) (by decide) ⟨_, by unfold mvd; rw [if_neg c6, if_pos (show rkB α r 4 (8 * q + 4) (rkB α r 4 (8 * q) 0) = 0 from c43)]; unfold mcmp; rw [if_pos c56, if_neg c62], rfl, rfl⟩
    · refine j_iconst (v := 3) C d_M_verdict_46 (by decide) ?_
      exact j_ireturn C d_M_verdict_47 rfl (by decide) (by decide) ⟨_, by unfold mvd; rw [if_neg c6, if_neg (show ¬ rkB α r 4 (8 * q + 4) (rkB α r 4 (8 * q) 0) = 0 from c43)], rfl, rfl⟩
  · refine j_iconst (v := 0) C d_M_verdict_9 (by decide) ?_
    exact j_ireturn C d_M_verdict_10 rfl (by decide) (by decide) ⟨σ 33, by unfold mvd; rw [if_pos c6], rfl, by show _ = ovM mo (upd σ 33 (σ 33)) α h; rw [upd_self rfl]⟩

