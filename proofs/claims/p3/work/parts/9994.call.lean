/-! ===== a call of both: the class's object at 0, the reference's at 28, the answer's cell at 56, reports from 57 on ===== -/
theorem Cn.mono {l : Launch} {D : va_G} {cA : Nat → ClassId} {b : Nat} {y : MethodName} {cd : Cond} {fr lo mc ms : Nat} {vs : List Value} {n : Nat} {h : AH} {Qa Qb : Rz → Nat → AH → Prop} (hq : Cn l D cA b y cd fr lo mc ms vs n h Qa) (k : ∀ r n h, Qa r n h → Qb r n h) : Cn l D cA b y cd fr lo mc ms vs n h Qb := by
  intro p e ha hc hk s m args below hf happ hP hK
  obtain ⟨n1, o, h1, h2, h3, g1, g2, g3, n2, h4, r, g4, g5, g6⟩ := hq p e ha hc hk s m args below hf happ hP hK
  exact ⟨n1, o, h1, h2, h3, g1, g2, g3, n2, h4, r, g4, g5, k _ _ _ g6⟩
theorem ovM_hu {mo : Nat} {σ : Nat → Int32} {α : Nat → Nat → Int32} {h : AH} {j : Nat} {x : AC} (hj : mo + 28 ≤ j) : hu (ovM mo σ α h) j x = ovM mo σ α (hu h j x) := by
  rw [ovM_L, ovM_L]
  exact ovL_out (Or.inr hj)
abbrev oc (f : Nat → Int64) : AC := .inl (4, 1, .inr (.inl f))
def Bo (n : Nat) (h : AH) (k : Int32) (f : Nat → Int64) : Prop := ∃ (ξ : Nat → Int32) (β : Nat → Nat → Int32) (ρ : Nat → Option Nat) (u w : Nat) (σ : Nat → Int32) (α : Nat → Nat → Int32) (h0 : AH), 57 ≤ n ∧ h = ovX 0 ξ β ρ u w (ovM 28 σ α h0) ∧ h0 56 = oc f ∧ Rel 57 n ξ β ρ u w h0 σ α ∧ σ 0 = k
def St (n : Nat) (h : AH) : Prop := ∃ k f, Bo n h k f
/-- the reference answers v, and P of the class's number, its answer's cell, v -/
def Mz (P : Int32 → Int64 → Int32 → Prop) (n : Nat) (k : Int32) : Rz → Nat → AH → Prop := fun r n' h' => n' = n ∧ ∃ (v : Int32) (f : Nat → Int64), r = .inl (some (.int v)) ∧ Bo n h' k f ∧ P k (f 0) v
abbrev pQ : Int32 → Int64 → Int32 → Prop := fun k o v => k = 0 → o = v.toInt64
abbrev pB : Int32 → Int64 → Int32 → Prop := fun k o v => (v = 0 ∨ v = 1) ∧ (k = 0 → o = v.toInt64)
abbrev pN : Int32 → Int64 → Int32 → Prop := fun _ _ _ => True
def Mv (n : Nat) (k : Int32) : Rz → Nat → AH → Prop := fun r n' h' => n' = n ∧ r = .inl none ∧ ∃ f, Bo n h' k f
/-- the class answered k; the reference, called now, answers so, and both stand alike again -/
def Wz (P : Int32 → Int64 → Int32 → Prop) (l : Launch) (D : va_G) (cA : Nat → ClassId) (b : Nat) (y : MethodName) (cd : Cond) (fr lo : Nat) (vs : List Value) : Rz → Nat → AH → Prop := fun r n h => ∃ k : Int32, r = .inl (some (.int k)) ∧ 57 ≤ n ∧ (∃ fs, h 28 = .inr (6, fs)) ∧ Cn l D cA b y cd fr lo 0 0 vs n h (Mz P n k)
abbrev Wq := Wz pQ
def Wv (l : Launch) (D : va_G) (cA : Nat → ClassId) (b : Nat) (y : MethodName) (cd : Cond) (fr lo : Nat) (vs : List Value) : Rz → Nat → AH → Prop := fun r n h => ∃ k : Int32, r = .inl (some (.int k)) ∧ 57 ≤ n ∧ (∃ fs, h 28 = .inr (6, fs)) ∧ Cn l D cA b y cd fr lo 0 0 vs n h (Mv n k)
/-- what the reference's call comes to: its answer, numbers, arrays such that G -/
def Mg (n1 : Nat) (h : AH) (G : Int32 → (Nat → Int32) → (Nat → Nat → Int32) → Prop) : Rz → Nat → AH → Prop := fun r n h' => n = n1 ∧ ∃ (v : Int32) (s : Nat → Int32) (a : Nat → Nat → Int32), r = .inl (some (.int v)) ∧ h' = ovM 28 s a h ∧ G v s a
section CB
variable {l : Launch} {D : va_G} {cA : Nat → ClassId} {b : Nat} {yL y : MethodName} {kL cd : Cond} {fL lL mc ms fr lo : Nat} {vL vs : List Value} {n n1 : Nat} {hb h1 h0 : AH} {ξ : Nat → Int32} {β : Nat → Nat → Int32} {ρ : Nat → Option Nat} {u w : Nat} {σ σ' : Nat → Int32} {α α' : Nat → Nat → Int32} {f : Nat → Int64} {k v2 : Int32} {x : AC} {P : Int32 → Int64 → Int32 → Prop} {G : Int32 → (Nat → Int32) → (Nat → Nat → Int32) → Prop}
theorem e_q (hM : Cn l D cA b y cd fr lo 0 0 vs n1 (ovM 28 σ α (ovX 0 ξ β ρ u w h1)) (Mg n1 (ovX 0 ξ β ρ u w h1) G)) (h57 : 57 ≤ n1) (ho : h1 56 = oc f) (hG : ∀ v s a, G v s a → Rel 57 n1 ξ β ρ u w h1 s a ∧ s 0 = k ∧ P k (f 0) v) : Cn l D cA b y cd fr lo 0 0 vs n1 (ovM 28 σ α (ovX 0 ξ β ρ u w h1)) (Mz P n1 k) :=
  hM.mono (fun r n' h' hq => by
    obtain ⟨hn, v, s, a, hr, hh, hg⟩ := hq
    obtain ⟨g1, g2, g3⟩ := hG v s a hg
    exact ⟨hn, v, f, hr, ⟨ξ, β, ρ, u, w, s, a, h1, h57, by rw [hh, ovX_M (by omega)], ho, g1, g2⟩, g3⟩)
theorem e_v (hM : Cn l D cA b y cd fr lo 0 0 vs n1 (ovM 28 σ α (ovX 0 ξ β ρ u w h1)) (Re none n1 (ovM 28 σ' α' (ovX 0 ξ β ρ u w h1)))) (h57 : 57 ≤ n1) (ho : h1 56 = oc f) (hR : Rel 57 n1 ξ β ρ u w h1 σ' α') (hk : σ' 0 = k) : Cn l D cA b y cd fr lo 0 0 vs n1 (ovM 28 σ α (ovX 0 ξ β ρ u w h1)) (Mv n1 k) :=
  hM.mono (fun r n' h' hq => by
    obtain ⟨hr, hn, hh⟩ := hq
    exact ⟨hn, hr, f, ξ, β, ρ, u, w, σ', α', h1, h57, by rw [hh, ovX_M (by omega)], ho, hR, hk⟩)
theorem mg_of (hM : Cn l D cA b y cd fr lo 0 0 vs n1 (ovM 28 σ α h1) (Re (some (.int v2)) n1 (ovM 28 σ' α' h1))) : Cn l D cA b y cd fr lo 0 0 vs n1 (ovM 28 σ α h1) (Mg n1 h1 (fun v s a => v = v2 ∧ s = σ' ∧ a = α')) :=
  hM.mono (fun r n' h' hq => ⟨hq.2.1, v2, σ', α', hq.1, hq.2.2, rfl, rfl, rfl⟩)
/-- it threw -/
theorem th_g (hW : Cn l D cA b yL kL fL lL mc ms vL n (ovX 0 ξ β ρ u w (ovM 28 σ α h0)) (Re (some (.int k)) (n + 1) (hu (ovX 0 ξ β ρ u w (ovM 28 σ α h0)) n x))) (hM : ∀ h1, Cn l D cA b y cd fr lo 0 0 vs (n + 1) (ovM 28 σ α h1) (Mg (n + 1) h1 G)) (h57 : 57 ≤ n) (ho : h0 56 = oc f) (hG : ∀ v s a, G v s a → Rel 57 n ξ β ρ u w h0 s a ∧ s 0 = k ∧ P k (f 0) v) : Cn l D cA b yL kL fL lL mc ms vL n (ovX 0 ξ β ρ u w (ovM 28 σ α h0)) (Wz P l D cA b y cd fr lo vs) :=
  hW.mono (fun r n' h' hq => by
    obtain ⟨rfl, rfl, rfl⟩ := hq
    refine ⟨k, rfl, ?_⟩
    rw [ovX_out (Or.inr (by omega)), ovM_hu (by omega), ovX_M (by omega)]
    refine ⟨by omega, ⟨_, ovM_o _ _ _ _⟩, ?_⟩
    exact e_q (hM _) (by omega) (by rw [hu_n (by omega)]; exact ho) (fun v s a hg => ⟨(hG v s a hg).1.hu (by omega) (Or.inr (Nat.le_refl _)), (hG v s a hg).2⟩))
theorem th_q (hW : Cn l D cA b yL kL fL lL mc ms vL n (ovX 0 ξ β ρ u w (ovM 28 σ α h0)) (Re (some (.int k)) (n + 1) (hu (ovX 0 ξ β ρ u w (ovM 28 σ α h0)) n x))) (hM : ∀ h1, Cn l D cA b y cd fr lo 0 0 vs (n + 1) (ovM 28 σ α h1) (Re (some (.int v2)) (n + 1) (ovM 28 σ' α' h1))) (h57 : 57 ≤ n) (ho : h0 56 = oc f) (hk0 : ¬ k = 0) (hR : Rel 57 n ξ β ρ u w h0 σ' α') (hk : σ' 0 = k) : Cn l D cA b yL kL fL lL mc ms vL n (ovX 0 ξ β ρ u w (ovM 28 σ α h0)) (Wq l D cA b y cd fr lo vs) :=
  th_g hW (fun h1 => mg_of (hM h1)) h57 ho (fun v s a hg => by obtain ⟨-, rfl, rfl⟩ := hg; exact ⟨hR, hk, fun z => absurd z hk0⟩)
theorem th_v (hW : Cn l D cA b yL kL fL lL mc ms vL n (ovX 0 ξ β ρ u w (ovM 28 σ α h0)) (Re (some (.int k)) (n + 1) (hu (ovX 0 ξ β ρ u w (ovM 28 σ α h0)) n x))) (hM : ∀ h1, Cn l D cA b y cd fr lo 0 0 vs (n + 1) (ovM 28 σ α h1) (Re none (n + 1) (ovM 28 σ' α' h1))) (h57 : 57 ≤ n) (ho : h0 56 = oc f) (hR : Rel 57 n ξ β ρ u w h0 σ' α') (hk : σ' 0 = k) : Cn l D cA b yL kL fL lL mc ms vL n (ovX 0 ξ β ρ u w (ovM 28 σ α h0)) (Wv l D cA b y cd fr lo vs) :=
  hW.mono (fun r n' h' hq => by
    obtain ⟨rfl, rfl, rfl⟩ := hq
    refine ⟨k, rfl, ?_⟩
    rw [ovX_out (Or.inr (by omega)), ovM_hu (by omega), ovX_M (by omega)]
    refine ⟨by omega, ⟨_, ovM_o _ _ _ _⟩, ?_⟩
    exact e_v (hM _) (by omega) (by rw [hu_n (by omega)]; exact ho) (hR.hu (by omega) (Or.inr (Nat.le_refl _))) hk)
/-- it returned -/
theorem rt_g (hW : Cn l D cA b yL kL fL lL mc ms vL n hb (Re (some (.int 0)) n1 (hu (ovX 0 ξ β ρ u w (ovM 28 σ α h0)) 56 (oc f)))) (hM : ∀ h1, Cn l D cA b y cd fr lo 0 0 vs n1 (ovM 28 σ α h1) (Mg n1 h1 G)) (h57 : 57 ≤ n1) (hG : ∀ v s a, G v s a → Rel 57 n1 ξ β ρ u w h0 s a ∧ s 0 = 0 ∧ P 0 (f 0) v) : Cn l D cA b yL kL fL lL mc ms vL n hb (Wz P l D cA b y cd fr lo vs) :=
  hW.mono (fun r n' h' hq => by
    obtain ⟨rfl, rfl, rfl⟩ := hq
    refine ⟨0, rfl, ?_⟩
    rw [ovX_out (Or.inr (by omega)), ovM_hu (by omega), ovX_M (by omega)]
    refine ⟨by omega, ⟨_, ovM_o _ _ _ _⟩, ?_⟩
    exact e_q (hM _) h57 (hu_s _ _ _) (fun v s a hg => ⟨(hG v s a hg).1.hu (Nat.le_refl _) (Or.inl (by omega)), (hG v s a hg).2⟩))
theorem rt_q (hW : Cn l D cA b yL kL fL lL mc ms vL n hb (Re (some (.int 0)) n1 (hu (ovX 0 ξ β ρ u w (ovM 28 σ α h0)) 56 (oc f)))) (hM : ∀ h1, Cn l D cA b y cd fr lo 0 0 vs n1 (ovM 28 σ α h1) (Re (some (.int v2)) n1 (ovM 28 σ' α' h1))) (h57 : 57 ≤ n1) (hR : Rel 57 n1 ξ β ρ u w h0 σ' α') (hk : σ' 0 = 0) (hv : f 0 = v2.toInt64) : Cn l D cA b yL kL fL lL mc ms vL n hb (Wq l D cA b y cd fr lo vs) :=
  rt_g hW (fun h1 => mg_of (hM h1)) h57 (fun v s a hg => by obtain ⟨rfl, rfl, rfl⟩ := hg; exact ⟨hR, hk, fun _ => hv⟩)
theorem rt_v (hW : Cn l D cA b yL kL fL lL mc ms vL n hb (Re (some (.int 0)) n1 (ovX 0 ξ β ρ u w (ovM 28 σ α h0)))) (hM : ∀ h1, Cn l D cA b y cd fr lo 0 0 vs n1 (ovM 28 σ α h1) (Re none n1 (ovM 28 σ' α' h1))) (h57 : 57 ≤ n1) (ho : h0 56 = oc f) (hR : Rel 57 n1 ξ β ρ u w h0 σ' α') (hk : σ' 0 = 0) : Cn l D cA b yL kL fL lL mc ms vL n hb (Wv l D cA b y cd fr lo vs) :=
  hW.mono (fun r n' h' hq => by
    obtain ⟨rfl, rfl, rfl⟩ := hq
    refine ⟨0, rfl, ?_⟩
    rw [ovX_M (by omega)]
    refine ⟨by omega, ⟨_, ovM_o _ _ _ _⟩, ?_⟩
    exact e_v (hM _) h57 ho hR hk)
end CB
theorem Rel.cnt {lo n : Nat} {ξ : Nat → Int32} {β : Nat → Nat → Int32} {ρ : Nat → Option Nat} {u v : Nat} {h : AH} {σ : Nat → Int32} {α : Nat → Nat → Int32} (hR : Rel lo n ξ β ρ u v h σ α) : ∃ nr : Nat, nr ≤ 30 ∧ ξ 0 = nI nr ∧ σ 2 = nI nr := by
  obtain ⟨nr, cs, I, K, T, F, Z, G, W, t, rs, qk, ql, h1, h2, h3⟩ := hR
  exact ⟨nr, h1⟩
theorem fch0 (f : Nat → Int64) (z : Int32) : vp_updL f (0 : Int32).toNatClampNeg z.toInt64 0 = z.toInt64 := if_pos rfl
/-- the report's cells, seen through the reference's -/
theorem repM {r : Nat} {i k t f : Int32} {ζ g w : Nat → Int32} {σ : Nat → Int32} {α : Nat → Nat → Int32} {h : AH} (hr : 57 ≤ r) (he : ovR r i k t f ζ g w h = h) : ovR r i k t f ζ g w (ovM 28 σ α h) = ovM 28 σ α h := by
  rw [ovM_R (by omega), he]
