/-! ===== fault, inside, the clock, at: which way the reference goes ===== -/
theorem mfault_1 {σ : Nat → Int32} {α : Nat → Nat → Int32} {r f : Int32} (h : inI r 0 (σ 2 - 1) = 0 ∨ inI f 0 19 = 0) : mfault σ α r f = (upd σ 0 1, α) := by
  unfold mfault
  rw [mkn_0 h]
  rfl
theorem mfault_2 {σ : Nat → Int32} {α : Nat → Nat → Int32} {j e : Nat} (h1 : inI (nI j) 0 (σ 2 - 1) = 1) (h2 : inI (nI e) 0 19 = 1) (hj : j < 30) (he : e < 20) (h : ¬ α 8 j = 3 ∨ ¬ α 12 (20 * j + e) = 0) : mfault σ α (nI j) (nI e) = (upd σ 0 2, α) := by
  have ht : (if mkn σ (nI j) (nI e) = 0 then (0 : Int32) else if α 8 (nI j).toNatClampNeg = 3 then (if α 12 (20 * nI j + nI e).toNatClampNeg = 0 then 1 else 0) else 0) = 0 := by
    rw [mkn_1 h1 h2, e20, nI_clamp (by omega), nI_clamp (by omega), if_neg (by decide)]
    by_cases y : α 8 j = 3
    · rw [if_pos y, if_neg (h.resolve_left (fun z => z y))]
    · rw [if_neg y]
  unfold mfault
  rw [ht, mkn_1 h1 h2]
  rfl
theorem mfault_3 {σ : Nat → Int32} {α : Nat → Nat → Int32} {j e : Nat} (h1 : inI (nI j) 0 (σ 2 - 1) = 1) (h2 : inI (nI e) 0 19 = 1) (hj : j < 30) (he : e < 20) (h8 : α 8 j = 3) (h12 : α 12 (20 * j + e) = 0) : mfault σ α (nI j) (nI e) = (upd σ 0 0, upa α 12 (upd (α 12) (20 * j + e) 1)) := by
  have ht : (if mkn σ (nI j) (nI e) = 0 then (0 : Int32) else if α 8 (nI j).toNatClampNeg = 3 then (if α 12 (20 * nI j + nI e).toNatClampNeg = 0 then 1 else 0) else 0) = 1 := by
    rw [mkn_1 h1 h2, e20, nI_clamp (by omega), nI_clamp (by omega), if_neg (by decide), if_pos h8, if_pos h12]
  unfold mfault
  rw [ht, mkn_1 h1 h2, e20, nI_clamp (by omega)]
  rfl
theorem mtick_1 {σ : Nat → Int32} {x : Int32} (h : inI x 1 5000 = 0 ∨ 99999 - σ 1 < x) : mtick σ x = (0, upd σ 0 1) := by
  unfold mtick
  rcases h with z | z
  · rw [if_pos z]
  · by_cases y : inI x 1 5000 = 0
    · rw [if_pos y]
    · rw [if_neg y, if_pos z]
theorem mtick_2 {σ : Nat → Int32} {x : Int32} (h : inI x 1 5000 = 1) (h2 : ¬ 99999 - σ 1 < x) : mtick σ x = (σ 1 + x, upd (upd σ 0 0) 1 (σ 1 + x)) := by
  unfold mtick
  rw [h, if_neg (by decide), if_neg h2]
/-- the clock: both refuse, or both go on -/
theorem tick_c {ξ1 σ1 : Int32} (hc : rlC ξ1 σ1) (x : Int32) : ((x < 1 ∨ 5000 < x ∨ ¬ ξ1 + x ≤ 99999) ∧ (inI x 1 5000 = 0 ∨ 99999 - σ1 < x)) ∨ (¬ x < 1 ∧ ¬ 5000 < x ∧ ξ1 + x ≤ 99999 ∧ inI x 1 5000 = 1 ∧ ¬ 99999 - σ1 < x ∧ ξ1 + x = σ1 + x ∧ rlC (ξ1 + x) (σ1 + x)) := by
  obtain ⟨t, ht, rfl, rfl⟩ := hc
  by_cases h0 : x < 1
  · exact Or.inl ⟨Or.inl h0, Or.inl (in_bad (Or.inl h0))⟩
  · have hz : ¬ x < 0 := fun z => h0 (Int32.lt_trans z (by decide))
    obtain ⟨k, hk, rfl⟩ := nI_of hz
    by_cases h1 : k ≤ 5000
    · have e1 : ¬ (5000 : Int32) < nI k := fun z => absurd (show nI k ≤ nI 5000 from nI_le h1 (by omega)) (Int32.not_le.mpr z)
      have e2 : inI (nI k) 1 5000 = 1 := in_ok h0 (show nI k ≤ nI 5000 from nI_le h1 (by omega))
      have e3 : (99999 : Int32) - nI t = nI (99999 - t) := by rw [show (99999 : Int32) = nI 99999 from rfl, pk_sub (by omega)]
      rw [nI_add, e3]
      by_cases h2 : t + k ≤ 99999
      · exact Or.inr ⟨h0, e1, nI_le (b := 99999) h2 (by omega), e2, fun z => absurd (nI_le (a := k) (b := 99999 - t) (by omega) (by omega)) (Int32.not_le.mpr z), rfl, ⟨t + k, h2, rfl, rfl⟩⟩
      · exact Or.inl ⟨Or.inr (Or.inr (nI_ge (a := 99999) (by omega) (by omega))), Or.inr (nI_lt (by omega) (by omega))⟩
    · have e1 : (5000 : Int32) < nI k := nI_lt (a := 5000) (by omega) hk
      exact Or.inl ⟨Or.inr (Or.inl e1), Or.inl (in_bad (Or.inr (fun z => absurd z (Int32.not_le.mpr e1))))⟩
/-! ===== a call of both: the class's object at 0, the reference's at 28, the answer's cell at 56, reports from 57 on ===== -/
theorem Cn.mono {l : Launch} {D : va_G} {cA : Nat → ClassId} {b : Nat} {y : MethodName} {cd : Cond} {fr lo mc ms : Nat} {vs : List Value} {n : Nat} {h : AH} {Qa Qb : Rz → Nat → AH → Prop} (hq : Cn l D cA b y cd fr lo mc ms vs n h Qa) (k : ∀ r n h, Qa r n h → Qb r n h) : Cn l D cA b y cd fr lo mc ms vs n h Qb := by
  intro p e ha hc hk s m args below hf happ hP hK
  obtain ⟨n1, o, h1, h2, h3, g1, g2, g3, n2, h4, r, g4, g5, g6⟩ := hq p e ha hc hk s m args below hf happ hP hK
  exact ⟨n1, o, h1, h2, h3, g1, g2, g3, n2, h4, r, g4, g5, k _ _ _ g6⟩
theorem ovM_hu {mo : Nat} {σ : Nat → Int32} {α : Nat → Nat → Int32} {h : AH} {j : Nat} {x : AC} (hj : mo + 28 ≤ j) : hu (ovM mo σ α h) j x = ovM mo σ α (hu h j x) := by
  rw [ovM_L, ovM_L]
  exact ovL_out (Or.inr hj)
abbrev oc (f : Nat → Int64) : AC := .inl (4, 1, .inr (.inl f))
def Bo (n : Nat) (h : AH) (k : Int32) (f : Nat → Int64) : Prop := ∃ (ξ : Nat → Int32) (β : Nat → Nat → Int32) (ρ : Nat → Option Nat) (u w : Nat) (σ : Nat → Int32) (α : Nat → Nat → Int32) (h0 : AH), 57 ≤ n ∧ h = ovX 0 ξ β ρ u w (ovM 28 σ α h0) ∧ h0 56 = oc f ∧ Rel 57 n ξ β ρ u w h0 σ α ∧ σ 0 = k
def St (n : Nat) (h : AH) : Prop := ∃ k f, Bo n h k f
/-- the reference answers v, and P of the class's number, its answer's cell, v -/
def Mz (P : Int32 → Int64 → Int32 → Prop) (n : Nat) (k : Int32) : Rz → Nat → AH → Prop := fun r n' h' => n' = n ∧ ∃ (v : Int32) (f : Nat → Int64), r = .inl (some (.int v)) ∧ Bo n h' k f ∧ P k (f 0) v
abbrev pQ : Int32 → Int64 → Int32 → Prop := fun k o v => k = 0 → o = v.toInt64
abbrev pB : Int32 → Int64 → Int32 → Prop := fun k o v => (v = 0 ∨ v = 1) ∧ (k = 0 → o = v.toInt64)
abbrev pN : Int32 → Int64 → Int32 → Prop := fun _ _ _ => True
def Mv (n : Nat) (k : Int32) : Rz → Nat → AH → Prop := fun r n' h' => n' = n ∧ r = .inl none ∧ ∃ f, Bo n h' k f
/-- the class answered k; the reference, called now, answers so, and both stand alike again -/
def Wz (P : Int32 → Int64 → Int32 → Prop) (l : Launch) (D : va_G) (cA : Nat → ClassId) (b : Nat) (y : MethodName) (cd : Cond) (fr lo : Nat) (vs : List Value) : Rz → Nat → AH → Prop := fun r n h => ∃ k : Int32, r = .inl (some (.int k)) ∧ 57 ≤ n ∧ (∃ fs, h 28 = .inr (6, fs)) ∧ Cn l D cA b y cd fr lo 0 0 vs n h (Mz P n k)
abbrev Wq := Wz pQ
def Wv (l : Launch) (D : va_G) (cA : Nat → ClassId) (b : Nat) (y : MethodName) (cd : Cond) (fr lo : Nat) (vs : List Value) : Rz → Nat → AH → Prop := fun r n h => ∃ k : Int32, r = .inl (some (.int k)) ∧ 57 ≤ n ∧ (∃ fs, h 28 = .inr (6, fs)) ∧ Cn l D cA b y cd fr lo 0 0 vs n h (Mv n k)
/-- what the reference's call comes to: its answer, numbers, arrays such that G -/
def Mg (n1 : Nat) (h : AH) (G : Int32 → (Nat → Int32) → (Nat → Nat → Int32) → Prop) : Rz → Nat → AH → Prop := fun r n h' => n = n1 ∧ ∃ (v : Int32) (s : Nat → Int32) (a : Nat → Nat → Int32), r = .inl (some (.int v)) ∧ h' = ovM 28 s a h ∧ G v s a
section CB
variable {l : Launch} {D : va_G} {cA : Nat → ClassId} {b : Nat} {yL y : MethodName} {kL cd : Cond} {fL lL mc ms fr lo : Nat} {vL vs : List Value} {n n1 : Nat} {hb h1 h0 : AH} {ξ : Nat → Int32} {β : Nat → Nat → Int32} {ρ : Nat → Option Nat} {u w : Nat} {σ σ' : Nat → Int32} {α α' : Nat → Nat → Int32} {f : Nat → Int64} {k v2 : Int32} {x : AC} {P : Int32 → Int64 → Int32 → Prop} {G : Int32 → (Nat → Int32) → (Nat → Nat → Int32) → Prop}
theorem e_q (hM : Cn l D cA b y cd fr lo 0 0 vs n1 (ovM 28 σ α (ovX 0 ξ β ρ u w h1)) (Mg n1 (ovX 0 ξ β ρ u w h1) G)) (h57 : 57 ≤ n1) (ho : h1 56 = oc f) (hG : ∀ v s a, G v s a → Rel 57 n1 ξ β ρ u w h1 s a ∧ s 0 = k ∧ P k (f 0) v) : Cn l D cA b y cd fr lo 0 0 vs n1 (ovM 28 σ α (ovX 0 ξ β ρ u w h1)) (Mz P n1 k) :=
  hM.mono (fun r n' h' hq => by
    obtain ⟨hn, v, s, a, hr, hh, hg⟩ := hq
    obtain ⟨g1, g2, g3⟩ := hG v s a hg
    exact ⟨hn, v, f, hr, ⟨ξ, β, ρ, u, w, s, a, h1, h57, by rw [hh, ovX_M (by omega)], ho, g1, g2⟩, g3⟩)
theorem e_v (hM : Cn l D cA b y cd fr lo 0 0 vs n1 (ovM 28 σ α (ovX 0 ξ β ρ u w h1)) (Re none n1 (ovM 28 σ' α' (ovX 0 ξ β ρ u w h1)))) (h57 : 57 ≤ n1) (ho : h1 56 = oc f) (hR : Rel 57 n1 ξ β ρ u w h1 σ' α') (hk : σ' 0 = k) : Cn l D cA b y cd fr lo 0 0 vs n1 (ovM 28 σ α (ovX 0 ξ β ρ u w h1)) (Mv n1 k) :=
  hM.mono (fun r n' h' hq => by
    obtain ⟨hr, hn, hh⟩ := hq
    exact ⟨hn, hr, f, ξ, β, ρ, u, w, σ', α', h1, h57, by rw [hh, ovX_M (by omega)], ho, hR, hk⟩)
theorem mg_of (hM : Cn l D cA b y cd fr lo 0 0 vs n1 (ovM 28 σ α h1) (Re (some (.int v2)) n1 (ovM 28 σ' α' h1))) : Cn l D cA b y cd fr lo 0 0 vs n1 (ovM 28 σ α h1) (Mg n1 h1 (fun v s a => v = v2 ∧ s = σ' ∧ a = α')) :=
  hM.mono (fun r n' h' hq => ⟨hq.2.1, v2, σ', α', hq.1, hq.2.2, rfl, rfl, rfl⟩)
/-- it threw -/
theorem th_g (hW : Cn l D cA b yL kL fL lL mc ms vL n (ovX 0 ξ β ρ u w (ovM 28 σ α h0)) (Re (some (.int k)) (n + 1) (hu (ovX 0 ξ β ρ u w (ovM 28 σ α h0)) n x))) (hM : ∀ h1, Cn l D cA b y cd fr lo 0 0 vs (n + 1) (ovM 28 σ α h1) (Mg (n + 1) h1 G)) (h57 : 57 ≤ n) (ho : h0 56 = oc f) (hG : ∀ v s a, G v s a → Rel 57 n ξ β ρ u w h0 s a ∧ s 0 = k ∧ P k (f 0) v) : Cn l D cA b yL kL fL lL mc ms vL n (ovX 0 ξ β ρ u w (ovM 28 σ α h0)) (Wz P l D cA b y cd fr lo vs) :=
  hW.mono (fun r n' h' hq => by
    obtain ⟨rfl, rfl, rfl⟩ := hq
    refine ⟨k, rfl, ?_⟩
    rw [ovX_out (Or.inr (by omega)), ovM_hu (by omega), ovX_M (by omega)]
    refine ⟨by omega, ⟨_, ovM_o _ _ _ _⟩, ?_⟩
    exact e_q (hM _) (by omega) (by rw [hu_n (by omega)]; exact ho) (fun v s a hg => ⟨(hG v s a hg).1.hu (by omega) (Or.inr (Nat.le_refl _)), (hG v s a hg).2⟩))
theorem th_q (hW : Cn l D cA b yL kL fL lL mc ms vL n (ovX 0 ξ β ρ u w (ovM 28 σ α h0)) (Re (some (.int k)) (n + 1) (hu (ovX 0 ξ β ρ u w (ovM 28 σ α h0)) n x))) (hM : ∀ h1, Cn l D cA b y cd fr lo 0 0 vs (n + 1) (ovM 28 σ α h1) (Re (some (.int v2)) (n + 1) (ovM 28 σ' α' h1))) (h57 : 57 ≤ n) (ho : h0 56 = oc f) (hk0 : ¬ k = 0) (hR : Rel 57 n ξ β ρ u w h0 σ' α') (hk : σ' 0 = k) : Cn l D cA b yL kL fL lL mc ms vL n (ovX 0 ξ β ρ u w (ovM 28 σ α h0)) (Wq l D cA b y cd fr lo vs) :=
  th_g hW (fun h1 => mg_of (hM h1)) h57 ho (fun v s a hg => by obtain ⟨-, rfl, rfl⟩ := hg; exact ⟨hR, hk, fun z => absurd z hk0⟩)
theorem th_v (hW : Cn l D cA b yL kL fL lL mc ms vL n (ovX 0 ξ β ρ u w (ovM 28 σ α h0)) (Re (some (.int k)) (n + 1) (hu (ovX 0 ξ β ρ u w (ovM 28 σ α h0)) n x))) (hM : ∀ h1, Cn l D cA b y cd fr lo 0 0 vs (n + 1) (ovM 28 σ α h1) (Re none (n + 1) (ovM 28 σ' α' h1))) (h57 : 57 ≤ n) (ho : h0 56 = oc f) (hR : Rel 57 n ξ β ρ u w h0 σ' α') (hk : σ' 0 = k) : Cn l D cA b yL kL fL lL mc ms vL n (ovX 0 ξ β ρ u w (ovM 28 σ α h0)) (Wv l D cA b y cd fr lo vs) :=
  hW.mono (fun r n' h' hq => by
    obtain ⟨rfl, rfl, rfl⟩ := hq
    refine ⟨k, rfl, ?_⟩
    rw [ovX_out (Or.inr (by omega)), ovM_hu (by omega), ovX_M (by omega)]
    refine ⟨by omega, ⟨_, ovM_o _ _ _ _⟩, ?_⟩
    exact e_v (hM _) (by omega) (by rw [hu_n (by omega)]; exact ho) (hR.hu (by omega) (Or.inr (Nat.le_refl _))) hk)
/-- it returned -/
theorem rt_g (hW : Cn l D cA b yL kL fL lL mc ms vL n hb (Re (some (.int 0)) n1 (hu (ovX 0 ξ β ρ u w (ovM 28 σ α h0)) 56 (oc f)))) (hM : ∀ h1, Cn l D cA b y cd fr lo 0 0 vs n1 (ovM 28 σ α h1) (Mg n1 h1 G)) (h57 : 57 ≤ n1) (hG : ∀ v s a, G v s a → Rel 57 n1 ξ β ρ u w h0 s a ∧ s 0 = 0 ∧ P 0 (f 0) v) : Cn l D cA b yL kL fL lL mc ms vL n hb (Wz P l D cA b y cd fr lo vs) :=
  hW.mono (fun r n' h' hq => by
    obtain ⟨rfl, rfl, rfl⟩ := hq
    refine ⟨0, rfl, ?_⟩
    rw [ovX_out (Or.inr (by omega)), ovM_hu (by omega), ovX_M (by omega)]
    refine ⟨by omega, ⟨_, ovM_o _ _ _ _⟩, ?_⟩
    exact e_q (hM _) h57 (hu_s _ _ _) (fun v s a hg => ⟨(hG v s a hg).1.hu (Nat.le_refl _) (Or.inl (by omega)), (hG v s a hg).2⟩))
theorem rt_q (hW : Cn l D cA b yL kL fL lL mc ms vL n hb (Re (some (.int 0)) n1 (hu (ovX 0 ξ β ρ u w (ovM 28 σ α h0)) 56 (oc f)))) (hM : ∀ h1, Cn l D cA b y cd fr lo 0 0 vs n1 (ovM 28 σ α h1) (Re (some (.int v2)) n1 (ovM 28 σ' α' h1))) (h57 : 57 ≤ n1) (hR : Rel 57 n1 ξ β ρ u w h0 σ' α') (hk : σ' 0 = 0) (hv : f 0 = v2.toInt64) : Cn l D cA b yL kL fL lL mc ms vL n hb (Wq l D cA b y cd fr lo vs) :=
  rt_g hW (fun h1 => mg_of (hM h1)) h57 (fun v s a hg => by obtain ⟨rfl, rfl, rfl⟩ := hg; exact ⟨hR, hk, fun _ => hv⟩)
theorem rt_v (hW : Cn l D cA b yL kL fL lL mc ms vL n hb (Re (some (.int 0)) n1 (ovX 0 ξ β ρ u w (ovM 28 σ α h0)))) (hM : ∀ h1, Cn l D cA b y cd fr lo 0 0 vs n1 (ovM 28 σ α h1) (Re none n1 (ovM 28 σ' α' h1))) (h57 : 57 ≤ n1) (ho : h0 56 = oc f) (hR : Rel 57 n1 ξ β ρ u w h0 σ' α') (hk : σ' 0 = 0) : Cn l D cA b yL kL fL lL mc ms vL n hb (Wv l D cA b y cd fr lo vs) :=
  hW.mono (fun r n' h' hq => by
    obtain ⟨rfl, rfl, rfl⟩ := hq
    refine ⟨0, rfl, ?_⟩
    rw [ovX_M (by omega)]
    refine ⟨by omega, ⟨_, ovM_o _ _ _ _⟩, ?_⟩
    exact e_v (hM _) h57 ho hR hk)
end CB
theorem Rel.cnt {lo n : Nat} {ξ : Nat → Int32} {β : Nat → Nat → Int32} {ρ : Nat → Option Nat} {u v : Nat} {h : AH} {σ : Nat → Int32} {α : Nat → Nat → Int32} (hR : Rel lo n ξ β ρ u v h σ α) : ∃ nr : Nat, nr ≤ 30 ∧ ξ 0 = nI nr ∧ σ 2 = nI nr := by
  obtain ⟨nr, cs, I, K, T, F, Z, G, W, t, rs, qk, ql, h1, h2, h3⟩ := hR
  exact ⟨nr, h1⟩
theorem fch0 (f : Nat → Int64) (z : Int32) : vp_updL f (0 : Int32).toNatClampNeg z.toInt64 0 = z.toInt64 := if_pos rfl
/-- the report's cells, seen through the reference's -/
theorem repM {r : Nat} {i k t f : Int32} {ζ g w : Nat → Int32} {σ : Nat → Int32} {α : Nat → Nat → Int32} {h : AH} (hr : 57 ≤ r) (he : ovR r i k t f ζ g w h = h) : ovR r i k t f ζ g w (ovM 28 σ α h) = ovM 28 σ α h := by
  rw [ovM_R (by omega), he]
/-! ===== the calls, one by one: tick, ask, hide, sign, at, wanting, report ===== -/
section RA
variable {lo n : Nat} {ξ : Nat → Int32} {β : Nat → Nat → Int32} {ρ : Nat → Option Nat} {u v : Nat} {h : AH} {σ : Nat → Int32} {α : Nat → Nat → Int32}
theorem Rel.clk (hR : Rel lo n ξ β ρ u v h σ α) : rlC (ξ 1) (σ 1) := by
  obtain ⟨nr, cs, I, K, T, F, Z, G, W, t, rs, qk, ql, h1, h2, h3, h4, h5, h6, h7, h8, h9, h10, h11, h12⟩ := hR
  exact h5
theorem Rel.tp (hR : Rel lo n ξ β ρ u v h σ α) : ∃ t, rlT (ξ 2) (β 4) (σ 16) (α 17) t := by
  obtain ⟨nr, cs, I, K, T, F, Z, G, W, t, rs, qk, ql, h1, h2, h3, h4, h5, h6, h7, h8, h9, h10, h11, h12⟩ := hR
  exact ⟨t, h6⟩
theorem Rel.ak (hR : Rel lo n ξ β ρ u v h σ α) : rlA (β 2) (α 14) ∧ rlH (β 3) (α 15) := by
  obtain ⟨nr, cs, I, K, T, F, Z, G, W, t, rs, qk, ql, h1, h2, h3, h4, h5, h6, h7, h8, h9, h10, h11, h12⟩ := hR
  exact ⟨h7, h8⟩
theorem Rel.kk (hR : Rel lo n ξ β ρ u v h σ α) : ∃ q, rlK (ξ 8) (β 21) (β 22) (σ 34) (α 35) (α 36) q := by
  obtain ⟨nr, cs, I, K, T, F, Z, G, W, t, rs, qk, ql, h1, h2, h3, h4, h5, h6, h7, h8, h9, h10, h11, h12⟩ := hR
  exact ⟨qk, h9⟩
theorem Rel.ll (hR : Rel lo n ξ β ρ u v h σ α) : ∃ q, rlL (ξ 10) (β 27) (σ 37) (α 38) q := by
  obtain ⟨nr, cs, I, K, T, F, Z, G, W, t, rs, qk, ql, h1, h2, h3, h4, h5, h6, h7, h8, h9, h10, h11, h12⟩ := hR
  exact ⟨ql, h10⟩
theorem Rel.bb (hR : Rel lo n ξ β ρ u v h σ α) : rlB (α 10) ∧ rlB (α 11) ∧ rlB (α 12) ∧ rlB (α 14) ∧ rlB (α 15) := by
  obtain ⟨nr, cs, I, K, T, F, Z, G, W, t, rs, qk, ql, h1, h2, h3, h4, h5, h6, h7, h8, h9, h10, h11, h12⟩ := hR
  exact h12
end RA
theorem outX {ξ : Nat → Int32} {β : Nat → Nat → Int32} {ρ : Nat → Option Nat} {u w : Nat} {σ : Nat → Int32} {α : Nat → Nat → Int32} {h0 : AH} {f : Nat → Int64} (ho : h0 56 = oc f) : ovX 0 ξ β ρ u w (ovM 28 σ α h0) 56 = oc f := by
  rw [ovX_n (Or.inr (by omega)), ovM_n (Or.inr (by omega)), ho]
theorem s_tick {l : Launch} (hl : l.stackTraces = false) {D : va_G} {cA : Nat → ClassId} {b n : Nat} {h : AH} (hS : St n h) (x : Int32) : Cn l D cA b y_L_tick k_L_tick 7 97 1 6 [.ref 0, .int x, .ref 56] n h (Wq l D cA b y_M_tick k_M_tick 1 15 [.ref 28, .int x]) := by
  obtain ⟨k0, f0, ξ, β, ρ, u, w, σ, α, h0, h57, rfl, ho, hR, -⟩ := hS
  rcases tick_c hR.clk x with ⟨ha, hb⟩ | ⟨a1, a2, a3, b1, b2, e, hc'⟩
  · exact th_q (w_tick_8 hl _ (by omega) (ovX_c (xo := 0) (o := 0) rfl) (c_X_tick_t hl _ (by omega) _ ha)) (fun h1 => c_M_tick hl _ _ _ h1 (by omega)) h57 ho (by decide) (by rw [mtick_1 hb]; exact hR.thrown 1) (by rw [mtick_1 hb]; rfl)
  · exact rt_q (w_tick_r hl _ (by omega) (ovX_c (xo := 0) (o := 0) rfl) (c_X_tick_r hl _ (by omega) _ a1 a2 a3) (by omega) (outX ho)) (fun h1 => c_M_tick hl _ _ _ h1 (by omega)) h57 (by rw [mtick_2 b1 b2]; exact (hR.thrown 0).now hc') (by rw [mtick_2 b1 b2]; rfl) (by rw [mtick_2 b1 b2, fch0, e])
theorem mask_1 {σ : Nat → Int32} {α : Nat → Nat → Int32} {k f on : Int32} (h : inI k 0 4 = 0 ∨ inI f 0 19 = 0) : mask σ α k f on = (upd σ 0 1, α) := by
  unfold mask kn2
  rcases h with z | z
  · rw [if_pos z]; rfl
  · rw [z]
    by_cases y : inI k 0 4 = 0
    · rw [if_pos y]; rfl
    · rw [if_neg y]; rfl
theorem mask_2 {σ : Nat → Int32} {α : Nat → Nat → Int32} {k f : Nat} {on : Int32} (h1 : inI (nI k) 0 4 = 1) (h2 : inI (nI f) 0 19 = 1) (hk : k < 5) (hf : f < 20) : mask σ α (nI k) (nI f) on = (upd σ 0 0, upa α 14 (upd (α 14) (20 * k + f) (vp_nar .boolean on))) := by
  unfold mask
  rw [h1, h2, e20, nI_clamp (by omega)]
  rfl
theorem mhide_1 {σ : Nat → Int32} {α : Nat → Nat → Int32} {k f on : Int32} (h : inI k 0 19 = 0 ∨ inI f 0 19 = 0) : mhide σ α k f on = (upd σ 0 1, α) := by
  unfold mhide kn2
  rcases h with z | z
  · rw [if_pos z]; rfl
  · rw [z]
    by_cases y : inI k 0 19 = 0
    · rw [if_pos y]; rfl
    · rw [if_neg y]; rfl
theorem mhide_2 {σ : Nat → Int32} {α : Nat → Nat → Int32} {k f : Nat} {on : Int32} (h1 : inI (nI k) 0 19 = 1) (h2 : inI (nI f) 0 19 = 1) (hk : k < 20) (hf : f < 20) : mhide σ α (nI k) (nI f) on = (upd σ 0 0, upa α 15 (upd (α 15) (20 * k + f) (vp_nar .boolean on))) := by
  unfold mhide
  rw [h1, h2, e20, nI_clamp (by omega)]
  rfl
theorem s_ask {l : Launch} (hl : l.stackTraces = false) {D : va_G} {cA : Nat → ClassId} {b n : Nat} {h : AH} (hS : St n h) (k f on : Int32) (hon : on = 0 ∨ on = 1) : Cn l D cA b y_L_ask k_L_ask 8 109 1 6 [.ref 0, .int k, .int f, .int on] n h (Wv l D cA b y_M_ask k_M_ask 2 27 [.ref 28, .int k, .int f, .int on]) := by
  obtain ⟨k0, f0, ξ, β, ρ, u, w, σ, α, h0, h57, rfl, ho, hR, -⟩ := hS
  rcases fld_c 4 (by omega) k with ⟨ha, hb⟩ | ⟨k, hk, rfl, a1, a2, hb⟩
  · exact th_v (w_ask_7 hl _ _ _ (by omega) (ovX_c (xo := 0) (o := 0) rfl) (c_X_ask_a hl _ (by omega) _ _ _ ha)) (fun h1 => c_M_ask hl _ _ _ _ _ h1 (by omega)) h57 ho (by rw [mask_1 (Or.inl hb)]; exact hR.thrown 1) (by rw [mask_1 (Or.inl hb)]; rfl)
  · rcases fld_c 19 (by omega) f with ⟨ha, hb2⟩ | ⟨f, hf, rfl, a3, a4, hb2⟩
    · exact th_v (w_ask_7 hl _ _ _ (by omega) (ovX_c (xo := 0) (o := 0) rfl) (c_X_ask_b hl _ (by omega) _ _ _ a1 a2 ha)) (fun h1 => c_M_ask hl _ _ _ _ _ h1 (by omega)) h57 ho (by rw [mask_1 (Or.inr hb2)]; exact hR.thrown 1) (by rw [mask_1 (Or.inr hb2)]; rfl)
    · have c := c_X_ask_r hl (D := D) (cA := cA) (b := b) (n := n) (xo := 0) (ξ := ξ) (β := β) (ρ := ρ) (u := u) (v := w) (ovM 28 σ α h0) (by omega) (nI k) (nI f) on a1 a2 a3 a4 (vp_in_nI (by omega) (by omega))
      rw [nI_clamp (by omega)] at c
      exact rt_v (w_ask_r hl _ _ _ (by omega) (ovX_c (xo := 0) (o := 0) rfl) c) (fun h1 => c_M_ask hl _ _ _ _ _ h1 (by omega)) h57 ho (by rw [mask_2 hb hb2 (by omega) (by omega)]; exact (hR.thrown 0).ask (by omega) (by omega) hon) (by rw [mask_2 hb hb2 (by omega) (by omega)]; rfl)
theorem s_hide {l : Launch} (hl : l.stackTraces = false) {D : va_G} {cA : Nat → ClassId} {b n : Nat} {h : AH} (hS : St n h) (k f on : Int32) (hon : on = 0 ∨ on = 1) : Cn l D cA b y_L_hide k_L_hide 8 109 1 6 [.ref 0, .int k, .int f, .int on] n h (Wv l D cA b y_M_hide k_M_hide 2 27 [.ref 28, .int k, .int f, .int on]) := by
  obtain ⟨k0, f0, ξ, β, ρ, u, w, σ, α, h0, h57, rfl, ho, hR, -⟩ := hS
  rcases fld_c 19 (by omega) k with ⟨ha, hb⟩ | ⟨k, hk, rfl, a1, a2, hb⟩
  · exact th_v (w_hide_7 hl _ _ _ (by omega) (ovX_c (xo := 0) (o := 0) rfl) (c_X_hide_a hl _ (by omega) _ _ _ ha)) (fun h1 => c_M_hide hl _ _ _ _ _ h1 (by omega)) h57 ho (by rw [mhide_1 (Or.inl hb)]; exact hR.thrown 1) (by rw [mhide_1 (Or.inl hb)]; rfl)
  · rcases fld_c 19 (by omega) f with ⟨ha, hb2⟩ | ⟨f, hf, rfl, a3, a4, hb2⟩
    · exact th_v (w_hide_7 hl _ _ _ (by omega) (ovX_c (xo := 0) (o := 0) rfl) (c_X_hide_b hl _ (by omega) _ _ _ a1 a2 ha)) (fun h1 => c_M_hide hl _ _ _ _ _ h1 (by omega)) h57 ho (by rw [mhide_1 (Or.inr hb2)]; exact hR.thrown 1) (by rw [mhide_1 (Or.inr hb2)]; rfl)
    · have c := c_X_hide_r hl (D := D) (cA := cA) (b := b) (n := n) (xo := 0) (ξ := ξ) (β := β) (ρ := ρ) (u := u) (v := w) (ovM 28 σ α h0) (by omega) (nI k) (nI f) on a1 a2 a3 a4 (vp_in_nI (by omega) (by omega))
      rw [nI_clamp (by omega)] at c
      exact rt_v (w_hide_r hl _ _ _ (by omega) (ovX_c (xo := 0) (o := 0) rfl) c) (fun h1 => c_M_hide hl _ _ _ _ _ h1 (by omega)) h57 ho (by rw [mhide_2 hb hb2 (by omega) (by omega)]; exact (hR.thrown 0).hide (by omega) (by omega) hon) (by rw [mhide_2 hb hb2 (by omega) (by omega)]; rfl)
theorem s_sign {l : Launch} (hl : l.stackTraces = false) {D : va_G} {cA : Nat → ClassId} {b n : Nat} {h : AH} (hS : St n h) (B : Int64) (x : Int32) : Cn l D cA b y_L_sign k_L_sign 7 100 1 6 [.ref 0, .long B, .int x, .ref 56] n h (Wq l D cA b y_M_sign k_M_sign 1 15 [.ref 28, .long B, .int x]) := by
  obtain ⟨k0, f0, ξ, β, ρ, u, w, σ, α, h0, h57, rfl, ho, hR, -⟩ := hS
  by_cases hx : x < 1 ∨ ¬ x ≤ 8
  · exact th_q (w_sign_8 hl _ _ (by omega) (ovX_c (xo := 0) (o := 0) rfl) (c_X_sign_t8 hl _ (by omega) _ _ hx)) (fun h1 => c_M_sign_1 hl _ _ _ _ h1 (by omega) hx) h57 ho (by decide) (hR.thrown 1) rfl
  · have x1 : ¬ x < 1 := fun z => hx (Or.inl z)
    have x8 : x ≤ 8 := Decidable.not_not.mp (fun z => hx (Or.inr z))
    have x0 : ¬ x < 0 := fun z => x1 (Int32.lt_trans z (by decide))
    obtain ⟨k, hk8, rfl⟩ := nI_of2 (n := 8) (show (8 : Int32).toInt = (8 : Nat) by decide) x0 x8
    have hk1 : 1 ≤ k := by
      rcases Nat.eq_zero_or_pos k with z | z
      · subst z
        exact absurd (show nI 0 < 1 by decide) x1
      · exact z
    obtain ⟨t, ht⟩ := hR.tp
    obtain ⟨t1, t2, t3, -⟩ := id ht
    by_cases hs : t + k ≤ 300
    · exact rt_q (w_sign_r hl _ _ (by omega) (ovX_c (xo := 0) (o := 0) rfl) (c_X_sign_r hl _ (by omega) _ k t t2 hk1 hk8 hs) (by omega) (outX ho)) (fun h1 => c_M_sign_r hl _ k t _ _ h1 (by omega) t3 hk1 hk8 hs) h57 ((hR.thrown 0).tape (rlT_sign B ht hk8 hs)) rfl (fch0 _ _)
    · have e1 : ¬ nI t + nI k ≤ 300 := by
        rw [nI_add]
        exact nI_ge (a := 300) (by omega) (by omega)
      exact th_q (w_sign_10 hl _ _ (by omega) (ovX_c (xo := 0) (o := 0) rfl) (c_X_sign_t10 hl _ (by omega) _ _ x1 x8 (by rw [t2]; exact e1))) (fun h1 => c_M_sign_2 hl _ _ _ _ h1 (by omega) x1 x8 (by rw [t3]; exact e1)) h57 ho (by decide) (hR.thrown 2) rfl
theorem mat_1 {σ : Nat → Int32} {α : Nat → Nat → Int32} {i : Int32} (h : i < 0) : mat σ α i = (0, upd σ 0 1) := if_pos h
theorem mat_2 {σ : Nat → Int32} {α : Nat → Nat → Int32} {i : Int32} (h : ¬ i < 0) (h2 : σ 37 ≤ i) : mat σ α i = (-1, upd σ 0 0) := by
  unfold mat
  rw [if_neg h, if_pos h2]
theorem mat_3 {σ : Nat → Int32} {α : Nat → Nat → Int32} {i : Int32} (h : ¬ i < 0) (h2 : ¬ σ 37 ≤ i) : mat σ α i = (α 38 i.toNatClampNeg, upd σ 0 0) := by
  unfold mat
  rw [if_neg h, if_neg h2]
theorem s_at {l : Launch} (hl : l.stackTraces = false) {D : va_G} {cA : Nat → ClassId} {b n : Nat} {h : AH} (hS : St n h) (x : Int32) : Cn l D cA b y_L_at k_L_at 7 97 1 6 [.ref 0, .int x, .ref 56] n h (Wq l D cA b y_M_at k_M_at 1 15 [.ref 28, .int x]) := by
  obtain ⟨k0, f0, ξ, β, ρ, u, w, σ, α, h0, h57, rfl, ho, hR, -⟩ := hS
  obtain ⟨q, q1, q2, q3, q4⟩ := hR.ll
  have hcd : ¬ x < 0 → ¬ σ 37 ≤ x → ∃ j : Nat, j < q.length ∧ x = nI j := fun z1 z2 => by
    obtain ⟨j, hj, rfl⟩ := nI_of z1
    refine ⟨j, ?_, rfl⟩
    rw [q3] at z2
    by_cases e : j < q.length
    · exact e
    · exact absurd (nI_le (by omega) hj) z2
  have cM : ∀ h1, Cn l D cA b y_M_at k_M_at 1 15 0 0 [.ref 28, .int x] n (ovM 28 σ α h1) (Re (some (.int (mat σ α x).1)) n (ovM 28 (mat σ α x).2 α h1)) := fun h1 => c_M_at hl _ _ _ h1 (by omega) (fun z1 z2 => by
    obtain ⟨j, hj, rfl⟩ := hcd z1 z2
    exact vp_in_nI (by omega) (by omega))
  by_cases hx : x < 0
  · exact th_q (w_at_8 hl _ (by omega) (ovX_c (xo := 0) (o := 0) rfl) (c_X_at_t hl _ (by omega) _ hx)) (fun h1 => c_M_at hl _ _ _ h1 (by omega) (fun z => absurd hx z)) h57 ho (by decide) (by rw [mat_1 hx]; exact hR.thrown 1) (by rw [mat_1 hx]; rfl)
  · by_cases hy : σ 37 ≤ x
    · exact rt_q (w_at_r hl _ (by omega) (ovX_c (xo := 0) (o := 0) rfl) (c_X_at_n hl _ (by omega) _ (Int32.not_lt.mp hx) (by rw [q2, ← q3]; exact hy)) (by omega) (outX ho)) cM h57 (by rw [mat_2 hx hy]; exact hR.thrown 0) (by rw [mat_2 hx hy]; rfl) (by rw [mat_2 hx hy]; exact fch0 _ _)
    · obtain ⟨j, hj, rfl⟩ := hcd hx hy
      have hz := q4 j q[j] (List.getElem?_eq_getElem hj)
      exact rt_q (w_at_r hl _ (by omega) (ovX_c (xo := 0) (o := 0) rfl) (c_X_at_r hl _ (by omega) _ (Int32.not_lt.mp hx) (by rw [q2, ← q3]; exact hy) (vp_in_nI (by omega) (by omega))) (by omega) (outX ho)) cM h57 (by rw [mat_3 hx hy]; exact hR.thrown 0) (by rw [mat_3 hx hy]; rfl) (by rw [mat_3 hx hy, fch0]; show (β 27 (nI j).toNatClampNeg).toInt64 = (α 38 (nI j).toNatClampNeg).toInt64; rw [nI_clamp (by omega), hz.1, hz.2])
/-! ===== the calls: wanting, report, value, field, fault, inside ===== -/
/-- as rep_c, with another bound -/
theorem rep_g {t y : Int32} {nr N : Nat} (ht : t = nI nr) (hy : y = nI nr) (hle : nr ≤ N) (hN : N < 2 ^ 30) (r : Int32) : ((r < 0 ∨ ¬ r < t) ∧ inI r 0 (y - 1) = 0) ∨ ∃ j : Nat, j < nr ∧ r = nI j ∧ ¬ nI j < 0 ∧ nI j < t ∧ inI r 0 (y - 1) = 1 := by
  have e : (nI nr - 1 : Int32).toInt = (nr : Int) - 1 := by
    rw [Int32.toInt_sub, nI_toInt (by omega), show (1 : Int32).toInt = 1 by decide]
    apply Int.bmod_eq_of_le <;> omega
  by_cases h0 : r < 0
  · exact Or.inl ⟨Or.inl h0, in_bad (Or.inl h0)⟩
  · obtain ⟨j, hj, rfl⟩ := nI_of h0
    by_cases h1 : j < nr
    · refine Or.inr ⟨j, h1, rfl, h0, by rw [ht]; exact nI_lt h1 (by omega), in_ok h0 ?_⟩
      rw [hy, Int32.le_iff_toInt_le, nI_toInt hj, e]
      omega
    · refine Or.inl ⟨Or.inr ?_, in_bad (Or.inr ?_)⟩
      · rw [ht]
        exact fun z => absurd (nI_le (a := nr) (b := j) (by omega) hj) (Int32.not_le.mpr z)
      · rw [hy]
        intro z
        rw [Int32.le_iff_toInt_le, nI_toInt hj, e] at z
        omega
theorem kn2_0 {a c : Int32} (h : a = 0 ∨ c = 0) : kn2 a c = 0 := by
  unfold kn2
  rcases h with z | z
  · rw [if_pos z]
  · by_cases y : a = 0
    · rw [if_pos y]
    · rw [if_neg y, if_pos z]
theorem kn2_1 {a c : Int32} (h1 : a = 1) (h2 : c = 1) : kn2 a c = 1 := by
  rw [h1, h2]
  rfl
theorem mwanting_1 {σ : Nat → Int32} {α : Nat → Nat → Int32} {i w : Int32} (h : inI i 0 (σ 34 - 1) = 0 ∨ inI w 0 1 = 0) : mwanting σ α i w = (0, upd σ 0 1) := if_pos (kn2_0 h)
theorem mwanting_2 {σ : Nat → Int32} {α : Nat → Nat → Int32} {i w : Int32} (h1 : inI i 0 (σ 34 - 1) = 1) (h2 : inI w 0 1 = 1) : mwanting σ α i w = (if w = 0 then α 35 i.toNatClampNeg else α 36 i.toNatClampNeg, upd σ 0 0) := if_neg (by rw [kn2_1 h1 h2]; decide)
theorem s_wanting {l : Launch} (hl : l.stackTraces = false) {D : va_G} {cA : Nat → ClassId} {b n : Nat} {h : AH} (hS : St n h) (x y : Int32) : Cn l D cA b y_L_wanting k_L_wanting 7 98 1 6 [.ref 0, .int x, .int y, .ref 56] n h (Wq l D cA b y_M_wanting k_M_wanting 1 15 [.ref 28, .int x, .int y]) := by
  obtain ⟨k0, f0, ξ, β, ρ, u, w, σ, α, h0, h57, rfl, ho, hR, -⟩ := hS
  obtain ⟨q, q1, q2, q3, q4⟩ := hR.kk
  rcases rep_g q2 q3 q1 (by omega) x with ⟨ha, hb⟩ | ⟨j, hj, rfl, j0, j1, hb⟩
  · exact th_q (w_wanting_7 hl _ _ (by omega) (ovX_c (xo := 0) (o := 0) rfl) (c_X_wanting_u hl _ (by omega) _ _ ha)) (fun h1 => c_M_wanting hl _ _ _ _ h1 (by omega) _ q3 q1) h57 ho (by decide) (by rw [mwanting_1 (Or.inl hb)]; exact hR.thrown 1) (by rw [mwanting_1 (Or.inl hb)]; rfl)
  · have hz := q4 j q[j] (List.getElem?_eq_getElem hj)
    by_cases y0 : y = 0
    · subst y0
      exact rt_q (w_wanting_r hl _ _ (by omega) (ovX_c (xo := 0) (o := 0) rfl) (c_X_wanting_0 hl _ (by omega) _ j0 j1 (vp_in_nI (by omega) (by omega))) (by omega) (outX ho)) (fun h1 => c_M_wanting hl _ _ _ _ h1 (by omega) _ q3 q1) h57 (by rw [mwanting_2 hb (by decide)]; exact hR.thrown 0) (by rw [mwanting_2 hb (by decide)]; rfl) (by rw [mwanting_2 hb (by decide), fch0]; show (β 21 (nI j).toNatClampNeg).toInt64 = (α 35 (nI j).toNatClampNeg).toInt64; rw [nI_clamp (by omega), hz.1, hz.2.2.1])
    · by_cases y1 : y = 1
      · subst y1
        exact rt_q (w_wanting_r hl _ _ (by omega) (ovX_c (xo := 0) (o := 0) rfl) (c_X_wanting_1 hl _ (by omega) _ j0 j1 (vp_in_nI (by omega) (by omega))) (by omega) (outX ho)) (fun h1 => c_M_wanting hl _ _ _ _ h1 (by omega) _ q3 q1) h57 (by rw [mwanting_2 hb (by decide)]; exact hR.thrown 0) (by rw [mwanting_2 hb (by decide)]; rfl) (by rw [mwanting_2 hb (by decide), fch0]; show (β 22 (nI j).toNatClampNeg).toInt64 = (α 36 (nI j).toNatClampNeg).toInt64; rw [nI_clamp (by omega), hz.2.1, hz.2.2.2])
      · have hy : inI y 0 1 = 0 := by
          rcases fld_c 1 (by omega) y with ⟨-, z⟩ | ⟨e, he, rfl, -, -, -⟩
          · exact z
          · rcases (show e = 0 ∨ e = 1 by omega) with rfl | rfl
            · exact absurd rfl y0
            · exact absurd rfl y1
        exact th_q (w_wanting_7 hl _ _ (by omega) (ovX_c (xo := 0) (o := 0) rfl) (c_X_wanting_b hl _ (by omega) _ _ j0 j1 y0 y1)) (fun h1 => c_M_wanting hl _ _ _ _ h1 (by omega) _ q3 q1) h57 ho (by decide) (by rw [mwanting_1 (Or.inr hy)]; exact hR.thrown 1) (by rw [mwanting_1 (Or.inr hy)]; rfl)
theorem mreport_t {σ : Nat → Int32} {α : Nat → Nat → Int32} {i k t : Int32} (h : gsI (inI k 0 4) (inI i 0 9999) (if 30 ≤ σ 2 then 0 else 1) = t) (ht : bz t = 0) : mreport σ α i k = (0, upd σ 0 t, α) := by
  subst h
  exact if_pos ht
theorem mreport_r {σ : Nat → Int32} {α : Nat → Nat → Int32} {i k : Int32} (h : gsI (inI k 0 4) (inI i 0 9999) (if 30 ≤ σ 2 then 0 else 1) = 0) : mreport σ α i k = (σ 2 + 1 - 1, mmakes (upd σ 0 0) α i k (-1)) := by
  have e : mreport σ α i k = (σ 2 + 1 - 1, mmakes (upd σ 0 (gsI (inI k 0 4) (inI i 0 9999) (if 30 ≤ σ 2 then 0 else 1))) α i k (-1)) := if_neg (by rw [h]; decide)
  rw [e, h]
theorem s_report {l : Launch} (hl : l.stackTraces = false) {D : va_G} {cA : Nat → ClassId} {b n : Nat} {h : AH} (hS : St n h) (i k : Int32) : Cn l D cA b y_L_report k_L_report 8 110 3 34 [.ref 0, .int i, .int k, .ref 56] n h (Wq l D cA b y_M_report k_M_report 1 16 [.ref 28, .int i, .int k]) := by
  obtain ⟨k0, f0, ξ, β, ρ, u, w, σ, α, h0, h57, rfl, ho, hR, -⟩ := hS
  obtain ⟨nr, hle, hx, hy⟩ := hR.cnt
  have hrm : ¬ 30 ≤ σ 2 → vp_in (σ 2) 30 := fun z => by
    rw [hy] at z ⊢
    by_cases e : nr = 30
    · subst e
      exact absurd (by decide) z
    · exact vp_in_nI (by omega) (by omega)
  rcases fld_c 4 (by omega) k with ⟨ha, hb⟩ | ⟨k, hk, rfl, a1, a2, hb⟩
  · have e := mreport_t (σ := σ) (α := α) (i := i) (k := k) (t := 1) (by rw [show inI k 0 4 = 0 from hb]; rfl) (by decide)
    exact th_q (w_report_7 hl _ _ (by omega) (ovX_c (xo := 0) (o := 0) rfl) (c_X_report_t7 hl _ (by omega) _ _ ha)) (fun h1 => c_M_report hl _ _ _ _ h1 (by omega) hrm) h57 ho (by decide) (by rw [e]; exact hR.thrown 1) (by rw [e]; rfl)
  · have hb' : inI (nI k) 0 4 = 1 := hb
    rcases fld_c 9999 (by omega) i with ⟨hi, hb2⟩ | ⟨i, hi, rfl, a3, a4, hb2⟩
    · have e := mreport_t (σ := σ) (α := α) (i := i) (k := nI k) (t := 2) (by rw [hb', show inI i 0 9999 = 0 from hb2]; rfl) (by decide)
      have hi' : i < 0 ∨ ¬ i ≤ 9999 := hi.imp id (fun z q => z (by
        have h1 := Int32.le_iff_toInt_le.mp q
        rw [Int32.lt_iff_toInt_lt]
        have h2 : (9999 : Int32).toInt = 9999 := by decide
        have h3 : (nI (9999 + 1)).toInt = 10000 := by decide
        omega))
      exact th_q (w_report_8 hl _ _ (by omega) (ovX_c (xo := 0) (o := 0) rfl) (c_X_report_t8 hl _ (by omega) _ _ a1 a2 hi')) (fun h1 => c_M_report hl _ _ _ _ h1 (by omega) hrm) h57 ho (by decide) (by rw [e]; exact hR.thrown 2) (by rw [e]; rfl)
    · have hb3 : inI (nI i) 0 9999 = 1 := hb2
      have i1 : nI i ≤ 9999 := nI_le (b := 9999) (by omega) (by omega)
      by_cases e30 : nr = 30
      · have e2 : (if (30 : Int32) ≤ σ 2 then (0 : Int32) else 1) = 0 := by rw [hy, e30]; decide
        have e := mreport_t (σ := σ) (α := α) (i := nI i) (k := nI k) (t := 3) (by rw [hb', hb3, e2]; rfl) (by decide)
        exact th_q (w_report_10 hl _ _ (by omega) (ovX_c (xo := 0) (o := 0) rfl) (c_X_report_t10 hl _ (by omega) _ _ a1 a2 a3 i1 (by rw [hx, e30]; decide))) (fun h1 => c_M_report hl _ _ _ _ h1 (by omega) hrm) h57 ho (by decide) (by rw [e]; exact hR.thrown 3) (by rw [e]; rfl)
      · have e2 : (if (30 : Int32) ≤ σ 2 then (0 : Int32) else 1) = 1 := if_neg (by rw [hy]; exact nI_ge (b := 30) (by omega) (by omega))
        have e := mreport_r (σ := σ) (α := α) (i := nI i) (k := nI k) (by rw [hb', hb3, e2]; rfl)
        have hlt : ξ 0 < 30 := by rw [hx]; exact nI_lt (b := 30) (by omega) (by omega)
        have c := c_X_report_r hl (D := D) (cA := cA) (b := b) (n := n) (xo := 0) (ξ := ξ) (β := β) (ρ := ρ) (u := u) (v := w) (ovM 28 σ α h0) (by omega) (nI i) (nI k) a1 a2 a3 i1 hlt (by rw [hx]; exact vp_in_nI (by omega) (by omega))
        rw [ovM_Lc (by omega)] at c
        have hM := (hR.thrown 0).make h57 hlt (show i ≤ 9999 by omega) (show k < 5 by omega)
        exact rt_q (w_report_r hl _ _ (by omega) (ovX_c (xo := 0) (o := 0) rfl) c (by omega) (outX (by rw [ovL_n (Or.inl (by omega))]; exact ho))) (fun h1 => c_M_report hl _ _ _ _ h1 (by omega) hrm) (by omega) (by rw [e]; exact hM) (by rw [e]; rfl) (by rw [e, fch0, hx, hy]; show _ = (nI nr + 1 - 1).toInt64; rw [Int32.add_sub_cancel])
section RW
variable {lo n : Nat} {ξ : Nat → Int32} {β : Nat → Nat → Int32} {ρ : Nat → Option Nat} {u v : Nat} {h : AH} {σ : Nat → Int32} {α : Nat → Nat → Int32}
theorem xhs_c {A : Int32} {e : Nat} {P : Prop} [Decidable P] (h : xhs A (nI e) = 1 ↔ ¬ P) (he : e < 32) : xhs A (nI e) = 0 ↔ P := by
  rcases xhs_01 A he with z | z
  · exact ⟨fun _ => Decidable.not_not.mp (fun q => by have := h.mpr q; rw [z] at this; exact absurd this (by decide)), fun _ => z⟩
  · exact ⟨fun q => (by rw [z] at q; exact absurd q (by decide)), fun q => absurd q (h.mp z)⟩
end RW
theorem s_value {l : Launch} (hl : l.stackTraces = false) {D : va_G} {cA : Nat → ClassId} {b n : Nat} {h : AH} (hS : St n h) (r f : Int32) : Cn l D cA b y_L_value k_L_value 8 113 1 6 [.ref 0, .int r, .int f, .ref 56] n h (Wq l D cA b y_M_value k_M_value 2 27 [.ref 28, .int r, .int f]) := by
  obtain ⟨k0, f0, ξ, β, ρ, u, w, σ, α, h0, h57, rfl, ho, hR, -⟩ := hS
  obtain ⟨nr, hle, hx, hy⟩ := hR.cnt
  rcases rep_c hx hy hle r with ⟨ha, hb⟩ | ⟨j, hj, rfl, j1, hb⟩
  · exact th_q (w_value_7 hl _ _ (by omega) (ovX_c (xo := 0) (o := 0) rfl) (c_X_value_u hl _ (by omega) _ _ ha)) (fun h1 => c_M_value hl _ _ _ _ h1 (by omega) nr hy hle) h57 ho (by decide) (by rw [mvalue_1 (Or.inl hb)]; exact hR.thrown 1) (by rw [mvalue_1 (Or.inl hb)]; rfl)
  · obtain ⟨c, i, kd, t, fo, ζ, g, ws, hρ, c1, c2, hE, hQ, -⟩ := hR.rep (j := j) (by omega) j1
    have hE' := repM (σ := σ) (α := α) c1 hE
    rcases fld_c 19 (by omega) f with ⟨ha, hb2⟩ | ⟨e, he, rfl, a3, a4, hb2⟩
    · have cX := c_X_value_a hl (D := D) (cA := cA) (b := b) (n := n) (xo := 0) (ξ := ξ) (β := β) (ρ := ρ) (u := u) (v := w) (r := c) (i0 := i) (k0 := kd) (t0 := t) (f0 := fo) (ζ := ζ) (g := g) (w := ws) (ovM 28 σ α h0) (by omega) c2 j (by omega) j1 hρ f ha
      rw [hE'] at cX
      exact th_q (w_value_7 hl _ _ (by omega) (ovX_c (xo := 0) (o := 0) rfl) cX) (fun h1 => c_M_value hl _ _ _ _ h1 (by omega) nr hy hle) h57 ho (by decide) (by rw [mvalue_1 (Or.inr hb2)]; exact hR.thrown 1) (by rw [mvalue_1 (Or.inr hb2)]; rfl)
    · have hf := xhs_c (hQ.2.2.2.2.2.2.1 e (by omega)) (by omega)
      by_cases y : α 10 (20 * j + e) = 0
      · have cX := c_X_value_b hl (D := D) (cA := cA) (b := b) (n := n) (xo := 0) (ξ := ξ) (β := β) (ρ := ρ) (u := u) (v := w) (r := c) (i0 := i) (k0 := kd) (t0 := t) (f0 := fo) (ζ := ζ) (g := g) (w := ws) (ovM 28 σ α h0) (by omega) c2 j (by omega) j1 hρ (nI e) a3 a4 (hf.mpr y)
        rw [hE'] at cX
        have eM := mvalue_2 (σ := σ) (α := α) hb hb2 (by omega) (by omega) y
        exact th_q (w_value_9 hl _ _ (by omega) (ovX_c (xo := 0) (o := 0) rfl) cX) (fun h1 => c_M_value hl _ _ _ _ h1 (by omega) nr hy hle) h57 ho (by decide) (by rw [eM]; exact hR.thrown 2) (by rw [eM]; rfl)
      · have cX := c_X_value_r hl (D := D) (cA := cA) (b := b) (n := n) (xo := 0) (ξ := ξ) (β := β) (ρ := ρ) (u := u) (v := w) (r := c) (i0 := i) (k0 := kd) (t0 := t) (f0 := fo) (ζ := ζ) (g := g) (w := ws) (ovM 28 σ α h0) (by omega) c2 j (by omega) j1 hρ (nI e) a3 a4 (fun z => y (hf.mp z)) (vp_in_nI (by omega) (by omega))
        rw [hE', nI_clamp (by omega)] at cX
        have eM := mvalue_3 (σ := σ) (α := α) hb hb2 (by omega) (by omega) y
        exact rt_q (w_value_r hl _ _ (by omega) (ovX_c (xo := 0) (o := 0) rfl) cX (by omega) (outX ho)) (fun h1 => c_M_value hl _ _ _ _ h1 (by omega) nr hy hle) h57 (by rw [eM]; exact hR.thrown 0) (by rw [eM]; rfl) (by rw [eM, fch0, (hQ.2.2.2.2.2.2.2.2.2 e (by omega)).1])
theorem vok_c (v : Int32) : ((v < -99999 ∨ ¬ v ≤ 99999) ∧ inI v (-99999) 99999 = 0) ∨ (¬ v < -99999 ∧ v ≤ 99999 ∧ inI v (-99999) 99999 = 1 ∧ vok v) := by
  by_cases h0 : v < -99999
  · exact Or.inl ⟨Or.inl h0, in_bad (Or.inl h0)⟩
  · by_cases h1 : v ≤ 99999
    · refine Or.inr ⟨h0, h1, in_ok h0 h1, ?_⟩
      have a1 := Int32.le_iff_toInt_le.mp (Int32.not_lt.mp h0)
      have a2 := Int32.le_iff_toInt_le.mp h1
      rw [show (-99999 : Int32).toInt = -99999 by decide] at a1
      rw [show (99999 : Int32).toInt = 99999 by decide] at a2
      by_cases z : v < 0
      · have a3 := Int32.lt_iff_toInt_lt.mp z
        rw [show (0 : Int32).toInt = 0 by decide] at a3
        refine Or.inr ⟨(-v.toInt).toNat, by omega, by omega, ?_⟩
        apply Int32.toInt.inj
        rw [Int32.toInt_neg, nI_toInt (by omega)]
        have : ((-v.toInt).toNat : Int) = -v.toInt := by omega
        rw [this, Int.neg_neg]
        exact (Int.bmod_eq_of_le (by omega) (by omega)).symm
      · obtain ⟨k, hk, rfl⟩ := nI_of z
        rw [nI_toInt hk] at a2
        exact Or.inl ⟨k, by omega, rfl⟩
    · exact Or.inl ⟨Or.inr h1, in_bad (Or.inr h1)⟩
theorem bl_upd {f : Nat → Int32} {k : Nat} {x : Int32} (h : rlB f) (hx : vp_nar .boolean x = x) : rlB (upd f k x) := fun j => by
  by_cases e : j = k
  · subst e
    rw [pk_us, hx]
  · rw [pk_un e]
    exact h j
theorem oR {r : Nat} {i k t f : Int32} {ζ g w : Nat → Int32} {h : AH} {fo : Nat → Int64} (hr : 57 ≤ r) (ho : h 56 = oc fo) : ovR r i k t f ζ g w h 56 = oc fo := by
  unfold ovR
  rw [ovL_n (Or.inl (by omega)), ho]
/-! ===== the calls: field, fault, inside, act ===== -/
theorem s_field {l : Launch} (hl : l.stackTraces = false) {D : va_G} {cA : Nat → ClassId} {b n : Nat} {h : AH} (hS : St n h) (r f y : Int32) : Cn l D cA b y_L_field k_L_field 8 112 1 6 [.ref 0, .int r, .int f, .int y] n h (Wv l D cA b y_M_field k_M_field 2 27 [.ref 28, .int r, .int f, .int y]) := by
  obtain ⟨k0, f0, ξ, β, ρ, u, w, σ, α, h0, h57, rfl, ho, hR, -⟩ := hS
  obtain ⟨nr, hle, hx, hy⟩ := hR.cnt
  rcases rep_c hx hy hle r with ⟨ha, hb⟩ | ⟨j, hj, rfl, j1, hb⟩
  · exact th_v (w_field_7 hl _ _ _ (by omega) (ovX_c (xo := 0) (o := 0) rfl) (c_X_field_u hl _ (by omega) _ _ _ ha)) (fun h1 => c_M_field hl _ _ _ _ _ h1 (by omega) nr hy hle) h57 ho (by rw [mfield_1 (Or.inl hb)]; exact hR.thrown 1) (by rw [mfield_1 (Or.inl hb)]; rfl)
  · obtain ⟨c, i, kd, t, fo, ζ, g, ws, hρ, c1, c2, hE, hQ, hP⟩ := hR.rep (j := j) (by omega) j1
    have hE' := repM (σ := σ) (α := α) c1 hE
    rcases fld_c 19 (by omega) f with ⟨ha, hb2⟩ | ⟨e, he, rfl, a3, a4, hb2⟩
    · have cX := c_X_field_a hl (D := D) (cA := cA) (b := b) (n := n) (xo := 0) (ξ := ξ) (β := β) (ρ := ρ) (u := u) (v := w) (r := c) (i0 := i) (k0 := kd) (t0 := t) (f0 := fo) (ζ := ζ) (g := g) (w := ws) (ovM 28 σ α h0) (by omega) c2 j (by omega) j1 hρ f y ha
      rw [hE'] at cX
      exact th_v (w_field_7 hl _ _ _ (by omega) (ovX_c (xo := 0) (o := 0) rfl) cX) (fun h1 => c_M_field hl _ _ _ _ _ h1 (by omega) nr hy hle) h57 ho (by rw [mfield_1 (Or.inr hb2)]; exact hR.thrown 1) (by rw [mfield_1 (Or.inr hb2)]; rfl)
    · rcases vok_c y with ⟨hv, hv2⟩ | ⟨v1, v2, v3, v4⟩
      · have cX := c_X_field_b hl (D := D) (cA := cA) (b := b) (n := n) (xo := 0) (ξ := ξ) (β := β) (ρ := ρ) (u := u) (v := w) (r := c) (i0 := i) (k0 := kd) (t0 := t) (f0 := fo) (ζ := ζ) (g := g) (w := ws) (ovM 28 σ α h0) (by omega) c2 j (by omega) j1 hρ (nI e) y a3 a4 hv
        rw [hE'] at cX
        have eM := mfield_2 (σ := σ) (α := α) hb hb2 hv2
        exact th_v (w_field_8 hl _ _ _ (by omega) (ovX_c (xo := 0) (o := 0) rfl) cX) (fun h1 => c_M_field hl _ _ _ _ _ h1 (by omega) nr hy hle) h57 ho (by rw [eM]; exact hR.thrown 2) (by rw [eM]; rfl)
      · have hct := rct_c hQ (e := e) (by omega)
        by_cases z : α 8 j = 0 ∨ ¬ α 12 (20 * j + e) = 0
        · have cX := c_X_field_r hl (D := D) (cA := cA) (b := b) (n := n) (xo := 0) (ξ := ξ) (β := β) (ρ := ρ) (u := u) (v := w) (r := c) (i0 := i) (k0 := kd) (t0 := t) (f0 := fo) (ζ := ζ) (g := g) (w := ws) (ovM 28 σ α h0) (by omega) c2 j (by omega) j1 hρ (nI e) y a3 a4 v1 v2 (fun q => hct.mp q z) (vp_in_nI (by omega) (by omega))
          rw [hE', nI_clamp (by omega), ovM_R (by omega)] at cX
          have eM := mfield_4 (σ := σ) (α := α) hb hb2 v3 (by omega) (by omega) z
          have hN := hP _ _ _ _ (SAr_tell (α := α) (k := 20 * j + e) (x := y)) (SRw_tell (by omega)) (rlQ_tell hQ (by omega) v4) (bl_upd hR.bb.1 rfl) (bl_upd hR.bb.2.1 rfl) (bl_upd hR.bb.2.2.1 rfl)
          exact rt_v (w_field_r hl _ _ _ (by omega) (ovX_c (xo := 0) (o := 0) rfl) cX) (fun h1 => c_M_field hl _ _ _ _ _ h1 (by omega) nr hy hle) h57 (oR c1 ho) (by rw [eM]; exact hN.thrown 0) (by rw [eM]; rfl)
        · have cX := c_X_field_c hl (D := D) (cA := cA) (b := b) (n := n) (xo := 0) (ξ := ξ) (β := β) (ρ := ρ) (u := u) (v := w) (r := c) (i0 := i) (k0 := kd) (t0 := t) (f0 := fo) (ζ := ζ) (g := g) (w := ws) (ovM 28 σ α h0) (by omega) c2 j (by omega) j1 hρ (nI e) y a3 a4 v1 v2 (hct.mpr z)
          rw [hE'] at cX
          have eM := mfield_3 (σ := σ) (α := α) hb hb2 v3 (by omega) (by omega) (fun q => z (Or.inl q)) (Decidable.not_not.mp (fun q => z (Or.inr q)))
          exact th_v (w_field_9 hl _ _ _ (by omega) (ovX_c (xo := 0) (o := 0) rfl) cX) (fun h1 => c_M_field hl _ _ _ _ _ h1 (by omega) nr hy hle) h57 ho (by rw [eM]; exact hR.thrown 3) (by rw [eM]; rfl)
theorem s_fault {l : Launch} (hl : l.stackTraces = false) {D : va_G} {cA : Nat → ClassId} {b n : Nat} {h : AH} (hS : St n h) (r f : Int32) : Cn l D cA b y_L_fault k_L_fault 8 111 1 6 [.ref 0, .int r, .int f] n h (Wv l D cA b y_M_fault k_M_fault 2 27 [.ref 28, .int r, .int f]) := by
  obtain ⟨k0, f0, ξ, β, ρ, u, w, σ, α, h0, h57, rfl, ho, hR, -⟩ := hS
  obtain ⟨nr, hle, hx, hy⟩ := hR.cnt
  rcases rep_c hx hy hle r with ⟨ha, hb⟩ | ⟨j, hj, rfl, j1, hb⟩
  · exact th_v (w_fault_7 hl _ _ (by omega) (ovX_c (xo := 0) (o := 0) rfl) (c_X_fault_u hl _ (by omega) _ _ ha)) (fun h1 => c_M_fault hl _ _ _ _ h1 (by omega) nr hy hle) h57 ho (by rw [mfault_1 (Or.inl hb)]; exact hR.thrown 1) (by rw [mfault_1 (Or.inl hb)]; rfl)
  · obtain ⟨c, i, kd, t, fo, ζ, g, ws, hρ, c1, c2, hE, hQ, hP⟩ := hR.rep (j := j) (by omega) j1
    have hE' := repM (σ := σ) (α := α) c1 hE
    rcases fld_c 19 (by omega) f with ⟨ha, hb2⟩ | ⟨e, he, rfl, a3, a4, hb2⟩
    · have cX := c_X_fault_a hl (D := D) (cA := cA) (b := b) (n := n) (xo := 0) (ξ := ξ) (β := β) (ρ := ρ) (u := u) (v := w) (r := c) (i0 := i) (k0 := kd) (t0 := t) (f0 := fo) (ζ := ζ) (g := g) (w := ws) (ovM 28 σ α h0) (by omega) c2 j (by omega) j1 hρ f ha
      rw [hE'] at cX
      exact th_v (w_fault_7 hl _ _ (by omega) (ovX_c (xo := 0) (o := 0) rfl) cX) (fun h1 => c_M_fault hl _ _ _ _ h1 (by omega) nr hy hle) h57 ho (by rw [mfault_1 (Or.inr hb2)]; exact hR.thrown 1) (by rw [mfault_1 (Or.inr hb2)]; rfl)
    · have hcl := rcl_c hQ
      have hop : xhs (ζ 2) (nI e) = 0 ↔ α 12 (20 * j + e) = 0 := by
        refine xhs_c ⟨fun z => ((hQ.2.2.2.2.2.2.2.2.1 e (by omega)).mp z).2, fun z => (hQ.2.2.2.2.2.2.2.2.1 e (by omega)).mpr ⟨by omega, z⟩⟩ (by omega)
      by_cases z : α 8 j = 3
      · by_cases z2 : α 12 (20 * j + e) = 0
        · have cX := c_X_fault_r hl (D := D) (cA := cA) (b := b) (n := n) (xo := 0) (ξ := ξ) (β := β) (ρ := ρ) (u := u) (v := w) (r := c) (i0 := i) (k0 := kd) (t0 := t) (f0 := fo) (ζ := ζ) (g := g) (w := ws) (ovM 28 σ α h0) (by omega) c2 j (by omega) j1 hρ (nI e) a3 a4 (fun q => hcl.mp q z) (hop.mpr z2)
          rw [hE', ovM_R (by omega)] at cX
          have eM := mfault_3 (σ := σ) (α := α) hb hb2 (by omega) (by omega) z z2
          have hN := hP _ _ _ _ (SAr_u (SAr_r α) (by omega) (by omega) (by omega)) (SRw_12 (by omega)) (rlQ_fault hQ (by omega)) hR.bb.1 hR.bb.2.1 (bl_upd hR.bb.2.2.1 rfl)
          exact rt_v (w_fault_r hl _ _ (by omega) (ovX_c (xo := 0) (o := 0) rfl) cX) (fun h1 => c_M_fault hl _ _ _ _ h1 (by omega) nr hy hle) h57 (oR c1 ho) (by rw [eM]; exact hN.thrown 0) (by rw [eM]; rfl)
        · have cX := c_X_fault_c hl (D := D) (cA := cA) (b := b) (n := n) (xo := 0) (ξ := ξ) (β := β) (ρ := ρ) (u := u) (v := w) (r := c) (i0 := i) (k0 := kd) (t0 := t) (f0 := fo) (ζ := ζ) (g := g) (w := ws) (ovM 28 σ α h0) (by omega) c2 j (by omega) j1 hρ (nI e) a3 a4 (fun q => hcl.mp q z) (fun q => z2 (hop.mp q))
          rw [hE'] at cX
          have eM := mfault_2 (σ := σ) (α := α) hb hb2 (by omega) (by omega) (Or.inr z2)
          exact th_v (w_fault_9 hl _ _ (by omega) (ovX_c (xo := 0) (o := 0) rfl) cX) (fun h1 => c_M_fault hl _ _ _ _ h1 (by omega) nr hy hle) h57 ho (by rw [eM]; exact hR.thrown 2) (by rw [eM]; rfl)
      · have cX := c_X_fault_b hl (D := D) (cA := cA) (b := b) (n := n) (xo := 0) (ξ := ξ) (β := β) (ρ := ρ) (u := u) (v := w) (r := c) (i0 := i) (k0 := kd) (t0 := t) (f0 := fo) (ζ := ζ) (g := g) (w := ws) (ovM 28 σ α h0) (by omega) c2 j (by omega) j1 hρ (nI e) a3 a4 (hcl.mpr z)
        rw [hE'] at cX
        have eM := mfault_2 (σ := σ) (α := α) hb hb2 (by omega) (by omega) (Or.inl z)
        exact th_v (w_fault_9 hl _ _ (by omega) (ovX_c (xo := 0) (o := 0) rfl) cX) (fun h1 => c_M_fault hl _ _ _ _ h1 (by omega) nr hy hle) h57 ho (by rw [eM]; exact hR.thrown 2) (by rw [eM]; rfl)
theorem minside_t {σ : Nat → Int32} {α : Nat → Nat → Int32} {r k t : Int32} (h : gsI (inI r 0 (σ 2 - 1)) (inI k 0 99) (if inI r 0 (σ 2 - 1) = 0 then 0 else if α 8 r.toNatClampNeg = 0 then 1 else 0) = t) (ht : bz t = 0) : minside σ α r k = (upd σ 0 t, α) := by
  subst h
  exact if_pos ht
theorem minside_r {σ : Nat → Int32} {α : Nat → Nat → Int32} {r k : Int32} (h : gsI (inI r 0 (σ 2 - 1)) (inI k 0 99) (if inI r 0 (σ 2 - 1) = 0 then 0 else if α 8 r.toNatClampNeg = 0 then 1 else 0) = 0) : minside σ α r k = (upd σ 0 0, upa α 6 (upd (α 6) r.toNatClampNeg k)) := by
  have e : minside σ α r k = (upd σ 0 (gsI (inI r 0 (σ 2 - 1)) (inI k 0 99) (if inI r 0 (σ 2 - 1) = 0 then 0 else if α 8 r.toNatClampNeg = 0 then 1 else 0)), upa α 6 (upd (α 6) r.toNatClampNeg k)) := if_neg (by rw [h]; decide)
  rw [e, h]
theorem sg_c {j : Nat} {i k t f : Int32} {ζ g w : Nat → Int32} {α : Nat → Nat → Int32} (h : rlQ j i k t f ζ g w α) : ζ 4 ≤ 0 ↔ α 8 j = 0 := by
  obtain ⟨h1, h2, h3, h4, h5, ⟨c, hc, z1, z2, -⟩, h7, h8, h9, h10⟩ := h
  rw [z1, z2]
  rcases (show c = 0 ∨ c = 1 ∨ c = 2 ∨ c = 3 by omega) with rfl | rfl | rfl | rfl <;> decide
theorem s_inside {l : Launch} (hl : l.stackTraces = false) {D : va_G} {cA : Nat → ClassId} {b n : Nat} {h : AH} (hS : St n h) (r y : Int32) : Cn l D cA b y_L_inside k_L_inside 8 111 1 6 [.ref 0, .int r, .int y] n h (Wv l D cA b y_M_inside k_M_inside 2 30 [.ref 28, .int r, .int y]) := by
  obtain ⟨k0, f0, ξ, β, ρ, u, w, σ, α, h0, h57, rfl, ho, hR, -⟩ := hS
  obtain ⟨nr, hle, hx, hy⟩ := hR.cnt
  rcases rep_c hx hy hle r with ⟨ha, hb⟩ | ⟨j, hj, rfl, j1, hb⟩
  · have eM := minside_t (σ := σ) (α := α) (r := r) (k := y) (t := 1) (by rw [hb]; rfl) (by decide)
    exact th_v (w_inside_7 hl _ _ (by omega) (ovX_c (xo := 0) (o := 0) rfl) (c_X_inside_u hl _ (by omega) _ _ ha)) (fun h1 => c_M_inside hl _ _ _ _ h1 (by omega) nr hy hle) h57 ho (by rw [eM]; exact hR.thrown 1) (by rw [eM]; rfl)
  · obtain ⟨c, i, kd, t, fo, ζ, g, ws, hρ, c1, c2, hE, hQ, hP⟩ := hR.rep (j := j) (by omega) j1
    have hE' := repM (σ := σ) (α := α) c1 hE
    rcases fld_c 99 (by omega) y with ⟨ha, hb2⟩ | ⟨e, he, rfl, a3, a4, hb2⟩
    · have ha' : y < 0 ∨ ¬ y ≤ 99 := ha.imp id (fun z q => z (by
        have h1 := Int32.le_iff_toInt_le.mp q
        rw [Int32.lt_iff_toInt_lt]
        have h2 : (99 : Int32).toInt = 99 := by decide
        have h3 : (nI (99 + 1)).toInt = 100 := by decide
        omega))
      have cX := c_X_inside_b hl (D := D) (cA := cA) (b := b) (n := n) (xo := 0) (ξ := ξ) (β := β) (ρ := ρ) (u := u) (v := w) (r := c) (i0 := i) (k0 := kd) (t0 := t) (f0 := fo) (ζ := ζ) (g := g) (w := ws) (ovM 28 σ α h0) (by omega) c2 j (by omega) j1 hρ y ha'
      rw [hE'] at cX
      have eM := minside_t (σ := σ) (α := α) (r := nI j) (k := y) (t := 2) (by rw [hb, show inI y 0 99 = 0 from hb2]; rfl) (by decide)
      exact th_v (w_inside_8 hl _ _ (by omega) (ovX_c (xo := 0) (o := 0) rfl) cX) (fun h1 => c_M_inside hl _ _ _ _ h1 (by omega) nr hy hle) h57 ho (by rw [eM]; exact hR.thrown 2) (by rw [eM]; rfl)
    · have hb3 : inI (nI e) 0 99 = 1 := hb2
      have y1 : nI e ≤ 99 := nI_le (b := 99) (by omega) (by omega)
      have hsg := sg_c hQ
      by_cases z : α 8 j = 0
      · have cX := c_X_inside_r hl (D := D) (cA := cA) (b := b) (n := n) (xo := 0) (ξ := ξ) (β := β) (ρ := ρ) (u := u) (v := w) (r := c) (i0 := i) (k0 := kd) (t0 := t) (f0 := fo) (ζ := ζ) (g := g) (w := ws) (ovM 28 σ α h0) (by omega) c2 j (by omega) j1 hρ (nI e) a3 y1 (hsg.mpr z)
        rw [hE', ovM_R (by omega)] at cX
        have eM := minside_r (σ := σ) (α := α) (r := nI j) (k := nI e) (by rw [hb, hb3, nI_clamp (by omega), if_neg (by decide), if_pos z]; rfl)
        rw [nI_clamp (by omega)] at eM
        have hN := hP _ _ _ _ (SAr_6 (α := α)) SRw_in (rlQ_in hQ (show e ≤ 99 by omega)) hR.bb.1 hR.bb.2.1 hR.bb.2.2.1
        exact rt_v (w_inside_r hl _ _ (by omega) (ovX_c (xo := 0) (o := 0) rfl) cX) (fun h1 => c_M_inside hl _ _ _ _ h1 (by omega) nr hy hle) h57 (oR c1 ho) (by rw [eM]; exact hN.thrown 0) (by rw [eM]; rfl)
      · have cX := c_X_inside_c hl (D := D) (cA := cA) (b := b) (n := n) (xo := 0) (ξ := ξ) (β := β) (ρ := ρ) (u := u) (v := w) (r := c) (i0 := i) (k0 := kd) (t0 := t) (f0 := fo) (ζ := ζ) (g := g) (w := ws) (ovM 28 σ α h0) (by omega) c2 j (by omega) j1 hρ (nI e) a3 y1 (fun q => z (hsg.mp q))
        rw [hE'] at cX
        have eM := minside_t (σ := σ) (α := α) (r := nI j) (k := nI e) (t := 3) (by rw [hb, hb3, nI_clamp (by omega), if_neg (by decide), if_neg z]; rfl) (by decide)
        exact th_v (w_inside_9 hl _ _ (by omega) (ovX_c (xo := 0) (o := 0) rfl) cX) (fun h1 => c_M_inside hl _ _ _ _ h1 (by omega) nr hy hle) h57 ho (by rw [eM]; exact hR.thrown 3) (by rw [eM]; rfl)
