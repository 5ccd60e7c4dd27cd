/-! ===== the words that every method of this claim may use, and that stay under warmer tables ===== -/
def g_ok (w : Cond) : Bool := match w with
  | .arrayClass _ => true
  | .arrayOver (.object _) => true
  | .fieldLinkNest .. => true
  | .methodLinkNest .. => true
  | v => v.onTables && v.keepsFace
theorem g_warm {s U : State} {w : Cond} (hg : g_ok w = true) (hW : s.WarmedH U.vm) (h : w.before #[] s = true) : w.before #[] U = true := by
  by_cases h1 : (w.onTables && w.keepsFace) = true
  · simp only [Bool.and_eq_true] at h1
    have h2 : w.before #[] (s.setVm U.vm) = true := Cond.before_shiftedFace (State.Shifted.of_warmed hW) w h1.2 h
    exact va_tabs (u := s.setVm U.vm) (U := U) h1.1 rfl h2
  · unfold g_ok at hg
    split at hg
    · exact word_at hW (Or.inr ⟨_, rfl⟩) h
    · exact (va_AO.moved hW.alike (va_AO.of h) : va_AO _ U)
    · exact va_Nw.warmF hW h
    · exact va_Nw.warmM hW h
    · exact absurd hg h1
def g_ws : List Cond := lw_tbl.filter g_ok
theorem g_in {w : Cond} (h : w ∈ lw_tbl) (hg : g_ok w = true) : w ∈ g_ws := List.mem_filter.mpr ⟨h, hg⟩
theorem g_okw {w : Cond} (h : w ∈ g_ws) : g_ok w = true := (List.mem_filter.mp h).2
