/-! ===== classes by number, their fields, array types: printed by program ===== -/
def cR0 : String := "ReportChecks2"
def cT0 : u_T := fun k => match k with
  | 0 => ("ReportChecks2", "reports", "[LReportChecks2$Report;", true)
  | 1 => ("ReportChecks2", "reportCount", "I", false)
  | 2 => ("ReportChecks2", "askedByKind", "[I", true)
  | 3 => ("ReportChecks2", "hiddenFromPerson", "[I", true)
  | 4 => ("ReportChecks2", "minute", "I", false)
  | 5 => ("ReportChecks2", "tape", "[B", true)
  | 6 => ("ReportChecks2", "tapeLength", "I", false)
  | 7 => ("ReportChecks2", "reader", "LReportChecks2$RuleReader;", true)
  | 8 => ("ReportChecks2", "book", "LReportChecks2$RuleBook;", false)
  | 9 => ("ReportChecks2", "spareBook", "LReportChecks2$RuleBook;", false)
  | 10 => ("ReportChecks2", "wrongPlace", "I", false)
  | 11 => ("ReportChecks2", "latestCheck", "LReportChecks2$Findings;", true)
  | 12 => ("ReportChecks2", "signingCheck", "LReportChecks2$Findings;", true)
  | _ => ("ReportChecks2", "latestCode", "LReportChecks2$CodeText;", true)
def ct0 : Nat → FieldType := fun k => match k with
  | 0 => (.array (.object "ReportChecks2$Report"))
  | 1 => .int
  | 2 => (.array .int)
  | 3 => (.array .int)
  | 4 => .int
  | 5 => (.array .byte)
  | 6 => .int
  | 7 => (.object "ReportChecks2$RuleReader")
  | 8 => (.object "ReportChecks2$RuleBook")
  | 9 => (.object "ReportChecks2$RuleBook")
  | 10 => .int
  | 11 => (.object "ReportChecks2$Findings")
  | 12 => (.object "ReportChecks2$Findings")
  | _ => (.object "ReportChecks2$CodeText")
def cR1 : String := "ReportChecks2$RuleReader"
def cT1 : u_T := fun k => match k with
  | 0 => ("ReportChecks2$RuleReader", "text", "[B", true)
  | 1 => ("ReportChecks2$RuleReader", "length", "I", false)
  | _ => ("ReportChecks2$RuleReader", "position", "I", false)
def ct1 : Nat → FieldType := fun k => match k with
  | 0 => (.array .byte)
  | 1 => .int
  | _ => .int
def cR2 : String := "ReportChecks2$RuleBook"
def cT2 : u_T := fun k => match k with
  | 0 => ("ReportChecks2$RuleBook", "size", "I", false)
  | 1 => ("ReportChecks2$RuleBook", "comparisons", "[C", true)
  | 2 => ("ReportChecks2$RuleBook", "fieldsTold", "[I", true)
  | 3 => ("ReportChecks2$RuleBook", "termCounts", "[I", true)
  | 4 => ("ReportChecks2$RuleBook", "dividends", "[I", true)
  | 5 => ("ReportChecks2$RuleBook", "divisors", "[I", true)
  | _ => ("ReportChecks2$RuleBook", "subtracted", "[Z", true)
def ct2 : Nat → FieldType := fun k => match k with
  | 0 => .int
  | 1 => (.array .char)
  | 2 => (.array .int)
  | 3 => (.array .int)
  | 4 => (.array .int)
  | 5 => (.array .int)
  | _ => (.array .boolean)
def cR3 : String := "ReportChecks2$Findings"
def cT3 : u_T := fun k => match k with
  | 0 => ("ReportChecks2$Findings", "sorts", "[I", true)
  | 1 => ("ReportChecks2$Findings", "numbers", "[I", true)
  | _ => ("ReportChecks2$Findings", "size", "I", false)
def ct3 : Nat → FieldType := fun k => match k with
  | 0 => (.array .int)
  | 1 => (.array .int)
  | _ => .int
def cR4 : String := "ReportChecks2$CodeText"
def cT4 : u_T := fun k => match k with
  | 0 => ("ReportChecks2$CodeText", "bytes", "[B", true)
  | _ => ("ReportChecks2$CodeText", "length", "I", false)
def ct4 : Nat → FieldType := fun k => match k with
  | 0 => (.array .byte)
  | _ => .int
def cR5 : String := "ReportChecks2$Report"
def cT5 : u_T := fun k => match k with
  | 0 => ("ReportChecks2$Report", "incident", "I", true)
  | 1 => ("ReportChecks2$Report", "kind", "I", true)
  | 2 => ("ReportChecks2$Report", "madeAt", "I", true)
  | 3 => ("ReportChecks2$Report", "former", "I", true)
  | 4 => ("ReportChecks2$Report", "values", "[I", true)
  | 5 => ("ReportChecks2$Report", "filledFields", "I", false)
  | 6 => ("ReportChecks2$Report", "fieldsByActs", "I", false)
  | 7 => ("ReportChecks2$Report", "openFields", "I", false)
  | 8 => ("ReportChecks2$Report", "personsInside", "I", false)
  | 9 => ("ReportChecks2$Report", "signers", "[I", true)
  | _ => ("ReportChecks2$Report", "signatures", "I", false)
def ct5 : Nat → FieldType := fun k => match k with
  | 0 => .int
  | 1 => .int
  | 2 => .int
  | 3 => .int
  | 4 => (.array .int)
  | 5 => .int
  | 6 => .int
  | 7 => .int
  | 8 => .int
  | 9 => (.array .int)
  | _ => .int
def cR6 : String := "ReportChecks2Model"
def cT6 : u_T := fun k => match k with
  | 0 => ("ReportChecks2Model", "thrown", "I", false)
  | 1 => ("ReportChecks2Model", "now", "I", false)
  | 2 => ("ReportChecks2Model", "reports", "I", false)
  | 3 => ("ReportChecks2Model", "incident", "[I", true)
  | 4 => ("ReportChecks2Model", "kind", "[I", true)
  | 5 => ("ReportChecks2Model", "made", "[I", true)
  | 6 => ("ReportChecks2Model", "within", "[I", true)
  | 7 => ("ReportChecks2Model", "from", "[I", true)
  | 8 => ("ReportChecks2Model", "signed", "[I", true)
  | 9 => ("ReportChecks2Model", "by", "[I", true)
  | 10 => ("ReportChecks2Model", "full", "[Z", true)
  | 11 => ("ReportChecks2Model", "acts", "[Z", true)
  | 12 => ("ReportChecks2Model", "open", "[Z", true)
  | 13 => ("ReportChecks2Model", "value", "[I", true)
  | 14 => ("ReportChecks2Model", "asks", "[Z", true)
  | 15 => ("ReportChecks2Model", "hidden", "[Z", true)
  | 16 => ("ReportChecks2Model", "taped", "I", false)
  | 17 => ("ReportChecks2Model", "tape", "[I", true)
  | 18 => ("ReportChecks2Model", "place", "I", false)
  | 19 => ("ReportChecks2Model", "at", "I", false)
  | 20 => ("ReportChecks2Model", "wrong", "I", false)
  | 21 => ("ReportChecks2Model", "rules", "I", false)
  | 22 => ("ReportChecks2Model", "sign", "[I", true)
  | 23 => ("ReportChecks2Model", "term", "[I", true)
  | 24 => ("ReportChecks2Model", "first", "[I", true)
  | 25 => ("ReportChecks2Model", "second", "[I", true)
  | 26 => ("ReportChecks2Model", "divided", "[Z", true)
  | 27 => ("ReportChecks2Model", "newRules", "I", false)
  | 28 => ("ReportChecks2Model", "newSign", "[I", true)
  | 29 => ("ReportChecks2Model", "newTerm", "[I", true)
  | 30 => ("ReportChecks2Model", "newFirst", "[I", true)
  | 31 => ("ReportChecks2Model", "newSecond", "[I", true)
  | 32 => ("ReportChecks2Model", "newDivided", "[Z", true)
  | 33 => ("ReportChecks2Model", "broke", "Z", false)
  | 34 => ("ReportChecks2Model", "wants", "I", false)
  | 35 => ("ReportChecks2Model", "wantIs", "[I", true)
  | 36 => ("ReportChecks2Model", "wantOf", "[I", true)
  | 37 => ("ReportChecks2Model", "coded", "I", false)
  | _ => ("ReportChecks2Model", "out", "[I", true)
def ct6 : Nat → FieldType := fun k => match k with
  | 0 => .int
  | 1 => .int
  | 2 => .int
  | 3 => (.array .int)
  | 4 => (.array .int)
  | 5 => (.array .int)
  | 6 => (.array .int)
  | 7 => (.array .int)
  | 8 => (.array .int)
  | 9 => (.array .int)
  | 10 => (.array .boolean)
  | 11 => (.array .boolean)
  | 12 => (.array .boolean)
  | 13 => (.array .int)
  | 14 => (.array .boolean)
  | 15 => (.array .boolean)
  | 16 => .int
  | 17 => (.array .int)
  | 18 => .int
  | 19 => .int
  | 20 => .int
  | 21 => .int
  | 22 => (.array .int)
  | 23 => (.array .int)
  | 24 => (.array .int)
  | 25 => (.array .int)
  | 26 => (.array .boolean)
  | 27 => .int
  | 28 => (.array .int)
  | 29 => (.array .int)
  | 30 => (.array .int)
  | 31 => (.array .int)
  | 32 => (.array .boolean)
  | 33 => .boolean
  | 34 => .int
  | 35 => (.array .int)
  | 36 => (.array .int)
  | 37 => .int
  | _ => (.array .int)
def cR7 : String := "java/lang/IllegalArgumentException"
def cT7 : u_T := fun _ => ("", "", "", false)
def cR8 : String := "java/lang/IndexOutOfBoundsException"
def cT8 : u_T := fun _ => ("", "", "", false)
def cR9 : String := "java/lang/IllegalStateException"
def cT9 : u_T := fun _ => ("", "", "", false)
def cR10 : String := "java/lang/UnsupportedOperationException"
def cT10 : u_T := fun _ => ("", "", "", false)
def g_cl : List vw_C := [(cR0, cT0, 14), (cR1, cT1, 3), (cR2, cT2, 7), (cR3, cT3, 3), (cR4, cT4, 2), (cR5, cT5, 11), (cR6, cT6, 39), (cR7, cT7, 0), (cR8, cT8, 0), (cR9, cT9, 0), (cR10, cT10, 0)]
def g_ty (cA : Nat → ClassId) : List (ClassId × FieldType) := [(cA 0, .int), (cA 1, .byte), (cA 2, .boolean), (cA 3, .char), (cA 4, .long), (cA 5, (.object "ReportChecks2$Report"))]
theorem cw0 : ∀ w ∈ u_ws cR0 cT0 14, w ∈ g_ws := fun w h => g_in ((show ∀ w ∈ u_ws cR0 cT0 14, w ∈ lw_tbl by decide +kernel) w h) ((show ∀ w ∈ u_ws cR0 cT0 14, g_ok w = true by decide +kernel) w h)
theorem cp0 : ∀ j, j < 14 → parseFieldDescriptor (cT0 j).2.2.1 = some (ct0 j) := by decide +kernel
theorem cn0 : ∀ i, i < 14 → ∀ j, j < 14 → i ≠ j → (cT0 i).2.1 ≠ (cT0 j).2.1 := by decide +kernel
theorem cw1 : ∀ w ∈ u_ws cR1 cT1 3, w ∈ g_ws := fun w h => g_in ((show ∀ w ∈ u_ws cR1 cT1 3, w ∈ lw_tbl by decide +kernel) w h) ((show ∀ w ∈ u_ws cR1 cT1 3, g_ok w = true by decide +kernel) w h)
theorem cp1 : ∀ j, j < 3 → parseFieldDescriptor (cT1 j).2.2.1 = some (ct1 j) := by decide +kernel
theorem cn1 : ∀ i, i < 3 → ∀ j, j < 3 → i ≠ j → (cT1 i).2.1 ≠ (cT1 j).2.1 := by decide +kernel
theorem cw2 : ∀ w ∈ u_ws cR2 cT2 7, w ∈ g_ws := fun w h => g_in ((show ∀ w ∈ u_ws cR2 cT2 7, w ∈ lw_tbl by decide +kernel) w h) ((show ∀ w ∈ u_ws cR2 cT2 7, g_ok w = true by decide +kernel) w h)
theorem cp2 : ∀ j, j < 7 → parseFieldDescriptor (cT2 j).2.2.1 = some (ct2 j) := by decide +kernel
theorem cn2 : ∀ i, i < 7 → ∀ j, j < 7 → i ≠ j → (cT2 i).2.1 ≠ (cT2 j).2.1 := by decide +kernel
theorem cw3 : ∀ w ∈ u_ws cR3 cT3 3, w ∈ g_ws := fun w h => g_in ((show ∀ w ∈ u_ws cR3 cT3 3, w ∈ lw_tbl by decide +kernel) w h) ((show ∀ w ∈ u_ws cR3 cT3 3, g_ok w = true by decide +kernel) w h)
theorem cp3 : ∀ j, j < 3 → parseFieldDescriptor (cT3 j).2.2.1 = some (ct3 j) := by decide +kernel
theorem cn3 : ∀ i, i < 3 → ∀ j, j < 3 → i ≠ j → (cT3 i).2.1 ≠ (cT3 j).2.1 := by decide +kernel
theorem cw4 : ∀ w ∈ u_ws cR4 cT4 2, w ∈ g_ws := fun w h => g_in ((show ∀ w ∈ u_ws cR4 cT4 2, w ∈ lw_tbl by decide +kernel) w h) ((show ∀ w ∈ u_ws cR4 cT4 2, g_ok w = true by decide +kernel) w h)
theorem cp4 : ∀ j, j < 2 → parseFieldDescriptor (cT4 j).2.2.1 = some (ct4 j) := by decide +kernel
theorem cn4 : ∀ i, i < 2 → ∀ j, j < 2 → i ≠ j → (cT4 i).2.1 ≠ (cT4 j).2.1 := by decide +kernel
theorem cw5 : ∀ w ∈ u_ws cR5 cT5 11, w ∈ g_ws := fun w h => g_in ((show ∀ w ∈ u_ws cR5 cT5 11, w ∈ lw_tbl by decide +kernel) w h) ((show ∀ w ∈ u_ws cR5 cT5 11, g_ok w = true by decide +kernel) w h)
theorem cp5 : ∀ j, j < 11 → parseFieldDescriptor (cT5 j).2.2.1 = some (ct5 j) := by decide +kernel
theorem cn5 : ∀ i, i < 11 → ∀ j, j < 11 → i ≠ j → (cT5 i).2.1 ≠ (cT5 j).2.1 := by decide +kernel
theorem cw6 : ∀ w ∈ u_ws cR6 cT6 39, w ∈ g_ws := fun w h => g_in ((show ∀ w ∈ u_ws cR6 cT6 39, w ∈ lw_tbl by decide +kernel) w h) ((show ∀ w ∈ u_ws cR6 cT6 39, g_ok w = true by decide +kernel) w h)
theorem cp6 : ∀ j, j < 39 → parseFieldDescriptor (cT6 j).2.2.1 = some (ct6 j) := by decide +kernel
theorem cn6 : ∀ i, i < 39 → ∀ j, j < 39 → i ≠ j → (cT6 i).2.1 ≠ (cT6 j).2.1 := by decide +kernel
