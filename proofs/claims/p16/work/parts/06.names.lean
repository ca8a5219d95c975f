def bT : List Cond := lw_tbl.filter goodWord
theorem inT {P : Cond → Prop} {a : Cond} (h : ∀ w, P w → w ∈ bT) : ∀ w, P w → w ∈ a :: bT := fun w q => List.mem_cons_of_mem _ (h w q)
theorem inTL {P : Cond → Prop} (h : ∀ w, P w → w ∈ bT) : ∀ w, P w → w ∈ lw_tbl := fun w q => (List.mem_filter.mp (h w q)).1
theorem bT_good {w : Cond} (h : w ∈ bT) : goodWord w = true := (List.mem_filter.mp h).2
theorem gdV {a b : Cond} {own C : String} {idx : Nat} {y : MethodName} (h0 : b ∈ bT) (h1 : Cond.methodLink own idx y ∈ bT) (h2 : Cond.instanceMethod y ∈ bT) (h3 : Cond.selects C y y ∈ bT) (h4 : Cond.initialized C ∈ bT) : GoodIn (a :: bT) (wsV own idx C y (b :: bT)) := by
  intro w hw
  have hm : w ∈ bT := by
    simp only [wsV, List.cons_append, List.nil_append, List.mem_cons] at hw
    rcases hw with rfl | rfl | rfl | rfl | rfl | h <;> assumption
  exact ⟨List.mem_cons_of_mem _ hm, good_of_word (bT_good hm)⟩
theorem gdS {a b : Cond} {own : String} {idx : Nat} {y : MethodName} (h0 : b ∈ bT) (h1 : Cond.methodLink own idx y ∈ bT) (h2 : Cond.static y ∈ bT) (h4 : Cond.initialized own ∈ bT) : GoodIn (a :: bT) (wsS own idx y (b :: bT)) := by
  intro w hw
  have hm : w ∈ bT := by
    simp only [wsS, List.cons_append, List.nil_append, List.mem_cons] at hw
    rcases hw with rfl | rfl | rfl | rfl | h <;> assumption
  exact ⟨List.mem_cons_of_mem _ hm, good_of_word (bT_good hm)⟩
def RL : String := "BoardMovesLaw"
theorem mB {w : Cond} (i : Nat) (h : tables_1[i]? = some w ∧ goodWord w = true) : w ∈ bT := List.mem_filter.mpr ⟨List.mem_append_right _ (List.mem_of_getElem? h.1), h.2⟩
theorem mS {w : Cond} (h : w ∈ k2_sels lw_privs ∧ goodWord w = true) : w ∈ bT := List.mem_filter.mpr ⟨List.mem_append_left _ h.1, h.2⟩
def RX0 : String := "BoardMoves$Limits"
def TX0 : u_T := fun k => match k with
  | 0 => ("BoardMoves$Limits", "parts", "LBoardMoves$Parts;", true)
  | 1 => ("BoardMoves$Limits", "x0", "[J", true)
  | 2 => ("BoardMoves$Limits", "y0", "[J", true)
  | 3 => ("BoardMoves$Limits", "x1", "[J", true)
  | 4 => ("BoardMoves$Limits", "y1", "[J", true)
  | 5 => ("BoardMoves$Limits", "tallest", "[J", true)
  | 6 => ("BoardMoves$Limits", "one", "[I", true)
  | 7 => ("BoardMoves$Limits", "other", "[I", true)
  | 8 => ("BoardMoves$Limits", "most", "[J", true)
  | 9 => ("BoardMoves$Limits", "keepOuts", "I", false)
  | _ => ("BoardMoves$Limits", "nears", "I", false)
def tyX0 : Nat → FieldType := fun k => match k with
  | 0 => .object "BoardMoves$Parts"
  | 1 => .array .long
  | 2 => .array .long
  | 3 => .array .long
  | 4 => .array .long
  | 5 => .array .long
  | 6 => .array .int
  | 7 => .array .int
  | 8 => .array .long
  | 9 => .int
  | _ => .int
theorem nmX0 : ∀ a, a < 11 → ∀ b, b < 11 → a ≠ b → (TX0 a).2.1 ≠ (TX0 b).2.1 := by decide +kernel
theorem tyX0_ok : ∀ k, k < 11 → parseFieldDescriptor (TX0 k).2.2.1 = some (tyX0 k) := by decide +kernel
theorem inX0 : ∀ w, w ∈ u_ws RX0 TX0 11 → w ∈ bT := by decide +kernel
def RX1 : String := "BoardMoves$Parts"
def TX1 : u_T := fun k => match k with
  | 0 => ("BoardMoves$Parts", "w", "[J", true)
  | 1 => ("BoardMoves$Parts", "h", "[J", true)
  | 2 => ("BoardMoves$Parts", "side", "[I", true)
  | 3 => ("BoardMoves$Parts", "tall", "[J", true)
  | 4 => ("BoardMoves$Parts", "locked", "[Z", true)
  | 5 => ("BoardMoves$Parts", "lowest", "[I", true)
  | _ => ("BoardMoves$Parts", "count", "I", false)
def tyX1 : Nat → FieldType := fun k => match k with
  | 0 => .array .long
  | 1 => .array .long
  | 2 => .array .int
  | 3 => .array .long
  | 4 => .array .boolean
  | 5 => .array .int
  | _ => .int
theorem nmX1 : ∀ a, a < 7 → ∀ b, b < 7 → a ≠ b → (TX1 a).2.1 ≠ (TX1 b).2.1 := by decide +kernel
theorem tyX1_ok : ∀ k, k < 7 → parseFieldDescriptor (TX1 k).2.2.1 = some (tyX1 k) := by decide +kernel
theorem inX1 : ∀ w, w ∈ u_ws RX1 TX1 7 → w ∈ bT := by decide +kernel
def RX2 : String := "BoardMoves$Placement"
def TX2 : u_T := fun k => match k with
  | 0 => ("BoardMoves$Placement", "parts", "LBoardMoves$Parts;", true)
  | 1 => ("BoardMoves$Placement", "x", "[J", true)
  | 2 => ("BoardMoves$Placement", "y", "[J", true)
  | 3 => ("BoardMoves$Placement", "turn", "[I", true)
  | _ => ("BoardMoves$Placement", "placed", "[Z", true)
def tyX2 : Nat → FieldType := fun k => match k with
  | 0 => .object "BoardMoves$Parts"
  | 1 => .array .long
  | 2 => .array .long
  | 3 => .array .int
  | _ => .array .boolean
theorem nmX2 : ∀ a, a < 5 → ∀ b, b < 5 → a ≠ b → (TX2 a).2.1 ≠ (TX2 b).2.1 := by decide +kernel
theorem tyX2_ok : ∀ k, k < 5 → parseFieldDescriptor (TX2 k).2.2.1 = some (tyX2 k) := by decide +kernel
theorem inX2 : ∀ w, w ∈ u_ws RX2 TX2 5 → w ∈ bT := by decide +kernel
def RX3 : String := "BoardMoves$Wiring"
def TX3 : u_T := fun k => match k with
  | 0 => ("BoardMoves$Wiring", "parts", "LBoardMoves$Parts;", true)
  | 1 => ("BoardMoves$Wiring", "netOf", "[I", true)
  | 2 => ("BoardMoves$Wiring", "partOf", "[I", true)
  | 3 => ("BoardMoves$Wiring", "dx", "[J", true)
  | 4 => ("BoardMoves$Wiring", "dy", "[J", true)
  | 5 => ("BoardMoves$Wiring", "reached", "[Z", true)
  | 6 => ("BoardMoves$Wiring", "lowX", "[J", true)
  | 7 => ("BoardMoves$Wiring", "highX", "[J", true)
  | 8 => ("BoardMoves$Wiring", "lowY", "[J", true)
  | 9 => ("BoardMoves$Wiring", "highY", "[J", true)
  | 10 => ("BoardMoves$Wiring", "nets", "I", false)
  | _ => ("BoardMoves$Wiring", "pins", "I", false)
def tyX3 : Nat → FieldType := fun k => match k with
  | 0 => .object "BoardMoves$Parts"
  | 1 => .array .int
  | 2 => .array .int
  | 3 => .array .long
  | 4 => .array .long
  | 5 => .array .boolean
  | 6 => .array .long
  | 7 => .array .long
  | 8 => .array .long
  | 9 => .array .long
  | 10 => .int
  | _ => .int
theorem nmX3 : ∀ a, a < 12 → ∀ b, b < 12 → a ≠ b → (TX3 a).2.1 ≠ (TX3 b).2.1 := by decide +kernel
theorem tyX3_ok : ∀ k, k < 12 → parseFieldDescriptor (TX3 k).2.2.1 = some (tyX3 k) := by decide +kernel
theorem inX3 : ∀ w, w ∈ u_ws RX3 TX3 12 → w ∈ bT := by decide +kernel
def RX4 : String := "BoardMoves"
def TX4 : u_T := fun k => match k with
  | 0 => ("BoardMoves", "boardWide", "J", true)
  | 1 => ("BoardMoves", "boardHigh", "J", true)
  | 2 => ("BoardMoves", "parts", "LBoardMoves$Parts;", true)
  | 3 => ("BoardMoves", "limits", "LBoardMoves$Limits;", true)
  | 4 => ("BoardMoves", "wiring", "LBoardMoves$Wiring;", true)
  | 5 => ("BoardMoves", "now", "LBoardMoves$Placement;", true)
  | 6 => ("BoardMoves", "before", "LBoardMoves$Placement;", true)
  | 7 => ("BoardMoves", "best", "LBoardMoves$Placement;", true)
  | 8 => ("BoardMoves", "drawn", "J", false)
  | _ => ("BoardMoves", "keptWire", "J", false)
def tyX4 : Nat → FieldType := fun k => match k with
  | 0 => .long
  | 1 => .long
  | 2 => .object "BoardMoves$Parts"
  | 3 => .object "BoardMoves$Limits"
  | 4 => .object "BoardMoves$Wiring"
  | 5 => .object "BoardMoves$Placement"
  | 6 => .object "BoardMoves$Placement"
  | 7 => .object "BoardMoves$Placement"
  | 8 => .long
  | _ => .long
theorem nmX4 : ∀ a, a < 10 → ∀ b, b < 10 → a ≠ b → (TX4 a).2.1 ≠ (TX4 b).2.1 := by decide +kernel
theorem tyX4_ok : ∀ k, k < 10 → parseFieldDescriptor (TX4 k).2.2.1 = some (tyX4 k) := by decide +kernel
theorem inX4 : ∀ w, w ∈ u_ws RX4 TX4 10 → w ∈ bT := by decide +kernel
def RX5 : String := "BoardMovesModel"
def TX5 : u_T := fun k => match k with
  | 0 => ("BoardMovesModel", "thrown", "I", false)
  | 1 => ("BoardMovesModel", "width", "J", true)
  | 2 => ("BoardMovesModel", "height", "J", true)
  | 3 => ("BoardMovesModel", "parts", "I", false)
  | 4 => ("BoardMovesModel", "wide", "[J", true)
  | 5 => ("BoardMovesModel", "high", "[J", true)
  | 6 => ("BoardMovesModel", "sides", "[I", true)
  | 7 => ("BoardMovesModel", "heights", "[J", true)
  | 8 => ("BoardMovesModel", "locked", "[Z", true)
  | 9 => ("BoardMovesModel", "groups", "[I", true)
  | 10 => ("BoardMovesModel", "placed", "[Z", true)
  | 11 => ("BoardMovesModel", "x", "[J", true)
  | 12 => ("BoardMovesModel", "y", "[J", true)
  | 13 => ("BoardMovesModel", "turns", "[I", true)
  | 14 => ("BoardMovesModel", "outs", "I", false)
  | 15 => ("BoardMovesModel", "out", "[J", true)
  | 16 => ("BoardMovesModel", "nears", "I", false)
  | 17 => ("BoardMovesModel", "nearOne", "[I", true)
  | 18 => ("BoardMovesModel", "nearTwo", "[I", true)
  | 19 => ("BoardMovesModel", "nearMost", "[J", true)
  | 20 => ("BoardMovesModel", "nets", "I", false)
  | 21 => ("BoardMovesModel", "pins", "I", false)
  | 22 => ("BoardMovesModel", "pinNet", "[I", true)
  | 23 => ("BoardMovesModel", "pinPart", "[I", true)
  | 24 => ("BoardMovesModel", "pinX", "[J", true)
  | 25 => ("BoardMovesModel", "pinY", "[J", true)
  | 26 => ("BoardMovesModel", "moved", "[Z", true)
  | _ => ("BoardMovesModel", "s", "J", false)
def tyX5 : Nat → FieldType := fun k => match k with
  | 0 => .int
  | 1 => .long
  | 2 => .long
  | 3 => .int
  | 4 => .array .long
  | 5 => .array .long
  | 6 => .array .int
  | 7 => .array .long
  | 8 => .array .boolean
  | 9 => .array .int
  | 10 => .array .boolean
  | 11 => .array .long
  | 12 => .array .long
  | 13 => .array .int
  | 14 => .int
  | 15 => .array .long
  | 16 => .int
  | 17 => .array .int
  | 18 => .array .int
  | 19 => .array .long
  | 20 => .int
  | 21 => .int
  | 22 => .array .int
  | 23 => .array .int
  | 24 => .array .long
  | 25 => .array .long
  | 26 => .array .boolean
  | _ => .long
theorem nmX5 : ∀ a, a < 28 → ∀ b, b < 28 → a ≠ b → (TX5 a).2.1 ≠ (TX5 b).2.1 := by decide +kernel
theorem tyX5_ok : ∀ k, k < 28 → parseFieldDescriptor (TX5 k).2.2.1 = some (tyX5 k) := by decide +kernel
theorem inX5 : ∀ w, w ∈ u_ws RX5 TX5 28 → w ∈ bT := by decide +kernel
abbrev vwCl : List vw_C := [(RX0, TX0, 11), (RX1, TX1, 7), (RX2, TX2, 5), (RX3, TX3, 12), (RX4, TX4, 10), (RX5, TX5, 28)]
