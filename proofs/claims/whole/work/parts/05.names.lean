def bT : List Cond := lw_tbl.filter goodWord
theorem inT {P : Cond → Prop} {a : Cond} (h : ∀ w, P w → w ∈ bT) : ∀ w, P w → w ∈ a :: bT := fun w q => List.mem_cons_of_mem _ (h w q)
def RX0 : String := "BoardMoves$Limits"
def TX0 : u_T := fun k => match k with
  | 0 => ("BoardMoves$Limits", "parts", "LBoardMoves$Parts;", true)
  | 1 => ("BoardMoves$Limits", "x0", "[J", true)
  | 2 => ("BoardMoves$Limits", "y0", "[J", true)
  | 3 => ("BoardMoves$Limits", "x1", "[J", true)
  | 4 => ("BoardMoves$Limits", "y1", "[J", true)
  | 5 => ("BoardMoves$Limits", "tallest", "[J", true)
  | 6 => ("BoardMoves$Limits", "one", "[I", true)
  | 7 => ("BoardMoves$Limits", "other", "[I", true)
  | 8 => ("BoardMoves$Limits", "most", "[J", true)
  | 9 => ("BoardMoves$Limits", "keepOuts", "I", false)
  | _ => ("BoardMoves$Limits", "nears", "I", false)
def tyX0 : Nat → FieldType := fun k => match k with
  | 0 => .object "BoardMoves$Parts"
  | 1 => .array .long
  | 2 => .array .long
  | 3 => .array .long
  | 4 => .array .long
  | 5 => .array .long
  | 6 => .array .int
  | 7 => .array .int
  | 8 => .array .long
  | 9 => .int
  | _ => .int
theorem nmX0 : ∀ a, a < 11 → ∀ b, b < 11 → a ≠ b → (TX0 a).2.1 ≠ (TX0 b).2.1 := by decide +kernel
theorem tyX0_ok : ∀ k, k < 11 → parseFieldDescriptor (TX0 k).2.2.1 = some (tyX0 k) := by decide +kernel
theorem inX0 : ∀ w, w ∈ u_ws RX0 TX0 11 → w ∈ bT := by decide +kernel
def RX1 : String := "BoardMoves$Parts"
def TX1 : u_T := fun k => match k with
  | 0 => ("BoardMoves$Parts", "w", "[J", true)
  | 1 => ("BoardMoves$Parts", "h", "[J", true)
  | 2 => ("BoardMoves$Parts", "side", "[I", true)
  | 3 => ("BoardMoves$Parts", "tall", "[J", true)
  | 4 => ("BoardMoves$Parts", "locked", "[Z", true)
  | 5 => ("BoardMoves$Parts", "lowest", "[I", true)
  | _ => ("BoardMoves$Parts", "count", "I", false)
def tyX1 : Nat → FieldType := fun k => match k with
  | 0 => .array .long
  | 1 => .array .long
  | 2 => .array .int
  | 3 => .array .long
  | 4 => .array .boolean
  | 5 => .array .int
  | _ => .int
theorem nmX1 : ∀ a, a < 7 → ∀ b, b < 7 → a ≠ b → (TX1 a).2.1 ≠ (TX1 b).2.1 := by decide +kernel
theorem tyX1_ok : ∀ k, k < 7 → parseFieldDescriptor (TX1 k).2.2.1 = some (tyX1 k) := by decide +kernel
theorem inX1 : ∀ w, w ∈ u_ws RX1 TX1 7 → w ∈ bT := by decide +kernel
def RX2 : String := "BoardMoves$Placement"
def TX2 : u_T := fun k => match k with
  | 0 => ("BoardMoves$Placement", "parts", "LBoardMoves$Parts;", true)
  | 1 => ("BoardMoves$Placement", "x", "[J", true)
  | 2 => ("BoardMoves$Placement", "y", "[J", true)
  | 3 => ("BoardMoves$Placement", "turn", "[I", true)
  | _ => ("BoardMoves$Placement", "placed", "[Z", true)
def tyX2 : Nat → FieldType := fun k => match k with
  | 0 => .object "BoardMoves$Parts"
  | 1 => .array .long
  | 2 => .array .long
  | 3 => .array .int
  | _ => .array .boolean
theorem nmX2 : ∀ a, a < 5 → ∀ b, b < 5 → a ≠ b → (TX2 a).2.1 ≠ (TX2 b).2.1 := by decide +kernel
theorem tyX2_ok : ∀ k, k < 5 → parseFieldDescriptor (TX2 k).2.2.1 = some (tyX2 k) := by decide +kernel
theorem inX2 : ∀ w, w ∈ u_ws RX2 TX2 5 → w ∈ bT := by decide +kernel
def RX3 : String := "BoardMoves$Wiring"
def TX3 : u_T := fun k => match k with
  | 0 => ("BoardMoves$Wiring", "parts", "LBoardMoves$Parts;", true)
  | 1 => ("BoardMoves$Wiring", "netOf", "[I", true)
  | 2 => ("BoardMoves$Wiring", "partOf", "[I", true)
  | 3 => ("BoardMoves$Wiring", "dx", "[J", true)
  | 4 => ("BoardMoves$Wiring", "dy", "[J", true)
  | 5 => ("BoardMoves$Wiring", "reached", "[Z", true)
  | 6 => ("BoardMoves$Wiring", "lowX", "[J", true)
  | 7 => ("BoardMoves$Wiring", "highX", "[J", true)
  | 8 => ("BoardMoves$Wiring", "lowY", "[J", true)
  | 9 => ("BoardMoves$Wiring", "highY", "[J", true)
  | 10 => ("BoardMoves$Wiring", "nets", "I", false)
  | _ => ("BoardMoves$Wiring", "pins", "I", false)
def tyX3 : Nat → FieldType := fun k => match k with
  | 0 => .object "BoardMoves$Parts"
  | 1 => .array .int
  | 2 => .array .int
  | 3 => .array .long
  | 4 => .array .long
  | 5 => .array .boolean
  | 6 => .array .long
  | 7 => .array .long
  | 8 => .array .long
  | 9 => .array .long
  | 10 => .int
  | _ => .int
theorem nmX3 : ∀ a, a < 12 → ∀ b, b < 12 → a ≠ b → (TX3 a).2.1 ≠ (TX3 b).2.1 := by decide +kernel
theorem tyX3_ok : ∀ k, k < 12 → parseFieldDescriptor (TX3 k).2.2.1 = some (tyX3 k) := by decide +kernel
theorem inX3 : ∀ w, w ∈ u_ws RX3 TX3 12 → w ∈ bT := by decide +kernel
def RX4 : String := "BoardMoves"
def TX4 : u_T := fun k => match k with
  | 0 => ("BoardMoves", "boardWide", "J", true)
  | 1 => ("BoardMoves", "boardHigh", "J", true)
  | 2 => ("BoardMoves", "parts", "LBoardMoves$Parts;", true)
  | 3 => ("BoardMoves", "limits", "LBoardMoves$Limits;", true)
  | 4 => ("BoardMoves", "wiring", "LBoardMoves$Wiring;", true)
  | 5 => ("BoardMoves", "now", "LBoardMoves$Placement;", true)
  | 6 => ("BoardMoves", "before", "LBoardMoves$Placement;", true)
  | 7 => ("BoardMoves", "best", "LBoardMoves$Placement;", true)
  | 8 => ("BoardMoves", "drawn", "J", false)
  | _ => ("BoardMoves", "keptWire", "J", false)
def tyX4 : Nat → FieldType := fun k => match k with
  | 0 => .long
  | 1 => .long
  | 2 => .object "BoardMoves$Parts"
  | 3 => .object "BoardMoves$Limits"
  | 4 => .object "BoardMoves$Wiring"
  | 5 => .object "BoardMoves$Placement"
  | 6 => .object "BoardMoves$Placement"
  | 7 => .object "BoardMoves$Placement"
  | 8 => .long
  | _ => .long
theorem nmX4 : ∀ a, a < 10 → ∀ b, b < 10 → a ≠ b → (TX4 a).2.1 ≠ (TX4 b).2.1 := by decide +kernel
theorem tyX4_ok : ∀ k, k < 10 → parseFieldDescriptor (TX4 k).2.2.1 = some (tyX4 k) := by decide +kernel
theorem inX4 : ∀ w, w ∈ u_ws RX4 TX4 10 → w ∈ bT := by decide +kernel
abbrev vwCl : List vw_C := [(RX0, TX0, 11), (RX1, TX1, 7), (RX2, TX2, 5), (RX3, TX3, 12), (RX4, TX4, 10)]
abbrev cX1_areMates : ByteArray := prog_3_method_3_code
def yX1_areMates : MethodName := ⟨RX1, "areMates", "(II)Z"⟩
def wsX1_areMates : List Cond := .code yX1_areMates cX1_areMates 3 (some .boolean) :: bT
theorem dX1_areMates_0 : decode cX1_areMates 0 = .ok (.aload_n 0, 1) := by decide +kernel
theorem dX1_areMates_1 : decode cX1_areMates 1 = .ok (.getfield 29, 3) := by decide +kernel
theorem dX1_areMates_4 : decode cX1_areMates 4 = .ok (.iload_n 1, 1) := by decide +kernel
theorem dX1_areMates_5 : decode cX1_areMates 5 = .ok (.iaload, 1) := by decide +kernel
theorem dX1_areMates_6 : decode cX1_areMates 6 = .ok (.aload_n 0, 1) := by decide +kernel
theorem dX1_areMates_7 : decode cX1_areMates 7 = .ok (.getfield 29, 3) := by decide +kernel
theorem dX1_areMates_10 : decode cX1_areMates 10 = .ok (.iload_n 2, 1) := by decide +kernel
theorem dX1_areMates_11 : decode cX1_areMates 11 = .ok (.iaload, 1) := by decide +kernel
theorem dX1_areMates_12 : decode cX1_areMates 12 = .ok (.if_icmp .ne (7), 3) := by decide +kernel
theorem dX1_areMates_15 : decode cX1_areMates 15 = .ok (.iconst 1, 1) := by decide +kernel
theorem dX1_areMates_16 : decode cX1_areMates 16 = .ok (.goto (4), 3) := by decide +kernel
theorem dX1_areMates_19 : decode cX1_areMates 19 = .ok (.iconst 0, 1) := by decide +kernel
theorem dX1_areMates_20 : decode cX1_areMates 20 = .ok (.ireturn, 1) := by decide +kernel
abbrev cX2_endX : ByteArray := prog_4_method_7_code
def yX2_endX : MethodName := ⟨RX2, "endX", "(I)J"⟩
def wsX2_endX : List Cond := .code yX2_endX cX2_endX 2 (some .long) :: bT
theorem dX2_endX_0 : decode cX2_endX 0 = .ok (.aload_n 0, 1) := by decide +kernel
theorem dX2_endX_1 : decode cX2_endX 1 = .ok (.getfield 9, 3) := by decide +kernel
theorem dX2_endX_4 : decode cX2_endX 4 = .ok (.iload_n 1, 1) := by decide +kernel
theorem dX2_endX_5 : decode cX2_endX 5 = .ok (.laload, 1) := by decide +kernel
theorem dX2_endX_6 : decode cX2_endX 6 = .ok (.aload_n 0, 1) := by decide +kernel
theorem dX2_endX_7 : decode cX2_endX 7 = .ok (.getfield 18, 3) := by decide +kernel
theorem dX2_endX_10 : decode cX2_endX 10 = .ok (.iload_n 1, 1) := by decide +kernel
theorem dX2_endX_11 : decode cX2_endX 11 = .ok (.iaload, 1) := by decide +kernel
theorem dX2_endX_12 : decode cX2_endX 12 = .ok (.iconst 2, 1) := by decide +kernel
theorem dX2_endX_13 : decode cX2_endX 13 = .ok (.irem, 1) := by decide +kernel
theorem dX2_endX_14 : decode cX2_endX 14 = .ok (.ifCond .ne (15), 3) := by decide +kernel
theorem dX2_endX_17 : decode cX2_endX 17 = .ok (.aload_n 0, 1) := by decide +kernel
theorem dX2_endX_18 : decode cX2_endX 18 = .ok (.getfield 26, 3) := by decide +kernel
theorem dX2_endX_21 : decode cX2_endX 21 = .ok (.getfield 40, 3) := by decide +kernel
theorem dX2_endX_24 : decode cX2_endX 24 = .ok (.iload_n 1, 1) := by decide +kernel
theorem dX2_endX_25 : decode cX2_endX 25 = .ok (.laload, 1) := by decide +kernel
theorem dX2_endX_26 : decode cX2_endX 26 = .ok (.goto (12), 3) := by decide +kernel
theorem dX2_endX_29 : decode cX2_endX 29 = .ok (.aload_n 0, 1) := by decide +kernel
theorem dX2_endX_30 : decode cX2_endX 30 = .ok (.getfield 26, 3) := by decide +kernel
theorem dX2_endX_33 : decode cX2_endX 33 = .ok (.getfield 43, 3) := by decide +kernel
theorem dX2_endX_36 : decode cX2_endX 36 = .ok (.iload_n 1, 1) := by decide +kernel
theorem dX2_endX_37 : decode cX2_endX 37 = .ok (.laload, 1) := by decide +kernel
theorem dX2_endX_38 : decode cX2_endX 38 = .ok (.ladd, 1) := by decide +kernel
theorem dX2_endX_39 : decode cX2_endX 39 = .ok (.lreturn, 1) := by decide +kernel
