def bT : List Cond := lw_tbl.filter goodWord
theorem inT {P : Cond → Prop} {a : Cond} (h : ∀ w, P w → w ∈ bT) : ∀ w, P w → w ∈ a :: bT := fun w q => List.mem_cons_of_mem _ (h w q)
theorem bT_good {w : Cond} (h : w ∈ bT) : goodWord w = true := (List.mem_filter.mp h).2
theorem gdV {a b : Cond} {own C : String} {idx : Nat} {y : MethodName} (h0 : b ∈ bT) (h1 : Cond.methodLink own idx y ∈ bT) (h2 : Cond.instanceMethod y ∈ bT) (h3 : Cond.selects C y y ∈ bT) (h4 : Cond.initialized C ∈ bT) : GoodIn (a :: bT) (wsV own idx C y (b :: bT)) := by
  intro w hw
  have hm : w ∈ bT := by
    simp only [wsV, List.cons_append, List.nil_append, List.mem_cons] at hw
    rcases hw with rfl | rfl | rfl | rfl | rfl | h <;> assumption
  exact ⟨List.mem_cons_of_mem _ hm, good_of_word (bT_good hm)⟩
theorem gdS {a b : Cond} {own : String} {idx : Nat} {y : MethodName} (h0 : b ∈ bT) (h1 : Cond.methodLink own idx y ∈ bT) (h2 : Cond.static y ∈ bT) (h4 : Cond.initialized own ∈ bT) : GoodIn (a :: bT) (wsS own idx y (b :: bT)) := by
  intro w hw
  have hm : w ∈ bT := by
    simp only [wsS, List.cons_append, List.nil_append, List.mem_cons] at hw
    rcases hw with rfl | rfl | rfl | rfl | h <;> assumption
  exact ⟨List.mem_cons_of_mem _ hm, good_of_word (bT_good hm)⟩
def RX0 : String := "BoardMoves$Limits"
def TX0 : u_T := fun k => match k with
  | 0 => ("BoardMoves$Limits", "parts", "LBoardMoves$Parts;", true)
  | 1 => ("BoardMoves$Limits", "x0", "[J", true)
  | 2 => ("BoardMoves$Limits", "y0", "[J", true)
  | 3 => ("BoardMoves$Limits", "x1", "[J", true)
  | 4 => ("BoardMoves$Limits", "y1", "[J", true)
  | 5 => ("BoardMoves$Limits", "tallest", "[J", true)
  | 6 => ("BoardMoves$Limits", "one", "[I", true)
  | 7 => ("BoardMoves$Limits", "other", "[I", true)
  | 8 => ("BoardMoves$Limits", "most", "[J", true)
  | 9 => ("BoardMoves$Limits", "keepOuts", "I", false)
  | _ => ("BoardMoves$Limits", "nears", "I", false)
def tyX0 : Nat → FieldType := fun k => match k with
  | 0 => .object "BoardMoves$Parts"
  | 1 => .array .long
  | 2 => .array .long
  | 3 => .array .long
  | 4 => .array .long
  | 5 => .array .long
  | 6 => .array .int
  | 7 => .array .int
  | 8 => .array .long
  | 9 => .int
  | _ => .int
theorem nmX0 : ∀ a, a < 11 → ∀ b, b < 11 → a ≠ b → (TX0 a).2.1 ≠ (TX0 b).2.1 := by decide +kernel
theorem tyX0_ok : ∀ k, k < 11 → parseFieldDescriptor (TX0 k).2.2.1 = some (tyX0 k) := by decide +kernel
theorem inX0 : ∀ w, w ∈ u_ws RX0 TX0 11 → w ∈ bT := by decide +kernel
def RX1 : String := "BoardMoves$Parts"
def TX1 : u_T := fun k => match k with
  | 0 => ("BoardMoves$Parts", "w", "[J", true)
  | 1 => ("BoardMoves$Parts", "h", "[J", true)
  | 2 => ("BoardMoves$Parts", "side", "[I", true)
  | 3 => ("BoardMoves$Parts", "tall", "[J", true)
  | 4 => ("BoardMoves$Parts", "locked", "[Z", true)
  | 5 => ("BoardMoves$Parts", "lowest", "[I", true)
  | _ => ("BoardMoves$Parts", "count", "I", false)
def tyX1 : Nat → FieldType := fun k => match k with
  | 0 => .array .long
  | 1 => .array .long
  | 2 => .array .int
  | 3 => .array .long
  | 4 => .array .boolean
  | 5 => .array .int
  | _ => .int
theorem nmX1 : ∀ a, a < 7 → ∀ b, b < 7 → a ≠ b → (TX1 a).2.1 ≠ (TX1 b).2.1 := by decide +kernel
theorem tyX1_ok : ∀ k, k < 7 → parseFieldDescriptor (TX1 k).2.2.1 = some (tyX1 k) := by decide +kernel
theorem inX1 : ∀ w, w ∈ u_ws RX1 TX1 7 → w ∈ bT := by decide +kernel
def RX2 : String := "BoardMoves$Placement"
def TX2 : u_T := fun k => match k with
  | 0 => ("BoardMoves$Placement", "parts", "LBoardMoves$Parts;", true)
  | 1 => ("BoardMoves$Placement", "x", "[J", true)
  | 2 => ("BoardMoves$Placement", "y", "[J", true)
  | 3 => ("BoardMoves$Placement", "turn", "[I", true)
  | _ => ("BoardMoves$Placement", "placed", "[Z", true)
def tyX2 : Nat → FieldType := fun k => match k with
  | 0 => .object "BoardMoves$Parts"
  | 1 => .array .long
  | 2 => .array .long
  | 3 => .array .int
  | _ => .array .boolean
theorem nmX2 : ∀ a, a < 5 → ∀ b, b < 5 → a ≠ b → (TX2 a).2.1 ≠ (TX2 b).2.1 := by decide +kernel
theorem tyX2_ok : ∀ k, k < 5 → parseFieldDescriptor (TX2 k).2.2.1 = some (tyX2 k) := by decide +kernel
theorem inX2 : ∀ w, w ∈ u_ws RX2 TX2 5 → w ∈ bT := by decide +kernel
def RX3 : String := "BoardMoves$Wiring"
def TX3 : u_T := fun k => match k with
  | 0 => ("BoardMoves$Wiring", "parts", "LBoardMoves$Parts;", true)
  | 1 => ("BoardMoves$Wiring", "netOf", "[I", true)
  | 2 => ("BoardMoves$Wiring", "partOf", "[I", true)
  | 3 => ("BoardMoves$Wiring", "dx", "[J", true)
  | 4 => ("BoardMoves$Wiring", "dy", "[J", true)
  | 5 => ("BoardMoves$Wiring", "reached", "[Z", true)
  | 6 => ("BoardMoves$Wiring", "lowX", "[J", true)
  | 7 => ("BoardMoves$Wiring", "highX", "[J", true)
  | 8 => ("BoardMoves$Wiring", "lowY", "[J", true)
  | 9 => ("BoardMoves$Wiring", "highY", "[J", true)
  | 10 => ("BoardMoves$Wiring", "nets", "I", false)
  | _ => ("BoardMoves$Wiring", "pins", "I", false)
def tyX3 : Nat → FieldType := fun k => match k with
  | 0 => .object "BoardMoves$Parts"
  | 1 => .array .int
  | 2 => .array .int
  | 3 => .array .long
  | 4 => .array .long
  | 5 => .array .boolean
  | 6 => .array .long
  | 7 => .array .long
  | 8 => .array .long
  | 9 => .array .long
  | 10 => .int
  | _ => .int
theorem nmX3 : ∀ a, a < 12 → ∀ b, b < 12 → a ≠ b → (TX3 a).2.1 ≠ (TX3 b).2.1 := by decide +kernel
theorem tyX3_ok : ∀ k, k < 12 → parseFieldDescriptor (TX3 k).2.2.1 = some (tyX3 k) := by decide +kernel
theorem inX3 : ∀ w, w ∈ u_ws RX3 TX3 12 → w ∈ bT := by decide +kernel
def RX4 : String := "BoardMoves"
def TX4 : u_T := fun k => match k with
  | 0 => ("BoardMoves", "boardWide", "J", true)
  | 1 => ("BoardMoves", "boardHigh", "J", true)
  | 2 => ("BoardMoves", "parts", "LBoardMoves$Parts;", true)
  | 3 => ("BoardMoves", "limits", "LBoardMoves$Limits;", true)
  | 4 => ("BoardMoves", "wiring", "LBoardMoves$Wiring;", true)
  | 5 => ("BoardMoves", "now", "LBoardMoves$Placement;", true)
  | 6 => ("BoardMoves", "before", "LBoardMoves$Placement;", true)
  | 7 => ("BoardMoves", "best", "LBoardMoves$Placement;", true)
  | 8 => ("BoardMoves", "drawn", "J", false)
  | _ => ("BoardMoves", "keptWire", "J", false)
def tyX4 : Nat → FieldType := fun k => match k with
  | 0 => .long
  | 1 => .long
  | 2 => .object "BoardMoves$Parts"
  | 3 => .object "BoardMoves$Limits"
  | 4 => .object "BoardMoves$Wiring"
  | 5 => .object "BoardMoves$Placement"
  | 6 => .object "BoardMoves$Placement"
  | 7 => .object "BoardMoves$Placement"
  | 8 => .long
  | _ => .long
theorem nmX4 : ∀ a, a < 10 → ∀ b, b < 10 → a ≠ b → (TX4 a).2.1 ≠ (TX4 b).2.1 := by decide +kernel
theorem tyX4_ok : ∀ k, k < 10 → parseFieldDescriptor (TX4 k).2.2.1 = some (tyX4 k) := by decide +kernel
theorem inX4 : ∀ w, w ∈ u_ws RX4 TX4 10 → w ∈ bT := by decide +kernel
abbrev vwCl : List vw_C := [(RX0, TX0, 11), (RX1, TX1, 7), (RX2, TX2, 5), (RX3, TX3, 12), (RX4, TX4, 10)]
abbrev cX1_areMates : ByteArray := prog_3_method_3_code
def yX1_areMates : MethodName := ⟨RX1, "areMates", "(II)Z"⟩
def wsX1_areMates : List Cond := .code yX1_areMates cX1_areMates 3 (some .boolean) :: bT
theorem dX1_areMates_0 : decode cX1_areMates 0 = .ok (.aload_n 0, 1) := by decide +kernel
theorem dX1_areMates_1 : decode cX1_areMates 1 = .ok (.getfield 29, 3) := by decide +kernel
theorem dX1_areMates_4 : decode cX1_areMates 4 = .ok (.iload_n 1, 1) := by decide +kernel
theorem dX1_areMates_5 : decode cX1_areMates 5 = .ok (.iaload, 1) := by decide +kernel
theorem dX1_areMates_6 : decode cX1_areMates 6 = .ok (.aload_n 0, 1) := by decide +kernel
theorem dX1_areMates_7 : decode cX1_areMates 7 = .ok (.getfield 29, 3) := by decide +kernel
theorem dX1_areMates_10 : decode cX1_areMates 10 = .ok (.iload_n 2, 1) := by decide +kernel
theorem dX1_areMates_11 : decode cX1_areMates 11 = .ok (.iaload, 1) := by decide +kernel
theorem dX1_areMates_12 : decode cX1_areMates 12 = .ok (.if_icmp .ne (7), 3) := by decide +kernel
theorem dX1_areMates_15 : decode cX1_areMates 15 = .ok (.iconst 1, 1) := by decide +kernel
theorem dX1_areMates_16 : decode cX1_areMates 16 = .ok (.goto (4), 3) := by decide +kernel
theorem dX1_areMates_19 : decode cX1_areMates 19 = .ok (.iconst 0, 1) := by decide +kernel
theorem dX1_areMates_20 : decode cX1_areMates 20 = .ok (.ireturn, 1) := by decide +kernel
abbrev cX2_endX : ByteArray := prog_4_method_7_code
def yX2_endX : MethodName := ⟨RX2, "endX", "(I)J"⟩
def wsX2_endX : List Cond := .code yX2_endX cX2_endX 2 (some .long) :: bT
theorem dX2_endX_0 : decode cX2_endX 0 = .ok (.aload_n 0, 1) := by decide +kernel
theorem dX2_endX_1 : decode cX2_endX 1 = .ok (.getfield 9, 3) := by decide +kernel
theorem dX2_endX_4 : decode cX2_endX 4 = .ok (.iload_n 1, 1) := by decide +kernel
theorem dX2_endX_5 : decode cX2_endX 5 = .ok (.laload, 1) := by decide +kernel
theorem dX2_endX_6 : decode cX2_endX 6 = .ok (.aload_n 0, 1) := by decide +kernel
theorem dX2_endX_7 : decode cX2_endX 7 = .ok (.getfield 18, 3) := by decide +kernel
theorem dX2_endX_10 : decode cX2_endX 10 = .ok (.iload_n 1, 1) := by decide +kernel
theorem dX2_endX_11 : decode cX2_endX 11 = .ok (.iaload, 1) := by decide +kernel
theorem dX2_endX_12 : decode cX2_endX 12 = .ok (.iconst 2, 1) := by decide +kernel
theorem dX2_endX_13 : decode cX2_endX 13 = .ok (.irem, 1) := by decide +kernel
theorem dX2_endX_14 : decode cX2_endX 14 = .ok (.ifCond .ne (15), 3) := by decide +kernel
theorem dX2_endX_17 : decode cX2_endX 17 = .ok (.aload_n 0, 1) := by decide +kernel
theorem dX2_endX_18 : decode cX2_endX 18 = .ok (.getfield 26, 3) := by decide +kernel
theorem dX2_endX_21 : decode cX2_endX 21 = .ok (.getfield 40, 3) := by decide +kernel
theorem dX2_endX_24 : decode cX2_endX 24 = .ok (.iload_n 1, 1) := by decide +kernel
theorem dX2_endX_25 : decode cX2_endX 25 = .ok (.laload, 1) := by decide +kernel
theorem dX2_endX_26 : decode cX2_endX 26 = .ok (.goto (12), 3) := by decide +kernel
theorem dX2_endX_29 : decode cX2_endX 29 = .ok (.aload_n 0, 1) := by decide +kernel
theorem dX2_endX_30 : decode cX2_endX 30 = .ok (.getfield 26, 3) := by decide +kernel
theorem dX2_endX_33 : decode cX2_endX 33 = .ok (.getfield 43, 3) := by decide +kernel
theorem dX2_endX_36 : decode cX2_endX 36 = .ok (.iload_n 1, 1) := by decide +kernel
theorem dX2_endX_37 : decode cX2_endX 37 = .ok (.laload, 1) := by decide +kernel
theorem dX2_endX_38 : decode cX2_endX 38 = .ok (.ladd, 1) := by decide +kernel
theorem dX2_endX_39 : decode cX2_endX 39 = .ok (.lreturn, 1) := by decide +kernel
abbrev cX2_endY : ByteArray := prog_4_method_8_code
def yX2_endY : MethodName := ⟨RX2, "endY", "(I)J"⟩
def wsX2_endY : List Cond := .code yX2_endY cX2_endY 2 (some .long) :: bT
theorem dX2_endY_0 : decode cX2_endY 0 = .ok (.aload_n 0, 1) := by decide +kernel
theorem dX2_endY_1 : decode cX2_endY 1 = .ok (.getfield 15, 3) := by decide +kernel
theorem dX2_endY_4 : decode cX2_endY 4 = .ok (.iload_n 1, 1) := by decide +kernel
theorem dX2_endY_5 : decode cX2_endY 5 = .ok (.laload, 1) := by decide +kernel
theorem dX2_endY_6 : decode cX2_endY 6 = .ok (.aload_n 0, 1) := by decide +kernel
theorem dX2_endY_7 : decode cX2_endY 7 = .ok (.getfield 18, 3) := by decide +kernel
theorem dX2_endY_10 : decode cX2_endY 10 = .ok (.iload_n 1, 1) := by decide +kernel
theorem dX2_endY_11 : decode cX2_endY 11 = .ok (.iaload, 1) := by decide +kernel
theorem dX2_endY_12 : decode cX2_endY 12 = .ok (.iconst 2, 1) := by decide +kernel
theorem dX2_endY_13 : decode cX2_endY 13 = .ok (.irem, 1) := by decide +kernel
theorem dX2_endY_14 : decode cX2_endY 14 = .ok (.ifCond .ne (15), 3) := by decide +kernel
theorem dX2_endY_17 : decode cX2_endY 17 = .ok (.aload_n 0, 1) := by decide +kernel
theorem dX2_endY_18 : decode cX2_endY 18 = .ok (.getfield 26, 3) := by decide +kernel
theorem dX2_endY_21 : decode cX2_endY 21 = .ok (.getfield 43, 3) := by decide +kernel
theorem dX2_endY_24 : decode cX2_endY 24 = .ok (.iload_n 1, 1) := by decide +kernel
theorem dX2_endY_25 : decode cX2_endY 25 = .ok (.laload, 1) := by decide +kernel
theorem dX2_endY_26 : decode cX2_endY 26 = .ok (.goto (12), 3) := by decide +kernel
theorem dX2_endY_29 : decode cX2_endY 29 = .ok (.aload_n 0, 1) := by decide +kernel
theorem dX2_endY_30 : decode cX2_endY 30 = .ok (.getfield 26, 3) := by decide +kernel
theorem dX2_endY_33 : decode cX2_endY 33 = .ok (.getfield 40, 3) := by decide +kernel
theorem dX2_endY_36 : decode cX2_endY 36 = .ok (.iload_n 1, 1) := by decide +kernel
theorem dX2_endY_37 : decode cX2_endY 37 = .ok (.laload, 1) := by decide +kernel
theorem dX2_endY_38 : decode cX2_endY 38 = .ok (.ladd, 1) := by decide +kernel
theorem dX2_endY_39 : decode cX2_endY 39 = .ok (.lreturn, 1) := by decide +kernel
abbrev cX2_meetsArea : ByteArray := prog_4_method_9_code
def yX2_meetsArea : MethodName := ⟨RX2, "meetsArea", "(IJJJJ)Z"⟩
def wsX2_meetsArea : List Cond := .code yX2_meetsArea cX2_meetsArea 10 (some .boolean) :: bT
theorem dX2_meetsArea_0 : decode cX2_meetsArea 0 = .ok (.aload_n 0, 1) := by decide +kernel
theorem dX2_meetsArea_1 : decode cX2_meetsArea 1 = .ok (.getfield 22, 3) := by decide +kernel
theorem dX2_meetsArea_4 : decode cX2_meetsArea 4 = .ok (.iload_n 1, 1) := by decide +kernel
theorem dX2_meetsArea_5 : decode cX2_meetsArea 5 = .ok (.baload, 1) := by decide +kernel
theorem dX2_meetsArea_6 : decode cX2_meetsArea 6 = .ok (.ifCond .eq (52), 3) := by decide +kernel
theorem dX2_meetsArea_9 : decode cX2_meetsArea 9 = .ok (.aload_n 0, 1) := by decide +kernel
theorem dX2_meetsArea_10 : decode cX2_meetsArea 10 = .ok (.getfield 9, 3) := by decide +kernel
theorem dX2_meetsArea_13 : decode cX2_meetsArea 13 = .ok (.iload_n 1, 1) := by decide +kernel
theorem dX2_meetsArea_14 : decode cX2_meetsArea 14 = .ok (.laload, 1) := by decide +kernel
theorem dX2_meetsArea_15 : decode cX2_meetsArea 15 = .ok (.lload 6, 2) := by decide +kernel
theorem dX2_meetsArea_17 : decode cX2_meetsArea 17 = .ok (.lcmp, 1) := by decide +kernel
theorem dX2_meetsArea_18 : decode cX2_meetsArea 18 = .ok (.ifCond .ge (40), 3) := by decide +kernel
theorem dX2_meetsArea_21 : decode cX2_meetsArea 21 = .ok (.lload_n 2, 1) := by decide +kernel
theorem dX2_meetsArea_22 : decode cX2_meetsArea 22 = .ok (.aload_n 0, 1) := by decide +kernel
theorem dX2_meetsArea_23 : decode cX2_meetsArea 23 = .ok (.iload_n 1, 1) := by decide +kernel
theorem dX2_meetsArea_24 : decode cX2_meetsArea 24 = .ok (.invokevirtual 46, 3) := by decide +kernel
theorem dX2_meetsArea_27 : decode cX2_meetsArea 27 = .ok (.lcmp, 1) := by decide +kernel
theorem dX2_meetsArea_28 : decode cX2_meetsArea 28 = .ok (.ifCond .ge (30), 3) := by decide +kernel
theorem dX2_meetsArea_31 : decode cX2_meetsArea 31 = .ok (.aload_n 0, 1) := by decide +kernel
theorem dX2_meetsArea_32 : decode cX2_meetsArea 32 = .ok (.getfield 15, 3) := by decide +kernel
theorem dX2_meetsArea_35 : decode cX2_meetsArea 35 = .ok (.iload_n 1, 1) := by decide +kernel
theorem dX2_meetsArea_36 : decode cX2_meetsArea 36 = .ok (.laload, 1) := by decide +kernel
theorem dX2_meetsArea_37 : decode cX2_meetsArea 37 = .ok (.lload 8, 2) := by decide +kernel
theorem dX2_meetsArea_39 : decode cX2_meetsArea 39 = .ok (.lcmp, 1) := by decide +kernel
theorem dX2_meetsArea_40 : decode cX2_meetsArea 40 = .ok (.ifCond .ge (18), 3) := by decide +kernel
theorem dX2_meetsArea_43 : decode cX2_meetsArea 43 = .ok (.lload 4, 2) := by decide +kernel
theorem dX2_meetsArea_45 : decode cX2_meetsArea 45 = .ok (.aload_n 0, 1) := by decide +kernel
theorem dX2_meetsArea_46 : decode cX2_meetsArea 46 = .ok (.iload_n 1, 1) := by decide +kernel
theorem dX2_meetsArea_47 : decode cX2_meetsArea 47 = .ok (.invokevirtual 50, 3) := by decide +kernel
theorem dX2_meetsArea_50 : decode cX2_meetsArea 50 = .ok (.lcmp, 1) := by decide +kernel
theorem dX2_meetsArea_51 : decode cX2_meetsArea 51 = .ok (.ifCond .ge (7), 3) := by decide +kernel
theorem dX2_meetsArea_54 : decode cX2_meetsArea 54 = .ok (.iconst 1, 1) := by decide +kernel
theorem dX2_meetsArea_55 : decode cX2_meetsArea 55 = .ok (.goto (4), 3) := by decide +kernel
theorem dX2_meetsArea_58 : decode cX2_meetsArea 58 = .ok (.iconst 0, 1) := by decide +kernel
theorem dX2_meetsArea_59 : decode cX2_meetsArea 59 = .ok (.ireturn, 1) := by decide +kernel
abbrev cX2_overlapped : ByteArray := prog_4_method_10_code
def yX2_overlapped : MethodName := ⟨RX2, "overlapped", "(II)I"⟩
def wsX2_overlapped : List Cond := .code yX2_overlapped cX2_overlapped 8 (some .int) :: bT
theorem dX2_overlapped_0 : decode cX2_overlapped 0 = .ok (.aload_n 0, 1) := by decide +kernel
theorem dX2_overlapped_1 : decode cX2_overlapped 1 = .ok (.iload_n 1, 1) := by decide +kernel
theorem dX2_overlapped_2 : decode cX2_overlapped 2 = .ok (.invokevirtual 46, 3) := by decide +kernel
theorem dX2_overlapped_5 : decode cX2_overlapped 5 = .ok (.lstore_n 3, 1) := by decide +kernel
theorem dX2_overlapped_6 : decode cX2_overlapped 6 = .ok (.aload_n 0, 1) := by decide +kernel
theorem dX2_overlapped_7 : decode cX2_overlapped 7 = .ok (.iload_n 1, 1) := by decide +kernel
theorem dX2_overlapped_8 : decode cX2_overlapped 8 = .ok (.invokevirtual 50, 3) := by decide +kernel
theorem dX2_overlapped_11 : decode cX2_overlapped 11 = .ok (.lstore 5, 2) := by decide +kernel
theorem dX2_overlapped_13 : decode cX2_overlapped 13 = .ok (.iload_n 2, 1) := by decide +kernel
theorem dX2_overlapped_14 : decode cX2_overlapped 14 = .ok (.istore 7, 2) := by decide +kernel
theorem dX2_overlapped_16 : decode cX2_overlapped 16 = .ok (.iload 7, 2) := by decide +kernel
theorem dX2_overlapped_18 : decode cX2_overlapped 18 = .ok (.aload_n 0, 1) := by decide +kernel
theorem dX2_overlapped_19 : decode cX2_overlapped 19 = .ok (.getfield 26, 3) := by decide +kernel
theorem dX2_overlapped_22 : decode cX2_overlapped 22 = .ok (.getfield 30, 3) := by decide +kernel
theorem dX2_overlapped_25 : decode cX2_overlapped 25 = .ok (.if_icmp .ge (64), 3) := by decide +kernel
theorem dX2_overlapped_28 : decode cX2_overlapped 28 = .ok (.iload 7, 2) := by decide +kernel
theorem dX2_overlapped_30 : decode cX2_overlapped 30 = .ok (.iload_n 1, 1) := by decide +kernel
theorem dX2_overlapped_31 : decode cX2_overlapped 31 = .ok (.if_icmp .eq (52), 3) := by decide +kernel
theorem dX2_overlapped_34 : decode cX2_overlapped 34 = .ok (.aload_n 0, 1) := by decide +kernel
theorem dX2_overlapped_35 : decode cX2_overlapped 35 = .ok (.getfield 26, 3) := by decide +kernel
theorem dX2_overlapped_38 : decode cX2_overlapped 38 = .ok (.getfield 53, 3) := by decide +kernel
theorem dX2_overlapped_41 : decode cX2_overlapped 41 = .ok (.iload 7, 2) := by decide +kernel
theorem dX2_overlapped_43 : decode cX2_overlapped 43 = .ok (.iaload, 1) := by decide +kernel
theorem dX2_overlapped_44 : decode cX2_overlapped 44 = .ok (.aload_n 0, 1) := by decide +kernel
theorem dX2_overlapped_45 : decode cX2_overlapped 45 = .ok (.getfield 26, 3) := by decide +kernel
theorem dX2_overlapped_48 : decode cX2_overlapped 48 = .ok (.getfield 53, 3) := by decide +kernel
theorem dX2_overlapped_51 : decode cX2_overlapped 51 = .ok (.iload_n 1, 1) := by decide +kernel
theorem dX2_overlapped_52 : decode cX2_overlapped 52 = .ok (.iaload, 1) := by decide +kernel
theorem dX2_overlapped_53 : decode cX2_overlapped 53 = .ok (.if_icmp .ne (30), 3) := by decide +kernel
theorem dX2_overlapped_56 : decode cX2_overlapped 56 = .ok (.aload_n 0, 1) := by decide +kernel
theorem dX2_overlapped_57 : decode cX2_overlapped 57 = .ok (.iload 7, 2) := by decide +kernel
theorem dX2_overlapped_59 : decode cX2_overlapped 59 = .ok (.aload_n 0, 1) := by decide +kernel
theorem dX2_overlapped_60 : decode cX2_overlapped 60 = .ok (.getfield 9, 3) := by decide +kernel
theorem dX2_overlapped_63 : decode cX2_overlapped 63 = .ok (.iload_n 1, 1) := by decide +kernel
theorem dX2_overlapped_64 : decode cX2_overlapped 64 = .ok (.laload, 1) := by decide +kernel
theorem dX2_overlapped_65 : decode cX2_overlapped 65 = .ok (.aload_n 0, 1) := by decide +kernel
theorem dX2_overlapped_66 : decode cX2_overlapped 66 = .ok (.getfield 15, 3) := by decide +kernel
theorem dX2_overlapped_69 : decode cX2_overlapped 69 = .ok (.iload_n 1, 1) := by decide +kernel
theorem dX2_overlapped_70 : decode cX2_overlapped 70 = .ok (.laload, 1) := by decide +kernel
theorem dX2_overlapped_71 : decode cX2_overlapped 71 = .ok (.lload_n 3, 1) := by decide +kernel
theorem dX2_overlapped_72 : decode cX2_overlapped 72 = .ok (.lload 5, 2) := by decide +kernel
theorem dX2_overlapped_74 : decode cX2_overlapped 74 = .ok (.invokevirtual 56, 3) := by decide +kernel
theorem dX2_overlapped_77 : decode cX2_overlapped 77 = .ok (.ifCond .eq (6), 3) := by decide +kernel
theorem dX2_overlapped_80 : decode cX2_overlapped 80 = .ok (.iload 7, 2) := by decide +kernel
theorem dX2_overlapped_82 : decode cX2_overlapped 82 = .ok (.ireturn, 1) := by decide +kernel
theorem dX2_overlapped_83 : decode cX2_overlapped 83 = .ok (.iinc 7 1, 3) := by decide +kernel
theorem dX2_overlapped_86 : decode cX2_overlapped 86 = .ok (.goto (-70), 3) := by decide +kernel
theorem dX2_overlapped_89 : decode cX2_overlapped 89 = .ok (.iconst (-1), 1) := by decide +kernel
theorem dX2_overlapped_90 : decode cX2_overlapped 90 = .ok (.ireturn, 1) := by decide +kernel
abbrev cX2_firstOverlapping : ByteArray := prog_4_method_11_code
def yX2_firstOverlapping : MethodName := ⟨RX2, "firstOverlapping", "()I"⟩
def wsX2_firstOverlapping : List Cond := .code yX2_firstOverlapping cX2_firstOverlapping 2 (some .int) :: bT
theorem dX2_firstOverlapping_0 : decode cX2_firstOverlapping 0 = .ok (.iconst 0, 1) := by decide +kernel
theorem dX2_firstOverlapping_1 : decode cX2_firstOverlapping 1 = .ok (.istore_n 1, 1) := by decide +kernel
theorem dX2_firstOverlapping_2 : decode cX2_firstOverlapping 2 = .ok (.iload_n 1, 1) := by decide +kernel
theorem dX2_firstOverlapping_3 : decode cX2_firstOverlapping 3 = .ok (.aload_n 0, 1) := by decide +kernel
theorem dX2_firstOverlapping_4 : decode cX2_firstOverlapping 4 = .ok (.getfield 26, 3) := by decide +kernel
theorem dX2_firstOverlapping_7 : decode cX2_firstOverlapping 7 = .ok (.getfield 30, 3) := by decide +kernel
theorem dX2_firstOverlapping_10 : decode cX2_firstOverlapping 10 = .ok (.if_icmp .ge (32), 3) := by decide +kernel
theorem dX2_firstOverlapping_13 : decode cX2_firstOverlapping 13 = .ok (.aload_n 0, 1) := by decide +kernel
theorem dX2_firstOverlapping_14 : decode cX2_firstOverlapping 14 = .ok (.getfield 22, 3) := by decide +kernel
theorem dX2_firstOverlapping_17 : decode cX2_firstOverlapping 17 = .ok (.iload_n 1, 1) := by decide +kernel
theorem dX2_firstOverlapping_18 : decode cX2_firstOverlapping 18 = .ok (.baload, 1) := by decide +kernel
theorem dX2_firstOverlapping_19 : decode cX2_firstOverlapping 19 = .ok (.ifCond .eq (17), 3) := by decide +kernel
theorem dX2_firstOverlapping_22 : decode cX2_firstOverlapping 22 = .ok (.aload_n 0, 1) := by decide +kernel
theorem dX2_firstOverlapping_23 : decode cX2_firstOverlapping 23 = .ok (.iload_n 1, 1) := by decide +kernel
theorem dX2_firstOverlapping_24 : decode cX2_firstOverlapping 24 = .ok (.iload_n 1, 1) := by decide +kernel
theorem dX2_firstOverlapping_25 : decode cX2_firstOverlapping 25 = .ok (.iconst 1, 1) := by decide +kernel
theorem dX2_firstOverlapping_26 : decode cX2_firstOverlapping 26 = .ok (.iadd, 1) := by decide +kernel
theorem dX2_firstOverlapping_27 : decode cX2_firstOverlapping 27 = .ok (.invokevirtual 60, 3) := by decide +kernel
theorem dX2_firstOverlapping_30 : decode cX2_firstOverlapping 30 = .ok (.iconst (-1), 1) := by decide +kernel
theorem dX2_firstOverlapping_31 : decode cX2_firstOverlapping 31 = .ok (.if_icmp .eq (5), 3) := by decide +kernel
theorem dX2_firstOverlapping_34 : decode cX2_firstOverlapping 34 = .ok (.iload_n 1, 1) := by decide +kernel
theorem dX2_firstOverlapping_35 : decode cX2_firstOverlapping 35 = .ok (.ireturn, 1) := by decide +kernel
theorem dX2_firstOverlapping_36 : decode cX2_firstOverlapping 36 = .ok (.iinc 1 1, 3) := by decide +kernel
theorem dX2_firstOverlapping_39 : decode cX2_firstOverlapping 39 = .ok (.goto (-37), 3) := by decide +kernel
theorem dX2_firstOverlapping_42 : decode cX2_firstOverlapping 42 = .ok (.iconst (-1), 1) := by decide +kernel
theorem dX2_firstOverlapping_43 : decode cX2_firstOverlapping 43 = .ok (.ireturn, 1) := by decide +kernel
abbrev cX2_hasPlacedMate : ByteArray := prog_4_method_6_code
def yX2_hasPlacedMate : MethodName := ⟨RX2, "hasPlacedMate", "(I)Z"⟩
def wsX2_hasPlacedMate : List Cond := .code yX2_hasPlacedMate cX2_hasPlacedMate 3 (some .boolean) :: bT
theorem dX2_hasPlacedMate_0 : decode cX2_hasPlacedMate 0 = .ok (.iconst 0, 1) := by decide +kernel
theorem dX2_hasPlacedMate_1 : decode cX2_hasPlacedMate 1 = .ok (.istore_n 2, 1) := by decide +kernel
theorem dX2_hasPlacedMate_2 : decode cX2_hasPlacedMate 2 = .ok (.iload_n 2, 1) := by decide +kernel
theorem dX2_hasPlacedMate_3 : decode cX2_hasPlacedMate 3 = .ok (.aload_n 0, 1) := by decide +kernel
theorem dX2_hasPlacedMate_4 : decode cX2_hasPlacedMate 4 = .ok (.getfield 26, 3) := by decide +kernel
theorem dX2_hasPlacedMate_7 : decode cX2_hasPlacedMate 7 = .ok (.getfield 30, 3) := by decide +kernel
theorem dX2_hasPlacedMate_10 : decode cX2_hasPlacedMate 10 = .ok (.if_icmp .ge (37), 3) := by decide +kernel
theorem dX2_hasPlacedMate_13 : decode cX2_hasPlacedMate 13 = .ok (.iload_n 2, 1) := by decide +kernel
theorem dX2_hasPlacedMate_14 : decode cX2_hasPlacedMate 14 = .ok (.iload_n 1, 1) := by decide +kernel
theorem dX2_hasPlacedMate_15 : decode cX2_hasPlacedMate 15 = .ok (.if_icmp .eq (26), 3) := by decide +kernel
theorem dX2_hasPlacedMate_18 : decode cX2_hasPlacedMate 18 = .ok (.aload_n 0, 1) := by decide +kernel
theorem dX2_hasPlacedMate_19 : decode cX2_hasPlacedMate 19 = .ok (.getfield 22, 3) := by decide +kernel
theorem dX2_hasPlacedMate_22 : decode cX2_hasPlacedMate 22 = .ok (.iload_n 2, 1) := by decide +kernel
theorem dX2_hasPlacedMate_23 : decode cX2_hasPlacedMate 23 = .ok (.baload, 1) := by decide +kernel
theorem dX2_hasPlacedMate_24 : decode cX2_hasPlacedMate 24 = .ok (.ifCond .eq (17), 3) := by decide +kernel
theorem dX2_hasPlacedMate_27 : decode cX2_hasPlacedMate 27 = .ok (.aload_n 0, 1) := by decide +kernel
theorem dX2_hasPlacedMate_28 : decode cX2_hasPlacedMate 28 = .ok (.getfield 26, 3) := by decide +kernel
theorem dX2_hasPlacedMate_31 : decode cX2_hasPlacedMate 31 = .ok (.iload_n 2, 1) := by decide +kernel
theorem dX2_hasPlacedMate_32 : decode cX2_hasPlacedMate 32 = .ok (.iload_n 1, 1) := by decide +kernel
theorem dX2_hasPlacedMate_33 : decode cX2_hasPlacedMate 33 = .ok (.invokevirtual 36, 3) := by decide +kernel
theorem dX2_hasPlacedMate_36 : decode cX2_hasPlacedMate 36 = .ok (.ifCond .eq (5), 3) := by decide +kernel
theorem dX2_hasPlacedMate_39 : decode cX2_hasPlacedMate 39 = .ok (.iconst 1, 1) := by decide +kernel
theorem dX2_hasPlacedMate_40 : decode cX2_hasPlacedMate 40 = .ok (.ireturn, 1) := by decide +kernel
theorem dX2_hasPlacedMate_41 : decode cX2_hasPlacedMate 41 = .ok (.iinc 2 1, 3) := by decide +kernel
theorem dX2_hasPlacedMate_44 : decode cX2_hasPlacedMate 44 = .ok (.goto (-42), 3) := by decide +kernel
theorem dX2_hasPlacedMate_47 : decode cX2_hasPlacedMate 47 = .ok (.iconst 0, 1) := by decide +kernel
theorem dX2_hasPlacedMate_48 : decode cX2_hasPlacedMate 48 = .ok (.ireturn, 1) := by decide +kernel
abbrev cX2_differs : ByteArray := prog_4_method_3_code
def yX2_differs : MethodName := ⟨RX2, "differs", "(LBoardMoves$Placement;I)Z"⟩
def wsX2_differs : List Cond := .code yX2_differs cX2_differs 3 (some .boolean) :: bT
theorem dX2_differs_0 : decode cX2_differs 0 = .ok (.aload_n 0, 1) := by decide +kernel
theorem dX2_differs_1 : decode cX2_differs 1 = .ok (.getfield 9, 3) := by decide +kernel
theorem dX2_differs_4 : decode cX2_differs 4 = .ok (.iload_n 2, 1) := by decide +kernel
theorem dX2_differs_5 : decode cX2_differs 5 = .ok (.laload, 1) := by decide +kernel
theorem dX2_differs_6 : decode cX2_differs 6 = .ok (.aload_n 1, 1) := by decide +kernel
theorem dX2_differs_7 : decode cX2_differs 7 = .ok (.getfield 9, 3) := by decide +kernel
theorem dX2_differs_10 : decode cX2_differs 10 = .ok (.iload_n 2, 1) := by decide +kernel
theorem dX2_differs_11 : decode cX2_differs 11 = .ok (.laload, 1) := by decide +kernel
theorem dX2_differs_12 : decode cX2_differs 12 = .ok (.lcmp, 1) := by decide +kernel
theorem dX2_differs_13 : decode cX2_differs 13 = .ok (.ifCond .ne (49), 3) := by decide +kernel
theorem dX2_differs_16 : decode cX2_differs 16 = .ok (.aload_n 0, 1) := by decide +kernel
theorem dX2_differs_17 : decode cX2_differs 17 = .ok (.getfield 15, 3) := by decide +kernel
theorem dX2_differs_20 : decode cX2_differs 20 = .ok (.iload_n 2, 1) := by decide +kernel
theorem dX2_differs_21 : decode cX2_differs 21 = .ok (.laload, 1) := by decide +kernel
theorem dX2_differs_22 : decode cX2_differs 22 = .ok (.aload_n 1, 1) := by decide +kernel
theorem dX2_differs_23 : decode cX2_differs 23 = .ok (.getfield 15, 3) := by decide +kernel
theorem dX2_differs_26 : decode cX2_differs 26 = .ok (.iload_n 2, 1) := by decide +kernel
theorem dX2_differs_27 : decode cX2_differs 27 = .ok (.laload, 1) := by decide +kernel
theorem dX2_differs_28 : decode cX2_differs 28 = .ok (.lcmp, 1) := by decide +kernel
theorem dX2_differs_29 : decode cX2_differs 29 = .ok (.ifCond .ne (33), 3) := by decide +kernel
theorem dX2_differs_32 : decode cX2_differs 32 = .ok (.aload_n 0, 1) := by decide +kernel
theorem dX2_differs_33 : decode cX2_differs 33 = .ok (.getfield 18, 3) := by decide +kernel
theorem dX2_differs_36 : decode cX2_differs 36 = .ok (.iload_n 2, 1) := by decide +kernel
theorem dX2_differs_37 : decode cX2_differs 37 = .ok (.iaload, 1) := by decide +kernel
theorem dX2_differs_38 : decode cX2_differs 38 = .ok (.aload_n 1, 1) := by decide +kernel
theorem dX2_differs_39 : decode cX2_differs 39 = .ok (.getfield 18, 3) := by decide +kernel
theorem dX2_differs_42 : decode cX2_differs 42 = .ok (.iload_n 2, 1) := by decide +kernel
theorem dX2_differs_43 : decode cX2_differs 43 = .ok (.iaload, 1) := by decide +kernel
theorem dX2_differs_44 : decode cX2_differs 44 = .ok (.if_icmp .ne (18), 3) := by decide +kernel
theorem dX2_differs_47 : decode cX2_differs 47 = .ok (.aload_n 0, 1) := by decide +kernel
theorem dX2_differs_48 : decode cX2_differs 48 = .ok (.getfield 22, 3) := by decide +kernel
theorem dX2_differs_51 : decode cX2_differs 51 = .ok (.iload_n 2, 1) := by decide +kernel
theorem dX2_differs_52 : decode cX2_differs 52 = .ok (.baload, 1) := by decide +kernel
theorem dX2_differs_53 : decode cX2_differs 53 = .ok (.aload_n 1, 1) := by decide +kernel
theorem dX2_differs_54 : decode cX2_differs 54 = .ok (.getfield 22, 3) := by decide +kernel
theorem dX2_differs_57 : decode cX2_differs 57 = .ok (.iload_n 2, 1) := by decide +kernel
theorem dX2_differs_58 : decode cX2_differs 58 = .ok (.baload, 1) := by decide +kernel
theorem dX2_differs_59 : decode cX2_differs 59 = .ok (.if_icmp .eq (7), 3) := by decide +kernel
theorem dX2_differs_62 : decode cX2_differs 62 = .ok (.iconst 1, 1) := by decide +kernel
theorem dX2_differs_63 : decode cX2_differs 63 = .ok (.goto (4), 3) := by decide +kernel
theorem dX2_differs_66 : decode cX2_differs 66 = .ok (.iconst 0, 1) := by decide +kernel
theorem dX2_differs_67 : decode cX2_differs 67 = .ok (.ireturn, 1) := by decide +kernel
abbrev cX2_wayToBorder : ByteArray := prog_4_method_12_code
def yX2_wayToBorder : MethodName := ⟨RX2, "wayToBorder", "(IIZZ)J"⟩
def wsX2_wayToBorder : List Cond := .code yX2_wayToBorder cX2_wayToBorder 5 (some .long) :: bT
theorem dX2_wayToBorder_0 : decode cX2_wayToBorder 0 = .ok (.iload_n 3, 1) := by decide +kernel
theorem dX2_wayToBorder_1 : decode cX2_wayToBorder 1 = .ok (.ifCond .eq (36), 3) := by decide +kernel
theorem dX2_wayToBorder_4 : decode cX2_wayToBorder 4 = .ok (.iload 4, 2) := by decide +kernel
theorem dX2_wayToBorder_6 : decode cX2_wayToBorder 6 = .ok (.ifCond .eq (18), 3) := by decide +kernel
theorem dX2_wayToBorder_9 : decode cX2_wayToBorder 9 = .ok (.aload_n 0, 1) := by decide +kernel
theorem dX2_wayToBorder_10 : decode cX2_wayToBorder 10 = .ok (.iload_n 2, 1) := by decide +kernel
theorem dX2_wayToBorder_11 : decode cX2_wayToBorder 11 = .ok (.invokevirtual 46, 3) := by decide +kernel
theorem dX2_wayToBorder_14 : decode cX2_wayToBorder 14 = .ok (.aload_n 0, 1) := by decide +kernel
theorem dX2_wayToBorder_15 : decode cX2_wayToBorder 15 = .ok (.getfield 9, 3) := by decide +kernel
theorem dX2_wayToBorder_18 : decode cX2_wayToBorder 18 = .ok (.iload_n 1, 1) := by decide +kernel
theorem dX2_wayToBorder_19 : decode cX2_wayToBorder 19 = .ok (.laload, 1) := by decide +kernel
theorem dX2_wayToBorder_20 : decode cX2_wayToBorder 20 = .ok (.lsub, 1) := by decide +kernel
theorem dX2_wayToBorder_21 : decode cX2_wayToBorder 21 = .ok (.goto (15), 3) := by decide +kernel
theorem dX2_wayToBorder_24 : decode cX2_wayToBorder 24 = .ok (.aload_n 0, 1) := by decide +kernel
theorem dX2_wayToBorder_25 : decode cX2_wayToBorder 25 = .ok (.getfield 9, 3) := by decide +kernel
theorem dX2_wayToBorder_28 : decode cX2_wayToBorder 28 = .ok (.iload_n 2, 1) := by decide +kernel
theorem dX2_wayToBorder_29 : decode cX2_wayToBorder 29 = .ok (.laload, 1) := by decide +kernel
theorem dX2_wayToBorder_30 : decode cX2_wayToBorder 30 = .ok (.aload_n 0, 1) := by decide +kernel
theorem dX2_wayToBorder_31 : decode cX2_wayToBorder 31 = .ok (.iload_n 1, 1) := by decide +kernel
theorem dX2_wayToBorder_32 : decode cX2_wayToBorder 32 = .ok (.invokevirtual 46, 3) := by decide +kernel
theorem dX2_wayToBorder_35 : decode cX2_wayToBorder 35 = .ok (.lsub, 1) := by decide +kernel
theorem dX2_wayToBorder_36 : decode cX2_wayToBorder 36 = .ok (.lreturn, 1) := by decide +kernel
theorem dX2_wayToBorder_37 : decode cX2_wayToBorder 37 = .ok (.iload 4, 2) := by decide +kernel
theorem dX2_wayToBorder_39 : decode cX2_wayToBorder 39 = .ok (.ifCond .eq (18), 3) := by decide +kernel
theorem dX2_wayToBorder_42 : decode cX2_wayToBorder 42 = .ok (.aload_n 0, 1) := by decide +kernel
theorem dX2_wayToBorder_43 : decode cX2_wayToBorder 43 = .ok (.iload_n 2, 1) := by decide +kernel
theorem dX2_wayToBorder_44 : decode cX2_wayToBorder 44 = .ok (.invokevirtual 50, 3) := by decide +kernel
theorem dX2_wayToBorder_47 : decode cX2_wayToBorder 47 = .ok (.aload_n 0, 1) := by decide +kernel
theorem dX2_wayToBorder_48 : decode cX2_wayToBorder 48 = .ok (.getfield 15, 3) := by decide +kernel
theorem dX2_wayToBorder_51 : decode cX2_wayToBorder 51 = .ok (.iload_n 1, 1) := by decide +kernel
theorem dX2_wayToBorder_52 : decode cX2_wayToBorder 52 = .ok (.laload, 1) := by decide +kernel
theorem dX2_wayToBorder_53 : decode cX2_wayToBorder 53 = .ok (.lsub, 1) := by decide +kernel
theorem dX2_wayToBorder_54 : decode cX2_wayToBorder 54 = .ok (.goto (15), 3) := by decide +kernel
theorem dX2_wayToBorder_57 : decode cX2_wayToBorder 57 = .ok (.aload_n 0, 1) := by decide +kernel
theorem dX2_wayToBorder_58 : decode cX2_wayToBorder 58 = .ok (.getfield 15, 3) := by decide +kernel
theorem dX2_wayToBorder_61 : decode cX2_wayToBorder 61 = .ok (.iload_n 2, 1) := by decide +kernel
theorem dX2_wayToBorder_62 : decode cX2_wayToBorder 62 = .ok (.laload, 1) := by decide +kernel
theorem dX2_wayToBorder_63 : decode cX2_wayToBorder 63 = .ok (.aload_n 0, 1) := by decide +kernel
theorem dX2_wayToBorder_64 : decode cX2_wayToBorder 64 = .ok (.iload_n 1, 1) := by decide +kernel
theorem dX2_wayToBorder_65 : decode cX2_wayToBorder 65 = .ok (.invokevirtual 50, 3) := by decide +kernel
theorem dX2_wayToBorder_68 : decode cX2_wayToBorder 68 = .ok (.lsub, 1) := by decide +kernel
theorem dX2_wayToBorder_69 : decode cX2_wayToBorder 69 = .ok (.lreturn, 1) := by decide +kernel
abbrev cX2_isNear : ByteArray := prog_4_method_13_code
def yX2_isNear : MethodName := ⟨RX2, "isNear", "(IIJ)Z"⟩
def wsX2_isNear : List Cond := .code yX2_isNear cX2_isNear 9 (some .boolean) :: bT
theorem dX2_isNear_0 : decode cX2_isNear 0 = .ok (.aload_n 0, 1) := by decide +kernel
theorem dX2_isNear_1 : decode cX2_isNear 1 = .ok (.getfield 22, 3) := by decide +kernel
theorem dX2_isNear_4 : decode cX2_isNear 4 = .ok (.iload_n 1, 1) := by decide +kernel
theorem dX2_isNear_5 : decode cX2_isNear 5 = .ok (.baload, 1) := by decide +kernel
theorem dX2_isNear_6 : decode cX2_isNear 6 = .ok (.ifCond .eq (12), 3) := by decide +kernel
theorem dX2_isNear_9 : decode cX2_isNear 9 = .ok (.aload_n 0, 1) := by decide +kernel
theorem dX2_isNear_10 : decode cX2_isNear 10 = .ok (.getfield 22, 3) := by decide +kernel
theorem dX2_isNear_13 : decode cX2_isNear 13 = .ok (.iload_n 2, 1) := by decide +kernel
theorem dX2_isNear_14 : decode cX2_isNear 14 = .ok (.baload, 1) := by decide +kernel
theorem dX2_isNear_15 : decode cX2_isNear 15 = .ok (.ifCond .ne (5), 3) := by decide +kernel
theorem dX2_isNear_18 : decode cX2_isNear 18 = .ok (.iconst 1, 1) := by decide +kernel
theorem dX2_isNear_19 : decode cX2_isNear 19 = .ok (.ireturn, 1) := by decide +kernel
theorem dX2_isNear_20 : decode cX2_isNear 20 = .ok (.aload_n 0, 1) := by decide +kernel
theorem dX2_isNear_21 : decode cX2_isNear 21 = .ok (.getfield 9, 3) := by decide +kernel
theorem dX2_isNear_24 : decode cX2_isNear 24 = .ok (.iload_n 1, 1) := by decide +kernel
theorem dX2_isNear_25 : decode cX2_isNear 25 = .ok (.laload, 1) := by decide +kernel
theorem dX2_isNear_26 : decode cX2_isNear 26 = .ok (.aload_n 0, 1) := by decide +kernel
theorem dX2_isNear_27 : decode cX2_isNear 27 = .ok (.getfield 9, 3) := by decide +kernel
theorem dX2_isNear_30 : decode cX2_isNear 30 = .ok (.iload_n 2, 1) := by decide +kernel
theorem dX2_isNear_31 : decode cX2_isNear 31 = .ok (.laload, 1) := by decide +kernel
theorem dX2_isNear_32 : decode cX2_isNear 32 = .ok (.invokestatic 64, 3) := by decide +kernel
theorem dX2_isNear_35 : decode cX2_isNear 35 = .ok (.aload_n 0, 1) := by decide +kernel
theorem dX2_isNear_36 : decode cX2_isNear 36 = .ok (.iload_n 1, 1) := by decide +kernel
theorem dX2_isNear_37 : decode cX2_isNear 37 = .ok (.invokevirtual 46, 3) := by decide +kernel
theorem dX2_isNear_40 : decode cX2_isNear 40 = .ok (.aload_n 0, 1) := by decide +kernel
theorem dX2_isNear_41 : decode cX2_isNear 41 = .ok (.iload_n 2, 1) := by decide +kernel
theorem dX2_isNear_42 : decode cX2_isNear 42 = .ok (.invokevirtual 46, 3) := by decide +kernel
theorem dX2_isNear_45 : decode cX2_isNear 45 = .ok (.invokestatic 70, 3) := by decide +kernel
theorem dX2_isNear_48 : decode cX2_isNear 48 = .ok (.lsub, 1) := by decide +kernel
theorem dX2_isNear_49 : decode cX2_isNear 49 = .ok (.lstore 5, 2) := by decide +kernel
theorem dX2_isNear_51 : decode cX2_isNear 51 = .ok (.aload_n 0, 1) := by decide +kernel
theorem dX2_isNear_52 : decode cX2_isNear 52 = .ok (.getfield 15, 3) := by decide +kernel
theorem dX2_isNear_55 : decode cX2_isNear 55 = .ok (.iload_n 1, 1) := by decide +kernel
theorem dX2_isNear_56 : decode cX2_isNear 56 = .ok (.laload, 1) := by decide +kernel
theorem dX2_isNear_57 : decode cX2_isNear 57 = .ok (.aload_n 0, 1) := by decide +kernel
theorem dX2_isNear_58 : decode cX2_isNear 58 = .ok (.getfield 15, 3) := by decide +kernel
theorem dX2_isNear_61 : decode cX2_isNear 61 = .ok (.iload_n 2, 1) := by decide +kernel
theorem dX2_isNear_62 : decode cX2_isNear 62 = .ok (.laload, 1) := by decide +kernel
theorem dX2_isNear_63 : decode cX2_isNear 63 = .ok (.invokestatic 64, 3) := by decide +kernel
theorem dX2_isNear_66 : decode cX2_isNear 66 = .ok (.aload_n 0, 1) := by decide +kernel
theorem dX2_isNear_67 : decode cX2_isNear 67 = .ok (.iload_n 1, 1) := by decide +kernel
theorem dX2_isNear_68 : decode cX2_isNear 68 = .ok (.invokevirtual 50, 3) := by decide +kernel
theorem dX2_isNear_71 : decode cX2_isNear 71 = .ok (.aload_n 0, 1) := by decide +kernel
theorem dX2_isNear_72 : decode cX2_isNear 72 = .ok (.iload_n 2, 1) := by decide +kernel
theorem dX2_isNear_73 : decode cX2_isNear 73 = .ok (.invokevirtual 50, 3) := by decide +kernel
theorem dX2_isNear_76 : decode cX2_isNear 76 = .ok (.invokestatic 70, 3) := by decide +kernel
theorem dX2_isNear_79 : decode cX2_isNear 79 = .ok (.lsub, 1) := by decide +kernel
theorem dX2_isNear_80 : decode cX2_isNear 80 = .ok (.lstore 7, 2) := by decide +kernel
theorem dX2_isNear_82 : decode cX2_isNear 82 = .ok (.lconst 0, 1) := by decide +kernel
theorem dX2_isNear_83 : decode cX2_isNear 83 = .ok (.lload 5, 2) := by decide +kernel
theorem dX2_isNear_85 : decode cX2_isNear 85 = .ok (.invokestatic 64, 3) := by decide +kernel
theorem dX2_isNear_88 : decode cX2_isNear 88 = .ok (.lconst 0, 1) := by decide +kernel
theorem dX2_isNear_89 : decode cX2_isNear 89 = .ok (.lload 7, 2) := by decide +kernel
theorem dX2_isNear_91 : decode cX2_isNear 91 = .ok (.invokestatic 64, 3) := by decide +kernel
theorem dX2_isNear_94 : decode cX2_isNear 94 = .ok (.ladd, 1) := by decide +kernel
theorem dX2_isNear_95 : decode cX2_isNear 95 = .ok (.lload_n 3, 1) := by decide +kernel
theorem dX2_isNear_96 : decode cX2_isNear 96 = .ok (.lcmp, 1) := by decide +kernel
theorem dX2_isNear_97 : decode cX2_isNear 97 = .ok (.ifCond .gt (7), 3) := by decide +kernel
theorem dX2_isNear_100 : decode cX2_isNear 100 = .ok (.iconst 1, 1) := by decide +kernel
theorem dX2_isNear_101 : decode cX2_isNear 101 = .ok (.goto (4), 3) := by decide +kernel
theorem dX2_isNear_104 : decode cX2_isNear 104 = .ok (.iconst 0, 1) := by decide +kernel
theorem dX2_isNear_105 : decode cX2_isNear 105 = .ok (.ireturn, 1) := by decide +kernel
abbrev cX0_isLowEnough : ByteArray := prog_2_method_5_code
def yX0_isLowEnough : MethodName := ⟨RX0, "isLowEnough", "(LBoardMoves$Placement;I)Z"⟩
def wsX0_isLowEnough : List Cond := .code yX0_isLowEnough cX0_isLowEnough 4 (some .boolean) :: bT
theorem dX0_isLowEnough_0 : decode cX0_isLowEnough 0 = .ok (.iconst 0, 1) := by decide +kernel
theorem dX0_isLowEnough_1 : decode cX0_isLowEnough 1 = .ok (.istore_n 3, 1) := by decide +kernel
theorem dX0_isLowEnough_2 : decode cX0_isLowEnough 2 = .ok (.iload_n 3, 1) := by decide +kernel
theorem dX0_isLowEnough_3 : decode cX0_isLowEnough 3 = .ok (.aload_n 0, 1) := by decide +kernel
theorem dX0_isLowEnough_4 : decode cX0_isLowEnough 4 = .ok (.getfield 37, 3) := by decide +kernel
theorem dX0_isLowEnough_7 : decode cX0_isLowEnough 7 = .ok (.if_icmp .ge (62), 3) := by decide +kernel
theorem dX0_isLowEnough_10 : decode cX0_isLowEnough 10 = .ok (.aload_n 0, 1) := by decide +kernel
theorem dX0_isLowEnough_11 : decode cX0_isLowEnough 11 = .ok (.getfield 44, 3) := by decide +kernel
theorem dX0_isLowEnough_14 : decode cX0_isLowEnough 14 = .ok (.getfield 48, 3) := by decide +kernel
theorem dX0_isLowEnough_17 : decode cX0_isLowEnough 17 = .ok (.iload_n 2, 1) := by decide +kernel
theorem dX0_isLowEnough_18 : decode cX0_isLowEnough 18 = .ok (.laload, 1) := by decide +kernel
theorem dX0_isLowEnough_19 : decode cX0_isLowEnough 19 = .ok (.aload_n 0, 1) := by decide +kernel
theorem dX0_isLowEnough_20 : decode cX0_isLowEnough 20 = .ok (.getfield 24, 3) := by decide +kernel
theorem dX0_isLowEnough_23 : decode cX0_isLowEnough 23 = .ok (.iload_n 3, 1) := by decide +kernel
theorem dX0_isLowEnough_24 : decode cX0_isLowEnough 24 = .ok (.laload, 1) := by decide +kernel
theorem dX0_isLowEnough_25 : decode cX0_isLowEnough 25 = .ok (.lcmp, 1) := by decide +kernel
theorem dX0_isLowEnough_26 : decode cX0_isLowEnough 26 = .ok (.ifCond .le (37), 3) := by decide +kernel
theorem dX0_isLowEnough_29 : decode cX0_isLowEnough 29 = .ok (.aload_n 1, 1) := by decide +kernel
theorem dX0_isLowEnough_30 : decode cX0_isLowEnough 30 = .ok (.iload_n 2, 1) := by decide +kernel
theorem dX0_isLowEnough_31 : decode cX0_isLowEnough 31 = .ok (.aload_n 0, 1) := by decide +kernel
theorem dX0_isLowEnough_32 : decode cX0_isLowEnough 32 = .ok (.getfield 9, 3) := by decide +kernel
theorem dX0_isLowEnough_35 : decode cX0_isLowEnough 35 = .ok (.iload_n 3, 1) := by decide +kernel
theorem dX0_isLowEnough_36 : decode cX0_isLowEnough 36 = .ok (.laload, 1) := by decide +kernel
theorem dX0_isLowEnough_37 : decode cX0_isLowEnough 37 = .ok (.aload_n 0, 1) := by decide +kernel
theorem dX0_isLowEnough_38 : decode cX0_isLowEnough 38 = .ok (.getfield 15, 3) := by decide +kernel
theorem dX0_isLowEnough_41 : decode cX0_isLowEnough 41 = .ok (.iload_n 3, 1) := by decide +kernel
theorem dX0_isLowEnough_42 : decode cX0_isLowEnough 42 = .ok (.laload, 1) := by decide +kernel
theorem dX0_isLowEnough_43 : decode cX0_isLowEnough 43 = .ok (.aload_n 0, 1) := by decide +kernel
theorem dX0_isLowEnough_44 : decode cX0_isLowEnough 44 = .ok (.getfield 18, 3) := by decide +kernel
theorem dX0_isLowEnough_47 : decode cX0_isLowEnough 47 = .ok (.iload_n 3, 1) := by decide +kernel
theorem dX0_isLowEnough_48 : decode cX0_isLowEnough 48 = .ok (.laload, 1) := by decide +kernel
theorem dX0_isLowEnough_49 : decode cX0_isLowEnough 49 = .ok (.aload_n 0, 1) := by decide +kernel
theorem dX0_isLowEnough_50 : decode cX0_isLowEnough 50 = .ok (.getfield 21, 3) := by decide +kernel
theorem dX0_isLowEnough_53 : decode cX0_isLowEnough 53 = .ok (.iload_n 3, 1) := by decide +kernel
theorem dX0_isLowEnough_54 : decode cX0_isLowEnough 54 = .ok (.laload, 1) := by decide +kernel
theorem dX0_isLowEnough_55 : decode cX0_isLowEnough 55 = .ok (.invokevirtual 53, 3) := by decide +kernel
theorem dX0_isLowEnough_58 : decode cX0_isLowEnough 58 = .ok (.ifCond .eq (5), 3) := by decide +kernel
theorem dX0_isLowEnough_61 : decode cX0_isLowEnough 61 = .ok (.iconst 0, 1) := by decide +kernel
theorem dX0_isLowEnough_62 : decode cX0_isLowEnough 62 = .ok (.ireturn, 1) := by decide +kernel
theorem dX0_isLowEnough_63 : decode cX0_isLowEnough 63 = .ok (.iinc 3 1, 3) := by decide +kernel
theorem dX0_isLowEnough_66 : decode cX0_isLowEnough 66 = .ok (.goto (-64), 3) := by decide +kernel
theorem dX0_isLowEnough_69 : decode cX0_isLowEnough 69 = .ok (.iconst 1, 1) := by decide +kernel
theorem dX0_isLowEnough_70 : decode cX0_isLowEnough 70 = .ok (.ireturn, 1) := by decide +kernel
abbrev cX0_isNearEnough : ByteArray := prog_2_method_6_code
def yX0_isNearEnough : MethodName := ⟨RX0, "isNearEnough", "(LBoardMoves$Placement;I)Z"⟩
def wsX0_isNearEnough : List Cond := .code yX0_isNearEnough cX0_isNearEnough 5 (some .boolean) :: bT
theorem dX0_isNearEnough_0 : decode cX0_isNearEnough 0 = .ok (.iconst 0, 1) := by decide +kernel
theorem dX0_isNearEnough_1 : decode cX0_isNearEnough 1 = .ok (.istore_n 3, 1) := by decide +kernel
theorem dX0_isNearEnough_2 : decode cX0_isNearEnough 2 = .ok (.iload_n 3, 1) := by decide +kernel
theorem dX0_isNearEnough_3 : decode cX0_isNearEnough 3 = .ok (.aload_n 0, 1) := by decide +kernel
theorem dX0_isNearEnough_4 : decode cX0_isNearEnough 4 = .ok (.getfield 41, 3) := by decide +kernel
theorem dX0_isNearEnough_7 : decode cX0_isNearEnough 7 = .ok (.if_icmp .ge (68), 3) := by decide +kernel
theorem dX0_isNearEnough_10 : decode cX0_isNearEnough 10 = .ok (.aload_n 0, 1) := by decide +kernel
theorem dX0_isNearEnough_11 : decode cX0_isNearEnough 11 = .ok (.getfield 27, 3) := by decide +kernel
theorem dX0_isNearEnough_14 : decode cX0_isNearEnough 14 = .ok (.iload_n 3, 1) := by decide +kernel
theorem dX0_isNearEnough_15 : decode cX0_isNearEnough 15 = .ok (.iaload, 1) := by decide +kernel
theorem dX0_isNearEnough_16 : decode cX0_isNearEnough 16 = .ok (.iload_n 2, 1) := by decide +kernel
theorem dX0_isNearEnough_17 : decode cX0_isNearEnough 17 = .ok (.if_icmp .eq (13), 3) := by decide +kernel
theorem dX0_isNearEnough_20 : decode cX0_isNearEnough 20 = .ok (.aload_n 0, 1) := by decide +kernel
theorem dX0_isNearEnough_21 : decode cX0_isNearEnough 21 = .ok (.getfield 31, 3) := by decide +kernel
theorem dX0_isNearEnough_24 : decode cX0_isNearEnough 24 = .ok (.iload_n 3, 1) := by decide +kernel
theorem dX0_isNearEnough_25 : decode cX0_isNearEnough 25 = .ok (.iaload, 1) := by decide +kernel
theorem dX0_isNearEnough_26 : decode cX0_isNearEnough 26 = .ok (.iload_n 2, 1) := by decide +kernel
theorem dX0_isNearEnough_27 : decode cX0_isNearEnough 27 = .ok (.if_icmp .ne (7), 3) := by decide +kernel
theorem dX0_isNearEnough_30 : decode cX0_isNearEnough 30 = .ok (.iconst 1, 1) := by decide +kernel
theorem dX0_isNearEnough_31 : decode cX0_isNearEnough 31 = .ok (.goto (4), 3) := by decide +kernel
theorem dX0_isNearEnough_34 : decode cX0_isNearEnough 34 = .ok (.iconst 0, 1) := by decide +kernel
theorem dX0_isNearEnough_35 : decode cX0_isNearEnough 35 = .ok (.istore 4, 2) := by decide +kernel
theorem dX0_isNearEnough_37 : decode cX0_isNearEnough 37 = .ok (.iload 4, 2) := by decide +kernel
theorem dX0_isNearEnough_39 : decode cX0_isNearEnough 39 = .ok (.ifCond .eq (30), 3) := by decide +kernel
theorem dX0_isNearEnough_42 : decode cX0_isNearEnough 42 = .ok (.aload_n 1, 1) := by decide +kernel
theorem dX0_isNearEnough_43 : decode cX0_isNearEnough 43 = .ok (.aload_n 0, 1) := by decide +kernel
theorem dX0_isNearEnough_44 : decode cX0_isNearEnough 44 = .ok (.getfield 27, 3) := by decide +kernel
theorem dX0_isNearEnough_47 : decode cX0_isNearEnough 47 = .ok (.iload_n 3, 1) := by decide +kernel
theorem dX0_isNearEnough_48 : decode cX0_isNearEnough 48 = .ok (.iaload, 1) := by decide +kernel
theorem dX0_isNearEnough_49 : decode cX0_isNearEnough 49 = .ok (.aload_n 0, 1) := by decide +kernel
theorem dX0_isNearEnough_50 : decode cX0_isNearEnough 50 = .ok (.getfield 31, 3) := by decide +kernel
theorem dX0_isNearEnough_53 : decode cX0_isNearEnough 53 = .ok (.iload_n 3, 1) := by decide +kernel
theorem dX0_isNearEnough_54 : decode cX0_isNearEnough 54 = .ok (.iaload, 1) := by decide +kernel
theorem dX0_isNearEnough_55 : decode cX0_isNearEnough 55 = .ok (.aload_n 0, 1) := by decide +kernel
theorem dX0_isNearEnough_56 : decode cX0_isNearEnough 56 = .ok (.getfield 34, 3) := by decide +kernel
theorem dX0_isNearEnough_59 : decode cX0_isNearEnough 59 = .ok (.iload_n 3, 1) := by decide +kernel
theorem dX0_isNearEnough_60 : decode cX0_isNearEnough 60 = .ok (.laload, 1) := by decide +kernel
theorem dX0_isNearEnough_61 : decode cX0_isNearEnough 61 = .ok (.invokevirtual 59, 3) := by decide +kernel
theorem dX0_isNearEnough_64 : decode cX0_isNearEnough 64 = .ok (.ifCond .ne (5), 3) := by decide +kernel
theorem dX0_isNearEnough_67 : decode cX0_isNearEnough 67 = .ok (.iconst 0, 1) := by decide +kernel
theorem dX0_isNearEnough_68 : decode cX0_isNearEnough 68 = .ok (.ireturn, 1) := by decide +kernel
theorem dX0_isNearEnough_69 : decode cX0_isNearEnough 69 = .ok (.iinc 3 1, 3) := by decide +kernel
theorem dX0_isNearEnough_72 : decode cX0_isNearEnough 72 = .ok (.goto (-70), 3) := by decide +kernel
theorem dX0_isNearEnough_75 : decode cX0_isNearEnough 75 = .ok (.iconst 1, 1) := by decide +kernel
theorem dX0_isNearEnough_76 : decode cX0_isNearEnough 76 = .ok (.ireturn, 1) := by decide +kernel
abbrev cX4_isLength : ByteArray := prog_1_method_18_code
def yX4_isLength : MethodName := ⟨RX4, "isLength", "(J)Z"⟩
def wsX4_isLength : List Cond := .code yX4_isLength cX4_isLength 2 (some .boolean) :: bT
theorem dX4_isLength_0 : decode cX4_isLength 0 = .ok (.lload_n 0, 1) := by decide +kernel
theorem dX4_isLength_1 : decode cX4_isLength 1 = .ok (.lconst 1, 1) := by decide +kernel
theorem dX4_isLength_2 : decode cX4_isLength 2 = .ok (.lcmp, 1) := by decide +kernel
theorem dX4_isLength_3 : decode cX4_isLength 3 = .ok (.ifCond .lt (15), 3) := by decide +kernel
theorem dX4_isLength_6 : decode cX4_isLength 6 = .ok (.lload_n 0, 1) := by decide +kernel
theorem dX4_isLength_7 : decode cX4_isLength 7 = .ok (.ldc2_w 51, 3) := by decide +kernel
theorem dX4_isLength_10 : decode cX4_isLength 10 = .ok (.lcmp, 1) := by decide +kernel
theorem dX4_isLength_11 : decode cX4_isLength 11 = .ok (.ifCond .gt (7), 3) := by decide +kernel
theorem dX4_isLength_14 : decode cX4_isLength 14 = .ok (.iconst 1, 1) := by decide +kernel
theorem dX4_isLength_15 : decode cX4_isLength 15 = .ok (.goto (4), 3) := by decide +kernel
theorem dX4_isLength_18 : decode cX4_isLength 18 = .ok (.iconst 0, 1) := by decide +kernel
theorem dX4_isLength_19 : decode cX4_isLength 19 = .ok (.ireturn, 1) := by decide +kernel
abbrev cX4_fitsBoard : ByteArray := prog_1_method_20_code
def yX4_fitsBoard : MethodName := ⟨RX4, "fitsBoard", "(IJJI)Z"⟩
def wsX4_fitsBoard : List Cond := .code yX4_fitsBoard cX4_fitsBoard 12 (some .boolean) :: bT
theorem dX4_fitsBoard_0 : decode cX4_fitsBoard 0 = .ok (.iload 6, 2) := by decide +kernel
theorem dX4_fitsBoard_2 : decode cX4_fitsBoard 2 = .ok (.iconst 2, 1) := by decide +kernel
theorem dX4_fitsBoard_3 : decode cX4_fitsBoard 3 = .ok (.irem, 1) := by decide +kernel
theorem dX4_fitsBoard_4 : decode cX4_fitsBoard 4 = .ok (.ifCond .ne (7), 3) := by decide +kernel
theorem dX4_fitsBoard_7 : decode cX4_fitsBoard 7 = .ok (.iconst 1, 1) := by decide +kernel
theorem dX4_fitsBoard_8 : decode cX4_fitsBoard 8 = .ok (.goto (4), 3) := by decide +kernel
theorem dX4_fitsBoard_11 : decode cX4_fitsBoard 11 = .ok (.iconst 0, 1) := by decide +kernel
theorem dX4_fitsBoard_12 : decode cX4_fitsBoard 12 = .ok (.istore 7, 2) := by decide +kernel
theorem dX4_fitsBoard_14 : decode cX4_fitsBoard 14 = .ok (.iload 7, 2) := by decide +kernel
theorem dX4_fitsBoard_16 : decode cX4_fitsBoard 16 = .ok (.ifCond .eq (15), 3) := by decide +kernel
theorem dX4_fitsBoard_19 : decode cX4_fitsBoard 19 = .ok (.aload_n 0, 1) := by decide +kernel
theorem dX4_fitsBoard_20 : decode cX4_fitsBoard 20 = .ok (.getfield 12, 3) := by decide +kernel
theorem dX4_fitsBoard_23 : decode cX4_fitsBoard 23 = .ok (.getfield 148, 3) := by decide +kernel
theorem dX4_fitsBoard_26 : decode cX4_fitsBoard 26 = .ok (.iload_n 1, 1) := by decide +kernel
theorem dX4_fitsBoard_27 : decode cX4_fitsBoard 27 = .ok (.laload, 1) := by decide +kernel
theorem dX4_fitsBoard_28 : decode cX4_fitsBoard 28 = .ok (.goto (12), 3) := by decide +kernel
theorem dX4_fitsBoard_31 : decode cX4_fitsBoard 31 = .ok (.aload_n 0, 1) := by decide +kernel
theorem dX4_fitsBoard_32 : decode cX4_fitsBoard 32 = .ok (.getfield 12, 3) := by decide +kernel
theorem dX4_fitsBoard_35 : decode cX4_fitsBoard 35 = .ok (.getfield 151, 3) := by decide +kernel
theorem dX4_fitsBoard_38 : decode cX4_fitsBoard 38 = .ok (.iload_n 1, 1) := by decide +kernel
theorem dX4_fitsBoard_39 : decode cX4_fitsBoard 39 = .ok (.laload, 1) := by decide +kernel
theorem dX4_fitsBoard_40 : decode cX4_fitsBoard 40 = .ok (.lstore 8, 2) := by decide +kernel
theorem dX4_fitsBoard_42 : decode cX4_fitsBoard 42 = .ok (.iload 7, 2) := by decide +kernel
theorem dX4_fitsBoard_44 : decode cX4_fitsBoard 44 = .ok (.ifCond .eq (15), 3) := by decide +kernel
theorem dX4_fitsBoard_47 : decode cX4_fitsBoard 47 = .ok (.aload_n 0, 1) := by decide +kernel
theorem dX4_fitsBoard_48 : decode cX4_fitsBoard 48 = .ok (.getfield 12, 3) := by decide +kernel
theorem dX4_fitsBoard_51 : decode cX4_fitsBoard 51 = .ok (.getfield 151, 3) := by decide +kernel
theorem dX4_fitsBoard_54 : decode cX4_fitsBoard 54 = .ok (.iload_n 1, 1) := by decide +kernel
theorem dX4_fitsBoard_55 : decode cX4_fitsBoard 55 = .ok (.laload, 1) := by decide +kernel
theorem dX4_fitsBoard_56 : decode cX4_fitsBoard 56 = .ok (.goto (12), 3) := by decide +kernel
theorem dX4_fitsBoard_59 : decode cX4_fitsBoard 59 = .ok (.aload_n 0, 1) := by decide +kernel
theorem dX4_fitsBoard_60 : decode cX4_fitsBoard 60 = .ok (.getfield 12, 3) := by decide +kernel
theorem dX4_fitsBoard_63 : decode cX4_fitsBoard 63 = .ok (.getfield 148, 3) := by decide +kernel
theorem dX4_fitsBoard_66 : decode cX4_fitsBoard 66 = .ok (.iload_n 1, 1) := by decide +kernel
theorem dX4_fitsBoard_67 : decode cX4_fitsBoard 67 = .ok (.laload, 1) := by decide +kernel
theorem dX4_fitsBoard_68 : decode cX4_fitsBoard 68 = .ok (.lstore 10, 2) := by decide +kernel
theorem dX4_fitsBoard_70 : decode cX4_fitsBoard 70 = .ok (.lload_n 2, 1) := by decide +kernel
theorem dX4_fitsBoard_71 : decode cX4_fitsBoard 71 = .ok (.lconst 0, 1) := by decide +kernel
theorem dX4_fitsBoard_72 : decode cX4_fitsBoard 72 = .ok (.lcmp, 1) := by decide +kernel
theorem dX4_fitsBoard_73 : decode cX4_fitsBoard 73 = .ok (.ifCond .lt (39), 3) := by decide +kernel
theorem dX4_fitsBoard_76 : decode cX4_fitsBoard 76 = .ok (.lload_n 2, 1) := by decide +kernel
theorem dX4_fitsBoard_77 : decode cX4_fitsBoard 77 = .ok (.aload_n 0, 1) := by decide +kernel
theorem dX4_fitsBoard_78 : decode cX4_fitsBoard 78 = .ok (.getfield 62, 3) := by decide +kernel
theorem dX4_fitsBoard_81 : decode cX4_fitsBoard 81 = .ok (.lload 8, 2) := by decide +kernel
theorem dX4_fitsBoard_83 : decode cX4_fitsBoard 83 = .ok (.lsub, 1) := by decide +kernel
theorem dX4_fitsBoard_84 : decode cX4_fitsBoard 84 = .ok (.lcmp, 1) := by decide +kernel
theorem dX4_fitsBoard_85 : decode cX4_fitsBoard 85 = .ok (.ifCond .gt (27), 3) := by decide +kernel
theorem dX4_fitsBoard_88 : decode cX4_fitsBoard 88 = .ok (.lload 4, 2) := by decide +kernel
theorem dX4_fitsBoard_90 : decode cX4_fitsBoard 90 = .ok (.lconst 0, 1) := by decide +kernel
theorem dX4_fitsBoard_91 : decode cX4_fitsBoard 91 = .ok (.lcmp, 1) := by decide +kernel
theorem dX4_fitsBoard_92 : decode cX4_fitsBoard 92 = .ok (.ifCond .lt (20), 3) := by decide +kernel
theorem dX4_fitsBoard_95 : decode cX4_fitsBoard 95 = .ok (.lload 4, 2) := by decide +kernel
theorem dX4_fitsBoard_97 : decode cX4_fitsBoard 97 = .ok (.aload_n 0, 1) := by decide +kernel
theorem dX4_fitsBoard_98 : decode cX4_fitsBoard 98 = .ok (.getfield 65, 3) := by decide +kernel
theorem dX4_fitsBoard_101 : decode cX4_fitsBoard 101 = .ok (.lload 10, 2) := by decide +kernel
theorem dX4_fitsBoard_103 : decode cX4_fitsBoard 103 = .ok (.lsub, 1) := by decide +kernel
theorem dX4_fitsBoard_104 : decode cX4_fitsBoard 104 = .ok (.lcmp, 1) := by decide +kernel
theorem dX4_fitsBoard_105 : decode cX4_fitsBoard 105 = .ok (.ifCond .gt (7), 3) := by decide +kernel
theorem dX4_fitsBoard_108 : decode cX4_fitsBoard 108 = .ok (.iconst 1, 1) := by decide +kernel
theorem dX4_fitsBoard_109 : decode cX4_fitsBoard 109 = .ok (.goto (4), 3) := by decide +kernel
theorem dX4_fitsBoard_112 : decode cX4_fitsBoard 112 = .ok (.iconst 0, 1) := by decide +kernel
theorem dX4_fitsBoard_113 : decode cX4_fitsBoard 113 = .ok (.ireturn, 1) := by decide +kernel
abbrev cX4_standsWell : ByteArray := prog_1_method_21_code
def yX4_standsWell : MethodName := ⟨RX4, "standsWell", "(I)Z"⟩
def wsX4_standsWell : List Cond := .code yX4_standsWell cX4_standsWell 2 (some .boolean) :: bT
theorem dX4_standsWell_0 : decode cX4_standsWell 0 = .ok (.aload_n 0, 1) := by decide +kernel
theorem dX4_standsWell_1 : decode cX4_standsWell 1 = .ok (.getfield 37, 3) := by decide +kernel
theorem dX4_standsWell_4 : decode cX4_standsWell 4 = .ok (.getfield 96, 3) := by decide +kernel
theorem dX4_standsWell_7 : decode cX4_standsWell 7 = .ok (.iload_n 1, 1) := by decide +kernel
theorem dX4_standsWell_8 : decode cX4_standsWell 8 = .ok (.baload, 1) := by decide +kernel
theorem dX4_standsWell_9 : decode cX4_standsWell 9 = .ok (.ifCond .ne (5), 3) := by decide +kernel
theorem dX4_standsWell_12 : decode cX4_standsWell 12 = .ok (.iconst 1, 1) := by decide +kernel
theorem dX4_standsWell_13 : decode cX4_standsWell 13 = .ok (.ireturn, 1) := by decide +kernel
theorem dX4_standsWell_14 : decode cX4_standsWell 14 = .ok (.aload_n 0, 1) := by decide +kernel
theorem dX4_standsWell_15 : decode cX4_standsWell 15 = .ok (.iload_n 1, 1) := by decide +kernel
theorem dX4_standsWell_16 : decode cX4_standsWell 16 = .ok (.aload_n 0, 1) := by decide +kernel
theorem dX4_standsWell_17 : decode cX4_standsWell 17 = .ok (.getfield 37, 3) := by decide +kernel
theorem dX4_standsWell_20 : decode cX4_standsWell 20 = .ok (.getfield 112, 3) := by decide +kernel
theorem dX4_standsWell_23 : decode cX4_standsWell 23 = .ok (.iload_n 1, 1) := by decide +kernel
theorem dX4_standsWell_24 : decode cX4_standsWell 24 = .ok (.laload, 1) := by decide +kernel
theorem dX4_standsWell_25 : decode cX4_standsWell 25 = .ok (.aload_n 0, 1) := by decide +kernel
theorem dX4_standsWell_26 : decode cX4_standsWell 26 = .ok (.getfield 37, 3) := by decide +kernel
theorem dX4_standsWell_29 : decode cX4_standsWell 29 = .ok (.getfield 116, 3) := by decide +kernel
theorem dX4_standsWell_32 : decode cX4_standsWell 32 = .ok (.iload_n 1, 1) := by decide +kernel
theorem dX4_standsWell_33 : decode cX4_standsWell 33 = .ok (.laload, 1) := by decide +kernel
theorem dX4_standsWell_34 : decode cX4_standsWell 34 = .ok (.aload_n 0, 1) := by decide +kernel
theorem dX4_standsWell_35 : decode cX4_standsWell 35 = .ok (.getfield 37, 3) := by decide +kernel
theorem dX4_standsWell_38 : decode cX4_standsWell 38 = .ok (.getfield 100, 3) := by decide +kernel
theorem dX4_standsWell_41 : decode cX4_standsWell 41 = .ok (.iload_n 1, 1) := by decide +kernel
theorem dX4_standsWell_42 : decode cX4_standsWell 42 = .ok (.iaload, 1) := by decide +kernel
theorem dX4_standsWell_43 : decode cX4_standsWell 43 = .ok (.invokevirtual 92, 3) := by decide +kernel
theorem dX4_standsWell_46 : decode cX4_standsWell 46 = .ok (.ifCond .eq (50), 3) := by decide +kernel
theorem dX4_standsWell_49 : decode cX4_standsWell 49 = .ok (.aload_n 0, 1) := by decide +kernel
theorem dX4_standsWell_50 : decode cX4_standsWell 50 = .ok (.getfield 37, 3) := by decide +kernel
theorem dX4_standsWell_53 : decode cX4_standsWell 53 = .ok (.iload_n 1, 1) := by decide +kernel
theorem dX4_standsWell_54 : decode cX4_standsWell 54 = .ok (.iconst 0, 1) := by decide +kernel
theorem dX4_standsWell_55 : decode cX4_standsWell 55 = .ok (.invokevirtual 240, 3) := by decide +kernel
theorem dX4_standsWell_58 : decode cX4_standsWell 58 = .ok (.iconst (-1), 1) := by decide +kernel
theorem dX4_standsWell_59 : decode cX4_standsWell 59 = .ok (.if_icmp .ne (37), 3) := by decide +kernel
theorem dX4_standsWell_62 : decode cX4_standsWell 62 = .ok (.aload_n 0, 1) := by decide +kernel
theorem dX4_standsWell_63 : decode cX4_standsWell 63 = .ok (.getfield 23, 3) := by decide +kernel
theorem dX4_standsWell_66 : decode cX4_standsWell 66 = .ok (.aload_n 0, 1) := by decide +kernel
theorem dX4_standsWell_67 : decode cX4_standsWell 67 = .ok (.getfield 37, 3) := by decide +kernel
theorem dX4_standsWell_70 : decode cX4_standsWell 70 = .ok (.iload_n 1, 1) := by decide +kernel
theorem dX4_standsWell_71 : decode cX4_standsWell 71 = .ok (.invokevirtual 243, 3) := by decide +kernel
theorem dX4_standsWell_74 : decode cX4_standsWell 74 = .ok (.ifCond .eq (22), 3) := by decide +kernel
theorem dX4_standsWell_77 : decode cX4_standsWell 77 = .ok (.aload_n 0, 1) := by decide +kernel
theorem dX4_standsWell_78 : decode cX4_standsWell 78 = .ok (.getfield 23, 3) := by decide +kernel
theorem dX4_standsWell_81 : decode cX4_standsWell 81 = .ok (.aload_n 0, 1) := by decide +kernel
theorem dX4_standsWell_82 : decode cX4_standsWell 82 = .ok (.getfield 37, 3) := by decide +kernel
theorem dX4_standsWell_85 : decode cX4_standsWell 85 = .ok (.iload_n 1, 1) := by decide +kernel
theorem dX4_standsWell_86 : decode cX4_standsWell 86 = .ok (.invokevirtual 247, 3) := by decide +kernel
theorem dX4_standsWell_89 : decode cX4_standsWell 89 = .ok (.ifCond .eq (7), 3) := by decide +kernel
theorem dX4_standsWell_92 : decode cX4_standsWell 92 = .ok (.iconst 1, 1) := by decide +kernel
theorem dX4_standsWell_93 : decode cX4_standsWell 93 = .ok (.goto (4), 3) := by decide +kernel
theorem dX4_standsWell_96 : decode cX4_standsWell 96 = .ok (.iconst 0, 1) := by decide +kernel
theorem dX4_standsWell_97 : decode cX4_standsWell 97 = .ok (.ireturn, 1) := by decide +kernel
abbrev cX4_allStandWell : ByteArray := prog_1_method_22_code
def yX4_allStandWell : MethodName := ⟨RX4, "allStandWell", "()Z"⟩
def wsX4_allStandWell : List Cond := .code yX4_allStandWell cX4_allStandWell 2 (some .boolean) :: bT
theorem dX4_allStandWell_0 : decode cX4_allStandWell 0 = .ok (.iconst 0, 1) := by decide +kernel
theorem dX4_allStandWell_1 : decode cX4_allStandWell 1 = .ok (.istore_n 1, 1) := by decide +kernel
theorem dX4_allStandWell_2 : decode cX4_allStandWell 2 = .ok (.iload_n 1, 1) := by decide +kernel
theorem dX4_allStandWell_3 : decode cX4_allStandWell 3 = .ok (.aload_n 0, 1) := by decide +kernel
theorem dX4_allStandWell_4 : decode cX4_allStandWell 4 = .ok (.getfield 12, 3) := by decide +kernel
theorem dX4_allStandWell_7 : decode cX4_allStandWell 7 = .ok (.getfield 197, 3) := by decide +kernel
theorem dX4_allStandWell_10 : decode cX4_allStandWell 10 = .ok (.if_icmp .ge (19), 3) := by decide +kernel
theorem dX4_allStandWell_13 : decode cX4_allStandWell 13 = .ok (.aload_n 0, 1) := by decide +kernel
theorem dX4_allStandWell_14 : decode cX4_allStandWell 14 = .ok (.iload_n 1, 1) := by decide +kernel
theorem dX4_allStandWell_15 : decode cX4_allStandWell 15 = .ok (.invokevirtual 220, 3) := by decide +kernel
theorem dX4_allStandWell_18 : decode cX4_allStandWell 18 = .ok (.ifCond .ne (5), 3) := by decide +kernel
theorem dX4_allStandWell_21 : decode cX4_allStandWell 21 = .ok (.iconst 0, 1) := by decide +kernel
theorem dX4_allStandWell_22 : decode cX4_allStandWell 22 = .ok (.ireturn, 1) := by decide +kernel
theorem dX4_allStandWell_23 : decode cX4_allStandWell 23 = .ok (.iinc 1 1, 3) := by decide +kernel
theorem dX4_allStandWell_26 : decode cX4_allStandWell 26 = .ok (.goto (-24), 3) := by decide +kernel
theorem dX4_allStandWell_29 : decode cX4_allStandWell 29 = .ok (.iconst 1, 1) := by decide +kernel
theorem dX4_allStandWell_30 : decode cX4_allStandWell 30 = .ok (.ireturn, 1) := by decide +kernel
abbrev cX4_goesOn : ByteArray := prog_1_method_27_code
def yX4_goesOn : MethodName := ⟨RX4, "goesOn", "(IIIZZ)Z"⟩
def wsX4_goesOn : List Cond := .code yX4_goesOn cX4_goesOn 10 (some .boolean) :: bT
theorem dX4_goesOn_0 : decode cX4_goesOn 0 = .ok (.aload_n 0, 1) := by decide +kernel
theorem dX4_goesOn_1 : decode cX4_goesOn 1 = .ok (.getfield 12, 3) := by decide +kernel
theorem dX4_goesOn_4 : decode cX4_goesOn 4 = .ok (.iload_n 1, 1) := by decide +kernel
theorem dX4_goesOn_5 : decode cX4_goesOn 5 = .ok (.iload_n 3, 1) := by decide +kernel
theorem dX4_goesOn_6 : decode cX4_goesOn 6 = .ok (.invokevirtual 256, 3) := by decide +kernel
theorem dX4_goesOn_9 : decode cX4_goesOn 9 = .ok (.ifCond .eq (5), 3) := by decide +kernel
theorem dX4_goesOn_12 : decode cX4_goesOn 12 = .ok (.iconst 0, 1) := by decide +kernel
theorem dX4_goesOn_13 : decode cX4_goesOn 13 = .ok (.ireturn, 1) := by decide +kernel
theorem dX4_goesOn_14 : decode cX4_goesOn 14 = .ok (.aload_n 0, 1) := by decide +kernel
theorem dX4_goesOn_15 : decode cX4_goesOn 15 = .ok (.getfield 12, 3) := by decide +kernel
theorem dX4_goesOn_18 : decode cX4_goesOn 18 = .ok (.iload_n 2, 1) := by decide +kernel
theorem dX4_goesOn_19 : decode cX4_goesOn 19 = .ok (.iload_n 3, 1) := by decide +kernel
theorem dX4_goesOn_20 : decode cX4_goesOn 20 = .ok (.invokevirtual 256, 3) := by decide +kernel
theorem dX4_goesOn_23 : decode cX4_goesOn 23 = .ok (.ifCond .eq (5), 3) := by decide +kernel
theorem dX4_goesOn_26 : decode cX4_goesOn 26 = .ok (.iconst 1, 1) := by decide +kernel
theorem dX4_goesOn_27 : decode cX4_goesOn 27 = .ok (.ireturn, 1) := by decide +kernel
theorem dX4_goesOn_28 : decode cX4_goesOn 28 = .ok (.iload 4, 2) := by decide +kernel
theorem dX4_goesOn_30 : decode cX4_goesOn 30 = .ok (.ifCond .eq (15), 3) := by decide +kernel
theorem dX4_goesOn_33 : decode cX4_goesOn 33 = .ok (.aload_n 0, 1) := by decide +kernel
theorem dX4_goesOn_34 : decode cX4_goesOn 34 = .ok (.getfield 37, 3) := by decide +kernel
theorem dX4_goesOn_37 : decode cX4_goesOn 37 = .ok (.getfield 112, 3) := by decide +kernel
theorem dX4_goesOn_40 : decode cX4_goesOn 40 = .ok (.iload_n 1, 1) := by decide +kernel
theorem dX4_goesOn_41 : decode cX4_goesOn 41 = .ok (.laload, 1) := by decide +kernel
theorem dX4_goesOn_42 : decode cX4_goesOn 42 = .ok (.goto (12), 3) := by decide +kernel
theorem dX4_goesOn_45 : decode cX4_goesOn 45 = .ok (.aload_n 0, 1) := by decide +kernel
theorem dX4_goesOn_46 : decode cX4_goesOn 46 = .ok (.getfield 37, 3) := by decide +kernel
theorem dX4_goesOn_49 : decode cX4_goesOn 49 = .ok (.getfield 116, 3) := by decide +kernel
theorem dX4_goesOn_52 : decode cX4_goesOn 52 = .ok (.iload_n 1, 1) := by decide +kernel
theorem dX4_goesOn_53 : decode cX4_goesOn 53 = .ok (.laload, 1) := by decide +kernel
theorem dX4_goesOn_54 : decode cX4_goesOn 54 = .ok (.lstore 6, 2) := by decide +kernel
theorem dX4_goesOn_56 : decode cX4_goesOn 56 = .ok (.iload 4, 2) := by decide +kernel
theorem dX4_goesOn_58 : decode cX4_goesOn 58 = .ok (.ifCond .eq (15), 3) := by decide +kernel
theorem dX4_goesOn_61 : decode cX4_goesOn 61 = .ok (.aload_n 0, 1) := by decide +kernel
theorem dX4_goesOn_62 : decode cX4_goesOn 62 = .ok (.getfield 37, 3) := by decide +kernel
theorem dX4_goesOn_65 : decode cX4_goesOn 65 = .ok (.getfield 112, 3) := by decide +kernel
theorem dX4_goesOn_68 : decode cX4_goesOn 68 = .ok (.iload_n 2, 1) := by decide +kernel
theorem dX4_goesOn_69 : decode cX4_goesOn 69 = .ok (.laload, 1) := by decide +kernel
theorem dX4_goesOn_70 : decode cX4_goesOn 70 = .ok (.goto (12), 3) := by decide +kernel
theorem dX4_goesOn_73 : decode cX4_goesOn 73 = .ok (.aload_n 0, 1) := by decide +kernel
theorem dX4_goesOn_74 : decode cX4_goesOn 74 = .ok (.getfield 37, 3) := by decide +kernel
theorem dX4_goesOn_77 : decode cX4_goesOn 77 = .ok (.getfield 116, 3) := by decide +kernel
theorem dX4_goesOn_80 : decode cX4_goesOn 80 = .ok (.iload_n 2, 1) := by decide +kernel
theorem dX4_goesOn_81 : decode cX4_goesOn 81 = .ok (.laload, 1) := by decide +kernel
theorem dX4_goesOn_82 : decode cX4_goesOn 82 = .ok (.lstore 8, 2) := by decide +kernel
theorem dX4_goesOn_84 : decode cX4_goesOn 84 = .ok (.iload 5, 2) := by decide +kernel
theorem dX4_goesOn_86 : decode cX4_goesOn 86 = .ok (.ifCond .eq (19), 3) := by decide +kernel
theorem dX4_goesOn_89 : decode cX4_goesOn 89 = .ok (.lload 6, 2) := by decide +kernel
theorem dX4_goesOn_91 : decode cX4_goesOn 91 = .ok (.lload 8, 2) := by decide +kernel
theorem dX4_goesOn_93 : decode cX4_goesOn 93 = .ok (.lcmp, 1) := by decide +kernel
theorem dX4_goesOn_94 : decode cX4_goesOn 94 = .ok (.ifCond .le (7), 3) := by decide +kernel
theorem dX4_goesOn_97 : decode cX4_goesOn 97 = .ok (.iconst 1, 1) := by decide +kernel
theorem dX4_goesOn_98 : decode cX4_goesOn 98 = .ok (.goto (20), 3) := by decide +kernel
theorem dX4_goesOn_101 : decode cX4_goesOn 101 = .ok (.iconst 0, 1) := by decide +kernel
theorem dX4_goesOn_102 : decode cX4_goesOn 102 = .ok (.goto (16), 3) := by decide +kernel
theorem dX4_goesOn_105 : decode cX4_goesOn 105 = .ok (.lload 6, 2) := by decide +kernel
theorem dX4_goesOn_107 : decode cX4_goesOn 107 = .ok (.lload 8, 2) := by decide +kernel
theorem dX4_goesOn_109 : decode cX4_goesOn 109 = .ok (.lcmp, 1) := by decide +kernel
theorem dX4_goesOn_110 : decode cX4_goesOn 110 = .ok (.ifCond .ge (7), 3) := by decide +kernel
theorem dX4_goesOn_113 : decode cX4_goesOn 113 = .ok (.iconst 1, 1) := by decide +kernel
theorem dX4_goesOn_114 : decode cX4_goesOn 114 = .ok (.goto (4), 3) := by decide +kernel
theorem dX4_goesOn_117 : decode cX4_goesOn 117 = .ok (.iconst 0, 1) := by decide +kernel
theorem dX4_goesOn_118 : decode cX4_goesOn 118 = .ok (.ireturn, 1) := by decide +kernel
abbrev cX4_countChanged : ByteArray := prog_1_method_25_code
def yX4_countChanged : MethodName := ⟨RX4, "countChanged", "(I)I"⟩
def wsX4_countChanged : List Cond := .code yX4_countChanged cX4_countChanged 4 (some .int) :: bT
theorem dX4_countChanged_0 : decode cX4_countChanged 0 = .ok (.iconst 0, 1) := by decide +kernel
theorem dX4_countChanged_1 : decode cX4_countChanged 1 = .ok (.istore_n 2, 1) := by decide +kernel
theorem dX4_countChanged_2 : decode cX4_countChanged 2 = .ok (.iconst 0, 1) := by decide +kernel
theorem dX4_countChanged_3 : decode cX4_countChanged 3 = .ok (.istore_n 3, 1) := by decide +kernel
theorem dX4_countChanged_4 : decode cX4_countChanged 4 = .ok (.iload_n 3, 1) := by decide +kernel
theorem dX4_countChanged_5 : decode cX4_countChanged 5 = .ok (.aload_n 0, 1) := by decide +kernel
theorem dX4_countChanged_6 : decode cX4_countChanged 6 = .ok (.getfield 12, 3) := by decide +kernel
theorem dX4_countChanged_9 : decode cX4_countChanged 9 = .ok (.getfield 197, 3) := by decide +kernel
theorem dX4_countChanged_12 : decode cX4_countChanged 12 = .ok (.if_icmp .ge (32), 3) := by decide +kernel
theorem dX4_countChanged_15 : decode cX4_countChanged 15 = .ok (.iload_n 3, 1) := by decide +kernel
theorem dX4_countChanged_16 : decode cX4_countChanged 16 = .ok (.iload_n 1, 1) := by decide +kernel
theorem dX4_countChanged_17 : decode cX4_countChanged 17 = .ok (.if_icmp .eq (21), 3) := by decide +kernel
theorem dX4_countChanged_20 : decode cX4_countChanged 20 = .ok (.aload_n 0, 1) := by decide +kernel
theorem dX4_countChanged_21 : decode cX4_countChanged 21 = .ok (.getfield 37, 3) := by decide +kernel
theorem dX4_countChanged_24 : decode cX4_countChanged 24 = .ok (.aload_n 0, 1) := by decide +kernel
theorem dX4_countChanged_25 : decode cX4_countChanged 25 = .ok (.getfield 41, 3) := by decide +kernel
theorem dX4_countChanged_28 : decode cX4_countChanged 28 = .ok (.iload_n 3, 1) := by decide +kernel
theorem dX4_countChanged_29 : decode cX4_countChanged 29 = .ok (.invokevirtual 250, 3) := by decide +kernel
theorem dX4_countChanged_32 : decode cX4_countChanged 32 = .ok (.ifCond .eq (6), 3) := by decide +kernel
theorem dX4_countChanged_35 : decode cX4_countChanged 35 = .ok (.iinc 2 1, 3) := by decide +kernel
theorem dX4_countChanged_38 : decode cX4_countChanged 38 = .ok (.iinc 3 1, 3) := by decide +kernel
theorem dX4_countChanged_41 : decode cX4_countChanged 41 = .ok (.goto (-37), 3) := by decide +kernel
theorem dX4_countChanged_44 : decode cX4_countChanged 44 = .ok (.iload_n 2, 1) := by decide +kernel
theorem dX4_countChanged_45 : decode cX4_countChanged 45 = .ok (.ireturn, 1) := by decide +kernel
