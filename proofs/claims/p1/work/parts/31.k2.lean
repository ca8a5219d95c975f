set_option maxHeartbeats 4000000 in
set_option maxRecDepth 100000 in
theorem k_partX {l : Launch} (hlt : l.stackTraces = false) {D : va_G} {ad : Nat → Nat} {cJ cI cZ : ClassId} {bm : gBM} {pa : gPA} {p0 p1 p2 : gPL} {li : gLI} {wi : gWI} {mt : Nat} {ms : gMS} {ma : gMA} {mp : gMP} {mk : gMK} {mn : gMN} {ou : Nat → Int64} {zA zB : Int64} {zC : Int32} (hv : q_pv zA zB zC = false) : bx_T l yX4_part wsX4_part ({ frames := 6, cells := 1, slots := 6, locals := 101 }) (bx_Tp D vwCl [(cJ, .long), (cI, .int), (cZ, .boolean)] (WW ad cJ cI cZ (bm.1, bm.2.1, bm.2.2.1, 0) (pa.1, pa.2.1, pa.2.2.1, pa.2.2.2.1, pa.2.2.2.2.1, pa.2.2.2.2.2.1, 0) p0 p1 p2 (li.1, li.2.1, li.2.2.1, li.2.2.2.1, li.2.2.2.2.1, li.2.2.2.2.2.1, li.2.2.2.2.2.2.1, li.2.2.2.2.2.2.2.1, 0, 0) (wi.1, wi.2.1, wi.2.2.1, wi.2.2.2.1, wi.2.2.2.2.1, wi.2.2.2.2.2.1, wi.2.2.2.2.2.2.1, wi.2.2.2.2.2.2.2.1, wi.2.2.2.2.2.2.2.2.1, 0, 0) mt ms ma mp mk mn ou) [.ref (ad 0), .long zA, .long zB, .int zC]) "java/lang/IllegalArgumentException" := by
  refine bx_ofW (cc := cX4_part) (maxL := 6) (ret := (some .int)) (by decide) rfl ?_
  intro p e s m args below meth c s₁ B hml hout hv
  obtain ⟨ha, hP, hK, hX, hZ⟩ := hv
  have hx := B.exec
  have hb := B.bytes
  have hr := B.returns
  have hts := atoms_spec (ws := wsX4_part) B.pre
  have hown : s.vm.findClass RX4 = some m.cls := findClass_of_methodNamed B.named
  have hlocks := B.notSynchronized
  have hl := lv_entry ([.ref (ad 0), .long zA, .long zB, .int zC]) (n := 6) (Nat.le_of_ble_eq_true rfl)
  refine W.eq (g2 := entryFrame m ([.ref (ad 0), .long zA, .long zB, .int zC] : List Value).toArray 6) (by rw [ha]) ?_
  rw [lg_entry_eq]
  generalize (lg_sl ([.ref (ad 0), .long zA, .long zB, .int zC]) ++ List.replicate (6 - (lg_sl ([.ref (ad 0), .long zA, .long zB, .int zC])).length) Slot.unset).toArray = ls at hl ⊢
  have hl : lv_has ls 6 [(0, .ref (ad 0)), (1, .long zA), (3, .long zB), (5, .int zC)] := hl
  refine lv_lload_n hx hb dX4_part_0 rfl (lv_at hl 1 rfl) ?_
  refine bm_rcallS (As := [.long zA]) (rest := []) ⟨hx, hb, hml, hown, hts⟩ (k_len) (cwS 1 hts (gdS (by decide +kernel) (by decide +kernel) (by decide +kernel) (by decide +kernel)) rfl rfl rfl (by decide +kernel) ⟨Nat.le_of_ble_eq_true rfl, Nat.le_of_ble_eq_true rfl⟩) hK hP rfl hl.1 rfl (Nat.le_of_ble_eq_true rfl) dX4_part_1 ⟨Nat.le_of_ble_eq_true rfl, Nat.le_of_ble_eq_true rfl⟩ ?_
  refine bm_zb_eq (x := (q_len zA)) (tgt := 25) hx hb dX4_part_4 (by decide) (fun c_1 => ?_) (fun c_1 => ?_)
  · obtain ⟨sa, hsa⟩ := hZ (77, "a part is 1 .. 65,536 wide and high, on side 0 or 1") (by decide +kernel)
    exact bx_throw (rest := []) (own := RX4) (cls := "java/lang/IllegalArgumentException") (text := "a part is 1 .. 65,536 wide and high, on side 0 or 1") (names := bxUp) (ik := 75) (is := 77) (ic := 79) hx hb hlt hown (by decide +kernel) (by decide +kernel) (hts (.classLink RX4 75 "java/lang/IllegalArgumentException") (by decide +kernel)) (hts (.initialized "java/lang/IllegalArgumentException") (by decide +kernel)) hsa (fun w hw => hX w (bx_in_79 w hw) _) (hl.1.trans hml.symm) dX4_part_25 dX4_part_28 dX4_part_29 dX4_part_31 dX4_part_34 hout (Nat.le_of_ble_eq_true rfl) (Nat.le_of_ble_eq_true rfl) (Nat.le_of_ble_eq_true rfl) (Nat.le_of_ble_eq_true rfl) hlocks
  · refine lv_lload_n hx hb dX4_part_7 rfl (lv_at hl 2 rfl) ?_
    refine bm_rcallS (As := [.long zB]) (rest := []) ⟨hx, hb, hml, hown, hts⟩ (k_len) (cwS 1 hts (gdS (by decide +kernel) (by decide +kernel) (by decide +kernel) (by decide +kernel)) rfl rfl rfl (by decide +kernel) ⟨Nat.le_of_ble_eq_true rfl, Nat.le_of_ble_eq_true rfl⟩) hK hP rfl hl.1 rfl (Nat.le_of_ble_eq_true rfl) dX4_part_8 ⟨Nat.le_of_ble_eq_true rfl, Nat.le_of_ble_eq_true rfl⟩ ?_
    refine bm_zb_eq (x := (q_len zB)) (tgt := 25) hx hb dX4_part_11 (by decide) (fun c_2 => ?_) (fun c_2 => ?_)
    · obtain ⟨sa, hsa⟩ := hZ (77, "a part is 1 .. 65,536 wide and high, on side 0 or 1") (by decide +kernel)
      exact bx_throw (rest := []) (own := RX4) (cls := "java/lang/IllegalArgumentException") (text := "a part is 1 .. 65,536 wide and high, on side 0 or 1") (names := bxUp) (ik := 75) (is := 77) (ic := 79) hx hb hlt hown (by decide +kernel) (by decide +kernel) (hts (.classLink RX4 75 "java/lang/IllegalArgumentException") (by decide +kernel)) (hts (.initialized "java/lang/IllegalArgumentException") (by decide +kernel)) hsa (fun w hw => hX w (bx_in_79 w hw) _) (hl.1.trans hml.symm) dX4_part_25 dX4_part_28 dX4_part_29 dX4_part_31 dX4_part_34 hout (Nat.le_of_ble_eq_true rfl) (Nat.le_of_ble_eq_true rfl) (Nat.le_of_ble_eq_true rfl) (Nat.le_of_ble_eq_true rfl) hlocks
    · refine lv_iload hx hb dX4_part_14 (lv_at hl 3 rfl) ?_
      refine lv_if_lt (x := zC) (tgt := 25) hx hb dX4_part_16 (by decide) (fun c_3 => ?_) (fun c_3 => ?_)
      · obtain ⟨sa, hsa⟩ := hZ (77, "a part is 1 .. 65,536 wide and high, on side 0 or 1") (by decide +kernel)
        exact bx_throw (rest := []) (own := RX4) (cls := "java/lang/IllegalArgumentException") (text := "a part is 1 .. 65,536 wide and high, on side 0 or 1") (names := bxUp) (ik := 75) (is := 77) (ic := 79) hx hb hlt hown (by decide +kernel) (by decide +kernel) (hts (.classLink RX4 75 "java/lang/IllegalArgumentException") (by decide +kernel)) (hts (.initialized "java/lang/IllegalArgumentException") (by decide +kernel)) hsa (fun w hw => hX w (bx_in_79 w hw) _) (hl.1.trans hml.symm) dX4_part_25 dX4_part_28 dX4_part_29 dX4_part_31 dX4_part_34 hout (Nat.le_of_ble_eq_true rfl) (Nat.le_of_ble_eq_true rfl) (Nat.le_of_ble_eq_true rfl) (Nat.le_of_ble_eq_true rfl) hlocks
      · refine lv_iload hx hb dX4_part_19 (lv_at hl 3 rfl) ?_
        refine lv_iconst (v := 1) hx hb dX4_part_21 (by decide) ?_
        refine lv_icmp_le (x := zC) (y := 1) (tgt := 35) hx hb dX4_part_22 (by decide) (fun c_4 => ?_) (fun c_4 => ?_)
        · exact absurd hv (by rcases bx_sd c_3 c_4 with h | h <;> simp [q_pv, c_1, c_2, h])
        · obtain ⟨sa, hsa⟩ := hZ (77, "a part is 1 .. 65,536 wide and high, on side 0 or 1") (by decide +kernel)
          exact bx_throw (rest := []) (own := RX4) (cls := "java/lang/IllegalArgumentException") (text := "a part is 1 .. 65,536 wide and high, on side 0 or 1") (names := bxUp) (ik := 75) (is := 77) (ic := 79) hx hb hlt hown (by decide +kernel) (by decide +kernel) (hts (.classLink RX4 75 "java/lang/IllegalArgumentException") (by decide +kernel)) (hts (.initialized "java/lang/IllegalArgumentException") (by decide +kernel)) hsa (fun w hw => hX w (bx_in_79 w hw) _) (hl.1.trans hml.symm) dX4_part_25 dX4_part_28 dX4_part_29 dX4_part_31 dX4_part_34 hout (Nat.le_of_ble_eq_true rfl) (Nat.le_of_ble_eq_true rfl) (Nat.le_of_ble_eq_true rfl) (Nat.le_of_ble_eq_true rfl) hlocks

set_option maxHeartbeats 4000000 in
set_option maxRecDepth 100000 in
theorem k_need {l : Launch} (hlt : l.stackTraces = false) {D : va_G} {ad : Nat → Nat} {cJ cI cZ : ClassId} {bm : gBM} {pa : gPA} {p0 p1 p2 : gPL} {li : gLI} {wi : gWI} {mt : Nat} {ms : gMS} {ma : gMA} {mp : gMP} {mk : gMK} {mn : gMN} {ou : Nat → Int64} {zA : Int32} : bx_T l yX4_needPart wsX4_needPart ({ frames := 6, cells := 1, slots := 6, locals := 101 }) (bx_Tp D vwCl [(cJ, .long), (cI, .int), (cZ, .boolean)] (WW ad cJ cI cZ (bm.1, bm.2.1, bm.2.2.1, 0) (pa.1, pa.2.1, pa.2.2.1, pa.2.2.2.1, pa.2.2.2.2.1, pa.2.2.2.2.2.1, 0) p0 p1 p2 (li.1, li.2.1, li.2.2.1, li.2.2.2.1, li.2.2.2.2.1, li.2.2.2.2.2.1, li.2.2.2.2.2.2.1, li.2.2.2.2.2.2.2.1, 0, 0) (wi.1, wi.2.1, wi.2.2.1, wi.2.2.2.1, wi.2.2.2.2.1, wi.2.2.2.2.2.1, wi.2.2.2.2.2.2.1, wi.2.2.2.2.2.2.2.1, wi.2.2.2.2.2.2.2.2.1, 0, 0) mt ms ma mp mk mn ou) [.ref (ad 0), .int zA]) "java/lang/IndexOutOfBoundsException" := by
  refine bx_ofW (cc := cX4_needPart) (maxL := 2) (ret := none) (by decide) rfl ?_
  intro p e s m args below meth c s₁ B hml hout hv
  obtain ⟨ha, hP, hK, hX, hZ⟩ := hv
  have hx := B.exec
  have hb := B.bytes
  have hr := B.returns
  have hts := atoms_spec (ws := wsX4_needPart) B.pre
  have hown : s.vm.findClass RX4 = some m.cls := findClass_of_methodNamed B.named
  have hlocks := B.notSynchronized
  have hl := lv_entry ([.ref (ad 0), .int zA]) (n := 2) (Nat.le_of_ble_eq_true rfl)
  refine W.eq (g2 := entryFrame m ([.ref (ad 0), .int zA] : List Value).toArray 2) (by rw [ha]) ?_
  rw [lg_entry_eq]
  generalize (lg_sl ([.ref (ad 0), .int zA]) ++ List.replicate (2 - (lg_sl ([.ref (ad 0), .int zA])).length) Slot.unset).toArray = ls at hl ⊢
  have hl : lv_has ls 2 [(0, .ref (ad 0)), (1, .int zA)] := hl
  refine lv_iload_n hx hb dX4_needPart_0 rfl (lv_at hl 1 rfl) ?_
  refine lv_if_lt (x := zA) (tgt := 15) hx hb dX4_needPart_1 (by decide) (fun c_1 => ?_) (fun c_1 => ?_)
  · obtain ⟨sa, hsa⟩ := hZ (238, "no such part") (by decide +kernel)
    exact bx_throw (rest := []) (own := RX4) (cls := "java/lang/IndexOutOfBoundsException") (text := "no such part") (names := bxUp) (ik := 143) (is := 238) (ic := 147) hx hb hlt hown (by decide +kernel) (by decide +kernel) (hts (.classLink RX4 143 "java/lang/IndexOutOfBoundsException") (by decide +kernel)) (hts (.initialized "java/lang/IndexOutOfBoundsException") (by decide +kernel)) hsa (fun w hw => hX w (bx_in_147 w hw) _) (hl.1.trans hml.symm) dX4_needPart_15 dX4_needPart_18 dX4_needPart_19 dX4_needPart_21 dX4_needPart_24 hout (Nat.le_of_ble_eq_true rfl) (Nat.le_of_ble_eq_true rfl) (Nat.le_of_ble_eq_true rfl) (Nat.le_of_ble_eq_true rfl) hlocks
  · refine lv_iload_n hx hb dX4_needPart_4 rfl (lv_at hl 1 rfl) ?_
    refine lv_aload_n hx hb dX4_needPart_5 rfl (lv_at hl 0 rfl) ?_
    refine va_get (D := D) (ci := 4) (v := .ref (ad 1)) (C := RX4) (T := TX4) (N := 10) hx hb hts (inT inX4) hown hK hP 0 rfl rfl 2 (by decide) (hts (.fieldLink RX4 12 "BoardMoves" "parts" "LBoardMoves$Parts;") (by decide +kernel)) (fun _ h9 => h9) rfl dX4_needPart_6 ?_
    refine va_get (D := D) (ci := 1) (v := .int (nI 0)) (C := RX1) (T := TX1) (N := 7) hx hb hts (inT inX1) hown hK hP 1 rfl rfl 6 (by decide) (hts (.fieldLink RX4 197 "BoardMoves$Parts" "count" "I") (by decide +kernel)) (fun _ h9 => h9) rfl dX4_needPart_9 ?_
    refine lv_icmp_lt (x := zA) (y := (nI 0)) (tgt := 25) hx hb dX4_needPart_12 (by decide) (fun c_2 => ?_) (fun c_2 => ?_)
    · exact absurd (show zA < 0 from c_2) c_1
    · obtain ⟨sa, hsa⟩ := hZ (238, "no such part") (by decide +kernel)
      exact bx_throw (rest := []) (own := RX4) (cls := "java/lang/IndexOutOfBoundsException") (text := "no such part") (names := bxUp) (ik := 143) (is := 238) (ic := 147) hx hb hlt hown (by decide +kernel) (by decide +kernel) (hts (.classLink RX4 143 "java/lang/IndexOutOfBoundsException") (by decide +kernel)) (hts (.initialized "java/lang/IndexOutOfBoundsException") (by decide +kernel)) hsa (fun w hw => hX w (bx_in_147 w hw) _) (hl.1.trans hml.symm) dX4_needPart_15 dX4_needPart_18 dX4_needPart_19 dX4_needPart_21 dX4_needPart_24 hout (Nat.le_of_ble_eq_true rfl) (Nat.le_of_ble_eq_true rfl) (Nat.le_of_ble_eq_true rfl) (Nat.le_of_ble_eq_true rfl) hlocks
