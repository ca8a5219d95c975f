set_option maxHeartbeats 4000000 in
set_option maxRecDepth 100000 in
theorem k_len {l : Launch} {D : va_G} {ad : Nat → Nat} {cJ cI cZ : ClassId} {bm : gBM} {pa : gPA} {p0 p1 p2 : gPL} {li : gLI} {wi : gWI} {mt : Nat} {ms : gMS} {ma : gMA} {mp : gMP} {mk : gMK} {mn : gMN} {ou : Nat → Int64} {zA : Int64} : bm_Rd l yX4_isLength wsX4_isLength ({ frames := 0, cells := 0, slots := 0, locals := 0 }) D vwCl [(cJ, .long), (cI, .int), (cZ, .boolean)] (WW ad cJ cI cZ bm pa p0 p1 p2 li wi mt ms ma mp mk mn ou) [.long zA] (.int (bm_b (q_len zA))) := by
  refine Met.ofW (cc := cX4_isLength) (maxL := 2) (ret := (some .boolean)) (by decide) rfl ?_
  intro p e s m args below meth c s₁ B hml hv
  obtain ⟨ha, hP, hK⟩ := hv
  have hx := B.exec
  have hb := B.bytes
  have hr := B.returns
  have hts := atoms_spec (ws := wsX4_isLength) B.pre
  have hown : s.vm.findClass RX4 = some m.cls := findClass_of_methodNamed B.named
  have hlocks := B.notSynchronized
  have hl := lv_entry ([.long zA]) (n := 2) (Nat.le_of_ble_eq_true rfl)
  refine W.eq (g2 := entryFrame m ([.long zA] : List Value).toArray 2) (by rw [ha]) ?_
  rw [lg_entry_eq]
  generalize (lg_sl ([.long zA]) ++ List.replicate (2 - (lg_sl ([.long zA])).length) Slot.unset).toArray = ls at hl ⊢
  have hl : lv_has ls 2 [(0, .long zA)] := hl
  refine lv_lload_n hx hb dX4_isLength_0 rfl (lv_at hl 0 rfl) ?_
  refine lv_lconst (v := 1) hx hb dX4_isLength_1 (by decide) ?_
  refine bm_lc_lt (x := zA) (y := 1) (tgt := 18) hx hb dX4_isLength_2 dX4_isLength_3 (by decide) (fun c_1 => ?_) (fun c_1 => ?_)
  · refine lv_iconst (v := bm_b false) hx hb dX4_isLength_18 (by decide) ?_
    exact bm_zretR (v := false) hx hb hr (by simp [q_len, c_1]) dX4_isLength_19 hlocks
  · refine lv_lload_n hx hb dX4_isLength_6 rfl (lv_at hl 0 rfl) ?_
    refine lv_ldc2 (v := 65536) hx hb hown (hts (.constantLong RX4 51 65536) (List.mem_cons_of_mem _ clX4_51)) dX4_isLength_7 ?_
    refine bm_lc_gt (x := zA) (y := 65536) (tgt := 18) hx hb dX4_isLength_10 dX4_isLength_11 (by decide) (fun c_2 => ?_) (fun c_2 => ?_)
    · refine lv_iconst (v := bm_b false) hx hb dX4_isLength_18 (by decide) ?_
      exact bm_zretR (v := false) hx hb hr (by simp [q_len, c_1, c_2]) dX4_isLength_19 hlocks
    · refine lv_iconst (v := bm_b true) hx hb dX4_isLength_14 (by decide) ?_
      refine lv_goto (tgt := 19) hx hb dX4_isLength_15 (by decide) ?_
      exact bm_zretR (v := true) hx hb hr (by simp [q_len, c_1, c_2]) dX4_isLength_19 hlocks

set_option maxHeartbeats 4000000 in
set_option maxRecDepth 100000 in
theorem X_needY {l : Launch} {D : va_G} {ad : Nat → Nat} {cJ cI cZ : ClassId} {bm : gBM} {pa : gPA} {p0 p1 p2 : gPL} {li : gLI} {wi : gWI} {mt : Nat} {ms : gMS} {ma : gMA} {mp : gMP} {mk : gMK} {mn : gMN} {ou : Nat → Int64} {zp : Nat} (okn : pa.2.2.2.2.2.2 ≤ 40) (hk : zp < pa.2.2.2.2.2.2) : bm_Rv l yX4_needPart wsX4_needPart ({ frames := 0, cells := 0, slots := 0, locals := 0 }) D vwCl [(cJ, .long), (cI, .int), (cZ, .boolean)] (WW ad cJ cI cZ bm pa p0 p1 p2 li wi mt ms ma mp mk mn ou) [.ref (ad 0), .int (nI zp)] := by
  refine Met.ofW (cc := cX4_needPart) (maxL := 2) (ret := none) (by decide) rfl ?_
  intro p e s m args below meth c s₁ B hml hv
  obtain ⟨ha, hP, hK⟩ := hv
  have hx := B.exec
  have hb := B.bytes
  have hr := B.returns
  have hts := atoms_spec (ws := wsX4_needPart) B.pre
  have hown : s.vm.findClass RX4 = some m.cls := findClass_of_methodNamed B.named
  have hlocks := B.notSynchronized
  have hl := lv_entry ([.ref (ad 0), .int (nI zp)]) (n := 2) (Nat.le_of_ble_eq_true rfl)
  refine W.eq (g2 := entryFrame m ([.ref (ad 0), .int (nI zp)] : List Value).toArray 2) (by rw [ha]) ?_
  rw [lg_entry_eq]
  generalize (lg_sl ([.ref (ad 0), .int (nI zp)]) ++ List.replicate (2 - (lg_sl ([.ref (ad 0), .int (nI zp)])).length) Slot.unset).toArray = ls at hl ⊢
  have hl : lv_has ls 2 [(0, .ref (ad 0)), (1, .int (nI zp))] := hl
  refine lv_iload_n hx hb dX4_needPart_0 rfl (lv_at hl 1 rfl) ?_
  refine lv_if_lt (x := (nI zp)) (tgt := 15) hx hb dX4_needPart_1 (by decide) (fun c_1 => ?_) (fun c_1 => ?_)
  · exact absurd c_1 (bx_nn (by omega))
  · refine lv_iload_n hx hb dX4_needPart_4 rfl (lv_at hl 1 rfl) ?_
    refine lv_aload_n hx hb dX4_needPart_5 rfl (lv_at hl 0 rfl) ?_
    refine va_get (D := D) (ci := 4) (v := .ref (ad 1)) (C := RX4) (T := TX4) (N := 10) hx hb hts (inT inX4) hown hK hP 0 ww_0 rfl 2 (by decide) (hts (.fieldLink RX4 12 "BoardMoves" "parts" "LBoardMoves$Parts;") (List.mem_cons_of_mem _ flX4_12)) (fun _ h9 => h9) rfl dX4_needPart_6 ?_
    refine va_get (D := D) (ci := 1) (v := .int (nI pa.2.2.2.2.2.2)) (C := RX1) (T := TX1) (N := 7) hx hb hts (inT inX1) hown hK hP 1 ww_1 rfl 6 (by decide) (hts (.fieldLink RX4 197 "BoardMoves$Parts" "count" "I") (List.mem_cons_of_mem _ flX4_197)) (fun _ h9 => h9) rfl dX4_needPart_9 ?_
    refine bm_ni_lt (x := zp) (y := pa.2.2.2.2.2.2) (tgt := 25) hx hb (by omega) (by omega) dX4_needPart_12 (by decide) (fun c_2 => ?_) (fun c_2 => ?_)
    · exact bm_vretR hx hb hr dX4_needPart_25 hlocks
    · exact absurd hk c_2

set_option maxHeartbeats 4000000 in
set_option maxRecDepth 100000 in
theorem X_needN {l : Launch} (hlt : l.stackTraces = false) {D : va_G} {ad : Nat → Nat} {cJ cI cZ : ClassId} {bm : gBM} {pa : gPA} {p0 p1 p2 : gPL} {li : gLI} {wi : gWI} {mt : Nat} {ms : gMS} {ma : gMA} {mp : gMP} {mk : gMK} {mn : gMN} {ou : Nat → Int64} {zA : Int32} (hno_zA : ¬ (¬ zA < 0 ∧ zA < nI pa.2.2.2.2.2.2)) : bx_T l yX4_needPart wsX4_needPart ({ frames := 6, cells := 1, slots := 6, locals := 101 }) (bx_Tp D vwCl [(cJ, .long), (cI, .int), (cZ, .boolean)] (WW ad cJ cI cZ bm pa p0 p1 p2 li wi mt ms ma mp mk mn ou) [.ref (ad 0), .int zA]) "java/lang/IndexOutOfBoundsException" := by
  refine bx_ofW (cc := cX4_needPart) (maxL := 2) (ret := none) (by decide) rfl ?_
  intro p e s m args below meth c s₁ B hml hout hv
  obtain ⟨ha, hP, hK, hX, hZ⟩ := hv
  have hx := B.exec
  have hb := B.bytes
  have hr := B.returns
  have hts := atoms_spec (ws := wsX4_needPart) B.pre
  have hown : s.vm.findClass RX4 = some m.cls := findClass_of_methodNamed B.named
  have hlocks := B.notSynchronized
  have hl := lv_entry ([.ref (ad 0), .int zA]) (n := 2) (Nat.le_of_ble_eq_true rfl)
  refine W.eq (g2 := entryFrame m ([.ref (ad 0), .int zA] : List Value).toArray 2) (by rw [ha]) ?_
  rw [lg_entry_eq]
  generalize (lg_sl ([.ref (ad 0), .int zA]) ++ List.replicate (2 - (lg_sl ([.ref (ad 0), .int zA])).length) Slot.unset).toArray = ls at hl ⊢
  have hl : lv_has ls 2 [(0, .ref (ad 0)), (1, .int zA)] := hl
  refine lv_iload_n hx hb dX4_needPart_0 rfl (lv_at hl 1 rfl) ?_
  refine lv_if_lt (x := zA) (tgt := 15) hx hb dX4_needPart_1 (by decide) (fun c_1 => ?_) (fun c_1 => ?_)
  · obtain ⟨sa, hsa⟩ := hZ (238, "no such part") (by decide +kernel)
    exact bx_throw (rest := []) (own := RX4) (cls := "java/lang/IndexOutOfBoundsException") (text := "no such part") (names := bxUp) (ik := 143) (is := 238) (ic := 147) hx hb hlt hown (by decide +kernel) (by decide +kernel) (hts (.classLink RX4 143 "java/lang/IndexOutOfBoundsException") (by decide +kernel)) (hts (.initialized "java/lang/IndexOutOfBoundsException") (by decide +kernel)) hsa (fun w hw => hX w (bx_in_147 w hw) _) (hl.1.trans hml.symm) dX4_needPart_15 dX4_needPart_18 dX4_needPart_19 dX4_needPart_21 dX4_needPart_24 hout (Nat.le_of_ble_eq_true rfl) (Nat.le_of_ble_eq_true rfl) (Nat.le_of_ble_eq_true rfl) (Nat.le_of_ble_eq_true rfl) hlocks
  · refine lv_iload_n hx hb dX4_needPart_4 rfl (lv_at hl 1 rfl) ?_
    refine lv_aload_n hx hb dX4_needPart_5 rfl (lv_at hl 0 rfl) ?_
    refine va_get (D := D) (ci := 4) (v := .ref (ad 1)) (C := RX4) (T := TX4) (N := 10) hx hb hts (inT inX4) hown hK hP 0 ww_0 rfl 2 (by decide) (hts (.fieldLink RX4 12 "BoardMoves" "parts" "LBoardMoves$Parts;") (List.mem_cons_of_mem _ flX4_12)) (fun _ h9 => h9) rfl dX4_needPart_6 ?_
    refine va_get (D := D) (ci := 1) (v := .int (nI pa.2.2.2.2.2.2)) (C := RX1) (T := TX1) (N := 7) hx hb hts (inT inX1) hown hK hP 1 ww_1 rfl 6 (by decide) (hts (.fieldLink RX4 197 "BoardMoves$Parts" "count" "I") (List.mem_cons_of_mem _ flX4_197)) (fun _ h9 => h9) rfl dX4_needPart_9 ?_
    refine lv_icmp_lt (x := zA) (y := (nI pa.2.2.2.2.2.2)) (tgt := 25) hx hb dX4_needPart_12 (by decide) (fun c_2 => ?_) (fun c_2 => ?_)
    · exact absurd ⟨c_1, c_2⟩ hno_zA
    · obtain ⟨sa, hsa⟩ := hZ (238, "no such part") (by decide +kernel)
      exact bx_throw (rest := []) (own := RX4) (cls := "java/lang/IndexOutOfBoundsException") (text := "no such part") (names := bxUp) (ik := 143) (is := 238) (ic := 147) hx hb hlt hown (by decide +kernel) (by decide +kernel) (hts (.classLink RX4 143 "java/lang/IndexOutOfBoundsException") (by decide +kernel)) (hts (.initialized "java/lang/IndexOutOfBoundsException") (by decide +kernel)) hsa (fun w hw => hX w (bx_in_147 w hw) _) (hl.1.trans hml.symm) dX4_needPart_15 dX4_needPart_18 dX4_needPart_19 dX4_needPart_21 dX4_needPart_24 hout (Nat.le_of_ble_eq_true rfl) (Nat.le_of_ble_eq_true rfl) (Nat.le_of_ble_eq_true rfl) (Nat.le_of_ble_eq_true rfl) hlocks

set_option maxHeartbeats 4000000 in
set_option maxRecDepth 100000 in
theorem X_partX {l : Launch} (hlt : l.stackTraces = false) {D : va_G} {ad : Nat → Nat} {cJ cI cZ : ClassId} {bm : gBM} {pa : gPA} {p0 p1 p2 : gPL} {li : gLI} {wi : gWI} {mt : Nat} {ms : gMS} {ma : gMA} {mp : gMP} {mk : gMK} {mn : gMN} {ou : Nat → Int64} {zA zB : Int64} {zC : Int32} (hv : q_pv zA zB zC = false) : bx_T l yX4_part wsX4_part ({ frames := 6, cells := 1, slots := 6, locals := 101 }) (bx_Tp D vwCl [(cJ, .long), (cI, .int), (cZ, .boolean)] (WW ad cJ cI cZ bm pa p0 p1 p2 li wi mt ms ma mp mk mn ou) [.ref (ad 0), .long zA, .long zB, .int zC]) "java/lang/IllegalArgumentException" := by
  refine bx_ofW (cc := cX4_part) (maxL := 6) (ret := (some .int)) (by decide) rfl ?_
  intro p e s m args below meth c s₁ B hml hout hv
  obtain ⟨ha, hP, hK, hX, hZ⟩ := hv
  have hx := B.exec
  have hb := B.bytes
  have hr := B.returns
  have hts := atoms_spec (ws := wsX4_part) B.pre
  have hown : s.vm.findClass RX4 = some m.cls := findClass_of_methodNamed B.named
  have hlocks := B.notSynchronized
  have hl := lv_entry ([.ref (ad 0), .long zA, .long zB, .int zC]) (n := 6) (Nat.le_of_ble_eq_true rfl)
  refine W.eq (g2 := entryFrame m ([.ref (ad 0), .long zA, .long zB, .int zC] : List Value).toArray 6) (by rw [ha]) ?_
  rw [lg_entry_eq]
  generalize (lg_sl ([.ref (ad 0), .long zA, .long zB, .int zC]) ++ List.replicate (6 - (lg_sl ([.ref (ad 0), .long zA, .long zB, .int zC])).length) Slot.unset).toArray = ls at hl ⊢
  have hl : lv_has ls 6 [(0, .ref (ad 0)), (1, .long zA), (3, .long zB), (5, .int zC)] := hl
  refine lv_lload_n hx hb dX4_part_0 rfl (lv_at hl 1 rfl) ?_
  refine bm_rcallS (As := [.long zA]) (rest := []) ⟨hx, hb, hml, hown, hts⟩ (k_len) (cwS 1 hts gsX4_71 rfl rfl rfl hsX4_isLength ⟨Nat.le_of_ble_eq_true rfl, Nat.le_of_ble_eq_true rfl⟩) hK hP rfl hl.1 rfl (Nat.le_of_ble_eq_true rfl) dX4_part_1 ⟨Nat.le_of_ble_eq_true rfl, Nat.le_of_ble_eq_true rfl⟩ ?_
  refine bm_zb_eq (x := (q_len zA)) (tgt := 25) hx hb dX4_part_4 (by decide) (fun c_1 => ?_) (fun c_1 => ?_)
  · obtain ⟨sa, hsa⟩ := hZ (77, "a part is 1 .. 65,536 wide and high, on side 0 or 1") (by decide +kernel)
    exact bx_throw (rest := []) (own := RX4) (cls := "java/lang/IllegalArgumentException") (text := "a part is 1 .. 65,536 wide and high, on side 0 or 1") (names := bxUp) (ik := 75) (is := 77) (ic := 79) hx hb hlt hown (by decide +kernel) (by decide +kernel) (hts (.classLink RX4 75 "java/lang/IllegalArgumentException") (by decide +kernel)) (hts (.initialized "java/lang/IllegalArgumentException") (by decide +kernel)) hsa (fun w hw => hX w (bx_in_79 w hw) _) (hl.1.trans hml.symm) dX4_part_25 dX4_part_28 dX4_part_29 dX4_part_31 dX4_part_34 hout (Nat.le_of_ble_eq_true rfl) (Nat.le_of_ble_eq_true rfl) (Nat.le_of_ble_eq_true rfl) (Nat.le_of_ble_eq_true rfl) hlocks
  · refine lv_lload_n hx hb dX4_part_7 rfl (lv_at hl 2 rfl) ?_
    refine bm_rcallS (As := [.long zB]) (rest := []) ⟨hx, hb, hml, hown, hts⟩ (k_len) (cwS 1 hts gsX4_71 rfl rfl rfl hsX4_isLength ⟨Nat.le_of_ble_eq_true rfl, Nat.le_of_ble_eq_true rfl⟩) hK hP rfl hl.1 rfl (Nat.le_of_ble_eq_true rfl) dX4_part_8 ⟨Nat.le_of_ble_eq_true rfl, Nat.le_of_ble_eq_true rfl⟩ ?_
    refine bm_zb_eq (x := (q_len zB)) (tgt := 25) hx hb dX4_part_11 (by decide) (fun c_2 => ?_) (fun c_2 => ?_)
    · obtain ⟨sa, hsa⟩ := hZ (77, "a part is 1 .. 65,536 wide and high, on side 0 or 1") (by decide +kernel)
      exact bx_throw (rest := []) (own := RX4) (cls := "java/lang/IllegalArgumentException") (text := "a part is 1 .. 65,536 wide and high, on side 0 or 1") (names := bxUp) (ik := 75) (is := 77) (ic := 79) hx hb hlt hown (by decide +kernel) (by decide +kernel) (hts (.classLink RX4 75 "java/lang/IllegalArgumentException") (by decide +kernel)) (hts (.initialized "java/lang/IllegalArgumentException") (by decide +kernel)) hsa (fun w hw => hX w (bx_in_79 w hw) _) (hl.1.trans hml.symm) dX4_part_25 dX4_part_28 dX4_part_29 dX4_part_31 dX4_part_34 hout (Nat.le_of_ble_eq_true rfl) (Nat.le_of_ble_eq_true rfl) (Nat.le_of_ble_eq_true rfl) (Nat.le_of_ble_eq_true rfl) hlocks
    · refine lv_iload hx hb dX4_part_14 (lv_at hl 3 rfl) ?_
      refine lv_if_lt (x := zC) (tgt := 25) hx hb dX4_part_16 (by decide) (fun c_3 => ?_) (fun c_3 => ?_)
      · obtain ⟨sa, hsa⟩ := hZ (77, "a part is 1 .. 65,536 wide and high, on side 0 or 1") (by decide +kernel)
        exact bx_throw (rest := []) (own := RX4) (cls := "java/lang/IllegalArgumentException") (text := "a part is 1 .. 65,536 wide and high, on side 0 or 1") (names := bxUp) (ik := 75) (is := 77) (ic := 79) hx hb hlt hown (by decide +kernel) (by decide +kernel) (hts (.classLink RX4 75 "java/lang/IllegalArgumentException") (by decide +kernel)) (hts (.initialized "java/lang/IllegalArgumentException") (by decide +kernel)) hsa (fun w hw => hX w (bx_in_79 w hw) _) (hl.1.trans hml.symm) dX4_part_25 dX4_part_28 dX4_part_29 dX4_part_31 dX4_part_34 hout (Nat.le_of_ble_eq_true rfl) (Nat.le_of_ble_eq_true rfl) (Nat.le_of_ble_eq_true rfl) (Nat.le_of_ble_eq_true rfl) hlocks
      · refine lv_iload hx hb dX4_part_19 (lv_at hl 3 rfl) ?_
        refine lv_iconst (v := 1) hx hb dX4_part_21 (by decide) ?_
        refine lv_icmp_le (x := zC) (y := 1) (tgt := 35) hx hb dX4_part_22 (by decide) (fun c_4 => ?_) (fun c_4 => ?_)
        · exact absurd hv (by rcases bx_sd c_3 c_4 with h | h <;> simp [q_pv, c_1, c_2, h])
        · obtain ⟨sa, hsa⟩ := hZ (77, "a part is 1 .. 65,536 wide and high, on side 0 or 1") (by decide +kernel)
          exact bx_throw (rest := []) (own := RX4) (cls := "java/lang/IllegalArgumentException") (text := "a part is 1 .. 65,536 wide and high, on side 0 or 1") (names := bxUp) (ik := 75) (is := 77) (ic := 79) hx hb hlt hown (by decide +kernel) (by decide +kernel) (hts (.classLink RX4 75 "java/lang/IllegalArgumentException") (by decide +kernel)) (hts (.initialized "java/lang/IllegalArgumentException") (by decide +kernel)) hsa (fun w hw => hX w (bx_in_79 w hw) _) (hl.1.trans hml.symm) dX4_part_25 dX4_part_28 dX4_part_29 dX4_part_31 dX4_part_34 hout (Nat.le_of_ble_eq_true rfl) (Nat.le_of_ble_eq_true rfl) (Nat.le_of_ble_eq_true rfl) (Nat.le_of_ble_eq_true rfl) hlocks

set_option maxHeartbeats 4000000 in
set_option maxRecDepth 100000 in
theorem X_put1 {l : Launch} (hlt : l.stackTraces = false) {D : va_G} {ad : Nat → Nat} {cJ cI cZ : ClassId} {bm : gBM} {pa : gPA} {p0 p1 p2 : gPL} {li : gLI} {wi : gWI} {mt : Nat} {ms : gMS} {ma : gMA} {mp : gMP} {mk : gMK} {mn : gMN} {ou : Nat → Int64} {zA : Int32} (hno_zA : ¬ (¬ zA < 0 ∧ zA < nI pa.2.2.2.2.2.2)) {zB zC : Int64} {zD : Int32} : bx_T l yX4_put wsX4_put ({ frames := 7, cells := 1, slots := 6, locals := 122 }) (bx_Tp D vwCl [(cJ, .long), (cI, .int), (cZ, .boolean)] (WW ad cJ cI cZ bm pa p0 p1 p2 li wi mt ms ma mp mk mn ou) [.ref (ad 0), .int zA, .long zB, .long zC, .int zD]) "java/lang/IndexOutOfBoundsException" := by
  refine bx_ofW (cc := cX4_put) (maxL := 7) (ret := (some .boolean)) (by decide) rfl ?_
  intro p e s m args below meth c s₁ B hml hout hv
  obtain ⟨ha, hP, hK, hX, hZ⟩ := hv
  have hx := B.exec
  have hb := B.bytes
  have hr := B.returns
  have hts := atoms_spec (ws := wsX4_put) B.pre
  have hown : s.vm.findClass RX4 = some m.cls := findClass_of_methodNamed B.named
  have hlocks := B.notSynchronized
  have hl := lv_entry ([.ref (ad 0), .int zA, .long zB, .long zC, .int zD]) (n := 7) (Nat.le_of_ble_eq_true rfl)
  refine W.eq (g2 := entryFrame m ([.ref (ad 0), .int zA, .long zB, .long zC, .int zD] : List Value).toArray 7) (by rw [ha]) ?_
  rw [lg_entry_eq]
  generalize (lg_sl ([.ref (ad 0), .int zA, .long zB, .long zC, .int zD]) ++ List.replicate (7 - (lg_sl ([.ref (ad 0), .int zA, .long zB, .long zC, .int zD])).length) Slot.unset).toArray = ls at hl ⊢
  have hl : lv_has ls 7 [(0, .ref (ad 0)), (1, .int zA), (2, .long zB), (4, .long zC), (6, .int zD)] := hl
  refine lv_aload_n hx hb dX4_put_0 rfl (lv_at hl 0 rfl) ?_
  refine lv_iload_n hx hb dX4_put_1 rfl (lv_at hl 1 rfl) ?_
  exact bx_leave (bx_tcallV (As := [.int zA]) (rest := []) ⟨hx, hb, hml, hown, hts⟩ (X_needN hlt  (zA := zA) hno_zA) (cwV 1 hts gvX4_86 rfl rfl rfl hvX4_needPart ⟨Nat.le_of_ble_eq_true rfl, Nat.le_of_ble_eq_true rfl⟩) hK hP hX hZ 0 4 rfl ww_0 rfl hl.1 rfl (Nat.le_of_ble_eq_true rfl) dX4_put_2 ⟨Nat.le_of_ble_eq_true rfl, Nat.le_of_ble_eq_true rfl⟩) hout hlocks

set_option maxHeartbeats 4000000 in
set_option maxRecDepth 100000 in
theorem X_put2 {l : Launch} (hlt : l.stackTraces = false) {D : va_G} {ad : Nat → Nat} {cJ cI cZ : ClassId} {bm : gBM} {pa : gPA} {p0 p1 p2 : gPL} {li : gLI} {wi : gWI} {mt : Nat} {ms : gMS} {ma : gMA} {mp : gMP} {mk : gMK} {mn : gMN} {ou : Nat → Int64} (okn : pa.2.2.2.2.2.2 ≤ 40){zA : Nat} (hk_zA : zA < pa.2.2.2.2.2.2) {zB zC : Int64} {zD : Int32} (hno_zD : ¬ (¬ zD < 0 ∧ zD < nI 4)) : bx_T l yX4_put wsX4_put ({ frames := 6, cells := 1, slots := 6, locals := 101 }) (bx_Tp D vwCl [(cJ, .long), (cI, .int), (cZ, .boolean)] (WW ad cJ cI cZ bm pa p0 p1 p2 li wi mt ms ma mp mk mn ou) [.ref (ad 0), .int (nI zA), .long zB, .long zC, .int zD]) "java/lang/IllegalArgumentException" := by
  refine bx_ofW (cc := cX4_put) (maxL := 7) (ret := (some .boolean)) (by decide) rfl ?_
  intro p e s m args below meth c s₁ B hml hout hv
  obtain ⟨ha, hP, hK, hX, hZ⟩ := hv
  have hx := B.exec
  have hb := B.bytes
  have hr := B.returns
  have hts := atoms_spec (ws := wsX4_put) B.pre
  have hown : s.vm.findClass RX4 = some m.cls := findClass_of_methodNamed B.named
  have hlocks := B.notSynchronized
  have hl := lv_entry ([.ref (ad 0), .int (nI zA), .long zB, .long zC, .int zD]) (n := 7) (Nat.le_of_ble_eq_true rfl)
  refine W.eq (g2 := entryFrame m ([.ref (ad 0), .int (nI zA), .long zB, .long zC, .int zD] : List Value).toArray 7) (by rw [ha]) ?_
  rw [lg_entry_eq]
  generalize (lg_sl ([.ref (ad 0), .int (nI zA), .long zB, .long zC, .int zD]) ++ List.replicate (7 - (lg_sl ([.ref (ad 0), .int (nI zA), .long zB, .long zC, .int zD])).length) Slot.unset).toArray = ls at hl ⊢
  have hl : lv_has ls 7 [(0, .ref (ad 0)), (1, .int (nI zA)), (2, .long zB), (4, .long zC), (6, .int zD)] := hl
  refine lv_aload_n hx hb dX4_put_0 rfl (lv_at hl 0 rfl) ?_
  refine lv_iload_n hx hb dX4_put_1 rfl (lv_at hl 1 rfl) ?_
  refine bm_vcallV (As := [.int (nI zA)]) (rest := []) ⟨hx, hb, hml, hown, hts⟩ (X_needY  (zp := zA) okn (by omega)) (cwV 1 hts gvX4_86 rfl rfl rfl hvX4_needPart ⟨Nat.le_of_ble_eq_true rfl, Nat.le_of_ble_eq_true rfl⟩) hK hP 0 4 rfl ww_0 rfl hl.1 rfl (Nat.le_of_ble_eq_true rfl) dX4_put_2 ⟨Nat.le_of_ble_eq_true rfl, Nat.le_of_ble_eq_true rfl⟩ ?_
  refine lv_iload hx hb dX4_put_5 (lv_at hl 4 rfl) ?_
  refine lv_if_lt (x := zD) (tgt := 16) hx hb dX4_put_7 (by decide) (fun c_1 => ?_) (fun c_1 => ?_)
  · obtain ⟨sa, hsa⟩ := hZ (90, "a turn is 0 .. 3") (by decide +kernel)
    exact bx_throw (rest := []) (own := RX4) (cls := "java/lang/IllegalArgumentException") (text := "a turn is 0 .. 3") (names := bxUp) (ik := 75) (is := 90) (ic := 79) hx hb hlt hown (by decide +kernel) (by decide +kernel) (hts (.classLink RX4 75 "java/lang/IllegalArgumentException") (by decide +kernel)) (hts (.initialized "java/lang/IllegalArgumentException") (by decide +kernel)) hsa (fun w hw => hX w (bx_in_79 w hw) _) (hl.1.trans hml.symm) dX4_put_16 dX4_put_19 dX4_put_20 dX4_put_22 dX4_put_25 hout (Nat.le_of_ble_eq_true rfl) (Nat.le_of_ble_eq_true rfl) (Nat.le_of_ble_eq_true rfl) (Nat.le_of_ble_eq_true rfl) hlocks
  · refine lv_iload hx hb dX4_put_10 (lv_at hl 4 rfl) ?_
    refine lv_iconst (v := nI 4) hx hb dX4_put_12 (by decide) ?_
    refine lv_icmp_lt (x := zD) (y := (nI 4)) (tgt := 26) hx hb dX4_put_13 (by decide) (fun c_2 => ?_) (fun c_2 => ?_)
    · exact absurd ⟨c_1, c_2⟩ hno_zD
    · obtain ⟨sa, hsa⟩ := hZ (90, "a turn is 0 .. 3") (by decide +kernel)
      exact bx_throw (rest := []) (own := RX4) (cls := "java/lang/IllegalArgumentException") (text := "a turn is 0 .. 3") (names := bxUp) (ik := 75) (is := 90) (ic := 79) hx hb hlt hown (by decide +kernel) (by decide +kernel) (hts (.classLink RX4 75 "java/lang/IllegalArgumentException") (by decide +kernel)) (hts (.initialized "java/lang/IllegalArgumentException") (by decide +kernel)) hsa (fun w hw => hX w (bx_in_79 w hw) _) (hl.1.trans hml.symm) dX4_put_16 dX4_put_19 dX4_put_20 dX4_put_22 dX4_put_25 hout (Nat.le_of_ble_eq_true rfl) (Nat.le_of_ble_eq_true rfl) (Nat.le_of_ble_eq_true rfl) (Nat.le_of_ble_eq_true rfl) hlocks

set_option maxHeartbeats 4000000 in
set_option maxRecDepth 100000 in
theorem X_lock1 {l : Launch} (hlt : l.stackTraces = false) {D : va_G} {ad : Nat → Nat} {cJ cI cZ : ClassId} {bm : gBM} {pa : gPA} {p0 p1 p2 : gPL} {li : gLI} {wi : gWI} {mt : Nat} {ms : gMS} {ma : gMA} {mp : gMP} {mk : gMK} {mn : gMN} {ou : Nat → Int64} {zA : Int32} (hno_zA : ¬ (¬ zA < 0 ∧ zA < nI pa.2.2.2.2.2.2)) {zB : Bool} : bx_T l yX4_lock wsX4_lock ({ frames := 7, cells := 1, slots := 6, locals := 122 }) (bx_Tp D vwCl [(cJ, .long), (cI, .int), (cZ, .boolean)] (WW ad cJ cI cZ bm pa p0 p1 p2 li wi mt ms ma mp mk mn ou) [.ref (ad 0), .int zA, .int (bm_b zB)]) "java/lang/IndexOutOfBoundsException" := by
  refine bx_ofW (cc := cX4_lock) (maxL := 4) (ret := (some .boolean)) (by decide) rfl ?_
  intro p e s m args below meth c s₁ B hml hout hv
  obtain ⟨ha, hP, hK, hX, hZ⟩ := hv
  have hx := B.exec
  have hb := B.bytes
  have hr := B.returns
  have hts := atoms_spec (ws := wsX4_lock) B.pre
  have hown : s.vm.findClass RX4 = some m.cls := findClass_of_methodNamed B.named
  have hlocks := B.notSynchronized
  have hl := lv_entry ([.ref (ad 0), .int zA, .int (bm_b zB)]) (n := 4) (Nat.le_of_ble_eq_true rfl)
  refine W.eq (g2 := entryFrame m ([.ref (ad 0), .int zA, .int (bm_b zB)] : List Value).toArray 4) (by rw [ha]) ?_
  rw [lg_entry_eq]
  generalize (lg_sl ([.ref (ad 0), .int zA, .int (bm_b zB)]) ++ List.replicate (4 - (lg_sl ([.ref (ad 0), .int zA, .int (bm_b zB)])).length) Slot.unset).toArray = ls at hl ⊢
  have hl : lv_has ls 4 [(0, .ref (ad 0)), (1, .int zA), (2, .int (bm_b zB))] := hl
  refine lv_aload_n hx hb dX4_lock_0 rfl (lv_at hl 0 rfl) ?_
  refine lv_iload_n hx hb dX4_lock_1 rfl (lv_at hl 1 rfl) ?_
  exact bx_leave (bx_tcallV (As := [.int zA]) (rest := []) ⟨hx, hb, hml, hown, hts⟩ (X_needN hlt  (zA := zA) hno_zA) (cwV 1 hts gvX4_86 rfl rfl rfl hvX4_needPart ⟨Nat.le_of_ble_eq_true rfl, Nat.le_of_ble_eq_true rfl⟩) hK hP hX hZ 0 4 rfl ww_0 rfl hl.1 rfl (Nat.le_of_ble_eq_true rfl) dX4_lock_2 ⟨Nat.le_of_ble_eq_true rfl, Nat.le_of_ble_eq_true rfl⟩) hout hlocks

set_option maxHeartbeats 4000000 in
set_option maxRecDepth 100000 in
theorem X_pin1 {l : Launch} (hlt : l.stackTraces = false) {D : va_G} {ad : Nat → Nat} {cJ cI cZ : ClassId} {bm : gBM} {pa : gPA} {p0 p1 p2 : gPL} {li : gLI} {wi : gWI} {mt : Nat} {ms : gMS} {ma : gMA} {mp : gMP} {mk : gMK} {mn : gMN} {ou : Nat → Int64} {zA : Int32} (hno_zA : ¬ (¬ zA < 0 ∧ zA < nI wi.2.2.2.2.2.2.2.2.2.1)) {zB : Int32} {zC zD : Int64} : bx_T l yX4_pin wsX4_pin ({ frames := 6, cells := 1, slots := 6, locals := 101 }) (bx_Tp D vwCl [(cJ, .long), (cI, .int), (cZ, .boolean)] (WW ad cJ cI cZ bm pa p0 p1 p2 li wi mt ms ma mp mk mn ou) [.ref (ad 0), .int zA, .int zB, .long zC, .long zD]) "java/lang/IndexOutOfBoundsException" := by
  refine bx_ofW (cc := cX4_pin) (maxL := 7) (ret := (some .boolean)) (by decide) rfl ?_
  intro p e s m args below meth c s₁ B hml hout hv
  obtain ⟨ha, hP, hK, hX, hZ⟩ := hv
  have hx := B.exec
  have hb := B.bytes
  have hr := B.returns
  have hts := atoms_spec (ws := wsX4_pin) B.pre
  have hown : s.vm.findClass RX4 = some m.cls := findClass_of_methodNamed B.named
  have hlocks := B.notSynchronized
  have hl := lv_entry ([.ref (ad 0), .int zA, .int zB, .long zC, .long zD]) (n := 7) (Nat.le_of_ble_eq_true rfl)
  refine W.eq (g2 := entryFrame m ([.ref (ad 0), .int zA, .int zB, .long zC, .long zD] : List Value).toArray 7) (by rw [ha]) ?_
  rw [lg_entry_eq]
  generalize (lg_sl ([.ref (ad 0), .int zA, .int zB, .long zC, .long zD]) ++ List.replicate (7 - (lg_sl ([.ref (ad 0), .int zA, .int zB, .long zC, .long zD])).length) Slot.unset).toArray = ls at hl ⊢
  have hl : lv_has ls 7 [(0, .ref (ad 0)), (1, .int zA), (2, .int zB), (3, .long zC), (5, .long zD)] := hl
  refine lv_iload_n hx hb dX4_pin_0 rfl (lv_at hl 1 rfl) ?_
  refine lv_if_lt (x := zA) (tgt := 15) hx hb dX4_pin_1 (by decide) (fun c_1 => ?_) (fun c_1 => ?_)
  · obtain ⟨sa, hsa⟩ := hZ (145, "no such net") (by decide +kernel)
    exact bx_throw (rest := []) (own := RX4) (cls := "java/lang/IndexOutOfBoundsException") (text := "no such net") (names := bxUp) (ik := 143) (is := 145) (ic := 147) hx hb hlt hown (by decide +kernel) (by decide +kernel) (hts (.classLink RX4 143 "java/lang/IndexOutOfBoundsException") (by decide +kernel)) (hts (.initialized "java/lang/IndexOutOfBoundsException") (by decide +kernel)) hsa (fun w hw => hX w (bx_in_147 w hw) _) (hl.1.trans hml.symm) dX4_pin_15 dX4_pin_18 dX4_pin_19 dX4_pin_21 dX4_pin_24 hout (Nat.le_of_ble_eq_true rfl) (Nat.le_of_ble_eq_true rfl) (Nat.le_of_ble_eq_true rfl) (Nat.le_of_ble_eq_true rfl) hlocks
  · refine lv_iload_n hx hb dX4_pin_4 rfl (lv_at hl 1 rfl) ?_
    refine lv_aload_n hx hb dX4_pin_5 rfl (lv_at hl 0 rfl) ?_
    refine va_get (D := D) (ci := 4) (v := .ref (ad 32)) (C := RX4) (T := TX4) (N := 10) hx hb hts (inT inX4) hown hK hP 0 ww_0 rfl 4 (by decide) (hts (.fieldLink RX4 30 "BoardMoves" "wiring" "LBoardMoves$Wiring;") (List.mem_cons_of_mem _ flX4_30)) (fun _ h9 => h9) rfl dX4_pin_6 ?_
    refine va_get (D := D) (ci := 3) (v := .int (nI wi.2.2.2.2.2.2.2.2.2.1)) (C := RX3) (T := TX3) (N := 12) hx hb hts (inT inX3) hown hK hP 32 ww_32 rfl 10 (by decide) (hts (.fieldLink RX4 139 "BoardMoves$Wiring" "nets" "I") (List.mem_cons_of_mem _ flX4_139)) (fun _ h9 => h9) rfl dX4_pin_9 ?_
    refine lv_icmp_lt (x := zA) (y := (nI wi.2.2.2.2.2.2.2.2.2.1)) (tgt := 25) hx hb dX4_pin_12 (by decide) (fun c_2 => ?_) (fun c_2 => ?_)
    · exact absurd ⟨c_1, c_2⟩ hno_zA
    · obtain ⟨sa, hsa⟩ := hZ (145, "no such net") (by decide +kernel)
      exact bx_throw (rest := []) (own := RX4) (cls := "java/lang/IndexOutOfBoundsException") (text := "no such net") (names := bxUp) (ik := 143) (is := 145) (ic := 147) hx hb hlt hown (by decide +kernel) (by decide +kernel) (hts (.classLink RX4 143 "java/lang/IndexOutOfBoundsException") (by decide +kernel)) (hts (.initialized "java/lang/IndexOutOfBoundsException") (by decide +kernel)) hsa (fun w hw => hX w (bx_in_147 w hw) _) (hl.1.trans hml.symm) dX4_pin_15 dX4_pin_18 dX4_pin_19 dX4_pin_21 dX4_pin_24 hout (Nat.le_of_ble_eq_true rfl) (Nat.le_of_ble_eq_true rfl) (Nat.le_of_ble_eq_true rfl) (Nat.le_of_ble_eq_true rfl) hlocks

set_option maxHeartbeats 4000000 in
set_option maxRecDepth 100000 in
theorem X_pin2 {l : Launch} (hlt : l.stackTraces = false) {D : va_G} {ad : Nat → Nat} {cJ cI cZ : ClassId} {bm : gBM} {pa : gPA} {p0 p1 p2 : gPL} {li : gLI} {wi : gWI} {mt : Nat} {ms : gMS} {ma : gMA} {mp : gMP} {mk : gMK} {mn : gMN} {ou : Nat → Int64} (okw : wi.2.2.2.2.2.2.2.2.2.1 ≤ 40) {zA : Nat} (hk_zA : zA < wi.2.2.2.2.2.2.2.2.2.1){zB : Int32} (hno_zB : ¬ (¬ zB < 0 ∧ zB < nI pa.2.2.2.2.2.2)) {zC zD : Int64} : bx_T l yX4_pin wsX4_pin ({ frames := 7, cells := 1, slots := 6, locals := 122 }) (bx_Tp D vwCl [(cJ, .long), (cI, .int), (cZ, .boolean)] (WW ad cJ cI cZ bm pa p0 p1 p2 li wi mt ms ma mp mk mn ou) [.ref (ad 0), .int (nI zA), .int zB, .long zC, .long zD]) "java/lang/IndexOutOfBoundsException" := by
  refine bx_ofW (cc := cX4_pin) (maxL := 7) (ret := (some .boolean)) (by decide) rfl ?_
  intro p e s m args below meth c s₁ B hml hout hv
  obtain ⟨ha, hP, hK, hX, hZ⟩ := hv
  have hx := B.exec
  have hb := B.bytes
  have hr := B.returns
  have hts := atoms_spec (ws := wsX4_pin) B.pre
  have hown : s.vm.findClass RX4 = some m.cls := findClass_of_methodNamed B.named
  have hlocks := B.notSynchronized
  have hl := lv_entry ([.ref (ad 0), .int (nI zA), .int zB, .long zC, .long zD]) (n := 7) (Nat.le_of_ble_eq_true rfl)
  refine W.eq (g2 := entryFrame m ([.ref (ad 0), .int (nI zA), .int zB, .long zC, .long zD] : List Value).toArray 7) (by rw [ha]) ?_
  rw [lg_entry_eq]
  generalize (lg_sl ([.ref (ad 0), .int (nI zA), .int zB, .long zC, .long zD]) ++ List.replicate (7 - (lg_sl ([.ref (ad 0), .int (nI zA), .int zB, .long zC, .long zD])).length) Slot.unset).toArray = ls at hl ⊢
  have hl : lv_has ls 7 [(0, .ref (ad 0)), (1, .int (nI zA)), (2, .int zB), (3, .long zC), (5, .long zD)] := hl
  refine lv_iload_n hx hb dX4_pin_0 rfl (lv_at hl 1 rfl) ?_
  refine lv_if_lt (x := (nI zA)) (tgt := 15) hx hb dX4_pin_1 (by decide) (fun c_1 => ?_) (fun c_1 => ?_)
  · exact absurd c_1 (bx_nn (by omega))
  · refine lv_iload_n hx hb dX4_pin_4 rfl (lv_at hl 1 rfl) ?_
    refine lv_aload_n hx hb dX4_pin_5 rfl (lv_at hl 0 rfl) ?_
    refine va_get (D := D) (ci := 4) (v := .ref (ad 32)) (C := RX4) (T := TX4) (N := 10) hx hb hts (inT inX4) hown hK hP 0 ww_0 rfl 4 (by decide) (hts (.fieldLink RX4 30 "BoardMoves" "wiring" "LBoardMoves$Wiring;") (List.mem_cons_of_mem _ flX4_30)) (fun _ h9 => h9) rfl dX4_pin_6 ?_
    refine va_get (D := D) (ci := 3) (v := .int (nI wi.2.2.2.2.2.2.2.2.2.1)) (C := RX3) (T := TX3) (N := 12) hx hb hts (inT inX3) hown hK hP 32 ww_32 rfl 10 (by decide) (hts (.fieldLink RX4 139 "BoardMoves$Wiring" "nets" "I") (List.mem_cons_of_mem _ flX4_139)) (fun _ h9 => h9) rfl dX4_pin_9 ?_
    refine bm_ni_lt (x := zA) (y := wi.2.2.2.2.2.2.2.2.2.1) (tgt := 25) hx hb (by omega) (by omega) dX4_pin_12 (by decide) (fun c_2 => ?_) (fun c_2 => ?_)
    · refine lv_aload_n hx hb dX4_pin_25 rfl (lv_at hl 0 rfl) ?_
      refine lv_iload_n hx hb dX4_pin_26 rfl (lv_at hl 2 rfl) ?_
      exact bx_leave (bx_tcallV (As := [.int zB]) (rest := []) ⟨hx, hb, hml, hown, hts⟩ (X_needN hlt  (zA := zB) hno_zB) (cwV 1 hts gvX4_86 rfl rfl rfl hvX4_needPart ⟨Nat.le_of_ble_eq_true rfl, Nat.le_of_ble_eq_true rfl⟩) hK hP hX hZ 0 4 rfl ww_0 rfl hl.1 rfl (Nat.le_of_ble_eq_true rfl) dX4_pin_27 ⟨Nat.le_of_ble_eq_true rfl, Nat.le_of_ble_eq_true rfl⟩) hout hlocks
    · exact absurd hk_zA c_2

set_option maxHeartbeats 4000000 in
set_option maxRecDepth 100000 in
theorem X_pin3 {l : Launch} (hlt : l.stackTraces = false) {D : va_G} {ad : Nat → Nat} {cJ cI cZ : ClassId} {bm : gBM} {pa : gPA} {p0 p1 p2 : gPL} {li : gLI} {wi : gWI} {mt : Nat} {ms : gMS} {ma : gMA} {mp : gMP} {mk : gMK} {mn : gMN} {ou : Nat → Int64} (okn : pa.2.2.2.2.2.2 ≤ 40)(okw : wi.2.2.2.2.2.2.2.2.2.1 ≤ 40) {zA : Nat} (hk_zA : zA < wi.2.2.2.2.2.2.2.2.2.1){zB : Nat} (hk_zB : zB < pa.2.2.2.2.2.2) {zC zD : Int64} (hv : q_in zC (pa.1 zB) zD (pa.2.1 zB) = false) : bx_T l yX4_pin wsX4_pin ({ frames := 6, cells := 1, slots := 6, locals := 101 }) (bx_Tp D vwCl [(cJ, .long), (cI, .int), (cZ, .boolean)] (WW ad cJ cI cZ bm pa p0 p1 p2 li wi mt ms ma mp mk mn ou) [.ref (ad 0), .int (nI zA), .int (nI zB), .long zC, .long zD]) "java/lang/IllegalArgumentException" := by
  refine bx_ofW (cc := cX4_pin) (maxL := 7) (ret := (some .boolean)) (by decide) rfl ?_
  intro p e s m args below meth c s₁ B hml hout hv
  obtain ⟨ha, hP, hK, hX, hZ⟩ := hv
  have hx := B.exec
  have hb := B.bytes
  have hr := B.returns
  have hts := atoms_spec (ws := wsX4_pin) B.pre
  have hown : s.vm.findClass RX4 = some m.cls := findClass_of_methodNamed B.named
  have hlocks := B.notSynchronized
  have hl := lv_entry ([.ref (ad 0), .int (nI zA), .int (nI zB), .long zC, .long zD]) (n := 7) (Nat.le_of_ble_eq_true rfl)
  refine W.eq (g2 := entryFrame m ([.ref (ad 0), .int (nI zA), .int (nI zB), .long zC, .long zD] : List Value).toArray 7) (by rw [ha]) ?_
  rw [lg_entry_eq]
  generalize (lg_sl ([.ref (ad 0), .int (nI zA), .int (nI zB), .long zC, .long zD]) ++ List.replicate (7 - (lg_sl ([.ref (ad 0), .int (nI zA), .int (nI zB), .long zC, .long zD])).length) Slot.unset).toArray = ls at hl ⊢
  have hl : lv_has ls 7 [(0, .ref (ad 0)), (1, .int (nI zA)), (2, .int (nI zB)), (3, .long zC), (5, .long zD)] := hl
  refine lv_iload_n hx hb dX4_pin_0 rfl (lv_at hl 1 rfl) ?_
  refine lv_if_lt (x := (nI zA)) (tgt := 15) hx hb dX4_pin_1 (by decide) (fun c_1 => ?_) (fun c_1 => ?_)
  · exact absurd c_1 (bx_nn (by omega))
  · refine lv_iload_n hx hb dX4_pin_4 rfl (lv_at hl 1 rfl) ?_
    refine lv_aload_n hx hb dX4_pin_5 rfl (lv_at hl 0 rfl) ?_
    refine va_get (D := D) (ci := 4) (v := .ref (ad 32)) (C := RX4) (T := TX4) (N := 10) hx hb hts (inT inX4) hown hK hP 0 ww_0 rfl 4 (by decide) (hts (.fieldLink RX4 30 "BoardMoves" "wiring" "LBoardMoves$Wiring;") (List.mem_cons_of_mem _ flX4_30)) (fun _ h9 => h9) rfl dX4_pin_6 ?_
    refine va_get (D := D) (ci := 3) (v := .int (nI wi.2.2.2.2.2.2.2.2.2.1)) (C := RX3) (T := TX3) (N := 12) hx hb hts (inT inX3) hown hK hP 32 ww_32 rfl 10 (by decide) (hts (.fieldLink RX4 139 "BoardMoves$Wiring" "nets" "I") (List.mem_cons_of_mem _ flX4_139)) (fun _ h9 => h9) rfl dX4_pin_9 ?_
    refine bm_ni_lt (x := zA) (y := wi.2.2.2.2.2.2.2.2.2.1) (tgt := 25) hx hb (by omega) (by omega) dX4_pin_12 (by decide) (fun c_2 => ?_) (fun c_2 => ?_)
    · refine lv_aload_n hx hb dX4_pin_25 rfl (lv_at hl 0 rfl) ?_
      refine lv_iload_n hx hb dX4_pin_26 rfl (lv_at hl 2 rfl) ?_
      refine bm_vcallV (As := [.int (nI zB)]) (rest := []) ⟨hx, hb, hml, hown, hts⟩ (X_needY  (zp := zB) okn (by omega)) (cwV 1 hts gvX4_86 rfl rfl rfl hvX4_needPart ⟨Nat.le_of_ble_eq_true rfl, Nat.le_of_ble_eq_true rfl⟩) hK hP 0 4 rfl ww_0 rfl hl.1 rfl (Nat.le_of_ble_eq_true rfl) dX4_pin_27 ⟨Nat.le_of_ble_eq_true rfl, Nat.le_of_ble_eq_true rfl⟩ ?_
      refine lv_lload_n hx hb dX4_pin_30 rfl (lv_at hl 3 rfl) ?_
      refine lv_lconst (v := 0) hx hb dX4_pin_31 (by decide) ?_
      refine bm_lc_lt (x := zC) (y := 0) (tgt := 72) hx hb dX4_pin_32 dX4_pin_33 (by decide) (fun c_3 => ?_) (fun c_3 => ?_)
      · obtain ⟨sa, hsa⟩ := hZ (154, "a pin lies in its part") (by decide +kernel)
        exact bx_throw (rest := []) (own := RX4) (cls := "java/lang/IllegalArgumentException") (text := "a pin lies in its part") (names := bxUp) (ik := 75) (is := 154) (ic := 79) hx hb hlt hown (by decide +kernel) (by decide +kernel) (hts (.classLink RX4 75 "java/lang/IllegalArgumentException") (by decide +kernel)) (hts (.initialized "java/lang/IllegalArgumentException") (by decide +kernel)) hsa (fun w hw => hX w (bx_in_79 w hw) _) (hl.1.trans hml.symm) dX4_pin_72 dX4_pin_75 dX4_pin_76 dX4_pin_78 dX4_pin_81 hout (Nat.le_of_ble_eq_true rfl) (Nat.le_of_ble_eq_true rfl) (Nat.le_of_ble_eq_true rfl) (Nat.le_of_ble_eq_true rfl) hlocks
      · refine lv_lload_n hx hb dX4_pin_36 rfl (lv_at hl 3 rfl) ?_
        refine lv_aload_n hx hb dX4_pin_37 rfl (lv_at hl 0 rfl) ?_
        refine va_get (D := D) (ci := 4) (v := .ref (ad 1)) (C := RX4) (T := TX4) (N := 10) hx hb hts (inT inX4) hown hK hP 0 ww_0 rfl 2 (by decide) (hts (.fieldLink RX4 12 "BoardMoves" "parts" "LBoardMoves$Parts;") (List.mem_cons_of_mem _ flX4_12)) (fun _ h9 => h9) rfl dX4_pin_38 ?_
        refine va_get (D := D) (ci := 1) (v := .ref (ad 2)) (C := RX1) (T := TX1) (N := 7) hx hb hts (inT inX1) hown hK hP 1 ww_1 rfl 0 (by decide) (hts (.fieldLink RX4 148 "BoardMoves$Parts" "w" "[J") (List.mem_cons_of_mem _ flX4_148)) (fun _ h9 => h9) rfl dX4_pin_41 ?_
        refine lv_iload_n hx hb dX4_pin_44 rfl (lv_at hl 2 rfl) ?_
        refine bm_lald (f := pa.1) hx hb hK hP 2 0 ww_2 rfl (j := zB) (by omega) (by decide) dX4_pin_45 ?_
        refine bm_lc_gt (x := zC) (y := (pa.1 zB)) (tgt := 72) hx hb dX4_pin_46 dX4_pin_47 (by decide) (fun c_4 => ?_) (fun c_4 => ?_)
        · obtain ⟨sa, hsa⟩ := hZ (154, "a pin lies in its part") (by decide +kernel)
          exact bx_throw (rest := []) (own := RX4) (cls := "java/lang/IllegalArgumentException") (text := "a pin lies in its part") (names := bxUp) (ik := 75) (is := 154) (ic := 79) hx hb hlt hown (by decide +kernel) (by decide +kernel) (hts (.classLink RX4 75 "java/lang/IllegalArgumentException") (by decide +kernel)) (hts (.initialized "java/lang/IllegalArgumentException") (by decide +kernel)) hsa (fun w hw => hX w (bx_in_79 w hw) _) (hl.1.trans hml.symm) dX4_pin_72 dX4_pin_75 dX4_pin_76 dX4_pin_78 dX4_pin_81 hout (Nat.le_of_ble_eq_true rfl) (Nat.le_of_ble_eq_true rfl) (Nat.le_of_ble_eq_true rfl) (Nat.le_of_ble_eq_true rfl) hlocks
        · refine lv_lload hx hb dX4_pin_50 (lv_at hl 4 rfl) ?_
          refine lv_lconst (v := 0) hx hb dX4_pin_52 (by decide) ?_
          refine bm_lc_lt (x := zD) (y := 0) (tgt := 72) hx hb dX4_pin_53 dX4_pin_54 (by decide) (fun c_5 => ?_) (fun c_5 => ?_)
          · obtain ⟨sa, hsa⟩ := hZ (154, "a pin lies in its part") (by decide +kernel)
            exact bx_throw (rest := []) (own := RX4) (cls := "java/lang/IllegalArgumentException") (text := "a pin lies in its part") (names := bxUp) (ik := 75) (is := 154) (ic := 79) hx hb hlt hown (by decide +kernel) (by decide +kernel) (hts (.classLink RX4 75 "java/lang/IllegalArgumentException") (by decide +kernel)) (hts (.initialized "java/lang/IllegalArgumentException") (by decide +kernel)) hsa (fun w hw => hX w (bx_in_79 w hw) _) (hl.1.trans hml.symm) dX4_pin_72 dX4_pin_75 dX4_pin_76 dX4_pin_78 dX4_pin_81 hout (Nat.le_of_ble_eq_true rfl) (Nat.le_of_ble_eq_true rfl) (Nat.le_of_ble_eq_true rfl) (Nat.le_of_ble_eq_true rfl) hlocks
          · refine lv_lload hx hb dX4_pin_57 (lv_at hl 4 rfl) ?_
            refine lv_aload_n hx hb dX4_pin_59 rfl (lv_at hl 0 rfl) ?_
            refine va_get (D := D) (ci := 4) (v := .ref (ad 1)) (C := RX4) (T := TX4) (N := 10) hx hb hts (inT inX4) hown hK hP 0 ww_0 rfl 2 (by decide) (hts (.fieldLink RX4 12 "BoardMoves" "parts" "LBoardMoves$Parts;") (List.mem_cons_of_mem _ flX4_12)) (fun _ h9 => h9) rfl dX4_pin_60 ?_
            refine va_get (D := D) (ci := 1) (v := .ref (ad 3)) (C := RX1) (T := TX1) (N := 7) hx hb hts (inT inX1) hown hK hP 1 ww_1 rfl 1 (by decide) (hts (.fieldLink RX4 151 "BoardMoves$Parts" "h" "[J") (List.mem_cons_of_mem _ flX4_151)) (fun _ h9 => h9) rfl dX4_pin_63 ?_
            refine lv_iload_n hx hb dX4_pin_66 rfl (lv_at hl 2 rfl) ?_
            refine bm_lald (f := pa.2.1) hx hb hK hP 3 0 ww_3 rfl (j := zB) (by omega) (by decide) dX4_pin_67 ?_
            refine bm_lc_le (x := zD) (y := (pa.2.1 zB)) (tgt := 82) hx hb dX4_pin_68 dX4_pin_69 (by decide) (fun c_6 => ?_) (fun c_6 => ?_)
            · exact absurd hv (by simp [q_in, c_3, c_4, c_5, c_6])
            · obtain ⟨sa, hsa⟩ := hZ (154, "a pin lies in its part") (by decide +kernel)
              exact bx_throw (rest := []) (own := RX4) (cls := "java/lang/IllegalArgumentException") (text := "a pin lies in its part") (names := bxUp) (ik := 75) (is := 154) (ic := 79) hx hb hlt hown (by decide +kernel) (by decide +kernel) (hts (.classLink RX4 75 "java/lang/IllegalArgumentException") (by decide +kernel)) (hts (.initialized "java/lang/IllegalArgumentException") (by decide +kernel)) hsa (fun w hw => hX w (bx_in_79 w hw) _) (hl.1.trans hml.symm) dX4_pin_72 dX4_pin_75 dX4_pin_76 dX4_pin_78 dX4_pin_81 hout (Nat.le_of_ble_eq_true rfl) (Nat.le_of_ble_eq_true rfl) (Nat.le_of_ble_eq_true rfl) (Nat.le_of_ble_eq_true rfl) hlocks
    · exact absurd hk_zA c_2

set_option maxHeartbeats 4000000 in
set_option maxRecDepth 100000 in
theorem X_push1 {l : Launch} (hlt : l.stackTraces = false) {D : va_G} {ad : Nat → Nat} {cJ cI cZ : ClassId} {bm : gBM} {pa : gPA} {p0 p1 p2 : gPL} {li : gLI} {wi : gWI} {mt : Nat} {ms : gMS} {ma : gMA} {mp : gMP} {mk : gMK} {mn : gMN} {ou : Nat → Int64} {zA : Int32} (hno_zA : ¬ (¬ zA < 0 ∧ zA < nI pa.2.2.2.2.2.2)) {zB zC : Int64} : bx_T l yX4_push wsX4_push ({ frames := 7, cells := 1, slots := 6, locals := 122 }) (bx_Tp D vwCl [(cJ, .long), (cI, .int), (cZ, .boolean)] (WW ad cJ cI cZ bm pa p0 p1 p2 li wi mt ms ma mp mk mn ou) [.ref (ad 0), .int zA, .long zB, .long zC]) "java/lang/IndexOutOfBoundsException" := by
  refine bx_ofW (cc := cX4_push) (maxL := 13) (ret := (some .int)) (by decide) rfl ?_
  intro p e s m args below meth c s₁ B hml hout hv
  obtain ⟨ha, hP, hK, hX, hZ⟩ := hv
  have hx := B.exec
  have hb := B.bytes
  have hr := B.returns
  have hts := atoms_spec (ws := wsX4_push) B.pre
  have hown : s.vm.findClass RX4 = some m.cls := findClass_of_methodNamed B.named
  have hlocks := B.notSynchronized
  have hl := lv_entry ([.ref (ad 0), .int zA, .long zB, .long zC]) (n := 13) (Nat.le_of_ble_eq_true rfl)
  refine W.eq (g2 := entryFrame m ([.ref (ad 0), .int zA, .long zB, .long zC] : List Value).toArray 13) (by rw [ha]) ?_
  rw [lg_entry_eq]
  generalize (lg_sl ([.ref (ad 0), .int zA, .long zB, .long zC]) ++ List.replicate (13 - (lg_sl ([.ref (ad 0), .int zA, .long zB, .long zC])).length) Slot.unset).toArray = ls at hl ⊢
  have hl : lv_has ls 13 [(0, .ref (ad 0)), (1, .int zA), (2, .long zB), (4, .long zC)] := hl
  refine lv_aload_n hx hb dX4_push_0 rfl (lv_at hl 0 rfl) ?_
  refine lv_iload_n hx hb dX4_push_1 rfl (lv_at hl 1 rfl) ?_
  exact bx_leave (bx_tcallV (As := [.int zA]) (rest := []) ⟨hx, hb, hml, hown, hts⟩ (X_needN hlt  (zA := zA) hno_zA) (cwV 1 hts gvX4_86 rfl rfl rfl hvX4_needPart ⟨Nat.le_of_ble_eq_true rfl, Nat.le_of_ble_eq_true rfl⟩) hK hP hX hZ 0 4 rfl ww_0 rfl hl.1 rfl (Nat.le_of_ble_eq_true rfl) dX4_push_2 ⟨Nat.le_of_ble_eq_true rfl, Nat.le_of_ble_eq_true rfl⟩) hout hlocks

set_option maxHeartbeats 4000000 in
set_option maxRecDepth 100000 in
theorem X_push2 {l : Launch} (hlt : l.stackTraces = false) {D : va_G} {ad : Nat → Nat} {cJ cI cZ : ClassId} {bm : gBM} {pa : gPA} {p0 p1 p2 : gPL} {li : gLI} {wi : gWI} {mt : Nat} {ms : gMS} {ma : gMA} {mp : gMP} {mk : gMK} {mn : gMN} {ou : Nat → Int64} (okn : pa.2.2.2.2.2.2 ≤ 40){zA : Nat} (hk_zA : zA < pa.2.2.2.2.2.2) {zB zC : Int64} (hq : p0.2.2.2 zA = false) : bx_T l yX4_push wsX4_push ({ frames := 6, cells := 1, slots := 6, locals := 101 }) (bx_Tp D vwCl [(cJ, .long), (cI, .int), (cZ, .boolean)] (WW ad cJ cI cZ bm pa p0 p1 p2 li wi mt ms ma mp mk mn ou) [.ref (ad 0), .int (nI zA), .long zB, .long zC]) "java/lang/IllegalStateException" := by
  refine bx_ofW (cc := cX4_push) (maxL := 13) (ret := (some .int)) (by decide) rfl ?_
  intro p e s m args below meth c s₁ B hml hout hv
  obtain ⟨ha, hP, hK, hX, hZ⟩ := hv
  have hx := B.exec
  have hb := B.bytes
  have hr := B.returns
  have hts := atoms_spec (ws := wsX4_push) B.pre
  have hown : s.vm.findClass RX4 = some m.cls := findClass_of_methodNamed B.named
  have hlocks := B.notSynchronized
  have hl := lv_entry ([.ref (ad 0), .int (nI zA), .long zB, .long zC]) (n := 13) (Nat.le_of_ble_eq_true rfl)
  refine W.eq (g2 := entryFrame m ([.ref (ad 0), .int (nI zA), .long zB, .long zC] : List Value).toArray 13) (by rw [ha]) ?_
  rw [lg_entry_eq]
  generalize (lg_sl ([.ref (ad 0), .int (nI zA), .long zB, .long zC]) ++ List.replicate (13 - (lg_sl ([.ref (ad 0), .int (nI zA), .long zB, .long zC])).length) Slot.unset).toArray = ls at hl ⊢
  have hl : lv_has ls 13 [(0, .ref (ad 0)), (1, .int (nI zA)), (2, .long zB), (4, .long zC)] := hl
  refine lv_aload_n hx hb dX4_push_0 rfl (lv_at hl 0 rfl) ?_
  refine lv_iload_n hx hb dX4_push_1 rfl (lv_at hl 1 rfl) ?_
  refine bm_vcallV (As := [.int (nI zA)]) (rest := []) ⟨hx, hb, hml, hown, hts⟩ (X_needY  (zp := zA) okn (by omega)) (cwV 1 hts gvX4_86 rfl rfl rfl hvX4_needPart ⟨Nat.le_of_ble_eq_true rfl, Nat.le_of_ble_eq_true rfl⟩) hK hP 0 4 rfl ww_0 rfl hl.1 rfl (Nat.le_of_ble_eq_true rfl) dX4_push_2 ⟨Nat.le_of_ble_eq_true rfl, Nat.le_of_ble_eq_true rfl⟩ ?_
  refine lv_aload_n hx hb dX4_push_5 rfl (lv_at hl 0 rfl) ?_
  refine va_get (D := D) (ci := 4) (v := .ref (ad 8)) (C := RX4) (T := TX4) (N := 10) hx hb hts (inT inX4) hown hK hP 0 ww_0 rfl 5 (by decide) (hts (.fieldLink RX4 37 "BoardMoves" "now" "LBoardMoves$Placement;") (List.mem_cons_of_mem _ flX4_37)) (fun _ h9 => h9) rfl dX4_push_6 ?_
  refine va_get (D := D) (ci := 2) (v := .ref (ad 12)) (C := RX2) (T := TX2) (N := 5) hx hb hts (inT inX2) hown hK hP 8 ww_8 rfl 4 (by decide) (hts (.fieldLink RX4 96 "BoardMoves$Placement" "placed" "[Z") (List.mem_cons_of_mem _ flX4_96)) (fun _ h9 => h9) rfl dX4_push_9 ?_
  refine lv_iload_n hx hb dX4_push_12 rfl (lv_at hl 1 rfl) ?_
  refine bm_zald (f := p0.2.2.2) hx hb hK hP 12 2 ww_12 rfl (j := zA) (by omega) (by decide) dX4_push_13 ?_
  refine bm_zb_ne (x := (p0.2.2.2 zA)) (tgt := 27) hx hb dX4_push_14 (by decide) (fun c_1 => ?_) (fun c_1 => ?_)
  · exact absurd (hq.symm.trans c_1) (by decide)
  · obtain ⟨sa, hsa⟩ := hZ (166, "the part is not placed") (by decide +kernel)
    exact bx_throw (rest := []) (own := RX4) (cls := "java/lang/IllegalStateException") (text := "the part is not placed") (names := bxUp) (ik := 164) (is := 166) (ic := 168) hx hb hlt hown (by decide +kernel) (by decide +kernel) (hts (.classLink RX4 164 "java/lang/IllegalStateException") (by decide +kernel)) (hts (.initialized "java/lang/IllegalStateException") (by decide +kernel)) hsa (fun w hw => hX w (bx_in_168 w hw) _) (hl.1.trans hml.symm) dX4_push_17 dX4_push_20 dX4_push_21 dX4_push_23 dX4_push_26 hout (Nat.le_of_ble_eq_true rfl) (Nat.le_of_ble_eq_true rfl) (Nat.le_of_ble_eq_true rfl) (Nat.le_of_ble_eq_true rfl) hlocks
