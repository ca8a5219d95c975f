set_option maxHeartbeats 4000000 in
set_option maxRecDepth 100000 in
theorem r_endX {l : Launch} {D : va_G} {ad : Nat → Nat} {cJ cI cZ : ClassId} {bm : gBM} {pa : gPA} {p0 p1 p2 : gPL} {li : gLI} {wi : gWI} {mt : Nat} {ms : gMS} {ma : gMA} {mp : gMP} {mk : gMK} {mn : gMN} {ou : Nat → Int64} (hoL : q_okL p0) {j : Nat} (h1 : j < 40) : bm_Rd l yX2_endX wsX2_endX ({ frames := 0, cells := 0, slots := 0, locals := 0 }) D vwCl [(cJ, .long), (cI, .int), (cZ, .boolean)] (WW ad cJ cI cZ bm pa p0 p1 p2 li wi mt ms ma mp mk mn ou) [.ref (ad 8), .int (nI j)] (.long (q_endX pa p0 j)) := by
  refine Met.ofW (cc := cX2_endX) (maxL := 2) (ret := (some .long)) (by decide) rfl ?_
  intro p e s m args below meth c s₁ B hml hv
  obtain ⟨ha, hP, hK⟩ := hv
  have hx := B.exec
  have hb := B.bytes
  have hr := B.returns
  have hts := atoms_spec (ws := wsX2_endX) B.pre
  have hown : s.vm.findClass RX2 = some m.cls := findClass_of_methodNamed B.named
  have hlocks := B.notSynchronized
  have hl := lv_entry ([.ref (ad 8), .int (nI j)]) (n := 2) (Nat.le_of_ble_eq_true rfl)
  refine W.eq (g2 := entryFrame m ([.ref (ad 8), .int (nI j)] : List Value).toArray 2) (by rw [ha]) ?_
  rw [lg_entry_eq]
  generalize (lg_sl ([.ref (ad 8), .int (nI j)]) ++ List.replicate (2 - (lg_sl ([.ref (ad 8), .int (nI j)])).length) Slot.unset).toArray = ls at hl ⊢
  have hl : lv_has ls 2 [(0, .ref (ad 8)), (1, .int (nI j))] := hl
  refine lv_aload_n hx hb dX2_endX_0 rfl (lv_at hl 0 rfl) ?_
  refine va_get (D := D) (ci := 2) (v := .ref (ad 9)) (C := RX2) (T := TX2) (N := 5) hx hb hts (inT inX2) hown hK hP 8 ww_8 rfl 1 (by decide) (hts (.fieldLink RX2 9 "BoardMoves$Placement" "x" "[J") (List.mem_cons_of_mem _ flX2_9)) (fun _ h9 => h9) rfl dX2_endX_1 ?_
  refine lv_iload_n hx hb dX2_endX_4 rfl (lv_at hl 1 rfl) ?_
  refine bm_lald (f := p0.1) hx hb hK hP 9 0 ww_9 rfl (j := j) (by omega) (by decide) dX2_endX_5 ?_
  refine lv_aload_n hx hb dX2_endX_6 rfl (lv_at hl 0 rfl) ?_
  refine va_get (D := D) (ci := 2) (v := .ref (ad 11)) (C := RX2) (T := TX2) (N := 5) hx hb hts (inT inX2) hown hK hP 8 ww_8 rfl 3 (by decide) (hts (.fieldLink RX2 18 "BoardMoves$Placement" "turn" "[I") (List.mem_cons_of_mem _ flX2_18)) (fun _ h9 => h9) rfl dX2_endX_7 ?_
  refine lv_iload_n hx hb dX2_endX_10 rfl (lv_at hl 1 rfl) ?_
  refine bm_nald (f := p0.2.2.1) hx hb hK hP 11 1 ww_11 rfl (j := j) (by omega) (by decide) dX2_endX_11 ?_
  refine lv_iconst (v := nI 2) hx hb dX2_endX_12 (by decide) ?_
  refine bm_nrem hx hb (bm40 (hoL _)) (by decide) (by decide) dX2_endX_13 ?_
  refine bm_nz_ne (x := ((p0.2.2.1 j) % 2)) (tgt := 29) hx hb (by have := hoL j; omega) dX2_endX_14 (by decide) (fun c_1 => ?_) (fun c_1 => ?_)
  · refine lv_aload_n hx hb dX2_endX_29 rfl (lv_at hl 0 rfl) ?_
    refine va_get (D := D) (ci := 2) (v := .ref (ad 1)) (C := RX2) (T := TX2) (N := 5) hx hb hts (inT inX2) hown hK hP 8 ww_8 rfl 0 (by decide) (hts (.fieldLink RX2 26 "BoardMoves$Placement" "parts" "LBoardMoves$Parts;") (List.mem_cons_of_mem _ flX2_26)) (fun _ h9 => h9) rfl dX2_endX_30 ?_
    refine va_get (D := D) (ci := 1) (v := .ref (ad 3)) (C := RX1) (T := TX1) (N := 7) hx hb hts (inT inX1) hown hK hP 1 ww_1 rfl 1 (by decide) (hts (.fieldLink RX2 43 "BoardMoves$Parts" "h" "[J") (List.mem_cons_of_mem _ flX2_43)) (fun _ h9 => h9) rfl dX2_endX_33 ?_
    refine lv_iload_n hx hb dX2_endX_36 rfl (lv_at hl 1 rfl) ?_
    refine bm_lald (f := pa.2.1) hx hb hK hP 3 0 ww_3 rfl (j := j) (by omega) (by decide) dX2_endX_37 ?_
    refine lv_ladd hx hb dX2_endX_38 ?_
    exact bm_lretR (v := ((p0.1 j) + (pa.2.1 j))) hx hb hr (by simp [q_endX, c_1]) dX2_endX_39 hlocks
  · refine lv_aload_n hx hb dX2_endX_17 rfl (lv_at hl 0 rfl) ?_
    refine va_get (D := D) (ci := 2) (v := .ref (ad 1)) (C := RX2) (T := TX2) (N := 5) hx hb hts (inT inX2) hown hK hP 8 ww_8 rfl 0 (by decide) (hts (.fieldLink RX2 26 "BoardMoves$Placement" "parts" "LBoardMoves$Parts;") (List.mem_cons_of_mem _ flX2_26)) (fun _ h9 => h9) rfl dX2_endX_18 ?_
    refine va_get (D := D) (ci := 1) (v := .ref (ad 2)) (C := RX1) (T := TX1) (N := 7) hx hb hts (inT inX1) hown hK hP 1 ww_1 rfl 0 (by decide) (hts (.fieldLink RX2 40 "BoardMoves$Parts" "w" "[J") (List.mem_cons_of_mem _ flX2_40)) (fun _ h9 => h9) rfl dX2_endX_21 ?_
    refine lv_iload_n hx hb dX2_endX_24 rfl (lv_at hl 1 rfl) ?_
    refine bm_lald (f := pa.1) hx hb hK hP 2 0 ww_2 rfl (j := j) (by omega) (by decide) dX2_endX_25 ?_
    refine lv_goto (tgt := 38) hx hb dX2_endX_26 (by decide) ?_
    refine lv_ladd hx hb dX2_endX_38 ?_
    exact bm_lretR (v := ((p0.1 j) + (pa.1 j))) hx hb hr (by simp [q_endX, c_1]) dX2_endX_39 hlocks

set_option maxHeartbeats 4000000 in
set_option maxRecDepth 100000 in
theorem r_endY {l : Launch} {D : va_G} {ad : Nat → Nat} {cJ cI cZ : ClassId} {bm : gBM} {pa : gPA} {p0 p1 p2 : gPL} {li : gLI} {wi : gWI} {mt : Nat} {ms : gMS} {ma : gMA} {mp : gMP} {mk : gMK} {mn : gMN} {ou : Nat → Int64} (hoL : q_okL p0) {j : Nat} (h1 : j < 40) : bm_Rd l yX2_endY wsX2_endY ({ frames := 0, cells := 0, slots := 0, locals := 0 }) D vwCl [(cJ, .long), (cI, .int), (cZ, .boolean)] (WW ad cJ cI cZ bm pa p0 p1 p2 li wi mt ms ma mp mk mn ou) [.ref (ad 8), .int (nI j)] (.long (q_endY pa p0 j)) := by
  refine Met.ofW (cc := cX2_endY) (maxL := 2) (ret := (some .long)) (by decide) rfl ?_
  intro p e s m args below meth c s₁ B hml hv
  obtain ⟨ha, hP, hK⟩ := hv
  have hx := B.exec
  have hb := B.bytes
  have hr := B.returns
  have hts := atoms_spec (ws := wsX2_endY) B.pre
  have hown : s.vm.findClass RX2 = some m.cls := findClass_of_methodNamed B.named
  have hlocks := B.notSynchronized
  have hl := lv_entry ([.ref (ad 8), .int (nI j)]) (n := 2) (Nat.le_of_ble_eq_true rfl)
  refine W.eq (g2 := entryFrame m ([.ref (ad 8), .int (nI j)] : List Value).toArray 2) (by rw [ha]) ?_
  rw [lg_entry_eq]
  generalize (lg_sl ([.ref (ad 8), .int (nI j)]) ++ List.replicate (2 - (lg_sl ([.ref (ad 8), .int (nI j)])).length) Slot.unset).toArray = ls at hl ⊢
  have hl : lv_has ls 2 [(0, .ref (ad 8)), (1, .int (nI j))] := hl
  refine lv_aload_n hx hb dX2_endY_0 rfl (lv_at hl 0 rfl) ?_
  refine va_get (D := D) (ci := 2) (v := .ref (ad 10)) (C := RX2) (T := TX2) (N := 5) hx hb hts (inT inX2) hown hK hP 8 ww_8 rfl 2 (by decide) (hts (.fieldLink RX2 15 "BoardMoves$Placement" "y" "[J") (List.mem_cons_of_mem _ flX2_15)) (fun _ h9 => h9) rfl dX2_endY_1 ?_
  refine lv_iload_n hx hb dX2_endY_4 rfl (lv_at hl 1 rfl) ?_
  refine bm_lald (f := p0.2.1) hx hb hK hP 10 0 ww_10 rfl (j := j) (by omega) (by decide) dX2_endY_5 ?_
  refine lv_aload_n hx hb dX2_endY_6 rfl (lv_at hl 0 rfl) ?_
  refine va_get (D := D) (ci := 2) (v := .ref (ad 11)) (C := RX2) (T := TX2) (N := 5) hx hb hts (inT inX2) hown hK hP 8 ww_8 rfl 3 (by decide) (hts (.fieldLink RX2 18 "BoardMoves$Placement" "turn" "[I") (List.mem_cons_of_mem _ flX2_18)) (fun _ h9 => h9) rfl dX2_endY_7 ?_
  refine lv_iload_n hx hb dX2_endY_10 rfl (lv_at hl 1 rfl) ?_
  refine bm_nald (f := p0.2.2.1) hx hb hK hP 11 1 ww_11 rfl (j := j) (by omega) (by decide) dX2_endY_11 ?_
  refine lv_iconst (v := nI 2) hx hb dX2_endY_12 (by decide) ?_
  refine bm_nrem hx hb (bm40 (hoL _)) (by decide) (by decide) dX2_endY_13 ?_
  refine bm_nz_ne (x := ((p0.2.2.1 j) % 2)) (tgt := 29) hx hb (by have := hoL j; omega) dX2_endY_14 (by decide) (fun c_1 => ?_) (fun c_1 => ?_)
  · refine lv_aload_n hx hb dX2_endY_29 rfl (lv_at hl 0 rfl) ?_
    refine va_get (D := D) (ci := 2) (v := .ref (ad 1)) (C := RX2) (T := TX2) (N := 5) hx hb hts (inT inX2) hown hK hP 8 ww_8 rfl 0 (by decide) (hts (.fieldLink RX2 26 "BoardMoves$Placement" "parts" "LBoardMoves$Parts;") (List.mem_cons_of_mem _ flX2_26)) (fun _ h9 => h9) rfl dX2_endY_30 ?_
    refine va_get (D := D) (ci := 1) (v := .ref (ad 2)) (C := RX1) (T := TX1) (N := 7) hx hb hts (inT inX1) hown hK hP 1 ww_1 rfl 0 (by decide) (hts (.fieldLink RX2 40 "BoardMoves$Parts" "w" "[J") (List.mem_cons_of_mem _ flX2_40)) (fun _ h9 => h9) rfl dX2_endY_33 ?_
    refine lv_iload_n hx hb dX2_endY_36 rfl (lv_at hl 1 rfl) ?_
    refine bm_lald (f := pa.1) hx hb hK hP 2 0 ww_2 rfl (j := j) (by omega) (by decide) dX2_endY_37 ?_
    refine lv_ladd hx hb dX2_endY_38 ?_
    exact bm_lretR (v := ((p0.2.1 j) + (pa.1 j))) hx hb hr (by simp [q_endY, c_1]) dX2_endY_39 hlocks
  · refine lv_aload_n hx hb dX2_endY_17 rfl (lv_at hl 0 rfl) ?_
    refine va_get (D := D) (ci := 2) (v := .ref (ad 1)) (C := RX2) (T := TX2) (N := 5) hx hb hts (inT inX2) hown hK hP 8 ww_8 rfl 0 (by decide) (hts (.fieldLink RX2 26 "BoardMoves$Placement" "parts" "LBoardMoves$Parts;") (List.mem_cons_of_mem _ flX2_26)) (fun _ h9 => h9) rfl dX2_endY_18 ?_
    refine va_get (D := D) (ci := 1) (v := .ref (ad 3)) (C := RX1) (T := TX1) (N := 7) hx hb hts (inT inX1) hown hK hP 1 ww_1 rfl 1 (by decide) (hts (.fieldLink RX2 43 "BoardMoves$Parts" "h" "[J") (List.mem_cons_of_mem _ flX2_43)) (fun _ h9 => h9) rfl dX2_endY_21 ?_
    refine lv_iload_n hx hb dX2_endY_24 rfl (lv_at hl 1 rfl) ?_
    refine bm_lald (f := pa.2.1) hx hb hK hP 3 0 ww_3 rfl (j := j) (by omega) (by decide) dX2_endY_25 ?_
    refine lv_goto (tgt := 38) hx hb dX2_endY_26 (by decide) ?_
    refine lv_ladd hx hb dX2_endY_38 ?_
    exact bm_lretR (v := ((p0.2.1 j) + (pa.2.1 j))) hx hb hr (by simp [q_endY, c_1]) dX2_endY_39 hlocks

set_option maxHeartbeats 4000000 in
set_option maxRecDepth 100000 in
theorem r_meets {l : Launch} {D : va_G} {ad : Nat → Nat} {cJ cI cZ : ClassId} {bm : gBM} {pa : gPA} {p0 p1 p2 : gPL} {li : gLI} {wi : gWI} {mt : Nat} {ms : gMS} {ma : gMA} {mp : gMP} {mk : gMK} {mn : gMN} {ou : Nat → Int64} (hoL : q_okL p0) {j : Nat} (h1 : j < 40) {x0 y0 x1 y1 : Int64} : bm_Rd l yX2_meetsArea wsX2_meetsArea ({ frames := 1, cells := 0, slots := 0, locals := 21 }) D vwCl [(cJ, .long), (cI, .int), (cZ, .boolean)] (WW ad cJ cI cZ bm pa p0 p1 p2 li wi mt ms ma mp mk mn ou) [.ref (ad 8), .int (nI j), .long x0, .long y0, .long x1, .long y1] (.int (bm_b (q_meets pa p0 j x0 y0 x1 y1))) := by
  refine Met.ofW (cc := cX2_meetsArea) (maxL := 10) (ret := (some .boolean)) (by decide) rfl ?_
  intro p e s m args below meth c s₁ B hml hv
  obtain ⟨ha, hP, hK⟩ := hv
  have hx := B.exec
  have hb := B.bytes
  have hr := B.returns
  have hts := atoms_spec (ws := wsX2_meetsArea) B.pre
  have hown : s.vm.findClass RX2 = some m.cls := findClass_of_methodNamed B.named
  have hlocks := B.notSynchronized
  have hl := lv_entry ([.ref (ad 8), .int (nI j), .long x0, .long y0, .long x1, .long y1]) (n := 10) (Nat.le_of_ble_eq_true rfl)
  refine W.eq (g2 := entryFrame m ([.ref (ad 8), .int (nI j), .long x0, .long y0, .long x1, .long y1] : List Value).toArray 10) (by rw [ha]) ?_
  rw [lg_entry_eq]
  generalize (lg_sl ([.ref (ad 8), .int (nI j), .long x0, .long y0, .long x1, .long y1]) ++ List.replicate (10 - (lg_sl ([.ref (ad 8), .int (nI j), .long x0, .long y0, .long x1, .long y1])).length) Slot.unset).toArray = ls at hl ⊢
  have hl : lv_has ls 10 [(0, .ref (ad 8)), (1, .int (nI j)), (2, .long x0), (4, .long y0), (6, .long x1), (8, .long y1)] := hl
  refine lv_aload_n hx hb dX2_meetsArea_0 rfl (lv_at hl 0 rfl) ?_
  refine va_get (D := D) (ci := 2) (v := .ref (ad 12)) (C := RX2) (T := TX2) (N := 5) hx hb hts (inT inX2) hown hK hP 8 ww_8 rfl 4 (by decide) (hts (.fieldLink RX2 22 "BoardMoves$Placement" "placed" "[Z") (List.mem_cons_of_mem _ flX2_22)) (fun _ h9 => h9) rfl dX2_meetsArea_1 ?_
  refine lv_iload_n hx hb dX2_meetsArea_4 rfl (lv_at hl 1 rfl) ?_
  refine bm_zald (f := p0.2.2.2) hx hb hK hP 12 2 ww_12 rfl (j := j) (by omega) (by decide) dX2_meetsArea_5 ?_
  refine bm_zb_eq (x := (p0.2.2.2 j)) (tgt := 58) hx hb dX2_meetsArea_6 (by decide) (fun c_1 => ?_) (fun c_1 => ?_)
  · refine lv_iconst (v := bm_b false) hx hb dX2_meetsArea_58 (by decide) ?_
    exact bm_zretR (v := false) hx hb hr (by simp [q_meets, c_1]) dX2_meetsArea_59 hlocks
  · refine lv_aload_n hx hb dX2_meetsArea_9 rfl (lv_at hl 0 rfl) ?_
    refine va_get (D := D) (ci := 2) (v := .ref (ad 9)) (C := RX2) (T := TX2) (N := 5) hx hb hts (inT inX2) hown hK hP 8 ww_8 rfl 1 (by decide) (hts (.fieldLink RX2 9 "BoardMoves$Placement" "x" "[J") (List.mem_cons_of_mem _ flX2_9)) (fun _ h9 => h9) rfl dX2_meetsArea_10 ?_
    refine lv_iload_n hx hb dX2_meetsArea_13 rfl (lv_at hl 1 rfl) ?_
    refine bm_lald (f := p0.1) hx hb hK hP 9 0 ww_9 rfl (j := j) (by omega) (by decide) dX2_meetsArea_14 ?_
    refine lv_lload hx hb dX2_meetsArea_15 (lv_at hl 4 rfl) ?_
    refine bm_lc_ge (x := (p0.1 j)) (y := x1) (tgt := 58) hx hb dX2_meetsArea_17 dX2_meetsArea_18 (by decide) (fun c_2 => ?_) (fun c_2 => ?_)
    · refine lv_iconst (v := bm_b false) hx hb dX2_meetsArea_58 (by decide) ?_
      exact bm_zretR (v := false) hx hb hr (by simp [q_meets, c_1, c_2]) dX2_meetsArea_59 hlocks
    · refine lv_lload_n hx hb dX2_meetsArea_21 rfl (lv_at hl 2 rfl) ?_
      refine lv_aload_n hx hb dX2_meetsArea_22 rfl (lv_at hl 0 rfl) ?_
      refine lv_iload_n hx hb dX2_meetsArea_23 rfl (lv_at hl 1 rfl) ?_
      refine bm_rcallV (As := [.int (nI j)]) (rest := [.long x0]) ⟨hx, hb, hml, hown, hts⟩ (r_endX (j := j) hoL (by omega)) (cwV 1 hts gvX2_46 rfl rfl rfl hvX2_endX ⟨Nat.le_of_ble_eq_true rfl, Nat.le_of_ble_eq_true rfl⟩) hK hP 8 2 rfl ww_8 rfl hl.1 rfl (Nat.le_of_ble_eq_true rfl) dX2_meetsArea_24 ⟨Nat.le_of_ble_eq_true rfl, Nat.le_of_ble_eq_true rfl⟩ ?_
      refine bm_lc_ge (x := x0) (y := (q_endX pa p0 j)) (tgt := 58) hx hb dX2_meetsArea_27 dX2_meetsArea_28 (by decide) (fun c_3 => ?_) (fun c_3 => ?_)
      · refine lv_iconst (v := bm_b false) hx hb dX2_meetsArea_58 (by decide) ?_
        exact bm_zretR (v := false) hx hb hr (by simp [q_meets, c_1, c_2, c_3]) dX2_meetsArea_59 hlocks
      · refine lv_aload_n hx hb dX2_meetsArea_31 rfl (lv_at hl 0 rfl) ?_
        refine va_get (D := D) (ci := 2) (v := .ref (ad 10)) (C := RX2) (T := TX2) (N := 5) hx hb hts (inT inX2) hown hK hP 8 ww_8 rfl 2 (by decide) (hts (.fieldLink RX2 15 "BoardMoves$Placement" "y" "[J") (List.mem_cons_of_mem _ flX2_15)) (fun _ h9 => h9) rfl dX2_meetsArea_32 ?_
        refine lv_iload_n hx hb dX2_meetsArea_35 rfl (lv_at hl 1 rfl) ?_
        refine bm_lald (f := p0.2.1) hx hb hK hP 10 0 ww_10 rfl (j := j) (by omega) (by decide) dX2_meetsArea_36 ?_
        refine lv_lload hx hb dX2_meetsArea_37 (lv_at hl 5 rfl) ?_
        refine bm_lc_ge (x := (p0.2.1 j)) (y := y1) (tgt := 58) hx hb dX2_meetsArea_39 dX2_meetsArea_40 (by decide) (fun c_4 => ?_) (fun c_4 => ?_)
        · refine lv_iconst (v := bm_b false) hx hb dX2_meetsArea_58 (by decide) ?_
          exact bm_zretR (v := false) hx hb hr (by simp [q_meets, c_1, c_2, c_3, c_4]) dX2_meetsArea_59 hlocks
        · refine lv_lload hx hb dX2_meetsArea_43 (lv_at hl 3 rfl) ?_
          refine lv_aload_n hx hb dX2_meetsArea_45 rfl (lv_at hl 0 rfl) ?_
          refine lv_iload_n hx hb dX2_meetsArea_46 rfl (lv_at hl 1 rfl) ?_
          refine bm_rcallV (As := [.int (nI j)]) (rest := [.long y0]) ⟨hx, hb, hml, hown, hts⟩ (r_endY (j := j) hoL (by omega)) (cwV 1 hts gvX2_50 rfl rfl rfl hvX2_endY ⟨Nat.le_of_ble_eq_true rfl, Nat.le_of_ble_eq_true rfl⟩) hK hP 8 2 rfl ww_8 rfl hl.1 rfl (Nat.le_of_ble_eq_true rfl) dX2_meetsArea_47 ⟨Nat.le_of_ble_eq_true rfl, Nat.le_of_ble_eq_true rfl⟩ ?_
          refine bm_lc_ge (x := y0) (y := (q_endY pa p0 j)) (tgt := 58) hx hb dX2_meetsArea_50 dX2_meetsArea_51 (by decide) (fun c_5 => ?_) (fun c_5 => ?_)
          · refine lv_iconst (v := bm_b false) hx hb dX2_meetsArea_58 (by decide) ?_
            exact bm_zretR (v := false) hx hb hr (by simp [q_meets, c_1, c_2, c_3, c_4, c_5]) dX2_meetsArea_59 hlocks
          · refine lv_iconst (v := bm_b true) hx hb dX2_meetsArea_54 (by decide) ?_
            refine lv_goto (tgt := 59) hx hb dX2_meetsArea_55 (by decide) ?_
            exact bm_zretR (v := true) hx hb hr (by simp [q_meets, c_1, c_2, c_3, c_4, c_5]) dX2_meetsArea_59 hlocks

set_option maxHeartbeats 4000000 in
set_option maxRecDepth 100000 in
theorem r_over {l : Launch} {D : va_G} {ad : Nat → Nat} {cJ cI cZ : ClassId} {bm : gBM} {pa : gPA} {p0 p1 p2 : gPL} {li : gLI} {wi : gWI} {mt : Nat} {ms : gMS} {ma : gMA} {mp : gMP} {mk : gMK} {mn : gMN} {ou : Nat → Int64} (hoA : q_okA pa) (hoL : q_okL p0) {j f : Nat} (h1 : j < 40) (h2 : f ≤ 40) : bm_Rd l yX2_overlapped wsX2_overlapped ({ frames := 2, cells := 0, slots := 0, locals := 50 }) D vwCl [(cJ, .long), (cI, .int), (cZ, .boolean)] (WW ad cJ cI cZ bm pa p0 p1 p2 li wi mt ms ma mp mk mn ou) [.ref (ad 8), .int (nI j), .int (nI f)] (.int (q_opt (q_over pa p0 j f))) := by
  obtain ⟨hn, hsd, hlw⟩ := hoA
  refine Met.ofW (cc := cX2_overlapped) (maxL := 8) (ret := (some .int)) (by decide) rfl ?_
  intro p e s m args below meth c s₁ B hml hv
  obtain ⟨ha, hP, hK⟩ := hv
  have hx := B.exec
  have hb := B.bytes
  have hr := B.returns
  have hts := atoms_spec (ws := wsX2_overlapped) B.pre
  have hown : s.vm.findClass RX2 = some m.cls := findClass_of_methodNamed B.named
  have hlocks := B.notSynchronized
  have lp : ∀ (k : Nat) (i : Nat), i ≤ 40 → 41 < i + k → q_find (q_ov pa p0 j) (pa.2.2.2.2.2.2 - i) i = q_over pa p0 j f → ∀ (ls : Array Slot), lv_has ls 8 [(0, .ref (ad 8)), (1, .int (nI j)), (3, .long (q_endX pa p0 j)), (5, .long (q_endY pa p0 j)), (7, .int (nI i))] → W p l e (headSpec wsX2_overlapped ({ frames := 2, cells := 0, slots := 0, locals := 50 })).room s m args below meth c s.heap [] 0 0 (MQ below (k2_QcV (.int (q_opt (q_over pa p0 j f)))) args s 0 0 (fun _ => False)) (F0 m 16 ls []) := by
    intro k
    induction k with
    | zero => intro i hi hk he; exfalso; omega
    | succ k ih =>
      intro i hi hk he ls hl
      refine lv_iload hx hb dX2_overlapped_16 (lv_at hl 4 rfl) ?_
      refine lv_aload_n hx hb dX2_overlapped_18 rfl (lv_at hl 0 rfl) ?_
      refine va_get (D := D) (ci := 2) (v := .ref (ad 1)) (C := RX2) (T := TX2) (N := 5) hx hb hts (inT inX2) hown hK hP 8 ww_8 rfl 0 (by decide) (hts (.fieldLink RX2 26 "BoardMoves$Placement" "parts" "LBoardMoves$Parts;") (List.mem_cons_of_mem _ flX2_26)) (fun _ h9 => h9) rfl dX2_overlapped_19 ?_
      refine va_get (D := D) (ci := 1) (v := .int (nI pa.2.2.2.2.2.2)) (C := RX1) (T := TX1) (N := 7) hx hb hts (inT inX1) hown hK hP 1 ww_1 rfl 6 (by decide) (hts (.fieldLink RX2 30 "BoardMoves$Parts" "count" "I") (List.mem_cons_of_mem _ flX2_30)) (fun _ h9 => h9) rfl dX2_overlapped_22 ?_
      refine bm_ni_ge (x := i) (y := pa.2.2.2.2.2.2) (tgt := 89) hx hb (by omega) (by omega) dX2_overlapped_25 (by decide) (fun c_1 => ?_) (fun c_1 => ?_)
      · refine lv_iconst (v := -1) hx hb dX2_overlapped_89 (by decide) ?_
        exact bm_iretR (v := (-1)) hx hb hr (by rw [← he, q_find_end (by assumption)]; rfl) dX2_overlapped_90 hlocks
      · refine lv_iload hx hb dX2_overlapped_28 (lv_at hl 4 rfl) ?_
        refine lv_iload_n hx hb dX2_overlapped_30 rfl (lv_at hl 1 rfl) ?_
        refine bm_ni_eq (x := i) (y := j) (tgt := 83) hx hb (by omega) (by omega) dX2_overlapped_31 (by decide) (fun c_2 => ?_) (fun c_2 => ?_)
        · refine lv_iinc (v := (nI (i + 1))) (lv' := [(7, .int (nI (i + 1))), (0, .ref (ad 8)), (1, .int (nI j)), (3, .long (q_endX pa p0 j)), (5, .long (q_endY pa p0 j))]) hx hb dX2_overlapped_83 hl (k := 4) rfl (nI_1 i) (by decide) rfl (fun ls hl => ?_)
          refine lv_goto (tgt := 16) hx hb dX2_overlapped_86 (by decide) ?_
          exact ih (i + 1) (by omega) (by omega) (by rw [← he]; exact q_find_go (by assumption) (by simp [q_ov, c_2])) _ (lv_sub hl [1, 2, 3, 4, 0] rfl)
        · refine lv_aload_n hx hb dX2_overlapped_34 rfl (lv_at hl 0 rfl) ?_
          refine va_get (D := D) (ci := 2) (v := .ref (ad 1)) (C := RX2) (T := TX2) (N := 5) hx hb hts (inT inX2) hown hK hP 8 ww_8 rfl 0 (by decide) (hts (.fieldLink RX2 26 "BoardMoves$Placement" "parts" "LBoardMoves$Parts;") (List.mem_cons_of_mem _ flX2_26)) (fun _ h9 => h9) rfl dX2_overlapped_35 ?_
          refine va_get (D := D) (ci := 1) (v := .ref (ad 4)) (C := RX1) (T := TX1) (N := 7) hx hb hts (inT inX1) hown hK hP 1 ww_1 rfl 2 (by decide) (hts (.fieldLink RX2 53 "BoardMoves$Parts" "side" "[I") (List.mem_cons_of_mem _ flX2_53)) (fun _ h9 => h9) rfl dX2_overlapped_38 ?_
          refine lv_iload hx hb dX2_overlapped_41 (lv_at hl 4 rfl) ?_
          refine bm_nald (f := pa.2.2.1) hx hb hK hP 4 1 ww_4 rfl (j := i) (by omega) (by decide) dX2_overlapped_43 ?_
          refine lv_aload_n hx hb dX2_overlapped_44 rfl (lv_at hl 0 rfl) ?_
          refine va_get (D := D) (ci := 2) (v := .ref (ad 1)) (C := RX2) (T := TX2) (N := 5) hx hb hts (inT inX2) hown hK hP 8 ww_8 rfl 0 (by decide) (hts (.fieldLink RX2 26 "BoardMoves$Placement" "parts" "LBoardMoves$Parts;") (List.mem_cons_of_mem _ flX2_26)) (fun _ h9 => h9) rfl dX2_overlapped_45 ?_
          refine va_get (D := D) (ci := 1) (v := .ref (ad 4)) (C := RX1) (T := TX1) (N := 7) hx hb hts (inT inX1) hown hK hP 1 ww_1 rfl 2 (by decide) (hts (.fieldLink RX2 53 "BoardMoves$Parts" "side" "[I") (List.mem_cons_of_mem _ flX2_53)) (fun _ h9 => h9) rfl dX2_overlapped_48 ?_
          refine lv_iload_n hx hb dX2_overlapped_51 rfl (lv_at hl 1 rfl) ?_
          refine bm_nald (f := pa.2.2.1) hx hb hK hP 4 1 ww_4 rfl (j := j) (by omega) (by decide) dX2_overlapped_52 ?_
          refine bm_ni_ne (x := (pa.2.2.1 i)) (y := (pa.2.2.1 j)) (tgt := 83) hx hb (bm40 (hsd _)) (bm40 (hsd _)) dX2_overlapped_53 (by decide) (fun c_3 => ?_) (fun c_3 => ?_)
          · refine lv_iinc (v := (nI (i + 1))) (lv' := [(7, .int (nI (i + 1))), (0, .ref (ad 8)), (1, .int (nI j)), (3, .long (q_endX pa p0 j)), (5, .long (q_endY pa p0 j))]) hx hb dX2_overlapped_83 hl (k := 4) rfl (nI_1 i) (by decide) rfl (fun ls hl => ?_)
            refine lv_goto (tgt := 16) hx hb dX2_overlapped_86 (by decide) ?_
            exact ih (i + 1) (by omega) (by omega) (by rw [← he]; exact q_find_go (by assumption) (by simp [q_ov, c_2, c_3])) _ (lv_sub hl [1, 2, 3, 4, 0] rfl)
          · refine lv_aload_n hx hb dX2_overlapped_56 rfl (lv_at hl 0 rfl) ?_
            refine lv_iload hx hb dX2_overlapped_57 (lv_at hl 4 rfl) ?_
            refine lv_aload_n hx hb dX2_overlapped_59 rfl (lv_at hl 0 rfl) ?_
            refine va_get (D := D) (ci := 2) (v := .ref (ad 9)) (C := RX2) (T := TX2) (N := 5) hx hb hts (inT inX2) hown hK hP 8 ww_8 rfl 1 (by decide) (hts (.fieldLink RX2 9 "BoardMoves$Placement" "x" "[J") (List.mem_cons_of_mem _ flX2_9)) (fun _ h9 => h9) rfl dX2_overlapped_60 ?_
            refine lv_iload_n hx hb dX2_overlapped_63 rfl (lv_at hl 1 rfl) ?_
            refine bm_lald (f := p0.1) hx hb hK hP 9 0 ww_9 rfl (j := j) (by omega) (by decide) dX2_overlapped_64 ?_
            refine lv_aload_n hx hb dX2_overlapped_65 rfl (lv_at hl 0 rfl) ?_
            refine va_get (D := D) (ci := 2) (v := .ref (ad 10)) (C := RX2) (T := TX2) (N := 5) hx hb hts (inT inX2) hown hK hP 8 ww_8 rfl 2 (by decide) (hts (.fieldLink RX2 15 "BoardMoves$Placement" "y" "[J") (List.mem_cons_of_mem _ flX2_15)) (fun _ h9 => h9) rfl dX2_overlapped_66 ?_
            refine lv_iload_n hx hb dX2_overlapped_69 rfl (lv_at hl 1 rfl) ?_
            refine bm_lald (f := p0.2.1) hx hb hK hP 10 0 ww_10 rfl (j := j) (by omega) (by decide) dX2_overlapped_70 ?_
            refine lv_lload_n hx hb dX2_overlapped_71 rfl (lv_at hl 2 rfl) ?_
            refine lv_lload hx hb dX2_overlapped_72 (lv_at hl 3 rfl) ?_
            refine bm_rcallV (As := [.int (nI i), .long (p0.1 j), .long (p0.2.1 j), .long (q_endX pa p0 j), .long (q_endY pa p0 j)]) (rest := []) ⟨hx, hb, hml, hown, hts⟩ (r_meets (j := i) hoL (by omega)) (cwV 5 hts gvX2_56 rfl rfl rfl hvX2_meetsArea ⟨Nat.le_of_ble_eq_true rfl, Nat.le_of_ble_eq_true rfl⟩) hK hP 8 2 rfl ww_8 rfl hl.1 rfl (Nat.le_of_ble_eq_true rfl) dX2_overlapped_74 ⟨Nat.le_of_ble_eq_true rfl, Nat.le_of_ble_eq_true rfl⟩ ?_
            refine bm_zb_eq (x := (q_meets pa p0 i (p0.1 j) (p0.2.1 j) (q_endX pa p0 j) (q_endY pa p0 j))) (tgt := 83) hx hb dX2_overlapped_77 (by decide) (fun c_4 => ?_) (fun c_4 => ?_)
            · refine lv_iinc (v := (nI (i + 1))) (lv' := [(7, .int (nI (i + 1))), (0, .ref (ad 8)), (1, .int (nI j)), (3, .long (q_endX pa p0 j)), (5, .long (q_endY pa p0 j))]) hx hb dX2_overlapped_83 hl (k := 4) rfl (nI_1 i) (by decide) rfl (fun ls hl => ?_)
              refine lv_goto (tgt := 16) hx hb dX2_overlapped_86 (by decide) ?_
              exact ih (i + 1) (by omega) (by omega) (by rw [← he]; exact q_find_go (by assumption) (by simp [q_ov, c_2, c_3, c_4])) _ (lv_sub hl [1, 2, 3, 4, 0] rfl)
            · refine lv_iload hx hb dX2_overlapped_80 (lv_at hl 4 rfl) ?_
              exact bm_iretR (v := (nI i)) hx hb hr (by rw [← he, q_find_hit (by assumption) (by simp [q_ov, c_2, c_3, c_4])]; rfl) dX2_overlapped_82 hlocks
  have hl := lv_entry ([.ref (ad 8), .int (nI j), .int (nI f)]) (n := 8) (Nat.le_of_ble_eq_true rfl)
  refine W.eq (g2 := entryFrame m ([.ref (ad 8), .int (nI j), .int (nI f)] : List Value).toArray 8) (by rw [ha]) ?_
  rw [lg_entry_eq]
  generalize (lg_sl ([.ref (ad 8), .int (nI j), .int (nI f)]) ++ List.replicate (8 - (lg_sl ([.ref (ad 8), .int (nI j), .int (nI f)])).length) Slot.unset).toArray = ls at hl ⊢
  have hl : lv_has ls 8 [(0, .ref (ad 8)), (1, .int (nI j)), (2, .int (nI f))] := hl
  refine lv_aload_n hx hb dX2_overlapped_0 rfl (lv_at hl 0 rfl) ?_
  refine lv_iload_n hx hb dX2_overlapped_1 rfl (lv_at hl 1 rfl) ?_
  refine bm_rcallV (As := [.int (nI j)]) (rest := []) ⟨hx, hb, hml, hown, hts⟩ (r_endX (j := j) hoL (by omega)) (cwV 1 hts gvX2_46 rfl rfl rfl hvX2_endX ⟨Nat.le_of_ble_eq_true rfl, Nat.le_of_ble_eq_true rfl⟩) hK hP 8 2 rfl ww_8 rfl hl.1 rfl (Nat.le_of_ble_eq_true rfl) dX2_overlapped_2 ⟨Nat.le_of_ble_eq_true rfl, Nat.le_of_ble_eq_true rfl⟩ ?_
  refine lv_lstore_n (lv' := [(3, .long (q_endX pa p0 j)), (0, .ref (ad 8)), (1, .int (nI j)), (2, .int (nI f))]) hx hb dX2_overlapped_5 rfl hl (by decide) rfl (fun ls hl => ?_)
  refine lv_aload_n hx hb dX2_overlapped_6 rfl (lv_at hl 1 rfl) ?_
  refine lv_iload_n hx hb dX2_overlapped_7 rfl (lv_at hl 2 rfl) ?_
  refine bm_rcallV (As := [.int (nI j)]) (rest := []) ⟨hx, hb, hml, hown, hts⟩ (r_endY (j := j) hoL (by omega)) (cwV 1 hts gvX2_50 rfl rfl rfl hvX2_endY ⟨Nat.le_of_ble_eq_true rfl, Nat.le_of_ble_eq_true rfl⟩) hK hP 8 2 rfl ww_8 rfl hl.1 rfl (Nat.le_of_ble_eq_true rfl) dX2_overlapped_8 ⟨Nat.le_of_ble_eq_true rfl, Nat.le_of_ble_eq_true rfl⟩ ?_
  refine lv_lstore (lv' := [(5, .long (q_endY pa p0 j)), (3, .long (q_endX pa p0 j)), (0, .ref (ad 8)), (1, .int (nI j)), (2, .int (nI f))]) hx hb dX2_overlapped_11 hl (by decide) rfl (fun ls hl => ?_)
  refine lv_iload_n hx hb dX2_overlapped_13 rfl (lv_at hl 4 rfl) ?_
  refine lv_istore (lv' := [(7, .int (nI f)), (5, .long (q_endY pa p0 j)), (3, .long (q_endX pa p0 j)), (0, .ref (ad 8)), (1, .int (nI j)), (2, .int (nI f))]) hx hb dX2_overlapped_14 hl (by decide) rfl (fun ls hl => ?_)
  exact lp (42 - f) f (by omega) (by omega) rfl _ (lv_sub hl [3, 4, 2, 1, 0] rfl)

set_option maxHeartbeats 4000000 in
set_option maxRecDepth 100000 in
theorem r_differs {l : Launch} {D : va_G} {ad : Nat → Nat} {cJ cI cZ : ClassId} {bm : gBM} {pa : gPA} {p0 p1 p2 : gPL} {li : gLI} {wi : gWI} {mt : Nat} {ms : gMS} {ma : gMA} {mp : gMP} {mk : gMK} {mn : gMN} {ou : Nat → Int64} (hoL : q_okL p0) (hoL1 : q_okL p1) {j : Nat} (h1 : j < 40) : bm_Rd l yX2_differs wsX2_differs ({ frames := 0, cells := 0, slots := 0, locals := 0 }) D vwCl [(cJ, .long), (cI, .int), (cZ, .boolean)] (WW ad cJ cI cZ bm pa p0 p1 p2 li wi mt ms ma mp mk mn ou) [.ref (ad 8), .ref (ad 13), .int (nI j)] (.int (bm_b (q_differs p0 p1 j))) := by
  refine Met.ofW (cc := cX2_differs) (maxL := 3) (ret := (some .boolean)) (by decide) rfl ?_
  intro p e s m args below meth c s₁ B hml hv
  obtain ⟨ha, hP, hK⟩ := hv
  have hx := B.exec
  have hb := B.bytes
  have hr := B.returns
  have hts := atoms_spec (ws := wsX2_differs) B.pre
  have hown : s.vm.findClass RX2 = some m.cls := findClass_of_methodNamed B.named
  have hlocks := B.notSynchronized
  have hl := lv_entry ([.ref (ad 8), .ref (ad 13), .int (nI j)]) (n := 3) (Nat.le_of_ble_eq_true rfl)
  refine W.eq (g2 := entryFrame m ([.ref (ad 8), .ref (ad 13), .int (nI j)] : List Value).toArray 3) (by rw [ha]) ?_
  rw [lg_entry_eq]
  generalize (lg_sl ([.ref (ad 8), .ref (ad 13), .int (nI j)]) ++ List.replicate (3 - (lg_sl ([.ref (ad 8), .ref (ad 13), .int (nI j)])).length) Slot.unset).toArray = ls at hl ⊢
  have hl : lv_has ls 3 [(0, .ref (ad 8)), (1, .ref (ad 13)), (2, .int (nI j))] := hl
  refine lv_aload_n hx hb dX2_differs_0 rfl (lv_at hl 0 rfl) ?_
  refine va_get (D := D) (ci := 2) (v := .ref (ad 9)) (C := RX2) (T := TX2) (N := 5) hx hb hts (inT inX2) hown hK hP 8 ww_8 rfl 1 (by decide) (hts (.fieldLink RX2 9 "BoardMoves$Placement" "x" "[J") (List.mem_cons_of_mem _ flX2_9)) (fun _ h9 => h9) rfl dX2_differs_1 ?_
  refine lv_iload_n hx hb dX2_differs_4 rfl (lv_at hl 2 rfl) ?_
  refine bm_lald (f := p0.1) hx hb hK hP 9 0 ww_9 rfl (j := j) (by omega) (by decide) dX2_differs_5 ?_
  refine lv_aload_n hx hb dX2_differs_6 rfl (lv_at hl 1 rfl) ?_
  refine va_get (D := D) (ci := 2) (v := .ref (ad 14)) (C := RX2) (T := TX2) (N := 5) hx hb hts (inT inX2) hown hK hP 13 ww_13 rfl 1 (by decide) (hts (.fieldLink RX2 9 "BoardMoves$Placement" "x" "[J") (List.mem_cons_of_mem _ flX2_9)) (fun _ h9 => h9) rfl dX2_differs_7 ?_
  refine lv_iload_n hx hb dX2_differs_10 rfl (lv_at hl 2 rfl) ?_
  refine bm_lald (f := p1.1) hx hb hK hP 14 0 ww_14 rfl (j := j) (by omega) (by decide) dX2_differs_11 ?_
  refine bm_lc_ne (x := (p0.1 j)) (y := (p1.1 j)) (tgt := 62) hx hb dX2_differs_12 dX2_differs_13 (by decide) (fun c_1 => ?_) (fun c_1 => ?_)
  · refine lv_iconst (v := bm_b true) hx hb dX2_differs_62 (by decide) ?_
    refine lv_goto (tgt := 67) hx hb dX2_differs_63 (by decide) ?_
    exact bm_zretR (v := true) hx hb hr (by simp [q_differs, c_1]) dX2_differs_67 hlocks
  · refine lv_aload_n hx hb dX2_differs_16 rfl (lv_at hl 0 rfl) ?_
    refine va_get (D := D) (ci := 2) (v := .ref (ad 10)) (C := RX2) (T := TX2) (N := 5) hx hb hts (inT inX2) hown hK hP 8 ww_8 rfl 2 (by decide) (hts (.fieldLink RX2 15 "BoardMoves$Placement" "y" "[J") (List.mem_cons_of_mem _ flX2_15)) (fun _ h9 => h9) rfl dX2_differs_17 ?_
    refine lv_iload_n hx hb dX2_differs_20 rfl (lv_at hl 2 rfl) ?_
    refine bm_lald (f := p0.2.1) hx hb hK hP 10 0 ww_10 rfl (j := j) (by omega) (by decide) dX2_differs_21 ?_
    refine lv_aload_n hx hb dX2_differs_22 rfl (lv_at hl 1 rfl) ?_
    refine va_get (D := D) (ci := 2) (v := .ref (ad 15)) (C := RX2) (T := TX2) (N := 5) hx hb hts (inT inX2) hown hK hP 13 ww_13 rfl 2 (by decide) (hts (.fieldLink RX2 15 "BoardMoves$Placement" "y" "[J") (List.mem_cons_of_mem _ flX2_15)) (fun _ h9 => h9) rfl dX2_differs_23 ?_
    refine lv_iload_n hx hb dX2_differs_26 rfl (lv_at hl 2 rfl) ?_
    refine bm_lald (f := p1.2.1) hx hb hK hP 15 0 ww_15 rfl (j := j) (by omega) (by decide) dX2_differs_27 ?_
    refine bm_lc_ne (x := (p0.2.1 j)) (y := (p1.2.1 j)) (tgt := 62) hx hb dX2_differs_28 dX2_differs_29 (by decide) (fun c_2 => ?_) (fun c_2 => ?_)
    · refine lv_iconst (v := bm_b true) hx hb dX2_differs_62 (by decide) ?_
      refine lv_goto (tgt := 67) hx hb dX2_differs_63 (by decide) ?_
      exact bm_zretR (v := true) hx hb hr (by simp [q_differs, c_1, c_2]) dX2_differs_67 hlocks
    · refine lv_aload_n hx hb dX2_differs_32 rfl (lv_at hl 0 rfl) ?_
      refine va_get (D := D) (ci := 2) (v := .ref (ad 11)) (C := RX2) (T := TX2) (N := 5) hx hb hts (inT inX2) hown hK hP 8 ww_8 rfl 3 (by decide) (hts (.fieldLink RX2 18 "BoardMoves$Placement" "turn" "[I") (List.mem_cons_of_mem _ flX2_18)) (fun _ h9 => h9) rfl dX2_differs_33 ?_
      refine lv_iload_n hx hb dX2_differs_36 rfl (lv_at hl 2 rfl) ?_
      refine bm_nald (f := p0.2.2.1) hx hb hK hP 11 1 ww_11 rfl (j := j) (by omega) (by decide) dX2_differs_37 ?_
      refine lv_aload_n hx hb dX2_differs_38 rfl (lv_at hl 1 rfl) ?_
      refine va_get (D := D) (ci := 2) (v := .ref (ad 16)) (C := RX2) (T := TX2) (N := 5) hx hb hts (inT inX2) hown hK hP 13 ww_13 rfl 3 (by decide) (hts (.fieldLink RX2 18 "BoardMoves$Placement" "turn" "[I") (List.mem_cons_of_mem _ flX2_18)) (fun _ h9 => h9) rfl dX2_differs_39 ?_
      refine lv_iload_n hx hb dX2_differs_42 rfl (lv_at hl 2 rfl) ?_
      refine bm_nald (f := p1.2.2.1) hx hb hK hP 16 1 ww_16 rfl (j := j) (by omega) (by decide) dX2_differs_43 ?_
      refine bm_ni_ne (x := (p0.2.2.1 j)) (y := (p1.2.2.1 j)) (tgt := 62) hx hb (bm40 (hoL _)) (bm40 (hoL1 _)) dX2_differs_44 (by decide) (fun c_3 => ?_) (fun c_3 => ?_)
      · refine lv_iconst (v := bm_b true) hx hb dX2_differs_62 (by decide) ?_
        refine lv_goto (tgt := 67) hx hb dX2_differs_63 (by decide) ?_
        exact bm_zretR (v := true) hx hb hr (by simp [q_differs, c_1, c_2, c_3]) dX2_differs_67 hlocks
      · refine lv_aload_n hx hb dX2_differs_47 rfl (lv_at hl 0 rfl) ?_
        refine va_get (D := D) (ci := 2) (v := .ref (ad 12)) (C := RX2) (T := TX2) (N := 5) hx hb hts (inT inX2) hown hK hP 8 ww_8 rfl 4 (by decide) (hts (.fieldLink RX2 22 "BoardMoves$Placement" "placed" "[Z") (List.mem_cons_of_mem _ flX2_22)) (fun _ h9 => h9) rfl dX2_differs_48 ?_
        refine lv_iload_n hx hb dX2_differs_51 rfl (lv_at hl 2 rfl) ?_
        refine bm_zald (f := p0.2.2.2) hx hb hK hP 12 2 ww_12 rfl (j := j) (by omega) (by decide) dX2_differs_52 ?_
        refine lv_aload_n hx hb dX2_differs_53 rfl (lv_at hl 1 rfl) ?_
        refine va_get (D := D) (ci := 2) (v := .ref (ad 17)) (C := RX2) (T := TX2) (N := 5) hx hb hts (inT inX2) hown hK hP 13 ww_13 rfl 4 (by decide) (hts (.fieldLink RX2 22 "BoardMoves$Placement" "placed" "[Z") (List.mem_cons_of_mem _ flX2_22)) (fun _ h9 => h9) rfl dX2_differs_54 ?_
        refine lv_iload_n hx hb dX2_differs_57 rfl (lv_at hl 2 rfl) ?_
        refine bm_zald (f := p1.2.2.2) hx hb hK hP 17 2 ww_17 rfl (j := j) (by omega) (by decide) dX2_differs_58 ?_
        refine bm_bb_eq (x := (p0.2.2.2 j)) (y := (p1.2.2.2 j)) (tgt := 66) hx hb dX2_differs_59 (by decide) (fun c_4 => ?_) (fun c_4 => ?_)
        · refine lv_iconst (v := bm_b false) hx hb dX2_differs_66 (by decide) ?_
          exact bm_zretR (v := false) hx hb hr (by simp [q_differs, c_1, c_2, c_3, c_4]) dX2_differs_67 hlocks
        · refine lv_iconst (v := bm_b true) hx hb dX2_differs_62 (by decide) ?_
          refine lv_goto (tgt := 67) hx hb dX2_differs_63 (by decide) ?_
          exact bm_zretR (v := true) hx hb hr (by simp [q_differs, c_1, c_2, c_3, c_4]) dX2_differs_67 hlocks

set_option maxHeartbeats 4000000 in
set_option maxRecDepth 100000 in
theorem r_near {l : Launch} {D : va_G} {ad : Nat → Nat} {cJ cI cZ : ClassId} {bm : gBM} {pa : gPA} {p0 p1 p2 : gPL} {li : gLI} {wi : gWI} {mt : Nat} {ms : gMS} {ma : gMA} {mp : gMP} {mk : gMK} {mn : gMN} {ou : Nat → Int64} (hoL : q_okL p0) {a b : Nat} (h1 : a < 40) (h2 : b < 40) {q : Int64} : bm_Rd l yX2_isNear wsX2_isNear ({ frames := 1, cells := 0, slots := 0, locals := 24 }) D vwCl [(cJ, .long), (cI, .int), (cZ, .boolean)] (WW ad cJ cI cZ bm pa p0 p1 p2 li wi mt ms ma mp mk mn ou) [.ref (ad 8), .int (nI a), .int (nI b), .long q] (.int (bm_b (q_near pa p0 a b q))) := by
  refine Met.ofW (cc := cX2_isNear) (maxL := 9) (ret := (some .boolean)) (by decide) rfl ?_
  intro p e s m args below meth c s₁ B hml hv
  obtain ⟨ha, hP, hK⟩ := hv
  have hx := B.exec
  have hb := B.bytes
  have hr := B.returns
  have hts := atoms_spec (ws := wsX2_isNear) B.pre
  have hown : s.vm.findClass RX2 = some m.cls := findClass_of_methodNamed B.named
  have hlocks := B.notSynchronized
  have hl := lv_entry ([.ref (ad 8), .int (nI a), .int (nI b), .long q]) (n := 9) (Nat.le_of_ble_eq_true rfl)
  refine W.eq (g2 := entryFrame m ([.ref (ad 8), .int (nI a), .int (nI b), .long q] : List Value).toArray 9) (by rw [ha]) ?_
  rw [lg_entry_eq]
  generalize (lg_sl ([.ref (ad 8), .int (nI a), .int (nI b), .long q]) ++ List.replicate (9 - (lg_sl ([.ref (ad 8), .int (nI a), .int (nI b), .long q])).length) Slot.unset).toArray = ls at hl ⊢
  have hl : lv_has ls 9 [(0, .ref (ad 8)), (1, .int (nI a)), (2, .int (nI b)), (3, .long q)] := hl
  refine lv_aload_n hx hb dX2_isNear_0 rfl (lv_at hl 0 rfl) ?_
  refine va_get (D := D) (ci := 2) (v := .ref (ad 12)) (C := RX2) (T := TX2) (N := 5) hx hb hts (inT inX2) hown hK hP 8 ww_8 rfl 4 (by decide) (hts (.fieldLink RX2 22 "BoardMoves$Placement" "placed" "[Z") (List.mem_cons_of_mem _ flX2_22)) (fun _ h9 => h9) rfl dX2_isNear_1 ?_
  refine lv_iload_n hx hb dX2_isNear_4 rfl (lv_at hl 1 rfl) ?_
  refine bm_zald (f := p0.2.2.2) hx hb hK hP 12 2 ww_12 rfl (j := a) (by omega) (by decide) dX2_isNear_5 ?_
  refine bm_zb_eq (x := (p0.2.2.2 a)) (tgt := 18) hx hb dX2_isNear_6 (by decide) (fun c_1 => ?_) (fun c_1 => ?_)
  · refine lv_iconst (v := bm_b true) hx hb dX2_isNear_18 (by decide) ?_
    exact bm_zretR (v := true) hx hb hr (by simp [q_near, c_1]) dX2_isNear_19 hlocks
  · refine lv_aload_n hx hb dX2_isNear_9 rfl (lv_at hl 0 rfl) ?_
    refine va_get (D := D) (ci := 2) (v := .ref (ad 12)) (C := RX2) (T := TX2) (N := 5) hx hb hts (inT inX2) hown hK hP 8 ww_8 rfl 4 (by decide) (hts (.fieldLink RX2 22 "BoardMoves$Placement" "placed" "[Z") (List.mem_cons_of_mem _ flX2_22)) (fun _ h9 => h9) rfl dX2_isNear_10 ?_
    refine lv_iload_n hx hb dX2_isNear_13 rfl (lv_at hl 2 rfl) ?_
    refine bm_zald (f := p0.2.2.2) hx hb hK hP 12 2 ww_12 rfl (j := b) (by omega) (by decide) dX2_isNear_14 ?_
    refine bm_zb_ne (x := (p0.2.2.2 b)) (tgt := 20) hx hb dX2_isNear_15 (by decide) (fun c_2 => ?_) (fun c_2 => ?_)
    · refine lv_aload_n hx hb dX2_isNear_20 rfl (lv_at hl 0 rfl) ?_
      refine va_get (D := D) (ci := 2) (v := .ref (ad 9)) (C := RX2) (T := TX2) (N := 5) hx hb hts (inT inX2) hown hK hP 8 ww_8 rfl 1 (by decide) (hts (.fieldLink RX2 9 "BoardMoves$Placement" "x" "[J") (List.mem_cons_of_mem _ flX2_9)) (fun _ h9 => h9) rfl dX2_isNear_21 ?_
      refine lv_iload_n hx hb dX2_isNear_24 rfl (lv_at hl 1 rfl) ?_
      refine bm_lald (f := p0.1) hx hb hK hP 9 0 ww_9 rfl (j := a) (by omega) (by decide) dX2_isNear_25 ?_
      refine lv_aload_n hx hb dX2_isNear_26 rfl (lv_at hl 0 rfl) ?_
      refine va_get (D := D) (ci := 2) (v := .ref (ad 9)) (C := RX2) (T := TX2) (N := 5) hx hb hts (inT inX2) hown hK hP 8 ww_8 rfl 1 (by decide) (hts (.fieldLink RX2 9 "BoardMoves$Placement" "x" "[J") (List.mem_cons_of_mem _ flX2_9)) (fun _ h9 => h9) rfl dX2_isNear_27 ?_
      refine lv_iload_n hx hb dX2_isNear_30 rfl (lv_at hl 2 rfl) ?_
      refine bm_lald (f := p0.1) hx hb hK hP 9 0 ww_9 rfl (j := b) (by omega) (by decide) dX2_isNear_31 ?_
      refine bm_mmaxl (rest := []) hx hb (hml.trans hl.1.symm) hown (hts (.methodLink RX2 64 Lib.MathLoose.max_long.x) (by decide +kernel)) (hts (.static Lib.MathLoose.max_long.x) (by decide +kernel)) (hts (.initialized "java/lang/Math") (by decide +kernel)) (hts (.code Lib.MathLoose.max_long.x Lib.MathLoose.max_long.code 4 (some .long)) (by decide +kernel)) (Nat.le_of_ble_eq_true rfl) (Nat.le_of_ble_eq_true rfl) (Nat.le_of_ble_eq_true rfl) (Nat.le_of_ble_eq_true rfl) dX2_isNear_32 ?_
      refine lv_aload_n hx hb dX2_isNear_35 rfl (lv_at hl 0 rfl) ?_
      refine lv_iload_n hx hb dX2_isNear_36 rfl (lv_at hl 1 rfl) ?_
      refine bm_rcallV (As := [.int (nI a)]) (rest := [.long (q_max (p0.1 a) (p0.1 b))]) ⟨hx, hb, hml, hown, hts⟩ (r_endX (j := a) hoL (by omega)) (cwV 1 hts gvX2_46 rfl rfl rfl hvX2_endX ⟨Nat.le_of_ble_eq_true rfl, Nat.le_of_ble_eq_true rfl⟩) hK hP 8 2 rfl ww_8 rfl hl.1 rfl (Nat.le_of_ble_eq_true rfl) dX2_isNear_37 ⟨Nat.le_of_ble_eq_true rfl, Nat.le_of_ble_eq_true rfl⟩ ?_
      refine lv_aload_n hx hb dX2_isNear_40 rfl (lv_at hl 0 rfl) ?_
      refine lv_iload_n hx hb dX2_isNear_41 rfl (lv_at hl 2 rfl) ?_
      refine bm_rcallV (As := [.int (nI b)]) (rest := [.long (q_endX pa p0 a), .long (q_max (p0.1 a) (p0.1 b))]) ⟨hx, hb, hml, hown, hts⟩ (r_endX (j := b) hoL (by omega)) (cwV 1 hts gvX2_46 rfl rfl rfl hvX2_endX ⟨Nat.le_of_ble_eq_true rfl, Nat.le_of_ble_eq_true rfl⟩) hK hP 8 2 rfl ww_8 rfl hl.1 rfl (Nat.le_of_ble_eq_true rfl) dX2_isNear_42 ⟨Nat.le_of_ble_eq_true rfl, Nat.le_of_ble_eq_true rfl⟩ ?_
      refine bm_mminl (rest := [.long (q_max (p0.1 a) (p0.1 b))]) hx hb (hml.trans hl.1.symm) hown (hts (.methodLink RX2 70 Lib.MathLoose.min_long.x) (by decide +kernel)) (hts (.static Lib.MathLoose.min_long.x) (by decide +kernel)) (hts (.initialized "java/lang/Math") (by decide +kernel)) (hts (.code Lib.MathLoose.min_long.x Lib.MathLoose.min_long.code 4 (some .long)) (by decide +kernel)) (Nat.le_of_ble_eq_true rfl) (Nat.le_of_ble_eq_true rfl) (Nat.le_of_ble_eq_true rfl) (Nat.le_of_ble_eq_true rfl) dX2_isNear_45 ?_
      refine lv_lsub hx hb dX2_isNear_48 ?_
      refine lv_lstore (lv' := [(5, .long ((q_max (p0.1 a) (p0.1 b)) - (q_min (q_endX pa p0 a) (q_endX pa p0 b)))), (0, .ref (ad 8)), (1, .int (nI a)), (2, .int (nI b)), (3, .long q)]) hx hb dX2_isNear_49 hl (by decide) rfl (fun ls hl => ?_)
      refine lv_aload_n hx hb dX2_isNear_51 rfl (lv_at hl 1 rfl) ?_
      refine va_get (D := D) (ci := 2) (v := .ref (ad 10)) (C := RX2) (T := TX2) (N := 5) hx hb hts (inT inX2) hown hK hP 8 ww_8 rfl 2 (by decide) (hts (.fieldLink RX2 15 "BoardMoves$Placement" "y" "[J") (List.mem_cons_of_mem _ flX2_15)) (fun _ h9 => h9) rfl dX2_isNear_52 ?_
      refine lv_iload_n hx hb dX2_isNear_55 rfl (lv_at hl 2 rfl) ?_
      refine bm_lald (f := p0.2.1) hx hb hK hP 10 0 ww_10 rfl (j := a) (by omega) (by decide) dX2_isNear_56 ?_
      refine lv_aload_n hx hb dX2_isNear_57 rfl (lv_at hl 1 rfl) ?_
      refine va_get (D := D) (ci := 2) (v := .ref (ad 10)) (C := RX2) (T := TX2) (N := 5) hx hb hts (inT inX2) hown hK hP 8 ww_8 rfl 2 (by decide) (hts (.fieldLink RX2 15 "BoardMoves$Placement" "y" "[J") (List.mem_cons_of_mem _ flX2_15)) (fun _ h9 => h9) rfl dX2_isNear_58 ?_
      refine lv_iload_n hx hb dX2_isNear_61 rfl (lv_at hl 3 rfl) ?_
      refine bm_lald (f := p0.2.1) hx hb hK hP 10 0 ww_10 rfl (j := b) (by omega) (by decide) dX2_isNear_62 ?_
      refine bm_mmaxl (rest := []) hx hb (hml.trans hl.1.symm) hown (hts (.methodLink RX2 64 Lib.MathLoose.max_long.x) (by decide +kernel)) (hts (.static Lib.MathLoose.max_long.x) (by decide +kernel)) (hts (.initialized "java/lang/Math") (by decide +kernel)) (hts (.code Lib.MathLoose.max_long.x Lib.MathLoose.max_long.code 4 (some .long)) (by decide +kernel)) (Nat.le_of_ble_eq_true rfl) (Nat.le_of_ble_eq_true rfl) (Nat.le_of_ble_eq_true rfl) (Nat.le_of_ble_eq_true rfl) dX2_isNear_63 ?_
      refine lv_aload_n hx hb dX2_isNear_66 rfl (lv_at hl 1 rfl) ?_
      refine lv_iload_n hx hb dX2_isNear_67 rfl (lv_at hl 2 rfl) ?_
      refine bm_rcallV (As := [.int (nI a)]) (rest := [.long (q_max (p0.2.1 a) (p0.2.1 b))]) ⟨hx, hb, hml, hown, hts⟩ (r_endY (j := a) hoL (by omega)) (cwV 1 hts gvX2_50 rfl rfl rfl hvX2_endY ⟨Nat.le_of_ble_eq_true rfl, Nat.le_of_ble_eq_true rfl⟩) hK hP 8 2 rfl ww_8 rfl hl.1 rfl (Nat.le_of_ble_eq_true rfl) dX2_isNear_68 ⟨Nat.le_of_ble_eq_true rfl, Nat.le_of_ble_eq_true rfl⟩ ?_
      refine lv_aload_n hx hb dX2_isNear_71 rfl (lv_at hl 1 rfl) ?_
      refine lv_iload_n hx hb dX2_isNear_72 rfl (lv_at hl 3 rfl) ?_
      refine bm_rcallV (As := [.int (nI b)]) (rest := [.long (q_endY pa p0 a), .long (q_max (p0.2.1 a) (p0.2.1 b))]) ⟨hx, hb, hml, hown, hts⟩ (r_endY (j := b) hoL (by omega)) (cwV 1 hts gvX2_50 rfl rfl rfl hvX2_endY ⟨Nat.le_of_ble_eq_true rfl, Nat.le_of_ble_eq_true rfl⟩) hK hP 8 2 rfl ww_8 rfl hl.1 rfl (Nat.le_of_ble_eq_true rfl) dX2_isNear_73 ⟨Nat.le_of_ble_eq_true rfl, Nat.le_of_ble_eq_true rfl⟩ ?_
      refine bm_mminl (rest := [.long (q_max (p0.2.1 a) (p0.2.1 b))]) hx hb (hml.trans hl.1.symm) hown (hts (.methodLink RX2 70 Lib.MathLoose.min_long.x) (by decide +kernel)) (hts (.static Lib.MathLoose.min_long.x) (by decide +kernel)) (hts (.initialized "java/lang/Math") (by decide +kernel)) (hts (.code Lib.MathLoose.min_long.x Lib.MathLoose.min_long.code 4 (some .long)) (by decide +kernel)) (Nat.le_of_ble_eq_true rfl) (Nat.le_of_ble_eq_true rfl) (Nat.le_of_ble_eq_true rfl) (Nat.le_of_ble_eq_true rfl) dX2_isNear_76 ?_
      refine lv_lsub hx hb dX2_isNear_79 ?_
      refine lv_lstore (lv' := [(7, .long ((q_max (p0.2.1 a) (p0.2.1 b)) - (q_min (q_endY pa p0 a) (q_endY pa p0 b)))), (5, .long ((q_max (p0.1 a) (p0.1 b)) - (q_min (q_endX pa p0 a) (q_endX pa p0 b)))), (0, .ref (ad 8)), (1, .int (nI a)), (2, .int (nI b)), (3, .long q)]) hx hb dX2_isNear_80 hl (by decide) rfl (fun ls hl => ?_)
      refine lv_lconst (v := 0) hx hb dX2_isNear_82 (by decide) ?_
      refine lv_lload hx hb dX2_isNear_83 (lv_at hl 1 rfl) ?_
      refine bm_mmaxl (rest := []) hx hb (hml.trans hl.1.symm) hown (hts (.methodLink RX2 64 Lib.MathLoose.max_long.x) (by decide +kernel)) (hts (.static Lib.MathLoose.max_long.x) (by decide +kernel)) (hts (.initialized "java/lang/Math") (by decide +kernel)) (hts (.code Lib.MathLoose.max_long.x Lib.MathLoose.max_long.code 4 (some .long)) (by decide +kernel)) (Nat.le_of_ble_eq_true rfl) (Nat.le_of_ble_eq_true rfl) (Nat.le_of_ble_eq_true rfl) (Nat.le_of_ble_eq_true rfl) dX2_isNear_85 ?_
      refine lv_lconst (v := 0) hx hb dX2_isNear_88 (by decide) ?_
      refine lv_lload hx hb dX2_isNear_89 (lv_at hl 0 rfl) ?_
      refine bm_mmaxl (rest := [.long (q_max 0 ((q_max (p0.1 a) (p0.1 b)) - (q_min (q_endX pa p0 a) (q_endX pa p0 b))))]) hx hb (hml.trans hl.1.symm) hown (hts (.methodLink RX2 64 Lib.MathLoose.max_long.x) (by decide +kernel)) (hts (.static Lib.MathLoose.max_long.x) (by decide +kernel)) (hts (.initialized "java/lang/Math") (by decide +kernel)) (hts (.code Lib.MathLoose.max_long.x Lib.MathLoose.max_long.code 4 (some .long)) (by decide +kernel)) (Nat.le_of_ble_eq_true rfl) (Nat.le_of_ble_eq_true rfl) (Nat.le_of_ble_eq_true rfl) (Nat.le_of_ble_eq_true rfl) dX2_isNear_91 ?_
      refine lv_ladd hx hb dX2_isNear_94 ?_
      refine lv_lload_n hx hb dX2_isNear_95 rfl (lv_at hl 5 rfl) ?_
      refine bm_lc_gt (x := ((q_max 0 ((q_max (p0.1 a) (p0.1 b)) - (q_min (q_endX pa p0 a) (q_endX pa p0 b)))) + (q_max 0 ((q_max (p0.2.1 a) (p0.2.1 b)) - (q_min (q_endY pa p0 a) (q_endY pa p0 b)))))) (y := q) (tgt := 104) hx hb dX2_isNear_96 dX2_isNear_97 (by decide) (fun c_3 => ?_) (fun c_3 => ?_)
      · refine lv_iconst (v := bm_b false) hx hb dX2_isNear_104 (by decide) ?_
        exact bm_zretR (v := false) hx hb hr (by simp [q_near, c_1, c_2, c_3]) dX2_isNear_105 hlocks
      · refine lv_iconst (v := bm_b true) hx hb dX2_isNear_100 (by decide) ?_
        refine lv_goto (tgt := 105) hx hb dX2_isNear_101 (by decide) ?_
        exact bm_zretR (v := true) hx hb hr (by simp [q_near, c_1, c_2, c_3]) dX2_isNear_105 hlocks
    · refine lv_iconst (v := bm_b true) hx hb dX2_isNear_18 (by decide) ?_
      exact bm_zretR (v := true) hx hb hr (by simp [q_near, c_1, c_2]) dX2_isNear_19 hlocks
