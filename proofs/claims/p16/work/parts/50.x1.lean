set_option maxHeartbeats 8000000 in
set_option maxRecDepth 100000 in
theorem x_mates {l : Launch} {D : va_G} {ad : Nat → Nat} {cJ cI cZ : ClassId} {bm : gBM} {pa : gPA} {p0 p1 p2 : gPL} {li : gLI} {wi : gWI} {mt : Nat} {ms : gMS} {ma : gMA} {mp : gMP} {mk : gMK} {mn : gMN} {ou : Nat → Int64} {za : Nat} {zb : Nat} (ok_pa_lowest : ∀ i, pa.2.2.2.2.2.1 i < 40) (hp0 : za < 40) (hp1 : zb < 40)  : bm_Wx l yX1_areMates wsX1_areMates ({ frames := 0, cells := 0, slots := 0, locals := 0 }) D vwCl [(cJ, .long), (cI, .int), (cZ, .boolean)] (WW ad cJ cI cZ bm pa p0 p1 p2 li wi mt ms ma mp mk mn ou) [.ref (ad 1), .int (nI za), .int (nI zb)] (fun ws9 r9 => ws9 = (WW ad cJ cI cZ bm pa p0 p1 p2 li wi mt ms ma mp mk mn ou) ∧ ∃ b9 : Bool, r9 = some (.int (bm_b b9))) := by
  intro sz
  refine Met.ofW (cc := cX1_areMates) (maxL := 3) (ret := (some .boolean)) (by decide) rfl ?_
  intro p e s m args below meth c s₁ B hml hv
  obtain ⟨ha, hsz, hP, hK, hD0⟩ := hv
  have hx := B.exec
  have hb := B.bytes
  have hr := B.returns
  have hts := atoms_spec (ws := wsX1_areMates) B.pre
  have hown : s.vm.findClass RX1 = some m.cls := findClass_of_methodNamed B.named
  have hlocks := B.notSynchronized
  subst hsz
  have hD := hD0.self (sz := s.heap.size)
  generalize hAe : va_A (WW ad cJ cI cZ bm pa p0 p1 p2 li wi mt ms ma mp mk mn ou) s.heap.size = A at hD ⊢
  have hA : ∀ q : Nat, s.heap.size ≤ q → A q := fun q h => by rw [← hAe]; exact Or.inr h
  have hS : va_S A s.heap s.heap [] := va_S.rf
  have hl := lv_entry ([.ref (ad 1), .int (nI za), .int (nI zb)]) (n := 3) (Nat.le_of_ble_eq_true rfl)
  refine W.eq (g2 := entryFrame m ([.ref (ad 1), .int (nI za), .int (nI zb)] : List Value).toArray 3) (by rw [ha]) ?_
  rw [lg_entry_eq]
  generalize (lg_sl ([.ref (ad 1), .int (nI za), .int (nI zb)]) ++ List.replicate (3 - (lg_sl ([.ref (ad 1), .int (nI za), .int (nI zb)])).length) Slot.unset).toArray = ls at hl ⊢
  have hl : lv_has ls 3 [(0, .ref (ad 1)), (1, .int (nI za)), (2, .int (nI zb))] := hl
  refine lv_aload_n hx hb dX1_areMates_0 rfl (lv_at hl 0 rfl) ?_
  refine va_get (D := D) (ci := 1) (v := .ref (ad 7)) (C := RX1) (T := TX1) (N := 7) hx hb hts (inT inX1) hown hK hP 1 ww_1 rfl 5 (by decide) (hts (.fieldLink RX1 29 "BoardMoves$Parts" "lowest" "[I") (List.mem_cons_of_mem _ flX1_29)) (fun _ h9 => h9) rfl dX1_areMates_1 ?_
  refine lv_iload_n hx hb dX1_areMates_4 rfl (lv_at hl 1 rfl) ?_
  refine bm_nald (f := pa.2.2.2.2.2.1) hx hb hK hP 7 1 ww_7 rfl (j := za) (by omega) (by decide) dX1_areMates_5 ?_
  refine lv_aload_n hx hb dX1_areMates_6 rfl (lv_at hl 0 rfl) ?_
  refine va_get (D := D) (ci := 1) (v := .ref (ad 7)) (C := RX1) (T := TX1) (N := 7) hx hb hts (inT inX1) hown hK hP 1 ww_1 rfl 5 (by decide) (hts (.fieldLink RX1 29 "BoardMoves$Parts" "lowest" "[I") (List.mem_cons_of_mem _ flX1_29)) (fun _ h9 => h9) rfl dX1_areMates_7 ?_
  refine lv_iload_n hx hb dX1_areMates_10 rfl (lv_at hl 2 rfl) ?_
  refine bm_nald (f := pa.2.2.2.2.2.1) hx hb hK hP 7 1 ww_7 rfl (j := zb) (by omega) (by decide) dX1_areMates_11 ?_
  refine bm_ni_ne (x := (pa.2.2.2.2.2.1 za)) (y := (pa.2.2.2.2.2.1 zb)) (tgt := 19) hx hb (bm40 (ok_pa_lowest _)) (bm40 (ok_pa_lowest _)) dX1_areMates_12 (by decide) (fun c_1 => ?_) (fun c_1 => ?_)
  · refine lv_iconst (v := bm_b false) hx hb dX1_areMates_19 (by decide) ?_
    exact bm_zretX (v := false) hx hb hr hP hD hK hS ⟨rfl, false, rfl⟩ dX1_areMates_20 hlocks
  · refine lv_iconst (v := bm_b true) hx hb dX1_areMates_15 (by decide) ?_
    refine lv_goto (tgt := 20) hx hb dX1_areMates_16 (by decide) ?_
    exact bm_zretX (v := true) hx hb hr hP hD hK hS ⟨rfl, true, rfl⟩ dX1_areMates_20 hlocks

set_option maxHeartbeats 8000000 in
set_option maxRecDepth 100000 in
theorem x_endX {l : Launch} {D : va_G} {ad : Nat → Nat} {cJ cI cZ : ClassId} {bm : gBM} {pa : gPA} {p0 p1 p2 : gPL} {li : gLI} {wi : gWI} {mt : Nat} {ms : gMS} {ma : gMA} {mp : gMP} {mk : gMK} {mn : gMN} {ou : Nat → Int64} {zj : Nat} (ok_p0_turn : ∀ i, p0.2.2.1 i < 40) (hp0 : zj < 40)  : bm_Wx l yX2_endX wsX2_endX ({ frames := 0, cells := 0, slots := 0, locals := 0 }) D vwCl [(cJ, .long), (cI, .int), (cZ, .boolean)] (WW ad cJ cI cZ bm pa p0 p1 p2 li wi mt ms ma mp mk mn ou) [.ref (ad 8), .int (nI zj)] (fun ws9 r9 => ws9 = (WW ad cJ cI cZ bm pa p0 p1 p2 li wi mt ms ma mp mk mn ou) ∧ ∃ v9 : Int64, r9 = some (.long v9)) := by
  intro sz
  refine Met.ofW (cc := cX2_endX) (maxL := 2) (ret := (some .long)) (by decide) rfl ?_
  intro p e s m args below meth c s₁ B hml hv
  obtain ⟨ha, hsz, hP, hK, hD0⟩ := hv
  have hx := B.exec
  have hb := B.bytes
  have hr := B.returns
  have hts := atoms_spec (ws := wsX2_endX) B.pre
  have hown : s.vm.findClass RX2 = some m.cls := findClass_of_methodNamed B.named
  have hlocks := B.notSynchronized
  subst hsz
  have hD := hD0.self (sz := s.heap.size)
  generalize hAe : va_A (WW ad cJ cI cZ bm pa p0 p1 p2 li wi mt ms ma mp mk mn ou) s.heap.size = A at hD ⊢
  have hA : ∀ q : Nat, s.heap.size ≤ q → A q := fun q h => by rw [← hAe]; exact Or.inr h
  have hS : va_S A s.heap s.heap [] := va_S.rf
  have hl := lv_entry ([.ref (ad 8), .int (nI zj)]) (n := 2) (Nat.le_of_ble_eq_true rfl)
  refine W.eq (g2 := entryFrame m ([.ref (ad 8), .int (nI zj)] : List Value).toArray 2) (by rw [ha]) ?_
  rw [lg_entry_eq]
  generalize (lg_sl ([.ref (ad 8), .int (nI zj)]) ++ List.replicate (2 - (lg_sl ([.ref (ad 8), .int (nI zj)])).length) Slot.unset).toArray = ls at hl ⊢
  have hl : lv_has ls 2 [(0, .ref (ad 8)), (1, .int (nI zj))] := hl
  refine lv_aload_n hx hb dX2_endX_0 rfl (lv_at hl 0 rfl) ?_
  refine va_get (D := D) (ci := 2) (v := .ref (ad 9)) (C := RX2) (T := TX2) (N := 5) hx hb hts (inT inX2) hown hK hP 8 ww_8 rfl 1 (by decide) (hts (.fieldLink RX2 9 "BoardMoves$Placement" "x" "[J") (List.mem_cons_of_mem _ flX2_9)) (fun _ h9 => h9) rfl dX2_endX_1 ?_
  refine lv_iload_n hx hb dX2_endX_4 rfl (lv_at hl 1 rfl) ?_
  refine bm_lald (f := p0.1) hx hb hK hP 9 0 ww_9 rfl (j := zj) (by omega) (by decide) dX2_endX_5 ?_
  refine lv_topl (fun t_1 _ => ?_)
  refine lv_aload_n hx hb dX2_endX_6 rfl (lv_at hl 0 rfl) ?_
  refine va_get (D := D) (ci := 2) (v := .ref (ad 11)) (C := RX2) (T := TX2) (N := 5) hx hb hts (inT inX2) hown hK hP 8 ww_8 rfl 3 (by decide) (hts (.fieldLink RX2 18 "BoardMoves$Placement" "turn" "[I") (List.mem_cons_of_mem _ flX2_18)) (fun _ h9 => h9) rfl dX2_endX_7 ?_
  refine lv_iload_n hx hb dX2_endX_10 rfl (lv_at hl 1 rfl) ?_
  refine bm_nald (f := p0.2.2.1) hx hb hK hP 11 1 ww_11 rfl (j := zj) (by omega) (by decide) dX2_endX_11 ?_
  refine lv_iconst (v := nI 2) hx hb dX2_endX_12 (by decide) ?_
  refine bm_nrem hx hb (bm40 (ok_p0_turn _)) (by decide) (by decide) dX2_endX_13 ?_
  refine bm_nz_ne (x := ((p0.2.2.1 zj) % 2)) (tgt := 29) hx hb (by omega) dX2_endX_14 (by decide) (fun c_2 => ?_) (fun c_2 => ?_)
  · refine lv_aload_n hx hb dX2_endX_29 rfl (lv_at hl 0 rfl) ?_
    refine va_get (D := D) (ci := 2) (v := .ref (ad 1)) (C := RX2) (T := TX2) (N := 5) hx hb hts (inT inX2) hown hK hP 8 ww_8 rfl 0 (by decide) (hts (.fieldLink RX2 26 "BoardMoves$Placement" "parts" "LBoardMoves$Parts;") (List.mem_cons_of_mem _ flX2_26)) (fun _ h9 => h9) rfl dX2_endX_30 ?_
    refine va_get (D := D) (ci := 1) (v := .ref (ad 3)) (C := RX1) (T := TX1) (N := 7) hx hb hts (inT inX1) hown hK hP 1 ww_1 rfl 1 (by decide) (hts (.fieldLink RX2 43 "BoardMoves$Parts" "h" "[J") (List.mem_cons_of_mem _ flX2_43)) (fun _ h9 => h9) rfl dX2_endX_33 ?_
    refine lv_iload_n hx hb dX2_endX_36 rfl (lv_at hl 1 rfl) ?_
    refine bm_lald (f := pa.2.1) hx hb hK hP 3 0 ww_3 rfl (j := zj) (by omega) (by decide) dX2_endX_37 ?_
    refine lv_topl (fun t_3 _ => ?_)
    refine lv_ladd hx hb dX2_endX_38 ?_
    refine lv_topl (fun t_4 _ => ?_)
    exact bm_lretX (v := t_4) hx hb hr hP hD hK hS ⟨rfl, t_4, rfl⟩ dX2_endX_39 hlocks
  · refine lv_aload_n hx hb dX2_endX_17 rfl (lv_at hl 0 rfl) ?_
    refine va_get (D := D) (ci := 2) (v := .ref (ad 1)) (C := RX2) (T := TX2) (N := 5) hx hb hts (inT inX2) hown hK hP 8 ww_8 rfl 0 (by decide) (hts (.fieldLink RX2 26 "BoardMoves$Placement" "parts" "LBoardMoves$Parts;") (List.mem_cons_of_mem _ flX2_26)) (fun _ h9 => h9) rfl dX2_endX_18 ?_
    refine va_get (D := D) (ci := 1) (v := .ref (ad 2)) (C := RX1) (T := TX1) (N := 7) hx hb hts (inT inX1) hown hK hP 1 ww_1 rfl 0 (by decide) (hts (.fieldLink RX2 40 "BoardMoves$Parts" "w" "[J") (List.mem_cons_of_mem _ flX2_40)) (fun _ h9 => h9) rfl dX2_endX_21 ?_
    refine lv_iload_n hx hb dX2_endX_24 rfl (lv_at hl 1 rfl) ?_
    refine bm_lald (f := pa.1) hx hb hK hP 2 0 ww_2 rfl (j := zj) (by omega) (by decide) dX2_endX_25 ?_
    refine lv_topl (fun t_5 _ => ?_)
    refine lv_goto (tgt := 38) hx hb dX2_endX_26 (by decide) ?_
    refine lv_ladd hx hb dX2_endX_38 ?_
    refine lv_topl (fun t_6 _ => ?_)
    exact bm_lretX (v := t_6) hx hb hr hP hD hK hS ⟨rfl, t_6, rfl⟩ dX2_endX_39 hlocks

set_option maxHeartbeats 8000000 in
set_option maxRecDepth 100000 in
theorem x_endY {l : Launch} {D : va_G} {ad : Nat → Nat} {cJ cI cZ : ClassId} {bm : gBM} {pa : gPA} {p0 p1 p2 : gPL} {li : gLI} {wi : gWI} {mt : Nat} {ms : gMS} {ma : gMA} {mp : gMP} {mk : gMK} {mn : gMN} {ou : Nat → Int64} {zj : Nat} (ok_p0_turn : ∀ i, p0.2.2.1 i < 40) (hp0 : zj < 40)  : bm_Wx l yX2_endY wsX2_endY ({ frames := 0, cells := 0, slots := 0, locals := 0 }) D vwCl [(cJ, .long), (cI, .int), (cZ, .boolean)] (WW ad cJ cI cZ bm pa p0 p1 p2 li wi mt ms ma mp mk mn ou) [.ref (ad 8), .int (nI zj)] (fun ws9 r9 => ws9 = (WW ad cJ cI cZ bm pa p0 p1 p2 li wi mt ms ma mp mk mn ou) ∧ ∃ v9 : Int64, r9 = some (.long v9)) := by
  intro sz
  refine Met.ofW (cc := cX2_endY) (maxL := 2) (ret := (some .long)) (by decide) rfl ?_
  intro p e s m args below meth c s₁ B hml hv
  obtain ⟨ha, hsz, hP, hK, hD0⟩ := hv
  have hx := B.exec
  have hb := B.bytes
  have hr := B.returns
  have hts := atoms_spec (ws := wsX2_endY) B.pre
  have hown : s.vm.findClass RX2 = some m.cls := findClass_of_methodNamed B.named
  have hlocks := B.notSynchronized
  subst hsz
  have hD := hD0.self (sz := s.heap.size)
  generalize hAe : va_A (WW ad cJ cI cZ bm pa p0 p1 p2 li wi mt ms ma mp mk mn ou) s.heap.size = A at hD ⊢
  have hA : ∀ q : Nat, s.heap.size ≤ q → A q := fun q h => by rw [← hAe]; exact Or.inr h
  have hS : va_S A s.heap s.heap [] := va_S.rf
  have hl := lv_entry ([.ref (ad 8), .int (nI zj)]) (n := 2) (Nat.le_of_ble_eq_true rfl)
  refine W.eq (g2 := entryFrame m ([.ref (ad 8), .int (nI zj)] : List Value).toArray 2) (by rw [ha]) ?_
  rw [lg_entry_eq]
  generalize (lg_sl ([.ref (ad 8), .int (nI zj)]) ++ List.replicate (2 - (lg_sl ([.ref (ad 8), .int (nI zj)])).length) Slot.unset).toArray = ls at hl ⊢
  have hl : lv_has ls 2 [(0, .ref (ad 8)), (1, .int (nI zj))] := hl
  refine lv_aload_n hx hb dX2_endY_0 rfl (lv_at hl 0 rfl) ?_
  refine va_get (D := D) (ci := 2) (v := .ref (ad 10)) (C := RX2) (T := TX2) (N := 5) hx hb hts (inT inX2) hown hK hP 8 ww_8 rfl 2 (by decide) (hts (.fieldLink RX2 15 "BoardMoves$Placement" "y" "[J") (List.mem_cons_of_mem _ flX2_15)) (fun _ h9 => h9) rfl dX2_endY_1 ?_
  refine lv_iload_n hx hb dX2_endY_4 rfl (lv_at hl 1 rfl) ?_
  refine bm_lald (f := p0.2.1) hx hb hK hP 10 0 ww_10 rfl (j := zj) (by omega) (by decide) dX2_endY_5 ?_
  refine lv_topl (fun t_1 _ => ?_)
  refine lv_aload_n hx hb dX2_endY_6 rfl (lv_at hl 0 rfl) ?_
  refine va_get (D := D) (ci := 2) (v := .ref (ad 11)) (C := RX2) (T := TX2) (N := 5) hx hb hts (inT inX2) hown hK hP 8 ww_8 rfl 3 (by decide) (hts (.fieldLink RX2 18 "BoardMoves$Placement" "turn" "[I") (List.mem_cons_of_mem _ flX2_18)) (fun _ h9 => h9) rfl dX2_endY_7 ?_
  refine lv_iload_n hx hb dX2_endY_10 rfl (lv_at hl 1 rfl) ?_
  refine bm_nald (f := p0.2.2.1) hx hb hK hP 11 1 ww_11 rfl (j := zj) (by omega) (by decide) dX2_endY_11 ?_
  refine lv_iconst (v := nI 2) hx hb dX2_endY_12 (by decide) ?_
  refine bm_nrem hx hb (bm40 (ok_p0_turn _)) (by decide) (by decide) dX2_endY_13 ?_
  refine bm_nz_ne (x := ((p0.2.2.1 zj) % 2)) (tgt := 29) hx hb (by omega) dX2_endY_14 (by decide) (fun c_2 => ?_) (fun c_2 => ?_)
  · refine lv_aload_n hx hb dX2_endY_29 rfl (lv_at hl 0 rfl) ?_
    refine va_get (D := D) (ci := 2) (v := .ref (ad 1)) (C := RX2) (T := TX2) (N := 5) hx hb hts (inT inX2) hown hK hP 8 ww_8 rfl 0 (by decide) (hts (.fieldLink RX2 26 "BoardMoves$Placement" "parts" "LBoardMoves$Parts;") (List.mem_cons_of_mem _ flX2_26)) (fun _ h9 => h9) rfl dX2_endY_30 ?_
    refine va_get (D := D) (ci := 1) (v := .ref (ad 2)) (C := RX1) (T := TX1) (N := 7) hx hb hts (inT inX1) hown hK hP 1 ww_1 rfl 0 (by decide) (hts (.fieldLink RX2 40 "BoardMoves$Parts" "w" "[J") (List.mem_cons_of_mem _ flX2_40)) (fun _ h9 => h9) rfl dX2_endY_33 ?_
    refine lv_iload_n hx hb dX2_endY_36 rfl (lv_at hl 1 rfl) ?_
    refine bm_lald (f := pa.1) hx hb hK hP 2 0 ww_2 rfl (j := zj) (by omega) (by decide) dX2_endY_37 ?_
    refine lv_topl (fun t_3 _ => ?_)
    refine lv_ladd hx hb dX2_endY_38 ?_
    refine lv_topl (fun t_4 _ => ?_)
    exact bm_lretX (v := t_4) hx hb hr hP hD hK hS ⟨rfl, t_4, rfl⟩ dX2_endY_39 hlocks
  · refine lv_aload_n hx hb dX2_endY_17 rfl (lv_at hl 0 rfl) ?_
    refine va_get (D := D) (ci := 2) (v := .ref (ad 1)) (C := RX2) (T := TX2) (N := 5) hx hb hts (inT inX2) hown hK hP 8 ww_8 rfl 0 (by decide) (hts (.fieldLink RX2 26 "BoardMoves$Placement" "parts" "LBoardMoves$Parts;") (List.mem_cons_of_mem _ flX2_26)) (fun _ h9 => h9) rfl dX2_endY_18 ?_
    refine va_get (D := D) (ci := 1) (v := .ref (ad 3)) (C := RX1) (T := TX1) (N := 7) hx hb hts (inT inX1) hown hK hP 1 ww_1 rfl 1 (by decide) (hts (.fieldLink RX2 43 "BoardMoves$Parts" "h" "[J") (List.mem_cons_of_mem _ flX2_43)) (fun _ h9 => h9) rfl dX2_endY_21 ?_
    refine lv_iload_n hx hb dX2_endY_24 rfl (lv_at hl 1 rfl) ?_
    refine bm_lald (f := pa.2.1) hx hb hK hP 3 0 ww_3 rfl (j := zj) (by omega) (by decide) dX2_endY_25 ?_
    refine lv_topl (fun t_5 _ => ?_)
    refine lv_goto (tgt := 38) hx hb dX2_endY_26 (by decide) ?_
    refine lv_ladd hx hb dX2_endY_38 ?_
    refine lv_topl (fun t_6 _ => ?_)
    exact bm_lretX (v := t_6) hx hb hr hP hD hK hS ⟨rfl, t_6, rfl⟩ dX2_endY_39 hlocks

set_option maxHeartbeats 8000000 in
set_option maxRecDepth 100000 in
theorem x_meets {l : Launch} {D : va_G} {ad : Nat → Nat} {cJ cI cZ : ClassId} {bm : gBM} {pa : gPA} {p0 p1 p2 : gPL} {li : gLI} {wi : gWI} {mt : Nat} {ms : gMS} {ma : gMA} {mp : gMP} {mk : gMK} {mn : gMN} {ou : Nat → Int64} {zj : Nat} {z1 : Int64} {z2 : Int64} {z3 : Int64} {z4 : Int64} (ok_p0_turn : ∀ i, p0.2.2.1 i < 40) (hp0 : zj < 40)  : bm_Wx l yX2_meetsArea wsX2_meetsArea ({ frames := 1, cells := 0, slots := 0, locals := 21 }) D vwCl [(cJ, .long), (cI, .int), (cZ, .boolean)] (WW ad cJ cI cZ bm pa p0 p1 p2 li wi mt ms ma mp mk mn ou) [.ref (ad 8), .int (nI zj), .long z1, .long z2, .long z3, .long z4] (fun ws9 r9 => ws9 = (WW ad cJ cI cZ bm pa p0 p1 p2 li wi mt ms ma mp mk mn ou) ∧ ∃ b9 : Bool, r9 = some (.int (bm_b b9))) := by
  intro sz
  refine Met.ofW (cc := cX2_meetsArea) (maxL := 10) (ret := (some .boolean)) (by decide) rfl ?_
  intro p e s m args below meth c s₁ B hml hv
  obtain ⟨ha, hsz, hP, hK, hD0⟩ := hv
  have hx := B.exec
  have hb := B.bytes
  have hr := B.returns
  have hts := atoms_spec (ws := wsX2_meetsArea) B.pre
  have hown : s.vm.findClass RX2 = some m.cls := findClass_of_methodNamed B.named
  have hlocks := B.notSynchronized
  subst hsz
  have hD := hD0.self (sz := s.heap.size)
  generalize hAe : va_A (WW ad cJ cI cZ bm pa p0 p1 p2 li wi mt ms ma mp mk mn ou) s.heap.size = A at hD ⊢
  have hA : ∀ q : Nat, s.heap.size ≤ q → A q := fun q h => by rw [← hAe]; exact Or.inr h
  have hS : va_S A s.heap s.heap [] := va_S.rf
  have hl := lv_entry ([.ref (ad 8), .int (nI zj), .long z1, .long z2, .long z3, .long z4]) (n := 10) (Nat.le_of_ble_eq_true rfl)
  refine W.eq (g2 := entryFrame m ([.ref (ad 8), .int (nI zj), .long z1, .long z2, .long z3, .long z4] : List Value).toArray 10) (by rw [ha]) ?_
  rw [lg_entry_eq]
  generalize (lg_sl ([.ref (ad 8), .int (nI zj), .long z1, .long z2, .long z3, .long z4]) ++ List.replicate (10 - (lg_sl ([.ref (ad 8), .int (nI zj), .long z1, .long z2, .long z3, .long z4])).length) Slot.unset).toArray = ls at hl ⊢
  have hl : lv_has ls 10 [(0, .ref (ad 8)), (1, .int (nI zj)), (2, .long z1), (4, .long z2), (6, .long z3), (8, .long z4)] := hl
  refine lv_aload_n hx hb dX2_meetsArea_0 rfl (lv_at hl 0 rfl) ?_
  refine va_get (D := D) (ci := 2) (v := .ref (ad 12)) (C := RX2) (T := TX2) (N := 5) hx hb hts (inT inX2) hown hK hP 8 ww_8 rfl 4 (by decide) (hts (.fieldLink RX2 22 "BoardMoves$Placement" "placed" "[Z") (List.mem_cons_of_mem _ flX2_22)) (fun _ h9 => h9) rfl dX2_meetsArea_1 ?_
  refine lv_iload_n hx hb dX2_meetsArea_4 rfl (lv_at hl 1 rfl) ?_
  refine bm_zald (f := p0.2.2.2) hx hb hK hP 12 2 ww_12 rfl (j := zj) (by omega) (by decide) dX2_meetsArea_5 ?_
  refine bm_zb_eq (x := (p0.2.2.2 zj)) (tgt := 58) hx hb dX2_meetsArea_6 (by decide) (fun c_1 => ?_) (fun c_1 => ?_)
  · refine lv_iconst (v := bm_b false) hx hb dX2_meetsArea_58 (by decide) ?_
    exact bm_zretX (v := false) hx hb hr hP hD hK hS ⟨rfl, false, rfl⟩ dX2_meetsArea_59 hlocks
  · refine lv_aload_n hx hb dX2_meetsArea_9 rfl (lv_at hl 0 rfl) ?_
    refine va_get (D := D) (ci := 2) (v := .ref (ad 9)) (C := RX2) (T := TX2) (N := 5) hx hb hts (inT inX2) hown hK hP 8 ww_8 rfl 1 (by decide) (hts (.fieldLink RX2 9 "BoardMoves$Placement" "x" "[J") (List.mem_cons_of_mem _ flX2_9)) (fun _ h9 => h9) rfl dX2_meetsArea_10 ?_
    refine lv_iload_n hx hb dX2_meetsArea_13 rfl (lv_at hl 1 rfl) ?_
    refine bm_lald (f := p0.1) hx hb hK hP 9 0 ww_9 rfl (j := zj) (by omega) (by decide) dX2_meetsArea_14 ?_
    refine lv_topl (fun t_2 _ => ?_)
    refine lv_lload hx hb dX2_meetsArea_15 (lv_at hl 4 rfl) ?_
    refine bm_lc_ge (x := t_2) (y := z3) (tgt := 58) hx hb dX2_meetsArea_17 dX2_meetsArea_18 (by decide) (fun c_3 => ?_) (fun c_3 => ?_)
    · refine lv_iconst (v := bm_b false) hx hb dX2_meetsArea_58 (by decide) ?_
      exact bm_zretX (v := false) hx hb hr hP hD hK hS ⟨rfl, false, rfl⟩ dX2_meetsArea_59 hlocks
    · refine lv_lload_n hx hb dX2_meetsArea_21 rfl (lv_at hl 2 rfl) ?_
      refine lv_aload_n hx hb dX2_meetsArea_22 rfl (lv_at hl 0 rfl) ?_
      refine lv_iload_n hx hb dX2_meetsArea_23 rfl (lv_at hl 1 rfl) ?_
      refine bm_xcallV (As := [.int (nI zj)]) (rest := [.long z1]) ⟨hx, hb, hml, hown, hts⟩ (x_endX  (zj := zj) ok_p0_turn (by omega)) (cwV 1 hts gvX2_46 rfl rfl rfl hvX2_endX ⟨Nat.le_of_ble_eq_true rfl, Nat.le_of_ble_eq_true rfl⟩) hK hP hD hS hA 8 2 rfl ww_8 rfl hl.1 rfl (Nat.le_of_ble_eq_true rfl) dX2_meetsArea_24 ⟨Nat.le_of_ble_eq_true rfl, Nat.le_of_ble_eq_true rfl⟩ (fun ws_4 r_5 h_6 H locs hP hD hS => ?_)
      obtain ⟨rfl, v_7, rfl⟩ := h_6
      have hP : va_P D vwCl (WW ad cJ cI cZ bm pa p0 p1 p2 li wi mt ms ma mp mk mn ou) H := hP
      have hD : va_D A (WW ad cJ cI cZ bm pa p0 p1 p2 li wi mt ms ma mp mk mn ou) := hD
      refine bm_lc_ge (x := z1) (y := v_7) (tgt := 58) hx hb dX2_meetsArea_27 dX2_meetsArea_28 (by decide) (fun c_8 => ?_) (fun c_8 => ?_)
      · refine lv_iconst (v := bm_b false) hx hb dX2_meetsArea_58 (by decide) ?_
        exact bm_zretX (v := false) hx hb hr hP hD hK hS ⟨rfl, false, rfl⟩ dX2_meetsArea_59 hlocks
      · refine lv_aload_n hx hb dX2_meetsArea_31 rfl (lv_at hl 0 rfl) ?_
        refine va_get (D := D) (ci := 2) (v := .ref (ad 10)) (C := RX2) (T := TX2) (N := 5) hx hb hts (inT inX2) hown hK hP 8 ww_8 rfl 2 (by decide) (hts (.fieldLink RX2 15 "BoardMoves$Placement" "y" "[J") (List.mem_cons_of_mem _ flX2_15)) (fun _ h9 => h9) rfl dX2_meetsArea_32 ?_
        refine lv_iload_n hx hb dX2_meetsArea_35 rfl (lv_at hl 1 rfl) ?_
        refine bm_lald (f := p0.2.1) hx hb hK hP 10 0 ww_10 rfl (j := zj) (by omega) (by decide) dX2_meetsArea_36 ?_
        refine lv_topl (fun t_9 _ => ?_)
        refine lv_lload hx hb dX2_meetsArea_37 (lv_at hl 5 rfl) ?_
        refine bm_lc_ge (x := t_9) (y := z4) (tgt := 58) hx hb dX2_meetsArea_39 dX2_meetsArea_40 (by decide) (fun c_10 => ?_) (fun c_10 => ?_)
        · refine lv_iconst (v := bm_b false) hx hb dX2_meetsArea_58 (by decide) ?_
          exact bm_zretX (v := false) hx hb hr hP hD hK hS ⟨rfl, false, rfl⟩ dX2_meetsArea_59 hlocks
        · refine lv_lload hx hb dX2_meetsArea_43 (lv_at hl 3 rfl) ?_
          refine lv_aload_n hx hb dX2_meetsArea_45 rfl (lv_at hl 0 rfl) ?_
          refine lv_iload_n hx hb dX2_meetsArea_46 rfl (lv_at hl 1 rfl) ?_
          refine bm_xcallV (As := [.int (nI zj)]) (rest := [.long z2]) ⟨hx, hb, hml, hown, hts⟩ (x_endY  (zj := zj) ok_p0_turn (by omega)) (cwV 1 hts gvX2_50 rfl rfl rfl hvX2_endY ⟨Nat.le_of_ble_eq_true rfl, Nat.le_of_ble_eq_true rfl⟩) hK hP hD hS hA 8 2 rfl ww_8 rfl hl.1 rfl (Nat.le_of_ble_eq_true rfl) dX2_meetsArea_47 ⟨Nat.le_of_ble_eq_true rfl, Nat.le_of_ble_eq_true rfl⟩ (fun ws_11 r_12 h_13 H locs hP hD hS => ?_)
          obtain ⟨rfl, v_14, rfl⟩ := h_13
          have hP : va_P D vwCl (WW ad cJ cI cZ bm pa p0 p1 p2 li wi mt ms ma mp mk mn ou) H := hP
          have hD : va_D A (WW ad cJ cI cZ bm pa p0 p1 p2 li wi mt ms ma mp mk mn ou) := hD
          refine bm_lc_ge (x := z2) (y := v_14) (tgt := 58) hx hb dX2_meetsArea_50 dX2_meetsArea_51 (by decide) (fun c_15 => ?_) (fun c_15 => ?_)
          · refine lv_iconst (v := bm_b false) hx hb dX2_meetsArea_58 (by decide) ?_
            exact bm_zretX (v := false) hx hb hr hP hD hK hS ⟨rfl, false, rfl⟩ dX2_meetsArea_59 hlocks
          · refine lv_iconst (v := bm_b true) hx hb dX2_meetsArea_54 (by decide) ?_
            refine lv_goto (tgt := 59) hx hb dX2_meetsArea_55 (by decide) ?_
            exact bm_zretX (v := true) hx hb hr hP hD hK hS ⟨rfl, true, rfl⟩ dX2_meetsArea_59 hlocks

set_option maxHeartbeats 8000000 in
set_option maxRecDepth 100000 in
theorem x_over {l : Launch} {D : va_G} {ad : Nat → Nat} {cJ cI cZ : ClassId} {bm : gBM} {pa : gPA} {p0 p1 p2 : gPL} {li : gLI} {wi : gWI} {mt : Nat} {ms : gMS} {ma : gMA} {mp : gMP} {mk : gMK} {mn : gMN} {ou : Nat → Int64} {zj : Nat} {zf : Nat} (ok_pa_n : pa.2.2.2.2.2.2 ≤ 40) (ok_pa_side : ∀ i, pa.2.2.1 i < 40) (ok_p0_turn : ∀ i, p0.2.2.1 i < 40) (hp0 : zj < 40) (hp1 : zf < 41)  : bm_Wx l yX2_overlapped wsX2_overlapped ({ frames := 2, cells := 0, slots := 0, locals := 50 }) D vwCl [(cJ, .long), (cI, .int), (cZ, .boolean)] (WW ad cJ cI cZ bm pa p0 p1 p2 li wi mt ms ma mp mk mn ou) [.ref (ad 8), .int (nI zj), .int (nI zf)] (fun ws9 r9 => ws9 = (WW ad cJ cI cZ bm pa p0 p1 p2 li wi mt ms ma mp mk mn ou) ∧ (r9 = some (.int (-1)) ∨ ∃ k9 : Nat, k9 < 40 ∧ r9 = some (.int (nI k9)))) := by
  intro sz
  refine Met.ofW (cc := cX2_overlapped) (maxL := 8) (ret := (some .int)) (by decide) rfl ?_
  intro p e s m args below meth c s₁ B hml hv
  obtain ⟨ha, hsz, hP, hK, hD0⟩ := hv
  have hx := B.exec
  have hb := B.bytes
  have hr := B.returns
  have hts := atoms_spec (ws := wsX2_overlapped) B.pre
  have hown : s.vm.findClass RX2 = some m.cls := findClass_of_methodNamed B.named
  have hlocks := B.notSynchronized
  subst hsz
  have hD := hD0.self (sz := s.heap.size)
  generalize hAe : va_A (WW ad cJ cI cZ bm pa p0 p1 p2 li wi mt ms ma mp mk mn ou) s.heap.size = A at hD ⊢
  have hA : ∀ q : Nat, s.heap.size ≤ q → A q := fun q h => by rw [← hAe]; exact Or.inr h
  have hS : va_S A s.heap s.heap [] := va_S.rf
  have hl := lv_entry ([.ref (ad 8), .int (nI zj), .int (nI zf)]) (n := 8) (Nat.le_of_ble_eq_true rfl)
  refine W.eq (g2 := entryFrame m ([.ref (ad 8), .int (nI zj), .int (nI zf)] : List Value).toArray 8) (by rw [ha]) ?_
  rw [lg_entry_eq]
  generalize (lg_sl ([.ref (ad 8), .int (nI zj), .int (nI zf)]) ++ List.replicate (8 - (lg_sl ([.ref (ad 8), .int (nI zj), .int (nI zf)])).length) Slot.unset).toArray = ls at hl ⊢
  have hl : lv_has ls 8 [(0, .ref (ad 8)), (1, .int (nI zj)), (2, .int (nI zf))] := hl
  refine lv_aload_n hx hb dX2_overlapped_0 rfl (lv_at hl 0 rfl) ?_
  refine lv_iload_n hx hb dX2_overlapped_1 rfl (lv_at hl 1 rfl) ?_
  refine bm_xcallV (As := [.int (nI zj)]) (rest := []) ⟨hx, hb, hml, hown, hts⟩ (x_endX  (zj := zj) ok_p0_turn (by omega)) (cwV 1 hts gvX2_46 rfl rfl rfl hvX2_endX ⟨Nat.le_of_ble_eq_true rfl, Nat.le_of_ble_eq_true rfl⟩) hK hP hD hS hA 8 2 rfl ww_8 rfl hl.1 rfl (Nat.le_of_ble_eq_true rfl) dX2_overlapped_2 ⟨Nat.le_of_ble_eq_true rfl, Nat.le_of_ble_eq_true rfl⟩ (fun ws_1 r_2 h_3 H locs hP hD hS => ?_)
  obtain ⟨rfl, v_4, rfl⟩ := h_3
  have hP : va_P D vwCl (WW ad cJ cI cZ bm pa p0 p1 p2 li wi mt ms ma mp mk mn ou) H := hP
  have hD : va_D A (WW ad cJ cI cZ bm pa p0 p1 p2 li wi mt ms ma mp mk mn ou) := hD
  refine lv_lstore_n (lv' := [(3, .long v_4), (0, .ref (ad 8)), (1, .int (nI zj)), (2, .int (nI zf))]) hx hb dX2_overlapped_5 rfl hl (by decide) rfl (fun ls hl => ?_)
  refine lv_aload_n hx hb dX2_overlapped_6 rfl (lv_at hl 1 rfl) ?_
  refine lv_iload_n hx hb dX2_overlapped_7 rfl (lv_at hl 2 rfl) ?_
  refine bm_xcallV (As := [.int (nI zj)]) (rest := []) ⟨hx, hb, hml, hown, hts⟩ (x_endY  (zj := zj) ok_p0_turn (by omega)) (cwV 1 hts gvX2_50 rfl rfl rfl hvX2_endY ⟨Nat.le_of_ble_eq_true rfl, Nat.le_of_ble_eq_true rfl⟩) hK hP hD hS hA 8 2 rfl ww_8 rfl hl.1 rfl (Nat.le_of_ble_eq_true rfl) dX2_overlapped_8 ⟨Nat.le_of_ble_eq_true rfl, Nat.le_of_ble_eq_true rfl⟩ (fun ws_5 r_6 h_7 H locs hP hD hS => ?_)
  obtain ⟨rfl, v_8, rfl⟩ := h_7
  have hP : va_P D vwCl (WW ad cJ cI cZ bm pa p0 p1 p2 li wi mt ms ma mp mk mn ou) H := hP
  have hD : va_D A (WW ad cJ cI cZ bm pa p0 p1 p2 li wi mt ms ma mp mk mn ou) := hD
  refine lv_lstore (lv' := [(5, .long v_8), (3, .long v_4), (0, .ref (ad 8)), (1, .int (nI zj)), (2, .int (nI zf))]) hx hb dX2_overlapped_11 hl (by decide) rfl (fun ls hl => ?_)
  refine lv_iload_n hx hb dX2_overlapped_13 rfl (lv_at hl 4 rfl) ?_
  refine lv_istore (lv' := [(7, .int (nI zf)), (5, .long v_8), (3, .long v_4), (0, .ref (ad 8)), (1, .int (nI zj)), (2, .int (nI zf))]) hx hb dX2_overlapped_14 hl (by decide) rfl (fun ls hl => ?_)
  have lp_9 : ∀ (k_11 : Nat) (i_10 : Nat) , i_10 ≤ 41 → 41 < i_10 + k_11 → ∀ (H : Heap) (locs : List Loc), va_P D vwCl (WW ad cJ cI cZ bm pa p0 p1 p2 li wi mt ms ma mp mk mn ou) H → va_D A (WW ad cJ cI cZ bm pa p0 p1 p2 li wi mt ms ma mp mk mn ou) → va_S A s.heap H locs → ∀ (ls : Array Slot), lv_has ls 8 [(7, .int (nI i_10)), (5, .long v_8), (3, .long v_4), (0, .ref (ad 8)), (1, .int (nI zj)), (2, .int (nI zf))] → W p l e (headSpec wsX2_overlapped ({ frames := 2, cells := 0, slots := 0, locals := 50 })).room s m args below meth c H locs 0 0 (MQ below (bm_Wxq D vwCl [(cJ, .long), (cI, .int), (cZ, .boolean)] (fun ws9 r9 => ws9 = (WW ad cJ cI cZ bm pa p0 p1 p2 li wi mt ms ma mp mk mn ou) ∧ (r9 = some (.int (-1)) ∨ ∃ k9 : Nat, k9 < 40 ∧ r9 = some (.int (nI k9)))) A) args s 0 0 A) (F0 m 16 ls []) := by
    intro k_11
    induction k_11 with
    | zero => intro i_10 hi_13 hk_14; exfalso; omega
    | succ k_11 ih_12 =>
      intro i_10 hi_13 hk_14  H locs hP hD hS ls hl
      refine lv_iload hx hb dX2_overlapped_16 (lv_at hl 0 rfl) ?_
      refine lv_aload_n hx hb dX2_overlapped_18 rfl (lv_at hl 3 rfl) ?_
      refine va_get (D := D) (ci := 2) (v := .ref (ad 1)) (C := RX2) (T := TX2) (N := 5) hx hb hts (inT inX2) hown hK hP 8 ww_8 rfl 0 (by decide) (hts (.fieldLink RX2 26 "BoardMoves$Placement" "parts" "LBoardMoves$Parts;") (List.mem_cons_of_mem _ flX2_26)) (fun _ h9 => h9) rfl dX2_overlapped_19 ?_
      refine va_get (D := D) (ci := 1) (v := .int (nI pa.2.2.2.2.2.2)) (C := RX1) (T := TX1) (N := 7) hx hb hts (inT inX1) hown hK hP 1 ww_1 rfl 6 (by decide) (hts (.fieldLink RX2 30 "BoardMoves$Parts" "count" "I") (List.mem_cons_of_mem _ flX2_30)) (fun _ h9 => h9) rfl dX2_overlapped_22 ?_
      refine bm_ni_ge (x := i_10) (y := pa.2.2.2.2.2.2) (tgt := 89) hx hb (by omega) (by omega) dX2_overlapped_25 (by decide) (fun c_15 => ?_) (fun c_15 => ?_)
      · refine lv_iconst (v := -1) hx hb dX2_overlapped_89 (by decide) ?_
        exact bm_iretX (v := (-1)) hx hb hr hP hD hK hS ⟨rfl, Or.inl rfl⟩ dX2_overlapped_90 hlocks
      · refine lv_iload hx hb dX2_overlapped_28 (lv_at hl 0 rfl) ?_
        refine lv_iload_n hx hb dX2_overlapped_30 rfl (lv_at hl 4 rfl) ?_
        refine bm_ni_eq (x := i_10) (y := zj) (tgt := 83) hx hb (by omega) (by omega) dX2_overlapped_31 (by decide) (fun c_16 => ?_) (fun c_16 => ?_)
        · refine lv_iinc (v := (nI (i_10 + 1))) (lv' := [(7, .int (nI (i_10 + 1))), (5, .long v_8), (3, .long v_4), (0, .ref (ad 8)), (1, .int (nI zj)), (2, .int (nI zf))]) hx hb dX2_overlapped_83 hl (k := 0) rfl (nI_1 i_10) (by decide) rfl (fun ls hl => ?_)
          refine lv_goto (tgt := 16) hx hb dX2_overlapped_86 (by decide) ?_
          exact ih_12 (i_10 + 1) (by omega) (by omega)  _ _ hP hD hS _ (lv_sub hl [0, 1, 2, 3, 4, 5] rfl)
        · refine lv_aload_n hx hb dX2_overlapped_34 rfl (lv_at hl 3 rfl) ?_
          refine va_get (D := D) (ci := 2) (v := .ref (ad 1)) (C := RX2) (T := TX2) (N := 5) hx hb hts (inT inX2) hown hK hP 8 ww_8 rfl 0 (by decide) (hts (.fieldLink RX2 26 "BoardMoves$Placement" "parts" "LBoardMoves$Parts;") (List.mem_cons_of_mem _ flX2_26)) (fun _ h9 => h9) rfl dX2_overlapped_35 ?_
          refine va_get (D := D) (ci := 1) (v := .ref (ad 4)) (C := RX1) (T := TX1) (N := 7) hx hb hts (inT inX1) hown hK hP 1 ww_1 rfl 2 (by decide) (hts (.fieldLink RX2 53 "BoardMoves$Parts" "side" "[I") (List.mem_cons_of_mem _ flX2_53)) (fun _ h9 => h9) rfl dX2_overlapped_38 ?_
          refine lv_iload hx hb dX2_overlapped_41 (lv_at hl 0 rfl) ?_
          refine bm_nald (f := pa.2.2.1) hx hb hK hP 4 1 ww_4 rfl (j := i_10) (by omega) (by decide) dX2_overlapped_43 ?_
          refine lv_aload_n hx hb dX2_overlapped_44 rfl (lv_at hl 3 rfl) ?_
          refine va_get (D := D) (ci := 2) (v := .ref (ad 1)) (C := RX2) (T := TX2) (N := 5) hx hb hts (inT inX2) hown hK hP 8 ww_8 rfl 0 (by decide) (hts (.fieldLink RX2 26 "BoardMoves$Placement" "parts" "LBoardMoves$Parts;") (List.mem_cons_of_mem _ flX2_26)) (fun _ h9 => h9) rfl dX2_overlapped_45 ?_
          refine va_get (D := D) (ci := 1) (v := .ref (ad 4)) (C := RX1) (T := TX1) (N := 7) hx hb hts (inT inX1) hown hK hP 1 ww_1 rfl 2 (by decide) (hts (.fieldLink RX2 53 "BoardMoves$Parts" "side" "[I") (List.mem_cons_of_mem _ flX2_53)) (fun _ h9 => h9) rfl dX2_overlapped_48 ?_
          refine lv_iload_n hx hb dX2_overlapped_51 rfl (lv_at hl 4 rfl) ?_
          refine bm_nald (f := pa.2.2.1) hx hb hK hP 4 1 ww_4 rfl (j := zj) (by omega) (by decide) dX2_overlapped_52 ?_
          refine bm_ni_ne (x := (pa.2.2.1 i_10)) (y := (pa.2.2.1 zj)) (tgt := 83) hx hb (bm40 (ok_pa_side _)) (bm40 (ok_pa_side _)) dX2_overlapped_53 (by decide) (fun c_17 => ?_) (fun c_17 => ?_)
          · refine lv_iinc (v := (nI (i_10 + 1))) (lv' := [(7, .int (nI (i_10 + 1))), (5, .long v_8), (3, .long v_4), (0, .ref (ad 8)), (1, .int (nI zj)), (2, .int (nI zf))]) hx hb dX2_overlapped_83 hl (k := 0) rfl (nI_1 i_10) (by decide) rfl (fun ls hl => ?_)
            refine lv_goto (tgt := 16) hx hb dX2_overlapped_86 (by decide) ?_
            exact ih_12 (i_10 + 1) (by omega) (by omega)  _ _ hP hD hS _ (lv_sub hl [0, 1, 2, 3, 4, 5] rfl)
          · refine lv_aload_n hx hb dX2_overlapped_56 rfl (lv_at hl 3 rfl) ?_
            refine lv_iload hx hb dX2_overlapped_57 (lv_at hl 0 rfl) ?_
            refine lv_aload_n hx hb dX2_overlapped_59 rfl (lv_at hl 3 rfl) ?_
            refine va_get (D := D) (ci := 2) (v := .ref (ad 9)) (C := RX2) (T := TX2) (N := 5) hx hb hts (inT inX2) hown hK hP 8 ww_8 rfl 1 (by decide) (hts (.fieldLink RX2 9 "BoardMoves$Placement" "x" "[J") (List.mem_cons_of_mem _ flX2_9)) (fun _ h9 => h9) rfl dX2_overlapped_60 ?_
            refine lv_iload_n hx hb dX2_overlapped_63 rfl (lv_at hl 4 rfl) ?_
            refine bm_lald (f := p0.1) hx hb hK hP 9 0 ww_9 rfl (j := zj) (by omega) (by decide) dX2_overlapped_64 ?_
            refine lv_topl (fun t_18 _ => ?_)
            refine lv_aload_n hx hb dX2_overlapped_65 rfl (lv_at hl 3 rfl) ?_
            refine va_get (D := D) (ci := 2) (v := .ref (ad 10)) (C := RX2) (T := TX2) (N := 5) hx hb hts (inT inX2) hown hK hP 8 ww_8 rfl 2 (by decide) (hts (.fieldLink RX2 15 "BoardMoves$Placement" "y" "[J") (List.mem_cons_of_mem _ flX2_15)) (fun _ h9 => h9) rfl dX2_overlapped_66 ?_
            refine lv_iload_n hx hb dX2_overlapped_69 rfl (lv_at hl 4 rfl) ?_
            refine bm_lald (f := p0.2.1) hx hb hK hP 10 0 ww_10 rfl (j := zj) (by omega) (by decide) dX2_overlapped_70 ?_
            refine lv_topl (fun t_19 _ => ?_)
            refine lv_lload_n hx hb dX2_overlapped_71 rfl (lv_at hl 2 rfl) ?_
            refine lv_lload hx hb dX2_overlapped_72 (lv_at hl 1 rfl) ?_
            refine bm_xcallV (As := [.int (nI i_10), .long t_18, .long t_19, .long v_4, .long v_8]) (rest := []) ⟨hx, hb, hml, hown, hts⟩ (x_meets  (zj := i_10) (z1 := t_18) (z2 := t_19) (z3 := v_4) (z4 := v_8) ok_p0_turn (by omega)) (cwV 5 hts gvX2_56 rfl rfl rfl hvX2_meetsArea ⟨Nat.le_of_ble_eq_true rfl, Nat.le_of_ble_eq_true rfl⟩) hK hP hD hS hA 8 2 rfl ww_8 rfl hl.1 rfl (Nat.le_of_ble_eq_true rfl) dX2_overlapped_74 ⟨Nat.le_of_ble_eq_true rfl, Nat.le_of_ble_eq_true rfl⟩ (fun ws_20 r_21 h_22 H locs hP hD hS => ?_)
            obtain ⟨rfl, v_23, rfl⟩ := h_22
            have hP : va_P D vwCl (WW ad cJ cI cZ bm pa p0 p1 p2 li wi mt ms ma mp mk mn ou) H := hP
            have hD : va_D A (WW ad cJ cI cZ bm pa p0 p1 p2 li wi mt ms ma mp mk mn ou) := hD
            refine bm_zb_eq (x := v_23) (tgt := 83) hx hb dX2_overlapped_77 (by decide) (fun c_24 => ?_) (fun c_24 => ?_)
            · refine lv_iinc (v := (nI (i_10 + 1))) (lv' := [(7, .int (nI (i_10 + 1))), (5, .long v_8), (3, .long v_4), (0, .ref (ad 8)), (1, .int (nI zj)), (2, .int (nI zf))]) hx hb dX2_overlapped_83 hl (k := 0) rfl (nI_1 i_10) (by decide) rfl (fun ls hl => ?_)
              refine lv_goto (tgt := 16) hx hb dX2_overlapped_86 (by decide) ?_
              exact ih_12 (i_10 + 1) (by omega) (by omega)  _ _ hP hD hS _ (lv_sub hl [0, 1, 2, 3, 4, 5] rfl)
            · refine lv_iload hx hb dX2_overlapped_80 (lv_at hl 0 rfl) ?_
              exact bm_iretX (v := (nI i_10)) hx hb hr hP hD hK hS ⟨rfl, Or.inr ⟨i_10, (by omega), rfl⟩⟩ dX2_overlapped_82 hlocks
  exact lp_9 (41 + 1) zf (by omega) (by omega)  _ _ hP hD hS _ (lv_sub hl [0, 1, 2, 3, 4, 5] rfl)

set_option maxHeartbeats 8000000 in
set_option maxRecDepth 100000 in
theorem x_first {l : Launch} {D : va_G} {ad : Nat → Nat} {cJ cI cZ : ClassId} {bm : gBM} {pa : gPA} {p0 p1 p2 : gPL} {li : gLI} {wi : gWI} {mt : Nat} {ms : gMS} {ma : gMA} {mp : gMP} {mk : gMK} {mn : gMN} {ou : Nat → Int64}  (ok_pa_n : pa.2.2.2.2.2.2 ≤ 40) (ok_pa_side : ∀ i, pa.2.2.1 i < 40) (ok_p0_turn : ∀ i, p0.2.2.1 i < 40)   : bm_Wx l yX2_firstOverlapping wsX2_firstOverlapping ({ frames := 3, cells := 0, slots := 0, locals := 77 }) D vwCl [(cJ, .long), (cI, .int), (cZ, .boolean)] (WW ad cJ cI cZ bm pa p0 p1 p2 li wi mt ms ma mp mk mn ou) [.ref (ad 8)] (fun ws9 r9 => ws9 = (WW ad cJ cI cZ bm pa p0 p1 p2 li wi mt ms ma mp mk mn ou) ∧ (r9 = some (.int (-1)) ∨ ∃ k9 : Nat, k9 < 40 ∧ r9 = some (.int (nI k9)))) := by
  intro sz
  refine Met.ofW (cc := cX2_firstOverlapping) (maxL := 2) (ret := (some .int)) (by decide) rfl ?_
  intro p e s m args below meth c s₁ B hml hv
  obtain ⟨ha, hsz, hP, hK, hD0⟩ := hv
  have hx := B.exec
  have hb := B.bytes
  have hr := B.returns
  have hts := atoms_spec (ws := wsX2_firstOverlapping) B.pre
  have hown : s.vm.findClass RX2 = some m.cls := findClass_of_methodNamed B.named
  have hlocks := B.notSynchronized
  subst hsz
  have hD := hD0.self (sz := s.heap.size)
  generalize hAe : va_A (WW ad cJ cI cZ bm pa p0 p1 p2 li wi mt ms ma mp mk mn ou) s.heap.size = A at hD ⊢
  have hA : ∀ q : Nat, s.heap.size ≤ q → A q := fun q h => by rw [← hAe]; exact Or.inr h
  have hS : va_S A s.heap s.heap [] := va_S.rf
  have hl := lv_entry ([.ref (ad 8)]) (n := 2) (Nat.le_of_ble_eq_true rfl)
  refine W.eq (g2 := entryFrame m ([.ref (ad 8)] : List Value).toArray 2) (by rw [ha]) ?_
  rw [lg_entry_eq]
  generalize (lg_sl ([.ref (ad 8)]) ++ List.replicate (2 - (lg_sl ([.ref (ad 8)])).length) Slot.unset).toArray = ls at hl ⊢
  have hl : lv_has ls 2 [(0, .ref (ad 8))] := hl
  refine lv_iconst (v := nI 0) hx hb dX2_firstOverlapping_0 (by decide) ?_
  refine lv_istore_n (lv' := [(1, .int (nI 0)), (0, .ref (ad 8))]) hx hb dX2_firstOverlapping_1 rfl hl (by decide) rfl (fun ls hl => ?_)
  have lp_1 : ∀ (k_3 : Nat) (i_2 : Nat) , i_2 ≤ pa.2.2.2.2.2.2 → pa.2.2.2.2.2.2 < i_2 + k_3 → ∀ (H : Heap) (locs : List Loc), va_P D vwCl (WW ad cJ cI cZ bm pa p0 p1 p2 li wi mt ms ma mp mk mn ou) H → va_D A (WW ad cJ cI cZ bm pa p0 p1 p2 li wi mt ms ma mp mk mn ou) → va_S A s.heap H locs → ∀ (ls : Array Slot), lv_has ls 2 [(1, .int (nI i_2)), (0, .ref (ad 8))] → W p l e (headSpec wsX2_firstOverlapping ({ frames := 3, cells := 0, slots := 0, locals := 77 })).room s m args below meth c H locs 0 0 (MQ below (bm_Wxq D vwCl [(cJ, .long), (cI, .int), (cZ, .boolean)] (fun ws9 r9 => ws9 = (WW ad cJ cI cZ bm pa p0 p1 p2 li wi mt ms ma mp mk mn ou) ∧ (r9 = some (.int (-1)) ∨ ∃ k9 : Nat, k9 < 40 ∧ r9 = some (.int (nI k9)))) A) args s 0 0 A) (F0 m 2 ls []) := by
    intro k_3
    induction k_3 with
    | zero => intro i_2 hi_5 hk_6; exfalso; omega
    | succ k_3 ih_4 =>
      intro i_2 hi_5 hk_6  H locs hP hD hS ls hl
      refine lv_iload_n hx hb dX2_firstOverlapping_2 rfl (lv_at hl 0 rfl) ?_
      refine lv_aload_n hx hb dX2_firstOverlapping_3 rfl (lv_at hl 1 rfl) ?_
      refine va_get (D := D) (ci := 2) (v := .ref (ad 1)) (C := RX2) (T := TX2) (N := 5) hx hb hts (inT inX2) hown hK hP 8 ww_8 rfl 0 (by decide) (hts (.fieldLink RX2 26 "BoardMoves$Placement" "parts" "LBoardMoves$Parts;") (List.mem_cons_of_mem _ flX2_26)) (fun _ h9 => h9) rfl dX2_firstOverlapping_4 ?_
      refine va_get (D := D) (ci := 1) (v := .int (nI pa.2.2.2.2.2.2)) (C := RX1) (T := TX1) (N := 7) hx hb hts (inT inX1) hown hK hP 1 ww_1 rfl 6 (by decide) (hts (.fieldLink RX2 30 "BoardMoves$Parts" "count" "I") (List.mem_cons_of_mem _ flX2_30)) (fun _ h9 => h9) rfl dX2_firstOverlapping_7 ?_
      refine bm_ni_ge (x := i_2) (y := pa.2.2.2.2.2.2) (tgt := 42) hx hb (by omega) (by omega) dX2_firstOverlapping_10 (by decide) (fun c_7 => ?_) (fun c_7 => ?_)
      · refine lv_iconst (v := -1) hx hb dX2_firstOverlapping_42 (by decide) ?_
        exact bm_iretX (v := (-1)) hx hb hr hP hD hK hS ⟨rfl, Or.inl rfl⟩ dX2_firstOverlapping_43 hlocks
      · refine lv_aload_n hx hb dX2_firstOverlapping_13 rfl (lv_at hl 1 rfl) ?_
        refine va_get (D := D) (ci := 2) (v := .ref (ad 12)) (C := RX2) (T := TX2) (N := 5) hx hb hts (inT inX2) hown hK hP 8 ww_8 rfl 4 (by decide) (hts (.fieldLink RX2 22 "BoardMoves$Placement" "placed" "[Z") (List.mem_cons_of_mem _ flX2_22)) (fun _ h9 => h9) rfl dX2_firstOverlapping_14 ?_
        refine lv_iload_n hx hb dX2_firstOverlapping_17 rfl (lv_at hl 0 rfl) ?_
        refine bm_zald (f := p0.2.2.2) hx hb hK hP 12 2 ww_12 rfl (j := i_2) (by omega) (by decide) dX2_firstOverlapping_18 ?_
        refine bm_zb_eq (x := (p0.2.2.2 i_2)) (tgt := 36) hx hb dX2_firstOverlapping_19 (by decide) (fun c_8 => ?_) (fun c_8 => ?_)
        · refine lv_iinc (v := (nI (i_2 + 1))) (lv' := [(1, .int (nI (i_2 + 1))), (0, .ref (ad 8))]) hx hb dX2_firstOverlapping_36 hl (k := 0) rfl (nI_1 i_2) (by decide) rfl (fun ls hl => ?_)
          refine lv_goto (tgt := 2) hx hb dX2_firstOverlapping_39 (by decide) ?_
          exact ih_4 (i_2 + 1) (by omega) (by omega)  _ _ hP hD hS _ (lv_sub hl [0, 1] rfl)
        · refine lv_aload_n hx hb dX2_firstOverlapping_22 rfl (lv_at hl 1 rfl) ?_
          refine lv_iload_n hx hb dX2_firstOverlapping_23 rfl (lv_at hl 0 rfl) ?_
          refine lv_iload_n hx hb dX2_firstOverlapping_24 rfl (lv_at hl 0 rfl) ?_
          refine lv_iconst (v := nI 1) hx hb dX2_firstOverlapping_25 (by decide) ?_
          refine bm_nadd hx hb dX2_firstOverlapping_26 ?_
          refine bm_xcallV (As := [.int (nI i_2), .int (nI (i_2 + 1))]) (rest := []) ⟨hx, hb, hml, hown, hts⟩ (x_over  (zj := i_2) (zf := i_2 + 1) ok_pa_n ok_pa_side ok_p0_turn (by omega) (by omega)) (cwV 2 hts gvX2_60 rfl rfl rfl hvX2_overlapped ⟨Nat.le_of_ble_eq_true rfl, Nat.le_of_ble_eq_true rfl⟩) hK hP hD hS hA 8 2 rfl ww_8 rfl hl.1 rfl (Nat.le_of_ble_eq_true rfl) dX2_firstOverlapping_27 ⟨Nat.le_of_ble_eq_true rfl, Nat.le_of_ble_eq_true rfl⟩ (fun ws_9 r_10 h_11 H locs hP hD hS => ?_)
          obtain ⟨rfl, ho_14⟩ := h_11
          have hP : va_P D vwCl (WW ad cJ cI cZ bm pa p0 p1 p2 li wi mt ms ma mp mk mn ou) H := hP
          have hD : va_D A (WW ad cJ cI cZ bm pa p0 p1 p2 li wi mt ms ma mp mk mn ou) := hD
          rcases ho_14 with rfl | ⟨k_12, hk_13, rfl⟩
          · refine lv_iconst (v := -1) hx hb dX2_firstOverlapping_30 (by decide) ?_
            refine lv_icmp_eq (x := (-1)) (y := -1) (tgt := 36) hx hb dX2_firstOverlapping_31 (by decide) (fun c_15 => ?_) (fun c_15 => ?_)
            · refine lv_iinc (v := (nI (i_2 + 1))) (lv' := [(1, .int (nI (i_2 + 1))), (0, .ref (ad 8))]) hx hb dX2_firstOverlapping_36 hl (k := 0) rfl (nI_1 i_2) (by decide) rfl (fun ls hl => ?_)
              refine lv_goto (tgt := 2) hx hb dX2_firstOverlapping_39 (by decide) ?_
              exact ih_4 (i_2 + 1) (by omega) (by omega)  _ _ hP hD hS _ (lv_sub hl [0, 1] rfl)
            · exact absurd rfl c_15
          · refine lv_iconst (v := -1) hx hb dX2_firstOverlapping_30 (by decide) ?_
            refine lv_icmp_eq (x := (nI k_12)) (y := -1) (tgt := 36) hx hb dX2_firstOverlapping_31 (by decide) (fun c_16 => ?_) (fun c_16 => ?_)
            · exact absurd c_16 (bm_nm1 (by omega))
            · refine lv_iload_n hx hb dX2_firstOverlapping_34 rfl (lv_at hl 0 rfl) ?_
              exact bm_iretX (v := (nI i_2)) hx hb hr hP hD hK hS ⟨rfl, Or.inr ⟨i_2, (by omega), rfl⟩⟩ dX2_firstOverlapping_35 hlocks
  exact lp_1 (pa.2.2.2.2.2.2 + 1) 0 (by omega) (by omega)  _ _ hP hD hS _ (lv_sub hl [0, 1] rfl)

set_option maxHeartbeats 8000000 in
set_option maxRecDepth 100000 in
theorem x_mateP {l : Launch} {D : va_G} {ad : Nat → Nat} {cJ cI cZ : ClassId} {bm : gBM} {pa : gPA} {p0 p1 p2 : gPL} {li : gLI} {wi : gWI} {mt : Nat} {ms : gMS} {ma : gMA} {mp : gMP} {mk : gMK} {mn : gMN} {ou : Nat → Int64} {zj : Nat} (ok_pa_n : pa.2.2.2.2.2.2 ≤ 40) (ok_pa_lowest : ∀ i, pa.2.2.2.2.2.1 i < 40) (hp0 : zj < 40)  : bm_Wx l yX2_hasPlacedMate wsX2_hasPlacedMate ({ frames := 1, cells := 0, slots := 0, locals := 22 }) D vwCl [(cJ, .long), (cI, .int), (cZ, .boolean)] (WW ad cJ cI cZ bm pa p0 p1 p2 li wi mt ms ma mp mk mn ou) [.ref (ad 8), .int (nI zj)] (fun ws9 r9 => ws9 = (WW ad cJ cI cZ bm pa p0 p1 p2 li wi mt ms ma mp mk mn ou) ∧ ∃ b9 : Bool, r9 = some (.int (bm_b b9))) := by
  intro sz
  refine Met.ofW (cc := cX2_hasPlacedMate) (maxL := 3) (ret := (some .boolean)) (by decide) rfl ?_
  intro p e s m args below meth c s₁ B hml hv
  obtain ⟨ha, hsz, hP, hK, hD0⟩ := hv
  have hx := B.exec
  have hb := B.bytes
  have hr := B.returns
  have hts := atoms_spec (ws := wsX2_hasPlacedMate) B.pre
  have hown : s.vm.findClass RX2 = some m.cls := findClass_of_methodNamed B.named
  have hlocks := B.notSynchronized
  subst hsz
  have hD := hD0.self (sz := s.heap.size)
  generalize hAe : va_A (WW ad cJ cI cZ bm pa p0 p1 p2 li wi mt ms ma mp mk mn ou) s.heap.size = A at hD ⊢
  have hA : ∀ q : Nat, s.heap.size ≤ q → A q := fun q h => by rw [← hAe]; exact Or.inr h
  have hS : va_S A s.heap s.heap [] := va_S.rf
  have hl := lv_entry ([.ref (ad 8), .int (nI zj)]) (n := 3) (Nat.le_of_ble_eq_true rfl)
  refine W.eq (g2 := entryFrame m ([.ref (ad 8), .int (nI zj)] : List Value).toArray 3) (by rw [ha]) ?_
  rw [lg_entry_eq]
  generalize (lg_sl ([.ref (ad 8), .int (nI zj)]) ++ List.replicate (3 - (lg_sl ([.ref (ad 8), .int (nI zj)])).length) Slot.unset).toArray = ls at hl ⊢
  have hl : lv_has ls 3 [(0, .ref (ad 8)), (1, .int (nI zj))] := hl
  refine lv_iconst (v := nI 0) hx hb dX2_hasPlacedMate_0 (by decide) ?_
  refine lv_istore_n (lv' := [(2, .int (nI 0)), (0, .ref (ad 8)), (1, .int (nI zj))]) hx hb dX2_hasPlacedMate_1 rfl hl (by decide) rfl (fun ls hl => ?_)
  have lp_1 : ∀ (k_3 : Nat) (i_2 : Nat) , i_2 ≤ pa.2.2.2.2.2.2 → pa.2.2.2.2.2.2 < i_2 + k_3 → ∀ (H : Heap) (locs : List Loc), va_P D vwCl (WW ad cJ cI cZ bm pa p0 p1 p2 li wi mt ms ma mp mk mn ou) H → va_D A (WW ad cJ cI cZ bm pa p0 p1 p2 li wi mt ms ma mp mk mn ou) → va_S A s.heap H locs → ∀ (ls : Array Slot), lv_has ls 3 [(2, .int (nI i_2)), (0, .ref (ad 8)), (1, .int (nI zj))] → W p l e (headSpec wsX2_hasPlacedMate ({ frames := 1, cells := 0, slots := 0, locals := 22 })).room s m args below meth c H locs 0 0 (MQ below (bm_Wxq D vwCl [(cJ, .long), (cI, .int), (cZ, .boolean)] (fun ws9 r9 => ws9 = (WW ad cJ cI cZ bm pa p0 p1 p2 li wi mt ms ma mp mk mn ou) ∧ ∃ b9 : Bool, r9 = some (.int (bm_b b9))) A) args s 0 0 A) (F0 m 2 ls []) := by
    intro k_3
    induction k_3 with
    | zero => intro i_2 hi_5 hk_6; exfalso; omega
    | succ k_3 ih_4 =>
      intro i_2 hi_5 hk_6  H locs hP hD hS ls hl
      refine lv_iload_n hx hb dX2_hasPlacedMate_2 rfl (lv_at hl 0 rfl) ?_
      refine lv_aload_n hx hb dX2_hasPlacedMate_3 rfl (lv_at hl 1 rfl) ?_
      refine va_get (D := D) (ci := 2) (v := .ref (ad 1)) (C := RX2) (T := TX2) (N := 5) hx hb hts (inT inX2) hown hK hP 8 ww_8 rfl 0 (by decide) (hts (.fieldLink RX2 26 "BoardMoves$Placement" "parts" "LBoardMoves$Parts;") (List.mem_cons_of_mem _ flX2_26)) (fun _ h9 => h9) rfl dX2_hasPlacedMate_4 ?_
      refine va_get (D := D) (ci := 1) (v := .int (nI pa.2.2.2.2.2.2)) (C := RX1) (T := TX1) (N := 7) hx hb hts (inT inX1) hown hK hP 1 ww_1 rfl 6 (by decide) (hts (.fieldLink RX2 30 "BoardMoves$Parts" "count" "I") (List.mem_cons_of_mem _ flX2_30)) (fun _ h9 => h9) rfl dX2_hasPlacedMate_7 ?_
      refine bm_ni_ge (x := i_2) (y := pa.2.2.2.2.2.2) (tgt := 47) hx hb (by omega) (by omega) dX2_hasPlacedMate_10 (by decide) (fun c_7 => ?_) (fun c_7 => ?_)
      · refine lv_iconst (v := bm_b false) hx hb dX2_hasPlacedMate_47 (by decide) ?_
        exact bm_zretX (v := false) hx hb hr hP hD hK hS ⟨rfl, false, rfl⟩ dX2_hasPlacedMate_48 hlocks
      · refine lv_iload_n hx hb dX2_hasPlacedMate_13 rfl (lv_at hl 0 rfl) ?_
        refine lv_iload_n hx hb dX2_hasPlacedMate_14 rfl (lv_at hl 2 rfl) ?_
        refine bm_ni_eq (x := i_2) (y := zj) (tgt := 41) hx hb (by omega) (by omega) dX2_hasPlacedMate_15 (by decide) (fun c_8 => ?_) (fun c_8 => ?_)
        · refine lv_iinc (v := (nI (i_2 + 1))) (lv' := [(2, .int (nI (i_2 + 1))), (0, .ref (ad 8)), (1, .int (nI zj))]) hx hb dX2_hasPlacedMate_41 hl (k := 0) rfl (nI_1 i_2) (by decide) rfl (fun ls hl => ?_)
          refine lv_goto (tgt := 2) hx hb dX2_hasPlacedMate_44 (by decide) ?_
          exact ih_4 (i_2 + 1) (by omega) (by omega)  _ _ hP hD hS _ (lv_sub hl [0, 1, 2] rfl)
        · refine lv_aload_n hx hb dX2_hasPlacedMate_18 rfl (lv_at hl 1 rfl) ?_
          refine va_get (D := D) (ci := 2) (v := .ref (ad 12)) (C := RX2) (T := TX2) (N := 5) hx hb hts (inT inX2) hown hK hP 8 ww_8 rfl 4 (by decide) (hts (.fieldLink RX2 22 "BoardMoves$Placement" "placed" "[Z") (List.mem_cons_of_mem _ flX2_22)) (fun _ h9 => h9) rfl dX2_hasPlacedMate_19 ?_
          refine lv_iload_n hx hb dX2_hasPlacedMate_22 rfl (lv_at hl 0 rfl) ?_
          refine bm_zald (f := p0.2.2.2) hx hb hK hP 12 2 ww_12 rfl (j := i_2) (by omega) (by decide) dX2_hasPlacedMate_23 ?_
          refine bm_zb_eq (x := (p0.2.2.2 i_2)) (tgt := 41) hx hb dX2_hasPlacedMate_24 (by decide) (fun c_9 => ?_) (fun c_9 => ?_)
          · refine lv_iinc (v := (nI (i_2 + 1))) (lv' := [(2, .int (nI (i_2 + 1))), (0, .ref (ad 8)), (1, .int (nI zj))]) hx hb dX2_hasPlacedMate_41 hl (k := 0) rfl (nI_1 i_2) (by decide) rfl (fun ls hl => ?_)
            refine lv_goto (tgt := 2) hx hb dX2_hasPlacedMate_44 (by decide) ?_
            exact ih_4 (i_2 + 1) (by omega) (by omega)  _ _ hP hD hS _ (lv_sub hl [0, 1, 2] rfl)
          · refine lv_aload_n hx hb dX2_hasPlacedMate_27 rfl (lv_at hl 1 rfl) ?_
            refine va_get (D := D) (ci := 2) (v := .ref (ad 1)) (C := RX2) (T := TX2) (N := 5) hx hb hts (inT inX2) hown hK hP 8 ww_8 rfl 0 (by decide) (hts (.fieldLink RX2 26 "BoardMoves$Placement" "parts" "LBoardMoves$Parts;") (List.mem_cons_of_mem _ flX2_26)) (fun _ h9 => h9) rfl dX2_hasPlacedMate_28 ?_
            refine lv_iload_n hx hb dX2_hasPlacedMate_31 rfl (lv_at hl 0 rfl) ?_
            refine lv_iload_n hx hb dX2_hasPlacedMate_32 rfl (lv_at hl 2 rfl) ?_
            refine bm_xcallV (As := [.int (nI i_2), .int (nI zj)]) (rest := []) ⟨hx, hb, hml, hown, hts⟩ (x_mates  (za := i_2) (zb := zj) ok_pa_lowest (by omega) (by omega)) (cwV 2 hts gvX2_36 rfl rfl rfl hvX1_areMates ⟨Nat.le_of_ble_eq_true rfl, Nat.le_of_ble_eq_true rfl⟩) hK hP hD hS hA 1 1 rfl ww_1 rfl hl.1 rfl (Nat.le_of_ble_eq_true rfl) dX2_hasPlacedMate_33 ⟨Nat.le_of_ble_eq_true rfl, Nat.le_of_ble_eq_true rfl⟩ (fun ws_10 r_11 h_12 H locs hP hD hS => ?_)
            obtain ⟨rfl, v_13, rfl⟩ := h_12
            have hP : va_P D vwCl (WW ad cJ cI cZ bm pa p0 p1 p2 li wi mt ms ma mp mk mn ou) H := hP
            have hD : va_D A (WW ad cJ cI cZ bm pa p0 p1 p2 li wi mt ms ma mp mk mn ou) := hD
            refine bm_zb_eq (x := v_13) (tgt := 41) hx hb dX2_hasPlacedMate_36 (by decide) (fun c_14 => ?_) (fun c_14 => ?_)
            · refine lv_iinc (v := (nI (i_2 + 1))) (lv' := [(2, .int (nI (i_2 + 1))), (0, .ref (ad 8)), (1, .int (nI zj))]) hx hb dX2_hasPlacedMate_41 hl (k := 0) rfl (nI_1 i_2) (by decide) rfl (fun ls hl => ?_)
              refine lv_goto (tgt := 2) hx hb dX2_hasPlacedMate_44 (by decide) ?_
              exact ih_4 (i_2 + 1) (by omega) (by omega)  _ _ hP hD hS _ (lv_sub hl [0, 1, 2] rfl)
            · refine lv_iconst (v := bm_b true) hx hb dX2_hasPlacedMate_39 (by decide) ?_
              exact bm_zretX (v := true) hx hb hr hP hD hK hS ⟨rfl, true, rfl⟩ dX2_hasPlacedMate_40 hlocks
  exact lp_1 (pa.2.2.2.2.2.2 + 1) 0 (by omega) (by omega)  _ _ hP hD hS _ (lv_sub hl [0, 1, 2] rfl)
