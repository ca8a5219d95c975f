set_option maxHeartbeats 4000000 in
set_option maxRecDepth 100000 in
theorem r_endY {l : Launch} {D : va_G} {ad : Nat → Nat} {cJ cI cZ : ClassId} {bm : gBM} {pa : gPA} {p0 p1 p2 : gPL} {li : gLI} {wi : gWI} (hoL : q_okL p0) {j : Nat} (h1 : j < 40) : bm_Rd l yX2_endY wsX2_endY ({ frames := 0, cells := 0, slots := 0, locals := 0 }) D vwCl [(cJ, .long), (cI, .int), (cZ, .boolean)] (Wd ad cJ cI cZ bm pa p0 p1 p2 li wi) [.ref (ad 8), .int (nI j)] (.long (q_endY pa p0 j)) := by
  refine Met.ofW (cc := cX2_endY) (maxL := 2) (ret := (some .long)) (by decide) rfl ?_
  intro p e s m args below meth c s₁ B hml hv
  obtain ⟨ha, hP, hK⟩ := hv
  have hx := B.exec
  have hb := B.bytes
  have hr := B.returns
  have hts := atoms_spec (ws := wsX2_endY) B.pre
  have hown : s.vm.findClass RX2 = some m.cls := findClass_of_methodNamed B.named
  have hlocks := B.notSynchronized
  have hl := lv_entry ([.ref (ad 8), .int (nI j)]) (n := 2) (Nat.le_of_ble_eq_true rfl)
  refine W.eq (g2 := entryFrame m ([.ref (ad 8), .int (nI j)] : List Value).toArray 2) (by rw [ha]) ?_
  rw [lg_entry_eq]
  generalize (lg_sl ([.ref (ad 8), .int (nI j)]) ++ List.replicate (2 - (lg_sl ([.ref (ad 8), .int (nI j)])).length) Slot.unset).toArray = ls at hl ⊢
  have hl : lv_has ls 2 [(0, .ref (ad 8)), (1, .int (nI j))] := hl
  refine lv_aload_n hx hb dX2_endY_0 rfl (lv_at hl 0 rfl) ?_
  refine va_get (D := D) (ci := 2) (v := .ref (ad 10)) (C := RX2) (T := TX2) (N := 5) hx hb hts (inT inX2) hown hK hP 8 rfl rfl 2 (by decide) (hts (.fieldLink RX2 15 "BoardMoves$Placement" "y" "[J") (by decide +kernel)) (fun _ h9 => h9) rfl dX2_endY_1 ?_
  refine lv_iload_n hx hb dX2_endY_4 rfl (lv_at hl 1 rfl) ?_
  refine bm_lald (f := p0.2.1) hx hb hK hP 10 0 rfl rfl (j := j) (by omega) (by decide) dX2_endY_5 ?_
  refine lv_aload_n hx hb dX2_endY_6 rfl (lv_at hl 0 rfl) ?_
  refine va_get (D := D) (ci := 2) (v := .ref (ad 11)) (C := RX2) (T := TX2) (N := 5) hx hb hts (inT inX2) hown hK hP 8 rfl rfl 3 (by decide) (hts (.fieldLink RX2 18 "BoardMoves$Placement" "turn" "[I") (by decide +kernel)) (fun _ h9 => h9) rfl dX2_endY_7 ?_
  refine lv_iload_n hx hb dX2_endY_10 rfl (lv_at hl 1 rfl) ?_
  refine bm_nald (f := p0.2.2.1) hx hb hK hP 11 1 rfl rfl (j := j) (by omega) (by decide) dX2_endY_11 ?_
  refine lv_iconst (v := nI 2) hx hb dX2_endY_12 (by decide) ?_
  refine bm_nrem hx hb (bm40 (hoL _)) (by decide) (by decide) dX2_endY_13 ?_
  refine bm_nz_ne (x := ((p0.2.2.1 j) % 2)) (tgt := 29) hx hb (by have := hoL j; omega) dX2_endY_14 (by decide) (fun c_1 => ?_) (fun c_1 => ?_)
  · refine lv_aload_n hx hb dX2_endY_29 rfl (lv_at hl 0 rfl) ?_
    refine va_get (D := D) (ci := 2) (v := .ref (ad 1)) (C := RX2) (T := TX2) (N := 5) hx hb hts (inT inX2) hown hK hP 8 rfl rfl 0 (by decide) (hts (.fieldLink RX2 26 "BoardMoves$Placement" "parts" "LBoardMoves$Parts;") (by decide +kernel)) (fun _ h9 => h9) rfl dX2_endY_30 ?_
    refine va_get (D := D) (ci := 1) (v := .ref (ad 2)) (C := RX1) (T := TX1) (N := 7) hx hb hts (inT inX1) hown hK hP 1 rfl rfl 0 (by decide) (hts (.fieldLink RX2 40 "BoardMoves$Parts" "w" "[J") (by decide +kernel)) (fun _ h9 => h9) rfl dX2_endY_33 ?_
    refine lv_iload_n hx hb dX2_endY_36 rfl (lv_at hl 1 rfl) ?_
    refine bm_lald (f := pa.1) hx hb hK hP 2 0 rfl rfl (j := j) (by omega) (by decide) dX2_endY_37 ?_
    refine lv_ladd hx hb dX2_endY_38 ?_
    exact bm_lretR (v := ((p0.2.1 j) + (pa.1 j))) hx hb hr (by simp [q_endY, c_1]) dX2_endY_39 hlocks
  · refine lv_aload_n hx hb dX2_endY_17 rfl (lv_at hl 0 rfl) ?_
    refine va_get (D := D) (ci := 2) (v := .ref (ad 1)) (C := RX2) (T := TX2) (N := 5) hx hb hts (inT inX2) hown hK hP 8 rfl rfl 0 (by decide) (hts (.fieldLink RX2 26 "BoardMoves$Placement" "parts" "LBoardMoves$Parts;") (by decide +kernel)) (fun _ h9 => h9) rfl dX2_endY_18 ?_
    refine va_get (D := D) (ci := 1) (v := .ref (ad 3)) (C := RX1) (T := TX1) (N := 7) hx hb hts (inT inX1) hown hK hP 1 rfl rfl 1 (by decide) (hts (.fieldLink RX2 43 "BoardMoves$Parts" "h" "[J") (by decide +kernel)) (fun _ h9 => h9) rfl dX2_endY_21 ?_
    refine lv_iload_n hx hb dX2_endY_24 rfl (lv_at hl 1 rfl) ?_
    refine bm_lald (f := pa.2.1) hx hb hK hP 3 0 rfl rfl (j := j) (by omega) (by decide) dX2_endY_25 ?_
    refine lv_goto (tgt := 38) hx hb dX2_endY_26 (by decide) ?_
    refine lv_ladd hx hb dX2_endY_38 ?_
    exact bm_lretR (v := ((p0.2.1 j) + (pa.2.1 j))) hx hb hr (by simp [q_endY, c_1]) dX2_endY_39 hlocks
