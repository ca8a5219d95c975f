set_option maxHeartbeats 4000000 in
set_option maxRecDepth 100000 in
theorem r_turnedX {l : Launch} {D : va_G} {ad : Nat → Nat} {cJ cI cZ : ClassId} {bm : gBM} {pa : gPA} {p0 p1 p2 : gPL} {li : gLI} {wi : gWI} {a j t : Nat} (h1 : a < 120) (h2 : j < 40) (h3 : t < 2 ^ 31) : bm_Rd l yX3_turnedX wsX3_turnedX ({ frames := 0, cells := 0, slots := 0, locals := 0 }) D vwCl [(cJ, .long), (cI, .int), (cZ, .boolean)] (Wd ad cJ cI cZ bm pa p0 p1 p2 li wi) [.ref (ad 32), .int (nI a), .int (nI j), .int (nI t)] (.long (q_tx pa wi a j t)) := by
  refine Met.ofW (cc := cX3_turnedX) (maxL := 4) (ret := (some .long)) (by decide) rfl ?_
  intro p e s m args below meth c s₁ B hml hv
  obtain ⟨ha, hP, hK⟩ := hv
  have hx := B.exec
  have hb := B.bytes
  have hr := B.returns
  have hts := atoms_spec (ws := wsX3_turnedX) B.pre
  have hown : s.vm.findClass RX3 = some m.cls := findClass_of_methodNamed B.named
  have hlocks := B.notSynchronized
  have hl := lv_entry ([.ref (ad 32), .int (nI a), .int (nI j), .int (nI t)]) (n := 4) (Nat.le_of_ble_eq_true rfl)
  refine W.eq (g2 := entryFrame m ([.ref (ad 32), .int (nI a), .int (nI j), .int (nI t)] : List Value).toArray 4) (by rw [ha]) ?_
  rw [lg_entry_eq]
  generalize (lg_sl ([.ref (ad 32), .int (nI a), .int (nI j), .int (nI t)]) ++ List.replicate (4 - (lg_sl ([.ref (ad 32), .int (nI a), .int (nI j), .int (nI t)])).length) Slot.unset).toArray = ls at hl ⊢
  have hl : lv_has ls 4 [(0, .ref (ad 32)), (1, .int (nI a)), (2, .int (nI j)), (3, .int (nI t))] := hl
  refine lv_iload_n hx hb dX3_turnedX_0 rfl (lv_at hl 3 rfl) ?_
  by_cases ht1 : t = 1
  · subst ht1
    refine lv_tableIn (off := 27) (tgt := 28) hx hb dX3_turnedX_1 (by decide) (by decide) (by decide) (by decide) ?_
    refine lv_aload_n hx hb dX3_turnedX_28 rfl (lv_at hl 0 rfl) ?_
    refine va_get (D := D) (ci := 3) (v := .ref (ad 1)) (C := RX3) (T := TX3) (N := 12) hx hb hts (inT inX3) hown hK hP 32 rfl rfl 0 (by decide) (hts (.fieldLink RX3 48 "BoardMoves$Wiring" "parts" "LBoardMoves$Parts;") (by decide +kernel)) (fun _ h9 => h9) rfl dX3_turnedX_29 ?_
    refine va_get (D := D) (ci := 1) (v := .ref (ad 3)) (C := RX1) (T := TX1) (N := 7) hx hb hts (inT inX1) hown hK hP 1 rfl rfl 1 (by decide) (hts (.fieldLink RX3 86 "BoardMoves$Parts" "h" "[J") (by decide +kernel)) (fun _ h9 => h9) rfl dX3_turnedX_32 ?_
    refine lv_iload_n hx hb dX3_turnedX_35 rfl (lv_at hl 2 rfl) ?_
    refine bm_lald (f := pa.2.1) hx hb hK hP 3 0 rfl rfl (j := j) (by omega) (by decide) dX3_turnedX_36 ?_
    refine lv_aload_n hx hb dX3_turnedX_37 rfl (lv_at hl 0 rfl) ?_
    refine va_get (D := D) (ci := 3) (v := .ref (ad 36)) (C := RX3) (T := TX3) (N := 12) hx hb hts (inT inX3) hown hK hP 32 rfl rfl 4 (by decide) (hts (.fieldLink RX3 22 "BoardMoves$Wiring" "dy" "[J") (by decide +kernel)) (fun _ h9 => h9) rfl dX3_turnedX_38 ?_
    refine lv_iload_n hx hb dX3_turnedX_41 rfl (lv_at hl 1 rfl) ?_
    refine bm_lald (f := wi.2.2.2.1) hx hb hK hP 36 0 rfl rfl (j := a) (by omega) (by decide) dX3_turnedX_42 ?_
    refine lv_lsub hx hb dX3_turnedX_43 ?_
    exact bm_lretR (v := ((pa.2.1 j) - (wi.2.2.2.1 a))) hx hb hr (by simp [q_tx]) dX3_turnedX_44 hlocks
  · by_cases ht2 : t = 2
    · subst ht2
      refine lv_tableIn (off := 44) (tgt := 45) hx hb dX3_turnedX_1 (by decide) (by decide) (by decide) (by decide) ?_
      refine lv_aload_n hx hb dX3_turnedX_45 rfl (lv_at hl 0 rfl) ?_
      refine va_get (D := D) (ci := 3) (v := .ref (ad 1)) (C := RX3) (T := TX3) (N := 12) hx hb hts (inT inX3) hown hK hP 32 rfl rfl 0 (by decide) (hts (.fieldLink RX3 48 "BoardMoves$Wiring" "parts" "LBoardMoves$Parts;") (by decide +kernel)) (fun _ h9 => h9) rfl dX3_turnedX_46 ?_
      refine va_get (D := D) (ci := 1) (v := .ref (ad 2)) (C := RX1) (T := TX1) (N := 7) hx hb hts (inT inX1) hown hK hP 1 rfl rfl 0 (by decide) (hts (.fieldLink RX3 91 "BoardMoves$Parts" "w" "[J") (by decide +kernel)) (fun _ h9 => h9) rfl dX3_turnedX_49 ?_
      refine lv_iload_n hx hb dX3_turnedX_52 rfl (lv_at hl 2 rfl) ?_
      refine bm_lald (f := pa.1) hx hb hK hP 2 0 rfl rfl (j := j) (by omega) (by decide) dX3_turnedX_53 ?_
      refine lv_aload_n hx hb dX3_turnedX_54 rfl (lv_at hl 0 rfl) ?_
      refine va_get (D := D) (ci := 3) (v := .ref (ad 35)) (C := RX3) (T := TX3) (N := 12) hx hb hts (inT inX3) hown hK hP 32 rfl rfl 3 (by decide) (hts (.fieldLink RX3 18 "BoardMoves$Wiring" "dx" "[J") (by decide +kernel)) (fun _ h9 => h9) rfl dX3_turnedX_55 ?_
      refine lv_iload_n hx hb dX3_turnedX_58 rfl (lv_at hl 1 rfl) ?_
      refine bm_lald (f := wi.2.2.1) hx hb hK hP 35 0 rfl rfl (j := a) (by omega) (by decide) dX3_turnedX_59 ?_
      refine lv_lsub hx hb dX3_turnedX_60 ?_
      exact bm_lretR (v := ((pa.1 j) - (wi.2.2.1 a))) hx hb hr (by simp [q_tx]) dX3_turnedX_61 hlocks
    · by_cases ht3 : t = 3
      · subst ht3
        refine lv_tableIn (off := 61) (tgt := 62) hx hb dX3_turnedX_1 (by decide) (by decide) (by decide) (by decide) ?_
        refine lv_aload_n hx hb dX3_turnedX_62 rfl (lv_at hl 0 rfl) ?_
        refine va_get (D := D) (ci := 3) (v := .ref (ad 36)) (C := RX3) (T := TX3) (N := 12) hx hb hts (inT inX3) hown hK hP 32 rfl rfl 4 (by decide) (hts (.fieldLink RX3 22 "BoardMoves$Wiring" "dy" "[J") (by decide +kernel)) (fun _ h9 => h9) rfl dX3_turnedX_63 ?_
        refine lv_iload_n hx hb dX3_turnedX_66 rfl (lv_at hl 1 rfl) ?_
        refine bm_lald (f := wi.2.2.2.1) hx hb hK hP 36 0 rfl rfl (j := a) (by omega) (by decide) dX3_turnedX_67 ?_
        exact bm_lretR (v := (wi.2.2.2.1 a)) hx hb hr (by simp [q_tx]) dX3_turnedX_68 hlocks
      · refine lv_tableOut (tgt := 69) hx hb dX3_turnedX_1 (by rw [nI_toInt h3]; omega) (by decide) ?_
        refine lv_aload_n hx hb dX3_turnedX_69 rfl (lv_at hl 0 rfl) ?_
        refine va_get (D := D) (ci := 3) (v := .ref (ad 35)) (C := RX3) (T := TX3) (N := 12) hx hb hts (inT inX3) hown hK hP 32 rfl rfl 3 (by decide) (hts (.fieldLink RX3 18 "BoardMoves$Wiring" "dx" "[J") (by decide +kernel)) (fun _ h9 => h9) rfl dX3_turnedX_70 ?_
        refine lv_iload_n hx hb dX3_turnedX_73 rfl (lv_at hl 1 rfl) ?_
        refine bm_lald (f := wi.2.2.1) hx hb hK hP 35 0 rfl rfl (j := a) (by omega) (by decide) dX3_turnedX_74 ?_
        exact bm_lretR (v := (wi.2.2.1 a)) hx hb hr (by simp [q_tx, ht1, ht2, ht3]) dX3_turnedX_75 hlocks
