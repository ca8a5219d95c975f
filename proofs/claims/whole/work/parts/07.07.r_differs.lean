set_option maxHeartbeats 4000000 in
set_option maxRecDepth 100000 in
theorem r_differs {l : Launch} {D : va_G} {ad : Nat → Nat} {cJ cI cZ : ClassId} {bm : gBM} {pa : gPA} {p0 p1 p2 : gPL} {li : gLI} {wi : gWI} (hoL : q_okL p0) (hoL1 : q_okL p1) {j : Nat} (h1 : j < 40) : bm_Rd l yX2_differs wsX2_differs ({ frames := 0, cells := 0, slots := 0, locals := 0 }) D vwCl [(cJ, .long), (cI, .int), (cZ, .boolean)] (Wd ad cJ cI cZ bm pa p0 p1 p2 li wi) [.ref (ad 8), .ref (ad 13), .int (nI j)] (.int (bm_b (q_differs p0 p1 j))) := by
  refine Met.ofW (cc := cX2_differs) (maxL := 3) (ret := (some .boolean)) (by decide) rfl ?_
  intro p e s m args below meth c s₁ B hml hv
  obtain ⟨ha, hP, hK⟩ := hv
  have hx := B.exec
  have hb := B.bytes
  have hr := B.returns
  have hts := atoms_spec (ws := wsX2_differs) B.pre
  have hown : s.vm.findClass RX2 = some m.cls := findClass_of_methodNamed B.named
  have hlocks := B.notSynchronized
  have hl := lv_entry ([.ref (ad 8), .ref (ad 13), .int (nI j)]) (n := 3) (Nat.le_of_ble_eq_true rfl)
  refine W.eq (g2 := entryFrame m ([.ref (ad 8), .ref (ad 13), .int (nI j)] : List Value).toArray 3) (by rw [ha]) ?_
  rw [lg_entry_eq]
  generalize (lg_sl ([.ref (ad 8), .ref (ad 13), .int (nI j)]) ++ List.replicate (3 - (lg_sl ([.ref (ad 8), .ref (ad 13), .int (nI j)])).length) Slot.unset).toArray = ls at hl ⊢
  have hl : lv_has ls 3 [(0, .ref (ad 8)), (1, .ref (ad 13)), (2, .int (nI j))] := hl
  refine lv_aload_n hx hb dX2_differs_0 rfl (lv_at hl 0 rfl) ?_
  refine va_get (D := D) (ci := 2) (v := .ref (ad 9)) (C := RX2) (T := TX2) (N := 5) hx hb hts (inT inX2) hown hK hP 8 rfl rfl 1 (by decide) (hts (.fieldLink RX2 9 "BoardMoves$Placement" "x" "[J") (by decide +kernel)) (fun _ h9 => h9) rfl dX2_differs_1 ?_
  refine lv_iload_n hx hb dX2_differs_4 rfl (lv_at hl 2 rfl) ?_
  refine bm_lald (f := p0.1) hx hb hK hP 9 0 rfl rfl (j := j) (by omega) (by decide) dX2_differs_5 ?_
  refine lv_aload_n hx hb dX2_differs_6 rfl (lv_at hl 1 rfl) ?_
  refine va_get (D := D) (ci := 2) (v := .ref (ad 14)) (C := RX2) (T := TX2) (N := 5) hx hb hts (inT inX2) hown hK hP 13 rfl rfl 1 (by decide) (hts (.fieldLink RX2 9 "BoardMoves$Placement" "x" "[J") (by decide +kernel)) (fun _ h9 => h9) rfl dX2_differs_7 ?_
  refine lv_iload_n hx hb dX2_differs_10 rfl (lv_at hl 2 rfl) ?_
  refine bm_lald (f := p1.1) hx hb hK hP 14 0 rfl rfl (j := j) (by omega) (by decide) dX2_differs_11 ?_
  refine bm_lc_ne (x := (p0.1 j)) (y := (p1.1 j)) (tgt := 62) hx hb dX2_differs_12 dX2_differs_13 (by decide) (fun c_1 => ?_) (fun c_1 => ?_)
  · refine lv_iconst (v := bm_b true) hx hb dX2_differs_62 (by decide) ?_
    refine lv_goto (tgt := 67) hx hb dX2_differs_63 (by decide) ?_
    exact bm_zretR (v := true) hx hb hr (by simp [q_differs, c_1]) dX2_differs_67 hlocks
  · refine lv_aload_n hx hb dX2_differs_16 rfl (lv_at hl 0 rfl) ?_
    refine va_get (D := D) (ci := 2) (v := .ref (ad 10)) (C := RX2) (T := TX2) (N := 5) hx hb hts (inT inX2) hown hK hP 8 rfl rfl 2 (by decide) (hts (.fieldLink RX2 15 "BoardMoves$Placement" "y" "[J") (by decide +kernel)) (fun _ h9 => h9) rfl dX2_differs_17 ?_
    refine lv_iload_n hx hb dX2_differs_20 rfl (lv_at hl 2 rfl) ?_
    refine bm_lald (f := p0.2.1) hx hb hK hP 10 0 rfl rfl (j := j) (by omega) (by decide) dX2_differs_21 ?_
    refine lv_aload_n hx hb dX2_differs_22 rfl (lv_at hl 1 rfl) ?_
    refine va_get (D := D) (ci := 2) (v := .ref (ad 15)) (C := RX2) (T := TX2) (N := 5) hx hb hts (inT inX2) hown hK hP 13 rfl rfl 2 (by decide) (hts (.fieldLink RX2 15 "BoardMoves$Placement" "y" "[J") (by decide +kernel)) (fun _ h9 => h9) rfl dX2_differs_23 ?_
    refine lv_iload_n hx hb dX2_differs_26 rfl (lv_at hl 2 rfl) ?_
    refine bm_lald (f := p1.2.1) hx hb hK hP 15 0 rfl rfl (j := j) (by omega) (by decide) dX2_differs_27 ?_
    refine bm_lc_ne (x := (p0.2.1 j)) (y := (p1.2.1 j)) (tgt := 62) hx hb dX2_differs_28 dX2_differs_29 (by decide) (fun c_2 => ?_) (fun c_2 => ?_)
    · refine lv_iconst (v := bm_b true) hx hb dX2_differs_62 (by decide) ?_
      refine lv_goto (tgt := 67) hx hb dX2_differs_63 (by decide) ?_
      exact bm_zretR (v := true) hx hb hr (by simp [q_differs, c_1, c_2]) dX2_differs_67 hlocks
    · refine lv_aload_n hx hb dX2_differs_32 rfl (lv_at hl 0 rfl) ?_
      refine va_get (D := D) (ci := 2) (v := .ref (ad 11)) (C := RX2) (T := TX2) (N := 5) hx hb hts (inT inX2) hown hK hP 8 rfl rfl 3 (by decide) (hts (.fieldLink RX2 18 "BoardMoves$Placement" "turn" "[I") (by decide +kernel)) (fun _ h9 => h9) rfl dX2_differs_33 ?_
      refine lv_iload_n hx hb dX2_differs_36 rfl (lv_at hl 2 rfl) ?_
      refine bm_nald (f := p0.2.2.1) hx hb hK hP 11 1 rfl rfl (j := j) (by omega) (by decide) dX2_differs_37 ?_
      refine lv_aload_n hx hb dX2_differs_38 rfl (lv_at hl 1 rfl) ?_
      refine va_get (D := D) (ci := 2) (v := .ref (ad 16)) (C := RX2) (T := TX2) (N := 5) hx hb hts (inT inX2) hown hK hP 13 rfl rfl 3 (by decide) (hts (.fieldLink RX2 18 "BoardMoves$Placement" "turn" "[I") (by decide +kernel)) (fun _ h9 => h9) rfl dX2_differs_39 ?_
      refine lv_iload_n hx hb dX2_differs_42 rfl (lv_at hl 2 rfl) ?_
      refine bm_nald (f := p1.2.2.1) hx hb hK hP 16 1 rfl rfl (j := j) (by omega) (by decide) dX2_differs_43 ?_
      refine bm_ni_ne (x := (p0.2.2.1 j)) (y := (p1.2.2.1 j)) (tgt := 62) hx hb (bm40 (hoL _)) (bm40 (hoL1 _)) dX2_differs_44 (by decide) (fun c_3 => ?_) (fun c_3 => ?_)
      · refine lv_iconst (v := bm_b true) hx hb dX2_differs_62 (by decide) ?_
        refine lv_goto (tgt := 67) hx hb dX2_differs_63 (by decide) ?_
        exact bm_zretR (v := true) hx hb hr (by simp [q_differs, c_1, c_2, c_3]) dX2_differs_67 hlocks
      · refine lv_aload_n hx hb dX2_differs_47 rfl (lv_at hl 0 rfl) ?_
        refine va_get (D := D) (ci := 2) (v := .ref (ad 12)) (C := RX2) (T := TX2) (N := 5) hx hb hts (inT inX2) hown hK hP 8 rfl rfl 4 (by decide) (hts (.fieldLink RX2 22 "BoardMoves$Placement" "placed" "[Z") (by decide +kernel)) (fun _ h9 => h9) rfl dX2_differs_48 ?_
        refine lv_iload_n hx hb dX2_differs_51 rfl (lv_at hl 2 rfl) ?_
        refine bm_zald (f := p0.2.2.2) hx hb hK hP 12 2 rfl rfl (j := j) (by omega) (by decide) dX2_differs_52 ?_
        refine lv_aload_n hx hb dX2_differs_53 rfl (lv_at hl 1 rfl) ?_
        refine va_get (D := D) (ci := 2) (v := .ref (ad 17)) (C := RX2) (T := TX2) (N := 5) hx hb hts (inT inX2) hown hK hP 13 rfl rfl 4 (by decide) (hts (.fieldLink RX2 22 "BoardMoves$Placement" "placed" "[Z") (by decide +kernel)) (fun _ h9 => h9) rfl dX2_differs_54 ?_
        refine lv_iload_n hx hb dX2_differs_57 rfl (lv_at hl 2 rfl) ?_
        refine bm_zald (f := p1.2.2.2) hx hb hK hP 17 2 rfl rfl (j := j) (by omega) (by decide) dX2_differs_58 ?_
        refine bm_bb_eq (x := (p0.2.2.2 j)) (y := (p1.2.2.2 j)) (tgt := 66) hx hb dX2_differs_59 (by decide) (fun c_4 => ?_) (fun c_4 => ?_)
        · refine lv_iconst (v := bm_b false) hx hb dX2_differs_66 (by decide) ?_
          exact bm_zretR (v := false) hx hb hr (by simp [q_differs, c_1, c_2, c_3, c_4]) dX2_differs_67 hlocks
        · refine lv_iconst (v := bm_b true) hx hb dX2_differs_62 (by decide) ?_
          refine lv_goto (tgt := 67) hx hb dX2_differs_63 (by decide) ?_
          exact bm_zretR (v := true) hx hb hr (by simp [q_differs, c_1, c_2, c_3, c_4]) dX2_differs_67 hlocks
