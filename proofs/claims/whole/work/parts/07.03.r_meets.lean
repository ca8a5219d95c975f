set_option maxHeartbeats 4000000 in
set_option maxRecDepth 100000 in
theorem r_meets {l : Launch} {D : va_G} {ad : Nat → Nat} {cJ cI cZ : ClassId} {bm : gBM} {pa : gPA} {p0 p1 p2 : gPL} {li : gLI} {wi : gWI} (hoL : q_okL p0) {j : Nat} (h1 : j < 40) {x0 y0 x1 y1 : Int64} : bm_Rd l yX2_meetsArea wsX2_meetsArea ({ frames := 1, cells := 0, slots := 0, locals := 21 }) D vwCl [(cJ, .long), (cI, .int), (cZ, .boolean)] (Wd ad cJ cI cZ bm pa p0 p1 p2 li wi) [.ref (ad 8), .int (nI j), .long x0, .long y0, .long x1, .long y1] (.int (bm_b (q_meets pa p0 j x0 y0 x1 y1))) := by
  refine Met.ofW (cc := cX2_meetsArea) (maxL := 10) (ret := (some .boolean)) (by decide) rfl ?_
  intro p e s m args below meth c s₁ B hml hv
  obtain ⟨ha, hP, hK⟩ := hv
  have hx := B.exec
  have hb := B.bytes
  have hr := B.returns
  have hts := atoms_spec (ws := wsX2_meetsArea) B.pre
  have hown : s.vm.findClass RX2 = some m.cls := findClass_of_methodNamed B.named
  have hlocks := B.notSynchronized
  have hl := lv_entry ([.ref (ad 8), .int (nI j), .long x0, .long y0, .long x1, .long y1]) (n := 10) (Nat.le_of_ble_eq_true rfl)
  refine W.eq (g2 := entryFrame m ([.ref (ad 8), .int (nI j), .long x0, .long y0, .long x1, .long y1] : List Value).toArray 10) (by rw [ha]) ?_
  rw [lg_entry_eq]
  generalize (lg_sl ([.ref (ad 8), .int (nI j), .long x0, .long y0, .long x1, .long y1]) ++ List.replicate (10 - (lg_sl ([.ref (ad 8), .int (nI j), .long x0, .long y0, .long x1, .long y1])).length) Slot.unset).toArray = ls at hl ⊢
  have hl : lv_has ls 10 [(0, .ref (ad 8)), (1, .int (nI j)), (2, .long x0), (4, .long y0), (6, .long x1), (8, .long y1)] := hl
  refine lv_aload_n hx hb dX2_meetsArea_0 rfl (lv_at hl 0 rfl) ?_
  refine va_get (D := D) (ci := 2) (v := .ref (ad 12)) (C := RX2) (T := TX2) (N := 5) hx hb hts (inT inX2) hown hK hP 8 rfl rfl 4 (by decide) (hts (.fieldLink RX2 22 "BoardMoves$Placement" "placed" "[Z") (by decide +kernel)) (fun _ h9 => h9) rfl dX2_meetsArea_1 ?_
  refine lv_iload_n hx hb dX2_meetsArea_4 rfl (lv_at hl 1 rfl) ?_
  refine bm_zald (f := p0.2.2.2) hx hb hK hP 12 2 rfl rfl (j := j) (by omega) (by decide) dX2_meetsArea_5 ?_
  refine bm_zb_eq (x := (p0.2.2.2 j)) (tgt := 58) hx hb dX2_meetsArea_6 (by decide) (fun c_1 => ?_) (fun c_1 => ?_)
  · refine lv_iconst (v := bm_b false) hx hb dX2_meetsArea_58 (by decide) ?_
    exact bm_zretR (v := false) hx hb hr (by simp [q_meets, c_1]) dX2_meetsArea_59 hlocks
  · refine lv_aload_n hx hb dX2_meetsArea_9 rfl (lv_at hl 0 rfl) ?_
    refine va_get (D := D) (ci := 2) (v := .ref (ad 9)) (C := RX2) (T := TX2) (N := 5) hx hb hts (inT inX2) hown hK hP 8 rfl rfl 1 (by decide) (hts (.fieldLink RX2 9 "BoardMoves$Placement" "x" "[J") (by decide +kernel)) (fun _ h9 => h9) rfl dX2_meetsArea_10 ?_
    refine lv_iload_n hx hb dX2_meetsArea_13 rfl (lv_at hl 1 rfl) ?_
    refine bm_lald (f := p0.1) hx hb hK hP 9 0 rfl rfl (j := j) (by omega) (by decide) dX2_meetsArea_14 ?_
    refine lv_lload hx hb dX2_meetsArea_15 (lv_at hl 4 rfl) ?_
    refine bm_lc_ge (x := (p0.1 j)) (y := x1) (tgt := 58) hx hb dX2_meetsArea_17 dX2_meetsArea_18 (by decide) (fun c_2 => ?_) (fun c_2 => ?_)
    · refine lv_iconst (v := bm_b false) hx hb dX2_meetsArea_58 (by decide) ?_
      exact bm_zretR (v := false) hx hb hr (by simp [q_meets, c_1, c_2]) dX2_meetsArea_59 hlocks
    · refine lv_lload_n hx hb dX2_meetsArea_21 rfl (lv_at hl 2 rfl) ?_
      refine lv_aload_n hx hb dX2_meetsArea_22 rfl (lv_at hl 0 rfl) ?_
      refine lv_iload_n hx hb dX2_meetsArea_23 rfl (lv_at hl 1 rfl) ?_
      refine bm_rcallV (As := [.int (nI j)]) (rest := [.long x0]) ⟨hx, hb, hml, hown, hts⟩ (r_endX (j := j) hoL (by omega)) (cwV 1 hts (gdV (by decide +kernel) (by decide +kernel) (by decide +kernel) (by decide +kernel) (by decide +kernel)) rfl rfl rfl (by decide +kernel) ⟨Nat.le_of_ble_eq_true rfl, Nat.le_of_ble_eq_true rfl⟩) hK hP 8 2 rfl rfl rfl hl.1 rfl (Nat.le_of_ble_eq_true rfl) dX2_meetsArea_24 ⟨Nat.le_of_ble_eq_true rfl, Nat.le_of_ble_eq_true rfl⟩ ?_
      refine bm_lc_ge (x := x0) (y := (q_endX pa p0 j)) (tgt := 58) hx hb dX2_meetsArea_27 dX2_meetsArea_28 (by decide) (fun c_3 => ?_) (fun c_3 => ?_)
      · refine lv_iconst (v := bm_b false) hx hb dX2_meetsArea_58 (by decide) ?_
        exact bm_zretR (v := false) hx hb hr (by simp [q_meets, c_1, c_2, c_3]) dX2_meetsArea_59 hlocks
      · refine lv_aload_n hx hb dX2_meetsArea_31 rfl (lv_at hl 0 rfl) ?_
        refine va_get (D := D) (ci := 2) (v := .ref (ad 10)) (C := RX2) (T := TX2) (N := 5) hx hb hts (inT inX2) hown hK hP 8 rfl rfl 2 (by decide) (hts (.fieldLink RX2 15 "BoardMoves$Placement" "y" "[J") (by decide +kernel)) (fun _ h9 => h9) rfl dX2_meetsArea_32 ?_
        refine lv_iload_n hx hb dX2_meetsArea_35 rfl (lv_at hl 1 rfl) ?_
        refine bm_lald (f := p0.2.1) hx hb hK hP 10 0 rfl rfl (j := j) (by omega) (by decide) dX2_meetsArea_36 ?_
        refine lv_lload hx hb dX2_meetsArea_37 (lv_at hl 5 rfl) ?_
        refine bm_lc_ge (x := (p0.2.1 j)) (y := y1) (tgt := 58) hx hb dX2_meetsArea_39 dX2_meetsArea_40 (by decide) (fun c_4 => ?_) (fun c_4 => ?_)
        · refine lv_iconst (v := bm_b false) hx hb dX2_meetsArea_58 (by decide) ?_
          exact bm_zretR (v := false) hx hb hr (by simp [q_meets, c_1, c_2, c_3, c_4]) dX2_meetsArea_59 hlocks
        · refine lv_lload hx hb dX2_meetsArea_43 (lv_at hl 3 rfl) ?_
          refine lv_aload_n hx hb dX2_meetsArea_45 rfl (lv_at hl 0 rfl) ?_
          refine lv_iload_n hx hb dX2_meetsArea_46 rfl (lv_at hl 1 rfl) ?_
          refine bm_rcallV (As := [.int (nI j)]) (rest := [.long y0]) ⟨hx, hb, hml, hown, hts⟩ (r_endY (j := j) hoL (by omega)) (cwV 1 hts (gdV (by decide +kernel) (by decide +kernel) (by decide +kernel) (by decide +kernel) (by decide +kernel)) rfl rfl rfl (by decide +kernel) ⟨Nat.le_of_ble_eq_true rfl, Nat.le_of_ble_eq_true rfl⟩) hK hP 8 2 rfl rfl rfl hl.1 rfl (Nat.le_of_ble_eq_true rfl) dX2_meetsArea_47 ⟨Nat.le_of_ble_eq_true rfl, Nat.le_of_ble_eq_true rfl⟩ ?_
          refine bm_lc_ge (x := y0) (y := (q_endY pa p0 j)) (tgt := 58) hx hb dX2_meetsArea_50 dX2_meetsArea_51 (by decide) (fun c_5 => ?_) (fun c_5 => ?_)
          · refine lv_iconst (v := bm_b false) hx hb dX2_meetsArea_58 (by decide) ?_
            exact bm_zretR (v := false) hx hb hr (by simp [q_meets, c_1, c_2, c_3, c_4, c_5]) dX2_meetsArea_59 hlocks
          · refine lv_iconst (v := bm_b true) hx hb dX2_meetsArea_54 (by decide) ?_
            refine lv_goto (tgt := 59) hx hb dX2_meetsArea_55 (by decide) ?_
            exact bm_zretR (v := true) hx hb hr (by simp [q_meets, c_1, c_2, c_3, c_4, c_5]) dX2_meetsArea_59 hlocks
