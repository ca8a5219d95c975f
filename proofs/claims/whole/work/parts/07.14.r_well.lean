set_option maxHeartbeats 4000000 in
set_option maxRecDepth 100000 in
theorem r_well {l : Launch} {D : va_G} {ad : Nat → Nat} {cJ cI cZ : ClassId} {bm : gBM} {pa : gPA} {p0 p1 p2 : gPL} {li : gLI} {wi : gWI} (hoA : q_okA pa) (hoL : q_okL p0) (hoI : q_okI li) {j : Nat} (h1 : j < 40) : bm_Rd l yX4_standsWell wsX4_standsWell ({ frames := 3, cells := 0, slots := 0, locals := 77 }) D vwCl [(cJ, .long), (cI, .int), (cZ, .boolean)] (Wd ad cJ cI cZ bm pa p0 p1 p2 li wi) [.ref (ad 0), .int (nI j)] (.int (bm_b (q_well bm pa p0 li j))) := by
  obtain ⟨hn, hsd, hlw⟩ := hoA
  refine Met.ofW (cc := cX4_standsWell) (maxL := 2) (ret := (some .boolean)) (by decide) rfl ?_
  intro p e s m args below meth c s₁ B hml hv
  obtain ⟨ha, hP, hK⟩ := hv
  have hx := B.exec
  have hb := B.bytes
  have hr := B.returns
  have hts := atoms_spec (ws := wsX4_standsWell) B.pre
  have hown : s.vm.findClass RX4 = some m.cls := findClass_of_methodNamed B.named
  have hlocks := B.notSynchronized
  have hl := lv_entry ([.ref (ad 0), .int (nI j)]) (n := 2) (Nat.le_of_ble_eq_true rfl)
  refine W.eq (g2 := entryFrame m ([.ref (ad 0), .int (nI j)] : List Value).toArray 2) (by rw [ha]) ?_
  rw [lg_entry_eq]
  generalize (lg_sl ([.ref (ad 0), .int (nI j)]) ++ List.replicate (2 - (lg_sl ([.ref (ad 0), .int (nI j)])).length) Slot.unset).toArray = ls at hl ⊢
  have hl : lv_has ls 2 [(0, .ref (ad 0)), (1, .int (nI j))] := hl
  refine lv_aload_n hx hb dX4_standsWell_0 rfl (lv_at hl 0 rfl) ?_
  refine va_get (D := D) (ci := 4) (v := .ref (ad 8)) (C := RX4) (T := TX4) (N := 10) hx hb hts (inT inX4) hown hK hP 0 rfl rfl 5 (by decide) (hts (.fieldLink RX4 37 "BoardMoves" "now" "LBoardMoves$Placement;") (by decide +kernel)) (fun _ h9 => h9) rfl dX4_standsWell_1 ?_
  refine va_get (D := D) (ci := 2) (v := .ref (ad 12)) (C := RX2) (T := TX2) (N := 5) hx hb hts (inT inX2) hown hK hP 8 rfl rfl 4 (by decide) (hts (.fieldLink RX4 96 "BoardMoves$Placement" "placed" "[Z") (by decide +kernel)) (fun _ h9 => h9) rfl dX4_standsWell_4 ?_
  refine lv_iload_n hx hb dX4_standsWell_7 rfl (lv_at hl 1 rfl) ?_
  refine bm_zald (f := p0.2.2.2) hx hb hK hP 12 2 rfl rfl (j := j) (by omega) (by decide) dX4_standsWell_8 ?_
  refine bm_zb_ne (x := (p0.2.2.2 j)) (tgt := 14) hx hb dX4_standsWell_9 (by decide) (fun c_1 => ?_) (fun c_1 => ?_)
  · refine lv_aload_n hx hb dX4_standsWell_14 rfl (lv_at hl 0 rfl) ?_
    refine lv_iload_n hx hb dX4_standsWell_15 rfl (lv_at hl 1 rfl) ?_
    refine lv_aload_n hx hb dX4_standsWell_16 rfl (lv_at hl 0 rfl) ?_
    refine va_get (D := D) (ci := 4) (v := .ref (ad 8)) (C := RX4) (T := TX4) (N := 10) hx hb hts (inT inX4) hown hK hP 0 rfl rfl 5 (by decide) (hts (.fieldLink RX4 37 "BoardMoves" "now" "LBoardMoves$Placement;") (by decide +kernel)) (fun _ h9 => h9) rfl dX4_standsWell_17 ?_
    refine va_get (D := D) (ci := 2) (v := .ref (ad 9)) (C := RX2) (T := TX2) (N := 5) hx hb hts (inT inX2) hown hK hP 8 rfl rfl 1 (by decide) (hts (.fieldLink RX4 112 "BoardMoves$Placement" "x" "[J") (by decide +kernel)) (fun _ h9 => h9) rfl dX4_standsWell_20 ?_
    refine lv_iload_n hx hb dX4_standsWell_23 rfl (lv_at hl 1 rfl) ?_
    refine bm_lald (f := p0.1) hx hb hK hP 9 0 rfl rfl (j := j) (by omega) (by decide) dX4_standsWell_24 ?_
    refine lv_aload_n hx hb dX4_standsWell_25 rfl (lv_at hl 0 rfl) ?_
    refine va_get (D := D) (ci := 4) (v := .ref (ad 8)) (C := RX4) (T := TX4) (N := 10) hx hb hts (inT inX4) hown hK hP 0 rfl rfl 5 (by decide) (hts (.fieldLink RX4 37 "BoardMoves" "now" "LBoardMoves$Placement;") (by decide +kernel)) (fun _ h9 => h9) rfl dX4_standsWell_26 ?_
    refine va_get (D := D) (ci := 2) (v := .ref (ad 10)) (C := RX2) (T := TX2) (N := 5) hx hb hts (inT inX2) hown hK hP 8 rfl rfl 2 (by decide) (hts (.fieldLink RX4 116 "BoardMoves$Placement" "y" "[J") (by decide +kernel)) (fun _ h9 => h9) rfl dX4_standsWell_29 ?_
    refine lv_iload_n hx hb dX4_standsWell_32 rfl (lv_at hl 1 rfl) ?_
    refine bm_lald (f := p0.2.1) hx hb hK hP 10 0 rfl rfl (j := j) (by omega) (by decide) dX4_standsWell_33 ?_
    refine lv_aload_n hx hb dX4_standsWell_34 rfl (lv_at hl 0 rfl) ?_
    refine va_get (D := D) (ci := 4) (v := .ref (ad 8)) (C := RX4) (T := TX4) (N := 10) hx hb hts (inT inX4) hown hK hP 0 rfl rfl 5 (by decide) (hts (.fieldLink RX4 37 "BoardMoves" "now" "LBoardMoves$Placement;") (by decide +kernel)) (fun _ h9 => h9) rfl dX4_standsWell_35 ?_
    refine va_get (D := D) (ci := 2) (v := .ref (ad 11)) (C := RX2) (T := TX2) (N := 5) hx hb hts (inT inX2) hown hK hP 8 rfl rfl 3 (by decide) (hts (.fieldLink RX4 100 "BoardMoves$Placement" "turn" "[I") (by decide +kernel)) (fun _ h9 => h9) rfl dX4_standsWell_38 ?_
    refine lv_iload_n hx hb dX4_standsWell_41 rfl (lv_at hl 1 rfl) ?_
    refine bm_nald (f := p0.2.2.1) hx hb hK hP 11 1 rfl rfl (j := j) (by omega) (by decide) dX4_standsWell_42 ?_
    refine bm_rcallV (As := [.int (nI j), .long (p0.1 j), .long (p0.2.1 j), .int (nI (p0.2.2.1 j))]) (rest := []) ⟨hx, hb, hml, hown, hts⟩ (r_fits (j := j) (t := (p0.2.2.1 j)) (by omega) (bm40 (hoL _))) (cwV 4 hts (gdV (by decide +kernel) (by decide +kernel) (by decide +kernel) (by decide +kernel) (by decide +kernel)) rfl rfl rfl (by decide +kernel) ⟨Nat.le_of_ble_eq_true rfl, Nat.le_of_ble_eq_true rfl⟩) hK hP 0 4 rfl rfl rfl hl.1 rfl (Nat.le_of_ble_eq_true rfl) dX4_standsWell_43 ⟨Nat.le_of_ble_eq_true rfl, Nat.le_of_ble_eq_true rfl⟩ ?_
    refine bm_zb_eq (x := (q_fits bm pa j (p0.1 j) (p0.2.1 j) (p0.2.2.1 j))) (tgt := 96) hx hb dX4_standsWell_46 (by decide) (fun c_2 => ?_) (fun c_2 => ?_)
    · refine lv_iconst (v := bm_b false) hx hb dX4_standsWell_96 (by decide) ?_
      exact bm_zretR (v := false) hx hb hr (by simp [q_well, c_1, c_2]) dX4_standsWell_97 hlocks
    · refine lv_aload_n hx hb dX4_standsWell_49 rfl (lv_at hl 0 rfl) ?_
      refine va_get (D := D) (ci := 4) (v := .ref (ad 8)) (C := RX4) (T := TX4) (N := 10) hx hb hts (inT inX4) hown hK hP 0 rfl rfl 5 (by decide) (hts (.fieldLink RX4 37 "BoardMoves" "now" "LBoardMoves$Placement;") (by decide +kernel)) (fun _ h9 => h9) rfl dX4_standsWell_50 ?_
      refine lv_iload_n hx hb dX4_standsWell_53 rfl (lv_at hl 1 rfl) ?_
      refine lv_iconst (v := nI 0) hx hb dX4_standsWell_54 (by decide) ?_
      refine bm_rcallV (As := [.int (nI j), .int (nI 0)]) (rest := []) ⟨hx, hb, hml, hown, hts⟩ (r_over (j := j) (f := 0) ⟨hn, hsd, hlw⟩ hoL (by omega) (by omega)) (cwV 2 hts (gdV (by decide +kernel) (by decide +kernel) (by decide +kernel) (by decide +kernel) (by decide +kernel)) rfl rfl rfl (by decide +kernel) ⟨Nat.le_of_ble_eq_true rfl, Nat.le_of_ble_eq_true rfl⟩) hK hP 8 2 rfl rfl rfl hl.1 rfl (Nat.le_of_ble_eq_true rfl) dX4_standsWell_55 ⟨Nat.le_of_ble_eq_true rfl, Nat.le_of_ble_eq_true rfl⟩ ?_
      rcases hO_4 : q_over pa p0 j 0 with _ | o_3
      · refine lv_iconst (v := -1) hx hb dX4_standsWell_58 (by decide) ?_
        refine lv_icmp_ne (x := (-1)) (y := -1) (tgt := 96) hx hb dX4_standsWell_59 (by decide) (fun c_5 => ?_) (fun c_5 => ?_)
        · exact absurd rfl c_5
        · refine lv_aload_n hx hb dX4_standsWell_62 rfl (lv_at hl 0 rfl) ?_
          refine va_get (D := D) (ci := 4) (v := .ref (ad 23)) (C := RX4) (T := TX4) (N := 10) hx hb hts (inT inX4) hown hK hP 0 rfl rfl 3 (by decide) (hts (.fieldLink RX4 23 "BoardMoves" "limits" "LBoardMoves$Limits;") (by decide +kernel)) (fun _ h9 => h9) rfl dX4_standsWell_63 ?_
          refine lv_aload_n hx hb dX4_standsWell_66 rfl (lv_at hl 0 rfl) ?_
          refine va_get (D := D) (ci := 4) (v := .ref (ad 8)) (C := RX4) (T := TX4) (N := 10) hx hb hts (inT inX4) hown hK hP 0 rfl rfl 5 (by decide) (hts (.fieldLink RX4 37 "BoardMoves" "now" "LBoardMoves$Placement;") (by decide +kernel)) (fun _ h9 => h9) rfl dX4_standsWell_67 ?_
          refine lv_iload_n hx hb dX4_standsWell_70 rfl (lv_at hl 1 rfl) ?_
          refine bm_rcallV (As := [.ref (ad 8), .int (nI j)]) (rest := []) ⟨hx, hb, hml, hown, hts⟩ (r_low (j := j) hoL hoI (by omega)) (cwV 2 hts (gdV (by decide +kernel) (by decide +kernel) (by decide +kernel) (by decide +kernel) (by decide +kernel)) rfl rfl rfl (by decide +kernel) ⟨Nat.le_of_ble_eq_true rfl, Nat.le_of_ble_eq_true rfl⟩) hK hP 23 0 rfl rfl rfl hl.1 rfl (Nat.le_of_ble_eq_true rfl) dX4_standsWell_71 ⟨Nat.le_of_ble_eq_true rfl, Nat.le_of_ble_eq_true rfl⟩ ?_
          refine bm_zb_eq (x := (q_low pa p0 li j)) (tgt := 96) hx hb dX4_standsWell_74 (by decide) (fun c_6 => ?_) (fun c_6 => ?_)
          · refine lv_iconst (v := bm_b false) hx hb dX4_standsWell_96 (by decide) ?_
            exact bm_zretR (v := false) hx hb hr (by simp [q_well, c_1, c_2, hO_4, c_6]) dX4_standsWell_97 hlocks
          · refine lv_aload_n hx hb dX4_standsWell_77 rfl (lv_at hl 0 rfl) ?_
            refine va_get (D := D) (ci := 4) (v := .ref (ad 23)) (C := RX4) (T := TX4) (N := 10) hx hb hts (inT inX4) hown hK hP 0 rfl rfl 3 (by decide) (hts (.fieldLink RX4 23 "BoardMoves" "limits" "LBoardMoves$Limits;") (by decide +kernel)) (fun _ h9 => h9) rfl dX4_standsWell_78 ?_
            refine lv_aload_n hx hb dX4_standsWell_81 rfl (lv_at hl 0 rfl) ?_
            refine va_get (D := D) (ci := 4) (v := .ref (ad 8)) (C := RX4) (T := TX4) (N := 10) hx hb hts (inT inX4) hown hK hP 0 rfl rfl 5 (by decide) (hts (.fieldLink RX4 37 "BoardMoves" "now" "LBoardMoves$Placement;") (by decide +kernel)) (fun _ h9 => h9) rfl dX4_standsWell_82 ?_
            refine lv_iload_n hx hb dX4_standsWell_85 rfl (lv_at hl 1 rfl) ?_
            refine bm_rcallV (As := [.ref (ad 8), .int (nI j)]) (rest := []) ⟨hx, hb, hml, hown, hts⟩ (r_nears (j := j) hoL hoI (by omega)) (cwV 2 hts (gdV (by decide +kernel) (by decide +kernel) (by decide +kernel) (by decide +kernel) (by decide +kernel)) rfl rfl rfl (by decide +kernel) ⟨Nat.le_of_ble_eq_true rfl, Nat.le_of_ble_eq_true rfl⟩) hK hP 23 0 rfl rfl rfl hl.1 rfl (Nat.le_of_ble_eq_true rfl) dX4_standsWell_86 ⟨Nat.le_of_ble_eq_true rfl, Nat.le_of_ble_eq_true rfl⟩ ?_
            refine bm_zb_eq (x := (q_nears pa p0 li j)) (tgt := 96) hx hb dX4_standsWell_89 (by decide) (fun c_7 => ?_) (fun c_7 => ?_)
            · refine lv_iconst (v := bm_b false) hx hb dX4_standsWell_96 (by decide) ?_
              exact bm_zretR (v := false) hx hb hr (by simp [q_well, c_1, c_2, hO_4, c_6, c_7]) dX4_standsWell_97 hlocks
            · refine lv_iconst (v := bm_b true) hx hb dX4_standsWell_92 (by decide) ?_
              refine lv_goto (tgt := 97) hx hb dX4_standsWell_93 (by decide) ?_
              exact bm_zretR (v := true) hx hb hr (by simp [q_well, c_1, c_2, hO_4, c_6, c_7]) dX4_standsWell_97 hlocks
      · have hB_hO_4 := q_over_lt hO_4
        refine lv_iconst (v := -1) hx hb dX4_standsWell_58 (by decide) ?_
        refine lv_icmp_ne (x := (nI o_3)) (y := -1) (tgt := 96) hx hb dX4_standsWell_59 (by decide) (fun c_8 => ?_) (fun c_8 => ?_)
        · refine lv_iconst (v := bm_b false) hx hb dX4_standsWell_96 (by decide) ?_
          exact bm_zretR (v := false) hx hb hr (by simp [q_well, c_1, c_2, hO_4]) dX4_standsWell_97 hlocks
        · exact absurd c_8 (bm_nm1 (by omega))
  · refine lv_iconst (v := bm_b true) hx hb dX4_standsWell_12 (by decide) ?_
    exact bm_zretR (v := true) hx hb hr (by simp [q_well, c_1]) dX4_standsWell_13 hlocks
