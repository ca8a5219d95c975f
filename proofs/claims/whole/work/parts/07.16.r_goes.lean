set_option maxHeartbeats 4000000 in
set_option maxRecDepth 100000 in
theorem r_goes {l : Launch} {D : va_G} {ad : Nat → Nat} {cJ cI cZ : ClassId} {bm : gBM} {pa : gPA} {p0 p1 p2 : gPL} {li : gLI} {wi : gWI} (hoA : q_okA pa) {lo hi pu : Nat} (h1 : lo < 40) (h2 : hi < 40) (h3 : pu < 40) {ax up : Bool} : bm_Rd l yX4_goesOn wsX4_goesOn ({ frames := 1, cells := 0, slots := 0, locals := 22 }) D vwCl [(cJ, .long), (cI, .int), (cZ, .boolean)] (Wd ad cJ cI cZ bm pa p0 p1 p2 li wi) [.ref (ad 0), .int (nI lo), .int (nI hi), .int (nI pu), .int (bm_b ax), .int (bm_b up)] (.int (bm_b (q_goes pa p0 lo hi pu ax up))) := by
  obtain ⟨hn, hsd, hlw⟩ := hoA
  refine Met.ofW (cc := cX4_goesOn) (maxL := 10) (ret := (some .boolean)) (by decide) rfl ?_
  intro p e s m args below meth c s₁ B hml hv
  obtain ⟨ha, hP, hK⟩ := hv
  have hx := B.exec
  have hb := B.bytes
  have hr := B.returns
  have hts := atoms_spec (ws := wsX4_goesOn) B.pre
  have hown : s.vm.findClass RX4 = some m.cls := findClass_of_methodNamed B.named
  have hlocks := B.notSynchronized
  have hl := lv_entry ([.ref (ad 0), .int (nI lo), .int (nI hi), .int (nI pu), .int (bm_b ax), .int (bm_b up)]) (n := 10) (Nat.le_of_ble_eq_true rfl)
  refine W.eq (g2 := entryFrame m ([.ref (ad 0), .int (nI lo), .int (nI hi), .int (nI pu), .int (bm_b ax), .int (bm_b up)] : List Value).toArray 10) (by rw [ha]) ?_
  rw [lg_entry_eq]
  generalize (lg_sl ([.ref (ad 0), .int (nI lo), .int (nI hi), .int (nI pu), .int (bm_b ax), .int (bm_b up)]) ++ List.replicate (10 - (lg_sl ([.ref (ad 0), .int (nI lo), .int (nI hi), .int (nI pu), .int (bm_b ax), .int (bm_b up)])).length) Slot.unset).toArray = ls at hl ⊢
  have hl : lv_has ls 10 [(0, .ref (ad 0)), (1, .int (nI lo)), (2, .int (nI hi)), (3, .int (nI pu)), (4, .int (bm_b ax)), (5, .int (bm_b up))] := hl
  refine lv_aload_n hx hb dX4_goesOn_0 rfl (lv_at hl 0 rfl) ?_
  refine va_get (D := D) (ci := 4) (v := .ref (ad 1)) (C := RX4) (T := TX4) (N := 10) hx hb hts (inT inX4) hown hK hP 0 rfl rfl 2 (by decide) (hts (.fieldLink RX4 12 "BoardMoves" "parts" "LBoardMoves$Parts;") (by decide +kernel)) (fun _ h9 => h9) rfl dX4_goesOn_1 ?_
  refine lv_iload_n hx hb dX4_goesOn_4 rfl (lv_at hl 1 rfl) ?_
  refine lv_iload_n hx hb dX4_goesOn_5 rfl (lv_at hl 3 rfl) ?_
  refine bm_rcallV (As := [.int (nI lo), .int (nI pu)]) (rest := []) ⟨hx, hb, hml, hown, hts⟩ (r_mates (a := lo) (b := pu) ⟨hn, hsd, hlw⟩ (by omega) (by omega)) (cwV 2 hts (gdV (by decide +kernel) (by decide +kernel) (by decide +kernel) (by decide +kernel) (by decide +kernel)) rfl rfl rfl (by decide +kernel) ⟨Nat.le_of_ble_eq_true rfl, Nat.le_of_ble_eq_true rfl⟩) hK hP 1 1 rfl rfl rfl hl.1 rfl (Nat.le_of_ble_eq_true rfl) dX4_goesOn_6 ⟨Nat.le_of_ble_eq_true rfl, Nat.le_of_ble_eq_true rfl⟩ ?_
  refine bm_zb_eq (x := (q_mates pa lo pu)) (tgt := 14) hx hb dX4_goesOn_9 (by decide) (fun c_1 => ?_) (fun c_1 => ?_)
  · refine lv_aload_n hx hb dX4_goesOn_14 rfl (lv_at hl 0 rfl) ?_
    refine va_get (D := D) (ci := 4) (v := .ref (ad 1)) (C := RX4) (T := TX4) (N := 10) hx hb hts (inT inX4) hown hK hP 0 rfl rfl 2 (by decide) (hts (.fieldLink RX4 12 "BoardMoves" "parts" "LBoardMoves$Parts;") (by decide +kernel)) (fun _ h9 => h9) rfl dX4_goesOn_15 ?_
    refine lv_iload_n hx hb dX4_goesOn_18 rfl (lv_at hl 2 rfl) ?_
    refine lv_iload_n hx hb dX4_goesOn_19 rfl (lv_at hl 3 rfl) ?_
    refine bm_rcallV (As := [.int (nI hi), .int (nI pu)]) (rest := []) ⟨hx, hb, hml, hown, hts⟩ (r_mates (a := hi) (b := pu) ⟨hn, hsd, hlw⟩ (by omega) (by omega)) (cwV 2 hts (gdV (by decide +kernel) (by decide +kernel) (by decide +kernel) (by decide +kernel) (by decide +kernel)) rfl rfl rfl (by decide +kernel) ⟨Nat.le_of_ble_eq_true rfl, Nat.le_of_ble_eq_true rfl⟩) hK hP 1 1 rfl rfl rfl hl.1 rfl (Nat.le_of_ble_eq_true rfl) dX4_goesOn_20 ⟨Nat.le_of_ble_eq_true rfl, Nat.le_of_ble_eq_true rfl⟩ ?_
    refine bm_zb_eq (x := (q_mates pa hi pu)) (tgt := 28) hx hb dX4_goesOn_23 (by decide) (fun c_2 => ?_) (fun c_2 => ?_)
    · refine lv_iload hx hb dX4_goesOn_28 (lv_at hl 4 rfl) ?_
      refine bm_zb_eq (x := ax) (tgt := 45) hx hb dX4_goesOn_30 (by decide) (fun c_3 => ?_) (fun c_3 => ?_)
      · refine lv_aload_n hx hb dX4_goesOn_45 rfl (lv_at hl 0 rfl) ?_
        refine va_get (D := D) (ci := 4) (v := .ref (ad 8)) (C := RX4) (T := TX4) (N := 10) hx hb hts (inT inX4) hown hK hP 0 rfl rfl 5 (by decide) (hts (.fieldLink RX4 37 "BoardMoves" "now" "LBoardMoves$Placement;") (by decide +kernel)) (fun _ h9 => h9) rfl dX4_goesOn_46 ?_
        refine va_get (D := D) (ci := 2) (v := .ref (ad 10)) (C := RX2) (T := TX2) (N := 5) hx hb hts (inT inX2) hown hK hP 8 rfl rfl 2 (by decide) (hts (.fieldLink RX4 116 "BoardMoves$Placement" "y" "[J") (by decide +kernel)) (fun _ h9 => h9) rfl dX4_goesOn_49 ?_
        refine lv_iload_n hx hb dX4_goesOn_52 rfl (lv_at hl 1 rfl) ?_
        refine bm_lald (f := p0.2.1) hx hb hK hP 10 0 rfl rfl (j := lo) (by omega) (by decide) dX4_goesOn_53 ?_
        refine lv_lstore (lv' := [(6, .long (p0.2.1 lo)), (0, .ref (ad 0)), (1, .int (nI lo)), (2, .int (nI hi)), (3, .int (nI pu)), (4, .int (bm_b ax)), (5, .int (bm_b up))]) hx hb dX4_goesOn_54 hl (by decide) rfl (fun ls hl => ?_)
        refine lv_iload hx hb dX4_goesOn_56 (lv_at hl 5 rfl) ?_
        refine bm_zb_eq (x := ax) (tgt := 73) hx hb dX4_goesOn_58 (by decide) (fun c_4 => ?_) (fun c_4 => ?_)
        · refine lv_aload_n hx hb dX4_goesOn_73 rfl (lv_at hl 1 rfl) ?_
          refine va_get (D := D) (ci := 4) (v := .ref (ad 8)) (C := RX4) (T := TX4) (N := 10) hx hb hts (inT inX4) hown hK hP 0 rfl rfl 5 (by decide) (hts (.fieldLink RX4 37 "BoardMoves" "now" "LBoardMoves$Placement;") (by decide +kernel)) (fun _ h9 => h9) rfl dX4_goesOn_74 ?_
          refine va_get (D := D) (ci := 2) (v := .ref (ad 10)) (C := RX2) (T := TX2) (N := 5) hx hb hts (inT inX2) hown hK hP 8 rfl rfl 2 (by decide) (hts (.fieldLink RX4 116 "BoardMoves$Placement" "y" "[J") (by decide +kernel)) (fun _ h9 => h9) rfl dX4_goesOn_77 ?_
          refine lv_iload_n hx hb dX4_goesOn_80 rfl (lv_at hl 3 rfl) ?_
          refine bm_lald (f := p0.2.1) hx hb hK hP 10 0 rfl rfl (j := hi) (by omega) (by decide) dX4_goesOn_81 ?_
          refine lv_lstore (lv' := [(8, .long (p0.2.1 hi)), (6, .long (p0.2.1 lo)), (0, .ref (ad 0)), (1, .int (nI lo)), (2, .int (nI hi)), (3, .int (nI pu)), (4, .int (bm_b ax)), (5, .int (bm_b up))]) hx hb dX4_goesOn_82 hl (by decide) rfl (fun ls hl => ?_)
          refine lv_iload hx hb dX4_goesOn_84 (lv_at hl 7 rfl) ?_
          refine bm_zb_eq (x := up) (tgt := 105) hx hb dX4_goesOn_86 (by decide) (fun c_5 => ?_) (fun c_5 => ?_)
          · refine lv_lload hx hb dX4_goesOn_105 (lv_at hl 1 rfl) ?_
            refine lv_lload hx hb dX4_goesOn_107 (lv_at hl 0 rfl) ?_
            refine bm_lc_ge (x := (p0.2.1 lo)) (y := (p0.2.1 hi)) (tgt := 117) hx hb dX4_goesOn_109 dX4_goesOn_110 (by decide) (fun c_6 => ?_) (fun c_6 => ?_)
            · refine lv_iconst (v := bm_b false) hx hb dX4_goesOn_117 (by decide) ?_
              exact bm_zretR (v := false) hx hb hr (by first | (simp [q_goes, c_1, c_2, c_3, c_4, c_5, c_6]; done) | exact absurd (c_1.symm.trans c_2) (by decide) | exact absurd (c_1.symm.trans c_3) (by decide) | exact absurd (c_1.symm.trans c_4) (by decide) | exact absurd (c_1.symm.trans c_5) (by decide) | exact absurd (c_1.symm.trans c_6) (by decide) | exact absurd (c_2.symm.trans c_3) (by decide) | exact absurd (c_2.symm.trans c_4) (by decide) | exact absurd (c_2.symm.trans c_5) (by decide) | exact absurd (c_2.symm.trans c_6) (by decide) | exact absurd (c_3.symm.trans c_4) (by decide) | exact absurd (c_3.symm.trans c_5) (by decide) | exact absurd (c_3.symm.trans c_6) (by decide) | exact absurd (c_4.symm.trans c_5) (by decide) | exact absurd (c_4.symm.trans c_6) (by decide) | exact absurd (c_5.symm.trans c_6) (by decide)) dX4_goesOn_118 hlocks
            · refine lv_iconst (v := bm_b true) hx hb dX4_goesOn_113 (by decide) ?_
              refine lv_goto (tgt := 118) hx hb dX4_goesOn_114 (by decide) ?_
              exact bm_zretR (v := true) hx hb hr (by first | (simp [q_goes, c_1, c_2, c_3, c_4, c_5, c_6]; done) | exact absurd (c_1.symm.trans c_2) (by decide) | exact absurd (c_1.symm.trans c_3) (by decide) | exact absurd (c_1.symm.trans c_4) (by decide) | exact absurd (c_1.symm.trans c_5) (by decide) | exact absurd (c_1.symm.trans c_6) (by decide) | exact absurd (c_2.symm.trans c_3) (by decide) | exact absurd (c_2.symm.trans c_4) (by decide) | exact absurd (c_2.symm.trans c_5) (by decide) | exact absurd (c_2.symm.trans c_6) (by decide) | exact absurd (c_3.symm.trans c_4) (by decide) | exact absurd (c_3.symm.trans c_5) (by decide) | exact absurd (c_3.symm.trans c_6) (by decide) | exact absurd (c_4.symm.trans c_5) (by decide) | exact absurd (c_4.symm.trans c_6) (by decide) | exact absurd (c_5.symm.trans c_6) (by decide)) dX4_goesOn_118 hlocks
          · refine lv_lload hx hb dX4_goesOn_89 (lv_at hl 1 rfl) ?_
            refine lv_lload hx hb dX4_goesOn_91 (lv_at hl 0 rfl) ?_
            refine bm_lc_le (x := (p0.2.1 lo)) (y := (p0.2.1 hi)) (tgt := 101) hx hb dX4_goesOn_93 dX4_goesOn_94 (by decide) (fun c_7 => ?_) (fun c_7 => ?_)
            · refine lv_iconst (v := bm_b false) hx hb dX4_goesOn_101 (by decide) ?_
              refine lv_goto (tgt := 118) hx hb dX4_goesOn_102 (by decide) ?_
              exact bm_zretR (v := false) hx hb hr (by first | (simp [q_goes, c_1, c_2, c_3, c_4, c_5, c_7]; done) | exact absurd (c_1.symm.trans c_2) (by decide) | exact absurd (c_1.symm.trans c_3) (by decide) | exact absurd (c_1.symm.trans c_4) (by decide) | exact absurd (c_1.symm.trans c_5) (by decide) | exact absurd (c_1.symm.trans c_7) (by decide) | exact absurd (c_2.symm.trans c_3) (by decide) | exact absurd (c_2.symm.trans c_4) (by decide) | exact absurd (c_2.symm.trans c_5) (by decide) | exact absurd (c_2.symm.trans c_7) (by decide) | exact absurd (c_3.symm.trans c_4) (by decide) | exact absurd (c_3.symm.trans c_5) (by decide) | exact absurd (c_3.symm.trans c_7) (by decide) | exact absurd (c_4.symm.trans c_5) (by decide) | exact absurd (c_4.symm.trans c_7) (by decide) | exact absurd (c_5.symm.trans c_7) (by decide)) dX4_goesOn_118 hlocks
            · refine lv_iconst (v := bm_b true) hx hb dX4_goesOn_97 (by decide) ?_
              refine lv_goto (tgt := 118) hx hb dX4_goesOn_98 (by decide) ?_
              exact bm_zretR (v := true) hx hb hr (by first | (simp [q_goes, c_1, c_2, c_3, c_4, c_5, c_7]; done) | exact absurd (c_1.symm.trans c_2) (by decide) | exact absurd (c_1.symm.trans c_3) (by decide) | exact absurd (c_1.symm.trans c_4) (by decide) | exact absurd (c_1.symm.trans c_5) (by decide) | exact absurd (c_1.symm.trans c_7) (by decide) | exact absurd (c_2.symm.trans c_3) (by decide) | exact absurd (c_2.symm.trans c_4) (by decide) | exact absurd (c_2.symm.trans c_5) (by decide) | exact absurd (c_2.symm.trans c_7) (by decide) | exact absurd (c_3.symm.trans c_4) (by decide) | exact absurd (c_3.symm.trans c_5) (by decide) | exact absurd (c_3.symm.trans c_7) (by decide) | exact absurd (c_4.symm.trans c_5) (by decide) | exact absurd (c_4.symm.trans c_7) (by decide) | exact absurd (c_5.symm.trans c_7) (by decide)) dX4_goesOn_118 hlocks
        · refine lv_aload_n hx hb dX4_goesOn_61 rfl (lv_at hl 1 rfl) ?_
          refine va_get (D := D) (ci := 4) (v := .ref (ad 8)) (C := RX4) (T := TX4) (N := 10) hx hb hts (inT inX4) hown hK hP 0 rfl rfl 5 (by decide) (hts (.fieldLink RX4 37 "BoardMoves" "now" "LBoardMoves$Placement;") (by decide +kernel)) (fun _ h9 => h9) rfl dX4_goesOn_62 ?_
          refine va_get (D := D) (ci := 2) (v := .ref (ad 9)) (C := RX2) (T := TX2) (N := 5) hx hb hts (inT inX2) hown hK hP 8 rfl rfl 1 (by decide) (hts (.fieldLink RX4 112 "BoardMoves$Placement" "x" "[J") (by decide +kernel)) (fun _ h9 => h9) rfl dX4_goesOn_65 ?_
          refine lv_iload_n hx hb dX4_goesOn_68 rfl (lv_at hl 3 rfl) ?_
          refine bm_lald (f := p0.1) hx hb hK hP 9 0 rfl rfl (j := hi) (by omega) (by decide) dX4_goesOn_69 ?_
          refine lv_goto (tgt := 82) hx hb dX4_goesOn_70 (by decide) ?_
          refine lv_lstore (lv' := [(8, .long (p0.1 hi)), (6, .long (p0.2.1 lo)), (0, .ref (ad 0)), (1, .int (nI lo)), (2, .int (nI hi)), (3, .int (nI pu)), (4, .int (bm_b ax)), (5, .int (bm_b up))]) hx hb dX4_goesOn_82 hl (by decide) rfl (fun ls hl => ?_)
          refine lv_iload hx hb dX4_goesOn_84 (lv_at hl 7 rfl) ?_
          refine bm_zb_eq (x := up) (tgt := 105) hx hb dX4_goesOn_86 (by decide) (fun c_8 => ?_) (fun c_8 => ?_)
          · refine lv_lload hx hb dX4_goesOn_105 (lv_at hl 1 rfl) ?_
            refine lv_lload hx hb dX4_goesOn_107 (lv_at hl 0 rfl) ?_
            refine bm_lc_ge (x := (p0.2.1 lo)) (y := (p0.1 hi)) (tgt := 117) hx hb dX4_goesOn_109 dX4_goesOn_110 (by decide) (fun c_9 => ?_) (fun c_9 => ?_)
            · refine lv_iconst (v := bm_b false) hx hb dX4_goesOn_117 (by decide) ?_
              exact bm_zretR (v := false) hx hb hr (by first | (simp [q_goes, c_1, c_2, c_3, c_4, c_8, c_9]; done) | exact absurd (c_1.symm.trans c_2) (by decide) | exact absurd (c_1.symm.trans c_3) (by decide) | exact absurd (c_1.symm.trans c_4) (by decide) | exact absurd (c_1.symm.trans c_8) (by decide) | exact absurd (c_1.symm.trans c_9) (by decide) | exact absurd (c_2.symm.trans c_3) (by decide) | exact absurd (c_2.symm.trans c_4) (by decide) | exact absurd (c_2.symm.trans c_8) (by decide) | exact absurd (c_2.symm.trans c_9) (by decide) | exact absurd (c_3.symm.trans c_4) (by decide) | exact absurd (c_3.symm.trans c_8) (by decide) | exact absurd (c_3.symm.trans c_9) (by decide) | exact absurd (c_4.symm.trans c_8) (by decide) | exact absurd (c_4.symm.trans c_9) (by decide) | exact absurd (c_8.symm.trans c_9) (by decide)) dX4_goesOn_118 hlocks
            · refine lv_iconst (v := bm_b true) hx hb dX4_goesOn_113 (by decide) ?_
              refine lv_goto (tgt := 118) hx hb dX4_goesOn_114 (by decide) ?_
              exact bm_zretR (v := true) hx hb hr (by first | (simp [q_goes, c_1, c_2, c_3, c_4, c_8, c_9]; done) | exact absurd (c_1.symm.trans c_2) (by decide) | exact absurd (c_1.symm.trans c_3) (by decide) | exact absurd (c_1.symm.trans c_4) (by decide) | exact absurd (c_1.symm.trans c_8) (by decide) | exact absurd (c_1.symm.trans c_9) (by decide) | exact absurd (c_2.symm.trans c_3) (by decide) | exact absurd (c_2.symm.trans c_4) (by decide) | exact absurd (c_2.symm.trans c_8) (by decide) | exact absurd (c_2.symm.trans c_9) (by decide) | exact absurd (c_3.symm.trans c_4) (by decide) | exact absurd (c_3.symm.trans c_8) (by decide) | exact absurd (c_3.symm.trans c_9) (by decide) | exact absurd (c_4.symm.trans c_8) (by decide) | exact absurd (c_4.symm.trans c_9) (by decide) | exact absurd (c_8.symm.trans c_9) (by decide)) dX4_goesOn_118 hlocks
          · refine lv_lload hx hb dX4_goesOn_89 (lv_at hl 1 rfl) ?_
            refine lv_lload hx hb dX4_goesOn_91 (lv_at hl 0 rfl) ?_
            refine bm_lc_le (x := (p0.2.1 lo)) (y := (p0.1 hi)) (tgt := 101) hx hb dX4_goesOn_93 dX4_goesOn_94 (by decide) (fun c_10 => ?_) (fun c_10 => ?_)
            · refine lv_iconst (v := bm_b false) hx hb dX4_goesOn_101 (by decide) ?_
              refine lv_goto (tgt := 118) hx hb dX4_goesOn_102 (by decide) ?_
              exact bm_zretR (v := false) hx hb hr (by first | (simp [q_goes, c_1, c_2, c_3, c_4, c_8, c_10]; done) | exact absurd (c_1.symm.trans c_2) (by decide) | exact absurd (c_1.symm.trans c_3) (by decide) | exact absurd (c_1.symm.trans c_4) (by decide) | exact absurd (c_1.symm.trans c_8) (by decide) | exact absurd (c_1.symm.trans c_10) (by decide) | exact absurd (c_2.symm.trans c_3) (by decide) | exact absurd (c_2.symm.trans c_4) (by decide) | exact absurd (c_2.symm.trans c_8) (by decide) | exact absurd (c_2.symm.trans c_10) (by decide) | exact absurd (c_3.symm.trans c_4) (by decide) | exact absurd (c_3.symm.trans c_8) (by decide) | exact absurd (c_3.symm.trans c_10) (by decide) | exact absurd (c_4.symm.trans c_8) (by decide) | exact absurd (c_4.symm.trans c_10) (by decide) | exact absurd (c_8.symm.trans c_10) (by decide)) dX4_goesOn_118 hlocks
            · refine lv_iconst (v := bm_b true) hx hb dX4_goesOn_97 (by decide) ?_
              refine lv_goto (tgt := 118) hx hb dX4_goesOn_98 (by decide) ?_
              exact bm_zretR (v := true) hx hb hr (by first | (simp [q_goes, c_1, c_2, c_3, c_4, c_8, c_10]; done) | exact absurd (c_1.symm.trans c_2) (by decide) | exact absurd (c_1.symm.trans c_3) (by decide) | exact absurd (c_1.symm.trans c_4) (by decide) | exact absurd (c_1.symm.trans c_8) (by decide) | exact absurd (c_1.symm.trans c_10) (by decide) | exact absurd (c_2.symm.trans c_3) (by decide) | exact absurd (c_2.symm.trans c_4) (by decide) | exact absurd (c_2.symm.trans c_8) (by decide) | exact absurd (c_2.symm.trans c_10) (by decide) | exact absurd (c_3.symm.trans c_4) (by decide) | exact absurd (c_3.symm.trans c_8) (by decide) | exact absurd (c_3.symm.trans c_10) (by decide) | exact absurd (c_4.symm.trans c_8) (by decide) | exact absurd (c_4.symm.trans c_10) (by decide) | exact absurd (c_8.symm.trans c_10) (by decide)) dX4_goesOn_118 hlocks
      · refine lv_aload_n hx hb dX4_goesOn_33 rfl (lv_at hl 0 rfl) ?_
        refine va_get (D := D) (ci := 4) (v := .ref (ad 8)) (C := RX4) (T := TX4) (N := 10) hx hb hts (inT inX4) hown hK hP 0 rfl rfl 5 (by decide) (hts (.fieldLink RX4 37 "BoardMoves" "now" "LBoardMoves$Placement;") (by decide +kernel)) (fun _ h9 => h9) rfl dX4_goesOn_34 ?_
        refine va_get (D := D) (ci := 2) (v := .ref (ad 9)) (C := RX2) (T := TX2) (N := 5) hx hb hts (inT inX2) hown hK hP 8 rfl rfl 1 (by decide) (hts (.fieldLink RX4 112 "BoardMoves$Placement" "x" "[J") (by decide +kernel)) (fun _ h9 => h9) rfl dX4_goesOn_37 ?_
        refine lv_iload_n hx hb dX4_goesOn_40 rfl (lv_at hl 1 rfl) ?_
        refine bm_lald (f := p0.1) hx hb hK hP 9 0 rfl rfl (j := lo) (by omega) (by decide) dX4_goesOn_41 ?_
        refine lv_goto (tgt := 54) hx hb dX4_goesOn_42 (by decide) ?_
        refine lv_lstore (lv' := [(6, .long (p0.1 lo)), (0, .ref (ad 0)), (1, .int (nI lo)), (2, .int (nI hi)), (3, .int (nI pu)), (4, .int (bm_b ax)), (5, .int (bm_b up))]) hx hb dX4_goesOn_54 hl (by decide) rfl (fun ls hl => ?_)
        refine lv_iload hx hb dX4_goesOn_56 (lv_at hl 5 rfl) ?_
        refine bm_zb_eq (x := ax) (tgt := 73) hx hb dX4_goesOn_58 (by decide) (fun c_11 => ?_) (fun c_11 => ?_)
        · refine lv_aload_n hx hb dX4_goesOn_73 rfl (lv_at hl 1 rfl) ?_
          refine va_get (D := D) (ci := 4) (v := .ref (ad 8)) (C := RX4) (T := TX4) (N := 10) hx hb hts (inT inX4) hown hK hP 0 rfl rfl 5 (by decide) (hts (.fieldLink RX4 37 "BoardMoves" "now" "LBoardMoves$Placement;") (by decide +kernel)) (fun _ h9 => h9) rfl dX4_goesOn_74 ?_
          refine va_get (D := D) (ci := 2) (v := .ref (ad 10)) (C := RX2) (T := TX2) (N := 5) hx hb hts (inT inX2) hown hK hP 8 rfl rfl 2 (by decide) (hts (.fieldLink RX4 116 "BoardMoves$Placement" "y" "[J") (by decide +kernel)) (fun _ h9 => h9) rfl dX4_goesOn_77 ?_
          refine lv_iload_n hx hb dX4_goesOn_80 rfl (lv_at hl 3 rfl) ?_
          refine bm_lald (f := p0.2.1) hx hb hK hP 10 0 rfl rfl (j := hi) (by omega) (by decide) dX4_goesOn_81 ?_
          refine lv_lstore (lv' := [(8, .long (p0.2.1 hi)), (6, .long (p0.1 lo)), (0, .ref (ad 0)), (1, .int (nI lo)), (2, .int (nI hi)), (3, .int (nI pu)), (4, .int (bm_b ax)), (5, .int (bm_b up))]) hx hb dX4_goesOn_82 hl (by decide) rfl (fun ls hl => ?_)
          refine lv_iload hx hb dX4_goesOn_84 (lv_at hl 7 rfl) ?_
          refine bm_zb_eq (x := up) (tgt := 105) hx hb dX4_goesOn_86 (by decide) (fun c_12 => ?_) (fun c_12 => ?_)
          · refine lv_lload hx hb dX4_goesOn_105 (lv_at hl 1 rfl) ?_
            refine lv_lload hx hb dX4_goesOn_107 (lv_at hl 0 rfl) ?_
            refine bm_lc_ge (x := (p0.1 lo)) (y := (p0.2.1 hi)) (tgt := 117) hx hb dX4_goesOn_109 dX4_goesOn_110 (by decide) (fun c_13 => ?_) (fun c_13 => ?_)
            · refine lv_iconst (v := bm_b false) hx hb dX4_goesOn_117 (by decide) ?_
              exact bm_zretR (v := false) hx hb hr (by first | (simp [q_goes, c_1, c_2, c_3, c_11, c_12, c_13]; done) | exact absurd (c_1.symm.trans c_2) (by decide) | exact absurd (c_1.symm.trans c_3) (by decide) | exact absurd (c_1.symm.trans c_11) (by decide) | exact absurd (c_1.symm.trans c_12) (by decide) | exact absurd (c_1.symm.trans c_13) (by decide) | exact absurd (c_2.symm.trans c_3) (by decide) | exact absurd (c_2.symm.trans c_11) (by decide) | exact absurd (c_2.symm.trans c_12) (by decide) | exact absurd (c_2.symm.trans c_13) (by decide) | exact absurd (c_3.symm.trans c_11) (by decide) | exact absurd (c_3.symm.trans c_12) (by decide) | exact absurd (c_3.symm.trans c_13) (by decide) | exact absurd (c_11.symm.trans c_12) (by decide) | exact absurd (c_11.symm.trans c_13) (by decide) | exact absurd (c_12.symm.trans c_13) (by decide)) dX4_goesOn_118 hlocks
            · refine lv_iconst (v := bm_b true) hx hb dX4_goesOn_113 (by decide) ?_
              refine lv_goto (tgt := 118) hx hb dX4_goesOn_114 (by decide) ?_
              exact bm_zretR (v := true) hx hb hr (by first | (simp [q_goes, c_1, c_2, c_3, c_11, c_12, c_13]; done) | exact absurd (c_1.symm.trans c_2) (by decide) | exact absurd (c_1.symm.trans c_3) (by decide) | exact absurd (c_1.symm.trans c_11) (by decide) | exact absurd (c_1.symm.trans c_12) (by decide) | exact absurd (c_1.symm.trans c_13) (by decide) | exact absurd (c_2.symm.trans c_3) (by decide) | exact absurd (c_2.symm.trans c_11) (by decide) | exact absurd (c_2.symm.trans c_12) (by decide) | exact absurd (c_2.symm.trans c_13) (by decide) | exact absurd (c_3.symm.trans c_11) (by decide) | exact absurd (c_3.symm.trans c_12) (by decide) | exact absurd (c_3.symm.trans c_13) (by decide) | exact absurd (c_11.symm.trans c_12) (by decide) | exact absurd (c_11.symm.trans c_13) (by decide) | exact absurd (c_12.symm.trans c_13) (by decide)) dX4_goesOn_118 hlocks
          · refine lv_lload hx hb dX4_goesOn_89 (lv_at hl 1 rfl) ?_
            refine lv_lload hx hb dX4_goesOn_91 (lv_at hl 0 rfl) ?_
            refine bm_lc_le (x := (p0.1 lo)) (y := (p0.2.1 hi)) (tgt := 101) hx hb dX4_goesOn_93 dX4_goesOn_94 (by decide) (fun c_14 => ?_) (fun c_14 => ?_)
            · refine lv_iconst (v := bm_b false) hx hb dX4_goesOn_101 (by decide) ?_
              refine lv_goto (tgt := 118) hx hb dX4_goesOn_102 (by decide) ?_
              exact bm_zretR (v := false) hx hb hr (by first | (simp [q_goes, c_1, c_2, c_3, c_11, c_12, c_14]; done) | exact absurd (c_1.symm.trans c_2) (by decide) | exact absurd (c_1.symm.trans c_3) (by decide) | exact absurd (c_1.symm.trans c_11) (by decide) | exact absurd (c_1.symm.trans c_12) (by decide) | exact absurd (c_1.symm.trans c_14) (by decide) | exact absurd (c_2.symm.trans c_3) (by decide) | exact absurd (c_2.symm.trans c_11) (by decide) | exact absurd (c_2.symm.trans c_12) (by decide) | exact absurd (c_2.symm.trans c_14) (by decide) | exact absurd (c_3.symm.trans c_11) (by decide) | exact absurd (c_3.symm.trans c_12) (by decide) | exact absurd (c_3.symm.trans c_14) (by decide) | exact absurd (c_11.symm.trans c_12) (by decide) | exact absurd (c_11.symm.trans c_14) (by decide) | exact absurd (c_12.symm.trans c_14) (by decide)) dX4_goesOn_118 hlocks
            · refine lv_iconst (v := bm_b true) hx hb dX4_goesOn_97 (by decide) ?_
              refine lv_goto (tgt := 118) hx hb dX4_goesOn_98 (by decide) ?_
              exact bm_zretR (v := true) hx hb hr (by first | (simp [q_goes, c_1, c_2, c_3, c_11, c_12, c_14]; done) | exact absurd (c_1.symm.trans c_2) (by decide) | exact absurd (c_1.symm.trans c_3) (by decide) | exact absurd (c_1.symm.trans c_11) (by decide) | exact absurd (c_1.symm.trans c_12) (by decide) | exact absurd (c_1.symm.trans c_14) (by decide) | exact absurd (c_2.symm.trans c_3) (by decide) | exact absurd (c_2.symm.trans c_11) (by decide) | exact absurd (c_2.symm.trans c_12) (by decide) | exact absurd (c_2.symm.trans c_14) (by decide) | exact absurd (c_3.symm.trans c_11) (by decide) | exact absurd (c_3.symm.trans c_12) (by decide) | exact absurd (c_3.symm.trans c_14) (by decide) | exact absurd (c_11.symm.trans c_12) (by decide) | exact absurd (c_11.symm.trans c_14) (by decide) | exact absurd (c_12.symm.trans c_14) (by decide)) dX4_goesOn_118 hlocks
        · refine lv_aload_n hx hb dX4_goesOn_61 rfl (lv_at hl 1 rfl) ?_
          refine va_get (D := D) (ci := 4) (v := .ref (ad 8)) (C := RX4) (T := TX4) (N := 10) hx hb hts (inT inX4) hown hK hP 0 rfl rfl 5 (by decide) (hts (.fieldLink RX4 37 "BoardMoves" "now" "LBoardMoves$Placement;") (by decide +kernel)) (fun _ h9 => h9) rfl dX4_goesOn_62 ?_
          refine va_get (D := D) (ci := 2) (v := .ref (ad 9)) (C := RX2) (T := TX2) (N := 5) hx hb hts (inT inX2) hown hK hP 8 rfl rfl 1 (by decide) (hts (.fieldLink RX4 112 "BoardMoves$Placement" "x" "[J") (by decide +kernel)) (fun _ h9 => h9) rfl dX4_goesOn_65 ?_
          refine lv_iload_n hx hb dX4_goesOn_68 rfl (lv_at hl 3 rfl) ?_
          refine bm_lald (f := p0.1) hx hb hK hP 9 0 rfl rfl (j := hi) (by omega) (by decide) dX4_goesOn_69 ?_
          refine lv_goto (tgt := 82) hx hb dX4_goesOn_70 (by decide) ?_
          refine lv_lstore (lv' := [(8, .long (p0.1 hi)), (6, .long (p0.1 lo)), (0, .ref (ad 0)), (1, .int (nI lo)), (2, .int (nI hi)), (3, .int (nI pu)), (4, .int (bm_b ax)), (5, .int (bm_b up))]) hx hb dX4_goesOn_82 hl (by decide) rfl (fun ls hl => ?_)
          refine lv_iload hx hb dX4_goesOn_84 (lv_at hl 7 rfl) ?_
          refine bm_zb_eq (x := up) (tgt := 105) hx hb dX4_goesOn_86 (by decide) (fun c_15 => ?_) (fun c_15 => ?_)
          · refine lv_lload hx hb dX4_goesOn_105 (lv_at hl 1 rfl) ?_
            refine lv_lload hx hb dX4_goesOn_107 (lv_at hl 0 rfl) ?_
            refine bm_lc_ge (x := (p0.1 lo)) (y := (p0.1 hi)) (tgt := 117) hx hb dX4_goesOn_109 dX4_goesOn_110 (by decide) (fun c_16 => ?_) (fun c_16 => ?_)
            · refine lv_iconst (v := bm_b false) hx hb dX4_goesOn_117 (by decide) ?_
              exact bm_zretR (v := false) hx hb hr (by first | (simp [q_goes, c_1, c_2, c_3, c_11, c_15, c_16]; done) | exact absurd (c_1.symm.trans c_2) (by decide) | exact absurd (c_1.symm.trans c_3) (by decide) | exact absurd (c_1.symm.trans c_11) (by decide) | exact absurd (c_1.symm.trans c_15) (by decide) | exact absurd (c_1.symm.trans c_16) (by decide) | exact absurd (c_2.symm.trans c_3) (by decide) | exact absurd (c_2.symm.trans c_11) (by decide) | exact absurd (c_2.symm.trans c_15) (by decide) | exact absurd (c_2.symm.trans c_16) (by decide) | exact absurd (c_3.symm.trans c_11) (by decide) | exact absurd (c_3.symm.trans c_15) (by decide) | exact absurd (c_3.symm.trans c_16) (by decide) | exact absurd (c_11.symm.trans c_15) (by decide) | exact absurd (c_11.symm.trans c_16) (by decide) | exact absurd (c_15.symm.trans c_16) (by decide)) dX4_goesOn_118 hlocks
            · refine lv_iconst (v := bm_b true) hx hb dX4_goesOn_113 (by decide) ?_
              refine lv_goto (tgt := 118) hx hb dX4_goesOn_114 (by decide) ?_
              exact bm_zretR (v := true) hx hb hr (by first | (simp [q_goes, c_1, c_2, c_3, c_11, c_15, c_16]; done) | exact absurd (c_1.symm.trans c_2) (by decide) | exact absurd (c_1.symm.trans c_3) (by decide) | exact absurd (c_1.symm.trans c_11) (by decide) | exact absurd (c_1.symm.trans c_15) (by decide) | exact absurd (c_1.symm.trans c_16) (by decide) | exact absurd (c_2.symm.trans c_3) (by decide) | exact absurd (c_2.symm.trans c_11) (by decide) | exact absurd (c_2.symm.trans c_15) (by decide) | exact absurd (c_2.symm.trans c_16) (by decide) | exact absurd (c_3.symm.trans c_11) (by decide) | exact absurd (c_3.symm.trans c_15) (by decide) | exact absurd (c_3.symm.trans c_16) (by decide) | exact absurd (c_11.symm.trans c_15) (by decide) | exact absurd (c_11.symm.trans c_16) (by decide) | exact absurd (c_15.symm.trans c_16) (by decide)) dX4_goesOn_118 hlocks
          · refine lv_lload hx hb dX4_goesOn_89 (lv_at hl 1 rfl) ?_
            refine lv_lload hx hb dX4_goesOn_91 (lv_at hl 0 rfl) ?_
            refine bm_lc_le (x := (p0.1 lo)) (y := (p0.1 hi)) (tgt := 101) hx hb dX4_goesOn_93 dX4_goesOn_94 (by decide) (fun c_17 => ?_) (fun c_17 => ?_)
            · refine lv_iconst (v := bm_b false) hx hb dX4_goesOn_101 (by decide) ?_
              refine lv_goto (tgt := 118) hx hb dX4_goesOn_102 (by decide) ?_
              exact bm_zretR (v := false) hx hb hr (by first | (simp [q_goes, c_1, c_2, c_3, c_11, c_15, c_17]; done) | exact absurd (c_1.symm.trans c_2) (by decide) | exact absurd (c_1.symm.trans c_3) (by decide) | exact absurd (c_1.symm.trans c_11) (by decide) | exact absurd (c_1.symm.trans c_15) (by decide) | exact absurd (c_1.symm.trans c_17) (by decide) | exact absurd (c_2.symm.trans c_3) (by decide) | exact absurd (c_2.symm.trans c_11) (by decide) | exact absurd (c_2.symm.trans c_15) (by decide) | exact absurd (c_2.symm.trans c_17) (by decide) | exact absurd (c_3.symm.trans c_11) (by decide) | exact absurd (c_3.symm.trans c_15) (by decide) | exact absurd (c_3.symm.trans c_17) (by decide) | exact absurd (c_11.symm.trans c_15) (by decide) | exact absurd (c_11.symm.trans c_17) (by decide) | exact absurd (c_15.symm.trans c_17) (by decide)) dX4_goesOn_118 hlocks
            · refine lv_iconst (v := bm_b true) hx hb dX4_goesOn_97 (by decide) ?_
              refine lv_goto (tgt := 118) hx hb dX4_goesOn_98 (by decide) ?_
              exact bm_zretR (v := true) hx hb hr (by first | (simp [q_goes, c_1, c_2, c_3, c_11, c_15, c_17]; done) | exact absurd (c_1.symm.trans c_2) (by decide) | exact absurd (c_1.symm.trans c_3) (by decide) | exact absurd (c_1.symm.trans c_11) (by decide) | exact absurd (c_1.symm.trans c_15) (by decide) | exact absurd (c_1.symm.trans c_17) (by decide) | exact absurd (c_2.symm.trans c_3) (by decide) | exact absurd (c_2.symm.trans c_11) (by decide) | exact absurd (c_2.symm.trans c_15) (by decide) | exact absurd (c_2.symm.trans c_17) (by decide) | exact absurd (c_3.symm.trans c_11) (by decide) | exact absurd (c_3.symm.trans c_15) (by decide) | exact absurd (c_3.symm.trans c_17) (by decide) | exact absurd (c_11.symm.trans c_15) (by decide) | exact absurd (c_11.symm.trans c_17) (by decide) | exact absurd (c_15.symm.trans c_17) (by decide)) dX4_goesOn_118 hlocks
    · refine lv_iconst (v := bm_b true) hx hb dX4_goesOn_26 (by decide) ?_
      exact bm_zretR (v := true) hx hb hr (by first | (simp [q_goes, c_1, c_2]; done) | exact absurd (c_1.symm.trans c_2) (by decide)) dX4_goesOn_27 hlocks
  · refine lv_iconst (v := bm_b false) hx hb dX4_goesOn_12 (by decide) ?_
    exact bm_zretR (v := false) hx hb hr (by first | (simp [q_goes, c_1]; done)) dX4_goesOn_13 hlocks
