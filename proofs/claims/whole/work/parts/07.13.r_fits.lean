set_option maxHeartbeats 4000000 in
set_option maxRecDepth 100000 in
theorem r_fits {l : Launch} {D : va_G} {ad : Nat → Nat} {cJ cI cZ : ClassId} {bm : gBM} {pa : gPA} {p0 p1 p2 : gPL} {li : gLI} {wi : gWI} {j t : Nat} (h1 : j < 40) (h2 : t < 2 ^ 31) {x y : Int64} : bm_Rd l yX4_fitsBoard wsX4_fitsBoard ({ frames := 0, cells := 0, slots := 0, locals := 0 }) D vwCl [(cJ, .long), (cI, .int), (cZ, .boolean)] (Wd ad cJ cI cZ bm pa p0 p1 p2 li wi) [.ref (ad 0), .int (nI j), .long x, .long y, .int (nI t)] (.int (bm_b (q_fits bm pa j x y t))) := by
  refine Met.ofW (cc := cX4_fitsBoard) (maxL := 12) (ret := (some .boolean)) (by decide) rfl ?_
  intro p e s m args below meth c s₁ B hml hv
  obtain ⟨ha, hP, hK⟩ := hv
  have hx := B.exec
  have hb := B.bytes
  have hr := B.returns
  have hts := atoms_spec (ws := wsX4_fitsBoard) B.pre
  have hown : s.vm.findClass RX4 = some m.cls := findClass_of_methodNamed B.named
  have hlocks := B.notSynchronized
  have hl := lv_entry ([.ref (ad 0), .int (nI j), .long x, .long y, .int (nI t)]) (n := 12) (Nat.le_of_ble_eq_true rfl)
  refine W.eq (g2 := entryFrame m ([.ref (ad 0), .int (nI j), .long x, .long y, .int (nI t)] : List Value).toArray 12) (by rw [ha]) ?_
  rw [lg_entry_eq]
  generalize (lg_sl ([.ref (ad 0), .int (nI j), .long x, .long y, .int (nI t)]) ++ List.replicate (12 - (lg_sl ([.ref (ad 0), .int (nI j), .long x, .long y, .int (nI t)])).length) Slot.unset).toArray = ls at hl ⊢
  have hl : lv_has ls 12 [(0, .ref (ad 0)), (1, .int (nI j)), (2, .long x), (4, .long y), (6, .int (nI t))] := hl
  refine lv_iload hx hb dX4_fitsBoard_0 (lv_at hl 4 rfl) ?_
  refine lv_iconst (v := nI 2) hx hb dX4_fitsBoard_2 (by decide) ?_
  refine bm_nrem hx hb (by omega) (by decide) (by decide) dX4_fitsBoard_3 ?_
  refine bm_nz_ne (x := (t % 2)) (tgt := 11) hx hb (by omega) dX4_fitsBoard_4 (by decide) (fun c_1 => ?_) (fun c_1 => ?_)
  · refine lv_iconst (v := bm_b false) hx hb dX4_fitsBoard_11 (by decide) ?_
    refine lv_istore (lv' := [(7, .int (bm_b false)), (0, .ref (ad 0)), (1, .int (nI j)), (2, .long x), (4, .long y), (6, .int (nI t))]) hx hb dX4_fitsBoard_12 hl (by decide) rfl (fun ls hl => ?_)
    refine lv_iload hx hb dX4_fitsBoard_14 (lv_at hl 0 rfl) ?_
    refine bm_zb_eq (x := false) (tgt := 31) hx hb dX4_fitsBoard_16 (by decide) (fun c_2 => ?_) (fun c_2 => ?_)
    · refine lv_aload_n hx hb dX4_fitsBoard_31 rfl (lv_at hl 1 rfl) ?_
      refine va_get (D := D) (ci := 4) (v := .ref (ad 1)) (C := RX4) (T := TX4) (N := 10) hx hb hts (inT inX4) hown hK hP 0 rfl rfl 2 (by decide) (hts (.fieldLink RX4 12 "BoardMoves" "parts" "LBoardMoves$Parts;") (by decide +kernel)) (fun _ h9 => h9) rfl dX4_fitsBoard_32 ?_
      refine va_get (D := D) (ci := 1) (v := .ref (ad 3)) (C := RX1) (T := TX1) (N := 7) hx hb hts (inT inX1) hown hK hP 1 rfl rfl 1 (by decide) (hts (.fieldLink RX4 151 "BoardMoves$Parts" "h" "[J") (by decide +kernel)) (fun _ h9 => h9) rfl dX4_fitsBoard_35 ?_
      refine lv_iload_n hx hb dX4_fitsBoard_38 rfl (lv_at hl 2 rfl) ?_
      refine bm_lald (f := pa.2.1) hx hb hK hP 3 0 rfl rfl (j := j) (by omega) (by decide) dX4_fitsBoard_39 ?_
      refine lv_lstore (lv' := [(8, .long (pa.2.1 j)), (7, .int (bm_b false)), (0, .ref (ad 0)), (1, .int (nI j)), (2, .long x), (4, .long y), (6, .int (nI t))]) hx hb dX4_fitsBoard_40 hl (by decide) rfl (fun ls hl => ?_)
      refine lv_iload hx hb dX4_fitsBoard_42 (lv_at hl 1 rfl) ?_
      refine bm_zb_eq (x := false) (tgt := 59) hx hb dX4_fitsBoard_44 (by decide) (fun c_3 => ?_) (fun c_3 => ?_)
      · refine lv_aload_n hx hb dX4_fitsBoard_59 rfl (lv_at hl 2 rfl) ?_
        refine va_get (D := D) (ci := 4) (v := .ref (ad 1)) (C := RX4) (T := TX4) (N := 10) hx hb hts (inT inX4) hown hK hP 0 rfl rfl 2 (by decide) (hts (.fieldLink RX4 12 "BoardMoves" "parts" "LBoardMoves$Parts;") (by decide +kernel)) (fun _ h9 => h9) rfl dX4_fitsBoard_60 ?_
        refine va_get (D := D) (ci := 1) (v := .ref (ad 2)) (C := RX1) (T := TX1) (N := 7) hx hb hts (inT inX1) hown hK hP 1 rfl rfl 0 (by decide) (hts (.fieldLink RX4 148 "BoardMoves$Parts" "w" "[J") (by decide +kernel)) (fun _ h9 => h9) rfl dX4_fitsBoard_63 ?_
        refine lv_iload_n hx hb dX4_fitsBoard_66 rfl (lv_at hl 3 rfl) ?_
        refine bm_lald (f := pa.1) hx hb hK hP 2 0 rfl rfl (j := j) (by omega) (by decide) dX4_fitsBoard_67 ?_
        refine lv_lstore (lv' := [(10, .long (pa.1 j)), (8, .long (pa.2.1 j)), (7, .int (bm_b false)), (0, .ref (ad 0)), (1, .int (nI j)), (2, .long x), (4, .long y), (6, .int (nI t))]) hx hb dX4_fitsBoard_68 hl (by decide) rfl (fun ls hl => ?_)
        refine lv_lload_n hx hb dX4_fitsBoard_70 rfl (lv_at hl 5 rfl) ?_
        refine lv_lconst (v := 0) hx hb dX4_fitsBoard_71 (by decide) ?_
        refine bm_lc_lt (x := x) (y := 0) (tgt := 112) hx hb dX4_fitsBoard_72 dX4_fitsBoard_73 (by decide) (fun c_4 => ?_) (fun c_4 => ?_)
        · refine lv_iconst (v := bm_b false) hx hb dX4_fitsBoard_112 (by decide) ?_
          exact bm_zretR (v := false) hx hb hr (by simp [q_fits, c_1, c_4]) dX4_fitsBoard_113 hlocks
        · refine lv_lload_n hx hb dX4_fitsBoard_76 rfl (lv_at hl 5 rfl) ?_
          refine lv_aload_n hx hb dX4_fitsBoard_77 rfl (lv_at hl 3 rfl) ?_
          refine va_get (D := D) (ci := 4) (v := .long bm.1) (C := RX4) (T := TX4) (N := 10) hx hb hts (inT inX4) hown hK hP 0 rfl rfl 0 (by decide) (hts (.fieldLink RX4 62 "BoardMoves" "boardWide" "J") (by decide +kernel)) (fun _ h9 => h9) rfl dX4_fitsBoard_78 ?_
          refine lv_lload hx hb dX4_fitsBoard_81 (lv_at hl 1 rfl) ?_
          refine lv_lsub hx hb dX4_fitsBoard_83 ?_
          refine bm_lc_gt (x := x) (y := (bm.1 - (pa.2.1 j))) (tgt := 112) hx hb dX4_fitsBoard_84 dX4_fitsBoard_85 (by decide) (fun c_5 => ?_) (fun c_5 => ?_)
          · refine lv_iconst (v := bm_b false) hx hb dX4_fitsBoard_112 (by decide) ?_
            exact bm_zretR (v := false) hx hb hr (by simp [q_fits, c_1, c_4, c_5]) dX4_fitsBoard_113 hlocks
          · refine lv_lload hx hb dX4_fitsBoard_88 (lv_at hl 6 rfl) ?_
            refine lv_lconst (v := 0) hx hb dX4_fitsBoard_90 (by decide) ?_
            refine bm_lc_lt (x := y) (y := 0) (tgt := 112) hx hb dX4_fitsBoard_91 dX4_fitsBoard_92 (by decide) (fun c_6 => ?_) (fun c_6 => ?_)
            · refine lv_iconst (v := bm_b false) hx hb dX4_fitsBoard_112 (by decide) ?_
              exact bm_zretR (v := false) hx hb hr (by simp [q_fits, c_1, c_4, c_5, c_6]) dX4_fitsBoard_113 hlocks
            · refine lv_lload hx hb dX4_fitsBoard_95 (lv_at hl 6 rfl) ?_
              refine lv_aload_n hx hb dX4_fitsBoard_97 rfl (lv_at hl 3 rfl) ?_
              refine va_get (D := D) (ci := 4) (v := .long bm.2.1) (C := RX4) (T := TX4) (N := 10) hx hb hts (inT inX4) hown hK hP 0 rfl rfl 1 (by decide) (hts (.fieldLink RX4 65 "BoardMoves" "boardHigh" "J") (by decide +kernel)) (fun _ h9 => h9) rfl dX4_fitsBoard_98 ?_
              refine lv_lload hx hb dX4_fitsBoard_101 (lv_at hl 0 rfl) ?_
              refine lv_lsub hx hb dX4_fitsBoard_103 ?_
              refine bm_lc_gt (x := y) (y := (bm.2.1 - (pa.1 j))) (tgt := 112) hx hb dX4_fitsBoard_104 dX4_fitsBoard_105 (by decide) (fun c_7 => ?_) (fun c_7 => ?_)
              · refine lv_iconst (v := bm_b false) hx hb dX4_fitsBoard_112 (by decide) ?_
                exact bm_zretR (v := false) hx hb hr (by simp [q_fits, c_1, c_4, c_5, c_6, c_7]) dX4_fitsBoard_113 hlocks
              · refine lv_iconst (v := bm_b true) hx hb dX4_fitsBoard_108 (by decide) ?_
                refine lv_goto (tgt := 113) hx hb dX4_fitsBoard_109 (by decide) ?_
                exact bm_zretR (v := true) hx hb hr (by simp [q_fits, c_1, c_4, c_5, c_6, c_7]) dX4_fitsBoard_113 hlocks
      · exact absurd c_3 (by decide)
    · exact absurd c_2 (by decide)
  · refine lv_iconst (v := bm_b true) hx hb dX4_fitsBoard_7 (by decide) ?_
    refine lv_goto (tgt := 12) hx hb dX4_fitsBoard_8 (by decide) ?_
    refine lv_istore (lv' := [(7, .int (bm_b true)), (0, .ref (ad 0)), (1, .int (nI j)), (2, .long x), (4, .long y), (6, .int (nI t))]) hx hb dX4_fitsBoard_12 hl (by decide) rfl (fun ls hl => ?_)
    refine lv_iload hx hb dX4_fitsBoard_14 (lv_at hl 0 rfl) ?_
    refine bm_zb_eq (x := true) (tgt := 31) hx hb dX4_fitsBoard_16 (by decide) (fun c_8 => ?_) (fun c_8 => ?_)
    · exact absurd c_8 (by decide)
    · refine lv_aload_n hx hb dX4_fitsBoard_19 rfl (lv_at hl 1 rfl) ?_
      refine va_get (D := D) (ci := 4) (v := .ref (ad 1)) (C := RX4) (T := TX4) (N := 10) hx hb hts (inT inX4) hown hK hP 0 rfl rfl 2 (by decide) (hts (.fieldLink RX4 12 "BoardMoves" "parts" "LBoardMoves$Parts;") (by decide +kernel)) (fun _ h9 => h9) rfl dX4_fitsBoard_20 ?_
      refine va_get (D := D) (ci := 1) (v := .ref (ad 2)) (C := RX1) (T := TX1) (N := 7) hx hb hts (inT inX1) hown hK hP 1 rfl rfl 0 (by decide) (hts (.fieldLink RX4 148 "BoardMoves$Parts" "w" "[J") (by decide +kernel)) (fun _ h9 => h9) rfl dX4_fitsBoard_23 ?_
      refine lv_iload_n hx hb dX4_fitsBoard_26 rfl (lv_at hl 2 rfl) ?_
      refine bm_lald (f := pa.1) hx hb hK hP 2 0 rfl rfl (j := j) (by omega) (by decide) dX4_fitsBoard_27 ?_
      refine lv_goto (tgt := 40) hx hb dX4_fitsBoard_28 (by decide) ?_
      refine lv_lstore (lv' := [(8, .long (pa.1 j)), (7, .int (bm_b true)), (0, .ref (ad 0)), (1, .int (nI j)), (2, .long x), (4, .long y), (6, .int (nI t))]) hx hb dX4_fitsBoard_40 hl (by decide) rfl (fun ls hl => ?_)
      refine lv_iload hx hb dX4_fitsBoard_42 (lv_at hl 1 rfl) ?_
      refine bm_zb_eq (x := true) (tgt := 59) hx hb dX4_fitsBoard_44 (by decide) (fun c_9 => ?_) (fun c_9 => ?_)
      · exact absurd c_9 (by decide)
      · refine lv_aload_n hx hb dX4_fitsBoard_47 rfl (lv_at hl 2 rfl) ?_
        refine va_get (D := D) (ci := 4) (v := .ref (ad 1)) (C := RX4) (T := TX4) (N := 10) hx hb hts (inT inX4) hown hK hP 0 rfl rfl 2 (by decide) (hts (.fieldLink RX4 12 "BoardMoves" "parts" "LBoardMoves$Parts;") (by decide +kernel)) (fun _ h9 => h9) rfl dX4_fitsBoard_48 ?_
        refine va_get (D := D) (ci := 1) (v := .ref (ad 3)) (C := RX1) (T := TX1) (N := 7) hx hb hts (inT inX1) hown hK hP 1 rfl rfl 1 (by decide) (hts (.fieldLink RX4 151 "BoardMoves$Parts" "h" "[J") (by decide +kernel)) (fun _ h9 => h9) rfl dX4_fitsBoard_51 ?_
        refine lv_iload_n hx hb dX4_fitsBoard_54 rfl (lv_at hl 3 rfl) ?_
        refine bm_lald (f := pa.2.1) hx hb hK hP 3 0 rfl rfl (j := j) (by omega) (by decide) dX4_fitsBoard_55 ?_
        refine lv_goto (tgt := 68) hx hb dX4_fitsBoard_56 (by decide) ?_
        refine lv_lstore (lv' := [(10, .long (pa.2.1 j)), (8, .long (pa.1 j)), (7, .int (bm_b true)), (0, .ref (ad 0)), (1, .int (nI j)), (2, .long x), (4, .long y), (6, .int (nI t))]) hx hb dX4_fitsBoard_68 hl (by decide) rfl (fun ls hl => ?_)
        refine lv_lload_n hx hb dX4_fitsBoard_70 rfl (lv_at hl 5 rfl) ?_
        refine lv_lconst (v := 0) hx hb dX4_fitsBoard_71 (by decide) ?_
        refine bm_lc_lt (x := x) (y := 0) (tgt := 112) hx hb dX4_fitsBoard_72 dX4_fitsBoard_73 (by decide) (fun c_10 => ?_) (fun c_10 => ?_)
        · refine lv_iconst (v := bm_b false) hx hb dX4_fitsBoard_112 (by decide) ?_
          exact bm_zretR (v := false) hx hb hr (by simp [q_fits, c_1, c_10]) dX4_fitsBoard_113 hlocks
        · refine lv_lload_n hx hb dX4_fitsBoard_76 rfl (lv_at hl 5 rfl) ?_
          refine lv_aload_n hx hb dX4_fitsBoard_77 rfl (lv_at hl 3 rfl) ?_
          refine va_get (D := D) (ci := 4) (v := .long bm.1) (C := RX4) (T := TX4) (N := 10) hx hb hts (inT inX4) hown hK hP 0 rfl rfl 0 (by decide) (hts (.fieldLink RX4 62 "BoardMoves" "boardWide" "J") (by decide +kernel)) (fun _ h9 => h9) rfl dX4_fitsBoard_78 ?_
          refine lv_lload hx hb dX4_fitsBoard_81 (lv_at hl 1 rfl) ?_
          refine lv_lsub hx hb dX4_fitsBoard_83 ?_
          refine bm_lc_gt (x := x) (y := (bm.1 - (pa.1 j))) (tgt := 112) hx hb dX4_fitsBoard_84 dX4_fitsBoard_85 (by decide) (fun c_11 => ?_) (fun c_11 => ?_)
          · refine lv_iconst (v := bm_b false) hx hb dX4_fitsBoard_112 (by decide) ?_
            exact bm_zretR (v := false) hx hb hr (by simp [q_fits, c_1, c_10, c_11]) dX4_fitsBoard_113 hlocks
          · refine lv_lload hx hb dX4_fitsBoard_88 (lv_at hl 6 rfl) ?_
            refine lv_lconst (v := 0) hx hb dX4_fitsBoard_90 (by decide) ?_
            refine bm_lc_lt (x := y) (y := 0) (tgt := 112) hx hb dX4_fitsBoard_91 dX4_fitsBoard_92 (by decide) (fun c_12 => ?_) (fun c_12 => ?_)
            · refine lv_iconst (v := bm_b false) hx hb dX4_fitsBoard_112 (by decide) ?_
              exact bm_zretR (v := false) hx hb hr (by simp [q_fits, c_1, c_10, c_11, c_12]) dX4_fitsBoard_113 hlocks
            · refine lv_lload hx hb dX4_fitsBoard_95 (lv_at hl 6 rfl) ?_
              refine lv_aload_n hx hb dX4_fitsBoard_97 rfl (lv_at hl 3 rfl) ?_
              refine va_get (D := D) (ci := 4) (v := .long bm.2.1) (C := RX4) (T := TX4) (N := 10) hx hb hts (inT inX4) hown hK hP 0 rfl rfl 1 (by decide) (hts (.fieldLink RX4 65 "BoardMoves" "boardHigh" "J") (by decide +kernel)) (fun _ h9 => h9) rfl dX4_fitsBoard_98 ?_
              refine lv_lload hx hb dX4_fitsBoard_101 (lv_at hl 0 rfl) ?_
              refine lv_lsub hx hb dX4_fitsBoard_103 ?_
              refine bm_lc_gt (x := y) (y := (bm.2.1 - (pa.2.1 j))) (tgt := 112) hx hb dX4_fitsBoard_104 dX4_fitsBoard_105 (by decide) (fun c_13 => ?_) (fun c_13 => ?_)
              · refine lv_iconst (v := bm_b false) hx hb dX4_fitsBoard_112 (by decide) ?_
                exact bm_zretR (v := false) hx hb hr (by simp [q_fits, c_1, c_10, c_11, c_12, c_13]) dX4_fitsBoard_113 hlocks
              · refine lv_iconst (v := bm_b true) hx hb dX4_fitsBoard_108 (by decide) ?_
                refine lv_goto (tgt := 113) hx hb dX4_fitsBoard_109 (by decide) ?_
                exact bm_zretR (v := true) hx hb hr (by simp [q_fits, c_1, c_10, c_11, c_12, c_13]) dX4_fitsBoard_113 hlocks
