set_option maxHeartbeats 8000000 in
set_option maxRecDepth 100000 in
theorem x_goes {l : Launch} {D : va_G} {ad : Nat → Nat} {cJ cI cZ : ClassId} {bm : gBM} {pa : gPA} {p0 p1 p2 : gPL} {li : gLI} {wi : gWI} {mt : Nat} {ms : gMS} {ma : gMA} {mp : gMP} {mk : gMK} {mn : gMN} {ou : Nat → Int64} {za : Nat} {zb : Nat} {zc : Nat} {zx : Bool} {zu : Bool} (ok_pa_lowest : ∀ i, pa.2.2.2.2.2.1 i < 40) (hp0 : za < 40) (hp1 : zb < 40) (hp2 : zc < 40)  : bm_Wx l yX4_goesOn wsX4_goesOn ({ frames := 1, cells := 0, slots := 0, locals := 22 }) D vwCl [(cJ, .long), (cI, .int), (cZ, .boolean)] (WW ad cJ cI cZ bm pa p0 p1 p2 li wi mt ms ma mp mk mn ou) [.ref (ad 0), .int (nI za), .int (nI zb), .int (nI zc), .int (bm_b zx), .int (bm_b zu)] (fun ws9 r9 => ws9 = (WW ad cJ cI cZ bm pa p0 p1 p2 li wi mt ms ma mp mk mn ou) ∧ ∃ b9 : Bool, r9 = some (.int (bm_b b9))) := by
  intro sz
  refine Met.ofW (cc := cX4_goesOn) (maxL := 10) (ret := (some .boolean)) (by decide) rfl ?_
  intro p e s m args below meth c s₁ B hml hv
  obtain ⟨ha, hsz, hP, hK, hD0⟩ := hv
  have hx := B.exec
  have hb := B.bytes
  have hr := B.returns
  have hts := atoms_spec (ws := wsX4_goesOn) B.pre
  have hown : s.vm.findClass RX4 = some m.cls := findClass_of_methodNamed B.named
  have hlocks := B.notSynchronized
  subst hsz
  have hD := hD0.self (sz := s.heap.size)
  generalize hAe : va_A (WW ad cJ cI cZ bm pa p0 p1 p2 li wi mt ms ma mp mk mn ou) s.heap.size = A at hD ⊢
  have hA : ∀ q : Nat, s.heap.size ≤ q → A q := fun q h => by rw [← hAe]; exact Or.inr h
  have hS : va_S A s.heap s.heap [] := va_S.rf
  have hl := lv_entry ([.ref (ad 0), .int (nI za), .int (nI zb), .int (nI zc), .int (bm_b zx), .int (bm_b zu)]) (n := 10) (Nat.le_of_ble_eq_true rfl)
  refine W.eq (g2 := entryFrame m ([.ref (ad 0), .int (nI za), .int (nI zb), .int (nI zc), .int (bm_b zx), .int (bm_b zu)] : List Value).toArray 10) (by rw [ha]) ?_
  rw [lg_entry_eq]
  generalize (lg_sl ([.ref (ad 0), .int (nI za), .int (nI zb), .int (nI zc), .int (bm_b zx), .int (bm_b zu)]) ++ List.replicate (10 - (lg_sl ([.ref (ad 0), .int (nI za), .int (nI zb), .int (nI zc), .int (bm_b zx), .int (bm_b zu)])).length) Slot.unset).toArray = ls at hl ⊢
  have hl : lv_has ls 10 [(0, .ref (ad 0)), (1, .int (nI za)), (2, .int (nI zb)), (3, .int (nI zc)), (4, .int (bm_b zx)), (5, .int (bm_b zu))] := hl
  refine lv_aload_n hx hb dX4_goesOn_0 rfl (lv_at hl 0 rfl) ?_
  refine va_get (D := D) (ci := 4) (v := .ref (ad 1)) (C := RX4) (T := TX4) (N := 10) hx hb hts (inT inX4) hown hK hP 0 ww_0 rfl 2 (by decide) (hts (.fieldLink RX4 12 "BoardMoves" "parts" "LBoardMoves$Parts;") (List.mem_cons_of_mem _ flX4_12)) (fun _ h9 => h9) rfl dX4_goesOn_1 ?_
  refine lv_iload_n hx hb dX4_goesOn_4 rfl (lv_at hl 1 rfl) ?_
  refine lv_iload_n hx hb dX4_goesOn_5 rfl (lv_at hl 3 rfl) ?_
  refine bm_xcallV (As := [.int (nI za), .int (nI zc)]) (rest := []) ⟨hx, hb, hml, hown, hts⟩ (x_mates  (za := za) (zb := zc) ok_pa_lowest (by omega) (by omega)) (cwV 2 hts gvX4_256 rfl rfl rfl hvX1_areMates ⟨Nat.le_of_ble_eq_true rfl, Nat.le_of_ble_eq_true rfl⟩) hK hP hD hS hA 1 1 rfl ww_1 rfl hl.1 rfl (Nat.le_of_ble_eq_true rfl) dX4_goesOn_6 ⟨Nat.le_of_ble_eq_true rfl, Nat.le_of_ble_eq_true rfl⟩ (fun ws_1 r_2 h_3 H locs hP hD hS => ?_)
  obtain ⟨rfl, v_4, rfl⟩ := h_3
  have hP : va_P D vwCl (WW ad cJ cI cZ bm pa p0 p1 p2 li wi mt ms ma mp mk mn ou) H := hP
  have hD : va_D A (WW ad cJ cI cZ bm pa p0 p1 p2 li wi mt ms ma mp mk mn ou) := hD
  refine bm_zb_eq (x := v_4) (tgt := 14) hx hb dX4_goesOn_9 (by decide) (fun c_5 => ?_) (fun c_5 => ?_)
  · refine lv_aload_n hx hb dX4_goesOn_14 rfl (lv_at hl 0 rfl) ?_
    refine va_get (D := D) (ci := 4) (v := .ref (ad 1)) (C := RX4) (T := TX4) (N := 10) hx hb hts (inT inX4) hown hK hP 0 ww_0 rfl 2 (by decide) (hts (.fieldLink RX4 12 "BoardMoves" "parts" "LBoardMoves$Parts;") (List.mem_cons_of_mem _ flX4_12)) (fun _ h9 => h9) rfl dX4_goesOn_15 ?_
    refine lv_iload_n hx hb dX4_goesOn_18 rfl (lv_at hl 2 rfl) ?_
    refine lv_iload_n hx hb dX4_goesOn_19 rfl (lv_at hl 3 rfl) ?_
    refine bm_xcallV (As := [.int (nI zb), .int (nI zc)]) (rest := []) ⟨hx, hb, hml, hown, hts⟩ (x_mates  (za := zb) (zb := zc) ok_pa_lowest (by omega) (by omega)) (cwV 2 hts gvX4_256 rfl rfl rfl hvX1_areMates ⟨Nat.le_of_ble_eq_true rfl, Nat.le_of_ble_eq_true rfl⟩) hK hP hD hS hA 1 1 rfl ww_1 rfl hl.1 rfl (Nat.le_of_ble_eq_true rfl) dX4_goesOn_20 ⟨Nat.le_of_ble_eq_true rfl, Nat.le_of_ble_eq_true rfl⟩ (fun ws_6 r_7 h_8 H locs hP hD hS => ?_)
    obtain ⟨rfl, v_9, rfl⟩ := h_8
    have hP : va_P D vwCl (WW ad cJ cI cZ bm pa p0 p1 p2 li wi mt ms ma mp mk mn ou) H := hP
    have hD : va_D A (WW ad cJ cI cZ bm pa p0 p1 p2 li wi mt ms ma mp mk mn ou) := hD
    refine bm_zb_eq (x := v_9) (tgt := 28) hx hb dX4_goesOn_23 (by decide) (fun c_10 => ?_) (fun c_10 => ?_)
    · refine lv_iload hx hb dX4_goesOn_28 (lv_at hl 4 rfl) ?_
      refine bm_zb_eq (x := zx) (tgt := 45) hx hb dX4_goesOn_30 (by decide) (fun c_11 => ?_) (fun c_11 => ?_)
      · refine lv_aload_n hx hb dX4_goesOn_45 rfl (lv_at hl 0 rfl) ?_
        refine va_get (D := D) (ci := 4) (v := .ref (ad 8)) (C := RX4) (T := TX4) (N := 10) hx hb hts (inT inX4) hown hK hP 0 ww_0 rfl 5 (by decide) (hts (.fieldLink RX4 37 "BoardMoves" "now" "LBoardMoves$Placement;") (List.mem_cons_of_mem _ flX4_37)) (fun _ h9 => h9) rfl dX4_goesOn_46 ?_
        refine va_get (D := D) (ci := 2) (v := .ref (ad 10)) (C := RX2) (T := TX2) (N := 5) hx hb hts (inT inX2) hown hK hP 8 ww_8 rfl 2 (by decide) (hts (.fieldLink RX4 116 "BoardMoves$Placement" "y" "[J") (List.mem_cons_of_mem _ flX4_116)) (fun _ h9 => h9) rfl dX4_goesOn_49 ?_
        refine lv_iload_n hx hb dX4_goesOn_52 rfl (lv_at hl 1 rfl) ?_
        refine bm_lald (f := p0.2.1) hx hb hK hP 10 0 ww_10 rfl (j := za) (by omega) (by decide) dX4_goesOn_53 ?_
        refine lv_topl (fun t_12 _ => ?_)
        refine lv_lstore (lv' := [(6, .long t_12), (0, .ref (ad 0)), (1, .int (nI za)), (2, .int (nI zb)), (3, .int (nI zc)), (4, .int (bm_b zx)), (5, .int (bm_b zu))]) hx hb dX4_goesOn_54 hl (by decide) rfl (fun ls hl => ?_)
        refine lv_iload hx hb dX4_goesOn_56 (lv_at hl 5 rfl) ?_
        refine bm_zb_eq (x := zx) (tgt := 73) hx hb dX4_goesOn_58 (by decide) (fun c_13 => ?_) (fun c_13 => ?_)
        · refine lv_aload_n hx hb dX4_goesOn_73 rfl (lv_at hl 1 rfl) ?_
          refine va_get (D := D) (ci := 4) (v := .ref (ad 8)) (C := RX4) (T := TX4) (N := 10) hx hb hts (inT inX4) hown hK hP 0 ww_0 rfl 5 (by decide) (hts (.fieldLink RX4 37 "BoardMoves" "now" "LBoardMoves$Placement;") (List.mem_cons_of_mem _ flX4_37)) (fun _ h9 => h9) rfl dX4_goesOn_74 ?_
          refine va_get (D := D) (ci := 2) (v := .ref (ad 10)) (C := RX2) (T := TX2) (N := 5) hx hb hts (inT inX2) hown hK hP 8 ww_8 rfl 2 (by decide) (hts (.fieldLink RX4 116 "BoardMoves$Placement" "y" "[J") (List.mem_cons_of_mem _ flX4_116)) (fun _ h9 => h9) rfl dX4_goesOn_77 ?_
          refine lv_iload_n hx hb dX4_goesOn_80 rfl (lv_at hl 3 rfl) ?_
          refine bm_lald (f := p0.2.1) hx hb hK hP 10 0 ww_10 rfl (j := zb) (by omega) (by decide) dX4_goesOn_81 ?_
          refine lv_topl (fun t_14 _ => ?_)
          refine lv_lstore (lv' := [(8, .long t_14), (6, .long t_12), (0, .ref (ad 0)), (1, .int (nI za)), (2, .int (nI zb)), (3, .int (nI zc)), (4, .int (bm_b zx)), (5, .int (bm_b zu))]) hx hb dX4_goesOn_82 hl (by decide) rfl (fun ls hl => ?_)
          refine lv_iload hx hb dX4_goesOn_84 (lv_at hl 7 rfl) ?_
          refine bm_zb_eq (x := zu) (tgt := 105) hx hb dX4_goesOn_86 (by decide) (fun c_15 => ?_) (fun c_15 => ?_)
          · refine lv_lload hx hb dX4_goesOn_105 (lv_at hl 1 rfl) ?_
            refine lv_lload hx hb dX4_goesOn_107 (lv_at hl 0 rfl) ?_
            refine bm_lc_ge (x := t_12) (y := t_14) (tgt := 117) hx hb dX4_goesOn_109 dX4_goesOn_110 (by decide) (fun c_16 => ?_) (fun c_16 => ?_)
            · refine lv_iconst (v := bm_b false) hx hb dX4_goesOn_117 (by decide) ?_
              exact bm_zretX (v := false) hx hb hr hP hD hK hS ⟨rfl, false, rfl⟩ dX4_goesOn_118 hlocks
            · refine lv_iconst (v := bm_b true) hx hb dX4_goesOn_113 (by decide) ?_
              refine lv_goto (tgt := 118) hx hb dX4_goesOn_114 (by decide) ?_
              exact bm_zretX (v := true) hx hb hr hP hD hK hS ⟨rfl, true, rfl⟩ dX4_goesOn_118 hlocks
          · refine lv_lload hx hb dX4_goesOn_89 (lv_at hl 1 rfl) ?_
            refine lv_lload hx hb dX4_goesOn_91 (lv_at hl 0 rfl) ?_
            refine bm_lc_le (x := t_12) (y := t_14) (tgt := 101) hx hb dX4_goesOn_93 dX4_goesOn_94 (by decide) (fun c_17 => ?_) (fun c_17 => ?_)
            · refine lv_iconst (v := bm_b false) hx hb dX4_goesOn_101 (by decide) ?_
              refine lv_goto (tgt := 118) hx hb dX4_goesOn_102 (by decide) ?_
              exact bm_zretX (v := false) hx hb hr hP hD hK hS ⟨rfl, false, rfl⟩ dX4_goesOn_118 hlocks
            · refine lv_iconst (v := bm_b true) hx hb dX4_goesOn_97 (by decide) ?_
              refine lv_goto (tgt := 118) hx hb dX4_goesOn_98 (by decide) ?_
              exact bm_zretX (v := true) hx hb hr hP hD hK hS ⟨rfl, true, rfl⟩ dX4_goesOn_118 hlocks
        · refine lv_aload_n hx hb dX4_goesOn_61 rfl (lv_at hl 1 rfl) ?_
          refine va_get (D := D) (ci := 4) (v := .ref (ad 8)) (C := RX4) (T := TX4) (N := 10) hx hb hts (inT inX4) hown hK hP 0 ww_0 rfl 5 (by decide) (hts (.fieldLink RX4 37 "BoardMoves" "now" "LBoardMoves$Placement;") (List.mem_cons_of_mem _ flX4_37)) (fun _ h9 => h9) rfl dX4_goesOn_62 ?_
          refine va_get (D := D) (ci := 2) (v := .ref (ad 9)) (C := RX2) (T := TX2) (N := 5) hx hb hts (inT inX2) hown hK hP 8 ww_8 rfl 1 (by decide) (hts (.fieldLink RX4 112 "BoardMoves$Placement" "x" "[J") (List.mem_cons_of_mem _ flX4_112)) (fun _ h9 => h9) rfl dX4_goesOn_65 ?_
          refine lv_iload_n hx hb dX4_goesOn_68 rfl (lv_at hl 3 rfl) ?_
          refine bm_lald (f := p0.1) hx hb hK hP 9 0 ww_9 rfl (j := zb) (by omega) (by decide) dX4_goesOn_69 ?_
          refine lv_topl (fun t_18 _ => ?_)
          refine lv_goto (tgt := 82) hx hb dX4_goesOn_70 (by decide) ?_
          refine lv_lstore (lv' := [(8, .long t_18), (6, .long t_12), (0, .ref (ad 0)), (1, .int (nI za)), (2, .int (nI zb)), (3, .int (nI zc)), (4, .int (bm_b zx)), (5, .int (bm_b zu))]) hx hb dX4_goesOn_82 hl (by decide) rfl (fun ls hl => ?_)
          refine lv_iload hx hb dX4_goesOn_84 (lv_at hl 7 rfl) ?_
          refine bm_zb_eq (x := zu) (tgt := 105) hx hb dX4_goesOn_86 (by decide) (fun c_19 => ?_) (fun c_19 => ?_)
          · refine lv_lload hx hb dX4_goesOn_105 (lv_at hl 1 rfl) ?_
            refine lv_lload hx hb dX4_goesOn_107 (lv_at hl 0 rfl) ?_
            refine bm_lc_ge (x := t_12) (y := t_18) (tgt := 117) hx hb dX4_goesOn_109 dX4_goesOn_110 (by decide) (fun c_20 => ?_) (fun c_20 => ?_)
            · refine lv_iconst (v := bm_b false) hx hb dX4_goesOn_117 (by decide) ?_
              exact bm_zretX (v := false) hx hb hr hP hD hK hS ⟨rfl, false, rfl⟩ dX4_goesOn_118 hlocks
            · refine lv_iconst (v := bm_b true) hx hb dX4_goesOn_113 (by decide) ?_
              refine lv_goto (tgt := 118) hx hb dX4_goesOn_114 (by decide) ?_
              exact bm_zretX (v := true) hx hb hr hP hD hK hS ⟨rfl, true, rfl⟩ dX4_goesOn_118 hlocks
          · refine lv_lload hx hb dX4_goesOn_89 (lv_at hl 1 rfl) ?_
            refine lv_lload hx hb dX4_goesOn_91 (lv_at hl 0 rfl) ?_
            refine bm_lc_le (x := t_12) (y := t_18) (tgt := 101) hx hb dX4_goesOn_93 dX4_goesOn_94 (by decide) (fun c_21 => ?_) (fun c_21 => ?_)
            · refine lv_iconst (v := bm_b false) hx hb dX4_goesOn_101 (by decide) ?_
              refine lv_goto (tgt := 118) hx hb dX4_goesOn_102 (by decide) ?_
              exact bm_zretX (v := false) hx hb hr hP hD hK hS ⟨rfl, false, rfl⟩ dX4_goesOn_118 hlocks
            · refine lv_iconst (v := bm_b true) hx hb dX4_goesOn_97 (by decide) ?_
              refine lv_goto (tgt := 118) hx hb dX4_goesOn_98 (by decide) ?_
              exact bm_zretX (v := true) hx hb hr hP hD hK hS ⟨rfl, true, rfl⟩ dX4_goesOn_118 hlocks
      · refine lv_aload_n hx hb dX4_goesOn_33 rfl (lv_at hl 0 rfl) ?_
        refine va_get (D := D) (ci := 4) (v := .ref (ad 8)) (C := RX4) (T := TX4) (N := 10) hx hb hts (inT inX4) hown hK hP 0 ww_0 rfl 5 (by decide) (hts (.fieldLink RX4 37 "BoardMoves" "now" "LBoardMoves$Placement;") (List.mem_cons_of_mem _ flX4_37)) (fun _ h9 => h9) rfl dX4_goesOn_34 ?_
        refine va_get (D := D) (ci := 2) (v := .ref (ad 9)) (C := RX2) (T := TX2) (N := 5) hx hb hts (inT inX2) hown hK hP 8 ww_8 rfl 1 (by decide) (hts (.fieldLink RX4 112 "BoardMoves$Placement" "x" "[J") (List.mem_cons_of_mem _ flX4_112)) (fun _ h9 => h9) rfl dX4_goesOn_37 ?_
        refine lv_iload_n hx hb dX4_goesOn_40 rfl (lv_at hl 1 rfl) ?_
        refine bm_lald (f := p0.1) hx hb hK hP 9 0 ww_9 rfl (j := za) (by omega) (by decide) dX4_goesOn_41 ?_
        refine lv_topl (fun t_22 _ => ?_)
        refine lv_goto (tgt := 54) hx hb dX4_goesOn_42 (by decide) ?_
        refine lv_lstore (lv' := [(6, .long t_22), (0, .ref (ad 0)), (1, .int (nI za)), (2, .int (nI zb)), (3, .int (nI zc)), (4, .int (bm_b zx)), (5, .int (bm_b zu))]) hx hb dX4_goesOn_54 hl (by decide) rfl (fun ls hl => ?_)
        refine lv_iload hx hb dX4_goesOn_56 (lv_at hl 5 rfl) ?_
        refine bm_zb_eq (x := zx) (tgt := 73) hx hb dX4_goesOn_58 (by decide) (fun c_23 => ?_) (fun c_23 => ?_)
        · refine lv_aload_n hx hb dX4_goesOn_73 rfl (lv_at hl 1 rfl) ?_
          refine va_get (D := D) (ci := 4) (v := .ref (ad 8)) (C := RX4) (T := TX4) (N := 10) hx hb hts (inT inX4) hown hK hP 0 ww_0 rfl 5 (by decide) (hts (.fieldLink RX4 37 "BoardMoves" "now" "LBoardMoves$Placement;") (List.mem_cons_of_mem _ flX4_37)) (fun _ h9 => h9) rfl dX4_goesOn_74 ?_
          refine va_get (D := D) (ci := 2) (v := .ref (ad 10)) (C := RX2) (T := TX2) (N := 5) hx hb hts (inT inX2) hown hK hP 8 ww_8 rfl 2 (by decide) (hts (.fieldLink RX4 116 "BoardMoves$Placement" "y" "[J") (List.mem_cons_of_mem _ flX4_116)) (fun _ h9 => h9) rfl dX4_goesOn_77 ?_
          refine lv_iload_n hx hb dX4_goesOn_80 rfl (lv_at hl 3 rfl) ?_
          refine bm_lald (f := p0.2.1) hx hb hK hP 10 0 ww_10 rfl (j := zb) (by omega) (by decide) dX4_goesOn_81 ?_
          refine lv_topl (fun t_24 _ => ?_)
          refine lv_lstore (lv' := [(8, .long t_24), (6, .long t_22), (0, .ref (ad 0)), (1, .int (nI za)), (2, .int (nI zb)), (3, .int (nI zc)), (4, .int (bm_b zx)), (5, .int (bm_b zu))]) hx hb dX4_goesOn_82 hl (by decide) rfl (fun ls hl => ?_)
          refine lv_iload hx hb dX4_goesOn_84 (lv_at hl 7 rfl) ?_
          refine bm_zb_eq (x := zu) (tgt := 105) hx hb dX4_goesOn_86 (by decide) (fun c_25 => ?_) (fun c_25 => ?_)
          · refine lv_lload hx hb dX4_goesOn_105 (lv_at hl 1 rfl) ?_
            refine lv_lload hx hb dX4_goesOn_107 (lv_at hl 0 rfl) ?_
            refine bm_lc_ge (x := t_22) (y := t_24) (tgt := 117) hx hb dX4_goesOn_109 dX4_goesOn_110 (by decide) (fun c_26 => ?_) (fun c_26 => ?_)
            · refine lv_iconst (v := bm_b false) hx hb dX4_goesOn_117 (by decide) ?_
              exact bm_zretX (v := false) hx hb hr hP hD hK hS ⟨rfl, false, rfl⟩ dX4_goesOn_118 hlocks
            · refine lv_iconst (v := bm_b true) hx hb dX4_goesOn_113 (by decide) ?_
              refine lv_goto (tgt := 118) hx hb dX4_goesOn_114 (by decide) ?_
              exact bm_zretX (v := true) hx hb hr hP hD hK hS ⟨rfl, true, rfl⟩ dX4_goesOn_118 hlocks
          · refine lv_lload hx hb dX4_goesOn_89 (lv_at hl 1 rfl) ?_
            refine lv_lload hx hb dX4_goesOn_91 (lv_at hl 0 rfl) ?_
            refine bm_lc_le (x := t_22) (y := t_24) (tgt := 101) hx hb dX4_goesOn_93 dX4_goesOn_94 (by decide) (fun c_27 => ?_) (fun c_27 => ?_)
            · refine lv_iconst (v := bm_b false) hx hb dX4_goesOn_101 (by decide) ?_
              refine lv_goto (tgt := 118) hx hb dX4_goesOn_102 (by decide) ?_
              exact bm_zretX (v := false) hx hb hr hP hD hK hS ⟨rfl, false, rfl⟩ dX4_goesOn_118 hlocks
            · refine lv_iconst (v := bm_b true) hx hb dX4_goesOn_97 (by decide) ?_
              refine lv_goto (tgt := 118) hx hb dX4_goesOn_98 (by decide) ?_
              exact bm_zretX (v := true) hx hb hr hP hD hK hS ⟨rfl, true, rfl⟩ dX4_goesOn_118 hlocks
        · refine lv_aload_n hx hb dX4_goesOn_61 rfl (lv_at hl 1 rfl) ?_
          refine va_get (D := D) (ci := 4) (v := .ref (ad 8)) (C := RX4) (T := TX4) (N := 10) hx hb hts (inT inX4) hown hK hP 0 ww_0 rfl 5 (by decide) (hts (.fieldLink RX4 37 "BoardMoves" "now" "LBoardMoves$Placement;") (List.mem_cons_of_mem _ flX4_37)) (fun _ h9 => h9) rfl dX4_goesOn_62 ?_
          refine va_get (D := D) (ci := 2) (v := .ref (ad 9)) (C := RX2) (T := TX2) (N := 5) hx hb hts (inT inX2) hown hK hP 8 ww_8 rfl 1 (by decide) (hts (.fieldLink RX4 112 "BoardMoves$Placement" "x" "[J") (List.mem_cons_of_mem _ flX4_112)) (fun _ h9 => h9) rfl dX4_goesOn_65 ?_
          refine lv_iload_n hx hb dX4_goesOn_68 rfl (lv_at hl 3 rfl) ?_
          refine bm_lald (f := p0.1) hx hb hK hP 9 0 ww_9 rfl (j := zb) (by omega) (by decide) dX4_goesOn_69 ?_
          refine lv_topl (fun t_28 _ => ?_)
          refine lv_goto (tgt := 82) hx hb dX4_goesOn_70 (by decide) ?_
          refine lv_lstore (lv' := [(8, .long t_28), (6, .long t_22), (0, .ref (ad 0)), (1, .int (nI za)), (2, .int (nI zb)), (3, .int (nI zc)), (4, .int (bm_b zx)), (5, .int (bm_b zu))]) hx hb dX4_goesOn_82 hl (by decide) rfl (fun ls hl => ?_)
          refine lv_iload hx hb dX4_goesOn_84 (lv_at hl 7 rfl) ?_
          refine bm_zb_eq (x := zu) (tgt := 105) hx hb dX4_goesOn_86 (by decide) (fun c_29 => ?_) (fun c_29 => ?_)
          · refine lv_lload hx hb dX4_goesOn_105 (lv_at hl 1 rfl) ?_
            refine lv_lload hx hb dX4_goesOn_107 (lv_at hl 0 rfl) ?_
            refine bm_lc_ge (x := t_22) (y := t_28) (tgt := 117) hx hb dX4_goesOn_109 dX4_goesOn_110 (by decide) (fun c_30 => ?_) (fun c_30 => ?_)
            · refine lv_iconst (v := bm_b false) hx hb dX4_goesOn_117 (by decide) ?_
              exact bm_zretX (v := false) hx hb hr hP hD hK hS ⟨rfl, false, rfl⟩ dX4_goesOn_118 hlocks
            · refine lv_iconst (v := bm_b true) hx hb dX4_goesOn_113 (by decide) ?_
              refine lv_goto (tgt := 118) hx hb dX4_goesOn_114 (by decide) ?_
              exact bm_zretX (v := true) hx hb hr hP hD hK hS ⟨rfl, true, rfl⟩ dX4_goesOn_118 hlocks
          · refine lv_lload hx hb dX4_goesOn_89 (lv_at hl 1 rfl) ?_
            refine lv_lload hx hb dX4_goesOn_91 (lv_at hl 0 rfl) ?_
            refine bm_lc_le (x := t_22) (y := t_28) (tgt := 101) hx hb dX4_goesOn_93 dX4_goesOn_94 (by decide) (fun c_31 => ?_) (fun c_31 => ?_)
            · refine lv_iconst (v := bm_b false) hx hb dX4_goesOn_101 (by decide) ?_
              refine lv_goto (tgt := 118) hx hb dX4_goesOn_102 (by decide) ?_
              exact bm_zretX (v := false) hx hb hr hP hD hK hS ⟨rfl, false, rfl⟩ dX4_goesOn_118 hlocks
            · refine lv_iconst (v := bm_b true) hx hb dX4_goesOn_97 (by decide) ?_
              refine lv_goto (tgt := 118) hx hb dX4_goesOn_98 (by decide) ?_
              exact bm_zretX (v := true) hx hb hr hP hD hK hS ⟨rfl, true, rfl⟩ dX4_goesOn_118 hlocks
    · refine lv_iconst (v := bm_b true) hx hb dX4_goesOn_26 (by decide) ?_
      exact bm_zretX (v := true) hx hb hr hP hD hK hS ⟨rfl, true, rfl⟩ dX4_goesOn_27 hlocks
  · refine lv_iconst (v := bm_b false) hx hb dX4_goesOn_12 (by decide) ?_
    exact bm_zretX (v := false) hx hb hr hP hD hK hS ⟨rfl, false, rfl⟩ dX4_goesOn_13 hlocks

set_option maxHeartbeats 8000000 in
set_option maxRecDepth 100000 in
theorem x_clear {l : Launch} {D : va_G} {ad : Nat → Nat} {cJ cI cZ : ClassId} {bm : gBM} {pa : gPA} {p0 p1 p2 : gPL} {li : gLI} {wi : gWI} {mt : Nat} {ms : gMS} {ma : gMA} {mp : gMP} {mk : gMK} {mn : gMN} {ou : Nat → Int64} {za : Nat} {zx : Bool} {zu : Bool} (ok_pa_n : pa.2.2.2.2.2.2 ≤ 40) (ok_pa_side : ∀ i, pa.2.2.1 i < 40) (ok_p0_turn : ∀ i, p0.2.2.1 i < 40) (ok_pa_lowest : ∀ i, pa.2.2.2.2.2.1 i < 40) (hp0 : za < 40)  : bm_Wx l yX4_clearTheWay wsX4_clearTheWay ({ frames := 4, cells := 0, slots := 0, locals := 98 }) D vwCl [(cJ, .long), (cI, .int), (cZ, .boolean)] (WW ad cJ cI cZ bm pa p0 p1 p2 li wi mt ms ma mp mk mn ou) [.ref (ad 0), .int (nI za), .int (bm_b zx), .int (bm_b zu)] (fun ws9 r9 => ∃ (e0 : Nat → Int64) (e1 : Nat → Int64) , ws9 = (WW ad cJ cI cZ bm pa (e0, e1, p0.2.2.1, p0.2.2.2) p1 p2 li wi mt ms ma mp mk mn ou) ∧ ∃ b9 : Bool, r9 = some (.int (bm_b b9))) := by
  intro sz
  refine Met.ofW (cc := cX4_clearTheWay) (maxL := 12) (ret := (some .boolean)) (by decide) rfl ?_
  intro p e s m args below meth c s₁ B hml hv
  obtain ⟨ha, hsz, hP, hK, hD0⟩ := hv
  have hx := B.exec
  have hb := B.bytes
  have hr := B.returns
  have hts := atoms_spec (ws := wsX4_clearTheWay) B.pre
  have hown : s.vm.findClass RX4 = some m.cls := findClass_of_methodNamed B.named
  have hlocks := B.notSynchronized
  subst hsz
  have hD := hD0.self (sz := s.heap.size)
  generalize hAe : va_A (WW ad cJ cI cZ bm pa p0 p1 p2 li wi mt ms ma mp mk mn ou) s.heap.size = A at hD ⊢
  have hA : ∀ q : Nat, s.heap.size ≤ q → A q := fun q h => by rw [← hAe]; exact Or.inr h
  have hS : va_S A s.heap s.heap [] := va_S.rf
  have hl := lv_entry ([.ref (ad 0), .int (nI za), .int (bm_b zx), .int (bm_b zu)]) (n := 12) (Nat.le_of_ble_eq_true rfl)
  refine W.eq (g2 := entryFrame m ([.ref (ad 0), .int (nI za), .int (bm_b zx), .int (bm_b zu)] : List Value).toArray 12) (by rw [ha]) ?_
  rw [lg_entry_eq]
  generalize (lg_sl ([.ref (ad 0), .int (nI za), .int (bm_b zx), .int (bm_b zu)]) ++ List.replicate (12 - (lg_sl ([.ref (ad 0), .int (nI za), .int (bm_b zx), .int (bm_b zu)])).length) Slot.unset).toArray = ls at hl ⊢
  have hl : lv_has ls 12 [(0, .ref (ad 0)), (1, .int (nI za)), (2, .int (bm_b zx)), (3, .int (bm_b zu))] := hl
  refine lv_iconst (v := nI 0) hx hb dX4_clearTheWay_0 (by decide) ?_
  refine lv_istore (lv' := [(4, .int (nI 0)), (0, .ref (ad 0)), (1, .int (nI za)), (2, .int (bm_b zx)), (3, .int (bm_b zu))]) hx hb dX4_clearTheWay_1 hl (by decide) rfl (fun ls hl => ?_)
  have lp_1 : ∀ (k_3 : Nat) (i_2 : Nat) (g_5 : Nat → Int64) (g_6 : Nat → Int64), i_2 ≤ 200 → 200 < i_2 + k_3 → ∀ (H : Heap) (locs : List Loc), va_P D vwCl (WW ad cJ cI cZ bm pa (g_5, g_6, p0.2.2.1, p0.2.2.2) p1 p2 li wi mt ms ma mp mk mn ou) H → va_D A (WW ad cJ cI cZ bm pa (g_5, g_6, p0.2.2.1, p0.2.2.2) p1 p2 li wi mt ms ma mp mk mn ou) → va_S A s.heap H locs → ∀ (ls : Array Slot), lv_has ls 12 [(4, .int (nI i_2)), (0, .ref (ad 0)), (1, .int (nI za)), (2, .int (bm_b zx)), (3, .int (bm_b zu))] → W p l e (headSpec wsX4_clearTheWay ({ frames := 4, cells := 0, slots := 0, locals := 98 })).room s m args below meth c H locs 0 0 (MQ below (bm_Wxq D vwCl [(cJ, .long), (cI, .int), (cZ, .boolean)] (fun ws9 r9 => ∃ (e0 : Nat → Int64) (e1 : Nat → Int64) , ws9 = (WW ad cJ cI cZ bm pa (e0, e1, p0.2.2.1, p0.2.2.2) p1 p2 li wi mt ms ma mp mk mn ou) ∧ ∃ b9 : Bool, r9 = some (.int (bm_b b9))) A) args s 0 0 A) (F0 m 3 ls []) := by
    intro k_3
    induction k_3 with
    | zero => intro i_2 g_5 g_6 hi_7 hk_8; exfalso; omega
    | succ k_3 ih_4 =>
      intro i_2 g_5 g_6 hi_7 hk_8  H locs hP hD hS ls hl
      refine lv_iload hx hb dX4_clearTheWay_3 (lv_at hl 0 rfl) ?_
      refine lv_sipush (v := nI 200) hx hb dX4_clearTheWay_5 (by decide) ?_
      refine bm_ni_ge (x := i_2) (y := 200) (tgt := 156) hx hb (by omega) (by omega) dX4_clearTheWay_8 (by decide) (fun c_9 => ?_) (fun c_9 => ?_)
      · refine lv_iconst (v := bm_b false) hx hb dX4_clearTheWay_156 (by decide) ?_
        exact bm_zretX (v := false) hx hb hr hP hD hK hS ⟨g_5, g_6, rfl, false, rfl⟩ dX4_clearTheWay_157 hlocks
      · refine lv_aload_n hx hb dX4_clearTheWay_11 rfl (lv_at hl 1 rfl) ?_
        refine va_get (D := D) (ci := 4) (v := .ref (ad 8)) (C := RX4) (T := TX4) (N := 10) hx hb hts (inT inX4) hown hK hP 0 ww_0 rfl 5 (by decide) (hts (.fieldLink RX4 37 "BoardMoves" "now" "LBoardMoves$Placement;") (List.mem_cons_of_mem _ flX4_37)) (fun _ h9 => h9) rfl dX4_clearTheWay_12 ?_
        refine bm_xcallV (As := []) (rest := []) ⟨hx, hb, hml, hown, hts⟩ (x_first (p0 := (g_5, g_6, p0.2.2.1, p0.2.2.2))  ok_pa_n ok_pa_side ok_p0_turn ) (cwV 0 hts gvX4_253 rfl rfl rfl hvX2_firstOverlapping ⟨Nat.le_of_ble_eq_true rfl, Nat.le_of_ble_eq_true rfl⟩) hK hP hD hS hA 8 2 rfl ww_8 rfl hl.1 rfl (Nat.le_of_ble_eq_true rfl) dX4_clearTheWay_15 ⟨Nat.le_of_ble_eq_true rfl, Nat.le_of_ble_eq_true rfl⟩ (fun ws_10 r_11 h_12 H locs hP hD hS => ?_)
        obtain ⟨rfl, ho_15⟩ := h_12
        have hP : va_P D vwCl (WW ad cJ cI cZ bm pa (g_5, g_6, p0.2.2.1, p0.2.2.2) p1 p2 li wi mt ms ma mp mk mn ou) H := hP
        have hD : va_D A (WW ad cJ cI cZ bm pa (g_5, g_6, p0.2.2.1, p0.2.2.2) p1 p2 li wi mt ms ma mp mk mn ou) := hD
        rcases ho_15 with rfl | ⟨k_13, hk_14, rfl⟩
        · refine lv_istore (lv' := [(5, .int (-1)), (4, .int (nI i_2)), (0, .ref (ad 0)), (1, .int (nI za)), (2, .int (bm_b zx)), (3, .int (bm_b zu))]) hx hb dX4_clearTheWay_18 hl (by decide) rfl (fun ls hl => ?_)
          refine lv_iload hx hb dX4_clearTheWay_20 (lv_at hl 0 rfl) ?_
          refine lv_iconst (v := -1) hx hb dX4_clearTheWay_22 (by decide) ?_
          refine lv_icmp_ne (x := (-1)) (y := -1) (tgt := 28) hx hb dX4_clearTheWay_23 (by decide) (fun c_16 => ?_) (fun c_16 => ?_)
          · exact absurd rfl c_16
          · refine lv_iconst (v := bm_b true) hx hb dX4_clearTheWay_26 (by decide) ?_
            exact bm_zretX (v := true) hx hb hr hP hD hK hS ⟨g_5, g_6, rfl, true, rfl⟩ dX4_clearTheWay_27 hlocks
        · refine lv_istore (lv' := [(5, .int (nI k_13)), (4, .int (nI i_2)), (0, .ref (ad 0)), (1, .int (nI za)), (2, .int (bm_b zx)), (3, .int (bm_b zu))]) hx hb dX4_clearTheWay_18 hl (by decide) rfl (fun ls hl => ?_)
          refine lv_iload hx hb dX4_clearTheWay_20 (lv_at hl 0 rfl) ?_
          refine lv_iconst (v := -1) hx hb dX4_clearTheWay_22 (by decide) ?_
          refine lv_icmp_ne (x := (nI k_13)) (y := -1) (tgt := 28) hx hb dX4_clearTheWay_23 (by decide) (fun c_17 => ?_) (fun c_17 => ?_)
          · refine lv_aload_n hx hb dX4_clearTheWay_28 rfl (lv_at hl 2 rfl) ?_
            refine va_get (D := D) (ci := 4) (v := .ref (ad 8)) (C := RX4) (T := TX4) (N := 10) hx hb hts (inT inX4) hown hK hP 0 ww_0 rfl 5 (by decide) (hts (.fieldLink RX4 37 "BoardMoves" "now" "LBoardMoves$Placement;") (List.mem_cons_of_mem _ flX4_37)) (fun _ h9 => h9) rfl dX4_clearTheWay_29 ?_
            refine lv_iload hx hb dX4_clearTheWay_32 (lv_at hl 0 rfl) ?_
            refine lv_iload hx hb dX4_clearTheWay_34 (lv_at hl 0 rfl) ?_
            refine lv_iconst (v := nI 1) hx hb dX4_clearTheWay_36 (by decide) ?_
            refine bm_nadd hx hb dX4_clearTheWay_37 ?_
            refine bm_xcallV (As := [.int (nI k_13), .int (nI (k_13 + 1))]) (rest := []) ⟨hx, hb, hml, hown, hts⟩ (x_over (p0 := (g_5, g_6, p0.2.2.1, p0.2.2.2)) (zj := k_13) (zf := k_13 + 1) ok_pa_n ok_pa_side ok_p0_turn (by omega) (by omega)) (cwV 2 hts gvX4_240 rfl rfl rfl hvX2_overlapped ⟨Nat.le_of_ble_eq_true rfl, Nat.le_of_ble_eq_true rfl⟩) hK hP hD hS hA 8 2 rfl ww_8 rfl hl.1 rfl (Nat.le_of_ble_eq_true rfl) dX4_clearTheWay_38 ⟨Nat.le_of_ble_eq_true rfl, Nat.le_of_ble_eq_true rfl⟩ (fun ws_18 r_19 h_20 H locs hP hD hS => ?_)
            obtain ⟨rfl, ho_23⟩ := h_20
            have hP : va_P D vwCl (WW ad cJ cI cZ bm pa (g_5, g_6, p0.2.2.1, p0.2.2.2) p1 p2 li wi mt ms ma mp mk mn ou) H := hP
            have hD : va_D A (WW ad cJ cI cZ bm pa (g_5, g_6, p0.2.2.1, p0.2.2.2) p1 p2 li wi mt ms ma mp mk mn ou) := hD
            rcases ho_23 with rfl | ⟨k_21, hk_22, rfl⟩
            · refine lv_istore (lv' := [(6, .int (-1)), (5, .int (nI k_13)), (4, .int (nI i_2)), (0, .ref (ad 0)), (1, .int (nI za)), (2, .int (bm_b zx)), (3, .int (bm_b zu))]) hx hb dX4_clearTheWay_41 hl (by decide) rfl (fun ls hl => ?_)
              refine lv_iload hx hb dX4_clearTheWay_43 (lv_at hl 0 rfl) ?_
              refine lv_iconst (v := -1) hx hb dX4_clearTheWay_45 (by decide) ?_
              refine lv_icmp_eq (x := (-1)) (y := -1) (tgt := 63) hx hb dX4_clearTheWay_46 (by decide) (fun c_24 => ?_) (fun c_24 => ?_)
              · refine lv_iconst (v := bm_b false) hx hb dX4_clearTheWay_63 (by decide) ?_
                exact bm_zretX (v := false) hx hb hr hP hD hK hS ⟨g_5, g_6, rfl, false, rfl⟩ dX4_clearTheWay_64 hlocks
              · exact absurd rfl c_24
            · refine lv_istore (lv' := [(6, .int (nI k_21)), (5, .int (nI k_13)), (4, .int (nI i_2)), (0, .ref (ad 0)), (1, .int (nI za)), (2, .int (bm_b zx)), (3, .int (bm_b zu))]) hx hb dX4_clearTheWay_41 hl (by decide) rfl (fun ls hl => ?_)
              refine lv_iload hx hb dX4_clearTheWay_43 (lv_at hl 0 rfl) ?_
              refine lv_iconst (v := -1) hx hb dX4_clearTheWay_45 (by decide) ?_
              refine lv_icmp_eq (x := (nI k_21)) (y := -1) (tgt := 63) hx hb dX4_clearTheWay_46 (by decide) (fun c_25 => ?_) (fun c_25 => ?_)
              · exact absurd c_25 (bm_nm1 (by omega))
              · refine lv_aload_n hx hb dX4_clearTheWay_49 rfl (lv_at hl 3 rfl) ?_
                refine va_get (D := D) (ci := 4) (v := .ref (ad 1)) (C := RX4) (T := TX4) (N := 10) hx hb hts (inT inX4) hown hK hP 0 ww_0 rfl 2 (by decide) (hts (.fieldLink RX4 12 "BoardMoves" "parts" "LBoardMoves$Parts;") (List.mem_cons_of_mem _ flX4_12)) (fun _ h9 => h9) rfl dX4_clearTheWay_50 ?_
                refine lv_iload hx hb dX4_clearTheWay_53 (lv_at hl 1 rfl) ?_
                refine lv_iload hx hb dX4_clearTheWay_55 (lv_at hl 0 rfl) ?_
                refine bm_xcallV (As := [.int (nI k_13), .int (nI k_21)]) (rest := []) ⟨hx, hb, hml, hown, hts⟩ (x_mates (p0 := (g_5, g_6, p0.2.2.1, p0.2.2.2)) (za := k_13) (zb := k_21) ok_pa_lowest (by omega) (by omega)) (cwV 2 hts gvX4_256 rfl rfl rfl hvX1_areMates ⟨Nat.le_of_ble_eq_true rfl, Nat.le_of_ble_eq_true rfl⟩) hK hP hD hS hA 1 1 rfl ww_1 rfl hl.1 rfl (Nat.le_of_ble_eq_true rfl) dX4_clearTheWay_57 ⟨Nat.le_of_ble_eq_true rfl, Nat.le_of_ble_eq_true rfl⟩ (fun ws_26 r_27 h_28 H locs hP hD hS => ?_)
                obtain ⟨rfl, v_29, rfl⟩ := h_28
                have hP : va_P D vwCl (WW ad cJ cI cZ bm pa (g_5, g_6, p0.2.2.1, p0.2.2.2) p1 p2 li wi mt ms ma mp mk mn ou) H := hP
                have hD : va_D A (WW ad cJ cI cZ bm pa (g_5, g_6, p0.2.2.1, p0.2.2.2) p1 p2 li wi mt ms ma mp mk mn ou) := hD
                refine bm_zb_eq (x := v_29) (tgt := 65) hx hb dX4_clearTheWay_60 (by decide) (fun c_30 => ?_) (fun c_30 => ?_)
                · refine lv_aload_n hx hb dX4_clearTheWay_65 rfl (lv_at hl 3 rfl) ?_
                  refine lv_iload hx hb dX4_clearTheWay_66 (lv_at hl 1 rfl) ?_
                  refine lv_iload hx hb dX4_clearTheWay_68 (lv_at hl 0 rfl) ?_
                  refine lv_iload_n hx hb dX4_clearTheWay_70 rfl (lv_at hl 4 rfl) ?_
                  refine lv_iload_n hx hb dX4_clearTheWay_71 rfl (lv_at hl 5 rfl) ?_
                  refine lv_iload_n hx hb dX4_clearTheWay_72 rfl (lv_at hl 6 rfl) ?_
                  refine bm_xcallV (As := [.int (nI k_13), .int (nI k_21), .int (nI za), .int (bm_b zx), .int (bm_b zu)]) (rest := []) ⟨hx, hb, hml, hown, hts⟩ (x_goes (p0 := (g_5, g_6, p0.2.2.1, p0.2.2.2)) (za := k_13) (zb := k_21) (zc := za) (zx := zx) (zu := zu) ok_pa_lowest (by omega) (by omega) (by omega)) (cwV 5 hts gvX4_260 rfl rfl rfl hvX4_goesOn ⟨Nat.le_of_ble_eq_true rfl, Nat.le_of_ble_eq_true rfl⟩) hK hP hD hS hA 0 4 rfl ww_0 rfl hl.1 rfl (Nat.le_of_ble_eq_true rfl) dX4_clearTheWay_73 ⟨Nat.le_of_ble_eq_true rfl, Nat.le_of_ble_eq_true rfl⟩ (fun ws_31 r_32 h_33 H locs hP hD hS => ?_)
                  obtain ⟨rfl, v_34, rfl⟩ := h_33
                  have hP : va_P D vwCl (WW ad cJ cI cZ bm pa (g_5, g_6, p0.2.2.1, p0.2.2.2) p1 p2 li wi mt ms ma mp mk mn ou) H := hP
                  have hD : va_D A (WW ad cJ cI cZ bm pa (g_5, g_6, p0.2.2.1, p0.2.2.2) p1 p2 li wi mt ms ma mp mk mn ou) := hD
                  refine lv_istore (lv' := [(7, .int (bm_b v_34)), (6, .int (nI k_21)), (5, .int (nI k_13)), (4, .int (nI i_2)), (0, .ref (ad 0)), (1, .int (nI za)), (2, .int (bm_b zx)), (3, .int (bm_b zu))]) hx hb dX4_clearTheWay_76 hl (by decide) rfl (fun ls hl => ?_)
                  refine lv_iload hx hb dX4_clearTheWay_78 (lv_at hl 0 rfl) ?_
                  refine bm_zb_eq (x := v_34) (tgt := 88) hx hb dX4_clearTheWay_80 (by decide) (fun c_35 => ?_) (fun c_35 => ?_)
                  · refine lv_iload hx hb dX4_clearTheWay_88 (lv_at hl 1 rfl) ?_
                    refine lv_istore (lv' := [(8, .int (nI k_21)), (7, .int (bm_b v_34)), (6, .int (nI k_21)), (5, .int (nI k_13)), (4, .int (nI i_2)), (0, .ref (ad 0)), (1, .int (nI za)), (2, .int (bm_b zx)), (3, .int (bm_b zu))]) hx hb dX4_clearTheWay_90 hl (by decide) rfl (fun ls hl => ?_)
                    refine lv_iload hx hb dX4_clearTheWay_92 (lv_at hl 1 rfl) ?_
                    refine bm_zb_eq (x := v_34) (tgt := 102) hx hb dX4_clearTheWay_94 (by decide) (fun c_36 => ?_) (fun c_36 => ?_)
                    · refine lv_iload hx hb dX4_clearTheWay_102 (lv_at hl 3 rfl) ?_
                      refine lv_istore (lv' := [(9, .int (nI k_13)), (8, .int (nI k_21)), (7, .int (bm_b v_34)), (6, .int (nI k_21)), (5, .int (nI k_13)), (4, .int (nI i_2)), (0, .ref (ad 0)), (1, .int (nI za)), (2, .int (bm_b zx)), (3, .int (bm_b zu))]) hx hb dX4_clearTheWay_104 hl (by decide) rfl (fun ls hl => ?_)
                      refine lv_aload_n hx hb dX4_clearTheWay_106 rfl (lv_at hl 6 rfl) ?_
                      refine va_get (D := D) (ci := 4) (v := .ref (ad 8)) (C := RX4) (T := TX4) (N := 10) hx hb hts (inT inX4) hown hK hP 0 ww_0 rfl 5 (by decide) (hts (.fieldLink RX4 37 "BoardMoves" "now" "LBoardMoves$Placement;") (List.mem_cons_of_mem _ flX4_37)) (fun _ h9 => h9) rfl dX4_clearTheWay_107 ?_
                      refine lv_iload hx hb dX4_clearTheWay_110 (lv_at hl 1 rfl) ?_
                      refine lv_iload hx hb dX4_clearTheWay_112 (lv_at hl 0 rfl) ?_
                      refine lv_iload_n hx hb dX4_clearTheWay_114 rfl (lv_at hl 8 rfl) ?_
                      refine lv_iload_n hx hb dX4_clearTheWay_115 rfl (lv_at hl 9 rfl) ?_
                      refine bm_xcallV (As := [.int (nI k_21), .int (nI k_13), .int (bm_b zx), .int (bm_b zu)]) (rest := []) ⟨hx, hb, hml, hown, hts⟩ (x_way (p0 := (g_5, g_6, p0.2.2.1, p0.2.2.2)) (za := k_21) (zb := k_13) (zx := zx) (zu := zu) ok_p0_turn (by omega) (by omega)) (cwV 4 hts gvX4_264 rfl rfl rfl hvX2_wayToBorder ⟨Nat.le_of_ble_eq_true rfl, Nat.le_of_ble_eq_true rfl⟩) hK hP hD hS hA 8 2 rfl ww_8 rfl hl.1 rfl (Nat.le_of_ble_eq_true rfl) dX4_clearTheWay_116 ⟨Nat.le_of_ble_eq_true rfl, Nat.le_of_ble_eq_true rfl⟩ (fun ws_37 r_38 h_39 H locs hP hD hS => ?_)
                      obtain ⟨rfl, v_40, rfl⟩ := h_39
                      have hP : va_P D vwCl (WW ad cJ cI cZ bm pa (g_5, g_6, p0.2.2.1, p0.2.2.2) p1 p2 li wi mt ms ma mp mk mn ou) H := hP
                      have hD : va_D A (WW ad cJ cI cZ bm pa (g_5, g_6, p0.2.2.1, p0.2.2.2) p1 p2 li wi mt ms ma mp mk mn ou) := hD
                      refine lv_lstore (lv' := [(10, .long v_40), (9, .int (nI k_13)), (8, .int (nI k_21)), (7, .int (bm_b v_34)), (6, .int (nI k_21)), (5, .int (nI k_13)), (4, .int (nI i_2)), (0, .ref (ad 0)), (1, .int (nI za)), (2, .int (bm_b zx)), (3, .int (bm_b zu))]) hx hb dX4_clearTheWay_119 hl (by decide) rfl (fun ls hl => ?_)
                      refine lv_aload_n hx hb dX4_clearTheWay_121 rfl (lv_at hl 7 rfl) ?_
                      refine va_get (D := D) (ci := 4) (v := .ref (ad 8)) (C := RX4) (T := TX4) (N := 10) hx hb hts (inT inX4) hown hK hP 0 ww_0 rfl 5 (by decide) (hts (.fieldLink RX4 37 "BoardMoves" "now" "LBoardMoves$Placement;") (List.mem_cons_of_mem _ flX4_37)) (fun _ h9 => h9) rfl dX4_clearTheWay_122 ?_
                      refine lv_iload hx hb dX4_clearTheWay_125 (lv_at hl 2 rfl) ?_
                      refine lv_iload_n hx hb dX4_clearTheWay_127 rfl (lv_at hl 9 rfl) ?_
                      refine bm_zb_eq (x := zx) (tgt := 136) hx hb dX4_clearTheWay_128 (by decide) (fun c_41 => ?_) (fun c_41 => ?_)
                      · refine lv_lconst (v := 0) hx hb dX4_clearTheWay_136 (by decide) ?_
                        refine lv_iload_n hx hb dX4_clearTheWay_137 rfl (lv_at hl 9 rfl) ?_
                        refine bm_zb_eq (x := zx) (tgt := 145) hx hb dX4_clearTheWay_138 (by decide) (fun c_42 => ?_) (fun c_42 => ?_)
                        · refine lv_lload hx hb dX4_clearTheWay_145 (lv_at hl 0 rfl) ?_
                          refine bm_xcallV (As := [.int (nI k_21), .long 0, .long v_40]) (rest := []) ⟨hx, hb, hml, hown, hts⟩ (x_shift (p0 := (g_5, g_6, p0.2.2.1, p0.2.2.2)) (zj := k_21) (z1 := 0) (z2 := v_40) ok_pa_n ok_pa_lowest (by omega)) (cwV 3 hts gvX4_119 rfl rfl rfl hvX2_shiftGroup ⟨Nat.le_of_ble_eq_true rfl, Nat.le_of_ble_eq_true rfl⟩) hK hP hD hS hA 8 2 rfl ww_8 rfl hl.1 rfl (Nat.le_of_ble_eq_true rfl) dX4_clearTheWay_147 ⟨Nat.le_of_ble_eq_true rfl, Nat.le_of_ble_eq_true rfl⟩ (fun ws_43 r_44 h_45 H locs hP hD hS => ?_)
                          obtain ⟨g_46, g_47, rfl, rfl⟩ := h_45
                          have hP : va_P D vwCl (WW ad cJ cI cZ bm pa (g_46, g_47, p0.2.2.1, p0.2.2.2) p1 p2 li wi mt ms ma mp mk mn ou) H := hP
                          have hD : va_D A (WW ad cJ cI cZ bm pa (g_46, g_47, p0.2.2.1, p0.2.2.2) p1 p2 li wi mt ms ma mp mk mn ou) := hD
                          refine lv_iinc (v := (nI (i_2 + 1))) (lv' := [(4, .int (nI (i_2 + 1))), (10, .long v_40), (9, .int (nI k_13)), (8, .int (nI k_21)), (7, .int (bm_b v_34)), (6, .int (nI k_21)), (5, .int (nI k_13)), (0, .ref (ad 0)), (1, .int (nI za)), (2, .int (bm_b zx)), (3, .int (bm_b zu))]) hx hb dX4_clearTheWay_150 hl (k := 6) rfl (nI_1 i_2) (by decide) rfl (fun ls hl => ?_)
                          refine lv_goto (tgt := 3) hx hb dX4_clearTheWay_153 (by decide) ?_
                          exact ih_4 (i_2 + 1) g_46 g_47 (by omega) (by omega)  _ _ hP hD hS _ (lv_sub hl [0, 7, 8, 9, 10] rfl)
                        · refine lv_lconst (v := 0) hx hb dX4_clearTheWay_141 (by decide) ?_
                          refine lv_goto (tgt := 147) hx hb dX4_clearTheWay_142 (by decide) ?_
                          refine bm_xcallV (As := [.int (nI k_21), .long 0, .long 0]) (rest := []) ⟨hx, hb, hml, hown, hts⟩ (x_shift (p0 := (g_5, g_6, p0.2.2.1, p0.2.2.2)) (zj := k_21) (z1 := 0) (z2 := 0) ok_pa_n ok_pa_lowest (by omega)) (cwV 3 hts gvX4_119 rfl rfl rfl hvX2_shiftGroup ⟨Nat.le_of_ble_eq_true rfl, Nat.le_of_ble_eq_true rfl⟩) hK hP hD hS hA 8 2 rfl ww_8 rfl hl.1 rfl (Nat.le_of_ble_eq_true rfl) dX4_clearTheWay_147 ⟨Nat.le_of_ble_eq_true rfl, Nat.le_of_ble_eq_true rfl⟩ (fun ws_48 r_49 h_50 H locs hP hD hS => ?_)
                          obtain ⟨g_51, g_52, rfl, rfl⟩ := h_50
                          have hP : va_P D vwCl (WW ad cJ cI cZ bm pa (g_51, g_52, p0.2.2.1, p0.2.2.2) p1 p2 li wi mt ms ma mp mk mn ou) H := hP
                          have hD : va_D A (WW ad cJ cI cZ bm pa (g_51, g_52, p0.2.2.1, p0.2.2.2) p1 p2 li wi mt ms ma mp mk mn ou) := hD
                          refine lv_iinc (v := (nI (i_2 + 1))) (lv' := [(4, .int (nI (i_2 + 1))), (10, .long v_40), (9, .int (nI k_13)), (8, .int (nI k_21)), (7, .int (bm_b v_34)), (6, .int (nI k_21)), (5, .int (nI k_13)), (0, .ref (ad 0)), (1, .int (nI za)), (2, .int (bm_b zx)), (3, .int (bm_b zu))]) hx hb dX4_clearTheWay_150 hl (k := 6) rfl (nI_1 i_2) (by decide) rfl (fun ls hl => ?_)
                          refine lv_goto (tgt := 3) hx hb dX4_clearTheWay_153 (by decide) ?_
                          exact ih_4 (i_2 + 1) g_51 g_52 (by omega) (by omega)  _ _ hP hD hS _ (lv_sub hl [0, 7, 8, 9, 10] rfl)
                      · refine lv_lload hx hb dX4_clearTheWay_131 (lv_at hl 0 rfl) ?_
                        refine lv_goto (tgt := 137) hx hb dX4_clearTheWay_133 (by decide) ?_
                        refine lv_iload_n hx hb dX4_clearTheWay_137 rfl (lv_at hl 9 rfl) ?_
                        refine bm_zb_eq (x := zx) (tgt := 145) hx hb dX4_clearTheWay_138 (by decide) (fun c_53 => ?_) (fun c_53 => ?_)
                        · refine lv_lload hx hb dX4_clearTheWay_145 (lv_at hl 0 rfl) ?_
                          refine bm_xcallV (As := [.int (nI k_21), .long v_40, .long v_40]) (rest := []) ⟨hx, hb, hml, hown, hts⟩ (x_shift (p0 := (g_5, g_6, p0.2.2.1, p0.2.2.2)) (zj := k_21) (z1 := v_40) (z2 := v_40) ok_pa_n ok_pa_lowest (by omega)) (cwV 3 hts gvX4_119 rfl rfl rfl hvX2_shiftGroup ⟨Nat.le_of_ble_eq_true rfl, Nat.le_of_ble_eq_true rfl⟩) hK hP hD hS hA 8 2 rfl ww_8 rfl hl.1 rfl (Nat.le_of_ble_eq_true rfl) dX4_clearTheWay_147 ⟨Nat.le_of_ble_eq_true rfl, Nat.le_of_ble_eq_true rfl⟩ (fun ws_54 r_55 h_56 H locs hP hD hS => ?_)
                          obtain ⟨g_57, g_58, rfl, rfl⟩ := h_56
                          have hP : va_P D vwCl (WW ad cJ cI cZ bm pa (g_57, g_58, p0.2.2.1, p0.2.2.2) p1 p2 li wi mt ms ma mp mk mn ou) H := hP
                          have hD : va_D A (WW ad cJ cI cZ bm pa (g_57, g_58, p0.2.2.1, p0.2.2.2) p1 p2 li wi mt ms ma mp mk mn ou) := hD
                          refine lv_iinc (v := (nI (i_2 + 1))) (lv' := [(4, .int (nI (i_2 + 1))), (10, .long v_40), (9, .int (nI k_13)), (8, .int (nI k_21)), (7, .int (bm_b v_34)), (6, .int (nI k_21)), (5, .int (nI k_13)), (0, .ref (ad 0)), (1, .int (nI za)), (2, .int (bm_b zx)), (3, .int (bm_b zu))]) hx hb dX4_clearTheWay_150 hl (k := 6) rfl (nI_1 i_2) (by decide) rfl (fun ls hl => ?_)
                          refine lv_goto (tgt := 3) hx hb dX4_clearTheWay_153 (by decide) ?_
                          exact ih_4 (i_2 + 1) g_57 g_58 (by omega) (by omega)  _ _ hP hD hS _ (lv_sub hl [0, 7, 8, 9, 10] rfl)
                        · refine lv_lconst (v := 0) hx hb dX4_clearTheWay_141 (by decide) ?_
                          refine lv_goto (tgt := 147) hx hb dX4_clearTheWay_142 (by decide) ?_
                          refine bm_xcallV (As := [.int (nI k_21), .long v_40, .long 0]) (rest := []) ⟨hx, hb, hml, hown, hts⟩ (x_shift (p0 := (g_5, g_6, p0.2.2.1, p0.2.2.2)) (zj := k_21) (z1 := v_40) (z2 := 0) ok_pa_n ok_pa_lowest (by omega)) (cwV 3 hts gvX4_119 rfl rfl rfl hvX2_shiftGroup ⟨Nat.le_of_ble_eq_true rfl, Nat.le_of_ble_eq_true rfl⟩) hK hP hD hS hA 8 2 rfl ww_8 rfl hl.1 rfl (Nat.le_of_ble_eq_true rfl) dX4_clearTheWay_147 ⟨Nat.le_of_ble_eq_true rfl, Nat.le_of_ble_eq_true rfl⟩ (fun ws_59 r_60 h_61 H locs hP hD hS => ?_)
                          obtain ⟨g_62, g_63, rfl, rfl⟩ := h_61
                          have hP : va_P D vwCl (WW ad cJ cI cZ bm pa (g_62, g_63, p0.2.2.1, p0.2.2.2) p1 p2 li wi mt ms ma mp mk mn ou) H := hP
                          have hD : va_D A (WW ad cJ cI cZ bm pa (g_62, g_63, p0.2.2.1, p0.2.2.2) p1 p2 li wi mt ms ma mp mk mn ou) := hD
                          refine lv_iinc (v := (nI (i_2 + 1))) (lv' := [(4, .int (nI (i_2 + 1))), (10, .long v_40), (9, .int (nI k_13)), (8, .int (nI k_21)), (7, .int (bm_b v_34)), (6, .int (nI k_21)), (5, .int (nI k_13)), (0, .ref (ad 0)), (1, .int (nI za)), (2, .int (bm_b zx)), (3, .int (bm_b zu))]) hx hb dX4_clearTheWay_150 hl (k := 6) rfl (nI_1 i_2) (by decide) rfl (fun ls hl => ?_)
                          refine lv_goto (tgt := 3) hx hb dX4_clearTheWay_153 (by decide) ?_
                          exact ih_4 (i_2 + 1) g_62 g_63 (by omega) (by omega)  _ _ hP hD hS _ (lv_sub hl [0, 7, 8, 9, 10] rfl)
                    · refine lv_iload hx hb dX4_clearTheWay_97 (lv_at hl 2 rfl) ?_
                      refine lv_goto (tgt := 104) hx hb dX4_clearTheWay_99 (by decide) ?_
                      refine lv_istore (lv' := [(9, .int (nI k_21)), (8, .int (nI k_21)), (7, .int (bm_b v_34)), (6, .int (nI k_21)), (5, .int (nI k_13)), (4, .int (nI i_2)), (0, .ref (ad 0)), (1, .int (nI za)), (2, .int (bm_b zx)), (3, .int (bm_b zu))]) hx hb dX4_clearTheWay_104 hl (by decide) rfl (fun ls hl => ?_)
                      refine lv_aload_n hx hb dX4_clearTheWay_106 rfl (lv_at hl 6 rfl) ?_
                      refine va_get (D := D) (ci := 4) (v := .ref (ad 8)) (C := RX4) (T := TX4) (N := 10) hx hb hts (inT inX4) hown hK hP 0 ww_0 rfl 5 (by decide) (hts (.fieldLink RX4 37 "BoardMoves" "now" "LBoardMoves$Placement;") (List.mem_cons_of_mem _ flX4_37)) (fun _ h9 => h9) rfl dX4_clearTheWay_107 ?_
                      refine lv_iload hx hb dX4_clearTheWay_110 (lv_at hl 1 rfl) ?_
                      refine lv_iload hx hb dX4_clearTheWay_112 (lv_at hl 0 rfl) ?_
                      refine lv_iload_n hx hb dX4_clearTheWay_114 rfl (lv_at hl 8 rfl) ?_
                      refine lv_iload_n hx hb dX4_clearTheWay_115 rfl (lv_at hl 9 rfl) ?_
                      refine bm_xcallV (As := [.int (nI k_21), .int (nI k_21), .int (bm_b zx), .int (bm_b zu)]) (rest := []) ⟨hx, hb, hml, hown, hts⟩ (x_way (p0 := (g_5, g_6, p0.2.2.1, p0.2.2.2)) (za := k_21) (zb := k_21) (zx := zx) (zu := zu) ok_p0_turn (by omega) (by omega)) (cwV 4 hts gvX4_264 rfl rfl rfl hvX2_wayToBorder ⟨Nat.le_of_ble_eq_true rfl, Nat.le_of_ble_eq_true rfl⟩) hK hP hD hS hA 8 2 rfl ww_8 rfl hl.1 rfl (Nat.le_of_ble_eq_true rfl) dX4_clearTheWay_116 ⟨Nat.le_of_ble_eq_true rfl, Nat.le_of_ble_eq_true rfl⟩ (fun ws_64 r_65 h_66 H locs hP hD hS => ?_)
                      obtain ⟨rfl, v_67, rfl⟩ := h_66
                      have hP : va_P D vwCl (WW ad cJ cI cZ bm pa (g_5, g_6, p0.2.2.1, p0.2.2.2) p1 p2 li wi mt ms ma mp mk mn ou) H := hP
                      have hD : va_D A (WW ad cJ cI cZ bm pa (g_5, g_6, p0.2.2.1, p0.2.2.2) p1 p2 li wi mt ms ma mp mk mn ou) := hD
                      refine lv_lstore (lv' := [(10, .long v_67), (9, .int (nI k_21)), (8, .int (nI k_21)), (7, .int (bm_b v_34)), (6, .int (nI k_21)), (5, .int (nI k_13)), (4, .int (nI i_2)), (0, .ref (ad 0)), (1, .int (nI za)), (2, .int (bm_b zx)), (3, .int (bm_b zu))]) hx hb dX4_clearTheWay_119 hl (by decide) rfl (fun ls hl => ?_)
                      refine lv_aload_n hx hb dX4_clearTheWay_121 rfl (lv_at hl 7 rfl) ?_
                      refine va_get (D := D) (ci := 4) (v := .ref (ad 8)) (C := RX4) (T := TX4) (N := 10) hx hb hts (inT inX4) hown hK hP 0 ww_0 rfl 5 (by decide) (hts (.fieldLink RX4 37 "BoardMoves" "now" "LBoardMoves$Placement;") (List.mem_cons_of_mem _ flX4_37)) (fun _ h9 => h9) rfl dX4_clearTheWay_122 ?_
                      refine lv_iload hx hb dX4_clearTheWay_125 (lv_at hl 2 rfl) ?_
                      refine lv_iload_n hx hb dX4_clearTheWay_127 rfl (lv_at hl 9 rfl) ?_
                      refine bm_zb_eq (x := zx) (tgt := 136) hx hb dX4_clearTheWay_128 (by decide) (fun c_68 => ?_) (fun c_68 => ?_)
                      · refine lv_lconst (v := 0) hx hb dX4_clearTheWay_136 (by decide) ?_
                        refine lv_iload_n hx hb dX4_clearTheWay_137 rfl (lv_at hl 9 rfl) ?_
                        refine bm_zb_eq (x := zx) (tgt := 145) hx hb dX4_clearTheWay_138 (by decide) (fun c_69 => ?_) (fun c_69 => ?_)
                        · refine lv_lload hx hb dX4_clearTheWay_145 (lv_at hl 0 rfl) ?_
                          refine bm_xcallV (As := [.int (nI k_21), .long 0, .long v_67]) (rest := []) ⟨hx, hb, hml, hown, hts⟩ (x_shift (p0 := (g_5, g_6, p0.2.2.1, p0.2.2.2)) (zj := k_21) (z1 := 0) (z2 := v_67) ok_pa_n ok_pa_lowest (by omega)) (cwV 3 hts gvX4_119 rfl rfl rfl hvX2_shiftGroup ⟨Nat.le_of_ble_eq_true rfl, Nat.le_of_ble_eq_true rfl⟩) hK hP hD hS hA 8 2 rfl ww_8 rfl hl.1 rfl (Nat.le_of_ble_eq_true rfl) dX4_clearTheWay_147 ⟨Nat.le_of_ble_eq_true rfl, Nat.le_of_ble_eq_true rfl⟩ (fun ws_70 r_71 h_72 H locs hP hD hS => ?_)
                          obtain ⟨g_73, g_74, rfl, rfl⟩ := h_72
                          have hP : va_P D vwCl (WW ad cJ cI cZ bm pa (g_73, g_74, p0.2.2.1, p0.2.2.2) p1 p2 li wi mt ms ma mp mk mn ou) H := hP
                          have hD : va_D A (WW ad cJ cI cZ bm pa (g_73, g_74, p0.2.2.1, p0.2.2.2) p1 p2 li wi mt ms ma mp mk mn ou) := hD
                          refine lv_iinc (v := (nI (i_2 + 1))) (lv' := [(4, .int (nI (i_2 + 1))), (10, .long v_67), (9, .int (nI k_21)), (8, .int (nI k_21)), (7, .int (bm_b v_34)), (6, .int (nI k_21)), (5, .int (nI k_13)), (0, .ref (ad 0)), (1, .int (nI za)), (2, .int (bm_b zx)), (3, .int (bm_b zu))]) hx hb dX4_clearTheWay_150 hl (k := 6) rfl (nI_1 i_2) (by decide) rfl (fun ls hl => ?_)
                          refine lv_goto (tgt := 3) hx hb dX4_clearTheWay_153 (by decide) ?_
                          exact ih_4 (i_2 + 1) g_73 g_74 (by omega) (by omega)  _ _ hP hD hS _ (lv_sub hl [0, 7, 8, 9, 10] rfl)
                        · refine lv_lconst (v := 0) hx hb dX4_clearTheWay_141 (by decide) ?_
                          refine lv_goto (tgt := 147) hx hb dX4_clearTheWay_142 (by decide) ?_
                          refine bm_xcallV (As := [.int (nI k_21), .long 0, .long 0]) (rest := []) ⟨hx, hb, hml, hown, hts⟩ (x_shift (p0 := (g_5, g_6, p0.2.2.1, p0.2.2.2)) (zj := k_21) (z1 := 0) (z2 := 0) ok_pa_n ok_pa_lowest (by omega)) (cwV 3 hts gvX4_119 rfl rfl rfl hvX2_shiftGroup ⟨Nat.le_of_ble_eq_true rfl, Nat.le_of_ble_eq_true rfl⟩) hK hP hD hS hA 8 2 rfl ww_8 rfl hl.1 rfl (Nat.le_of_ble_eq_true rfl) dX4_clearTheWay_147 ⟨Nat.le_of_ble_eq_true rfl, Nat.le_of_ble_eq_true rfl⟩ (fun ws_75 r_76 h_77 H locs hP hD hS => ?_)
                          obtain ⟨g_78, g_79, rfl, rfl⟩ := h_77
                          have hP : va_P D vwCl (WW ad cJ cI cZ bm pa (g_78, g_79, p0.2.2.1, p0.2.2.2) p1 p2 li wi mt ms ma mp mk mn ou) H := hP
                          have hD : va_D A (WW ad cJ cI cZ bm pa (g_78, g_79, p0.2.2.1, p0.2.2.2) p1 p2 li wi mt ms ma mp mk mn ou) := hD
                          refine lv_iinc (v := (nI (i_2 + 1))) (lv' := [(4, .int (nI (i_2 + 1))), (10, .long v_67), (9, .int (nI k_21)), (8, .int (nI k_21)), (7, .int (bm_b v_34)), (6, .int (nI k_21)), (5, .int (nI k_13)), (0, .ref (ad 0)), (1, .int (nI za)), (2, .int (bm_b zx)), (3, .int (bm_b zu))]) hx hb dX4_clearTheWay_150 hl (k := 6) rfl (nI_1 i_2) (by decide) rfl (fun ls hl => ?_)
                          refine lv_goto (tgt := 3) hx hb dX4_clearTheWay_153 (by decide) ?_
                          exact ih_4 (i_2 + 1) g_78 g_79 (by omega) (by omega)  _ _ hP hD hS _ (lv_sub hl [0, 7, 8, 9, 10] rfl)
                      · refine lv_lload hx hb dX4_clearTheWay_131 (lv_at hl 0 rfl) ?_
                        refine lv_goto (tgt := 137) hx hb dX4_clearTheWay_133 (by decide) ?_
                        refine lv_iload_n hx hb dX4_clearTheWay_137 rfl (lv_at hl 9 rfl) ?_
                        refine bm_zb_eq (x := zx) (tgt := 145) hx hb dX4_clearTheWay_138 (by decide) (fun c_80 => ?_) (fun c_80 => ?_)
                        · refine lv_lload hx hb dX4_clearTheWay_145 (lv_at hl 0 rfl) ?_
                          refine bm_xcallV (As := [.int (nI k_21), .long v_67, .long v_67]) (rest := []) ⟨hx, hb, hml, hown, hts⟩ (x_shift (p0 := (g_5, g_6, p0.2.2.1, p0.2.2.2)) (zj := k_21) (z1 := v_67) (z2 := v_67) ok_pa_n ok_pa_lowest (by omega)) (cwV 3 hts gvX4_119 rfl rfl rfl hvX2_shiftGroup ⟨Nat.le_of_ble_eq_true rfl, Nat.le_of_ble_eq_true rfl⟩) hK hP hD hS hA 8 2 rfl ww_8 rfl hl.1 rfl (Nat.le_of_ble_eq_true rfl) dX4_clearTheWay_147 ⟨Nat.le_of_ble_eq_true rfl, Nat.le_of_ble_eq_true rfl⟩ (fun ws_81 r_82 h_83 H locs hP hD hS => ?_)
                          obtain ⟨g_84, g_85, rfl, rfl⟩ := h_83
                          have hP : va_P D vwCl (WW ad cJ cI cZ bm pa (g_84, g_85, p0.2.2.1, p0.2.2.2) p1 p2 li wi mt ms ma mp mk mn ou) H := hP
                          have hD : va_D A (WW ad cJ cI cZ bm pa (g_84, g_85, p0.2.2.1, p0.2.2.2) p1 p2 li wi mt ms ma mp mk mn ou) := hD
                          refine lv_iinc (v := (nI (i_2 + 1))) (lv' := [(4, .int (nI (i_2 + 1))), (10, .long v_67), (9, .int (nI k_21)), (8, .int (nI k_21)), (7, .int (bm_b v_34)), (6, .int (nI k_21)), (5, .int (nI k_13)), (0, .ref (ad 0)), (1, .int (nI za)), (2, .int (bm_b zx)), (3, .int (bm_b zu))]) hx hb dX4_clearTheWay_150 hl (k := 6) rfl (nI_1 i_2) (by decide) rfl (fun ls hl => ?_)
                          refine lv_goto (tgt := 3) hx hb dX4_clearTheWay_153 (by decide) ?_
                          exact ih_4 (i_2 + 1) g_84 g_85 (by omega) (by omega)  _ _ hP hD hS _ (lv_sub hl [0, 7, 8, 9, 10] rfl)
                        · refine lv_lconst (v := 0) hx hb dX4_clearTheWay_141 (by decide) ?_
                          refine lv_goto (tgt := 147) hx hb dX4_clearTheWay_142 (by decide) ?_
                          refine bm_xcallV (As := [.int (nI k_21), .long v_67, .long 0]) (rest := []) ⟨hx, hb, hml, hown, hts⟩ (x_shift (p0 := (g_5, g_6, p0.2.2.1, p0.2.2.2)) (zj := k_21) (z1 := v_67) (z2 := 0) ok_pa_n ok_pa_lowest (by omega)) (cwV 3 hts gvX4_119 rfl rfl rfl hvX2_shiftGroup ⟨Nat.le_of_ble_eq_true rfl, Nat.le_of_ble_eq_true rfl⟩) hK hP hD hS hA 8 2 rfl ww_8 rfl hl.1 rfl (Nat.le_of_ble_eq_true rfl) dX4_clearTheWay_147 ⟨Nat.le_of_ble_eq_true rfl, Nat.le_of_ble_eq_true rfl⟩ (fun ws_86 r_87 h_88 H locs hP hD hS => ?_)
                          obtain ⟨g_89, g_90, rfl, rfl⟩ := h_88
                          have hP : va_P D vwCl (WW ad cJ cI cZ bm pa (g_89, g_90, p0.2.2.1, p0.2.2.2) p1 p2 li wi mt ms ma mp mk mn ou) H := hP
                          have hD : va_D A (WW ad cJ cI cZ bm pa (g_89, g_90, p0.2.2.1, p0.2.2.2) p1 p2 li wi mt ms ma mp mk mn ou) := hD
                          refine lv_iinc (v := (nI (i_2 + 1))) (lv' := [(4, .int (nI (i_2 + 1))), (10, .long v_67), (9, .int (nI k_21)), (8, .int (nI k_21)), (7, .int (bm_b v_34)), (6, .int (nI k_21)), (5, .int (nI k_13)), (0, .ref (ad 0)), (1, .int (nI za)), (2, .int (bm_b zx)), (3, .int (bm_b zu))]) hx hb dX4_clearTheWay_150 hl (k := 6) rfl (nI_1 i_2) (by decide) rfl (fun ls hl => ?_)
                          refine lv_goto (tgt := 3) hx hb dX4_clearTheWay_153 (by decide) ?_
                          exact ih_4 (i_2 + 1) g_89 g_90 (by omega) (by omega)  _ _ hP hD hS _ (lv_sub hl [0, 7, 8, 9, 10] rfl)
                  · refine lv_iload hx hb dX4_clearTheWay_83 (lv_at hl 2 rfl) ?_
                    refine lv_goto (tgt := 90) hx hb dX4_clearTheWay_85 (by decide) ?_
                    refine lv_istore (lv' := [(8, .int (nI k_13)), (7, .int (bm_b v_34)), (6, .int (nI k_21)), (5, .int (nI k_13)), (4, .int (nI i_2)), (0, .ref (ad 0)), (1, .int (nI za)), (2, .int (bm_b zx)), (3, .int (bm_b zu))]) hx hb dX4_clearTheWay_90 hl (by decide) rfl (fun ls hl => ?_)
                    refine lv_iload hx hb dX4_clearTheWay_92 (lv_at hl 1 rfl) ?_
                    refine bm_zb_eq (x := v_34) (tgt := 102) hx hb dX4_clearTheWay_94 (by decide) (fun c_91 => ?_) (fun c_91 => ?_)
                    · refine lv_iload hx hb dX4_clearTheWay_102 (lv_at hl 3 rfl) ?_
                      refine lv_istore (lv' := [(9, .int (nI k_13)), (8, .int (nI k_13)), (7, .int (bm_b v_34)), (6, .int (nI k_21)), (5, .int (nI k_13)), (4, .int (nI i_2)), (0, .ref (ad 0)), (1, .int (nI za)), (2, .int (bm_b zx)), (3, .int (bm_b zu))]) hx hb dX4_clearTheWay_104 hl (by decide) rfl (fun ls hl => ?_)
                      refine lv_aload_n hx hb dX4_clearTheWay_106 rfl (lv_at hl 6 rfl) ?_
                      refine va_get (D := D) (ci := 4) (v := .ref (ad 8)) (C := RX4) (T := TX4) (N := 10) hx hb hts (inT inX4) hown hK hP 0 ww_0 rfl 5 (by decide) (hts (.fieldLink RX4 37 "BoardMoves" "now" "LBoardMoves$Placement;") (List.mem_cons_of_mem _ flX4_37)) (fun _ h9 => h9) rfl dX4_clearTheWay_107 ?_
                      refine lv_iload hx hb dX4_clearTheWay_110 (lv_at hl 1 rfl) ?_
                      refine lv_iload hx hb dX4_clearTheWay_112 (lv_at hl 0 rfl) ?_
                      refine lv_iload_n hx hb dX4_clearTheWay_114 rfl (lv_at hl 8 rfl) ?_
                      refine lv_iload_n hx hb dX4_clearTheWay_115 rfl (lv_at hl 9 rfl) ?_
                      refine bm_xcallV (As := [.int (nI k_13), .int (nI k_13), .int (bm_b zx), .int (bm_b zu)]) (rest := []) ⟨hx, hb, hml, hown, hts⟩ (x_way (p0 := (g_5, g_6, p0.2.2.1, p0.2.2.2)) (za := k_13) (zb := k_13) (zx := zx) (zu := zu) ok_p0_turn (by omega) (by omega)) (cwV 4 hts gvX4_264 rfl rfl rfl hvX2_wayToBorder ⟨Nat.le_of_ble_eq_true rfl, Nat.le_of_ble_eq_true rfl⟩) hK hP hD hS hA 8 2 rfl ww_8 rfl hl.1 rfl (Nat.le_of_ble_eq_true rfl) dX4_clearTheWay_116 ⟨Nat.le_of_ble_eq_true rfl, Nat.le_of_ble_eq_true rfl⟩ (fun ws_92 r_93 h_94 H locs hP hD hS => ?_)
                      obtain ⟨rfl, v_95, rfl⟩ := h_94
                      have hP : va_P D vwCl (WW ad cJ cI cZ bm pa (g_5, g_6, p0.2.2.1, p0.2.2.2) p1 p2 li wi mt ms ma mp mk mn ou) H := hP
                      have hD : va_D A (WW ad cJ cI cZ bm pa (g_5, g_6, p0.2.2.1, p0.2.2.2) p1 p2 li wi mt ms ma mp mk mn ou) := hD
                      refine lv_lstore (lv' := [(10, .long v_95), (9, .int (nI k_13)), (8, .int (nI k_13)), (7, .int (bm_b v_34)), (6, .int (nI k_21)), (5, .int (nI k_13)), (4, .int (nI i_2)), (0, .ref (ad 0)), (1, .int (nI za)), (2, .int (bm_b zx)), (3, .int (bm_b zu))]) hx hb dX4_clearTheWay_119 hl (by decide) rfl (fun ls hl => ?_)
                      refine lv_aload_n hx hb dX4_clearTheWay_121 rfl (lv_at hl 7 rfl) ?_
                      refine va_get (D := D) (ci := 4) (v := .ref (ad 8)) (C := RX4) (T := TX4) (N := 10) hx hb hts (inT inX4) hown hK hP 0 ww_0 rfl 5 (by decide) (hts (.fieldLink RX4 37 "BoardMoves" "now" "LBoardMoves$Placement;") (List.mem_cons_of_mem _ flX4_37)) (fun _ h9 => h9) rfl dX4_clearTheWay_122 ?_
                      refine lv_iload hx hb dX4_clearTheWay_125 (lv_at hl 2 rfl) ?_
                      refine lv_iload_n hx hb dX4_clearTheWay_127 rfl (lv_at hl 9 rfl) ?_
                      refine bm_zb_eq (x := zx) (tgt := 136) hx hb dX4_clearTheWay_128 (by decide) (fun c_96 => ?_) (fun c_96 => ?_)
                      · refine lv_lconst (v := 0) hx hb dX4_clearTheWay_136 (by decide) ?_
                        refine lv_iload_n hx hb dX4_clearTheWay_137 rfl (lv_at hl 9 rfl) ?_
                        refine bm_zb_eq (x := zx) (tgt := 145) hx hb dX4_clearTheWay_138 (by decide) (fun c_97 => ?_) (fun c_97 => ?_)
                        · refine lv_lload hx hb dX4_clearTheWay_145 (lv_at hl 0 rfl) ?_
                          refine bm_xcallV (As := [.int (nI k_13), .long 0, .long v_95]) (rest := []) ⟨hx, hb, hml, hown, hts⟩ (x_shift (p0 := (g_5, g_6, p0.2.2.1, p0.2.2.2)) (zj := k_13) (z1 := 0) (z2 := v_95) ok_pa_n ok_pa_lowest (by omega)) (cwV 3 hts gvX4_119 rfl rfl rfl hvX2_shiftGroup ⟨Nat.le_of_ble_eq_true rfl, Nat.le_of_ble_eq_true rfl⟩) hK hP hD hS hA 8 2 rfl ww_8 rfl hl.1 rfl (Nat.le_of_ble_eq_true rfl) dX4_clearTheWay_147 ⟨Nat.le_of_ble_eq_true rfl, Nat.le_of_ble_eq_true rfl⟩ (fun ws_98 r_99 h_100 H locs hP hD hS => ?_)
                          obtain ⟨g_101, g_102, rfl, rfl⟩ := h_100
                          have hP : va_P D vwCl (WW ad cJ cI cZ bm pa (g_101, g_102, p0.2.2.1, p0.2.2.2) p1 p2 li wi mt ms ma mp mk mn ou) H := hP
                          have hD : va_D A (WW ad cJ cI cZ bm pa (g_101, g_102, p0.2.2.1, p0.2.2.2) p1 p2 li wi mt ms ma mp mk mn ou) := hD
                          refine lv_iinc (v := (nI (i_2 + 1))) (lv' := [(4, .int (nI (i_2 + 1))), (10, .long v_95), (9, .int (nI k_13)), (8, .int (nI k_13)), (7, .int (bm_b v_34)), (6, .int (nI k_21)), (5, .int (nI k_13)), (0, .ref (ad 0)), (1, .int (nI za)), (2, .int (bm_b zx)), (3, .int (bm_b zu))]) hx hb dX4_clearTheWay_150 hl (k := 6) rfl (nI_1 i_2) (by decide) rfl (fun ls hl => ?_)
                          refine lv_goto (tgt := 3) hx hb dX4_clearTheWay_153 (by decide) ?_
                          exact ih_4 (i_2 + 1) g_101 g_102 (by omega) (by omega)  _ _ hP hD hS _ (lv_sub hl [0, 7, 8, 9, 10] rfl)
                        · refine lv_lconst (v := 0) hx hb dX4_clearTheWay_141 (by decide) ?_
                          refine lv_goto (tgt := 147) hx hb dX4_clearTheWay_142 (by decide) ?_
                          refine bm_xcallV (As := [.int (nI k_13), .long 0, .long 0]) (rest := []) ⟨hx, hb, hml, hown, hts⟩ (x_shift (p0 := (g_5, g_6, p0.2.2.1, p0.2.2.2)) (zj := k_13) (z1 := 0) (z2 := 0) ok_pa_n ok_pa_lowest (by omega)) (cwV 3 hts gvX4_119 rfl rfl rfl hvX2_shiftGroup ⟨Nat.le_of_ble_eq_true rfl, Nat.le_of_ble_eq_true rfl⟩) hK hP hD hS hA 8 2 rfl ww_8 rfl hl.1 rfl (Nat.le_of_ble_eq_true rfl) dX4_clearTheWay_147 ⟨Nat.le_of_ble_eq_true rfl, Nat.le_of_ble_eq_true rfl⟩ (fun ws_103 r_104 h_105 H locs hP hD hS => ?_)
                          obtain ⟨g_106, g_107, rfl, rfl⟩ := h_105
                          have hP : va_P D vwCl (WW ad cJ cI cZ bm pa (g_106, g_107, p0.2.2.1, p0.2.2.2) p1 p2 li wi mt ms ma mp mk mn ou) H := hP
                          have hD : va_D A (WW ad cJ cI cZ bm pa (g_106, g_107, p0.2.2.1, p0.2.2.2) p1 p2 li wi mt ms ma mp mk mn ou) := hD
                          refine lv_iinc (v := (nI (i_2 + 1))) (lv' := [(4, .int (nI (i_2 + 1))), (10, .long v_95), (9, .int (nI k_13)), (8, .int (nI k_13)), (7, .int (bm_b v_34)), (6, .int (nI k_21)), (5, .int (nI k_13)), (0, .ref (ad 0)), (1, .int (nI za)), (2, .int (bm_b zx)), (3, .int (bm_b zu))]) hx hb dX4_clearTheWay_150 hl (k := 6) rfl (nI_1 i_2) (by decide) rfl (fun ls hl => ?_)
                          refine lv_goto (tgt := 3) hx hb dX4_clearTheWay_153 (by decide) ?_
                          exact ih_4 (i_2 + 1) g_106 g_107 (by omega) (by omega)  _ _ hP hD hS _ (lv_sub hl [0, 7, 8, 9, 10] rfl)
                      · refine lv_lload hx hb dX4_clearTheWay_131 (lv_at hl 0 rfl) ?_
                        refine lv_goto (tgt := 137) hx hb dX4_clearTheWay_133 (by decide) ?_
                        refine lv_iload_n hx hb dX4_clearTheWay_137 rfl (lv_at hl 9 rfl) ?_
                        refine bm_zb_eq (x := zx) (tgt := 145) hx hb dX4_clearTheWay_138 (by decide) (fun c_108 => ?_) (fun c_108 => ?_)
                        · refine lv_lload hx hb dX4_clearTheWay_145 (lv_at hl 0 rfl) ?_
                          refine bm_xcallV (As := [.int (nI k_13), .long v_95, .long v_95]) (rest := []) ⟨hx, hb, hml, hown, hts⟩ (x_shift (p0 := (g_5, g_6, p0.2.2.1, p0.2.2.2)) (zj := k_13) (z1 := v_95) (z2 := v_95) ok_pa_n ok_pa_lowest (by omega)) (cwV 3 hts gvX4_119 rfl rfl rfl hvX2_shiftGroup ⟨Nat.le_of_ble_eq_true rfl, Nat.le_of_ble_eq_true rfl⟩) hK hP hD hS hA 8 2 rfl ww_8 rfl hl.1 rfl (Nat.le_of_ble_eq_true rfl) dX4_clearTheWay_147 ⟨Nat.le_of_ble_eq_true rfl, Nat.le_of_ble_eq_true rfl⟩ (fun ws_109 r_110 h_111 H locs hP hD hS => ?_)
                          obtain ⟨g_112, g_113, rfl, rfl⟩ := h_111
                          have hP : va_P D vwCl (WW ad cJ cI cZ bm pa (g_112, g_113, p0.2.2.1, p0.2.2.2) p1 p2 li wi mt ms ma mp mk mn ou) H := hP
                          have hD : va_D A (WW ad cJ cI cZ bm pa (g_112, g_113, p0.2.2.1, p0.2.2.2) p1 p2 li wi mt ms ma mp mk mn ou) := hD
                          refine lv_iinc (v := (nI (i_2 + 1))) (lv' := [(4, .int (nI (i_2 + 1))), (10, .long v_95), (9, .int (nI k_13)), (8, .int (nI k_13)), (7, .int (bm_b v_34)), (6, .int (nI k_21)), (5, .int (nI k_13)), (0, .ref (ad 0)), (1, .int (nI za)), (2, .int (bm_b zx)), (3, .int (bm_b zu))]) hx hb dX4_clearTheWay_150 hl (k := 6) rfl (nI_1 i_2) (by decide) rfl (fun ls hl => ?_)
                          refine lv_goto (tgt := 3) hx hb dX4_clearTheWay_153 (by decide) ?_
                          exact ih_4 (i_2 + 1) g_112 g_113 (by omega) (by omega)  _ _ hP hD hS _ (lv_sub hl [0, 7, 8, 9, 10] rfl)
                        · refine lv_lconst (v := 0) hx hb dX4_clearTheWay_141 (by decide) ?_
                          refine lv_goto (tgt := 147) hx hb dX4_clearTheWay_142 (by decide) ?_
                          refine bm_xcallV (As := [.int (nI k_13), .long v_95, .long 0]) (rest := []) ⟨hx, hb, hml, hown, hts⟩ (x_shift (p0 := (g_5, g_6, p0.2.2.1, p0.2.2.2)) (zj := k_13) (z1 := v_95) (z2 := 0) ok_pa_n ok_pa_lowest (by omega)) (cwV 3 hts gvX4_119 rfl rfl rfl hvX2_shiftGroup ⟨Nat.le_of_ble_eq_true rfl, Nat.le_of_ble_eq_true rfl⟩) hK hP hD hS hA 8 2 rfl ww_8 rfl hl.1 rfl (Nat.le_of_ble_eq_true rfl) dX4_clearTheWay_147 ⟨Nat.le_of_ble_eq_true rfl, Nat.le_of_ble_eq_true rfl⟩ (fun ws_114 r_115 h_116 H locs hP hD hS => ?_)
                          obtain ⟨g_117, g_118, rfl, rfl⟩ := h_116
                          have hP : va_P D vwCl (WW ad cJ cI cZ bm pa (g_117, g_118, p0.2.2.1, p0.2.2.2) p1 p2 li wi mt ms ma mp mk mn ou) H := hP
                          have hD : va_D A (WW ad cJ cI cZ bm pa (g_117, g_118, p0.2.2.1, p0.2.2.2) p1 p2 li wi mt ms ma mp mk mn ou) := hD
                          refine lv_iinc (v := (nI (i_2 + 1))) (lv' := [(4, .int (nI (i_2 + 1))), (10, .long v_95), (9, .int (nI k_13)), (8, .int (nI k_13)), (7, .int (bm_b v_34)), (6, .int (nI k_21)), (5, .int (nI k_13)), (0, .ref (ad 0)), (1, .int (nI za)), (2, .int (bm_b zx)), (3, .int (bm_b zu))]) hx hb dX4_clearTheWay_150 hl (k := 6) rfl (nI_1 i_2) (by decide) rfl (fun ls hl => ?_)
                          refine lv_goto (tgt := 3) hx hb dX4_clearTheWay_153 (by decide) ?_
                          exact ih_4 (i_2 + 1) g_117 g_118 (by omega) (by omega)  _ _ hP hD hS _ (lv_sub hl [0, 7, 8, 9, 10] rfl)
                    · refine lv_iload hx hb dX4_clearTheWay_97 (lv_at hl 2 rfl) ?_
                      refine lv_goto (tgt := 104) hx hb dX4_clearTheWay_99 (by decide) ?_
                      refine lv_istore (lv' := [(9, .int (nI k_21)), (8, .int (nI k_13)), (7, .int (bm_b v_34)), (6, .int (nI k_21)), (5, .int (nI k_13)), (4, .int (nI i_2)), (0, .ref (ad 0)), (1, .int (nI za)), (2, .int (bm_b zx)), (3, .int (bm_b zu))]) hx hb dX4_clearTheWay_104 hl (by decide) rfl (fun ls hl => ?_)
                      refine lv_aload_n hx hb dX4_clearTheWay_106 rfl (lv_at hl 6 rfl) ?_
                      refine va_get (D := D) (ci := 4) (v := .ref (ad 8)) (C := RX4) (T := TX4) (N := 10) hx hb hts (inT inX4) hown hK hP 0 ww_0 rfl 5 (by decide) (hts (.fieldLink RX4 37 "BoardMoves" "now" "LBoardMoves$Placement;") (List.mem_cons_of_mem _ flX4_37)) (fun _ h9 => h9) rfl dX4_clearTheWay_107 ?_
                      refine lv_iload hx hb dX4_clearTheWay_110 (lv_at hl 1 rfl) ?_
                      refine lv_iload hx hb dX4_clearTheWay_112 (lv_at hl 0 rfl) ?_
                      refine lv_iload_n hx hb dX4_clearTheWay_114 rfl (lv_at hl 8 rfl) ?_
                      refine lv_iload_n hx hb dX4_clearTheWay_115 rfl (lv_at hl 9 rfl) ?_
                      refine bm_xcallV (As := [.int (nI k_13), .int (nI k_21), .int (bm_b zx), .int (bm_b zu)]) (rest := []) ⟨hx, hb, hml, hown, hts⟩ (x_way (p0 := (g_5, g_6, p0.2.2.1, p0.2.2.2)) (za := k_13) (zb := k_21) (zx := zx) (zu := zu) ok_p0_turn (by omega) (by omega)) (cwV 4 hts gvX4_264 rfl rfl rfl hvX2_wayToBorder ⟨Nat.le_of_ble_eq_true rfl, Nat.le_of_ble_eq_true rfl⟩) hK hP hD hS hA 8 2 rfl ww_8 rfl hl.1 rfl (Nat.le_of_ble_eq_true rfl) dX4_clearTheWay_116 ⟨Nat.le_of_ble_eq_true rfl, Nat.le_of_ble_eq_true rfl⟩ (fun ws_119 r_120 h_121 H locs hP hD hS => ?_)
                      obtain ⟨rfl, v_122, rfl⟩ := h_121
                      have hP : va_P D vwCl (WW ad cJ cI cZ bm pa (g_5, g_6, p0.2.2.1, p0.2.2.2) p1 p2 li wi mt ms ma mp mk mn ou) H := hP
                      have hD : va_D A (WW ad cJ cI cZ bm pa (g_5, g_6, p0.2.2.1, p0.2.2.2) p1 p2 li wi mt ms ma mp mk mn ou) := hD
                      refine lv_lstore (lv' := [(10, .long v_122), (9, .int (nI k_21)), (8, .int (nI k_13)), (7, .int (bm_b v_34)), (6, .int (nI k_21)), (5, .int (nI k_13)), (4, .int (nI i_2)), (0, .ref (ad 0)), (1, .int (nI za)), (2, .int (bm_b zx)), (3, .int (bm_b zu))]) hx hb dX4_clearTheWay_119 hl (by decide) rfl (fun ls hl => ?_)
                      refine lv_aload_n hx hb dX4_clearTheWay_121 rfl (lv_at hl 7 rfl) ?_
                      refine va_get (D := D) (ci := 4) (v := .ref (ad 8)) (C := RX4) (T := TX4) (N := 10) hx hb hts (inT inX4) hown hK hP 0 ww_0 rfl 5 (by decide) (hts (.fieldLink RX4 37 "BoardMoves" "now" "LBoardMoves$Placement;") (List.mem_cons_of_mem _ flX4_37)) (fun _ h9 => h9) rfl dX4_clearTheWay_122 ?_
                      refine lv_iload hx hb dX4_clearTheWay_125 (lv_at hl 2 rfl) ?_
                      refine lv_iload_n hx hb dX4_clearTheWay_127 rfl (lv_at hl 9 rfl) ?_
                      refine bm_zb_eq (x := zx) (tgt := 136) hx hb dX4_clearTheWay_128 (by decide) (fun c_123 => ?_) (fun c_123 => ?_)
                      · refine lv_lconst (v := 0) hx hb dX4_clearTheWay_136 (by decide) ?_
                        refine lv_iload_n hx hb dX4_clearTheWay_137 rfl (lv_at hl 9 rfl) ?_
                        refine bm_zb_eq (x := zx) (tgt := 145) hx hb dX4_clearTheWay_138 (by decide) (fun c_124 => ?_) (fun c_124 => ?_)
                        · refine lv_lload hx hb dX4_clearTheWay_145 (lv_at hl 0 rfl) ?_
                          refine bm_xcallV (As := [.int (nI k_13), .long 0, .long v_122]) (rest := []) ⟨hx, hb, hml, hown, hts⟩ (x_shift (p0 := (g_5, g_6, p0.2.2.1, p0.2.2.2)) (zj := k_13) (z1 := 0) (z2 := v_122) ok_pa_n ok_pa_lowest (by omega)) (cwV 3 hts gvX4_119 rfl rfl rfl hvX2_shiftGroup ⟨Nat.le_of_ble_eq_true rfl, Nat.le_of_ble_eq_true rfl⟩) hK hP hD hS hA 8 2 rfl ww_8 rfl hl.1 rfl (Nat.le_of_ble_eq_true rfl) dX4_clearTheWay_147 ⟨Nat.le_of_ble_eq_true rfl, Nat.le_of_ble_eq_true rfl⟩ (fun ws_125 r_126 h_127 H locs hP hD hS => ?_)
                          obtain ⟨g_128, g_129, rfl, rfl⟩ := h_127
                          have hP : va_P D vwCl (WW ad cJ cI cZ bm pa (g_128, g_129, p0.2.2.1, p0.2.2.2) p1 p2 li wi mt ms ma mp mk mn ou) H := hP
                          have hD : va_D A (WW ad cJ cI cZ bm pa (g_128, g_129, p0.2.2.1, p0.2.2.2) p1 p2 li wi mt ms ma mp mk mn ou) := hD
                          refine lv_iinc (v := (nI (i_2 + 1))) (lv' := [(4, .int (nI (i_2 + 1))), (10, .long v_122), (9, .int (nI k_21)), (8, .int (nI k_13)), (7, .int (bm_b v_34)), (6, .int (nI k_21)), (5, .int (nI k_13)), (0, .ref (ad 0)), (1, .int (nI za)), (2, .int (bm_b zx)), (3, .int (bm_b zu))]) hx hb dX4_clearTheWay_150 hl (k := 6) rfl (nI_1 i_2) (by decide) rfl (fun ls hl => ?_)
                          refine lv_goto (tgt := 3) hx hb dX4_clearTheWay_153 (by decide) ?_
                          exact ih_4 (i_2 + 1) g_128 g_129 (by omega) (by omega)  _ _ hP hD hS _ (lv_sub hl [0, 7, 8, 9, 10] rfl)
                        · refine lv_lconst (v := 0) hx hb dX4_clearTheWay_141 (by decide) ?_
                          refine lv_goto (tgt := 147) hx hb dX4_clearTheWay_142 (by decide) ?_
                          refine bm_xcallV (As := [.int (nI k_13), .long 0, .long 0]) (rest := []) ⟨hx, hb, hml, hown, hts⟩ (x_shift (p0 := (g_5, g_6, p0.2.2.1, p0.2.2.2)) (zj := k_13) (z1 := 0) (z2 := 0) ok_pa_n ok_pa_lowest (by omega)) (cwV 3 hts gvX4_119 rfl rfl rfl hvX2_shiftGroup ⟨Nat.le_of_ble_eq_true rfl, Nat.le_of_ble_eq_true rfl⟩) hK hP hD hS hA 8 2 rfl ww_8 rfl hl.1 rfl (Nat.le_of_ble_eq_true rfl) dX4_clearTheWay_147 ⟨Nat.le_of_ble_eq_true rfl, Nat.le_of_ble_eq_true rfl⟩ (fun ws_130 r_131 h_132 H locs hP hD hS => ?_)
                          obtain ⟨g_133, g_134, rfl, rfl⟩ := h_132
                          have hP : va_P D vwCl (WW ad cJ cI cZ bm pa (g_133, g_134, p0.2.2.1, p0.2.2.2) p1 p2 li wi mt ms ma mp mk mn ou) H := hP
                          have hD : va_D A (WW ad cJ cI cZ bm pa (g_133, g_134, p0.2.2.1, p0.2.2.2) p1 p2 li wi mt ms ma mp mk mn ou) := hD
                          refine lv_iinc (v := (nI (i_2 + 1))) (lv' := [(4, .int (nI (i_2 + 1))), (10, .long v_122), (9, .int (nI k_21)), (8, .int (nI k_13)), (7, .int (bm_b v_34)), (6, .int (nI k_21)), (5, .int (nI k_13)), (0, .ref (ad 0)), (1, .int (nI za)), (2, .int (bm_b zx)), (3, .int (bm_b zu))]) hx hb dX4_clearTheWay_150 hl (k := 6) rfl (nI_1 i_2) (by decide) rfl (fun ls hl => ?_)
                          refine lv_goto (tgt := 3) hx hb dX4_clearTheWay_153 (by decide) ?_
                          exact ih_4 (i_2 + 1) g_133 g_134 (by omega) (by omega)  _ _ hP hD hS _ (lv_sub hl [0, 7, 8, 9, 10] rfl)
                      · refine lv_lload hx hb dX4_clearTheWay_131 (lv_at hl 0 rfl) ?_
                        refine lv_goto (tgt := 137) hx hb dX4_clearTheWay_133 (by decide) ?_
                        refine lv_iload_n hx hb dX4_clearTheWay_137 rfl (lv_at hl 9 rfl) ?_
                        refine bm_zb_eq (x := zx) (tgt := 145) hx hb dX4_clearTheWay_138 (by decide) (fun c_135 => ?_) (fun c_135 => ?_)
                        · refine lv_lload hx hb dX4_clearTheWay_145 (lv_at hl 0 rfl) ?_
                          refine bm_xcallV (As := [.int (nI k_13), .long v_122, .long v_122]) (rest := []) ⟨hx, hb, hml, hown, hts⟩ (x_shift (p0 := (g_5, g_6, p0.2.2.1, p0.2.2.2)) (zj := k_13) (z1 := v_122) (z2 := v_122) ok_pa_n ok_pa_lowest (by omega)) (cwV 3 hts gvX4_119 rfl rfl rfl hvX2_shiftGroup ⟨Nat.le_of_ble_eq_true rfl, Nat.le_of_ble_eq_true rfl⟩) hK hP hD hS hA 8 2 rfl ww_8 rfl hl.1 rfl (Nat.le_of_ble_eq_true rfl) dX4_clearTheWay_147 ⟨Nat.le_of_ble_eq_true rfl, Nat.le_of_ble_eq_true rfl⟩ (fun ws_136 r_137 h_138 H locs hP hD hS => ?_)
                          obtain ⟨g_139, g_140, rfl, rfl⟩ := h_138
                          have hP : va_P D vwCl (WW ad cJ cI cZ bm pa (g_139, g_140, p0.2.2.1, p0.2.2.2) p1 p2 li wi mt ms ma mp mk mn ou) H := hP
                          have hD : va_D A (WW ad cJ cI cZ bm pa (g_139, g_140, p0.2.2.1, p0.2.2.2) p1 p2 li wi mt ms ma mp mk mn ou) := hD
                          refine lv_iinc (v := (nI (i_2 + 1))) (lv' := [(4, .int (nI (i_2 + 1))), (10, .long v_122), (9, .int (nI k_21)), (8, .int (nI k_13)), (7, .int (bm_b v_34)), (6, .int (nI k_21)), (5, .int (nI k_13)), (0, .ref (ad 0)), (1, .int (nI za)), (2, .int (bm_b zx)), (3, .int (bm_b zu))]) hx hb dX4_clearTheWay_150 hl (k := 6) rfl (nI_1 i_2) (by decide) rfl (fun ls hl => ?_)
                          refine lv_goto (tgt := 3) hx hb dX4_clearTheWay_153 (by decide) ?_
                          exact ih_4 (i_2 + 1) g_139 g_140 (by omega) (by omega)  _ _ hP hD hS _ (lv_sub hl [0, 7, 8, 9, 10] rfl)
                        · refine lv_lconst (v := 0) hx hb dX4_clearTheWay_141 (by decide) ?_
                          refine lv_goto (tgt := 147) hx hb dX4_clearTheWay_142 (by decide) ?_
                          refine bm_xcallV (As := [.int (nI k_13), .long v_122, .long 0]) (rest := []) ⟨hx, hb, hml, hown, hts⟩ (x_shift (p0 := (g_5, g_6, p0.2.2.1, p0.2.2.2)) (zj := k_13) (z1 := v_122) (z2 := 0) ok_pa_n ok_pa_lowest (by omega)) (cwV 3 hts gvX4_119 rfl rfl rfl hvX2_shiftGroup ⟨Nat.le_of_ble_eq_true rfl, Nat.le_of_ble_eq_true rfl⟩) hK hP hD hS hA 8 2 rfl ww_8 rfl hl.1 rfl (Nat.le_of_ble_eq_true rfl) dX4_clearTheWay_147 ⟨Nat.le_of_ble_eq_true rfl, Nat.le_of_ble_eq_true rfl⟩ (fun ws_141 r_142 h_143 H locs hP hD hS => ?_)
                          obtain ⟨g_144, g_145, rfl, rfl⟩ := h_143
                          have hP : va_P D vwCl (WW ad cJ cI cZ bm pa (g_144, g_145, p0.2.2.1, p0.2.2.2) p1 p2 li wi mt ms ma mp mk mn ou) H := hP
                          have hD : va_D A (WW ad cJ cI cZ bm pa (g_144, g_145, p0.2.2.1, p0.2.2.2) p1 p2 li wi mt ms ma mp mk mn ou) := hD
                          refine lv_iinc (v := (nI (i_2 + 1))) (lv' := [(4, .int (nI (i_2 + 1))), (10, .long v_122), (9, .int (nI k_21)), (8, .int (nI k_13)), (7, .int (bm_b v_34)), (6, .int (nI k_21)), (5, .int (nI k_13)), (0, .ref (ad 0)), (1, .int (nI za)), (2, .int (bm_b zx)), (3, .int (bm_b zu))]) hx hb dX4_clearTheWay_150 hl (k := 6) rfl (nI_1 i_2) (by decide) rfl (fun ls hl => ?_)
                          refine lv_goto (tgt := 3) hx hb dX4_clearTheWay_153 (by decide) ?_
                          exact ih_4 (i_2 + 1) g_144 g_145 (by omega) (by omega)  _ _ hP hD hS _ (lv_sub hl [0, 7, 8, 9, 10] rfl)
                · refine lv_iconst (v := bm_b false) hx hb dX4_clearTheWay_63 (by decide) ?_
                  exact bm_zretX (v := false) hx hb hr hP hD hK hS ⟨g_5, g_6, rfl, false, rfl⟩ dX4_clearTheWay_64 hlocks
          · exact absurd c_17 (bm_nm1 (by omega))
  exact lp_1 (200 + 1) 0 p0.1 p0.2.1 (by omega) (by omega)  _ _ hP hD hS _ (lv_sub hl [0, 1, 2, 3, 4] rfl)
