set_option maxHeartbeats 16000000 in
set_option maxRecDepth 100000 in
theorem Z_push {l : Launch} {D : va_G} {ad : Nat → Nat} {cJ cI cZ : ClassId} {bm : gBM} {pa : gPA} {p0 p1 p2 : gPL} {li : gLI} {wi : gWI} {mt : Nat} {ms : gMS} {ma : gMA} {mp : gMP} {mk : gMK} {mn : gMN} {ou : Nat → Int64} {zA : Nat} {zB : Int64} {zC : Int64} (hok : okC bm pa p0 p1 p2 li wi) (hk_zA : zA < pa.2.2.2.2.2.2) (hq : p0.2.2.2 zA = true) : bm_Wx l yX4_push wsX4_push ({ frames := 5, cells := 0, slots := 0, locals := 129 }) D vwCl [(cJ, .long), (cI, .int), (cZ, .boolean)] (WW ad cJ cI cZ bm pa p0 p1 p2 li wi mt ms ma mp mk mn ou) [.ref (ad 0), .int (nI zA), .long zB, .long zC] (PCI ad cJ cI cZ bm pa p0 p1 p2 li wi mt ms ma mp mk mn ou) := by
  obtain ⟨ok_pa_n, ok_pa_side, ok_pa_lowest, ok_p0_turn, ok_p1_turn, ok_p2_turn, ok_li_one, ok_li_other, ok_li_keepOuts, ok_li_nears, ok_wi_netOf, ok_wi_partOf, ok_wi_nets, ok_wi_pins, hw, hh⟩ := hok
  intro sz
  refine Met.ofW (cc := cX4_push) (maxL := 13) (ret := (some .int)) (by decide) rfl ?_
  intro p e s m args below meth c s₁ B hml hv
  obtain ⟨ha, hsz, hP, hK, hD0⟩ := hv
  have hx := B.exec
  have hb := B.bytes
  have hr := B.returns
  have hts := atoms_spec (ws := wsX4_push) B.pre
  have hown : s.vm.findClass RX4 = some m.cls := findClass_of_methodNamed B.named
  have hlocks := B.notSynchronized
  subst hsz
  have hD := hD0.self (sz := s.heap.size)
  generalize hAe : va_A (WW ad cJ cI cZ bm pa p0 p1 p2 li wi mt ms ma mp mk mn ou) s.heap.size = A at hD ⊢
  have hA : ∀ q : Nat, s.heap.size ≤ q → A q := fun q h => by rw [← hAe]; exact Or.inr h
  have hS : va_S A s.heap s.heap [] := va_S.rf
  have hl := lv_entry ([.ref (ad 0), .int (nI zA), .long zB, .long zC]) (n := 13) (Nat.le_of_ble_eq_true rfl)
  refine W.eq (g2 := entryFrame m ([.ref (ad 0), .int (nI zA), .long zB, .long zC] : List Value).toArray 13) (by rw [ha]) ?_
  rw [lg_entry_eq]
  generalize (lg_sl ([.ref (ad 0), .int (nI zA), .long zB, .long zC]) ++ List.replicate (13 - (lg_sl ([.ref (ad 0), .int (nI zA), .long zB, .long zC])).length) Slot.unset).toArray = ls at hl ⊢
  have hl : lv_has ls 13 [(0, .ref (ad 0)), (1, .int (nI zA)), (2, .long zB), (4, .long zC)] := hl
  refine lv_aload_n hx hb dX4_push_0 rfl (lv_at hl 0 rfl) ?_
  refine lv_iload_n hx hb dX4_push_1 rfl (lv_at hl 1 rfl) ?_
  refine bm_vcallV (As := [.int (nI zA)]) (rest := []) ⟨hx, hb, hml, hown, hts⟩ (X_needY  (zp := zA) ok_pa_n (by omega)) (cwV 1 hts gvX4_86 rfl rfl rfl hvX4_needPart ⟨Nat.le_of_ble_eq_true rfl, Nat.le_of_ble_eq_true rfl⟩) hK hP 0 4 rfl ww_0 rfl hl.1 rfl (Nat.le_of_ble_eq_true rfl) dX4_push_2 ⟨Nat.le_of_ble_eq_true rfl, Nat.le_of_ble_eq_true rfl⟩ ?_
  refine lv_aload_n hx hb dX4_push_5 rfl (lv_at hl 0 rfl) ?_
  refine va_get (D := D) (ci := 4) (v := .ref (ad 8)) (C := RX4) (T := TX4) (N := 10) hx hb hts (inT inX4) hown hK hP 0 ww_0 rfl 5 (by decide) (hts (.fieldLink RX4 37 "BoardMoves" "now" "LBoardMoves$Placement;") (List.mem_cons_of_mem _ flX4_37)) (fun _ h9 => h9) rfl dX4_push_6 ?_
  refine va_get (D := D) (ci := 2) (v := .ref (ad 12)) (C := RX2) (T := TX2) (N := 5) hx hb hts (inT inX2) hown hK hP 8 ww_8 rfl 4 (by decide) (hts (.fieldLink RX4 96 "BoardMoves$Placement" "placed" "[Z") (List.mem_cons_of_mem _ flX4_96)) (fun _ h9 => h9) rfl dX4_push_9 ?_
  refine lv_iload_n hx hb dX4_push_12 rfl (lv_at hl 1 rfl) ?_
  refine bm_zald (f := p0.2.2.2) hx hb hK hP 12 2 ww_12 rfl (j := zA) (by omega) (by decide) dX4_push_13 ?_
  refine bm_zb_ne (x := (p0.2.2.2 zA)) (tgt := 27) hx hb dX4_push_14 (by decide) (fun c_1 => ?_) (fun c_1 => ?_)
  · refine lv_aload_n hx hb dX4_push_27 rfl (lv_at hl 0 rfl) ?_
    refine lv_iload_n hx hb dX4_push_28 rfl (lv_at hl 1 rfl) ?_
    refine lv_lload_n hx hb dX4_push_29 rfl (lv_at hl 2 rfl) ?_
    refine lv_lload hx hb dX4_push_30 (lv_at hl 3 rfl) ?_
    refine lv_aload_n hx hb dX4_push_32 rfl (lv_at hl 0 rfl) ?_
    refine va_get (D := D) (ci := 4) (v := .ref (ad 8)) (C := RX4) (T := TX4) (N := 10) hx hb hts (inT inX4) hown hK hP 0 ww_0 rfl 5 (by decide) (hts (.fieldLink RX4 37 "BoardMoves" "now" "LBoardMoves$Placement;") (List.mem_cons_of_mem _ flX4_37)) (fun _ h9 => h9) rfl dX4_push_33 ?_
    refine va_get (D := D) (ci := 2) (v := .ref (ad 11)) (C := RX2) (T := TX2) (N := 5) hx hb hts (inT inX2) hown hK hP 8 ww_8 rfl 3 (by decide) (hts (.fieldLink RX4 100 "BoardMoves$Placement" "turn" "[I") (List.mem_cons_of_mem _ flX4_100)) (fun _ h9 => h9) rfl dX4_push_36 ?_
    refine lv_iload_n hx hb dX4_push_39 rfl (lv_at hl 1 rfl) ?_
    refine bm_nald (f := p0.2.2.1) hx hb hK hP 11 1 ww_11 rfl (j := zA) (by omega) (by decide) dX4_push_40 ?_
    refine bm_xcallV (As := [.int (nI zA), .long zB, .long zC, .int (nI (p0.2.2.1 zA))]) (rest := []) ⟨hx, hb, hml, hown, hts⟩ (x_fits  (zj := zA) (z1 := zB) (z2 := zC) (zt := p0.2.2.1 zA)  (by omega) (ok_p0_turn _)) (cwV 4 hts gvX4_92 rfl rfl rfl hvX4_fitsBoard ⟨Nat.le_of_ble_eq_true rfl, Nat.le_of_ble_eq_true rfl⟩) hK hP hD hS hA 0 4 rfl ww_0 rfl hl.1 rfl (Nat.le_of_ble_eq_true rfl) dX4_push_41 ⟨Nat.le_of_ble_eq_true rfl, Nat.le_of_ble_eq_true rfl⟩ (fun ws_2 r_3 h_4 H locs hP hD hS => ?_)
    obtain ⟨rfl, v_5, rfl⟩ := h_4
    have hP : va_P D vwCl (WW ad cJ cI cZ bm pa p0 p1 p2 li wi mt ms ma mp mk mn ou) H := hP
    have hD : va_D A (WW ad cJ cI cZ bm pa p0 p1 p2 li wi mt ms ma mp mk mn ou) := hD
    refine bm_zb_ne (x := v_5) (tgt := 49) hx hb dX4_push_44 (by decide) (fun c_6 => ?_) (fun c_6 => ?_)
    · refine lv_aload_n hx hb dX4_push_49 rfl (lv_at hl 0 rfl) ?_
      refine va_get (D := D) (ci := 4) (v := .ref (ad 13)) (C := RX4) (T := TX4) (N := 10) hx hb hts (inT inX4) hown hK hP 0 ww_0 rfl 6 (by decide) (hts (.fieldLink RX4 41 "BoardMoves" "before" "LBoardMoves$Placement;") (List.mem_cons_of_mem _ flX4_41)) (fun _ h9 => h9) rfl dX4_push_50 ?_
      refine lv_aload_n hx hb dX4_push_53 rfl (lv_at hl 0 rfl) ?_
      refine va_get (D := D) (ci := 4) (v := .ref (ad 8)) (C := RX4) (T := TX4) (N := 10) hx hb hts (inT inX4) hown hK hP 0 ww_0 rfl 5 (by decide) (hts (.fieldLink RX4 37 "BoardMoves" "now" "LBoardMoves$Placement;") (List.mem_cons_of_mem _ flX4_37)) (fun _ h9 => h9) rfl dX4_push_54 ?_
      refine bm_xcallV (As := [.ref (ad 8)]) (rest := []) ⟨hx, hb, hml, hown, hts⟩ (x_cp10   ok_pa_n ok_p1_turn ok_p0_turn ) (cwV 1 hts gvX4_108 rfl rfl rfl hvX2_copyFrom ⟨Nat.le_of_ble_eq_true rfl, Nat.le_of_ble_eq_true rfl⟩) hK hP hD hS hA 13 2 rfl ww_13 rfl hl.1 rfl (Nat.le_of_ble_eq_true rfl) dX4_push_57 ⟨Nat.le_of_ble_eq_true rfl, Nat.le_of_ble_eq_true rfl⟩ (fun ws_7 r_8 h_9 H locs hP hD hS => ?_)
      obtain ⟨g_10, g_11, g_12, g_14, ok_13, rfl, rfl⟩ := h_9
      have hP : va_P D vwCl (WW ad cJ cI cZ bm pa p0 (g_10, g_11, g_12, g_14) p2 li wi mt ms ma mp mk mn ou) H := hP
      have hD : va_D A (WW ad cJ cI cZ bm pa p0 (g_10, g_11, g_12, g_14) p2 li wi mt ms ma mp mk mn ou) := hD
      refine lv_lload_n hx hb dX4_push_60 rfl (lv_at hl 2 rfl) ?_
      refine lv_aload_n hx hb dX4_push_61 rfl (lv_at hl 0 rfl) ?_
      refine va_get (D := D) (ci := 4) (v := .ref (ad 8)) (C := RX4) (T := TX4) (N := 10) hx hb hts (inT inX4) hown hK hP 0 ww_0 rfl 5 (by decide) (hts (.fieldLink RX4 37 "BoardMoves" "now" "LBoardMoves$Placement;") (List.mem_cons_of_mem _ flX4_37)) (fun _ h9 => h9) rfl dX4_push_62 ?_
      refine va_get (D := D) (ci := 2) (v := .ref (ad 9)) (C := RX2) (T := TX2) (N := 5) hx hb hts (inT inX2) hown hK hP 8 ww_8 rfl 1 (by decide) (hts (.fieldLink RX4 112 "BoardMoves$Placement" "x" "[J") (List.mem_cons_of_mem _ flX4_112)) (fun _ h9 => h9) rfl dX4_push_65 ?_
      refine lv_iload_n hx hb dX4_push_68 rfl (lv_at hl 1 rfl) ?_
      refine bm_lald (f := p0.1) hx hb hK hP 9 0 ww_9 rfl (j := zA) (by omega) (by decide) dX4_push_69 ?_
      refine lv_topl (fun t_15 _ => ?_)
      refine lv_lsub hx hb dX4_push_70 ?_
      refine lv_topl (fun t_16 _ => ?_)
      refine lv_lstore (lv' := [(6, .long t_16), (0, .ref (ad 0)), (1, .int (nI zA)), (2, .long zB), (4, .long zC)]) hx hb dX4_push_71 hl (by decide) rfl (fun ls hl => ?_)
      refine lv_lload hx hb dX4_push_73 (lv_at hl 4 rfl) ?_
      refine lv_aload_n hx hb dX4_push_75 rfl (lv_at hl 1 rfl) ?_
      refine va_get (D := D) (ci := 4) (v := .ref (ad 8)) (C := RX4) (T := TX4) (N := 10) hx hb hts (inT inX4) hown hK hP 0 ww_0 rfl 5 (by decide) (hts (.fieldLink RX4 37 "BoardMoves" "now" "LBoardMoves$Placement;") (List.mem_cons_of_mem _ flX4_37)) (fun _ h9 => h9) rfl dX4_push_76 ?_
      refine va_get (D := D) (ci := 2) (v := .ref (ad 10)) (C := RX2) (T := TX2) (N := 5) hx hb hts (inT inX2) hown hK hP 8 ww_8 rfl 2 (by decide) (hts (.fieldLink RX4 116 "BoardMoves$Placement" "y" "[J") (List.mem_cons_of_mem _ flX4_116)) (fun _ h9 => h9) rfl dX4_push_79 ?_
      refine lv_iload_n hx hb dX4_push_82 rfl (lv_at hl 2 rfl) ?_
      refine bm_lald (f := p0.2.1) hx hb hK hP 10 0 ww_10 rfl (j := zA) (by omega) (by decide) dX4_push_83 ?_
      refine lv_topl (fun t_17 _ => ?_)
      refine lv_lsub hx hb dX4_push_84 ?_
      refine lv_topl (fun t_18 _ => ?_)
      refine lv_lstore (lv' := [(8, .long t_18), (6, .long t_16), (0, .ref (ad 0)), (1, .int (nI zA)), (2, .long zB), (4, .long zC)]) hx hb dX4_push_85 hl (by decide) rfl (fun ls hl => ?_)
      refine lv_lload hx hb dX4_push_87 (lv_at hl 1 rfl) ?_
      refine bm_mabsl (rest := []) hx hb (hml.trans hl.1.symm) hown (hts (.methodLink RX4 169 Lib.MathLoose.abs_long.x) (by decide +kernel)) (hts (.static Lib.MathLoose.abs_long.x) (by decide +kernel)) (hts (.initialized "java/lang/Math") (by decide +kernel)) (hts (.code Lib.MathLoose.abs_long.x Lib.MathLoose.abs_long.code 2 (some .long)) (by decide +kernel)) (Nat.le_of_ble_eq_true rfl) (Nat.le_of_ble_eq_true rfl) (Nat.le_of_ble_eq_true rfl) (Nat.le_of_ble_eq_true rfl) dX4_push_89 ?_
      refine lv_topl (fun t_19 _ => ?_)
      refine lv_lload hx hb dX4_push_92 (lv_at hl 0 rfl) ?_
      refine bm_mabsl (rest := [.long t_19]) hx hb (hml.trans hl.1.symm) hown (hts (.methodLink RX4 169 Lib.MathLoose.abs_long.x) (by decide +kernel)) (hts (.static Lib.MathLoose.abs_long.x) (by decide +kernel)) (hts (.initialized "java/lang/Math") (by decide +kernel)) (hts (.code Lib.MathLoose.abs_long.x Lib.MathLoose.abs_long.code 2 (some .long)) (by decide +kernel)) (Nat.le_of_ble_eq_true rfl) (Nat.le_of_ble_eq_true rfl) (Nat.le_of_ble_eq_true rfl) (Nat.le_of_ble_eq_true rfl) dX4_push_94 ?_
      refine lv_topl (fun t_20 _ => ?_)
      refine bm_lc_lt (x := t_19) (y := t_20) (tgt := 105) hx hb dX4_push_97 dX4_push_98 (by decide) (fun c_21 => ?_) (fun c_21 => ?_)
      · refine lv_iconst (v := bm_b false) hx hb dX4_push_105 (by decide) ?_
        refine lv_istore (lv' := [(10, .int (bm_b false)), (8, .long t_18), (6, .long t_16), (0, .ref (ad 0)), (1, .int (nI zA)), (2, .long zB), (4, .long zC)]) hx hb dX4_push_106 hl (by decide) rfl (fun ls hl => ?_)
        refine lv_iload hx hb dX4_push_108 (lv_at hl 0 rfl) ?_
        refine bm_zb_eq (x := false) (tgt := 128) hx hb dX4_push_110 (by decide) (fun c_22 => ?_) (fun c_22 => ?_)
        · refine lv_lload hx hb dX4_push_128 (lv_at hl 1 rfl) ?_
          refine lv_lconst (v := 0) hx hb dX4_push_130 (by decide) ?_
          refine bm_lc_le (x := t_18) (y := 0) (tgt := 139) hx hb dX4_push_131 dX4_push_132 (by decide) (fun c_23 => ?_) (fun c_23 => ?_)
          · refine lv_iconst (v := bm_b false) hx hb dX4_push_139 (by decide) ?_
            refine lv_istore (lv' := [(11, .int (bm_b false)), (10, .int (bm_b false)), (8, .long t_18), (6, .long t_16), (0, .ref (ad 0)), (1, .int (nI zA)), (2, .long zB), (4, .long zC)]) hx hb dX4_push_140 hl (by decide) rfl (fun ls hl => ?_)
            refine lv_aload_n hx hb dX4_push_142 rfl (lv_at hl 4 rfl) ?_
            refine va_get (D := D) (ci := 4) (v := .ref (ad 8)) (C := RX4) (T := TX4) (N := 10) hx hb hts (inT inX4) hown hK hP 0 ww_0 rfl 5 (by decide) (hts (.fieldLink RX4 37 "BoardMoves" "now" "LBoardMoves$Placement;") (List.mem_cons_of_mem _ flX4_37)) (fun _ h9 => h9) rfl dX4_push_143 ?_
            refine lv_iload_n hx hb dX4_push_146 rfl (lv_at hl 5 rfl) ?_
            refine lv_lload hx hb dX4_push_147 (lv_at hl 3 rfl) ?_
            refine lv_lload hx hb dX4_push_149 (lv_at hl 2 rfl) ?_
            refine bm_xcallV (As := [.int (nI zA), .long t_16, .long t_18]) (rest := []) ⟨hx, hb, hml, hown, hts⟩ (x_shift (p1 := (g_10, g_11, g_12, g_14)) (zj := zA) (z1 := t_16) (z2 := t_18) ok_pa_n ok_pa_lowest (by omega)) (cwV 3 hts gvX4_119 rfl rfl rfl hvX2_shiftGroup ⟨Nat.le_of_ble_eq_true rfl, Nat.le_of_ble_eq_true rfl⟩) hK hP hD hS hA 8 2 rfl ww_8 rfl hl.1 rfl (Nat.le_of_ble_eq_true rfl) dX4_push_151 ⟨Nat.le_of_ble_eq_true rfl, Nat.le_of_ble_eq_true rfl⟩ (fun ws_24 r_25 h_26 H locs hP hD hS => ?_)
            obtain ⟨g_27, g_28, rfl, rfl⟩ := h_26
            have hP : va_P D vwCl (WW ad cJ cI cZ bm pa (g_27, g_28, p0.2.2.1, p0.2.2.2) (g_10, g_11, g_12, g_14) p2 li wi mt ms ma mp mk mn ou) H := hP
            have hD : va_D A (WW ad cJ cI cZ bm pa (g_27, g_28, p0.2.2.1, p0.2.2.2) (g_10, g_11, g_12, g_14) p2 li wi mt ms ma mp mk mn ou) := hD
            refine lv_aload_n hx hb dX4_push_154 rfl (lv_at hl 4 rfl) ?_
            refine lv_iload_n hx hb dX4_push_155 rfl (lv_at hl 5 rfl) ?_
            refine lv_iload hx hb dX4_push_156 (lv_at hl 1 rfl) ?_
            refine lv_iload hx hb dX4_push_158 (lv_at hl 0 rfl) ?_
            refine bm_xcallV (As := [.int (nI zA), .int (bm_b false), .int (bm_b false)]) (rest := []) ⟨hx, hb, hml, hown, hts⟩ (x_clear (p0 := (g_27, g_28, p0.2.2.1, p0.2.2.2)) (p1 := (g_10, g_11, g_12, g_14)) (za := zA) (zx := false) (zu := false) ok_pa_n ok_pa_side ok_p0_turn ok_pa_lowest (by omega)) (cwV 3 hts gvX4_173 rfl rfl rfl hvX4_clearTheWay ⟨Nat.le_of_ble_eq_true rfl, Nat.le_of_ble_eq_true rfl⟩) hK hP hD hS hA 0 4 rfl ww_0 rfl hl.1 rfl (Nat.le_of_ble_eq_true rfl) dX4_push_160 ⟨Nat.le_of_ble_eq_true rfl, Nat.le_of_ble_eq_true rfl⟩ (fun ws_29 r_30 h_31 H locs hP hD hS => ?_)
            obtain ⟨g_32, g_33, rfl, v_34, rfl⟩ := h_31
            have hP : va_P D vwCl (WW ad cJ cI cZ bm pa (g_32, g_33, p0.2.2.1, p0.2.2.2) (g_10, g_11, g_12, g_14) p2 li wi mt ms ma mp mk mn ou) H := hP
            have hD : va_D A (WW ad cJ cI cZ bm pa (g_32, g_33, p0.2.2.1, p0.2.2.2) (g_10, g_11, g_12, g_14) p2 li wi mt ms ma mp mk mn ou) := hD
            refine bm_zb_eq (x := v_34) (tgt := 176) hx hb dX4_push_163 (by decide) (fun c_35 => ?_) (fun c_35 => ?_)
            · refine lv_aload_n hx hb dX4_push_176 rfl (lv_at hl 4 rfl) ?_
              refine bm_xcallV (As := []) (rest := []) ⟨hx, hb, hml, hown, hts⟩ (x_back (p0 := (g_32, g_33, p0.2.2.1, p0.2.2.2)) (p1 := (g_10, g_11, g_12, g_14))  ok_pa_n ok_p0_turn ok_13 ) (cwV 0 hts gvX4_177 rfl rfl rfl hvX4_takeBack ⟨Nat.le_of_ble_eq_true rfl, Nat.le_of_ble_eq_true rfl⟩) hK hP hD hS hA 0 4 rfl ww_0 rfl hl.1 rfl (Nat.le_of_ble_eq_true rfl) dX4_push_177 ⟨Nat.le_of_ble_eq_true rfl, Nat.le_of_ble_eq_true rfl⟩ (fun ws_36 r_37 h_38 H locs hP hD hS => ?_)
              obtain ⟨g_39, g_40, g_41, g_43, ok_42, rfl, v_44, rfl⟩ := h_38
              have hP : va_P D vwCl (WW ad cJ cI cZ bm pa (g_39, g_40, g_41, g_43) (g_10, g_11, g_12, g_14) p2 li wi mt ms ma mp mk mn ou) H := hP
              have hD : va_D A (WW ad cJ cI cZ bm pa (g_39, g_40, g_41, g_43) (g_10, g_11, g_12, g_14) p2 li wi mt ms ma mp mk mn ou) := hD
              refine lv_istore (lv' := [(12, .int (bm_b v_44)), (11, .int (bm_b false)), (10, .int (bm_b false)), (8, .long t_18), (6, .long t_16), (0, .ref (ad 0)), (1, .int (nI zA)), (2, .long zB), (4, .long zC)]) hx hb dX4_push_180 hl (by decide) rfl (fun ls hl => ?_)
              refine lv_iload hx hb dX4_push_182 (lv_at hl 0 rfl) ?_
              refine bm_zb_eq (x := v_44) (tgt := 195) hx hb dX4_push_184 (by decide) (fun c_45 => ?_) (fun c_45 => ?_)
              · refine lv_iconst (v := -1) hx hb dX4_push_195 (by decide) ?_
                exact bm_iretX (v := (-1)) hx hb hr hP hD hK hS ⟨bm, pa, (g_39, g_40, g_41, g_43), (g_10, g_11, g_12, g_14), p2, li, wi, ou, ⟨ok_pa_n, ok_pa_side, ok_pa_lowest, ok_42, ok_13, ok_p2_turn, ok_li_one, ok_li_other, ok_li_keepOuts, ok_li_nears, ok_wi_netOf, ok_wi_partOf, ok_wi_nets, ok_wi_pins, hw, hh⟩, rfl, rfl, (-1), rfl⟩ dX4_push_196 hlocks
              · refine lv_aload_n hx hb dX4_push_187 rfl (lv_at hl 5 rfl) ?_
                refine lv_iload_n hx hb dX4_push_188 rfl (lv_at hl 6 rfl) ?_
                refine bm_xcallV (As := [.int (nI zA)]) (rest := []) ⟨hx, hb, hml, hown, hts⟩ (x_changed (p0 := (g_39, g_40, g_41, g_43)) (p1 := (g_10, g_11, g_12, g_14)) (zi := (nI zA)) ok_pa_n ok_42 ok_13 ) (cwV 1 hts gvX4_181 rfl rfl rfl hvX4_countChanged ⟨Nat.le_of_ble_eq_true rfl, Nat.le_of_ble_eq_true rfl⟩) hK hP hD hS hA 0 4 rfl ww_0 rfl hl.1 rfl (Nat.le_of_ble_eq_true rfl) dX4_push_189 ⟨Nat.le_of_ble_eq_true rfl, Nat.le_of_ble_eq_true rfl⟩ (fun ws_46 r_47 h_48 H locs hP hD hS => ?_)
                obtain ⟨rfl, v_49, rfl⟩ := h_48
                have hP : va_P D vwCl (WW ad cJ cI cZ bm pa (g_39, g_40, g_41, g_43) (g_10, g_11, g_12, g_14) p2 li wi mt ms ma mp mk mn ou) H := hP
                have hD : va_D A (WW ad cJ cI cZ bm pa (g_39, g_40, g_41, g_43) (g_10, g_11, g_12, g_14) p2 li wi mt ms ma mp mk mn ou) := hD
                refine lv_goto (tgt := 196) hx hb dX4_push_192 (by decide) ?_
                exact bm_iretX (v := v_49) hx hb hr hP hD hK hS ⟨bm, pa, (g_39, g_40, g_41, g_43), (g_10, g_11, g_12, g_14), p2, li, wi, ou, ⟨ok_pa_n, ok_pa_side, ok_pa_lowest, ok_42, ok_13, ok_p2_turn, ok_li_one, ok_li_other, ok_li_keepOuts, ok_li_nears, ok_wi_netOf, ok_wi_partOf, ok_wi_nets, ok_wi_pins, hw, hh⟩, rfl, rfl, v_49, rfl⟩ dX4_push_196 hlocks
            · refine lv_aload_n hx hb dX4_push_166 rfl (lv_at hl 4 rfl) ?_
              refine lv_ldc2 (v := 9223372036854775807) hx hb hown (hts (.constantLong RX4 127 9223372036854775807) (List.mem_cons_of_mem _ clX4_127)) dX4_push_167 ?_
              refine lv_topl (fun t_50 _ => ?_)
              refine bm_xcallV (As := [.long t_50]) (rest := []) ⟨hx, hb, hml, hown, hts⟩ (x_keep (p0 := (g_32, g_33, p0.2.2.1, p0.2.2.2)) (p1 := (g_10, g_11, g_12, g_14)) (z1 := t_50) ok_pa_n ok_pa_side ok_p0_turn ok_li_keepOuts ok_li_nears ok_li_one ok_li_other ok_13 ok_wi_nets ok_wi_pins ok_wi_netOf ok_wi_partOf ) (cwV 1 hts gvX4_129 rfl rfl rfl hvX4_keepChange ⟨Nat.le_of_ble_eq_true rfl, Nat.le_of_ble_eq_true rfl⟩) hK hP hD hS hA 0 4 rfl ww_0 rfl hl.1 rfl (Nat.le_of_ble_eq_true rfl) dX4_push_170 ⟨Nat.le_of_ble_eq_true rfl, Nat.le_of_ble_eq_true rfl⟩ (fun ws_51 r_52 h_53 H locs hP hD hS => ?_)
              obtain ⟨g_54, g_55, g_56, g_58, g_59, g_60, g_61, g_62, g_63, g_64, ok_57, rfl, v_65, rfl⟩ := h_53
              have hP : va_P D vwCl (WW ad cJ cI cZ (bm.1, bm.2.1, bm.2.2.1, g_64) pa (g_54, g_55, g_56, g_58) (g_10, g_11, g_12, g_14) p2 li (wi.1, wi.2.1, wi.2.2.1, wi.2.2.2.1, g_59, g_60, g_61, g_62, g_63, wi.2.2.2.2.2.2.2.2.2.1, wi.2.2.2.2.2.2.2.2.2.2) mt ms ma mp mk mn ou) H := hP
              have hD : va_D A (WW ad cJ cI cZ (bm.1, bm.2.1, bm.2.2.1, g_64) pa (g_54, g_55, g_56, g_58) (g_10, g_11, g_12, g_14) p2 li (wi.1, wi.2.1, wi.2.2.1, wi.2.2.2.1, g_59, g_60, g_61, g_62, g_63, wi.2.2.2.2.2.2.2.2.2.1, wi.2.2.2.2.2.2.2.2.2.2) mt ms ma mp mk mn ou) := hD
              refine lv_goto (tgt := 180) hx hb dX4_push_173 (by decide) ?_
              refine lv_istore (lv' := [(12, .int (bm_b v_65)), (11, .int (bm_b false)), (10, .int (bm_b false)), (8, .long t_18), (6, .long t_16), (0, .ref (ad 0)), (1, .int (nI zA)), (2, .long zB), (4, .long zC)]) hx hb dX4_push_180 hl (by decide) rfl (fun ls hl => ?_)
              refine lv_iload hx hb dX4_push_182 (lv_at hl 0 rfl) ?_
              refine bm_zb_eq (x := v_65) (tgt := 195) hx hb dX4_push_184 (by decide) (fun c_66 => ?_) (fun c_66 => ?_)
              · refine lv_iconst (v := -1) hx hb dX4_push_195 (by decide) ?_
                exact bm_iretX (v := (-1)) hx hb hr hP hD hK hS ⟨(bm.1, bm.2.1, bm.2.2.1, g_64), pa, (g_54, g_55, g_56, g_58), (g_10, g_11, g_12, g_14), p2, li, (wi.1, wi.2.1, wi.2.2.1, wi.2.2.2.1, g_59, g_60, g_61, g_62, g_63, wi.2.2.2.2.2.2.2.2.2.1, wi.2.2.2.2.2.2.2.2.2.2), ou, ⟨ok_pa_n, ok_pa_side, ok_pa_lowest, ok_57, ok_13, ok_p2_turn, ok_li_one, ok_li_other, ok_li_keepOuts, ok_li_nears, ok_wi_netOf, ok_wi_partOf, ok_wi_nets, ok_wi_pins, hw, hh⟩, rfl, rfl, (-1), rfl⟩ dX4_push_196 hlocks
              · refine lv_aload_n hx hb dX4_push_187 rfl (lv_at hl 5 rfl) ?_
                refine lv_iload_n hx hb dX4_push_188 rfl (lv_at hl 6 rfl) ?_
                refine bm_xcallV (As := [.int (nI zA)]) (rest := []) ⟨hx, hb, hml, hown, hts⟩ (x_changed (bm := (bm.1, bm.2.1, bm.2.2.1, g_64)) (p0 := (g_54, g_55, g_56, g_58)) (p1 := (g_10, g_11, g_12, g_14)) (wi := (wi.1, wi.2.1, wi.2.2.1, wi.2.2.2.1, g_59, g_60, g_61, g_62, g_63, wi.2.2.2.2.2.2.2.2.2.1, wi.2.2.2.2.2.2.2.2.2.2)) (zi := (nI zA)) ok_pa_n ok_57 ok_13 ) (cwV 1 hts gvX4_181 rfl rfl rfl hvX4_countChanged ⟨Nat.le_of_ble_eq_true rfl, Nat.le_of_ble_eq_true rfl⟩) hK hP hD hS hA 0 4 rfl ww_0 rfl hl.1 rfl (Nat.le_of_ble_eq_true rfl) dX4_push_189 ⟨Nat.le_of_ble_eq_true rfl, Nat.le_of_ble_eq_true rfl⟩ (fun ws_67 r_68 h_69 H locs hP hD hS => ?_)
                obtain ⟨rfl, v_70, rfl⟩ := h_69
                have hP : va_P D vwCl (WW ad cJ cI cZ (bm.1, bm.2.1, bm.2.2.1, g_64) pa (g_54, g_55, g_56, g_58) (g_10, g_11, g_12, g_14) p2 li (wi.1, wi.2.1, wi.2.2.1, wi.2.2.2.1, g_59, g_60, g_61, g_62, g_63, wi.2.2.2.2.2.2.2.2.2.1, wi.2.2.2.2.2.2.2.2.2.2) mt ms ma mp mk mn ou) H := hP
                have hD : va_D A (WW ad cJ cI cZ (bm.1, bm.2.1, bm.2.2.1, g_64) pa (g_54, g_55, g_56, g_58) (g_10, g_11, g_12, g_14) p2 li (wi.1, wi.2.1, wi.2.2.1, wi.2.2.2.1, g_59, g_60, g_61, g_62, g_63, wi.2.2.2.2.2.2.2.2.2.1, wi.2.2.2.2.2.2.2.2.2.2) mt ms ma mp mk mn ou) := hD
                refine lv_goto (tgt := 196) hx hb dX4_push_192 (by decide) ?_
                exact bm_iretX (v := v_70) hx hb hr hP hD hK hS ⟨(bm.1, bm.2.1, bm.2.2.1, g_64), pa, (g_54, g_55, g_56, g_58), (g_10, g_11, g_12, g_14), p2, li, (wi.1, wi.2.1, wi.2.2.1, wi.2.2.2.1, g_59, g_60, g_61, g_62, g_63, wi.2.2.2.2.2.2.2.2.2.1, wi.2.2.2.2.2.2.2.2.2.2), ou, ⟨ok_pa_n, ok_pa_side, ok_pa_lowest, ok_57, ok_13, ok_p2_turn, ok_li_one, ok_li_other, ok_li_keepOuts, ok_li_nears, ok_wi_netOf, ok_wi_partOf, ok_wi_nets, ok_wi_pins, hw, hh⟩, rfl, rfl, v_70, rfl⟩ dX4_push_196 hlocks
          · refine lv_iconst (v := bm_b true) hx hb dX4_push_135 (by decide) ?_
            refine lv_goto (tgt := 140) hx hb dX4_push_136 (by decide) ?_
            refine lv_istore (lv' := [(11, .int (bm_b true)), (10, .int (bm_b false)), (8, .long t_18), (6, .long t_16), (0, .ref (ad 0)), (1, .int (nI zA)), (2, .long zB), (4, .long zC)]) hx hb dX4_push_140 hl (by decide) rfl (fun ls hl => ?_)
            refine lv_aload_n hx hb dX4_push_142 rfl (lv_at hl 4 rfl) ?_
            refine va_get (D := D) (ci := 4) (v := .ref (ad 8)) (C := RX4) (T := TX4) (N := 10) hx hb hts (inT inX4) hown hK hP 0 ww_0 rfl 5 (by decide) (hts (.fieldLink RX4 37 "BoardMoves" "now" "LBoardMoves$Placement;") (List.mem_cons_of_mem _ flX4_37)) (fun _ h9 => h9) rfl dX4_push_143 ?_
            refine lv_iload_n hx hb dX4_push_146 rfl (lv_at hl 5 rfl) ?_
            refine lv_lload hx hb dX4_push_147 (lv_at hl 3 rfl) ?_
            refine lv_lload hx hb dX4_push_149 (lv_at hl 2 rfl) ?_
            refine bm_xcallV (As := [.int (nI zA), .long t_16, .long t_18]) (rest := []) ⟨hx, hb, hml, hown, hts⟩ (x_shift (p1 := (g_10, g_11, g_12, g_14)) (zj := zA) (z1 := t_16) (z2 := t_18) ok_pa_n ok_pa_lowest (by omega)) (cwV 3 hts gvX4_119 rfl rfl rfl hvX2_shiftGroup ⟨Nat.le_of_ble_eq_true rfl, Nat.le_of_ble_eq_true rfl⟩) hK hP hD hS hA 8 2 rfl ww_8 rfl hl.1 rfl (Nat.le_of_ble_eq_true rfl) dX4_push_151 ⟨Nat.le_of_ble_eq_true rfl, Nat.le_of_ble_eq_true rfl⟩ (fun ws_71 r_72 h_73 H locs hP hD hS => ?_)
            obtain ⟨g_74, g_75, rfl, rfl⟩ := h_73
            have hP : va_P D vwCl (WW ad cJ cI cZ bm pa (g_74, g_75, p0.2.2.1, p0.2.2.2) (g_10, g_11, g_12, g_14) p2 li wi mt ms ma mp mk mn ou) H := hP
            have hD : va_D A (WW ad cJ cI cZ bm pa (g_74, g_75, p0.2.2.1, p0.2.2.2) (g_10, g_11, g_12, g_14) p2 li wi mt ms ma mp mk mn ou) := hD
            refine lv_aload_n hx hb dX4_push_154 rfl (lv_at hl 4 rfl) ?_
            refine lv_iload_n hx hb dX4_push_155 rfl (lv_at hl 5 rfl) ?_
            refine lv_iload hx hb dX4_push_156 (lv_at hl 1 rfl) ?_
            refine lv_iload hx hb dX4_push_158 (lv_at hl 0 rfl) ?_
            refine bm_xcallV (As := [.int (nI zA), .int (bm_b false), .int (bm_b true)]) (rest := []) ⟨hx, hb, hml, hown, hts⟩ (x_clear (p0 := (g_74, g_75, p0.2.2.1, p0.2.2.2)) (p1 := (g_10, g_11, g_12, g_14)) (za := zA) (zx := false) (zu := true) ok_pa_n ok_pa_side ok_p0_turn ok_pa_lowest (by omega)) (cwV 3 hts gvX4_173 rfl rfl rfl hvX4_clearTheWay ⟨Nat.le_of_ble_eq_true rfl, Nat.le_of_ble_eq_true rfl⟩) hK hP hD hS hA 0 4 rfl ww_0 rfl hl.1 rfl (Nat.le_of_ble_eq_true rfl) dX4_push_160 ⟨Nat.le_of_ble_eq_true rfl, Nat.le_of_ble_eq_true rfl⟩ (fun ws_76 r_77 h_78 H locs hP hD hS => ?_)
            obtain ⟨g_79, g_80, rfl, v_81, rfl⟩ := h_78
            have hP : va_P D vwCl (WW ad cJ cI cZ bm pa (g_79, g_80, p0.2.2.1, p0.2.2.2) (g_10, g_11, g_12, g_14) p2 li wi mt ms ma mp mk mn ou) H := hP
            have hD : va_D A (WW ad cJ cI cZ bm pa (g_79, g_80, p0.2.2.1, p0.2.2.2) (g_10, g_11, g_12, g_14) p2 li wi mt ms ma mp mk mn ou) := hD
            refine bm_zb_eq (x := v_81) (tgt := 176) hx hb dX4_push_163 (by decide) (fun c_82 => ?_) (fun c_82 => ?_)
            · refine lv_aload_n hx hb dX4_push_176 rfl (lv_at hl 4 rfl) ?_
              refine bm_xcallV (As := []) (rest := []) ⟨hx, hb, hml, hown, hts⟩ (x_back (p0 := (g_79, g_80, p0.2.2.1, p0.2.2.2)) (p1 := (g_10, g_11, g_12, g_14))  ok_pa_n ok_p0_turn ok_13 ) (cwV 0 hts gvX4_177 rfl rfl rfl hvX4_takeBack ⟨Nat.le_of_ble_eq_true rfl, Nat.le_of_ble_eq_true rfl⟩) hK hP hD hS hA 0 4 rfl ww_0 rfl hl.1 rfl (Nat.le_of_ble_eq_true rfl) dX4_push_177 ⟨Nat.le_of_ble_eq_true rfl, Nat.le_of_ble_eq_true rfl⟩ (fun ws_83 r_84 h_85 H locs hP hD hS => ?_)
              obtain ⟨g_86, g_87, g_88, g_90, ok_89, rfl, v_91, rfl⟩ := h_85
              have hP : va_P D vwCl (WW ad cJ cI cZ bm pa (g_86, g_87, g_88, g_90) (g_10, g_11, g_12, g_14) p2 li wi mt ms ma mp mk mn ou) H := hP
              have hD : va_D A (WW ad cJ cI cZ bm pa (g_86, g_87, g_88, g_90) (g_10, g_11, g_12, g_14) p2 li wi mt ms ma mp mk mn ou) := hD
              refine lv_istore (lv' := [(12, .int (bm_b v_91)), (11, .int (bm_b true)), (10, .int (bm_b false)), (8, .long t_18), (6, .long t_16), (0, .ref (ad 0)), (1, .int (nI zA)), (2, .long zB), (4, .long zC)]) hx hb dX4_push_180 hl (by decide) rfl (fun ls hl => ?_)
              refine lv_iload hx hb dX4_push_182 (lv_at hl 0 rfl) ?_
              refine bm_zb_eq (x := v_91) (tgt := 195) hx hb dX4_push_184 (by decide) (fun c_92 => ?_) (fun c_92 => ?_)
              · refine lv_iconst (v := -1) hx hb dX4_push_195 (by decide) ?_
                exact bm_iretX (v := (-1)) hx hb hr hP hD hK hS ⟨bm, pa, (g_86, g_87, g_88, g_90), (g_10, g_11, g_12, g_14), p2, li, wi, ou, ⟨ok_pa_n, ok_pa_side, ok_pa_lowest, ok_89, ok_13, ok_p2_turn, ok_li_one, ok_li_other, ok_li_keepOuts, ok_li_nears, ok_wi_netOf, ok_wi_partOf, ok_wi_nets, ok_wi_pins, hw, hh⟩, rfl, rfl, (-1), rfl⟩ dX4_push_196 hlocks
              · refine lv_aload_n hx hb dX4_push_187 rfl (lv_at hl 5 rfl) ?_
                refine lv_iload_n hx hb dX4_push_188 rfl (lv_at hl 6 rfl) ?_
                refine bm_xcallV (As := [.int (nI zA)]) (rest := []) ⟨hx, hb, hml, hown, hts⟩ (x_changed (p0 := (g_86, g_87, g_88, g_90)) (p1 := (g_10, g_11, g_12, g_14)) (zi := (nI zA)) ok_pa_n ok_89 ok_13 ) (cwV 1 hts gvX4_181 rfl rfl rfl hvX4_countChanged ⟨Nat.le_of_ble_eq_true rfl, Nat.le_of_ble_eq_true rfl⟩) hK hP hD hS hA 0 4 rfl ww_0 rfl hl.1 rfl (Nat.le_of_ble_eq_true rfl) dX4_push_189 ⟨Nat.le_of_ble_eq_true rfl, Nat.le_of_ble_eq_true rfl⟩ (fun ws_93 r_94 h_95 H locs hP hD hS => ?_)
                obtain ⟨rfl, v_96, rfl⟩ := h_95
                have hP : va_P D vwCl (WW ad cJ cI cZ bm pa (g_86, g_87, g_88, g_90) (g_10, g_11, g_12, g_14) p2 li wi mt ms ma mp mk mn ou) H := hP
                have hD : va_D A (WW ad cJ cI cZ bm pa (g_86, g_87, g_88, g_90) (g_10, g_11, g_12, g_14) p2 li wi mt ms ma mp mk mn ou) := hD
                refine lv_goto (tgt := 196) hx hb dX4_push_192 (by decide) ?_
                exact bm_iretX (v := v_96) hx hb hr hP hD hK hS ⟨bm, pa, (g_86, g_87, g_88, g_90), (g_10, g_11, g_12, g_14), p2, li, wi, ou, ⟨ok_pa_n, ok_pa_side, ok_pa_lowest, ok_89, ok_13, ok_p2_turn, ok_li_one, ok_li_other, ok_li_keepOuts, ok_li_nears, ok_wi_netOf, ok_wi_partOf, ok_wi_nets, ok_wi_pins, hw, hh⟩, rfl, rfl, v_96, rfl⟩ dX4_push_196 hlocks
            · refine lv_aload_n hx hb dX4_push_166 rfl (lv_at hl 4 rfl) ?_
              refine lv_ldc2 (v := 9223372036854775807) hx hb hown (hts (.constantLong RX4 127 9223372036854775807) (List.mem_cons_of_mem _ clX4_127)) dX4_push_167 ?_
              refine lv_topl (fun t_97 _ => ?_)
              refine bm_xcallV (As := [.long t_97]) (rest := []) ⟨hx, hb, hml, hown, hts⟩ (x_keep (p0 := (g_79, g_80, p0.2.2.1, p0.2.2.2)) (p1 := (g_10, g_11, g_12, g_14)) (z1 := t_97) ok_pa_n ok_pa_side ok_p0_turn ok_li_keepOuts ok_li_nears ok_li_one ok_li_other ok_13 ok_wi_nets ok_wi_pins ok_wi_netOf ok_wi_partOf ) (cwV 1 hts gvX4_129 rfl rfl rfl hvX4_keepChange ⟨Nat.le_of_ble_eq_true rfl, Nat.le_of_ble_eq_true rfl⟩) hK hP hD hS hA 0 4 rfl ww_0 rfl hl.1 rfl (Nat.le_of_ble_eq_true rfl) dX4_push_170 ⟨Nat.le_of_ble_eq_true rfl, Nat.le_of_ble_eq_true rfl⟩ (fun ws_98 r_99 h_100 H locs hP hD hS => ?_)
              obtain ⟨g_101, g_102, g_103, g_105, g_106, g_107, g_108, g_109, g_110, g_111, ok_104, rfl, v_112, rfl⟩ := h_100
              have hP : va_P D vwCl (WW ad cJ cI cZ (bm.1, bm.2.1, bm.2.2.1, g_111) pa (g_101, g_102, g_103, g_105) (g_10, g_11, g_12, g_14) p2 li (wi.1, wi.2.1, wi.2.2.1, wi.2.2.2.1, g_106, g_107, g_108, g_109, g_110, wi.2.2.2.2.2.2.2.2.2.1, wi.2.2.2.2.2.2.2.2.2.2) mt ms ma mp mk mn ou) H := hP
              have hD : va_D A (WW ad cJ cI cZ (bm.1, bm.2.1, bm.2.2.1, g_111) pa (g_101, g_102, g_103, g_105) (g_10, g_11, g_12, g_14) p2 li (wi.1, wi.2.1, wi.2.2.1, wi.2.2.2.1, g_106, g_107, g_108, g_109, g_110, wi.2.2.2.2.2.2.2.2.2.1, wi.2.2.2.2.2.2.2.2.2.2) mt ms ma mp mk mn ou) := hD
              refine lv_goto (tgt := 180) hx hb dX4_push_173 (by decide) ?_
              refine lv_istore (lv' := [(12, .int (bm_b v_112)), (11, .int (bm_b true)), (10, .int (bm_b false)), (8, .long t_18), (6, .long t_16), (0, .ref (ad 0)), (1, .int (nI zA)), (2, .long zB), (4, .long zC)]) hx hb dX4_push_180 hl (by decide) rfl (fun ls hl => ?_)
              refine lv_iload hx hb dX4_push_182 (lv_at hl 0 rfl) ?_
              refine bm_zb_eq (x := v_112) (tgt := 195) hx hb dX4_push_184 (by decide) (fun c_113 => ?_) (fun c_113 => ?_)
              · refine lv_iconst (v := -1) hx hb dX4_push_195 (by decide) ?_
                exact bm_iretX (v := (-1)) hx hb hr hP hD hK hS ⟨(bm.1, bm.2.1, bm.2.2.1, g_111), pa, (g_101, g_102, g_103, g_105), (g_10, g_11, g_12, g_14), p2, li, (wi.1, wi.2.1, wi.2.2.1, wi.2.2.2.1, g_106, g_107, g_108, g_109, g_110, wi.2.2.2.2.2.2.2.2.2.1, wi.2.2.2.2.2.2.2.2.2.2), ou, ⟨ok_pa_n, ok_pa_side, ok_pa_lowest, ok_104, ok_13, ok_p2_turn, ok_li_one, ok_li_other, ok_li_keepOuts, ok_li_nears, ok_wi_netOf, ok_wi_partOf, ok_wi_nets, ok_wi_pins, hw, hh⟩, rfl, rfl, (-1), rfl⟩ dX4_push_196 hlocks
              · refine lv_aload_n hx hb dX4_push_187 rfl (lv_at hl 5 rfl) ?_
                refine lv_iload_n hx hb dX4_push_188 rfl (lv_at hl 6 rfl) ?_
                refine bm_xcallV (As := [.int (nI zA)]) (rest := []) ⟨hx, hb, hml, hown, hts⟩ (x_changed (bm := (bm.1, bm.2.1, bm.2.2.1, g_111)) (p0 := (g_101, g_102, g_103, g_105)) (p1 := (g_10, g_11, g_12, g_14)) (wi := (wi.1, wi.2.1, wi.2.2.1, wi.2.2.2.1, g_106, g_107, g_108, g_109, g_110, wi.2.2.2.2.2.2.2.2.2.1, wi.2.2.2.2.2.2.2.2.2.2)) (zi := (nI zA)) ok_pa_n ok_104 ok_13 ) (cwV 1 hts gvX4_181 rfl rfl rfl hvX4_countChanged ⟨Nat.le_of_ble_eq_true rfl, Nat.le_of_ble_eq_true rfl⟩) hK hP hD hS hA 0 4 rfl ww_0 rfl hl.1 rfl (Nat.le_of_ble_eq_true rfl) dX4_push_189 ⟨Nat.le_of_ble_eq_true rfl, Nat.le_of_ble_eq_true rfl⟩ (fun ws_114 r_115 h_116 H locs hP hD hS => ?_)
                obtain ⟨rfl, v_117, rfl⟩ := h_116
                have hP : va_P D vwCl (WW ad cJ cI cZ (bm.1, bm.2.1, bm.2.2.1, g_111) pa (g_101, g_102, g_103, g_105) (g_10, g_11, g_12, g_14) p2 li (wi.1, wi.2.1, wi.2.2.1, wi.2.2.2.1, g_106, g_107, g_108, g_109, g_110, wi.2.2.2.2.2.2.2.2.2.1, wi.2.2.2.2.2.2.2.2.2.2) mt ms ma mp mk mn ou) H := hP
                have hD : va_D A (WW ad cJ cI cZ (bm.1, bm.2.1, bm.2.2.1, g_111) pa (g_101, g_102, g_103, g_105) (g_10, g_11, g_12, g_14) p2 li (wi.1, wi.2.1, wi.2.2.1, wi.2.2.2.1, g_106, g_107, g_108, g_109, g_110, wi.2.2.2.2.2.2.2.2.2.1, wi.2.2.2.2.2.2.2.2.2.2) mt ms ma mp mk mn ou) := hD
                refine lv_goto (tgt := 196) hx hb dX4_push_192 (by decide) ?_
                exact bm_iretX (v := v_117) hx hb hr hP hD hK hS ⟨(bm.1, bm.2.1, bm.2.2.1, g_111), pa, (g_101, g_102, g_103, g_105), (g_10, g_11, g_12, g_14), p2, li, (wi.1, wi.2.1, wi.2.2.1, wi.2.2.2.1, g_106, g_107, g_108, g_109, g_110, wi.2.2.2.2.2.2.2.2.2.1, wi.2.2.2.2.2.2.2.2.2.2), ou, ⟨ok_pa_n, ok_pa_side, ok_pa_lowest, ok_104, ok_13, ok_p2_turn, ok_li_one, ok_li_other, ok_li_keepOuts, ok_li_nears, ok_wi_netOf, ok_wi_partOf, ok_wi_nets, ok_wi_pins, hw, hh⟩, rfl, rfl, v_117, rfl⟩ dX4_push_196 hlocks
        · exact absurd c_22 (by decide)
      · refine lv_iconst (v := bm_b true) hx hb dX4_push_101 (by decide) ?_
        refine lv_goto (tgt := 106) hx hb dX4_push_102 (by decide) ?_
        refine lv_istore (lv' := [(10, .int (bm_b true)), (8, .long t_18), (6, .long t_16), (0, .ref (ad 0)), (1, .int (nI zA)), (2, .long zB), (4, .long zC)]) hx hb dX4_push_106 hl (by decide) rfl (fun ls hl => ?_)
        refine lv_iload hx hb dX4_push_108 (lv_at hl 0 rfl) ?_
        refine bm_zb_eq (x := true) (tgt := 128) hx hb dX4_push_110 (by decide) (fun c_118 => ?_) (fun c_118 => ?_)
        · exact absurd c_118 (by decide)
        · refine lv_lload hx hb dX4_push_113 (lv_at hl 2 rfl) ?_
          refine lv_lconst (v := 0) hx hb dX4_push_115 (by decide) ?_
          refine bm_lc_le (x := t_16) (y := 0) (tgt := 124) hx hb dX4_push_116 dX4_push_117 (by decide) (fun c_119 => ?_) (fun c_119 => ?_)
          · refine lv_iconst (v := bm_b false) hx hb dX4_push_124 (by decide) ?_
            refine lv_goto (tgt := 140) hx hb dX4_push_125 (by decide) ?_
            refine lv_istore (lv' := [(11, .int (bm_b false)), (10, .int (bm_b true)), (8, .long t_18), (6, .long t_16), (0, .ref (ad 0)), (1, .int (nI zA)), (2, .long zB), (4, .long zC)]) hx hb dX4_push_140 hl (by decide) rfl (fun ls hl => ?_)
            refine lv_aload_n hx hb dX4_push_142 rfl (lv_at hl 4 rfl) ?_
            refine va_get (D := D) (ci := 4) (v := .ref (ad 8)) (C := RX4) (T := TX4) (N := 10) hx hb hts (inT inX4) hown hK hP 0 ww_0 rfl 5 (by decide) (hts (.fieldLink RX4 37 "BoardMoves" "now" "LBoardMoves$Placement;") (List.mem_cons_of_mem _ flX4_37)) (fun _ h9 => h9) rfl dX4_push_143 ?_
            refine lv_iload_n hx hb dX4_push_146 rfl (lv_at hl 5 rfl) ?_
            refine lv_lload hx hb dX4_push_147 (lv_at hl 3 rfl) ?_
            refine lv_lload hx hb dX4_push_149 (lv_at hl 2 rfl) ?_
            refine bm_xcallV (As := [.int (nI zA), .long t_16, .long t_18]) (rest := []) ⟨hx, hb, hml, hown, hts⟩ (x_shift (p1 := (g_10, g_11, g_12, g_14)) (zj := zA) (z1 := t_16) (z2 := t_18) ok_pa_n ok_pa_lowest (by omega)) (cwV 3 hts gvX4_119 rfl rfl rfl hvX2_shiftGroup ⟨Nat.le_of_ble_eq_true rfl, Nat.le_of_ble_eq_true rfl⟩) hK hP hD hS hA 8 2 rfl ww_8 rfl hl.1 rfl (Nat.le_of_ble_eq_true rfl) dX4_push_151 ⟨Nat.le_of_ble_eq_true rfl, Nat.le_of_ble_eq_true rfl⟩ (fun ws_120 r_121 h_122 H locs hP hD hS => ?_)
            obtain ⟨g_123, g_124, rfl, rfl⟩ := h_122
            have hP : va_P D vwCl (WW ad cJ cI cZ bm pa (g_123, g_124, p0.2.2.1, p0.2.2.2) (g_10, g_11, g_12, g_14) p2 li wi mt ms ma mp mk mn ou) H := hP
            have hD : va_D A (WW ad cJ cI cZ bm pa (g_123, g_124, p0.2.2.1, p0.2.2.2) (g_10, g_11, g_12, g_14) p2 li wi mt ms ma mp mk mn ou) := hD
            refine lv_aload_n hx hb dX4_push_154 rfl (lv_at hl 4 rfl) ?_
            refine lv_iload_n hx hb dX4_push_155 rfl (lv_at hl 5 rfl) ?_
            refine lv_iload hx hb dX4_push_156 (lv_at hl 1 rfl) ?_
            refine lv_iload hx hb dX4_push_158 (lv_at hl 0 rfl) ?_
            refine bm_xcallV (As := [.int (nI zA), .int (bm_b true), .int (bm_b false)]) (rest := []) ⟨hx, hb, hml, hown, hts⟩ (x_clear (p0 := (g_123, g_124, p0.2.2.1, p0.2.2.2)) (p1 := (g_10, g_11, g_12, g_14)) (za := zA) (zx := true) (zu := false) ok_pa_n ok_pa_side ok_p0_turn ok_pa_lowest (by omega)) (cwV 3 hts gvX4_173 rfl rfl rfl hvX4_clearTheWay ⟨Nat.le_of_ble_eq_true rfl, Nat.le_of_ble_eq_true rfl⟩) hK hP hD hS hA 0 4 rfl ww_0 rfl hl.1 rfl (Nat.le_of_ble_eq_true rfl) dX4_push_160 ⟨Nat.le_of_ble_eq_true rfl, Nat.le_of_ble_eq_true rfl⟩ (fun ws_125 r_126 h_127 H locs hP hD hS => ?_)
            obtain ⟨g_128, g_129, rfl, v_130, rfl⟩ := h_127
            have hP : va_P D vwCl (WW ad cJ cI cZ bm pa (g_128, g_129, p0.2.2.1, p0.2.2.2) (g_10, g_11, g_12, g_14) p2 li wi mt ms ma mp mk mn ou) H := hP
            have hD : va_D A (WW ad cJ cI cZ bm pa (g_128, g_129, p0.2.2.1, p0.2.2.2) (g_10, g_11, g_12, g_14) p2 li wi mt ms ma mp mk mn ou) := hD
            refine bm_zb_eq (x := v_130) (tgt := 176) hx hb dX4_push_163 (by decide) (fun c_131 => ?_) (fun c_131 => ?_)
            · refine lv_aload_n hx hb dX4_push_176 rfl (lv_at hl 4 rfl) ?_
              refine bm_xcallV (As := []) (rest := []) ⟨hx, hb, hml, hown, hts⟩ (x_back (p0 := (g_128, g_129, p0.2.2.1, p0.2.2.2)) (p1 := (g_10, g_11, g_12, g_14))  ok_pa_n ok_p0_turn ok_13 ) (cwV 0 hts gvX4_177 rfl rfl rfl hvX4_takeBack ⟨Nat.le_of_ble_eq_true rfl, Nat.le_of_ble_eq_true rfl⟩) hK hP hD hS hA 0 4 rfl ww_0 rfl hl.1 rfl (Nat.le_of_ble_eq_true rfl) dX4_push_177 ⟨Nat.le_of_ble_eq_true rfl, Nat.le_of_ble_eq_true rfl⟩ (fun ws_132 r_133 h_134 H locs hP hD hS => ?_)
              obtain ⟨g_135, g_136, g_137, g_139, ok_138, rfl, v_140, rfl⟩ := h_134
              have hP : va_P D vwCl (WW ad cJ cI cZ bm pa (g_135, g_136, g_137, g_139) (g_10, g_11, g_12, g_14) p2 li wi mt ms ma mp mk mn ou) H := hP
              have hD : va_D A (WW ad cJ cI cZ bm pa (g_135, g_136, g_137, g_139) (g_10, g_11, g_12, g_14) p2 li wi mt ms ma mp mk mn ou) := hD
              refine lv_istore (lv' := [(12, .int (bm_b v_140)), (11, .int (bm_b false)), (10, .int (bm_b true)), (8, .long t_18), (6, .long t_16), (0, .ref (ad 0)), (1, .int (nI zA)), (2, .long zB), (4, .long zC)]) hx hb dX4_push_180 hl (by decide) rfl (fun ls hl => ?_)
              refine lv_iload hx hb dX4_push_182 (lv_at hl 0 rfl) ?_
              refine bm_zb_eq (x := v_140) (tgt := 195) hx hb dX4_push_184 (by decide) (fun c_141 => ?_) (fun c_141 => ?_)
              · refine lv_iconst (v := -1) hx hb dX4_push_195 (by decide) ?_
                exact bm_iretX (v := (-1)) hx hb hr hP hD hK hS ⟨bm, pa, (g_135, g_136, g_137, g_139), (g_10, g_11, g_12, g_14), p2, li, wi, ou, ⟨ok_pa_n, ok_pa_side, ok_pa_lowest, ok_138, ok_13, ok_p2_turn, ok_li_one, ok_li_other, ok_li_keepOuts, ok_li_nears, ok_wi_netOf, ok_wi_partOf, ok_wi_nets, ok_wi_pins, hw, hh⟩, rfl, rfl, (-1), rfl⟩ dX4_push_196 hlocks
              · refine lv_aload_n hx hb dX4_push_187 rfl (lv_at hl 5 rfl) ?_
                refine lv_iload_n hx hb dX4_push_188 rfl (lv_at hl 6 rfl) ?_
                refine bm_xcallV (As := [.int (nI zA)]) (rest := []) ⟨hx, hb, hml, hown, hts⟩ (x_changed (p0 := (g_135, g_136, g_137, g_139)) (p1 := (g_10, g_11, g_12, g_14)) (zi := (nI zA)) ok_pa_n ok_138 ok_13 ) (cwV 1 hts gvX4_181 rfl rfl rfl hvX4_countChanged ⟨Nat.le_of_ble_eq_true rfl, Nat.le_of_ble_eq_true rfl⟩) hK hP hD hS hA 0 4 rfl ww_0 rfl hl.1 rfl (Nat.le_of_ble_eq_true rfl) dX4_push_189 ⟨Nat.le_of_ble_eq_true rfl, Nat.le_of_ble_eq_true rfl⟩ (fun ws_142 r_143 h_144 H locs hP hD hS => ?_)
                obtain ⟨rfl, v_145, rfl⟩ := h_144
                have hP : va_P D vwCl (WW ad cJ cI cZ bm pa (g_135, g_136, g_137, g_139) (g_10, g_11, g_12, g_14) p2 li wi mt ms ma mp mk mn ou) H := hP
                have hD : va_D A (WW ad cJ cI cZ bm pa (g_135, g_136, g_137, g_139) (g_10, g_11, g_12, g_14) p2 li wi mt ms ma mp mk mn ou) := hD
                refine lv_goto (tgt := 196) hx hb dX4_push_192 (by decide) ?_
                exact bm_iretX (v := v_145) hx hb hr hP hD hK hS ⟨bm, pa, (g_135, g_136, g_137, g_139), (g_10, g_11, g_12, g_14), p2, li, wi, ou, ⟨ok_pa_n, ok_pa_side, ok_pa_lowest, ok_138, ok_13, ok_p2_turn, ok_li_one, ok_li_other, ok_li_keepOuts, ok_li_nears, ok_wi_netOf, ok_wi_partOf, ok_wi_nets, ok_wi_pins, hw, hh⟩, rfl, rfl, v_145, rfl⟩ dX4_push_196 hlocks
            · refine lv_aload_n hx hb dX4_push_166 rfl (lv_at hl 4 rfl) ?_
              refine lv_ldc2 (v := 9223372036854775807) hx hb hown (hts (.constantLong RX4 127 9223372036854775807) (List.mem_cons_of_mem _ clX4_127)) dX4_push_167 ?_
              refine lv_topl (fun t_146 _ => ?_)
              refine bm_xcallV (As := [.long t_146]) (rest := []) ⟨hx, hb, hml, hown, hts⟩ (x_keep (p0 := (g_128, g_129, p0.2.2.1, p0.2.2.2)) (p1 := (g_10, g_11, g_12, g_14)) (z1 := t_146) ok_pa_n ok_pa_side ok_p0_turn ok_li_keepOuts ok_li_nears ok_li_one ok_li_other ok_13 ok_wi_nets ok_wi_pins ok_wi_netOf ok_wi_partOf ) (cwV 1 hts gvX4_129 rfl rfl rfl hvX4_keepChange ⟨Nat.le_of_ble_eq_true rfl, Nat.le_of_ble_eq_true rfl⟩) hK hP hD hS hA 0 4 rfl ww_0 rfl hl.1 rfl (Nat.le_of_ble_eq_true rfl) dX4_push_170 ⟨Nat.le_of_ble_eq_true rfl, Nat.le_of_ble_eq_true rfl⟩ (fun ws_147 r_148 h_149 H locs hP hD hS => ?_)
              obtain ⟨g_150, g_151, g_152, g_154, g_155, g_156, g_157, g_158, g_159, g_160, ok_153, rfl, v_161, rfl⟩ := h_149
              have hP : va_P D vwCl (WW ad cJ cI cZ (bm.1, bm.2.1, bm.2.2.1, g_160) pa (g_150, g_151, g_152, g_154) (g_10, g_11, g_12, g_14) p2 li (wi.1, wi.2.1, wi.2.2.1, wi.2.2.2.1, g_155, g_156, g_157, g_158, g_159, wi.2.2.2.2.2.2.2.2.2.1, wi.2.2.2.2.2.2.2.2.2.2) mt ms ma mp mk mn ou) H := hP
              have hD : va_D A (WW ad cJ cI cZ (bm.1, bm.2.1, bm.2.2.1, g_160) pa (g_150, g_151, g_152, g_154) (g_10, g_11, g_12, g_14) p2 li (wi.1, wi.2.1, wi.2.2.1, wi.2.2.2.1, g_155, g_156, g_157, g_158, g_159, wi.2.2.2.2.2.2.2.2.2.1, wi.2.2.2.2.2.2.2.2.2.2) mt ms ma mp mk mn ou) := hD
              refine lv_goto (tgt := 180) hx hb dX4_push_173 (by decide) ?_
              refine lv_istore (lv' := [(12, .int (bm_b v_161)), (11, .int (bm_b false)), (10, .int (bm_b true)), (8, .long t_18), (6, .long t_16), (0, .ref (ad 0)), (1, .int (nI zA)), (2, .long zB), (4, .long zC)]) hx hb dX4_push_180 hl (by decide) rfl (fun ls hl => ?_)
              refine lv_iload hx hb dX4_push_182 (lv_at hl 0 rfl) ?_
              refine bm_zb_eq (x := v_161) (tgt := 195) hx hb dX4_push_184 (by decide) (fun c_162 => ?_) (fun c_162 => ?_)
              · refine lv_iconst (v := -1) hx hb dX4_push_195 (by decide) ?_
                exact bm_iretX (v := (-1)) hx hb hr hP hD hK hS ⟨(bm.1, bm.2.1, bm.2.2.1, g_160), pa, (g_150, g_151, g_152, g_154), (g_10, g_11, g_12, g_14), p2, li, (wi.1, wi.2.1, wi.2.2.1, wi.2.2.2.1, g_155, g_156, g_157, g_158, g_159, wi.2.2.2.2.2.2.2.2.2.1, wi.2.2.2.2.2.2.2.2.2.2), ou, ⟨ok_pa_n, ok_pa_side, ok_pa_lowest, ok_153, ok_13, ok_p2_turn, ok_li_one, ok_li_other, ok_li_keepOuts, ok_li_nears, ok_wi_netOf, ok_wi_partOf, ok_wi_nets, ok_wi_pins, hw, hh⟩, rfl, rfl, (-1), rfl⟩ dX4_push_196 hlocks
              · refine lv_aload_n hx hb dX4_push_187 rfl (lv_at hl 5 rfl) ?_
                refine lv_iload_n hx hb dX4_push_188 rfl (lv_at hl 6 rfl) ?_
                refine bm_xcallV (As := [.int (nI zA)]) (rest := []) ⟨hx, hb, hml, hown, hts⟩ (x_changed (bm := (bm.1, bm.2.1, bm.2.2.1, g_160)) (p0 := (g_150, g_151, g_152, g_154)) (p1 := (g_10, g_11, g_12, g_14)) (wi := (wi.1, wi.2.1, wi.2.2.1, wi.2.2.2.1, g_155, g_156, g_157, g_158, g_159, wi.2.2.2.2.2.2.2.2.2.1, wi.2.2.2.2.2.2.2.2.2.2)) (zi := (nI zA)) ok_pa_n ok_153 ok_13 ) (cwV 1 hts gvX4_181 rfl rfl rfl hvX4_countChanged ⟨Nat.le_of_ble_eq_true rfl, Nat.le_of_ble_eq_true rfl⟩) hK hP hD hS hA 0 4 rfl ww_0 rfl hl.1 rfl (Nat.le_of_ble_eq_true rfl) dX4_push_189 ⟨Nat.le_of_ble_eq_true rfl, Nat.le_of_ble_eq_true rfl⟩ (fun ws_163 r_164 h_165 H locs hP hD hS => ?_)
                obtain ⟨rfl, v_166, rfl⟩ := h_165
                have hP : va_P D vwCl (WW ad cJ cI cZ (bm.1, bm.2.1, bm.2.2.1, g_160) pa (g_150, g_151, g_152, g_154) (g_10, g_11, g_12, g_14) p2 li (wi.1, wi.2.1, wi.2.2.1, wi.2.2.2.1, g_155, g_156, g_157, g_158, g_159, wi.2.2.2.2.2.2.2.2.2.1, wi.2.2.2.2.2.2.2.2.2.2) mt ms ma mp mk mn ou) H := hP
                have hD : va_D A (WW ad cJ cI cZ (bm.1, bm.2.1, bm.2.2.1, g_160) pa (g_150, g_151, g_152, g_154) (g_10, g_11, g_12, g_14) p2 li (wi.1, wi.2.1, wi.2.2.1, wi.2.2.2.1, g_155, g_156, g_157, g_158, g_159, wi.2.2.2.2.2.2.2.2.2.1, wi.2.2.2.2.2.2.2.2.2.2) mt ms ma mp mk mn ou) := hD
                refine lv_goto (tgt := 196) hx hb dX4_push_192 (by decide) ?_
                exact bm_iretX (v := v_166) hx hb hr hP hD hK hS ⟨(bm.1, bm.2.1, bm.2.2.1, g_160), pa, (g_150, g_151, g_152, g_154), (g_10, g_11, g_12, g_14), p2, li, (wi.1, wi.2.1, wi.2.2.1, wi.2.2.2.1, g_155, g_156, g_157, g_158, g_159, wi.2.2.2.2.2.2.2.2.2.1, wi.2.2.2.2.2.2.2.2.2.2), ou, ⟨ok_pa_n, ok_pa_side, ok_pa_lowest, ok_153, ok_13, ok_p2_turn, ok_li_one, ok_li_other, ok_li_keepOuts, ok_li_nears, ok_wi_netOf, ok_wi_partOf, ok_wi_nets, ok_wi_pins, hw, hh⟩, rfl, rfl, v_166, rfl⟩ dX4_push_196 hlocks
          · refine lv_iconst (v := bm_b true) hx hb dX4_push_120 (by decide) ?_
            refine lv_goto (tgt := 140) hx hb dX4_push_121 (by decide) ?_
            refine lv_istore (lv' := [(11, .int (bm_b true)), (10, .int (bm_b true)), (8, .long t_18), (6, .long t_16), (0, .ref (ad 0)), (1, .int (nI zA)), (2, .long zB), (4, .long zC)]) hx hb dX4_push_140 hl (by decide) rfl (fun ls hl => ?_)
            refine lv_aload_n hx hb dX4_push_142 rfl (lv_at hl 4 rfl) ?_
            refine va_get (D := D) (ci := 4) (v := .ref (ad 8)) (C := RX4) (T := TX4) (N := 10) hx hb hts (inT inX4) hown hK hP 0 ww_0 rfl 5 (by decide) (hts (.fieldLink RX4 37 "BoardMoves" "now" "LBoardMoves$Placement;") (List.mem_cons_of_mem _ flX4_37)) (fun _ h9 => h9) rfl dX4_push_143 ?_
            refine lv_iload_n hx hb dX4_push_146 rfl (lv_at hl 5 rfl) ?_
            refine lv_lload hx hb dX4_push_147 (lv_at hl 3 rfl) ?_
            refine lv_lload hx hb dX4_push_149 (lv_at hl 2 rfl) ?_
            refine bm_xcallV (As := [.int (nI zA), .long t_16, .long t_18]) (rest := []) ⟨hx, hb, hml, hown, hts⟩ (x_shift (p1 := (g_10, g_11, g_12, g_14)) (zj := zA) (z1 := t_16) (z2 := t_18) ok_pa_n ok_pa_lowest (by omega)) (cwV 3 hts gvX4_119 rfl rfl rfl hvX2_shiftGroup ⟨Nat.le_of_ble_eq_true rfl, Nat.le_of_ble_eq_true rfl⟩) hK hP hD hS hA 8 2 rfl ww_8 rfl hl.1 rfl (Nat.le_of_ble_eq_true rfl) dX4_push_151 ⟨Nat.le_of_ble_eq_true rfl, Nat.le_of_ble_eq_true rfl⟩ (fun ws_167 r_168 h_169 H locs hP hD hS => ?_)
            obtain ⟨g_170, g_171, rfl, rfl⟩ := h_169
            have hP : va_P D vwCl (WW ad cJ cI cZ bm pa (g_170, g_171, p0.2.2.1, p0.2.2.2) (g_10, g_11, g_12, g_14) p2 li wi mt ms ma mp mk mn ou) H := hP
            have hD : va_D A (WW ad cJ cI cZ bm pa (g_170, g_171, p0.2.2.1, p0.2.2.2) (g_10, g_11, g_12, g_14) p2 li wi mt ms ma mp mk mn ou) := hD
            refine lv_aload_n hx hb dX4_push_154 rfl (lv_at hl 4 rfl) ?_
            refine lv_iload_n hx hb dX4_push_155 rfl (lv_at hl 5 rfl) ?_
            refine lv_iload hx hb dX4_push_156 (lv_at hl 1 rfl) ?_
            refine lv_iload hx hb dX4_push_158 (lv_at hl 0 rfl) ?_
            refine bm_xcallV (As := [.int (nI zA), .int (bm_b true), .int (bm_b true)]) (rest := []) ⟨hx, hb, hml, hown, hts⟩ (x_clear (p0 := (g_170, g_171, p0.2.2.1, p0.2.2.2)) (p1 := (g_10, g_11, g_12, g_14)) (za := zA) (zx := true) (zu := true) ok_pa_n ok_pa_side ok_p0_turn ok_pa_lowest (by omega)) (cwV 3 hts gvX4_173 rfl rfl rfl hvX4_clearTheWay ⟨Nat.le_of_ble_eq_true rfl, Nat.le_of_ble_eq_true rfl⟩) hK hP hD hS hA 0 4 rfl ww_0 rfl hl.1 rfl (Nat.le_of_ble_eq_true rfl) dX4_push_160 ⟨Nat.le_of_ble_eq_true rfl, Nat.le_of_ble_eq_true rfl⟩ (fun ws_172 r_173 h_174 H locs hP hD hS => ?_)
            obtain ⟨g_175, g_176, rfl, v_177, rfl⟩ := h_174
            have hP : va_P D vwCl (WW ad cJ cI cZ bm pa (g_175, g_176, p0.2.2.1, p0.2.2.2) (g_10, g_11, g_12, g_14) p2 li wi mt ms ma mp mk mn ou) H := hP
            have hD : va_D A (WW ad cJ cI cZ bm pa (g_175, g_176, p0.2.2.1, p0.2.2.2) (g_10, g_11, g_12, g_14) p2 li wi mt ms ma mp mk mn ou) := hD
            refine bm_zb_eq (x := v_177) (tgt := 176) hx hb dX4_push_163 (by decide) (fun c_178 => ?_) (fun c_178 => ?_)
            · refine lv_aload_n hx hb dX4_push_176 rfl (lv_at hl 4 rfl) ?_
              refine bm_xcallV (As := []) (rest := []) ⟨hx, hb, hml, hown, hts⟩ (x_back (p0 := (g_175, g_176, p0.2.2.1, p0.2.2.2)) (p1 := (g_10, g_11, g_12, g_14))  ok_pa_n ok_p0_turn ok_13 ) (cwV 0 hts gvX4_177 rfl rfl rfl hvX4_takeBack ⟨Nat.le_of_ble_eq_true rfl, Nat.le_of_ble_eq_true rfl⟩) hK hP hD hS hA 0 4 rfl ww_0 rfl hl.1 rfl (Nat.le_of_ble_eq_true rfl) dX4_push_177 ⟨Nat.le_of_ble_eq_true rfl, Nat.le_of_ble_eq_true rfl⟩ (fun ws_179 r_180 h_181 H locs hP hD hS => ?_)
              obtain ⟨g_182, g_183, g_184, g_186, ok_185, rfl, v_187, rfl⟩ := h_181
              have hP : va_P D vwCl (WW ad cJ cI cZ bm pa (g_182, g_183, g_184, g_186) (g_10, g_11, g_12, g_14) p2 li wi mt ms ma mp mk mn ou) H := hP
              have hD : va_D A (WW ad cJ cI cZ bm pa (g_182, g_183, g_184, g_186) (g_10, g_11, g_12, g_14) p2 li wi mt ms ma mp mk mn ou) := hD
              refine lv_istore (lv' := [(12, .int (bm_b v_187)), (11, .int (bm_b true)), (10, .int (bm_b true)), (8, .long t_18), (6, .long t_16), (0, .ref (ad 0)), (1, .int (nI zA)), (2, .long zB), (4, .long zC)]) hx hb dX4_push_180 hl (by decide) rfl (fun ls hl => ?_)
              refine lv_iload hx hb dX4_push_182 (lv_at hl 0 rfl) ?_
              refine bm_zb_eq (x := v_187) (tgt := 195) hx hb dX4_push_184 (by decide) (fun c_188 => ?_) (fun c_188 => ?_)
              · refine lv_iconst (v := -1) hx hb dX4_push_195 (by decide) ?_
                exact bm_iretX (v := (-1)) hx hb hr hP hD hK hS ⟨bm, pa, (g_182, g_183, g_184, g_186), (g_10, g_11, g_12, g_14), p2, li, wi, ou, ⟨ok_pa_n, ok_pa_side, ok_pa_lowest, ok_185, ok_13, ok_p2_turn, ok_li_one, ok_li_other, ok_li_keepOuts, ok_li_nears, ok_wi_netOf, ok_wi_partOf, ok_wi_nets, ok_wi_pins, hw, hh⟩, rfl, rfl, (-1), rfl⟩ dX4_push_196 hlocks
              · refine lv_aload_n hx hb dX4_push_187 rfl (lv_at hl 5 rfl) ?_
                refine lv_iload_n hx hb dX4_push_188 rfl (lv_at hl 6 rfl) ?_
                refine bm_xcallV (As := [.int (nI zA)]) (rest := []) ⟨hx, hb, hml, hown, hts⟩ (x_changed (p0 := (g_182, g_183, g_184, g_186)) (p1 := (g_10, g_11, g_12, g_14)) (zi := (nI zA)) ok_pa_n ok_185 ok_13 ) (cwV 1 hts gvX4_181 rfl rfl rfl hvX4_countChanged ⟨Nat.le_of_ble_eq_true rfl, Nat.le_of_ble_eq_true rfl⟩) hK hP hD hS hA 0 4 rfl ww_0 rfl hl.1 rfl (Nat.le_of_ble_eq_true rfl) dX4_push_189 ⟨Nat.le_of_ble_eq_true rfl, Nat.le_of_ble_eq_true rfl⟩ (fun ws_189 r_190 h_191 H locs hP hD hS => ?_)
                obtain ⟨rfl, v_192, rfl⟩ := h_191
                have hP : va_P D vwCl (WW ad cJ cI cZ bm pa (g_182, g_183, g_184, g_186) (g_10, g_11, g_12, g_14) p2 li wi mt ms ma mp mk mn ou) H := hP
                have hD : va_D A (WW ad cJ cI cZ bm pa (g_182, g_183, g_184, g_186) (g_10, g_11, g_12, g_14) p2 li wi mt ms ma mp mk mn ou) := hD
                refine lv_goto (tgt := 196) hx hb dX4_push_192 (by decide) ?_
                exact bm_iretX (v := v_192) hx hb hr hP hD hK hS ⟨bm, pa, (g_182, g_183, g_184, g_186), (g_10, g_11, g_12, g_14), p2, li, wi, ou, ⟨ok_pa_n, ok_pa_side, ok_pa_lowest, ok_185, ok_13, ok_p2_turn, ok_li_one, ok_li_other, ok_li_keepOuts, ok_li_nears, ok_wi_netOf, ok_wi_partOf, ok_wi_nets, ok_wi_pins, hw, hh⟩, rfl, rfl, v_192, rfl⟩ dX4_push_196 hlocks
            · refine lv_aload_n hx hb dX4_push_166 rfl (lv_at hl 4 rfl) ?_
              refine lv_ldc2 (v := 9223372036854775807) hx hb hown (hts (.constantLong RX4 127 9223372036854775807) (List.mem_cons_of_mem _ clX4_127)) dX4_push_167 ?_
              refine lv_topl (fun t_193 _ => ?_)
              refine bm_xcallV (As := [.long t_193]) (rest := []) ⟨hx, hb, hml, hown, hts⟩ (x_keep (p0 := (g_175, g_176, p0.2.2.1, p0.2.2.2)) (p1 := (g_10, g_11, g_12, g_14)) (z1 := t_193) ok_pa_n ok_pa_side ok_p0_turn ok_li_keepOuts ok_li_nears ok_li_one ok_li_other ok_13 ok_wi_nets ok_wi_pins ok_wi_netOf ok_wi_partOf ) (cwV 1 hts gvX4_129 rfl rfl rfl hvX4_keepChange ⟨Nat.le_of_ble_eq_true rfl, Nat.le_of_ble_eq_true rfl⟩) hK hP hD hS hA 0 4 rfl ww_0 rfl hl.1 rfl (Nat.le_of_ble_eq_true rfl) dX4_push_170 ⟨Nat.le_of_ble_eq_true rfl, Nat.le_of_ble_eq_true rfl⟩ (fun ws_194 r_195 h_196 H locs hP hD hS => ?_)
              obtain ⟨g_197, g_198, g_199, g_201, g_202, g_203, g_204, g_205, g_206, g_207, ok_200, rfl, v_208, rfl⟩ := h_196
              have hP : va_P D vwCl (WW ad cJ cI cZ (bm.1, bm.2.1, bm.2.2.1, g_207) pa (g_197, g_198, g_199, g_201) (g_10, g_11, g_12, g_14) p2 li (wi.1, wi.2.1, wi.2.2.1, wi.2.2.2.1, g_202, g_203, g_204, g_205, g_206, wi.2.2.2.2.2.2.2.2.2.1, wi.2.2.2.2.2.2.2.2.2.2) mt ms ma mp mk mn ou) H := hP
              have hD : va_D A (WW ad cJ cI cZ (bm.1, bm.2.1, bm.2.2.1, g_207) pa (g_197, g_198, g_199, g_201) (g_10, g_11, g_12, g_14) p2 li (wi.1, wi.2.1, wi.2.2.1, wi.2.2.2.1, g_202, g_203, g_204, g_205, g_206, wi.2.2.2.2.2.2.2.2.2.1, wi.2.2.2.2.2.2.2.2.2.2) mt ms ma mp mk mn ou) := hD
              refine lv_goto (tgt := 180) hx hb dX4_push_173 (by decide) ?_
              refine lv_istore (lv' := [(12, .int (bm_b v_208)), (11, .int (bm_b true)), (10, .int (bm_b true)), (8, .long t_18), (6, .long t_16), (0, .ref (ad 0)), (1, .int (nI zA)), (2, .long zB), (4, .long zC)]) hx hb dX4_push_180 hl (by decide) rfl (fun ls hl => ?_)
              refine lv_iload hx hb dX4_push_182 (lv_at hl 0 rfl) ?_
              refine bm_zb_eq (x := v_208) (tgt := 195) hx hb dX4_push_184 (by decide) (fun c_209 => ?_) (fun c_209 => ?_)
              · refine lv_iconst (v := -1) hx hb dX4_push_195 (by decide) ?_
                exact bm_iretX (v := (-1)) hx hb hr hP hD hK hS ⟨(bm.1, bm.2.1, bm.2.2.1, g_207), pa, (g_197, g_198, g_199, g_201), (g_10, g_11, g_12, g_14), p2, li, (wi.1, wi.2.1, wi.2.2.1, wi.2.2.2.1, g_202, g_203, g_204, g_205, g_206, wi.2.2.2.2.2.2.2.2.2.1, wi.2.2.2.2.2.2.2.2.2.2), ou, ⟨ok_pa_n, ok_pa_side, ok_pa_lowest, ok_200, ok_13, ok_p2_turn, ok_li_one, ok_li_other, ok_li_keepOuts, ok_li_nears, ok_wi_netOf, ok_wi_partOf, ok_wi_nets, ok_wi_pins, hw, hh⟩, rfl, rfl, (-1), rfl⟩ dX4_push_196 hlocks
              · refine lv_aload_n hx hb dX4_push_187 rfl (lv_at hl 5 rfl) ?_
                refine lv_iload_n hx hb dX4_push_188 rfl (lv_at hl 6 rfl) ?_
                refine bm_xcallV (As := [.int (nI zA)]) (rest := []) ⟨hx, hb, hml, hown, hts⟩ (x_changed (bm := (bm.1, bm.2.1, bm.2.2.1, g_207)) (p0 := (g_197, g_198, g_199, g_201)) (p1 := (g_10, g_11, g_12, g_14)) (wi := (wi.1, wi.2.1, wi.2.2.1, wi.2.2.2.1, g_202, g_203, g_204, g_205, g_206, wi.2.2.2.2.2.2.2.2.2.1, wi.2.2.2.2.2.2.2.2.2.2)) (zi := (nI zA)) ok_pa_n ok_200 ok_13 ) (cwV 1 hts gvX4_181 rfl rfl rfl hvX4_countChanged ⟨Nat.le_of_ble_eq_true rfl, Nat.le_of_ble_eq_true rfl⟩) hK hP hD hS hA 0 4 rfl ww_0 rfl hl.1 rfl (Nat.le_of_ble_eq_true rfl) dX4_push_189 ⟨Nat.le_of_ble_eq_true rfl, Nat.le_of_ble_eq_true rfl⟩ (fun ws_210 r_211 h_212 H locs hP hD hS => ?_)
                obtain ⟨rfl, v_213, rfl⟩ := h_212
                have hP : va_P D vwCl (WW ad cJ cI cZ (bm.1, bm.2.1, bm.2.2.1, g_207) pa (g_197, g_198, g_199, g_201) (g_10, g_11, g_12, g_14) p2 li (wi.1, wi.2.1, wi.2.2.1, wi.2.2.2.1, g_202, g_203, g_204, g_205, g_206, wi.2.2.2.2.2.2.2.2.2.1, wi.2.2.2.2.2.2.2.2.2.2) mt ms ma mp mk mn ou) H := hP
                have hD : va_D A (WW ad cJ cI cZ (bm.1, bm.2.1, bm.2.2.1, g_207) pa (g_197, g_198, g_199, g_201) (g_10, g_11, g_12, g_14) p2 li (wi.1, wi.2.1, wi.2.2.1, wi.2.2.2.1, g_202, g_203, g_204, g_205, g_206, wi.2.2.2.2.2.2.2.2.2.1, wi.2.2.2.2.2.2.2.2.2.2) mt ms ma mp mk mn ou) := hD
                refine lv_goto (tgt := 196) hx hb dX4_push_192 (by decide) ?_
                exact bm_iretX (v := v_213) hx hb hr hP hD hK hS ⟨(bm.1, bm.2.1, bm.2.2.1, g_207), pa, (g_197, g_198, g_199, g_201), (g_10, g_11, g_12, g_14), p2, li, (wi.1, wi.2.1, wi.2.2.1, wi.2.2.2.1, g_202, g_203, g_204, g_205, g_206, wi.2.2.2.2.2.2.2.2.2.1, wi.2.2.2.2.2.2.2.2.2.2), ou, ⟨ok_pa_n, ok_pa_side, ok_pa_lowest, ok_200, ok_13, ok_p2_turn, ok_li_one, ok_li_other, ok_li_keepOuts, ok_li_nears, ok_wi_netOf, ok_wi_partOf, ok_wi_nets, ok_wi_pins, hw, hh⟩, rfl, rfl, v_213, rfl⟩ dX4_push_196 hlocks
    · refine lv_iconst (v := -1) hx hb dX4_push_47 (by decide) ?_
      exact bm_iretX (v := (-1)) hx hb hr hP hD hK hS ⟨bm, pa, p0, p1, p2, li, wi, ou, ⟨ok_pa_n, ok_pa_side, ok_pa_lowest, ok_p0_turn, ok_p1_turn, ok_p2_turn, ok_li_one, ok_li_other, ok_li_keepOuts, ok_li_nears, ok_wi_netOf, ok_wi_partOf, ok_wi_nets, ok_wi_pins, hw, hh⟩, rfl, rfl, (-1), rfl⟩ dX4_push_48 hlocks
  · exact absurd (hq.symm.trans c_1) (by decide)
