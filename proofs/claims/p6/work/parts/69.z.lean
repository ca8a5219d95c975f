set_option maxHeartbeats 16000000 in
set_option maxRecDepth 100000 in
theorem Z_put {l : Launch} {D : va_G} {ad : Nat → Nat} {cJ cI cZ : ClassId} {bm : gBM} {pa : gPA} {p0 p1 p2 : gPL} {li : gLI} {wi : gWI} {mt : Nat} {ms : gMS} {ma : gMA} {mp : gMP} {mk : gMK} {mn : gMN} {ou : Nat → Int64} {zA : Nat} {zB : Int64} {zC : Int64} {zD : Nat} (hok : okC bm pa p0 p1 p2 li wi) (hk_zA : zA < pa.2.2.2.2.2.2) (hd : zD < 4) : bm_Wx l yX4_put wsX4_put ({ frames := 5, cells := 0, slots := 0, locals := 122 }) D vwCl [(cJ, .long), (cI, .int), (cZ, .boolean)] (WW ad cJ cI cZ bm pa p0 p1 p2 li wi mt ms ma mp mk mn ou) [.ref (ad 0), .int (nI zA), .long zB, .long zC, .int (nI zD)] (PCZ ad cJ cI cZ bm pa p0 p1 p2 li wi mt ms ma mp mk mn ou) := by
  obtain ⟨ok_pa_n, ok_pa_side, ok_pa_lowest, ok_p0_turn, ok_p1_turn, ok_p2_turn, ok_li_one, ok_li_other, ok_li_keepOuts, ok_li_nears, ok_wi_netOf, ok_wi_partOf, ok_wi_nets, ok_wi_pins, hw, hh⟩ := hok
  intro sz
  refine Met.ofW (cc := cX4_put) (maxL := 7) (ret := (some .boolean)) (by decide) rfl ?_
  intro p e s m args below meth c s₁ B hml hv
  obtain ⟨ha, hsz, hP, hK, hD0⟩ := hv
  have hx := B.exec
  have hb := B.bytes
  have hr := B.returns
  have hts := atoms_spec (ws := wsX4_put) B.pre
  have hown : s.vm.findClass RX4 = some m.cls := findClass_of_methodNamed B.named
  have hlocks := B.notSynchronized
  subst hsz
  have hD := hD0.self (sz := s.heap.size)
  generalize hAe : va_A (WW ad cJ cI cZ bm pa p0 p1 p2 li wi mt ms ma mp mk mn ou) s.heap.size = A at hD ⊢
  have hA : ∀ q : Nat, s.heap.size ≤ q → A q := fun q h => by rw [← hAe]; exact Or.inr h
  have hS : va_S A s.heap s.heap [] := va_S.rf
  have hl := lv_entry ([.ref (ad 0), .int (nI zA), .long zB, .long zC, .int (nI zD)]) (n := 7) (Nat.le_of_ble_eq_true rfl)
  refine W.eq (g2 := entryFrame m ([.ref (ad 0), .int (nI zA), .long zB, .long zC, .int (nI zD)] : List Value).toArray 7) (by rw [ha]) ?_
  rw [lg_entry_eq]
  generalize (lg_sl ([.ref (ad 0), .int (nI zA), .long zB, .long zC, .int (nI zD)]) ++ List.replicate (7 - (lg_sl ([.ref (ad 0), .int (nI zA), .long zB, .long zC, .int (nI zD)])).length) Slot.unset).toArray = ls at hl ⊢
  have hl : lv_has ls 7 [(0, .ref (ad 0)), (1, .int (nI zA)), (2, .long zB), (4, .long zC), (6, .int (nI zD))] := hl
  refine lv_aload_n hx hb dX4_put_0 rfl (lv_at hl 0 rfl) ?_
  refine lv_iload_n hx hb dX4_put_1 rfl (lv_at hl 1 rfl) ?_
  refine bm_vcallV (As := [.int (nI zA)]) (rest := []) ⟨hx, hb, hml, hown, hts⟩ (X_needY  (zp := zA) ok_pa_n (by omega)) (cwV 1 hts gvX4_86 rfl rfl rfl hvX4_needPart ⟨Nat.le_of_ble_eq_true rfl, Nat.le_of_ble_eq_true rfl⟩) hK hP 0 4 rfl ww_0 rfl hl.1 rfl (Nat.le_of_ble_eq_true rfl) dX4_put_2 ⟨Nat.le_of_ble_eq_true rfl, Nat.le_of_ble_eq_true rfl⟩ ?_
  refine lv_iload hx hb dX4_put_5 (lv_at hl 4 rfl) ?_
  refine lv_if_lt (x := (nI zD)) (tgt := 16) hx hb dX4_put_7 (by decide) (fun c_1 => ?_) (fun c_1 => ?_)
  · exact absurd c_1 (bx_nn (by omega))
  · refine lv_iload hx hb dX4_put_10 (lv_at hl 4 rfl) ?_
    refine lv_iconst (v := nI 4) hx hb dX4_put_12 (by decide) ?_
    refine bm_ni_lt (x := zD) (y := 4) (tgt := 26) hx hb (by omega) (by omega) dX4_put_13 (by decide) (fun c_2 => ?_) (fun c_2 => ?_)
    · refine lv_aload_n hx hb dX4_put_26 rfl (lv_at hl 0 rfl) ?_
      refine lv_iload_n hx hb dX4_put_27 rfl (lv_at hl 1 rfl) ?_
      refine lv_lload_n hx hb dX4_put_28 rfl (lv_at hl 2 rfl) ?_
      refine lv_lload hx hb dX4_put_29 (lv_at hl 3 rfl) ?_
      refine lv_iload hx hb dX4_put_31 (lv_at hl 4 rfl) ?_
      refine bm_xcallV (As := [.int (nI zA), .long zB, .long zC, .int (nI zD)]) (rest := []) ⟨hx, hb, hml, hown, hts⟩ (x_fits  (zj := zA) (z1 := zB) (z2 := zC) (zt := zD)  (by omega) (by omega)) (cwV 4 hts gvX4_92 rfl rfl rfl hvX4_fitsBoard ⟨Nat.le_of_ble_eq_true rfl, Nat.le_of_ble_eq_true rfl⟩) hK hP hD hS hA 0 4 rfl ww_0 rfl hl.1 rfl (Nat.le_of_ble_eq_true rfl) dX4_put_33 ⟨Nat.le_of_ble_eq_true rfl, Nat.le_of_ble_eq_true rfl⟩ (fun ws_3 r_4 h_5 H locs hP hD hS => ?_)
      obtain ⟨rfl, v_6, rfl⟩ := h_5
      have hP : va_P D vwCl (WW ad cJ cI cZ bm pa p0 p1 p2 li wi mt ms ma mp mk mn ou) H := hP
      have hD : va_D A (WW ad cJ cI cZ bm pa p0 p1 p2 li wi mt ms ma mp mk mn ou) := hD
      refine bm_zb_ne (x := v_6) (tgt := 41) hx hb dX4_put_36 (by decide) (fun c_7 => ?_) (fun c_7 => ?_)
      · refine lv_aload_n hx hb dX4_put_41 rfl (lv_at hl 0 rfl) ?_
        refine va_get (D := D) (ci := 4) (v := .ref (ad 8)) (C := RX4) (T := TX4) (N := 10) hx hb hts (inT inX4) hown hK hP 0 ww_0 rfl 5 (by decide) (hts (.fieldLink RX4 37 "BoardMoves" "now" "LBoardMoves$Placement;") (List.mem_cons_of_mem _ flX4_37)) (fun _ h9 => h9) rfl dX4_put_42 ?_
        refine va_get (D := D) (ci := 2) (v := .ref (ad 12)) (C := RX2) (T := TX2) (N := 5) hx hb hts (inT inX2) hown hK hP 8 ww_8 rfl 4 (by decide) (hts (.fieldLink RX4 96 "BoardMoves$Placement" "placed" "[Z") (List.mem_cons_of_mem _ flX4_96)) (fun _ h9 => h9) rfl dX4_put_45 ?_
        refine lv_iload_n hx hb dX4_put_48 rfl (lv_at hl 1 rfl) ?_
        refine bm_zald (f := p0.2.2.2) hx hb hK hP 12 2 ww_12 rfl (j := zA) (by omega) (by decide) dX4_put_49 ?_
        refine bm_zb_eq (x := (p0.2.2.2 zA)) (tgt := 80) hx hb dX4_put_50 (by decide) (fun c_8 => ?_) (fun c_8 => ?_)
        · refine lv_aload_n hx hb dX4_put_80 rfl (lv_at hl 0 rfl) ?_
          refine va_get (D := D) (ci := 4) (v := .ref (ad 13)) (C := RX4) (T := TX4) (N := 10) hx hb hts (inT inX4) hown hK hP 0 ww_0 rfl 6 (by decide) (hts (.fieldLink RX4 41 "BoardMoves" "before" "LBoardMoves$Placement;") (List.mem_cons_of_mem _ flX4_41)) (fun _ h9 => h9) rfl dX4_put_81 ?_
          refine lv_aload_n hx hb dX4_put_84 rfl (lv_at hl 0 rfl) ?_
          refine va_get (D := D) (ci := 4) (v := .ref (ad 8)) (C := RX4) (T := TX4) (N := 10) hx hb hts (inT inX4) hown hK hP 0 ww_0 rfl 5 (by decide) (hts (.fieldLink RX4 37 "BoardMoves" "now" "LBoardMoves$Placement;") (List.mem_cons_of_mem _ flX4_37)) (fun _ h9 => h9) rfl dX4_put_85 ?_
          refine bm_xcallV (As := [.ref (ad 8)]) (rest := []) ⟨hx, hb, hml, hown, hts⟩ (x_cp10   ok_pa_n ok_p1_turn ok_p0_turn ) (cwV 1 hts gvX4_108 rfl rfl rfl hvX2_copyFrom ⟨Nat.le_of_ble_eq_true rfl, Nat.le_of_ble_eq_true rfl⟩) hK hP hD hS hA 13 2 rfl ww_13 rfl hl.1 rfl (Nat.le_of_ble_eq_true rfl) dX4_put_88 ⟨Nat.le_of_ble_eq_true rfl, Nat.le_of_ble_eq_true rfl⟩ (fun ws_9 r_10 h_11 H locs hP hD hS => ?_)
          obtain ⟨g_12, g_13, g_14, g_16, ok_15, rfl, rfl⟩ := h_11
          have hP : va_P D vwCl (WW ad cJ cI cZ bm pa p0 (g_12, g_13, g_14, g_16) p2 li wi mt ms ma mp mk mn ou) H := hP
          have hD : va_D A (WW ad cJ cI cZ bm pa p0 (g_12, g_13, g_14, g_16) p2 li wi mt ms ma mp mk mn ou) := hD
          refine lv_aload_n hx hb dX4_put_91 rfl (lv_at hl 0 rfl) ?_
          refine va_get (D := D) (ci := 4) (v := .ref (ad 8)) (C := RX4) (T := TX4) (N := 10) hx hb hts (inT inX4) hown hK hP 0 ww_0 rfl 5 (by decide) (hts (.fieldLink RX4 37 "BoardMoves" "now" "LBoardMoves$Placement;") (List.mem_cons_of_mem _ flX4_37)) (fun _ h9 => h9) rfl dX4_put_92 ?_
          refine va_get (D := D) (ci := 2) (v := .ref (ad 12)) (C := RX2) (T := TX2) (N := 5) hx hb hts (inT inX2) hown hK hP 8 ww_8 rfl 4 (by decide) (hts (.fieldLink RX4 96 "BoardMoves$Placement" "placed" "[Z") (List.mem_cons_of_mem _ flX4_96)) (fun _ h9 => h9) rfl dX4_put_95 ?_
          refine lv_iload_n hx hb dX4_put_98 rfl (lv_at hl 1 rfl) ?_
          refine bm_zald (f := p0.2.2.2) hx hb hK hP 12 2 ww_12 rfl (j := zA) (by omega) (by decide) dX4_put_99 ?_
          refine bm_zb_eq (x := (p0.2.2.2 zA)) (tgt := 148) hx hb dX4_put_100 (by decide) (fun c_17 => ?_) (fun c_17 => ?_)
          · refine lv_aload_n hx hb dX4_put_148 rfl (lv_at hl 0 rfl) ?_
            refine va_get (D := D) (ci := 4) (v := .ref (ad 8)) (C := RX4) (T := TX4) (N := 10) hx hb hts (inT inX4) hown hK hP 0 ww_0 rfl 5 (by decide) (hts (.fieldLink RX4 37 "BoardMoves" "now" "LBoardMoves$Placement;") (List.mem_cons_of_mem _ flX4_37)) (fun _ h9 => h9) rfl dX4_put_149 ?_
            refine lv_iload_n hx hb dX4_put_152 rfl (lv_at hl 1 rfl) ?_
            refine lv_lload_n hx hb dX4_put_153 rfl (lv_at hl 2 rfl) ?_
            refine lv_lload hx hb dX4_put_154 (lv_at hl 3 rfl) ?_
            refine lv_iload hx hb dX4_put_156 (lv_at hl 4 rfl) ?_
            refine bm_xcallV (As := [.int (nI zA), .long zB, .long zC, .int (nI zD)]) (rest := []) ⟨hx, hb, hml, hown, hts⟩ (x_place (p1 := (g_12, g_13, g_14, g_16)) (zj := zA) (z1 := zB) (z2 := zC) (zt := zD) ok_p0_turn (by omega) (by omega)) (cwV 4 hts gvX4_123 rfl rfl rfl hvX2_place ⟨Nat.le_of_ble_eq_true rfl, Nat.le_of_ble_eq_true rfl⟩) hK hP hD hS hA 8 2 rfl ww_8 rfl hl.1 rfl (Nat.le_of_ble_eq_true rfl) dX4_put_158 ⟨Nat.le_of_ble_eq_true rfl, Nat.le_of_ble_eq_true rfl⟩ (fun ws_18 r_19 h_20 H locs hP hD hS => ?_)
            obtain ⟨g_21, g_22, g_23, g_25, ok_24, rfl, rfl⟩ := h_20
            have hP : va_P D vwCl (WW ad cJ cI cZ bm pa (g_21, g_22, g_23, g_25) (g_12, g_13, g_14, g_16) p2 li wi mt ms ma mp mk mn ou) H := hP
            have hD : va_D A (WW ad cJ cI cZ bm pa (g_21, g_22, g_23, g_25) (g_12, g_13, g_14, g_16) p2 li wi mt ms ma mp mk mn ou) := hD
            refine lv_aload_n hx hb dX4_put_161 rfl (lv_at hl 0 rfl) ?_
            refine lv_ldc2 (v := 9223372036854775807) hx hb hown (hts (.constantLong RX4 127 9223372036854775807) (List.mem_cons_of_mem _ clX4_127)) dX4_put_162 ?_
            refine lv_topl (fun t_26 _ => ?_)
            refine bm_xcallV (As := [.long t_26]) (rest := []) ⟨hx, hb, hml, hown, hts⟩ (x_keep (p0 := (g_21, g_22, g_23, g_25)) (p1 := (g_12, g_13, g_14, g_16)) (z1 := t_26) ok_pa_n ok_pa_side ok_24 ok_li_keepOuts ok_li_nears ok_li_one ok_li_other ok_15 ok_wi_nets ok_wi_pins ok_wi_netOf ok_wi_partOf ) (cwV 1 hts gvX4_129 rfl rfl rfl hvX4_keepChange ⟨Nat.le_of_ble_eq_true rfl, Nat.le_of_ble_eq_true rfl⟩) hK hP hD hS hA 0 4 rfl ww_0 rfl hl.1 rfl (Nat.le_of_ble_eq_true rfl) dX4_put_165 ⟨Nat.le_of_ble_eq_true rfl, Nat.le_of_ble_eq_true rfl⟩ (fun ws_27 r_28 h_29 H locs hP hD hS => ?_)
            obtain ⟨g_30, g_31, g_32, g_34, g_35, g_36, g_37, g_38, g_39, g_40, ok_33, rfl, v_41, rfl⟩ := h_29
            have hP : va_P D vwCl (WW ad cJ cI cZ (bm.1, bm.2.1, bm.2.2.1, g_40) pa (g_30, g_31, g_32, g_34) (g_12, g_13, g_14, g_16) p2 li (wi.1, wi.2.1, wi.2.2.1, wi.2.2.2.1, g_35, g_36, g_37, g_38, g_39, wi.2.2.2.2.2.2.2.2.2.1, wi.2.2.2.2.2.2.2.2.2.2) mt ms ma mp mk mn ou) H := hP
            have hD : va_D A (WW ad cJ cI cZ (bm.1, bm.2.1, bm.2.2.1, g_40) pa (g_30, g_31, g_32, g_34) (g_12, g_13, g_14, g_16) p2 li (wi.1, wi.2.1, wi.2.2.1, wi.2.2.2.1, g_35, g_36, g_37, g_38, g_39, wi.2.2.2.2.2.2.2.2.2.1, wi.2.2.2.2.2.2.2.2.2.2) mt ms ma mp mk mn ou) := hD
            exact bm_zretX (v := v_41) hx hb hr hP hD hK hS ⟨(bm.1, bm.2.1, bm.2.2.1, g_40), pa, (g_30, g_31, g_32, g_34), (g_12, g_13, g_14, g_16), p2, li, (wi.1, wi.2.1, wi.2.2.1, wi.2.2.2.1, g_35, g_36, g_37, g_38, g_39, wi.2.2.2.2.2.2.2.2.2.1, wi.2.2.2.2.2.2.2.2.2.2), ou, ⟨ok_pa_n, ok_pa_side, ok_pa_lowest, ok_33, ok_15, ok_p2_turn, ok_li_one, ok_li_other, ok_li_keepOuts, ok_li_nears, ok_wi_netOf, ok_wi_partOf, ok_wi_nets, ok_wi_pins, hw, hh⟩, rfl, rfl, v_41, rfl⟩ dX4_put_168 hlocks
          · refine lv_aload_n hx hb dX4_put_103 rfl (lv_at hl 0 rfl) ?_
            refine va_get (D := D) (ci := 4) (v := .ref (ad 8)) (C := RX4) (T := TX4) (N := 10) hx hb hts (inT inX4) hown hK hP 0 ww_0 rfl 5 (by decide) (hts (.fieldLink RX4 37 "BoardMoves" "now" "LBoardMoves$Placement;") (List.mem_cons_of_mem _ flX4_37)) (fun _ h9 => h9) rfl dX4_put_104 ?_
            refine lv_iload_n hx hb dX4_put_107 rfl (lv_at hl 1 rfl) ?_
            refine lv_lload_n hx hb dX4_put_108 rfl (lv_at hl 2 rfl) ?_
            refine lv_aload_n hx hb dX4_put_109 rfl (lv_at hl 0 rfl) ?_
            refine va_get (D := D) (ci := 4) (v := .ref (ad 8)) (C := RX4) (T := TX4) (N := 10) hx hb hts (inT inX4) hown hK hP 0 ww_0 rfl 5 (by decide) (hts (.fieldLink RX4 37 "BoardMoves" "now" "LBoardMoves$Placement;") (List.mem_cons_of_mem _ flX4_37)) (fun _ h9 => h9) rfl dX4_put_110 ?_
            refine va_get (D := D) (ci := 2) (v := .ref (ad 9)) (C := RX2) (T := TX2) (N := 5) hx hb hts (inT inX2) hown hK hP 8 ww_8 rfl 1 (by decide) (hts (.fieldLink RX4 112 "BoardMoves$Placement" "x" "[J") (List.mem_cons_of_mem _ flX4_112)) (fun _ h9 => h9) rfl dX4_put_113 ?_
            refine lv_iload_n hx hb dX4_put_116 rfl (lv_at hl 1 rfl) ?_
            refine bm_lald (f := p0.1) hx hb hK hP 9 0 ww_9 rfl (j := zA) (by omega) (by decide) dX4_put_117 ?_
            refine lv_topl (fun t_42 _ => ?_)
            refine lv_lsub hx hb dX4_put_118 ?_
            refine lv_topl (fun t_43 _ => ?_)
            refine lv_lload hx hb dX4_put_119 (lv_at hl 3 rfl) ?_
            refine lv_aload_n hx hb dX4_put_121 rfl (lv_at hl 0 rfl) ?_
            refine va_get (D := D) (ci := 4) (v := .ref (ad 8)) (C := RX4) (T := TX4) (N := 10) hx hb hts (inT inX4) hown hK hP 0 ww_0 rfl 5 (by decide) (hts (.fieldLink RX4 37 "BoardMoves" "now" "LBoardMoves$Placement;") (List.mem_cons_of_mem _ flX4_37)) (fun _ h9 => h9) rfl dX4_put_122 ?_
            refine va_get (D := D) (ci := 2) (v := .ref (ad 10)) (C := RX2) (T := TX2) (N := 5) hx hb hts (inT inX2) hown hK hP 8 ww_8 rfl 2 (by decide) (hts (.fieldLink RX4 116 "BoardMoves$Placement" "y" "[J") (List.mem_cons_of_mem _ flX4_116)) (fun _ h9 => h9) rfl dX4_put_125 ?_
            refine lv_iload_n hx hb dX4_put_128 rfl (lv_at hl 1 rfl) ?_
            refine bm_lald (f := p0.2.1) hx hb hK hP 10 0 ww_10 rfl (j := zA) (by omega) (by decide) dX4_put_129 ?_
            refine lv_topl (fun t_44 _ => ?_)
            refine lv_lsub hx hb dX4_put_130 ?_
            refine lv_topl (fun t_45 _ => ?_)
            refine bm_xcallV (As := [.int (nI zA), .long t_43, .long t_45]) (rest := []) ⟨hx, hb, hml, hown, hts⟩ (x_shift (p1 := (g_12, g_13, g_14, g_16)) (zj := zA) (z1 := t_43) (z2 := t_45) ok_pa_n ok_pa_lowest (by omega)) (cwV 3 hts gvX4_119 rfl rfl rfl hvX2_shiftGroup ⟨Nat.le_of_ble_eq_true rfl, Nat.le_of_ble_eq_true rfl⟩) hK hP hD hS hA 8 2 rfl ww_8 rfl hl.1 rfl (Nat.le_of_ble_eq_true rfl) dX4_put_131 ⟨Nat.le_of_ble_eq_true rfl, Nat.le_of_ble_eq_true rfl⟩ (fun ws_46 r_47 h_48 H locs hP hD hS => ?_)
            obtain ⟨g_49, g_50, rfl, rfl⟩ := h_48
            have hP : va_P D vwCl (WW ad cJ cI cZ bm pa (g_49, g_50, p0.2.2.1, p0.2.2.2) (g_12, g_13, g_14, g_16) p2 li wi mt ms ma mp mk mn ou) H := hP
            have hD : va_D A (WW ad cJ cI cZ bm pa (g_49, g_50, p0.2.2.1, p0.2.2.2) (g_12, g_13, g_14, g_16) p2 li wi mt ms ma mp mk mn ou) := hD
            refine lv_aload_n hx hb dX4_put_134 rfl (lv_at hl 0 rfl) ?_
            refine va_get (D := D) (ci := 4) (v := .ref (ad 8)) (C := RX4) (T := TX4) (N := 10) hx hb hts (inT inX4) hown hK hP 0 ww_0 rfl 5 (by decide) (hts (.fieldLink RX4 37 "BoardMoves" "now" "LBoardMoves$Placement;") (List.mem_cons_of_mem _ flX4_37)) (fun _ h9 => h9) rfl dX4_put_135 ?_
            refine va_get (D := D) (ci := 2) (v := .ref (ad 11)) (C := RX2) (T := TX2) (N := 5) hx hb hts (inT inX2) hown hK hP 8 ww_8 rfl 3 (by decide) (hts (.fieldLink RX4 100 "BoardMoves$Placement" "turn" "[I") (List.mem_cons_of_mem _ flX4_100)) (fun _ h9 => h9) rfl dX4_put_138 ?_
            refine lv_iload_n hx hb dX4_put_141 rfl (lv_at hl 1 rfl) ?_
            refine lv_iload hx hb dX4_put_142 (lv_at hl 4 rfl) ?_
            refine bm_nast (f := p0.2.2.1) hx hb hK hP hD hS 11 1 ww_11 rfl (j := zA) (x := zD) (by omega) (by decide) dX4_put_144 (fun H locs hP hD hS => ?_)
            have hP : va_P D vwCl (WW ad cJ cI cZ bm pa (g_49, g_50, va_up p0.2.2.1 zA zD, p0.2.2.2) (g_12, g_13, g_14, g_16) p2 li wi mt ms ma mp mk mn ou) H := hP
            have hD : va_D A (WW ad cJ cI cZ bm pa (g_49, g_50, va_up p0.2.2.1 zA zD, p0.2.2.2) (g_12, g_13, g_14, g_16) p2 li wi mt ms ma mp mk mn ou) := hD
            refine lv_goto (tgt := 161) hx hb dX4_put_145 (by decide) ?_
            refine lv_aload_n hx hb dX4_put_161 rfl (lv_at hl 0 rfl) ?_
            refine lv_ldc2 (v := 9223372036854775807) hx hb hown (hts (.constantLong RX4 127 9223372036854775807) (List.mem_cons_of_mem _ clX4_127)) dX4_put_162 ?_
            refine lv_topl (fun t_51 _ => ?_)
            refine bm_xcallV (As := [.long t_51]) (rest := []) ⟨hx, hb, hml, hown, hts⟩ (x_keep (p0 := (g_49, g_50, va_up p0.2.2.1 zA zD, p0.2.2.2)) (p1 := (g_12, g_13, g_14, g_16)) (z1 := t_51) ok_pa_n ok_pa_side (bx_uplt ok_p0_turn (by omega)) ok_li_keepOuts ok_li_nears ok_li_one ok_li_other ok_15 ok_wi_nets ok_wi_pins ok_wi_netOf ok_wi_partOf ) (cwV 1 hts gvX4_129 rfl rfl rfl hvX4_keepChange ⟨Nat.le_of_ble_eq_true rfl, Nat.le_of_ble_eq_true rfl⟩) hK hP hD hS hA 0 4 rfl ww_0 rfl hl.1 rfl (Nat.le_of_ble_eq_true rfl) dX4_put_165 ⟨Nat.le_of_ble_eq_true rfl, Nat.le_of_ble_eq_true rfl⟩ (fun ws_52 r_53 h_54 H locs hP hD hS => ?_)
            obtain ⟨g_55, g_56, g_57, g_59, g_60, g_61, g_62, g_63, g_64, g_65, ok_58, rfl, v_66, rfl⟩ := h_54
            have hP : va_P D vwCl (WW ad cJ cI cZ (bm.1, bm.2.1, bm.2.2.1, g_65) pa (g_55, g_56, g_57, g_59) (g_12, g_13, g_14, g_16) p2 li (wi.1, wi.2.1, wi.2.2.1, wi.2.2.2.1, g_60, g_61, g_62, g_63, g_64, wi.2.2.2.2.2.2.2.2.2.1, wi.2.2.2.2.2.2.2.2.2.2) mt ms ma mp mk mn ou) H := hP
            have hD : va_D A (WW ad cJ cI cZ (bm.1, bm.2.1, bm.2.2.1, g_65) pa (g_55, g_56, g_57, g_59) (g_12, g_13, g_14, g_16) p2 li (wi.1, wi.2.1, wi.2.2.1, wi.2.2.2.1, g_60, g_61, g_62, g_63, g_64, wi.2.2.2.2.2.2.2.2.2.1, wi.2.2.2.2.2.2.2.2.2.2) mt ms ma mp mk mn ou) := hD
            exact bm_zretX (v := v_66) hx hb hr hP hD hK hS ⟨(bm.1, bm.2.1, bm.2.2.1, g_65), pa, (g_55, g_56, g_57, g_59), (g_12, g_13, g_14, g_16), p2, li, (wi.1, wi.2.1, wi.2.2.1, wi.2.2.2.1, g_60, g_61, g_62, g_63, g_64, wi.2.2.2.2.2.2.2.2.2.1, wi.2.2.2.2.2.2.2.2.2.2), ou, ⟨ok_pa_n, ok_pa_side, ok_pa_lowest, ok_58, ok_15, ok_p2_turn, ok_li_one, ok_li_other, ok_li_keepOuts, ok_li_nears, ok_wi_netOf, ok_wi_partOf, ok_wi_nets, ok_wi_pins, hw, hh⟩, rfl, rfl, v_66, rfl⟩ dX4_put_168 hlocks
        · refine lv_iload hx hb dX4_put_53 (lv_at hl 4 rfl) ?_
          refine lv_aload_n hx hb dX4_put_55 rfl (lv_at hl 0 rfl) ?_
          refine va_get (D := D) (ci := 4) (v := .ref (ad 8)) (C := RX4) (T := TX4) (N := 10) hx hb hts (inT inX4) hown hK hP 0 ww_0 rfl 5 (by decide) (hts (.fieldLink RX4 37 "BoardMoves" "now" "LBoardMoves$Placement;") (List.mem_cons_of_mem _ flX4_37)) (fun _ h9 => h9) rfl dX4_put_56 ?_
          refine va_get (D := D) (ci := 2) (v := .ref (ad 11)) (C := RX2) (T := TX2) (N := 5) hx hb hts (inT inX2) hown hK hP 8 ww_8 rfl 3 (by decide) (hts (.fieldLink RX4 100 "BoardMoves$Placement" "turn" "[I") (List.mem_cons_of_mem _ flX4_100)) (fun _ h9 => h9) rfl dX4_put_59 ?_
          refine lv_iload_n hx hb dX4_put_62 rfl (lv_at hl 1 rfl) ?_
          refine bm_nald (f := p0.2.2.1) hx hb hK hP 11 1 ww_11 rfl (j := zA) (by omega) (by decide) dX4_put_63 ?_
          refine bm_ni_eq (x := zD) (y := (p0.2.2.1 zA)) (tgt := 80) hx hb (by omega) (bm40 (ok_p0_turn _)) dX4_put_64 (by decide) (fun c_67 => ?_) (fun c_67 => ?_)
          · refine lv_aload_n hx hb dX4_put_80 rfl (lv_at hl 0 rfl) ?_
            refine va_get (D := D) (ci := 4) (v := .ref (ad 13)) (C := RX4) (T := TX4) (N := 10) hx hb hts (inT inX4) hown hK hP 0 ww_0 rfl 6 (by decide) (hts (.fieldLink RX4 41 "BoardMoves" "before" "LBoardMoves$Placement;") (List.mem_cons_of_mem _ flX4_41)) (fun _ h9 => h9) rfl dX4_put_81 ?_
            refine lv_aload_n hx hb dX4_put_84 rfl (lv_at hl 0 rfl) ?_
            refine va_get (D := D) (ci := 4) (v := .ref (ad 8)) (C := RX4) (T := TX4) (N := 10) hx hb hts (inT inX4) hown hK hP 0 ww_0 rfl 5 (by decide) (hts (.fieldLink RX4 37 "BoardMoves" "now" "LBoardMoves$Placement;") (List.mem_cons_of_mem _ flX4_37)) (fun _ h9 => h9) rfl dX4_put_85 ?_
            refine bm_xcallV (As := [.ref (ad 8)]) (rest := []) ⟨hx, hb, hml, hown, hts⟩ (x_cp10   ok_pa_n ok_p1_turn ok_p0_turn ) (cwV 1 hts gvX4_108 rfl rfl rfl hvX2_copyFrom ⟨Nat.le_of_ble_eq_true rfl, Nat.le_of_ble_eq_true rfl⟩) hK hP hD hS hA 13 2 rfl ww_13 rfl hl.1 rfl (Nat.le_of_ble_eq_true rfl) dX4_put_88 ⟨Nat.le_of_ble_eq_true rfl, Nat.le_of_ble_eq_true rfl⟩ (fun ws_68 r_69 h_70 H locs hP hD hS => ?_)
            obtain ⟨g_71, g_72, g_73, g_75, ok_74, rfl, rfl⟩ := h_70
            have hP : va_P D vwCl (WW ad cJ cI cZ bm pa p0 (g_71, g_72, g_73, g_75) p2 li wi mt ms ma mp mk mn ou) H := hP
            have hD : va_D A (WW ad cJ cI cZ bm pa p0 (g_71, g_72, g_73, g_75) p2 li wi mt ms ma mp mk mn ou) := hD
            refine lv_aload_n hx hb dX4_put_91 rfl (lv_at hl 0 rfl) ?_
            refine va_get (D := D) (ci := 4) (v := .ref (ad 8)) (C := RX4) (T := TX4) (N := 10) hx hb hts (inT inX4) hown hK hP 0 ww_0 rfl 5 (by decide) (hts (.fieldLink RX4 37 "BoardMoves" "now" "LBoardMoves$Placement;") (List.mem_cons_of_mem _ flX4_37)) (fun _ h9 => h9) rfl dX4_put_92 ?_
            refine va_get (D := D) (ci := 2) (v := .ref (ad 12)) (C := RX2) (T := TX2) (N := 5) hx hb hts (inT inX2) hown hK hP 8 ww_8 rfl 4 (by decide) (hts (.fieldLink RX4 96 "BoardMoves$Placement" "placed" "[Z") (List.mem_cons_of_mem _ flX4_96)) (fun _ h9 => h9) rfl dX4_put_95 ?_
            refine lv_iload_n hx hb dX4_put_98 rfl (lv_at hl 1 rfl) ?_
            refine bm_zald (f := p0.2.2.2) hx hb hK hP 12 2 ww_12 rfl (j := zA) (by omega) (by decide) dX4_put_99 ?_
            refine bm_zb_eq (x := (p0.2.2.2 zA)) (tgt := 148) hx hb dX4_put_100 (by decide) (fun c_76 => ?_) (fun c_76 => ?_)
            · refine lv_aload_n hx hb dX4_put_148 rfl (lv_at hl 0 rfl) ?_
              refine va_get (D := D) (ci := 4) (v := .ref (ad 8)) (C := RX4) (T := TX4) (N := 10) hx hb hts (inT inX4) hown hK hP 0 ww_0 rfl 5 (by decide) (hts (.fieldLink RX4 37 "BoardMoves" "now" "LBoardMoves$Placement;") (List.mem_cons_of_mem _ flX4_37)) (fun _ h9 => h9) rfl dX4_put_149 ?_
              refine lv_iload_n hx hb dX4_put_152 rfl (lv_at hl 1 rfl) ?_
              refine lv_lload_n hx hb dX4_put_153 rfl (lv_at hl 2 rfl) ?_
              refine lv_lload hx hb dX4_put_154 (lv_at hl 3 rfl) ?_
              refine lv_iload hx hb dX4_put_156 (lv_at hl 4 rfl) ?_
              refine bm_xcallV (As := [.int (nI zA), .long zB, .long zC, .int (nI zD)]) (rest := []) ⟨hx, hb, hml, hown, hts⟩ (x_place (p1 := (g_71, g_72, g_73, g_75)) (zj := zA) (z1 := zB) (z2 := zC) (zt := zD) ok_p0_turn (by omega) (by omega)) (cwV 4 hts gvX4_123 rfl rfl rfl hvX2_place ⟨Nat.le_of_ble_eq_true rfl, Nat.le_of_ble_eq_true rfl⟩) hK hP hD hS hA 8 2 rfl ww_8 rfl hl.1 rfl (Nat.le_of_ble_eq_true rfl) dX4_put_158 ⟨Nat.le_of_ble_eq_true rfl, Nat.le_of_ble_eq_true rfl⟩ (fun ws_77 r_78 h_79 H locs hP hD hS => ?_)
              obtain ⟨g_80, g_81, g_82, g_84, ok_83, rfl, rfl⟩ := h_79
              have hP : va_P D vwCl (WW ad cJ cI cZ bm pa (g_80, g_81, g_82, g_84) (g_71, g_72, g_73, g_75) p2 li wi mt ms ma mp mk mn ou) H := hP
              have hD : va_D A (WW ad cJ cI cZ bm pa (g_80, g_81, g_82, g_84) (g_71, g_72, g_73, g_75) p2 li wi mt ms ma mp mk mn ou) := hD
              refine lv_aload_n hx hb dX4_put_161 rfl (lv_at hl 0 rfl) ?_
              refine lv_ldc2 (v := 9223372036854775807) hx hb hown (hts (.constantLong RX4 127 9223372036854775807) (List.mem_cons_of_mem _ clX4_127)) dX4_put_162 ?_
              refine lv_topl (fun t_85 _ => ?_)
              refine bm_xcallV (As := [.long t_85]) (rest := []) ⟨hx, hb, hml, hown, hts⟩ (x_keep (p0 := (g_80, g_81, g_82, g_84)) (p1 := (g_71, g_72, g_73, g_75)) (z1 := t_85) ok_pa_n ok_pa_side ok_83 ok_li_keepOuts ok_li_nears ok_li_one ok_li_other ok_74 ok_wi_nets ok_wi_pins ok_wi_netOf ok_wi_partOf ) (cwV 1 hts gvX4_129 rfl rfl rfl hvX4_keepChange ⟨Nat.le_of_ble_eq_true rfl, Nat.le_of_ble_eq_true rfl⟩) hK hP hD hS hA 0 4 rfl ww_0 rfl hl.1 rfl (Nat.le_of_ble_eq_true rfl) dX4_put_165 ⟨Nat.le_of_ble_eq_true rfl, Nat.le_of_ble_eq_true rfl⟩ (fun ws_86 r_87 h_88 H locs hP hD hS => ?_)
              obtain ⟨g_89, g_90, g_91, g_93, g_94, g_95, g_96, g_97, g_98, g_99, ok_92, rfl, v_100, rfl⟩ := h_88
              have hP : va_P D vwCl (WW ad cJ cI cZ (bm.1, bm.2.1, bm.2.2.1, g_99) pa (g_89, g_90, g_91, g_93) (g_71, g_72, g_73, g_75) p2 li (wi.1, wi.2.1, wi.2.2.1, wi.2.2.2.1, g_94, g_95, g_96, g_97, g_98, wi.2.2.2.2.2.2.2.2.2.1, wi.2.2.2.2.2.2.2.2.2.2) mt ms ma mp mk mn ou) H := hP
              have hD : va_D A (WW ad cJ cI cZ (bm.1, bm.2.1, bm.2.2.1, g_99) pa (g_89, g_90, g_91, g_93) (g_71, g_72, g_73, g_75) p2 li (wi.1, wi.2.1, wi.2.2.1, wi.2.2.2.1, g_94, g_95, g_96, g_97, g_98, wi.2.2.2.2.2.2.2.2.2.1, wi.2.2.2.2.2.2.2.2.2.2) mt ms ma mp mk mn ou) := hD
              exact bm_zretX (v := v_100) hx hb hr hP hD hK hS ⟨(bm.1, bm.2.1, bm.2.2.1, g_99), pa, (g_89, g_90, g_91, g_93), (g_71, g_72, g_73, g_75), p2, li, (wi.1, wi.2.1, wi.2.2.1, wi.2.2.2.1, g_94, g_95, g_96, g_97, g_98, wi.2.2.2.2.2.2.2.2.2.1, wi.2.2.2.2.2.2.2.2.2.2), ou, ⟨ok_pa_n, ok_pa_side, ok_pa_lowest, ok_92, ok_74, ok_p2_turn, ok_li_one, ok_li_other, ok_li_keepOuts, ok_li_nears, ok_wi_netOf, ok_wi_partOf, ok_wi_nets, ok_wi_pins, hw, hh⟩, rfl, rfl, v_100, rfl⟩ dX4_put_168 hlocks
            · refine lv_aload_n hx hb dX4_put_103 rfl (lv_at hl 0 rfl) ?_
              refine va_get (D := D) (ci := 4) (v := .ref (ad 8)) (C := RX4) (T := TX4) (N := 10) hx hb hts (inT inX4) hown hK hP 0 ww_0 rfl 5 (by decide) (hts (.fieldLink RX4 37 "BoardMoves" "now" "LBoardMoves$Placement;") (List.mem_cons_of_mem _ flX4_37)) (fun _ h9 => h9) rfl dX4_put_104 ?_
              refine lv_iload_n hx hb dX4_put_107 rfl (lv_at hl 1 rfl) ?_
              refine lv_lload_n hx hb dX4_put_108 rfl (lv_at hl 2 rfl) ?_
              refine lv_aload_n hx hb dX4_put_109 rfl (lv_at hl 0 rfl) ?_
              refine va_get (D := D) (ci := 4) (v := .ref (ad 8)) (C := RX4) (T := TX4) (N := 10) hx hb hts (inT inX4) hown hK hP 0 ww_0 rfl 5 (by decide) (hts (.fieldLink RX4 37 "BoardMoves" "now" "LBoardMoves$Placement;") (List.mem_cons_of_mem _ flX4_37)) (fun _ h9 => h9) rfl dX4_put_110 ?_
              refine va_get (D := D) (ci := 2) (v := .ref (ad 9)) (C := RX2) (T := TX2) (N := 5) hx hb hts (inT inX2) hown hK hP 8 ww_8 rfl 1 (by decide) (hts (.fieldLink RX4 112 "BoardMoves$Placement" "x" "[J") (List.mem_cons_of_mem _ flX4_112)) (fun _ h9 => h9) rfl dX4_put_113 ?_
              refine lv_iload_n hx hb dX4_put_116 rfl (lv_at hl 1 rfl) ?_
              refine bm_lald (f := p0.1) hx hb hK hP 9 0 ww_9 rfl (j := zA) (by omega) (by decide) dX4_put_117 ?_
              refine lv_topl (fun t_101 _ => ?_)
              refine lv_lsub hx hb dX4_put_118 ?_
              refine lv_topl (fun t_102 _ => ?_)
              refine lv_lload hx hb dX4_put_119 (lv_at hl 3 rfl) ?_
              refine lv_aload_n hx hb dX4_put_121 rfl (lv_at hl 0 rfl) ?_
              refine va_get (D := D) (ci := 4) (v := .ref (ad 8)) (C := RX4) (T := TX4) (N := 10) hx hb hts (inT inX4) hown hK hP 0 ww_0 rfl 5 (by decide) (hts (.fieldLink RX4 37 "BoardMoves" "now" "LBoardMoves$Placement;") (List.mem_cons_of_mem _ flX4_37)) (fun _ h9 => h9) rfl dX4_put_122 ?_
              refine va_get (D := D) (ci := 2) (v := .ref (ad 10)) (C := RX2) (T := TX2) (N := 5) hx hb hts (inT inX2) hown hK hP 8 ww_8 rfl 2 (by decide) (hts (.fieldLink RX4 116 "BoardMoves$Placement" "y" "[J") (List.mem_cons_of_mem _ flX4_116)) (fun _ h9 => h9) rfl dX4_put_125 ?_
              refine lv_iload_n hx hb dX4_put_128 rfl (lv_at hl 1 rfl) ?_
              refine bm_lald (f := p0.2.1) hx hb hK hP 10 0 ww_10 rfl (j := zA) (by omega) (by decide) dX4_put_129 ?_
              refine lv_topl (fun t_103 _ => ?_)
              refine lv_lsub hx hb dX4_put_130 ?_
              refine lv_topl (fun t_104 _ => ?_)
              refine bm_xcallV (As := [.int (nI zA), .long t_102, .long t_104]) (rest := []) ⟨hx, hb, hml, hown, hts⟩ (x_shift (p1 := (g_71, g_72, g_73, g_75)) (zj := zA) (z1 := t_102) (z2 := t_104) ok_pa_n ok_pa_lowest (by omega)) (cwV 3 hts gvX4_119 rfl rfl rfl hvX2_shiftGroup ⟨Nat.le_of_ble_eq_true rfl, Nat.le_of_ble_eq_true rfl⟩) hK hP hD hS hA 8 2 rfl ww_8 rfl hl.1 rfl (Nat.le_of_ble_eq_true rfl) dX4_put_131 ⟨Nat.le_of_ble_eq_true rfl, Nat.le_of_ble_eq_true rfl⟩ (fun ws_105 r_106 h_107 H locs hP hD hS => ?_)
              obtain ⟨g_108, g_109, rfl, rfl⟩ := h_107
              have hP : va_P D vwCl (WW ad cJ cI cZ bm pa (g_108, g_109, p0.2.2.1, p0.2.2.2) (g_71, g_72, g_73, g_75) p2 li wi mt ms ma mp mk mn ou) H := hP
              have hD : va_D A (WW ad cJ cI cZ bm pa (g_108, g_109, p0.2.2.1, p0.2.2.2) (g_71, g_72, g_73, g_75) p2 li wi mt ms ma mp mk mn ou) := hD
              refine lv_aload_n hx hb dX4_put_134 rfl (lv_at hl 0 rfl) ?_
              refine va_get (D := D) (ci := 4) (v := .ref (ad 8)) (C := RX4) (T := TX4) (N := 10) hx hb hts (inT inX4) hown hK hP 0 ww_0 rfl 5 (by decide) (hts (.fieldLink RX4 37 "BoardMoves" "now" "LBoardMoves$Placement;") (List.mem_cons_of_mem _ flX4_37)) (fun _ h9 => h9) rfl dX4_put_135 ?_
              refine va_get (D := D) (ci := 2) (v := .ref (ad 11)) (C := RX2) (T := TX2) (N := 5) hx hb hts (inT inX2) hown hK hP 8 ww_8 rfl 3 (by decide) (hts (.fieldLink RX4 100 "BoardMoves$Placement" "turn" "[I") (List.mem_cons_of_mem _ flX4_100)) (fun _ h9 => h9) rfl dX4_put_138 ?_
              refine lv_iload_n hx hb dX4_put_141 rfl (lv_at hl 1 rfl) ?_
              refine lv_iload hx hb dX4_put_142 (lv_at hl 4 rfl) ?_
              refine bm_nast (f := p0.2.2.1) hx hb hK hP hD hS 11 1 ww_11 rfl (j := zA) (x := zD) (by omega) (by decide) dX4_put_144 (fun H locs hP hD hS => ?_)
              have hP : va_P D vwCl (WW ad cJ cI cZ bm pa (g_108, g_109, va_up p0.2.2.1 zA zD, p0.2.2.2) (g_71, g_72, g_73, g_75) p2 li wi mt ms ma mp mk mn ou) H := hP
              have hD : va_D A (WW ad cJ cI cZ bm pa (g_108, g_109, va_up p0.2.2.1 zA zD, p0.2.2.2) (g_71, g_72, g_73, g_75) p2 li wi mt ms ma mp mk mn ou) := hD
              refine lv_goto (tgt := 161) hx hb dX4_put_145 (by decide) ?_
              refine lv_aload_n hx hb dX4_put_161 rfl (lv_at hl 0 rfl) ?_
              refine lv_ldc2 (v := 9223372036854775807) hx hb hown (hts (.constantLong RX4 127 9223372036854775807) (List.mem_cons_of_mem _ clX4_127)) dX4_put_162 ?_
              refine lv_topl (fun t_110 _ => ?_)
              refine bm_xcallV (As := [.long t_110]) (rest := []) ⟨hx, hb, hml, hown, hts⟩ (x_keep (p0 := (g_108, g_109, va_up p0.2.2.1 zA zD, p0.2.2.2)) (p1 := (g_71, g_72, g_73, g_75)) (z1 := t_110) ok_pa_n ok_pa_side (bx_uplt ok_p0_turn (by omega)) ok_li_keepOuts ok_li_nears ok_li_one ok_li_other ok_74 ok_wi_nets ok_wi_pins ok_wi_netOf ok_wi_partOf ) (cwV 1 hts gvX4_129 rfl rfl rfl hvX4_keepChange ⟨Nat.le_of_ble_eq_true rfl, Nat.le_of_ble_eq_true rfl⟩) hK hP hD hS hA 0 4 rfl ww_0 rfl hl.1 rfl (Nat.le_of_ble_eq_true rfl) dX4_put_165 ⟨Nat.le_of_ble_eq_true rfl, Nat.le_of_ble_eq_true rfl⟩ (fun ws_111 r_112 h_113 H locs hP hD hS => ?_)
              obtain ⟨g_114, g_115, g_116, g_118, g_119, g_120, g_121, g_122, g_123, g_124, ok_117, rfl, v_125, rfl⟩ := h_113
              have hP : va_P D vwCl (WW ad cJ cI cZ (bm.1, bm.2.1, bm.2.2.1, g_124) pa (g_114, g_115, g_116, g_118) (g_71, g_72, g_73, g_75) p2 li (wi.1, wi.2.1, wi.2.2.1, wi.2.2.2.1, g_119, g_120, g_121, g_122, g_123, wi.2.2.2.2.2.2.2.2.2.1, wi.2.2.2.2.2.2.2.2.2.2) mt ms ma mp mk mn ou) H := hP
              have hD : va_D A (WW ad cJ cI cZ (bm.1, bm.2.1, bm.2.2.1, g_124) pa (g_114, g_115, g_116, g_118) (g_71, g_72, g_73, g_75) p2 li (wi.1, wi.2.1, wi.2.2.1, wi.2.2.2.1, g_119, g_120, g_121, g_122, g_123, wi.2.2.2.2.2.2.2.2.2.1, wi.2.2.2.2.2.2.2.2.2.2) mt ms ma mp mk mn ou) := hD
              exact bm_zretX (v := v_125) hx hb hr hP hD hK hS ⟨(bm.1, bm.2.1, bm.2.2.1, g_124), pa, (g_114, g_115, g_116, g_118), (g_71, g_72, g_73, g_75), p2, li, (wi.1, wi.2.1, wi.2.2.1, wi.2.2.2.1, g_119, g_120, g_121, g_122, g_123, wi.2.2.2.2.2.2.2.2.2.1, wi.2.2.2.2.2.2.2.2.2.2), ou, ⟨ok_pa_n, ok_pa_side, ok_pa_lowest, ok_117, ok_74, ok_p2_turn, ok_li_one, ok_li_other, ok_li_keepOuts, ok_li_nears, ok_wi_netOf, ok_wi_partOf, ok_wi_nets, ok_wi_pins, hw, hh⟩, rfl, rfl, v_125, rfl⟩ dX4_put_168 hlocks
          · refine lv_aload_n hx hb dX4_put_67 rfl (lv_at hl 0 rfl) ?_
            refine va_get (D := D) (ci := 4) (v := .ref (ad 8)) (C := RX4) (T := TX4) (N := 10) hx hb hts (inT inX4) hown hK hP 0 ww_0 rfl 5 (by decide) (hts (.fieldLink RX4 37 "BoardMoves" "now" "LBoardMoves$Placement;") (List.mem_cons_of_mem _ flX4_37)) (fun _ h9 => h9) rfl dX4_put_68 ?_
            refine lv_iload_n hx hb dX4_put_71 rfl (lv_at hl 1 rfl) ?_
            refine bm_xcallV (As := [.int (nI zA)]) (rest := []) ⟨hx, hb, hml, hown, hts⟩ (x_mateP  (zj := zA) ok_pa_n ok_pa_lowest (by omega)) (cwV 1 hts gvX4_104 rfl rfl rfl hvX2_hasPlacedMate ⟨Nat.le_of_ble_eq_true rfl, Nat.le_of_ble_eq_true rfl⟩) hK hP hD hS hA 8 2 rfl ww_8 rfl hl.1 rfl (Nat.le_of_ble_eq_true rfl) dX4_put_72 ⟨Nat.le_of_ble_eq_true rfl, Nat.le_of_ble_eq_true rfl⟩ (fun ws_126 r_127 h_128 H locs hP hD hS => ?_)
            obtain ⟨rfl, v_129, rfl⟩ := h_128
            have hP : va_P D vwCl (WW ad cJ cI cZ bm pa p0 p1 p2 li wi mt ms ma mp mk mn ou) H := hP
            have hD : va_D A (WW ad cJ cI cZ bm pa p0 p1 p2 li wi mt ms ma mp mk mn ou) := hD
            refine bm_zb_eq (x := v_129) (tgt := 80) hx hb dX4_put_75 (by decide) (fun c_130 => ?_) (fun c_130 => ?_)
            · refine lv_aload_n hx hb dX4_put_80 rfl (lv_at hl 0 rfl) ?_
              refine va_get (D := D) (ci := 4) (v := .ref (ad 13)) (C := RX4) (T := TX4) (N := 10) hx hb hts (inT inX4) hown hK hP 0 ww_0 rfl 6 (by decide) (hts (.fieldLink RX4 41 "BoardMoves" "before" "LBoardMoves$Placement;") (List.mem_cons_of_mem _ flX4_41)) (fun _ h9 => h9) rfl dX4_put_81 ?_
              refine lv_aload_n hx hb dX4_put_84 rfl (lv_at hl 0 rfl) ?_
              refine va_get (D := D) (ci := 4) (v := .ref (ad 8)) (C := RX4) (T := TX4) (N := 10) hx hb hts (inT inX4) hown hK hP 0 ww_0 rfl 5 (by decide) (hts (.fieldLink RX4 37 "BoardMoves" "now" "LBoardMoves$Placement;") (List.mem_cons_of_mem _ flX4_37)) (fun _ h9 => h9) rfl dX4_put_85 ?_
              refine bm_xcallV (As := [.ref (ad 8)]) (rest := []) ⟨hx, hb, hml, hown, hts⟩ (x_cp10   ok_pa_n ok_p1_turn ok_p0_turn ) (cwV 1 hts gvX4_108 rfl rfl rfl hvX2_copyFrom ⟨Nat.le_of_ble_eq_true rfl, Nat.le_of_ble_eq_true rfl⟩) hK hP hD hS hA 13 2 rfl ww_13 rfl hl.1 rfl (Nat.le_of_ble_eq_true rfl) dX4_put_88 ⟨Nat.le_of_ble_eq_true rfl, Nat.le_of_ble_eq_true rfl⟩ (fun ws_131 r_132 h_133 H locs hP hD hS => ?_)
              obtain ⟨g_134, g_135, g_136, g_138, ok_137, rfl, rfl⟩ := h_133
              have hP : va_P D vwCl (WW ad cJ cI cZ bm pa p0 (g_134, g_135, g_136, g_138) p2 li wi mt ms ma mp mk mn ou) H := hP
              have hD : va_D A (WW ad cJ cI cZ bm pa p0 (g_134, g_135, g_136, g_138) p2 li wi mt ms ma mp mk mn ou) := hD
              refine lv_aload_n hx hb dX4_put_91 rfl (lv_at hl 0 rfl) ?_
              refine va_get (D := D) (ci := 4) (v := .ref (ad 8)) (C := RX4) (T := TX4) (N := 10) hx hb hts (inT inX4) hown hK hP 0 ww_0 rfl 5 (by decide) (hts (.fieldLink RX4 37 "BoardMoves" "now" "LBoardMoves$Placement;") (List.mem_cons_of_mem _ flX4_37)) (fun _ h9 => h9) rfl dX4_put_92 ?_
              refine va_get (D := D) (ci := 2) (v := .ref (ad 12)) (C := RX2) (T := TX2) (N := 5) hx hb hts (inT inX2) hown hK hP 8 ww_8 rfl 4 (by decide) (hts (.fieldLink RX4 96 "BoardMoves$Placement" "placed" "[Z") (List.mem_cons_of_mem _ flX4_96)) (fun _ h9 => h9) rfl dX4_put_95 ?_
              refine lv_iload_n hx hb dX4_put_98 rfl (lv_at hl 1 rfl) ?_
              refine bm_zald (f := p0.2.2.2) hx hb hK hP 12 2 ww_12 rfl (j := zA) (by omega) (by decide) dX4_put_99 ?_
              refine bm_zb_eq (x := (p0.2.2.2 zA)) (tgt := 148) hx hb dX4_put_100 (by decide) (fun c_139 => ?_) (fun c_139 => ?_)
              · refine lv_aload_n hx hb dX4_put_148 rfl (lv_at hl 0 rfl) ?_
                refine va_get (D := D) (ci := 4) (v := .ref (ad 8)) (C := RX4) (T := TX4) (N := 10) hx hb hts (inT inX4) hown hK hP 0 ww_0 rfl 5 (by decide) (hts (.fieldLink RX4 37 "BoardMoves" "now" "LBoardMoves$Placement;") (List.mem_cons_of_mem _ flX4_37)) (fun _ h9 => h9) rfl dX4_put_149 ?_
                refine lv_iload_n hx hb dX4_put_152 rfl (lv_at hl 1 rfl) ?_
                refine lv_lload_n hx hb dX4_put_153 rfl (lv_at hl 2 rfl) ?_
                refine lv_lload hx hb dX4_put_154 (lv_at hl 3 rfl) ?_
                refine lv_iload hx hb dX4_put_156 (lv_at hl 4 rfl) ?_
                refine bm_xcallV (As := [.int (nI zA), .long zB, .long zC, .int (nI zD)]) (rest := []) ⟨hx, hb, hml, hown, hts⟩ (x_place (p1 := (g_134, g_135, g_136, g_138)) (zj := zA) (z1 := zB) (z2 := zC) (zt := zD) ok_p0_turn (by omega) (by omega)) (cwV 4 hts gvX4_123 rfl rfl rfl hvX2_place ⟨Nat.le_of_ble_eq_true rfl, Nat.le_of_ble_eq_true rfl⟩) hK hP hD hS hA 8 2 rfl ww_8 rfl hl.1 rfl (Nat.le_of_ble_eq_true rfl) dX4_put_158 ⟨Nat.le_of_ble_eq_true rfl, Nat.le_of_ble_eq_true rfl⟩ (fun ws_140 r_141 h_142 H locs hP hD hS => ?_)
                obtain ⟨g_143, g_144, g_145, g_147, ok_146, rfl, rfl⟩ := h_142
                have hP : va_P D vwCl (WW ad cJ cI cZ bm pa (g_143, g_144, g_145, g_147) (g_134, g_135, g_136, g_138) p2 li wi mt ms ma mp mk mn ou) H := hP
                have hD : va_D A (WW ad cJ cI cZ bm pa (g_143, g_144, g_145, g_147) (g_134, g_135, g_136, g_138) p2 li wi mt ms ma mp mk mn ou) := hD
                refine lv_aload_n hx hb dX4_put_161 rfl (lv_at hl 0 rfl) ?_
                refine lv_ldc2 (v := 9223372036854775807) hx hb hown (hts (.constantLong RX4 127 9223372036854775807) (List.mem_cons_of_mem _ clX4_127)) dX4_put_162 ?_
                refine lv_topl (fun t_148 _ => ?_)
                refine bm_xcallV (As := [.long t_148]) (rest := []) ⟨hx, hb, hml, hown, hts⟩ (x_keep (p0 := (g_143, g_144, g_145, g_147)) (p1 := (g_134, g_135, g_136, g_138)) (z1 := t_148) ok_pa_n ok_pa_side ok_146 ok_li_keepOuts ok_li_nears ok_li_one ok_li_other ok_137 ok_wi_nets ok_wi_pins ok_wi_netOf ok_wi_partOf ) (cwV 1 hts gvX4_129 rfl rfl rfl hvX4_keepChange ⟨Nat.le_of_ble_eq_true rfl, Nat.le_of_ble_eq_true rfl⟩) hK hP hD hS hA 0 4 rfl ww_0 rfl hl.1 rfl (Nat.le_of_ble_eq_true rfl) dX4_put_165 ⟨Nat.le_of_ble_eq_true rfl, Nat.le_of_ble_eq_true rfl⟩ (fun ws_149 r_150 h_151 H locs hP hD hS => ?_)
                obtain ⟨g_152, g_153, g_154, g_156, g_157, g_158, g_159, g_160, g_161, g_162, ok_155, rfl, v_163, rfl⟩ := h_151
                have hP : va_P D vwCl (WW ad cJ cI cZ (bm.1, bm.2.1, bm.2.2.1, g_162) pa (g_152, g_153, g_154, g_156) (g_134, g_135, g_136, g_138) p2 li (wi.1, wi.2.1, wi.2.2.1, wi.2.2.2.1, g_157, g_158, g_159, g_160, g_161, wi.2.2.2.2.2.2.2.2.2.1, wi.2.2.2.2.2.2.2.2.2.2) mt ms ma mp mk mn ou) H := hP
                have hD : va_D A (WW ad cJ cI cZ (bm.1, bm.2.1, bm.2.2.1, g_162) pa (g_152, g_153, g_154, g_156) (g_134, g_135, g_136, g_138) p2 li (wi.1, wi.2.1, wi.2.2.1, wi.2.2.2.1, g_157, g_158, g_159, g_160, g_161, wi.2.2.2.2.2.2.2.2.2.1, wi.2.2.2.2.2.2.2.2.2.2) mt ms ma mp mk mn ou) := hD
                exact bm_zretX (v := v_163) hx hb hr hP hD hK hS ⟨(bm.1, bm.2.1, bm.2.2.1, g_162), pa, (g_152, g_153, g_154, g_156), (g_134, g_135, g_136, g_138), p2, li, (wi.1, wi.2.1, wi.2.2.1, wi.2.2.2.1, g_157, g_158, g_159, g_160, g_161, wi.2.2.2.2.2.2.2.2.2.1, wi.2.2.2.2.2.2.2.2.2.2), ou, ⟨ok_pa_n, ok_pa_side, ok_pa_lowest, ok_155, ok_137, ok_p2_turn, ok_li_one, ok_li_other, ok_li_keepOuts, ok_li_nears, ok_wi_netOf, ok_wi_partOf, ok_wi_nets, ok_wi_pins, hw, hh⟩, rfl, rfl, v_163, rfl⟩ dX4_put_168 hlocks
              · refine lv_aload_n hx hb dX4_put_103 rfl (lv_at hl 0 rfl) ?_
                refine va_get (D := D) (ci := 4) (v := .ref (ad 8)) (C := RX4) (T := TX4) (N := 10) hx hb hts (inT inX4) hown hK hP 0 ww_0 rfl 5 (by decide) (hts (.fieldLink RX4 37 "BoardMoves" "now" "LBoardMoves$Placement;") (List.mem_cons_of_mem _ flX4_37)) (fun _ h9 => h9) rfl dX4_put_104 ?_
                refine lv_iload_n hx hb dX4_put_107 rfl (lv_at hl 1 rfl) ?_
                refine lv_lload_n hx hb dX4_put_108 rfl (lv_at hl 2 rfl) ?_
                refine lv_aload_n hx hb dX4_put_109 rfl (lv_at hl 0 rfl) ?_
                refine va_get (D := D) (ci := 4) (v := .ref (ad 8)) (C := RX4) (T := TX4) (N := 10) hx hb hts (inT inX4) hown hK hP 0 ww_0 rfl 5 (by decide) (hts (.fieldLink RX4 37 "BoardMoves" "now" "LBoardMoves$Placement;") (List.mem_cons_of_mem _ flX4_37)) (fun _ h9 => h9) rfl dX4_put_110 ?_
                refine va_get (D := D) (ci := 2) (v := .ref (ad 9)) (C := RX2) (T := TX2) (N := 5) hx hb hts (inT inX2) hown hK hP 8 ww_8 rfl 1 (by decide) (hts (.fieldLink RX4 112 "BoardMoves$Placement" "x" "[J") (List.mem_cons_of_mem _ flX4_112)) (fun _ h9 => h9) rfl dX4_put_113 ?_
                refine lv_iload_n hx hb dX4_put_116 rfl (lv_at hl 1 rfl) ?_
                refine bm_lald (f := p0.1) hx hb hK hP 9 0 ww_9 rfl (j := zA) (by omega) (by decide) dX4_put_117 ?_
                refine lv_topl (fun t_164 _ => ?_)
                refine lv_lsub hx hb dX4_put_118 ?_
                refine lv_topl (fun t_165 _ => ?_)
                refine lv_lload hx hb dX4_put_119 (lv_at hl 3 rfl) ?_
                refine lv_aload_n hx hb dX4_put_121 rfl (lv_at hl 0 rfl) ?_
                refine va_get (D := D) (ci := 4) (v := .ref (ad 8)) (C := RX4) (T := TX4) (N := 10) hx hb hts (inT inX4) hown hK hP 0 ww_0 rfl 5 (by decide) (hts (.fieldLink RX4 37 "BoardMoves" "now" "LBoardMoves$Placement;") (List.mem_cons_of_mem _ flX4_37)) (fun _ h9 => h9) rfl dX4_put_122 ?_
                refine va_get (D := D) (ci := 2) (v := .ref (ad 10)) (C := RX2) (T := TX2) (N := 5) hx hb hts (inT inX2) hown hK hP 8 ww_8 rfl 2 (by decide) (hts (.fieldLink RX4 116 "BoardMoves$Placement" "y" "[J") (List.mem_cons_of_mem _ flX4_116)) (fun _ h9 => h9) rfl dX4_put_125 ?_
                refine lv_iload_n hx hb dX4_put_128 rfl (lv_at hl 1 rfl) ?_
                refine bm_lald (f := p0.2.1) hx hb hK hP 10 0 ww_10 rfl (j := zA) (by omega) (by decide) dX4_put_129 ?_
                refine lv_topl (fun t_166 _ => ?_)
                refine lv_lsub hx hb dX4_put_130 ?_
                refine lv_topl (fun t_167 _ => ?_)
                refine bm_xcallV (As := [.int (nI zA), .long t_165, .long t_167]) (rest := []) ⟨hx, hb, hml, hown, hts⟩ (x_shift (p1 := (g_134, g_135, g_136, g_138)) (zj := zA) (z1 := t_165) (z2 := t_167) ok_pa_n ok_pa_lowest (by omega)) (cwV 3 hts gvX4_119 rfl rfl rfl hvX2_shiftGroup ⟨Nat.le_of_ble_eq_true rfl, Nat.le_of_ble_eq_true rfl⟩) hK hP hD hS hA 8 2 rfl ww_8 rfl hl.1 rfl (Nat.le_of_ble_eq_true rfl) dX4_put_131 ⟨Nat.le_of_ble_eq_true rfl, Nat.le_of_ble_eq_true rfl⟩ (fun ws_168 r_169 h_170 H locs hP hD hS => ?_)
                obtain ⟨g_171, g_172, rfl, rfl⟩ := h_170
                have hP : va_P D vwCl (WW ad cJ cI cZ bm pa (g_171, g_172, p0.2.2.1, p0.2.2.2) (g_134, g_135, g_136, g_138) p2 li wi mt ms ma mp mk mn ou) H := hP
                have hD : va_D A (WW ad cJ cI cZ bm pa (g_171, g_172, p0.2.2.1, p0.2.2.2) (g_134, g_135, g_136, g_138) p2 li wi mt ms ma mp mk mn ou) := hD
                refine lv_aload_n hx hb dX4_put_134 rfl (lv_at hl 0 rfl) ?_
                refine va_get (D := D) (ci := 4) (v := .ref (ad 8)) (C := RX4) (T := TX4) (N := 10) hx hb hts (inT inX4) hown hK hP 0 ww_0 rfl 5 (by decide) (hts (.fieldLink RX4 37 "BoardMoves" "now" "LBoardMoves$Placement;") (List.mem_cons_of_mem _ flX4_37)) (fun _ h9 => h9) rfl dX4_put_135 ?_
                refine va_get (D := D) (ci := 2) (v := .ref (ad 11)) (C := RX2) (T := TX2) (N := 5) hx hb hts (inT inX2) hown hK hP 8 ww_8 rfl 3 (by decide) (hts (.fieldLink RX4 100 "BoardMoves$Placement" "turn" "[I") (List.mem_cons_of_mem _ flX4_100)) (fun _ h9 => h9) rfl dX4_put_138 ?_
                refine lv_iload_n hx hb dX4_put_141 rfl (lv_at hl 1 rfl) ?_
                refine lv_iload hx hb dX4_put_142 (lv_at hl 4 rfl) ?_
                refine bm_nast (f := p0.2.2.1) hx hb hK hP hD hS 11 1 ww_11 rfl (j := zA) (x := zD) (by omega) (by decide) dX4_put_144 (fun H locs hP hD hS => ?_)
                have hP : va_P D vwCl (WW ad cJ cI cZ bm pa (g_171, g_172, va_up p0.2.2.1 zA zD, p0.2.2.2) (g_134, g_135, g_136, g_138) p2 li wi mt ms ma mp mk mn ou) H := hP
                have hD : va_D A (WW ad cJ cI cZ bm pa (g_171, g_172, va_up p0.2.2.1 zA zD, p0.2.2.2) (g_134, g_135, g_136, g_138) p2 li wi mt ms ma mp mk mn ou) := hD
                refine lv_goto (tgt := 161) hx hb dX4_put_145 (by decide) ?_
                refine lv_aload_n hx hb dX4_put_161 rfl (lv_at hl 0 rfl) ?_
                refine lv_ldc2 (v := 9223372036854775807) hx hb hown (hts (.constantLong RX4 127 9223372036854775807) (List.mem_cons_of_mem _ clX4_127)) dX4_put_162 ?_
                refine lv_topl (fun t_173 _ => ?_)
                refine bm_xcallV (As := [.long t_173]) (rest := []) ⟨hx, hb, hml, hown, hts⟩ (x_keep (p0 := (g_171, g_172, va_up p0.2.2.1 zA zD, p0.2.2.2)) (p1 := (g_134, g_135, g_136, g_138)) (z1 := t_173) ok_pa_n ok_pa_side (bx_uplt ok_p0_turn (by omega)) ok_li_keepOuts ok_li_nears ok_li_one ok_li_other ok_137 ok_wi_nets ok_wi_pins ok_wi_netOf ok_wi_partOf ) (cwV 1 hts gvX4_129 rfl rfl rfl hvX4_keepChange ⟨Nat.le_of_ble_eq_true rfl, Nat.le_of_ble_eq_true rfl⟩) hK hP hD hS hA 0 4 rfl ww_0 rfl hl.1 rfl (Nat.le_of_ble_eq_true rfl) dX4_put_165 ⟨Nat.le_of_ble_eq_true rfl, Nat.le_of_ble_eq_true rfl⟩ (fun ws_174 r_175 h_176 H locs hP hD hS => ?_)
                obtain ⟨g_177, g_178, g_179, g_181, g_182, g_183, g_184, g_185, g_186, g_187, ok_180, rfl, v_188, rfl⟩ := h_176
                have hP : va_P D vwCl (WW ad cJ cI cZ (bm.1, bm.2.1, bm.2.2.1, g_187) pa (g_177, g_178, g_179, g_181) (g_134, g_135, g_136, g_138) p2 li (wi.1, wi.2.1, wi.2.2.1, wi.2.2.2.1, g_182, g_183, g_184, g_185, g_186, wi.2.2.2.2.2.2.2.2.2.1, wi.2.2.2.2.2.2.2.2.2.2) mt ms ma mp mk mn ou) H := hP
                have hD : va_D A (WW ad cJ cI cZ (bm.1, bm.2.1, bm.2.2.1, g_187) pa (g_177, g_178, g_179, g_181) (g_134, g_135, g_136, g_138) p2 li (wi.1, wi.2.1, wi.2.2.1, wi.2.2.2.1, g_182, g_183, g_184, g_185, g_186, wi.2.2.2.2.2.2.2.2.2.1, wi.2.2.2.2.2.2.2.2.2.2) mt ms ma mp mk mn ou) := hD
                exact bm_zretX (v := v_188) hx hb hr hP hD hK hS ⟨(bm.1, bm.2.1, bm.2.2.1, g_187), pa, (g_177, g_178, g_179, g_181), (g_134, g_135, g_136, g_138), p2, li, (wi.1, wi.2.1, wi.2.2.1, wi.2.2.2.1, g_182, g_183, g_184, g_185, g_186, wi.2.2.2.2.2.2.2.2.2.1, wi.2.2.2.2.2.2.2.2.2.2), ou, ⟨ok_pa_n, ok_pa_side, ok_pa_lowest, ok_180, ok_137, ok_p2_turn, ok_li_one, ok_li_other, ok_li_keepOuts, ok_li_nears, ok_wi_netOf, ok_wi_partOf, ok_wi_nets, ok_wi_pins, hw, hh⟩, rfl, rfl, v_188, rfl⟩ dX4_put_168 hlocks
            · refine lv_iconst (v := bm_b false) hx hb dX4_put_78 (by decide) ?_
              exact bm_zretX (v := false) hx hb hr hP hD hK hS ⟨bm, pa, p0, p1, p2, li, wi, ou, ⟨ok_pa_n, ok_pa_side, ok_pa_lowest, ok_p0_turn, ok_p1_turn, ok_p2_turn, ok_li_one, ok_li_other, ok_li_keepOuts, ok_li_nears, ok_wi_netOf, ok_wi_partOf, ok_wi_nets, ok_wi_pins, hw, hh⟩, rfl, rfl, false, rfl⟩ dX4_put_79 hlocks
      · refine lv_iconst (v := bm_b false) hx hb dX4_put_39 (by decide) ?_
        exact bm_zretX (v := false) hx hb hr hP hD hK hS ⟨bm, pa, p0, p1, p2, li, wi, ou, ⟨ok_pa_n, ok_pa_side, ok_pa_lowest, ok_p0_turn, ok_p1_turn, ok_p2_turn, ok_li_one, ok_li_other, ok_li_keepOuts, ok_li_nears, ok_wi_netOf, ok_wi_partOf, ok_wi_nets, ok_wi_pins, hw, hh⟩, rfl, rfl, false, rfl⟩ dX4_put_40 hlocks
    · exact absurd hd c_2
