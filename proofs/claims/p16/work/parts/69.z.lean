set_option maxHeartbeats 16000000 in
set_option maxRecDepth 100000 in
theorem Z_put {l : Launch} {D : va_G} {ad : Nat → Nat} {cJ cI cZ : ClassId} {bm : gBM} {pa : gPA} {p0 p1 p2 : gPL} {li : gLI} {wi : gWI} {mt : Nat} {ms : gMS} {ma : gMA} {mp : gMP} {mk : gMK} {mn : gMN} {ou : Nat → Int64} {zA : Nat} {zB : Int64} {zC : Int64} {zD : Nat} (hok : okC bm pa p0 p1 p2 li wi) (hk_zA : zA < pa.2.2.2.2.2.2) (hd : zD < 4) : bm_Wx l yX4_put wsX4_put ({ frames := 5, cells := 0, slots := 0, locals := 122 }) D vwCl [(cJ, .long), (cI, .int), (cZ, .boolean)] (WW ad cJ cI cZ bm pa p0 p1 p2 li wi mt ms ma mp mk mn ou) [.ref (ad 0), .int (nI zA), .long zB, .long zC, .int (nI zD)] (PCZ ad cJ cI cZ bm pa p0 p1 p2 li wi mt ms ma mp mk mn ou) := by
  obtain ⟨ok_pa_n, ok_pa_side, ok_pa_lowest, ok_p0_turn, ok_p1_turn, ok_p2_turn, ok_li_one, ok_li_other, ok_li_keepOuts, ok_li_nears, ok_wi_netOf, ok_wi_partOf, ok_wi_nets, ok_wi_pins, hw, hh, hI⟩ := hok
  intro sz
  refine Met.ofW (cc := cX4_put) (maxL := 7) (ret := (some .boolean)) (by decide) rfl ?_
  intro p e s m args below meth c s₁ B hml hv
  obtain ⟨ha, hsz, hP, hK, hD0⟩ := hv
  have hx := B.exec
  have hb := B.bytes
  have hr := B.returns
  have hts := atoms_spec (ws := wsX4_put) B.pre
  have hown : s.vm.findClass RX4 = some m.cls := findClass_of_methodNamed B.named
  have hlocks := B.notSynchronized
  subst hsz
  have hD := hD0.self (sz := s.heap.size)
  generalize hAe : va_A (WW ad cJ cI cZ bm pa p0 p1 p2 li wi mt ms ma mp mk mn ou) s.heap.size = A at hD ⊢
  have hA : ∀ q : Nat, s.heap.size ≤ q → A q := fun q h => by rw [← hAe]; exact Or.inr h
  have hS : va_S A s.heap s.heap [] := va_S.rf
  have hl := lv_entry ([.ref (ad 0), .int (nI zA), .long zB, .long zC, .int (nI zD)]) (n := 7) (Nat.le_of_ble_eq_true rfl)
  refine W.eq (g2 := entryFrame m ([.ref (ad 0), .int (nI zA), .long zB, .long zC, .int (nI zD)] : List Value).toArray 7) (by rw [ha]) ?_
  rw [lg_entry_eq]
  generalize (lg_sl ([.ref (ad 0), .int (nI zA), .long zB, .long zC, .int (nI zD)]) ++ List.replicate (7 - (lg_sl ([.ref (ad 0), .int (nI zA), .long zB, .long zC, .int (nI zD)])).length) Slot.unset).toArray = ls at hl ⊢
  have hl : lv_has ls 7 [(0, .ref (ad 0)), (1, .int (nI zA)), (2, .long zB), (4, .long zC), (6, .int (nI zD))] := hl
  refine lv_aload_n hx hb dX4_put_0 rfl (lv_at hl 0 rfl) ?_
  refine lv_iload_n hx hb dX4_put_1 rfl (lv_at hl 1 rfl) ?_
  refine bm_vcallV (As := [.int (nI zA)]) (rest := []) ⟨hx, hb, hml, hown, hts⟩ (X_needY  (zp := zA) ok_pa_n (by omega)) (cwV 1 hts gvX4_86 rfl rfl rfl hvX4_needPart ⟨Nat.le_of_ble_eq_true rfl, Nat.le_of_ble_eq_true rfl⟩) hK hP 0 4 rfl ww_0 rfl hl.1 rfl (Nat.le_of_ble_eq_true rfl) dX4_put_2 ⟨Nat.le_of_ble_eq_true rfl, Nat.le_of_ble_eq_true rfl⟩ ?_
  refine lv_iload hx hb dX4_put_5 (lv_at hl 4 rfl) ?_
  refine lv_if_lt (x := (nI zD)) (tgt := 16) hx hb dX4_put_7 (by decide) (fun c_1 => ?_) (fun c_1 => ?_)
  · exact absurd c_1 (bx_nn (by omega))
  · refine lv_iload hx hb dX4_put_10 (lv_at hl 4 rfl) ?_
    refine lv_iconst (v := nI 4) hx hb dX4_put_12 (by decide) ?_
    refine bm_ni_lt (x := zD) (y := 4) (tgt := 26) hx hb (by omega) (by omega) dX4_put_13 (by decide) (fun c_2 => ?_) (fun c_2 => ?_)
    · refine lv_aload_n hx hb dX4_put_26 rfl (lv_at hl 0 rfl) ?_
      refine lv_iload_n hx hb dX4_put_27 rfl (lv_at hl 1 rfl) ?_
      refine lv_lload_n hx hb dX4_put_28 rfl (lv_at hl 2 rfl) ?_
      refine lv_lload hx hb dX4_put_29 (lv_at hl 3 rfl) ?_
      refine lv_iload hx hb dX4_put_31 (lv_at hl 4 rfl) ?_
      refine bm_xcallV (As := [.int (nI zA), .long zB, .long zC, .int (nI zD)]) (rest := []) ⟨hx, hb, hml, hown, hts⟩ (x_fits  (zj := zA) (z1 := zB) (z2 := zC) (zt := zD)  (by omega) (by omega)) (cwV 4 hts gvX4_92 rfl rfl rfl hvX4_fitsBoard ⟨Nat.le_of_ble_eq_true rfl, Nat.le_of_ble_eq_true rfl⟩) hK hP hD hS hA 0 4 rfl ww_0 rfl hl.1 rfl (Nat.le_of_ble_eq_true rfl) dX4_put_33 ⟨Nat.le_of_ble_eq_true rfl, Nat.le_of_ble_eq_true rfl⟩ (fun ws_3 r_4 h_5 H locs hP hD hS => ?_)
      obtain ⟨rfl, v_6, rfl⟩ := h_5
      have hP : va_P D vwCl (WW ad cJ cI cZ bm pa p0 p1 p2 li wi mt ms ma mp mk mn ou) H := hP
      have hD : va_D A (WW ad cJ cI cZ bm pa p0 p1 p2 li wi mt ms ma mp mk mn ou) := hD
      refine bm_zb_ne (x := v_6) (tgt := 41) hx hb dX4_put_36 (by decide) (fun c_7 => ?_) (fun c_7 => ?_)
      · refine lv_aload_n hx hb dX4_put_41 rfl (lv_at hl 0 rfl) ?_
        refine va_get (D := D) (ci := 4) (v := .ref (ad 8)) (C := RX4) (T := TX4) (N := 10) hx hb hts (inT inX4) hown hK hP 0 ww_0 rfl 5 (by decide) (hts (.fieldLink RX4 37 "BoardMoves" "now" "LBoardMoves$Placement;") (List.mem_cons_of_mem _ flX4_37)) (fun _ h9 => h9) rfl dX4_put_42 ?_
        refine va_get (D := D) (ci := 2) (v := .ref (ad 12)) (C := RX2) (T := TX2) (N := 5) hx hb hts (inT inX2) hown hK hP 8 ww_8 rfl 4 (by decide) (hts (.fieldLink RX4 96 "BoardMoves$Placement" "placed" "[Z") (List.mem_cons_of_mem _ flX4_96)) (fun _ h9 => h9) rfl dX4_put_45 ?_
        refine lv_iload_n hx hb dX4_put_48 rfl (lv_at hl 1 rfl) ?_
        refine bm_zald (f := p0.2.2.2) hx hb hK hP 12 2 ww_12 rfl (j := zA) (by omega) (by decide) dX4_put_49 ?_
        refine bm_zb_eq (x := (p0.2.2.2 zA)) (tgt := 80) hx hb dX4_put_50 (by decide) (fun c_8 => ?_) (fun c_8 => ?_)
        · refine lv_aload_n hx hb dX4_put_80 rfl (lv_at hl 0 rfl) ?_
          refine va_get (D := D) (ci := 4) (v := .ref (ad 13)) (C := RX4) (T := TX4) (N := 10) hx hb hts (inT inX4) hown hK hP 0 ww_0 rfl 6 (by decide) (hts (.fieldLink RX4 41 "BoardMoves" "before" "LBoardMoves$Placement;") (List.mem_cons_of_mem _ flX4_41)) (fun _ h9 => h9) rfl dX4_put_81 ?_
          refine lv_aload_n hx hb dX4_put_84 rfl (lv_at hl 0 rfl) ?_
          refine va_get (D := D) (ci := 4) (v := .ref (ad 8)) (C := RX4) (T := TX4) (N := 10) hx hb hts (inT inX4) hown hK hP 0 ww_0 rfl 5 (by decide) (hts (.fieldLink RX4 37 "BoardMoves" "now" "LBoardMoves$Placement;") (List.mem_cons_of_mem _ flX4_37)) (fun _ h9 => h9) rfl dX4_put_85 ?_
          refine bm_wcallV (As := [.ref (ad 8)]) (rest := []) ⟨hx, hb, hml, hown, hts⟩ (w_copyp1p0  ⟨ok_pa_n, ok_pa_side, ok_pa_lowest⟩) (cwV 1 hts gvX4_108 rfl rfl rfl hvX2_copyFrom ⟨Nat.le_of_ble_eq_true rfl, Nat.le_of_ble_eq_true rfl⟩) hK hP hD hS hA 13 2 rfl ww_13 rfl hl.1 rfl (Nat.le_of_ble_eq_true rfl) dX4_put_88 ⟨Nat.le_of_ble_eq_true rfl, Nat.le_of_ble_eq_true rfl⟩ (fun H locs hP hD hS => ?_)
          have hP : va_P D vwCl (WW ad cJ cI cZ bm pa p0 (q_copyU p0 p1 pa.2.2.2.2.2.2) p2 li wi mt ms ma mp mk mn ou) H := hP
          have hD : va_D A (WW ad cJ cI cZ bm pa p0 (q_copyU p0 p1 pa.2.2.2.2.2.2) p2 li wi mt ms ma mp mk mn ou) := hD
          obtain ⟨pl_9, hpl_10⟩ : ∃ q9, q9 = q_copyU p0 p1 pa.2.2.2.2.2.2 := ⟨_, rfl⟩
          rw [← hpl_10] at hP hD
          have okq_11 : ∀ i, pl_9.2.2.1 i < 40 := by rw [hpl_10]; exact q_okL_copy (f := p0) (t := p1) ok_p0_turn ok_p1_turn
          have hag_12 : AG pa.2.2.2.2.2.2 pl_9 p0 := by rw [hpl_10]; exact ag_copy _ _ _
          have hP : va_P D vwCl (WW ad cJ cI cZ bm pa p0 pl_9 p2 li wi mt ms ma mp mk mn ou) H := hP
          have hD : va_D A (WW ad cJ cI cZ bm pa p0 pl_9 p2 li wi mt ms ma mp mk mn ou) := hD
          have hW_13 : ∀ j, j < pa.2.2.2.2.2.2 → q_well bm pa pl_9 li j = true := fun j hj => ag_well hag_12 hI.2.1 hj (hI.1 j hj)
          refine lv_aload_n hx hb dX4_put_91 rfl (lv_at hl 0 rfl) ?_
          refine va_get (D := D) (ci := 4) (v := .ref (ad 8)) (C := RX4) (T := TX4) (N := 10) hx hb hts (inT inX4) hown hK hP 0 ww_0 rfl 5 (by decide) (hts (.fieldLink RX4 37 "BoardMoves" "now" "LBoardMoves$Placement;") (List.mem_cons_of_mem _ flX4_37)) (fun _ h9 => h9) rfl dX4_put_92 ?_
          refine va_get (D := D) (ci := 2) (v := .ref (ad 12)) (C := RX2) (T := TX2) (N := 5) hx hb hts (inT inX2) hown hK hP 8 ww_8 rfl 4 (by decide) (hts (.fieldLink RX4 96 "BoardMoves$Placement" "placed" "[Z") (List.mem_cons_of_mem _ flX4_96)) (fun _ h9 => h9) rfl dX4_put_95 ?_
          refine lv_iload_n hx hb dX4_put_98 rfl (lv_at hl 1 rfl) ?_
          refine bm_zald (f := p0.2.2.2) hx hb hK hP 12 2 ww_12 rfl (j := zA) (by omega) (by decide) dX4_put_99 ?_
          refine bm_zb_eq (x := (p0.2.2.2 zA)) (tgt := 148) hx hb dX4_put_100 (by decide) (fun c_14 => ?_) (fun c_14 => ?_)
          · refine lv_aload_n hx hb dX4_put_148 rfl (lv_at hl 0 rfl) ?_
            refine va_get (D := D) (ci := 4) (v := .ref (ad 8)) (C := RX4) (T := TX4) (N := 10) hx hb hts (inT inX4) hown hK hP 0 ww_0 rfl 5 (by decide) (hts (.fieldLink RX4 37 "BoardMoves" "now" "LBoardMoves$Placement;") (List.mem_cons_of_mem _ flX4_37)) (fun _ h9 => h9) rfl dX4_put_149 ?_
            refine lv_iload_n hx hb dX4_put_152 rfl (lv_at hl 1 rfl) ?_
            refine lv_lload_n hx hb dX4_put_153 rfl (lv_at hl 2 rfl) ?_
            refine lv_lload hx hb dX4_put_154 (lv_at hl 3 rfl) ?_
            refine lv_iload hx hb dX4_put_156 (lv_at hl 4 rfl) ?_
            refine bm_xcallV (As := [.int (nI zA), .long zB, .long zC, .int (nI zD)]) (rest := []) ⟨hx, hb, hml, hown, hts⟩ (x_placeI  (zj := zA) (z1 := zB) (z2 := zC) (zt := zD) ok_p0_turn (by omega) (by omega)) (cwV 4 hts gvX4_123 rfl rfl rfl hvX2_place ⟨Nat.le_of_ble_eq_true rfl, Nat.le_of_ble_eq_true rfl⟩) hK hP hD hS hA 8 2 rfl ww_8 rfl hl.1 rfl (Nat.le_of_ble_eq_true rfl) dX4_put_158 ⟨Nat.le_of_ble_eq_true rfl, Nat.le_of_ble_eq_true rfl⟩ (fun ws_15 r_16 h_17 H locs hP hD hS => ?_)
            obtain ⟨g_18, g_19, g_20, ok_21, rfl, rfl⟩ := h_17
            have hP : va_P D vwCl (WW ad cJ cI cZ bm pa (g_18, g_19, g_20, va_up p0.2.2.2 zA true) pl_9 p2 li wi mt ms ma mp mk mn ou) H := hP
            have hD : va_D A (WW ad cJ cI cZ bm pa (g_18, g_19, g_20, va_up p0.2.2.2 zA true) pl_9 p2 li wi mt ms ma mp mk mn ou) := hD
            refine lv_aload_n hx hb dX4_put_161 rfl (lv_at hl 0 rfl) ?_
            refine lv_ldc2 (v := 9223372036854775807) hx hb hown (hts (.constantLong RX4 127 9223372036854775807) (List.mem_cons_of_mem _ clX4_127)) dX4_put_162 ?_
            refine lv_topl (fun t_22 _ => ?_)
            refine bm_xcallV (As := [.long t_22]) (rest := []) ⟨hx, hb, hml, hown, hts⟩ (x_keepI (p0 := (g_18, g_19, g_20, va_up p0.2.2.2 zA true)) (z1 := t_22) ok_pa_n ok_pa_side ok_pa_lowest ok_21 ok_li_keepOuts ok_li_nears ok_li_one ok_li_other okq_11 ok_wi_nets ok_wi_pins ok_wi_netOf ok_wi_partOf  hW_13 hI.2.1 (up_out hI.2.2 hk_zA)) (cwV 1 hts gvX4_129 rfl rfl rfl hvX4_keepChange ⟨Nat.le_of_ble_eq_true rfl, Nat.le_of_ble_eq_true rfl⟩) hK hP hD hS hA 0 4 rfl ww_0 rfl hl.1 rfl (Nat.le_of_ble_eq_true rfl) dX4_put_165 ⟨Nat.le_of_ble_eq_true rfl, Nat.le_of_ble_eq_true rfl⟩ (fun ws_23 r_24 h_25 H locs hP hD hS => ?_)
            obtain ⟨g_26, g_27, g_28, g_30, g_31, g_32, g_33, g_34, g_35, g_36, ok_29, hf_37, rfl, v_38, rfl⟩ := h_25
            have hP : va_P D vwCl (WW ad cJ cI cZ (bm.1, bm.2.1, bm.2.2.1, g_36) pa (g_26, g_27, g_28, g_30) pl_9 p2 li (wi.1, wi.2.1, wi.2.2.1, wi.2.2.2.1, g_31, g_32, g_33, g_34, g_35, wi.2.2.2.2.2.2.2.2.2.1, wi.2.2.2.2.2.2.2.2.2.2) mt ms ma mp mk mn ou) H := hP
            have hD : va_D A (WW ad cJ cI cZ (bm.1, bm.2.1, bm.2.2.1, g_36) pa (g_26, g_27, g_28, g_30) pl_9 p2 li (wi.1, wi.2.1, wi.2.2.1, wi.2.2.2.1, g_31, g_32, g_33, g_34, g_35, wi.2.2.2.2.2.2.2.2.2.1, wi.2.2.2.2.2.2.2.2.2.2) mt ms ma mp mk mn ou) := hD
            exact bm_zretX (v := v_38) hx hb hr hP hD hK hS ⟨(bm.1, bm.2.1, bm.2.2.1, g_36), pa, (g_26, g_27, g_28, g_30), pl_9, p2, li, (wi.1, wi.2.1, wi.2.2.1, wi.2.2.2.1, g_31, g_32, g_33, g_34, g_35, wi.2.2.2.2.2.2.2.2.2.1, wi.2.2.2.2.2.2.2.2.2.2), ou, ⟨ok_pa_n, ok_pa_side, ok_pa_lowest, ok_29, okq_11, ok_p2_turn, ok_li_one, ok_li_other, ok_li_keepOuts, ok_li_nears, ok_wi_netOf, ok_wi_partOf, ok_wi_nets, ok_wi_pins, hw, hh, (INV_to hf_37 rfl rfl rfl rfl rfl rfl rfl)⟩, rfl, rfl, v_38, rfl⟩ dX4_put_168 hlocks
          · refine lv_aload_n hx hb dX4_put_103 rfl (lv_at hl 0 rfl) ?_
            refine va_get (D := D) (ci := 4) (v := .ref (ad 8)) (C := RX4) (T := TX4) (N := 10) hx hb hts (inT inX4) hown hK hP 0 ww_0 rfl 5 (by decide) (hts (.fieldLink RX4 37 "BoardMoves" "now" "LBoardMoves$Placement;") (List.mem_cons_of_mem _ flX4_37)) (fun _ h9 => h9) rfl dX4_put_104 ?_
            refine lv_iload_n hx hb dX4_put_107 rfl (lv_at hl 1 rfl) ?_
            refine lv_lload_n hx hb dX4_put_108 rfl (lv_at hl 2 rfl) ?_
            refine lv_aload_n hx hb dX4_put_109 rfl (lv_at hl 0 rfl) ?_
            refine va_get (D := D) (ci := 4) (v := .ref (ad 8)) (C := RX4) (T := TX4) (N := 10) hx hb hts (inT inX4) hown hK hP 0 ww_0 rfl 5 (by decide) (hts (.fieldLink RX4 37 "BoardMoves" "now" "LBoardMoves$Placement;") (List.mem_cons_of_mem _ flX4_37)) (fun _ h9 => h9) rfl dX4_put_110 ?_
            refine va_get (D := D) (ci := 2) (v := .ref (ad 9)) (C := RX2) (T := TX2) (N := 5) hx hb hts (inT inX2) hown hK hP 8 ww_8 rfl 1 (by decide) (hts (.fieldLink RX4 112 "BoardMoves$Placement" "x" "[J") (List.mem_cons_of_mem _ flX4_112)) (fun _ h9 => h9) rfl dX4_put_113 ?_
            refine lv_iload_n hx hb dX4_put_116 rfl (lv_at hl 1 rfl) ?_
            refine bm_lald (f := p0.1) hx hb hK hP 9 0 ww_9 rfl (j := zA) (by omega) (by decide) dX4_put_117 ?_
            refine lv_topl (fun t_39 _ => ?_)
            refine lv_lsub hx hb dX4_put_118 ?_
            refine lv_topl (fun t_40 _ => ?_)
            refine lv_lload hx hb dX4_put_119 (lv_at hl 3 rfl) ?_
            refine lv_aload_n hx hb dX4_put_121 rfl (lv_at hl 0 rfl) ?_
            refine va_get (D := D) (ci := 4) (v := .ref (ad 8)) (C := RX4) (T := TX4) (N := 10) hx hb hts (inT inX4) hown hK hP 0 ww_0 rfl 5 (by decide) (hts (.fieldLink RX4 37 "BoardMoves" "now" "LBoardMoves$Placement;") (List.mem_cons_of_mem _ flX4_37)) (fun _ h9 => h9) rfl dX4_put_122 ?_
            refine va_get (D := D) (ci := 2) (v := .ref (ad 10)) (C := RX2) (T := TX2) (N := 5) hx hb hts (inT inX2) hown hK hP 8 ww_8 rfl 2 (by decide) (hts (.fieldLink RX4 116 "BoardMoves$Placement" "y" "[J") (List.mem_cons_of_mem _ flX4_116)) (fun _ h9 => h9) rfl dX4_put_125 ?_
            refine lv_iload_n hx hb dX4_put_128 rfl (lv_at hl 1 rfl) ?_
            refine bm_lald (f := p0.2.1) hx hb hK hP 10 0 ww_10 rfl (j := zA) (by omega) (by decide) dX4_put_129 ?_
            refine lv_topl (fun t_41 _ => ?_)
            refine lv_lsub hx hb dX4_put_130 ?_
            refine lv_topl (fun t_42 _ => ?_)
            refine bm_xcallV (As := [.int (nI zA), .long t_40, .long t_42]) (rest := []) ⟨hx, hb, hml, hown, hts⟩ (x_shift  (zj := zA) (z1 := t_40) (z2 := t_42) ok_pa_n ok_pa_lowest (by omega)) (cwV 3 hts gvX4_119 rfl rfl rfl hvX2_shiftGroup ⟨Nat.le_of_ble_eq_true rfl, Nat.le_of_ble_eq_true rfl⟩) hK hP hD hS hA 8 2 rfl ww_8 rfl hl.1 rfl (Nat.le_of_ble_eq_true rfl) dX4_put_131 ⟨Nat.le_of_ble_eq_true rfl, Nat.le_of_ble_eq_true rfl⟩ (fun ws_43 r_44 h_45 H locs hP hD hS => ?_)
            obtain ⟨g_46, g_47, rfl, rfl⟩ := h_45
            have hP : va_P D vwCl (WW ad cJ cI cZ bm pa (g_46, g_47, p0.2.2.1, p0.2.2.2) pl_9 p2 li wi mt ms ma mp mk mn ou) H := hP
            have hD : va_D A (WW ad cJ cI cZ bm pa (g_46, g_47, p0.2.2.1, p0.2.2.2) pl_9 p2 li wi mt ms ma mp mk mn ou) := hD
            refine lv_aload_n hx hb dX4_put_134 rfl (lv_at hl 0 rfl) ?_
            refine va_get (D := D) (ci := 4) (v := .ref (ad 8)) (C := RX4) (T := TX4) (N := 10) hx hb hts (inT inX4) hown hK hP 0 ww_0 rfl 5 (by decide) (hts (.fieldLink RX4 37 "BoardMoves" "now" "LBoardMoves$Placement;") (List.mem_cons_of_mem _ flX4_37)) (fun _ h9 => h9) rfl dX4_put_135 ?_
            refine va_get (D := D) (ci := 2) (v := .ref (ad 11)) (C := RX2) (T := TX2) (N := 5) hx hb hts (inT inX2) hown hK hP 8 ww_8 rfl 3 (by decide) (hts (.fieldLink RX4 100 "BoardMoves$Placement" "turn" "[I") (List.mem_cons_of_mem _ flX4_100)) (fun _ h9 => h9) rfl dX4_put_138 ?_
            refine lv_iload_n hx hb dX4_put_141 rfl (lv_at hl 1 rfl) ?_
            refine lv_iload hx hb dX4_put_142 (lv_at hl 4 rfl) ?_
            refine bm_nast (f := p0.2.2.1) hx hb hK hP hD hS 11 1 ww_11 rfl (j := zA) (x := zD) (by omega) (by decide) dX4_put_144 (fun H locs hP hD hS => ?_)
            have hP : va_P D vwCl (WW ad cJ cI cZ bm pa (g_46, g_47, va_up p0.2.2.1 zA zD, p0.2.2.2) pl_9 p2 li wi mt ms ma mp mk mn ou) H := hP
            have hD : va_D A (WW ad cJ cI cZ bm pa (g_46, g_47, va_up p0.2.2.1 zA zD, p0.2.2.2) pl_9 p2 li wi mt ms ma mp mk mn ou) := hD
            refine lv_goto (tgt := 161) hx hb dX4_put_145 (by decide) ?_
            refine lv_aload_n hx hb dX4_put_161 rfl (lv_at hl 0 rfl) ?_
            refine lv_ldc2 (v := 9223372036854775807) hx hb hown (hts (.constantLong RX4 127 9223372036854775807) (List.mem_cons_of_mem _ clX4_127)) dX4_put_162 ?_
            refine lv_topl (fun t_48 _ => ?_)
            refine bm_xcallV (As := [.long t_48]) (rest := []) ⟨hx, hb, hml, hown, hts⟩ (x_keepI (p0 := (g_46, g_47, va_up p0.2.2.1 zA zD, p0.2.2.2)) (z1 := t_48) ok_pa_n ok_pa_side ok_pa_lowest (bx_uplt ok_p0_turn (by omega)) ok_li_keepOuts ok_li_nears ok_li_one ok_li_other okq_11 ok_wi_nets ok_wi_pins ok_wi_netOf ok_wi_partOf  hW_13 hI.2.1 hI.2.2) (cwV 1 hts gvX4_129 rfl rfl rfl hvX4_keepChange ⟨Nat.le_of_ble_eq_true rfl, Nat.le_of_ble_eq_true rfl⟩) hK hP hD hS hA 0 4 rfl ww_0 rfl hl.1 rfl (Nat.le_of_ble_eq_true rfl) dX4_put_165 ⟨Nat.le_of_ble_eq_true rfl, Nat.le_of_ble_eq_true rfl⟩ (fun ws_49 r_50 h_51 H locs hP hD hS => ?_)
            obtain ⟨g_52, g_53, g_54, g_56, g_57, g_58, g_59, g_60, g_61, g_62, ok_55, hf_63, rfl, v_64, rfl⟩ := h_51
            have hP : va_P D vwCl (WW ad cJ cI cZ (bm.1, bm.2.1, bm.2.2.1, g_62) pa (g_52, g_53, g_54, g_56) pl_9 p2 li (wi.1, wi.2.1, wi.2.2.1, wi.2.2.2.1, g_57, g_58, g_59, g_60, g_61, wi.2.2.2.2.2.2.2.2.2.1, wi.2.2.2.2.2.2.2.2.2.2) mt ms ma mp mk mn ou) H := hP
            have hD : va_D A (WW ad cJ cI cZ (bm.1, bm.2.1, bm.2.2.1, g_62) pa (g_52, g_53, g_54, g_56) pl_9 p2 li (wi.1, wi.2.1, wi.2.2.1, wi.2.2.2.1, g_57, g_58, g_59, g_60, g_61, wi.2.2.2.2.2.2.2.2.2.1, wi.2.2.2.2.2.2.2.2.2.2) mt ms ma mp mk mn ou) := hD
            exact bm_zretX (v := v_64) hx hb hr hP hD hK hS ⟨(bm.1, bm.2.1, bm.2.2.1, g_62), pa, (g_52, g_53, g_54, g_56), pl_9, p2, li, (wi.1, wi.2.1, wi.2.2.1, wi.2.2.2.1, g_57, g_58, g_59, g_60, g_61, wi.2.2.2.2.2.2.2.2.2.1, wi.2.2.2.2.2.2.2.2.2.2), ou, ⟨ok_pa_n, ok_pa_side, ok_pa_lowest, ok_55, okq_11, ok_p2_turn, ok_li_one, ok_li_other, ok_li_keepOuts, ok_li_nears, ok_wi_netOf, ok_wi_partOf, ok_wi_nets, ok_wi_pins, hw, hh, (INV_to hf_63 rfl rfl rfl rfl rfl rfl rfl)⟩, rfl, rfl, v_64, rfl⟩ dX4_put_168 hlocks
        · refine lv_iload hx hb dX4_put_53 (lv_at hl 4 rfl) ?_
          refine lv_aload_n hx hb dX4_put_55 rfl (lv_at hl 0 rfl) ?_
          refine va_get (D := D) (ci := 4) (v := .ref (ad 8)) (C := RX4) (T := TX4) (N := 10) hx hb hts (inT inX4) hown hK hP 0 ww_0 rfl 5 (by decide) (hts (.fieldLink RX4 37 "BoardMoves" "now" "LBoardMoves$Placement;") (List.mem_cons_of_mem _ flX4_37)) (fun _ h9 => h9) rfl dX4_put_56 ?_
          refine va_get (D := D) (ci := 2) (v := .ref (ad 11)) (C := RX2) (T := TX2) (N := 5) hx hb hts (inT inX2) hown hK hP 8 ww_8 rfl 3 (by decide) (hts (.fieldLink RX4 100 "BoardMoves$Placement" "turn" "[I") (List.mem_cons_of_mem _ flX4_100)) (fun _ h9 => h9) rfl dX4_put_59 ?_
          refine lv_iload_n hx hb dX4_put_62 rfl (lv_at hl 1 rfl) ?_
          refine bm_nald (f := p0.2.2.1) hx hb hK hP 11 1 ww_11 rfl (j := zA) (by omega) (by decide) dX4_put_63 ?_
          refine bm_ni_eq (x := zD) (y := (p0.2.2.1 zA)) (tgt := 80) hx hb (by omega) (bm40 (ok_p0_turn _)) dX4_put_64 (by decide) (fun c_65 => ?_) (fun c_65 => ?_)
          · refine lv_aload_n hx hb dX4_put_80 rfl (lv_at hl 0 rfl) ?_
            refine va_get (D := D) (ci := 4) (v := .ref (ad 13)) (C := RX4) (T := TX4) (N := 10) hx hb hts (inT inX4) hown hK hP 0 ww_0 rfl 6 (by decide) (hts (.fieldLink RX4 41 "BoardMoves" "before" "LBoardMoves$Placement;") (List.mem_cons_of_mem _ flX4_41)) (fun _ h9 => h9) rfl dX4_put_81 ?_
            refine lv_aload_n hx hb dX4_put_84 rfl (lv_at hl 0 rfl) ?_
            refine va_get (D := D) (ci := 4) (v := .ref (ad 8)) (C := RX4) (T := TX4) (N := 10) hx hb hts (inT inX4) hown hK hP 0 ww_0 rfl 5 (by decide) (hts (.fieldLink RX4 37 "BoardMoves" "now" "LBoardMoves$Placement;") (List.mem_cons_of_mem _ flX4_37)) (fun _ h9 => h9) rfl dX4_put_85 ?_
            refine bm_wcallV (As := [.ref (ad 8)]) (rest := []) ⟨hx, hb, hml, hown, hts⟩ (w_copyp1p0  ⟨ok_pa_n, ok_pa_side, ok_pa_lowest⟩) (cwV 1 hts gvX4_108 rfl rfl rfl hvX2_copyFrom ⟨Nat.le_of_ble_eq_true rfl, Nat.le_of_ble_eq_true rfl⟩) hK hP hD hS hA 13 2 rfl ww_13 rfl hl.1 rfl (Nat.le_of_ble_eq_true rfl) dX4_put_88 ⟨Nat.le_of_ble_eq_true rfl, Nat.le_of_ble_eq_true rfl⟩ (fun H locs hP hD hS => ?_)
            have hP : va_P D vwCl (WW ad cJ cI cZ bm pa p0 (q_copyU p0 p1 pa.2.2.2.2.2.2) p2 li wi mt ms ma mp mk mn ou) H := hP
            have hD : va_D A (WW ad cJ cI cZ bm pa p0 (q_copyU p0 p1 pa.2.2.2.2.2.2) p2 li wi mt ms ma mp mk mn ou) := hD
            obtain ⟨pl_66, hpl_67⟩ : ∃ q9, q9 = q_copyU p0 p1 pa.2.2.2.2.2.2 := ⟨_, rfl⟩
            rw [← hpl_67] at hP hD
            have okq_68 : ∀ i, pl_66.2.2.1 i < 40 := by rw [hpl_67]; exact q_okL_copy (f := p0) (t := p1) ok_p0_turn ok_p1_turn
            have hag_69 : AG pa.2.2.2.2.2.2 pl_66 p0 := by rw [hpl_67]; exact ag_copy _ _ _
            have hP : va_P D vwCl (WW ad cJ cI cZ bm pa p0 pl_66 p2 li wi mt ms ma mp mk mn ou) H := hP
            have hD : va_D A (WW ad cJ cI cZ bm pa p0 pl_66 p2 li wi mt ms ma mp mk mn ou) := hD
            have hW_70 : ∀ j, j < pa.2.2.2.2.2.2 → q_well bm pa pl_66 li j = true := fun j hj => ag_well hag_69 hI.2.1 hj (hI.1 j hj)
            refine lv_aload_n hx hb dX4_put_91 rfl (lv_at hl 0 rfl) ?_
            refine va_get (D := D) (ci := 4) (v := .ref (ad 8)) (C := RX4) (T := TX4) (N := 10) hx hb hts (inT inX4) hown hK hP 0 ww_0 rfl 5 (by decide) (hts (.fieldLink RX4 37 "BoardMoves" "now" "LBoardMoves$Placement;") (List.mem_cons_of_mem _ flX4_37)) (fun _ h9 => h9) rfl dX4_put_92 ?_
            refine va_get (D := D) (ci := 2) (v := .ref (ad 12)) (C := RX2) (T := TX2) (N := 5) hx hb hts (inT inX2) hown hK hP 8 ww_8 rfl 4 (by decide) (hts (.fieldLink RX4 96 "BoardMoves$Placement" "placed" "[Z") (List.mem_cons_of_mem _ flX4_96)) (fun _ h9 => h9) rfl dX4_put_95 ?_
            refine lv_iload_n hx hb dX4_put_98 rfl (lv_at hl 1 rfl) ?_
            refine bm_zald (f := p0.2.2.2) hx hb hK hP 12 2 ww_12 rfl (j := zA) (by omega) (by decide) dX4_put_99 ?_
            refine bm_zb_eq (x := (p0.2.2.2 zA)) (tgt := 148) hx hb dX4_put_100 (by decide) (fun c_71 => ?_) (fun c_71 => ?_)
            · refine lv_aload_n hx hb dX4_put_148 rfl (lv_at hl 0 rfl) ?_
              refine va_get (D := D) (ci := 4) (v := .ref (ad 8)) (C := RX4) (T := TX4) (N := 10) hx hb hts (inT inX4) hown hK hP 0 ww_0 rfl 5 (by decide) (hts (.fieldLink RX4 37 "BoardMoves" "now" "LBoardMoves$Placement;") (List.mem_cons_of_mem _ flX4_37)) (fun _ h9 => h9) rfl dX4_put_149 ?_
              refine lv_iload_n hx hb dX4_put_152 rfl (lv_at hl 1 rfl) ?_
              refine lv_lload_n hx hb dX4_put_153 rfl (lv_at hl 2 rfl) ?_
              refine lv_lload hx hb dX4_put_154 (lv_at hl 3 rfl) ?_
              refine lv_iload hx hb dX4_put_156 (lv_at hl 4 rfl) ?_
              refine bm_xcallV (As := [.int (nI zA), .long zB, .long zC, .int (nI zD)]) (rest := []) ⟨hx, hb, hml, hown, hts⟩ (x_placeI  (zj := zA) (z1 := zB) (z2 := zC) (zt := zD) ok_p0_turn (by omega) (by omega)) (cwV 4 hts gvX4_123 rfl rfl rfl hvX2_place ⟨Nat.le_of_ble_eq_true rfl, Nat.le_of_ble_eq_true rfl⟩) hK hP hD hS hA 8 2 rfl ww_8 rfl hl.1 rfl (Nat.le_of_ble_eq_true rfl) dX4_put_158 ⟨Nat.le_of_ble_eq_true rfl, Nat.le_of_ble_eq_true rfl⟩ (fun ws_72 r_73 h_74 H locs hP hD hS => ?_)
              obtain ⟨g_75, g_76, g_77, ok_78, rfl, rfl⟩ := h_74
              have hP : va_P D vwCl (WW ad cJ cI cZ bm pa (g_75, g_76, g_77, va_up p0.2.2.2 zA true) pl_66 p2 li wi mt ms ma mp mk mn ou) H := hP
              have hD : va_D A (WW ad cJ cI cZ bm pa (g_75, g_76, g_77, va_up p0.2.2.2 zA true) pl_66 p2 li wi mt ms ma mp mk mn ou) := hD
              refine lv_aload_n hx hb dX4_put_161 rfl (lv_at hl 0 rfl) ?_
              refine lv_ldc2 (v := 9223372036854775807) hx hb hown (hts (.constantLong RX4 127 9223372036854775807) (List.mem_cons_of_mem _ clX4_127)) dX4_put_162 ?_
              refine lv_topl (fun t_79 _ => ?_)
              refine bm_xcallV (As := [.long t_79]) (rest := []) ⟨hx, hb, hml, hown, hts⟩ (x_keepI (p0 := (g_75, g_76, g_77, va_up p0.2.2.2 zA true)) (z1 := t_79) ok_pa_n ok_pa_side ok_pa_lowest ok_78 ok_li_keepOuts ok_li_nears ok_li_one ok_li_other okq_68 ok_wi_nets ok_wi_pins ok_wi_netOf ok_wi_partOf  hW_70 hI.2.1 (up_out hI.2.2 hk_zA)) (cwV 1 hts gvX4_129 rfl rfl rfl hvX4_keepChange ⟨Nat.le_of_ble_eq_true rfl, Nat.le_of_ble_eq_true rfl⟩) hK hP hD hS hA 0 4 rfl ww_0 rfl hl.1 rfl (Nat.le_of_ble_eq_true rfl) dX4_put_165 ⟨Nat.le_of_ble_eq_true rfl, Nat.le_of_ble_eq_true rfl⟩ (fun ws_80 r_81 h_82 H locs hP hD hS => ?_)
              obtain ⟨g_83, g_84, g_85, g_87, g_88, g_89, g_90, g_91, g_92, g_93, ok_86, hf_94, rfl, v_95, rfl⟩ := h_82
              have hP : va_P D vwCl (WW ad cJ cI cZ (bm.1, bm.2.1, bm.2.2.1, g_93) pa (g_83, g_84, g_85, g_87) pl_66 p2 li (wi.1, wi.2.1, wi.2.2.1, wi.2.2.2.1, g_88, g_89, g_90, g_91, g_92, wi.2.2.2.2.2.2.2.2.2.1, wi.2.2.2.2.2.2.2.2.2.2) mt ms ma mp mk mn ou) H := hP
              have hD : va_D A (WW ad cJ cI cZ (bm.1, bm.2.1, bm.2.2.1, g_93) pa (g_83, g_84, g_85, g_87) pl_66 p2 li (wi.1, wi.2.1, wi.2.2.1, wi.2.2.2.1, g_88, g_89, g_90, g_91, g_92, wi.2.2.2.2.2.2.2.2.2.1, wi.2.2.2.2.2.2.2.2.2.2) mt ms ma mp mk mn ou) := hD
              exact bm_zretX (v := v_95) hx hb hr hP hD hK hS ⟨(bm.1, bm.2.1, bm.2.2.1, g_93), pa, (g_83, g_84, g_85, g_87), pl_66, p2, li, (wi.1, wi.2.1, wi.2.2.1, wi.2.2.2.1, g_88, g_89, g_90, g_91, g_92, wi.2.2.2.2.2.2.2.2.2.1, wi.2.2.2.2.2.2.2.2.2.2), ou, ⟨ok_pa_n, ok_pa_side, ok_pa_lowest, ok_86, okq_68, ok_p2_turn, ok_li_one, ok_li_other, ok_li_keepOuts, ok_li_nears, ok_wi_netOf, ok_wi_partOf, ok_wi_nets, ok_wi_pins, hw, hh, (INV_to hf_94 rfl rfl rfl rfl rfl rfl rfl)⟩, rfl, rfl, v_95, rfl⟩ dX4_put_168 hlocks
            · refine lv_aload_n hx hb dX4_put_103 rfl (lv_at hl 0 rfl) ?_
              refine va_get (D := D) (ci := 4) (v := .ref (ad 8)) (C := RX4) (T := TX4) (N := 10) hx hb hts (inT inX4) hown hK hP 0 ww_0 rfl 5 (by decide) (hts (.fieldLink RX4 37 "BoardMoves" "now" "LBoardMoves$Placement;") (List.mem_cons_of_mem _ flX4_37)) (fun _ h9 => h9) rfl dX4_put_104 ?_
              refine lv_iload_n hx hb dX4_put_107 rfl (lv_at hl 1 rfl) ?_
              refine lv_lload_n hx hb dX4_put_108 rfl (lv_at hl 2 rfl) ?_
              refine lv_aload_n hx hb dX4_put_109 rfl (lv_at hl 0 rfl) ?_
              refine va_get (D := D) (ci := 4) (v := .ref (ad 8)) (C := RX4) (T := TX4) (N := 10) hx hb hts (inT inX4) hown hK hP 0 ww_0 rfl 5 (by decide) (hts (.fieldLink RX4 37 "BoardMoves" "now" "LBoardMoves$Placement;") (List.mem_cons_of_mem _ flX4_37)) (fun _ h9 => h9) rfl dX4_put_110 ?_
              refine va_get (D := D) (ci := 2) (v := .ref (ad 9)) (C := RX2) (T := TX2) (N := 5) hx hb hts (inT inX2) hown hK hP 8 ww_8 rfl 1 (by decide) (hts (.fieldLink RX4 112 "BoardMoves$Placement" "x" "[J") (List.mem_cons_of_mem _ flX4_112)) (fun _ h9 => h9) rfl dX4_put_113 ?_
              refine lv_iload_n hx hb dX4_put_116 rfl (lv_at hl 1 rfl) ?_
              refine bm_lald (f := p0.1) hx hb hK hP 9 0 ww_9 rfl (j := zA) (by omega) (by decide) dX4_put_117 ?_
              refine lv_topl (fun t_96 _ => ?_)
              refine lv_lsub hx hb dX4_put_118 ?_
              refine lv_topl (fun t_97 _ => ?_)
              refine lv_lload hx hb dX4_put_119 (lv_at hl 3 rfl) ?_
              refine lv_aload_n hx hb dX4_put_121 rfl (lv_at hl 0 rfl) ?_
              refine va_get (D := D) (ci := 4) (v := .ref (ad 8)) (C := RX4) (T := TX4) (N := 10) hx hb hts (inT inX4) hown hK hP 0 ww_0 rfl 5 (by decide) (hts (.fieldLink RX4 37 "BoardMoves" "now" "LBoardMoves$Placement;") (List.mem_cons_of_mem _ flX4_37)) (fun _ h9 => h9) rfl dX4_put_122 ?_
              refine va_get (D := D) (ci := 2) (v := .ref (ad 10)) (C := RX2) (T := TX2) (N := 5) hx hb hts (inT inX2) hown hK hP 8 ww_8 rfl 2 (by decide) (hts (.fieldLink RX4 116 "BoardMoves$Placement" "y" "[J") (List.mem_cons_of_mem _ flX4_116)) (fun _ h9 => h9) rfl dX4_put_125 ?_
              refine lv_iload_n hx hb dX4_put_128 rfl (lv_at hl 1 rfl) ?_
              refine bm_lald (f := p0.2.1) hx hb hK hP 10 0 ww_10 rfl (j := zA) (by omega) (by decide) dX4_put_129 ?_
              refine lv_topl (fun t_98 _ => ?_)
              refine lv_lsub hx hb dX4_put_130 ?_
              refine lv_topl (fun t_99 _ => ?_)
              refine bm_xcallV (As := [.int (nI zA), .long t_97, .long t_99]) (rest := []) ⟨hx, hb, hml, hown, hts⟩ (x_shift  (zj := zA) (z1 := t_97) (z2 := t_99) ok_pa_n ok_pa_lowest (by omega)) (cwV 3 hts gvX4_119 rfl rfl rfl hvX2_shiftGroup ⟨Nat.le_of_ble_eq_true rfl, Nat.le_of_ble_eq_true rfl⟩) hK hP hD hS hA 8 2 rfl ww_8 rfl hl.1 rfl (Nat.le_of_ble_eq_true rfl) dX4_put_131 ⟨Nat.le_of_ble_eq_true rfl, Nat.le_of_ble_eq_true rfl⟩ (fun ws_100 r_101 h_102 H locs hP hD hS => ?_)
              obtain ⟨g_103, g_104, rfl, rfl⟩ := h_102
              have hP : va_P D vwCl (WW ad cJ cI cZ bm pa (g_103, g_104, p0.2.2.1, p0.2.2.2) pl_66 p2 li wi mt ms ma mp mk mn ou) H := hP
              have hD : va_D A (WW ad cJ cI cZ bm pa (g_103, g_104, p0.2.2.1, p0.2.2.2) pl_66 p2 li wi mt ms ma mp mk mn ou) := hD
              refine lv_aload_n hx hb dX4_put_134 rfl (lv_at hl 0 rfl) ?_
              refine va_get (D := D) (ci := 4) (v := .ref (ad 8)) (C := RX4) (T := TX4) (N := 10) hx hb hts (inT inX4) hown hK hP 0 ww_0 rfl 5 (by decide) (hts (.fieldLink RX4 37 "BoardMoves" "now" "LBoardMoves$Placement;") (List.mem_cons_of_mem _ flX4_37)) (fun _ h9 => h9) rfl dX4_put_135 ?_
              refine va_get (D := D) (ci := 2) (v := .ref (ad 11)) (C := RX2) (T := TX2) (N := 5) hx hb hts (inT inX2) hown hK hP 8 ww_8 rfl 3 (by decide) (hts (.fieldLink RX4 100 "BoardMoves$Placement" "turn" "[I") (List.mem_cons_of_mem _ flX4_100)) (fun _ h9 => h9) rfl dX4_put_138 ?_
              refine lv_iload_n hx hb dX4_put_141 rfl (lv_at hl 1 rfl) ?_
              refine lv_iload hx hb dX4_put_142 (lv_at hl 4 rfl) ?_
              refine bm_nast (f := p0.2.2.1) hx hb hK hP hD hS 11 1 ww_11 rfl (j := zA) (x := zD) (by omega) (by decide) dX4_put_144 (fun H locs hP hD hS => ?_)
              have hP : va_P D vwCl (WW ad cJ cI cZ bm pa (g_103, g_104, va_up p0.2.2.1 zA zD, p0.2.2.2) pl_66 p2 li wi mt ms ma mp mk mn ou) H := hP
              have hD : va_D A (WW ad cJ cI cZ bm pa (g_103, g_104, va_up p0.2.2.1 zA zD, p0.2.2.2) pl_66 p2 li wi mt ms ma mp mk mn ou) := hD
              refine lv_goto (tgt := 161) hx hb dX4_put_145 (by decide) ?_
              refine lv_aload_n hx hb dX4_put_161 rfl (lv_at hl 0 rfl) ?_
              refine lv_ldc2 (v := 9223372036854775807) hx hb hown (hts (.constantLong RX4 127 9223372036854775807) (List.mem_cons_of_mem _ clX4_127)) dX4_put_162 ?_
              refine lv_topl (fun t_105 _ => ?_)
              refine bm_xcallV (As := [.long t_105]) (rest := []) ⟨hx, hb, hml, hown, hts⟩ (x_keepI (p0 := (g_103, g_104, va_up p0.2.2.1 zA zD, p0.2.2.2)) (z1 := t_105) ok_pa_n ok_pa_side ok_pa_lowest (bx_uplt ok_p0_turn (by omega)) ok_li_keepOuts ok_li_nears ok_li_one ok_li_other okq_68 ok_wi_nets ok_wi_pins ok_wi_netOf ok_wi_partOf  hW_70 hI.2.1 hI.2.2) (cwV 1 hts gvX4_129 rfl rfl rfl hvX4_keepChange ⟨Nat.le_of_ble_eq_true rfl, Nat.le_of_ble_eq_true rfl⟩) hK hP hD hS hA 0 4 rfl ww_0 rfl hl.1 rfl (Nat.le_of_ble_eq_true rfl) dX4_put_165 ⟨Nat.le_of_ble_eq_true rfl, Nat.le_of_ble_eq_true rfl⟩ (fun ws_106 r_107 h_108 H locs hP hD hS => ?_)
              obtain ⟨g_109, g_110, g_111, g_113, g_114, g_115, g_116, g_117, g_118, g_119, ok_112, hf_120, rfl, v_121, rfl⟩ := h_108
              have hP : va_P D vwCl (WW ad cJ cI cZ (bm.1, bm.2.1, bm.2.2.1, g_119) pa (g_109, g_110, g_111, g_113) pl_66 p2 li (wi.1, wi.2.1, wi.2.2.1, wi.2.2.2.1, g_114, g_115, g_116, g_117, g_118, wi.2.2.2.2.2.2.2.2.2.1, wi.2.2.2.2.2.2.2.2.2.2) mt ms ma mp mk mn ou) H := hP
              have hD : va_D A (WW ad cJ cI cZ (bm.1, bm.2.1, bm.2.2.1, g_119) pa (g_109, g_110, g_111, g_113) pl_66 p2 li (wi.1, wi.2.1, wi.2.2.1, wi.2.2.2.1, g_114, g_115, g_116, g_117, g_118, wi.2.2.2.2.2.2.2.2.2.1, wi.2.2.2.2.2.2.2.2.2.2) mt ms ma mp mk mn ou) := hD
              exact bm_zretX (v := v_121) hx hb hr hP hD hK hS ⟨(bm.1, bm.2.1, bm.2.2.1, g_119), pa, (g_109, g_110, g_111, g_113), pl_66, p2, li, (wi.1, wi.2.1, wi.2.2.1, wi.2.2.2.1, g_114, g_115, g_116, g_117, g_118, wi.2.2.2.2.2.2.2.2.2.1, wi.2.2.2.2.2.2.2.2.2.2), ou, ⟨ok_pa_n, ok_pa_side, ok_pa_lowest, ok_112, okq_68, ok_p2_turn, ok_li_one, ok_li_other, ok_li_keepOuts, ok_li_nears, ok_wi_netOf, ok_wi_partOf, ok_wi_nets, ok_wi_pins, hw, hh, (INV_to hf_120 rfl rfl rfl rfl rfl rfl rfl)⟩, rfl, rfl, v_121, rfl⟩ dX4_put_168 hlocks
          · refine lv_aload_n hx hb dX4_put_67 rfl (lv_at hl 0 rfl) ?_
            refine va_get (D := D) (ci := 4) (v := .ref (ad 8)) (C := RX4) (T := TX4) (N := 10) hx hb hts (inT inX4) hown hK hP 0 ww_0 rfl 5 (by decide) (hts (.fieldLink RX4 37 "BoardMoves" "now" "LBoardMoves$Placement;") (List.mem_cons_of_mem _ flX4_37)) (fun _ h9 => h9) rfl dX4_put_68 ?_
            refine lv_iload_n hx hb dX4_put_71 rfl (lv_at hl 1 rfl) ?_
            refine bm_xcallV (As := [.int (nI zA)]) (rest := []) ⟨hx, hb, hml, hown, hts⟩ (x_mateP  (zj := zA) ok_pa_n ok_pa_lowest (by omega)) (cwV 1 hts gvX4_104 rfl rfl rfl hvX2_hasPlacedMate ⟨Nat.le_of_ble_eq_true rfl, Nat.le_of_ble_eq_true rfl⟩) hK hP hD hS hA 8 2 rfl ww_8 rfl hl.1 rfl (Nat.le_of_ble_eq_true rfl) dX4_put_72 ⟨Nat.le_of_ble_eq_true rfl, Nat.le_of_ble_eq_true rfl⟩ (fun ws_122 r_123 h_124 H locs hP hD hS => ?_)
            obtain ⟨rfl, v_125, rfl⟩ := h_124
            have hP : va_P D vwCl (WW ad cJ cI cZ bm pa p0 p1 p2 li wi mt ms ma mp mk mn ou) H := hP
            have hD : va_D A (WW ad cJ cI cZ bm pa p0 p1 p2 li wi mt ms ma mp mk mn ou) := hD
            refine bm_zb_eq (x := v_125) (tgt := 80) hx hb dX4_put_75 (by decide) (fun c_126 => ?_) (fun c_126 => ?_)
            · refine lv_aload_n hx hb dX4_put_80 rfl (lv_at hl 0 rfl) ?_
              refine va_get (D := D) (ci := 4) (v := .ref (ad 13)) (C := RX4) (T := TX4) (N := 10) hx hb hts (inT inX4) hown hK hP 0 ww_0 rfl 6 (by decide) (hts (.fieldLink RX4 41 "BoardMoves" "before" "LBoardMoves$Placement;") (List.mem_cons_of_mem _ flX4_41)) (fun _ h9 => h9) rfl dX4_put_81 ?_
              refine lv_aload_n hx hb dX4_put_84 rfl (lv_at hl 0 rfl) ?_
              refine va_get (D := D) (ci := 4) (v := .ref (ad 8)) (C := RX4) (T := TX4) (N := 10) hx hb hts (inT inX4) hown hK hP 0 ww_0 rfl 5 (by decide) (hts (.fieldLink RX4 37 "BoardMoves" "now" "LBoardMoves$Placement;") (List.mem_cons_of_mem _ flX4_37)) (fun _ h9 => h9) rfl dX4_put_85 ?_
              refine bm_wcallV (As := [.ref (ad 8)]) (rest := []) ⟨hx, hb, hml, hown, hts⟩ (w_copyp1p0  ⟨ok_pa_n, ok_pa_side, ok_pa_lowest⟩) (cwV 1 hts gvX4_108 rfl rfl rfl hvX2_copyFrom ⟨Nat.le_of_ble_eq_true rfl, Nat.le_of_ble_eq_true rfl⟩) hK hP hD hS hA 13 2 rfl ww_13 rfl hl.1 rfl (Nat.le_of_ble_eq_true rfl) dX4_put_88 ⟨Nat.le_of_ble_eq_true rfl, Nat.le_of_ble_eq_true rfl⟩ (fun H locs hP hD hS => ?_)
              have hP : va_P D vwCl (WW ad cJ cI cZ bm pa p0 (q_copyU p0 p1 pa.2.2.2.2.2.2) p2 li wi mt ms ma mp mk mn ou) H := hP
              have hD : va_D A (WW ad cJ cI cZ bm pa p0 (q_copyU p0 p1 pa.2.2.2.2.2.2) p2 li wi mt ms ma mp mk mn ou) := hD
              obtain ⟨pl_127, hpl_128⟩ : ∃ q9, q9 = q_copyU p0 p1 pa.2.2.2.2.2.2 := ⟨_, rfl⟩
              rw [← hpl_128] at hP hD
              have okq_129 : ∀ i, pl_127.2.2.1 i < 40 := by rw [hpl_128]; exact q_okL_copy (f := p0) (t := p1) ok_p0_turn ok_p1_turn
              have hag_130 : AG pa.2.2.2.2.2.2 pl_127 p0 := by rw [hpl_128]; exact ag_copy _ _ _
              have hP : va_P D vwCl (WW ad cJ cI cZ bm pa p0 pl_127 p2 li wi mt ms ma mp mk mn ou) H := hP
              have hD : va_D A (WW ad cJ cI cZ bm pa p0 pl_127 p2 li wi mt ms ma mp mk mn ou) := hD
              have hW_131 : ∀ j, j < pa.2.2.2.2.2.2 → q_well bm pa pl_127 li j = true := fun j hj => ag_well hag_130 hI.2.1 hj (hI.1 j hj)
              refine lv_aload_n hx hb dX4_put_91 rfl (lv_at hl 0 rfl) ?_
              refine va_get (D := D) (ci := 4) (v := .ref (ad 8)) (C := RX4) (T := TX4) (N := 10) hx hb hts (inT inX4) hown hK hP 0 ww_0 rfl 5 (by decide) (hts (.fieldLink RX4 37 "BoardMoves" "now" "LBoardMoves$Placement;") (List.mem_cons_of_mem _ flX4_37)) (fun _ h9 => h9) rfl dX4_put_92 ?_
              refine va_get (D := D) (ci := 2) (v := .ref (ad 12)) (C := RX2) (T := TX2) (N := 5) hx hb hts (inT inX2) hown hK hP 8 ww_8 rfl 4 (by decide) (hts (.fieldLink RX4 96 "BoardMoves$Placement" "placed" "[Z") (List.mem_cons_of_mem _ flX4_96)) (fun _ h9 => h9) rfl dX4_put_95 ?_
              refine lv_iload_n hx hb dX4_put_98 rfl (lv_at hl 1 rfl) ?_
              refine bm_zald (f := p0.2.2.2) hx hb hK hP 12 2 ww_12 rfl (j := zA) (by omega) (by decide) dX4_put_99 ?_
              refine bm_zb_eq (x := (p0.2.2.2 zA)) (tgt := 148) hx hb dX4_put_100 (by decide) (fun c_132 => ?_) (fun c_132 => ?_)
              · refine lv_aload_n hx hb dX4_put_148 rfl (lv_at hl 0 rfl) ?_
                refine va_get (D := D) (ci := 4) (v := .ref (ad 8)) (C := RX4) (T := TX4) (N := 10) hx hb hts (inT inX4) hown hK hP 0 ww_0 rfl 5 (by decide) (hts (.fieldLink RX4 37 "BoardMoves" "now" "LBoardMoves$Placement;") (List.mem_cons_of_mem _ flX4_37)) (fun _ h9 => h9) rfl dX4_put_149 ?_
                refine lv_iload_n hx hb dX4_put_152 rfl (lv_at hl 1 rfl) ?_
                refine lv_lload_n hx hb dX4_put_153 rfl (lv_at hl 2 rfl) ?_
                refine lv_lload hx hb dX4_put_154 (lv_at hl 3 rfl) ?_
                refine lv_iload hx hb dX4_put_156 (lv_at hl 4 rfl) ?_
                refine bm_xcallV (As := [.int (nI zA), .long zB, .long zC, .int (nI zD)]) (rest := []) ⟨hx, hb, hml, hown, hts⟩ (x_placeI  (zj := zA) (z1 := zB) (z2 := zC) (zt := zD) ok_p0_turn (by omega) (by omega)) (cwV 4 hts gvX4_123 rfl rfl rfl hvX2_place ⟨Nat.le_of_ble_eq_true rfl, Nat.le_of_ble_eq_true rfl⟩) hK hP hD hS hA 8 2 rfl ww_8 rfl hl.1 rfl (Nat.le_of_ble_eq_true rfl) dX4_put_158 ⟨Nat.le_of_ble_eq_true rfl, Nat.le_of_ble_eq_true rfl⟩ (fun ws_133 r_134 h_135 H locs hP hD hS => ?_)
                obtain ⟨g_136, g_137, g_138, ok_139, rfl, rfl⟩ := h_135
                have hP : va_P D vwCl (WW ad cJ cI cZ bm pa (g_136, g_137, g_138, va_up p0.2.2.2 zA true) pl_127 p2 li wi mt ms ma mp mk mn ou) H := hP
                have hD : va_D A (WW ad cJ cI cZ bm pa (g_136, g_137, g_138, va_up p0.2.2.2 zA true) pl_127 p2 li wi mt ms ma mp mk mn ou) := hD
                refine lv_aload_n hx hb dX4_put_161 rfl (lv_at hl 0 rfl) ?_
                refine lv_ldc2 (v := 9223372036854775807) hx hb hown (hts (.constantLong RX4 127 9223372036854775807) (List.mem_cons_of_mem _ clX4_127)) dX4_put_162 ?_
                refine lv_topl (fun t_140 _ => ?_)
                refine bm_xcallV (As := [.long t_140]) (rest := []) ⟨hx, hb, hml, hown, hts⟩ (x_keepI (p0 := (g_136, g_137, g_138, va_up p0.2.2.2 zA true)) (z1 := t_140) ok_pa_n ok_pa_side ok_pa_lowest ok_139 ok_li_keepOuts ok_li_nears ok_li_one ok_li_other okq_129 ok_wi_nets ok_wi_pins ok_wi_netOf ok_wi_partOf  hW_131 hI.2.1 (up_out hI.2.2 hk_zA)) (cwV 1 hts gvX4_129 rfl rfl rfl hvX4_keepChange ⟨Nat.le_of_ble_eq_true rfl, Nat.le_of_ble_eq_true rfl⟩) hK hP hD hS hA 0 4 rfl ww_0 rfl hl.1 rfl (Nat.le_of_ble_eq_true rfl) dX4_put_165 ⟨Nat.le_of_ble_eq_true rfl, Nat.le_of_ble_eq_true rfl⟩ (fun ws_141 r_142 h_143 H locs hP hD hS => ?_)
                obtain ⟨g_144, g_145, g_146, g_148, g_149, g_150, g_151, g_152, g_153, g_154, ok_147, hf_155, rfl, v_156, rfl⟩ := h_143
                have hP : va_P D vwCl (WW ad cJ cI cZ (bm.1, bm.2.1, bm.2.2.1, g_154) pa (g_144, g_145, g_146, g_148) pl_127 p2 li (wi.1, wi.2.1, wi.2.2.1, wi.2.2.2.1, g_149, g_150, g_151, g_152, g_153, wi.2.2.2.2.2.2.2.2.2.1, wi.2.2.2.2.2.2.2.2.2.2) mt ms ma mp mk mn ou) H := hP
                have hD : va_D A (WW ad cJ cI cZ (bm.1, bm.2.1, bm.2.2.1, g_154) pa (g_144, g_145, g_146, g_148) pl_127 p2 li (wi.1, wi.2.1, wi.2.2.1, wi.2.2.2.1, g_149, g_150, g_151, g_152, g_153, wi.2.2.2.2.2.2.2.2.2.1, wi.2.2.2.2.2.2.2.2.2.2) mt ms ma mp mk mn ou) := hD
                exact bm_zretX (v := v_156) hx hb hr hP hD hK hS ⟨(bm.1, bm.2.1, bm.2.2.1, g_154), pa, (g_144, g_145, g_146, g_148), pl_127, p2, li, (wi.1, wi.2.1, wi.2.2.1, wi.2.2.2.1, g_149, g_150, g_151, g_152, g_153, wi.2.2.2.2.2.2.2.2.2.1, wi.2.2.2.2.2.2.2.2.2.2), ou, ⟨ok_pa_n, ok_pa_side, ok_pa_lowest, ok_147, okq_129, ok_p2_turn, ok_li_one, ok_li_other, ok_li_keepOuts, ok_li_nears, ok_wi_netOf, ok_wi_partOf, ok_wi_nets, ok_wi_pins, hw, hh, (INV_to hf_155 rfl rfl rfl rfl rfl rfl rfl)⟩, rfl, rfl, v_156, rfl⟩ dX4_put_168 hlocks
              · refine lv_aload_n hx hb dX4_put_103 rfl (lv_at hl 0 rfl) ?_
                refine va_get (D := D) (ci := 4) (v := .ref (ad 8)) (C := RX4) (T := TX4) (N := 10) hx hb hts (inT inX4) hown hK hP 0 ww_0 rfl 5 (by decide) (hts (.fieldLink RX4 37 "BoardMoves" "now" "LBoardMoves$Placement;") (List.mem_cons_of_mem _ flX4_37)) (fun _ h9 => h9) rfl dX4_put_104 ?_
                refine lv_iload_n hx hb dX4_put_107 rfl (lv_at hl 1 rfl) ?_
                refine lv_lload_n hx hb dX4_put_108 rfl (lv_at hl 2 rfl) ?_
                refine lv_aload_n hx hb dX4_put_109 rfl (lv_at hl 0 rfl) ?_
                refine va_get (D := D) (ci := 4) (v := .ref (ad 8)) (C := RX4) (T := TX4) (N := 10) hx hb hts (inT inX4) hown hK hP 0 ww_0 rfl 5 (by decide) (hts (.fieldLink RX4 37 "BoardMoves" "now" "LBoardMoves$Placement;") (List.mem_cons_of_mem _ flX4_37)) (fun _ h9 => h9) rfl dX4_put_110 ?_
                refine va_get (D := D) (ci := 2) (v := .ref (ad 9)) (C := RX2) (T := TX2) (N := 5) hx hb hts (inT inX2) hown hK hP 8 ww_8 rfl 1 (by decide) (hts (.fieldLink RX4 112 "BoardMoves$Placement" "x" "[J") (List.mem_cons_of_mem _ flX4_112)) (fun _ h9 => h9) rfl dX4_put_113 ?_
                refine lv_iload_n hx hb dX4_put_116 rfl (lv_at hl 1 rfl) ?_
                refine bm_lald (f := p0.1) hx hb hK hP 9 0 ww_9 rfl (j := zA) (by omega) (by decide) dX4_put_117 ?_
                refine lv_topl (fun t_157 _ => ?_)
                refine lv_lsub hx hb dX4_put_118 ?_
                refine lv_topl (fun t_158 _ => ?_)
                refine lv_lload hx hb dX4_put_119 (lv_at hl 3 rfl) ?_
                refine lv_aload_n hx hb dX4_put_121 rfl (lv_at hl 0 rfl) ?_
                refine va_get (D := D) (ci := 4) (v := .ref (ad 8)) (C := RX4) (T := TX4) (N := 10) hx hb hts (inT inX4) hown hK hP 0 ww_0 rfl 5 (by decide) (hts (.fieldLink RX4 37 "BoardMoves" "now" "LBoardMoves$Placement;") (List.mem_cons_of_mem _ flX4_37)) (fun _ h9 => h9) rfl dX4_put_122 ?_
                refine va_get (D := D) (ci := 2) (v := .ref (ad 10)) (C := RX2) (T := TX2) (N := 5) hx hb hts (inT inX2) hown hK hP 8 ww_8 rfl 2 (by decide) (hts (.fieldLink RX4 116 "BoardMoves$Placement" "y" "[J") (List.mem_cons_of_mem _ flX4_116)) (fun _ h9 => h9) rfl dX4_put_125 ?_
                refine lv_iload_n hx hb dX4_put_128 rfl (lv_at hl 1 rfl) ?_
                refine bm_lald (f := p0.2.1) hx hb hK hP 10 0 ww_10 rfl (j := zA) (by omega) (by decide) dX4_put_129 ?_
                refine lv_topl (fun t_159 _ => ?_)
                refine lv_lsub hx hb dX4_put_130 ?_
                refine lv_topl (fun t_160 _ => ?_)
                refine bm_xcallV (As := [.int (nI zA), .long t_158, .long t_160]) (rest := []) ⟨hx, hb, hml, hown, hts⟩ (x_shift  (zj := zA) (z1 := t_158) (z2 := t_160) ok_pa_n ok_pa_lowest (by omega)) (cwV 3 hts gvX4_119 rfl rfl rfl hvX2_shiftGroup ⟨Nat.le_of_ble_eq_true rfl, Nat.le_of_ble_eq_true rfl⟩) hK hP hD hS hA 8 2 rfl ww_8 rfl hl.1 rfl (Nat.le_of_ble_eq_true rfl) dX4_put_131 ⟨Nat.le_of_ble_eq_true rfl, Nat.le_of_ble_eq_true rfl⟩ (fun ws_161 r_162 h_163 H locs hP hD hS => ?_)
                obtain ⟨g_164, g_165, rfl, rfl⟩ := h_163
                have hP : va_P D vwCl (WW ad cJ cI cZ bm pa (g_164, g_165, p0.2.2.1, p0.2.2.2) pl_127 p2 li wi mt ms ma mp mk mn ou) H := hP
                have hD : va_D A (WW ad cJ cI cZ bm pa (g_164, g_165, p0.2.2.1, p0.2.2.2) pl_127 p2 li wi mt ms ma mp mk mn ou) := hD
                refine lv_aload_n hx hb dX4_put_134 rfl (lv_at hl 0 rfl) ?_
                refine va_get (D := D) (ci := 4) (v := .ref (ad 8)) (C := RX4) (T := TX4) (N := 10) hx hb hts (inT inX4) hown hK hP 0 ww_0 rfl 5 (by decide) (hts (.fieldLink RX4 37 "BoardMoves" "now" "LBoardMoves$Placement;") (List.mem_cons_of_mem _ flX4_37)) (fun _ h9 => h9) rfl dX4_put_135 ?_
                refine va_get (D := D) (ci := 2) (v := .ref (ad 11)) (C := RX2) (T := TX2) (N := 5) hx hb hts (inT inX2) hown hK hP 8 ww_8 rfl 3 (by decide) (hts (.fieldLink RX4 100 "BoardMoves$Placement" "turn" "[I") (List.mem_cons_of_mem _ flX4_100)) (fun _ h9 => h9) rfl dX4_put_138 ?_
                refine lv_iload_n hx hb dX4_put_141 rfl (lv_at hl 1 rfl) ?_
                refine lv_iload hx hb dX4_put_142 (lv_at hl 4 rfl) ?_
                refine bm_nast (f := p0.2.2.1) hx hb hK hP hD hS 11 1 ww_11 rfl (j := zA) (x := zD) (by omega) (by decide) dX4_put_144 (fun H locs hP hD hS => ?_)
                have hP : va_P D vwCl (WW ad cJ cI cZ bm pa (g_164, g_165, va_up p0.2.2.1 zA zD, p0.2.2.2) pl_127 p2 li wi mt ms ma mp mk mn ou) H := hP
                have hD : va_D A (WW ad cJ cI cZ bm pa (g_164, g_165, va_up p0.2.2.1 zA zD, p0.2.2.2) pl_127 p2 li wi mt ms ma mp mk mn ou) := hD
                refine lv_goto (tgt := 161) hx hb dX4_put_145 (by decide) ?_
                refine lv_aload_n hx hb dX4_put_161 rfl (lv_at hl 0 rfl) ?_
                refine lv_ldc2 (v := 9223372036854775807) hx hb hown (hts (.constantLong RX4 127 9223372036854775807) (List.mem_cons_of_mem _ clX4_127)) dX4_put_162 ?_
                refine lv_topl (fun t_166 _ => ?_)
                refine bm_xcallV (As := [.long t_166]) (rest := []) ⟨hx, hb, hml, hown, hts⟩ (x_keepI (p0 := (g_164, g_165, va_up p0.2.2.1 zA zD, p0.2.2.2)) (z1 := t_166) ok_pa_n ok_pa_side ok_pa_lowest (bx_uplt ok_p0_turn (by omega)) ok_li_keepOuts ok_li_nears ok_li_one ok_li_other okq_129 ok_wi_nets ok_wi_pins ok_wi_netOf ok_wi_partOf  hW_131 hI.2.1 hI.2.2) (cwV 1 hts gvX4_129 rfl rfl rfl hvX4_keepChange ⟨Nat.le_of_ble_eq_true rfl, Nat.le_of_ble_eq_true rfl⟩) hK hP hD hS hA 0 4 rfl ww_0 rfl hl.1 rfl (Nat.le_of_ble_eq_true rfl) dX4_put_165 ⟨Nat.le_of_ble_eq_true rfl, Nat.le_of_ble_eq_true rfl⟩ (fun ws_167 r_168 h_169 H locs hP hD hS => ?_)
                obtain ⟨g_170, g_171, g_172, g_174, g_175, g_176, g_177, g_178, g_179, g_180, ok_173, hf_181, rfl, v_182, rfl⟩ := h_169
                have hP : va_P D vwCl (WW ad cJ cI cZ (bm.1, bm.2.1, bm.2.2.1, g_180) pa (g_170, g_171, g_172, g_174) pl_127 p2 li (wi.1, wi.2.1, wi.2.2.1, wi.2.2.2.1, g_175, g_176, g_177, g_178, g_179, wi.2.2.2.2.2.2.2.2.2.1, wi.2.2.2.2.2.2.2.2.2.2) mt ms ma mp mk mn ou) H := hP
                have hD : va_D A (WW ad cJ cI cZ (bm.1, bm.2.1, bm.2.2.1, g_180) pa (g_170, g_171, g_172, g_174) pl_127 p2 li (wi.1, wi.2.1, wi.2.2.1, wi.2.2.2.1, g_175, g_176, g_177, g_178, g_179, wi.2.2.2.2.2.2.2.2.2.1, wi.2.2.2.2.2.2.2.2.2.2) mt ms ma mp mk mn ou) := hD
                exact bm_zretX (v := v_182) hx hb hr hP hD hK hS ⟨(bm.1, bm.2.1, bm.2.2.1, g_180), pa, (g_170, g_171, g_172, g_174), pl_127, p2, li, (wi.1, wi.2.1, wi.2.2.1, wi.2.2.2.1, g_175, g_176, g_177, g_178, g_179, wi.2.2.2.2.2.2.2.2.2.1, wi.2.2.2.2.2.2.2.2.2.2), ou, ⟨ok_pa_n, ok_pa_side, ok_pa_lowest, ok_173, okq_129, ok_p2_turn, ok_li_one, ok_li_other, ok_li_keepOuts, ok_li_nears, ok_wi_netOf, ok_wi_partOf, ok_wi_nets, ok_wi_pins, hw, hh, (INV_to hf_181 rfl rfl rfl rfl rfl rfl rfl)⟩, rfl, rfl, v_182, rfl⟩ dX4_put_168 hlocks
            · refine lv_iconst (v := bm_b false) hx hb dX4_put_78 (by decide) ?_
              exact bm_zretX (v := false) hx hb hr hP hD hK hS ⟨bm, pa, p0, p1, p2, li, wi, ou, ⟨ok_pa_n, ok_pa_side, ok_pa_lowest, ok_p0_turn, ok_p1_turn, ok_p2_turn, ok_li_one, ok_li_other, ok_li_keepOuts, ok_li_nears, ok_wi_netOf, ok_wi_partOf, ok_wi_nets, ok_wi_pins, hw, hh, (INV_to hI rfl rfl rfl rfl rfl rfl rfl)⟩, rfl, rfl, false, rfl⟩ dX4_put_79 hlocks
      · refine lv_iconst (v := bm_b false) hx hb dX4_put_39 (by decide) ?_
        exact bm_zretX (v := false) hx hb hr hP hD hK hS ⟨bm, pa, p0, p1, p2, li, wi, ou, ⟨ok_pa_n, ok_pa_side, ok_pa_lowest, ok_p0_turn, ok_p1_turn, ok_p2_turn, ok_li_one, ok_li_other, ok_li_keepOuts, ok_li_nears, ok_wi_netOf, ok_wi_partOf, ok_wi_nets, ok_wi_pins, hw, hh, (INV_to hI rfl rfl rfl rfl rfl rfl rfl)⟩, rfl, rfl, false, rfl⟩ dX4_put_40 hlocks
    · exact absurd hd c_2
