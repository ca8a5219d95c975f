set_option maxHeartbeats 16000000 in
set_option maxRecDepth 100000 in
theorem Z_push {l : Launch} {D : va_G} {ad : Nat → Nat} {cJ cI cZ : ClassId} {bm : gBM} {pa : gPA} {p0 p1 p2 : gPL} {li : gLI} {wi : gWI} {mt : Nat} {ms : gMS} {ma : gMA} {mp : gMP} {mk : gMK} {mn : gMN} {ou : Nat → Int64} {zA : Nat} {zB : Int64} {zC : Int64} (hok : okC bm pa p0 p1 p2 li wi) (hk_zA : zA < pa.2.2.2.2.2.2) (hq : p0.2.2.2 zA = true) : bm_Wx l yX4_push wsX4_push ({ frames := 5, cells := 0, slots := 0, locals := 129 }) D vwCl [(cJ, .long), (cI, .int), (cZ, .boolean)] (WW ad cJ cI cZ bm pa p0 p1 p2 li wi mt ms ma mp mk mn ou) [.ref (ad 0), .int (nI zA), .long zB, .long zC] (PCI ad cJ cI cZ bm pa p0 p1 p2 li wi mt ms ma mp mk mn ou) := by
  obtain ⟨ok_pa_n, ok_pa_side, ok_pa_lowest, ok_p0_turn, ok_p1_turn, ok_p2_turn, ok_li_one, ok_li_other, ok_li_keepOuts, ok_li_nears, ok_wi_netOf, ok_wi_partOf, ok_wi_nets, ok_wi_pins, hw, hh, hI⟩ := hok
  intro sz
  refine Met.ofW (cc := cX4_push) (maxL := 13) (ret := (some .int)) (by decide) rfl ?_
  intro p e s m args below meth c s₁ B hml hv
  obtain ⟨ha, hsz, hP, hK, hD0⟩ := hv
  have hx := B.exec
  have hb := B.bytes
  have hr := B.returns
  have hts := atoms_spec (ws := wsX4_push) B.pre
  have hown : s.vm.findClass RX4 = some m.cls := findClass_of_methodNamed B.named
  have hlocks := B.notSynchronized
  subst hsz
  have hD := hD0.self (sz := s.heap.size)
  generalize hAe : va_A (WW ad cJ cI cZ bm pa p0 p1 p2 li wi mt ms ma mp mk mn ou) s.heap.size = A at hD ⊢
  have hA : ∀ q : Nat, s.heap.size ≤ q → A q := fun q h => by rw [← hAe]; exact Or.inr h
  have hS : va_S A s.heap s.heap [] := va_S.rf
  have hl := lv_entry ([.ref (ad 0), .int (nI zA), .long zB, .long zC]) (n := 13) (Nat.le_of_ble_eq_true rfl)
  refine W.eq (g2 := entryFrame m ([.ref (ad 0), .int (nI zA), .long zB, .long zC] : List Value).toArray 13) (by rw [ha]) ?_
  rw [lg_entry_eq]
  generalize (lg_sl ([.ref (ad 0), .int (nI zA), .long zB, .long zC]) ++ List.replicate (13 - (lg_sl ([.ref (ad 0), .int (nI zA), .long zB, .long zC])).length) Slot.unset).toArray = ls at hl ⊢
  have hl : lv_has ls 13 [(0, .ref (ad 0)), (1, .int (nI zA)), (2, .long zB), (4, .long zC)] := hl
  refine lv_aload_n hx hb dX4_push_0 rfl (lv_at hl 0 rfl) ?_
  refine lv_iload_n hx hb dX4_push_1 rfl (lv_at hl 1 rfl) ?_
  refine bm_vcallV (As := [.int (nI zA)]) (rest := []) ⟨hx, hb, hml, hown, hts⟩ (X_needY  (zp := zA) ok_pa_n (by omega)) (cwV 1 hts gvX4_86 rfl rfl rfl hvX4_needPart ⟨Nat.le_of_ble_eq_true rfl, Nat.le_of_ble_eq_true rfl⟩) hK hP 0 4 rfl ww_0 rfl hl.1 rfl (Nat.le_of_ble_eq_true rfl) dX4_push_2 ⟨Nat.le_of_ble_eq_true rfl, Nat.le_of_ble_eq_true rfl⟩ ?_
  refine lv_aload_n hx hb dX4_push_5 rfl (lv_at hl 0 rfl) ?_
  refine va_get (D := D) (ci := 4) (v := .ref (ad 8)) (C := RX4) (T := TX4) (N := 10) hx hb hts (inT inX4) hown hK hP 0 ww_0 rfl 5 (by decide) (hts (.fieldLink RX4 37 "BoardMoves" "now" "LBoardMoves$Placement;") (List.mem_cons_of_mem _ flX4_37)) (fun _ h9 => h9) rfl dX4_push_6 ?_
  refine va_get (D := D) (ci := 2) (v := .ref (ad 12)) (C := RX2) (T := TX2) (N := 5) hx hb hts (inT inX2) hown hK hP 8 ww_8 rfl 4 (by decide) (hts (.fieldLink RX4 96 "BoardMoves$Placement" "placed" "[Z") (List.mem_cons_of_mem _ flX4_96)) (fun _ h9 => h9) rfl dX4_push_9 ?_
  refine lv_iload_n hx hb dX4_push_12 rfl (lv_at hl 1 rfl) ?_
  refine bm_zald (f := p0.2.2.2) hx hb hK hP 12 2 ww_12 rfl (j := zA) (by omega) (by decide) dX4_push_13 ?_
  refine bm_zb_ne (x := (p0.2.2.2 zA)) (tgt := 27) hx hb dX4_push_14 (by decide) (fun c_1 => ?_) (fun c_1 => ?_)
  · refine lv_aload_n hx hb dX4_push_27 rfl (lv_at hl 0 rfl) ?_
    refine lv_iload_n hx hb dX4_push_28 rfl (lv_at hl 1 rfl) ?_
    refine lv_lload_n hx hb dX4_push_29 rfl (lv_at hl 2 rfl) ?_
    refine lv_lload hx hb dX4_push_30 (lv_at hl 3 rfl) ?_
    refine lv_aload_n hx hb dX4_push_32 rfl (lv_at hl 0 rfl) ?_
    refine va_get (D := D) (ci := 4) (v := .ref (ad 8)) (C := RX4) (T := TX4) (N := 10) hx hb hts (inT inX4) hown hK hP 0 ww_0 rfl 5 (by decide) (hts (.fieldLink RX4 37 "BoardMoves" "now" "LBoardMoves$Placement;") (List.mem_cons_of_mem _ flX4_37)) (fun _ h9 => h9) rfl dX4_push_33 ?_
    refine va_get (D := D) (ci := 2) (v := .ref (ad 11)) (C := RX2) (T := TX2) (N := 5) hx hb hts (inT inX2) hown hK hP 8 ww_8 rfl 3 (by decide) (hts (.fieldLink RX4 100 "BoardMoves$Placement" "turn" "[I") (List.mem_cons_of_mem _ flX4_100)) (fun _ h9 => h9) rfl dX4_push_36 ?_
    refine lv_iload_n hx hb dX4_push_39 rfl (lv_at hl 1 rfl) ?_
    refine bm_nald (f := p0.2.2.1) hx hb hK hP 11 1 ww_11 rfl (j := zA) (by omega) (by decide) dX4_push_40 ?_
    refine bm_xcallV (As := [.int (nI zA), .long zB, .long zC, .int (nI (p0.2.2.1 zA))]) (rest := []) ⟨hx, hb, hml, hown, hts⟩ (x_fits  (zj := zA) (z1 := zB) (z2 := zC) (zt := p0.2.2.1 zA)  (by omega) (ok_p0_turn _)) (cwV 4 hts gvX4_92 rfl rfl rfl hvX4_fitsBoard ⟨Nat.le_of_ble_eq_true rfl, Nat.le_of_ble_eq_true rfl⟩) hK hP hD hS hA 0 4 rfl ww_0 rfl hl.1 rfl (Nat.le_of_ble_eq_true rfl) dX4_push_41 ⟨Nat.le_of_ble_eq_true rfl, Nat.le_of_ble_eq_true rfl⟩ (fun ws_2 r_3 h_4 H locs hP hD hS => ?_)
    obtain ⟨rfl, v_5, rfl⟩ := h_4
    have hP : va_P D vwCl (WW ad cJ cI cZ bm pa p0 p1 p2 li wi mt ms ma mp mk mn ou) H := hP
    have hD : va_D A (WW ad cJ cI cZ bm pa p0 p1 p2 li wi mt ms ma mp mk mn ou) := hD
    refine bm_zb_ne (x := v_5) (tgt := 49) hx hb dX4_push_44 (by decide) (fun c_6 => ?_) (fun c_6 => ?_)
    · refine lv_aload_n hx hb dX4_push_49 rfl (lv_at hl 0 rfl) ?_
      refine va_get (D := D) (ci := 4) (v := .ref (ad 13)) (C := RX4) (T := TX4) (N := 10) hx hb hts (inT inX4) hown hK hP 0 ww_0 rfl 6 (by decide) (hts (.fieldLink RX4 41 "BoardMoves" "before" "LBoardMoves$Placement;") (List.mem_cons_of_mem _ flX4_41)) (fun _ h9 => h9) rfl dX4_push_50 ?_
      refine lv_aload_n hx hb dX4_push_53 rfl (lv_at hl 0 rfl) ?_
      refine va_get (D := D) (ci := 4) (v := .ref (ad 8)) (C := RX4) (T := TX4) (N := 10) hx hb hts (inT inX4) hown hK hP 0 ww_0 rfl 5 (by decide) (hts (.fieldLink RX4 37 "BoardMoves" "now" "LBoardMoves$Placement;") (List.mem_cons_of_mem _ flX4_37)) (fun _ h9 => h9) rfl dX4_push_54 ?_
      refine bm_wcallV (As := [.ref (ad 8)]) (rest := []) ⟨hx, hb, hml, hown, hts⟩ (w_copyp1p0  ⟨ok_pa_n, ok_pa_side, ok_pa_lowest⟩) (cwV 1 hts gvX4_108 rfl rfl rfl hvX2_copyFrom ⟨Nat.le_of_ble_eq_true rfl, Nat.le_of_ble_eq_true rfl⟩) hK hP hD hS hA 13 2 rfl ww_13 rfl hl.1 rfl (Nat.le_of_ble_eq_true rfl) dX4_push_57 ⟨Nat.le_of_ble_eq_true rfl, Nat.le_of_ble_eq_true rfl⟩ (fun H locs hP hD hS => ?_)
      have hP : va_P D vwCl (WW ad cJ cI cZ bm pa p0 (q_copyU p0 p1 pa.2.2.2.2.2.2) p2 li wi mt ms ma mp mk mn ou) H := hP
      have hD : va_D A (WW ad cJ cI cZ bm pa p0 (q_copyU p0 p1 pa.2.2.2.2.2.2) p2 li wi mt ms ma mp mk mn ou) := hD
      obtain ⟨pl_7, hpl_8⟩ : ∃ q9, q9 = q_copyU p0 p1 pa.2.2.2.2.2.2 := ⟨_, rfl⟩
      rw [← hpl_8] at hP hD
      have okq_9 : ∀ i, pl_7.2.2.1 i < 40 := by rw [hpl_8]; exact q_okL_copy (f := p0) (t := p1) ok_p0_turn ok_p1_turn
      have hag_10 : AG pa.2.2.2.2.2.2 pl_7 p0 := by rw [hpl_8]; exact ag_copy _ _ _
      have hP : va_P D vwCl (WW ad cJ cI cZ bm pa p0 pl_7 p2 li wi mt ms ma mp mk mn ou) H := hP
      have hD : va_D A (WW ad cJ cI cZ bm pa p0 pl_7 p2 li wi mt ms ma mp mk mn ou) := hD
      have hW_11 : ∀ j, j < pa.2.2.2.2.2.2 → q_well bm pa pl_7 li j = true := fun j hj => ag_well hag_10 hI.2.1 hj (hI.1 j hj)
      refine lv_lload_n hx hb dX4_push_60 rfl (lv_at hl 2 rfl) ?_
      refine lv_aload_n hx hb dX4_push_61 rfl (lv_at hl 0 rfl) ?_
      refine va_get (D := D) (ci := 4) (v := .ref (ad 8)) (C := RX4) (T := TX4) (N := 10) hx hb hts (inT inX4) hown hK hP 0 ww_0 rfl 5 (by decide) (hts (.fieldLink RX4 37 "BoardMoves" "now" "LBoardMoves$Placement;") (List.mem_cons_of_mem _ flX4_37)) (fun _ h9 => h9) rfl dX4_push_62 ?_
      refine va_get (D := D) (ci := 2) (v := .ref (ad 9)) (C := RX2) (T := TX2) (N := 5) hx hb hts (inT inX2) hown hK hP 8 ww_8 rfl 1 (by decide) (hts (.fieldLink RX4 112 "BoardMoves$Placement" "x" "[J") (List.mem_cons_of_mem _ flX4_112)) (fun _ h9 => h9) rfl dX4_push_65 ?_
      refine lv_iload_n hx hb dX4_push_68 rfl (lv_at hl 1 rfl) ?_
      refine bm_lald (f := p0.1) hx hb hK hP 9 0 ww_9 rfl (j := zA) (by omega) (by decide) dX4_push_69 ?_
      refine lv_topl (fun t_12 _ => ?_)
      refine lv_lsub hx hb dX4_push_70 ?_
      refine lv_topl (fun t_13 _ => ?_)
      refine lv_lstore (lv' := [(6, .long t_13), (0, .ref (ad 0)), (1, .int (nI zA)), (2, .long zB), (4, .long zC)]) hx hb dX4_push_71 hl (by decide) rfl (fun ls hl => ?_)
      refine lv_lload hx hb dX4_push_73 (lv_at hl 4 rfl) ?_
      refine lv_aload_n hx hb dX4_push_75 rfl (lv_at hl 1 rfl) ?_
      refine va_get (D := D) (ci := 4) (v := .ref (ad 8)) (C := RX4) (T := TX4) (N := 10) hx hb hts (inT inX4) hown hK hP 0 ww_0 rfl 5 (by decide) (hts (.fieldLink RX4 37 "BoardMoves" "now" "LBoardMoves$Placement;") (List.mem_cons_of_mem _ flX4_37)) (fun _ h9 => h9) rfl dX4_push_76 ?_
      refine va_get (D := D) (ci := 2) (v := .ref (ad 10)) (C := RX2) (T := TX2) (N := 5) hx hb hts (inT inX2) hown hK hP 8 ww_8 rfl 2 (by decide) (hts (.fieldLink RX4 116 "BoardMoves$Placement" "y" "[J") (List.mem_cons_of_mem _ flX4_116)) (fun _ h9 => h9) rfl dX4_push_79 ?_
      refine lv_iload_n hx hb dX4_push_82 rfl (lv_at hl 2 rfl) ?_
      refine bm_lald (f := p0.2.1) hx hb hK hP 10 0 ww_10 rfl (j := zA) (by omega) (by decide) dX4_push_83 ?_
      refine lv_topl (fun t_14 _ => ?_)
      refine lv_lsub hx hb dX4_push_84 ?_
      refine lv_topl (fun t_15 _ => ?_)
      refine lv_lstore (lv' := [(8, .long t_15), (6, .long t_13), (0, .ref (ad 0)), (1, .int (nI zA)), (2, .long zB), (4, .long zC)]) hx hb dX4_push_85 hl (by decide) rfl (fun ls hl => ?_)
      refine lv_lload hx hb dX4_push_87 (lv_at hl 1 rfl) ?_
      refine bm_mabsl (rest := []) hx hb (hml.trans hl.1.symm) hown (hts (.methodLink RX4 169 Lib.MathLoose.abs_long.x) (by decide +kernel)) (hts (.static Lib.MathLoose.abs_long.x) (by decide +kernel)) (hts (.initialized "java/lang/Math") (by decide +kernel)) (hts (.code Lib.MathLoose.abs_long.x Lib.MathLoose.abs_long.code 2 (some .long)) (by decide +kernel)) (Nat.le_of_ble_eq_true rfl) (Nat.le_of_ble_eq_true rfl) (Nat.le_of_ble_eq_true rfl) (Nat.le_of_ble_eq_true rfl) dX4_push_89 ?_
      refine lv_topl (fun t_16 _ => ?_)
      refine lv_lload hx hb dX4_push_92 (lv_at hl 0 rfl) ?_
      refine bm_mabsl (rest := [.long t_16]) hx hb (hml.trans hl.1.symm) hown (hts (.methodLink RX4 169 Lib.MathLoose.abs_long.x) (by decide +kernel)) (hts (.static Lib.MathLoose.abs_long.x) (by decide +kernel)) (hts (.initialized "java/lang/Math") (by decide +kernel)) (hts (.code Lib.MathLoose.abs_long.x Lib.MathLoose.abs_long.code 2 (some .long)) (by decide +kernel)) (Nat.le_of_ble_eq_true rfl) (Nat.le_of_ble_eq_true rfl) (Nat.le_of_ble_eq_true rfl) (Nat.le_of_ble_eq_true rfl) dX4_push_94 ?_
      refine lv_topl (fun t_17 _ => ?_)
      refine bm_lc_lt (x := t_16) (y := t_17) (tgt := 105) hx hb dX4_push_97 dX4_push_98 (by decide) (fun c_18 => ?_) (fun c_18 => ?_)
      · refine lv_iconst (v := bm_b false) hx hb dX4_push_105 (by decide) ?_
        refine lv_istore (lv' := [(10, .int (bm_b false)), (8, .long t_15), (6, .long t_13), (0, .ref (ad 0)), (1, .int (nI zA)), (2, .long zB), (4, .long zC)]) hx hb dX4_push_106 hl (by decide) rfl (fun ls hl => ?_)
        refine lv_iload hx hb dX4_push_108 (lv_at hl 0 rfl) ?_
        refine bm_zb_eq (x := false) (tgt := 128) hx hb dX4_push_110 (by decide) (fun c_19 => ?_) (fun c_19 => ?_)
        · refine lv_lload hx hb dX4_push_128 (lv_at hl 1 rfl) ?_
          refine lv_lconst (v := 0) hx hb dX4_push_130 (by decide) ?_
          refine bm_lc_le (x := t_15) (y := 0) (tgt := 139) hx hb dX4_push_131 dX4_push_132 (by decide) (fun c_20 => ?_) (fun c_20 => ?_)
          · refine lv_iconst (v := bm_b false) hx hb dX4_push_139 (by decide) ?_
            refine lv_istore (lv' := [(11, .int (bm_b false)), (10, .int (bm_b false)), (8, .long t_15), (6, .long t_13), (0, .ref (ad 0)), (1, .int (nI zA)), (2, .long zB), (4, .long zC)]) hx hb dX4_push_140 hl (by decide) rfl (fun ls hl => ?_)
            refine lv_aload_n hx hb dX4_push_142 rfl (lv_at hl 4 rfl) ?_
            refine va_get (D := D) (ci := 4) (v := .ref (ad 8)) (C := RX4) (T := TX4) (N := 10) hx hb hts (inT inX4) hown hK hP 0 ww_0 rfl 5 (by decide) (hts (.fieldLink RX4 37 "BoardMoves" "now" "LBoardMoves$Placement;") (List.mem_cons_of_mem _ flX4_37)) (fun _ h9 => h9) rfl dX4_push_143 ?_
            refine lv_iload_n hx hb dX4_push_146 rfl (lv_at hl 5 rfl) ?_
            refine lv_lload hx hb dX4_push_147 (lv_at hl 3 rfl) ?_
            refine lv_lload hx hb dX4_push_149 (lv_at hl 2 rfl) ?_
            refine bm_xcallV (As := [.int (nI zA), .long t_13, .long t_15]) (rest := []) ⟨hx, hb, hml, hown, hts⟩ (x_shift  (zj := zA) (z1 := t_13) (z2 := t_15) ok_pa_n ok_pa_lowest (by omega)) (cwV 3 hts gvX4_119 rfl rfl rfl hvX2_shiftGroup ⟨Nat.le_of_ble_eq_true rfl, Nat.le_of_ble_eq_true rfl⟩) hK hP hD hS hA 8 2 rfl ww_8 rfl hl.1 rfl (Nat.le_of_ble_eq_true rfl) dX4_push_151 ⟨Nat.le_of_ble_eq_true rfl, Nat.le_of_ble_eq_true rfl⟩ (fun ws_21 r_22 h_23 H locs hP hD hS => ?_)
            obtain ⟨g_24, g_25, rfl, rfl⟩ := h_23
            have hP : va_P D vwCl (WW ad cJ cI cZ bm pa (g_24, g_25, p0.2.2.1, p0.2.2.2) pl_7 p2 li wi mt ms ma mp mk mn ou) H := hP
            have hD : va_D A (WW ad cJ cI cZ bm pa (g_24, g_25, p0.2.2.1, p0.2.2.2) pl_7 p2 li wi mt ms ma mp mk mn ou) := hD
            refine lv_aload_n hx hb dX4_push_154 rfl (lv_at hl 4 rfl) ?_
            refine lv_iload_n hx hb dX4_push_155 rfl (lv_at hl 5 rfl) ?_
            refine lv_iload hx hb dX4_push_156 (lv_at hl 1 rfl) ?_
            refine lv_iload hx hb dX4_push_158 (lv_at hl 0 rfl) ?_
            refine bm_xcallV (As := [.int (nI zA), .int (bm_b false), .int (bm_b false)]) (rest := []) ⟨hx, hb, hml, hown, hts⟩ (x_clear (p0 := (g_24, g_25, p0.2.2.1, p0.2.2.2)) (za := zA) (zx := false) (zu := false) ok_pa_n ok_pa_side ok_p0_turn ok_pa_lowest (by omega)) (cwV 3 hts gvX4_173 rfl rfl rfl hvX4_clearTheWay ⟨Nat.le_of_ble_eq_true rfl, Nat.le_of_ble_eq_true rfl⟩) hK hP hD hS hA 0 4 rfl ww_0 rfl hl.1 rfl (Nat.le_of_ble_eq_true rfl) dX4_push_160 ⟨Nat.le_of_ble_eq_true rfl, Nat.le_of_ble_eq_true rfl⟩ (fun ws_26 r_27 h_28 H locs hP hD hS => ?_)
            obtain ⟨g_29, g_30, rfl, v_31, rfl⟩ := h_28
            have hP : va_P D vwCl (WW ad cJ cI cZ bm pa (g_29, g_30, p0.2.2.1, p0.2.2.2) pl_7 p2 li wi mt ms ma mp mk mn ou) H := hP
            have hD : va_D A (WW ad cJ cI cZ bm pa (g_29, g_30, p0.2.2.1, p0.2.2.2) pl_7 p2 li wi mt ms ma mp mk mn ou) := hD
            refine bm_zb_eq (x := v_31) (tgt := 176) hx hb dX4_push_163 (by decide) (fun c_32 => ?_) (fun c_32 => ?_)
            · refine lv_aload_n hx hb dX4_push_176 rfl (lv_at hl 4 rfl) ?_
              refine bm_xcallV (As := []) (rest := []) ⟨hx, hb, hml, hown, hts⟩ (x_backI (p0 := (g_29, g_30, p0.2.2.1, p0.2.2.2))  ok_pa_n ok_pa_side ok_pa_lowest ok_p0_turn okq_9 ) (cwV 0 hts gvX4_177 rfl rfl rfl hvX4_takeBack ⟨Nat.le_of_ble_eq_true rfl, Nat.le_of_ble_eq_true rfl⟩) hK hP hD hS hA 0 4 rfl ww_0 rfl hl.1 rfl (Nat.le_of_ble_eq_true rfl) dX4_push_177 ⟨Nat.le_of_ble_eq_true rfl, Nat.le_of_ble_eq_true rfl⟩ (fun ws_33 r_34 h_35 H locs hP hD hS => ?_)
              obtain ⟨g_36, g_37, g_38, g_40, ok_39, hf_41, rfl, v_42, rfl⟩ := h_35
              have hP : va_P D vwCl (WW ad cJ cI cZ bm pa (g_36, g_37, g_38, g_40) pl_7 p2 li wi mt ms ma mp mk mn ou) H := hP
              have hD : va_D A (WW ad cJ cI cZ bm pa (g_36, g_37, g_38, g_40) pl_7 p2 li wi mt ms ma mp mk mn ou) := hD
              refine lv_istore (lv' := [(12, .int (bm_b v_42)), (11, .int (bm_b false)), (10, .int (bm_b false)), (8, .long t_15), (6, .long t_13), (0, .ref (ad 0)), (1, .int (nI zA)), (2, .long zB), (4, .long zC)]) hx hb dX4_push_180 hl (by decide) rfl (fun ls hl => ?_)
              refine lv_iload hx hb dX4_push_182 (lv_at hl 0 rfl) ?_
              refine bm_zb_eq (x := v_42) (tgt := 195) hx hb dX4_push_184 (by decide) (fun c_43 => ?_) (fun c_43 => ?_)
              · refine lv_iconst (v := -1) hx hb dX4_push_195 (by decide) ?_
                exact bm_iretX (v := (-1)) hx hb hr hP hD hK hS ⟨bm, pa, (g_36, g_37, g_38, g_40), pl_7, p2, li, wi, ou, ⟨ok_pa_n, ok_pa_side, ok_pa_lowest, ok_39, okq_9, ok_p2_turn, ok_li_one, ok_li_other, ok_li_keepOuts, ok_li_nears, ok_wi_netOf, ok_wi_partOf, ok_wi_nets, ok_wi_pins, hw, hh, (INV_to (INV_ag hW_11 hI.2.1 (fun i hi => (hf_41.2 i hi).trans (hI.2.2 i hi)) hf_41.1) rfl rfl rfl rfl rfl rfl rfl)⟩, rfl, rfl, (-1), rfl⟩ dX4_push_196 hlocks
              · refine lv_aload_n hx hb dX4_push_187 rfl (lv_at hl 5 rfl) ?_
                refine lv_iload_n hx hb dX4_push_188 rfl (lv_at hl 6 rfl) ?_
                refine bm_rcallV (As := [.int (nI zA)]) (rest := []) ⟨hx, hb, hml, hown, hts⟩ (r_changed (p0 := (g_36, g_37, g_38, g_40)) (x := (nI zA)) ⟨ok_pa_n, ok_pa_side, ok_pa_lowest⟩ ok_39 okq_9) (cwV 1 hts gvX4_181 rfl rfl rfl hvX4_countChanged ⟨Nat.le_of_ble_eq_true rfl, Nat.le_of_ble_eq_true rfl⟩) hK hP 0 4 rfl ww_0 rfl hl.1 rfl (Nat.le_of_ble_eq_true rfl) dX4_push_189 ⟨Nat.le_of_ble_eq_true rfl, Nat.le_of_ble_eq_true rfl⟩ ?_
                have hct_44 := q_count_le (q_changed (g_36, g_37, g_38, g_40) pl_7 (nI zA)) pa.2.2.2.2.2.2
                refine lv_goto (tgt := 196) hx hb dX4_push_192 (by decide) ?_
                exact bm_iretX (v := (nI (q_count (q_changed (g_36, g_37, g_38, g_40) pl_7 (nI zA)) pa.2.2.2.2.2.2))) hx hb hr hP hD hK hS ⟨bm, pa, (g_36, g_37, g_38, g_40), pl_7, p2, li, wi, ou, ⟨ok_pa_n, ok_pa_side, ok_pa_lowest, ok_39, okq_9, ok_p2_turn, ok_li_one, ok_li_other, ok_li_keepOuts, ok_li_nears, ok_wi_netOf, ok_wi_partOf, ok_wi_nets, ok_wi_pins, hw, hh, (INV_to (INV_ag hW_11 hI.2.1 (fun i hi => (hf_41.2 i hi).trans (hI.2.2 i hi)) hf_41.1) rfl rfl rfl rfl rfl rfl rfl)⟩, rfl, rfl, (nI (q_count (q_changed (g_36, g_37, g_38, g_40) pl_7 (nI zA)) pa.2.2.2.2.2.2)), rfl⟩ dX4_push_196 hlocks
            · refine lv_aload_n hx hb dX4_push_166 rfl (lv_at hl 4 rfl) ?_
              refine lv_ldc2 (v := 9223372036854775807) hx hb hown (hts (.constantLong RX4 127 9223372036854775807) (List.mem_cons_of_mem _ clX4_127)) dX4_push_167 ?_
              refine lv_topl (fun t_45 _ => ?_)
              refine bm_xcallV (As := [.long t_45]) (rest := []) ⟨hx, hb, hml, hown, hts⟩ (x_keepI (p0 := (g_29, g_30, p0.2.2.1, p0.2.2.2)) (z1 := t_45) ok_pa_n ok_pa_side ok_pa_lowest ok_p0_turn ok_li_keepOuts ok_li_nears ok_li_one ok_li_other okq_9 ok_wi_nets ok_wi_pins ok_wi_netOf ok_wi_partOf  hW_11 hI.2.1 hI.2.2) (cwV 1 hts gvX4_129 rfl rfl rfl hvX4_keepChange ⟨Nat.le_of_ble_eq_true rfl, Nat.le_of_ble_eq_true rfl⟩) hK hP hD hS hA 0 4 rfl ww_0 rfl hl.1 rfl (Nat.le_of_ble_eq_true rfl) dX4_push_170 ⟨Nat.le_of_ble_eq_true rfl, Nat.le_of_ble_eq_true rfl⟩ (fun ws_46 r_47 h_48 H locs hP hD hS => ?_)
              obtain ⟨g_49, g_50, g_51, g_53, g_54, g_55, g_56, g_57, g_58, g_59, ok_52, hf_60, rfl, v_61, rfl⟩ := h_48
              have hP : va_P D vwCl (WW ad cJ cI cZ (bm.1, bm.2.1, bm.2.2.1, g_59) pa (g_49, g_50, g_51, g_53) pl_7 p2 li (wi.1, wi.2.1, wi.2.2.1, wi.2.2.2.1, g_54, g_55, g_56, g_57, g_58, wi.2.2.2.2.2.2.2.2.2.1, wi.2.2.2.2.2.2.2.2.2.2) mt ms ma mp mk mn ou) H := hP
              have hD : va_D A (WW ad cJ cI cZ (bm.1, bm.2.1, bm.2.2.1, g_59) pa (g_49, g_50, g_51, g_53) pl_7 p2 li (wi.1, wi.2.1, wi.2.2.1, wi.2.2.2.1, g_54, g_55, g_56, g_57, g_58, wi.2.2.2.2.2.2.2.2.2.1, wi.2.2.2.2.2.2.2.2.2.2) mt ms ma mp mk mn ou) := hD
              refine lv_goto (tgt := 180) hx hb dX4_push_173 (by decide) ?_
              refine lv_istore (lv' := [(12, .int (bm_b v_61)), (11, .int (bm_b false)), (10, .int (bm_b false)), (8, .long t_15), (6, .long t_13), (0, .ref (ad 0)), (1, .int (nI zA)), (2, .long zB), (4, .long zC)]) hx hb dX4_push_180 hl (by decide) rfl (fun ls hl => ?_)
              refine lv_iload hx hb dX4_push_182 (lv_at hl 0 rfl) ?_
              refine bm_zb_eq (x := v_61) (tgt := 195) hx hb dX4_push_184 (by decide) (fun c_62 => ?_) (fun c_62 => ?_)
              · refine lv_iconst (v := -1) hx hb dX4_push_195 (by decide) ?_
                exact bm_iretX (v := (-1)) hx hb hr hP hD hK hS ⟨(bm.1, bm.2.1, bm.2.2.1, g_59), pa, (g_49, g_50, g_51, g_53), pl_7, p2, li, (wi.1, wi.2.1, wi.2.2.1, wi.2.2.2.1, g_54, g_55, g_56, g_57, g_58, wi.2.2.2.2.2.2.2.2.2.1, wi.2.2.2.2.2.2.2.2.2.2), ou, ⟨ok_pa_n, ok_pa_side, ok_pa_lowest, ok_52, okq_9, ok_p2_turn, ok_li_one, ok_li_other, ok_li_keepOuts, ok_li_nears, ok_wi_netOf, ok_wi_partOf, ok_wi_nets, ok_wi_pins, hw, hh, (INV_to hf_60 rfl rfl rfl rfl rfl rfl rfl)⟩, rfl, rfl, (-1), rfl⟩ dX4_push_196 hlocks
              · refine lv_aload_n hx hb dX4_push_187 rfl (lv_at hl 5 rfl) ?_
                refine lv_iload_n hx hb dX4_push_188 rfl (lv_at hl 6 rfl) ?_
                refine bm_rcallV (As := [.int (nI zA)]) (rest := []) ⟨hx, hb, hml, hown, hts⟩ (r_changed (bm := (bm.1, bm.2.1, bm.2.2.1, g_59)) (p0 := (g_49, g_50, g_51, g_53)) (wi := (wi.1, wi.2.1, wi.2.2.1, wi.2.2.2.1, g_54, g_55, g_56, g_57, g_58, wi.2.2.2.2.2.2.2.2.2.1, wi.2.2.2.2.2.2.2.2.2.2)) (x := (nI zA)) ⟨ok_pa_n, ok_pa_side, ok_pa_lowest⟩ ok_52 okq_9) (cwV 1 hts gvX4_181 rfl rfl rfl hvX4_countChanged ⟨Nat.le_of_ble_eq_true rfl, Nat.le_of_ble_eq_true rfl⟩) hK hP 0 4 rfl ww_0 rfl hl.1 rfl (Nat.le_of_ble_eq_true rfl) dX4_push_189 ⟨Nat.le_of_ble_eq_true rfl, Nat.le_of_ble_eq_true rfl⟩ ?_
                have hct_63 := q_count_le (q_changed (g_49, g_50, g_51, g_53) pl_7 (nI zA)) pa.2.2.2.2.2.2
                refine lv_goto (tgt := 196) hx hb dX4_push_192 (by decide) ?_
                exact bm_iretX (v := (nI (q_count (q_changed (g_49, g_50, g_51, g_53) pl_7 (nI zA)) pa.2.2.2.2.2.2))) hx hb hr hP hD hK hS ⟨(bm.1, bm.2.1, bm.2.2.1, g_59), pa, (g_49, g_50, g_51, g_53), pl_7, p2, li, (wi.1, wi.2.1, wi.2.2.1, wi.2.2.2.1, g_54, g_55, g_56, g_57, g_58, wi.2.2.2.2.2.2.2.2.2.1, wi.2.2.2.2.2.2.2.2.2.2), ou, ⟨ok_pa_n, ok_pa_side, ok_pa_lowest, ok_52, okq_9, ok_p2_turn, ok_li_one, ok_li_other, ok_li_keepOuts, ok_li_nears, ok_wi_netOf, ok_wi_partOf, ok_wi_nets, ok_wi_pins, hw, hh, (INV_to hf_60 rfl rfl rfl rfl rfl rfl rfl)⟩, rfl, rfl, (nI (q_count (q_changed (g_49, g_50, g_51, g_53) pl_7 (nI zA)) pa.2.2.2.2.2.2)), rfl⟩ dX4_push_196 hlocks
          · refine lv_iconst (v := bm_b true) hx hb dX4_push_135 (by decide) ?_
            refine lv_goto (tgt := 140) hx hb dX4_push_136 (by decide) ?_
            refine lv_istore (lv' := [(11, .int (bm_b true)), (10, .int (bm_b false)), (8, .long t_15), (6, .long t_13), (0, .ref (ad 0)), (1, .int (nI zA)), (2, .long zB), (4, .long zC)]) hx hb dX4_push_140 hl (by decide) rfl (fun ls hl => ?_)
            refine lv_aload_n hx hb dX4_push_142 rfl (lv_at hl 4 rfl) ?_
            refine va_get (D := D) (ci := 4) (v := .ref (ad 8)) (C := RX4) (T := TX4) (N := 10) hx hb hts (inT inX4) hown hK hP 0 ww_0 rfl 5 (by decide) (hts (.fieldLink RX4 37 "BoardMoves" "now" "LBoardMoves$Placement;") (List.mem_cons_of_mem _ flX4_37)) (fun _ h9 => h9) rfl dX4_push_143 ?_
            refine lv_iload_n hx hb dX4_push_146 rfl (lv_at hl 5 rfl) ?_
            refine lv_lload hx hb dX4_push_147 (lv_at hl 3 rfl) ?_
            refine lv_lload hx hb dX4_push_149 (lv_at hl 2 rfl) ?_
            refine bm_xcallV (As := [.int (nI zA), .long t_13, .long t_15]) (rest := []) ⟨hx, hb, hml, hown, hts⟩ (x_shift  (zj := zA) (z1 := t_13) (z2 := t_15) ok_pa_n ok_pa_lowest (by omega)) (cwV 3 hts gvX4_119 rfl rfl rfl hvX2_shiftGroup ⟨Nat.le_of_ble_eq_true rfl, Nat.le_of_ble_eq_true rfl⟩) hK hP hD hS hA 8 2 rfl ww_8 rfl hl.1 rfl (Nat.le_of_ble_eq_true rfl) dX4_push_151 ⟨Nat.le_of_ble_eq_true rfl, Nat.le_of_ble_eq_true rfl⟩ (fun ws_64 r_65 h_66 H locs hP hD hS => ?_)
            obtain ⟨g_67, g_68, rfl, rfl⟩ := h_66
            have hP : va_P D vwCl (WW ad cJ cI cZ bm pa (g_67, g_68, p0.2.2.1, p0.2.2.2) pl_7 p2 li wi mt ms ma mp mk mn ou) H := hP
            have hD : va_D A (WW ad cJ cI cZ bm pa (g_67, g_68, p0.2.2.1, p0.2.2.2) pl_7 p2 li wi mt ms ma mp mk mn ou) := hD
            refine lv_aload_n hx hb dX4_push_154 rfl (lv_at hl 4 rfl) ?_
            refine lv_iload_n hx hb dX4_push_155 rfl (lv_at hl 5 rfl) ?_
            refine lv_iload hx hb dX4_push_156 (lv_at hl 1 rfl) ?_
            refine lv_iload hx hb dX4_push_158 (lv_at hl 0 rfl) ?_
            refine bm_xcallV (As := [.int (nI zA), .int (bm_b false), .int (bm_b true)]) (rest := []) ⟨hx, hb, hml, hown, hts⟩ (x_clear (p0 := (g_67, g_68, p0.2.2.1, p0.2.2.2)) (za := zA) (zx := false) (zu := true) ok_pa_n ok_pa_side ok_p0_turn ok_pa_lowest (by omega)) (cwV 3 hts gvX4_173 rfl rfl rfl hvX4_clearTheWay ⟨Nat.le_of_ble_eq_true rfl, Nat.le_of_ble_eq_true rfl⟩) hK hP hD hS hA 0 4 rfl ww_0 rfl hl.1 rfl (Nat.le_of_ble_eq_true rfl) dX4_push_160 ⟨Nat.le_of_ble_eq_true rfl, Nat.le_of_ble_eq_true rfl⟩ (fun ws_69 r_70 h_71 H locs hP hD hS => ?_)
            obtain ⟨g_72, g_73, rfl, v_74, rfl⟩ := h_71
            have hP : va_P D vwCl (WW ad cJ cI cZ bm pa (g_72, g_73, p0.2.2.1, p0.2.2.2) pl_7 p2 li wi mt ms ma mp mk mn ou) H := hP
            have hD : va_D A (WW ad cJ cI cZ bm pa (g_72, g_73, p0.2.2.1, p0.2.2.2) pl_7 p2 li wi mt ms ma mp mk mn ou) := hD
            refine bm_zb_eq (x := v_74) (tgt := 176) hx hb dX4_push_163 (by decide) (fun c_75 => ?_) (fun c_75 => ?_)
            · refine lv_aload_n hx hb dX4_push_176 rfl (lv_at hl 4 rfl) ?_
              refine bm_xcallV (As := []) (rest := []) ⟨hx, hb, hml, hown, hts⟩ (x_backI (p0 := (g_72, g_73, p0.2.2.1, p0.2.2.2))  ok_pa_n ok_pa_side ok_pa_lowest ok_p0_turn okq_9 ) (cwV 0 hts gvX4_177 rfl rfl rfl hvX4_takeBack ⟨Nat.le_of_ble_eq_true rfl, Nat.le_of_ble_eq_true rfl⟩) hK hP hD hS hA 0 4 rfl ww_0 rfl hl.1 rfl (Nat.le_of_ble_eq_true rfl) dX4_push_177 ⟨Nat.le_of_ble_eq_true rfl, Nat.le_of_ble_eq_true rfl⟩ (fun ws_76 r_77 h_78 H locs hP hD hS => ?_)
              obtain ⟨g_79, g_80, g_81, g_83, ok_82, hf_84, rfl, v_85, rfl⟩ := h_78
              have hP : va_P D vwCl (WW ad cJ cI cZ bm pa (g_79, g_80, g_81, g_83) pl_7 p2 li wi mt ms ma mp mk mn ou) H := hP
              have hD : va_D A (WW ad cJ cI cZ bm pa (g_79, g_80, g_81, g_83) pl_7 p2 li wi mt ms ma mp mk mn ou) := hD
              refine lv_istore (lv' := [(12, .int (bm_b v_85)), (11, .int (bm_b true)), (10, .int (bm_b false)), (8, .long t_15), (6, .long t_13), (0, .ref (ad 0)), (1, .int (nI zA)), (2, .long zB), (4, .long zC)]) hx hb dX4_push_180 hl (by decide) rfl (fun ls hl => ?_)
              refine lv_iload hx hb dX4_push_182 (lv_at hl 0 rfl) ?_
              refine bm_zb_eq (x := v_85) (tgt := 195) hx hb dX4_push_184 (by decide) (fun c_86 => ?_) (fun c_86 => ?_)
              · refine lv_iconst (v := -1) hx hb dX4_push_195 (by decide) ?_
                exact bm_iretX (v := (-1)) hx hb hr hP hD hK hS ⟨bm, pa, (g_79, g_80, g_81, g_83), pl_7, p2, li, wi, ou, ⟨ok_pa_n, ok_pa_side, ok_pa_lowest, ok_82, okq_9, ok_p2_turn, ok_li_one, ok_li_other, ok_li_keepOuts, ok_li_nears, ok_wi_netOf, ok_wi_partOf, ok_wi_nets, ok_wi_pins, hw, hh, (INV_to (INV_ag hW_11 hI.2.1 (fun i hi => (hf_84.2 i hi).trans (hI.2.2 i hi)) hf_84.1) rfl rfl rfl rfl rfl rfl rfl)⟩, rfl, rfl, (-1), rfl⟩ dX4_push_196 hlocks
              · refine lv_aload_n hx hb dX4_push_187 rfl (lv_at hl 5 rfl) ?_
                refine lv_iload_n hx hb dX4_push_188 rfl (lv_at hl 6 rfl) ?_
                refine bm_rcallV (As := [.int (nI zA)]) (rest := []) ⟨hx, hb, hml, hown, hts⟩ (r_changed (p0 := (g_79, g_80, g_81, g_83)) (x := (nI zA)) ⟨ok_pa_n, ok_pa_side, ok_pa_lowest⟩ ok_82 okq_9) (cwV 1 hts gvX4_181 rfl rfl rfl hvX4_countChanged ⟨Nat.le_of_ble_eq_true rfl, Nat.le_of_ble_eq_true rfl⟩) hK hP 0 4 rfl ww_0 rfl hl.1 rfl (Nat.le_of_ble_eq_true rfl) dX4_push_189 ⟨Nat.le_of_ble_eq_true rfl, Nat.le_of_ble_eq_true rfl⟩ ?_
                have hct_87 := q_count_le (q_changed (g_79, g_80, g_81, g_83) pl_7 (nI zA)) pa.2.2.2.2.2.2
                refine lv_goto (tgt := 196) hx hb dX4_push_192 (by decide) ?_
                exact bm_iretX (v := (nI (q_count (q_changed (g_79, g_80, g_81, g_83) pl_7 (nI zA)) pa.2.2.2.2.2.2))) hx hb hr hP hD hK hS ⟨bm, pa, (g_79, g_80, g_81, g_83), pl_7, p2, li, wi, ou, ⟨ok_pa_n, ok_pa_side, ok_pa_lowest, ok_82, okq_9, ok_p2_turn, ok_li_one, ok_li_other, ok_li_keepOuts, ok_li_nears, ok_wi_netOf, ok_wi_partOf, ok_wi_nets, ok_wi_pins, hw, hh, (INV_to (INV_ag hW_11 hI.2.1 (fun i hi => (hf_84.2 i hi).trans (hI.2.2 i hi)) hf_84.1) rfl rfl rfl rfl rfl rfl rfl)⟩, rfl, rfl, (nI (q_count (q_changed (g_79, g_80, g_81, g_83) pl_7 (nI zA)) pa.2.2.2.2.2.2)), rfl⟩ dX4_push_196 hlocks
            · refine lv_aload_n hx hb dX4_push_166 rfl (lv_at hl 4 rfl) ?_
              refine lv_ldc2 (v := 9223372036854775807) hx hb hown (hts (.constantLong RX4 127 9223372036854775807) (List.mem_cons_of_mem _ clX4_127)) dX4_push_167 ?_
              refine lv_topl (fun t_88 _ => ?_)
              refine bm_xcallV (As := [.long t_88]) (rest := []) ⟨hx, hb, hml, hown, hts⟩ (x_keepI (p0 := (g_72, g_73, p0.2.2.1, p0.2.2.2)) (z1 := t_88) ok_pa_n ok_pa_side ok_pa_lowest ok_p0_turn ok_li_keepOuts ok_li_nears ok_li_one ok_li_other okq_9 ok_wi_nets ok_wi_pins ok_wi_netOf ok_wi_partOf  hW_11 hI.2.1 hI.2.2) (cwV 1 hts gvX4_129 rfl rfl rfl hvX4_keepChange ⟨Nat.le_of_ble_eq_true rfl, Nat.le_of_ble_eq_true rfl⟩) hK hP hD hS hA 0 4 rfl ww_0 rfl hl.1 rfl (Nat.le_of_ble_eq_true rfl) dX4_push_170 ⟨Nat.le_of_ble_eq_true rfl, Nat.le_of_ble_eq_true rfl⟩ (fun ws_89 r_90 h_91 H locs hP hD hS => ?_)
              obtain ⟨g_92, g_93, g_94, g_96, g_97, g_98, g_99, g_100, g_101, g_102, ok_95, hf_103, rfl, v_104, rfl⟩ := h_91
              have hP : va_P D vwCl (WW ad cJ cI cZ (bm.1, bm.2.1, bm.2.2.1, g_102) pa (g_92, g_93, g_94, g_96) pl_7 p2 li (wi.1, wi.2.1, wi.2.2.1, wi.2.2.2.1, g_97, g_98, g_99, g_100, g_101, wi.2.2.2.2.2.2.2.2.2.1, wi.2.2.2.2.2.2.2.2.2.2) mt ms ma mp mk mn ou) H := hP
              have hD : va_D A (WW ad cJ cI cZ (bm.1, bm.2.1, bm.2.2.1, g_102) pa (g_92, g_93, g_94, g_96) pl_7 p2 li (wi.1, wi.2.1, wi.2.2.1, wi.2.2.2.1, g_97, g_98, g_99, g_100, g_101, wi.2.2.2.2.2.2.2.2.2.1, wi.2.2.2.2.2.2.2.2.2.2) mt ms ma mp mk mn ou) := hD
              refine lv_goto (tgt := 180) hx hb dX4_push_173 (by decide) ?_
              refine lv_istore (lv' := [(12, .int (bm_b v_104)), (11, .int (bm_b true)), (10, .int (bm_b false)), (8, .long t_15), (6, .long t_13), (0, .ref (ad 0)), (1, .int (nI zA)), (2, .long zB), (4, .long zC)]) hx hb dX4_push_180 hl (by decide) rfl (fun ls hl => ?_)
              refine lv_iload hx hb dX4_push_182 (lv_at hl 0 rfl) ?_
              refine bm_zb_eq (x := v_104) (tgt := 195) hx hb dX4_push_184 (by decide) (fun c_105 => ?_) (fun c_105 => ?_)
              · refine lv_iconst (v := -1) hx hb dX4_push_195 (by decide) ?_
                exact bm_iretX (v := (-1)) hx hb hr hP hD hK hS ⟨(bm.1, bm.2.1, bm.2.2.1, g_102), pa, (g_92, g_93, g_94, g_96), pl_7, p2, li, (wi.1, wi.2.1, wi.2.2.1, wi.2.2.2.1, g_97, g_98, g_99, g_100, g_101, wi.2.2.2.2.2.2.2.2.2.1, wi.2.2.2.2.2.2.2.2.2.2), ou, ⟨ok_pa_n, ok_pa_side, ok_pa_lowest, ok_95, okq_9, ok_p2_turn, ok_li_one, ok_li_other, ok_li_keepOuts, ok_li_nears, ok_wi_netOf, ok_wi_partOf, ok_wi_nets, ok_wi_pins, hw, hh, (INV_to hf_103 rfl rfl rfl rfl rfl rfl rfl)⟩, rfl, rfl, (-1), rfl⟩ dX4_push_196 hlocks
              · refine lv_aload_n hx hb dX4_push_187 rfl (lv_at hl 5 rfl) ?_
                refine lv_iload_n hx hb dX4_push_188 rfl (lv_at hl 6 rfl) ?_
                refine bm_rcallV (As := [.int (nI zA)]) (rest := []) ⟨hx, hb, hml, hown, hts⟩ (r_changed (bm := (bm.1, bm.2.1, bm.2.2.1, g_102)) (p0 := (g_92, g_93, g_94, g_96)) (wi := (wi.1, wi.2.1, wi.2.2.1, wi.2.2.2.1, g_97, g_98, g_99, g_100, g_101, wi.2.2.2.2.2.2.2.2.2.1, wi.2.2.2.2.2.2.2.2.2.2)) (x := (nI zA)) ⟨ok_pa_n, ok_pa_side, ok_pa_lowest⟩ ok_95 okq_9) (cwV 1 hts gvX4_181 rfl rfl rfl hvX4_countChanged ⟨Nat.le_of_ble_eq_true rfl, Nat.le_of_ble_eq_true rfl⟩) hK hP 0 4 rfl ww_0 rfl hl.1 rfl (Nat.le_of_ble_eq_true rfl) dX4_push_189 ⟨Nat.le_of_ble_eq_true rfl, Nat.le_of_ble_eq_true rfl⟩ ?_
                have hct_106 := q_count_le (q_changed (g_92, g_93, g_94, g_96) pl_7 (nI zA)) pa.2.2.2.2.2.2
                refine lv_goto (tgt := 196) hx hb dX4_push_192 (by decide) ?_
                exact bm_iretX (v := (nI (q_count (q_changed (g_92, g_93, g_94, g_96) pl_7 (nI zA)) pa.2.2.2.2.2.2))) hx hb hr hP hD hK hS ⟨(bm.1, bm.2.1, bm.2.2.1, g_102), pa, (g_92, g_93, g_94, g_96), pl_7, p2, li, (wi.1, wi.2.1, wi.2.2.1, wi.2.2.2.1, g_97, g_98, g_99, g_100, g_101, wi.2.2.2.2.2.2.2.2.2.1, wi.2.2.2.2.2.2.2.2.2.2), ou, ⟨ok_pa_n, ok_pa_side, ok_pa_lowest, ok_95, okq_9, ok_p2_turn, ok_li_one, ok_li_other, ok_li_keepOuts, ok_li_nears, ok_wi_netOf, ok_wi_partOf, ok_wi_nets, ok_wi_pins, hw, hh, (INV_to hf_103 rfl rfl rfl rfl rfl rfl rfl)⟩, rfl, rfl, (nI (q_count (q_changed (g_92, g_93, g_94, g_96) pl_7 (nI zA)) pa.2.2.2.2.2.2)), rfl⟩ dX4_push_196 hlocks
        · exact absurd c_19 (by decide)
      · refine lv_iconst (v := bm_b true) hx hb dX4_push_101 (by decide) ?_
        refine lv_goto (tgt := 106) hx hb dX4_push_102 (by decide) ?_
        refine lv_istore (lv' := [(10, .int (bm_b true)), (8, .long t_15), (6, .long t_13), (0, .ref (ad 0)), (1, .int (nI zA)), (2, .long zB), (4, .long zC)]) hx hb dX4_push_106 hl (by decide) rfl (fun ls hl => ?_)
        refine lv_iload hx hb dX4_push_108 (lv_at hl 0 rfl) ?_
        refine bm_zb_eq (x := true) (tgt := 128) hx hb dX4_push_110 (by decide) (fun c_107 => ?_) (fun c_107 => ?_)
        · exact absurd c_107 (by decide)
        · refine lv_lload hx hb dX4_push_113 (lv_at hl 2 rfl) ?_
          refine lv_lconst (v := 0) hx hb dX4_push_115 (by decide) ?_
          refine bm_lc_le (x := t_13) (y := 0) (tgt := 124) hx hb dX4_push_116 dX4_push_117 (by decide) (fun c_108 => ?_) (fun c_108 => ?_)
          · refine lv_iconst (v := bm_b false) hx hb dX4_push_124 (by decide) ?_
            refine lv_goto (tgt := 140) hx hb dX4_push_125 (by decide) ?_
            refine lv_istore (lv' := [(11, .int (bm_b false)), (10, .int (bm_b true)), (8, .long t_15), (6, .long t_13), (0, .ref (ad 0)), (1, .int (nI zA)), (2, .long zB), (4, .long zC)]) hx hb dX4_push_140 hl (by decide) rfl (fun ls hl => ?_)
            refine lv_aload_n hx hb dX4_push_142 rfl (lv_at hl 4 rfl) ?_
            refine va_get (D := D) (ci := 4) (v := .ref (ad 8)) (C := RX4) (T := TX4) (N := 10) hx hb hts (inT inX4) hown hK hP 0 ww_0 rfl 5 (by decide) (hts (.fieldLink RX4 37 "BoardMoves" "now" "LBoardMoves$Placement;") (List.mem_cons_of_mem _ flX4_37)) (fun _ h9 => h9) rfl dX4_push_143 ?_
            refine lv_iload_n hx hb dX4_push_146 rfl (lv_at hl 5 rfl) ?_
            refine lv_lload hx hb dX4_push_147 (lv_at hl 3 rfl) ?_
            refine lv_lload hx hb dX4_push_149 (lv_at hl 2 rfl) ?_
            refine bm_xcallV (As := [.int (nI zA), .long t_13, .long t_15]) (rest := []) ⟨hx, hb, hml, hown, hts⟩ (x_shift  (zj := zA) (z1 := t_13) (z2 := t_15) ok_pa_n ok_pa_lowest (by omega)) (cwV 3 hts gvX4_119 rfl rfl rfl hvX2_shiftGroup ⟨Nat.le_of_ble_eq_true rfl, Nat.le_of_ble_eq_true rfl⟩) hK hP hD hS hA 8 2 rfl ww_8 rfl hl.1 rfl (Nat.le_of_ble_eq_true rfl) dX4_push_151 ⟨Nat.le_of_ble_eq_true rfl, Nat.le_of_ble_eq_true rfl⟩ (fun ws_109 r_110 h_111 H locs hP hD hS => ?_)
            obtain ⟨g_112, g_113, rfl, rfl⟩ := h_111
            have hP : va_P D vwCl (WW ad cJ cI cZ bm pa (g_112, g_113, p0.2.2.1, p0.2.2.2) pl_7 p2 li wi mt ms ma mp mk mn ou) H := hP
            have hD : va_D A (WW ad cJ cI cZ bm pa (g_112, g_113, p0.2.2.1, p0.2.2.2) pl_7 p2 li wi mt ms ma mp mk mn ou) := hD
            refine lv_aload_n hx hb dX4_push_154 rfl (lv_at hl 4 rfl) ?_
            refine lv_iload_n hx hb dX4_push_155 rfl (lv_at hl 5 rfl) ?_
            refine lv_iload hx hb dX4_push_156 (lv_at hl 1 rfl) ?_
            refine lv_iload hx hb dX4_push_158 (lv_at hl 0 rfl) ?_
            refine bm_xcallV (As := [.int (nI zA), .int (bm_b true), .int (bm_b false)]) (rest := []) ⟨hx, hb, hml, hown, hts⟩ (x_clear (p0 := (g_112, g_113, p0.2.2.1, p0.2.2.2)) (za := zA) (zx := true) (zu := false) ok_pa_n ok_pa_side ok_p0_turn ok_pa_lowest (by omega)) (cwV 3 hts gvX4_173 rfl rfl rfl hvX4_clearTheWay ⟨Nat.le_of_ble_eq_true rfl, Nat.le_of_ble_eq_true rfl⟩) hK hP hD hS hA 0 4 rfl ww_0 rfl hl.1 rfl (Nat.le_of_ble_eq_true rfl) dX4_push_160 ⟨Nat.le_of_ble_eq_true rfl, Nat.le_of_ble_eq_true rfl⟩ (fun ws_114 r_115 h_116 H locs hP hD hS => ?_)
            obtain ⟨g_117, g_118, rfl, v_119, rfl⟩ := h_116
            have hP : va_P D vwCl (WW ad cJ cI cZ bm pa (g_117, g_118, p0.2.2.1, p0.2.2.2) pl_7 p2 li wi mt ms ma mp mk mn ou) H := hP
            have hD : va_D A (WW ad cJ cI cZ bm pa (g_117, g_118, p0.2.2.1, p0.2.2.2) pl_7 p2 li wi mt ms ma mp mk mn ou) := hD
            refine bm_zb_eq (x := v_119) (tgt := 176) hx hb dX4_push_163 (by decide) (fun c_120 => ?_) (fun c_120 => ?_)
            · refine lv_aload_n hx hb dX4_push_176 rfl (lv_at hl 4 rfl) ?_
              refine bm_xcallV (As := []) (rest := []) ⟨hx, hb, hml, hown, hts⟩ (x_backI (p0 := (g_117, g_118, p0.2.2.1, p0.2.2.2))  ok_pa_n ok_pa_side ok_pa_lowest ok_p0_turn okq_9 ) (cwV 0 hts gvX4_177 rfl rfl rfl hvX4_takeBack ⟨Nat.le_of_ble_eq_true rfl, Nat.le_of_ble_eq_true rfl⟩) hK hP hD hS hA 0 4 rfl ww_0 rfl hl.1 rfl (Nat.le_of_ble_eq_true rfl) dX4_push_177 ⟨Nat.le_of_ble_eq_true rfl, Nat.le_of_ble_eq_true rfl⟩ (fun ws_121 r_122 h_123 H locs hP hD hS => ?_)
              obtain ⟨g_124, g_125, g_126, g_128, ok_127, hf_129, rfl, v_130, rfl⟩ := h_123
              have hP : va_P D vwCl (WW ad cJ cI cZ bm pa (g_124, g_125, g_126, g_128) pl_7 p2 li wi mt ms ma mp mk mn ou) H := hP
              have hD : va_D A (WW ad cJ cI cZ bm pa (g_124, g_125, g_126, g_128) pl_7 p2 li wi mt ms ma mp mk mn ou) := hD
              refine lv_istore (lv' := [(12, .int (bm_b v_130)), (11, .int (bm_b false)), (10, .int (bm_b true)), (8, .long t_15), (6, .long t_13), (0, .ref (ad 0)), (1, .int (nI zA)), (2, .long zB), (4, .long zC)]) hx hb dX4_push_180 hl (by decide) rfl (fun ls hl => ?_)
              refine lv_iload hx hb dX4_push_182 (lv_at hl 0 rfl) ?_
              refine bm_zb_eq (x := v_130) (tgt := 195) hx hb dX4_push_184 (by decide) (fun c_131 => ?_) (fun c_131 => ?_)
              · refine lv_iconst (v := -1) hx hb dX4_push_195 (by decide) ?_
                exact bm_iretX (v := (-1)) hx hb hr hP hD hK hS ⟨bm, pa, (g_124, g_125, g_126, g_128), pl_7, p2, li, wi, ou, ⟨ok_pa_n, ok_pa_side, ok_pa_lowest, ok_127, okq_9, ok_p2_turn, ok_li_one, ok_li_other, ok_li_keepOuts, ok_li_nears, ok_wi_netOf, ok_wi_partOf, ok_wi_nets, ok_wi_pins, hw, hh, (INV_to (INV_ag hW_11 hI.2.1 (fun i hi => (hf_129.2 i hi).trans (hI.2.2 i hi)) hf_129.1) rfl rfl rfl rfl rfl rfl rfl)⟩, rfl, rfl, (-1), rfl⟩ dX4_push_196 hlocks
              · refine lv_aload_n hx hb dX4_push_187 rfl (lv_at hl 5 rfl) ?_
                refine lv_iload_n hx hb dX4_push_188 rfl (lv_at hl 6 rfl) ?_
                refine bm_rcallV (As := [.int (nI zA)]) (rest := []) ⟨hx, hb, hml, hown, hts⟩ (r_changed (p0 := (g_124, g_125, g_126, g_128)) (x := (nI zA)) ⟨ok_pa_n, ok_pa_side, ok_pa_lowest⟩ ok_127 okq_9) (cwV 1 hts gvX4_181 rfl rfl rfl hvX4_countChanged ⟨Nat.le_of_ble_eq_true rfl, Nat.le_of_ble_eq_true rfl⟩) hK hP 0 4 rfl ww_0 rfl hl.1 rfl (Nat.le_of_ble_eq_true rfl) dX4_push_189 ⟨Nat.le_of_ble_eq_true rfl, Nat.le_of_ble_eq_true rfl⟩ ?_
                have hct_132 := q_count_le (q_changed (g_124, g_125, g_126, g_128) pl_7 (nI zA)) pa.2.2.2.2.2.2
                refine lv_goto (tgt := 196) hx hb dX4_push_192 (by decide) ?_
                exact bm_iretX (v := (nI (q_count (q_changed (g_124, g_125, g_126, g_128) pl_7 (nI zA)) pa.2.2.2.2.2.2))) hx hb hr hP hD hK hS ⟨bm, pa, (g_124, g_125, g_126, g_128), pl_7, p2, li, wi, ou, ⟨ok_pa_n, ok_pa_side, ok_pa_lowest, ok_127, okq_9, ok_p2_turn, ok_li_one, ok_li_other, ok_li_keepOuts, ok_li_nears, ok_wi_netOf, ok_wi_partOf, ok_wi_nets, ok_wi_pins, hw, hh, (INV_to (INV_ag hW_11 hI.2.1 (fun i hi => (hf_129.2 i hi).trans (hI.2.2 i hi)) hf_129.1) rfl rfl rfl rfl rfl rfl rfl)⟩, rfl, rfl, (nI (q_count (q_changed (g_124, g_125, g_126, g_128) pl_7 (nI zA)) pa.2.2.2.2.2.2)), rfl⟩ dX4_push_196 hlocks
            · refine lv_aload_n hx hb dX4_push_166 rfl (lv_at hl 4 rfl) ?_
              refine lv_ldc2 (v := 9223372036854775807) hx hb hown (hts (.constantLong RX4 127 9223372036854775807) (List.mem_cons_of_mem _ clX4_127)) dX4_push_167 ?_
              refine lv_topl (fun t_133 _ => ?_)
              refine bm_xcallV (As := [.long t_133]) (rest := []) ⟨hx, hb, hml, hown, hts⟩ (x_keepI (p0 := (g_117, g_118, p0.2.2.1, p0.2.2.2)) (z1 := t_133) ok_pa_n ok_pa_side ok_pa_lowest ok_p0_turn ok_li_keepOuts ok_li_nears ok_li_one ok_li_other okq_9 ok_wi_nets ok_wi_pins ok_wi_netOf ok_wi_partOf  hW_11 hI.2.1 hI.2.2) (cwV 1 hts gvX4_129 rfl rfl rfl hvX4_keepChange ⟨Nat.le_of_ble_eq_true rfl, Nat.le_of_ble_eq_true rfl⟩) hK hP hD hS hA 0 4 rfl ww_0 rfl hl.1 rfl (Nat.le_of_ble_eq_true rfl) dX4_push_170 ⟨Nat.le_of_ble_eq_true rfl, Nat.le_of_ble_eq_true rfl⟩ (fun ws_134 r_135 h_136 H locs hP hD hS => ?_)
              obtain ⟨g_137, g_138, g_139, g_141, g_142, g_143, g_144, g_145, g_146, g_147, ok_140, hf_148, rfl, v_149, rfl⟩ := h_136
              have hP : va_P D vwCl (WW ad cJ cI cZ (bm.1, bm.2.1, bm.2.2.1, g_147) pa (g_137, g_138, g_139, g_141) pl_7 p2 li (wi.1, wi.2.1, wi.2.2.1, wi.2.2.2.1, g_142, g_143, g_144, g_145, g_146, wi.2.2.2.2.2.2.2.2.2.1, wi.2.2.2.2.2.2.2.2.2.2) mt ms ma mp mk mn ou) H := hP
              have hD : va_D A (WW ad cJ cI cZ (bm.1, bm.2.1, bm.2.2.1, g_147) pa (g_137, g_138, g_139, g_141) pl_7 p2 li (wi.1, wi.2.1, wi.2.2.1, wi.2.2.2.1, g_142, g_143, g_144, g_145, g_146, wi.2.2.2.2.2.2.2.2.2.1, wi.2.2.2.2.2.2.2.2.2.2) mt ms ma mp mk mn ou) := hD
              refine lv_goto (tgt := 180) hx hb dX4_push_173 (by decide) ?_
              refine lv_istore (lv' := [(12, .int (bm_b v_149)), (11, .int (bm_b false)), (10, .int (bm_b true)), (8, .long t_15), (6, .long t_13), (0, .ref (ad 0)), (1, .int (nI zA)), (2, .long zB), (4, .long zC)]) hx hb dX4_push_180 hl (by decide) rfl (fun ls hl => ?_)
              refine lv_iload hx hb dX4_push_182 (lv_at hl 0 rfl) ?_
              refine bm_zb_eq (x := v_149) (tgt := 195) hx hb dX4_push_184 (by decide) (fun c_150 => ?_) (fun c_150 => ?_)
              · refine lv_iconst (v := -1) hx hb dX4_push_195 (by decide) ?_
                exact bm_iretX (v := (-1)) hx hb hr hP hD hK hS ⟨(bm.1, bm.2.1, bm.2.2.1, g_147), pa, (g_137, g_138, g_139, g_141), pl_7, p2, li, (wi.1, wi.2.1, wi.2.2.1, wi.2.2.2.1, g_142, g_143, g_144, g_145, g_146, wi.2.2.2.2.2.2.2.2.2.1, wi.2.2.2.2.2.2.2.2.2.2), ou, ⟨ok_pa_n, ok_pa_side, ok_pa_lowest, ok_140, okq_9, ok_p2_turn, ok_li_one, ok_li_other, ok_li_keepOuts, ok_li_nears, ok_wi_netOf, ok_wi_partOf, ok_wi_nets, ok_wi_pins, hw, hh, (INV_to hf_148 rfl rfl rfl rfl rfl rfl rfl)⟩, rfl, rfl, (-1), rfl⟩ dX4_push_196 hlocks
              · refine lv_aload_n hx hb dX4_push_187 rfl (lv_at hl 5 rfl) ?_
                refine lv_iload_n hx hb dX4_push_188 rfl (lv_at hl 6 rfl) ?_
                refine bm_rcallV (As := [.int (nI zA)]) (rest := []) ⟨hx, hb, hml, hown, hts⟩ (r_changed (bm := (bm.1, bm.2.1, bm.2.2.1, g_147)) (p0 := (g_137, g_138, g_139, g_141)) (wi := (wi.1, wi.2.1, wi.2.2.1, wi.2.2.2.1, g_142, g_143, g_144, g_145, g_146, wi.2.2.2.2.2.2.2.2.2.1, wi.2.2.2.2.2.2.2.2.2.2)) (x := (nI zA)) ⟨ok_pa_n, ok_pa_side, ok_pa_lowest⟩ ok_140 okq_9) (cwV 1 hts gvX4_181 rfl rfl rfl hvX4_countChanged ⟨Nat.le_of_ble_eq_true rfl, Nat.le_of_ble_eq_true rfl⟩) hK hP 0 4 rfl ww_0 rfl hl.1 rfl (Nat.le_of_ble_eq_true rfl) dX4_push_189 ⟨Nat.le_of_ble_eq_true rfl, Nat.le_of_ble_eq_true rfl⟩ ?_
                have hct_151 := q_count_le (q_changed (g_137, g_138, g_139, g_141) pl_7 (nI zA)) pa.2.2.2.2.2.2
                refine lv_goto (tgt := 196) hx hb dX4_push_192 (by decide) ?_
                exact bm_iretX (v := (nI (q_count (q_changed (g_137, g_138, g_139, g_141) pl_7 (nI zA)) pa.2.2.2.2.2.2))) hx hb hr hP hD hK hS ⟨(bm.1, bm.2.1, bm.2.2.1, g_147), pa, (g_137, g_138, g_139, g_141), pl_7, p2, li, (wi.1, wi.2.1, wi.2.2.1, wi.2.2.2.1, g_142, g_143, g_144, g_145, g_146, wi.2.2.2.2.2.2.2.2.2.1, wi.2.2.2.2.2.2.2.2.2.2), ou, ⟨ok_pa_n, ok_pa_side, ok_pa_lowest, ok_140, okq_9, ok_p2_turn, ok_li_one, ok_li_other, ok_li_keepOuts, ok_li_nears, ok_wi_netOf, ok_wi_partOf, ok_wi_nets, ok_wi_pins, hw, hh, (INV_to hf_148 rfl rfl rfl rfl rfl rfl rfl)⟩, rfl, rfl, (nI (q_count (q_changed (g_137, g_138, g_139, g_141) pl_7 (nI zA)) pa.2.2.2.2.2.2)), rfl⟩ dX4_push_196 hlocks
          · refine lv_iconst (v := bm_b true) hx hb dX4_push_120 (by decide) ?_
            refine lv_goto (tgt := 140) hx hb dX4_push_121 (by decide) ?_
            refine lv_istore (lv' := [(11, .int (bm_b true)), (10, .int (bm_b true)), (8, .long t_15), (6, .long t_13), (0, .ref (ad 0)), (1, .int (nI zA)), (2, .long zB), (4, .long zC)]) hx hb dX4_push_140 hl (by decide) rfl (fun ls hl => ?_)
            refine lv_aload_n hx hb dX4_push_142 rfl (lv_at hl 4 rfl) ?_
            refine va_get (D := D) (ci := 4) (v := .ref (ad 8)) (C := RX4) (T := TX4) (N := 10) hx hb hts (inT inX4) hown hK hP 0 ww_0 rfl 5 (by decide) (hts (.fieldLink RX4 37 "BoardMoves" "now" "LBoardMoves$Placement;") (List.mem_cons_of_mem _ flX4_37)) (fun _ h9 => h9) rfl dX4_push_143 ?_
            refine lv_iload_n hx hb dX4_push_146 rfl (lv_at hl 5 rfl) ?_
            refine lv_lload hx hb dX4_push_147 (lv_at hl 3 rfl) ?_
            refine lv_lload hx hb dX4_push_149 (lv_at hl 2 rfl) ?_
            refine bm_xcallV (As := [.int (nI zA), .long t_13, .long t_15]) (rest := []) ⟨hx, hb, hml, hown, hts⟩ (x_shift  (zj := zA) (z1 := t_13) (z2 := t_15) ok_pa_n ok_pa_lowest (by omega)) (cwV 3 hts gvX4_119 rfl rfl rfl hvX2_shiftGroup ⟨Nat.le_of_ble_eq_true rfl, Nat.le_of_ble_eq_true rfl⟩) hK hP hD hS hA 8 2 rfl ww_8 rfl hl.1 rfl (Nat.le_of_ble_eq_true rfl) dX4_push_151 ⟨Nat.le_of_ble_eq_true rfl, Nat.le_of_ble_eq_true rfl⟩ (fun ws_152 r_153 h_154 H locs hP hD hS => ?_)
            obtain ⟨g_155, g_156, rfl, rfl⟩ := h_154
            have hP : va_P D vwCl (WW ad cJ cI cZ bm pa (g_155, g_156, p0.2.2.1, p0.2.2.2) pl_7 p2 li wi mt ms ma mp mk mn ou) H := hP
            have hD : va_D A (WW ad cJ cI cZ bm pa (g_155, g_156, p0.2.2.1, p0.2.2.2) pl_7 p2 li wi mt ms ma mp mk mn ou) := hD
            refine lv_aload_n hx hb dX4_push_154 rfl (lv_at hl 4 rfl) ?_
            refine lv_iload_n hx hb dX4_push_155 rfl (lv_at hl 5 rfl) ?_
            refine lv_iload hx hb dX4_push_156 (lv_at hl 1 rfl) ?_
            refine lv_iload hx hb dX4_push_158 (lv_at hl 0 rfl) ?_
            refine bm_xcallV (As := [.int (nI zA), .int (bm_b true), .int (bm_b true)]) (rest := []) ⟨hx, hb, hml, hown, hts⟩ (x_clear (p0 := (g_155, g_156, p0.2.2.1, p0.2.2.2)) (za := zA) (zx := true) (zu := true) ok_pa_n ok_pa_side ok_p0_turn ok_pa_lowest (by omega)) (cwV 3 hts gvX4_173 rfl rfl rfl hvX4_clearTheWay ⟨Nat.le_of_ble_eq_true rfl, Nat.le_of_ble_eq_true rfl⟩) hK hP hD hS hA 0 4 rfl ww_0 rfl hl.1 rfl (Nat.le_of_ble_eq_true rfl) dX4_push_160 ⟨Nat.le_of_ble_eq_true rfl, Nat.le_of_ble_eq_true rfl⟩ (fun ws_157 r_158 h_159 H locs hP hD hS => ?_)
            obtain ⟨g_160, g_161, rfl, v_162, rfl⟩ := h_159
            have hP : va_P D vwCl (WW ad cJ cI cZ bm pa (g_160, g_161, p0.2.2.1, p0.2.2.2) pl_7 p2 li wi mt ms ma mp mk mn ou) H := hP
            have hD : va_D A (WW ad cJ cI cZ bm pa (g_160, g_161, p0.2.2.1, p0.2.2.2) pl_7 p2 li wi mt ms ma mp mk mn ou) := hD
            refine bm_zb_eq (x := v_162) (tgt := 176) hx hb dX4_push_163 (by decide) (fun c_163 => ?_) (fun c_163 => ?_)
            · refine lv_aload_n hx hb dX4_push_176 rfl (lv_at hl 4 rfl) ?_
              refine bm_xcallV (As := []) (rest := []) ⟨hx, hb, hml, hown, hts⟩ (x_backI (p0 := (g_160, g_161, p0.2.2.1, p0.2.2.2))  ok_pa_n ok_pa_side ok_pa_lowest ok_p0_turn okq_9 ) (cwV 0 hts gvX4_177 rfl rfl rfl hvX4_takeBack ⟨Nat.le_of_ble_eq_true rfl, Nat.le_of_ble_eq_true rfl⟩) hK hP hD hS hA 0 4 rfl ww_0 rfl hl.1 rfl (Nat.le_of_ble_eq_true rfl) dX4_push_177 ⟨Nat.le_of_ble_eq_true rfl, Nat.le_of_ble_eq_true rfl⟩ (fun ws_164 r_165 h_166 H locs hP hD hS => ?_)
              obtain ⟨g_167, g_168, g_169, g_171, ok_170, hf_172, rfl, v_173, rfl⟩ := h_166
              have hP : va_P D vwCl (WW ad cJ cI cZ bm pa (g_167, g_168, g_169, g_171) pl_7 p2 li wi mt ms ma mp mk mn ou) H := hP
              have hD : va_D A (WW ad cJ cI cZ bm pa (g_167, g_168, g_169, g_171) pl_7 p2 li wi mt ms ma mp mk mn ou) := hD
              refine lv_istore (lv' := [(12, .int (bm_b v_173)), (11, .int (bm_b true)), (10, .int (bm_b true)), (8, .long t_15), (6, .long t_13), (0, .ref (ad 0)), (1, .int (nI zA)), (2, .long zB), (4, .long zC)]) hx hb dX4_push_180 hl (by decide) rfl (fun ls hl => ?_)
              refine lv_iload hx hb dX4_push_182 (lv_at hl 0 rfl) ?_
              refine bm_zb_eq (x := v_173) (tgt := 195) hx hb dX4_push_184 (by decide) (fun c_174 => ?_) (fun c_174 => ?_)
              · refine lv_iconst (v := -1) hx hb dX4_push_195 (by decide) ?_
                exact bm_iretX (v := (-1)) hx hb hr hP hD hK hS ⟨bm, pa, (g_167, g_168, g_169, g_171), pl_7, p2, li, wi, ou, ⟨ok_pa_n, ok_pa_side, ok_pa_lowest, ok_170, okq_9, ok_p2_turn, ok_li_one, ok_li_other, ok_li_keepOuts, ok_li_nears, ok_wi_netOf, ok_wi_partOf, ok_wi_nets, ok_wi_pins, hw, hh, (INV_to (INV_ag hW_11 hI.2.1 (fun i hi => (hf_172.2 i hi).trans (hI.2.2 i hi)) hf_172.1) rfl rfl rfl rfl rfl rfl rfl)⟩, rfl, rfl, (-1), rfl⟩ dX4_push_196 hlocks
              · refine lv_aload_n hx hb dX4_push_187 rfl (lv_at hl 5 rfl) ?_
                refine lv_iload_n hx hb dX4_push_188 rfl (lv_at hl 6 rfl) ?_
                refine bm_rcallV (As := [.int (nI zA)]) (rest := []) ⟨hx, hb, hml, hown, hts⟩ (r_changed (p0 := (g_167, g_168, g_169, g_171)) (x := (nI zA)) ⟨ok_pa_n, ok_pa_side, ok_pa_lowest⟩ ok_170 okq_9) (cwV 1 hts gvX4_181 rfl rfl rfl hvX4_countChanged ⟨Nat.le_of_ble_eq_true rfl, Nat.le_of_ble_eq_true rfl⟩) hK hP 0 4 rfl ww_0 rfl hl.1 rfl (Nat.le_of_ble_eq_true rfl) dX4_push_189 ⟨Nat.le_of_ble_eq_true rfl, Nat.le_of_ble_eq_true rfl⟩ ?_
                have hct_175 := q_count_le (q_changed (g_167, g_168, g_169, g_171) pl_7 (nI zA)) pa.2.2.2.2.2.2
                refine lv_goto (tgt := 196) hx hb dX4_push_192 (by decide) ?_
                exact bm_iretX (v := (nI (q_count (q_changed (g_167, g_168, g_169, g_171) pl_7 (nI zA)) pa.2.2.2.2.2.2))) hx hb hr hP hD hK hS ⟨bm, pa, (g_167, g_168, g_169, g_171), pl_7, p2, li, wi, ou, ⟨ok_pa_n, ok_pa_side, ok_pa_lowest, ok_170, okq_9, ok_p2_turn, ok_li_one, ok_li_other, ok_li_keepOuts, ok_li_nears, ok_wi_netOf, ok_wi_partOf, ok_wi_nets, ok_wi_pins, hw, hh, (INV_to (INV_ag hW_11 hI.2.1 (fun i hi => (hf_172.2 i hi).trans (hI.2.2 i hi)) hf_172.1) rfl rfl rfl rfl rfl rfl rfl)⟩, rfl, rfl, (nI (q_count (q_changed (g_167, g_168, g_169, g_171) pl_7 (nI zA)) pa.2.2.2.2.2.2)), rfl⟩ dX4_push_196 hlocks
            · refine lv_aload_n hx hb dX4_push_166 rfl (lv_at hl 4 rfl) ?_
              refine lv_ldc2 (v := 9223372036854775807) hx hb hown (hts (.constantLong RX4 127 9223372036854775807) (List.mem_cons_of_mem _ clX4_127)) dX4_push_167 ?_
              refine lv_topl (fun t_176 _ => ?_)
              refine bm_xcallV (As := [.long t_176]) (rest := []) ⟨hx, hb, hml, hown, hts⟩ (x_keepI (p0 := (g_160, g_161, p0.2.2.1, p0.2.2.2)) (z1 := t_176) ok_pa_n ok_pa_side ok_pa_lowest ok_p0_turn ok_li_keepOuts ok_li_nears ok_li_one ok_li_other okq_9 ok_wi_nets ok_wi_pins ok_wi_netOf ok_wi_partOf  hW_11 hI.2.1 hI.2.2) (cwV 1 hts gvX4_129 rfl rfl rfl hvX4_keepChange ⟨Nat.le_of_ble_eq_true rfl, Nat.le_of_ble_eq_true rfl⟩) hK hP hD hS hA 0 4 rfl ww_0 rfl hl.1 rfl (Nat.le_of_ble_eq_true rfl) dX4_push_170 ⟨Nat.le_of_ble_eq_true rfl, Nat.le_of_ble_eq_true rfl⟩ (fun ws_177 r_178 h_179 H locs hP hD hS => ?_)
              obtain ⟨g_180, g_181, g_182, g_184, g_185, g_186, g_187, g_188, g_189, g_190, ok_183, hf_191, rfl, v_192, rfl⟩ := h_179
              have hP : va_P D vwCl (WW ad cJ cI cZ (bm.1, bm.2.1, bm.2.2.1, g_190) pa (g_180, g_181, g_182, g_184) pl_7 p2 li (wi.1, wi.2.1, wi.2.2.1, wi.2.2.2.1, g_185, g_186, g_187, g_188, g_189, wi.2.2.2.2.2.2.2.2.2.1, wi.2.2.2.2.2.2.2.2.2.2) mt ms ma mp mk mn ou) H := hP
              have hD : va_D A (WW ad cJ cI cZ (bm.1, bm.2.1, bm.2.2.1, g_190) pa (g_180, g_181, g_182, g_184) pl_7 p2 li (wi.1, wi.2.1, wi.2.2.1, wi.2.2.2.1, g_185, g_186, g_187, g_188, g_189, wi.2.2.2.2.2.2.2.2.2.1, wi.2.2.2.2.2.2.2.2.2.2) mt ms ma mp mk mn ou) := hD
              refine lv_goto (tgt := 180) hx hb dX4_push_173 (by decide) ?_
              refine lv_istore (lv' := [(12, .int (bm_b v_192)), (11, .int (bm_b true)), (10, .int (bm_b true)), (8, .long t_15), (6, .long t_13), (0, .ref (ad 0)), (1, .int (nI zA)), (2, .long zB), (4, .long zC)]) hx hb dX4_push_180 hl (by decide) rfl (fun ls hl => ?_)
              refine lv_iload hx hb dX4_push_182 (lv_at hl 0 rfl) ?_
              refine bm_zb_eq (x := v_192) (tgt := 195) hx hb dX4_push_184 (by decide) (fun c_193 => ?_) (fun c_193 => ?_)
              · refine lv_iconst (v := -1) hx hb dX4_push_195 (by decide) ?_
                exact bm_iretX (v := (-1)) hx hb hr hP hD hK hS ⟨(bm.1, bm.2.1, bm.2.2.1, g_190), pa, (g_180, g_181, g_182, g_184), pl_7, p2, li, (wi.1, wi.2.1, wi.2.2.1, wi.2.2.2.1, g_185, g_186, g_187, g_188, g_189, wi.2.2.2.2.2.2.2.2.2.1, wi.2.2.2.2.2.2.2.2.2.2), ou, ⟨ok_pa_n, ok_pa_side, ok_pa_lowest, ok_183, okq_9, ok_p2_turn, ok_li_one, ok_li_other, ok_li_keepOuts, ok_li_nears, ok_wi_netOf, ok_wi_partOf, ok_wi_nets, ok_wi_pins, hw, hh, (INV_to hf_191 rfl rfl rfl rfl rfl rfl rfl)⟩, rfl, rfl, (-1), rfl⟩ dX4_push_196 hlocks
              · refine lv_aload_n hx hb dX4_push_187 rfl (lv_at hl 5 rfl) ?_
                refine lv_iload_n hx hb dX4_push_188 rfl (lv_at hl 6 rfl) ?_
                refine bm_rcallV (As := [.int (nI zA)]) (rest := []) ⟨hx, hb, hml, hown, hts⟩ (r_changed (bm := (bm.1, bm.2.1, bm.2.2.1, g_190)) (p0 := (g_180, g_181, g_182, g_184)) (wi := (wi.1, wi.2.1, wi.2.2.1, wi.2.2.2.1, g_185, g_186, g_187, g_188, g_189, wi.2.2.2.2.2.2.2.2.2.1, wi.2.2.2.2.2.2.2.2.2.2)) (x := (nI zA)) ⟨ok_pa_n, ok_pa_side, ok_pa_lowest⟩ ok_183 okq_9) (cwV 1 hts gvX4_181 rfl rfl rfl hvX4_countChanged ⟨Nat.le_of_ble_eq_true rfl, Nat.le_of_ble_eq_true rfl⟩) hK hP 0 4 rfl ww_0 rfl hl.1 rfl (Nat.le_of_ble_eq_true rfl) dX4_push_189 ⟨Nat.le_of_ble_eq_true rfl, Nat.le_of_ble_eq_true rfl⟩ ?_
                have hct_194 := q_count_le (q_changed (g_180, g_181, g_182, g_184) pl_7 (nI zA)) pa.2.2.2.2.2.2
                refine lv_goto (tgt := 196) hx hb dX4_push_192 (by decide) ?_
                exact bm_iretX (v := (nI (q_count (q_changed (g_180, g_181, g_182, g_184) pl_7 (nI zA)) pa.2.2.2.2.2.2))) hx hb hr hP hD hK hS ⟨(bm.1, bm.2.1, bm.2.2.1, g_190), pa, (g_180, g_181, g_182, g_184), pl_7, p2, li, (wi.1, wi.2.1, wi.2.2.1, wi.2.2.2.1, g_185, g_186, g_187, g_188, g_189, wi.2.2.2.2.2.2.2.2.2.1, wi.2.2.2.2.2.2.2.2.2.2), ou, ⟨ok_pa_n, ok_pa_side, ok_pa_lowest, ok_183, okq_9, ok_p2_turn, ok_li_one, ok_li_other, ok_li_keepOuts, ok_li_nears, ok_wi_netOf, ok_wi_partOf, ok_wi_nets, ok_wi_pins, hw, hh, (INV_to hf_191 rfl rfl rfl rfl rfl rfl rfl)⟩, rfl, rfl, (nI (q_count (q_changed (g_180, g_181, g_182, g_184) pl_7 (nI zA)) pa.2.2.2.2.2.2)), rfl⟩ dX4_push_196 hlocks
    · refine lv_iconst (v := -1) hx hb dX4_push_47 (by decide) ?_
      exact bm_iretX (v := (-1)) hx hb hr hP hD hK hS ⟨bm, pa, p0, p1, p2, li, wi, ou, ⟨ok_pa_n, ok_pa_side, ok_pa_lowest, ok_p0_turn, ok_p1_turn, ok_p2_turn, ok_li_one, ok_li_other, ok_li_keepOuts, ok_li_nears, ok_wi_netOf, ok_wi_partOf, ok_wi_nets, ok_wi_pins, hw, hh, (INV_to hI rfl rfl rfl rfl rfl rfl rfl)⟩, rfl, rfl, (-1), rfl⟩ dX4_push_48 hlocks
  · exact absurd (hq.symm.trans c_1) (by decide)
