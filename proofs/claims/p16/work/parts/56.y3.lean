set_option maxHeartbeats 8000000 in
set_option maxRecDepth 100000 in
theorem x_stepI {l : Launch} {D : va_G} {ad : Nat → Nat} {cJ cI cZ : ClassId} {bm : gBM} {pa : gPA} {p0 p1 p2 : gPL} {li : gLI} {wi : gWI} {mt : Nat} {ms : gMS} {ma : gMA} {mp : gMP} {mk : gMK} {mn : gMN} {ou : Nat → Int64} {z1 : Int64} (ok_pa_n : pa.2.2.2.2.2.2 ≤ 40) (ok_pa_side : ∀ i, pa.2.2.1 i < 40) (ok_pa_lowest : ∀ i, pa.2.2.2.2.2.1 i < 40) (ok_p0_turn : ∀ i, p0.2.2.1 i < 40) (ok_li_keepOuts : li.2.2.2.2.2.2.2.2.1 ≤ 10) (ok_li_nears : li.2.2.2.2.2.2.2.2.2 ≤ 20) (ok_li_one : ∀ i, li.2.2.2.2.2.1 i < 40) (ok_li_other : ∀ i, li.2.2.2.2.2.2.1 i < 40) (ok_p1_turn : ∀ i, p1.2.2.1 i < 40) (ok_wi_nets : wi.2.2.2.2.2.2.2.2.2.1 ≤ 40) (ok_wi_pins : wi.2.2.2.2.2.2.2.2.2.2 ≤ 120) (ok_wi_netOf : ∀ i, wi.1 i < 40) (ok_wi_partOf : ∀ i, wi.2.1 i < 40)  (hw : bm.1 ≠ 0) (hh : bm.2.1 ≠ 0) (hI : INV bm pa p0 li) : bm_Wx l yX4_step wsX4_step ({ frames := 5, cells := 0, slots := 0, locals := 122 }) D vwCl [(cJ, .long), (cI, .int), (cZ, .boolean)] (WW ad cJ cI cZ bm pa p0 p1 p2 li wi mt ms ma mp mk mn ou) [.ref (ad 0), .long z1] (fun ws9 r9 => ∃ (e0 : Nat → Int64) (e1 : Nat → Int64) (e2 : Nat → Nat) (e3 : Nat → Bool) (e4 : Nat → Int64) (e5 : Nat → Int64) (e6 : Nat → Nat) (e7 : Nat → Bool) (e8 : Nat → Bool) (e9 : Nat → Int64) (e10 : Nat → Int64) (e11 : Nat → Int64) (e12 : Nat → Int64) (e13 : Int64) (e14 : Int64) , (∀ i, e2 i < 40) ∧ (∀ i, e6 i < 40) ∧ (INV bm pa (e0, e1, e2, e3) li) ∧ ws9 = (WW ad cJ cI cZ (bm.1, bm.2.1, e14, e13) pa (e0, e1, e2, e3) (e4, e5, e6, e7) p2 li (wi.1, wi.2.1, wi.2.2.1, wi.2.2.2.1, e8, e9, e10, e11, e12, wi.2.2.2.2.2.2.2.2.2.1, wi.2.2.2.2.2.2.2.2.2.2) mt ms ma mp mk mn ou) ∧ ∃ b9 : Bool, r9 = some (.int (bm_b b9))) := by
  intro sz
  refine Met.ofW (cc := cX4_step) (maxL := 13) (ret := (some .boolean)) (by decide) rfl ?_
  intro p e s m args below meth c s₁ B hml hv
  obtain ⟨ha, hsz, hP, hK, hD0⟩ := hv
  have hx := B.exec
  have hb := B.bytes
  have hr := B.returns
  have hts := atoms_spec (ws := wsX4_step) B.pre
  have hown : s.vm.findClass RX4 = some m.cls := findClass_of_methodNamed B.named
  have hlocks := B.notSynchronized
  subst hsz
  have hD := hD0.self (sz := s.heap.size)
  generalize hAe : va_A (WW ad cJ cI cZ bm pa p0 p1 p2 li wi mt ms ma mp mk mn ou) s.heap.size = A at hD ⊢
  have hA : ∀ q : Nat, s.heap.size ≤ q → A q := fun q h => by rw [← hAe]; exact Or.inr h
  have hS : va_S A s.heap s.heap [] := va_S.rf
  have hl := lv_entry ([.ref (ad 0), .long z1]) (n := 13) (Nat.le_of_ble_eq_true rfl)
  refine W.eq (g2 := entryFrame m ([.ref (ad 0), .long z1] : List Value).toArray 13) (by rw [ha]) ?_
  rw [lg_entry_eq]
  generalize (lg_sl ([.ref (ad 0), .long z1]) ++ List.replicate (13 - (lg_sl ([.ref (ad 0), .long z1])).length) Slot.unset).toArray = ls at hl ⊢
  have hl : lv_has ls 13 [(0, .ref (ad 0)), (1, .long z1)] := hl
  refine lv_aload_n hx hb dX4_step_0 rfl (lv_at hl 0 rfl) ?_
  refine bm_xcallV (As := []) (rest := []) ⟨hx, hb, hml, hown, hts⟩ (x_draw    ) (cwV 0 hts gvX4_272 rfl rfl rfl hvX4_draw ⟨Nat.le_of_ble_eq_true rfl, Nat.le_of_ble_eq_true rfl⟩) hK hP hD hS hA 0 4 rfl ww_0 rfl hl.1 rfl (Nat.le_of_ble_eq_true rfl) dX4_step_1 ⟨Nat.le_of_ble_eq_true rfl, Nat.le_of_ble_eq_true rfl⟩ (fun ws_1 r_2 h_3 H locs hP hD hS => ?_)
  obtain ⟨g_4, rfl, z_5, hz_6, rfl⟩ := h_3
  have hP : va_P D vwCl (WW ad cJ cI cZ (bm.1, bm.2.1, g_4, bm.2.2.2) pa p0 p1 p2 li wi mt ms ma mp mk mn ou) H := hP
  have hD : va_D A (WW ad cJ cI cZ (bm.1, bm.2.1, g_4, bm.2.2.2) pa p0 p1 p2 li wi mt ms ma mp mk mn ou) := hD
  refine lv_lstore_n (lv' := [(3, .long (lN z_5)), (0, .ref (ad 0)), (1, .long z1)]) hx hb dX4_step_4 rfl hl (by decide) rfl (fun ls hl => ?_)
  refine lv_aload_n hx hb dX4_step_5 rfl (lv_at hl 1 rfl) ?_
  refine bm_xcallV (As := []) (rest := []) ⟨hx, hb, hml, hown, hts⟩ (x_draw (bm := (bm.1, bm.2.1, g_4, bm.2.2.2))   ) (cwV 0 hts gvX4_272 rfl rfl rfl hvX4_draw ⟨Nat.le_of_ble_eq_true rfl, Nat.le_of_ble_eq_true rfl⟩) hK hP hD hS hA 0 4 rfl ww_0 rfl hl.1 rfl (Nat.le_of_ble_eq_true rfl) dX4_step_6 ⟨Nat.le_of_ble_eq_true rfl, Nat.le_of_ble_eq_true rfl⟩ (fun ws_7 r_8 h_9 H locs hP hD hS => ?_)
  obtain ⟨g_10, rfl, z_11, hz_12, rfl⟩ := h_9
  have hP : va_P D vwCl (WW ad cJ cI cZ (bm.1, bm.2.1, g_10, bm.2.2.2) pa p0 p1 p2 li wi mt ms ma mp mk mn ou) H := hP
  have hD : va_D A (WW ad cJ cI cZ (bm.1, bm.2.1, g_10, bm.2.2.2) pa p0 p1 p2 li wi mt ms ma mp mk mn ou) := hD
  refine lv_lstore (lv' := [(5, .long (lN z_11)), (3, .long (lN z_5)), (0, .ref (ad 0)), (1, .long z1)]) hx hb dX4_step_9 hl (by decide) rfl (fun ls hl => ?_)
  refine lv_aload_n hx hb dX4_step_11 rfl (lv_at hl 2 rfl) ?_
  refine bm_xcallV (As := []) (rest := []) ⟨hx, hb, hml, hown, hts⟩ (x_draw (bm := (bm.1, bm.2.1, g_10, bm.2.2.2))   ) (cwV 0 hts gvX4_272 rfl rfl rfl hvX4_draw ⟨Nat.le_of_ble_eq_true rfl, Nat.le_of_ble_eq_true rfl⟩) hK hP hD hS hA 0 4 rfl ww_0 rfl hl.1 rfl (Nat.le_of_ble_eq_true rfl) dX4_step_12 ⟨Nat.le_of_ble_eq_true rfl, Nat.le_of_ble_eq_true rfl⟩ (fun ws_13 r_14 h_15 H locs hP hD hS => ?_)
  obtain ⟨g_16, rfl, z_17, hz_18, rfl⟩ := h_15
  have hP : va_P D vwCl (WW ad cJ cI cZ (bm.1, bm.2.1, g_16, bm.2.2.2) pa p0 p1 p2 li wi mt ms ma mp mk mn ou) H := hP
  have hD : va_D A (WW ad cJ cI cZ (bm.1, bm.2.1, g_16, bm.2.2.2) pa p0 p1 p2 li wi mt ms ma mp mk mn ou) := hD
  refine lv_lstore (lv' := [(7, .long (lN z_17)), (5, .long (lN z_11)), (3, .long (lN z_5)), (0, .ref (ad 0)), (1, .long z1)]) hx hb dX4_step_15 hl (by decide) rfl (fun ls hl => ?_)
  refine lv_aload_n hx hb dX4_step_17 rfl (lv_at hl 3 rfl) ?_
  refine bm_xcallV (As := []) (rest := []) ⟨hx, hb, hml, hown, hts⟩ (x_draw (bm := (bm.1, bm.2.1, g_16, bm.2.2.2))   ) (cwV 0 hts gvX4_272 rfl rfl rfl hvX4_draw ⟨Nat.le_of_ble_eq_true rfl, Nat.le_of_ble_eq_true rfl⟩) hK hP hD hS hA 0 4 rfl ww_0 rfl hl.1 rfl (Nat.le_of_ble_eq_true rfl) dX4_step_18 ⟨Nat.le_of_ble_eq_true rfl, Nat.le_of_ble_eq_true rfl⟩ (fun ws_19 r_20 h_21 H locs hP hD hS => ?_)
  obtain ⟨g_22, rfl, z_23, hz_24, rfl⟩ := h_21
  have hP : va_P D vwCl (WW ad cJ cI cZ (bm.1, bm.2.1, g_22, bm.2.2.2) pa p0 p1 p2 li wi mt ms ma mp mk mn ou) H := hP
  have hD : va_D A (WW ad cJ cI cZ (bm.1, bm.2.1, g_22, bm.2.2.2) pa p0 p1 p2 li wi mt ms ma mp mk mn ou) := hD
  refine lv_lstore (lv' := [(9, .long (lN z_23)), (7, .long (lN z_17)), (5, .long (lN z_11)), (3, .long (lN z_5)), (0, .ref (ad 0)), (1, .long z1)]) hx hb dX4_step_21 hl (by decide) rfl (fun ls hl => ?_)
  refine lv_aload_n hx hb dX4_step_23 rfl (lv_at hl 4 rfl) ?_
  refine va_get (D := D) (ci := 4) (v := .ref (ad 1)) (C := RX4) (T := TX4) (N := 10) hx hb hts (inT inX4) hown hK hP 0 ww_0 rfl 2 (by decide) (hts (.fieldLink RX4 12 "BoardMoves" "parts" "LBoardMoves$Parts;") (List.mem_cons_of_mem _ flX4_12)) (fun _ h9 => h9) rfl dX4_step_24 ?_
  refine va_get (D := D) (ci := 1) (v := .int (nI pa.2.2.2.2.2.2)) (C := RX1) (T := TX1) (N := 7) hx hb hts (inT inX1) hown hK hP 1 ww_1 rfl 6 (by decide) (hts (.fieldLink RX4 197 "BoardMoves$Parts" "count" "I") (List.mem_cons_of_mem _ flX4_197)) (fun _ h9 => h9) rfl dX4_step_27 ?_
  refine lv_istore (lv' := [(11, .int (nI pa.2.2.2.2.2.2)), (9, .long (lN z_23)), (7, .long (lN z_17)), (5, .long (lN z_11)), (3, .long (lN z_5)), (0, .ref (ad 0)), (1, .long z1)]) hx hb dX4_step_30 hl (by decide) rfl (fun ls hl => ?_)
  refine lv_iload hx hb dX4_step_32 (lv_at hl 0 rfl) ?_
  refine bm_nz_ne (x := pa.2.2.2.2.2.2) (tgt := 39) hx hb (by omega) dX4_step_34 (by decide) (fun c_25 => ?_) (fun c_25 => ?_)
  · refine lv_lload_n hx hb dX4_step_39 rfl (lv_at hl 4 rfl) ?_
    refine lv_iload hx hb dX4_step_40 (lv_at hl 0 rfl) ?_
    refine bm_i2lN (x := pa.2.2.2.2.2.2) hx hb (by omega) dX4_step_42 ?_
    refine bm_lrN (x := z_5) (y := pa.2.2.2.2.2.2) hx hb (by omega) (by omega) (by omega) dX4_step_43 ?_
    refine bm_l2iN (x := z_5 % pa.2.2.2.2.2.2) hx hb dX4_step_44 ?_
    refine lv_istore (lv' := [(12, .int (nI (z_5 % pa.2.2.2.2.2.2))), (11, .int (nI pa.2.2.2.2.2.2)), (9, .long (lN z_23)), (7, .long (lN z_17)), (5, .long (lN z_11)), (3, .long (lN z_5)), (0, .ref (ad 0)), (1, .long z1)]) hx hb dX4_step_45 hl (by decide) rfl (fun ls hl => ?_)
    refine lv_aload_n hx hb dX4_step_47 rfl (lv_at hl 6 rfl) ?_
    refine va_get (D := D) (ci := 4) (v := .ref (ad 8)) (C := RX4) (T := TX4) (N := 10) hx hb hts (inT inX4) hown hK hP 0 ww_0 rfl 5 (by decide) (hts (.fieldLink RX4 37 "BoardMoves" "now" "LBoardMoves$Placement;") (List.mem_cons_of_mem _ flX4_37)) (fun _ h9 => h9) rfl dX4_step_48 ?_
    refine va_get (D := D) (ci := 2) (v := .ref (ad 12)) (C := RX2) (T := TX2) (N := 5) hx hb hts (inT inX2) hown hK hP 8 ww_8 rfl 4 (by decide) (hts (.fieldLink RX4 96 "BoardMoves$Placement" "placed" "[Z") (List.mem_cons_of_mem _ flX4_96)) (fun _ h9 => h9) rfl dX4_step_51 ?_
    refine lv_iload hx hb dX4_step_54 (lv_at hl 0 rfl) ?_
    refine bm_zald (f := p0.2.2.2) hx hb hK hP 12 2 ww_12 rfl (j := (z_5 % pa.2.2.2.2.2.2)) (Nat.lt_of_lt_of_le (Nat.mod_lt _ (by omega)) ok_pa_n) (by decide) dX4_step_56 ?_
    refine bm_zb_eq (x := (p0.2.2.2 (z_5 % pa.2.2.2.2.2.2))) (tgt := 73) hx hb dX4_step_57 (by decide) (fun c_26 => ?_) (fun c_26 => ?_)
    · refine lv_iconst (v := bm_b false) hx hb dX4_step_73 (by decide) ?_
      exact bm_zretX (v := false) hx hb hr hP hD hK hS ⟨p0.1, p0.2.1, p0.2.2.1, p0.2.2.2, p1.1, p1.2.1, p1.2.2.1, p1.2.2.2, wi.2.2.2.2.1, wi.2.2.2.2.2.1, wi.2.2.2.2.2.2.1, wi.2.2.2.2.2.2.2.1, wi.2.2.2.2.2.2.2.2.1, bm.2.2.2, g_22, ok_p0_turn, ok_p1_turn, hI, rfl, false, rfl⟩ dX4_step_74 hlocks
    · refine lv_aload_n hx hb dX4_step_60 rfl (lv_at hl 6 rfl) ?_
      refine va_get (D := D) (ci := 4) (v := .ref (ad 1)) (C := RX4) (T := TX4) (N := 10) hx hb hts (inT inX4) hown hK hP 0 ww_0 rfl 2 (by decide) (hts (.fieldLink RX4 12 "BoardMoves" "parts" "LBoardMoves$Parts;") (List.mem_cons_of_mem _ flX4_12)) (fun _ h9 => h9) rfl dX4_step_61 ?_
      refine va_get (D := D) (ci := 1) (v := .ref (ad 6)) (C := RX1) (T := TX1) (N := 7) hx hb hts (inT inX1) hown hK hP 1 ww_1 rfl 4 (by decide) (hts (.fieldLink RX4 132 "BoardMoves$Parts" "locked" "[Z") (List.mem_cons_of_mem _ flX4_132)) (fun _ h9 => h9) rfl dX4_step_64 ?_
      refine lv_iload hx hb dX4_step_67 (lv_at hl 0 rfl) ?_
      refine bm_zald (f := pa.2.2.2.2.1) hx hb hK hP 6 2 ww_6 rfl (j := (z_5 % pa.2.2.2.2.2.2)) (Nat.lt_of_lt_of_le (Nat.mod_lt _ (by omega)) ok_pa_n) (by decide) dX4_step_69 ?_
      refine bm_zb_eq (x := (pa.2.2.2.2.1 (z_5 % pa.2.2.2.2.2.2))) (tgt := 75) hx hb dX4_step_70 (by decide) (fun c_27 => ?_) (fun c_27 => ?_)
      · refine lv_aload_n hx hb dX4_step_75 rfl (lv_at hl 6 rfl) ?_
        refine va_get (D := D) (ci := 4) (v := .ref (ad 13)) (C := RX4) (T := TX4) (N := 10) hx hb hts (inT inX4) hown hK hP 0 ww_0 rfl 6 (by decide) (hts (.fieldLink RX4 41 "BoardMoves" "before" "LBoardMoves$Placement;") (List.mem_cons_of_mem _ flX4_41)) (fun _ h9 => h9) rfl dX4_step_76 ?_
        refine lv_aload_n hx hb dX4_step_79 rfl (lv_at hl 6 rfl) ?_
        refine va_get (D := D) (ci := 4) (v := .ref (ad 8)) (C := RX4) (T := TX4) (N := 10) hx hb hts (inT inX4) hown hK hP 0 ww_0 rfl 5 (by decide) (hts (.fieldLink RX4 37 "BoardMoves" "now" "LBoardMoves$Placement;") (List.mem_cons_of_mem _ flX4_37)) (fun _ h9 => h9) rfl dX4_step_80 ?_
        refine bm_wcallV (As := [.ref (ad 8)]) (rest := []) ⟨hx, hb, hml, hown, hts⟩ (w_copyp1p0 (bm := (bm.1, bm.2.1, g_22, bm.2.2.2)) ⟨ok_pa_n, ok_pa_side, ok_pa_lowest⟩) (cwV 1 hts gvX4_108 rfl rfl rfl hvX2_copyFrom ⟨Nat.le_of_ble_eq_true rfl, Nat.le_of_ble_eq_true rfl⟩) hK hP hD hS hA 13 2 rfl ww_13 rfl hl.1 rfl (Nat.le_of_ble_eq_true rfl) dX4_step_83 ⟨Nat.le_of_ble_eq_true rfl, Nat.le_of_ble_eq_true rfl⟩ (fun H locs hP hD hS => ?_)
        have hP : va_P D vwCl (WW ad cJ cI cZ (bm.1, bm.2.1, g_22, bm.2.2.2) pa p0 (q_copyU p0 p1 pa.2.2.2.2.2.2) p2 li wi mt ms ma mp mk mn ou) H := hP
        have hD : va_D A (WW ad cJ cI cZ (bm.1, bm.2.1, g_22, bm.2.2.2) pa p0 (q_copyU p0 p1 pa.2.2.2.2.2.2) p2 li wi mt ms ma mp mk mn ou) := hD
        obtain ⟨pl_28, hpl_29⟩ : ∃ q9, q9 = q_copyU p0 p1 pa.2.2.2.2.2.2 := ⟨_, rfl⟩
        rw [← hpl_29] at hP hD
        have okq_30 : ∀ i, pl_28.2.2.1 i < 40 := by rw [hpl_29]; exact q_okL_copy (f := p0) (t := p1) ok_p0_turn ok_p1_turn
        have hag_31 : AG pa.2.2.2.2.2.2 pl_28 p0 := by rw [hpl_29]; exact ag_copy _ _ _
        have hP : va_P D vwCl (WW ad cJ cI cZ (bm.1, bm.2.1, g_22, bm.2.2.2) pa p0 pl_28 p2 li wi mt ms ma mp mk mn ou) H := hP
        have hD : va_D A (WW ad cJ cI cZ (bm.1, bm.2.1, g_22, bm.2.2.2) pa p0 pl_28 p2 li wi mt ms ma mp mk mn ou) := hD
        have hW_32 : ∀ j, j < pa.2.2.2.2.2.2 → q_well bm pa pl_28 li j = true := fun j hj => ag_well hag_31 hI.2.1 hj (hI.1 j hj)
        refine lv_lload hx hb dX4_step_86 (lv_at hl 4 rfl) ?_
        refine lv_ldc2 (v := 4) hx hb hown (hts (.constantLong RX4 276 4) (List.mem_cons_of_mem _ clX4_276)) dX4_step_88 ?_
        refine bm_lrN (x := z_11) (y := 4) hx hb (by omega) (by omega) (by omega) dX4_step_91 ?_
        refine lv_lconst (v := 0) hx hb dX4_step_92 (by decide) ?_
        refine bm_lc_ne (x := (lN (z_11 % 4))) (y := 0) (tgt := 113) hx hb dX4_step_93 dX4_step_94 (by decide) (fun c_33 => ?_) (fun c_33 => ?_)
        · refine lv_lload hx hb dX4_step_113 (lv_at hl 4 rfl) ?_
          refine lv_ldc2 (v := 4) hx hb hown (hts (.constantLong RX4 276 4) (List.mem_cons_of_mem _ clX4_276)) dX4_step_115 ?_
          refine bm_lrN (x := z_11) (y := 4) hx hb (by omega) (by omega) (by omega) dX4_step_118 ?_
          refine lv_lconst (v := 1) hx hb dX4_step_119 (by decide) ?_
          refine bm_lc_ne (x := (lN (z_11 % 4))) (y := 1) (tgt := 142) hx hb dX4_step_120 dX4_step_121 (by decide) (fun c_34 => ?_) (fun c_34 => ?_)
          · refine lv_aload_n hx hb dX4_step_142 rfl (lv_at hl 6 rfl) ?_
            refine va_get (D := D) (ci := 4) (v := .ref (ad 8)) (C := RX4) (T := TX4) (N := 10) hx hb hts (inT inX4) hown hK hP 0 ww_0 rfl 5 (by decide) (hts (.fieldLink RX4 37 "BoardMoves" "now" "LBoardMoves$Placement;") (List.mem_cons_of_mem _ flX4_37)) (fun _ h9 => h9) rfl dX4_step_143 ?_
            refine lv_iload hx hb dX4_step_146 (lv_at hl 0 rfl) ?_
            refine lv_lload hx hb dX4_step_148 (lv_at hl 3 rfl) ?_
            refine lv_aload_n hx hb dX4_step_150 rfl (lv_at hl 6 rfl) ?_
            refine va_get (D := D) (ci := 4) (v := .long bm.1) (C := RX4) (T := TX4) (N := 10) hx hb hts (inT inX4) hown hK hP 0 ww_0 rfl 0 (by decide) (hts (.fieldLink RX4 62 "BoardMoves" "boardWide" "J") (List.mem_cons_of_mem _ flX4_62)) (fun _ h9 => h9) rfl dX4_step_151 ?_
            refine lv_lrem hx hb dX4_step_154 hw ?_
            refine lv_topl (fun t_35 _ => ?_)
            refine lv_aload_n hx hb dX4_step_155 rfl (lv_at hl 6 rfl) ?_
            refine va_get (D := D) (ci := 4) (v := .ref (ad 8)) (C := RX4) (T := TX4) (N := 10) hx hb hts (inT inX4) hown hK hP 0 ww_0 rfl 5 (by decide) (hts (.fieldLink RX4 37 "BoardMoves" "now" "LBoardMoves$Placement;") (List.mem_cons_of_mem _ flX4_37)) (fun _ h9 => h9) rfl dX4_step_156 ?_
            refine va_get (D := D) (ci := 2) (v := .ref (ad 9)) (C := RX2) (T := TX2) (N := 5) hx hb hts (inT inX2) hown hK hP 8 ww_8 rfl 1 (by decide) (hts (.fieldLink RX4 112 "BoardMoves$Placement" "x" "[J") (List.mem_cons_of_mem _ flX4_112)) (fun _ h9 => h9) rfl dX4_step_159 ?_
            refine lv_iload hx hb dX4_step_162 (lv_at hl 0 rfl) ?_
            refine bm_lald (f := p0.1) hx hb hK hP 9 0 ww_9 rfl (j := (z_5 % pa.2.2.2.2.2.2)) (Nat.lt_of_lt_of_le (Nat.mod_lt _ (by omega)) ok_pa_n) (by decide) dX4_step_164 ?_
            refine lv_topl (fun t_36 _ => ?_)
            refine lv_lsub hx hb dX4_step_165 ?_
            refine lv_topl (fun t_37 _ => ?_)
            refine lv_lload hx hb dX4_step_166 (lv_at hl 2 rfl) ?_
            refine lv_aload_n hx hb dX4_step_168 rfl (lv_at hl 6 rfl) ?_
            refine va_get (D := D) (ci := 4) (v := .long bm.2.1) (C := RX4) (T := TX4) (N := 10) hx hb hts (inT inX4) hown hK hP 0 ww_0 rfl 1 (by decide) (hts (.fieldLink RX4 65 "BoardMoves" "boardHigh" "J") (List.mem_cons_of_mem _ flX4_65)) (fun _ h9 => h9) rfl dX4_step_169 ?_
            refine lv_lrem hx hb dX4_step_172 hh ?_
            refine lv_topl (fun t_38 _ => ?_)
            refine lv_aload_n hx hb dX4_step_173 rfl (lv_at hl 6 rfl) ?_
            refine va_get (D := D) (ci := 4) (v := .ref (ad 8)) (C := RX4) (T := TX4) (N := 10) hx hb hts (inT inX4) hown hK hP 0 ww_0 rfl 5 (by decide) (hts (.fieldLink RX4 37 "BoardMoves" "now" "LBoardMoves$Placement;") (List.mem_cons_of_mem _ flX4_37)) (fun _ h9 => h9) rfl dX4_step_174 ?_
            refine va_get (D := D) (ci := 2) (v := .ref (ad 10)) (C := RX2) (T := TX2) (N := 5) hx hb hts (inT inX2) hown hK hP 8 ww_8 rfl 2 (by decide) (hts (.fieldLink RX4 116 "BoardMoves$Placement" "y" "[J") (List.mem_cons_of_mem _ flX4_116)) (fun _ h9 => h9) rfl dX4_step_177 ?_
            refine lv_iload hx hb dX4_step_180 (lv_at hl 0 rfl) ?_
            refine bm_lald (f := p0.2.1) hx hb hK hP 10 0 ww_10 rfl (j := (z_5 % pa.2.2.2.2.2.2)) (Nat.lt_of_lt_of_le (Nat.mod_lt _ (by omega)) ok_pa_n) (by decide) dX4_step_182 ?_
            refine lv_topl (fun t_39 _ => ?_)
            refine lv_lsub hx hb dX4_step_183 ?_
            refine lv_topl (fun t_40 _ => ?_)
            refine bm_xcallV (As := [.int (nI (z_5 % pa.2.2.2.2.2.2)), .long t_37, .long t_40]) (rest := []) ⟨hx, hb, hml, hown, hts⟩ (x_shift (bm := (bm.1, bm.2.1, g_22, bm.2.2.2)) (zj := z_5 % pa.2.2.2.2.2.2) (z1 := t_37) (z2 := t_40) ok_pa_n ok_pa_lowest (Nat.lt_of_lt_of_le (Nat.mod_lt _ (by omega)) ok_pa_n)) (cwV 3 hts gvX4_119 rfl rfl rfl hvX2_shiftGroup ⟨Nat.le_of_ble_eq_true rfl, Nat.le_of_ble_eq_true rfl⟩) hK hP hD hS hA 8 2 rfl ww_8 rfl hl.1 rfl (Nat.le_of_ble_eq_true rfl) dX4_step_184 ⟨Nat.le_of_ble_eq_true rfl, Nat.le_of_ble_eq_true rfl⟩ (fun ws_41 r_42 h_43 H locs hP hD hS => ?_)
            obtain ⟨g_44, g_45, rfl, rfl⟩ := h_43
            have hP : va_P D vwCl (WW ad cJ cI cZ (bm.1, bm.2.1, g_22, bm.2.2.2) pa (g_44, g_45, p0.2.2.1, p0.2.2.2) pl_28 p2 li wi mt ms ma mp mk mn ou) H := hP
            have hD : va_D A (WW ad cJ cI cZ (bm.1, bm.2.1, g_22, bm.2.2.2) pa (g_44, g_45, p0.2.2.1, p0.2.2.2) pl_28 p2 li wi mt ms ma mp mk mn ou) := hD
            refine lv_aload_n hx hb dX4_step_187 rfl (lv_at hl 6 rfl) ?_
            refine lv_iconst (v := -1) hx hb dX4_step_188 (by decide) ?_
            refine bm_rcallV (As := [.int (-1)]) (rest := []) ⟨hx, hb, hml, hown, hts⟩ (r_changed (bm := (bm.1, bm.2.1, g_22, bm.2.2.2)) (p0 := (g_44, g_45, p0.2.2.1, p0.2.2.2)) (x := (-1)) ⟨ok_pa_n, ok_pa_side, ok_pa_lowest⟩ ok_p0_turn okq_30) (cwV 1 hts gvX4_181 rfl rfl rfl hvX4_countChanged ⟨Nat.le_of_ble_eq_true rfl, Nat.le_of_ble_eq_true rfl⟩) hK hP 0 4 rfl ww_0 rfl hl.1 rfl (Nat.le_of_ble_eq_true rfl) dX4_step_189 ⟨Nat.le_of_ble_eq_true rfl, Nat.le_of_ble_eq_true rfl⟩ ?_
            have hct_46 := q_count_le (q_changed (g_44, g_45, p0.2.2.1, p0.2.2.2) pl_28 (-1)) pa.2.2.2.2.2.2
            refine bm_nz_le (x := (q_count (q_changed (g_44, g_45, p0.2.2.1, p0.2.2.2) pl_28 (-1)) pa.2.2.2.2.2.2)) (tgt := 207) hx hb (by omega) dX4_step_192 (by decide) (fun c_47 => ?_) (fun c_47 => ?_)
            · refine lv_iconst (v := bm_b false) hx hb dX4_step_207 (by decide) ?_
              exact bm_zretX (v := false) hx hb hr hP hD hK hS ⟨g_44, g_45, p0.2.2.1, p0.2.2.2, pl_28.1, pl_28.2.1, pl_28.2.2.1, pl_28.2.2.2, wi.2.2.2.2.1, wi.2.2.2.2.2.1, wi.2.2.2.2.2.2.1, wi.2.2.2.2.2.2.2.1, wi.2.2.2.2.2.2.2.2.1, bm.2.2.2, g_22, ok_p0_turn, okq_30, (INV_ag hW_32 hI.2.1 hI.2.2 (ag_changed ok_pa_n c_47)), rfl, false, rfl⟩ dX4_step_208 hlocks
            · refine lv_aload_n hx hb dX4_step_195 rfl (lv_at hl 6 rfl) ?_
              refine lv_lload_n hx hb dX4_step_196 rfl (lv_at hl 7 rfl) ?_
              refine bm_xcallV (As := [.long z1]) (rest := []) ⟨hx, hb, hml, hown, hts⟩ (x_keepI (bm := (bm.1, bm.2.1, g_22, bm.2.2.2)) (p0 := (g_44, g_45, p0.2.2.1, p0.2.2.2)) (z1 := z1) ok_pa_n ok_pa_side ok_pa_lowest ok_p0_turn ok_li_keepOuts ok_li_nears ok_li_one ok_li_other okq_30 ok_wi_nets ok_wi_pins ok_wi_netOf ok_wi_partOf  hW_32 hI.2.1 hI.2.2) (cwV 1 hts gvX4_129 rfl rfl rfl hvX4_keepChange ⟨Nat.le_of_ble_eq_true rfl, Nat.le_of_ble_eq_true rfl⟩) hK hP hD hS hA 0 4 rfl ww_0 rfl hl.1 rfl (Nat.le_of_ble_eq_true rfl) dX4_step_197 ⟨Nat.le_of_ble_eq_true rfl, Nat.le_of_ble_eq_true rfl⟩ (fun ws_48 r_49 h_50 H locs hP hD hS => ?_)
              obtain ⟨g_51, g_52, g_53, g_55, g_56, g_57, g_58, g_59, g_60, g_61, ok_54, hf_62, rfl, v_63, rfl⟩ := h_50
              have hP : va_P D vwCl (WW ad cJ cI cZ (bm.1, bm.2.1, g_22, g_61) pa (g_51, g_52, g_53, g_55) pl_28 p2 li (wi.1, wi.2.1, wi.2.2.1, wi.2.2.2.1, g_56, g_57, g_58, g_59, g_60, wi.2.2.2.2.2.2.2.2.2.1, wi.2.2.2.2.2.2.2.2.2.2) mt ms ma mp mk mn ou) H := hP
              have hD : va_D A (WW ad cJ cI cZ (bm.1, bm.2.1, g_22, g_61) pa (g_51, g_52, g_53, g_55) pl_28 p2 li (wi.1, wi.2.1, wi.2.2.1, wi.2.2.2.1, g_56, g_57, g_58, g_59, g_60, wi.2.2.2.2.2.2.2.2.2.1, wi.2.2.2.2.2.2.2.2.2.2) mt ms ma mp mk mn ou) := hD
              refine bm_zb_eq (x := v_63) (tgt := 207) hx hb dX4_step_200 (by decide) (fun c_64 => ?_) (fun c_64 => ?_)
              · refine lv_iconst (v := bm_b false) hx hb dX4_step_207 (by decide) ?_
                exact bm_zretX (v := false) hx hb hr hP hD hK hS ⟨g_51, g_52, g_53, g_55, pl_28.1, pl_28.2.1, pl_28.2.2.1, pl_28.2.2.2, g_56, g_57, g_58, g_59, g_60, g_61, g_22, ok_54, okq_30, (INV_to hf_62 rfl rfl rfl rfl rfl rfl rfl), rfl, false, rfl⟩ dX4_step_208 hlocks
              · refine lv_iconst (v := bm_b true) hx hb dX4_step_203 (by decide) ?_
                refine lv_goto (tgt := 208) hx hb dX4_step_204 (by decide) ?_
                exact bm_zretX (v := true) hx hb hr hP hD hK hS ⟨g_51, g_52, g_53, g_55, pl_28.1, pl_28.2.1, pl_28.2.2.1, pl_28.2.2.2, g_56, g_57, g_58, g_59, g_60, g_61, g_22, ok_54, okq_30, (INV_to hf_62 rfl rfl rfl rfl rfl rfl rfl), rfl, true, rfl⟩ dX4_step_208 hlocks
          · refine lv_aload_n hx hb dX4_step_124 rfl (lv_at hl 6 rfl) ?_
            refine lv_iload hx hb dX4_step_125 (lv_at hl 0 rfl) ?_
            refine lv_lload hx hb dX4_step_127 (lv_at hl 2 rfl) ?_
            refine lv_ldc2 (v := 3) hx hb hown (hts (.constantLong RX4 282 3) (List.mem_cons_of_mem _ clX4_282)) dX4_step_129 ?_
            refine bm_lrN (x := z_23) (y := 3) hx hb (by omega) (by omega) (by omega) dX4_step_132 ?_
            refine bm_l2iN (x := z_23 % 3) hx hb dX4_step_133 ?_
            refine lv_iconst (v := nI 1) hx hb dX4_step_134 (by decide) ?_
            refine bm_nadd hx hb dX4_step_135 ?_
            refine bm_xcallV (As := [.int (nI (z_5 % pa.2.2.2.2.2.2)), .int (nI ((z_23 % 3) + 1))]) (rest := []) ⟨hx, hb, hml, hown, hts⟩ (x_turnA (bm := (bm.1, bm.2.1, g_22, bm.2.2.2)) (za := z_5 % pa.2.2.2.2.2.2) (zq := (z_23 % 3) + 1) ok_pa_n ok_pa_lowest ok_p0_turn (Nat.lt_of_lt_of_le (Nat.mod_lt _ (by omega)) ok_pa_n) (by omega)) (cwV 2 hts gvX4_284 rfl rfl rfl hvX4_turnAlone ⟨Nat.le_of_ble_eq_true rfl, Nat.le_of_ble_eq_true rfl⟩) hK hP hD hS hA 0 4 rfl ww_0 rfl hl.1 rfl (Nat.le_of_ble_eq_true rfl) dX4_step_136 ⟨Nat.le_of_ble_eq_true rfl, Nat.le_of_ble_eq_true rfl⟩ (fun ws_65 r_66 h_67 H locs hP hD hS => ?_)
            obtain ⟨g_68, ok_69, rfl, rfl⟩ := h_67
            have hP : va_P D vwCl (WW ad cJ cI cZ (bm.1, bm.2.1, g_22, bm.2.2.2) pa (p0.1, p0.2.1, g_68, p0.2.2.2) pl_28 p2 li wi mt ms ma mp mk mn ou) H := hP
            have hD : va_D A (WW ad cJ cI cZ (bm.1, bm.2.1, g_22, bm.2.2.2) pa (p0.1, p0.2.1, g_68, p0.2.2.2) pl_28 p2 li wi mt ms ma mp mk mn ou) := hD
            refine lv_goto (tgt := 187) hx hb dX4_step_139 (by decide) ?_
            refine lv_aload_n hx hb dX4_step_187 rfl (lv_at hl 6 rfl) ?_
            refine lv_iconst (v := -1) hx hb dX4_step_188 (by decide) ?_
            refine bm_rcallV (As := [.int (-1)]) (rest := []) ⟨hx, hb, hml, hown, hts⟩ (r_changed (bm := (bm.1, bm.2.1, g_22, bm.2.2.2)) (p0 := (p0.1, p0.2.1, g_68, p0.2.2.2)) (x := (-1)) ⟨ok_pa_n, ok_pa_side, ok_pa_lowest⟩ ok_69 okq_30) (cwV 1 hts gvX4_181 rfl rfl rfl hvX4_countChanged ⟨Nat.le_of_ble_eq_true rfl, Nat.le_of_ble_eq_true rfl⟩) hK hP 0 4 rfl ww_0 rfl hl.1 rfl (Nat.le_of_ble_eq_true rfl) dX4_step_189 ⟨Nat.le_of_ble_eq_true rfl, Nat.le_of_ble_eq_true rfl⟩ ?_
            have hct_70 := q_count_le (q_changed (p0.1, p0.2.1, g_68, p0.2.2.2) pl_28 (-1)) pa.2.2.2.2.2.2
            refine bm_nz_le (x := (q_count (q_changed (p0.1, p0.2.1, g_68, p0.2.2.2) pl_28 (-1)) pa.2.2.2.2.2.2)) (tgt := 207) hx hb (by omega) dX4_step_192 (by decide) (fun c_71 => ?_) (fun c_71 => ?_)
            · refine lv_iconst (v := bm_b false) hx hb dX4_step_207 (by decide) ?_
              exact bm_zretX (v := false) hx hb hr hP hD hK hS ⟨p0.1, p0.2.1, g_68, p0.2.2.2, pl_28.1, pl_28.2.1, pl_28.2.2.1, pl_28.2.2.2, wi.2.2.2.2.1, wi.2.2.2.2.2.1, wi.2.2.2.2.2.2.1, wi.2.2.2.2.2.2.2.1, wi.2.2.2.2.2.2.2.2.1, bm.2.2.2, g_22, ok_69, okq_30, (INV_ag hW_32 hI.2.1 hI.2.2 (ag_changed ok_pa_n c_71)), rfl, false, rfl⟩ dX4_step_208 hlocks
            · refine lv_aload_n hx hb dX4_step_195 rfl (lv_at hl 6 rfl) ?_
              refine lv_lload_n hx hb dX4_step_196 rfl (lv_at hl 7 rfl) ?_
              refine bm_xcallV (As := [.long z1]) (rest := []) ⟨hx, hb, hml, hown, hts⟩ (x_keepI (bm := (bm.1, bm.2.1, g_22, bm.2.2.2)) (p0 := (p0.1, p0.2.1, g_68, p0.2.2.2)) (z1 := z1) ok_pa_n ok_pa_side ok_pa_lowest ok_69 ok_li_keepOuts ok_li_nears ok_li_one ok_li_other okq_30 ok_wi_nets ok_wi_pins ok_wi_netOf ok_wi_partOf  hW_32 hI.2.1 hI.2.2) (cwV 1 hts gvX4_129 rfl rfl rfl hvX4_keepChange ⟨Nat.le_of_ble_eq_true rfl, Nat.le_of_ble_eq_true rfl⟩) hK hP hD hS hA 0 4 rfl ww_0 rfl hl.1 rfl (Nat.le_of_ble_eq_true rfl) dX4_step_197 ⟨Nat.le_of_ble_eq_true rfl, Nat.le_of_ble_eq_true rfl⟩ (fun ws_72 r_73 h_74 H locs hP hD hS => ?_)
              obtain ⟨g_75, g_76, g_77, g_79, g_80, g_81, g_82, g_83, g_84, g_85, ok_78, hf_86, rfl, v_87, rfl⟩ := h_74
              have hP : va_P D vwCl (WW ad cJ cI cZ (bm.1, bm.2.1, g_22, g_85) pa (g_75, g_76, g_77, g_79) pl_28 p2 li (wi.1, wi.2.1, wi.2.2.1, wi.2.2.2.1, g_80, g_81, g_82, g_83, g_84, wi.2.2.2.2.2.2.2.2.2.1, wi.2.2.2.2.2.2.2.2.2.2) mt ms ma mp mk mn ou) H := hP
              have hD : va_D A (WW ad cJ cI cZ (bm.1, bm.2.1, g_22, g_85) pa (g_75, g_76, g_77, g_79) pl_28 p2 li (wi.1, wi.2.1, wi.2.2.1, wi.2.2.2.1, g_80, g_81, g_82, g_83, g_84, wi.2.2.2.2.2.2.2.2.2.1, wi.2.2.2.2.2.2.2.2.2.2) mt ms ma mp mk mn ou) := hD
              refine bm_zb_eq (x := v_87) (tgt := 207) hx hb dX4_step_200 (by decide) (fun c_88 => ?_) (fun c_88 => ?_)
              · refine lv_iconst (v := bm_b false) hx hb dX4_step_207 (by decide) ?_
                exact bm_zretX (v := false) hx hb hr hP hD hK hS ⟨g_75, g_76, g_77, g_79, pl_28.1, pl_28.2.1, pl_28.2.2.1, pl_28.2.2.2, g_80, g_81, g_82, g_83, g_84, g_85, g_22, ok_78, okq_30, (INV_to hf_86 rfl rfl rfl rfl rfl rfl rfl), rfl, false, rfl⟩ dX4_step_208 hlocks
              · refine lv_iconst (v := bm_b true) hx hb dX4_step_203 (by decide) ?_
                refine lv_goto (tgt := 208) hx hb dX4_step_204 (by decide) ?_
                exact bm_zretX (v := true) hx hb hr hP hD hK hS ⟨g_75, g_76, g_77, g_79, pl_28.1, pl_28.2.1, pl_28.2.2.1, pl_28.2.2.2, g_80, g_81, g_82, g_83, g_84, g_85, g_22, ok_78, okq_30, (INV_to hf_86 rfl rfl rfl rfl rfl rfl rfl), rfl, true, rfl⟩ dX4_step_208 hlocks
        · refine lv_aload_n hx hb dX4_step_97 rfl (lv_at hl 6 rfl) ?_
          refine lv_iload hx hb dX4_step_98 (lv_at hl 0 rfl) ?_
          refine lv_lload hx hb dX4_step_100 (lv_at hl 3 rfl) ?_
          refine lv_iload hx hb dX4_step_102 (lv_at hl 1 rfl) ?_
          refine bm_i2lN (x := pa.2.2.2.2.2.2) hx hb (by omega) dX4_step_104 ?_
          refine bm_lrN (x := z_17) (y := pa.2.2.2.2.2.2) hx hb (by omega) (by omega) (by omega) dX4_step_105 ?_
          refine bm_l2iN (x := z_17 % pa.2.2.2.2.2.2) hx hb dX4_step_106 ?_
          refine bm_xcallV (As := [.int (nI (z_5 % pa.2.2.2.2.2.2)), .int (nI (z_17 % pa.2.2.2.2.2.2))]) (rest := []) ⟨hx, hb, hml, hown, hts⟩ (x_swap (bm := (bm.1, bm.2.1, g_22, bm.2.2.2)) (za := z_5 % pa.2.2.2.2.2.2) (zb := z_17 % pa.2.2.2.2.2.2) ok_pa_n ok_pa_lowest (Nat.lt_of_lt_of_le (Nat.mod_lt _ (by omega)) ok_pa_n) (Nat.lt_of_lt_of_le (Nat.mod_lt _ (by omega)) ok_pa_n)) (cwV 2 hts gvX4_278 rfl rfl rfl hvX4_swapPlaces ⟨Nat.le_of_ble_eq_true rfl, Nat.le_of_ble_eq_true rfl⟩) hK hP hD hS hA 0 4 rfl ww_0 rfl hl.1 rfl (Nat.le_of_ble_eq_true rfl) dX4_step_107 ⟨Nat.le_of_ble_eq_true rfl, Nat.le_of_ble_eq_true rfl⟩ (fun ws_89 r_90 h_91 H locs hP hD hS => ?_)
          obtain ⟨g_92, g_93, rfl, rfl⟩ := h_91
          have hP : va_P D vwCl (WW ad cJ cI cZ (bm.1, bm.2.1, g_22, bm.2.2.2) pa (g_92, g_93, p0.2.2.1, p0.2.2.2) pl_28 p2 li wi mt ms ma mp mk mn ou) H := hP
          have hD : va_D A (WW ad cJ cI cZ (bm.1, bm.2.1, g_22, bm.2.2.2) pa (g_92, g_93, p0.2.2.1, p0.2.2.2) pl_28 p2 li wi mt ms ma mp mk mn ou) := hD
          refine lv_goto (tgt := 187) hx hb dX4_step_110 (by decide) ?_
          refine lv_aload_n hx hb dX4_step_187 rfl (lv_at hl 6 rfl) ?_
          refine lv_iconst (v := -1) hx hb dX4_step_188 (by decide) ?_
          refine bm_rcallV (As := [.int (-1)]) (rest := []) ⟨hx, hb, hml, hown, hts⟩ (r_changed (bm := (bm.1, bm.2.1, g_22, bm.2.2.2)) (p0 := (g_92, g_93, p0.2.2.1, p0.2.2.2)) (x := (-1)) ⟨ok_pa_n, ok_pa_side, ok_pa_lowest⟩ ok_p0_turn okq_30) (cwV 1 hts gvX4_181 rfl rfl rfl hvX4_countChanged ⟨Nat.le_of_ble_eq_true rfl, Nat.le_of_ble_eq_true rfl⟩) hK hP 0 4 rfl ww_0 rfl hl.1 rfl (Nat.le_of_ble_eq_true rfl) dX4_step_189 ⟨Nat.le_of_ble_eq_true rfl, Nat.le_of_ble_eq_true rfl⟩ ?_
          have hct_94 := q_count_le (q_changed (g_92, g_93, p0.2.2.1, p0.2.2.2) pl_28 (-1)) pa.2.2.2.2.2.2
          refine bm_nz_le (x := (q_count (q_changed (g_92, g_93, p0.2.2.1, p0.2.2.2) pl_28 (-1)) pa.2.2.2.2.2.2)) (tgt := 207) hx hb (by omega) dX4_step_192 (by decide) (fun c_95 => ?_) (fun c_95 => ?_)
          · refine lv_iconst (v := bm_b false) hx hb dX4_step_207 (by decide) ?_
            exact bm_zretX (v := false) hx hb hr hP hD hK hS ⟨g_92, g_93, p0.2.2.1, p0.2.2.2, pl_28.1, pl_28.2.1, pl_28.2.2.1, pl_28.2.2.2, wi.2.2.2.2.1, wi.2.2.2.2.2.1, wi.2.2.2.2.2.2.1, wi.2.2.2.2.2.2.2.1, wi.2.2.2.2.2.2.2.2.1, bm.2.2.2, g_22, ok_p0_turn, okq_30, (INV_ag hW_32 hI.2.1 hI.2.2 (ag_changed ok_pa_n c_95)), rfl, false, rfl⟩ dX4_step_208 hlocks
          · refine lv_aload_n hx hb dX4_step_195 rfl (lv_at hl 6 rfl) ?_
            refine lv_lload_n hx hb dX4_step_196 rfl (lv_at hl 7 rfl) ?_
            refine bm_xcallV (As := [.long z1]) (rest := []) ⟨hx, hb, hml, hown, hts⟩ (x_keepI (bm := (bm.1, bm.2.1, g_22, bm.2.2.2)) (p0 := (g_92, g_93, p0.2.2.1, p0.2.2.2)) (z1 := z1) ok_pa_n ok_pa_side ok_pa_lowest ok_p0_turn ok_li_keepOuts ok_li_nears ok_li_one ok_li_other okq_30 ok_wi_nets ok_wi_pins ok_wi_netOf ok_wi_partOf  hW_32 hI.2.1 hI.2.2) (cwV 1 hts gvX4_129 rfl rfl rfl hvX4_keepChange ⟨Nat.le_of_ble_eq_true rfl, Nat.le_of_ble_eq_true rfl⟩) hK hP hD hS hA 0 4 rfl ww_0 rfl hl.1 rfl (Nat.le_of_ble_eq_true rfl) dX4_step_197 ⟨Nat.le_of_ble_eq_true rfl, Nat.le_of_ble_eq_true rfl⟩ (fun ws_96 r_97 h_98 H locs hP hD hS => ?_)
            obtain ⟨g_99, g_100, g_101, g_103, g_104, g_105, g_106, g_107, g_108, g_109, ok_102, hf_110, rfl, v_111, rfl⟩ := h_98
            have hP : va_P D vwCl (WW ad cJ cI cZ (bm.1, bm.2.1, g_22, g_109) pa (g_99, g_100, g_101, g_103) pl_28 p2 li (wi.1, wi.2.1, wi.2.2.1, wi.2.2.2.1, g_104, g_105, g_106, g_107, g_108, wi.2.2.2.2.2.2.2.2.2.1, wi.2.2.2.2.2.2.2.2.2.2) mt ms ma mp mk mn ou) H := hP
            have hD : va_D A (WW ad cJ cI cZ (bm.1, bm.2.1, g_22, g_109) pa (g_99, g_100, g_101, g_103) pl_28 p2 li (wi.1, wi.2.1, wi.2.2.1, wi.2.2.2.1, g_104, g_105, g_106, g_107, g_108, wi.2.2.2.2.2.2.2.2.2.1, wi.2.2.2.2.2.2.2.2.2.2) mt ms ma mp mk mn ou) := hD
            refine bm_zb_eq (x := v_111) (tgt := 207) hx hb dX4_step_200 (by decide) (fun c_112 => ?_) (fun c_112 => ?_)
            · refine lv_iconst (v := bm_b false) hx hb dX4_step_207 (by decide) ?_
              exact bm_zretX (v := false) hx hb hr hP hD hK hS ⟨g_99, g_100, g_101, g_103, pl_28.1, pl_28.2.1, pl_28.2.2.1, pl_28.2.2.2, g_104, g_105, g_106, g_107, g_108, g_109, g_22, ok_102, okq_30, (INV_to hf_110 rfl rfl rfl rfl rfl rfl rfl), rfl, false, rfl⟩ dX4_step_208 hlocks
            · refine lv_iconst (v := bm_b true) hx hb dX4_step_203 (by decide) ?_
              refine lv_goto (tgt := 208) hx hb dX4_step_204 (by decide) ?_
              exact bm_zretX (v := true) hx hb hr hP hD hK hS ⟨g_99, g_100, g_101, g_103, pl_28.1, pl_28.2.1, pl_28.2.2.1, pl_28.2.2.2, g_104, g_105, g_106, g_107, g_108, g_109, g_22, ok_102, okq_30, (INV_to hf_110 rfl rfl rfl rfl rfl rfl rfl), rfl, true, rfl⟩ dX4_step_208 hlocks
      · refine lv_iconst (v := bm_b false) hx hb dX4_step_73 (by decide) ?_
        exact bm_zretX (v := false) hx hb hr hP hD hK hS ⟨p0.1, p0.2.1, p0.2.2.1, p0.2.2.2, p1.1, p1.2.1, p1.2.2.1, p1.2.2.2, wi.2.2.2.2.1, wi.2.2.2.2.2.1, wi.2.2.2.2.2.2.1, wi.2.2.2.2.2.2.2.1, wi.2.2.2.2.2.2.2.2.1, bm.2.2.2, g_22, ok_p0_turn, ok_p1_turn, hI, rfl, false, rfl⟩ dX4_step_74 hlocks
  · refine lv_iconst (v := bm_b false) hx hb dX4_step_37 (by decide) ?_
    exact bm_zretX (v := false) hx hb hr hP hD hK hS ⟨p0.1, p0.2.1, p0.2.2.1, p0.2.2.2, p1.1, p1.2.1, p1.2.2.1, p1.2.2.2, wi.2.2.2.2.1, wi.2.2.2.2.2.1, wi.2.2.2.2.2.2.1, wi.2.2.2.2.2.2.2.1, wi.2.2.2.2.2.2.2.2.1, bm.2.2.2, g_22, ok_p0_turn, ok_p1_turn, hI, rfl, false, rfl⟩ dX4_step_38 hlocks
