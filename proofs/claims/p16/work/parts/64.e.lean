set_option maxHeartbeats 16000000 in
set_option maxRecDepth 100000 in
theorem Y_push {l : Launch} {D : va_G} {ad : Nat → Nat} {cJ cI cZ : ClassId} {bm : gBM} {pa : gPA} {p0 p1 p2 : gPL} {li : gLI} {wi : gWI} {mt : Nat} {ms : gMS} {ma : gMA} {mp : gMP} {mk : gMK} {mn : gMN} {ou : Nat → Int64} {zA : Int32} {zB : Int64} {zC : Int64} (hok : okM ms ma mp mk mn)  : bm_Wx l yX5_push wsX5_push ({ frames := 5, cells := 0, slots := 0, locals := 117 }) D vwCl [(cJ, .long), (cI, .int), (cZ, .boolean)] (WW ad cJ cI cZ bm pa p0 p1 p2 li wi mt ms ma mp mk mn ou) [.ref (ad 42), .int zA, .long zB, .long zC] (PMI ad cJ cI cZ bm pa p0 p1 p2 li wi mt ms ma mp mk mn ou) := by
  obtain ⟨ok_ms_parts, ok_ms_outs, ok_ms_nears, ok_ms_nets, ok_ms_pins, ok_ma_sides, ok_ma_groups, ok_mp_turns, ok_mk_nearOne, ok_mk_nearTwo, ok_mn_pinNet, ok_mn_pinPart, hw, hh⟩ := hok
  intro sz
  refine Met.ofW (cc := cX5_push) (maxL := 13) (ret := (some .int)) (by decide) rfl ?_
  intro p e s m args below meth c s₁ B hml hv
  obtain ⟨ha, hsz, hP, hK, hD0⟩ := hv
  have hx := B.exec
  have hb := B.bytes
  have hr := B.returns
  have hts := atoms_spec (ws := wsX5_push) B.pre
  have hown : s.vm.findClass RX5 = some m.cls := findClass_of_methodNamed B.named
  have hlocks := B.notSynchronized
  subst hsz
  have hD := hD0.self (sz := s.heap.size)
  generalize hAe : va_A (WW ad cJ cI cZ bm pa p0 p1 p2 li wi mt ms ma mp mk mn ou) s.heap.size = A at hD ⊢
  have hA : ∀ q : Nat, s.heap.size ≤ q → A q := fun q h => by rw [← hAe]; exact Or.inr h
  have hS : va_S A s.heap s.heap [] := va_S.rf
  rcases bx_idx zA (n := ms.2.2.1) (by omega) with ⟨k_zA, hk_zA, rfl⟩ | hno_zA
  · have hl := lv_entry ([.ref (ad 42), .int (nI k_zA), .long zB, .long zC]) (n := 13) (Nat.le_of_ble_eq_true rfl)
    refine W.eq (g2 := entryFrame m ([.ref (ad 42), .int (nI k_zA), .long zB, .long zC] : List Value).toArray 13) (by rw [ha]) ?_
    rw [lg_entry_eq]
    generalize (lg_sl ([.ref (ad 42), .int (nI k_zA), .long zB, .long zC]) ++ List.replicate (13 - (lg_sl ([.ref (ad 42), .int (nI k_zA), .long zB, .long zC])).length) Slot.unset).toArray = ls at hl ⊢
    have hl : lv_has ls 13 [(0, .ref (ad 42)), (1, .int (nI k_zA)), (2, .long zB), (4, .long zC)] := hl
    refine lv_aload_n hx hb dX5_push_0 rfl (lv_at hl 0 rfl) ?_
    refine lv_aload_n hx hb dX5_push_1 rfl (lv_at hl 0 rfl) ?_
    refine lv_iload_n hx hb dX5_push_2 rfl (lv_at hl 1 rfl) ?_
    refine bm_rcallV (As := [.int (nI k_zA)]) (rest := [.ref (ad 42)]) ⟨hx, hb, hml, hown, hts⟩ (Y_isPartY  (zp := k_zA) ok_ms_parts (by omega)) (cwV 1 hts gvX5_139 rfl rfl rfl hvX5_isPart ⟨Nat.le_of_ble_eq_true rfl, Nat.le_of_ble_eq_true rfl⟩) hK hP 42 5 rfl ww_42 rfl hl.1 rfl (Nat.le_of_ble_eq_true rfl) dX5_push_3 ⟨Nat.le_of_ble_eq_true rfl, Nat.le_of_ble_eq_true rfl⟩ ?_
    refine bm_zb_ne (x := true) (tgt := 13) hx hb dX5_push_6 (by decide) (fun c_1 => ?_) (fun c_1 => ?_)
    · refine lv_aload_n hx hb dX5_push_13 rfl (lv_at hl 0 rfl) ?_
      refine va_get (D := D) (ci := 5) (v := .ref (ad 49)) (C := RX5) (T := TX5) (N := 28) hx hb hts (inT inX5) hown hK hP 42 ww_42 rfl 10 (by decide) (hts (.fieldLink RX5 30 "BoardMovesModel" "placed" "[Z") (List.mem_cons_of_mem _ flX5_30)) (fun _ h9 => h9) rfl dX5_push_14 ?_
      refine lv_iload_n hx hb dX5_push_17 rfl (lv_at hl 1 rfl) ?_
      refine bm_zald (f := ma.2.2.2.2.2.2) hx hb hK hP 49 2 ww_49 rfl (j := k_zA) (by omega) (by decide) dX5_push_18 ?_
      refine bm_zb_eq (x := (ma.2.2.2.2.2.2 k_zA)) (tgt := 26) hx hb dX5_push_19 (by decide) (fun c_2 => ?_) (fun c_2 => ?_)
      · refine lv_iconst (v := nI 2) hx hb dX5_push_26 (by decide) ?_
        refine va_put (D := D) (ci := 5) (v := .int (nI 2)) (ty := .int) (C := RX5) (T := TX5) (N := 28) hx hb hts (inT inX5) tyX5 tyX5_ok nmX5 hown hK hP hD hS 42 ww_42 rfl 0 (by decide) (hts (.fieldLink RX5 81 "BoardMovesModel" "thrown" "I") (List.mem_cons_of_mem _ flX5_81)) (fun _ h9 => h9) rfl (by decide +kernel) rfl rfl (Nat.le_of_ble_eq_true rfl) dX5_push_27 (fun H locs hP hD hS => ?_)
        have hP : va_P D vwCl (WW ad cJ cI cZ bm pa p0 p1 p2 li wi (2) ms ma mp mk mn ou) H := hP
        have hD : va_D A (WW ad cJ cI cZ bm pa p0 p1 p2 li wi (2) ms ma mp mk mn ou) := hD
        refine lv_aload_n hx hb dX5_push_30 rfl (lv_at hl 0 rfl) ?_
        refine va_get (D := D) (ci := 5) (v := .int (nI 2)) (C := RX5) (T := TX5) (N := 28) hx hb hts (inT inX5) hown hK hP 42 ww_42 rfl 0 (by decide) (hts (.fieldLink RX5 81 "BoardMovesModel" "thrown" "I") (List.mem_cons_of_mem _ flX5_81)) (fun _ h9 => h9) rfl dX5_push_31 ?_
        refine bm_nz_eq (x := 2) (tgt := 39) hx hb (by decide) dX5_push_34 (by decide) (fun c_3 => ?_) (fun c_3 => ?_)
        · exact absurd c_3 (by decide)
        · refine lv_iconst (v := nI 0) hx hb dX5_push_37 (by decide) ?_
          exact bm_iretX (v := (nI 0)) hx hb hr hP hD hK hS ⟨(2), ms, ma, mp, mk, mn, ⟨ok_ms_parts, ok_ms_outs, ok_ms_nears, ok_ms_nets, ok_ms_pins, ok_ma_sides, ok_ma_groups, ok_mp_turns, ok_mk_nearOne, ok_mk_nearTwo, ok_mn_pinNet, ok_mn_pinPart, hw, hh⟩, rfl, rfl, (nI 0), rfl⟩ dX5_push_38 hlocks
      · refine lv_iconst (v := nI 0) hx hb dX5_push_22 (by decide) ?_
        refine lv_goto (tgt := 27) hx hb dX5_push_23 (by decide) ?_
        refine va_put (D := D) (ci := 5) (v := .int (nI 0)) (ty := .int) (C := RX5) (T := TX5) (N := 28) hx hb hts (inT inX5) tyX5 tyX5_ok nmX5 hown hK hP hD hS 42 ww_42 rfl 0 (by decide) (hts (.fieldLink RX5 81 "BoardMovesModel" "thrown" "I") (List.mem_cons_of_mem _ flX5_81)) (fun _ h9 => h9) rfl (by decide +kernel) rfl rfl (Nat.le_of_ble_eq_true rfl) dX5_push_27 (fun H locs hP hD hS => ?_)
        have hP : va_P D vwCl (WW ad cJ cI cZ bm pa p0 p1 p2 li wi (0) ms ma mp mk mn ou) H := hP
        have hD : va_D A (WW ad cJ cI cZ bm pa p0 p1 p2 li wi (0) ms ma mp mk mn ou) := hD
        refine lv_aload_n hx hb dX5_push_30 rfl (lv_at hl 0 rfl) ?_
        refine va_get (D := D) (ci := 5) (v := .int (nI 0)) (C := RX5) (T := TX5) (N := 28) hx hb hts (inT inX5) hown hK hP 42 ww_42 rfl 0 (by decide) (hts (.fieldLink RX5 81 "BoardMovesModel" "thrown" "I") (List.mem_cons_of_mem _ flX5_81)) (fun _ h9 => h9) rfl dX5_push_31 ?_
        refine bm_nz_eq (x := 0) (tgt := 39) hx hb (by decide) dX5_push_34 (by decide) (fun c_4 => ?_) (fun c_4 => ?_)
        · refine lv_lload_n hx hb dX5_push_39 rfl (lv_at hl 2 rfl) ?_
          refine lv_lconst (v := 0) hx hb dX5_push_40 (by decide) ?_
          refine bm_lc_lt (x := zB) (y := 0) (tgt := 71) hx hb dX5_push_41 dX5_push_42 (by decide) (fun c_5 => ?_) (fun c_5 => ?_)
          · refine lv_iconst (v := -1) hx hb dX5_push_71 (by decide) ?_
            exact bm_iretX (v := (-1)) hx hb hr hP hD hK hS ⟨(0), ms, ma, mp, mk, mn, ⟨ok_ms_parts, ok_ms_outs, ok_ms_nears, ok_ms_nets, ok_ms_pins, ok_ma_sides, ok_ma_groups, ok_mp_turns, ok_mk_nearOne, ok_mk_nearTwo, ok_mn_pinNet, ok_mn_pinPart, hw, hh⟩, rfl, rfl, (-1), rfl⟩ dX5_push_72 hlocks
          · refine lv_lload_n hx hb dX5_push_45 rfl (lv_at hl 2 rfl) ?_
            refine lv_aload_n hx hb dX5_push_46 rfl (lv_at hl 0 rfl) ?_
            refine va_get (D := D) (ci := 5) (v := .long ms.1) (C := RX5) (T := TX5) (N := 28) hx hb hts (inT inX5) hown hK hP 42 ww_42 rfl 1 (by decide) (hts (.fieldLink RX5 71 "BoardMovesModel" "width" "J") (List.mem_cons_of_mem _ flX5_71)) (fun _ h9 => h9) rfl dX5_push_47 ?_
            refine bm_lc_gt (x := zB) (y := ms.1) (tgt := 71) hx hb dX5_push_50 dX5_push_51 (by decide) (fun c_6 => ?_) (fun c_6 => ?_)
            · refine lv_iconst (v := -1) hx hb dX5_push_71 (by decide) ?_
              exact bm_iretX (v := (-1)) hx hb hr hP hD hK hS ⟨(0), ms, ma, mp, mk, mn, ⟨ok_ms_parts, ok_ms_outs, ok_ms_nears, ok_ms_nets, ok_ms_pins, ok_ma_sides, ok_ma_groups, ok_mp_turns, ok_mk_nearOne, ok_mk_nearTwo, ok_mn_pinNet, ok_mn_pinPart, hw, hh⟩, rfl, rfl, (-1), rfl⟩ dX5_push_72 hlocks
            · refine lv_lload hx hb dX5_push_54 (lv_at hl 3 rfl) ?_
              refine lv_lconst (v := 0) hx hb dX5_push_56 (by decide) ?_
              refine bm_lc_lt (x := zC) (y := 0) (tgt := 71) hx hb dX5_push_57 dX5_push_58 (by decide) (fun c_7 => ?_) (fun c_7 => ?_)
              · refine lv_iconst (v := -1) hx hb dX5_push_71 (by decide) ?_
                exact bm_iretX (v := (-1)) hx hb hr hP hD hK hS ⟨(0), ms, ma, mp, mk, mn, ⟨ok_ms_parts, ok_ms_outs, ok_ms_nears, ok_ms_nets, ok_ms_pins, ok_ma_sides, ok_ma_groups, ok_mp_turns, ok_mk_nearOne, ok_mk_nearTwo, ok_mn_pinNet, ok_mn_pinPart, hw, hh⟩, rfl, rfl, (-1), rfl⟩ dX5_push_72 hlocks
              · refine lv_lload hx hb dX5_push_61 (lv_at hl 3 rfl) ?_
                refine lv_aload_n hx hb dX5_push_63 rfl (lv_at hl 0 rfl) ?_
                refine va_get (D := D) (ci := 5) (v := .long ms.2.1) (C := RX5) (T := TX5) (N := 28) hx hb hts (inT inX5) hown hK hP 42 ww_42 rfl 2 (by decide) (hts (.fieldLink RX5 75 "BoardMovesModel" "height" "J") (List.mem_cons_of_mem _ flX5_75)) (fun _ h9 => h9) rfl dX5_push_64 ?_
                refine bm_lc_le (x := zC) (y := ms.2.1) (tgt := 73) hx hb dX5_push_67 dX5_push_68 (by decide) (fun c_8 => ?_) (fun c_8 => ?_)
                · refine lv_aload_n hx hb dX5_push_73 rfl (lv_at hl 0 rfl) ?_
                  refine bm_xcallV (As := []) (rest := []) ⟨hx, hb, hml, hown, hts⟩ (y_begin (mt := (0))  ok_mp_turns ) (cwV 0 hts gvX5_143 rfl rfl rfl hvX5_begin ⟨Nat.le_of_ble_eq_true rfl, Nat.le_of_ble_eq_true rfl⟩) hK hP hD hS hA 42 5 rfl ww_42 rfl hl.1 rfl (Nat.le_of_ble_eq_true rfl) dX5_push_74 ⟨Nat.le_of_ble_eq_true rfl, Nat.le_of_ble_eq_true rfl⟩ (fun ws_9 r_10 h_11 H locs hP hD hS => ?_)
                  obtain ⟨g_12, g_13, g_14, g_16, ok_15, rfl, rfl⟩ := h_11
                  have hP : va_P D vwCl (WW ad cJ cI cZ bm pa p0 p1 p2 li wi (0) ms ma (g_12, g_13, g_14) mk (mn.1, mn.2.1, mn.2.2.1, mn.2.2.2.1, g_16) ou) H := hP
                  have hD : va_D A (WW ad cJ cI cZ bm pa p0 p1 p2 li wi (0) ms ma (g_12, g_13, g_14) mk (mn.1, mn.2.1, mn.2.2.1, mn.2.2.2.1, g_16) ou) := hD
                  refine lv_lload_n hx hb dX5_push_77 rfl (lv_at hl 2 rfl) ?_
                  refine lv_aload_n hx hb dX5_push_78 rfl (lv_at hl 0 rfl) ?_
                  refine lv_iconst (v := nI 0) hx hb dX5_push_79 (by decide) ?_
                  refine lv_iload_n hx hb dX5_push_80 rfl (lv_at hl 1 rfl) ?_
                  refine bm_xcallV (As := [.int (nI 0), .int (nI k_zA)]) (rest := [.long zB]) ⟨hx, hb, hml, hown, hts⟩ (y_left (mt := (0)) (mp := (g_12, g_13, g_14)) (mn := (mn.1, mn.2.1, mn.2.2.1, mn.2.2.2.1, g_16)) (zr := 0) (zp := k_zA)  (by omega) (by omega)) (cwV 2 hts gvX5_92 rfl rfl rfl hvX5_left ⟨Nat.le_of_ble_eq_true rfl, Nat.le_of_ble_eq_true rfl⟩) hK hP hD hS hA 42 5 rfl ww_42 rfl hl.1 rfl (Nat.le_of_ble_eq_true rfl) dX5_push_81 ⟨Nat.le_of_ble_eq_true rfl, Nat.le_of_ble_eq_true rfl⟩ (fun ws_17 r_18 h_19 H locs hP hD hS => ?_)
                  obtain ⟨rfl, v_20, rfl⟩ := h_19
                  have hP : va_P D vwCl (WW ad cJ cI cZ bm pa p0 p1 p2 li wi (0) ms ma (g_12, g_13, g_14) mk (mn.1, mn.2.1, mn.2.2.1, mn.2.2.2.1, g_16) ou) H := hP
                  have hD : va_D A (WW ad cJ cI cZ bm pa p0 p1 p2 li wi (0) ms ma (g_12, g_13, g_14) mk (mn.1, mn.2.1, mn.2.2.1, mn.2.2.2.1, g_16) ou) := hD
                  refine lv_lsub hx hb dX5_push_84 ?_
                  refine lv_topl (fun t_21 _ => ?_)
                  refine lv_lstore (lv' := [(6, .long t_21), (0, .ref (ad 42)), (1, .int (nI k_zA)), (2, .long zB), (4, .long zC)]) hx hb dX5_push_85 hl (by decide) rfl (fun ls hl => ?_)
                  refine lv_lload hx hb dX5_push_87 (lv_at hl 4 rfl) ?_
                  refine lv_aload_n hx hb dX5_push_89 rfl (lv_at hl 1 rfl) ?_
                  refine lv_iconst (v := nI 0) hx hb dX5_push_90 (by decide) ?_
                  refine lv_iload_n hx hb dX5_push_91 rfl (lv_at hl 2 rfl) ?_
                  refine bm_xcallV (As := [.int (nI 0), .int (nI k_zA)]) (rest := [.long zC]) ⟨hx, hb, hml, hown, hts⟩ (y_low (mt := (0)) (mp := (g_12, g_13, g_14)) (mn := (mn.1, mn.2.1, mn.2.2.1, mn.2.2.2.1, g_16)) (zr := 0) (zp := k_zA)  (by omega) (by omega)) (cwV 2 hts gvX5_100 rfl rfl rfl hvX5_low ⟨Nat.le_of_ble_eq_true rfl, Nat.le_of_ble_eq_true rfl⟩) hK hP hD hS hA 42 5 rfl ww_42 rfl hl.1 rfl (Nat.le_of_ble_eq_true rfl) dX5_push_92 ⟨Nat.le_of_ble_eq_true rfl, Nat.le_of_ble_eq_true rfl⟩ (fun ws_22 r_23 h_24 H locs hP hD hS => ?_)
                  obtain ⟨rfl, v_25, rfl⟩ := h_24
                  have hP : va_P D vwCl (WW ad cJ cI cZ bm pa p0 p1 p2 li wi (0) ms ma (g_12, g_13, g_14) mk (mn.1, mn.2.1, mn.2.2.1, mn.2.2.2.1, g_16) ou) H := hP
                  have hD : va_D A (WW ad cJ cI cZ bm pa p0 p1 p2 li wi (0) ms ma (g_12, g_13, g_14) mk (mn.1, mn.2.1, mn.2.2.1, mn.2.2.2.1, g_16) ou) := hD
                  refine lv_lsub hx hb dX5_push_95 ?_
                  refine lv_topl (fun t_26 _ => ?_)
                  refine lv_lstore (lv' := [(8, .long t_26), (6, .long t_21), (0, .ref (ad 42)), (1, .int (nI k_zA)), (2, .long zB), (4, .long zC)]) hx hb dX5_push_96 hl (by decide) rfl (fun ls hl => ?_)
                  refine lv_lload hx hb dX5_push_98 (lv_at hl 1 rfl) ?_
                  refine bm_xcallS (As := [.long t_21]) (rest := []) ⟨hx, hb, hml, hown, hts⟩ (y_size (mt := (0)) (mp := (g_12, g_13, g_14)) (mn := (mn.1, mn.2.1, mn.2.2.1, mn.2.2.2.1, g_16)) (z1 := t_21)  ) (cwS 1 hts gsX5_188 rfl rfl rfl hsX5_size ⟨Nat.le_of_ble_eq_true rfl, Nat.le_of_ble_eq_true rfl⟩) hK hP hD hS hA rfl hl.1 rfl (Nat.le_of_ble_eq_true rfl) dX5_push_100 ⟨Nat.le_of_ble_eq_true rfl, Nat.le_of_ble_eq_true rfl⟩ (fun ws_27 r_28 h_29 H locs hP hD hS => ?_)
                  obtain ⟨rfl, v_30, rfl⟩ := h_29
                  have hP : va_P D vwCl (WW ad cJ cI cZ bm pa p0 p1 p2 li wi (0) ms ma (g_12, g_13, g_14) mk (mn.1, mn.2.1, mn.2.2.1, mn.2.2.2.1, g_16) ou) H := hP
                  have hD : va_D A (WW ad cJ cI cZ bm pa p0 p1 p2 li wi (0) ms ma (g_12, g_13, g_14) mk (mn.1, mn.2.1, mn.2.2.1, mn.2.2.2.1, g_16) ou) := hD
                  refine lv_lload hx hb dX5_push_103 (lv_at hl 0 rfl) ?_
                  refine bm_xcallS (As := [.long t_26]) (rest := [.long v_30]) ⟨hx, hb, hml, hown, hts⟩ (y_size (mt := (0)) (mp := (g_12, g_13, g_14)) (mn := (mn.1, mn.2.1, mn.2.2.1, mn.2.2.2.1, g_16)) (z1 := t_26)  ) (cwS 1 hts gsX5_188 rfl rfl rfl hsX5_size ⟨Nat.le_of_ble_eq_true rfl, Nat.le_of_ble_eq_true rfl⟩) hK hP hD hS hA rfl hl.1 rfl (Nat.le_of_ble_eq_true rfl) dX5_push_105 ⟨Nat.le_of_ble_eq_true rfl, Nat.le_of_ble_eq_true rfl⟩ (fun ws_31 r_32 h_33 H locs hP hD hS => ?_)
                  obtain ⟨rfl, v_34, rfl⟩ := h_33
                  have hP : va_P D vwCl (WW ad cJ cI cZ bm pa p0 p1 p2 li wi (0) ms ma (g_12, g_13, g_14) mk (mn.1, mn.2.1, mn.2.2.1, mn.2.2.2.1, g_16) ou) H := hP
                  have hD : va_D A (WW ad cJ cI cZ bm pa p0 p1 p2 li wi (0) ms ma (g_12, g_13, g_14) mk (mn.1, mn.2.1, mn.2.2.1, mn.2.2.2.1, g_16) ou) := hD
                  refine bm_lc_lt (x := v_30) (y := v_34) (tgt := 127) hx hb dX5_push_108 dX5_push_109 (by decide) (fun c_35 => ?_) (fun c_35 => ?_)
                  · refine lv_lload hx hb dX5_push_127 (lv_at hl 0 rfl) ?_
                    refine lv_lconst (v := 0) hx hb dX5_push_129 (by decide) ?_
                    refine bm_lc_lt (x := t_26) (y := 0) (tgt := 138) hx hb dX5_push_130 dX5_push_131 (by decide) (fun c_36 => ?_) (fun c_36 => ?_)
                    · refine lv_iconst (v := nI 3) hx hb dX5_push_138 (by decide) ?_
                      refine lv_istore (lv' := [(10, .int (nI 3)), (8, .long t_26), (6, .long t_21), (0, .ref (ad 42)), (1, .int (nI k_zA)), (2, .long zB), (4, .long zC)]) hx hb dX5_push_139 hl (by decide) rfl (fun ls hl => ?_)
                      refine lv_aload_n hx hb dX5_push_141 rfl (lv_at hl 3 rfl) ?_
                      refine lv_iload_n hx hb dX5_push_142 rfl (lv_at hl 4 rfl) ?_
                      refine lv_lload hx hb dX5_push_143 (lv_at hl 2 rfl) ?_
                      refine lv_lload hx hb dX5_push_145 (lv_at hl 1 rfl) ?_
                      refine bm_xcallV (As := [.int (nI k_zA), .long t_21, .long t_26]) (rest := []) ⟨hx, hb, hml, hown, hts⟩ (y_go (mt := (0)) (mp := (g_12, g_13, g_14)) (mn := (mn.1, mn.2.1, mn.2.2.1, mn.2.2.2.1, g_16)) (zp := k_zA) (z1 := t_21) (z2 := t_26) ok_ms_parts ok_ma_groups (by omega)) (cwV 3 hts gvX5_149 rfl rfl rfl hvX5_go ⟨Nat.le_of_ble_eq_true rfl, Nat.le_of_ble_eq_true rfl⟩) hK hP hD hS hA 42 5 rfl ww_42 rfl hl.1 rfl (Nat.le_of_ble_eq_true rfl) dX5_push_147 ⟨Nat.le_of_ble_eq_true rfl, Nat.le_of_ble_eq_true rfl⟩ (fun ws_37 r_38 h_39 H locs hP hD hS => ?_)
                      obtain ⟨g_40, g_41, g_42, rfl, rfl⟩ := h_39
                      have hP : va_P D vwCl (WW ad cJ cI cZ bm pa p0 p1 p2 li wi (0) ms ma (g_40, g_41, g_14) mk (mn.1, mn.2.1, mn.2.2.1, mn.2.2.2.1, g_42) ou) H := hP
                      have hD : va_D A (WW ad cJ cI cZ bm pa p0 p1 p2 li wi (0) ms ma (g_40, g_41, g_14) mk (mn.1, mn.2.1, mn.2.2.1, mn.2.2.2.1, g_42) ou) := hD
                      refine lv_aload_n hx hb dX5_push_150 rfl (lv_at hl 3 rfl) ?_
                      refine lv_iload_n hx hb dX5_push_151 rfl (lv_at hl 4 rfl) ?_
                      refine lv_iload hx hb dX5_push_152 (lv_at hl 0 rfl) ?_
                      refine bm_xcallV (As := [.int (nI k_zA), .int (nI 3)]) (rest := []) ⟨hx, hb, hml, hown, hts⟩ (y_shove (mt := (0)) (mp := (g_40, g_41, g_14)) (mn := (mn.1, mn.2.1, mn.2.2.1, mn.2.2.2.1, g_42)) (zp := k_zA) (zw := 3) ok_ms_parts ok_ma_groups ok_15 ok_ma_sides (by omega) (by omega)) (cwV 2 hts gvX5_192 rfl rfl rfl hvX5_shove ⟨Nat.le_of_ble_eq_true rfl, Nat.le_of_ble_eq_true rfl⟩) hK hP hD hS hA 42 5 rfl ww_42 rfl hl.1 rfl (Nat.le_of_ble_eq_true rfl) dX5_push_154 ⟨Nat.le_of_ble_eq_true rfl, Nat.le_of_ble_eq_true rfl⟩ (fun ws_43 r_44 h_45 H locs hP hD hS => ?_)
                      obtain ⟨g_46, g_47, g_48, rfl, v_49, rfl⟩ := h_45
                      have hP : va_P D vwCl (WW ad cJ cI cZ bm pa p0 p1 p2 li wi (0) ms ma (g_46, g_47, g_14) mk (mn.1, mn.2.1, mn.2.2.1, mn.2.2.2.1, g_48) ou) H := hP
                      have hD : va_D A (WW ad cJ cI cZ bm pa p0 p1 p2 li wi (0) ms ma (g_46, g_47, g_14) mk (mn.1, mn.2.1, mn.2.2.1, mn.2.2.2.1, g_48) ou) := hD
                      refine bm_zb_eq (x := v_49) (tgt := 175) hx hb dX5_push_157 (by decide) (fun c_50 => ?_) (fun c_50 => ?_)
                      · refine lv_iconst (v := -1) hx hb dX5_push_175 (by decide) ?_
                        exact bm_iretX (v := (-1)) hx hb hr hP hD hK hS ⟨(0), ms, ma, (g_46, g_47, g_14), mk, (mn.1, mn.2.1, mn.2.2.1, mn.2.2.2.1, g_48), ⟨ok_ms_parts, ok_ms_outs, ok_ms_nears, ok_ms_nets, ok_ms_pins, ok_ma_sides, ok_ma_groups, ok_15, ok_mk_nearOne, ok_mk_nearTwo, ok_mn_pinNet, ok_mn_pinPart, hw, hh⟩, rfl, rfl, (-1), rfl⟩ dX5_push_176 hlocks
                      · refine lv_aload_n hx hb dX5_push_160 rfl (lv_at hl 3 rfl) ?_
                        refine bm_xcallV (As := []) (rest := []) ⟨hx, hb, hml, hown, hts⟩ (y_locked (mt := (0)) (mp := (g_46, g_47, g_14)) (mn := (mn.1, mn.2.1, mn.2.2.1, mn.2.2.2.1, g_48))  ok_ms_parts ok_15 ) (cwV 0 hts gvX5_153 rfl rfl rfl hvX5_movesLocked ⟨Nat.le_of_ble_eq_true rfl, Nat.le_of_ble_eq_true rfl⟩) hK hP hD hS hA 42 5 rfl ww_42 rfl hl.1 rfl (Nat.le_of_ble_eq_true rfl) dX5_push_161 ⟨Nat.le_of_ble_eq_true rfl, Nat.le_of_ble_eq_true rfl⟩ (fun ws_51 r_52 h_53 H locs hP hD hS => ?_)
                        obtain ⟨rfl, v_54, rfl⟩ := h_53
                        have hP : va_P D vwCl (WW ad cJ cI cZ bm pa p0 p1 p2 li wi (0) ms ma (g_46, g_47, g_14) mk (mn.1, mn.2.1, mn.2.2.1, mn.2.2.2.1, g_48) ou) H := hP
                        have hD : va_D A (WW ad cJ cI cZ bm pa p0 p1 p2 li wi (0) ms ma (g_46, g_47, g_14) mk (mn.1, mn.2.1, mn.2.2.1, mn.2.2.2.1, g_48) ou) := hD
                        refine bm_zb_ne (x := v_54) (tgt := 175) hx hb dX5_push_164 (by decide) (fun c_55 => ?_) (fun c_55 => ?_)
                        · refine lv_iconst (v := -1) hx hb dX5_push_175 (by decide) ?_
                          exact bm_iretX (v := (-1)) hx hb hr hP hD hK hS ⟨(0), ms, ma, (g_46, g_47, g_14), mk, (mn.1, mn.2.1, mn.2.2.1, mn.2.2.2.1, g_48), ⟨ok_ms_parts, ok_ms_outs, ok_ms_nears, ok_ms_nets, ok_ms_pins, ok_ma_sides, ok_ma_groups, ok_15, ok_mk_nearOne, ok_mk_nearTwo, ok_mn_pinNet, ok_mn_pinPart, hw, hh⟩, rfl, rfl, (-1), rfl⟩ dX5_push_176 hlocks
                        · refine lv_aload_n hx hb dX5_push_167 rfl (lv_at hl 3 rfl) ?_
                          refine lv_iconst (v := nI 1) hx hb dX5_push_168 (by decide) ?_
                          refine bm_xcallV (As := [.int (nI 1)]) (rest := []) ⟨hx, hb, hml, hown, hts⟩ (y_isWell (mt := (0)) (mp := (g_46, g_47, g_14)) (mn := (mn.1, mn.2.1, mn.2.2.1, mn.2.2.2.1, g_48)) (zr := 1) ok_15 ok_ms_parts ok_ms_outs ok_ma_sides ok_ms_nears ok_mk_nearOne ok_mk_nearTwo (by omega)) (cwV 1 hts gvX5_157 rfl rfl rfl hvX5_isWell ⟨Nat.le_of_ble_eq_true rfl, Nat.le_of_ble_eq_true rfl⟩) hK hP hD hS hA 42 5 rfl ww_42 rfl hl.1 rfl (Nat.le_of_ble_eq_true rfl) dX5_push_169 ⟨Nat.le_of_ble_eq_true rfl, Nat.le_of_ble_eq_true rfl⟩ (fun ws_56 r_57 h_58 H locs hP hD hS => ?_)
                          obtain ⟨rfl, v_59, rfl⟩ := h_58
                          have hP : va_P D vwCl (WW ad cJ cI cZ bm pa p0 p1 p2 li wi (0) ms ma (g_46, g_47, g_14) mk (mn.1, mn.2.1, mn.2.2.1, mn.2.2.2.1, g_48) ou) H := hP
                          have hD : va_D A (WW ad cJ cI cZ bm pa p0 p1 p2 li wi (0) ms ma (g_46, g_47, g_14) mk (mn.1, mn.2.1, mn.2.2.1, mn.2.2.2.1, g_48) ou) := hD
                          refine bm_zb_ne (x := v_59) (tgt := 177) hx hb dX5_push_172 (by decide) (fun c_60 => ?_) (fun c_60 => ?_)
                          · refine lv_iconst (v := nI 0) hx hb dX5_push_177 (by decide) ?_
                            refine lv_istore (lv' := [(11, .int (nI 0)), (10, .int (nI 3)), (8, .long t_26), (6, .long t_21), (0, .ref (ad 42)), (1, .int (nI k_zA)), (2, .long zB), (4, .long zC)]) hx hb dX5_push_178 hl (by decide) rfl (fun ls hl => ?_)
                            refine lv_iconst (v := nI 0) hx hb dX5_push_180 (by decide) ?_
                            refine lv_istore (lv' := [(12, .int (nI 0)), (11, .int (nI 0)), (10, .int (nI 3)), (8, .long t_26), (6, .long t_21), (0, .ref (ad 42)), (1, .int (nI k_zA)), (2, .long zB), (4, .long zC)]) hx hb dX5_push_181 hl (by decide) rfl (fun ls hl => ?_)
                            have lp_61 : ∀ (k_63 : Nat) (i_62 : Nat) (v_65 : Int32), i_62 ≤ ms.2.2.1 → ms.2.2.1 < i_62 + k_63 → ∀ (H : Heap) (locs : List Loc), va_P D vwCl (WW ad cJ cI cZ bm pa p0 p1 p2 li wi (0) ms ma (g_46, g_47, g_14) mk (mn.1, mn.2.1, mn.2.2.1, mn.2.2.2.1, g_48) ou) H → va_D A (WW ad cJ cI cZ bm pa p0 p1 p2 li wi (0) ms ma (g_46, g_47, g_14) mk (mn.1, mn.2.1, mn.2.2.1, mn.2.2.2.1, g_48) ou) → va_S A s.heap H locs → ∀ (ls : Array Slot), lv_has ls 13 [(12, .int (nI i_62)), (11, .int v_65), (10, .int (nI 3)), (8, .long t_26), (6, .long t_21), (0, .ref (ad 42)), (1, .int (nI k_zA)), (2, .long zB), (4, .long zC)] → W p l e (headSpec wsX5_push ({ frames := 5, cells := 0, slots := 0, locals := 117 })).room s m args below meth c H locs 0 0 (MQ below (bm_Wxq D vwCl [(cJ, .long), (cI, .int), (cZ, .boolean)] (PMI ad cJ cI cZ bm pa p0 p1 p2 li wi mt ms ma mp mk mn ou) A) args s 0 0 A) (F0 m 183 ls []) := by
                              intro k_63
                              induction k_63 with
                              | zero => intro i_62 v_65 hi_66 hk_67; exfalso; omega
                              | succ k_63 ih_64 =>
                                intro i_62 v_65 hi_66 hk_67  H locs hP hD hS ls hl
                                refine lv_iload hx hb dX5_push_183 (lv_at hl 0 rfl) ?_
                                refine lv_aload_n hx hb dX5_push_185 rfl (lv_at hl 5 rfl) ?_
                                refine va_get (D := D) (ci := 5) (v := .int (nI ms.2.2.1)) (C := RX5) (T := TX5) (N := 28) hx hb hts (inT inX5) hown hK hP 42 ww_42 rfl 3 (by decide) (hts (.fieldLink RX5 85 "BoardMovesModel" "parts" "I") (List.mem_cons_of_mem _ flX5_85)) (fun _ h9 => h9) rfl dX5_push_186 ?_
                                refine bm_ni_ge (x := i_62) (y := ms.2.2.1) (tgt := 234) hx hb (by omega) (by omega) dX5_push_189 (by decide) (fun c_68 => ?_) (fun c_68 => ?_)
                                · refine lv_aload_n hx hb dX5_push_234 rfl (lv_at hl 5 rfl) ?_
                                  refine lv_iconst (v := nI 0) hx hb dX5_push_235 (by decide) ?_
                                  refine lv_iconst (v := nI 1) hx hb dX5_push_236 (by decide) ?_
                                  refine bm_xcallV (As := [.int (nI 0), .int (nI 1)]) (rest := []) ⟨hx, hb, hml, hown, hts⟩ (y_copy (mt := (0)) (mp := (g_46, g_47, g_14)) (mn := (mn.1, mn.2.1, mn.2.2.1, mn.2.2.2.1, g_48)) (zt := 0) (zf := 1) ok_15 (by omega) (by omega)) (cwV 2 hts gvX5_132 rfl rfl rfl hvX5_copy ⟨Nat.le_of_ble_eq_true rfl, Nat.le_of_ble_eq_true rfl⟩) hK hP hD hS hA 42 5 rfl ww_42 rfl hl.1 rfl (Nat.le_of_ble_eq_true rfl) dX5_push_237 ⟨Nat.le_of_ble_eq_true rfl, Nat.le_of_ble_eq_true rfl⟩ (fun ws_69 r_70 h_71 H locs hP hD hS => ?_)
                                  obtain ⟨g_72, g_73, g_74, ok_75, rfl, rfl⟩ := h_71
                                  have hP : va_P D vwCl (WW ad cJ cI cZ bm pa p0 p1 p2 li wi (0) ms ma (g_72, g_73, g_74) mk (mn.1, mn.2.1, mn.2.2.1, mn.2.2.2.1, g_48) ou) H := hP
                                  have hD : va_D A (WW ad cJ cI cZ bm pa p0 p1 p2 li wi (0) ms ma (g_72, g_73, g_74) mk (mn.1, mn.2.1, mn.2.2.1, mn.2.2.2.1, g_48) ou) := hD
                                  refine lv_iload hx hb dX5_push_240 (lv_at hl 1 rfl) ?_
                                  exact bm_iretX (v := v_65) hx hb hr hP hD hK hS ⟨(0), ms, ma, (g_72, g_73, g_74), mk, (mn.1, mn.2.1, mn.2.2.1, mn.2.2.2.1, g_48), ⟨ok_ms_parts, ok_ms_outs, ok_ms_nears, ok_ms_nets, ok_ms_pins, ok_ma_sides, ok_ma_groups, ok_75, ok_mk_nearOne, ok_mk_nearTwo, ok_mn_pinNet, ok_mn_pinPart, hw, hh⟩, rfl, rfl, v_65, rfl⟩ dX5_push_242 hlocks
                                · refine lv_iload hx hb dX5_push_192 (lv_at hl 1 rfl) ?_
                                  refine lv_iload hx hb dX5_push_194 (lv_at hl 0 rfl) ?_
                                  refine lv_iload_n hx hb dX5_push_196 rfl (lv_at hl 6 rfl) ?_
                                  refine bm_ni_eq (x := i_62) (y := k_zA) (tgt := 224) hx hb (by omega) (by omega) dX5_push_197 (by decide) (fun c_76 => ?_) (fun c_76 => ?_)
                                  · refine lv_iconst (v := nI 0) hx hb dX5_push_224 (by decide) ?_
                                    refine lv_iadd hx hb dX5_push_225 ?_
                                    refine lv_topi (fun t_77 _ => ?_)
                                    refine lv_istore (lv' := [(11, .int t_77), (12, .int (nI i_62)), (10, .int (nI 3)), (8, .long t_26), (6, .long t_21), (0, .ref (ad 42)), (1, .int (nI k_zA)), (2, .long zB), (4, .long zC)]) hx hb dX5_push_226 hl (by decide) rfl (fun ls hl => ?_)
                                    refine lv_iinc (v := (nI (i_62 + 1))) (lv' := [(12, .int (nI (i_62 + 1))), (11, .int t_77), (10, .int (nI 3)), (8, .long t_26), (6, .long t_21), (0, .ref (ad 42)), (1, .int (nI k_zA)), (2, .long zB), (4, .long zC)]) hx hb dX5_push_228 hl (k := 1) rfl (nI_1 i_62) (by decide) rfl (fun ls hl => ?_)
                                    refine lv_goto (tgt := 183) hx hb dX5_push_231 (by decide) ?_
                                    exact ih_64 (i_62 + 1) t_77 (by omega) (by omega)  _ _ hP hD hS _ (lv_sub hl [0, 1, 2, 3, 4, 5, 6, 7, 8] rfl)
                                  · refine lv_aload_n hx hb dX5_push_200 rfl (lv_at hl 5 rfl) ?_
                                    refine va_get (D := D) (ci := 5) (v := .ref (ad 49)) (C := RX5) (T := TX5) (N := 28) hx hb hts (inT inX5) hown hK hP 42 ww_42 rfl 10 (by decide) (hts (.fieldLink RX5 30 "BoardMovesModel" "placed" "[Z") (List.mem_cons_of_mem _ flX5_30)) (fun _ h9 => h9) rfl dX5_push_201 ?_
                                    refine lv_iload hx hb dX5_push_204 (lv_at hl 0 rfl) ?_
                                    refine bm_zald (f := ma.2.2.2.2.2.2) hx hb hK hP 49 2 ww_49 rfl (j := i_62) (by omega) (by decide) dX5_push_206 ?_
                                    refine bm_zb_eq (x := (ma.2.2.2.2.2.2 i_62)) (tgt := 224) hx hb dX5_push_207 (by decide) (fun c_78 => ?_) (fun c_78 => ?_)
                                    · refine lv_iconst (v := nI 0) hx hb dX5_push_224 (by decide) ?_
                                      refine lv_iadd hx hb dX5_push_225 ?_
                                      refine lv_topi (fun t_79 _ => ?_)
                                      refine lv_istore (lv' := [(11, .int t_79), (12, .int (nI i_62)), (10, .int (nI 3)), (8, .long t_26), (6, .long t_21), (0, .ref (ad 42)), (1, .int (nI k_zA)), (2, .long zB), (4, .long zC)]) hx hb dX5_push_226 hl (by decide) rfl (fun ls hl => ?_)
                                      refine lv_iinc (v := (nI (i_62 + 1))) (lv' := [(12, .int (nI (i_62 + 1))), (11, .int t_79), (10, .int (nI 3)), (8, .long t_26), (6, .long t_21), (0, .ref (ad 42)), (1, .int (nI k_zA)), (2, .long zB), (4, .long zC)]) hx hb dX5_push_228 hl (k := 1) rfl (nI_1 i_62) (by decide) rfl (fun ls hl => ?_)
                                      refine lv_goto (tgt := 183) hx hb dX5_push_231 (by decide) ?_
                                      exact ih_64 (i_62 + 1) t_79 (by omega) (by omega)  _ _ hP hD hS _ (lv_sub hl [0, 1, 2, 3, 4, 5, 6, 7, 8] rfl)
                                    · refine lv_aload_n hx hb dX5_push_210 rfl (lv_at hl 5 rfl) ?_
                                      refine lv_iconst (v := nI 1) hx hb dX5_push_211 (by decide) ?_
                                      refine lv_iload hx hb dX5_push_212 (lv_at hl 0 rfl) ?_
                                      refine bm_xcallV (As := [.int (nI 1), .int (nI i_62)]) (rest := [.int v_65]) ⟨hx, hb, hml, hown, hts⟩ (y_same (mt := (0)) (mp := (g_46, g_47, g_14)) (mn := (mn.1, mn.2.1, mn.2.2.1, mn.2.2.2.1, g_48)) (zr := 1) (zp := i_62) ok_15 (by omega) (by omega)) (cwV 2 hts gvX5_136 rfl rfl rfl hvX5_isSame ⟨Nat.le_of_ble_eq_true rfl, Nat.le_of_ble_eq_true rfl⟩) hK hP hD hS hA 42 5 rfl ww_42 rfl hl.1 rfl (Nat.le_of_ble_eq_true rfl) dX5_push_214 ⟨Nat.le_of_ble_eq_true rfl, Nat.le_of_ble_eq_true rfl⟩ (fun ws_80 r_81 h_82 H locs hP hD hS => ?_)
                                      obtain ⟨rfl, v_83, rfl⟩ := h_82
                                      have hP : va_P D vwCl (WW ad cJ cI cZ bm pa p0 p1 p2 li wi (0) ms ma (g_46, g_47, g_14) mk (mn.1, mn.2.1, mn.2.2.1, mn.2.2.2.1, g_48) ou) H := hP
                                      have hD : va_D A (WW ad cJ cI cZ bm pa p0 p1 p2 li wi (0) ms ma (g_46, g_47, g_14) mk (mn.1, mn.2.1, mn.2.2.1, mn.2.2.2.1, g_48) ou) := hD
                                      refine bm_zb_ne (x := v_83) (tgt := 224) hx hb dX5_push_217 (by decide) (fun c_84 => ?_) (fun c_84 => ?_)
                                      · refine lv_iconst (v := nI 0) hx hb dX5_push_224 (by decide) ?_
                                        refine lv_iadd hx hb dX5_push_225 ?_
                                        refine lv_topi (fun t_85 _ => ?_)
                                        refine lv_istore (lv' := [(11, .int t_85), (12, .int (nI i_62)), (10, .int (nI 3)), (8, .long t_26), (6, .long t_21), (0, .ref (ad 42)), (1, .int (nI k_zA)), (2, .long zB), (4, .long zC)]) hx hb dX5_push_226 hl (by decide) rfl (fun ls hl => ?_)
                                        refine lv_iinc (v := (nI (i_62 + 1))) (lv' := [(12, .int (nI (i_62 + 1))), (11, .int t_85), (10, .int (nI 3)), (8, .long t_26), (6, .long t_21), (0, .ref (ad 42)), (1, .int (nI k_zA)), (2, .long zB), (4, .long zC)]) hx hb dX5_push_228 hl (k := 1) rfl (nI_1 i_62) (by decide) rfl (fun ls hl => ?_)
                                        refine lv_goto (tgt := 183) hx hb dX5_push_231 (by decide) ?_
                                        exact ih_64 (i_62 + 1) t_85 (by omega) (by omega)  _ _ hP hD hS _ (lv_sub hl [0, 1, 2, 3, 4, 5, 6, 7, 8] rfl)
                                      · refine lv_iconst (v := nI 1) hx hb dX5_push_220 (by decide) ?_
                                        refine lv_goto (tgt := 225) hx hb dX5_push_221 (by decide) ?_
                                        refine lv_iadd hx hb dX5_push_225 ?_
                                        refine lv_topi (fun t_86 _ => ?_)
                                        refine lv_istore (lv' := [(11, .int t_86), (12, .int (nI i_62)), (10, .int (nI 3)), (8, .long t_26), (6, .long t_21), (0, .ref (ad 42)), (1, .int (nI k_zA)), (2, .long zB), (4, .long zC)]) hx hb dX5_push_226 hl (by decide) rfl (fun ls hl => ?_)
                                        refine lv_iinc (v := (nI (i_62 + 1))) (lv' := [(12, .int (nI (i_62 + 1))), (11, .int t_86), (10, .int (nI 3)), (8, .long t_26), (6, .long t_21), (0, .ref (ad 42)), (1, .int (nI k_zA)), (2, .long zB), (4, .long zC)]) hx hb dX5_push_228 hl (k := 1) rfl (nI_1 i_62) (by decide) rfl (fun ls hl => ?_)
                                        refine lv_goto (tgt := 183) hx hb dX5_push_231 (by decide) ?_
                                        exact ih_64 (i_62 + 1) t_86 (by omega) (by omega)  _ _ hP hD hS _ (lv_sub hl [0, 1, 2, 3, 4, 5, 6, 7, 8] rfl)
                            exact lp_61 (ms.2.2.1 + 1) 0 0 (by omega) (by omega)  _ _ hP hD hS _ (lv_sub hl [0, 1, 2, 3, 4, 5, 6, 7, 8] rfl)
                          · refine lv_iconst (v := -1) hx hb dX5_push_175 (by decide) ?_
                            exact bm_iretX (v := (-1)) hx hb hr hP hD hK hS ⟨(0), ms, ma, (g_46, g_47, g_14), mk, (mn.1, mn.2.1, mn.2.2.1, mn.2.2.2.1, g_48), ⟨ok_ms_parts, ok_ms_outs, ok_ms_nears, ok_ms_nets, ok_ms_pins, ok_ma_sides, ok_ma_groups, ok_15, ok_mk_nearOne, ok_mk_nearTwo, ok_mn_pinNet, ok_mn_pinPart, hw, hh⟩, rfl, rfl, (-1), rfl⟩ dX5_push_176 hlocks
                    · refine lv_iconst (v := nI 2) hx hb dX5_push_134 (by decide) ?_
                      refine lv_goto (tgt := 139) hx hb dX5_push_135 (by decide) ?_
                      refine lv_istore (lv' := [(10, .int (nI 2)), (8, .long t_26), (6, .long t_21), (0, .ref (ad 42)), (1, .int (nI k_zA)), (2, .long zB), (4, .long zC)]) hx hb dX5_push_139 hl (by decide) rfl (fun ls hl => ?_)
                      refine lv_aload_n hx hb dX5_push_141 rfl (lv_at hl 3 rfl) ?_
                      refine lv_iload_n hx hb dX5_push_142 rfl (lv_at hl 4 rfl) ?_
                      refine lv_lload hx hb dX5_push_143 (lv_at hl 2 rfl) ?_
                      refine lv_lload hx hb dX5_push_145 (lv_at hl 1 rfl) ?_
                      refine bm_xcallV (As := [.int (nI k_zA), .long t_21, .long t_26]) (rest := []) ⟨hx, hb, hml, hown, hts⟩ (y_go (mt := (0)) (mp := (g_12, g_13, g_14)) (mn := (mn.1, mn.2.1, mn.2.2.1, mn.2.2.2.1, g_16)) (zp := k_zA) (z1 := t_21) (z2 := t_26) ok_ms_parts ok_ma_groups (by omega)) (cwV 3 hts gvX5_149 rfl rfl rfl hvX5_go ⟨Nat.le_of_ble_eq_true rfl, Nat.le_of_ble_eq_true rfl⟩) hK hP hD hS hA 42 5 rfl ww_42 rfl hl.1 rfl (Nat.le_of_ble_eq_true rfl) dX5_push_147 ⟨Nat.le_of_ble_eq_true rfl, Nat.le_of_ble_eq_true rfl⟩ (fun ws_87 r_88 h_89 H locs hP hD hS => ?_)
                      obtain ⟨g_90, g_91, g_92, rfl, rfl⟩ := h_89
                      have hP : va_P D vwCl (WW ad cJ cI cZ bm pa p0 p1 p2 li wi (0) ms ma (g_90, g_91, g_14) mk (mn.1, mn.2.1, mn.2.2.1, mn.2.2.2.1, g_92) ou) H := hP
                      have hD : va_D A (WW ad cJ cI cZ bm pa p0 p1 p2 li wi (0) ms ma (g_90, g_91, g_14) mk (mn.1, mn.2.1, mn.2.2.1, mn.2.2.2.1, g_92) ou) := hD
                      refine lv_aload_n hx hb dX5_push_150 rfl (lv_at hl 3 rfl) ?_
                      refine lv_iload_n hx hb dX5_push_151 rfl (lv_at hl 4 rfl) ?_
                      refine lv_iload hx hb dX5_push_152 (lv_at hl 0 rfl) ?_
                      refine bm_xcallV (As := [.int (nI k_zA), .int (nI 2)]) (rest := []) ⟨hx, hb, hml, hown, hts⟩ (y_shove (mt := (0)) (mp := (g_90, g_91, g_14)) (mn := (mn.1, mn.2.1, mn.2.2.1, mn.2.2.2.1, g_92)) (zp := k_zA) (zw := 2) ok_ms_parts ok_ma_groups ok_15 ok_ma_sides (by omega) (by omega)) (cwV 2 hts gvX5_192 rfl rfl rfl hvX5_shove ⟨Nat.le_of_ble_eq_true rfl, Nat.le_of_ble_eq_true rfl⟩) hK hP hD hS hA 42 5 rfl ww_42 rfl hl.1 rfl (Nat.le_of_ble_eq_true rfl) dX5_push_154 ⟨Nat.le_of_ble_eq_true rfl, Nat.le_of_ble_eq_true rfl⟩ (fun ws_93 r_94 h_95 H locs hP hD hS => ?_)
                      obtain ⟨g_96, g_97, g_98, rfl, v_99, rfl⟩ := h_95
                      have hP : va_P D vwCl (WW ad cJ cI cZ bm pa p0 p1 p2 li wi (0) ms ma (g_96, g_97, g_14) mk (mn.1, mn.2.1, mn.2.2.1, mn.2.2.2.1, g_98) ou) H := hP
                      have hD : va_D A (WW ad cJ cI cZ bm pa p0 p1 p2 li wi (0) ms ma (g_96, g_97, g_14) mk (mn.1, mn.2.1, mn.2.2.1, mn.2.2.2.1, g_98) ou) := hD
                      refine bm_zb_eq (x := v_99) (tgt := 175) hx hb dX5_push_157 (by decide) (fun c_100 => ?_) (fun c_100 => ?_)
                      · refine lv_iconst (v := -1) hx hb dX5_push_175 (by decide) ?_
                        exact bm_iretX (v := (-1)) hx hb hr hP hD hK hS ⟨(0), ms, ma, (g_96, g_97, g_14), mk, (mn.1, mn.2.1, mn.2.2.1, mn.2.2.2.1, g_98), ⟨ok_ms_parts, ok_ms_outs, ok_ms_nears, ok_ms_nets, ok_ms_pins, ok_ma_sides, ok_ma_groups, ok_15, ok_mk_nearOne, ok_mk_nearTwo, ok_mn_pinNet, ok_mn_pinPart, hw, hh⟩, rfl, rfl, (-1), rfl⟩ dX5_push_176 hlocks
                      · refine lv_aload_n hx hb dX5_push_160 rfl (lv_at hl 3 rfl) ?_
                        refine bm_xcallV (As := []) (rest := []) ⟨hx, hb, hml, hown, hts⟩ (y_locked (mt := (0)) (mp := (g_96, g_97, g_14)) (mn := (mn.1, mn.2.1, mn.2.2.1, mn.2.2.2.1, g_98))  ok_ms_parts ok_15 ) (cwV 0 hts gvX5_153 rfl rfl rfl hvX5_movesLocked ⟨Nat.le_of_ble_eq_true rfl, Nat.le_of_ble_eq_true rfl⟩) hK hP hD hS hA 42 5 rfl ww_42 rfl hl.1 rfl (Nat.le_of_ble_eq_true rfl) dX5_push_161 ⟨Nat.le_of_ble_eq_true rfl, Nat.le_of_ble_eq_true rfl⟩ (fun ws_101 r_102 h_103 H locs hP hD hS => ?_)
                        obtain ⟨rfl, v_104, rfl⟩ := h_103
                        have hP : va_P D vwCl (WW ad cJ cI cZ bm pa p0 p1 p2 li wi (0) ms ma (g_96, g_97, g_14) mk (mn.1, mn.2.1, mn.2.2.1, mn.2.2.2.1, g_98) ou) H := hP
                        have hD : va_D A (WW ad cJ cI cZ bm pa p0 p1 p2 li wi (0) ms ma (g_96, g_97, g_14) mk (mn.1, mn.2.1, mn.2.2.1, mn.2.2.2.1, g_98) ou) := hD
                        refine bm_zb_ne (x := v_104) (tgt := 175) hx hb dX5_push_164 (by decide) (fun c_105 => ?_) (fun c_105 => ?_)
                        · refine lv_iconst (v := -1) hx hb dX5_push_175 (by decide) ?_
                          exact bm_iretX (v := (-1)) hx hb hr hP hD hK hS ⟨(0), ms, ma, (g_96, g_97, g_14), mk, (mn.1, mn.2.1, mn.2.2.1, mn.2.2.2.1, g_98), ⟨ok_ms_parts, ok_ms_outs, ok_ms_nears, ok_ms_nets, ok_ms_pins, ok_ma_sides, ok_ma_groups, ok_15, ok_mk_nearOne, ok_mk_nearTwo, ok_mn_pinNet, ok_mn_pinPart, hw, hh⟩, rfl, rfl, (-1), rfl⟩ dX5_push_176 hlocks
                        · refine lv_aload_n hx hb dX5_push_167 rfl (lv_at hl 3 rfl) ?_
                          refine lv_iconst (v := nI 1) hx hb dX5_push_168 (by decide) ?_
                          refine bm_xcallV (As := [.int (nI 1)]) (rest := []) ⟨hx, hb, hml, hown, hts⟩ (y_isWell (mt := (0)) (mp := (g_96, g_97, g_14)) (mn := (mn.1, mn.2.1, mn.2.2.1, mn.2.2.2.1, g_98)) (zr := 1) ok_15 ok_ms_parts ok_ms_outs ok_ma_sides ok_ms_nears ok_mk_nearOne ok_mk_nearTwo (by omega)) (cwV 1 hts gvX5_157 rfl rfl rfl hvX5_isWell ⟨Nat.le_of_ble_eq_true rfl, Nat.le_of_ble_eq_true rfl⟩) hK hP hD hS hA 42 5 rfl ww_42 rfl hl.1 rfl (Nat.le_of_ble_eq_true rfl) dX5_push_169 ⟨Nat.le_of_ble_eq_true rfl, Nat.le_of_ble_eq_true rfl⟩ (fun ws_106 r_107 h_108 H locs hP hD hS => ?_)
                          obtain ⟨rfl, v_109, rfl⟩ := h_108
                          have hP : va_P D vwCl (WW ad cJ cI cZ bm pa p0 p1 p2 li wi (0) ms ma (g_96, g_97, g_14) mk (mn.1, mn.2.1, mn.2.2.1, mn.2.2.2.1, g_98) ou) H := hP
                          have hD : va_D A (WW ad cJ cI cZ bm pa p0 p1 p2 li wi (0) ms ma (g_96, g_97, g_14) mk (mn.1, mn.2.1, mn.2.2.1, mn.2.2.2.1, g_98) ou) := hD
                          refine bm_zb_ne (x := v_109) (tgt := 177) hx hb dX5_push_172 (by decide) (fun c_110 => ?_) (fun c_110 => ?_)
                          · refine lv_iconst (v := nI 0) hx hb dX5_push_177 (by decide) ?_
                            refine lv_istore (lv' := [(11, .int (nI 0)), (10, .int (nI 2)), (8, .long t_26), (6, .long t_21), (0, .ref (ad 42)), (1, .int (nI k_zA)), (2, .long zB), (4, .long zC)]) hx hb dX5_push_178 hl (by decide) rfl (fun ls hl => ?_)
                            refine lv_iconst (v := nI 0) hx hb dX5_push_180 (by decide) ?_
                            refine lv_istore (lv' := [(12, .int (nI 0)), (11, .int (nI 0)), (10, .int (nI 2)), (8, .long t_26), (6, .long t_21), (0, .ref (ad 42)), (1, .int (nI k_zA)), (2, .long zB), (4, .long zC)]) hx hb dX5_push_181 hl (by decide) rfl (fun ls hl => ?_)
                            have lp_111 : ∀ (k_113 : Nat) (i_112 : Nat) (v_115 : Int32), i_112 ≤ ms.2.2.1 → ms.2.2.1 < i_112 + k_113 → ∀ (H : Heap) (locs : List Loc), va_P D vwCl (WW ad cJ cI cZ bm pa p0 p1 p2 li wi (0) ms ma (g_96, g_97, g_14) mk (mn.1, mn.2.1, mn.2.2.1, mn.2.2.2.1, g_98) ou) H → va_D A (WW ad cJ cI cZ bm pa p0 p1 p2 li wi (0) ms ma (g_96, g_97, g_14) mk (mn.1, mn.2.1, mn.2.2.1, mn.2.2.2.1, g_98) ou) → va_S A s.heap H locs → ∀ (ls : Array Slot), lv_has ls 13 [(12, .int (nI i_112)), (11, .int v_115), (10, .int (nI 2)), (8, .long t_26), (6, .long t_21), (0, .ref (ad 42)), (1, .int (nI k_zA)), (2, .long zB), (4, .long zC)] → W p l e (headSpec wsX5_push ({ frames := 5, cells := 0, slots := 0, locals := 117 })).room s m args below meth c H locs 0 0 (MQ below (bm_Wxq D vwCl [(cJ, .long), (cI, .int), (cZ, .boolean)] (PMI ad cJ cI cZ bm pa p0 p1 p2 li wi mt ms ma mp mk mn ou) A) args s 0 0 A) (F0 m 183 ls []) := by
                              intro k_113
                              induction k_113 with
                              | zero => intro i_112 v_115 hi_116 hk_117; exfalso; omega
                              | succ k_113 ih_114 =>
                                intro i_112 v_115 hi_116 hk_117  H locs hP hD hS ls hl
                                refine lv_iload hx hb dX5_push_183 (lv_at hl 0 rfl) ?_
                                refine lv_aload_n hx hb dX5_push_185 rfl (lv_at hl 5 rfl) ?_
                                refine va_get (D := D) (ci := 5) (v := .int (nI ms.2.2.1)) (C := RX5) (T := TX5) (N := 28) hx hb hts (inT inX5) hown hK hP 42 ww_42 rfl 3 (by decide) (hts (.fieldLink RX5 85 "BoardMovesModel" "parts" "I") (List.mem_cons_of_mem _ flX5_85)) (fun _ h9 => h9) rfl dX5_push_186 ?_
                                refine bm_ni_ge (x := i_112) (y := ms.2.2.1) (tgt := 234) hx hb (by omega) (by omega) dX5_push_189 (by decide) (fun c_118 => ?_) (fun c_118 => ?_)
                                · refine lv_aload_n hx hb dX5_push_234 rfl (lv_at hl 5 rfl) ?_
                                  refine lv_iconst (v := nI 0) hx hb dX5_push_235 (by decide) ?_
                                  refine lv_iconst (v := nI 1) hx hb dX5_push_236 (by decide) ?_
                                  refine bm_xcallV (As := [.int (nI 0), .int (nI 1)]) (rest := []) ⟨hx, hb, hml, hown, hts⟩ (y_copy (mt := (0)) (mp := (g_96, g_97, g_14)) (mn := (mn.1, mn.2.1, mn.2.2.1, mn.2.2.2.1, g_98)) (zt := 0) (zf := 1) ok_15 (by omega) (by omega)) (cwV 2 hts gvX5_132 rfl rfl rfl hvX5_copy ⟨Nat.le_of_ble_eq_true rfl, Nat.le_of_ble_eq_true rfl⟩) hK hP hD hS hA 42 5 rfl ww_42 rfl hl.1 rfl (Nat.le_of_ble_eq_true rfl) dX5_push_237 ⟨Nat.le_of_ble_eq_true rfl, Nat.le_of_ble_eq_true rfl⟩ (fun ws_119 r_120 h_121 H locs hP hD hS => ?_)
                                  obtain ⟨g_122, g_123, g_124, ok_125, rfl, rfl⟩ := h_121
                                  have hP : va_P D vwCl (WW ad cJ cI cZ bm pa p0 p1 p2 li wi (0) ms ma (g_122, g_123, g_124) mk (mn.1, mn.2.1, mn.2.2.1, mn.2.2.2.1, g_98) ou) H := hP
                                  have hD : va_D A (WW ad cJ cI cZ bm pa p0 p1 p2 li wi (0) ms ma (g_122, g_123, g_124) mk (mn.1, mn.2.1, mn.2.2.1, mn.2.2.2.1, g_98) ou) := hD
                                  refine lv_iload hx hb dX5_push_240 (lv_at hl 1 rfl) ?_
                                  exact bm_iretX (v := v_115) hx hb hr hP hD hK hS ⟨(0), ms, ma, (g_122, g_123, g_124), mk, (mn.1, mn.2.1, mn.2.2.1, mn.2.2.2.1, g_98), ⟨ok_ms_parts, ok_ms_outs, ok_ms_nears, ok_ms_nets, ok_ms_pins, ok_ma_sides, ok_ma_groups, ok_125, ok_mk_nearOne, ok_mk_nearTwo, ok_mn_pinNet, ok_mn_pinPart, hw, hh⟩, rfl, rfl, v_115, rfl⟩ dX5_push_242 hlocks
                                · refine lv_iload hx hb dX5_push_192 (lv_at hl 1 rfl) ?_
                                  refine lv_iload hx hb dX5_push_194 (lv_at hl 0 rfl) ?_
                                  refine lv_iload_n hx hb dX5_push_196 rfl (lv_at hl 6 rfl) ?_
                                  refine bm_ni_eq (x := i_112) (y := k_zA) (tgt := 224) hx hb (by omega) (by omega) dX5_push_197 (by decide) (fun c_126 => ?_) (fun c_126 => ?_)
                                  · refine lv_iconst (v := nI 0) hx hb dX5_push_224 (by decide) ?_
                                    refine lv_iadd hx hb dX5_push_225 ?_
                                    refine lv_topi (fun t_127 _ => ?_)
                                    refine lv_istore (lv' := [(11, .int t_127), (12, .int (nI i_112)), (10, .int (nI 2)), (8, .long t_26), (6, .long t_21), (0, .ref (ad 42)), (1, .int (nI k_zA)), (2, .long zB), (4, .long zC)]) hx hb dX5_push_226 hl (by decide) rfl (fun ls hl => ?_)
                                    refine lv_iinc (v := (nI (i_112 + 1))) (lv' := [(12, .int (nI (i_112 + 1))), (11, .int t_127), (10, .int (nI 2)), (8, .long t_26), (6, .long t_21), (0, .ref (ad 42)), (1, .int (nI k_zA)), (2, .long zB), (4, .long zC)]) hx hb dX5_push_228 hl (k := 1) rfl (nI_1 i_112) (by decide) rfl (fun ls hl => ?_)
                                    refine lv_goto (tgt := 183) hx hb dX5_push_231 (by decide) ?_
                                    exact ih_114 (i_112 + 1) t_127 (by omega) (by omega)  _ _ hP hD hS _ (lv_sub hl [0, 1, 2, 3, 4, 5, 6, 7, 8] rfl)
                                  · refine lv_aload_n hx hb dX5_push_200 rfl (lv_at hl 5 rfl) ?_
                                    refine va_get (D := D) (ci := 5) (v := .ref (ad 49)) (C := RX5) (T := TX5) (N := 28) hx hb hts (inT inX5) hown hK hP 42 ww_42 rfl 10 (by decide) (hts (.fieldLink RX5 30 "BoardMovesModel" "placed" "[Z") (List.mem_cons_of_mem _ flX5_30)) (fun _ h9 => h9) rfl dX5_push_201 ?_
                                    refine lv_iload hx hb dX5_push_204 (lv_at hl 0 rfl) ?_
                                    refine bm_zald (f := ma.2.2.2.2.2.2) hx hb hK hP 49 2 ww_49 rfl (j := i_112) (by omega) (by decide) dX5_push_206 ?_
                                    refine bm_zb_eq (x := (ma.2.2.2.2.2.2 i_112)) (tgt := 224) hx hb dX5_push_207 (by decide) (fun c_128 => ?_) (fun c_128 => ?_)
                                    · refine lv_iconst (v := nI 0) hx hb dX5_push_224 (by decide) ?_
                                      refine lv_iadd hx hb dX5_push_225 ?_
                                      refine lv_topi (fun t_129 _ => ?_)
                                      refine lv_istore (lv' := [(11, .int t_129), (12, .int (nI i_112)), (10, .int (nI 2)), (8, .long t_26), (6, .long t_21), (0, .ref (ad 42)), (1, .int (nI k_zA)), (2, .long zB), (4, .long zC)]) hx hb dX5_push_226 hl (by decide) rfl (fun ls hl => ?_)
                                      refine lv_iinc (v := (nI (i_112 + 1))) (lv' := [(12, .int (nI (i_112 + 1))), (11, .int t_129), (10, .int (nI 2)), (8, .long t_26), (6, .long t_21), (0, .ref (ad 42)), (1, .int (nI k_zA)), (2, .long zB), (4, .long zC)]) hx hb dX5_push_228 hl (k := 1) rfl (nI_1 i_112) (by decide) rfl (fun ls hl => ?_)
                                      refine lv_goto (tgt := 183) hx hb dX5_push_231 (by decide) ?_
                                      exact ih_114 (i_112 + 1) t_129 (by omega) (by omega)  _ _ hP hD hS _ (lv_sub hl [0, 1, 2, 3, 4, 5, 6, 7, 8] rfl)
                                    · refine lv_aload_n hx hb dX5_push_210 rfl (lv_at hl 5 rfl) ?_
                                      refine lv_iconst (v := nI 1) hx hb dX5_push_211 (by decide) ?_
                                      refine lv_iload hx hb dX5_push_212 (lv_at hl 0 rfl) ?_
                                      refine bm_xcallV (As := [.int (nI 1), .int (nI i_112)]) (rest := [.int v_115]) ⟨hx, hb, hml, hown, hts⟩ (y_same (mt := (0)) (mp := (g_96, g_97, g_14)) (mn := (mn.1, mn.2.1, mn.2.2.1, mn.2.2.2.1, g_98)) (zr := 1) (zp := i_112) ok_15 (by omega) (by omega)) (cwV 2 hts gvX5_136 rfl rfl rfl hvX5_isSame ⟨Nat.le_of_ble_eq_true rfl, Nat.le_of_ble_eq_true rfl⟩) hK hP hD hS hA 42 5 rfl ww_42 rfl hl.1 rfl (Nat.le_of_ble_eq_true rfl) dX5_push_214 ⟨Nat.le_of_ble_eq_true rfl, Nat.le_of_ble_eq_true rfl⟩ (fun ws_130 r_131 h_132 H locs hP hD hS => ?_)
                                      obtain ⟨rfl, v_133, rfl⟩ := h_132
                                      have hP : va_P D vwCl (WW ad cJ cI cZ bm pa p0 p1 p2 li wi (0) ms ma (g_96, g_97, g_14) mk (mn.1, mn.2.1, mn.2.2.1, mn.2.2.2.1, g_98) ou) H := hP
                                      have hD : va_D A (WW ad cJ cI cZ bm pa p0 p1 p2 li wi (0) ms ma (g_96, g_97, g_14) mk (mn.1, mn.2.1, mn.2.2.1, mn.2.2.2.1, g_98) ou) := hD
                                      refine bm_zb_ne (x := v_133) (tgt := 224) hx hb dX5_push_217 (by decide) (fun c_134 => ?_) (fun c_134 => ?_)
                                      · refine lv_iconst (v := nI 0) hx hb dX5_push_224 (by decide) ?_
                                        refine lv_iadd hx hb dX5_push_225 ?_
                                        refine lv_topi (fun t_135 _ => ?_)
                                        refine lv_istore (lv' := [(11, .int t_135), (12, .int (nI i_112)), (10, .int (nI 2)), (8, .long t_26), (6, .long t_21), (0, .ref (ad 42)), (1, .int (nI k_zA)), (2, .long zB), (4, .long zC)]) hx hb dX5_push_226 hl (by decide) rfl (fun ls hl => ?_)
                                        refine lv_iinc (v := (nI (i_112 + 1))) (lv' := [(12, .int (nI (i_112 + 1))), (11, .int t_135), (10, .int (nI 2)), (8, .long t_26), (6, .long t_21), (0, .ref (ad 42)), (1, .int (nI k_zA)), (2, .long zB), (4, .long zC)]) hx hb dX5_push_228 hl (k := 1) rfl (nI_1 i_112) (by decide) rfl (fun ls hl => ?_)
                                        refine lv_goto (tgt := 183) hx hb dX5_push_231 (by decide) ?_
                                        exact ih_114 (i_112 + 1) t_135 (by omega) (by omega)  _ _ hP hD hS _ (lv_sub hl [0, 1, 2, 3, 4, 5, 6, 7, 8] rfl)
                                      · refine lv_iconst (v := nI 1) hx hb dX5_push_220 (by decide) ?_
                                        refine lv_goto (tgt := 225) hx hb dX5_push_221 (by decide) ?_
                                        refine lv_iadd hx hb dX5_push_225 ?_
                                        refine lv_topi (fun t_136 _ => ?_)
                                        refine lv_istore (lv' := [(11, .int t_136), (12, .int (nI i_112)), (10, .int (nI 2)), (8, .long t_26), (6, .long t_21), (0, .ref (ad 42)), (1, .int (nI k_zA)), (2, .long zB), (4, .long zC)]) hx hb dX5_push_226 hl (by decide) rfl (fun ls hl => ?_)
                                        refine lv_iinc (v := (nI (i_112 + 1))) (lv' := [(12, .int (nI (i_112 + 1))), (11, .int t_136), (10, .int (nI 2)), (8, .long t_26), (6, .long t_21), (0, .ref (ad 42)), (1, .int (nI k_zA)), (2, .long zB), (4, .long zC)]) hx hb dX5_push_228 hl (k := 1) rfl (nI_1 i_112) (by decide) rfl (fun ls hl => ?_)
                                        refine lv_goto (tgt := 183) hx hb dX5_push_231 (by decide) ?_
                                        exact ih_114 (i_112 + 1) t_136 (by omega) (by omega)  _ _ hP hD hS _ (lv_sub hl [0, 1, 2, 3, 4, 5, 6, 7, 8] rfl)
                            exact lp_111 (ms.2.2.1 + 1) 0 0 (by omega) (by omega)  _ _ hP hD hS _ (lv_sub hl [0, 1, 2, 3, 4, 5, 6, 7, 8] rfl)
                          · refine lv_iconst (v := -1) hx hb dX5_push_175 (by decide) ?_
                            exact bm_iretX (v := (-1)) hx hb hr hP hD hK hS ⟨(0), ms, ma, (g_96, g_97, g_14), mk, (mn.1, mn.2.1, mn.2.2.1, mn.2.2.2.1, g_98), ⟨ok_ms_parts, ok_ms_outs, ok_ms_nears, ok_ms_nets, ok_ms_pins, ok_ma_sides, ok_ma_groups, ok_15, ok_mk_nearOne, ok_mk_nearTwo, ok_mn_pinNet, ok_mn_pinPart, hw, hh⟩, rfl, rfl, (-1), rfl⟩ dX5_push_176 hlocks
                  · refine lv_lload hx hb dX5_push_112 (lv_at hl 1 rfl) ?_
                    refine lv_lconst (v := 0) hx hb dX5_push_114 (by decide) ?_
                    refine bm_lc_lt (x := t_21) (y := 0) (tgt := 123) hx hb dX5_push_115 dX5_push_116 (by decide) (fun c_137 => ?_) (fun c_137 => ?_)
                    · refine lv_iconst (v := nI 1) hx hb dX5_push_123 (by decide) ?_
                      refine lv_goto (tgt := 139) hx hb dX5_push_124 (by decide) ?_
                      refine lv_istore (lv' := [(10, .int (nI 1)), (8, .long t_26), (6, .long t_21), (0, .ref (ad 42)), (1, .int (nI k_zA)), (2, .long zB), (4, .long zC)]) hx hb dX5_push_139 hl (by decide) rfl (fun ls hl => ?_)
                      refine lv_aload_n hx hb dX5_push_141 rfl (lv_at hl 3 rfl) ?_
                      refine lv_iload_n hx hb dX5_push_142 rfl (lv_at hl 4 rfl) ?_
                      refine lv_lload hx hb dX5_push_143 (lv_at hl 2 rfl) ?_
                      refine lv_lload hx hb dX5_push_145 (lv_at hl 1 rfl) ?_
                      refine bm_xcallV (As := [.int (nI k_zA), .long t_21, .long t_26]) (rest := []) ⟨hx, hb, hml, hown, hts⟩ (y_go (mt := (0)) (mp := (g_12, g_13, g_14)) (mn := (mn.1, mn.2.1, mn.2.2.1, mn.2.2.2.1, g_16)) (zp := k_zA) (z1 := t_21) (z2 := t_26) ok_ms_parts ok_ma_groups (by omega)) (cwV 3 hts gvX5_149 rfl rfl rfl hvX5_go ⟨Nat.le_of_ble_eq_true rfl, Nat.le_of_ble_eq_true rfl⟩) hK hP hD hS hA 42 5 rfl ww_42 rfl hl.1 rfl (Nat.le_of_ble_eq_true rfl) dX5_push_147 ⟨Nat.le_of_ble_eq_true rfl, Nat.le_of_ble_eq_true rfl⟩ (fun ws_138 r_139 h_140 H locs hP hD hS => ?_)
                      obtain ⟨g_141, g_142, g_143, rfl, rfl⟩ := h_140
                      have hP : va_P D vwCl (WW ad cJ cI cZ bm pa p0 p1 p2 li wi (0) ms ma (g_141, g_142, g_14) mk (mn.1, mn.2.1, mn.2.2.1, mn.2.2.2.1, g_143) ou) H := hP
                      have hD : va_D A (WW ad cJ cI cZ bm pa p0 p1 p2 li wi (0) ms ma (g_141, g_142, g_14) mk (mn.1, mn.2.1, mn.2.2.1, mn.2.2.2.1, g_143) ou) := hD
                      refine lv_aload_n hx hb dX5_push_150 rfl (lv_at hl 3 rfl) ?_
                      refine lv_iload_n hx hb dX5_push_151 rfl (lv_at hl 4 rfl) ?_
                      refine lv_iload hx hb dX5_push_152 (lv_at hl 0 rfl) ?_
                      refine bm_xcallV (As := [.int (nI k_zA), .int (nI 1)]) (rest := []) ⟨hx, hb, hml, hown, hts⟩ (y_shove (mt := (0)) (mp := (g_141, g_142, g_14)) (mn := (mn.1, mn.2.1, mn.2.2.1, mn.2.2.2.1, g_143)) (zp := k_zA) (zw := 1) ok_ms_parts ok_ma_groups ok_15 ok_ma_sides (by omega) (by omega)) (cwV 2 hts gvX5_192 rfl rfl rfl hvX5_shove ⟨Nat.le_of_ble_eq_true rfl, Nat.le_of_ble_eq_true rfl⟩) hK hP hD hS hA 42 5 rfl ww_42 rfl hl.1 rfl (Nat.le_of_ble_eq_true rfl) dX5_push_154 ⟨Nat.le_of_ble_eq_true rfl, Nat.le_of_ble_eq_true rfl⟩ (fun ws_144 r_145 h_146 H locs hP hD hS => ?_)
                      obtain ⟨g_147, g_148, g_149, rfl, v_150, rfl⟩ := h_146
                      have hP : va_P D vwCl (WW ad cJ cI cZ bm pa p0 p1 p2 li wi (0) ms ma (g_147, g_148, g_14) mk (mn.1, mn.2.1, mn.2.2.1, mn.2.2.2.1, g_149) ou) H := hP
                      have hD : va_D A (WW ad cJ cI cZ bm pa p0 p1 p2 li wi (0) ms ma (g_147, g_148, g_14) mk (mn.1, mn.2.1, mn.2.2.1, mn.2.2.2.1, g_149) ou) := hD
                      refine bm_zb_eq (x := v_150) (tgt := 175) hx hb dX5_push_157 (by decide) (fun c_151 => ?_) (fun c_151 => ?_)
                      · refine lv_iconst (v := -1) hx hb dX5_push_175 (by decide) ?_
                        exact bm_iretX (v := (-1)) hx hb hr hP hD hK hS ⟨(0), ms, ma, (g_147, g_148, g_14), mk, (mn.1, mn.2.1, mn.2.2.1, mn.2.2.2.1, g_149), ⟨ok_ms_parts, ok_ms_outs, ok_ms_nears, ok_ms_nets, ok_ms_pins, ok_ma_sides, ok_ma_groups, ok_15, ok_mk_nearOne, ok_mk_nearTwo, ok_mn_pinNet, ok_mn_pinPart, hw, hh⟩, rfl, rfl, (-1), rfl⟩ dX5_push_176 hlocks
                      · refine lv_aload_n hx hb dX5_push_160 rfl (lv_at hl 3 rfl) ?_
                        refine bm_xcallV (As := []) (rest := []) ⟨hx, hb, hml, hown, hts⟩ (y_locked (mt := (0)) (mp := (g_147, g_148, g_14)) (mn := (mn.1, mn.2.1, mn.2.2.1, mn.2.2.2.1, g_149))  ok_ms_parts ok_15 ) (cwV 0 hts gvX5_153 rfl rfl rfl hvX5_movesLocked ⟨Nat.le_of_ble_eq_true rfl, Nat.le_of_ble_eq_true rfl⟩) hK hP hD hS hA 42 5 rfl ww_42 rfl hl.1 rfl (Nat.le_of_ble_eq_true rfl) dX5_push_161 ⟨Nat.le_of_ble_eq_true rfl, Nat.le_of_ble_eq_true rfl⟩ (fun ws_152 r_153 h_154 H locs hP hD hS => ?_)
                        obtain ⟨rfl, v_155, rfl⟩ := h_154
                        have hP : va_P D vwCl (WW ad cJ cI cZ bm pa p0 p1 p2 li wi (0) ms ma (g_147, g_148, g_14) mk (mn.1, mn.2.1, mn.2.2.1, mn.2.2.2.1, g_149) ou) H := hP
                        have hD : va_D A (WW ad cJ cI cZ bm pa p0 p1 p2 li wi (0) ms ma (g_147, g_148, g_14) mk (mn.1, mn.2.1, mn.2.2.1, mn.2.2.2.1, g_149) ou) := hD
                        refine bm_zb_ne (x := v_155) (tgt := 175) hx hb dX5_push_164 (by decide) (fun c_156 => ?_) (fun c_156 => ?_)
                        · refine lv_iconst (v := -1) hx hb dX5_push_175 (by decide) ?_
                          exact bm_iretX (v := (-1)) hx hb hr hP hD hK hS ⟨(0), ms, ma, (g_147, g_148, g_14), mk, (mn.1, mn.2.1, mn.2.2.1, mn.2.2.2.1, g_149), ⟨ok_ms_parts, ok_ms_outs, ok_ms_nears, ok_ms_nets, ok_ms_pins, ok_ma_sides, ok_ma_groups, ok_15, ok_mk_nearOne, ok_mk_nearTwo, ok_mn_pinNet, ok_mn_pinPart, hw, hh⟩, rfl, rfl, (-1), rfl⟩ dX5_push_176 hlocks
                        · refine lv_aload_n hx hb dX5_push_167 rfl (lv_at hl 3 rfl) ?_
                          refine lv_iconst (v := nI 1) hx hb dX5_push_168 (by decide) ?_
                          refine bm_xcallV (As := [.int (nI 1)]) (rest := []) ⟨hx, hb, hml, hown, hts⟩ (y_isWell (mt := (0)) (mp := (g_147, g_148, g_14)) (mn := (mn.1, mn.2.1, mn.2.2.1, mn.2.2.2.1, g_149)) (zr := 1) ok_15 ok_ms_parts ok_ms_outs ok_ma_sides ok_ms_nears ok_mk_nearOne ok_mk_nearTwo (by omega)) (cwV 1 hts gvX5_157 rfl rfl rfl hvX5_isWell ⟨Nat.le_of_ble_eq_true rfl, Nat.le_of_ble_eq_true rfl⟩) hK hP hD hS hA 42 5 rfl ww_42 rfl hl.1 rfl (Nat.le_of_ble_eq_true rfl) dX5_push_169 ⟨Nat.le_of_ble_eq_true rfl, Nat.le_of_ble_eq_true rfl⟩ (fun ws_157 r_158 h_159 H locs hP hD hS => ?_)
                          obtain ⟨rfl, v_160, rfl⟩ := h_159
                          have hP : va_P D vwCl (WW ad cJ cI cZ bm pa p0 p1 p2 li wi (0) ms ma (g_147, g_148, g_14) mk (mn.1, mn.2.1, mn.2.2.1, mn.2.2.2.1, g_149) ou) H := hP
                          have hD : va_D A (WW ad cJ cI cZ bm pa p0 p1 p2 li wi (0) ms ma (g_147, g_148, g_14) mk (mn.1, mn.2.1, mn.2.2.1, mn.2.2.2.1, g_149) ou) := hD
                          refine bm_zb_ne (x := v_160) (tgt := 177) hx hb dX5_push_172 (by decide) (fun c_161 => ?_) (fun c_161 => ?_)
                          · refine lv_iconst (v := nI 0) hx hb dX5_push_177 (by decide) ?_
                            refine lv_istore (lv' := [(11, .int (nI 0)), (10, .int (nI 1)), (8, .long t_26), (6, .long t_21), (0, .ref (ad 42)), (1, .int (nI k_zA)), (2, .long zB), (4, .long zC)]) hx hb dX5_push_178 hl (by decide) rfl (fun ls hl => ?_)
                            refine lv_iconst (v := nI 0) hx hb dX5_push_180 (by decide) ?_
                            refine lv_istore (lv' := [(12, .int (nI 0)), (11, .int (nI 0)), (10, .int (nI 1)), (8, .long t_26), (6, .long t_21), (0, .ref (ad 42)), (1, .int (nI k_zA)), (2, .long zB), (4, .long zC)]) hx hb dX5_push_181 hl (by decide) rfl (fun ls hl => ?_)
                            have lp_162 : ∀ (k_164 : Nat) (i_163 : Nat) (v_166 : Int32), i_163 ≤ ms.2.2.1 → ms.2.2.1 < i_163 + k_164 → ∀ (H : Heap) (locs : List Loc), va_P D vwCl (WW ad cJ cI cZ bm pa p0 p1 p2 li wi (0) ms ma (g_147, g_148, g_14) mk (mn.1, mn.2.1, mn.2.2.1, mn.2.2.2.1, g_149) ou) H → va_D A (WW ad cJ cI cZ bm pa p0 p1 p2 li wi (0) ms ma (g_147, g_148, g_14) mk (mn.1, mn.2.1, mn.2.2.1, mn.2.2.2.1, g_149) ou) → va_S A s.heap H locs → ∀ (ls : Array Slot), lv_has ls 13 [(12, .int (nI i_163)), (11, .int v_166), (10, .int (nI 1)), (8, .long t_26), (6, .long t_21), (0, .ref (ad 42)), (1, .int (nI k_zA)), (2, .long zB), (4, .long zC)] → W p l e (headSpec wsX5_push ({ frames := 5, cells := 0, slots := 0, locals := 117 })).room s m args below meth c H locs 0 0 (MQ below (bm_Wxq D vwCl [(cJ, .long), (cI, .int), (cZ, .boolean)] (PMI ad cJ cI cZ bm pa p0 p1 p2 li wi mt ms ma mp mk mn ou) A) args s 0 0 A) (F0 m 183 ls []) := by
                              intro k_164
                              induction k_164 with
                              | zero => intro i_163 v_166 hi_167 hk_168; exfalso; omega
                              | succ k_164 ih_165 =>
                                intro i_163 v_166 hi_167 hk_168  H locs hP hD hS ls hl
                                refine lv_iload hx hb dX5_push_183 (lv_at hl 0 rfl) ?_
                                refine lv_aload_n hx hb dX5_push_185 rfl (lv_at hl 5 rfl) ?_
                                refine va_get (D := D) (ci := 5) (v := .int (nI ms.2.2.1)) (C := RX5) (T := TX5) (N := 28) hx hb hts (inT inX5) hown hK hP 42 ww_42 rfl 3 (by decide) (hts (.fieldLink RX5 85 "BoardMovesModel" "parts" "I") (List.mem_cons_of_mem _ flX5_85)) (fun _ h9 => h9) rfl dX5_push_186 ?_
                                refine bm_ni_ge (x := i_163) (y := ms.2.2.1) (tgt := 234) hx hb (by omega) (by omega) dX5_push_189 (by decide) (fun c_169 => ?_) (fun c_169 => ?_)
                                · refine lv_aload_n hx hb dX5_push_234 rfl (lv_at hl 5 rfl) ?_
                                  refine lv_iconst (v := nI 0) hx hb dX5_push_235 (by decide) ?_
                                  refine lv_iconst (v := nI 1) hx hb dX5_push_236 (by decide) ?_
                                  refine bm_xcallV (As := [.int (nI 0), .int (nI 1)]) (rest := []) ⟨hx, hb, hml, hown, hts⟩ (y_copy (mt := (0)) (mp := (g_147, g_148, g_14)) (mn := (mn.1, mn.2.1, mn.2.2.1, mn.2.2.2.1, g_149)) (zt := 0) (zf := 1) ok_15 (by omega) (by omega)) (cwV 2 hts gvX5_132 rfl rfl rfl hvX5_copy ⟨Nat.le_of_ble_eq_true rfl, Nat.le_of_ble_eq_true rfl⟩) hK hP hD hS hA 42 5 rfl ww_42 rfl hl.1 rfl (Nat.le_of_ble_eq_true rfl) dX5_push_237 ⟨Nat.le_of_ble_eq_true rfl, Nat.le_of_ble_eq_true rfl⟩ (fun ws_170 r_171 h_172 H locs hP hD hS => ?_)
                                  obtain ⟨g_173, g_174, g_175, ok_176, rfl, rfl⟩ := h_172
                                  have hP : va_P D vwCl (WW ad cJ cI cZ bm pa p0 p1 p2 li wi (0) ms ma (g_173, g_174, g_175) mk (mn.1, mn.2.1, mn.2.2.1, mn.2.2.2.1, g_149) ou) H := hP
                                  have hD : va_D A (WW ad cJ cI cZ bm pa p0 p1 p2 li wi (0) ms ma (g_173, g_174, g_175) mk (mn.1, mn.2.1, mn.2.2.1, mn.2.2.2.1, g_149) ou) := hD
                                  refine lv_iload hx hb dX5_push_240 (lv_at hl 1 rfl) ?_
                                  exact bm_iretX (v := v_166) hx hb hr hP hD hK hS ⟨(0), ms, ma, (g_173, g_174, g_175), mk, (mn.1, mn.2.1, mn.2.2.1, mn.2.2.2.1, g_149), ⟨ok_ms_parts, ok_ms_outs, ok_ms_nears, ok_ms_nets, ok_ms_pins, ok_ma_sides, ok_ma_groups, ok_176, ok_mk_nearOne, ok_mk_nearTwo, ok_mn_pinNet, ok_mn_pinPart, hw, hh⟩, rfl, rfl, v_166, rfl⟩ dX5_push_242 hlocks
                                · refine lv_iload hx hb dX5_push_192 (lv_at hl 1 rfl) ?_
                                  refine lv_iload hx hb dX5_push_194 (lv_at hl 0 rfl) ?_
                                  refine lv_iload_n hx hb dX5_push_196 rfl (lv_at hl 6 rfl) ?_
                                  refine bm_ni_eq (x := i_163) (y := k_zA) (tgt := 224) hx hb (by omega) (by omega) dX5_push_197 (by decide) (fun c_177 => ?_) (fun c_177 => ?_)
                                  · refine lv_iconst (v := nI 0) hx hb dX5_push_224 (by decide) ?_
                                    refine lv_iadd hx hb dX5_push_225 ?_
                                    refine lv_topi (fun t_178 _ => ?_)
                                    refine lv_istore (lv' := [(11, .int t_178), (12, .int (nI i_163)), (10, .int (nI 1)), (8, .long t_26), (6, .long t_21), (0, .ref (ad 42)), (1, .int (nI k_zA)), (2, .long zB), (4, .long zC)]) hx hb dX5_push_226 hl (by decide) rfl (fun ls hl => ?_)
                                    refine lv_iinc (v := (nI (i_163 + 1))) (lv' := [(12, .int (nI (i_163 + 1))), (11, .int t_178), (10, .int (nI 1)), (8, .long t_26), (6, .long t_21), (0, .ref (ad 42)), (1, .int (nI k_zA)), (2, .long zB), (4, .long zC)]) hx hb dX5_push_228 hl (k := 1) rfl (nI_1 i_163) (by decide) rfl (fun ls hl => ?_)
                                    refine lv_goto (tgt := 183) hx hb dX5_push_231 (by decide) ?_
                                    exact ih_165 (i_163 + 1) t_178 (by omega) (by omega)  _ _ hP hD hS _ (lv_sub hl [0, 1, 2, 3, 4, 5, 6, 7, 8] rfl)
                                  · refine lv_aload_n hx hb dX5_push_200 rfl (lv_at hl 5 rfl) ?_
                                    refine va_get (D := D) (ci := 5) (v := .ref (ad 49)) (C := RX5) (T := TX5) (N := 28) hx hb hts (inT inX5) hown hK hP 42 ww_42 rfl 10 (by decide) (hts (.fieldLink RX5 30 "BoardMovesModel" "placed" "[Z") (List.mem_cons_of_mem _ flX5_30)) (fun _ h9 => h9) rfl dX5_push_201 ?_
                                    refine lv_iload hx hb dX5_push_204 (lv_at hl 0 rfl) ?_
                                    refine bm_zald (f := ma.2.2.2.2.2.2) hx hb hK hP 49 2 ww_49 rfl (j := i_163) (by omega) (by decide) dX5_push_206 ?_
                                    refine bm_zb_eq (x := (ma.2.2.2.2.2.2 i_163)) (tgt := 224) hx hb dX5_push_207 (by decide) (fun c_179 => ?_) (fun c_179 => ?_)
                                    · refine lv_iconst (v := nI 0) hx hb dX5_push_224 (by decide) ?_
                                      refine lv_iadd hx hb dX5_push_225 ?_
                                      refine lv_topi (fun t_180 _ => ?_)
                                      refine lv_istore (lv' := [(11, .int t_180), (12, .int (nI i_163)), (10, .int (nI 1)), (8, .long t_26), (6, .long t_21), (0, .ref (ad 42)), (1, .int (nI k_zA)), (2, .long zB), (4, .long zC)]) hx hb dX5_push_226 hl (by decide) rfl (fun ls hl => ?_)
                                      refine lv_iinc (v := (nI (i_163 + 1))) (lv' := [(12, .int (nI (i_163 + 1))), (11, .int t_180), (10, .int (nI 1)), (8, .long t_26), (6, .long t_21), (0, .ref (ad 42)), (1, .int (nI k_zA)), (2, .long zB), (4, .long zC)]) hx hb dX5_push_228 hl (k := 1) rfl (nI_1 i_163) (by decide) rfl (fun ls hl => ?_)
                                      refine lv_goto (tgt := 183) hx hb dX5_push_231 (by decide) ?_
                                      exact ih_165 (i_163 + 1) t_180 (by omega) (by omega)  _ _ hP hD hS _ (lv_sub hl [0, 1, 2, 3, 4, 5, 6, 7, 8] rfl)
                                    · refine lv_aload_n hx hb dX5_push_210 rfl (lv_at hl 5 rfl) ?_
                                      refine lv_iconst (v := nI 1) hx hb dX5_push_211 (by decide) ?_
                                      refine lv_iload hx hb dX5_push_212 (lv_at hl 0 rfl) ?_
                                      refine bm_xcallV (As := [.int (nI 1), .int (nI i_163)]) (rest := [.int v_166]) ⟨hx, hb, hml, hown, hts⟩ (y_same (mt := (0)) (mp := (g_147, g_148, g_14)) (mn := (mn.1, mn.2.1, mn.2.2.1, mn.2.2.2.1, g_149)) (zr := 1) (zp := i_163) ok_15 (by omega) (by omega)) (cwV 2 hts gvX5_136 rfl rfl rfl hvX5_isSame ⟨Nat.le_of_ble_eq_true rfl, Nat.le_of_ble_eq_true rfl⟩) hK hP hD hS hA 42 5 rfl ww_42 rfl hl.1 rfl (Nat.le_of_ble_eq_true rfl) dX5_push_214 ⟨Nat.le_of_ble_eq_true rfl, Nat.le_of_ble_eq_true rfl⟩ (fun ws_181 r_182 h_183 H locs hP hD hS => ?_)
                                      obtain ⟨rfl, v_184, rfl⟩ := h_183
                                      have hP : va_P D vwCl (WW ad cJ cI cZ bm pa p0 p1 p2 li wi (0) ms ma (g_147, g_148, g_14) mk (mn.1, mn.2.1, mn.2.2.1, mn.2.2.2.1, g_149) ou) H := hP
                                      have hD : va_D A (WW ad cJ cI cZ bm pa p0 p1 p2 li wi (0) ms ma (g_147, g_148, g_14) mk (mn.1, mn.2.1, mn.2.2.1, mn.2.2.2.1, g_149) ou) := hD
                                      refine bm_zb_ne (x := v_184) (tgt := 224) hx hb dX5_push_217 (by decide) (fun c_185 => ?_) (fun c_185 => ?_)
                                      · refine lv_iconst (v := nI 0) hx hb dX5_push_224 (by decide) ?_
                                        refine lv_iadd hx hb dX5_push_225 ?_
                                        refine lv_topi (fun t_186 _ => ?_)
                                        refine lv_istore (lv' := [(11, .int t_186), (12, .int (nI i_163)), (10, .int (nI 1)), (8, .long t_26), (6, .long t_21), (0, .ref (ad 42)), (1, .int (nI k_zA)), (2, .long zB), (4, .long zC)]) hx hb dX5_push_226 hl (by decide) rfl (fun ls hl => ?_)
                                        refine lv_iinc (v := (nI (i_163 + 1))) (lv' := [(12, .int (nI (i_163 + 1))), (11, .int t_186), (10, .int (nI 1)), (8, .long t_26), (6, .long t_21), (0, .ref (ad 42)), (1, .int (nI k_zA)), (2, .long zB), (4, .long zC)]) hx hb dX5_push_228 hl (k := 1) rfl (nI_1 i_163) (by decide) rfl (fun ls hl => ?_)
                                        refine lv_goto (tgt := 183) hx hb dX5_push_231 (by decide) ?_
                                        exact ih_165 (i_163 + 1) t_186 (by omega) (by omega)  _ _ hP hD hS _ (lv_sub hl [0, 1, 2, 3, 4, 5, 6, 7, 8] rfl)
                                      · refine lv_iconst (v := nI 1) hx hb dX5_push_220 (by decide) ?_
                                        refine lv_goto (tgt := 225) hx hb dX5_push_221 (by decide) ?_
                                        refine lv_iadd hx hb dX5_push_225 ?_
                                        refine lv_topi (fun t_187 _ => ?_)
                                        refine lv_istore (lv' := [(11, .int t_187), (12, .int (nI i_163)), (10, .int (nI 1)), (8, .long t_26), (6, .long t_21), (0, .ref (ad 42)), (1, .int (nI k_zA)), (2, .long zB), (4, .long zC)]) hx hb dX5_push_226 hl (by decide) rfl (fun ls hl => ?_)
                                        refine lv_iinc (v := (nI (i_163 + 1))) (lv' := [(12, .int (nI (i_163 + 1))), (11, .int t_187), (10, .int (nI 1)), (8, .long t_26), (6, .long t_21), (0, .ref (ad 42)), (1, .int (nI k_zA)), (2, .long zB), (4, .long zC)]) hx hb dX5_push_228 hl (k := 1) rfl (nI_1 i_163) (by decide) rfl (fun ls hl => ?_)
                                        refine lv_goto (tgt := 183) hx hb dX5_push_231 (by decide) ?_
                                        exact ih_165 (i_163 + 1) t_187 (by omega) (by omega)  _ _ hP hD hS _ (lv_sub hl [0, 1, 2, 3, 4, 5, 6, 7, 8] rfl)
                            exact lp_162 (ms.2.2.1 + 1) 0 0 (by omega) (by omega)  _ _ hP hD hS _ (lv_sub hl [0, 1, 2, 3, 4, 5, 6, 7, 8] rfl)
                          · refine lv_iconst (v := -1) hx hb dX5_push_175 (by decide) ?_
                            exact bm_iretX (v := (-1)) hx hb hr hP hD hK hS ⟨(0), ms, ma, (g_147, g_148, g_14), mk, (mn.1, mn.2.1, mn.2.2.1, mn.2.2.2.1, g_149), ⟨ok_ms_parts, ok_ms_outs, ok_ms_nears, ok_ms_nets, ok_ms_pins, ok_ma_sides, ok_ma_groups, ok_15, ok_mk_nearOne, ok_mk_nearTwo, ok_mn_pinNet, ok_mn_pinPart, hw, hh⟩, rfl, rfl, (-1), rfl⟩ dX5_push_176 hlocks
                    · refine lv_iconst (v := nI 0) hx hb dX5_push_119 (by decide) ?_
                      refine lv_goto (tgt := 139) hx hb dX5_push_120 (by decide) ?_
                      refine lv_istore (lv' := [(10, .int (nI 0)), (8, .long t_26), (6, .long t_21), (0, .ref (ad 42)), (1, .int (nI k_zA)), (2, .long zB), (4, .long zC)]) hx hb dX5_push_139 hl (by decide) rfl (fun ls hl => ?_)
                      refine lv_aload_n hx hb dX5_push_141 rfl (lv_at hl 3 rfl) ?_
                      refine lv_iload_n hx hb dX5_push_142 rfl (lv_at hl 4 rfl) ?_
                      refine lv_lload hx hb dX5_push_143 (lv_at hl 2 rfl) ?_
                      refine lv_lload hx hb dX5_push_145 (lv_at hl 1 rfl) ?_
                      refine bm_xcallV (As := [.int (nI k_zA), .long t_21, .long t_26]) (rest := []) ⟨hx, hb, hml, hown, hts⟩ (y_go (mt := (0)) (mp := (g_12, g_13, g_14)) (mn := (mn.1, mn.2.1, mn.2.2.1, mn.2.2.2.1, g_16)) (zp := k_zA) (z1 := t_21) (z2 := t_26) ok_ms_parts ok_ma_groups (by omega)) (cwV 3 hts gvX5_149 rfl rfl rfl hvX5_go ⟨Nat.le_of_ble_eq_true rfl, Nat.le_of_ble_eq_true rfl⟩) hK hP hD hS hA 42 5 rfl ww_42 rfl hl.1 rfl (Nat.le_of_ble_eq_true rfl) dX5_push_147 ⟨Nat.le_of_ble_eq_true rfl, Nat.le_of_ble_eq_true rfl⟩ (fun ws_188 r_189 h_190 H locs hP hD hS => ?_)
                      obtain ⟨g_191, g_192, g_193, rfl, rfl⟩ := h_190
                      have hP : va_P D vwCl (WW ad cJ cI cZ bm pa p0 p1 p2 li wi (0) ms ma (g_191, g_192, g_14) mk (mn.1, mn.2.1, mn.2.2.1, mn.2.2.2.1, g_193) ou) H := hP
                      have hD : va_D A (WW ad cJ cI cZ bm pa p0 p1 p2 li wi (0) ms ma (g_191, g_192, g_14) mk (mn.1, mn.2.1, mn.2.2.1, mn.2.2.2.1, g_193) ou) := hD
                      refine lv_aload_n hx hb dX5_push_150 rfl (lv_at hl 3 rfl) ?_
                      refine lv_iload_n hx hb dX5_push_151 rfl (lv_at hl 4 rfl) ?_
                      refine lv_iload hx hb dX5_push_152 (lv_at hl 0 rfl) ?_
                      refine bm_xcallV (As := [.int (nI k_zA), .int (nI 0)]) (rest := []) ⟨hx, hb, hml, hown, hts⟩ (y_shove (mt := (0)) (mp := (g_191, g_192, g_14)) (mn := (mn.1, mn.2.1, mn.2.2.1, mn.2.2.2.1, g_193)) (zp := k_zA) (zw := 0) ok_ms_parts ok_ma_groups ok_15 ok_ma_sides (by omega) (by omega)) (cwV 2 hts gvX5_192 rfl rfl rfl hvX5_shove ⟨Nat.le_of_ble_eq_true rfl, Nat.le_of_ble_eq_true rfl⟩) hK hP hD hS hA 42 5 rfl ww_42 rfl hl.1 rfl (Nat.le_of_ble_eq_true rfl) dX5_push_154 ⟨Nat.le_of_ble_eq_true rfl, Nat.le_of_ble_eq_true rfl⟩ (fun ws_194 r_195 h_196 H locs hP hD hS => ?_)
                      obtain ⟨g_197, g_198, g_199, rfl, v_200, rfl⟩ := h_196
                      have hP : va_P D vwCl (WW ad cJ cI cZ bm pa p0 p1 p2 li wi (0) ms ma (g_197, g_198, g_14) mk (mn.1, mn.2.1, mn.2.2.1, mn.2.2.2.1, g_199) ou) H := hP
                      have hD : va_D A (WW ad cJ cI cZ bm pa p0 p1 p2 li wi (0) ms ma (g_197, g_198, g_14) mk (mn.1, mn.2.1, mn.2.2.1, mn.2.2.2.1, g_199) ou) := hD
                      refine bm_zb_eq (x := v_200) (tgt := 175) hx hb dX5_push_157 (by decide) (fun c_201 => ?_) (fun c_201 => ?_)
                      · refine lv_iconst (v := -1) hx hb dX5_push_175 (by decide) ?_
                        exact bm_iretX (v := (-1)) hx hb hr hP hD hK hS ⟨(0), ms, ma, (g_197, g_198, g_14), mk, (mn.1, mn.2.1, mn.2.2.1, mn.2.2.2.1, g_199), ⟨ok_ms_parts, ok_ms_outs, ok_ms_nears, ok_ms_nets, ok_ms_pins, ok_ma_sides, ok_ma_groups, ok_15, ok_mk_nearOne, ok_mk_nearTwo, ok_mn_pinNet, ok_mn_pinPart, hw, hh⟩, rfl, rfl, (-1), rfl⟩ dX5_push_176 hlocks
                      · refine lv_aload_n hx hb dX5_push_160 rfl (lv_at hl 3 rfl) ?_
                        refine bm_xcallV (As := []) (rest := []) ⟨hx, hb, hml, hown, hts⟩ (y_locked (mt := (0)) (mp := (g_197, g_198, g_14)) (mn := (mn.1, mn.2.1, mn.2.2.1, mn.2.2.2.1, g_199))  ok_ms_parts ok_15 ) (cwV 0 hts gvX5_153 rfl rfl rfl hvX5_movesLocked ⟨Nat.le_of_ble_eq_true rfl, Nat.le_of_ble_eq_true rfl⟩) hK hP hD hS hA 42 5 rfl ww_42 rfl hl.1 rfl (Nat.le_of_ble_eq_true rfl) dX5_push_161 ⟨Nat.le_of_ble_eq_true rfl, Nat.le_of_ble_eq_true rfl⟩ (fun ws_202 r_203 h_204 H locs hP hD hS => ?_)
                        obtain ⟨rfl, v_205, rfl⟩ := h_204
                        have hP : va_P D vwCl (WW ad cJ cI cZ bm pa p0 p1 p2 li wi (0) ms ma (g_197, g_198, g_14) mk (mn.1, mn.2.1, mn.2.2.1, mn.2.2.2.1, g_199) ou) H := hP
                        have hD : va_D A (WW ad cJ cI cZ bm pa p0 p1 p2 li wi (0) ms ma (g_197, g_198, g_14) mk (mn.1, mn.2.1, mn.2.2.1, mn.2.2.2.1, g_199) ou) := hD
                        refine bm_zb_ne (x := v_205) (tgt := 175) hx hb dX5_push_164 (by decide) (fun c_206 => ?_) (fun c_206 => ?_)
                        · refine lv_iconst (v := -1) hx hb dX5_push_175 (by decide) ?_
                          exact bm_iretX (v := (-1)) hx hb hr hP hD hK hS ⟨(0), ms, ma, (g_197, g_198, g_14), mk, (mn.1, mn.2.1, mn.2.2.1, mn.2.2.2.1, g_199), ⟨ok_ms_parts, ok_ms_outs, ok_ms_nears, ok_ms_nets, ok_ms_pins, ok_ma_sides, ok_ma_groups, ok_15, ok_mk_nearOne, ok_mk_nearTwo, ok_mn_pinNet, ok_mn_pinPart, hw, hh⟩, rfl, rfl, (-1), rfl⟩ dX5_push_176 hlocks
                        · refine lv_aload_n hx hb dX5_push_167 rfl (lv_at hl 3 rfl) ?_
                          refine lv_iconst (v := nI 1) hx hb dX5_push_168 (by decide) ?_
                          refine bm_xcallV (As := [.int (nI 1)]) (rest := []) ⟨hx, hb, hml, hown, hts⟩ (y_isWell (mt := (0)) (mp := (g_197, g_198, g_14)) (mn := (mn.1, mn.2.1, mn.2.2.1, mn.2.2.2.1, g_199)) (zr := 1) ok_15 ok_ms_parts ok_ms_outs ok_ma_sides ok_ms_nears ok_mk_nearOne ok_mk_nearTwo (by omega)) (cwV 1 hts gvX5_157 rfl rfl rfl hvX5_isWell ⟨Nat.le_of_ble_eq_true rfl, Nat.le_of_ble_eq_true rfl⟩) hK hP hD hS hA 42 5 rfl ww_42 rfl hl.1 rfl (Nat.le_of_ble_eq_true rfl) dX5_push_169 ⟨Nat.le_of_ble_eq_true rfl, Nat.le_of_ble_eq_true rfl⟩ (fun ws_207 r_208 h_209 H locs hP hD hS => ?_)
                          obtain ⟨rfl, v_210, rfl⟩ := h_209
                          have hP : va_P D vwCl (WW ad cJ cI cZ bm pa p0 p1 p2 li wi (0) ms ma (g_197, g_198, g_14) mk (mn.1, mn.2.1, mn.2.2.1, mn.2.2.2.1, g_199) ou) H := hP
                          have hD : va_D A (WW ad cJ cI cZ bm pa p0 p1 p2 li wi (0) ms ma (g_197, g_198, g_14) mk (mn.1, mn.2.1, mn.2.2.1, mn.2.2.2.1, g_199) ou) := hD
                          refine bm_zb_ne (x := v_210) (tgt := 177) hx hb dX5_push_172 (by decide) (fun c_211 => ?_) (fun c_211 => ?_)
                          · refine lv_iconst (v := nI 0) hx hb dX5_push_177 (by decide) ?_
                            refine lv_istore (lv' := [(11, .int (nI 0)), (10, .int (nI 0)), (8, .long t_26), (6, .long t_21), (0, .ref (ad 42)), (1, .int (nI k_zA)), (2, .long zB), (4, .long zC)]) hx hb dX5_push_178 hl (by decide) rfl (fun ls hl => ?_)
                            refine lv_iconst (v := nI 0) hx hb dX5_push_180 (by decide) ?_
                            refine lv_istore (lv' := [(12, .int (nI 0)), (11, .int (nI 0)), (10, .int (nI 0)), (8, .long t_26), (6, .long t_21), (0, .ref (ad 42)), (1, .int (nI k_zA)), (2, .long zB), (4, .long zC)]) hx hb dX5_push_181 hl (by decide) rfl (fun ls hl => ?_)
                            have lp_212 : ∀ (k_214 : Nat) (i_213 : Nat) (v_216 : Int32), i_213 ≤ ms.2.2.1 → ms.2.2.1 < i_213 + k_214 → ∀ (H : Heap) (locs : List Loc), va_P D vwCl (WW ad cJ cI cZ bm pa p0 p1 p2 li wi (0) ms ma (g_197, g_198, g_14) mk (mn.1, mn.2.1, mn.2.2.1, mn.2.2.2.1, g_199) ou) H → va_D A (WW ad cJ cI cZ bm pa p0 p1 p2 li wi (0) ms ma (g_197, g_198, g_14) mk (mn.1, mn.2.1, mn.2.2.1, mn.2.2.2.1, g_199) ou) → va_S A s.heap H locs → ∀ (ls : Array Slot), lv_has ls 13 [(12, .int (nI i_213)), (11, .int v_216), (10, .int (nI 0)), (8, .long t_26), (6, .long t_21), (0, .ref (ad 42)), (1, .int (nI k_zA)), (2, .long zB), (4, .long zC)] → W p l e (headSpec wsX5_push ({ frames := 5, cells := 0, slots := 0, locals := 117 })).room s m args below meth c H locs 0 0 (MQ below (bm_Wxq D vwCl [(cJ, .long), (cI, .int), (cZ, .boolean)] (PMI ad cJ cI cZ bm pa p0 p1 p2 li wi mt ms ma mp mk mn ou) A) args s 0 0 A) (F0 m 183 ls []) := by
                              intro k_214
                              induction k_214 with
                              | zero => intro i_213 v_216 hi_217 hk_218; exfalso; omega
                              | succ k_214 ih_215 =>
                                intro i_213 v_216 hi_217 hk_218  H locs hP hD hS ls hl
                                refine lv_iload hx hb dX5_push_183 (lv_at hl 0 rfl) ?_
                                refine lv_aload_n hx hb dX5_push_185 rfl (lv_at hl 5 rfl) ?_
                                refine va_get (D := D) (ci := 5) (v := .int (nI ms.2.2.1)) (C := RX5) (T := TX5) (N := 28) hx hb hts (inT inX5) hown hK hP 42 ww_42 rfl 3 (by decide) (hts (.fieldLink RX5 85 "BoardMovesModel" "parts" "I") (List.mem_cons_of_mem _ flX5_85)) (fun _ h9 => h9) rfl dX5_push_186 ?_
                                refine bm_ni_ge (x := i_213) (y := ms.2.2.1) (tgt := 234) hx hb (by omega) (by omega) dX5_push_189 (by decide) (fun c_219 => ?_) (fun c_219 => ?_)
                                · refine lv_aload_n hx hb dX5_push_234 rfl (lv_at hl 5 rfl) ?_
                                  refine lv_iconst (v := nI 0) hx hb dX5_push_235 (by decide) ?_
                                  refine lv_iconst (v := nI 1) hx hb dX5_push_236 (by decide) ?_
                                  refine bm_xcallV (As := [.int (nI 0), .int (nI 1)]) (rest := []) ⟨hx, hb, hml, hown, hts⟩ (y_copy (mt := (0)) (mp := (g_197, g_198, g_14)) (mn := (mn.1, mn.2.1, mn.2.2.1, mn.2.2.2.1, g_199)) (zt := 0) (zf := 1) ok_15 (by omega) (by omega)) (cwV 2 hts gvX5_132 rfl rfl rfl hvX5_copy ⟨Nat.le_of_ble_eq_true rfl, Nat.le_of_ble_eq_true rfl⟩) hK hP hD hS hA 42 5 rfl ww_42 rfl hl.1 rfl (Nat.le_of_ble_eq_true rfl) dX5_push_237 ⟨Nat.le_of_ble_eq_true rfl, Nat.le_of_ble_eq_true rfl⟩ (fun ws_220 r_221 h_222 H locs hP hD hS => ?_)
                                  obtain ⟨g_223, g_224, g_225, ok_226, rfl, rfl⟩ := h_222
                                  have hP : va_P D vwCl (WW ad cJ cI cZ bm pa p0 p1 p2 li wi (0) ms ma (g_223, g_224, g_225) mk (mn.1, mn.2.1, mn.2.2.1, mn.2.2.2.1, g_199) ou) H := hP
                                  have hD : va_D A (WW ad cJ cI cZ bm pa p0 p1 p2 li wi (0) ms ma (g_223, g_224, g_225) mk (mn.1, mn.2.1, mn.2.2.1, mn.2.2.2.1, g_199) ou) := hD
                                  refine lv_iload hx hb dX5_push_240 (lv_at hl 1 rfl) ?_
                                  exact bm_iretX (v := v_216) hx hb hr hP hD hK hS ⟨(0), ms, ma, (g_223, g_224, g_225), mk, (mn.1, mn.2.1, mn.2.2.1, mn.2.2.2.1, g_199), ⟨ok_ms_parts, ok_ms_outs, ok_ms_nears, ok_ms_nets, ok_ms_pins, ok_ma_sides, ok_ma_groups, ok_226, ok_mk_nearOne, ok_mk_nearTwo, ok_mn_pinNet, ok_mn_pinPart, hw, hh⟩, rfl, rfl, v_216, rfl⟩ dX5_push_242 hlocks
                                · refine lv_iload hx hb dX5_push_192 (lv_at hl 1 rfl) ?_
                                  refine lv_iload hx hb dX5_push_194 (lv_at hl 0 rfl) ?_
                                  refine lv_iload_n hx hb dX5_push_196 rfl (lv_at hl 6 rfl) ?_
                                  refine bm_ni_eq (x := i_213) (y := k_zA) (tgt := 224) hx hb (by omega) (by omega) dX5_push_197 (by decide) (fun c_227 => ?_) (fun c_227 => ?_)
                                  · refine lv_iconst (v := nI 0) hx hb dX5_push_224 (by decide) ?_
                                    refine lv_iadd hx hb dX5_push_225 ?_
                                    refine lv_topi (fun t_228 _ => ?_)
                                    refine lv_istore (lv' := [(11, .int t_228), (12, .int (nI i_213)), (10, .int (nI 0)), (8, .long t_26), (6, .long t_21), (0, .ref (ad 42)), (1, .int (nI k_zA)), (2, .long zB), (4, .long zC)]) hx hb dX5_push_226 hl (by decide) rfl (fun ls hl => ?_)
                                    refine lv_iinc (v := (nI (i_213 + 1))) (lv' := [(12, .int (nI (i_213 + 1))), (11, .int t_228), (10, .int (nI 0)), (8, .long t_26), (6, .long t_21), (0, .ref (ad 42)), (1, .int (nI k_zA)), (2, .long zB), (4, .long zC)]) hx hb dX5_push_228 hl (k := 1) rfl (nI_1 i_213) (by decide) rfl (fun ls hl => ?_)
                                    refine lv_goto (tgt := 183) hx hb dX5_push_231 (by decide) ?_
                                    exact ih_215 (i_213 + 1) t_228 (by omega) (by omega)  _ _ hP hD hS _ (lv_sub hl [0, 1, 2, 3, 4, 5, 6, 7, 8] rfl)
                                  · refine lv_aload_n hx hb dX5_push_200 rfl (lv_at hl 5 rfl) ?_
                                    refine va_get (D := D) (ci := 5) (v := .ref (ad 49)) (C := RX5) (T := TX5) (N := 28) hx hb hts (inT inX5) hown hK hP 42 ww_42 rfl 10 (by decide) (hts (.fieldLink RX5 30 "BoardMovesModel" "placed" "[Z") (List.mem_cons_of_mem _ flX5_30)) (fun _ h9 => h9) rfl dX5_push_201 ?_
                                    refine lv_iload hx hb dX5_push_204 (lv_at hl 0 rfl) ?_
                                    refine bm_zald (f := ma.2.2.2.2.2.2) hx hb hK hP 49 2 ww_49 rfl (j := i_213) (by omega) (by decide) dX5_push_206 ?_
                                    refine bm_zb_eq (x := (ma.2.2.2.2.2.2 i_213)) (tgt := 224) hx hb dX5_push_207 (by decide) (fun c_229 => ?_) (fun c_229 => ?_)
                                    · refine lv_iconst (v := nI 0) hx hb dX5_push_224 (by decide) ?_
                                      refine lv_iadd hx hb dX5_push_225 ?_
                                      refine lv_topi (fun t_230 _ => ?_)
                                      refine lv_istore (lv' := [(11, .int t_230), (12, .int (nI i_213)), (10, .int (nI 0)), (8, .long t_26), (6, .long t_21), (0, .ref (ad 42)), (1, .int (nI k_zA)), (2, .long zB), (4, .long zC)]) hx hb dX5_push_226 hl (by decide) rfl (fun ls hl => ?_)
                                      refine lv_iinc (v := (nI (i_213 + 1))) (lv' := [(12, .int (nI (i_213 + 1))), (11, .int t_230), (10, .int (nI 0)), (8, .long t_26), (6, .long t_21), (0, .ref (ad 42)), (1, .int (nI k_zA)), (2, .long zB), (4, .long zC)]) hx hb dX5_push_228 hl (k := 1) rfl (nI_1 i_213) (by decide) rfl (fun ls hl => ?_)
                                      refine lv_goto (tgt := 183) hx hb dX5_push_231 (by decide) ?_
                                      exact ih_215 (i_213 + 1) t_230 (by omega) (by omega)  _ _ hP hD hS _ (lv_sub hl [0, 1, 2, 3, 4, 5, 6, 7, 8] rfl)
                                    · refine lv_aload_n hx hb dX5_push_210 rfl (lv_at hl 5 rfl) ?_
                                      refine lv_iconst (v := nI 1) hx hb dX5_push_211 (by decide) ?_
                                      refine lv_iload hx hb dX5_push_212 (lv_at hl 0 rfl) ?_
                                      refine bm_xcallV (As := [.int (nI 1), .int (nI i_213)]) (rest := [.int v_216]) ⟨hx, hb, hml, hown, hts⟩ (y_same (mt := (0)) (mp := (g_197, g_198, g_14)) (mn := (mn.1, mn.2.1, mn.2.2.1, mn.2.2.2.1, g_199)) (zr := 1) (zp := i_213) ok_15 (by omega) (by omega)) (cwV 2 hts gvX5_136 rfl rfl rfl hvX5_isSame ⟨Nat.le_of_ble_eq_true rfl, Nat.le_of_ble_eq_true rfl⟩) hK hP hD hS hA 42 5 rfl ww_42 rfl hl.1 rfl (Nat.le_of_ble_eq_true rfl) dX5_push_214 ⟨Nat.le_of_ble_eq_true rfl, Nat.le_of_ble_eq_true rfl⟩ (fun ws_231 r_232 h_233 H locs hP hD hS => ?_)
                                      obtain ⟨rfl, v_234, rfl⟩ := h_233
                                      have hP : va_P D vwCl (WW ad cJ cI cZ bm pa p0 p1 p2 li wi (0) ms ma (g_197, g_198, g_14) mk (mn.1, mn.2.1, mn.2.2.1, mn.2.2.2.1, g_199) ou) H := hP
                                      have hD : va_D A (WW ad cJ cI cZ bm pa p0 p1 p2 li wi (0) ms ma (g_197, g_198, g_14) mk (mn.1, mn.2.1, mn.2.2.1, mn.2.2.2.1, g_199) ou) := hD
                                      refine bm_zb_ne (x := v_234) (tgt := 224) hx hb dX5_push_217 (by decide) (fun c_235 => ?_) (fun c_235 => ?_)
                                      · refine lv_iconst (v := nI 0) hx hb dX5_push_224 (by decide) ?_
                                        refine lv_iadd hx hb dX5_push_225 ?_
                                        refine lv_topi (fun t_236 _ => ?_)
                                        refine lv_istore (lv' := [(11, .int t_236), (12, .int (nI i_213)), (10, .int (nI 0)), (8, .long t_26), (6, .long t_21), (0, .ref (ad 42)), (1, .int (nI k_zA)), (2, .long zB), (4, .long zC)]) hx hb dX5_push_226 hl (by decide) rfl (fun ls hl => ?_)
                                        refine lv_iinc (v := (nI (i_213 + 1))) (lv' := [(12, .int (nI (i_213 + 1))), (11, .int t_236), (10, .int (nI 0)), (8, .long t_26), (6, .long t_21), (0, .ref (ad 42)), (1, .int (nI k_zA)), (2, .long zB), (4, .long zC)]) hx hb dX5_push_228 hl (k := 1) rfl (nI_1 i_213) (by decide) rfl (fun ls hl => ?_)
                                        refine lv_goto (tgt := 183) hx hb dX5_push_231 (by decide) ?_
                                        exact ih_215 (i_213 + 1) t_236 (by omega) (by omega)  _ _ hP hD hS _ (lv_sub hl [0, 1, 2, 3, 4, 5, 6, 7, 8] rfl)
                                      · refine lv_iconst (v := nI 1) hx hb dX5_push_220 (by decide) ?_
                                        refine lv_goto (tgt := 225) hx hb dX5_push_221 (by decide) ?_
                                        refine lv_iadd hx hb dX5_push_225 ?_
                                        refine lv_topi (fun t_237 _ => ?_)
                                        refine lv_istore (lv' := [(11, .int t_237), (12, .int (nI i_213)), (10, .int (nI 0)), (8, .long t_26), (6, .long t_21), (0, .ref (ad 42)), (1, .int (nI k_zA)), (2, .long zB), (4, .long zC)]) hx hb dX5_push_226 hl (by decide) rfl (fun ls hl => ?_)
                                        refine lv_iinc (v := (nI (i_213 + 1))) (lv' := [(12, .int (nI (i_213 + 1))), (11, .int t_237), (10, .int (nI 0)), (8, .long t_26), (6, .long t_21), (0, .ref (ad 42)), (1, .int (nI k_zA)), (2, .long zB), (4, .long zC)]) hx hb dX5_push_228 hl (k := 1) rfl (nI_1 i_213) (by decide) rfl (fun ls hl => ?_)
                                        refine lv_goto (tgt := 183) hx hb dX5_push_231 (by decide) ?_
                                        exact ih_215 (i_213 + 1) t_237 (by omega) (by omega)  _ _ hP hD hS _ (lv_sub hl [0, 1, 2, 3, 4, 5, 6, 7, 8] rfl)
                            exact lp_212 (ms.2.2.1 + 1) 0 0 (by omega) (by omega)  _ _ hP hD hS _ (lv_sub hl [0, 1, 2, 3, 4, 5, 6, 7, 8] rfl)
                          · refine lv_iconst (v := -1) hx hb dX5_push_175 (by decide) ?_
                            exact bm_iretX (v := (-1)) hx hb hr hP hD hK hS ⟨(0), ms, ma, (g_197, g_198, g_14), mk, (mn.1, mn.2.1, mn.2.2.1, mn.2.2.2.1, g_199), ⟨ok_ms_parts, ok_ms_outs, ok_ms_nears, ok_ms_nets, ok_ms_pins, ok_ma_sides, ok_ma_groups, ok_15, ok_mk_nearOne, ok_mk_nearTwo, ok_mn_pinNet, ok_mn_pinPart, hw, hh⟩, rfl, rfl, (-1), rfl⟩ dX5_push_176 hlocks
                · refine lv_iconst (v := -1) hx hb dX5_push_71 (by decide) ?_
                  exact bm_iretX (v := (-1)) hx hb hr hP hD hK hS ⟨(0), ms, ma, mp, mk, mn, ⟨ok_ms_parts, ok_ms_outs, ok_ms_nears, ok_ms_nets, ok_ms_pins, ok_ma_sides, ok_ma_groups, ok_mp_turns, ok_mk_nearOne, ok_mk_nearTwo, ok_mn_pinNet, ok_mn_pinPart, hw, hh⟩, rfl, rfl, (-1), rfl⟩ dX5_push_72 hlocks
        · exact absurd c_4 (by decide)
    · exact absurd c_1 (by decide)
  · have hl := lv_entry ([.ref (ad 42), .int zA, .long zB, .long zC]) (n := 13) (Nat.le_of_ble_eq_true rfl)
    refine W.eq (g2 := entryFrame m ([.ref (ad 42), .int zA, .long zB, .long zC] : List Value).toArray 13) (by rw [ha]) ?_
    rw [lg_entry_eq]
    generalize (lg_sl ([.ref (ad 42), .int zA, .long zB, .long zC]) ++ List.replicate (13 - (lg_sl ([.ref (ad 42), .int zA, .long zB, .long zC])).length) Slot.unset).toArray = ls at hl ⊢
    have hl : lv_has ls 13 [(0, .ref (ad 42)), (1, .int zA), (2, .long zB), (4, .long zC)] := hl
    refine lv_aload_n hx hb dX5_push_0 rfl (lv_at hl 0 rfl) ?_
    refine lv_aload_n hx hb dX5_push_1 rfl (lv_at hl 0 rfl) ?_
    refine lv_iload_n hx hb dX5_push_2 rfl (lv_at hl 1 rfl) ?_
    refine bm_rcallV (As := [.int zA]) (rest := [.ref (ad 42)]) ⟨hx, hb, hml, hown, hts⟩ (Y_isPartN  (zA := zA) hno_zA) (cwV 1 hts gvX5_139 rfl rfl rfl hvX5_isPart ⟨Nat.le_of_ble_eq_true rfl, Nat.le_of_ble_eq_true rfl⟩) hK hP 42 5 rfl ww_42 rfl hl.1 rfl (Nat.le_of_ble_eq_true rfl) dX5_push_3 ⟨Nat.le_of_ble_eq_true rfl, Nat.le_of_ble_eq_true rfl⟩ ?_
    refine bm_zb_ne (x := false) (tgt := 13) hx hb dX5_push_6 (by decide) (fun c_238 => ?_) (fun c_238 => ?_)
    · exact absurd c_238 (by decide)
    · refine lv_iconst (v := nI 1) hx hb dX5_push_9 (by decide) ?_
      refine lv_goto (tgt := 27) hx hb dX5_push_10 (by decide) ?_
      refine va_put (D := D) (ci := 5) (v := .int (nI 1)) (ty := .int) (C := RX5) (T := TX5) (N := 28) hx hb hts (inT inX5) tyX5 tyX5_ok nmX5 hown hK hP hD hS 42 ww_42 rfl 0 (by decide) (hts (.fieldLink RX5 81 "BoardMovesModel" "thrown" "I") (List.mem_cons_of_mem _ flX5_81)) (fun _ h9 => h9) rfl (by decide +kernel) rfl rfl (Nat.le_of_ble_eq_true rfl) dX5_push_27 (fun H locs hP hD hS => ?_)
      have hP : va_P D vwCl (WW ad cJ cI cZ bm pa p0 p1 p2 li wi (1) ms ma mp mk mn ou) H := hP
      have hD : va_D A (WW ad cJ cI cZ bm pa p0 p1 p2 li wi (1) ms ma mp mk mn ou) := hD
      refine lv_aload_n hx hb dX5_push_30 rfl (lv_at hl 0 rfl) ?_
      refine va_get (D := D) (ci := 5) (v := .int (nI 1)) (C := RX5) (T := TX5) (N := 28) hx hb hts (inT inX5) hown hK hP 42 ww_42 rfl 0 (by decide) (hts (.fieldLink RX5 81 "BoardMovesModel" "thrown" "I") (List.mem_cons_of_mem _ flX5_81)) (fun _ h9 => h9) rfl dX5_push_31 ?_
      refine bm_nz_eq (x := 1) (tgt := 39) hx hb (by decide) dX5_push_34 (by decide) (fun c_239 => ?_) (fun c_239 => ?_)
      · exact absurd c_239 (by decide)
      · refine lv_iconst (v := nI 0) hx hb dX5_push_37 (by decide) ?_
        exact bm_iretX (v := (nI 0)) hx hb hr hP hD hK hS ⟨(1), ms, ma, mp, mk, mn, ⟨ok_ms_parts, ok_ms_outs, ok_ms_nears, ok_ms_nets, ok_ms_pins, ok_ma_sides, ok_ma_groups, ok_mp_turns, ok_mk_nearOne, ok_mk_nearTwo, ok_mn_pinNet, ok_mn_pinPart, hw, hh⟩, rfl, rfl, (nI 0), rfl⟩ dX5_push_38 hlocks
