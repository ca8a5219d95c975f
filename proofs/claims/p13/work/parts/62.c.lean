set_option maxHeartbeats 16000000 in
set_option maxRecDepth 100000 in
theorem Y_pin {l : Launch} {D : va_G} {ad : Nat → Nat} {cJ cI cZ : ClassId} {bm : gBM} {pa : gPA} {p0 p1 p2 : gPL} {li : gLI} {wi : gWI} {mt : Nat} {ms : gMS} {ma : gMA} {mp : gMP} {mk : gMK} {mn : gMN} {ou : Nat → Int64} {zA : Int32} {zB : Int32} {zC : Int64} {zD : Int64} (hok : okM ms ma mp mk mn)  : bm_Wx l yX5_pin wsX5_pin ({ frames := 1, cells := 0, slots := 0, locals := 21 }) D vwCl [(cJ, .long), (cI, .int), (cZ, .boolean)] (WW ad cJ cI cZ bm pa p0 p1 p2 li wi mt ms ma mp mk mn ou) [.ref (ad 42), .int zA, .int zB, .long zC, .long zD] (PMZ ad cJ cI cZ bm pa p0 p1 p2 li wi mt ms ma mp mk mn ou) := by
  obtain ⟨ok_ms_parts, ok_ms_outs, ok_ms_nears, ok_ms_nets, ok_ms_pins, ok_ma_sides, ok_ma_groups, ok_mp_turns, ok_mk_nearOne, ok_mk_nearTwo, ok_mn_pinNet, ok_mn_pinPart, hw, hh⟩ := hok
  intro sz
  refine Met.ofW (cc := cX5_pin) (maxL := 9) (ret := (some .boolean)) (by decide) rfl ?_
  intro p e s m args below meth c s₁ B hml hv
  obtain ⟨ha, hsz, hP, hK, hD0⟩ := hv
  have hx := B.exec
  have hb := B.bytes
  have hr := B.returns
  have hts := atoms_spec (ws := wsX5_pin) B.pre
  have hown : s.vm.findClass RX5 = some m.cls := findClass_of_methodNamed B.named
  have hlocks := B.notSynchronized
  subst hsz
  have hD := hD0.self (sz := s.heap.size)
  generalize hAe : va_A (WW ad cJ cI cZ bm pa p0 p1 p2 li wi mt ms ma mp mk mn ou) s.heap.size = A at hD ⊢
  have hA : ∀ q : Nat, s.heap.size ≤ q → A q := fun q h => by rw [← hAe]; exact Or.inr h
  have hS : va_S A s.heap s.heap [] := va_S.rf
  rcases bx_idx zA (n := ms.2.2.2.2.2.1) (by omega) with ⟨k_zA, hk_zA, rfl⟩ | hno_zA
  · rcases bx_idx zB (n := ms.2.2.1) (by omega) with ⟨k_zB, hk_zB, rfl⟩ | hno_zB
    · have hl := lv_entry ([.ref (ad 42), .int (nI k_zA), .int (nI k_zB), .long zC, .long zD]) (n := 9) (Nat.le_of_ble_eq_true rfl)
      refine W.eq (g2 := entryFrame m ([.ref (ad 42), .int (nI k_zA), .int (nI k_zB), .long zC, .long zD] : List Value).toArray 9) (by rw [ha]) ?_
      rw [lg_entry_eq]
      generalize (lg_sl ([.ref (ad 42), .int (nI k_zA), .int (nI k_zB), .long zC, .long zD]) ++ List.replicate (9 - (lg_sl ([.ref (ad 42), .int (nI k_zA), .int (nI k_zB), .long zC, .long zD])).length) Slot.unset).toArray = ls at hl ⊢
      have hl : lv_has ls 9 [(0, .ref (ad 42)), (1, .int (nI k_zA)), (2, .int (nI k_zB)), (3, .long zC), (5, .long zD)] := hl
      refine lv_iload_n hx hb dX5_pin_0 rfl (lv_at hl 1 rfl) ?_
      refine lv_if_lt (x := (nI k_zA)) (tgt := 24) hx hb dX5_pin_1 (by decide) (fun c_1 => ?_) (fun c_1 => ?_)
      · refine lv_iconst (v := bm_b false) hx hb dX5_pin_24 (by decide) ?_
        refine lv_istore (lv' := [(7, .int (bm_b false)), (0, .ref (ad 42)), (1, .int (nI k_zA)), (2, .int (nI k_zB)), (3, .long zC), (5, .long zD)]) hx hb dX5_pin_25 hl (by decide) rfl (fun ls hl => ?_)
        refine lv_iload hx hb dX5_pin_27 (lv_at hl 0 rfl) ?_
        refine bm_zb_eq (x := false) (tgt := 72) hx hb dX5_pin_29 (by decide) (fun c_2 => ?_) (fun c_2 => ?_)
        · refine lv_iconst (v := bm_b false) hx hb dX5_pin_72 (by decide) ?_
          refine lv_istore (lv' := [(8, .int (bm_b false)), (7, .int (bm_b false)), (0, .ref (ad 42)), (1, .int (nI k_zA)), (2, .int (nI k_zB)), (3, .long zC), (5, .long zD)]) hx hb dX5_pin_73 hl (by decide) rfl (fun ls hl => ?_)
          refine lv_aload_n hx hb dX5_pin_75 rfl (lv_at hl 2 rfl) ?_
          refine lv_iload hx hb dX5_pin_76 (lv_at hl 1 rfl) ?_
          refine bm_zb_ne (x := false) (tgt := 85) hx hb dX5_pin_78 (by decide) (fun c_3 => ?_) (fun c_3 => ?_)
          · exact absurd c_3 (by decide)
          · refine lv_iconst (v := nI 1) hx hb dX5_pin_81 (by decide) ?_
            refine lv_goto (tgt := 95) hx hb dX5_pin_82 (by decide) ?_
            refine va_put (D := D) (ci := 5) (v := .int (nI 1)) (ty := .int) (C := RX5) (T := TX5) (N := 28) hx hb hts (inT inX5) tyX5 tyX5_ok nmX5 hown hK hP hD hS 42 ww_42 rfl 0 (by decide) (hts (.fieldLink RX5 81 "BoardMovesModel" "thrown" "I") (List.mem_cons_of_mem _ flX5_81)) (fun _ h9 => h9) rfl (by decide +kernel) rfl rfl (Nat.le_of_ble_eq_true rfl) dX5_pin_95 (fun H locs hP hD hS => ?_)
            have hP : va_P D vwCl (WW ad cJ cI cZ bm pa p0 p1 p2 li wi (1) ms ma mp mk mn ou) H := hP
            have hD : va_D A (WW ad cJ cI cZ bm pa p0 p1 p2 li wi (1) ms ma mp mk mn ou) := hD
            refine lv_aload_n hx hb dX5_pin_98 rfl (lv_at hl 2 rfl) ?_
            refine va_get (D := D) (ci := 5) (v := .int (nI 1)) (C := RX5) (T := TX5) (N := 28) hx hb hts (inT inX5) hown hK hP 42 ww_42 rfl 0 (by decide) (hts (.fieldLink RX5 81 "BoardMovesModel" "thrown" "I") (List.mem_cons_of_mem _ flX5_81)) (fun _ h9 => h9) rfl dX5_pin_99 ?_
            refine bm_nz_ne (x := 1) (tgt := 114) hx hb (by decide) dX5_pin_102 (by decide) (fun c_4 => ?_) (fun c_4 => ?_)
            · refine lv_iconst (v := bm_b false) hx hb dX5_pin_114 (by decide) ?_
              exact bm_zretX (v := false) hx hb hr hP hD hK hS ⟨(1), ms, ma, mp, mk, mn, ⟨ok_ms_parts, ok_ms_outs, ok_ms_nears, ok_ms_nets, ok_ms_pins, ok_ma_sides, ok_ma_groups, ok_mp_turns, ok_mk_nearOne, ok_mk_nearTwo, ok_mn_pinNet, ok_mn_pinPart, hw, hh⟩, rfl, rfl, false, rfl⟩ dX5_pin_115 hlocks
            · exact absurd c_4 (by decide)
        · exact absurd c_2 (by decide)
      · refine lv_iload_n hx hb dX5_pin_4 rfl (lv_at hl 1 rfl) ?_
        refine lv_aload_n hx hb dX5_pin_5 rfl (lv_at hl 0 rfl) ?_
        refine va_get (D := D) (ci := 5) (v := .int (nI ms.2.2.2.2.2.1)) (C := RX5) (T := TX5) (N := 28) hx hb hts (inT inX5) hown hK hP 42 ww_42 rfl 20 (by decide) (hts (.fieldLink RX5 160 "BoardMovesModel" "nets" "I") (List.mem_cons_of_mem _ flX5_160)) (fun _ h9 => h9) rfl dX5_pin_6 ?_
        refine bm_ni_ge (x := k_zA) (y := ms.2.2.2.2.2.1) (tgt := 24) hx hb (by omega) (by omega) dX5_pin_9 (by decide) (fun c_5 => ?_) (fun c_5 => ?_)
        · refine lv_iconst (v := bm_b false) hx hb dX5_pin_24 (by decide) ?_
          refine lv_istore (lv' := [(7, .int (bm_b false)), (0, .ref (ad 42)), (1, .int (nI k_zA)), (2, .int (nI k_zB)), (3, .long zC), (5, .long zD)]) hx hb dX5_pin_25 hl (by decide) rfl (fun ls hl => ?_)
          refine lv_iload hx hb dX5_pin_27 (lv_at hl 0 rfl) ?_
          refine bm_zb_eq (x := false) (tgt := 72) hx hb dX5_pin_29 (by decide) (fun c_6 => ?_) (fun c_6 => ?_)
          · refine lv_iconst (v := bm_b false) hx hb dX5_pin_72 (by decide) ?_
            refine lv_istore (lv' := [(8, .int (bm_b false)), (7, .int (bm_b false)), (0, .ref (ad 42)), (1, .int (nI k_zA)), (2, .int (nI k_zB)), (3, .long zC), (5, .long zD)]) hx hb dX5_pin_73 hl (by decide) rfl (fun ls hl => ?_)
            refine lv_aload_n hx hb dX5_pin_75 rfl (lv_at hl 2 rfl) ?_
            refine lv_iload hx hb dX5_pin_76 (lv_at hl 1 rfl) ?_
            refine bm_zb_ne (x := false) (tgt := 85) hx hb dX5_pin_78 (by decide) (fun c_7 => ?_) (fun c_7 => ?_)
            · exact absurd c_7 (by decide)
            · refine lv_iconst (v := nI 1) hx hb dX5_pin_81 (by decide) ?_
              refine lv_goto (tgt := 95) hx hb dX5_pin_82 (by decide) ?_
              refine va_put (D := D) (ci := 5) (v := .int (nI 1)) (ty := .int) (C := RX5) (T := TX5) (N := 28) hx hb hts (inT inX5) tyX5 tyX5_ok nmX5 hown hK hP hD hS 42 ww_42 rfl 0 (by decide) (hts (.fieldLink RX5 81 "BoardMovesModel" "thrown" "I") (List.mem_cons_of_mem _ flX5_81)) (fun _ h9 => h9) rfl (by decide +kernel) rfl rfl (Nat.le_of_ble_eq_true rfl) dX5_pin_95 (fun H locs hP hD hS => ?_)
              have hP : va_P D vwCl (WW ad cJ cI cZ bm pa p0 p1 p2 li wi (1) ms ma mp mk mn ou) H := hP
              have hD : va_D A (WW ad cJ cI cZ bm pa p0 p1 p2 li wi (1) ms ma mp mk mn ou) := hD
              refine lv_aload_n hx hb dX5_pin_98 rfl (lv_at hl 2 rfl) ?_
              refine va_get (D := D) (ci := 5) (v := .int (nI 1)) (C := RX5) (T := TX5) (N := 28) hx hb hts (inT inX5) hown hK hP 42 ww_42 rfl 0 (by decide) (hts (.fieldLink RX5 81 "BoardMovesModel" "thrown" "I") (List.mem_cons_of_mem _ flX5_81)) (fun _ h9 => h9) rfl dX5_pin_99 ?_
              refine bm_nz_ne (x := 1) (tgt := 114) hx hb (by decide) dX5_pin_102 (by decide) (fun c_8 => ?_) (fun c_8 => ?_)
              · refine lv_iconst (v := bm_b false) hx hb dX5_pin_114 (by decide) ?_
                exact bm_zretX (v := false) hx hb hr hP hD hK hS ⟨(1), ms, ma, mp, mk, mn, ⟨ok_ms_parts, ok_ms_outs, ok_ms_nears, ok_ms_nets, ok_ms_pins, ok_ma_sides, ok_ma_groups, ok_mp_turns, ok_mk_nearOne, ok_mk_nearTwo, ok_mn_pinNet, ok_mn_pinPart, hw, hh⟩, rfl, rfl, false, rfl⟩ dX5_pin_115 hlocks
              · exact absurd c_8 (by decide)
          · exact absurd c_6 (by decide)
        · refine lv_aload_n hx hb dX5_pin_12 rfl (lv_at hl 0 rfl) ?_
          refine lv_iload_n hx hb dX5_pin_13 rfl (lv_at hl 2 rfl) ?_
          refine bm_rcallV (As := [.int (nI k_zB)]) (rest := []) ⟨hx, hb, hml, hown, hts⟩ (Y_isPartY  (zp := k_zB) ok_ms_parts (by omega)) (cwV 1 hts gvX5_139 rfl rfl rfl hvX5_isPart ⟨Nat.le_of_ble_eq_true rfl, Nat.le_of_ble_eq_true rfl⟩) hK hP 42 5 rfl ww_42 rfl hl.1 rfl (Nat.le_of_ble_eq_true rfl) dX5_pin_14 ⟨Nat.le_of_ble_eq_true rfl, Nat.le_of_ble_eq_true rfl⟩ ?_
          refine bm_zb_eq (x := true) (tgt := 24) hx hb dX5_pin_17 (by decide) (fun c_9 => ?_) (fun c_9 => ?_)
          · exact absurd c_9 (by decide)
          · refine lv_iconst (v := bm_b true) hx hb dX5_pin_20 (by decide) ?_
            refine lv_goto (tgt := 25) hx hb dX5_pin_21 (by decide) ?_
            refine lv_istore (lv' := [(7, .int (bm_b true)), (0, .ref (ad 42)), (1, .int (nI k_zA)), (2, .int (nI k_zB)), (3, .long zC), (5, .long zD)]) hx hb dX5_pin_25 hl (by decide) rfl (fun ls hl => ?_)
            refine lv_iload hx hb dX5_pin_27 (lv_at hl 0 rfl) ?_
            refine bm_zb_eq (x := true) (tgt := 72) hx hb dX5_pin_29 (by decide) (fun c_10 => ?_) (fun c_10 => ?_)
            · exact absurd c_10 (by decide)
            · refine lv_lload_n hx hb dX5_pin_32 rfl (lv_at hl 4 rfl) ?_
              refine lv_lconst (v := 0) hx hb dX5_pin_33 (by decide) ?_
              refine bm_lc_lt (x := zC) (y := 0) (tgt := 72) hx hb dX5_pin_34 dX5_pin_35 (by decide) (fun c_11 => ?_) (fun c_11 => ?_)
              · refine lv_iconst (v := bm_b false) hx hb dX5_pin_72 (by decide) ?_
                refine lv_istore (lv' := [(8, .int (bm_b false)), (7, .int (bm_b true)), (0, .ref (ad 42)), (1, .int (nI k_zA)), (2, .int (nI k_zB)), (3, .long zC), (5, .long zD)]) hx hb dX5_pin_73 hl (by decide) rfl (fun ls hl => ?_)
                refine lv_aload_n hx hb dX5_pin_75 rfl (lv_at hl 2 rfl) ?_
                refine lv_iload hx hb dX5_pin_76 (lv_at hl 1 rfl) ?_
                refine bm_zb_ne (x := true) (tgt := 85) hx hb dX5_pin_78 (by decide) (fun c_12 => ?_) (fun c_12 => ?_)
                · refine lv_iload hx hb dX5_pin_85 (lv_at hl 0 rfl) ?_
                  refine bm_zb_eq (x := false) (tgt := 94) hx hb dX5_pin_87 (by decide) (fun c_13 => ?_) (fun c_13 => ?_)
                  · refine lv_iconst (v := nI 2) hx hb dX5_pin_94 (by decide) ?_
                    refine va_put (D := D) (ci := 5) (v := .int (nI 2)) (ty := .int) (C := RX5) (T := TX5) (N := 28) hx hb hts (inT inX5) tyX5 tyX5_ok nmX5 hown hK hP hD hS 42 ww_42 rfl 0 (by decide) (hts (.fieldLink RX5 81 "BoardMovesModel" "thrown" "I") (List.mem_cons_of_mem _ flX5_81)) (fun _ h9 => h9) rfl (by decide +kernel) rfl rfl (Nat.le_of_ble_eq_true rfl) dX5_pin_95 (fun H locs hP hD hS => ?_)
                    have hP : va_P D vwCl (WW ad cJ cI cZ bm pa p0 p1 p2 li wi (2) ms ma mp mk mn ou) H := hP
                    have hD : va_D A (WW ad cJ cI cZ bm pa p0 p1 p2 li wi (2) ms ma mp mk mn ou) := hD
                    refine lv_aload_n hx hb dX5_pin_98 rfl (lv_at hl 2 rfl) ?_
                    refine va_get (D := D) (ci := 5) (v := .int (nI 2)) (C := RX5) (T := TX5) (N := 28) hx hb hts (inT inX5) hown hK hP 42 ww_42 rfl 0 (by decide) (hts (.fieldLink RX5 81 "BoardMovesModel" "thrown" "I") (List.mem_cons_of_mem _ flX5_81)) (fun _ h9 => h9) rfl dX5_pin_99 ?_
                    refine bm_nz_ne (x := 2) (tgt := 114) hx hb (by decide) dX5_pin_102 (by decide) (fun c_14 => ?_) (fun c_14 => ?_)
                    · refine lv_iconst (v := bm_b false) hx hb dX5_pin_114 (by decide) ?_
                      exact bm_zretX (v := false) hx hb hr hP hD hK hS ⟨(2), ms, ma, mp, mk, mn, ⟨ok_ms_parts, ok_ms_outs, ok_ms_nears, ok_ms_nets, ok_ms_pins, ok_ma_sides, ok_ma_groups, ok_mp_turns, ok_mk_nearOne, ok_mk_nearTwo, ok_mn_pinNet, ok_mn_pinPart, hw, hh⟩, rfl, rfl, false, rfl⟩ dX5_pin_115 hlocks
                    · exact absurd c_14 (by decide)
                  · exact absurd c_13 (by decide)
                · exact absurd c_12 (by decide)
              · refine lv_lload_n hx hb dX5_pin_38 rfl (lv_at hl 4 rfl) ?_
                refine lv_aload_n hx hb dX5_pin_39 rfl (lv_at hl 1 rfl) ?_
                refine va_get (D := D) (ci := 5) (v := .ref (ad 43)) (C := RX5) (T := TX5) (N := 28) hx hb hts (inT inX5) hown hK hP 42 ww_42 rfl 4 (by decide) (hts (.fieldLink RX5 7 "BoardMovesModel" "wide" "[J") (List.mem_cons_of_mem _ flX5_7)) (fun _ h9 => h9) rfl dX5_pin_40 ?_
                refine lv_iload_n hx hb dX5_pin_43 rfl (lv_at hl 3 rfl) ?_
                refine bm_lald (f := ma.1) hx hb hK hP 43 0 ww_43 rfl (j := k_zB) (by omega) (by decide) dX5_pin_44 ?_
                refine lv_topl (fun t_15 _ => ?_)
                refine bm_lc_gt (x := zC) (y := t_15) (tgt := 72) hx hb dX5_pin_45 dX5_pin_46 (by decide) (fun c_16 => ?_) (fun c_16 => ?_)
                · refine lv_iconst (v := bm_b false) hx hb dX5_pin_72 (by decide) ?_
                  refine lv_istore (lv' := [(8, .int (bm_b false)), (7, .int (bm_b true)), (0, .ref (ad 42)), (1, .int (nI k_zA)), (2, .int (nI k_zB)), (3, .long zC), (5, .long zD)]) hx hb dX5_pin_73 hl (by decide) rfl (fun ls hl => ?_)
                  refine lv_aload_n hx hb dX5_pin_75 rfl (lv_at hl 2 rfl) ?_
                  refine lv_iload hx hb dX5_pin_76 (lv_at hl 1 rfl) ?_
                  refine bm_zb_ne (x := true) (tgt := 85) hx hb dX5_pin_78 (by decide) (fun c_17 => ?_) (fun c_17 => ?_)
                  · refine lv_iload hx hb dX5_pin_85 (lv_at hl 0 rfl) ?_
                    refine bm_zb_eq (x := false) (tgt := 94) hx hb dX5_pin_87 (by decide) (fun c_18 => ?_) (fun c_18 => ?_)
                    · refine lv_iconst (v := nI 2) hx hb dX5_pin_94 (by decide) ?_
                      refine va_put (D := D) (ci := 5) (v := .int (nI 2)) (ty := .int) (C := RX5) (T := TX5) (N := 28) hx hb hts (inT inX5) tyX5 tyX5_ok nmX5 hown hK hP hD hS 42 ww_42 rfl 0 (by decide) (hts (.fieldLink RX5 81 "BoardMovesModel" "thrown" "I") (List.mem_cons_of_mem _ flX5_81)) (fun _ h9 => h9) rfl (by decide +kernel) rfl rfl (Nat.le_of_ble_eq_true rfl) dX5_pin_95 (fun H locs hP hD hS => ?_)
                      have hP : va_P D vwCl (WW ad cJ cI cZ bm pa p0 p1 p2 li wi (2) ms ma mp mk mn ou) H := hP
                      have hD : va_D A (WW ad cJ cI cZ bm pa p0 p1 p2 li wi (2) ms ma mp mk mn ou) := hD
                      refine lv_aload_n hx hb dX5_pin_98 rfl (lv_at hl 2 rfl) ?_
                      refine va_get (D := D) (ci := 5) (v := .int (nI 2)) (C := RX5) (T := TX5) (N := 28) hx hb hts (inT inX5) hown hK hP 42 ww_42 rfl 0 (by decide) (hts (.fieldLink RX5 81 "BoardMovesModel" "thrown" "I") (List.mem_cons_of_mem _ flX5_81)) (fun _ h9 => h9) rfl dX5_pin_99 ?_
                      refine bm_nz_ne (x := 2) (tgt := 114) hx hb (by decide) dX5_pin_102 (by decide) (fun c_19 => ?_) (fun c_19 => ?_)
                      · refine lv_iconst (v := bm_b false) hx hb dX5_pin_114 (by decide) ?_
                        exact bm_zretX (v := false) hx hb hr hP hD hK hS ⟨(2), ms, ma, mp, mk, mn, ⟨ok_ms_parts, ok_ms_outs, ok_ms_nears, ok_ms_nets, ok_ms_pins, ok_ma_sides, ok_ma_groups, ok_mp_turns, ok_mk_nearOne, ok_mk_nearTwo, ok_mn_pinNet, ok_mn_pinPart, hw, hh⟩, rfl, rfl, false, rfl⟩ dX5_pin_115 hlocks
                      · exact absurd c_19 (by decide)
                    · exact absurd c_18 (by decide)
                  · exact absurd c_17 (by decide)
                · refine lv_lload hx hb dX5_pin_49 (lv_at hl 5 rfl) ?_
                  refine lv_lconst (v := 0) hx hb dX5_pin_51 (by decide) ?_
                  refine bm_lc_lt (x := zD) (y := 0) (tgt := 72) hx hb dX5_pin_52 dX5_pin_53 (by decide) (fun c_20 => ?_) (fun c_20 => ?_)
                  · refine lv_iconst (v := bm_b false) hx hb dX5_pin_72 (by decide) ?_
                    refine lv_istore (lv' := [(8, .int (bm_b false)), (7, .int (bm_b true)), (0, .ref (ad 42)), (1, .int (nI k_zA)), (2, .int (nI k_zB)), (3, .long zC), (5, .long zD)]) hx hb dX5_pin_73 hl (by decide) rfl (fun ls hl => ?_)
                    refine lv_aload_n hx hb dX5_pin_75 rfl (lv_at hl 2 rfl) ?_
                    refine lv_iload hx hb dX5_pin_76 (lv_at hl 1 rfl) ?_
                    refine bm_zb_ne (x := true) (tgt := 85) hx hb dX5_pin_78 (by decide) (fun c_21 => ?_) (fun c_21 => ?_)
                    · refine lv_iload hx hb dX5_pin_85 (lv_at hl 0 rfl) ?_
                      refine bm_zb_eq (x := false) (tgt := 94) hx hb dX5_pin_87 (by decide) (fun c_22 => ?_) (fun c_22 => ?_)
                      · refine lv_iconst (v := nI 2) hx hb dX5_pin_94 (by decide) ?_
                        refine va_put (D := D) (ci := 5) (v := .int (nI 2)) (ty := .int) (C := RX5) (T := TX5) (N := 28) hx hb hts (inT inX5) tyX5 tyX5_ok nmX5 hown hK hP hD hS 42 ww_42 rfl 0 (by decide) (hts (.fieldLink RX5 81 "BoardMovesModel" "thrown" "I") (List.mem_cons_of_mem _ flX5_81)) (fun _ h9 => h9) rfl (by decide +kernel) rfl rfl (Nat.le_of_ble_eq_true rfl) dX5_pin_95 (fun H locs hP hD hS => ?_)
                        have hP : va_P D vwCl (WW ad cJ cI cZ bm pa p0 p1 p2 li wi (2) ms ma mp mk mn ou) H := hP
                        have hD : va_D A (WW ad cJ cI cZ bm pa p0 p1 p2 li wi (2) ms ma mp mk mn ou) := hD
                        refine lv_aload_n hx hb dX5_pin_98 rfl (lv_at hl 2 rfl) ?_
                        refine va_get (D := D) (ci := 5) (v := .int (nI 2)) (C := RX5) (T := TX5) (N := 28) hx hb hts (inT inX5) hown hK hP 42 ww_42 rfl 0 (by decide) (hts (.fieldLink RX5 81 "BoardMovesModel" "thrown" "I") (List.mem_cons_of_mem _ flX5_81)) (fun _ h9 => h9) rfl dX5_pin_99 ?_
                        refine bm_nz_ne (x := 2) (tgt := 114) hx hb (by decide) dX5_pin_102 (by decide) (fun c_23 => ?_) (fun c_23 => ?_)
                        · refine lv_iconst (v := bm_b false) hx hb dX5_pin_114 (by decide) ?_
                          exact bm_zretX (v := false) hx hb hr hP hD hK hS ⟨(2), ms, ma, mp, mk, mn, ⟨ok_ms_parts, ok_ms_outs, ok_ms_nears, ok_ms_nets, ok_ms_pins, ok_ma_sides, ok_ma_groups, ok_mp_turns, ok_mk_nearOne, ok_mk_nearTwo, ok_mn_pinNet, ok_mn_pinPart, hw, hh⟩, rfl, rfl, false, rfl⟩ dX5_pin_115 hlocks
                        · exact absurd c_23 (by decide)
                      · exact absurd c_22 (by decide)
                    · exact absurd c_21 (by decide)
                  · refine lv_lload hx hb dX5_pin_56 (lv_at hl 5 rfl) ?_
                    refine lv_aload_n hx hb dX5_pin_58 rfl (lv_at hl 1 rfl) ?_
                    refine va_get (D := D) (ci := 5) (v := .ref (ad 44)) (C := RX5) (T := TX5) (N := 28) hx hb hts (inT inX5) hown hK hP 42 ww_42 rfl 5 (by decide) (hts (.fieldLink RX5 13 "BoardMovesModel" "high" "[J") (List.mem_cons_of_mem _ flX5_13)) (fun _ h9 => h9) rfl dX5_pin_59 ?_
                    refine lv_iload_n hx hb dX5_pin_62 rfl (lv_at hl 3 rfl) ?_
                    refine bm_lald (f := ma.2.1) hx hb hK hP 44 0 ww_44 rfl (j := k_zB) (by omega) (by decide) dX5_pin_63 ?_
                    refine lv_topl (fun t_24 _ => ?_)
                    refine bm_lc_gt (x := zD) (y := t_24) (tgt := 72) hx hb dX5_pin_64 dX5_pin_65 (by decide) (fun c_25 => ?_) (fun c_25 => ?_)
                    · refine lv_iconst (v := bm_b false) hx hb dX5_pin_72 (by decide) ?_
                      refine lv_istore (lv' := [(8, .int (bm_b false)), (7, .int (bm_b true)), (0, .ref (ad 42)), (1, .int (nI k_zA)), (2, .int (nI k_zB)), (3, .long zC), (5, .long zD)]) hx hb dX5_pin_73 hl (by decide) rfl (fun ls hl => ?_)
                      refine lv_aload_n hx hb dX5_pin_75 rfl (lv_at hl 2 rfl) ?_
                      refine lv_iload hx hb dX5_pin_76 (lv_at hl 1 rfl) ?_
                      refine bm_zb_ne (x := true) (tgt := 85) hx hb dX5_pin_78 (by decide) (fun c_26 => ?_) (fun c_26 => ?_)
                      · refine lv_iload hx hb dX5_pin_85 (lv_at hl 0 rfl) ?_
                        refine bm_zb_eq (x := false) (tgt := 94) hx hb dX5_pin_87 (by decide) (fun c_27 => ?_) (fun c_27 => ?_)
                        · refine lv_iconst (v := nI 2) hx hb dX5_pin_94 (by decide) ?_
                          refine va_put (D := D) (ci := 5) (v := .int (nI 2)) (ty := .int) (C := RX5) (T := TX5) (N := 28) hx hb hts (inT inX5) tyX5 tyX5_ok nmX5 hown hK hP hD hS 42 ww_42 rfl 0 (by decide) (hts (.fieldLink RX5 81 "BoardMovesModel" "thrown" "I") (List.mem_cons_of_mem _ flX5_81)) (fun _ h9 => h9) rfl (by decide +kernel) rfl rfl (Nat.le_of_ble_eq_true rfl) dX5_pin_95 (fun H locs hP hD hS => ?_)
                          have hP : va_P D vwCl (WW ad cJ cI cZ bm pa p0 p1 p2 li wi (2) ms ma mp mk mn ou) H := hP
                          have hD : va_D A (WW ad cJ cI cZ bm pa p0 p1 p2 li wi (2) ms ma mp mk mn ou) := hD
                          refine lv_aload_n hx hb dX5_pin_98 rfl (lv_at hl 2 rfl) ?_
                          refine va_get (D := D) (ci := 5) (v := .int (nI 2)) (C := RX5) (T := TX5) (N := 28) hx hb hts (inT inX5) hown hK hP 42 ww_42 rfl 0 (by decide) (hts (.fieldLink RX5 81 "BoardMovesModel" "thrown" "I") (List.mem_cons_of_mem _ flX5_81)) (fun _ h9 => h9) rfl dX5_pin_99 ?_
                          refine bm_nz_ne (x := 2) (tgt := 114) hx hb (by decide) dX5_pin_102 (by decide) (fun c_28 => ?_) (fun c_28 => ?_)
                          · refine lv_iconst (v := bm_b false) hx hb dX5_pin_114 (by decide) ?_
                            exact bm_zretX (v := false) hx hb hr hP hD hK hS ⟨(2), ms, ma, mp, mk, mn, ⟨ok_ms_parts, ok_ms_outs, ok_ms_nears, ok_ms_nets, ok_ms_pins, ok_ma_sides, ok_ma_groups, ok_mp_turns, ok_mk_nearOne, ok_mk_nearTwo, ok_mn_pinNet, ok_mn_pinPart, hw, hh⟩, rfl, rfl, false, rfl⟩ dX5_pin_115 hlocks
                          · exact absurd c_28 (by decide)
                        · exact absurd c_27 (by decide)
                      · exact absurd c_26 (by decide)
                    · refine lv_iconst (v := bm_b true) hx hb dX5_pin_68 (by decide) ?_
                      refine lv_goto (tgt := 73) hx hb dX5_pin_69 (by decide) ?_
                      refine lv_istore (lv' := [(8, .int (bm_b true)), (7, .int (bm_b true)), (0, .ref (ad 42)), (1, .int (nI k_zA)), (2, .int (nI k_zB)), (3, .long zC), (5, .long zD)]) hx hb dX5_pin_73 hl (by decide) rfl (fun ls hl => ?_)
                      refine lv_aload_n hx hb dX5_pin_75 rfl (lv_at hl 2 rfl) ?_
                      refine lv_iload hx hb dX5_pin_76 (lv_at hl 1 rfl) ?_
                      refine bm_zb_ne (x := true) (tgt := 85) hx hb dX5_pin_78 (by decide) (fun c_29 => ?_) (fun c_29 => ?_)
                      · refine lv_iload hx hb dX5_pin_85 (lv_at hl 0 rfl) ?_
                        refine bm_zb_eq (x := true) (tgt := 94) hx hb dX5_pin_87 (by decide) (fun c_30 => ?_) (fun c_30 => ?_)
                        · exact absurd c_30 (by decide)
                        · refine lv_iconst (v := nI 0) hx hb dX5_pin_90 (by decide) ?_
                          refine lv_goto (tgt := 95) hx hb dX5_pin_91 (by decide) ?_
                          refine va_put (D := D) (ci := 5) (v := .int (nI 0)) (ty := .int) (C := RX5) (T := TX5) (N := 28) hx hb hts (inT inX5) tyX5 tyX5_ok nmX5 hown hK hP hD hS 42 ww_42 rfl 0 (by decide) (hts (.fieldLink RX5 81 "BoardMovesModel" "thrown" "I") (List.mem_cons_of_mem _ flX5_81)) (fun _ h9 => h9) rfl (by decide +kernel) rfl rfl (Nat.le_of_ble_eq_true rfl) dX5_pin_95 (fun H locs hP hD hS => ?_)
                          have hP : va_P D vwCl (WW ad cJ cI cZ bm pa p0 p1 p2 li wi (0) ms ma mp mk mn ou) H := hP
                          have hD : va_D A (WW ad cJ cI cZ bm pa p0 p1 p2 li wi (0) ms ma mp mk mn ou) := hD
                          refine lv_aload_n hx hb dX5_pin_98 rfl (lv_at hl 2 rfl) ?_
                          refine va_get (D := D) (ci := 5) (v := .int (nI 0)) (C := RX5) (T := TX5) (N := 28) hx hb hts (inT inX5) hown hK hP 42 ww_42 rfl 0 (by decide) (hts (.fieldLink RX5 81 "BoardMovesModel" "thrown" "I") (List.mem_cons_of_mem _ flX5_81)) (fun _ h9 => h9) rfl dX5_pin_99 ?_
                          refine bm_nz_ne (x := 0) (tgt := 114) hx hb (by decide) dX5_pin_102 (by decide) (fun c_31 => ?_) (fun c_31 => ?_)
                          · exact absurd c_31 (by decide)
                          · refine lv_aload_n hx hb dX5_pin_105 rfl (lv_at hl 2 rfl) ?_
                            refine va_get (D := D) (ci := 5) (v := .int (nI ms.2.2.2.2.2.2.1)) (C := RX5) (T := TX5) (N := 28) hx hb hts (inT inX5) hown hK hP 42 ww_42 rfl 21 (by decide) (hts (.fieldLink RX5 163 "BoardMovesModel" "pins" "I") (List.mem_cons_of_mem _ flX5_163)) (fun _ h9 => h9) rfl dX5_pin_106 ?_
                            refine lv_bipush (v := nI 120) hx hb dX5_pin_109 (by decide) ?_
                            refine bm_ni_ne (x := ms.2.2.2.2.2.2.1) (y := 120) (tgt := 116) hx hb (by omega) (by omega) dX5_pin_111 (by decide) (fun c_32 => ?_) (fun c_32 => ?_)
                            · refine lv_aload_n hx hb dX5_pin_116 rfl (lv_at hl 2 rfl) ?_
                              refine va_get (D := D) (ci := 5) (v := .ref (ad 57)) (C := RX5) (T := TX5) (N := 28) hx hb hts (inT inX5) hown hK hP 42 ww_42 rfl 22 (by decide) (hts (.fieldLink RX5 54 "BoardMovesModel" "pinNet" "[I") (List.mem_cons_of_mem _ flX5_54)) (fun _ h9 => h9) rfl dX5_pin_117 ?_
                              refine lv_aload_n hx hb dX5_pin_120 rfl (lv_at hl 2 rfl) ?_
                              refine va_get (D := D) (ci := 5) (v := .int (nI ms.2.2.2.2.2.2.1)) (C := RX5) (T := TX5) (N := 28) hx hb hts (inT inX5) hown hK hP 42 ww_42 rfl 21 (by decide) (hts (.fieldLink RX5 163 "BoardMovesModel" "pins" "I") (List.mem_cons_of_mem _ flX5_163)) (fun _ h9 => h9) rfl dX5_pin_121 ?_
                              refine lv_iload_n hx hb dX5_pin_124 rfl (lv_at hl 3 rfl) ?_
                              refine bm_nast (f := mn.1) hx hb hK hP hD hS 57 1 ww_57 rfl (j := ms.2.2.2.2.2.2.1) (x := k_zA) (by omega) (by decide) dX5_pin_125 (fun H locs hP hD hS => ?_)
                              have hP : va_P D vwCl (WW ad cJ cI cZ bm pa p0 p1 p2 li wi (0) ms ma mp mk (va_up mn.1 ms.2.2.2.2.2.2.1 k_zA, mn.2.1, mn.2.2.1, mn.2.2.2.1, mn.2.2.2.2) ou) H := hP
                              have hD : va_D A (WW ad cJ cI cZ bm pa p0 p1 p2 li wi (0) ms ma mp mk (va_up mn.1 ms.2.2.2.2.2.2.1 k_zA, mn.2.1, mn.2.2.1, mn.2.2.2.1, mn.2.2.2.2) ou) := hD
                              refine lv_aload_n hx hb dX5_pin_126 rfl (lv_at hl 2 rfl) ?_
                              refine va_get (D := D) (ci := 5) (v := .ref (ad 58)) (C := RX5) (T := TX5) (N := 28) hx hb hts (inT inX5) hown hK hP 42 ww_42 rfl 23 (by decide) (hts (.fieldLink RX5 57 "BoardMovesModel" "pinPart" "[I") (List.mem_cons_of_mem _ flX5_57)) (fun _ h9 => h9) rfl dX5_pin_127 ?_
                              refine lv_aload_n hx hb dX5_pin_130 rfl (lv_at hl 2 rfl) ?_
                              refine va_get (D := D) (ci := 5) (v := .int (nI ms.2.2.2.2.2.2.1)) (C := RX5) (T := TX5) (N := 28) hx hb hts (inT inX5) hown hK hP 42 ww_42 rfl 21 (by decide) (hts (.fieldLink RX5 163 "BoardMovesModel" "pins" "I") (List.mem_cons_of_mem _ flX5_163)) (fun _ h9 => h9) rfl dX5_pin_131 ?_
                              refine lv_iload_n hx hb dX5_pin_134 rfl (lv_at hl 4 rfl) ?_
                              refine bm_nast (f := mn.2.1) hx hb hK hP hD hS 58 1 ww_58 rfl (j := ms.2.2.2.2.2.2.1) (x := k_zB) (by omega) (by decide) dX5_pin_135 (fun H locs hP hD hS => ?_)
                              have hP : va_P D vwCl (WW ad cJ cI cZ bm pa p0 p1 p2 li wi (0) ms ma mp mk (va_up mn.1 ms.2.2.2.2.2.2.1 k_zA, va_up mn.2.1 ms.2.2.2.2.2.2.1 k_zB, mn.2.2.1, mn.2.2.2.1, mn.2.2.2.2) ou) H := hP
                              have hD : va_D A (WW ad cJ cI cZ bm pa p0 p1 p2 li wi (0) ms ma mp mk (va_up mn.1 ms.2.2.2.2.2.2.1 k_zA, va_up mn.2.1 ms.2.2.2.2.2.2.1 k_zB, mn.2.2.1, mn.2.2.2.1, mn.2.2.2.2) ou) := hD
                              refine lv_aload_n hx hb dX5_pin_136 rfl (lv_at hl 2 rfl) ?_
                              refine va_get (D := D) (ci := 5) (v := .ref (ad 59)) (C := RX5) (T := TX5) (N := 28) hx hb hts (inT inX5) hown hK hP 42 ww_42 rfl 24 (by decide) (hts (.fieldLink RX5 60 "BoardMovesModel" "pinX" "[J") (List.mem_cons_of_mem _ flX5_60)) (fun _ h9 => h9) rfl dX5_pin_137 ?_
                              refine lv_aload_n hx hb dX5_pin_140 rfl (lv_at hl 2 rfl) ?_
                              refine va_get (D := D) (ci := 5) (v := .int (nI ms.2.2.2.2.2.2.1)) (C := RX5) (T := TX5) (N := 28) hx hb hts (inT inX5) hown hK hP 42 ww_42 rfl 21 (by decide) (hts (.fieldLink RX5 163 "BoardMovesModel" "pins" "I") (List.mem_cons_of_mem _ flX5_163)) (fun _ h9 => h9) rfl dX5_pin_141 ?_
                              refine lv_lload_n hx hb dX5_pin_144 rfl (lv_at hl 5 rfl) ?_
                              refine bm_last (f := mn.2.2.1) hx hb hK hP hD hS 59 0 ww_59 rfl (j := ms.2.2.2.2.2.2.1) (x := zC) (by omega) (by decide) dX5_pin_145 (fun H locs hP hD hS => ?_)
                              have hP : va_P D vwCl (WW ad cJ cI cZ bm pa p0 p1 p2 li wi (0) ms ma mp mk (va_up mn.1 ms.2.2.2.2.2.2.1 k_zA, va_up mn.2.1 ms.2.2.2.2.2.2.1 k_zB, va_up mn.2.2.1 ms.2.2.2.2.2.2.1 zC, mn.2.2.2.1, mn.2.2.2.2) ou) H := hP
                              have hD : va_D A (WW ad cJ cI cZ bm pa p0 p1 p2 li wi (0) ms ma mp mk (va_up mn.1 ms.2.2.2.2.2.2.1 k_zA, va_up mn.2.1 ms.2.2.2.2.2.2.1 k_zB, va_up mn.2.2.1 ms.2.2.2.2.2.2.1 zC, mn.2.2.2.1, mn.2.2.2.2) ou) := hD
                              refine lv_aload_n hx hb dX5_pin_146 rfl (lv_at hl 2 rfl) ?_
                              refine va_get (D := D) (ci := 5) (v := .ref (ad 60)) (C := RX5) (T := TX5) (N := 28) hx hb hts (inT inX5) hown hK hP 42 ww_42 rfl 25 (by decide) (hts (.fieldLink RX5 63 "BoardMovesModel" "pinY" "[J") (List.mem_cons_of_mem _ flX5_63)) (fun _ h9 => h9) rfl dX5_pin_147 ?_
                              refine lv_aload_n hx hb dX5_pin_150 rfl (lv_at hl 2 rfl) ?_
                              refine va_get (D := D) (ci := 5) (v := .int (nI ms.2.2.2.2.2.2.1)) (C := RX5) (T := TX5) (N := 28) hx hb hts (inT inX5) hown hK hP 42 ww_42 rfl 21 (by decide) (hts (.fieldLink RX5 163 "BoardMovesModel" "pins" "I") (List.mem_cons_of_mem _ flX5_163)) (fun _ h9 => h9) rfl dX5_pin_151 ?_
                              refine lv_lload hx hb dX5_pin_154 (lv_at hl 6 rfl) ?_
                              refine bm_last (f := mn.2.2.2.1) hx hb hK hP hD hS 60 0 ww_60 rfl (j := ms.2.2.2.2.2.2.1) (x := zD) (by omega) (by decide) dX5_pin_156 (fun H locs hP hD hS => ?_)
                              have hP : va_P D vwCl (WW ad cJ cI cZ bm pa p0 p1 p2 li wi (0) ms ma mp mk (va_up mn.1 ms.2.2.2.2.2.2.1 k_zA, va_up mn.2.1 ms.2.2.2.2.2.2.1 k_zB, va_up mn.2.2.1 ms.2.2.2.2.2.2.1 zC, va_up mn.2.2.2.1 ms.2.2.2.2.2.2.1 zD, mn.2.2.2.2) ou) H := hP
                              have hD : va_D A (WW ad cJ cI cZ bm pa p0 p1 p2 li wi (0) ms ma mp mk (va_up mn.1 ms.2.2.2.2.2.2.1 k_zA, va_up mn.2.1 ms.2.2.2.2.2.2.1 k_zB, va_up mn.2.2.1 ms.2.2.2.2.2.2.1 zC, va_up mn.2.2.2.1 ms.2.2.2.2.2.2.1 zD, mn.2.2.2.2) ou) := hD
                              refine lv_aload_n hx hb dX5_pin_157 rfl (lv_at hl 2 rfl) ?_
                              refine lv_dup hx hb dX5_pin_158 rfl ?_
                              refine va_get (D := D) (ci := 5) (v := .int (nI ms.2.2.2.2.2.2.1)) (C := RX5) (T := TX5) (N := 28) hx hb hts (inT inX5) hown hK hP 42 ww_42 rfl 21 (by decide) (hts (.fieldLink RX5 163 "BoardMovesModel" "pins" "I") (List.mem_cons_of_mem _ flX5_163)) (fun _ h9 => h9) rfl dX5_pin_159 ?_
                              refine lv_iconst (v := nI 1) hx hb dX5_pin_162 (by decide) ?_
                              refine bm_nadd hx hb dX5_pin_163 ?_
                              refine va_put (D := D) (ci := 5) (v := .int (nI (ms.2.2.2.2.2.2.1 + 1))) (ty := .int) (C := RX5) (T := TX5) (N := 28) hx hb hts (inT inX5) tyX5 tyX5_ok nmX5 hown hK hP hD hS 42 ww_42 rfl 21 (by decide) (hts (.fieldLink RX5 163 "BoardMovesModel" "pins" "I") (List.mem_cons_of_mem _ flX5_163)) (fun _ h9 => h9) rfl (by decide +kernel) rfl rfl (Nat.le_of_ble_eq_true rfl) dX5_pin_164 (fun H locs hP hD hS => ?_)
                              have hP : va_P D vwCl (WW ad cJ cI cZ bm pa p0 p1 p2 li wi (0) (ms.1, ms.2.1, ms.2.2.1, ms.2.2.2.1, ms.2.2.2.2.1, ms.2.2.2.2.2.1, ms.2.2.2.2.2.2.1 + 1, ms.2.2.2.2.2.2.2) ma mp mk (va_up mn.1 ms.2.2.2.2.2.2.1 k_zA, va_up mn.2.1 ms.2.2.2.2.2.2.1 k_zB, va_up mn.2.2.1 ms.2.2.2.2.2.2.1 zC, va_up mn.2.2.2.1 ms.2.2.2.2.2.2.1 zD, mn.2.2.2.2) ou) H := hP
                              have hD : va_D A (WW ad cJ cI cZ bm pa p0 p1 p2 li wi (0) (ms.1, ms.2.1, ms.2.2.1, ms.2.2.2.1, ms.2.2.2.2.1, ms.2.2.2.2.2.1, ms.2.2.2.2.2.2.1 + 1, ms.2.2.2.2.2.2.2) ma mp mk (va_up mn.1 ms.2.2.2.2.2.2.1 k_zA, va_up mn.2.1 ms.2.2.2.2.2.2.1 k_zB, va_up mn.2.2.1 ms.2.2.2.2.2.2.1 zC, va_up mn.2.2.2.1 ms.2.2.2.2.2.2.1 zD, mn.2.2.2.2) ou) := hD
                              refine lv_iconst (v := bm_b true) hx hb dX5_pin_167 (by decide) ?_
                              exact bm_zretX (v := true) hx hb hr hP hD hK hS ⟨(0), (ms.1, ms.2.1, ms.2.2.1, ms.2.2.2.1, ms.2.2.2.2.1, ms.2.2.2.2.2.1, ms.2.2.2.2.2.2.1 + 1, ms.2.2.2.2.2.2.2), ma, mp, mk, (va_up mn.1 ms.2.2.2.2.2.2.1 k_zA, va_up mn.2.1 ms.2.2.2.2.2.2.1 k_zB, va_up mn.2.2.1 ms.2.2.2.2.2.2.1 zC, va_up mn.2.2.2.1 ms.2.2.2.2.2.2.1 zD, mn.2.2.2.2), ⟨ok_ms_parts, ok_ms_outs, ok_ms_nears, ok_ms_nets, (show ms.2.2.2.2.2.2.1 + 1 ≤ 120 by omega), ok_ma_sides, ok_ma_groups, ok_mp_turns, ok_mk_nearOne, ok_mk_nearTwo, (bx_uplt ok_mn_pinNet (by omega)), (bx_uplt ok_mn_pinPart (by omega)), hw, hh⟩, rfl, rfl, true, rfl⟩ dX5_pin_168 hlocks
                            · refine lv_iconst (v := bm_b false) hx hb dX5_pin_114 (by decide) ?_
                              exact bm_zretX (v := false) hx hb hr hP hD hK hS ⟨(0), ms, ma, mp, mk, mn, ⟨ok_ms_parts, ok_ms_outs, ok_ms_nears, ok_ms_nets, ok_ms_pins, ok_ma_sides, ok_ma_groups, ok_mp_turns, ok_mk_nearOne, ok_mk_nearTwo, ok_mn_pinNet, ok_mn_pinPart, hw, hh⟩, rfl, rfl, false, rfl⟩ dX5_pin_115 hlocks
                      · exact absurd c_29 (by decide)
    · have hl := lv_entry ([.ref (ad 42), .int (nI k_zA), .int zB, .long zC, .long zD]) (n := 9) (Nat.le_of_ble_eq_true rfl)
      refine W.eq (g2 := entryFrame m ([.ref (ad 42), .int (nI k_zA), .int zB, .long zC, .long zD] : List Value).toArray 9) (by rw [ha]) ?_
      rw [lg_entry_eq]
      generalize (lg_sl ([.ref (ad 42), .int (nI k_zA), .int zB, .long zC, .long zD]) ++ List.replicate (9 - (lg_sl ([.ref (ad 42), .int (nI k_zA), .int zB, .long zC, .long zD])).length) Slot.unset).toArray = ls at hl ⊢
      have hl : lv_has ls 9 [(0, .ref (ad 42)), (1, .int (nI k_zA)), (2, .int zB), (3, .long zC), (5, .long zD)] := hl
      refine lv_iload_n hx hb dX5_pin_0 rfl (lv_at hl 1 rfl) ?_
      refine lv_if_lt (x := (nI k_zA)) (tgt := 24) hx hb dX5_pin_1 (by decide) (fun c_33 => ?_) (fun c_33 => ?_)
      · refine lv_iconst (v := bm_b false) hx hb dX5_pin_24 (by decide) ?_
        refine lv_istore (lv' := [(7, .int (bm_b false)), (0, .ref (ad 42)), (1, .int (nI k_zA)), (2, .int zB), (3, .long zC), (5, .long zD)]) hx hb dX5_pin_25 hl (by decide) rfl (fun ls hl => ?_)
        refine lv_iload hx hb dX5_pin_27 (lv_at hl 0 rfl) ?_
        refine bm_zb_eq (x := false) (tgt := 72) hx hb dX5_pin_29 (by decide) (fun c_34 => ?_) (fun c_34 => ?_)
        · refine lv_iconst (v := bm_b false) hx hb dX5_pin_72 (by decide) ?_
          refine lv_istore (lv' := [(8, .int (bm_b false)), (7, .int (bm_b false)), (0, .ref (ad 42)), (1, .int (nI k_zA)), (2, .int zB), (3, .long zC), (5, .long zD)]) hx hb dX5_pin_73 hl (by decide) rfl (fun ls hl => ?_)
          refine lv_aload_n hx hb dX5_pin_75 rfl (lv_at hl 2 rfl) ?_
          refine lv_iload hx hb dX5_pin_76 (lv_at hl 1 rfl) ?_
          refine bm_zb_ne (x := false) (tgt := 85) hx hb dX5_pin_78 (by decide) (fun c_35 => ?_) (fun c_35 => ?_)
          · exact absurd c_35 (by decide)
          · refine lv_iconst (v := nI 1) hx hb dX5_pin_81 (by decide) ?_
            refine lv_goto (tgt := 95) hx hb dX5_pin_82 (by decide) ?_
            refine va_put (D := D) (ci := 5) (v := .int (nI 1)) (ty := .int) (C := RX5) (T := TX5) (N := 28) hx hb hts (inT inX5) tyX5 tyX5_ok nmX5 hown hK hP hD hS 42 ww_42 rfl 0 (by decide) (hts (.fieldLink RX5 81 "BoardMovesModel" "thrown" "I") (List.mem_cons_of_mem _ flX5_81)) (fun _ h9 => h9) rfl (by decide +kernel) rfl rfl (Nat.le_of_ble_eq_true rfl) dX5_pin_95 (fun H locs hP hD hS => ?_)
            have hP : va_P D vwCl (WW ad cJ cI cZ bm pa p0 p1 p2 li wi (1) ms ma mp mk mn ou) H := hP
            have hD : va_D A (WW ad cJ cI cZ bm pa p0 p1 p2 li wi (1) ms ma mp mk mn ou) := hD
            refine lv_aload_n hx hb dX5_pin_98 rfl (lv_at hl 2 rfl) ?_
            refine va_get (D := D) (ci := 5) (v := .int (nI 1)) (C := RX5) (T := TX5) (N := 28) hx hb hts (inT inX5) hown hK hP 42 ww_42 rfl 0 (by decide) (hts (.fieldLink RX5 81 "BoardMovesModel" "thrown" "I") (List.mem_cons_of_mem _ flX5_81)) (fun _ h9 => h9) rfl dX5_pin_99 ?_
            refine bm_nz_ne (x := 1) (tgt := 114) hx hb (by decide) dX5_pin_102 (by decide) (fun c_36 => ?_) (fun c_36 => ?_)
            · refine lv_iconst (v := bm_b false) hx hb dX5_pin_114 (by decide) ?_
              exact bm_zretX (v := false) hx hb hr hP hD hK hS ⟨(1), ms, ma, mp, mk, mn, ⟨ok_ms_parts, ok_ms_outs, ok_ms_nears, ok_ms_nets, ok_ms_pins, ok_ma_sides, ok_ma_groups, ok_mp_turns, ok_mk_nearOne, ok_mk_nearTwo, ok_mn_pinNet, ok_mn_pinPart, hw, hh⟩, rfl, rfl, false, rfl⟩ dX5_pin_115 hlocks
            · exact absurd c_36 (by decide)
        · exact absurd c_34 (by decide)
      · refine lv_iload_n hx hb dX5_pin_4 rfl (lv_at hl 1 rfl) ?_
        refine lv_aload_n hx hb dX5_pin_5 rfl (lv_at hl 0 rfl) ?_
        refine va_get (D := D) (ci := 5) (v := .int (nI ms.2.2.2.2.2.1)) (C := RX5) (T := TX5) (N := 28) hx hb hts (inT inX5) hown hK hP 42 ww_42 rfl 20 (by decide) (hts (.fieldLink RX5 160 "BoardMovesModel" "nets" "I") (List.mem_cons_of_mem _ flX5_160)) (fun _ h9 => h9) rfl dX5_pin_6 ?_
        refine bm_ni_ge (x := k_zA) (y := ms.2.2.2.2.2.1) (tgt := 24) hx hb (by omega) (by omega) dX5_pin_9 (by decide) (fun c_37 => ?_) (fun c_37 => ?_)
        · refine lv_iconst (v := bm_b false) hx hb dX5_pin_24 (by decide) ?_
          refine lv_istore (lv' := [(7, .int (bm_b false)), (0, .ref (ad 42)), (1, .int (nI k_zA)), (2, .int zB), (3, .long zC), (5, .long zD)]) hx hb dX5_pin_25 hl (by decide) rfl (fun ls hl => ?_)
          refine lv_iload hx hb dX5_pin_27 (lv_at hl 0 rfl) ?_
          refine bm_zb_eq (x := false) (tgt := 72) hx hb dX5_pin_29 (by decide) (fun c_38 => ?_) (fun c_38 => ?_)
          · refine lv_iconst (v := bm_b false) hx hb dX5_pin_72 (by decide) ?_
            refine lv_istore (lv' := [(8, .int (bm_b false)), (7, .int (bm_b false)), (0, .ref (ad 42)), (1, .int (nI k_zA)), (2, .int zB), (3, .long zC), (5, .long zD)]) hx hb dX5_pin_73 hl (by decide) rfl (fun ls hl => ?_)
            refine lv_aload_n hx hb dX5_pin_75 rfl (lv_at hl 2 rfl) ?_
            refine lv_iload hx hb dX5_pin_76 (lv_at hl 1 rfl) ?_
            refine bm_zb_ne (x := false) (tgt := 85) hx hb dX5_pin_78 (by decide) (fun c_39 => ?_) (fun c_39 => ?_)
            · exact absurd c_39 (by decide)
            · refine lv_iconst (v := nI 1) hx hb dX5_pin_81 (by decide) ?_
              refine lv_goto (tgt := 95) hx hb dX5_pin_82 (by decide) ?_
              refine va_put (D := D) (ci := 5) (v := .int (nI 1)) (ty := .int) (C := RX5) (T := TX5) (N := 28) hx hb hts (inT inX5) tyX5 tyX5_ok nmX5 hown hK hP hD hS 42 ww_42 rfl 0 (by decide) (hts (.fieldLink RX5 81 "BoardMovesModel" "thrown" "I") (List.mem_cons_of_mem _ flX5_81)) (fun _ h9 => h9) rfl (by decide +kernel) rfl rfl (Nat.le_of_ble_eq_true rfl) dX5_pin_95 (fun H locs hP hD hS => ?_)
              have hP : va_P D vwCl (WW ad cJ cI cZ bm pa p0 p1 p2 li wi (1) ms ma mp mk mn ou) H := hP
              have hD : va_D A (WW ad cJ cI cZ bm pa p0 p1 p2 li wi (1) ms ma mp mk mn ou) := hD
              refine lv_aload_n hx hb dX5_pin_98 rfl (lv_at hl 2 rfl) ?_
              refine va_get (D := D) (ci := 5) (v := .int (nI 1)) (C := RX5) (T := TX5) (N := 28) hx hb hts (inT inX5) hown hK hP 42 ww_42 rfl 0 (by decide) (hts (.fieldLink RX5 81 "BoardMovesModel" "thrown" "I") (List.mem_cons_of_mem _ flX5_81)) (fun _ h9 => h9) rfl dX5_pin_99 ?_
              refine bm_nz_ne (x := 1) (tgt := 114) hx hb (by decide) dX5_pin_102 (by decide) (fun c_40 => ?_) (fun c_40 => ?_)
              · refine lv_iconst (v := bm_b false) hx hb dX5_pin_114 (by decide) ?_
                exact bm_zretX (v := false) hx hb hr hP hD hK hS ⟨(1), ms, ma, mp, mk, mn, ⟨ok_ms_parts, ok_ms_outs, ok_ms_nears, ok_ms_nets, ok_ms_pins, ok_ma_sides, ok_ma_groups, ok_mp_turns, ok_mk_nearOne, ok_mk_nearTwo, ok_mn_pinNet, ok_mn_pinPart, hw, hh⟩, rfl, rfl, false, rfl⟩ dX5_pin_115 hlocks
              · exact absurd c_40 (by decide)
          · exact absurd c_38 (by decide)
        · refine lv_aload_n hx hb dX5_pin_12 rfl (lv_at hl 0 rfl) ?_
          refine lv_iload_n hx hb dX5_pin_13 rfl (lv_at hl 2 rfl) ?_
          refine bm_rcallV (As := [.int zB]) (rest := []) ⟨hx, hb, hml, hown, hts⟩ (Y_isPartN  (zA := zB) hno_zB) (cwV 1 hts gvX5_139 rfl rfl rfl hvX5_isPart ⟨Nat.le_of_ble_eq_true rfl, Nat.le_of_ble_eq_true rfl⟩) hK hP 42 5 rfl ww_42 rfl hl.1 rfl (Nat.le_of_ble_eq_true rfl) dX5_pin_14 ⟨Nat.le_of_ble_eq_true rfl, Nat.le_of_ble_eq_true rfl⟩ ?_
          refine bm_zb_eq (x := false) (tgt := 24) hx hb dX5_pin_17 (by decide) (fun c_41 => ?_) (fun c_41 => ?_)
          · refine lv_iconst (v := bm_b false) hx hb dX5_pin_24 (by decide) ?_
            refine lv_istore (lv' := [(7, .int (bm_b false)), (0, .ref (ad 42)), (1, .int (nI k_zA)), (2, .int zB), (3, .long zC), (5, .long zD)]) hx hb dX5_pin_25 hl (by decide) rfl (fun ls hl => ?_)
            refine lv_iload hx hb dX5_pin_27 (lv_at hl 0 rfl) ?_
            refine bm_zb_eq (x := false) (tgt := 72) hx hb dX5_pin_29 (by decide) (fun c_42 => ?_) (fun c_42 => ?_)
            · refine lv_iconst (v := bm_b false) hx hb dX5_pin_72 (by decide) ?_
              refine lv_istore (lv' := [(8, .int (bm_b false)), (7, .int (bm_b false)), (0, .ref (ad 42)), (1, .int (nI k_zA)), (2, .int zB), (3, .long zC), (5, .long zD)]) hx hb dX5_pin_73 hl (by decide) rfl (fun ls hl => ?_)
              refine lv_aload_n hx hb dX5_pin_75 rfl (lv_at hl 2 rfl) ?_
              refine lv_iload hx hb dX5_pin_76 (lv_at hl 1 rfl) ?_
              refine bm_zb_ne (x := false) (tgt := 85) hx hb dX5_pin_78 (by decide) (fun c_43 => ?_) (fun c_43 => ?_)
              · exact absurd c_43 (by decide)
              · refine lv_iconst (v := nI 1) hx hb dX5_pin_81 (by decide) ?_
                refine lv_goto (tgt := 95) hx hb dX5_pin_82 (by decide) ?_
                refine va_put (D := D) (ci := 5) (v := .int (nI 1)) (ty := .int) (C := RX5) (T := TX5) (N := 28) hx hb hts (inT inX5) tyX5 tyX5_ok nmX5 hown hK hP hD hS 42 ww_42 rfl 0 (by decide) (hts (.fieldLink RX5 81 "BoardMovesModel" "thrown" "I") (List.mem_cons_of_mem _ flX5_81)) (fun _ h9 => h9) rfl (by decide +kernel) rfl rfl (Nat.le_of_ble_eq_true rfl) dX5_pin_95 (fun H locs hP hD hS => ?_)
                have hP : va_P D vwCl (WW ad cJ cI cZ bm pa p0 p1 p2 li wi (1) ms ma mp mk mn ou) H := hP
                have hD : va_D A (WW ad cJ cI cZ bm pa p0 p1 p2 li wi (1) ms ma mp mk mn ou) := hD
                refine lv_aload_n hx hb dX5_pin_98 rfl (lv_at hl 2 rfl) ?_
                refine va_get (D := D) (ci := 5) (v := .int (nI 1)) (C := RX5) (T := TX5) (N := 28) hx hb hts (inT inX5) hown hK hP 42 ww_42 rfl 0 (by decide) (hts (.fieldLink RX5 81 "BoardMovesModel" "thrown" "I") (List.mem_cons_of_mem _ flX5_81)) (fun _ h9 => h9) rfl dX5_pin_99 ?_
                refine bm_nz_ne (x := 1) (tgt := 114) hx hb (by decide) dX5_pin_102 (by decide) (fun c_44 => ?_) (fun c_44 => ?_)
                · refine lv_iconst (v := bm_b false) hx hb dX5_pin_114 (by decide) ?_
                  exact bm_zretX (v := false) hx hb hr hP hD hK hS ⟨(1), ms, ma, mp, mk, mn, ⟨ok_ms_parts, ok_ms_outs, ok_ms_nears, ok_ms_nets, ok_ms_pins, ok_ma_sides, ok_ma_groups, ok_mp_turns, ok_mk_nearOne, ok_mk_nearTwo, ok_mn_pinNet, ok_mn_pinPart, hw, hh⟩, rfl, rfl, false, rfl⟩ dX5_pin_115 hlocks
                · exact absurd c_44 (by decide)
            · exact absurd c_42 (by decide)
          · exact absurd c_41 (by decide)
  · have hl := lv_entry ([.ref (ad 42), .int zA, .int zB, .long zC, .long zD]) (n := 9) (Nat.le_of_ble_eq_true rfl)
    refine W.eq (g2 := entryFrame m ([.ref (ad 42), .int zA, .int zB, .long zC, .long zD] : List Value).toArray 9) (by rw [ha]) ?_
    rw [lg_entry_eq]
    generalize (lg_sl ([.ref (ad 42), .int zA, .int zB, .long zC, .long zD]) ++ List.replicate (9 - (lg_sl ([.ref (ad 42), .int zA, .int zB, .long zC, .long zD])).length) Slot.unset).toArray = ls at hl ⊢
    have hl : lv_has ls 9 [(0, .ref (ad 42)), (1, .int zA), (2, .int zB), (3, .long zC), (5, .long zD)] := hl
    refine lv_iload_n hx hb dX5_pin_0 rfl (lv_at hl 1 rfl) ?_
    refine lv_if_lt (x := zA) (tgt := 24) hx hb dX5_pin_1 (by decide) (fun c_45 => ?_) (fun c_45 => ?_)
    · refine lv_iconst (v := bm_b false) hx hb dX5_pin_24 (by decide) ?_
      refine lv_istore (lv' := [(7, .int (bm_b false)), (0, .ref (ad 42)), (1, .int zA), (2, .int zB), (3, .long zC), (5, .long zD)]) hx hb dX5_pin_25 hl (by decide) rfl (fun ls hl => ?_)
      refine lv_iload hx hb dX5_pin_27 (lv_at hl 0 rfl) ?_
      refine bm_zb_eq (x := false) (tgt := 72) hx hb dX5_pin_29 (by decide) (fun c_46 => ?_) (fun c_46 => ?_)
      · refine lv_iconst (v := bm_b false) hx hb dX5_pin_72 (by decide) ?_
        refine lv_istore (lv' := [(8, .int (bm_b false)), (7, .int (bm_b false)), (0, .ref (ad 42)), (1, .int zA), (2, .int zB), (3, .long zC), (5, .long zD)]) hx hb dX5_pin_73 hl (by decide) rfl (fun ls hl => ?_)
        refine lv_aload_n hx hb dX5_pin_75 rfl (lv_at hl 2 rfl) ?_
        refine lv_iload hx hb dX5_pin_76 (lv_at hl 1 rfl) ?_
        refine bm_zb_ne (x := false) (tgt := 85) hx hb dX5_pin_78 (by decide) (fun c_47 => ?_) (fun c_47 => ?_)
        · exact absurd c_47 (by decide)
        · refine lv_iconst (v := nI 1) hx hb dX5_pin_81 (by decide) ?_
          refine lv_goto (tgt := 95) hx hb dX5_pin_82 (by decide) ?_
          refine va_put (D := D) (ci := 5) (v := .int (nI 1)) (ty := .int) (C := RX5) (T := TX5) (N := 28) hx hb hts (inT inX5) tyX5 tyX5_ok nmX5 hown hK hP hD hS 42 ww_42 rfl 0 (by decide) (hts (.fieldLink RX5 81 "BoardMovesModel" "thrown" "I") (List.mem_cons_of_mem _ flX5_81)) (fun _ h9 => h9) rfl (by decide +kernel) rfl rfl (Nat.le_of_ble_eq_true rfl) dX5_pin_95 (fun H locs hP hD hS => ?_)
          have hP : va_P D vwCl (WW ad cJ cI cZ bm pa p0 p1 p2 li wi (1) ms ma mp mk mn ou) H := hP
          have hD : va_D A (WW ad cJ cI cZ bm pa p0 p1 p2 li wi (1) ms ma mp mk mn ou) := hD
          refine lv_aload_n hx hb dX5_pin_98 rfl (lv_at hl 2 rfl) ?_
          refine va_get (D := D) (ci := 5) (v := .int (nI 1)) (C := RX5) (T := TX5) (N := 28) hx hb hts (inT inX5) hown hK hP 42 ww_42 rfl 0 (by decide) (hts (.fieldLink RX5 81 "BoardMovesModel" "thrown" "I") (List.mem_cons_of_mem _ flX5_81)) (fun _ h9 => h9) rfl dX5_pin_99 ?_
          refine bm_nz_ne (x := 1) (tgt := 114) hx hb (by decide) dX5_pin_102 (by decide) (fun c_48 => ?_) (fun c_48 => ?_)
          · refine lv_iconst (v := bm_b false) hx hb dX5_pin_114 (by decide) ?_
            exact bm_zretX (v := false) hx hb hr hP hD hK hS ⟨(1), ms, ma, mp, mk, mn, ⟨ok_ms_parts, ok_ms_outs, ok_ms_nears, ok_ms_nets, ok_ms_pins, ok_ma_sides, ok_ma_groups, ok_mp_turns, ok_mk_nearOne, ok_mk_nearTwo, ok_mn_pinNet, ok_mn_pinPart, hw, hh⟩, rfl, rfl, false, rfl⟩ dX5_pin_115 hlocks
          · exact absurd c_48 (by decide)
      · exact absurd c_46 (by decide)
    · refine lv_iload_n hx hb dX5_pin_4 rfl (lv_at hl 1 rfl) ?_
      refine lv_aload_n hx hb dX5_pin_5 rfl (lv_at hl 0 rfl) ?_
      refine va_get (D := D) (ci := 5) (v := .int (nI ms.2.2.2.2.2.1)) (C := RX5) (T := TX5) (N := 28) hx hb hts (inT inX5) hown hK hP 42 ww_42 rfl 20 (by decide) (hts (.fieldLink RX5 160 "BoardMovesModel" "nets" "I") (List.mem_cons_of_mem _ flX5_160)) (fun _ h9 => h9) rfl dX5_pin_6 ?_
      refine lv_icmp_ge (x := zA) (y := (nI ms.2.2.2.2.2.1)) (tgt := 24) hx hb dX5_pin_9 (by decide) (fun c_49 => ?_) (fun c_49 => ?_)
      · refine lv_iconst (v := bm_b false) hx hb dX5_pin_24 (by decide) ?_
        refine lv_istore (lv' := [(7, .int (bm_b false)), (0, .ref (ad 42)), (1, .int zA), (2, .int zB), (3, .long zC), (5, .long zD)]) hx hb dX5_pin_25 hl (by decide) rfl (fun ls hl => ?_)
        refine lv_iload hx hb dX5_pin_27 (lv_at hl 0 rfl) ?_
        refine bm_zb_eq (x := false) (tgt := 72) hx hb dX5_pin_29 (by decide) (fun c_50 => ?_) (fun c_50 => ?_)
        · refine lv_iconst (v := bm_b false) hx hb dX5_pin_72 (by decide) ?_
          refine lv_istore (lv' := [(8, .int (bm_b false)), (7, .int (bm_b false)), (0, .ref (ad 42)), (1, .int zA), (2, .int zB), (3, .long zC), (5, .long zD)]) hx hb dX5_pin_73 hl (by decide) rfl (fun ls hl => ?_)
          refine lv_aload_n hx hb dX5_pin_75 rfl (lv_at hl 2 rfl) ?_
          refine lv_iload hx hb dX5_pin_76 (lv_at hl 1 rfl) ?_
          refine bm_zb_ne (x := false) (tgt := 85) hx hb dX5_pin_78 (by decide) (fun c_51 => ?_) (fun c_51 => ?_)
          · exact absurd c_51 (by decide)
          · refine lv_iconst (v := nI 1) hx hb dX5_pin_81 (by decide) ?_
            refine lv_goto (tgt := 95) hx hb dX5_pin_82 (by decide) ?_
            refine va_put (D := D) (ci := 5) (v := .int (nI 1)) (ty := .int) (C := RX5) (T := TX5) (N := 28) hx hb hts (inT inX5) tyX5 tyX5_ok nmX5 hown hK hP hD hS 42 ww_42 rfl 0 (by decide) (hts (.fieldLink RX5 81 "BoardMovesModel" "thrown" "I") (List.mem_cons_of_mem _ flX5_81)) (fun _ h9 => h9) rfl (by decide +kernel) rfl rfl (Nat.le_of_ble_eq_true rfl) dX5_pin_95 (fun H locs hP hD hS => ?_)
            have hP : va_P D vwCl (WW ad cJ cI cZ bm pa p0 p1 p2 li wi (1) ms ma mp mk mn ou) H := hP
            have hD : va_D A (WW ad cJ cI cZ bm pa p0 p1 p2 li wi (1) ms ma mp mk mn ou) := hD
            refine lv_aload_n hx hb dX5_pin_98 rfl (lv_at hl 2 rfl) ?_
            refine va_get (D := D) (ci := 5) (v := .int (nI 1)) (C := RX5) (T := TX5) (N := 28) hx hb hts (inT inX5) hown hK hP 42 ww_42 rfl 0 (by decide) (hts (.fieldLink RX5 81 "BoardMovesModel" "thrown" "I") (List.mem_cons_of_mem _ flX5_81)) (fun _ h9 => h9) rfl dX5_pin_99 ?_
            refine bm_nz_ne (x := 1) (tgt := 114) hx hb (by decide) dX5_pin_102 (by decide) (fun c_52 => ?_) (fun c_52 => ?_)
            · refine lv_iconst (v := bm_b false) hx hb dX5_pin_114 (by decide) ?_
              exact bm_zretX (v := false) hx hb hr hP hD hK hS ⟨(1), ms, ma, mp, mk, mn, ⟨ok_ms_parts, ok_ms_outs, ok_ms_nears, ok_ms_nets, ok_ms_pins, ok_ma_sides, ok_ma_groups, ok_mp_turns, ok_mk_nearOne, ok_mk_nearTwo, ok_mn_pinNet, ok_mn_pinPart, hw, hh⟩, rfl, rfl, false, rfl⟩ dX5_pin_115 hlocks
            · exact absurd c_52 (by decide)
        · exact absurd c_50 (by decide)
      · exact absurd ⟨c_45, bx_nlt c_49⟩ hno_zA
