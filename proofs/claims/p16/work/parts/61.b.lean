set_option maxHeartbeats 16000000 in
set_option maxRecDepth 100000 in
theorem Y_put {l : Launch} {D : va_G} {ad : Nat → Nat} {cJ cI cZ : ClassId} {bm : gBM} {pa : gPA} {p0 p1 p2 : gPL} {li : gLI} {wi : gWI} {mt : Nat} {ms : gMS} {ma : gMA} {mp : gMP} {mk : gMK} {mn : gMN} {ou : Nat → Int64} {zA : Int32} {zB : Int64} {zC : Int64} {zD : Int32} (hok : okM ms ma mp mk mn)  : bm_Wx l yX5_put wsX5_put ({ frames := 4, cells := 0, slots := 0, locals := 93 }) D vwCl [(cJ, .long), (cI, .int), (cZ, .boolean)] (WW ad cJ cI cZ bm pa p0 p1 p2 li wi mt ms ma mp mk mn ou) [.ref (ad 42), .int zA, .long zB, .long zC, .int zD] (PMZ ad cJ cI cZ bm pa p0 p1 p2 li wi mt ms ma mp mk mn ou) := by
  obtain ⟨ok_ms_parts, ok_ms_outs, ok_ms_nears, ok_ms_nets, ok_ms_pins, ok_ma_sides, ok_ma_groups, ok_mp_turns, ok_mk_nearOne, ok_mk_nearTwo, ok_mn_pinNet, ok_mn_pinPart, hw, hh⟩ := hok
  intro sz
  refine Met.ofW (cc := cX5_put) (maxL := 8) (ret := (some .boolean)) (by decide) rfl ?_
  intro p e s m args below meth c s₁ B hml hv
  obtain ⟨ha, hsz, hP, hK, hD0⟩ := hv
  have hx := B.exec
  have hb := B.bytes
  have hr := B.returns
  have hts := atoms_spec (ws := wsX5_put) B.pre
  have hown : s.vm.findClass RX5 = some m.cls := findClass_of_methodNamed B.named
  have hlocks := B.notSynchronized
  subst hsz
  have hD := hD0.self (sz := s.heap.size)
  generalize hAe : va_A (WW ad cJ cI cZ bm pa p0 p1 p2 li wi mt ms ma mp mk mn ou) s.heap.size = A at hD ⊢
  have hA : ∀ q : Nat, s.heap.size ≤ q → A q := fun q h => by rw [← hAe]; exact Or.inr h
  have hS : va_S A s.heap s.heap [] := va_S.rf
  rcases bx_idx zA (n := ms.2.2.1) (by omega) with ⟨k_zA, hk_zA, rfl⟩ | hno_zA
  · rcases bx_idx zD (n := 4) (by omega) with ⟨k_zD, hk_zD, rfl⟩ | hno_zD
    · have hl := lv_entry ([.ref (ad 42), .int (nI k_zA), .long zB, .long zC, .int (nI k_zD)]) (n := 8) (Nat.le_of_ble_eq_true rfl)
      refine W.eq (g2 := entryFrame m ([.ref (ad 42), .int (nI k_zA), .long zB, .long zC, .int (nI k_zD)] : List Value).toArray 8) (by rw [ha]) ?_
      rw [lg_entry_eq]
      generalize (lg_sl ([.ref (ad 42), .int (nI k_zA), .long zB, .long zC, .int (nI k_zD)]) ++ List.replicate (8 - (lg_sl ([.ref (ad 42), .int (nI k_zA), .long zB, .long zC, .int (nI k_zD)])).length) Slot.unset).toArray = ls at hl ⊢
      have hl : lv_has ls 8 [(0, .ref (ad 42)), (1, .int (nI k_zA)), (2, .long zB), (4, .long zC), (6, .int (nI k_zD))] := hl
      refine lv_aload_n hx hb dX5_put_0 rfl (lv_at hl 0 rfl) ?_
      refine lv_aload_n hx hb dX5_put_1 rfl (lv_at hl 0 rfl) ?_
      refine lv_iload_n hx hb dX5_put_2 rfl (lv_at hl 1 rfl) ?_
      refine bm_rcallV (As := [.int (nI k_zA)]) (rest := [.ref (ad 42)]) ⟨hx, hb, hml, hown, hts⟩ (Y_isPartY  (zp := k_zA) ok_ms_parts (by omega)) (cwV 1 hts gvX5_139 rfl rfl rfl hvX5_isPart ⟨Nat.le_of_ble_eq_true rfl, Nat.le_of_ble_eq_true rfl⟩) hK hP 42 5 rfl ww_42 rfl hl.1 rfl (Nat.le_of_ble_eq_true rfl) dX5_put_3 ⟨Nat.le_of_ble_eq_true rfl, Nat.le_of_ble_eq_true rfl⟩ ?_
      refine bm_zb_ne (x := true) (tgt := 13) hx hb dX5_put_6 (by decide) (fun c_1 => ?_) (fun c_1 => ?_)
      · refine lv_iload hx hb dX5_put_13 (lv_at hl 4 rfl) ?_
        refine lv_if_lt (x := (nI k_zD)) (tgt := 24) hx hb dX5_put_15 (by decide) (fun c_2 => ?_) (fun c_2 => ?_)
        · exact absurd c_2 (bx_nn (by omega))
        · refine lv_iload hx hb dX5_put_18 (lv_at hl 4 rfl) ?_
          refine lv_iconst (v := nI 3) hx hb dX5_put_20 (by decide) ?_
          refine lv_icmp_le (x := (nI k_zD)) (y := (nI 3)) (tgt := 28) hx hb dX5_put_21 (by decide) (fun c_3 => ?_) (fun c_3 => ?_)
          · refine lv_iconst (v := nI 0) hx hb dX5_put_28 (by decide) ?_
            refine va_put (D := D) (ci := 5) (v := .int (nI 0)) (ty := .int) (C := RX5) (T := TX5) (N := 28) hx hb hts (inT inX5) tyX5 tyX5_ok nmX5 hown hK hP hD hS 42 ww_42 rfl 0 (by decide) (hts (.fieldLink RX5 81 "BoardMovesModel" "thrown" "I") (List.mem_cons_of_mem _ flX5_81)) (fun _ h9 => h9) rfl (by decide +kernel) rfl rfl (Nat.le_of_ble_eq_true rfl) dX5_put_29 (fun H locs hP hD hS => ?_)
            have hP : va_P D vwCl (WW ad cJ cI cZ bm pa p0 p1 p2 li wi (0) ms ma mp mk mn ou) H := hP
            have hD : va_D A (WW ad cJ cI cZ bm pa p0 p1 p2 li wi (0) ms ma mp mk mn ou) := hD
            refine lv_aload_n hx hb dX5_put_32 rfl (lv_at hl 0 rfl) ?_
            refine va_get (D := D) (ci := 5) (v := .int (nI 0)) (C := RX5) (T := TX5) (N := 28) hx hb hts (inT inX5) hown hK hP 42 ww_42 rfl 0 (by decide) (hts (.fieldLink RX5 81 "BoardMovesModel" "thrown" "I") (List.mem_cons_of_mem _ flX5_81)) (fun _ h9 => h9) rfl dX5_put_33 ?_
            refine bm_nz_eq (x := 0) (tgt := 41) hx hb (by decide) dX5_put_36 (by decide) (fun c_4 => ?_) (fun c_4 => ?_)
            · refine lv_aload_n hx hb dX5_put_41 rfl (lv_at hl 0 rfl) ?_
              refine bm_xcallV (As := []) (rest := []) ⟨hx, hb, hml, hown, hts⟩ (y_begin (mt := (0))  ok_mp_turns ) (cwV 0 hts gvX5_143 rfl rfl rfl hvX5_begin ⟨Nat.le_of_ble_eq_true rfl, Nat.le_of_ble_eq_true rfl⟩) hK hP hD hS hA 42 5 rfl ww_42 rfl hl.1 rfl (Nat.le_of_ble_eq_true rfl) dX5_put_42 ⟨Nat.le_of_ble_eq_true rfl, Nat.le_of_ble_eq_true rfl⟩ (fun ws_5 r_6 h_7 H locs hP hD hS => ?_)
              obtain ⟨g_8, g_9, g_10, g_12, ok_11, rfl, rfl⟩ := h_7
              have hP : va_P D vwCl (WW ad cJ cI cZ bm pa p0 p1 p2 li wi (0) ms ma (g_8, g_9, g_10) mk (mn.1, mn.2.1, mn.2.2.1, mn.2.2.2.1, g_12) ou) H := hP
              have hD : va_D A (WW ad cJ cI cZ bm pa p0 p1 p2 li wi (0) ms ma (g_8, g_9, g_10) mk (mn.1, mn.2.1, mn.2.2.1, mn.2.2.2.1, g_12) ou) := hD
              refine lv_aload_n hx hb dX5_put_45 rfl (lv_at hl 0 rfl) ?_
              refine va_get (D := D) (ci := 5) (v := .ref (ad 49)) (C := RX5) (T := TX5) (N := 28) hx hb hts (inT inX5) hown hK hP 42 ww_42 rfl 10 (by decide) (hts (.fieldLink RX5 30 "BoardMovesModel" "placed" "[Z") (List.mem_cons_of_mem _ flX5_30)) (fun _ h9 => h9) rfl dX5_put_46 ?_
              refine lv_iload_n hx hb dX5_put_49 rfl (lv_at hl 1 rfl) ?_
              refine bm_zald (f := ma.2.2.2.2.2.2) hx hb hK hP 49 2 ww_49 rfl (j := k_zA) (by omega) (by decide) dX5_put_50 ?_
              refine lv_istore (lv' := [(7, .int (bm_b (ma.2.2.2.2.2.2 k_zA))), (0, .ref (ad 42)), (1, .int (nI k_zA)), (2, .long zB), (4, .long zC), (6, .int (nI k_zD))]) hx hb dX5_put_51 hl (by decide) rfl (fun ls hl => ?_)
              refine lv_iload hx hb dX5_put_53 (lv_at hl 0 rfl) ?_
              refine bm_zb_eq (x := (ma.2.2.2.2.2.2 k_zA)) (tgt := 104) hx hb dX5_put_55 (by decide) (fun c_13 => ?_) (fun c_13 => ?_)
              · refine lv_aload_n hx hb dX5_put_104 rfl (lv_at hl 1 rfl) ?_
                refine va_get (D := D) (ci := 5) (v := .ref (ad 50)) (C := RX5) (T := TX5) (N := 28) hx hb hts (inT inX5) hown hK hP 42 ww_42 rfl 11 (by decide) (hts (.fieldLink RX5 33 "BoardMovesModel" "x" "[J") (List.mem_cons_of_mem _ flX5_33)) (fun _ h9 => h9) rfl dX5_put_105 ?_
                refine lv_bipush (v := nI 40) hx hb dX5_put_108 (by decide) ?_
                refine lv_iload_n hx hb dX5_put_110 rfl (lv_at hl 2 rfl) ?_
                refine bm_nadd hx hb dX5_put_111 ?_
                refine lv_lload_n hx hb dX5_put_112 rfl (lv_at hl 3 rfl) ?_
                refine bm_last (f := g_8) hx hb hK hP hD hS 50 0 ww_50 rfl (j := (40 + k_zA)) (x := zB) (by omega) (by decide) dX5_put_113 (fun H locs hP hD hS => ?_)
                have hP : va_P D vwCl (WW ad cJ cI cZ bm pa p0 p1 p2 li wi (0) ms ma (va_up g_8 (40 + k_zA) zB, g_9, g_10) mk (mn.1, mn.2.1, mn.2.2.1, mn.2.2.2.1, g_12) ou) H := hP
                have hD : va_D A (WW ad cJ cI cZ bm pa p0 p1 p2 li wi (0) ms ma (va_up g_8 (40 + k_zA) zB, g_9, g_10) mk (mn.1, mn.2.1, mn.2.2.1, mn.2.2.2.1, g_12) ou) := hD
                refine lv_aload_n hx hb dX5_put_114 rfl (lv_at hl 1 rfl) ?_
                refine va_get (D := D) (ci := 5) (v := .ref (ad 51)) (C := RX5) (T := TX5) (N := 28) hx hb hts (inT inX5) hown hK hP 42 ww_42 rfl 12 (by decide) (hts (.fieldLink RX5 36 "BoardMovesModel" "y" "[J") (List.mem_cons_of_mem _ flX5_36)) (fun _ h9 => h9) rfl dX5_put_115 ?_
                refine lv_bipush (v := nI 40) hx hb dX5_put_118 (by decide) ?_
                refine lv_iload_n hx hb dX5_put_120 rfl (lv_at hl 2 rfl) ?_
                refine bm_nadd hx hb dX5_put_121 ?_
                refine lv_lload hx hb dX5_put_122 (lv_at hl 4 rfl) ?_
                refine bm_last (f := g_9) hx hb hK hP hD hS 51 0 ww_51 rfl (j := (40 + k_zA)) (x := zC) (by omega) (by decide) dX5_put_124 (fun H locs hP hD hS => ?_)
                have hP : va_P D vwCl (WW ad cJ cI cZ bm pa p0 p1 p2 li wi (0) ms ma (va_up g_8 (40 + k_zA) zB, va_up g_9 (40 + k_zA) zC, g_10) mk (mn.1, mn.2.1, mn.2.2.1, mn.2.2.2.1, g_12) ou) H := hP
                have hD : va_D A (WW ad cJ cI cZ bm pa p0 p1 p2 li wi (0) ms ma (va_up g_8 (40 + k_zA) zB, va_up g_9 (40 + k_zA) zC, g_10) mk (mn.1, mn.2.1, mn.2.2.1, mn.2.2.2.1, g_12) ou) := hD
                refine lv_aload_n hx hb dX5_put_125 rfl (lv_at hl 1 rfl) ?_
                refine va_get (D := D) (ci := 5) (v := .ref (ad 52)) (C := RX5) (T := TX5) (N := 28) hx hb hts (inT inX5) hown hK hP 42 ww_42 rfl 13 (by decide) (hts (.fieldLink RX5 39 "BoardMovesModel" "turns" "[I") (List.mem_cons_of_mem _ flX5_39)) (fun _ h9 => h9) rfl dX5_put_126 ?_
                refine lv_bipush (v := nI 40) hx hb dX5_put_129 (by decide) ?_
                refine lv_iload_n hx hb dX5_put_131 rfl (lv_at hl 2 rfl) ?_
                refine bm_nadd hx hb dX5_put_132 ?_
                refine lv_iload hx hb dX5_put_133 (lv_at hl 5 rfl) ?_
                refine bm_nast (f := g_10) hx hb hK hP hD hS 52 1 ww_52 rfl (j := (40 + k_zA)) (x := k_zD) (by omega) (by decide) dX5_put_135 (fun H locs hP hD hS => ?_)
                have hP : va_P D vwCl (WW ad cJ cI cZ bm pa p0 p1 p2 li wi (0) ms ma (va_up g_8 (40 + k_zA) zB, va_up g_9 (40 + k_zA) zC, va_up g_10 (40 + k_zA) k_zD) mk (mn.1, mn.2.1, mn.2.2.1, mn.2.2.2.1, g_12) ou) H := hP
                have hD : va_D A (WW ad cJ cI cZ bm pa p0 p1 p2 li wi (0) ms ma (va_up g_8 (40 + k_zA) zB, va_up g_9 (40 + k_zA) zC, va_up g_10 (40 + k_zA) k_zD) mk (mn.1, mn.2.1, mn.2.2.1, mn.2.2.2.1, g_12) ou) := hD
                refine lv_iload hx hb dX5_put_136 (lv_at hl 0 rfl) ?_
                refine bm_zb_eq (x := (ma.2.2.2.2.2.2 k_zA)) (tgt := 150) hx hb dX5_put_138 (by decide) (fun c_14 => ?_) (fun c_14 => ?_)
                · refine lv_aload_n hx hb dX5_put_150 rfl (lv_at hl 1 rfl) ?_
                  refine va_get (D := D) (ci := 5) (v := .ref (ad 49)) (C := RX5) (T := TX5) (N := 28) hx hb hts (inT inX5) hown hK hP 42 ww_42 rfl 10 (by decide) (hts (.fieldLink RX5 30 "BoardMovesModel" "placed" "[Z") (List.mem_cons_of_mem _ flX5_30)) (fun _ h9 => h9) rfl dX5_put_151 ?_
                  refine lv_iload_n hx hb dX5_put_154 rfl (lv_at hl 2 rfl) ?_
                  refine lv_iconst (v := bm_b true) hx hb dX5_put_155 (by decide) ?_
                  refine bm_zast (f := ma.2.2.2.2.2.2) hx hb hK hP hD hS 49 2 ww_49 rfl (j := k_zA) (x := true) (by omega) (by decide) dX5_put_156 (fun H locs hP hD hS => ?_)
                  have hP : va_P D vwCl (WW ad cJ cI cZ bm pa p0 p1 p2 li wi (0) ms (ma.1, ma.2.1, ma.2.2.1, ma.2.2.2.1, ma.2.2.2.2.1, ma.2.2.2.2.2.1, va_up ma.2.2.2.2.2.2 k_zA true) (va_up g_8 (40 + k_zA) zB, va_up g_9 (40 + k_zA) zC, va_up g_10 (40 + k_zA) k_zD) mk (mn.1, mn.2.1, mn.2.2.1, mn.2.2.2.1, g_12) ou) H := hP
                  have hD : va_D A (WW ad cJ cI cZ bm pa p0 p1 p2 li wi (0) ms (ma.1, ma.2.1, ma.2.2.1, ma.2.2.2.1, ma.2.2.2.2.1, ma.2.2.2.2.2.1, va_up ma.2.2.2.2.2.2 k_zA true) (va_up g_8 (40 + k_zA) zB, va_up g_9 (40 + k_zA) zC, va_up g_10 (40 + k_zA) k_zD) mk (mn.1, mn.2.1, mn.2.2.1, mn.2.2.2.1, g_12) ou) := hD
                  refine lv_aload_n hx hb dX5_put_157 rfl (lv_at hl 1 rfl) ?_
                  refine lv_iconst (v := nI 1) hx hb dX5_put_158 (by decide) ?_
                  refine bm_xcallV (As := [.int (nI 1)]) (rest := []) ⟨hx, hb, hml, hown, hts⟩ (y_isWell (mt := (0)) (ma := (ma.1, ma.2.1, ma.2.2.1, ma.2.2.2.1, ma.2.2.2.2.1, ma.2.2.2.2.2.1, va_up ma.2.2.2.2.2.2 k_zA true)) (mp := (va_up g_8 (40 + k_zA) zB, va_up g_9 (40 + k_zA) zC, va_up g_10 (40 + k_zA) k_zD)) (mn := (mn.1, mn.2.1, mn.2.2.1, mn.2.2.2.1, g_12)) (zr := 1) (bx_uplt ok_11 (by omega)) ok_ms_parts ok_ms_outs ok_ma_sides ok_ms_nears ok_mk_nearOne ok_mk_nearTwo (by omega)) (cwV 1 hts gvX5_157 rfl rfl rfl hvX5_isWell ⟨Nat.le_of_ble_eq_true rfl, Nat.le_of_ble_eq_true rfl⟩) hK hP hD hS hA 42 5 rfl ww_42 rfl hl.1 rfl (Nat.le_of_ble_eq_true rfl) dX5_put_159 ⟨Nat.le_of_ble_eq_true rfl, Nat.le_of_ble_eq_true rfl⟩ (fun ws_15 r_16 h_17 H locs hP hD hS => ?_)
                  obtain ⟨rfl, v_18, rfl⟩ := h_17
                  have hP : va_P D vwCl (WW ad cJ cI cZ bm pa p0 p1 p2 li wi (0) ms (ma.1, ma.2.1, ma.2.2.1, ma.2.2.2.1, ma.2.2.2.2.1, ma.2.2.2.2.2.1, va_up ma.2.2.2.2.2.2 k_zA true) (va_up g_8 (40 + k_zA) zB, va_up g_9 (40 + k_zA) zC, va_up g_10 (40 + k_zA) k_zD) mk (mn.1, mn.2.1, mn.2.2.1, mn.2.2.2.1, g_12) ou) H := hP
                  have hD : va_D A (WW ad cJ cI cZ bm pa p0 p1 p2 li wi (0) ms (ma.1, ma.2.1, ma.2.2.1, ma.2.2.2.1, ma.2.2.2.2.1, ma.2.2.2.2.2.1, va_up ma.2.2.2.2.2.2 k_zA true) (va_up g_8 (40 + k_zA) zB, va_up g_9 (40 + k_zA) zC, va_up g_10 (40 + k_zA) k_zD) mk (mn.1, mn.2.1, mn.2.2.1, mn.2.2.2.1, g_12) ou) := hD
                  refine bm_zb_ne (x := v_18) (tgt := 175) hx hb dX5_put_162 (by decide) (fun c_19 => ?_) (fun c_19 => ?_)
                  · refine lv_aload_n hx hb dX5_put_175 rfl (lv_at hl 1 rfl) ?_
                    refine lv_iconst (v := nI 0) hx hb dX5_put_176 (by decide) ?_
                    refine lv_iconst (v := nI 1) hx hb dX5_put_177 (by decide) ?_
                    refine bm_xcallV (As := [.int (nI 0), .int (nI 1)]) (rest := []) ⟨hx, hb, hml, hown, hts⟩ (y_copy (mt := (0)) (ma := (ma.1, ma.2.1, ma.2.2.1, ma.2.2.2.1, ma.2.2.2.2.1, ma.2.2.2.2.2.1, va_up ma.2.2.2.2.2.2 k_zA true)) (mp := (va_up g_8 (40 + k_zA) zB, va_up g_9 (40 + k_zA) zC, va_up g_10 (40 + k_zA) k_zD)) (mn := (mn.1, mn.2.1, mn.2.2.1, mn.2.2.2.1, g_12)) (zt := 0) (zf := 1) (bx_uplt ok_11 (by omega)) (by omega) (by omega)) (cwV 2 hts gvX5_132 rfl rfl rfl hvX5_copy ⟨Nat.le_of_ble_eq_true rfl, Nat.le_of_ble_eq_true rfl⟩) hK hP hD hS hA 42 5 rfl ww_42 rfl hl.1 rfl (Nat.le_of_ble_eq_true rfl) dX5_put_178 ⟨Nat.le_of_ble_eq_true rfl, Nat.le_of_ble_eq_true rfl⟩ (fun ws_20 r_21 h_22 H locs hP hD hS => ?_)
                    obtain ⟨g_23, g_24, g_25, ok_26, rfl, rfl⟩ := h_22
                    have hP : va_P D vwCl (WW ad cJ cI cZ bm pa p0 p1 p2 li wi (0) ms (ma.1, ma.2.1, ma.2.2.1, ma.2.2.2.1, ma.2.2.2.2.1, ma.2.2.2.2.2.1, va_up ma.2.2.2.2.2.2 k_zA true) (g_23, g_24, g_25) mk (mn.1, mn.2.1, mn.2.2.1, mn.2.2.2.1, g_12) ou) H := hP
                    have hD : va_D A (WW ad cJ cI cZ bm pa p0 p1 p2 li wi (0) ms (ma.1, ma.2.1, ma.2.2.1, ma.2.2.2.1, ma.2.2.2.2.1, ma.2.2.2.2.2.1, va_up ma.2.2.2.2.2.2 k_zA true) (g_23, g_24, g_25) mk (mn.1, mn.2.1, mn.2.2.1, mn.2.2.2.1, g_12) ou) := hD
                    refine lv_iconst (v := bm_b true) hx hb dX5_put_181 (by decide) ?_
                    exact bm_zretX (v := true) hx hb hr hP hD hK hS ⟨(0), ms, (ma.1, ma.2.1, ma.2.2.1, ma.2.2.2.1, ma.2.2.2.2.1, ma.2.2.2.2.2.1, va_up ma.2.2.2.2.2.2 k_zA true), (g_23, g_24, g_25), mk, (mn.1, mn.2.1, mn.2.2.1, mn.2.2.2.1, g_12), ⟨ok_ms_parts, ok_ms_outs, ok_ms_nears, ok_ms_nets, ok_ms_pins, ok_ma_sides, ok_ma_groups, ok_26, ok_mk_nearOne, ok_mk_nearTwo, ok_mn_pinNet, ok_mn_pinPart, hw, hh⟩, rfl, rfl, true, rfl⟩ dX5_put_182 hlocks
                  · refine lv_aload_n hx hb dX5_put_165 rfl (lv_at hl 1 rfl) ?_
                    refine va_get (D := D) (ci := 5) (v := .ref (ad 49)) (C := RX5) (T := TX5) (N := 28) hx hb hts (inT inX5) hown hK hP 42 ww_42 rfl 10 (by decide) (hts (.fieldLink RX5 30 "BoardMovesModel" "placed" "[Z") (List.mem_cons_of_mem _ flX5_30)) (fun _ h9 => h9) rfl dX5_put_166 ?_
                    refine lv_iload_n hx hb dX5_put_169 rfl (lv_at hl 2 rfl) ?_
                    refine lv_iload hx hb dX5_put_170 (lv_at hl 0 rfl) ?_
                    refine bm_zast (f := (va_up ma.2.2.2.2.2.2 k_zA true)) hx hb hK hP hD hS 49 2 ww_49 rfl (j := k_zA) (x := (ma.2.2.2.2.2.2 k_zA)) (by omega) (by decide) dX5_put_172 (fun H locs hP hD hS => ?_)
                    have hP : va_P D vwCl (WW ad cJ cI cZ bm pa p0 p1 p2 li wi (0) ms (ma.1, ma.2.1, ma.2.2.1, ma.2.2.2.1, ma.2.2.2.2.1, ma.2.2.2.2.2.1, va_up (va_up ma.2.2.2.2.2.2 k_zA true) k_zA (ma.2.2.2.2.2.2 k_zA)) (va_up g_8 (40 + k_zA) zB, va_up g_9 (40 + k_zA) zC, va_up g_10 (40 + k_zA) k_zD) mk (mn.1, mn.2.1, mn.2.2.1, mn.2.2.2.1, g_12) ou) H := hP
                    have hD : va_D A (WW ad cJ cI cZ bm pa p0 p1 p2 li wi (0) ms (ma.1, ma.2.1, ma.2.2.1, ma.2.2.2.1, ma.2.2.2.2.1, ma.2.2.2.2.2.1, va_up (va_up ma.2.2.2.2.2.2 k_zA true) k_zA (ma.2.2.2.2.2.2 k_zA)) (va_up g_8 (40 + k_zA) zB, va_up g_9 (40 + k_zA) zC, va_up g_10 (40 + k_zA) k_zD) mk (mn.1, mn.2.1, mn.2.2.1, mn.2.2.2.1, g_12) ou) := hD
                    refine lv_iconst (v := bm_b false) hx hb dX5_put_173 (by decide) ?_
                    exact bm_zretX (v := false) hx hb hr hP hD hK hS ⟨(0), ms, (ma.1, ma.2.1, ma.2.2.1, ma.2.2.2.1, ma.2.2.2.2.1, ma.2.2.2.2.2.1, va_up (va_up ma.2.2.2.2.2.2 k_zA true) k_zA (ma.2.2.2.2.2.2 k_zA)), (va_up g_8 (40 + k_zA) zB, va_up g_9 (40 + k_zA) zC, va_up g_10 (40 + k_zA) k_zD), mk, (mn.1, mn.2.1, mn.2.2.1, mn.2.2.2.1, g_12), ⟨ok_ms_parts, ok_ms_outs, ok_ms_nears, ok_ms_nets, ok_ms_pins, ok_ma_sides, ok_ma_groups, (bx_uplt ok_11 (by omega)), ok_mk_nearOne, ok_mk_nearTwo, ok_mn_pinNet, ok_mn_pinPart, hw, hh⟩, rfl, rfl, false, rfl⟩ dX5_put_174 hlocks
                · refine lv_aload_n hx hb dX5_put_141 rfl (lv_at hl 1 rfl) ?_
                  refine bm_xcallV (As := []) (rest := []) ⟨hx, hb, hml, hown, hts⟩ (y_locked (mt := (0)) (mp := (va_up g_8 (40 + k_zA) zB, va_up g_9 (40 + k_zA) zC, va_up g_10 (40 + k_zA) k_zD)) (mn := (mn.1, mn.2.1, mn.2.2.1, mn.2.2.2.1, g_12))  ok_ms_parts (bx_uplt ok_11 (by omega)) ) (cwV 0 hts gvX5_153 rfl rfl rfl hvX5_movesLocked ⟨Nat.le_of_ble_eq_true rfl, Nat.le_of_ble_eq_true rfl⟩) hK hP hD hS hA 42 5 rfl ww_42 rfl hl.1 rfl (Nat.le_of_ble_eq_true rfl) dX5_put_142 ⟨Nat.le_of_ble_eq_true rfl, Nat.le_of_ble_eq_true rfl⟩ (fun ws_27 r_28 h_29 H locs hP hD hS => ?_)
                  obtain ⟨rfl, v_30, rfl⟩ := h_29
                  have hP : va_P D vwCl (WW ad cJ cI cZ bm pa p0 p1 p2 li wi (0) ms ma (va_up g_8 (40 + k_zA) zB, va_up g_9 (40 + k_zA) zC, va_up g_10 (40 + k_zA) k_zD) mk (mn.1, mn.2.1, mn.2.2.1, mn.2.2.2.1, g_12) ou) H := hP
                  have hD : va_D A (WW ad cJ cI cZ bm pa p0 p1 p2 li wi (0) ms ma (va_up g_8 (40 + k_zA) zB, va_up g_9 (40 + k_zA) zC, va_up g_10 (40 + k_zA) k_zD) mk (mn.1, mn.2.1, mn.2.2.1, mn.2.2.2.1, g_12) ou) := hD
                  refine bm_zb_eq (x := v_30) (tgt := 150) hx hb dX5_put_145 (by decide) (fun c_31 => ?_) (fun c_31 => ?_)
                  · refine lv_aload_n hx hb dX5_put_150 rfl (lv_at hl 1 rfl) ?_
                    refine va_get (D := D) (ci := 5) (v := .ref (ad 49)) (C := RX5) (T := TX5) (N := 28) hx hb hts (inT inX5) hown hK hP 42 ww_42 rfl 10 (by decide) (hts (.fieldLink RX5 30 "BoardMovesModel" "placed" "[Z") (List.mem_cons_of_mem _ flX5_30)) (fun _ h9 => h9) rfl dX5_put_151 ?_
                    refine lv_iload_n hx hb dX5_put_154 rfl (lv_at hl 2 rfl) ?_
                    refine lv_iconst (v := bm_b true) hx hb dX5_put_155 (by decide) ?_
                    refine bm_zast (f := ma.2.2.2.2.2.2) hx hb hK hP hD hS 49 2 ww_49 rfl (j := k_zA) (x := true) (by omega) (by decide) dX5_put_156 (fun H locs hP hD hS => ?_)
                    have hP : va_P D vwCl (WW ad cJ cI cZ bm pa p0 p1 p2 li wi (0) ms (ma.1, ma.2.1, ma.2.2.1, ma.2.2.2.1, ma.2.2.2.2.1, ma.2.2.2.2.2.1, va_up ma.2.2.2.2.2.2 k_zA true) (va_up g_8 (40 + k_zA) zB, va_up g_9 (40 + k_zA) zC, va_up g_10 (40 + k_zA) k_zD) mk (mn.1, mn.2.1, mn.2.2.1, mn.2.2.2.1, g_12) ou) H := hP
                    have hD : va_D A (WW ad cJ cI cZ bm pa p0 p1 p2 li wi (0) ms (ma.1, ma.2.1, ma.2.2.1, ma.2.2.2.1, ma.2.2.2.2.1, ma.2.2.2.2.2.1, va_up ma.2.2.2.2.2.2 k_zA true) (va_up g_8 (40 + k_zA) zB, va_up g_9 (40 + k_zA) zC, va_up g_10 (40 + k_zA) k_zD) mk (mn.1, mn.2.1, mn.2.2.1, mn.2.2.2.1, g_12) ou) := hD
                    refine lv_aload_n hx hb dX5_put_157 rfl (lv_at hl 1 rfl) ?_
                    refine lv_iconst (v := nI 1) hx hb dX5_put_158 (by decide) ?_
                    refine bm_xcallV (As := [.int (nI 1)]) (rest := []) ⟨hx, hb, hml, hown, hts⟩ (y_isWell (mt := (0)) (ma := (ma.1, ma.2.1, ma.2.2.1, ma.2.2.2.1, ma.2.2.2.2.1, ma.2.2.2.2.2.1, va_up ma.2.2.2.2.2.2 k_zA true)) (mp := (va_up g_8 (40 + k_zA) zB, va_up g_9 (40 + k_zA) zC, va_up g_10 (40 + k_zA) k_zD)) (mn := (mn.1, mn.2.1, mn.2.2.1, mn.2.2.2.1, g_12)) (zr := 1) (bx_uplt ok_11 (by omega)) ok_ms_parts ok_ms_outs ok_ma_sides ok_ms_nears ok_mk_nearOne ok_mk_nearTwo (by omega)) (cwV 1 hts gvX5_157 rfl rfl rfl hvX5_isWell ⟨Nat.le_of_ble_eq_true rfl, Nat.le_of_ble_eq_true rfl⟩) hK hP hD hS hA 42 5 rfl ww_42 rfl hl.1 rfl (Nat.le_of_ble_eq_true rfl) dX5_put_159 ⟨Nat.le_of_ble_eq_true rfl, Nat.le_of_ble_eq_true rfl⟩ (fun ws_32 r_33 h_34 H locs hP hD hS => ?_)
                    obtain ⟨rfl, v_35, rfl⟩ := h_34
                    have hP : va_P D vwCl (WW ad cJ cI cZ bm pa p0 p1 p2 li wi (0) ms (ma.1, ma.2.1, ma.2.2.1, ma.2.2.2.1, ma.2.2.2.2.1, ma.2.2.2.2.2.1, va_up ma.2.2.2.2.2.2 k_zA true) (va_up g_8 (40 + k_zA) zB, va_up g_9 (40 + k_zA) zC, va_up g_10 (40 + k_zA) k_zD) mk (mn.1, mn.2.1, mn.2.2.1, mn.2.2.2.1, g_12) ou) H := hP
                    have hD : va_D A (WW ad cJ cI cZ bm pa p0 p1 p2 li wi (0) ms (ma.1, ma.2.1, ma.2.2.1, ma.2.2.2.1, ma.2.2.2.2.1, ma.2.2.2.2.2.1, va_up ma.2.2.2.2.2.2 k_zA true) (va_up g_8 (40 + k_zA) zB, va_up g_9 (40 + k_zA) zC, va_up g_10 (40 + k_zA) k_zD) mk (mn.1, mn.2.1, mn.2.2.1, mn.2.2.2.1, g_12) ou) := hD
                    refine bm_zb_ne (x := v_35) (tgt := 175) hx hb dX5_put_162 (by decide) (fun c_36 => ?_) (fun c_36 => ?_)
                    · refine lv_aload_n hx hb dX5_put_175 rfl (lv_at hl 1 rfl) ?_
                      refine lv_iconst (v := nI 0) hx hb dX5_put_176 (by decide) ?_
                      refine lv_iconst (v := nI 1) hx hb dX5_put_177 (by decide) ?_
                      refine bm_xcallV (As := [.int (nI 0), .int (nI 1)]) (rest := []) ⟨hx, hb, hml, hown, hts⟩ (y_copy (mt := (0)) (ma := (ma.1, ma.2.1, ma.2.2.1, ma.2.2.2.1, ma.2.2.2.2.1, ma.2.2.2.2.2.1, va_up ma.2.2.2.2.2.2 k_zA true)) (mp := (va_up g_8 (40 + k_zA) zB, va_up g_9 (40 + k_zA) zC, va_up g_10 (40 + k_zA) k_zD)) (mn := (mn.1, mn.2.1, mn.2.2.1, mn.2.2.2.1, g_12)) (zt := 0) (zf := 1) (bx_uplt ok_11 (by omega)) (by omega) (by omega)) (cwV 2 hts gvX5_132 rfl rfl rfl hvX5_copy ⟨Nat.le_of_ble_eq_true rfl, Nat.le_of_ble_eq_true rfl⟩) hK hP hD hS hA 42 5 rfl ww_42 rfl hl.1 rfl (Nat.le_of_ble_eq_true rfl) dX5_put_178 ⟨Nat.le_of_ble_eq_true rfl, Nat.le_of_ble_eq_true rfl⟩ (fun ws_37 r_38 h_39 H locs hP hD hS => ?_)
                      obtain ⟨g_40, g_41, g_42, ok_43, rfl, rfl⟩ := h_39
                      have hP : va_P D vwCl (WW ad cJ cI cZ bm pa p0 p1 p2 li wi (0) ms (ma.1, ma.2.1, ma.2.2.1, ma.2.2.2.1, ma.2.2.2.2.1, ma.2.2.2.2.2.1, va_up ma.2.2.2.2.2.2 k_zA true) (g_40, g_41, g_42) mk (mn.1, mn.2.1, mn.2.2.1, mn.2.2.2.1, g_12) ou) H := hP
                      have hD : va_D A (WW ad cJ cI cZ bm pa p0 p1 p2 li wi (0) ms (ma.1, ma.2.1, ma.2.2.1, ma.2.2.2.1, ma.2.2.2.2.1, ma.2.2.2.2.2.1, va_up ma.2.2.2.2.2.2 k_zA true) (g_40, g_41, g_42) mk (mn.1, mn.2.1, mn.2.2.1, mn.2.2.2.1, g_12) ou) := hD
                      refine lv_iconst (v := bm_b true) hx hb dX5_put_181 (by decide) ?_
                      exact bm_zretX (v := true) hx hb hr hP hD hK hS ⟨(0), ms, (ma.1, ma.2.1, ma.2.2.1, ma.2.2.2.1, ma.2.2.2.2.1, ma.2.2.2.2.2.1, va_up ma.2.2.2.2.2.2 k_zA true), (g_40, g_41, g_42), mk, (mn.1, mn.2.1, mn.2.2.1, mn.2.2.2.1, g_12), ⟨ok_ms_parts, ok_ms_outs, ok_ms_nears, ok_ms_nets, ok_ms_pins, ok_ma_sides, ok_ma_groups, ok_43, ok_mk_nearOne, ok_mk_nearTwo, ok_mn_pinNet, ok_mn_pinPart, hw, hh⟩, rfl, rfl, true, rfl⟩ dX5_put_182 hlocks
                    · refine lv_aload_n hx hb dX5_put_165 rfl (lv_at hl 1 rfl) ?_
                      refine va_get (D := D) (ci := 5) (v := .ref (ad 49)) (C := RX5) (T := TX5) (N := 28) hx hb hts (inT inX5) hown hK hP 42 ww_42 rfl 10 (by decide) (hts (.fieldLink RX5 30 "BoardMovesModel" "placed" "[Z") (List.mem_cons_of_mem _ flX5_30)) (fun _ h9 => h9) rfl dX5_put_166 ?_
                      refine lv_iload_n hx hb dX5_put_169 rfl (lv_at hl 2 rfl) ?_
                      refine lv_iload hx hb dX5_put_170 (lv_at hl 0 rfl) ?_
                      refine bm_zast (f := (va_up ma.2.2.2.2.2.2 k_zA true)) hx hb hK hP hD hS 49 2 ww_49 rfl (j := k_zA) (x := (ma.2.2.2.2.2.2 k_zA)) (by omega) (by decide) dX5_put_172 (fun H locs hP hD hS => ?_)
                      have hP : va_P D vwCl (WW ad cJ cI cZ bm pa p0 p1 p2 li wi (0) ms (ma.1, ma.2.1, ma.2.2.1, ma.2.2.2.1, ma.2.2.2.2.1, ma.2.2.2.2.2.1, va_up (va_up ma.2.2.2.2.2.2 k_zA true) k_zA (ma.2.2.2.2.2.2 k_zA)) (va_up g_8 (40 + k_zA) zB, va_up g_9 (40 + k_zA) zC, va_up g_10 (40 + k_zA) k_zD) mk (mn.1, mn.2.1, mn.2.2.1, mn.2.2.2.1, g_12) ou) H := hP
                      have hD : va_D A (WW ad cJ cI cZ bm pa p0 p1 p2 li wi (0) ms (ma.1, ma.2.1, ma.2.2.1, ma.2.2.2.1, ma.2.2.2.2.1, ma.2.2.2.2.2.1, va_up (va_up ma.2.2.2.2.2.2 k_zA true) k_zA (ma.2.2.2.2.2.2 k_zA)) (va_up g_8 (40 + k_zA) zB, va_up g_9 (40 + k_zA) zC, va_up g_10 (40 + k_zA) k_zD) mk (mn.1, mn.2.1, mn.2.2.1, mn.2.2.2.1, g_12) ou) := hD
                      refine lv_iconst (v := bm_b false) hx hb dX5_put_173 (by decide) ?_
                      exact bm_zretX (v := false) hx hb hr hP hD hK hS ⟨(0), ms, (ma.1, ma.2.1, ma.2.2.1, ma.2.2.2.1, ma.2.2.2.2.1, ma.2.2.2.2.2.1, va_up (va_up ma.2.2.2.2.2.2 k_zA true) k_zA (ma.2.2.2.2.2.2 k_zA)), (va_up g_8 (40 + k_zA) zB, va_up g_9 (40 + k_zA) zC, va_up g_10 (40 + k_zA) k_zD), mk, (mn.1, mn.2.1, mn.2.2.1, mn.2.2.2.1, g_12), ⟨ok_ms_parts, ok_ms_outs, ok_ms_nears, ok_ms_nets, ok_ms_pins, ok_ma_sides, ok_ma_groups, (bx_uplt ok_11 (by omega)), ok_mk_nearOne, ok_mk_nearTwo, ok_mn_pinNet, ok_mn_pinPart, hw, hh⟩, rfl, rfl, false, rfl⟩ dX5_put_174 hlocks
                  · refine lv_iconst (v := bm_b false) hx hb dX5_put_148 (by decide) ?_
                    exact bm_zretX (v := false) hx hb hr hP hD hK hS ⟨(0), ms, ma, (va_up g_8 (40 + k_zA) zB, va_up g_9 (40 + k_zA) zC, va_up g_10 (40 + k_zA) k_zD), mk, (mn.1, mn.2.1, mn.2.2.1, mn.2.2.2.1, g_12), ⟨ok_ms_parts, ok_ms_outs, ok_ms_nears, ok_ms_nets, ok_ms_pins, ok_ma_sides, ok_ma_groups, (bx_uplt ok_11 (by omega)), ok_mk_nearOne, ok_mk_nearTwo, ok_mn_pinNet, ok_mn_pinPart, hw, hh⟩, rfl, rfl, false, rfl⟩ dX5_put_149 hlocks
              · refine lv_iload hx hb dX5_put_58 (lv_at hl 5 rfl) ?_
                refine lv_aload_n hx hb dX5_put_60 rfl (lv_at hl 1 rfl) ?_
                refine va_get (D := D) (ci := 5) (v := .ref (ad 52)) (C := RX5) (T := TX5) (N := 28) hx hb hts (inT inX5) hown hK hP 42 ww_42 rfl 13 (by decide) (hts (.fieldLink RX5 39 "BoardMovesModel" "turns" "[I") (List.mem_cons_of_mem _ flX5_39)) (fun _ h9 => h9) rfl dX5_put_61 ?_
                refine lv_iload_n hx hb dX5_put_64 rfl (lv_at hl 2 rfl) ?_
                refine bm_nald (f := g_10) hx hb hK hP 52 1 ww_52 rfl (j := k_zA) (by omega) (by decide) dX5_put_65 ?_
                refine bm_ni_eq (x := k_zD) (y := (g_10 k_zA)) (tgt := 79) hx hb (by omega) (bm40 (ok_11 _)) dX5_put_66 (by decide) (fun c_44 => ?_) (fun c_44 => ?_)
                · refine lv_aload_n hx hb dX5_put_79 rfl (lv_at hl 1 rfl) ?_
                  refine lv_iload_n hx hb dX5_put_80 rfl (lv_at hl 2 rfl) ?_
                  refine lv_lload_n hx hb dX5_put_81 rfl (lv_at hl 3 rfl) ?_
                  refine lv_aload_n hx hb dX5_put_82 rfl (lv_at hl 1 rfl) ?_
                  refine lv_iconst (v := nI 0) hx hb dX5_put_83 (by decide) ?_
                  refine lv_iload_n hx hb dX5_put_84 rfl (lv_at hl 2 rfl) ?_
                  refine bm_xcallV (As := [.int (nI 0), .int (nI k_zA)]) (rest := [.long zB, .int (nI k_zA), .ref (ad 42)]) ⟨hx, hb, hml, hown, hts⟩ (y_left (mt := (0)) (mp := (g_8, g_9, g_10)) (mn := (mn.1, mn.2.1, mn.2.2.1, mn.2.2.2.1, g_12)) (zr := 0) (zp := k_zA)  (by omega) (by omega)) (cwV 2 hts gvX5_92 rfl rfl rfl hvX5_left ⟨Nat.le_of_ble_eq_true rfl, Nat.le_of_ble_eq_true rfl⟩) hK hP hD hS hA 42 5 rfl ww_42 rfl hl.1 rfl (Nat.le_of_ble_eq_true rfl) dX5_put_85 ⟨Nat.le_of_ble_eq_true rfl, Nat.le_of_ble_eq_true rfl⟩ (fun ws_45 r_46 h_47 H locs hP hD hS => ?_)
                  obtain ⟨rfl, v_48, rfl⟩ := h_47
                  have hP : va_P D vwCl (WW ad cJ cI cZ bm pa p0 p1 p2 li wi (0) ms ma (g_8, g_9, g_10) mk (mn.1, mn.2.1, mn.2.2.1, mn.2.2.2.1, g_12) ou) H := hP
                  have hD : va_D A (WW ad cJ cI cZ bm pa p0 p1 p2 li wi (0) ms ma (g_8, g_9, g_10) mk (mn.1, mn.2.1, mn.2.2.1, mn.2.2.2.1, g_12) ou) := hD
                  refine lv_lsub hx hb dX5_put_88 ?_
                  refine lv_topl (fun t_49 _ => ?_)
                  refine lv_lload hx hb dX5_put_89 (lv_at hl 4 rfl) ?_
                  refine lv_aload_n hx hb dX5_put_91 rfl (lv_at hl 1 rfl) ?_
                  refine lv_iconst (v := nI 0) hx hb dX5_put_92 (by decide) ?_
                  refine lv_iload_n hx hb dX5_put_93 rfl (lv_at hl 2 rfl) ?_
                  refine bm_xcallV (As := [.int (nI 0), .int (nI k_zA)]) (rest := [.long zC, .long t_49, .int (nI k_zA), .ref (ad 42)]) ⟨hx, hb, hml, hown, hts⟩ (y_low (mt := (0)) (mp := (g_8, g_9, g_10)) (mn := (mn.1, mn.2.1, mn.2.2.1, mn.2.2.2.1, g_12)) (zr := 0) (zp := k_zA)  (by omega) (by omega)) (cwV 2 hts gvX5_100 rfl rfl rfl hvX5_low ⟨Nat.le_of_ble_eq_true rfl, Nat.le_of_ble_eq_true rfl⟩) hK hP hD hS hA 42 5 rfl ww_42 rfl hl.1 rfl (Nat.le_of_ble_eq_true rfl) dX5_put_94 ⟨Nat.le_of_ble_eq_true rfl, Nat.le_of_ble_eq_true rfl⟩ (fun ws_50 r_51 h_52 H locs hP hD hS => ?_)
                  obtain ⟨rfl, v_53, rfl⟩ := h_52
                  have hP : va_P D vwCl (WW ad cJ cI cZ bm pa p0 p1 p2 li wi (0) ms ma (g_8, g_9, g_10) mk (mn.1, mn.2.1, mn.2.2.1, mn.2.2.2.1, g_12) ou) H := hP
                  have hD : va_D A (WW ad cJ cI cZ bm pa p0 p1 p2 li wi (0) ms ma (g_8, g_9, g_10) mk (mn.1, mn.2.1, mn.2.2.1, mn.2.2.2.1, g_12) ou) := hD
                  refine lv_lsub hx hb dX5_put_97 ?_
                  refine lv_topl (fun t_54 _ => ?_)
                  refine bm_xcallV (As := [.int (nI k_zA), .long t_49, .long t_54]) (rest := []) ⟨hx, hb, hml, hown, hts⟩ (y_go (mt := (0)) (mp := (g_8, g_9, g_10)) (mn := (mn.1, mn.2.1, mn.2.2.1, mn.2.2.2.1, g_12)) (zp := k_zA) (z1 := t_49) (z2 := t_54) ok_ms_parts ok_ma_groups (by omega)) (cwV 3 hts gvX5_149 rfl rfl rfl hvX5_go ⟨Nat.le_of_ble_eq_true rfl, Nat.le_of_ble_eq_true rfl⟩) hK hP hD hS hA 42 5 rfl ww_42 rfl hl.1 rfl (Nat.le_of_ble_eq_true rfl) dX5_put_98 ⟨Nat.le_of_ble_eq_true rfl, Nat.le_of_ble_eq_true rfl⟩ (fun ws_55 r_56 h_57 H locs hP hD hS => ?_)
                  obtain ⟨g_58, g_59, g_60, rfl, rfl⟩ := h_57
                  have hP : va_P D vwCl (WW ad cJ cI cZ bm pa p0 p1 p2 li wi (0) ms ma (g_58, g_59, g_10) mk (mn.1, mn.2.1, mn.2.2.1, mn.2.2.2.1, g_60) ou) H := hP
                  have hD : va_D A (WW ad cJ cI cZ bm pa p0 p1 p2 li wi (0) ms ma (g_58, g_59, g_10) mk (mn.1, mn.2.1, mn.2.2.1, mn.2.2.2.1, g_60) ou) := hD
                  refine lv_goto (tgt := 125) hx hb dX5_put_101 (by decide) ?_
                  refine lv_aload_n hx hb dX5_put_125 rfl (lv_at hl 1 rfl) ?_
                  refine va_get (D := D) (ci := 5) (v := .ref (ad 52)) (C := RX5) (T := TX5) (N := 28) hx hb hts (inT inX5) hown hK hP 42 ww_42 rfl 13 (by decide) (hts (.fieldLink RX5 39 "BoardMovesModel" "turns" "[I") (List.mem_cons_of_mem _ flX5_39)) (fun _ h9 => h9) rfl dX5_put_126 ?_
                  refine lv_bipush (v := nI 40) hx hb dX5_put_129 (by decide) ?_
                  refine lv_iload_n hx hb dX5_put_131 rfl (lv_at hl 2 rfl) ?_
                  refine bm_nadd hx hb dX5_put_132 ?_
                  refine lv_iload hx hb dX5_put_133 (lv_at hl 5 rfl) ?_
                  refine bm_nast (f := g_10) hx hb hK hP hD hS 52 1 ww_52 rfl (j := (40 + k_zA)) (x := k_zD) (by omega) (by decide) dX5_put_135 (fun H locs hP hD hS => ?_)
                  have hP : va_P D vwCl (WW ad cJ cI cZ bm pa p0 p1 p2 li wi (0) ms ma (g_58, g_59, va_up g_10 (40 + k_zA) k_zD) mk (mn.1, mn.2.1, mn.2.2.1, mn.2.2.2.1, g_60) ou) H := hP
                  have hD : va_D A (WW ad cJ cI cZ bm pa p0 p1 p2 li wi (0) ms ma (g_58, g_59, va_up g_10 (40 + k_zA) k_zD) mk (mn.1, mn.2.1, mn.2.2.1, mn.2.2.2.1, g_60) ou) := hD
                  refine lv_iload hx hb dX5_put_136 (lv_at hl 0 rfl) ?_
                  refine bm_zb_eq (x := (ma.2.2.2.2.2.2 k_zA)) (tgt := 150) hx hb dX5_put_138 (by decide) (fun c_61 => ?_) (fun c_61 => ?_)
                  · refine lv_aload_n hx hb dX5_put_150 rfl (lv_at hl 1 rfl) ?_
                    refine va_get (D := D) (ci := 5) (v := .ref (ad 49)) (C := RX5) (T := TX5) (N := 28) hx hb hts (inT inX5) hown hK hP 42 ww_42 rfl 10 (by decide) (hts (.fieldLink RX5 30 "BoardMovesModel" "placed" "[Z") (List.mem_cons_of_mem _ flX5_30)) (fun _ h9 => h9) rfl dX5_put_151 ?_
                    refine lv_iload_n hx hb dX5_put_154 rfl (lv_at hl 2 rfl) ?_
                    refine lv_iconst (v := bm_b true) hx hb dX5_put_155 (by decide) ?_
                    refine bm_zast (f := ma.2.2.2.2.2.2) hx hb hK hP hD hS 49 2 ww_49 rfl (j := k_zA) (x := true) (by omega) (by decide) dX5_put_156 (fun H locs hP hD hS => ?_)
                    have hP : va_P D vwCl (WW ad cJ cI cZ bm pa p0 p1 p2 li wi (0) ms (ma.1, ma.2.1, ma.2.2.1, ma.2.2.2.1, ma.2.2.2.2.1, ma.2.2.2.2.2.1, va_up ma.2.2.2.2.2.2 k_zA true) (g_58, g_59, va_up g_10 (40 + k_zA) k_zD) mk (mn.1, mn.2.1, mn.2.2.1, mn.2.2.2.1, g_60) ou) H := hP
                    have hD : va_D A (WW ad cJ cI cZ bm pa p0 p1 p2 li wi (0) ms (ma.1, ma.2.1, ma.2.2.1, ma.2.2.2.1, ma.2.2.2.2.1, ma.2.2.2.2.2.1, va_up ma.2.2.2.2.2.2 k_zA true) (g_58, g_59, va_up g_10 (40 + k_zA) k_zD) mk (mn.1, mn.2.1, mn.2.2.1, mn.2.2.2.1, g_60) ou) := hD
                    refine lv_aload_n hx hb dX5_put_157 rfl (lv_at hl 1 rfl) ?_
                    refine lv_iconst (v := nI 1) hx hb dX5_put_158 (by decide) ?_
                    refine bm_xcallV (As := [.int (nI 1)]) (rest := []) ⟨hx, hb, hml, hown, hts⟩ (y_isWell (mt := (0)) (ma := (ma.1, ma.2.1, ma.2.2.1, ma.2.2.2.1, ma.2.2.2.2.1, ma.2.2.2.2.2.1, va_up ma.2.2.2.2.2.2 k_zA true)) (mp := (g_58, g_59, va_up g_10 (40 + k_zA) k_zD)) (mn := (mn.1, mn.2.1, mn.2.2.1, mn.2.2.2.1, g_60)) (zr := 1) (bx_uplt ok_11 (by omega)) ok_ms_parts ok_ms_outs ok_ma_sides ok_ms_nears ok_mk_nearOne ok_mk_nearTwo (by omega)) (cwV 1 hts gvX5_157 rfl rfl rfl hvX5_isWell ⟨Nat.le_of_ble_eq_true rfl, Nat.le_of_ble_eq_true rfl⟩) hK hP hD hS hA 42 5 rfl ww_42 rfl hl.1 rfl (Nat.le_of_ble_eq_true rfl) dX5_put_159 ⟨Nat.le_of_ble_eq_true rfl, Nat.le_of_ble_eq_true rfl⟩ (fun ws_62 r_63 h_64 H locs hP hD hS => ?_)
                    obtain ⟨rfl, v_65, rfl⟩ := h_64
                    have hP : va_P D vwCl (WW ad cJ cI cZ bm pa p0 p1 p2 li wi (0) ms (ma.1, ma.2.1, ma.2.2.1, ma.2.2.2.1, ma.2.2.2.2.1, ma.2.2.2.2.2.1, va_up ma.2.2.2.2.2.2 k_zA true) (g_58, g_59, va_up g_10 (40 + k_zA) k_zD) mk (mn.1, mn.2.1, mn.2.2.1, mn.2.2.2.1, g_60) ou) H := hP
                    have hD : va_D A (WW ad cJ cI cZ bm pa p0 p1 p2 li wi (0) ms (ma.1, ma.2.1, ma.2.2.1, ma.2.2.2.1, ma.2.2.2.2.1, ma.2.2.2.2.2.1, va_up ma.2.2.2.2.2.2 k_zA true) (g_58, g_59, va_up g_10 (40 + k_zA) k_zD) mk (mn.1, mn.2.1, mn.2.2.1, mn.2.2.2.1, g_60) ou) := hD
                    refine bm_zb_ne (x := v_65) (tgt := 175) hx hb dX5_put_162 (by decide) (fun c_66 => ?_) (fun c_66 => ?_)
                    · refine lv_aload_n hx hb dX5_put_175 rfl (lv_at hl 1 rfl) ?_
                      refine lv_iconst (v := nI 0) hx hb dX5_put_176 (by decide) ?_
                      refine lv_iconst (v := nI 1) hx hb dX5_put_177 (by decide) ?_
                      refine bm_xcallV (As := [.int (nI 0), .int (nI 1)]) (rest := []) ⟨hx, hb, hml, hown, hts⟩ (y_copy (mt := (0)) (ma := (ma.1, ma.2.1, ma.2.2.1, ma.2.2.2.1, ma.2.2.2.2.1, ma.2.2.2.2.2.1, va_up ma.2.2.2.2.2.2 k_zA true)) (mp := (g_58, g_59, va_up g_10 (40 + k_zA) k_zD)) (mn := (mn.1, mn.2.1, mn.2.2.1, mn.2.2.2.1, g_60)) (zt := 0) (zf := 1) (bx_uplt ok_11 (by omega)) (by omega) (by omega)) (cwV 2 hts gvX5_132 rfl rfl rfl hvX5_copy ⟨Nat.le_of_ble_eq_true rfl, Nat.le_of_ble_eq_true rfl⟩) hK hP hD hS hA 42 5 rfl ww_42 rfl hl.1 rfl (Nat.le_of_ble_eq_true rfl) dX5_put_178 ⟨Nat.le_of_ble_eq_true rfl, Nat.le_of_ble_eq_true rfl⟩ (fun ws_67 r_68 h_69 H locs hP hD hS => ?_)
                      obtain ⟨g_70, g_71, g_72, ok_73, rfl, rfl⟩ := h_69
                      have hP : va_P D vwCl (WW ad cJ cI cZ bm pa p0 p1 p2 li wi (0) ms (ma.1, ma.2.1, ma.2.2.1, ma.2.2.2.1, ma.2.2.2.2.1, ma.2.2.2.2.2.1, va_up ma.2.2.2.2.2.2 k_zA true) (g_70, g_71, g_72) mk (mn.1, mn.2.1, mn.2.2.1, mn.2.2.2.1, g_60) ou) H := hP
                      have hD : va_D A (WW ad cJ cI cZ bm pa p0 p1 p2 li wi (0) ms (ma.1, ma.2.1, ma.2.2.1, ma.2.2.2.1, ma.2.2.2.2.1, ma.2.2.2.2.2.1, va_up ma.2.2.2.2.2.2 k_zA true) (g_70, g_71, g_72) mk (mn.1, mn.2.1, mn.2.2.1, mn.2.2.2.1, g_60) ou) := hD
                      refine lv_iconst (v := bm_b true) hx hb dX5_put_181 (by decide) ?_
                      exact bm_zretX (v := true) hx hb hr hP hD hK hS ⟨(0), ms, (ma.1, ma.2.1, ma.2.2.1, ma.2.2.2.1, ma.2.2.2.2.1, ma.2.2.2.2.2.1, va_up ma.2.2.2.2.2.2 k_zA true), (g_70, g_71, g_72), mk, (mn.1, mn.2.1, mn.2.2.1, mn.2.2.2.1, g_60), ⟨ok_ms_parts, ok_ms_outs, ok_ms_nears, ok_ms_nets, ok_ms_pins, ok_ma_sides, ok_ma_groups, ok_73, ok_mk_nearOne, ok_mk_nearTwo, ok_mn_pinNet, ok_mn_pinPart, hw, hh⟩, rfl, rfl, true, rfl⟩ dX5_put_182 hlocks
                    · refine lv_aload_n hx hb dX5_put_165 rfl (lv_at hl 1 rfl) ?_
                      refine va_get (D := D) (ci := 5) (v := .ref (ad 49)) (C := RX5) (T := TX5) (N := 28) hx hb hts (inT inX5) hown hK hP 42 ww_42 rfl 10 (by decide) (hts (.fieldLink RX5 30 "BoardMovesModel" "placed" "[Z") (List.mem_cons_of_mem _ flX5_30)) (fun _ h9 => h9) rfl dX5_put_166 ?_
                      refine lv_iload_n hx hb dX5_put_169 rfl (lv_at hl 2 rfl) ?_
                      refine lv_iload hx hb dX5_put_170 (lv_at hl 0 rfl) ?_
                      refine bm_zast (f := (va_up ma.2.2.2.2.2.2 k_zA true)) hx hb hK hP hD hS 49 2 ww_49 rfl (j := k_zA) (x := (ma.2.2.2.2.2.2 k_zA)) (by omega) (by decide) dX5_put_172 (fun H locs hP hD hS => ?_)
                      have hP : va_P D vwCl (WW ad cJ cI cZ bm pa p0 p1 p2 li wi (0) ms (ma.1, ma.2.1, ma.2.2.1, ma.2.2.2.1, ma.2.2.2.2.1, ma.2.2.2.2.2.1, va_up (va_up ma.2.2.2.2.2.2 k_zA true) k_zA (ma.2.2.2.2.2.2 k_zA)) (g_58, g_59, va_up g_10 (40 + k_zA) k_zD) mk (mn.1, mn.2.1, mn.2.2.1, mn.2.2.2.1, g_60) ou) H := hP
                      have hD : va_D A (WW ad cJ cI cZ bm pa p0 p1 p2 li wi (0) ms (ma.1, ma.2.1, ma.2.2.1, ma.2.2.2.1, ma.2.2.2.2.1, ma.2.2.2.2.2.1, va_up (va_up ma.2.2.2.2.2.2 k_zA true) k_zA (ma.2.2.2.2.2.2 k_zA)) (g_58, g_59, va_up g_10 (40 + k_zA) k_zD) mk (mn.1, mn.2.1, mn.2.2.1, mn.2.2.2.1, g_60) ou) := hD
                      refine lv_iconst (v := bm_b false) hx hb dX5_put_173 (by decide) ?_
                      exact bm_zretX (v := false) hx hb hr hP hD hK hS ⟨(0), ms, (ma.1, ma.2.1, ma.2.2.1, ma.2.2.2.1, ma.2.2.2.2.1, ma.2.2.2.2.2.1, va_up (va_up ma.2.2.2.2.2.2 k_zA true) k_zA (ma.2.2.2.2.2.2 k_zA)), (g_58, g_59, va_up g_10 (40 + k_zA) k_zD), mk, (mn.1, mn.2.1, mn.2.2.1, mn.2.2.2.1, g_60), ⟨ok_ms_parts, ok_ms_outs, ok_ms_nears, ok_ms_nets, ok_ms_pins, ok_ma_sides, ok_ma_groups, (bx_uplt ok_11 (by omega)), ok_mk_nearOne, ok_mk_nearTwo, ok_mn_pinNet, ok_mn_pinPart, hw, hh⟩, rfl, rfl, false, rfl⟩ dX5_put_174 hlocks
                  · refine lv_aload_n hx hb dX5_put_141 rfl (lv_at hl 1 rfl) ?_
                    refine bm_xcallV (As := []) (rest := []) ⟨hx, hb, hml, hown, hts⟩ (y_locked (mt := (0)) (mp := (g_58, g_59, va_up g_10 (40 + k_zA) k_zD)) (mn := (mn.1, mn.2.1, mn.2.2.1, mn.2.2.2.1, g_60))  ok_ms_parts (bx_uplt ok_11 (by omega)) ) (cwV 0 hts gvX5_153 rfl rfl rfl hvX5_movesLocked ⟨Nat.le_of_ble_eq_true rfl, Nat.le_of_ble_eq_true rfl⟩) hK hP hD hS hA 42 5 rfl ww_42 rfl hl.1 rfl (Nat.le_of_ble_eq_true rfl) dX5_put_142 ⟨Nat.le_of_ble_eq_true rfl, Nat.le_of_ble_eq_true rfl⟩ (fun ws_74 r_75 h_76 H locs hP hD hS => ?_)
                    obtain ⟨rfl, v_77, rfl⟩ := h_76
                    have hP : va_P D vwCl (WW ad cJ cI cZ bm pa p0 p1 p2 li wi (0) ms ma (g_58, g_59, va_up g_10 (40 + k_zA) k_zD) mk (mn.1, mn.2.1, mn.2.2.1, mn.2.2.2.1, g_60) ou) H := hP
                    have hD : va_D A (WW ad cJ cI cZ bm pa p0 p1 p2 li wi (0) ms ma (g_58, g_59, va_up g_10 (40 + k_zA) k_zD) mk (mn.1, mn.2.1, mn.2.2.1, mn.2.2.2.1, g_60) ou) := hD
                    refine bm_zb_eq (x := v_77) (tgt := 150) hx hb dX5_put_145 (by decide) (fun c_78 => ?_) (fun c_78 => ?_)
                    · refine lv_aload_n hx hb dX5_put_150 rfl (lv_at hl 1 rfl) ?_
                      refine va_get (D := D) (ci := 5) (v := .ref (ad 49)) (C := RX5) (T := TX5) (N := 28) hx hb hts (inT inX5) hown hK hP 42 ww_42 rfl 10 (by decide) (hts (.fieldLink RX5 30 "BoardMovesModel" "placed" "[Z") (List.mem_cons_of_mem _ flX5_30)) (fun _ h9 => h9) rfl dX5_put_151 ?_
                      refine lv_iload_n hx hb dX5_put_154 rfl (lv_at hl 2 rfl) ?_
                      refine lv_iconst (v := bm_b true) hx hb dX5_put_155 (by decide) ?_
                      refine bm_zast (f := ma.2.2.2.2.2.2) hx hb hK hP hD hS 49 2 ww_49 rfl (j := k_zA) (x := true) (by omega) (by decide) dX5_put_156 (fun H locs hP hD hS => ?_)
                      have hP : va_P D vwCl (WW ad cJ cI cZ bm pa p0 p1 p2 li wi (0) ms (ma.1, ma.2.1, ma.2.2.1, ma.2.2.2.1, ma.2.2.2.2.1, ma.2.2.2.2.2.1, va_up ma.2.2.2.2.2.2 k_zA true) (g_58, g_59, va_up g_10 (40 + k_zA) k_zD) mk (mn.1, mn.2.1, mn.2.2.1, mn.2.2.2.1, g_60) ou) H := hP
                      have hD : va_D A (WW ad cJ cI cZ bm pa p0 p1 p2 li wi (0) ms (ma.1, ma.2.1, ma.2.2.1, ma.2.2.2.1, ma.2.2.2.2.1, ma.2.2.2.2.2.1, va_up ma.2.2.2.2.2.2 k_zA true) (g_58, g_59, va_up g_10 (40 + k_zA) k_zD) mk (mn.1, mn.2.1, mn.2.2.1, mn.2.2.2.1, g_60) ou) := hD
                      refine lv_aload_n hx hb dX5_put_157 rfl (lv_at hl 1 rfl) ?_
                      refine lv_iconst (v := nI 1) hx hb dX5_put_158 (by decide) ?_
                      refine bm_xcallV (As := [.int (nI 1)]) (rest := []) ⟨hx, hb, hml, hown, hts⟩ (y_isWell (mt := (0)) (ma := (ma.1, ma.2.1, ma.2.2.1, ma.2.2.2.1, ma.2.2.2.2.1, ma.2.2.2.2.2.1, va_up ma.2.2.2.2.2.2 k_zA true)) (mp := (g_58, g_59, va_up g_10 (40 + k_zA) k_zD)) (mn := (mn.1, mn.2.1, mn.2.2.1, mn.2.2.2.1, g_60)) (zr := 1) (bx_uplt ok_11 (by omega)) ok_ms_parts ok_ms_outs ok_ma_sides ok_ms_nears ok_mk_nearOne ok_mk_nearTwo (by omega)) (cwV 1 hts gvX5_157 rfl rfl rfl hvX5_isWell ⟨Nat.le_of_ble_eq_true rfl, Nat.le_of_ble_eq_true rfl⟩) hK hP hD hS hA 42 5 rfl ww_42 rfl hl.1 rfl (Nat.le_of_ble_eq_true rfl) dX5_put_159 ⟨Nat.le_of_ble_eq_true rfl, Nat.le_of_ble_eq_true rfl⟩ (fun ws_79 r_80 h_81 H locs hP hD hS => ?_)
                      obtain ⟨rfl, v_82, rfl⟩ := h_81
                      have hP : va_P D vwCl (WW ad cJ cI cZ bm pa p0 p1 p2 li wi (0) ms (ma.1, ma.2.1, ma.2.2.1, ma.2.2.2.1, ma.2.2.2.2.1, ma.2.2.2.2.2.1, va_up ma.2.2.2.2.2.2 k_zA true) (g_58, g_59, va_up g_10 (40 + k_zA) k_zD) mk (mn.1, mn.2.1, mn.2.2.1, mn.2.2.2.1, g_60) ou) H := hP
                      have hD : va_D A (WW ad cJ cI cZ bm pa p0 p1 p2 li wi (0) ms (ma.1, ma.2.1, ma.2.2.1, ma.2.2.2.1, ma.2.2.2.2.1, ma.2.2.2.2.2.1, va_up ma.2.2.2.2.2.2 k_zA true) (g_58, g_59, va_up g_10 (40 + k_zA) k_zD) mk (mn.1, mn.2.1, mn.2.2.1, mn.2.2.2.1, g_60) ou) := hD
                      refine bm_zb_ne (x := v_82) (tgt := 175) hx hb dX5_put_162 (by decide) (fun c_83 => ?_) (fun c_83 => ?_)
                      · refine lv_aload_n hx hb dX5_put_175 rfl (lv_at hl 1 rfl) ?_
                        refine lv_iconst (v := nI 0) hx hb dX5_put_176 (by decide) ?_
                        refine lv_iconst (v := nI 1) hx hb dX5_put_177 (by decide) ?_
                        refine bm_xcallV (As := [.int (nI 0), .int (nI 1)]) (rest := []) ⟨hx, hb, hml, hown, hts⟩ (y_copy (mt := (0)) (ma := (ma.1, ma.2.1, ma.2.2.1, ma.2.2.2.1, ma.2.2.2.2.1, ma.2.2.2.2.2.1, va_up ma.2.2.2.2.2.2 k_zA true)) (mp := (g_58, g_59, va_up g_10 (40 + k_zA) k_zD)) (mn := (mn.1, mn.2.1, mn.2.2.1, mn.2.2.2.1, g_60)) (zt := 0) (zf := 1) (bx_uplt ok_11 (by omega)) (by omega) (by omega)) (cwV 2 hts gvX5_132 rfl rfl rfl hvX5_copy ⟨Nat.le_of_ble_eq_true rfl, Nat.le_of_ble_eq_true rfl⟩) hK hP hD hS hA 42 5 rfl ww_42 rfl hl.1 rfl (Nat.le_of_ble_eq_true rfl) dX5_put_178 ⟨Nat.le_of_ble_eq_true rfl, Nat.le_of_ble_eq_true rfl⟩ (fun ws_84 r_85 h_86 H locs hP hD hS => ?_)
                        obtain ⟨g_87, g_88, g_89, ok_90, rfl, rfl⟩ := h_86
                        have hP : va_P D vwCl (WW ad cJ cI cZ bm pa p0 p1 p2 li wi (0) ms (ma.1, ma.2.1, ma.2.2.1, ma.2.2.2.1, ma.2.2.2.2.1, ma.2.2.2.2.2.1, va_up ma.2.2.2.2.2.2 k_zA true) (g_87, g_88, g_89) mk (mn.1, mn.2.1, mn.2.2.1, mn.2.2.2.1, g_60) ou) H := hP
                        have hD : va_D A (WW ad cJ cI cZ bm pa p0 p1 p2 li wi (0) ms (ma.1, ma.2.1, ma.2.2.1, ma.2.2.2.1, ma.2.2.2.2.1, ma.2.2.2.2.2.1, va_up ma.2.2.2.2.2.2 k_zA true) (g_87, g_88, g_89) mk (mn.1, mn.2.1, mn.2.2.1, mn.2.2.2.1, g_60) ou) := hD
                        refine lv_iconst (v := bm_b true) hx hb dX5_put_181 (by decide) ?_
                        exact bm_zretX (v := true) hx hb hr hP hD hK hS ⟨(0), ms, (ma.1, ma.2.1, ma.2.2.1, ma.2.2.2.1, ma.2.2.2.2.1, ma.2.2.2.2.2.1, va_up ma.2.2.2.2.2.2 k_zA true), (g_87, g_88, g_89), mk, (mn.1, mn.2.1, mn.2.2.1, mn.2.2.2.1, g_60), ⟨ok_ms_parts, ok_ms_outs, ok_ms_nears, ok_ms_nets, ok_ms_pins, ok_ma_sides, ok_ma_groups, ok_90, ok_mk_nearOne, ok_mk_nearTwo, ok_mn_pinNet, ok_mn_pinPart, hw, hh⟩, rfl, rfl, true, rfl⟩ dX5_put_182 hlocks
                      · refine lv_aload_n hx hb dX5_put_165 rfl (lv_at hl 1 rfl) ?_
                        refine va_get (D := D) (ci := 5) (v := .ref (ad 49)) (C := RX5) (T := TX5) (N := 28) hx hb hts (inT inX5) hown hK hP 42 ww_42 rfl 10 (by decide) (hts (.fieldLink RX5 30 "BoardMovesModel" "placed" "[Z") (List.mem_cons_of_mem _ flX5_30)) (fun _ h9 => h9) rfl dX5_put_166 ?_
                        refine lv_iload_n hx hb dX5_put_169 rfl (lv_at hl 2 rfl) ?_
                        refine lv_iload hx hb dX5_put_170 (lv_at hl 0 rfl) ?_
                        refine bm_zast (f := (va_up ma.2.2.2.2.2.2 k_zA true)) hx hb hK hP hD hS 49 2 ww_49 rfl (j := k_zA) (x := (ma.2.2.2.2.2.2 k_zA)) (by omega) (by decide) dX5_put_172 (fun H locs hP hD hS => ?_)
                        have hP : va_P D vwCl (WW ad cJ cI cZ bm pa p0 p1 p2 li wi (0) ms (ma.1, ma.2.1, ma.2.2.1, ma.2.2.2.1, ma.2.2.2.2.1, ma.2.2.2.2.2.1, va_up (va_up ma.2.2.2.2.2.2 k_zA true) k_zA (ma.2.2.2.2.2.2 k_zA)) (g_58, g_59, va_up g_10 (40 + k_zA) k_zD) mk (mn.1, mn.2.1, mn.2.2.1, mn.2.2.2.1, g_60) ou) H := hP
                        have hD : va_D A (WW ad cJ cI cZ bm pa p0 p1 p2 li wi (0) ms (ma.1, ma.2.1, ma.2.2.1, ma.2.2.2.1, ma.2.2.2.2.1, ma.2.2.2.2.2.1, va_up (va_up ma.2.2.2.2.2.2 k_zA true) k_zA (ma.2.2.2.2.2.2 k_zA)) (g_58, g_59, va_up g_10 (40 + k_zA) k_zD) mk (mn.1, mn.2.1, mn.2.2.1, mn.2.2.2.1, g_60) ou) := hD
                        refine lv_iconst (v := bm_b false) hx hb dX5_put_173 (by decide) ?_
                        exact bm_zretX (v := false) hx hb hr hP hD hK hS ⟨(0), ms, (ma.1, ma.2.1, ma.2.2.1, ma.2.2.2.1, ma.2.2.2.2.1, ma.2.2.2.2.2.1, va_up (va_up ma.2.2.2.2.2.2 k_zA true) k_zA (ma.2.2.2.2.2.2 k_zA)), (g_58, g_59, va_up g_10 (40 + k_zA) k_zD), mk, (mn.1, mn.2.1, mn.2.2.1, mn.2.2.2.1, g_60), ⟨ok_ms_parts, ok_ms_outs, ok_ms_nears, ok_ms_nets, ok_ms_pins, ok_ma_sides, ok_ma_groups, (bx_uplt ok_11 (by omega)), ok_mk_nearOne, ok_mk_nearTwo, ok_mn_pinNet, ok_mn_pinPart, hw, hh⟩, rfl, rfl, false, rfl⟩ dX5_put_174 hlocks
                    · refine lv_iconst (v := bm_b false) hx hb dX5_put_148 (by decide) ?_
                      exact bm_zretX (v := false) hx hb hr hP hD hK hS ⟨(0), ms, ma, (g_58, g_59, va_up g_10 (40 + k_zA) k_zD), mk, (mn.1, mn.2.1, mn.2.2.1, mn.2.2.2.1, g_60), ⟨ok_ms_parts, ok_ms_outs, ok_ms_nears, ok_ms_nets, ok_ms_pins, ok_ma_sides, ok_ma_groups, (bx_uplt ok_11 (by omega)), ok_mk_nearOne, ok_mk_nearTwo, ok_mn_pinNet, ok_mn_pinPart, hw, hh⟩, rfl, rfl, false, rfl⟩ dX5_put_149 hlocks
                · refine lv_aload_n hx hb dX5_put_69 rfl (lv_at hl 1 rfl) ?_
                  refine lv_iload_n hx hb dX5_put_70 rfl (lv_at hl 2 rfl) ?_
                  refine bm_xcallV (As := [.int (nI k_zA)]) (rest := []) ⟨hx, hb, hml, hown, hts⟩ (y_mate (mt := (0)) (mp := (g_8, g_9, g_10)) (mn := (mn.1, mn.2.1, mn.2.2.1, mn.2.2.2.1, g_12)) (zp := k_zA) ok_ms_parts ok_ma_groups (by omega)) (cwV 1 hts gvX5_146 rfl rfl rfl hvX5_hasMate ⟨Nat.le_of_ble_eq_true rfl, Nat.le_of_ble_eq_true rfl⟩) hK hP hD hS hA 42 5 rfl ww_42 rfl hl.1 rfl (Nat.le_of_ble_eq_true rfl) dX5_put_71 ⟨Nat.le_of_ble_eq_true rfl, Nat.le_of_ble_eq_true rfl⟩ (fun ws_91 r_92 h_93 H locs hP hD hS => ?_)
                  obtain ⟨rfl, v_94, rfl⟩ := h_93
                  have hP : va_P D vwCl (WW ad cJ cI cZ bm pa p0 p1 p2 li wi (0) ms ma (g_8, g_9, g_10) mk (mn.1, mn.2.1, mn.2.2.1, mn.2.2.2.1, g_12) ou) H := hP
                  have hD : va_D A (WW ad cJ cI cZ bm pa p0 p1 p2 li wi (0) ms ma (g_8, g_9, g_10) mk (mn.1, mn.2.1, mn.2.2.1, mn.2.2.2.1, g_12) ou) := hD
                  refine bm_zb_eq (x := v_94) (tgt := 79) hx hb dX5_put_74 (by decide) (fun c_95 => ?_) (fun c_95 => ?_)
                  · refine lv_aload_n hx hb dX5_put_79 rfl (lv_at hl 1 rfl) ?_
                    refine lv_iload_n hx hb dX5_put_80 rfl (lv_at hl 2 rfl) ?_
                    refine lv_lload_n hx hb dX5_put_81 rfl (lv_at hl 3 rfl) ?_
                    refine lv_aload_n hx hb dX5_put_82 rfl (lv_at hl 1 rfl) ?_
                    refine lv_iconst (v := nI 0) hx hb dX5_put_83 (by decide) ?_
                    refine lv_iload_n hx hb dX5_put_84 rfl (lv_at hl 2 rfl) ?_
                    refine bm_xcallV (As := [.int (nI 0), .int (nI k_zA)]) (rest := [.long zB, .int (nI k_zA), .ref (ad 42)]) ⟨hx, hb, hml, hown, hts⟩ (y_left (mt := (0)) (mp := (g_8, g_9, g_10)) (mn := (mn.1, mn.2.1, mn.2.2.1, mn.2.2.2.1, g_12)) (zr := 0) (zp := k_zA)  (by omega) (by omega)) (cwV 2 hts gvX5_92 rfl rfl rfl hvX5_left ⟨Nat.le_of_ble_eq_true rfl, Nat.le_of_ble_eq_true rfl⟩) hK hP hD hS hA 42 5 rfl ww_42 rfl hl.1 rfl (Nat.le_of_ble_eq_true rfl) dX5_put_85 ⟨Nat.le_of_ble_eq_true rfl, Nat.le_of_ble_eq_true rfl⟩ (fun ws_96 r_97 h_98 H locs hP hD hS => ?_)
                    obtain ⟨rfl, v_99, rfl⟩ := h_98
                    have hP : va_P D vwCl (WW ad cJ cI cZ bm pa p0 p1 p2 li wi (0) ms ma (g_8, g_9, g_10) mk (mn.1, mn.2.1, mn.2.2.1, mn.2.2.2.1, g_12) ou) H := hP
                    have hD : va_D A (WW ad cJ cI cZ bm pa p0 p1 p2 li wi (0) ms ma (g_8, g_9, g_10) mk (mn.1, mn.2.1, mn.2.2.1, mn.2.2.2.1, g_12) ou) := hD
                    refine lv_lsub hx hb dX5_put_88 ?_
                    refine lv_topl (fun t_100 _ => ?_)
                    refine lv_lload hx hb dX5_put_89 (lv_at hl 4 rfl) ?_
                    refine lv_aload_n hx hb dX5_put_91 rfl (lv_at hl 1 rfl) ?_
                    refine lv_iconst (v := nI 0) hx hb dX5_put_92 (by decide) ?_
                    refine lv_iload_n hx hb dX5_put_93 rfl (lv_at hl 2 rfl) ?_
                    refine bm_xcallV (As := [.int (nI 0), .int (nI k_zA)]) (rest := [.long zC, .long t_100, .int (nI k_zA), .ref (ad 42)]) ⟨hx, hb, hml, hown, hts⟩ (y_low (mt := (0)) (mp := (g_8, g_9, g_10)) (mn := (mn.1, mn.2.1, mn.2.2.1, mn.2.2.2.1, g_12)) (zr := 0) (zp := k_zA)  (by omega) (by omega)) (cwV 2 hts gvX5_100 rfl rfl rfl hvX5_low ⟨Nat.le_of_ble_eq_true rfl, Nat.le_of_ble_eq_true rfl⟩) hK hP hD hS hA 42 5 rfl ww_42 rfl hl.1 rfl (Nat.le_of_ble_eq_true rfl) dX5_put_94 ⟨Nat.le_of_ble_eq_true rfl, Nat.le_of_ble_eq_true rfl⟩ (fun ws_101 r_102 h_103 H locs hP hD hS => ?_)
                    obtain ⟨rfl, v_104, rfl⟩ := h_103
                    have hP : va_P D vwCl (WW ad cJ cI cZ bm pa p0 p1 p2 li wi (0) ms ma (g_8, g_9, g_10) mk (mn.1, mn.2.1, mn.2.2.1, mn.2.2.2.1, g_12) ou) H := hP
                    have hD : va_D A (WW ad cJ cI cZ bm pa p0 p1 p2 li wi (0) ms ma (g_8, g_9, g_10) mk (mn.1, mn.2.1, mn.2.2.1, mn.2.2.2.1, g_12) ou) := hD
                    refine lv_lsub hx hb dX5_put_97 ?_
                    refine lv_topl (fun t_105 _ => ?_)
                    refine bm_xcallV (As := [.int (nI k_zA), .long t_100, .long t_105]) (rest := []) ⟨hx, hb, hml, hown, hts⟩ (y_go (mt := (0)) (mp := (g_8, g_9, g_10)) (mn := (mn.1, mn.2.1, mn.2.2.1, mn.2.2.2.1, g_12)) (zp := k_zA) (z1 := t_100) (z2 := t_105) ok_ms_parts ok_ma_groups (by omega)) (cwV 3 hts gvX5_149 rfl rfl rfl hvX5_go ⟨Nat.le_of_ble_eq_true rfl, Nat.le_of_ble_eq_true rfl⟩) hK hP hD hS hA 42 5 rfl ww_42 rfl hl.1 rfl (Nat.le_of_ble_eq_true rfl) dX5_put_98 ⟨Nat.le_of_ble_eq_true rfl, Nat.le_of_ble_eq_true rfl⟩ (fun ws_106 r_107 h_108 H locs hP hD hS => ?_)
                    obtain ⟨g_109, g_110, g_111, rfl, rfl⟩ := h_108
                    have hP : va_P D vwCl (WW ad cJ cI cZ bm pa p0 p1 p2 li wi (0) ms ma (g_109, g_110, g_10) mk (mn.1, mn.2.1, mn.2.2.1, mn.2.2.2.1, g_111) ou) H := hP
                    have hD : va_D A (WW ad cJ cI cZ bm pa p0 p1 p2 li wi (0) ms ma (g_109, g_110, g_10) mk (mn.1, mn.2.1, mn.2.2.1, mn.2.2.2.1, g_111) ou) := hD
                    refine lv_goto (tgt := 125) hx hb dX5_put_101 (by decide) ?_
                    refine lv_aload_n hx hb dX5_put_125 rfl (lv_at hl 1 rfl) ?_
                    refine va_get (D := D) (ci := 5) (v := .ref (ad 52)) (C := RX5) (T := TX5) (N := 28) hx hb hts (inT inX5) hown hK hP 42 ww_42 rfl 13 (by decide) (hts (.fieldLink RX5 39 "BoardMovesModel" "turns" "[I") (List.mem_cons_of_mem _ flX5_39)) (fun _ h9 => h9) rfl dX5_put_126 ?_
                    refine lv_bipush (v := nI 40) hx hb dX5_put_129 (by decide) ?_
                    refine lv_iload_n hx hb dX5_put_131 rfl (lv_at hl 2 rfl) ?_
                    refine bm_nadd hx hb dX5_put_132 ?_
                    refine lv_iload hx hb dX5_put_133 (lv_at hl 5 rfl) ?_
                    refine bm_nast (f := g_10) hx hb hK hP hD hS 52 1 ww_52 rfl (j := (40 + k_zA)) (x := k_zD) (by omega) (by decide) dX5_put_135 (fun H locs hP hD hS => ?_)
                    have hP : va_P D vwCl (WW ad cJ cI cZ bm pa p0 p1 p2 li wi (0) ms ma (g_109, g_110, va_up g_10 (40 + k_zA) k_zD) mk (mn.1, mn.2.1, mn.2.2.1, mn.2.2.2.1, g_111) ou) H := hP
                    have hD : va_D A (WW ad cJ cI cZ bm pa p0 p1 p2 li wi (0) ms ma (g_109, g_110, va_up g_10 (40 + k_zA) k_zD) mk (mn.1, mn.2.1, mn.2.2.1, mn.2.2.2.1, g_111) ou) := hD
                    refine lv_iload hx hb dX5_put_136 (lv_at hl 0 rfl) ?_
                    refine bm_zb_eq (x := (ma.2.2.2.2.2.2 k_zA)) (tgt := 150) hx hb dX5_put_138 (by decide) (fun c_112 => ?_) (fun c_112 => ?_)
                    · refine lv_aload_n hx hb dX5_put_150 rfl (lv_at hl 1 rfl) ?_
                      refine va_get (D := D) (ci := 5) (v := .ref (ad 49)) (C := RX5) (T := TX5) (N := 28) hx hb hts (inT inX5) hown hK hP 42 ww_42 rfl 10 (by decide) (hts (.fieldLink RX5 30 "BoardMovesModel" "placed" "[Z") (List.mem_cons_of_mem _ flX5_30)) (fun _ h9 => h9) rfl dX5_put_151 ?_
                      refine lv_iload_n hx hb dX5_put_154 rfl (lv_at hl 2 rfl) ?_
                      refine lv_iconst (v := bm_b true) hx hb dX5_put_155 (by decide) ?_
                      refine bm_zast (f := ma.2.2.2.2.2.2) hx hb hK hP hD hS 49 2 ww_49 rfl (j := k_zA) (x := true) (by omega) (by decide) dX5_put_156 (fun H locs hP hD hS => ?_)
                      have hP : va_P D vwCl (WW ad cJ cI cZ bm pa p0 p1 p2 li wi (0) ms (ma.1, ma.2.1, ma.2.2.1, ma.2.2.2.1, ma.2.2.2.2.1, ma.2.2.2.2.2.1, va_up ma.2.2.2.2.2.2 k_zA true) (g_109, g_110, va_up g_10 (40 + k_zA) k_zD) mk (mn.1, mn.2.1, mn.2.2.1, mn.2.2.2.1, g_111) ou) H := hP
                      have hD : va_D A (WW ad cJ cI cZ bm pa p0 p1 p2 li wi (0) ms (ma.1, ma.2.1, ma.2.2.1, ma.2.2.2.1, ma.2.2.2.2.1, ma.2.2.2.2.2.1, va_up ma.2.2.2.2.2.2 k_zA true) (g_109, g_110, va_up g_10 (40 + k_zA) k_zD) mk (mn.1, mn.2.1, mn.2.2.1, mn.2.2.2.1, g_111) ou) := hD
                      refine lv_aload_n hx hb dX5_put_157 rfl (lv_at hl 1 rfl) ?_
                      refine lv_iconst (v := nI 1) hx hb dX5_put_158 (by decide) ?_
                      refine bm_xcallV (As := [.int (nI 1)]) (rest := []) ⟨hx, hb, hml, hown, hts⟩ (y_isWell (mt := (0)) (ma := (ma.1, ma.2.1, ma.2.2.1, ma.2.2.2.1, ma.2.2.2.2.1, ma.2.2.2.2.2.1, va_up ma.2.2.2.2.2.2 k_zA true)) (mp := (g_109, g_110, va_up g_10 (40 + k_zA) k_zD)) (mn := (mn.1, mn.2.1, mn.2.2.1, mn.2.2.2.1, g_111)) (zr := 1) (bx_uplt ok_11 (by omega)) ok_ms_parts ok_ms_outs ok_ma_sides ok_ms_nears ok_mk_nearOne ok_mk_nearTwo (by omega)) (cwV 1 hts gvX5_157 rfl rfl rfl hvX5_isWell ⟨Nat.le_of_ble_eq_true rfl, Nat.le_of_ble_eq_true rfl⟩) hK hP hD hS hA 42 5 rfl ww_42 rfl hl.1 rfl (Nat.le_of_ble_eq_true rfl) dX5_put_159 ⟨Nat.le_of_ble_eq_true rfl, Nat.le_of_ble_eq_true rfl⟩ (fun ws_113 r_114 h_115 H locs hP hD hS => ?_)
                      obtain ⟨rfl, v_116, rfl⟩ := h_115
                      have hP : va_P D vwCl (WW ad cJ cI cZ bm pa p0 p1 p2 li wi (0) ms (ma.1, ma.2.1, ma.2.2.1, ma.2.2.2.1, ma.2.2.2.2.1, ma.2.2.2.2.2.1, va_up ma.2.2.2.2.2.2 k_zA true) (g_109, g_110, va_up g_10 (40 + k_zA) k_zD) mk (mn.1, mn.2.1, mn.2.2.1, mn.2.2.2.1, g_111) ou) H := hP
                      have hD : va_D A (WW ad cJ cI cZ bm pa p0 p1 p2 li wi (0) ms (ma.1, ma.2.1, ma.2.2.1, ma.2.2.2.1, ma.2.2.2.2.1, ma.2.2.2.2.2.1, va_up ma.2.2.2.2.2.2 k_zA true) (g_109, g_110, va_up g_10 (40 + k_zA) k_zD) mk (mn.1, mn.2.1, mn.2.2.1, mn.2.2.2.1, g_111) ou) := hD
                      refine bm_zb_ne (x := v_116) (tgt := 175) hx hb dX5_put_162 (by decide) (fun c_117 => ?_) (fun c_117 => ?_)
                      · refine lv_aload_n hx hb dX5_put_175 rfl (lv_at hl 1 rfl) ?_
                        refine lv_iconst (v := nI 0) hx hb dX5_put_176 (by decide) ?_
                        refine lv_iconst (v := nI 1) hx hb dX5_put_177 (by decide) ?_
                        refine bm_xcallV (As := [.int (nI 0), .int (nI 1)]) (rest := []) ⟨hx, hb, hml, hown, hts⟩ (y_copy (mt := (0)) (ma := (ma.1, ma.2.1, ma.2.2.1, ma.2.2.2.1, ma.2.2.2.2.1, ma.2.2.2.2.2.1, va_up ma.2.2.2.2.2.2 k_zA true)) (mp := (g_109, g_110, va_up g_10 (40 + k_zA) k_zD)) (mn := (mn.1, mn.2.1, mn.2.2.1, mn.2.2.2.1, g_111)) (zt := 0) (zf := 1) (bx_uplt ok_11 (by omega)) (by omega) (by omega)) (cwV 2 hts gvX5_132 rfl rfl rfl hvX5_copy ⟨Nat.le_of_ble_eq_true rfl, Nat.le_of_ble_eq_true rfl⟩) hK hP hD hS hA 42 5 rfl ww_42 rfl hl.1 rfl (Nat.le_of_ble_eq_true rfl) dX5_put_178 ⟨Nat.le_of_ble_eq_true rfl, Nat.le_of_ble_eq_true rfl⟩ (fun ws_118 r_119 h_120 H locs hP hD hS => ?_)
                        obtain ⟨g_121, g_122, g_123, ok_124, rfl, rfl⟩ := h_120
                        have hP : va_P D vwCl (WW ad cJ cI cZ bm pa p0 p1 p2 li wi (0) ms (ma.1, ma.2.1, ma.2.2.1, ma.2.2.2.1, ma.2.2.2.2.1, ma.2.2.2.2.2.1, va_up ma.2.2.2.2.2.2 k_zA true) (g_121, g_122, g_123) mk (mn.1, mn.2.1, mn.2.2.1, mn.2.2.2.1, g_111) ou) H := hP
                        have hD : va_D A (WW ad cJ cI cZ bm pa p0 p1 p2 li wi (0) ms (ma.1, ma.2.1, ma.2.2.1, ma.2.2.2.1, ma.2.2.2.2.1, ma.2.2.2.2.2.1, va_up ma.2.2.2.2.2.2 k_zA true) (g_121, g_122, g_123) mk (mn.1, mn.2.1, mn.2.2.1, mn.2.2.2.1, g_111) ou) := hD
                        refine lv_iconst (v := bm_b true) hx hb dX5_put_181 (by decide) ?_
                        exact bm_zretX (v := true) hx hb hr hP hD hK hS ⟨(0), ms, (ma.1, ma.2.1, ma.2.2.1, ma.2.2.2.1, ma.2.2.2.2.1, ma.2.2.2.2.2.1, va_up ma.2.2.2.2.2.2 k_zA true), (g_121, g_122, g_123), mk, (mn.1, mn.2.1, mn.2.2.1, mn.2.2.2.1, g_111), ⟨ok_ms_parts, ok_ms_outs, ok_ms_nears, ok_ms_nets, ok_ms_pins, ok_ma_sides, ok_ma_groups, ok_124, ok_mk_nearOne, ok_mk_nearTwo, ok_mn_pinNet, ok_mn_pinPart, hw, hh⟩, rfl, rfl, true, rfl⟩ dX5_put_182 hlocks
                      · refine lv_aload_n hx hb dX5_put_165 rfl (lv_at hl 1 rfl) ?_
                        refine va_get (D := D) (ci := 5) (v := .ref (ad 49)) (C := RX5) (T := TX5) (N := 28) hx hb hts (inT inX5) hown hK hP 42 ww_42 rfl 10 (by decide) (hts (.fieldLink RX5 30 "BoardMovesModel" "placed" "[Z") (List.mem_cons_of_mem _ flX5_30)) (fun _ h9 => h9) rfl dX5_put_166 ?_
                        refine lv_iload_n hx hb dX5_put_169 rfl (lv_at hl 2 rfl) ?_
                        refine lv_iload hx hb dX5_put_170 (lv_at hl 0 rfl) ?_
                        refine bm_zast (f := (va_up ma.2.2.2.2.2.2 k_zA true)) hx hb hK hP hD hS 49 2 ww_49 rfl (j := k_zA) (x := (ma.2.2.2.2.2.2 k_zA)) (by omega) (by decide) dX5_put_172 (fun H locs hP hD hS => ?_)
                        have hP : va_P D vwCl (WW ad cJ cI cZ bm pa p0 p1 p2 li wi (0) ms (ma.1, ma.2.1, ma.2.2.1, ma.2.2.2.1, ma.2.2.2.2.1, ma.2.2.2.2.2.1, va_up (va_up ma.2.2.2.2.2.2 k_zA true) k_zA (ma.2.2.2.2.2.2 k_zA)) (g_109, g_110, va_up g_10 (40 + k_zA) k_zD) mk (mn.1, mn.2.1, mn.2.2.1, mn.2.2.2.1, g_111) ou) H := hP
                        have hD : va_D A (WW ad cJ cI cZ bm pa p0 p1 p2 li wi (0) ms (ma.1, ma.2.1, ma.2.2.1, ma.2.2.2.1, ma.2.2.2.2.1, ma.2.2.2.2.2.1, va_up (va_up ma.2.2.2.2.2.2 k_zA true) k_zA (ma.2.2.2.2.2.2 k_zA)) (g_109, g_110, va_up g_10 (40 + k_zA) k_zD) mk (mn.1, mn.2.1, mn.2.2.1, mn.2.2.2.1, g_111) ou) := hD
                        refine lv_iconst (v := bm_b false) hx hb dX5_put_173 (by decide) ?_
                        exact bm_zretX (v := false) hx hb hr hP hD hK hS ⟨(0), ms, (ma.1, ma.2.1, ma.2.2.1, ma.2.2.2.1, ma.2.2.2.2.1, ma.2.2.2.2.2.1, va_up (va_up ma.2.2.2.2.2.2 k_zA true) k_zA (ma.2.2.2.2.2.2 k_zA)), (g_109, g_110, va_up g_10 (40 + k_zA) k_zD), mk, (mn.1, mn.2.1, mn.2.2.1, mn.2.2.2.1, g_111), ⟨ok_ms_parts, ok_ms_outs, ok_ms_nears, ok_ms_nets, ok_ms_pins, ok_ma_sides, ok_ma_groups, (bx_uplt ok_11 (by omega)), ok_mk_nearOne, ok_mk_nearTwo, ok_mn_pinNet, ok_mn_pinPart, hw, hh⟩, rfl, rfl, false, rfl⟩ dX5_put_174 hlocks
                    · refine lv_aload_n hx hb dX5_put_141 rfl (lv_at hl 1 rfl) ?_
                      refine bm_xcallV (As := []) (rest := []) ⟨hx, hb, hml, hown, hts⟩ (y_locked (mt := (0)) (mp := (g_109, g_110, va_up g_10 (40 + k_zA) k_zD)) (mn := (mn.1, mn.2.1, mn.2.2.1, mn.2.2.2.1, g_111))  ok_ms_parts (bx_uplt ok_11 (by omega)) ) (cwV 0 hts gvX5_153 rfl rfl rfl hvX5_movesLocked ⟨Nat.le_of_ble_eq_true rfl, Nat.le_of_ble_eq_true rfl⟩) hK hP hD hS hA 42 5 rfl ww_42 rfl hl.1 rfl (Nat.le_of_ble_eq_true rfl) dX5_put_142 ⟨Nat.le_of_ble_eq_true rfl, Nat.le_of_ble_eq_true rfl⟩ (fun ws_125 r_126 h_127 H locs hP hD hS => ?_)
                      obtain ⟨rfl, v_128, rfl⟩ := h_127
                      have hP : va_P D vwCl (WW ad cJ cI cZ bm pa p0 p1 p2 li wi (0) ms ma (g_109, g_110, va_up g_10 (40 + k_zA) k_zD) mk (mn.1, mn.2.1, mn.2.2.1, mn.2.2.2.1, g_111) ou) H := hP
                      have hD : va_D A (WW ad cJ cI cZ bm pa p0 p1 p2 li wi (0) ms ma (g_109, g_110, va_up g_10 (40 + k_zA) k_zD) mk (mn.1, mn.2.1, mn.2.2.1, mn.2.2.2.1, g_111) ou) := hD
                      refine bm_zb_eq (x := v_128) (tgt := 150) hx hb dX5_put_145 (by decide) (fun c_129 => ?_) (fun c_129 => ?_)
                      · refine lv_aload_n hx hb dX5_put_150 rfl (lv_at hl 1 rfl) ?_
                        refine va_get (D := D) (ci := 5) (v := .ref (ad 49)) (C := RX5) (T := TX5) (N := 28) hx hb hts (inT inX5) hown hK hP 42 ww_42 rfl 10 (by decide) (hts (.fieldLink RX5 30 "BoardMovesModel" "placed" "[Z") (List.mem_cons_of_mem _ flX5_30)) (fun _ h9 => h9) rfl dX5_put_151 ?_
                        refine lv_iload_n hx hb dX5_put_154 rfl (lv_at hl 2 rfl) ?_
                        refine lv_iconst (v := bm_b true) hx hb dX5_put_155 (by decide) ?_
                        refine bm_zast (f := ma.2.2.2.2.2.2) hx hb hK hP hD hS 49 2 ww_49 rfl (j := k_zA) (x := true) (by omega) (by decide) dX5_put_156 (fun H locs hP hD hS => ?_)
                        have hP : va_P D vwCl (WW ad cJ cI cZ bm pa p0 p1 p2 li wi (0) ms (ma.1, ma.2.1, ma.2.2.1, ma.2.2.2.1, ma.2.2.2.2.1, ma.2.2.2.2.2.1, va_up ma.2.2.2.2.2.2 k_zA true) (g_109, g_110, va_up g_10 (40 + k_zA) k_zD) mk (mn.1, mn.2.1, mn.2.2.1, mn.2.2.2.1, g_111) ou) H := hP
                        have hD : va_D A (WW ad cJ cI cZ bm pa p0 p1 p2 li wi (0) ms (ma.1, ma.2.1, ma.2.2.1, ma.2.2.2.1, ma.2.2.2.2.1, ma.2.2.2.2.2.1, va_up ma.2.2.2.2.2.2 k_zA true) (g_109, g_110, va_up g_10 (40 + k_zA) k_zD) mk (mn.1, mn.2.1, mn.2.2.1, mn.2.2.2.1, g_111) ou) := hD
                        refine lv_aload_n hx hb dX5_put_157 rfl (lv_at hl 1 rfl) ?_
                        refine lv_iconst (v := nI 1) hx hb dX5_put_158 (by decide) ?_
                        refine bm_xcallV (As := [.int (nI 1)]) (rest := []) ⟨hx, hb, hml, hown, hts⟩ (y_isWell (mt := (0)) (ma := (ma.1, ma.2.1, ma.2.2.1, ma.2.2.2.1, ma.2.2.2.2.1, ma.2.2.2.2.2.1, va_up ma.2.2.2.2.2.2 k_zA true)) (mp := (g_109, g_110, va_up g_10 (40 + k_zA) k_zD)) (mn := (mn.1, mn.2.1, mn.2.2.1, mn.2.2.2.1, g_111)) (zr := 1) (bx_uplt ok_11 (by omega)) ok_ms_parts ok_ms_outs ok_ma_sides ok_ms_nears ok_mk_nearOne ok_mk_nearTwo (by omega)) (cwV 1 hts gvX5_157 rfl rfl rfl hvX5_isWell ⟨Nat.le_of_ble_eq_true rfl, Nat.le_of_ble_eq_true rfl⟩) hK hP hD hS hA 42 5 rfl ww_42 rfl hl.1 rfl (Nat.le_of_ble_eq_true rfl) dX5_put_159 ⟨Nat.le_of_ble_eq_true rfl, Nat.le_of_ble_eq_true rfl⟩ (fun ws_130 r_131 h_132 H locs hP hD hS => ?_)
                        obtain ⟨rfl, v_133, rfl⟩ := h_132
                        have hP : va_P D vwCl (WW ad cJ cI cZ bm pa p0 p1 p2 li wi (0) ms (ma.1, ma.2.1, ma.2.2.1, ma.2.2.2.1, ma.2.2.2.2.1, ma.2.2.2.2.2.1, va_up ma.2.2.2.2.2.2 k_zA true) (g_109, g_110, va_up g_10 (40 + k_zA) k_zD) mk (mn.1, mn.2.1, mn.2.2.1, mn.2.2.2.1, g_111) ou) H := hP
                        have hD : va_D A (WW ad cJ cI cZ bm pa p0 p1 p2 li wi (0) ms (ma.1, ma.2.1, ma.2.2.1, ma.2.2.2.1, ma.2.2.2.2.1, ma.2.2.2.2.2.1, va_up ma.2.2.2.2.2.2 k_zA true) (g_109, g_110, va_up g_10 (40 + k_zA) k_zD) mk (mn.1, mn.2.1, mn.2.2.1, mn.2.2.2.1, g_111) ou) := hD
                        refine bm_zb_ne (x := v_133) (tgt := 175) hx hb dX5_put_162 (by decide) (fun c_134 => ?_) (fun c_134 => ?_)
                        · refine lv_aload_n hx hb dX5_put_175 rfl (lv_at hl 1 rfl) ?_
                          refine lv_iconst (v := nI 0) hx hb dX5_put_176 (by decide) ?_
                          refine lv_iconst (v := nI 1) hx hb dX5_put_177 (by decide) ?_
                          refine bm_xcallV (As := [.int (nI 0), .int (nI 1)]) (rest := []) ⟨hx, hb, hml, hown, hts⟩ (y_copy (mt := (0)) (ma := (ma.1, ma.2.1, ma.2.2.1, ma.2.2.2.1, ma.2.2.2.2.1, ma.2.2.2.2.2.1, va_up ma.2.2.2.2.2.2 k_zA true)) (mp := (g_109, g_110, va_up g_10 (40 + k_zA) k_zD)) (mn := (mn.1, mn.2.1, mn.2.2.1, mn.2.2.2.1, g_111)) (zt := 0) (zf := 1) (bx_uplt ok_11 (by omega)) (by omega) (by omega)) (cwV 2 hts gvX5_132 rfl rfl rfl hvX5_copy ⟨Nat.le_of_ble_eq_true rfl, Nat.le_of_ble_eq_true rfl⟩) hK hP hD hS hA 42 5 rfl ww_42 rfl hl.1 rfl (Nat.le_of_ble_eq_true rfl) dX5_put_178 ⟨Nat.le_of_ble_eq_true rfl, Nat.le_of_ble_eq_true rfl⟩ (fun ws_135 r_136 h_137 H locs hP hD hS => ?_)
                          obtain ⟨g_138, g_139, g_140, ok_141, rfl, rfl⟩ := h_137
                          have hP : va_P D vwCl (WW ad cJ cI cZ bm pa p0 p1 p2 li wi (0) ms (ma.1, ma.2.1, ma.2.2.1, ma.2.2.2.1, ma.2.2.2.2.1, ma.2.2.2.2.2.1, va_up ma.2.2.2.2.2.2 k_zA true) (g_138, g_139, g_140) mk (mn.1, mn.2.1, mn.2.2.1, mn.2.2.2.1, g_111) ou) H := hP
                          have hD : va_D A (WW ad cJ cI cZ bm pa p0 p1 p2 li wi (0) ms (ma.1, ma.2.1, ma.2.2.1, ma.2.2.2.1, ma.2.2.2.2.1, ma.2.2.2.2.2.1, va_up ma.2.2.2.2.2.2 k_zA true) (g_138, g_139, g_140) mk (mn.1, mn.2.1, mn.2.2.1, mn.2.2.2.1, g_111) ou) := hD
                          refine lv_iconst (v := bm_b true) hx hb dX5_put_181 (by decide) ?_
                          exact bm_zretX (v := true) hx hb hr hP hD hK hS ⟨(0), ms, (ma.1, ma.2.1, ma.2.2.1, ma.2.2.2.1, ma.2.2.2.2.1, ma.2.2.2.2.2.1, va_up ma.2.2.2.2.2.2 k_zA true), (g_138, g_139, g_140), mk, (mn.1, mn.2.1, mn.2.2.1, mn.2.2.2.1, g_111), ⟨ok_ms_parts, ok_ms_outs, ok_ms_nears, ok_ms_nets, ok_ms_pins, ok_ma_sides, ok_ma_groups, ok_141, ok_mk_nearOne, ok_mk_nearTwo, ok_mn_pinNet, ok_mn_pinPart, hw, hh⟩, rfl, rfl, true, rfl⟩ dX5_put_182 hlocks
                        · refine lv_aload_n hx hb dX5_put_165 rfl (lv_at hl 1 rfl) ?_
                          refine va_get (D := D) (ci := 5) (v := .ref (ad 49)) (C := RX5) (T := TX5) (N := 28) hx hb hts (inT inX5) hown hK hP 42 ww_42 rfl 10 (by decide) (hts (.fieldLink RX5 30 "BoardMovesModel" "placed" "[Z") (List.mem_cons_of_mem _ flX5_30)) (fun _ h9 => h9) rfl dX5_put_166 ?_
                          refine lv_iload_n hx hb dX5_put_169 rfl (lv_at hl 2 rfl) ?_
                          refine lv_iload hx hb dX5_put_170 (lv_at hl 0 rfl) ?_
                          refine bm_zast (f := (va_up ma.2.2.2.2.2.2 k_zA true)) hx hb hK hP hD hS 49 2 ww_49 rfl (j := k_zA) (x := (ma.2.2.2.2.2.2 k_zA)) (by omega) (by decide) dX5_put_172 (fun H locs hP hD hS => ?_)
                          have hP : va_P D vwCl (WW ad cJ cI cZ bm pa p0 p1 p2 li wi (0) ms (ma.1, ma.2.1, ma.2.2.1, ma.2.2.2.1, ma.2.2.2.2.1, ma.2.2.2.2.2.1, va_up (va_up ma.2.2.2.2.2.2 k_zA true) k_zA (ma.2.2.2.2.2.2 k_zA)) (g_109, g_110, va_up g_10 (40 + k_zA) k_zD) mk (mn.1, mn.2.1, mn.2.2.1, mn.2.2.2.1, g_111) ou) H := hP
                          have hD : va_D A (WW ad cJ cI cZ bm pa p0 p1 p2 li wi (0) ms (ma.1, ma.2.1, ma.2.2.1, ma.2.2.2.1, ma.2.2.2.2.1, ma.2.2.2.2.2.1, va_up (va_up ma.2.2.2.2.2.2 k_zA true) k_zA (ma.2.2.2.2.2.2 k_zA)) (g_109, g_110, va_up g_10 (40 + k_zA) k_zD) mk (mn.1, mn.2.1, mn.2.2.1, mn.2.2.2.1, g_111) ou) := hD
                          refine lv_iconst (v := bm_b false) hx hb dX5_put_173 (by decide) ?_
                          exact bm_zretX (v := false) hx hb hr hP hD hK hS ⟨(0), ms, (ma.1, ma.2.1, ma.2.2.1, ma.2.2.2.1, ma.2.2.2.2.1, ma.2.2.2.2.2.1, va_up (va_up ma.2.2.2.2.2.2 k_zA true) k_zA (ma.2.2.2.2.2.2 k_zA)), (g_109, g_110, va_up g_10 (40 + k_zA) k_zD), mk, (mn.1, mn.2.1, mn.2.2.1, mn.2.2.2.1, g_111), ⟨ok_ms_parts, ok_ms_outs, ok_ms_nears, ok_ms_nets, ok_ms_pins, ok_ma_sides, ok_ma_groups, (bx_uplt ok_11 (by omega)), ok_mk_nearOne, ok_mk_nearTwo, ok_mn_pinNet, ok_mn_pinPart, hw, hh⟩, rfl, rfl, false, rfl⟩ dX5_put_174 hlocks
                      · refine lv_iconst (v := bm_b false) hx hb dX5_put_148 (by decide) ?_
                        exact bm_zretX (v := false) hx hb hr hP hD hK hS ⟨(0), ms, ma, (g_109, g_110, va_up g_10 (40 + k_zA) k_zD), mk, (mn.1, mn.2.1, mn.2.2.1, mn.2.2.2.1, g_111), ⟨ok_ms_parts, ok_ms_outs, ok_ms_nears, ok_ms_nets, ok_ms_pins, ok_ma_sides, ok_ma_groups, (bx_uplt ok_11 (by omega)), ok_mk_nearOne, ok_mk_nearTwo, ok_mn_pinNet, ok_mn_pinPart, hw, hh⟩, rfl, rfl, false, rfl⟩ dX5_put_149 hlocks
                  · refine lv_iconst (v := bm_b false) hx hb dX5_put_77 (by decide) ?_
                    exact bm_zretX (v := false) hx hb hr hP hD hK hS ⟨(0), ms, ma, (g_8, g_9, g_10), mk, (mn.1, mn.2.1, mn.2.2.1, mn.2.2.2.1, g_12), ⟨ok_ms_parts, ok_ms_outs, ok_ms_nears, ok_ms_nets, ok_ms_pins, ok_ma_sides, ok_ma_groups, ok_11, ok_mk_nearOne, ok_mk_nearTwo, ok_mn_pinNet, ok_mn_pinPart, hw, hh⟩, rfl, rfl, false, rfl⟩ dX5_put_78 hlocks
            · exact absurd c_4 (by decide)
          · exact absurd (nI_le (by omega) (by decide)) c_3
      · exact absurd c_1 (by decide)
    · have hl := lv_entry ([.ref (ad 42), .int (nI k_zA), .long zB, .long zC, .int zD]) (n := 8) (Nat.le_of_ble_eq_true rfl)
      refine W.eq (g2 := entryFrame m ([.ref (ad 42), .int (nI k_zA), .long zB, .long zC, .int zD] : List Value).toArray 8) (by rw [ha]) ?_
      rw [lg_entry_eq]
      generalize (lg_sl ([.ref (ad 42), .int (nI k_zA), .long zB, .long zC, .int zD]) ++ List.replicate (8 - (lg_sl ([.ref (ad 42), .int (nI k_zA), .long zB, .long zC, .int zD])).length) Slot.unset).toArray = ls at hl ⊢
      have hl : lv_has ls 8 [(0, .ref (ad 42)), (1, .int (nI k_zA)), (2, .long zB), (4, .long zC), (6, .int zD)] := hl
      refine lv_aload_n hx hb dX5_put_0 rfl (lv_at hl 0 rfl) ?_
      refine lv_aload_n hx hb dX5_put_1 rfl (lv_at hl 0 rfl) ?_
      refine lv_iload_n hx hb dX5_put_2 rfl (lv_at hl 1 rfl) ?_
      refine bm_rcallV (As := [.int (nI k_zA)]) (rest := [.ref (ad 42)]) ⟨hx, hb, hml, hown, hts⟩ (Y_isPartY  (zp := k_zA) ok_ms_parts (by omega)) (cwV 1 hts gvX5_139 rfl rfl rfl hvX5_isPart ⟨Nat.le_of_ble_eq_true rfl, Nat.le_of_ble_eq_true rfl⟩) hK hP 42 5 rfl ww_42 rfl hl.1 rfl (Nat.le_of_ble_eq_true rfl) dX5_put_3 ⟨Nat.le_of_ble_eq_true rfl, Nat.le_of_ble_eq_true rfl⟩ ?_
      refine bm_zb_ne (x := true) (tgt := 13) hx hb dX5_put_6 (by decide) (fun c_142 => ?_) (fun c_142 => ?_)
      · refine lv_iload hx hb dX5_put_13 (lv_at hl 4 rfl) ?_
        refine lv_if_lt (x := zD) (tgt := 24) hx hb dX5_put_15 (by decide) (fun c_143 => ?_) (fun c_143 => ?_)
        · refine lv_iconst (v := nI 2) hx hb dX5_put_24 (by decide) ?_
          refine lv_goto (tgt := 29) hx hb dX5_put_25 (by decide) ?_
          refine va_put (D := D) (ci := 5) (v := .int (nI 2)) (ty := .int) (C := RX5) (T := TX5) (N := 28) hx hb hts (inT inX5) tyX5 tyX5_ok nmX5 hown hK hP hD hS 42 ww_42 rfl 0 (by decide) (hts (.fieldLink RX5 81 "BoardMovesModel" "thrown" "I") (List.mem_cons_of_mem _ flX5_81)) (fun _ h9 => h9) rfl (by decide +kernel) rfl rfl (Nat.le_of_ble_eq_true rfl) dX5_put_29 (fun H locs hP hD hS => ?_)
          have hP : va_P D vwCl (WW ad cJ cI cZ bm pa p0 p1 p2 li wi (2) ms ma mp mk mn ou) H := hP
          have hD : va_D A (WW ad cJ cI cZ bm pa p0 p1 p2 li wi (2) ms ma mp mk mn ou) := hD
          refine lv_aload_n hx hb dX5_put_32 rfl (lv_at hl 0 rfl) ?_
          refine va_get (D := D) (ci := 5) (v := .int (nI 2)) (C := RX5) (T := TX5) (N := 28) hx hb hts (inT inX5) hown hK hP 42 ww_42 rfl 0 (by decide) (hts (.fieldLink RX5 81 "BoardMovesModel" "thrown" "I") (List.mem_cons_of_mem _ flX5_81)) (fun _ h9 => h9) rfl dX5_put_33 ?_
          refine bm_nz_eq (x := 2) (tgt := 41) hx hb (by decide) dX5_put_36 (by decide) (fun c_144 => ?_) (fun c_144 => ?_)
          · exact absurd c_144 (by decide)
          · refine lv_iconst (v := bm_b false) hx hb dX5_put_39 (by decide) ?_
            exact bm_zretX (v := false) hx hb hr hP hD hK hS ⟨(2), ms, ma, mp, mk, mn, ⟨ok_ms_parts, ok_ms_outs, ok_ms_nears, ok_ms_nets, ok_ms_pins, ok_ma_sides, ok_ma_groups, ok_mp_turns, ok_mk_nearOne, ok_mk_nearTwo, ok_mn_pinNet, ok_mn_pinPart, hw, hh⟩, rfl, rfl, false, rfl⟩ dX5_put_40 hlocks
        · refine lv_iload hx hb dX5_put_18 (lv_at hl 4 rfl) ?_
          refine lv_iconst (v := nI 3) hx hb dX5_put_20 (by decide) ?_
          refine lv_icmp_le (x := zD) (y := (nI 3)) (tgt := 28) hx hb dX5_put_21 (by decide) (fun c_145 => ?_) (fun c_145 => ?_)
          · exact absurd ⟨c_143, bx_le3 c_145⟩ hno_zD
          · refine lv_iconst (v := nI 2) hx hb dX5_put_24 (by decide) ?_
            refine lv_goto (tgt := 29) hx hb dX5_put_25 (by decide) ?_
            refine va_put (D := D) (ci := 5) (v := .int (nI 2)) (ty := .int) (C := RX5) (T := TX5) (N := 28) hx hb hts (inT inX5) tyX5 tyX5_ok nmX5 hown hK hP hD hS 42 ww_42 rfl 0 (by decide) (hts (.fieldLink RX5 81 "BoardMovesModel" "thrown" "I") (List.mem_cons_of_mem _ flX5_81)) (fun _ h9 => h9) rfl (by decide +kernel) rfl rfl (Nat.le_of_ble_eq_true rfl) dX5_put_29 (fun H locs hP hD hS => ?_)
            have hP : va_P D vwCl (WW ad cJ cI cZ bm pa p0 p1 p2 li wi (2) ms ma mp mk mn ou) H := hP
            have hD : va_D A (WW ad cJ cI cZ bm pa p0 p1 p2 li wi (2) ms ma mp mk mn ou) := hD
            refine lv_aload_n hx hb dX5_put_32 rfl (lv_at hl 0 rfl) ?_
            refine va_get (D := D) (ci := 5) (v := .int (nI 2)) (C := RX5) (T := TX5) (N := 28) hx hb hts (inT inX5) hown hK hP 42 ww_42 rfl 0 (by decide) (hts (.fieldLink RX5 81 "BoardMovesModel" "thrown" "I") (List.mem_cons_of_mem _ flX5_81)) (fun _ h9 => h9) rfl dX5_put_33 ?_
            refine bm_nz_eq (x := 2) (tgt := 41) hx hb (by decide) dX5_put_36 (by decide) (fun c_146 => ?_) (fun c_146 => ?_)
            · exact absurd c_146 (by decide)
            · refine lv_iconst (v := bm_b false) hx hb dX5_put_39 (by decide) ?_
              exact bm_zretX (v := false) hx hb hr hP hD hK hS ⟨(2), ms, ma, mp, mk, mn, ⟨ok_ms_parts, ok_ms_outs, ok_ms_nears, ok_ms_nets, ok_ms_pins, ok_ma_sides, ok_ma_groups, ok_mp_turns, ok_mk_nearOne, ok_mk_nearTwo, ok_mn_pinNet, ok_mn_pinPart, hw, hh⟩, rfl, rfl, false, rfl⟩ dX5_put_40 hlocks
      · exact absurd c_142 (by decide)
  · have hl := lv_entry ([.ref (ad 42), .int zA, .long zB, .long zC, .int zD]) (n := 8) (Nat.le_of_ble_eq_true rfl)
    refine W.eq (g2 := entryFrame m ([.ref (ad 42), .int zA, .long zB, .long zC, .int zD] : List Value).toArray 8) (by rw [ha]) ?_
    rw [lg_entry_eq]
    generalize (lg_sl ([.ref (ad 42), .int zA, .long zB, .long zC, .int zD]) ++ List.replicate (8 - (lg_sl ([.ref (ad 42), .int zA, .long zB, .long zC, .int zD])).length) Slot.unset).toArray = ls at hl ⊢
    have hl : lv_has ls 8 [(0, .ref (ad 42)), (1, .int zA), (2, .long zB), (4, .long zC), (6, .int zD)] := hl
    refine lv_aload_n hx hb dX5_put_0 rfl (lv_at hl 0 rfl) ?_
    refine lv_aload_n hx hb dX5_put_1 rfl (lv_at hl 0 rfl) ?_
    refine lv_iload_n hx hb dX5_put_2 rfl (lv_at hl 1 rfl) ?_
    refine bm_rcallV (As := [.int zA]) (rest := [.ref (ad 42)]) ⟨hx, hb, hml, hown, hts⟩ (Y_isPartN  (zA := zA) hno_zA) (cwV 1 hts gvX5_139 rfl rfl rfl hvX5_isPart ⟨Nat.le_of_ble_eq_true rfl, Nat.le_of_ble_eq_true rfl⟩) hK hP 42 5 rfl ww_42 rfl hl.1 rfl (Nat.le_of_ble_eq_true rfl) dX5_put_3 ⟨Nat.le_of_ble_eq_true rfl, Nat.le_of_ble_eq_true rfl⟩ ?_
    refine bm_zb_ne (x := false) (tgt := 13) hx hb dX5_put_6 (by decide) (fun c_147 => ?_) (fun c_147 => ?_)
    · exact absurd c_147 (by decide)
    · refine lv_iconst (v := nI 1) hx hb dX5_put_9 (by decide) ?_
      refine lv_goto (tgt := 29) hx hb dX5_put_10 (by decide) ?_
      refine va_put (D := D) (ci := 5) (v := .int (nI 1)) (ty := .int) (C := RX5) (T := TX5) (N := 28) hx hb hts (inT inX5) tyX5 tyX5_ok nmX5 hown hK hP hD hS 42 ww_42 rfl 0 (by decide) (hts (.fieldLink RX5 81 "BoardMovesModel" "thrown" "I") (List.mem_cons_of_mem _ flX5_81)) (fun _ h9 => h9) rfl (by decide +kernel) rfl rfl (Nat.le_of_ble_eq_true rfl) dX5_put_29 (fun H locs hP hD hS => ?_)
      have hP : va_P D vwCl (WW ad cJ cI cZ bm pa p0 p1 p2 li wi (1) ms ma mp mk mn ou) H := hP
      have hD : va_D A (WW ad cJ cI cZ bm pa p0 p1 p2 li wi (1) ms ma mp mk mn ou) := hD
      refine lv_aload_n hx hb dX5_put_32 rfl (lv_at hl 0 rfl) ?_
      refine va_get (D := D) (ci := 5) (v := .int (nI 1)) (C := RX5) (T := TX5) (N := 28) hx hb hts (inT inX5) hown hK hP 42 ww_42 rfl 0 (by decide) (hts (.fieldLink RX5 81 "BoardMovesModel" "thrown" "I") (List.mem_cons_of_mem _ flX5_81)) (fun _ h9 => h9) rfl dX5_put_33 ?_
      refine bm_nz_eq (x := 1) (tgt := 41) hx hb (by decide) dX5_put_36 (by decide) (fun c_148 => ?_) (fun c_148 => ?_)
      · exact absurd c_148 (by decide)
      · refine lv_iconst (v := bm_b false) hx hb dX5_put_39 (by decide) ?_
        exact bm_zretX (v := false) hx hb hr hP hD hK hS ⟨(1), ms, ma, mp, mk, mn, ⟨ok_ms_parts, ok_ms_outs, ok_ms_nears, ok_ms_nets, ok_ms_pins, ok_ma_sides, ok_ma_groups, ok_mp_turns, ok_mk_nearOne, ok_mk_nearTwo, ok_mn_pinNet, ok_mn_pinPart, hw, hh⟩, rfl, rfl, false, rfl⟩ dX5_put_40 hlocks
