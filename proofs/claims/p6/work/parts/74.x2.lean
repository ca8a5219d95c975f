set_option maxHeartbeats 8000000 in
set_option maxRecDepth 100000 in
theorem x_addPin2 {l : Launch} {D : va_G} {ad : Nat → Nat} {cJ cI cZ : ClassId} {bm : gBM} {pa : gPA} {p0 p1 p2 : gPL} {li : gLI} {wi : gWI} {mt : Nat} {ms : gMS} {ma : gMA} {mp : gMP} {mk : gMK} {mn : gMN} {ou : Nat → Int64} {za : Nat} {zb : Nat} {z1 : Int64} {z2 : Int64} (ok_wi_pins : wi.2.2.2.2.2.2.2.2.2.2 ≤ 120) (ok_wi_netOf : ∀ i, wi.1 i < 40) (ok_wi_partOf : ∀ i, wi.2.1 i < 40) (hp0 : za < 40) (hp1 : zb < 40) (hq : wi.2.2.2.2.2.2.2.2.2.2 = 120) : bm_Wx l yX3_addPin wsX3_addPin ({ frames := 0, cells := 0, slots := 0, locals := 0 }) D vwCl [(cJ, .long), (cI, .int), (cZ, .boolean)] (WW ad cJ cI cZ bm pa p0 p1 p2 li wi mt ms ma mp mk mn ou) [.ref (ad 32), .int (nI za), .int (nI zb), .long z1, .long z2] (fun ws9 r9 => ws9 = (WW ad cJ cI cZ bm pa p0 p1 p2 li wi mt ms ma mp mk mn ou) ∧ r9 = some (.int (bm_b false))) := by
  intro sz
  refine Met.ofW (cc := cX3_addPin) (maxL := 7) (ret := (some .boolean)) (by decide) rfl ?_
  intro p e s m args below meth c s₁ B hml hv
  obtain ⟨ha, hsz, hP, hK, hD0⟩ := hv
  have hx := B.exec
  have hb := B.bytes
  have hr := B.returns
  have hts := atoms_spec (ws := wsX3_addPin) B.pre
  have hown : s.vm.findClass RX3 = some m.cls := findClass_of_methodNamed B.named
  have hlocks := B.notSynchronized
  subst hsz
  have hD := hD0.self (sz := s.heap.size)
  generalize hAe : va_A (WW ad cJ cI cZ bm pa p0 p1 p2 li wi mt ms ma mp mk mn ou) s.heap.size = A at hD ⊢
  have hA : ∀ q : Nat, s.heap.size ≤ q → A q := fun q h => by rw [← hAe]; exact Or.inr h
  have hS : va_S A s.heap s.heap [] := va_S.rf
  have hl := lv_entry ([.ref (ad 32), .int (nI za), .int (nI zb), .long z1, .long z2]) (n := 7) (Nat.le_of_ble_eq_true rfl)
  refine W.eq (g2 := entryFrame m ([.ref (ad 32), .int (nI za), .int (nI zb), .long z1, .long z2] : List Value).toArray 7) (by rw [ha]) ?_
  rw [lg_entry_eq]
  generalize (lg_sl ([.ref (ad 32), .int (nI za), .int (nI zb), .long z1, .long z2]) ++ List.replicate (7 - (lg_sl ([.ref (ad 32), .int (nI za), .int (nI zb), .long z1, .long z2])).length) Slot.unset).toArray = ls at hl ⊢
  have hl : lv_has ls 7 [(0, .ref (ad 32)), (1, .int (nI za)), (2, .int (nI zb)), (3, .long z1), (5, .long z2)] := hl
  refine lv_aload_n hx hb dX3_addPin_0 rfl (lv_at hl 0 rfl) ?_
  refine va_get (D := D) (ci := 3) (v := .int (nI wi.2.2.2.2.2.2.2.2.2.2)) (C := RX3) (T := TX3) (N := 12) hx hb hts (inT inX3) hown hK hP 32 ww_32 rfl 11 (by decide) (hts (.fieldLink RX3 45 "BoardMoves$Wiring" "pins" "I") (List.mem_cons_of_mem _ flX3_45)) (fun _ h9 => h9) rfl dX3_addPin_1 ?_
  refine lv_bipush (v := nI 120) hx hb dX3_addPin_4 (by decide) ?_
  refine bm_ni_lt (x := wi.2.2.2.2.2.2.2.2.2.2) (y := 120) (tgt := 11) hx hb (by omega) (by omega) dX3_addPin_6 (by decide) (fun c_1 => ?_) (fun c_1 => ?_)
  · exfalso; omega
  · refine lv_iconst (v := bm_b false) hx hb dX3_addPin_9 (by decide) ?_
    exact bm_zretX (v := false) hx hb hr hP hD hK hS ⟨rfl, rfl⟩ dX3_addPin_10 hlocks

set_option maxHeartbeats 16000000 in
set_option maxRecDepth 100000 in
theorem Z_pin3 {l : Launch} {D : va_G} {ad : Nat → Nat} {cJ cI cZ : ClassId} {bm : gBM} {pa : gPA} {p0 p1 p2 : gPL} {li : gLI} {wi : gWI} {mt : Nat} {ms : gMS} {ma : gMA} {mp : gMP} {mk : gMK} {mn : gMN} {ou : Nat → Int64} {zA : Nat} {zB : Nat} {zC : Int64} {zD : Int64} (hok : okC bm pa p0 p1 p2 li wi) (hk_zA : zA < wi.2.2.2.2.2.2.2.2.2.1) (hk_zB : zB < pa.2.2.2.2.2.2) (hv : q_in zC (pa.1 zB) zD (pa.2.1 zB) = true) (hq : wi.2.2.2.2.2.2.2.2.2.2 < 120) : bm_Wx l yX4_pin wsX4_pin ({ frames := 3, cells := 0, slots := 0, locals := 74 }) D vwCl [(cJ, .long), (cI, .int), (cZ, .boolean)] (WW ad cJ cI cZ bm pa p0 p1 p2 li wi mt ms ma mp mk mn ou) [.ref (ad 0), .int (nI zA), .int (nI zB), .long zC, .long zD] (fun ws9 r9 => ∃ (bm9 : gBM) (pa9 : gPA) (p09 p19 p29 : gPL) (li9 : gLI) (wi9 : gWI) (ou9 : Nat → Int64), okC bm9 pa9 p09 p19 p29 li9 wi9 ∧ (pa9.2.2.2.2.2.2, pa9.1, pa9.2.1, wi9.2.2.2.2.2.2.2.2.2.1, wi9.2.2.2.2.2.2.2.2.2.2) = (pa.2.2.2.2.2.2, pa.1, pa.2.1, wi.2.2.2.2.2.2.2.2.2.1, wi.2.2.2.2.2.2.2.2.2.2 + 1) ∧ ws9 = WW ad cJ cI cZ bm9 pa9 p09 p19 p29 li9 wi9 mt ms ma mp mk mn ou9 ∧ r9 = some (.int (bm_b true))) := by
  obtain ⟨ok_pa_n, ok_pa_side, ok_pa_lowest, ok_p0_turn, ok_p1_turn, ok_p2_turn, ok_li_one, ok_li_other, ok_li_keepOuts, ok_li_nears, ok_wi_netOf, ok_wi_partOf, ok_wi_nets, ok_wi_pins, hw, hh⟩ := hok
  intro sz
  refine Met.ofW (cc := cX4_pin) (maxL := 7) (ret := (some .boolean)) (by decide) rfl ?_
  intro p e s m args below meth c s₁ B hml hv
  obtain ⟨ha, hsz, hP, hK, hD0⟩ := hv
  have hx := B.exec
  have hb := B.bytes
  have hr := B.returns
  have hts := atoms_spec (ws := wsX4_pin) B.pre
  have hown : s.vm.findClass RX4 = some m.cls := findClass_of_methodNamed B.named
  have hlocks := B.notSynchronized
  subst hsz
  have hD := hD0.self (sz := s.heap.size)
  generalize hAe : va_A (WW ad cJ cI cZ bm pa p0 p1 p2 li wi mt ms ma mp mk mn ou) s.heap.size = A at hD ⊢
  have hA : ∀ q : Nat, s.heap.size ≤ q → A q := fun q h => by rw [← hAe]; exact Or.inr h
  have hS : va_S A s.heap s.heap [] := va_S.rf
  have hl := lv_entry ([.ref (ad 0), .int (nI zA), .int (nI zB), .long zC, .long zD]) (n := 7) (Nat.le_of_ble_eq_true rfl)
  refine W.eq (g2 := entryFrame m ([.ref (ad 0), .int (nI zA), .int (nI zB), .long zC, .long zD] : List Value).toArray 7) (by rw [ha]) ?_
  rw [lg_entry_eq]
  generalize (lg_sl ([.ref (ad 0), .int (nI zA), .int (nI zB), .long zC, .long zD]) ++ List.replicate (7 - (lg_sl ([.ref (ad 0), .int (nI zA), .int (nI zB), .long zC, .long zD])).length) Slot.unset).toArray = ls at hl ⊢
  have hl : lv_has ls 7 [(0, .ref (ad 0)), (1, .int (nI zA)), (2, .int (nI zB)), (3, .long zC), (5, .long zD)] := hl
  refine lv_iload_n hx hb dX4_pin_0 rfl (lv_at hl 1 rfl) ?_
  refine lv_if_lt (x := (nI zA)) (tgt := 15) hx hb dX4_pin_1 (by decide) (fun c_1 => ?_) (fun c_1 => ?_)
  · exact absurd c_1 (bx_nn (by omega))
  · refine lv_iload_n hx hb dX4_pin_4 rfl (lv_at hl 1 rfl) ?_
    refine lv_aload_n hx hb dX4_pin_5 rfl (lv_at hl 0 rfl) ?_
    refine va_get (D := D) (ci := 4) (v := .ref (ad 32)) (C := RX4) (T := TX4) (N := 10) hx hb hts (inT inX4) hown hK hP 0 ww_0 rfl 4 (by decide) (hts (.fieldLink RX4 30 "BoardMoves" "wiring" "LBoardMoves$Wiring;") (List.mem_cons_of_mem _ flX4_30)) (fun _ h9 => h9) rfl dX4_pin_6 ?_
    refine va_get (D := D) (ci := 3) (v := .int (nI wi.2.2.2.2.2.2.2.2.2.1)) (C := RX3) (T := TX3) (N := 12) hx hb hts (inT inX3) hown hK hP 32 ww_32 rfl 10 (by decide) (hts (.fieldLink RX4 139 "BoardMoves$Wiring" "nets" "I") (List.mem_cons_of_mem _ flX4_139)) (fun _ h9 => h9) rfl dX4_pin_9 ?_
    refine bm_ni_lt (x := zA) (y := wi.2.2.2.2.2.2.2.2.2.1) (tgt := 25) hx hb (by omega) (by omega) dX4_pin_12 (by decide) (fun c_2 => ?_) (fun c_2 => ?_)
    · refine lv_aload_n hx hb dX4_pin_25 rfl (lv_at hl 0 rfl) ?_
      refine lv_iload_n hx hb dX4_pin_26 rfl (lv_at hl 2 rfl) ?_
      refine bm_vcallV (As := [.int (nI zB)]) (rest := []) ⟨hx, hb, hml, hown, hts⟩ (X_needY  (zp := zB) ok_pa_n (by omega)) (cwV 1 hts gvX4_86 rfl rfl rfl hvX4_needPart ⟨Nat.le_of_ble_eq_true rfl, Nat.le_of_ble_eq_true rfl⟩) hK hP 0 4 rfl ww_0 rfl hl.1 rfl (Nat.le_of_ble_eq_true rfl) dX4_pin_27 ⟨Nat.le_of_ble_eq_true rfl, Nat.le_of_ble_eq_true rfl⟩ ?_
      refine lv_lload_n hx hb dX4_pin_30 rfl (lv_at hl 3 rfl) ?_
      refine lv_lconst (v := 0) hx hb dX4_pin_31 (by decide) ?_
      refine bm_lc_lt (x := zC) (y := 0) (tgt := 72) hx hb dX4_pin_32 dX4_pin_33 (by decide) (fun c_3 => ?_) (fun c_3 => ?_)
      · exact absurd hv (by simp [q_in, c_3])
      · refine lv_lload_n hx hb dX4_pin_36 rfl (lv_at hl 3 rfl) ?_
        refine lv_aload_n hx hb dX4_pin_37 rfl (lv_at hl 0 rfl) ?_
        refine va_get (D := D) (ci := 4) (v := .ref (ad 1)) (C := RX4) (T := TX4) (N := 10) hx hb hts (inT inX4) hown hK hP 0 ww_0 rfl 2 (by decide) (hts (.fieldLink RX4 12 "BoardMoves" "parts" "LBoardMoves$Parts;") (List.mem_cons_of_mem _ flX4_12)) (fun _ h9 => h9) rfl dX4_pin_38 ?_
        refine va_get (D := D) (ci := 1) (v := .ref (ad 2)) (C := RX1) (T := TX1) (N := 7) hx hb hts (inT inX1) hown hK hP 1 ww_1 rfl 0 (by decide) (hts (.fieldLink RX4 148 "BoardMoves$Parts" "w" "[J") (List.mem_cons_of_mem _ flX4_148)) (fun _ h9 => h9) rfl dX4_pin_41 ?_
        refine lv_iload_n hx hb dX4_pin_44 rfl (lv_at hl 2 rfl) ?_
        refine bm_lald (f := pa.1) hx hb hK hP 2 0 ww_2 rfl (j := zB) (by omega) (by decide) dX4_pin_45 ?_
        refine bm_lc_gt (x := zC) (y := (pa.1 zB)) (tgt := 72) hx hb dX4_pin_46 dX4_pin_47 (by decide) (fun c_4 => ?_) (fun c_4 => ?_)
        · exact absurd hv (by simp [q_in, c_4])
        · refine lv_lload hx hb dX4_pin_50 (lv_at hl 4 rfl) ?_
          refine lv_lconst (v := 0) hx hb dX4_pin_52 (by decide) ?_
          refine bm_lc_lt (x := zD) (y := 0) (tgt := 72) hx hb dX4_pin_53 dX4_pin_54 (by decide) (fun c_5 => ?_) (fun c_5 => ?_)
          · exact absurd hv (by simp [q_in, c_5])
          · refine lv_lload hx hb dX4_pin_57 (lv_at hl 4 rfl) ?_
            refine lv_aload_n hx hb dX4_pin_59 rfl (lv_at hl 0 rfl) ?_
            refine va_get (D := D) (ci := 4) (v := .ref (ad 1)) (C := RX4) (T := TX4) (N := 10) hx hb hts (inT inX4) hown hK hP 0 ww_0 rfl 2 (by decide) (hts (.fieldLink RX4 12 "BoardMoves" "parts" "LBoardMoves$Parts;") (List.mem_cons_of_mem _ flX4_12)) (fun _ h9 => h9) rfl dX4_pin_60 ?_
            refine va_get (D := D) (ci := 1) (v := .ref (ad 3)) (C := RX1) (T := TX1) (N := 7) hx hb hts (inT inX1) hown hK hP 1 ww_1 rfl 1 (by decide) (hts (.fieldLink RX4 151 "BoardMoves$Parts" "h" "[J") (List.mem_cons_of_mem _ flX4_151)) (fun _ h9 => h9) rfl dX4_pin_63 ?_
            refine lv_iload_n hx hb dX4_pin_66 rfl (lv_at hl 2 rfl) ?_
            refine bm_lald (f := pa.2.1) hx hb hK hP 3 0 ww_3 rfl (j := zB) (by omega) (by decide) dX4_pin_67 ?_
            refine bm_lc_le (x := zD) (y := (pa.2.1 zB)) (tgt := 82) hx hb dX4_pin_68 dX4_pin_69 (by decide) (fun c_6 => ?_) (fun c_6 => ?_)
            · refine lv_aload_n hx hb dX4_pin_82 rfl (lv_at hl 0 rfl) ?_
              refine va_get (D := D) (ci := 4) (v := .ref (ad 32)) (C := RX4) (T := TX4) (N := 10) hx hb hts (inT inX4) hown hK hP 0 ww_0 rfl 4 (by decide) (hts (.fieldLink RX4 30 "BoardMoves" "wiring" "LBoardMoves$Wiring;") (List.mem_cons_of_mem _ flX4_30)) (fun _ h9 => h9) rfl dX4_pin_83 ?_
              refine lv_iload_n hx hb dX4_pin_86 rfl (lv_at hl 1 rfl) ?_
              refine lv_iload_n hx hb dX4_pin_87 rfl (lv_at hl 2 rfl) ?_
              refine lv_lload_n hx hb dX4_pin_88 rfl (lv_at hl 3 rfl) ?_
              refine lv_lload hx hb dX4_pin_89 (lv_at hl 4 rfl) ?_
              refine bm_xcallV (As := [.int (nI zA), .int (nI zB), .long zC, .long zD]) (rest := []) ⟨hx, hb, hml, hown, hts⟩ (x_addPin1  (za := zA) (zb := zB) (z1 := zC) (z2 := zD) ok_wi_pins ok_wi_netOf ok_wi_partOf (by omega) (by omega) hq) (cwV 4 hts gvX4_156 rfl rfl rfl hvX3_addPin ⟨Nat.le_of_ble_eq_true rfl, Nat.le_of_ble_eq_true rfl⟩) hK hP hD hS hA 32 3 rfl ww_32 rfl hl.1 rfl (Nat.le_of_ble_eq_true rfl) dX4_pin_91 ⟨Nat.le_of_ble_eq_true rfl, Nat.le_of_ble_eq_true rfl⟩ (fun ws_7 r_8 h_9 H locs hP hD hS => ?_)
              obtain ⟨g_10, g_12, g_14, g_15, ok_11, ok_13, rfl, rfl⟩ := h_9
              have hP : va_P D vwCl (WW ad cJ cI cZ bm pa p0 p1 p2 li (g_10, g_12, g_14, g_15, wi.2.2.2.2.1, wi.2.2.2.2.2.1, wi.2.2.2.2.2.2.1, wi.2.2.2.2.2.2.2.1, wi.2.2.2.2.2.2.2.2.1, wi.2.2.2.2.2.2.2.2.2.1, wi.2.2.2.2.2.2.2.2.2.2 + 1) mt ms ma mp mk mn ou) H := hP
              have hD : va_D A (WW ad cJ cI cZ bm pa p0 p1 p2 li (g_10, g_12, g_14, g_15, wi.2.2.2.2.1, wi.2.2.2.2.2.1, wi.2.2.2.2.2.2.1, wi.2.2.2.2.2.2.2.1, wi.2.2.2.2.2.2.2.2.1, wi.2.2.2.2.2.2.2.2.2.1, wi.2.2.2.2.2.2.2.2.2.2 + 1) mt ms ma mp mk mn ou) := hD
              refine bm_zb_ne (x := true) (tgt := 99) hx hb dX4_pin_94 (by decide) (fun c_16 => ?_) (fun c_16 => ?_)
              · refine lv_aload_n hx hb dX4_pin_99 rfl (lv_at hl 0 rfl) ?_
                refine lv_aload_n hx hb dX4_pin_100 rfl (lv_at hl 0 rfl) ?_
                refine va_get (D := D) (ci := 4) (v := .ref (ad 32)) (C := RX4) (T := TX4) (N := 10) hx hb hts (inT inX4) hown hK hP 0 ww_0 rfl 4 (by decide) (hts (.fieldLink RX4 30 "BoardMoves" "wiring" "LBoardMoves$Wiring;") (List.mem_cons_of_mem _ flX4_30)) (fun _ h9 => h9) rfl dX4_pin_101 ?_
                refine lv_aload_n hx hb dX4_pin_104 rfl (lv_at hl 0 rfl) ?_
                refine va_get (D := D) (ci := 4) (v := .ref (ad 8)) (C := RX4) (T := TX4) (N := 10) hx hb hts (inT inX4) hown hK hP 0 ww_0 rfl 5 (by decide) (hts (.fieldLink RX4 37 "BoardMoves" "now" "LBoardMoves$Placement;") (List.mem_cons_of_mem _ flX4_37)) (fun _ h9 => h9) rfl dX4_pin_105 ?_
                refine bm_xcallV (As := [.ref (ad 8)]) (rest := [.ref (ad 0)]) ⟨hx, hb, hml, hown, hts⟩ (x_meas (wi := (g_10, g_12, g_14, g_15, wi.2.2.2.2.1, wi.2.2.2.2.2.1, wi.2.2.2.2.2.2.1, wi.2.2.2.2.2.2.2.1, wi.2.2.2.2.2.2.2.2.1, wi.2.2.2.2.2.2.2.2.2.1, wi.2.2.2.2.2.2.2.2.2.2 + 1))  ok_wi_nets (show wi.2.2.2.2.2.2.2.2.2.2 + 1 ≤ 120 by omega) ok_11 ok_13 ok_p0_turn ) (cwV 1 hts gvX4_160 rfl rfl rfl hvX3_measure ⟨Nat.le_of_ble_eq_true rfl, Nat.le_of_ble_eq_true rfl⟩) hK hP hD hS hA 32 3 rfl ww_32 rfl hl.1 rfl (Nat.le_of_ble_eq_true rfl) dX4_pin_108 ⟨Nat.le_of_ble_eq_true rfl, Nat.le_of_ble_eq_true rfl⟩ (fun ws_17 r_18 h_19 H locs hP hD hS => ?_)
                obtain ⟨g_20, g_21, g_22, g_23, g_24, rfl, v_25, rfl⟩ := h_19
                have hP : va_P D vwCl (WW ad cJ cI cZ bm pa p0 p1 p2 li (g_10, g_12, g_14, g_15, g_20, g_21, g_22, g_23, g_24, wi.2.2.2.2.2.2.2.2.2.1, wi.2.2.2.2.2.2.2.2.2.2 + 1) mt ms ma mp mk mn ou) H := hP
                have hD : va_D A (WW ad cJ cI cZ bm pa p0 p1 p2 li (g_10, g_12, g_14, g_15, g_20, g_21, g_22, g_23, g_24, wi.2.2.2.2.2.2.2.2.2.1, wi.2.2.2.2.2.2.2.2.2.2 + 1) mt ms ma mp mk mn ou) := hD
                refine va_put (D := D) (ci := 4) (v := .long v_25) (ty := .long) (C := RX4) (T := TX4) (N := 10) hx hb hts (inT inX4) tyX4 tyX4_ok nmX4 hown hK hP hD hS 0 ww_0 rfl 9 (by decide) (hts (.fieldLink RX4 47 "BoardMoves" "keptWire" "J") (List.mem_cons_of_mem _ flX4_47)) (fun _ h9 => h9) rfl (by decide +kernel) rfl rfl (Nat.le_of_ble_eq_true rfl) dX4_pin_111 (fun H locs hP hD hS => ?_)
                have hP : va_P D vwCl (WW ad cJ cI cZ (bm.1, bm.2.1, bm.2.2.1, v_25) pa p0 p1 p2 li (g_10, g_12, g_14, g_15, g_20, g_21, g_22, g_23, g_24, wi.2.2.2.2.2.2.2.2.2.1, wi.2.2.2.2.2.2.2.2.2.2 + 1) mt ms ma mp mk mn ou) H := hP
                have hD : va_D A (WW ad cJ cI cZ (bm.1, bm.2.1, bm.2.2.1, v_25) pa p0 p1 p2 li (g_10, g_12, g_14, g_15, g_20, g_21, g_22, g_23, g_24, wi.2.2.2.2.2.2.2.2.2.1, wi.2.2.2.2.2.2.2.2.2.2 + 1) mt ms ma mp mk mn ou) := hD
                refine lv_iconst (v := bm_b true) hx hb dX4_pin_114 (by decide) ?_
                exact bm_zretX (v := true) hx hb hr hP hD hK hS ⟨(bm.1, bm.2.1, bm.2.2.1, v_25), pa, p0, p1, p2, li, (g_10, g_12, g_14, g_15, g_20, g_21, g_22, g_23, g_24, wi.2.2.2.2.2.2.2.2.2.1, wi.2.2.2.2.2.2.2.2.2.2 + 1), ou, ⟨ok_pa_n, ok_pa_side, ok_pa_lowest, ok_p0_turn, ok_p1_turn, ok_p2_turn, ok_li_one, ok_li_other, ok_li_keepOuts, ok_li_nears, ok_11, ok_13, ok_wi_nets, (show wi.2.2.2.2.2.2.2.2.2.2 + 1 ≤ 120 by omega), hw, hh⟩, rfl, rfl, rfl⟩ dX4_pin_115 hlocks
              · exact absurd c_16 (by decide)
            · exact absurd hv (by simp [q_in, c_6])
    · exact absurd hk_zA c_2

set_option maxHeartbeats 16000000 in
set_option maxRecDepth 100000 in
theorem E_pin3 {l : Launch} (hlt : l.stackTraces = false) {D : va_G} {ad : Nat → Nat} {cJ cI cZ : ClassId} {bm : gBM} {pa : gPA} {p0 p1 p2 : gPL} {li : gLI} {wi : gWI} {mt : Nat} {ms : gMS} {ma : gMA} {mp : gMP} {mk : gMK} {mn : gMN} {ou : Nat → Int64} (hok : okC bm pa p0 p1 p2 li wi) {zA zB : Nat} {zC zD : Int64} (hk_zA : zA < wi.2.2.2.2.2.2.2.2.2.1) (hk_zB : zB < pa.2.2.2.2.2.2) (hv : q_in zC (pa.1 zB) zD (pa.2.1 zB) = true) (hq : wi.2.2.2.2.2.2.2.2.2.2 < 120) (sz : Nat) : Met l yL_pin wsL_pin ({ frames := 4, cells := 1, slots := 6, locals := 100 }) (bx_Hn D vwCl [(cJ, .long), (cI, .int), (cZ, .boolean)] (WW ad cJ cI cZ bm pa p0 p1 p2 li wi mt ms ma mp mk mn ou) [.ref (ad 0), .int (nI zA), .int (nI zB), .long zC, .long zD, .ref (ad 62)] sz) (bm_Wxq D vwCl [(cJ, .long), (cI, .int), (cZ, .boolean)] (fun ws9 r9 => ∃ (bm9 : gBM) (pa9 : gPA) (p09 p19 p29 : gPL) (li9 : gLI) (wi9 : gWI) (ou9 : Nat → Int64), okC bm9 pa9 p09 p19 p29 li9 wi9 ∧ (pa9.2.2.2.2.2.2, pa9.1, pa9.2.1, wi9.2.2.2.2.2.2.2.2.2.1, wi9.2.2.2.2.2.2.2.2.2.2) = (pa.2.2.2.2.2.2, pa.1, pa.2.1, wi.2.2.2.2.2.2.2.2.2.1, wi.2.2.2.2.2.2.2.2.2.2 + 1) ∧ ou9 0 = 1 ∧ ws9 = WW ad cJ cI cZ bm9 pa9 p09 p19 p29 li9 wi9 mt ms ma mp mk mn ou9 ∧ r9 = some (.int (nI 0))) (va_A (WW ad cJ cI cZ bm pa p0 p1 p2 li wi mt ms ma mp mk mn ou) sz)) 1 6 (va_A (WW ad cJ cI cZ bm pa p0 p1 p2 li wi mt ms ma mp mk mn ou) sz) := by
  have hok9 := hok
  obtain ⟨ok_pa_n, ok_pa_side, ok_pa_lowest, ok_p0_turn, ok_p1_turn, ok_p2_turn, ok_li_one, ok_li_other, ok_li_keepOuts, ok_li_nears, ok_wi_netOf, ok_wi_partOf, ok_wi_nets, ok_wi_pins, hw, hh⟩ := hok9
  refine bx_ofWH (cc := cL_pin) (maxL := 9) (ret := (some .int)) (hs := [(0, 21, 24, 19), (0, 21, 28, 13)]) (by decide) rfl ?_
  intro p e s m args below meth c s₁ B hml htab hv9
  obtain ⟨⟨ha, hsz, hP, hK, hD0, hX, hZ⟩, hN1, hN2⟩ := hv9
  have hx := B.exec
  have hb := B.bytes
  have hr := B.returns
  have hts := atoms_spec (ws := wsL_pin) B.pre
  have hown : s.vm.findClass RL = some m.cls := findClass_of_methodNamed B.named
  have hlocks := B.notSynchronized
  subst hsz
  have hD := hD0.self (sz := s.heap.size)
  generalize hAe : va_A (WW ad cJ cI cZ bm pa p0 p1 p2 li wi mt ms ma mp mk mn ou) s.heap.size = A at hD ⊢
  have hA : ∀ q : Nat, s.heap.size ≤ q → A q := fun q h => by rw [← hAe]; exact Or.inr h
  have hS : va_S A s.heap s.heap [] := va_S.rf
  have hl := lv_entry ([.ref (ad 0), .int (nI zA), .int (nI zB), .long zC, .long zD, .ref (ad 62)]) (n := 9) (Nat.le_of_ble_eq_true rfl)
  refine W.eq (g2 := entryFrame m ([.ref (ad 0), .int (nI zA), .int (nI zB), .long zC, .long zD, .ref (ad 62)] : List Value).toArray 9) (by rw [ha]) ?_
  rw [lg_entry_eq]
  generalize (lg_sl ([.ref (ad 0), .int (nI zA), .int (nI zB), .long zC, .long zD, .ref (ad 62)]) ++ List.replicate (9 - (lg_sl ([.ref (ad 0), .int (nI zA), .int (nI zB), .long zC, .long zD, .ref (ad 62)])).length) Slot.unset).toArray = ls at hl ⊢
  have hl : lv_has ls 9 [(0, .ref (ad 0)), (1, .int (nI zA)), (2, .int (nI zB)), (3, .long zC), (5, .long zD), (7, .ref (ad 62))] := hl
  refine lv_aload hx hb dL_pin_0 (lv_at hl 5 rfl) ?_
  refine lv_iconst (v := nI 0) hx hb dL_pin_2 (by decide) ?_
  refine lv_aload_n hx hb dL_pin_3 rfl (lv_at hl 0 rfl) ?_
  refine lv_iload_n hx hb dL_pin_4 rfl (lv_at hl 1 rfl) ?_
  refine lv_iload_n hx hb dL_pin_5 rfl (lv_at hl 2 rfl) ?_
  refine lv_lload_n hx hb dL_pin_6 rfl (lv_at hl 3 rfl) ?_
  refine lv_lload hx hb dL_pin_7 (lv_at hl 4 rfl) ?_
  refine bm_xcallV (As := [.int (nI zA), .int (nI zB), .long zC, .long zD]) (rest := [.int (nI 0), .ref (ad 62)]) ⟨hx, hb, hml, hown, hts⟩ (Z_pin3  hok hk_zA hk_zB hv hq) (cwV 4 hts gwL_25 rfl rfl rfl hvX4_pin ⟨Nat.le_of_ble_eq_true rfl, Nat.le_of_ble_eq_true rfl⟩) hK hP hD hS hA 0 4 rfl ww_0 rfl hl.1 rfl (Nat.le_of_ble_eq_true rfl) dL_pin_9 ⟨Nat.le_of_ble_eq_true rfl, Nat.le_of_ble_eq_true rfl⟩ (fun ws_1 r_2 h_3 H locs hP hD hS => ?_)
  obtain ⟨bmn_4, pan_5, p0n_6, p1n_7, p2n_8, lin_9, win_10, oun_11, okn_12, hnn_13, rfl, rfl⟩ := h_3
  have hP : va_P D vwCl (WW ad cJ cI cZ bmn_4 pan_5 p0n_6 p1n_7 p2n_8 lin_9 win_10 mt ms ma mp mk mn oun_11) H := hP
  have hD : va_D A (WW ad cJ cI cZ bmn_4 pan_5 p0n_6 p1n_7 p2n_8 lin_9 win_10 mt ms ma mp mk mn oun_11) := hD
  refine bm_zb_eq (x := true) (tgt := 19) hx hb dL_pin_12 (by decide) (fun c_15 => ?_) (fun c_15 => ?_)
  · exact absurd c_15 (by decide)
  · refine lv_lconst (v := 1) hx hb dL_pin_15 (by decide) ?_
    refine lv_goto (tgt := 20) hx hb dL_pin_16 (by decide) ?_
    refine bm_last (f := oun_11) hx hb hK hP hD hS 62 0 ww_62 rfl (j := 0) (x := 1) (by omega) (by decide) dL_pin_20 (fun H locs hP hD hS => ?_)
    have hP : va_P D vwCl (WW ad cJ cI cZ bmn_4 pan_5 p0n_6 p1n_7 p2n_8 lin_9 win_10 mt ms ma mp mk mn (va_up oun_11 0 1)) H := hP
    have hD : va_D A (WW ad cJ cI cZ bmn_4 pan_5 p0n_6 p1n_7 p2n_8 lin_9 win_10 mt ms ma mp mk mn (va_up oun_11 0 1)) := hD
    refine lv_goto (tgt := 32) hx hb dL_pin_21 (by decide) ?_
    refine lv_iconst (v := nI 0) hx hb dL_pin_32 (by decide) ?_
    refine W.widen (k := 1) (n := 6) (by decide) (by decide) ?_
    exact bm_iretX (v := nI 0) hx hb hr hP hD hK hS ⟨bmn_4, pan_5, p0n_6, p1n_7, p2n_8, lin_9, win_10, (va_up oun_11 0 1), okn_12, hnn_13, (by simp [va_up]), rfl, rfl⟩ dL_pin_33 hlocks

set_option maxHeartbeats 16000000 in
set_option maxRecDepth 100000 in
theorem Z_pin4 {l : Launch} {D : va_G} {ad : Nat → Nat} {cJ cI cZ : ClassId} {bm : gBM} {pa : gPA} {p0 p1 p2 : gPL} {li : gLI} {wi : gWI} {mt : Nat} {ms : gMS} {ma : gMA} {mp : gMP} {mk : gMK} {mn : gMN} {ou : Nat → Int64} {zA : Nat} {zB : Nat} {zC : Int64} {zD : Int64} (hok : okC bm pa p0 p1 p2 li wi) (hk_zA : zA < wi.2.2.2.2.2.2.2.2.2.1) (hk_zB : zB < pa.2.2.2.2.2.2) (hv : q_in zC (pa.1 zB) zD (pa.2.1 zB) = true) (hq : wi.2.2.2.2.2.2.2.2.2.2 = 120) : bm_Wx l yX4_pin wsX4_pin ({ frames := 1, cells := 0, slots := 0, locals := 26 }) D vwCl [(cJ, .long), (cI, .int), (cZ, .boolean)] (WW ad cJ cI cZ bm pa p0 p1 p2 li wi mt ms ma mp mk mn ou) [.ref (ad 0), .int (nI zA), .int (nI zB), .long zC, .long zD] (fun ws9 r9 => ∃ (bm9 : gBM) (pa9 : gPA) (p09 p19 p29 : gPL) (li9 : gLI) (wi9 : gWI) (ou9 : Nat → Int64), okC bm9 pa9 p09 p19 p29 li9 wi9 ∧ (pa9.2.2.2.2.2.2, pa9.1, pa9.2.1, wi9.2.2.2.2.2.2.2.2.2.1, wi9.2.2.2.2.2.2.2.2.2.2) = (pa.2.2.2.2.2.2, pa.1, pa.2.1, wi.2.2.2.2.2.2.2.2.2.1, wi.2.2.2.2.2.2.2.2.2.2) ∧ ws9 = WW ad cJ cI cZ bm9 pa9 p09 p19 p29 li9 wi9 mt ms ma mp mk mn ou9 ∧ r9 = some (.int (bm_b false))) := by
  obtain ⟨ok_pa_n, ok_pa_side, ok_pa_lowest, ok_p0_turn, ok_p1_turn, ok_p2_turn, ok_li_one, ok_li_other, ok_li_keepOuts, ok_li_nears, ok_wi_netOf, ok_wi_partOf, ok_wi_nets, ok_wi_pins, hw, hh⟩ := hok
  intro sz
  refine Met.ofW (cc := cX4_pin) (maxL := 7) (ret := (some .boolean)) (by decide) rfl ?_
  intro p e s m args below meth c s₁ B hml hv
  obtain ⟨ha, hsz, hP, hK, hD0⟩ := hv
  have hx := B.exec
  have hb := B.bytes
  have hr := B.returns
  have hts := atoms_spec (ws := wsX4_pin) B.pre
  have hown : s.vm.findClass RX4 = some m.cls := findClass_of_methodNamed B.named
  have hlocks := B.notSynchronized
  subst hsz
  have hD := hD0.self (sz := s.heap.size)
  generalize hAe : va_A (WW ad cJ cI cZ bm pa p0 p1 p2 li wi mt ms ma mp mk mn ou) s.heap.size = A at hD ⊢
  have hA : ∀ q : Nat, s.heap.size ≤ q → A q := fun q h => by rw [← hAe]; exact Or.inr h
  have hS : va_S A s.heap s.heap [] := va_S.rf
  have hl := lv_entry ([.ref (ad 0), .int (nI zA), .int (nI zB), .long zC, .long zD]) (n := 7) (Nat.le_of_ble_eq_true rfl)
  refine W.eq (g2 := entryFrame m ([.ref (ad 0), .int (nI zA), .int (nI zB), .long zC, .long zD] : List Value).toArray 7) (by rw [ha]) ?_
  rw [lg_entry_eq]
  generalize (lg_sl ([.ref (ad 0), .int (nI zA), .int (nI zB), .long zC, .long zD]) ++ List.replicate (7 - (lg_sl ([.ref (ad 0), .int (nI zA), .int (nI zB), .long zC, .long zD])).length) Slot.unset).toArray = ls at hl ⊢
  have hl : lv_has ls 7 [(0, .ref (ad 0)), (1, .int (nI zA)), (2, .int (nI zB)), (3, .long zC), (5, .long zD)] := hl
  refine lv_iload_n hx hb dX4_pin_0 rfl (lv_at hl 1 rfl) ?_
  refine lv_if_lt (x := (nI zA)) (tgt := 15) hx hb dX4_pin_1 (by decide) (fun c_1 => ?_) (fun c_1 => ?_)
  · exact absurd c_1 (bx_nn (by omega))
  · refine lv_iload_n hx hb dX4_pin_4 rfl (lv_at hl 1 rfl) ?_
    refine lv_aload_n hx hb dX4_pin_5 rfl (lv_at hl 0 rfl) ?_
    refine va_get (D := D) (ci := 4) (v := .ref (ad 32)) (C := RX4) (T := TX4) (N := 10) hx hb hts (inT inX4) hown hK hP 0 ww_0 rfl 4 (by decide) (hts (.fieldLink RX4 30 "BoardMoves" "wiring" "LBoardMoves$Wiring;") (List.mem_cons_of_mem _ flX4_30)) (fun _ h9 => h9) rfl dX4_pin_6 ?_
    refine va_get (D := D) (ci := 3) (v := .int (nI wi.2.2.2.2.2.2.2.2.2.1)) (C := RX3) (T := TX3) (N := 12) hx hb hts (inT inX3) hown hK hP 32 ww_32 rfl 10 (by decide) (hts (.fieldLink RX4 139 "BoardMoves$Wiring" "nets" "I") (List.mem_cons_of_mem _ flX4_139)) (fun _ h9 => h9) rfl dX4_pin_9 ?_
    refine bm_ni_lt (x := zA) (y := wi.2.2.2.2.2.2.2.2.2.1) (tgt := 25) hx hb (by omega) (by omega) dX4_pin_12 (by decide) (fun c_2 => ?_) (fun c_2 => ?_)
    · refine lv_aload_n hx hb dX4_pin_25 rfl (lv_at hl 0 rfl) ?_
      refine lv_iload_n hx hb dX4_pin_26 rfl (lv_at hl 2 rfl) ?_
      refine bm_vcallV (As := [.int (nI zB)]) (rest := []) ⟨hx, hb, hml, hown, hts⟩ (X_needY  (zp := zB) ok_pa_n (by omega)) (cwV 1 hts gvX4_86 rfl rfl rfl hvX4_needPart ⟨Nat.le_of_ble_eq_true rfl, Nat.le_of_ble_eq_true rfl⟩) hK hP 0 4 rfl ww_0 rfl hl.1 rfl (Nat.le_of_ble_eq_true rfl) dX4_pin_27 ⟨Nat.le_of_ble_eq_true rfl, Nat.le_of_ble_eq_true rfl⟩ ?_
      refine lv_lload_n hx hb dX4_pin_30 rfl (lv_at hl 3 rfl) ?_
      refine lv_lconst (v := 0) hx hb dX4_pin_31 (by decide) ?_
      refine bm_lc_lt (x := zC) (y := 0) (tgt := 72) hx hb dX4_pin_32 dX4_pin_33 (by decide) (fun c_3 => ?_) (fun c_3 => ?_)
      · exact absurd hv (by simp [q_in, c_3])
      · refine lv_lload_n hx hb dX4_pin_36 rfl (lv_at hl 3 rfl) ?_
        refine lv_aload_n hx hb dX4_pin_37 rfl (lv_at hl 0 rfl) ?_
        refine va_get (D := D) (ci := 4) (v := .ref (ad 1)) (C := RX4) (T := TX4) (N := 10) hx hb hts (inT inX4) hown hK hP 0 ww_0 rfl 2 (by decide) (hts (.fieldLink RX4 12 "BoardMoves" "parts" "LBoardMoves$Parts;") (List.mem_cons_of_mem _ flX4_12)) (fun _ h9 => h9) rfl dX4_pin_38 ?_
        refine va_get (D := D) (ci := 1) (v := .ref (ad 2)) (C := RX1) (T := TX1) (N := 7) hx hb hts (inT inX1) hown hK hP 1 ww_1 rfl 0 (by decide) (hts (.fieldLink RX4 148 "BoardMoves$Parts" "w" "[J") (List.mem_cons_of_mem _ flX4_148)) (fun _ h9 => h9) rfl dX4_pin_41 ?_
        refine lv_iload_n hx hb dX4_pin_44 rfl (lv_at hl 2 rfl) ?_
        refine bm_lald (f := pa.1) hx hb hK hP 2 0 ww_2 rfl (j := zB) (by omega) (by decide) dX4_pin_45 ?_
        refine bm_lc_gt (x := zC) (y := (pa.1 zB)) (tgt := 72) hx hb dX4_pin_46 dX4_pin_47 (by decide) (fun c_4 => ?_) (fun c_4 => ?_)
        · exact absurd hv (by simp [q_in, c_4])
        · refine lv_lload hx hb dX4_pin_50 (lv_at hl 4 rfl) ?_
          refine lv_lconst (v := 0) hx hb dX4_pin_52 (by decide) ?_
          refine bm_lc_lt (x := zD) (y := 0) (tgt := 72) hx hb dX4_pin_53 dX4_pin_54 (by decide) (fun c_5 => ?_) (fun c_5 => ?_)
          · exact absurd hv (by simp [q_in, c_5])
          · refine lv_lload hx hb dX4_pin_57 (lv_at hl 4 rfl) ?_
            refine lv_aload_n hx hb dX4_pin_59 rfl (lv_at hl 0 rfl) ?_
            refine va_get (D := D) (ci := 4) (v := .ref (ad 1)) (C := RX4) (T := TX4) (N := 10) hx hb hts (inT inX4) hown hK hP 0 ww_0 rfl 2 (by decide) (hts (.fieldLink RX4 12 "BoardMoves" "parts" "LBoardMoves$Parts;") (List.mem_cons_of_mem _ flX4_12)) (fun _ h9 => h9) rfl dX4_pin_60 ?_
            refine va_get (D := D) (ci := 1) (v := .ref (ad 3)) (C := RX1) (T := TX1) (N := 7) hx hb hts (inT inX1) hown hK hP 1 ww_1 rfl 1 (by decide) (hts (.fieldLink RX4 151 "BoardMoves$Parts" "h" "[J") (List.mem_cons_of_mem _ flX4_151)) (fun _ h9 => h9) rfl dX4_pin_63 ?_
            refine lv_iload_n hx hb dX4_pin_66 rfl (lv_at hl 2 rfl) ?_
            refine bm_lald (f := pa.2.1) hx hb hK hP 3 0 ww_3 rfl (j := zB) (by omega) (by decide) dX4_pin_67 ?_
            refine bm_lc_le (x := zD) (y := (pa.2.1 zB)) (tgt := 82) hx hb dX4_pin_68 dX4_pin_69 (by decide) (fun c_6 => ?_) (fun c_6 => ?_)
            · refine lv_aload_n hx hb dX4_pin_82 rfl (lv_at hl 0 rfl) ?_
              refine va_get (D := D) (ci := 4) (v := .ref (ad 32)) (C := RX4) (T := TX4) (N := 10) hx hb hts (inT inX4) hown hK hP 0 ww_0 rfl 4 (by decide) (hts (.fieldLink RX4 30 "BoardMoves" "wiring" "LBoardMoves$Wiring;") (List.mem_cons_of_mem _ flX4_30)) (fun _ h9 => h9) rfl dX4_pin_83 ?_
              refine lv_iload_n hx hb dX4_pin_86 rfl (lv_at hl 1 rfl) ?_
              refine lv_iload_n hx hb dX4_pin_87 rfl (lv_at hl 2 rfl) ?_
              refine lv_lload_n hx hb dX4_pin_88 rfl (lv_at hl 3 rfl) ?_
              refine lv_lload hx hb dX4_pin_89 (lv_at hl 4 rfl) ?_
              refine bm_xcallV (As := [.int (nI zA), .int (nI zB), .long zC, .long zD]) (rest := []) ⟨hx, hb, hml, hown, hts⟩ (x_addPin2  (za := zA) (zb := zB) (z1 := zC) (z2 := zD) ok_wi_pins ok_wi_netOf ok_wi_partOf (by omega) (by omega) hq) (cwV 4 hts gvX4_156 rfl rfl rfl hvX3_addPin ⟨Nat.le_of_ble_eq_true rfl, Nat.le_of_ble_eq_true rfl⟩) hK hP hD hS hA 32 3 rfl ww_32 rfl hl.1 rfl (Nat.le_of_ble_eq_true rfl) dX4_pin_91 ⟨Nat.le_of_ble_eq_true rfl, Nat.le_of_ble_eq_true rfl⟩ (fun ws_7 r_8 h_9 H locs hP hD hS => ?_)
              obtain ⟨rfl, rfl⟩ := h_9
              have hP : va_P D vwCl (WW ad cJ cI cZ bm pa p0 p1 p2 li wi mt ms ma mp mk mn ou) H := hP
              have hD : va_D A (WW ad cJ cI cZ bm pa p0 p1 p2 li wi mt ms ma mp mk mn ou) := hD
              refine bm_zb_ne (x := false) (tgt := 99) hx hb dX4_pin_94 (by decide) (fun c_10 => ?_) (fun c_10 => ?_)
              · exact absurd c_10 (by decide)
              · refine lv_iconst (v := bm_b false) hx hb dX4_pin_97 (by decide) ?_
                exact bm_zretX (v := false) hx hb hr hP hD hK hS ⟨bm, pa, p0, p1, p2, li, wi, ou, ⟨ok_pa_n, ok_pa_side, ok_pa_lowest, ok_p0_turn, ok_p1_turn, ok_p2_turn, ok_li_one, ok_li_other, ok_li_keepOuts, ok_li_nears, ok_wi_netOf, ok_wi_partOf, ok_wi_nets, ok_wi_pins, hw, hh⟩, rfl, rfl, rfl⟩ dX4_pin_98 hlocks
            · exact absurd hv (by simp [q_in, c_6])
    · exact absurd hk_zA c_2

set_option maxHeartbeats 16000000 in
set_option maxRecDepth 100000 in
theorem E_pin4 {l : Launch} (hlt : l.stackTraces = false) {D : va_G} {ad : Nat → Nat} {cJ cI cZ : ClassId} {bm : gBM} {pa : gPA} {p0 p1 p2 : gPL} {li : gLI} {wi : gWI} {mt : Nat} {ms : gMS} {ma : gMA} {mp : gMP} {mk : gMK} {mn : gMN} {ou : Nat → Int64} (hok : okC bm pa p0 p1 p2 li wi) {zA zB : Nat} {zC zD : Int64} (hk_zA : zA < wi.2.2.2.2.2.2.2.2.2.1) (hk_zB : zB < pa.2.2.2.2.2.2) (hv : q_in zC (pa.1 zB) zD (pa.2.1 zB) = true) (hq : wi.2.2.2.2.2.2.2.2.2.2 = 120) (sz : Nat) : Met l yL_pin wsL_pin ({ frames := 2, cells := 1, slots := 6, locals := 52 }) (bx_Hn D vwCl [(cJ, .long), (cI, .int), (cZ, .boolean)] (WW ad cJ cI cZ bm pa p0 p1 p2 li wi mt ms ma mp mk mn ou) [.ref (ad 0), .int (nI zA), .int (nI zB), .long zC, .long zD, .ref (ad 62)] sz) (bm_Wxq D vwCl [(cJ, .long), (cI, .int), (cZ, .boolean)] (fun ws9 r9 => ∃ (bm9 : gBM) (pa9 : gPA) (p09 p19 p29 : gPL) (li9 : gLI) (wi9 : gWI) (ou9 : Nat → Int64), okC bm9 pa9 p09 p19 p29 li9 wi9 ∧ (pa9.2.2.2.2.2.2, pa9.1, pa9.2.1, wi9.2.2.2.2.2.2.2.2.2.1, wi9.2.2.2.2.2.2.2.2.2.2) = (pa.2.2.2.2.2.2, pa.1, pa.2.1, wi.2.2.2.2.2.2.2.2.2.1, wi.2.2.2.2.2.2.2.2.2.2) ∧ ou9 0 = 0 ∧ ws9 = WW ad cJ cI cZ bm9 pa9 p09 p19 p29 li9 wi9 mt ms ma mp mk mn ou9 ∧ r9 = some (.int (nI 0))) (va_A (WW ad cJ cI cZ bm pa p0 p1 p2 li wi mt ms ma mp mk mn ou) sz)) 1 6 (va_A (WW ad cJ cI cZ bm pa p0 p1 p2 li wi mt ms ma mp mk mn ou) sz) := by
  have hok9 := hok
  obtain ⟨ok_pa_n, ok_pa_side, ok_pa_lowest, ok_p0_turn, ok_p1_turn, ok_p2_turn, ok_li_one, ok_li_other, ok_li_keepOuts, ok_li_nears, ok_wi_netOf, ok_wi_partOf, ok_wi_nets, ok_wi_pins, hw, hh⟩ := hok9
  refine bx_ofWH (cc := cL_pin) (maxL := 9) (ret := (some .int)) (hs := [(0, 21, 24, 19), (0, 21, 28, 13)]) (by decide) rfl ?_
  intro p e s m args below meth c s₁ B hml htab hv9
  obtain ⟨⟨ha, hsz, hP, hK, hD0, hX, hZ⟩, hN1, hN2⟩ := hv9
  have hx := B.exec
  have hb := B.bytes
  have hr := B.returns
  have hts := atoms_spec (ws := wsL_pin) B.pre
  have hown : s.vm.findClass RL = some m.cls := findClass_of_methodNamed B.named
  have hlocks := B.notSynchronized
  subst hsz
  have hD := hD0.self (sz := s.heap.size)
  generalize hAe : va_A (WW ad cJ cI cZ bm pa p0 p1 p2 li wi mt ms ma mp mk mn ou) s.heap.size = A at hD ⊢
  have hA : ∀ q : Nat, s.heap.size ≤ q → A q := fun q h => by rw [← hAe]; exact Or.inr h
  have hS : va_S A s.heap s.heap [] := va_S.rf
  have hl := lv_entry ([.ref (ad 0), .int (nI zA), .int (nI zB), .long zC, .long zD, .ref (ad 62)]) (n := 9) (Nat.le_of_ble_eq_true rfl)
  refine W.eq (g2 := entryFrame m ([.ref (ad 0), .int (nI zA), .int (nI zB), .long zC, .long zD, .ref (ad 62)] : List Value).toArray 9) (by rw [ha]) ?_
  rw [lg_entry_eq]
  generalize (lg_sl ([.ref (ad 0), .int (nI zA), .int (nI zB), .long zC, .long zD, .ref (ad 62)]) ++ List.replicate (9 - (lg_sl ([.ref (ad 0), .int (nI zA), .int (nI zB), .long zC, .long zD, .ref (ad 62)])).length) Slot.unset).toArray = ls at hl ⊢
  have hl : lv_has ls 9 [(0, .ref (ad 0)), (1, .int (nI zA)), (2, .int (nI zB)), (3, .long zC), (5, .long zD), (7, .ref (ad 62))] := hl
  refine lv_aload hx hb dL_pin_0 (lv_at hl 5 rfl) ?_
  refine lv_iconst (v := nI 0) hx hb dL_pin_2 (by decide) ?_
  refine lv_aload_n hx hb dL_pin_3 rfl (lv_at hl 0 rfl) ?_
  refine lv_iload_n hx hb dL_pin_4 rfl (lv_at hl 1 rfl) ?_
  refine lv_iload_n hx hb dL_pin_5 rfl (lv_at hl 2 rfl) ?_
  refine lv_lload_n hx hb dL_pin_6 rfl (lv_at hl 3 rfl) ?_
  refine lv_lload hx hb dL_pin_7 (lv_at hl 4 rfl) ?_
  refine bm_xcallV (As := [.int (nI zA), .int (nI zB), .long zC, .long zD]) (rest := [.int (nI 0), .ref (ad 62)]) ⟨hx, hb, hml, hown, hts⟩ (Z_pin4  hok hk_zA hk_zB hv hq) (cwV 4 hts gwL_25 rfl rfl rfl hvX4_pin ⟨Nat.le_of_ble_eq_true rfl, Nat.le_of_ble_eq_true rfl⟩) hK hP hD hS hA 0 4 rfl ww_0 rfl hl.1 rfl (Nat.le_of_ble_eq_true rfl) dL_pin_9 ⟨Nat.le_of_ble_eq_true rfl, Nat.le_of_ble_eq_true rfl⟩ (fun ws_1 r_2 h_3 H locs hP hD hS => ?_)
  obtain ⟨bmn_4, pan_5, p0n_6, p1n_7, p2n_8, lin_9, win_10, oun_11, okn_12, hnn_13, rfl, rfl⟩ := h_3
  have hP : va_P D vwCl (WW ad cJ cI cZ bmn_4 pan_5 p0n_6 p1n_7 p2n_8 lin_9 win_10 mt ms ma mp mk mn oun_11) H := hP
  have hD : va_D A (WW ad cJ cI cZ bmn_4 pan_5 p0n_6 p1n_7 p2n_8 lin_9 win_10 mt ms ma mp mk mn oun_11) := hD
  refine bm_zb_eq (x := false) (tgt := 19) hx hb dL_pin_12 (by decide) (fun c_15 => ?_) (fun c_15 => ?_)
  · refine lv_lconst (v := 0) hx hb dL_pin_19 (by decide) ?_
    refine bm_last (f := oun_11) hx hb hK hP hD hS 62 0 ww_62 rfl (j := 0) (x := 0) (by omega) (by decide) dL_pin_20 (fun H locs hP hD hS => ?_)
    have hP : va_P D vwCl (WW ad cJ cI cZ bmn_4 pan_5 p0n_6 p1n_7 p2n_8 lin_9 win_10 mt ms ma mp mk mn (va_up oun_11 0 0)) H := hP
    have hD : va_D A (WW ad cJ cI cZ bmn_4 pan_5 p0n_6 p1n_7 p2n_8 lin_9 win_10 mt ms ma mp mk mn (va_up oun_11 0 0)) := hD
    refine lv_goto (tgt := 32) hx hb dL_pin_21 (by decide) ?_
    refine lv_iconst (v := nI 0) hx hb dL_pin_32 (by decide) ?_
    refine W.widen (k := 1) (n := 6) (by decide) (by decide) ?_
    exact bm_iretX (v := nI 0) hx hb hr hP hD hK hS ⟨bmn_4, pan_5, p0n_6, p1n_7, p2n_8, lin_9, win_10, (va_up oun_11 0 0), okn_12, hnn_13, (by simp [va_up]), rfl, rfl⟩ dL_pin_33 hlocks
  · exact absurd c_15 (by decide)

set_option maxHeartbeats 16000000 in
set_option maxRecDepth 100000 in
theorem E_pinX {l : Launch} (hlt : l.stackTraces = false) {D : va_G} {ad : Nat → Nat} {cJ cI cZ : ClassId} {bm : gBM} {pa : gPA} {p0 p1 p2 : gPL} {li : gLI} {wi : gWI} {mt : Nat} {ms : gMS} {ma : gMA} {mp : gMP} {mk : gMK} {mn : gMN} {ou : Nat → Int64} (hok : okC bm pa p0 p1 p2 li wi) {zA zB : Nat} {zC zD : Int64} (hk_zA : zA < wi.2.2.2.2.2.2.2.2.2.1) (hk_zB : zB < pa.2.2.2.2.2.2) (hv : q_in zC (pa.1 zB) zD (pa.2.1 zB) = false) (sz : Nat) : Met l yL_pin wsL_pin ({ frames := 7, cells := 1, slots := 6, locals := 127 }) (bx_Hn D vwCl [(cJ, .long), (cI, .int), (cZ, .boolean)] (WW ad cJ cI cZ bm pa p0 p1 p2 li wi mt ms ma mp mk mn ou) [.ref (ad 0), .int (nI zA), .int (nI zB), .long zC, .long zD, .ref (ad 62)] sz) (bm_Wxq D vwCl [(cJ, .long), (cI, .int), (cZ, .boolean)] (fun ws9 r9 => ∃ (bm9 : gBM) (pa9 : gPA) (p09 p19 p29 : gPL) (li9 : gLI) (wi9 : gWI) (ou9 : Nat → Int64), okC bm9 pa9 p09 p19 p29 li9 wi9 ∧ (pa9.2.2.2.2.2.2, pa9.1, pa9.2.1, wi9.2.2.2.2.2.2.2.2.2.1, wi9.2.2.2.2.2.2.2.2.2.2) = (pa.2.2.2.2.2.2, pa.1, pa.2.1, wi.2.2.2.2.2.2.2.2.2.1, wi.2.2.2.2.2.2.2.2.2.2) ∧ ws9 = WW ad cJ cI cZ bm9 pa9 p09 p19 p29 li9 wi9 mt ms ma mp mk mn ou9 ∧ r9 = some (.int (nI 2))) (va_A (WW ad cJ cI cZ bm pa p0 p1 p2 li wi mt ms ma mp mk mn ou) sz)) 1 6 (va_A (WW ad cJ cI cZ bm pa p0 p1 p2 li wi mt ms ma mp mk mn ou) sz) := by
  have hok9 := hok
  obtain ⟨ok_pa_n, ok_pa_side, ok_pa_lowest, ok_p0_turn, ok_p1_turn, ok_p2_turn, ok_li_one, ok_li_other, ok_li_keepOuts, ok_li_nears, ok_wi_netOf, ok_wi_partOf, ok_wi_nets, ok_wi_pins, hw, hh⟩ := hok9
  refine bx_ofWH (cc := cL_pin) (maxL := 9) (ret := (some .int)) (hs := [(0, 21, 24, 19), (0, 21, 28, 13)]) (by decide) rfl ?_
  intro p e s m args below meth c s₁ B hml htab hv9
  obtain ⟨⟨ha, hsz, hP, hK, hD0, hX, hZ⟩, hN1, hN2⟩ := hv9
  have hx := B.exec
  have hb := B.bytes
  have hr := B.returns
  have hts := atoms_spec (ws := wsL_pin) B.pre
  have hown : s.vm.findClass RL = some m.cls := findClass_of_methodNamed B.named
  have hlocks := B.notSynchronized
  subst hsz
  have hD := hD0.self (sz := s.heap.size)
  generalize hAe : va_A (WW ad cJ cI cZ bm pa p0 p1 p2 li wi mt ms ma mp mk mn ou) s.heap.size = A at hD ⊢
  have hA : ∀ q : Nat, s.heap.size ≤ q → A q := fun q h => by rw [← hAe]; exact Or.inr h
  have hS : va_S A s.heap s.heap [] := va_S.rf
  have hl := lv_entry ([.ref (ad 0), .int (nI zA), .int (nI zB), .long zC, .long zD, .ref (ad 62)]) (n := 9) (Nat.le_of_ble_eq_true rfl)
  refine W.eq (g2 := entryFrame m ([.ref (ad 0), .int (nI zA), .int (nI zB), .long zC, .long zD, .ref (ad 62)] : List Value).toArray 9) (by rw [ha]) ?_
  rw [lg_entry_eq]
  generalize (lg_sl ([.ref (ad 0), .int (nI zA), .int (nI zB), .long zC, .long zD, .ref (ad 62)]) ++ List.replicate (9 - (lg_sl ([.ref (ad 0), .int (nI zA), .int (nI zB), .long zC, .long zD, .ref (ad 62)])).length) Slot.unset).toArray = ls at hl ⊢
  have hl : lv_has ls 9 [(0, .ref (ad 0)), (1, .int (nI zA)), (2, .int (nI zB)), (3, .long zC), (5, .long zD), (7, .ref (ad 62))] := hl
  refine lv_aload hx hb dL_pin_0 (lv_at hl 5 rfl) ?_
  refine lv_iconst (v := nI 0) hx hb dL_pin_2 (by decide) ?_
  refine lv_aload_n hx hb dL_pin_3 rfl (lv_at hl 0 rfl) ?_
  refine lv_iload_n hx hb dL_pin_4 rfl (lv_at hl 1 rfl) ?_
  refine lv_iload_n hx hb dL_pin_5 rfl (lv_at hl 2 rfl) ?_
  refine lv_lload_n hx hb dL_pin_6 rfl (lv_at hl 3 rfl) ?_
  refine lv_lload hx hb dL_pin_7 (lv_at hl 4 rfl) ?_
  refine bx_catch2 (name0 := "java/lang/IndexOutOfBoundsException") (name := "java/lang/IllegalArgumentException") (bx_tcallV (As := [.int (nI zA), .int (nI zB), .long zC, .long zD]) (rest := [.int (nI 0), .ref (ad 62)]) ⟨hx, hb, hml, hown, hts⟩ (X_pin3 hlt ok_pa_n ok_wi_nets hk_zA hk_zB hv) (cwV 4 hts gwL_25 rfl rfl rfl hvX4_pin ⟨Nat.le_of_ble_eq_true rfl, Nat.le_of_ble_eq_true rfl⟩) hK hP hX hZ 0 4 rfl ww_0 rfl hl.1 rfl (Nat.le_of_ble_eq_true rfl) dL_pin_9 ⟨Nat.le_of_ble_eq_true rfl, Nat.le_of_ble_eq_true rfl⟩) hown htab (by decide) (by decide) (by decide) (by decide) (hts (.classLink RL 19 "java/lang/IndexOutOfBoundsException") (by decide +kernel)) hN1 (hts (.classLink RL 13 "java/lang/IllegalArgumentException") (by decide +kernel)) (hX (.castable "java/lang/IllegalArgumentException" "java/lang/IllegalArgumentException") (by decide +kernel) _) (fun q9 H hz hh => ?_)
  have hP := bx_keepP hP hh
  have hS := bx_keepS hS hz hh
  refine lv_astore (lv' := [(8, .ref q9), (0, .ref (ad 0)), (1, .int (nI zA)), (2, .int (nI zB)), (3, .long zC), (5, .long zD), (7, .ref (ad 62))]) hx hb dL_pin_28 hl (by decide) rfl (fun ls hl => ?_)
  refine lv_iconst (v := nI 2) hx hb dL_pin_30 (by decide) ?_
  exact bm_iretX (v := nI 2) hx hb hr hP hD hK hS ⟨bm, pa, p0, p1, p2, li, wi, ou, hok, rfl, rfl, rfl⟩ dL_pin_31 hlocks
