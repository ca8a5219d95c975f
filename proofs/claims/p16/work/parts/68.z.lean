set_option maxHeartbeats 16000000 in
set_option maxRecDepth 100000 in
theorem Z_lock {l : Launch} {D : va_G} {ad : Nat → Nat} {cJ cI cZ : ClassId} {bm : gBM} {pa : gPA} {p0 p1 p2 : gPL} {li : gLI} {wi : gWI} {mt : Nat} {ms : gMS} {ma : gMA} {mp : gMP} {mk : gMK} {mn : gMN} {ou : Nat → Int64} {zA : Nat} {zB : Bool} (hok : okC bm pa p0 p1 p2 li wi) (hk_zA : zA < pa.2.2.2.2.2.2) : bm_Wx l yX4_lock wsX4_lock ({ frames := 1, cells := 0, slots := 0, locals := 21 }) D vwCl [(cJ, .long), (cI, .int), (cZ, .boolean)] (WW ad cJ cI cZ bm pa p0 p1 p2 li wi mt ms ma mp mk mn ou) [.ref (ad 0), .int (nI zA), .int (bm_b zB)] (PCZ ad cJ cI cZ bm pa p0 p1 p2 li wi mt ms ma mp mk mn ou) := by
  obtain ⟨ok_pa_n, ok_pa_side, ok_pa_lowest, ok_p0_turn, ok_p1_turn, ok_p2_turn, ok_li_one, ok_li_other, ok_li_keepOuts, ok_li_nears, ok_wi_netOf, ok_wi_partOf, ok_wi_nets, ok_wi_pins, hw, hh, hI⟩ := hok
  intro sz
  refine Met.ofW (cc := cX4_lock) (maxL := 4) (ret := (some .boolean)) (by decide) rfl ?_
  intro p e s m args below meth c s₁ B hml hv
  obtain ⟨ha, hsz, hP, hK, hD0⟩ := hv
  have hx := B.exec
  have hb := B.bytes
  have hr := B.returns
  have hts := atoms_spec (ws := wsX4_lock) B.pre
  have hown : s.vm.findClass RX4 = some m.cls := findClass_of_methodNamed B.named
  have hlocks := B.notSynchronized
  subst hsz
  have hD := hD0.self (sz := s.heap.size)
  generalize hAe : va_A (WW ad cJ cI cZ bm pa p0 p1 p2 li wi mt ms ma mp mk mn ou) s.heap.size = A at hD ⊢
  have hA : ∀ q : Nat, s.heap.size ≤ q → A q := fun q h => by rw [← hAe]; exact Or.inr h
  have hS : va_S A s.heap s.heap [] := va_S.rf
  have hl := lv_entry ([.ref (ad 0), .int (nI zA), .int (bm_b zB)]) (n := 4) (Nat.le_of_ble_eq_true rfl)
  refine W.eq (g2 := entryFrame m ([.ref (ad 0), .int (nI zA), .int (bm_b zB)] : List Value).toArray 4) (by rw [ha]) ?_
  rw [lg_entry_eq]
  generalize (lg_sl ([.ref (ad 0), .int (nI zA), .int (bm_b zB)]) ++ List.replicate (4 - (lg_sl ([.ref (ad 0), .int (nI zA), .int (bm_b zB)])).length) Slot.unset).toArray = ls at hl ⊢
  have hl : lv_has ls 4 [(0, .ref (ad 0)), (1, .int (nI zA)), (2, .int (bm_b zB))] := hl
  refine lv_aload_n hx hb dX4_lock_0 rfl (lv_at hl 0 rfl) ?_
  refine lv_iload_n hx hb dX4_lock_1 rfl (lv_at hl 1 rfl) ?_
  refine bm_vcallV (As := [.int (nI zA)]) (rest := []) ⟨hx, hb, hml, hown, hts⟩ (X_needY  (zp := zA) ok_pa_n (by omega)) (cwV 1 hts gvX4_86 rfl rfl rfl hvX4_needPart ⟨Nat.le_of_ble_eq_true rfl, Nat.le_of_ble_eq_true rfl⟩) hK hP 0 4 rfl ww_0 rfl hl.1 rfl (Nat.le_of_ble_eq_true rfl) dX4_lock_2 ⟨Nat.le_of_ble_eq_true rfl, Nat.le_of_ble_eq_true rfl⟩ ?_
  refine lv_aload_n hx hb dX4_lock_5 rfl (lv_at hl 0 rfl) ?_
  refine va_get (D := D) (ci := 4) (v := .ref (ad 1)) (C := RX4) (T := TX4) (N := 10) hx hb hts (inT inX4) hown hK hP 0 ww_0 rfl 2 (by decide) (hts (.fieldLink RX4 12 "BoardMoves" "parts" "LBoardMoves$Parts;") (List.mem_cons_of_mem _ flX4_12)) (fun _ h9 => h9) rfl dX4_lock_6 ?_
  refine va_get (D := D) (ci := 1) (v := .ref (ad 6)) (C := RX1) (T := TX1) (N := 7) hx hb hts (inT inX1) hown hK hP 1 ww_1 rfl 4 (by decide) (hts (.fieldLink RX4 132 "BoardMoves$Parts" "locked" "[Z") (List.mem_cons_of_mem _ flX4_132)) (fun _ h9 => h9) rfl dX4_lock_9 ?_
  refine lv_iload_n hx hb dX4_lock_12 rfl (lv_at hl 1 rfl) ?_
  refine bm_zald (f := pa.2.2.2.2.1) hx hb hK hP 6 2 ww_6 rfl (j := zA) (by omega) (by decide) dX4_lock_13 ?_
  refine lv_iload_n hx hb dX4_lock_14 rfl (lv_at hl 2 rfl) ?_
  refine bm_bb_eq (x := (pa.2.2.2.2.1 zA)) (y := zB) (tgt := 22) hx hb dX4_lock_15 (by decide) (fun c_1 => ?_) (fun c_1 => ?_)
  · refine lv_iconst (v := bm_b false) hx hb dX4_lock_22 (by decide) ?_
    refine lv_istore_n (lv' := [(3, .int (bm_b false)), (0, .ref (ad 0)), (1, .int (nI zA)), (2, .int (bm_b zB))]) hx hb dX4_lock_23 rfl hl (by decide) rfl (fun ls hl => ?_)
    refine lv_aload_n hx hb dX4_lock_24 rfl (lv_at hl 1 rfl) ?_
    refine va_get (D := D) (ci := 4) (v := .ref (ad 1)) (C := RX4) (T := TX4) (N := 10) hx hb hts (inT inX4) hown hK hP 0 ww_0 rfl 2 (by decide) (hts (.fieldLink RX4 12 "BoardMoves" "parts" "LBoardMoves$Parts;") (List.mem_cons_of_mem _ flX4_12)) (fun _ h9 => h9) rfl dX4_lock_25 ?_
    refine va_get (D := D) (ci := 1) (v := .ref (ad 6)) (C := RX1) (T := TX1) (N := 7) hx hb hts (inT inX1) hown hK hP 1 ww_1 rfl 4 (by decide) (hts (.fieldLink RX4 132 "BoardMoves$Parts" "locked" "[Z") (List.mem_cons_of_mem _ flX4_132)) (fun _ h9 => h9) rfl dX4_lock_28 ?_
    refine lv_iload_n hx hb dX4_lock_31 rfl (lv_at hl 2 rfl) ?_
    refine lv_iload_n hx hb dX4_lock_32 rfl (lv_at hl 3 rfl) ?_
    refine bm_zast (f := pa.2.2.2.2.1) hx hb hK hP hD hS 6 2 ww_6 rfl (j := zA) (x := zB) (by omega) (by decide) dX4_lock_33 (fun H locs hP hD hS => ?_)
    have hP : va_P D vwCl (WW ad cJ cI cZ bm (pa.1, pa.2.1, pa.2.2.1, pa.2.2.2.1, va_up pa.2.2.2.2.1 zA zB, pa.2.2.2.2.2.1, pa.2.2.2.2.2.2) p0 p1 p2 li wi mt ms ma mp mk mn ou) H := hP
    have hD : va_D A (WW ad cJ cI cZ bm (pa.1, pa.2.1, pa.2.2.1, pa.2.2.2.1, va_up pa.2.2.2.2.1 zA zB, pa.2.2.2.2.2.1, pa.2.2.2.2.2.2) p0 p1 p2 li wi mt ms ma mp mk mn ou) := hD
    refine lv_iload_n hx hb dX4_lock_34 rfl (lv_at hl 0 rfl) ?_
    exact bm_zretX (v := false) hx hb hr hP hD hK hS ⟨bm, (pa.1, pa.2.1, pa.2.2.1, pa.2.2.2.1, va_up pa.2.2.2.2.1 zA zB, pa.2.2.2.2.2.1, pa.2.2.2.2.2.2), p0, p1, p2, li, wi, ou, ⟨ok_pa_n, ok_pa_side, ok_pa_lowest, ok_p0_turn, ok_p1_turn, ok_p2_turn, ok_li_one, ok_li_other, ok_li_keepOuts, ok_li_nears, ok_wi_netOf, ok_wi_partOf, ok_wi_nets, ok_wi_pins, hw, hh, (INV_to hI rfl rfl rfl rfl rfl rfl rfl)⟩, rfl, rfl, false, rfl⟩ dX4_lock_35 hlocks
  · refine lv_iconst (v := bm_b true) hx hb dX4_lock_18 (by decide) ?_
    refine lv_goto (tgt := 23) hx hb dX4_lock_19 (by decide) ?_
    refine lv_istore_n (lv' := [(3, .int (bm_b true)), (0, .ref (ad 0)), (1, .int (nI zA)), (2, .int (bm_b zB))]) hx hb dX4_lock_23 rfl hl (by decide) rfl (fun ls hl => ?_)
    refine lv_aload_n hx hb dX4_lock_24 rfl (lv_at hl 1 rfl) ?_
    refine va_get (D := D) (ci := 4) (v := .ref (ad 1)) (C := RX4) (T := TX4) (N := 10) hx hb hts (inT inX4) hown hK hP 0 ww_0 rfl 2 (by decide) (hts (.fieldLink RX4 12 "BoardMoves" "parts" "LBoardMoves$Parts;") (List.mem_cons_of_mem _ flX4_12)) (fun _ h9 => h9) rfl dX4_lock_25 ?_
    refine va_get (D := D) (ci := 1) (v := .ref (ad 6)) (C := RX1) (T := TX1) (N := 7) hx hb hts (inT inX1) hown hK hP 1 ww_1 rfl 4 (by decide) (hts (.fieldLink RX4 132 "BoardMoves$Parts" "locked" "[Z") (List.mem_cons_of_mem _ flX4_132)) (fun _ h9 => h9) rfl dX4_lock_28 ?_
    refine lv_iload_n hx hb dX4_lock_31 rfl (lv_at hl 2 rfl) ?_
    refine lv_iload_n hx hb dX4_lock_32 rfl (lv_at hl 3 rfl) ?_
    refine bm_zast (f := pa.2.2.2.2.1) hx hb hK hP hD hS 6 2 ww_6 rfl (j := zA) (x := zB) (by omega) (by decide) dX4_lock_33 (fun H locs hP hD hS => ?_)
    have hP : va_P D vwCl (WW ad cJ cI cZ bm (pa.1, pa.2.1, pa.2.2.1, pa.2.2.2.1, va_up pa.2.2.2.2.1 zA zB, pa.2.2.2.2.2.1, pa.2.2.2.2.2.2) p0 p1 p2 li wi mt ms ma mp mk mn ou) H := hP
    have hD : va_D A (WW ad cJ cI cZ bm (pa.1, pa.2.1, pa.2.2.1, pa.2.2.2.1, va_up pa.2.2.2.2.1 zA zB, pa.2.2.2.2.2.1, pa.2.2.2.2.2.2) p0 p1 p2 li wi mt ms ma mp mk mn ou) := hD
    refine lv_iload_n hx hb dX4_lock_34 rfl (lv_at hl 0 rfl) ?_
    exact bm_zretX (v := true) hx hb hr hP hD hK hS ⟨bm, (pa.1, pa.2.1, pa.2.2.1, pa.2.2.2.1, va_up pa.2.2.2.2.1 zA zB, pa.2.2.2.2.2.1, pa.2.2.2.2.2.2), p0, p1, p2, li, wi, ou, ⟨ok_pa_n, ok_pa_side, ok_pa_lowest, ok_p0_turn, ok_p1_turn, ok_p2_turn, ok_li_one, ok_li_other, ok_li_keepOuts, ok_li_nears, ok_wi_netOf, ok_wi_partOf, ok_wi_nets, ok_wi_pins, hw, hh, (INV_to hI rfl rfl rfl rfl rfl rfl rfl)⟩, rfl, rfl, true, rfl⟩ dX4_lock_35 hlocks

set_option maxHeartbeats 16000000 in
set_option maxRecDepth 100000 in
theorem Z_pin {l : Launch} {D : va_G} {ad : Nat → Nat} {cJ cI cZ : ClassId} {bm : gBM} {pa : gPA} {p0 p1 p2 : gPL} {li : gLI} {wi : gWI} {mt : Nat} {ms : gMS} {ma : gMA} {mp : gMP} {mk : gMK} {mn : gMN} {ou : Nat → Int64} {zA : Nat} {zB : Nat} {zC : Int64} {zD : Int64} (hok : okC bm pa p0 p1 p2 li wi) (hk_zA : zA < wi.2.2.2.2.2.2.2.2.2.1) (hk_zB : zB < pa.2.2.2.2.2.2) (hv : q_in zC (pa.1 zB) zD (pa.2.1 zB) = true) : bm_Wx l yX4_pin wsX4_pin ({ frames := 3, cells := 0, slots := 0, locals := 74 }) D vwCl [(cJ, .long), (cI, .int), (cZ, .boolean)] (WW ad cJ cI cZ bm pa p0 p1 p2 li wi mt ms ma mp mk mn ou) [.ref (ad 0), .int (nI zA), .int (nI zB), .long zC, .long zD] (PCZ ad cJ cI cZ bm pa p0 p1 p2 li wi mt ms ma mp mk mn ou) := by
  obtain ⟨ok_pa_n, ok_pa_side, ok_pa_lowest, ok_p0_turn, ok_p1_turn, ok_p2_turn, ok_li_one, ok_li_other, ok_li_keepOuts, ok_li_nears, ok_wi_netOf, ok_wi_partOf, ok_wi_nets, ok_wi_pins, hw, hh, hI⟩ := hok
  intro sz
  refine Met.ofW (cc := cX4_pin) (maxL := 7) (ret := (some .boolean)) (by decide) rfl ?_
  intro p e s m args below meth c s₁ B hml hv
  obtain ⟨ha, hsz, hP, hK, hD0⟩ := hv
  have hx := B.exec
  have hb := B.bytes
  have hr := B.returns
  have hts := atoms_spec (ws := wsX4_pin) B.pre
  have hown : s.vm.findClass RX4 = some m.cls := findClass_of_methodNamed B.named
  have hlocks := B.notSynchronized
  subst hsz
  have hD := hD0.self (sz := s.heap.size)
  generalize hAe : va_A (WW ad cJ cI cZ bm pa p0 p1 p2 li wi mt ms ma mp mk mn ou) s.heap.size = A at hD ⊢
  have hA : ∀ q : Nat, s.heap.size ≤ q → A q := fun q h => by rw [← hAe]; exact Or.inr h
  have hS : va_S A s.heap s.heap [] := va_S.rf
  have hl := lv_entry ([.ref (ad 0), .int (nI zA), .int (nI zB), .long zC, .long zD]) (n := 7) (Nat.le_of_ble_eq_true rfl)
  refine W.eq (g2 := entryFrame m ([.ref (ad 0), .int (nI zA), .int (nI zB), .long zC, .long zD] : List Value).toArray 7) (by rw [ha]) ?_
  rw [lg_entry_eq]
  generalize (lg_sl ([.ref (ad 0), .int (nI zA), .int (nI zB), .long zC, .long zD]) ++ List.replicate (7 - (lg_sl ([.ref (ad 0), .int (nI zA), .int (nI zB), .long zC, .long zD])).length) Slot.unset).toArray = ls at hl ⊢
  have hl : lv_has ls 7 [(0, .ref (ad 0)), (1, .int (nI zA)), (2, .int (nI zB)), (3, .long zC), (5, .long zD)] := hl
  refine lv_iload_n hx hb dX4_pin_0 rfl (lv_at hl 1 rfl) ?_
  refine lv_if_lt (x := (nI zA)) (tgt := 15) hx hb dX4_pin_1 (by decide) (fun c_1 => ?_) (fun c_1 => ?_)
  · exact absurd c_1 (bx_nn (by omega))
  · refine lv_iload_n hx hb dX4_pin_4 rfl (lv_at hl 1 rfl) ?_
    refine lv_aload_n hx hb dX4_pin_5 rfl (lv_at hl 0 rfl) ?_
    refine va_get (D := D) (ci := 4) (v := .ref (ad 32)) (C := RX4) (T := TX4) (N := 10) hx hb hts (inT inX4) hown hK hP 0 ww_0 rfl 4 (by decide) (hts (.fieldLink RX4 30 "BoardMoves" "wiring" "LBoardMoves$Wiring;") (List.mem_cons_of_mem _ flX4_30)) (fun _ h9 => h9) rfl dX4_pin_6 ?_
    refine va_get (D := D) (ci := 3) (v := .int (nI wi.2.2.2.2.2.2.2.2.2.1)) (C := RX3) (T := TX3) (N := 12) hx hb hts (inT inX3) hown hK hP 32 ww_32 rfl 10 (by decide) (hts (.fieldLink RX4 139 "BoardMoves$Wiring" "nets" "I") (List.mem_cons_of_mem _ flX4_139)) (fun _ h9 => h9) rfl dX4_pin_9 ?_
    refine bm_ni_lt (x := zA) (y := wi.2.2.2.2.2.2.2.2.2.1) (tgt := 25) hx hb (by omega) (by omega) dX4_pin_12 (by decide) (fun c_2 => ?_) (fun c_2 => ?_)
    · refine lv_aload_n hx hb dX4_pin_25 rfl (lv_at hl 0 rfl) ?_
      refine lv_iload_n hx hb dX4_pin_26 rfl (lv_at hl 2 rfl) ?_
      refine bm_vcallV (As := [.int (nI zB)]) (rest := []) ⟨hx, hb, hml, hown, hts⟩ (X_needY  (zp := zB) ok_pa_n (by omega)) (cwV 1 hts gvX4_86 rfl rfl rfl hvX4_needPart ⟨Nat.le_of_ble_eq_true rfl, Nat.le_of_ble_eq_true rfl⟩) hK hP 0 4 rfl ww_0 rfl hl.1 rfl (Nat.le_of_ble_eq_true rfl) dX4_pin_27 ⟨Nat.le_of_ble_eq_true rfl, Nat.le_of_ble_eq_true rfl⟩ ?_
      refine lv_lload_n hx hb dX4_pin_30 rfl (lv_at hl 3 rfl) ?_
      refine lv_lconst (v := 0) hx hb dX4_pin_31 (by decide) ?_
      refine bm_lc_lt (x := zC) (y := 0) (tgt := 72) hx hb dX4_pin_32 dX4_pin_33 (by decide) (fun c_3 => ?_) (fun c_3 => ?_)
      · exact absurd hv (by simp [q_in, c_3])
      · refine lv_lload_n hx hb dX4_pin_36 rfl (lv_at hl 3 rfl) ?_
        refine lv_aload_n hx hb dX4_pin_37 rfl (lv_at hl 0 rfl) ?_
        refine va_get (D := D) (ci := 4) (v := .ref (ad 1)) (C := RX4) (T := TX4) (N := 10) hx hb hts (inT inX4) hown hK hP 0 ww_0 rfl 2 (by decide) (hts (.fieldLink RX4 12 "BoardMoves" "parts" "LBoardMoves$Parts;") (List.mem_cons_of_mem _ flX4_12)) (fun _ h9 => h9) rfl dX4_pin_38 ?_
        refine va_get (D := D) (ci := 1) (v := .ref (ad 2)) (C := RX1) (T := TX1) (N := 7) hx hb hts (inT inX1) hown hK hP 1 ww_1 rfl 0 (by decide) (hts (.fieldLink RX4 148 "BoardMoves$Parts" "w" "[J") (List.mem_cons_of_mem _ flX4_148)) (fun _ h9 => h9) rfl dX4_pin_41 ?_
        refine lv_iload_n hx hb dX4_pin_44 rfl (lv_at hl 2 rfl) ?_
        refine bm_lald (f := pa.1) hx hb hK hP 2 0 ww_2 rfl (j := zB) (by omega) (by decide) dX4_pin_45 ?_
        refine bm_lc_gt (x := zC) (y := (pa.1 zB)) (tgt := 72) hx hb dX4_pin_46 dX4_pin_47 (by decide) (fun c_4 => ?_) (fun c_4 => ?_)
        · exact absurd hv (by simp [q_in, c_4])
        · refine lv_lload hx hb dX4_pin_50 (lv_at hl 4 rfl) ?_
          refine lv_lconst (v := 0) hx hb dX4_pin_52 (by decide) ?_
          refine bm_lc_lt (x := zD) (y := 0) (tgt := 72) hx hb dX4_pin_53 dX4_pin_54 (by decide) (fun c_5 => ?_) (fun c_5 => ?_)
          · exact absurd hv (by simp [q_in, c_5])
          · refine lv_lload hx hb dX4_pin_57 (lv_at hl 4 rfl) ?_
            refine lv_aload_n hx hb dX4_pin_59 rfl (lv_at hl 0 rfl) ?_
            refine va_get (D := D) (ci := 4) (v := .ref (ad 1)) (C := RX4) (T := TX4) (N := 10) hx hb hts (inT inX4) hown hK hP 0 ww_0 rfl 2 (by decide) (hts (.fieldLink RX4 12 "BoardMoves" "parts" "LBoardMoves$Parts;") (List.mem_cons_of_mem _ flX4_12)) (fun _ h9 => h9) rfl dX4_pin_60 ?_
            refine va_get (D := D) (ci := 1) (v := .ref (ad 3)) (C := RX1) (T := TX1) (N := 7) hx hb hts (inT inX1) hown hK hP 1 ww_1 rfl 1 (by decide) (hts (.fieldLink RX4 151 "BoardMoves$Parts" "h" "[J") (List.mem_cons_of_mem _ flX4_151)) (fun _ h9 => h9) rfl dX4_pin_63 ?_
            refine lv_iload_n hx hb dX4_pin_66 rfl (lv_at hl 2 rfl) ?_
            refine bm_lald (f := pa.2.1) hx hb hK hP 3 0 ww_3 rfl (j := zB) (by omega) (by decide) dX4_pin_67 ?_
            refine bm_lc_le (x := zD) (y := (pa.2.1 zB)) (tgt := 82) hx hb dX4_pin_68 dX4_pin_69 (by decide) (fun c_6 => ?_) (fun c_6 => ?_)
            · refine lv_aload_n hx hb dX4_pin_82 rfl (lv_at hl 0 rfl) ?_
              refine va_get (D := D) (ci := 4) (v := .ref (ad 32)) (C := RX4) (T := TX4) (N := 10) hx hb hts (inT inX4) hown hK hP 0 ww_0 rfl 4 (by decide) (hts (.fieldLink RX4 30 "BoardMoves" "wiring" "LBoardMoves$Wiring;") (List.mem_cons_of_mem _ flX4_30)) (fun _ h9 => h9) rfl dX4_pin_83 ?_
              refine lv_iload_n hx hb dX4_pin_86 rfl (lv_at hl 1 rfl) ?_
              refine lv_iload_n hx hb dX4_pin_87 rfl (lv_at hl 2 rfl) ?_
              refine lv_lload_n hx hb dX4_pin_88 rfl (lv_at hl 3 rfl) ?_
              refine lv_lload hx hb dX4_pin_89 (lv_at hl 4 rfl) ?_
              refine bm_xcallV (As := [.int (nI zA), .int (nI zB), .long zC, .long zD]) (rest := []) ⟨hx, hb, hml, hown, hts⟩ (x_addPin  (za := zA) (zb := zB) (z1 := zC) (z2 := zD) ok_wi_pins ok_wi_netOf ok_wi_partOf (by omega) (by omega)) (cwV 4 hts gvX4_156 rfl rfl rfl hvX3_addPin ⟨Nat.le_of_ble_eq_true rfl, Nat.le_of_ble_eq_true rfl⟩) hK hP hD hS hA 32 3 rfl ww_32 rfl hl.1 rfl (Nat.le_of_ble_eq_true rfl) dX4_pin_91 ⟨Nat.le_of_ble_eq_true rfl, Nat.le_of_ble_eq_true rfl⟩ (fun ws_7 r_8 h_9 H locs hP hD hS => ?_)
              obtain ⟨g_10, g_12, g_14, g_15, g_16, ok_11, ok_13, ok_17, rfl, v_18, rfl⟩ := h_9
              have hP : va_P D vwCl (WW ad cJ cI cZ bm pa p0 p1 p2 li (g_10, g_12, g_14, g_15, wi.2.2.2.2.1, wi.2.2.2.2.2.1, wi.2.2.2.2.2.2.1, wi.2.2.2.2.2.2.2.1, wi.2.2.2.2.2.2.2.2.1, wi.2.2.2.2.2.2.2.2.2.1, g_16) mt ms ma mp mk mn ou) H := hP
              have hD : va_D A (WW ad cJ cI cZ bm pa p0 p1 p2 li (g_10, g_12, g_14, g_15, wi.2.2.2.2.1, wi.2.2.2.2.2.1, wi.2.2.2.2.2.2.1, wi.2.2.2.2.2.2.2.1, wi.2.2.2.2.2.2.2.2.1, wi.2.2.2.2.2.2.2.2.2.1, g_16) mt ms ma mp mk mn ou) := hD
              refine bm_zb_ne (x := v_18) (tgt := 99) hx hb dX4_pin_94 (by decide) (fun c_19 => ?_) (fun c_19 => ?_)
              · refine lv_aload_n hx hb dX4_pin_99 rfl (lv_at hl 0 rfl) ?_
                refine lv_aload_n hx hb dX4_pin_100 rfl (lv_at hl 0 rfl) ?_
                refine va_get (D := D) (ci := 4) (v := .ref (ad 32)) (C := RX4) (T := TX4) (N := 10) hx hb hts (inT inX4) hown hK hP 0 ww_0 rfl 4 (by decide) (hts (.fieldLink RX4 30 "BoardMoves" "wiring" "LBoardMoves$Wiring;") (List.mem_cons_of_mem _ flX4_30)) (fun _ h9 => h9) rfl dX4_pin_101 ?_
                refine lv_aload_n hx hb dX4_pin_104 rfl (lv_at hl 0 rfl) ?_
                refine va_get (D := D) (ci := 4) (v := .ref (ad 8)) (C := RX4) (T := TX4) (N := 10) hx hb hts (inT inX4) hown hK hP 0 ww_0 rfl 5 (by decide) (hts (.fieldLink RX4 37 "BoardMoves" "now" "LBoardMoves$Placement;") (List.mem_cons_of_mem _ flX4_37)) (fun _ h9 => h9) rfl dX4_pin_105 ?_
                refine bm_xcallV (As := [.ref (ad 8)]) (rest := [.ref (ad 0)]) ⟨hx, hb, hml, hown, hts⟩ (x_meas (wi := (g_10, g_12, g_14, g_15, wi.2.2.2.2.1, wi.2.2.2.2.2.1, wi.2.2.2.2.2.2.1, wi.2.2.2.2.2.2.2.1, wi.2.2.2.2.2.2.2.2.1, wi.2.2.2.2.2.2.2.2.2.1, g_16))  ok_wi_nets ok_17 ok_11 ok_13 ok_p0_turn ) (cwV 1 hts gvX4_160 rfl rfl rfl hvX3_measure ⟨Nat.le_of_ble_eq_true rfl, Nat.le_of_ble_eq_true rfl⟩) hK hP hD hS hA 32 3 rfl ww_32 rfl hl.1 rfl (Nat.le_of_ble_eq_true rfl) dX4_pin_108 ⟨Nat.le_of_ble_eq_true rfl, Nat.le_of_ble_eq_true rfl⟩ (fun ws_20 r_21 h_22 H locs hP hD hS => ?_)
                obtain ⟨g_23, g_24, g_25, g_26, g_27, rfl, v_28, rfl⟩ := h_22
                have hP : va_P D vwCl (WW ad cJ cI cZ bm pa p0 p1 p2 li (g_10, g_12, g_14, g_15, g_23, g_24, g_25, g_26, g_27, wi.2.2.2.2.2.2.2.2.2.1, g_16) mt ms ma mp mk mn ou) H := hP
                have hD : va_D A (WW ad cJ cI cZ bm pa p0 p1 p2 li (g_10, g_12, g_14, g_15, g_23, g_24, g_25, g_26, g_27, wi.2.2.2.2.2.2.2.2.2.1, g_16) mt ms ma mp mk mn ou) := hD
                refine va_put (D := D) (ci := 4) (v := .long v_28) (ty := .long) (C := RX4) (T := TX4) (N := 10) hx hb hts (inT inX4) tyX4 tyX4_ok nmX4 hown hK hP hD hS 0 ww_0 rfl 9 (by decide) (hts (.fieldLink RX4 47 "BoardMoves" "keptWire" "J") (List.mem_cons_of_mem _ flX4_47)) (fun _ h9 => h9) rfl (by decide +kernel) rfl rfl (Nat.le_of_ble_eq_true rfl) dX4_pin_111 (fun H locs hP hD hS => ?_)
                have hP : va_P D vwCl (WW ad cJ cI cZ (bm.1, bm.2.1, bm.2.2.1, v_28) pa p0 p1 p2 li (g_10, g_12, g_14, g_15, g_23, g_24, g_25, g_26, g_27, wi.2.2.2.2.2.2.2.2.2.1, g_16) mt ms ma mp mk mn ou) H := hP
                have hD : va_D A (WW ad cJ cI cZ (bm.1, bm.2.1, bm.2.2.1, v_28) pa p0 p1 p2 li (g_10, g_12, g_14, g_15, g_23, g_24, g_25, g_26, g_27, wi.2.2.2.2.2.2.2.2.2.1, g_16) mt ms ma mp mk mn ou) := hD
                refine lv_iconst (v := bm_b true) hx hb dX4_pin_114 (by decide) ?_
                exact bm_zretX (v := true) hx hb hr hP hD hK hS ⟨(bm.1, bm.2.1, bm.2.2.1, v_28), pa, p0, p1, p2, li, (g_10, g_12, g_14, g_15, g_23, g_24, g_25, g_26, g_27, wi.2.2.2.2.2.2.2.2.2.1, g_16), ou, ⟨ok_pa_n, ok_pa_side, ok_pa_lowest, ok_p0_turn, ok_p1_turn, ok_p2_turn, ok_li_one, ok_li_other, ok_li_keepOuts, ok_li_nears, ok_11, ok_13, ok_wi_nets, ok_17, hw, hh, (INV_to hI rfl rfl rfl rfl rfl rfl rfl)⟩, rfl, rfl, true, rfl⟩ dX4_pin_115 hlocks
              · refine lv_iconst (v := bm_b false) hx hb dX4_pin_97 (by decide) ?_
                exact bm_zretX (v := false) hx hb hr hP hD hK hS ⟨bm, pa, p0, p1, p2, li, (g_10, g_12, g_14, g_15, wi.2.2.2.2.1, wi.2.2.2.2.2.1, wi.2.2.2.2.2.2.1, wi.2.2.2.2.2.2.2.1, wi.2.2.2.2.2.2.2.2.1, wi.2.2.2.2.2.2.2.2.2.1, g_16), ou, ⟨ok_pa_n, ok_pa_side, ok_pa_lowest, ok_p0_turn, ok_p1_turn, ok_p2_turn, ok_li_one, ok_li_other, ok_li_keepOuts, ok_li_nears, ok_11, ok_13, ok_wi_nets, ok_17, hw, hh, (INV_to hI rfl rfl rfl rfl rfl rfl rfl)⟩, rfl, rfl, false, rfl⟩ dX4_pin_98 hlocks
            · exact absurd hv (by simp [q_in, c_6])
    · exact absurd hk_zA c_2

set_option maxHeartbeats 16000000 in
set_option maxRecDepth 100000 in
theorem Z_at {l : Launch} {D : va_G} {ad : Nat → Nat} {cJ cI cZ : ClassId} {bm : gBM} {pa : gPA} {p0 p1 p2 : gPL} {li : gLI} {wi : gWI} {mt : Nat} {ms : gMS} {ma : gMA} {mp : gMP} {mk : gMK} {mn : gMN} {ou : Nat → Int64} {zA : Nat} {zB : Nat} (hok : okC bm pa p0 p1 p2 li wi) (hk_zA : zA < pa.2.2.2.2.2.2) (hd : zB < 7) : bm_Wx l yX4_at wsX4_at ({ frames := 1, cells := 0, slots := 0, locals := 21 }) D vwCl [(cJ, .long), (cI, .int), (cZ, .boolean)] (WW ad cJ cI cZ bm pa p0 p1 p2 li wi mt ms ma mp mk mn ou) [.ref (ad 0), .int (nI zA), .int (nI zB)] (PCJ ad cJ cI cZ bm pa p0 p1 p2 li wi mt ms ma mp mk mn ou) := by
  obtain ⟨ok_pa_n, ok_pa_side, ok_pa_lowest, ok_p0_turn, ok_p1_turn, ok_p2_turn, ok_li_one, ok_li_other, ok_li_keepOuts, ok_li_nears, ok_wi_netOf, ok_wi_partOf, ok_wi_nets, ok_wi_pins, hw, hh, hI⟩ := hok
  intro sz
  refine Met.ofW (cc := cX4_at) (maxL := 3) (ret := (some .long)) (by decide) rfl ?_
  intro p e s m args below meth c s₁ B hml hv
  obtain ⟨ha, hsz, hP, hK, hD0⟩ := hv
  have hx := B.exec
  have hb := B.bytes
  have hr := B.returns
  have hts := atoms_spec (ws := wsX4_at) B.pre
  have hown : s.vm.findClass RX4 = some m.cls := findClass_of_methodNamed B.named
  have hlocks := B.notSynchronized
  subst hsz
  have hD := hD0.self (sz := s.heap.size)
  generalize hAe : va_A (WW ad cJ cI cZ bm pa p0 p1 p2 li wi mt ms ma mp mk mn ou) s.heap.size = A at hD ⊢
  have hA : ∀ q : Nat, s.heap.size ≤ q → A q := fun q h => by rw [← hAe]; exact Or.inr h
  have hS : va_S A s.heap s.heap [] := va_S.rf
  have hl := lv_entry ([.ref (ad 0), .int (nI zA), .int (nI zB)]) (n := 3) (Nat.le_of_ble_eq_true rfl)
  refine W.eq (g2 := entryFrame m ([.ref (ad 0), .int (nI zA), .int (nI zB)] : List Value).toArray 3) (by rw [ha]) ?_
  rw [lg_entry_eq]
  generalize (lg_sl ([.ref (ad 0), .int (nI zA), .int (nI zB)]) ++ List.replicate (3 - (lg_sl ([.ref (ad 0), .int (nI zA), .int (nI zB)])).length) Slot.unset).toArray = ls at hl ⊢
  have hl : lv_has ls 3 [(0, .ref (ad 0)), (1, .int (nI zA)), (2, .int (nI zB))] := hl
  refine lv_aload_n hx hb dX4_at_0 rfl (lv_at hl 0 rfl) ?_
  refine lv_iload_n hx hb dX4_at_1 rfl (lv_at hl 1 rfl) ?_
  refine bm_vcallV (As := [.int (nI zA)]) (rest := []) ⟨hx, hb, hml, hown, hts⟩ (X_needY  (zp := zA) ok_pa_n (by omega)) (cwV 1 hts gvX4_86 rfl rfl rfl hvX4_needPart ⟨Nat.le_of_ble_eq_true rfl, Nat.le_of_ble_eq_true rfl⟩) hK hP 0 4 rfl ww_0 rfl hl.1 rfl (Nat.le_of_ble_eq_true rfl) dX4_at_2 ⟨Nat.le_of_ble_eq_true rfl, Nat.le_of_ble_eq_true rfl⟩ ?_
  refine lv_iload_n hx hb dX4_at_5 rfl (lv_at hl 2 rfl) ?_
  by_cases ht_1 : zB = 0
  · rw [ht_1]
    refine lv_tableIn (off := 42) (tgt := 48) hx hb dX4_at_6 (by decide) (by decide) (by decide) (by decide) ?_
    refine lv_aload_n hx hb dX4_at_48 rfl (lv_at hl 0 rfl) ?_
    refine va_get (D := D) (ci := 4) (v := .ref (ad 8)) (C := RX4) (T := TX4) (N := 10) hx hb hts (inT inX4) hown hK hP 0 ww_0 rfl 5 (by decide) (hts (.fieldLink RX4 37 "BoardMoves" "now" "LBoardMoves$Placement;") (List.mem_cons_of_mem _ flX4_37)) (fun _ h9 => h9) rfl dX4_at_49 ?_
    refine va_get (D := D) (ci := 2) (v := .ref (ad 9)) (C := RX2) (T := TX2) (N := 5) hx hb hts (inT inX2) hown hK hP 8 ww_8 rfl 1 (by decide) (hts (.fieldLink RX4 112 "BoardMoves$Placement" "x" "[J") (List.mem_cons_of_mem _ flX4_112)) (fun _ h9 => h9) rfl dX4_at_52 ?_
    refine lv_iload_n hx hb dX4_at_55 rfl (lv_at hl 1 rfl) ?_
    refine bm_lald (f := p0.1) hx hb hK hP 9 0 ww_9 rfl (j := zA) (by omega) (by decide) dX4_at_56 ?_
    refine lv_topl (fun t_8 _ => ?_)
    exact bm_lretX (v := t_8) hx hb hr hP hD hK hS ⟨bm, pa, p0, p1, p2, li, wi, ou, ⟨ok_pa_n, ok_pa_side, ok_pa_lowest, ok_p0_turn, ok_p1_turn, ok_p2_turn, ok_li_one, ok_li_other, ok_li_keepOuts, ok_li_nears, ok_wi_netOf, ok_wi_partOf, ok_wi_nets, ok_wi_pins, hw, hh, (INV_to hI rfl rfl rfl rfl rfl rfl rfl)⟩, rfl, rfl, t_8, rfl⟩ dX4_at_57 hlocks
  · by_cases ht_2 : zB = 1
    · rw [ht_2]
      refine lv_tableIn (off := 52) (tgt := 58) hx hb dX4_at_6 (by decide) (by decide) (by decide) (by decide) ?_
      refine lv_aload_n hx hb dX4_at_58 rfl (lv_at hl 0 rfl) ?_
      refine va_get (D := D) (ci := 4) (v := .ref (ad 8)) (C := RX4) (T := TX4) (N := 10) hx hb hts (inT inX4) hown hK hP 0 ww_0 rfl 5 (by decide) (hts (.fieldLink RX4 37 "BoardMoves" "now" "LBoardMoves$Placement;") (List.mem_cons_of_mem _ flX4_37)) (fun _ h9 => h9) rfl dX4_at_59 ?_
      refine va_get (D := D) (ci := 2) (v := .ref (ad 10)) (C := RX2) (T := TX2) (N := 5) hx hb hts (inT inX2) hown hK hP 8 ww_8 rfl 2 (by decide) (hts (.fieldLink RX4 116 "BoardMoves$Placement" "y" "[J") (List.mem_cons_of_mem _ flX4_116)) (fun _ h9 => h9) rfl dX4_at_62 ?_
      refine lv_iload_n hx hb dX4_at_65 rfl (lv_at hl 1 rfl) ?_
      refine bm_lald (f := p0.2.1) hx hb hK hP 10 0 ww_10 rfl (j := zA) (by omega) (by decide) dX4_at_66 ?_
      refine lv_topl (fun t_9 _ => ?_)
      exact bm_lretX (v := t_9) hx hb hr hP hD hK hS ⟨bm, pa, p0, p1, p2, li, wi, ou, ⟨ok_pa_n, ok_pa_side, ok_pa_lowest, ok_p0_turn, ok_p1_turn, ok_p2_turn, ok_li_one, ok_li_other, ok_li_keepOuts, ok_li_nears, ok_wi_netOf, ok_wi_partOf, ok_wi_nets, ok_wi_pins, hw, hh, (INV_to hI rfl rfl rfl rfl rfl rfl rfl)⟩, rfl, rfl, t_9, rfl⟩ dX4_at_67 hlocks
    · by_cases ht_3 : zB = 2
      · rw [ht_3]
        refine lv_tableIn (off := 62) (tgt := 68) hx hb dX4_at_6 (by decide) (by decide) (by decide) (by decide) ?_
        refine lv_aload_n hx hb dX4_at_68 rfl (lv_at hl 0 rfl) ?_
        refine va_get (D := D) (ci := 4) (v := .ref (ad 8)) (C := RX4) (T := TX4) (N := 10) hx hb hts (inT inX4) hown hK hP 0 ww_0 rfl 5 (by decide) (hts (.fieldLink RX4 37 "BoardMoves" "now" "LBoardMoves$Placement;") (List.mem_cons_of_mem _ flX4_37)) (fun _ h9 => h9) rfl dX4_at_69 ?_
        refine va_get (D := D) (ci := 2) (v := .ref (ad 11)) (C := RX2) (T := TX2) (N := 5) hx hb hts (inT inX2) hown hK hP 8 ww_8 rfl 3 (by decide) (hts (.fieldLink RX4 100 "BoardMoves$Placement" "turn" "[I") (List.mem_cons_of_mem _ flX4_100)) (fun _ h9 => h9) rfl dX4_at_72 ?_
        refine lv_iload_n hx hb dX4_at_75 rfl (lv_at hl 1 rfl) ?_
        refine bm_nald (f := p0.2.2.1) hx hb hK hP 11 1 ww_11 rfl (j := zA) (by omega) (by decide) dX4_at_76 ?_
        refine bm_i2lN (x := p0.2.2.1 zA) hx hb (bm40 (ok_p0_turn _)) dX4_at_77 ?_
        exact bm_lretX (v := (lN (p0.2.2.1 zA))) hx hb hr hP hD hK hS ⟨bm, pa, p0, p1, p2, li, wi, ou, ⟨ok_pa_n, ok_pa_side, ok_pa_lowest, ok_p0_turn, ok_p1_turn, ok_p2_turn, ok_li_one, ok_li_other, ok_li_keepOuts, ok_li_nears, ok_wi_netOf, ok_wi_partOf, ok_wi_nets, ok_wi_pins, hw, hh, (INV_to hI rfl rfl rfl rfl rfl rfl rfl)⟩, rfl, rfl, (lN (p0.2.2.1 zA)), rfl⟩ dX4_at_78 hlocks
      · by_cases ht_4 : zB = 3
        · rw [ht_4]
          refine lv_tableIn (off := 73) (tgt := 79) hx hb dX4_at_6 (by decide) (by decide) (by decide) (by decide) ?_
          refine lv_aload_n hx hb dX4_at_79 rfl (lv_at hl 0 rfl) ?_
          refine va_get (D := D) (ci := 4) (v := .ref (ad 8)) (C := RX4) (T := TX4) (N := 10) hx hb hts (inT inX4) hown hK hP 0 ww_0 rfl 5 (by decide) (hts (.fieldLink RX4 37 "BoardMoves" "now" "LBoardMoves$Placement;") (List.mem_cons_of_mem _ flX4_37)) (fun _ h9 => h9) rfl dX4_at_80 ?_
          refine va_get (D := D) (ci := 2) (v := .ref (ad 12)) (C := RX2) (T := TX2) (N := 5) hx hb hts (inT inX2) hown hK hP 8 ww_8 rfl 4 (by decide) (hts (.fieldLink RX4 96 "BoardMoves$Placement" "placed" "[Z") (List.mem_cons_of_mem _ flX4_96)) (fun _ h9 => h9) rfl dX4_at_83 ?_
          refine lv_iload_n hx hb dX4_at_86 rfl (lv_at hl 1 rfl) ?_
          refine bm_zald (f := p0.2.2.2) hx hb hK hP 12 2 ww_12 rfl (j := zA) (by omega) (by decide) dX4_at_87 ?_
          refine bm_zb_eq (x := (p0.2.2.2 zA)) (tgt := 95) hx hb dX4_at_88 (by decide) (fun c_10 => ?_) (fun c_10 => ?_)
          · refine lv_lconst (v := 0) hx hb dX4_at_95 (by decide) ?_
            exact bm_lretX (v := 0) hx hb hr hP hD hK hS ⟨bm, pa, p0, p1, p2, li, wi, ou, ⟨ok_pa_n, ok_pa_side, ok_pa_lowest, ok_p0_turn, ok_p1_turn, ok_p2_turn, ok_li_one, ok_li_other, ok_li_keepOuts, ok_li_nears, ok_wi_netOf, ok_wi_partOf, ok_wi_nets, ok_wi_pins, hw, hh, (INV_to hI rfl rfl rfl rfl rfl rfl rfl)⟩, rfl, rfl, 0, rfl⟩ dX4_at_96 hlocks
          · refine lv_lconst (v := 1) hx hb dX4_at_91 (by decide) ?_
            refine lv_goto (tgt := 96) hx hb dX4_at_92 (by decide) ?_
            exact bm_lretX (v := 1) hx hb hr hP hD hK hS ⟨bm, pa, p0, p1, p2, li, wi, ou, ⟨ok_pa_n, ok_pa_side, ok_pa_lowest, ok_p0_turn, ok_p1_turn, ok_p2_turn, ok_li_one, ok_li_other, ok_li_keepOuts, ok_li_nears, ok_wi_netOf, ok_wi_partOf, ok_wi_nets, ok_wi_pins, hw, hh, (INV_to hI rfl rfl rfl rfl rfl rfl rfl)⟩, rfl, rfl, 1, rfl⟩ dX4_at_96 hlocks
        · by_cases ht_5 : zB = 4
          · rw [ht_5]
            refine lv_tableIn (off := 91) (tgt := 97) hx hb dX4_at_6 (by decide) (by decide) (by decide) (by decide) ?_
            refine lv_aload_n hx hb dX4_at_97 rfl (lv_at hl 0 rfl) ?_
            refine va_get (D := D) (ci := 4) (v := .ref (ad 1)) (C := RX4) (T := TX4) (N := 10) hx hb hts (inT inX4) hown hK hP 0 ww_0 rfl 2 (by decide) (hts (.fieldLink RX4 12 "BoardMoves" "parts" "LBoardMoves$Parts;") (List.mem_cons_of_mem _ flX4_12)) (fun _ h9 => h9) rfl dX4_at_98 ?_
            refine va_get (D := D) (ci := 1) (v := .ref (ad 6)) (C := RX1) (T := TX1) (N := 7) hx hb hts (inT inX1) hown hK hP 1 ww_1 rfl 4 (by decide) (hts (.fieldLink RX4 132 "BoardMoves$Parts" "locked" "[Z") (List.mem_cons_of_mem _ flX4_132)) (fun _ h9 => h9) rfl dX4_at_101 ?_
            refine lv_iload_n hx hb dX4_at_104 rfl (lv_at hl 1 rfl) ?_
            refine bm_zald (f := pa.2.2.2.2.1) hx hb hK hP 6 2 ww_6 rfl (j := zA) (by omega) (by decide) dX4_at_105 ?_
            refine bm_zb_eq (x := (pa.2.2.2.2.1 zA)) (tgt := 113) hx hb dX4_at_106 (by decide) (fun c_11 => ?_) (fun c_11 => ?_)
            · refine lv_lconst (v := 0) hx hb dX4_at_113 (by decide) ?_
              exact bm_lretX (v := 0) hx hb hr hP hD hK hS ⟨bm, pa, p0, p1, p2, li, wi, ou, ⟨ok_pa_n, ok_pa_side, ok_pa_lowest, ok_p0_turn, ok_p1_turn, ok_p2_turn, ok_li_one, ok_li_other, ok_li_keepOuts, ok_li_nears, ok_wi_netOf, ok_wi_partOf, ok_wi_nets, ok_wi_pins, hw, hh, (INV_to hI rfl rfl rfl rfl rfl rfl rfl)⟩, rfl, rfl, 0, rfl⟩ dX4_at_114 hlocks
            · refine lv_lconst (v := 1) hx hb dX4_at_109 (by decide) ?_
              refine lv_goto (tgt := 114) hx hb dX4_at_110 (by decide) ?_
              exact bm_lretX (v := 1) hx hb hr hP hD hK hS ⟨bm, pa, p0, p1, p2, li, wi, ou, ⟨ok_pa_n, ok_pa_side, ok_pa_lowest, ok_p0_turn, ok_p1_turn, ok_p2_turn, ok_li_one, ok_li_other, ok_li_keepOuts, ok_li_nears, ok_wi_netOf, ok_wi_partOf, ok_wi_nets, ok_wi_pins, hw, hh, (INV_to hI rfl rfl rfl rfl rfl rfl rfl)⟩, rfl, rfl, 1, rfl⟩ dX4_at_114 hlocks
          · by_cases ht_6 : zB = 5
            · rw [ht_6]
              refine lv_tableIn (off := 109) (tgt := 115) hx hb dX4_at_6 (by decide) (by decide) (by decide) (by decide) ?_
              refine lv_aload_n hx hb dX4_at_115 rfl (lv_at hl 0 rfl) ?_
              refine va_get (D := D) (ci := 4) (v := .ref (ad 1)) (C := RX4) (T := TX4) (N := 10) hx hb hts (inT inX4) hown hK hP 0 ww_0 rfl 2 (by decide) (hts (.fieldLink RX4 12 "BoardMoves" "parts" "LBoardMoves$Parts;") (List.mem_cons_of_mem _ flX4_12)) (fun _ h9 => h9) rfl dX4_at_116 ?_
              refine va_get (D := D) (ci := 1) (v := .ref (ad 7)) (C := RX1) (T := TX1) (N := 7) hx hb hts (inT inX1) hown hK hP 1 ww_1 rfl 5 (by decide) (hts (.fieldLink RX4 185 "BoardMoves$Parts" "lowest" "[I") (List.mem_cons_of_mem _ flX4_185)) (fun _ h9 => h9) rfl dX4_at_119 ?_
              refine lv_iload_n hx hb dX4_at_122 rfl (lv_at hl 1 rfl) ?_
              refine bm_nald (f := pa.2.2.2.2.2.1) hx hb hK hP 7 1 ww_7 rfl (j := zA) (by omega) (by decide) dX4_at_123 ?_
              refine bm_i2lN (x := pa.2.2.2.2.2.1 zA) hx hb (bm40 (ok_pa_lowest _)) dX4_at_124 ?_
              exact bm_lretX (v := (lN (pa.2.2.2.2.2.1 zA))) hx hb hr hP hD hK hS ⟨bm, pa, p0, p1, p2, li, wi, ou, ⟨ok_pa_n, ok_pa_side, ok_pa_lowest, ok_p0_turn, ok_p1_turn, ok_p2_turn, ok_li_one, ok_li_other, ok_li_keepOuts, ok_li_nears, ok_wi_netOf, ok_wi_partOf, ok_wi_nets, ok_wi_pins, hw, hh, (INV_to hI rfl rfl rfl rfl rfl rfl rfl)⟩, rfl, rfl, (lN (pa.2.2.2.2.2.1 zA)), rfl⟩ dX4_at_125 hlocks
            · by_cases ht_7 : zB = 6
              · rw [ht_7]
                refine lv_tableIn (off := 120) (tgt := 126) hx hb dX4_at_6 (by decide) (by decide) (by decide) (by decide) ?_
                refine lv_aload_n hx hb dX4_at_126 rfl (lv_at hl 0 rfl) ?_
                refine va_get (D := D) (ci := 4) (v := .ref (ad 1)) (C := RX4) (T := TX4) (N := 10) hx hb hts (inT inX4) hown hK hP 0 ww_0 rfl 2 (by decide) (hts (.fieldLink RX4 12 "BoardMoves" "parts" "LBoardMoves$Parts;") (List.mem_cons_of_mem _ flX4_12)) (fun _ h9 => h9) rfl dX4_at_127 ?_
                refine va_get (D := D) (ci := 1) (v := .ref (ad 5)) (C := RX1) (T := TX1) (N := 7) hx hb hts (inT inX1) hown hK hP 1 ww_1 rfl 3 (by decide) (hts (.fieldLink RX4 188 "BoardMoves$Parts" "tall" "[J") (List.mem_cons_of_mem _ flX4_188)) (fun _ h9 => h9) rfl dX4_at_130 ?_
                refine lv_iload_n hx hb dX4_at_133 rfl (lv_at hl 1 rfl) ?_
                refine bm_lald (f := pa.2.2.2.1) hx hb hK hP 5 0 ww_5 rfl (j := zA) (by omega) (by decide) dX4_at_134 ?_
                refine lv_topl (fun t_12 _ => ?_)
                exact bm_lretX (v := t_12) hx hb hr hP hD hK hS ⟨bm, pa, p0, p1, p2, li, wi, ou, ⟨ok_pa_n, ok_pa_side, ok_pa_lowest, ok_p0_turn, ok_p1_turn, ok_p2_turn, ok_li_one, ok_li_other, ok_li_keepOuts, ok_li_nears, ok_wi_netOf, ok_wi_partOf, ok_wi_nets, ok_wi_pins, hw, hh, (INV_to hI rfl rfl rfl rfl rfl rfl rfl)⟩, rfl, rfl, t_12, rfl⟩ dX4_at_135 hlocks
              · refine lv_tableOut (tgt := 136) hx hb dX4_at_6 (by rw [nI_toInt (by omega)]; omega) (by decide) ?_
                exfalso; omega

set_option maxHeartbeats 16000000 in
set_option maxRecDepth 100000 in
theorem Z_group {l : Launch} {D : va_G} {ad : Nat → Nat} {cJ cI cZ : ClassId} {bm : gBM} {pa : gPA} {p0 p1 p2 : gPL} {li : gLI} {wi : gWI} {mt : Nat} {ms : gMS} {ma : gMA} {mp : gMP} {mk : gMK} {mn : gMN} {ou : Nat → Int64} {zA : Nat} {zB : Nat} (hok : okC bm pa p0 p1 p2 li wi) (hk_zA : zA < pa.2.2.2.2.2.2)(hk_zB : zB < pa.2.2.2.2.2.2) : bm_Wx l yX4_group wsX4_group ({ frames := 2, cells := 0, slots := 0, locals := 51 }) D vwCl [(cJ, .long), (cI, .int), (cZ, .boolean)] (WW ad cJ cI cZ bm pa p0 p1 p2 li wi mt ms ma mp mk mn ou) [.ref (ad 0), .int (nI zA), .int (nI zB)] (PCI ad cJ cI cZ bm pa p0 p1 p2 li wi mt ms ma mp mk mn ou) := by
  obtain ⟨ok_pa_n, ok_pa_side, ok_pa_lowest, ok_p0_turn, ok_p1_turn, ok_p2_turn, ok_li_one, ok_li_other, ok_li_keepOuts, ok_li_nears, ok_wi_netOf, ok_wi_partOf, ok_wi_nets, ok_wi_pins, hw, hh, hI⟩ := hok
  intro sz
  refine Met.ofW (cc := cX4_group) (maxL := 3) (ret := (some .int)) (by decide) rfl ?_
  intro p e s m args below meth c s₁ B hml hv
  obtain ⟨ha, hsz, hP, hK, hD0⟩ := hv
  have hx := B.exec
  have hb := B.bytes
  have hr := B.returns
  have hts := atoms_spec (ws := wsX4_group) B.pre
  have hown : s.vm.findClass RX4 = some m.cls := findClass_of_methodNamed B.named
  have hlocks := B.notSynchronized
  subst hsz
  have hD := hD0.self (sz := s.heap.size)
  generalize hAe : va_A (WW ad cJ cI cZ bm pa p0 p1 p2 li wi mt ms ma mp mk mn ou) s.heap.size = A at hD ⊢
  have hA : ∀ q : Nat, s.heap.size ≤ q → A q := fun q h => by rw [← hAe]; exact Or.inr h
  have hS : va_S A s.heap s.heap [] := va_S.rf
  have hl := lv_entry ([.ref (ad 0), .int (nI zA), .int (nI zB)]) (n := 3) (Nat.le_of_ble_eq_true rfl)
  refine W.eq (g2 := entryFrame m ([.ref (ad 0), .int (nI zA), .int (nI zB)] : List Value).toArray 3) (by rw [ha]) ?_
  rw [lg_entry_eq]
  generalize (lg_sl ([.ref (ad 0), .int (nI zA), .int (nI zB)]) ++ List.replicate (3 - (lg_sl ([.ref (ad 0), .int (nI zA), .int (nI zB)])).length) Slot.unset).toArray = ls at hl ⊢
  have hl : lv_has ls 3 [(0, .ref (ad 0)), (1, .int (nI zA)), (2, .int (nI zB))] := hl
  refine lv_aload_n hx hb dX4_group_0 rfl (lv_at hl 0 rfl) ?_
  refine lv_iload_n hx hb dX4_group_1 rfl (lv_at hl 1 rfl) ?_
  refine bm_vcallV (As := [.int (nI zA)]) (rest := []) ⟨hx, hb, hml, hown, hts⟩ (X_needY  (zp := zA) ok_pa_n (by omega)) (cwV 1 hts gvX4_86 rfl rfl rfl hvX4_needPart ⟨Nat.le_of_ble_eq_true rfl, Nat.le_of_ble_eq_true rfl⟩) hK hP 0 4 rfl ww_0 rfl hl.1 rfl (Nat.le_of_ble_eq_true rfl) dX4_group_2 ⟨Nat.le_of_ble_eq_true rfl, Nat.le_of_ble_eq_true rfl⟩ ?_
  refine lv_aload_n hx hb dX4_group_5 rfl (lv_at hl 0 rfl) ?_
  refine lv_iload_n hx hb dX4_group_6 rfl (lv_at hl 2 rfl) ?_
  refine bm_vcallV (As := [.int (nI zB)]) (rest := []) ⟨hx, hb, hml, hown, hts⟩ (X_needY  (zp := zB) ok_pa_n (by omega)) (cwV 1 hts gvX4_86 rfl rfl rfl hvX4_needPart ⟨Nat.le_of_ble_eq_true rfl, Nat.le_of_ble_eq_true rfl⟩) hK hP 0 4 rfl ww_0 rfl hl.1 rfl (Nat.le_of_ble_eq_true rfl) dX4_group_7 ⟨Nat.le_of_ble_eq_true rfl, Nat.le_of_ble_eq_true rfl⟩ ?_
  refine lv_aload_n hx hb dX4_group_10 rfl (lv_at hl 0 rfl) ?_
  refine va_get (D := D) (ci := 4) (v := .ref (ad 1)) (C := RX4) (T := TX4) (N := 10) hx hb hts (inT inX4) hown hK hP 0 ww_0 rfl 2 (by decide) (hts (.fieldLink RX4 12 "BoardMoves" "parts" "LBoardMoves$Parts;") (List.mem_cons_of_mem _ flX4_12)) (fun _ h9 => h9) rfl dX4_group_11 ?_
  refine lv_iload_n hx hb dX4_group_14 rfl (lv_at hl 1 rfl) ?_
  refine lv_iload_n hx hb dX4_group_15 rfl (lv_at hl 2 rfl) ?_
  refine bm_xcallV (As := [.int (nI zA), .int (nI zB)]) (rest := []) ⟨hx, hb, hml, hown, hts⟩ (x_join  (za := zA) (zb := zB) ok_pa_n ok_pa_lowest (by omega) (by omega)) (cwV 2 hts gvX4_214 rfl rfl rfl hvX1_join ⟨Nat.le_of_ble_eq_true rfl, Nat.le_of_ble_eq_true rfl⟩) hK hP hD hS hA 1 1 rfl ww_1 rfl hl.1 rfl (Nat.le_of_ble_eq_true rfl) dX4_group_16 ⟨Nat.le_of_ble_eq_true rfl, Nat.le_of_ble_eq_true rfl⟩ (fun ws_1 r_2 h_3 H locs hP hD hS => ?_)
  obtain ⟨g_4, ok_5, rfl, v_6, rfl⟩ := h_3
  have hP : va_P D vwCl (WW ad cJ cI cZ bm (pa.1, pa.2.1, pa.2.2.1, pa.2.2.2.1, pa.2.2.2.2.1, g_4, pa.2.2.2.2.2.2) p0 p1 p2 li wi mt ms ma mp mk mn ou) H := hP
  have hD : va_D A (WW ad cJ cI cZ bm (pa.1, pa.2.1, pa.2.2.1, pa.2.2.2.1, pa.2.2.2.2.1, g_4, pa.2.2.2.2.2.2) p0 p1 p2 li wi mt ms ma mp mk mn ou) := hD
  exact bm_iretX (v := v_6) hx hb hr hP hD hK hS ⟨bm, (pa.1, pa.2.1, pa.2.2.1, pa.2.2.2.1, pa.2.2.2.2.1, g_4, pa.2.2.2.2.2.2), p0, p1, p2, li, wi, ou, ⟨ok_pa_n, ok_pa_side, ok_5, ok_p0_turn, ok_p1_turn, ok_p2_turn, ok_li_one, ok_li_other, ok_li_keepOuts, ok_li_nears, ok_wi_netOf, ok_wi_partOf, ok_wi_nets, ok_wi_pins, hw, hh, (INV_to hI rfl rfl rfl rfl rfl rfl rfl)⟩, rfl, rfl, v_6, rfl⟩ dX4_group_19 hlocks

set_option maxHeartbeats 16000000 in
set_option maxRecDepth 100000 in
theorem Z_height {l : Launch} {D : va_G} {ad : Nat → Nat} {cJ cI cZ : ClassId} {bm : gBM} {pa : gPA} {p0 p1 p2 : gPL} {li : gLI} {wi : gWI} {mt : Nat} {ms : gMS} {ma : gMA} {mp : gMP} {mk : gMK} {mn : gMN} {ou : Nat → Int64} {zA : Nat} {zB : Int64} (hok : okC bm pa p0 p1 p2 li wi) (hk_zA : zA < pa.2.2.2.2.2.2) (hv : q_ht zB = true) : bm_Wx l yX4_height wsX4_height ({ frames := 4, cells := 0, slots := 0, locals := 98 }) D vwCl [(cJ, .long), (cI, .int), (cZ, .boolean)] (WW ad cJ cI cZ bm pa p0 p1 p2 li wi mt ms ma mp mk mn ou) [.ref (ad 0), .int (nI zA), .long zB] (PCZ ad cJ cI cZ bm pa p0 p1 p2 li wi mt ms ma mp mk mn ou) := by
  obtain ⟨ok_pa_n, ok_pa_side, ok_pa_lowest, ok_p0_turn, ok_p1_turn, ok_p2_turn, ok_li_one, ok_li_other, ok_li_keepOuts, ok_li_nears, ok_wi_netOf, ok_wi_partOf, ok_wi_nets, ok_wi_pins, hw, hh, hI⟩ := hok
  intro sz
  refine Met.ofW (cc := cX4_height) (maxL := 6) (ret := (some .boolean)) (by decide) rfl ?_
  intro p e s m args below meth c s₁ B hml hv
  obtain ⟨ha, hsz, hP, hK, hD0⟩ := hv
  have hx := B.exec
  have hb := B.bytes
  have hr := B.returns
  have hts := atoms_spec (ws := wsX4_height) B.pre
  have hown : s.vm.findClass RX4 = some m.cls := findClass_of_methodNamed B.named
  have hlocks := B.notSynchronized
  subst hsz
  have hD := hD0.self (sz := s.heap.size)
  generalize hAe : va_A (WW ad cJ cI cZ bm pa p0 p1 p2 li wi mt ms ma mp mk mn ou) s.heap.size = A at hD ⊢
  have hA : ∀ q : Nat, s.heap.size ≤ q → A q := fun q h => by rw [← hAe]; exact Or.inr h
  have hS : va_S A s.heap s.heap [] := va_S.rf
  have hl := lv_entry ([.ref (ad 0), .int (nI zA), .long zB]) (n := 6) (Nat.le_of_ble_eq_true rfl)
  refine W.eq (g2 := entryFrame m ([.ref (ad 0), .int (nI zA), .long zB] : List Value).toArray 6) (by rw [ha]) ?_
  rw [lg_entry_eq]
  generalize (lg_sl ([.ref (ad 0), .int (nI zA), .long zB]) ++ List.replicate (6 - (lg_sl ([.ref (ad 0), .int (nI zA), .long zB])).length) Slot.unset).toArray = ls at hl ⊢
  have hl : lv_has ls 6 [(0, .ref (ad 0)), (1, .int (nI zA)), (2, .long zB)] := hl
  refine lv_aload_n hx hb dX4_height_0 rfl (lv_at hl 0 rfl) ?_
  refine lv_iload_n hx hb dX4_height_1 rfl (lv_at hl 1 rfl) ?_
  refine bm_vcallV (As := [.int (nI zA)]) (rest := []) ⟨hx, hb, hml, hown, hts⟩ (X_needY  (zp := zA) ok_pa_n (by omega)) (cwV 1 hts gvX4_86 rfl rfl rfl hvX4_needPart ⟨Nat.le_of_ble_eq_true rfl, Nat.le_of_ble_eq_true rfl⟩) hK hP 0 4 rfl ww_0 rfl hl.1 rfl (Nat.le_of_ble_eq_true rfl) dX4_height_2 ⟨Nat.le_of_ble_eq_true rfl, Nat.le_of_ble_eq_true rfl⟩ ?_
  refine lv_lload_n hx hb dX4_height_5 rfl (lv_at hl 2 rfl) ?_
  refine lv_lconst (v := 0) hx hb dX4_height_6 (by decide) ?_
  refine bm_lc_lt (x := zB) (y := 0) (tgt := 19) hx hb dX4_height_7 dX4_height_8 (by decide) (fun c_1 => ?_) (fun c_1 => ?_)
  · exact absurd hv (by simp [q_ht, c_1])
  · refine lv_lload_n hx hb dX4_height_11 rfl (lv_at hl 2 rfl) ?_
    refine lv_ldc2 (v := 65536) hx hb hown (hts (.constantLong RX4 51 65536) (List.mem_cons_of_mem _ clX4_51)) dX4_height_12 ?_
    refine bm_lc_le (x := zB) (y := 65536) (tgt := 29) hx hb dX4_height_15 dX4_height_16 (by decide) (fun c_2 => ?_) (fun c_2 => ?_)
    · refine lv_aload_n hx hb dX4_height_29 rfl (lv_at hl 0 rfl) ?_
      refine va_get (D := D) (ci := 4) (v := .ref (ad 1)) (C := RX4) (T := TX4) (N := 10) hx hb hts (inT inX4) hown hK hP 0 ww_0 rfl 2 (by decide) (hts (.fieldLink RX4 12 "BoardMoves" "parts" "LBoardMoves$Parts;") (List.mem_cons_of_mem _ flX4_12)) (fun _ h9 => h9) rfl dX4_height_30 ?_
      refine va_get (D := D) (ci := 1) (v := .ref (ad 5)) (C := RX1) (T := TX1) (N := 7) hx hb hts (inT inX1) hown hK hP 1 ww_1 rfl 3 (by decide) (hts (.fieldLink RX4 188 "BoardMoves$Parts" "tall" "[J") (List.mem_cons_of_mem _ flX4_188)) (fun _ h9 => h9) rfl dX4_height_33 ?_
      refine lv_iload_n hx hb dX4_height_36 rfl (lv_at hl 1 rfl) ?_
      refine bm_lald (f := pa.2.2.2.1) hx hb hK hP 5 0 ww_5 rfl (j := zA) (by omega) (by decide) dX4_height_37 ?_
      refine lv_lstore (lv' := [(4, .long (pa.2.2.2.1 zA)), (0, .ref (ad 0)), (1, .int (nI zA)), (2, .long zB)]) hx hb dX4_height_38 hl (by decide) rfl (fun ls hl => ?_)
      refine lv_aload_n hx hb dX4_height_40 rfl (lv_at hl 1 rfl) ?_
      refine va_get (D := D) (ci := 4) (v := .ref (ad 1)) (C := RX4) (T := TX4) (N := 10) hx hb hts (inT inX4) hown hK hP 0 ww_0 rfl 2 (by decide) (hts (.fieldLink RX4 12 "BoardMoves" "parts" "LBoardMoves$Parts;") (List.mem_cons_of_mem _ flX4_12)) (fun _ h9 => h9) rfl dX4_height_41 ?_
      refine va_get (D := D) (ci := 1) (v := .ref (ad 5)) (C := RX1) (T := TX1) (N := 7) hx hb hts (inT inX1) hown hK hP 1 ww_1 rfl 3 (by decide) (hts (.fieldLink RX4 188 "BoardMoves$Parts" "tall" "[J") (List.mem_cons_of_mem _ flX4_188)) (fun _ h9 => h9) rfl dX4_height_44 ?_
      refine lv_iload_n hx hb dX4_height_47 rfl (lv_at hl 2 rfl) ?_
      refine lv_lload_n hx hb dX4_height_48 rfl (lv_at hl 3 rfl) ?_
      refine bm_last (f := pa.2.2.2.1) hx hb hK hP hD hS 5 0 ww_5 rfl (j := zA) (x := zB) (by omega) (by decide) dX4_height_49 (fun H locs hP hD hS => ?_)
      have hP : va_P D vwCl (WW ad cJ cI cZ bm (pa.1, pa.2.1, pa.2.2.1, va_up pa.2.2.2.1 zA zB, pa.2.2.2.2.1, pa.2.2.2.2.2.1, pa.2.2.2.2.2.2) p0 p1 p2 li wi mt ms ma mp mk mn ou) H := hP
      have hD : va_D A (WW ad cJ cI cZ bm (pa.1, pa.2.1, pa.2.2.1, va_up pa.2.2.2.1 zA zB, pa.2.2.2.2.1, pa.2.2.2.2.2.1, pa.2.2.2.2.2.2) p0 p1 p2 li wi mt ms ma mp mk mn ou) := hD
      refine lv_aload_n hx hb dX4_height_50 rfl (lv_at hl 1 rfl) ?_
      refine lv_iload_n hx hb dX4_height_51 rfl (lv_at hl 2 rfl) ?_
      refine bm_rcallV (As := [.int (nI zA)]) (rest := []) ⟨hx, hb, hml, hown, hts⟩ (r_well (pa := (pa.1, pa.2.1, pa.2.2.1, va_up pa.2.2.2.1 zA zB, pa.2.2.2.2.1, pa.2.2.2.2.2.1, pa.2.2.2.2.2.2)) (j := zA) ⟨ok_pa_n, ok_pa_side, ok_pa_lowest⟩ ok_p0_turn ⟨ok_li_one, ok_li_other, ok_li_keepOuts, ok_li_nears⟩ (by omega)) (cwV 1 hts gvX4_220 rfl rfl rfl hvX4_standsWell ⟨Nat.le_of_ble_eq_true rfl, Nat.le_of_ble_eq_true rfl⟩) hK hP 0 4 rfl ww_0 rfl hl.1 rfl (Nat.le_of_ble_eq_true rfl) dX4_height_52 ⟨Nat.le_of_ble_eq_true rfl, Nat.le_of_ble_eq_true rfl⟩ ?_
      refine bm_zb_ne (x := (q_well bm (pa.1, pa.2.1, pa.2.2.1, va_up pa.2.2.2.1 zA zB, pa.2.2.2.2.1, pa.2.2.2.2.2.1, pa.2.2.2.2.2.2) p0 li zA)) (tgt := 71) hx hb dX4_height_55 (by decide) (fun c_3 => ?_) (fun c_3 => ?_)
      · refine lv_iconst (v := bm_b true) hx hb dX4_height_71 (by decide) ?_
        exact bm_zretX (v := true) hx hb hr hP hD hK hS ⟨bm, (pa.1, pa.2.1, pa.2.2.1, va_up pa.2.2.2.1 zA zB, pa.2.2.2.2.1, pa.2.2.2.2.2.1, pa.2.2.2.2.2.2), p0, p1, p2, li, wi, ou, ⟨ok_pa_n, ok_pa_side, ok_pa_lowest, ok_p0_turn, ok_p1_turn, ok_p2_turn, ok_li_one, ok_li_other, ok_li_keepOuts, ok_li_nears, ok_wi_netOf, ok_wi_partOf, ok_wi_nets, ok_wi_pins, hw, hh, (INV_tall hI c_3)⟩, rfl, rfl, true, rfl⟩ dX4_height_72 hlocks
      · refine lv_aload_n hx hb dX4_height_58 rfl (lv_at hl 1 rfl) ?_
        refine va_get (D := D) (ci := 4) (v := .ref (ad 1)) (C := RX4) (T := TX4) (N := 10) hx hb hts (inT inX4) hown hK hP 0 ww_0 rfl 2 (by decide) (hts (.fieldLink RX4 12 "BoardMoves" "parts" "LBoardMoves$Parts;") (List.mem_cons_of_mem _ flX4_12)) (fun _ h9 => h9) rfl dX4_height_59 ?_
        refine va_get (D := D) (ci := 1) (v := .ref (ad 5)) (C := RX1) (T := TX1) (N := 7) hx hb hts (inT inX1) hown hK hP 1 ww_1 rfl 3 (by decide) (hts (.fieldLink RX4 188 "BoardMoves$Parts" "tall" "[J") (List.mem_cons_of_mem _ flX4_188)) (fun _ h9 => h9) rfl dX4_height_62 ?_
        refine lv_iload_n hx hb dX4_height_65 rfl (lv_at hl 2 rfl) ?_
        refine lv_lload hx hb dX4_height_66 (lv_at hl 0 rfl) ?_
        refine bm_last (f := (va_up pa.2.2.2.1 zA zB)) hx hb hK hP hD hS 5 0 ww_5 rfl (j := zA) (x := (pa.2.2.2.1 zA)) (by omega) (by decide) dX4_height_68 (fun H locs hP hD hS => ?_)
        have hP : va_P D vwCl (WW ad cJ cI cZ bm (pa.1, pa.2.1, pa.2.2.1, va_up (va_up pa.2.2.2.1 zA zB) zA (pa.2.2.2.1 zA), pa.2.2.2.2.1, pa.2.2.2.2.2.1, pa.2.2.2.2.2.2) p0 p1 p2 li wi mt ms ma mp mk mn ou) H := hP
        have hD : va_D A (WW ad cJ cI cZ bm (pa.1, pa.2.1, pa.2.2.1, va_up (va_up pa.2.2.2.1 zA zB) zA (pa.2.2.2.1 zA), pa.2.2.2.2.1, pa.2.2.2.2.2.1, pa.2.2.2.2.2.2) p0 p1 p2 li wi mt ms ma mp mk mn ou) := hD
        refine lv_iconst (v := bm_b false) hx hb dX4_height_69 (by decide) ?_
        exact bm_zretX (v := false) hx hb hr hP hD hK hS ⟨bm, (pa.1, pa.2.1, pa.2.2.1, va_up (va_up pa.2.2.2.1 zA zB) zA (pa.2.2.2.1 zA), pa.2.2.2.2.1, pa.2.2.2.2.2.1, pa.2.2.2.2.2.2), p0, p1, p2, li, wi, ou, ⟨ok_pa_n, ok_pa_side, ok_pa_lowest, ok_p0_turn, ok_p1_turn, ok_p2_turn, ok_li_one, ok_li_other, ok_li_keepOuts, ok_li_nears, ok_wi_netOf, ok_wi_partOf, ok_wi_nets, ok_wi_pins, hw, hh, (INV_tallb hI)⟩, rfl, rfl, false, rfl⟩ dX4_height_70 hlocks
    · exact absurd hv (by simp [q_ht, c_2])

set_option maxHeartbeats 16000000 in
set_option maxRecDepth 100000 in
theorem Z_side {l : Launch} {D : va_G} {ad : Nat → Nat} {cJ cI cZ : ClassId} {bm : gBM} {pa : gPA} {p0 p1 p2 : gPL} {li : gLI} {wi : gWI} {mt : Nat} {ms : gMS} {ma : gMA} {mp : gMP} {mk : gMK} {mn : gMN} {ou : Nat → Int64} {zA : Nat} (hok : okC bm pa p0 p1 p2 li wi) (hk_zA : zA < pa.2.2.2.2.2.2) : bm_Wx l yX4_side wsX4_side ({ frames := 1, cells := 0, slots := 0, locals := 21 }) D vwCl [(cJ, .long), (cI, .int), (cZ, .boolean)] (WW ad cJ cI cZ bm pa p0 p1 p2 li wi mt ms ma mp mk mn ou) [.ref (ad 0), .int (nI zA)] (PCI ad cJ cI cZ bm pa p0 p1 p2 li wi mt ms ma mp mk mn ou) := by
  obtain ⟨ok_pa_n, ok_pa_side, ok_pa_lowest, ok_p0_turn, ok_p1_turn, ok_p2_turn, ok_li_one, ok_li_other, ok_li_keepOuts, ok_li_nears, ok_wi_netOf, ok_wi_partOf, ok_wi_nets, ok_wi_pins, hw, hh, hI⟩ := hok
  intro sz
  refine Met.ofW (cc := cX4_side) (maxL := 2) (ret := (some .int)) (by decide) rfl ?_
  intro p e s m args below meth c s₁ B hml hv
  obtain ⟨ha, hsz, hP, hK, hD0⟩ := hv
  have hx := B.exec
  have hb := B.bytes
  have hr := B.returns
  have hts := atoms_spec (ws := wsX4_side) B.pre
  have hown : s.vm.findClass RX4 = some m.cls := findClass_of_methodNamed B.named
  have hlocks := B.notSynchronized
  subst hsz
  have hD := hD0.self (sz := s.heap.size)
  generalize hAe : va_A (WW ad cJ cI cZ bm pa p0 p1 p2 li wi mt ms ma mp mk mn ou) s.heap.size = A at hD ⊢
  have hA : ∀ q : Nat, s.heap.size ≤ q → A q := fun q h => by rw [← hAe]; exact Or.inr h
  have hS : va_S A s.heap s.heap [] := va_S.rf
  have hl := lv_entry ([.ref (ad 0), .int (nI zA)]) (n := 2) (Nat.le_of_ble_eq_true rfl)
  refine W.eq (g2 := entryFrame m ([.ref (ad 0), .int (nI zA)] : List Value).toArray 2) (by rw [ha]) ?_
  rw [lg_entry_eq]
  generalize (lg_sl ([.ref (ad 0), .int (nI zA)]) ++ List.replicate (2 - (lg_sl ([.ref (ad 0), .int (nI zA)])).length) Slot.unset).toArray = ls at hl ⊢
  have hl : lv_has ls 2 [(0, .ref (ad 0)), (1, .int (nI zA))] := hl
  refine lv_aload_n hx hb dX4_side_0 rfl (lv_at hl 0 rfl) ?_
  refine lv_iload_n hx hb dX4_side_1 rfl (lv_at hl 1 rfl) ?_
  refine bm_vcallV (As := [.int (nI zA)]) (rest := []) ⟨hx, hb, hml, hown, hts⟩ (X_needY  (zp := zA) ok_pa_n (by omega)) (cwV 1 hts gvX4_86 rfl rfl rfl hvX4_needPart ⟨Nat.le_of_ble_eq_true rfl, Nat.le_of_ble_eq_true rfl⟩) hK hP 0 4 rfl ww_0 rfl hl.1 rfl (Nat.le_of_ble_eq_true rfl) dX4_side_2 ⟨Nat.le_of_ble_eq_true rfl, Nat.le_of_ble_eq_true rfl⟩ ?_
  refine lv_aload_n hx hb dX4_side_5 rfl (lv_at hl 0 rfl) ?_
  refine va_get (D := D) (ci := 4) (v := .ref (ad 1)) (C := RX4) (T := TX4) (N := 10) hx hb hts (inT inX4) hown hK hP 0 ww_0 rfl 2 (by decide) (hts (.fieldLink RX4 12 "BoardMoves" "parts" "LBoardMoves$Parts;") (List.mem_cons_of_mem _ flX4_12)) (fun _ h9 => h9) rfl dX4_side_6 ?_
  refine va_get (D := D) (ci := 1) (v := .ref (ad 4)) (C := RX1) (T := TX1) (N := 7) hx hb hts (inT inX1) hown hK hP 1 ww_1 rfl 2 (by decide) (hts (.fieldLink RX4 235 "BoardMoves$Parts" "side" "[I") (List.mem_cons_of_mem _ flX4_235)) (fun _ h9 => h9) rfl dX4_side_9 ?_
  refine lv_iload_n hx hb dX4_side_12 rfl (lv_at hl 1 rfl) ?_
  refine bm_nald (f := pa.2.2.1) hx hb hK hP 4 1 ww_4 rfl (j := zA) (by omega) (by decide) dX4_side_13 ?_
  exact bm_iretX (v := (nI (pa.2.2.1 zA))) hx hb hr hP hD hK hS ⟨bm, pa, p0, p1, p2, li, wi, ou, ⟨ok_pa_n, ok_pa_side, ok_pa_lowest, ok_p0_turn, ok_p1_turn, ok_p2_turn, ok_li_one, ok_li_other, ok_li_keepOuts, ok_li_nears, ok_wi_netOf, ok_wi_partOf, ok_wi_nets, ok_wi_pins, hw, hh, (INV_to hI rfl rfl rfl rfl rfl rfl rfl)⟩, rfl, rfl, (nI (pa.2.2.1 zA)), rfl⟩ dX4_side_14 hlocks

set_option maxHeartbeats 16000000 in
set_option maxRecDepth 100000 in
theorem Z_wire {l : Launch} {D : va_G} {ad : Nat → Nat} {cJ cI cZ : ClassId} {bm : gBM} {pa : gPA} {p0 p1 p2 : gPL} {li : gLI} {wi : gWI} {mt : Nat} {ms : gMS} {ma : gMA} {mp : gMP} {mk : gMK} {mn : gMN} {ou : Nat → Int64}  (hok : okC bm pa p0 p1 p2 li wi)  : bm_Wx l yX4_wire wsX4_wire ({ frames := 0, cells := 0, slots := 0, locals := 0 }) D vwCl [(cJ, .long), (cI, .int), (cZ, .boolean)] (WW ad cJ cI cZ bm pa p0 p1 p2 li wi mt ms ma mp mk mn ou) [.ref (ad 0)] (PCJ ad cJ cI cZ bm pa p0 p1 p2 li wi mt ms ma mp mk mn ou) := by
  obtain ⟨ok_pa_n, ok_pa_side, ok_pa_lowest, ok_p0_turn, ok_p1_turn, ok_p2_turn, ok_li_one, ok_li_other, ok_li_keepOuts, ok_li_nears, ok_wi_netOf, ok_wi_partOf, ok_wi_nets, ok_wi_pins, hw, hh, hI⟩ := hok
  intro sz
  refine Met.ofW (cc := cX4_wire) (maxL := 1) (ret := (some .long)) (by decide) rfl ?_
  intro p e s m args below meth c s₁ B hml hv
  obtain ⟨ha, hsz, hP, hK, hD0⟩ := hv
  have hx := B.exec
  have hb := B.bytes
  have hr := B.returns
  have hts := atoms_spec (ws := wsX4_wire) B.pre
  have hown : s.vm.findClass RX4 = some m.cls := findClass_of_methodNamed B.named
  have hlocks := B.notSynchronized
  subst hsz
  have hD := hD0.self (sz := s.heap.size)
  generalize hAe : va_A (WW ad cJ cI cZ bm pa p0 p1 p2 li wi mt ms ma mp mk mn ou) s.heap.size = A at hD ⊢
  have hA : ∀ q : Nat, s.heap.size ≤ q → A q := fun q h => by rw [← hAe]; exact Or.inr h
  have hS : va_S A s.heap s.heap [] := va_S.rf
  have hl := lv_entry ([.ref (ad 0)]) (n := 1) (Nat.le_of_ble_eq_true rfl)
  refine W.eq (g2 := entryFrame m ([.ref (ad 0)] : List Value).toArray 1) (by rw [ha]) ?_
  rw [lg_entry_eq]
  generalize (lg_sl ([.ref (ad 0)]) ++ List.replicate (1 - (lg_sl ([.ref (ad 0)])).length) Slot.unset).toArray = ls at hl ⊢
  have hl : lv_has ls 1 [(0, .ref (ad 0))] := hl
  refine lv_aload_n hx hb dX4_wire_0 rfl (lv_at hl 0 rfl) ?_
  refine va_get (D := D) (ci := 4) (v := .long bm.2.2.2) (C := RX4) (T := TX4) (N := 10) hx hb hts (inT inX4) hown hK hP 0 ww_0 rfl 9 (by decide) (hts (.fieldLink RX4 47 "BoardMoves" "keptWire" "J") (List.mem_cons_of_mem _ flX4_47)) (fun _ h9 => h9) rfl dX4_wire_1 ?_
  exact bm_lretX (v := bm.2.2.2) hx hb hr hP hD hK hS ⟨bm, pa, p0, p1, p2, li, wi, ou, ⟨ok_pa_n, ok_pa_side, ok_pa_lowest, ok_p0_turn, ok_p1_turn, ok_p2_turn, ok_li_one, ok_li_other, ok_li_keepOuts, ok_li_nears, ok_wi_netOf, ok_wi_partOf, ok_wi_nets, ok_wi_pins, hw, hh, (INV_to hI rfl rfl rfl rfl rfl rfl rfl)⟩, rfl, rfl, bm.2.2.2, rfl⟩ dX4_wire_4 hlocks

set_option maxHeartbeats 16000000 in
set_option maxRecDepth 100000 in
theorem Z_full {l : Launch} {D : va_G} {ad : Nat → Nat} {cJ cI cZ : ClassId} {bm : gBM} {pa : gPA} {p0 p1 p2 : gPL} {li : gLI} {wi : gWI} {mt : Nat} {ms : gMS} {ma : gMA} {mp : gMP} {mk : gMK} {mn : gMN} {ou : Nat → Int64}  (hok : okC bm pa p0 p1 p2 li wi)  : bm_Wx l yX4_full wsX4_full ({ frames := 3, cells := 0, slots := 0, locals := 74 }) D vwCl [(cJ, .long), (cI, .int), (cZ, .boolean)] (WW ad cJ cI cZ bm pa p0 p1 p2 li wi mt ms ma mp mk mn ou) [.ref (ad 0)] (PCJ ad cJ cI cZ bm pa p0 p1 p2 li wi mt ms ma mp mk mn ou) := by
  obtain ⟨ok_pa_n, ok_pa_side, ok_pa_lowest, ok_p0_turn, ok_p1_turn, ok_p2_turn, ok_li_one, ok_li_other, ok_li_keepOuts, ok_li_nears, ok_wi_netOf, ok_wi_partOf, ok_wi_nets, ok_wi_pins, hw, hh, hI⟩ := hok
  intro sz
  refine Met.ofW (cc := cX4_full) (maxL := 1) (ret := (some .long)) (by decide) rfl ?_
  intro p e s m args below meth c s₁ B hml hv
  obtain ⟨ha, hsz, hP, hK, hD0⟩ := hv
  have hx := B.exec
  have hb := B.bytes
  have hr := B.returns
  have hts := atoms_spec (ws := wsX4_full) B.pre
  have hown : s.vm.findClass RX4 = some m.cls := findClass_of_methodNamed B.named
  have hlocks := B.notSynchronized
  subst hsz
  have hD := hD0.self (sz := s.heap.size)
  generalize hAe : va_A (WW ad cJ cI cZ bm pa p0 p1 p2 li wi mt ms ma mp mk mn ou) s.heap.size = A at hD ⊢
  have hA : ∀ q : Nat, s.heap.size ≤ q → A q := fun q h => by rw [← hAe]; exact Or.inr h
  have hS : va_S A s.heap s.heap [] := va_S.rf
  have hl := lv_entry ([.ref (ad 0)]) (n := 1) (Nat.le_of_ble_eq_true rfl)
  refine W.eq (g2 := entryFrame m ([.ref (ad 0)] : List Value).toArray 1) (by rw [ha]) ?_
  rw [lg_entry_eq]
  generalize (lg_sl ([.ref (ad 0)]) ++ List.replicate (1 - (lg_sl ([.ref (ad 0)])).length) Slot.unset).toArray = ls at hl ⊢
  have hl : lv_has ls 1 [(0, .ref (ad 0))] := hl
  refine lv_aload_n hx hb dX4_full_0 rfl (lv_at hl 0 rfl) ?_
  refine va_get (D := D) (ci := 4) (v := .ref (ad 32)) (C := RX4) (T := TX4) (N := 10) hx hb hts (inT inX4) hown hK hP 0 ww_0 rfl 4 (by decide) (hts (.fieldLink RX4 30 "BoardMoves" "wiring" "LBoardMoves$Wiring;") (List.mem_cons_of_mem _ flX4_30)) (fun _ h9 => h9) rfl dX4_full_1 ?_
  refine lv_aload_n hx hb dX4_full_4 rfl (lv_at hl 0 rfl) ?_
  refine va_get (D := D) (ci := 4) (v := .ref (ad 8)) (C := RX4) (T := TX4) (N := 10) hx hb hts (inT inX4) hown hK hP 0 ww_0 rfl 5 (by decide) (hts (.fieldLink RX4 37 "BoardMoves" "now" "LBoardMoves$Placement;") (List.mem_cons_of_mem _ flX4_37)) (fun _ h9 => h9) rfl dX4_full_5 ?_
  refine bm_xcallV (As := [.ref (ad 8)]) (rest := []) ⟨hx, hb, hml, hown, hts⟩ (x_meas   ok_wi_nets ok_wi_pins ok_wi_netOf ok_wi_partOf ok_p0_turn ) (cwV 1 hts gvX4_160 rfl rfl rfl hvX3_measure ⟨Nat.le_of_ble_eq_true rfl, Nat.le_of_ble_eq_true rfl⟩) hK hP hD hS hA 32 3 rfl ww_32 rfl hl.1 rfl (Nat.le_of_ble_eq_true rfl) dX4_full_8 ⟨Nat.le_of_ble_eq_true rfl, Nat.le_of_ble_eq_true rfl⟩ (fun ws_1 r_2 h_3 H locs hP hD hS => ?_)
  obtain ⟨g_4, g_5, g_6, g_7, g_8, rfl, v_9, rfl⟩ := h_3
  have hP : va_P D vwCl (WW ad cJ cI cZ bm pa p0 p1 p2 li (wi.1, wi.2.1, wi.2.2.1, wi.2.2.2.1, g_4, g_5, g_6, g_7, g_8, wi.2.2.2.2.2.2.2.2.2.1, wi.2.2.2.2.2.2.2.2.2.2) mt ms ma mp mk mn ou) H := hP
  have hD : va_D A (WW ad cJ cI cZ bm pa p0 p1 p2 li (wi.1, wi.2.1, wi.2.2.1, wi.2.2.2.1, g_4, g_5, g_6, g_7, g_8, wi.2.2.2.2.2.2.2.2.2.1, wi.2.2.2.2.2.2.2.2.2.2) mt ms ma mp mk mn ou) := hD
  exact bm_lretX (v := v_9) hx hb hr hP hD hK hS ⟨bm, pa, p0, p1, p2, li, (wi.1, wi.2.1, wi.2.2.1, wi.2.2.2.1, g_4, g_5, g_6, g_7, g_8, wi.2.2.2.2.2.2.2.2.2.1, wi.2.2.2.2.2.2.2.2.2.2), ou, ⟨ok_pa_n, ok_pa_side, ok_pa_lowest, ok_p0_turn, ok_p1_turn, ok_p2_turn, ok_li_one, ok_li_other, ok_li_keepOuts, ok_li_nears, ok_wi_netOf, ok_wi_partOf, ok_wi_nets, ok_wi_pins, hw, hh, (INV_to hI rfl rfl rfl rfl rfl rfl rfl)⟩, rfl, rfl, v_9, rfl⟩ dX4_full_11 hlocks
