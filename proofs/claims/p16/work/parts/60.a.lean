set_option maxHeartbeats 4000000 in
set_option maxRecDepth 100000 in
theorem Y_isPartY {l : Launch} {D : va_G} {ad : Nat → Nat} {cJ cI cZ : ClassId} {bm : gBM} {pa : gPA} {p0 p1 p2 : gPL} {li : gLI} {wi : gWI} {mt : Nat} {ms : gMS} {ma : gMA} {mp : gMP} {mk : gMK} {mn : gMN} {ou : Nat → Int64} {zp : Nat} (ok : ms.2.2.1 ≤ 40) (hk : zp < ms.2.2.1) : bm_Rd l yX5_isPart wsX5_isPart ({ frames := 0, cells := 0, slots := 0, locals := 0 }) D vwCl [(cJ, .long), (cI, .int), (cZ, .boolean)] (WW ad cJ cI cZ bm pa p0 p1 p2 li wi mt ms ma mp mk mn ou) [.ref (ad 42), .int (nI zp)] (.int (bm_b true)) := by
  refine Met.ofW (cc := cX5_isPart) (maxL := 2) (ret := (some .boolean)) (by decide) rfl ?_
  intro p e s m args below meth c s₁ B hml hv
  obtain ⟨ha, hP, hK⟩ := hv
  have hx := B.exec
  have hb := B.bytes
  have hr := B.returns
  have hts := atoms_spec (ws := wsX5_isPart) B.pre
  have hown : s.vm.findClass RX5 = some m.cls := findClass_of_methodNamed B.named
  have hlocks := B.notSynchronized
  have hl := lv_entry ([.ref (ad 42), .int (nI zp)]) (n := 2) (Nat.le_of_ble_eq_true rfl)
  refine W.eq (g2 := entryFrame m ([.ref (ad 42), .int (nI zp)] : List Value).toArray 2) (by rw [ha]) ?_
  rw [lg_entry_eq]
  generalize (lg_sl ([.ref (ad 42), .int (nI zp)]) ++ List.replicate (2 - (lg_sl ([.ref (ad 42), .int (nI zp)])).length) Slot.unset).toArray = ls at hl ⊢
  have hl : lv_has ls 2 [(0, .ref (ad 42)), (1, .int (nI zp))] := hl
  refine lv_iload_n hx hb dX5_isPart_0 rfl (lv_at hl 1 rfl) ?_
  refine lv_if_lt (x := (nI zp)) (tgt := 16) hx hb dX5_isPart_1 (by decide) (fun c_1 => ?_) (fun c_1 => ?_)
  · exact absurd c_1 (bx_nn (by omega))
  · refine lv_iload_n hx hb dX5_isPart_4 rfl (lv_at hl 1 rfl) ?_
    refine lv_aload_n hx hb dX5_isPart_5 rfl (lv_at hl 0 rfl) ?_
    refine va_get (D := D) (ci := 5) (v := .int (nI ms.2.2.1)) (C := RX5) (T := TX5) (N := 28) hx hb hts (inT inX5) hown hK hP 42 ww_42 rfl 3 (by decide) (hts (.fieldLink RX5 85 "BoardMovesModel" "parts" "I") (List.mem_cons_of_mem _ flX5_85)) (fun _ h9 => h9) rfl dX5_isPart_6 ?_
    refine bm_ni_ge (x := zp) (y := ms.2.2.1) (tgt := 16) hx hb (by omega) (by omega) dX5_isPart_9 (by decide) (fun c_2 => ?_) (fun c_2 => ?_)
    · exact absurd hk c_2
    · refine lv_iconst (v := bm_b true) hx hb dX5_isPart_12 (by decide) ?_
      refine lv_goto (tgt := 17) hx hb dX5_isPart_13 (by decide) ?_
      exact bm_zretR (v := true) hx hb hr rfl dX5_isPart_17 hlocks

set_option maxHeartbeats 4000000 in
set_option maxRecDepth 100000 in
theorem Y_isPartN {l : Launch} {D : va_G} {ad : Nat → Nat} {cJ cI cZ : ClassId} {bm : gBM} {pa : gPA} {p0 p1 p2 : gPL} {li : gLI} {wi : gWI} {mt : Nat} {ms : gMS} {ma : gMA} {mp : gMP} {mk : gMK} {mn : gMN} {ou : Nat → Int64} {zA : Int32} (hno : ¬ (¬ zA < 0 ∧ zA < nI ms.2.2.1)) : bm_Rd l yX5_isPart wsX5_isPart ({ frames := 0, cells := 0, slots := 0, locals := 0 }) D vwCl [(cJ, .long), (cI, .int), (cZ, .boolean)] (WW ad cJ cI cZ bm pa p0 p1 p2 li wi mt ms ma mp mk mn ou) [.ref (ad 42), .int zA] (.int (bm_b false)) := by
  refine Met.ofW (cc := cX5_isPart) (maxL := 2) (ret := (some .boolean)) (by decide) rfl ?_
  intro p e s m args below meth c s₁ B hml hv
  obtain ⟨ha, hP, hK⟩ := hv
  have hx := B.exec
  have hb := B.bytes
  have hr := B.returns
  have hts := atoms_spec (ws := wsX5_isPart) B.pre
  have hown : s.vm.findClass RX5 = some m.cls := findClass_of_methodNamed B.named
  have hlocks := B.notSynchronized
  have hl := lv_entry ([.ref (ad 42), .int zA]) (n := 2) (Nat.le_of_ble_eq_true rfl)
  refine W.eq (g2 := entryFrame m ([.ref (ad 42), .int zA] : List Value).toArray 2) (by rw [ha]) ?_
  rw [lg_entry_eq]
  generalize (lg_sl ([.ref (ad 42), .int zA]) ++ List.replicate (2 - (lg_sl ([.ref (ad 42), .int zA])).length) Slot.unset).toArray = ls at hl ⊢
  have hl : lv_has ls 2 [(0, .ref (ad 42)), (1, .int zA)] := hl
  refine lv_iload_n hx hb dX5_isPart_0 rfl (lv_at hl 1 rfl) ?_
  refine lv_if_lt (x := zA) (tgt := 16) hx hb dX5_isPart_1 (by decide) (fun c_1 => ?_) (fun c_1 => ?_)
  · refine lv_iconst (v := bm_b false) hx hb dX5_isPart_16 (by decide) ?_
    exact bm_zretR (v := false) hx hb hr rfl dX5_isPart_17 hlocks
  · refine lv_iload_n hx hb dX5_isPart_4 rfl (lv_at hl 1 rfl) ?_
    refine lv_aload_n hx hb dX5_isPart_5 rfl (lv_at hl 0 rfl) ?_
    refine va_get (D := D) (ci := 5) (v := .int (nI ms.2.2.1)) (C := RX5) (T := TX5) (N := 28) hx hb hts (inT inX5) hown hK hP 42 ww_42 rfl 3 (by decide) (hts (.fieldLink RX5 85 "BoardMovesModel" "parts" "I") (List.mem_cons_of_mem _ flX5_85)) (fun _ h9 => h9) rfl dX5_isPart_6 ?_
    refine lv_icmp_ge (x := zA) (y := (nI ms.2.2.1)) (tgt := 16) hx hb dX5_isPart_9 (by decide) (fun c_2 => ?_) (fun c_2 => ?_)
    · refine lv_iconst (v := bm_b false) hx hb dX5_isPart_16 (by decide) ?_
      exact bm_zretR (v := false) hx hb hr rfl dX5_isPart_17 hlocks
    · exact absurd ⟨c_1, bx_nlt c_2⟩ hno

set_option maxHeartbeats 16000000 in
set_option maxRecDepth 100000 in
theorem Y_lock {l : Launch} {D : va_G} {ad : Nat → Nat} {cJ cI cZ : ClassId} {bm : gBM} {pa : gPA} {p0 p1 p2 : gPL} {li : gLI} {wi : gWI} {mt : Nat} {ms : gMS} {ma : gMA} {mp : gMP} {mk : gMK} {mn : gMN} {ou : Nat → Int64} {zA : Int32} {zB : Bool} (hok : okM ms ma mp mk mn)  : bm_Wx l yX5_lock wsX5_lock ({ frames := 1, cells := 0, slots := 0, locals := 21 }) D vwCl [(cJ, .long), (cI, .int), (cZ, .boolean)] (WW ad cJ cI cZ bm pa p0 p1 p2 li wi mt ms ma mp mk mn ou) [.ref (ad 42), .int zA, .int (bm_b zB)] (PMZ ad cJ cI cZ bm pa p0 p1 p2 li wi mt ms ma mp mk mn ou) := by
  obtain ⟨ok_ms_parts, ok_ms_outs, ok_ms_nears, ok_ms_nets, ok_ms_pins, ok_ma_sides, ok_ma_groups, ok_mp_turns, ok_mk_nearOne, ok_mk_nearTwo, ok_mn_pinNet, ok_mn_pinPart, hw, hh⟩ := hok
  intro sz
  refine Met.ofW (cc := cX5_lock) (maxL := 4) (ret := (some .boolean)) (by decide) rfl ?_
  intro p e s m args below meth c s₁ B hml hv
  obtain ⟨ha, hsz, hP, hK, hD0⟩ := hv
  have hx := B.exec
  have hb := B.bytes
  have hr := B.returns
  have hts := atoms_spec (ws := wsX5_lock) B.pre
  have hown : s.vm.findClass RX5 = some m.cls := findClass_of_methodNamed B.named
  have hlocks := B.notSynchronized
  subst hsz
  have hD := hD0.self (sz := s.heap.size)
  generalize hAe : va_A (WW ad cJ cI cZ bm pa p0 p1 p2 li wi mt ms ma mp mk mn ou) s.heap.size = A at hD ⊢
  have hA : ∀ q : Nat, s.heap.size ≤ q → A q := fun q h => by rw [← hAe]; exact Or.inr h
  have hS : va_S A s.heap s.heap [] := va_S.rf
  rcases bx_idx zA (n := ms.2.2.1) (by omega) with ⟨k_zA, hk_zA, rfl⟩ | hno_zA
  · have hl := lv_entry ([.ref (ad 42), .int (nI k_zA), .int (bm_b zB)]) (n := 4) (Nat.le_of_ble_eq_true rfl)
    refine W.eq (g2 := entryFrame m ([.ref (ad 42), .int (nI k_zA), .int (bm_b zB)] : List Value).toArray 4) (by rw [ha]) ?_
    rw [lg_entry_eq]
    generalize (lg_sl ([.ref (ad 42), .int (nI k_zA), .int (bm_b zB)]) ++ List.replicate (4 - (lg_sl ([.ref (ad 42), .int (nI k_zA), .int (bm_b zB)])).length) Slot.unset).toArray = ls at hl ⊢
    have hl : lv_has ls 4 [(0, .ref (ad 42)), (1, .int (nI k_zA)), (2, .int (bm_b zB))] := hl
    refine lv_aload_n hx hb dX5_lock_0 rfl (lv_at hl 0 rfl) ?_
    refine lv_aload_n hx hb dX5_lock_1 rfl (lv_at hl 0 rfl) ?_
    refine lv_iload_n hx hb dX5_lock_2 rfl (lv_at hl 1 rfl) ?_
    refine bm_rcallV (As := [.int (nI k_zA)]) (rest := [.ref (ad 42)]) ⟨hx, hb, hml, hown, hts⟩ (Y_isPartY  (zp := k_zA) ok_ms_parts (by omega)) (cwV 1 hts gvX5_139 rfl rfl rfl hvX5_isPart ⟨Nat.le_of_ble_eq_true rfl, Nat.le_of_ble_eq_true rfl⟩) hK hP 42 5 rfl ww_42 rfl hl.1 rfl (Nat.le_of_ble_eq_true rfl) dX5_lock_3 ⟨Nat.le_of_ble_eq_true rfl, Nat.le_of_ble_eq_true rfl⟩ ?_
    refine bm_zb_eq (x := true) (tgt := 13) hx hb dX5_lock_6 (by decide) (fun c_1 => ?_) (fun c_1 => ?_)
    · exact absurd c_1 (by decide)
    · refine lv_iconst (v := nI 0) hx hb dX5_lock_9 (by decide) ?_
      refine lv_goto (tgt := 14) hx hb dX5_lock_10 (by decide) ?_
      refine va_put (D := D) (ci := 5) (v := .int (nI 0)) (ty := .int) (C := RX5) (T := TX5) (N := 28) hx hb hts (inT inX5) tyX5 tyX5_ok nmX5 hown hK hP hD hS 42 ww_42 rfl 0 (by decide) (hts (.fieldLink RX5 81 "BoardMovesModel" "thrown" "I") (List.mem_cons_of_mem _ flX5_81)) (fun _ h9 => h9) rfl (by decide +kernel) rfl rfl (Nat.le_of_ble_eq_true rfl) dX5_lock_14 (fun H locs hP hD hS => ?_)
      have hP : va_P D vwCl (WW ad cJ cI cZ bm pa p0 p1 p2 li wi (0) ms ma mp mk mn ou) H := hP
      have hD : va_D A (WW ad cJ cI cZ bm pa p0 p1 p2 li wi (0) ms ma mp mk mn ou) := hD
      refine lv_aload_n hx hb dX5_lock_17 rfl (lv_at hl 0 rfl) ?_
      refine va_get (D := D) (ci := 5) (v := .int (nI 0)) (C := RX5) (T := TX5) (N := 28) hx hb hts (inT inX5) hown hK hP 42 ww_42 rfl 0 (by decide) (hts (.fieldLink RX5 81 "BoardMovesModel" "thrown" "I") (List.mem_cons_of_mem _ flX5_81)) (fun _ h9 => h9) rfl dX5_lock_18 ?_
      refine bm_nz_eq (x := 0) (tgt := 26) hx hb (by decide) dX5_lock_21 (by decide) (fun c_2 => ?_) (fun c_2 => ?_)
      · refine lv_aload_n hx hb dX5_lock_26 rfl (lv_at hl 0 rfl) ?_
        refine va_get (D := D) (ci := 5) (v := .ref (ad 47)) (C := RX5) (T := TX5) (N := 28) hx hb hts (inT inX5) hown hK hP 42 ww_42 rfl 8 (by decide) (hts (.fieldLink RX5 23 "BoardMovesModel" "locked" "[Z") (List.mem_cons_of_mem _ flX5_23)) (fun _ h9 => h9) rfl dX5_lock_27 ?_
        refine lv_iload_n hx hb dX5_lock_30 rfl (lv_at hl 1 rfl) ?_
        refine bm_zald (f := ma.2.2.2.2.1) hx hb hK hP 47 2 ww_47 rfl (j := k_zA) (by omega) (by decide) dX5_lock_31 ?_
        refine lv_iload_n hx hb dX5_lock_32 rfl (lv_at hl 2 rfl) ?_
        refine bm_bb_eq (x := (ma.2.2.2.2.1 k_zA)) (y := zB) (tgt := 40) hx hb dX5_lock_33 (by decide) (fun c_3 => ?_) (fun c_3 => ?_)
        · refine lv_iconst (v := bm_b false) hx hb dX5_lock_40 (by decide) ?_
          refine lv_istore_n (lv' := [(3, .int (bm_b false)), (0, .ref (ad 42)), (1, .int (nI k_zA)), (2, .int (bm_b zB))]) hx hb dX5_lock_41 rfl hl (by decide) rfl (fun ls hl => ?_)
          refine lv_aload_n hx hb dX5_lock_42 rfl (lv_at hl 1 rfl) ?_
          refine va_get (D := D) (ci := 5) (v := .ref (ad 47)) (C := RX5) (T := TX5) (N := 28) hx hb hts (inT inX5) hown hK hP 42 ww_42 rfl 8 (by decide) (hts (.fieldLink RX5 23 "BoardMovesModel" "locked" "[Z") (List.mem_cons_of_mem _ flX5_23)) (fun _ h9 => h9) rfl dX5_lock_43 ?_
          refine lv_iload_n hx hb dX5_lock_46 rfl (lv_at hl 2 rfl) ?_
          refine lv_iload_n hx hb dX5_lock_47 rfl (lv_at hl 3 rfl) ?_
          refine bm_zast (f := ma.2.2.2.2.1) hx hb hK hP hD hS 47 2 ww_47 rfl (j := k_zA) (x := zB) (by omega) (by decide) dX5_lock_48 (fun H locs hP hD hS => ?_)
          have hP : va_P D vwCl (WW ad cJ cI cZ bm pa p0 p1 p2 li wi (0) ms (ma.1, ma.2.1, ma.2.2.1, ma.2.2.2.1, va_up ma.2.2.2.2.1 k_zA zB, ma.2.2.2.2.2.1, ma.2.2.2.2.2.2) mp mk mn ou) H := hP
          have hD : va_D A (WW ad cJ cI cZ bm pa p0 p1 p2 li wi (0) ms (ma.1, ma.2.1, ma.2.2.1, ma.2.2.2.1, va_up ma.2.2.2.2.1 k_zA zB, ma.2.2.2.2.2.1, ma.2.2.2.2.2.2) mp mk mn ou) := hD
          refine lv_iload_n hx hb dX5_lock_49 rfl (lv_at hl 0 rfl) ?_
          exact bm_zretX (v := false) hx hb hr hP hD hK hS ⟨(0), ms, (ma.1, ma.2.1, ma.2.2.1, ma.2.2.2.1, va_up ma.2.2.2.2.1 k_zA zB, ma.2.2.2.2.2.1, ma.2.2.2.2.2.2), mp, mk, mn, ⟨ok_ms_parts, ok_ms_outs, ok_ms_nears, ok_ms_nets, ok_ms_pins, ok_ma_sides, ok_ma_groups, ok_mp_turns, ok_mk_nearOne, ok_mk_nearTwo, ok_mn_pinNet, ok_mn_pinPart, hw, hh⟩, rfl, rfl, false, rfl⟩ dX5_lock_50 hlocks
        · refine lv_iconst (v := bm_b true) hx hb dX5_lock_36 (by decide) ?_
          refine lv_goto (tgt := 41) hx hb dX5_lock_37 (by decide) ?_
          refine lv_istore_n (lv' := [(3, .int (bm_b true)), (0, .ref (ad 42)), (1, .int (nI k_zA)), (2, .int (bm_b zB))]) hx hb dX5_lock_41 rfl hl (by decide) rfl (fun ls hl => ?_)
          refine lv_aload_n hx hb dX5_lock_42 rfl (lv_at hl 1 rfl) ?_
          refine va_get (D := D) (ci := 5) (v := .ref (ad 47)) (C := RX5) (T := TX5) (N := 28) hx hb hts (inT inX5) hown hK hP 42 ww_42 rfl 8 (by decide) (hts (.fieldLink RX5 23 "BoardMovesModel" "locked" "[Z") (List.mem_cons_of_mem _ flX5_23)) (fun _ h9 => h9) rfl dX5_lock_43 ?_
          refine lv_iload_n hx hb dX5_lock_46 rfl (lv_at hl 2 rfl) ?_
          refine lv_iload_n hx hb dX5_lock_47 rfl (lv_at hl 3 rfl) ?_
          refine bm_zast (f := ma.2.2.2.2.1) hx hb hK hP hD hS 47 2 ww_47 rfl (j := k_zA) (x := zB) (by omega) (by decide) dX5_lock_48 (fun H locs hP hD hS => ?_)
          have hP : va_P D vwCl (WW ad cJ cI cZ bm pa p0 p1 p2 li wi (0) ms (ma.1, ma.2.1, ma.2.2.1, ma.2.2.2.1, va_up ma.2.2.2.2.1 k_zA zB, ma.2.2.2.2.2.1, ma.2.2.2.2.2.2) mp mk mn ou) H := hP
          have hD : va_D A (WW ad cJ cI cZ bm pa p0 p1 p2 li wi (0) ms (ma.1, ma.2.1, ma.2.2.1, ma.2.2.2.1, va_up ma.2.2.2.2.1 k_zA zB, ma.2.2.2.2.2.1, ma.2.2.2.2.2.2) mp mk mn ou) := hD
          refine lv_iload_n hx hb dX5_lock_49 rfl (lv_at hl 0 rfl) ?_
          exact bm_zretX (v := true) hx hb hr hP hD hK hS ⟨(0), ms, (ma.1, ma.2.1, ma.2.2.1, ma.2.2.2.1, va_up ma.2.2.2.2.1 k_zA zB, ma.2.2.2.2.2.1, ma.2.2.2.2.2.2), mp, mk, mn, ⟨ok_ms_parts, ok_ms_outs, ok_ms_nears, ok_ms_nets, ok_ms_pins, ok_ma_sides, ok_ma_groups, ok_mp_turns, ok_mk_nearOne, ok_mk_nearTwo, ok_mn_pinNet, ok_mn_pinPart, hw, hh⟩, rfl, rfl, true, rfl⟩ dX5_lock_50 hlocks
      · exact absurd c_2 (by decide)
  · have hl := lv_entry ([.ref (ad 42), .int zA, .int (bm_b zB)]) (n := 4) (Nat.le_of_ble_eq_true rfl)
    refine W.eq (g2 := entryFrame m ([.ref (ad 42), .int zA, .int (bm_b zB)] : List Value).toArray 4) (by rw [ha]) ?_
    rw [lg_entry_eq]
    generalize (lg_sl ([.ref (ad 42), .int zA, .int (bm_b zB)]) ++ List.replicate (4 - (lg_sl ([.ref (ad 42), .int zA, .int (bm_b zB)])).length) Slot.unset).toArray = ls at hl ⊢
    have hl : lv_has ls 4 [(0, .ref (ad 42)), (1, .int zA), (2, .int (bm_b zB))] := hl
    refine lv_aload_n hx hb dX5_lock_0 rfl (lv_at hl 0 rfl) ?_
    refine lv_aload_n hx hb dX5_lock_1 rfl (lv_at hl 0 rfl) ?_
    refine lv_iload_n hx hb dX5_lock_2 rfl (lv_at hl 1 rfl) ?_
    refine bm_rcallV (As := [.int zA]) (rest := [.ref (ad 42)]) ⟨hx, hb, hml, hown, hts⟩ (Y_isPartN  (zA := zA) hno_zA) (cwV 1 hts gvX5_139 rfl rfl rfl hvX5_isPart ⟨Nat.le_of_ble_eq_true rfl, Nat.le_of_ble_eq_true rfl⟩) hK hP 42 5 rfl ww_42 rfl hl.1 rfl (Nat.le_of_ble_eq_true rfl) dX5_lock_3 ⟨Nat.le_of_ble_eq_true rfl, Nat.le_of_ble_eq_true rfl⟩ ?_
    refine bm_zb_eq (x := false) (tgt := 13) hx hb dX5_lock_6 (by decide) (fun c_4 => ?_) (fun c_4 => ?_)
    · refine lv_iconst (v := nI 1) hx hb dX5_lock_13 (by decide) ?_
      refine va_put (D := D) (ci := 5) (v := .int (nI 1)) (ty := .int) (C := RX5) (T := TX5) (N := 28) hx hb hts (inT inX5) tyX5 tyX5_ok nmX5 hown hK hP hD hS 42 ww_42 rfl 0 (by decide) (hts (.fieldLink RX5 81 "BoardMovesModel" "thrown" "I") (List.mem_cons_of_mem _ flX5_81)) (fun _ h9 => h9) rfl (by decide +kernel) rfl rfl (Nat.le_of_ble_eq_true rfl) dX5_lock_14 (fun H locs hP hD hS => ?_)
      have hP : va_P D vwCl (WW ad cJ cI cZ bm pa p0 p1 p2 li wi (1) ms ma mp mk mn ou) H := hP
      have hD : va_D A (WW ad cJ cI cZ bm pa p0 p1 p2 li wi (1) ms ma mp mk mn ou) := hD
      refine lv_aload_n hx hb dX5_lock_17 rfl (lv_at hl 0 rfl) ?_
      refine va_get (D := D) (ci := 5) (v := .int (nI 1)) (C := RX5) (T := TX5) (N := 28) hx hb hts (inT inX5) hown hK hP 42 ww_42 rfl 0 (by decide) (hts (.fieldLink RX5 81 "BoardMovesModel" "thrown" "I") (List.mem_cons_of_mem _ flX5_81)) (fun _ h9 => h9) rfl dX5_lock_18 ?_
      refine bm_nz_eq (x := 1) (tgt := 26) hx hb (by decide) dX5_lock_21 (by decide) (fun c_5 => ?_) (fun c_5 => ?_)
      · exact absurd c_5 (by decide)
      · refine lv_iconst (v := bm_b false) hx hb dX5_lock_24 (by decide) ?_
        exact bm_zretX (v := false) hx hb hr hP hD hK hS ⟨(1), ms, ma, mp, mk, mn, ⟨ok_ms_parts, ok_ms_outs, ok_ms_nears, ok_ms_nets, ok_ms_pins, ok_ma_sides, ok_ma_groups, ok_mp_turns, ok_mk_nearOne, ok_mk_nearTwo, ok_mn_pinNet, ok_mn_pinPart, hw, hh⟩, rfl, rfl, false, rfl⟩ dX5_lock_25 hlocks
    · exact absurd c_4 (by decide)

set_option maxHeartbeats 16000000 in
set_option maxRecDepth 100000 in
theorem Y_side {l : Launch} {D : va_G} {ad : Nat → Nat} {cJ cI cZ : ClassId} {bm : gBM} {pa : gPA} {p0 p1 p2 : gPL} {li : gLI} {wi : gWI} {mt : Nat} {ms : gMS} {ma : gMA} {mp : gMP} {mk : gMK} {mn : gMN} {ou : Nat → Int64} {zA : Int32} (hok : okM ms ma mp mk mn)  : bm_Wx l yX5_side wsX5_side ({ frames := 1, cells := 0, slots := 0, locals := 21 }) D vwCl [(cJ, .long), (cI, .int), (cZ, .boolean)] (WW ad cJ cI cZ bm pa p0 p1 p2 li wi mt ms ma mp mk mn ou) [.ref (ad 42), .int zA] (PMI ad cJ cI cZ bm pa p0 p1 p2 li wi mt ms ma mp mk mn ou) := by
  obtain ⟨ok_ms_parts, ok_ms_outs, ok_ms_nears, ok_ms_nets, ok_ms_pins, ok_ma_sides, ok_ma_groups, ok_mp_turns, ok_mk_nearOne, ok_mk_nearTwo, ok_mn_pinNet, ok_mn_pinPart, hw, hh⟩ := hok
  intro sz
  refine Met.ofW (cc := cX5_side) (maxL := 2) (ret := (some .int)) (by decide) rfl ?_
  intro p e s m args below meth c s₁ B hml hv
  obtain ⟨ha, hsz, hP, hK, hD0⟩ := hv
  have hx := B.exec
  have hb := B.bytes
  have hr := B.returns
  have hts := atoms_spec (ws := wsX5_side) B.pre
  have hown : s.vm.findClass RX5 = some m.cls := findClass_of_methodNamed B.named
  have hlocks := B.notSynchronized
  subst hsz
  have hD := hD0.self (sz := s.heap.size)
  generalize hAe : va_A (WW ad cJ cI cZ bm pa p0 p1 p2 li wi mt ms ma mp mk mn ou) s.heap.size = A at hD ⊢
  have hA : ∀ q : Nat, s.heap.size ≤ q → A q := fun q h => by rw [← hAe]; exact Or.inr h
  have hS : va_S A s.heap s.heap [] := va_S.rf
  rcases bx_idx zA (n := ms.2.2.1) (by omega) with ⟨k_zA, hk_zA, rfl⟩ | hno_zA
  · have hl := lv_entry ([.ref (ad 42), .int (nI k_zA)]) (n := 2) (Nat.le_of_ble_eq_true rfl)
    refine W.eq (g2 := entryFrame m ([.ref (ad 42), .int (nI k_zA)] : List Value).toArray 2) (by rw [ha]) ?_
    rw [lg_entry_eq]
    generalize (lg_sl ([.ref (ad 42), .int (nI k_zA)]) ++ List.replicate (2 - (lg_sl ([.ref (ad 42), .int (nI k_zA)])).length) Slot.unset).toArray = ls at hl ⊢
    have hl : lv_has ls 2 [(0, .ref (ad 42)), (1, .int (nI k_zA))] := hl
    refine lv_aload_n hx hb dX5_side_0 rfl (lv_at hl 0 rfl) ?_
    refine lv_aload_n hx hb dX5_side_1 rfl (lv_at hl 0 rfl) ?_
    refine lv_iload_n hx hb dX5_side_2 rfl (lv_at hl 1 rfl) ?_
    refine bm_rcallV (As := [.int (nI k_zA)]) (rest := [.ref (ad 42)]) ⟨hx, hb, hml, hown, hts⟩ (Y_isPartY  (zp := k_zA) ok_ms_parts (by omega)) (cwV 1 hts gvX5_139 rfl rfl rfl hvX5_isPart ⟨Nat.le_of_ble_eq_true rfl, Nat.le_of_ble_eq_true rfl⟩) hK hP 42 5 rfl ww_42 rfl hl.1 rfl (Nat.le_of_ble_eq_true rfl) dX5_side_3 ⟨Nat.le_of_ble_eq_true rfl, Nat.le_of_ble_eq_true rfl⟩ ?_
    refine bm_zb_eq (x := true) (tgt := 13) hx hb dX5_side_6 (by decide) (fun c_1 => ?_) (fun c_1 => ?_)
    · exact absurd c_1 (by decide)
    · refine lv_iconst (v := nI 0) hx hb dX5_side_9 (by decide) ?_
      refine lv_goto (tgt := 14) hx hb dX5_side_10 (by decide) ?_
      refine va_put (D := D) (ci := 5) (v := .int (nI 0)) (ty := .int) (C := RX5) (T := TX5) (N := 28) hx hb hts (inT inX5) tyX5 tyX5_ok nmX5 hown hK hP hD hS 42 ww_42 rfl 0 (by decide) (hts (.fieldLink RX5 81 "BoardMovesModel" "thrown" "I") (List.mem_cons_of_mem _ flX5_81)) (fun _ h9 => h9) rfl (by decide +kernel) rfl rfl (Nat.le_of_ble_eq_true rfl) dX5_side_14 (fun H locs hP hD hS => ?_)
      have hP : va_P D vwCl (WW ad cJ cI cZ bm pa p0 p1 p2 li wi (0) ms ma mp mk mn ou) H := hP
      have hD : va_D A (WW ad cJ cI cZ bm pa p0 p1 p2 li wi (0) ms ma mp mk mn ou) := hD
      refine lv_aload_n hx hb dX5_side_17 rfl (lv_at hl 0 rfl) ?_
      refine va_get (D := D) (ci := 5) (v := .int (nI 0)) (C := RX5) (T := TX5) (N := 28) hx hb hts (inT inX5) hown hK hP 42 ww_42 rfl 0 (by decide) (hts (.fieldLink RX5 81 "BoardMovesModel" "thrown" "I") (List.mem_cons_of_mem _ flX5_81)) (fun _ h9 => h9) rfl dX5_side_18 ?_
      refine bm_nz_ne (x := 0) (tgt := 33) hx hb (by decide) dX5_side_21 (by decide) (fun c_2 => ?_) (fun c_2 => ?_)
      · exact absurd c_2 (by decide)
      · refine lv_aload_n hx hb dX5_side_24 rfl (lv_at hl 0 rfl) ?_
        refine va_get (D := D) (ci := 5) (v := .ref (ad 45)) (C := RX5) (T := TX5) (N := 28) hx hb hts (inT inX5) hown hK hP 42 ww_42 rfl 6 (by decide) (hts (.fieldLink RX5 16 "BoardMovesModel" "sides" "[I") (List.mem_cons_of_mem _ flX5_16)) (fun _ h9 => h9) rfl dX5_side_25 ?_
        refine lv_iload_n hx hb dX5_side_28 rfl (lv_at hl 1 rfl) ?_
        refine bm_nald (f := ma.2.2.1) hx hb hK hP 45 1 ww_45 rfl (j := k_zA) (by omega) (by decide) dX5_side_29 ?_
        refine lv_goto (tgt := 34) hx hb dX5_side_30 (by decide) ?_
        exact bm_iretX (v := (nI (ma.2.2.1 k_zA))) hx hb hr hP hD hK hS ⟨(0), ms, ma, mp, mk, mn, ⟨ok_ms_parts, ok_ms_outs, ok_ms_nears, ok_ms_nets, ok_ms_pins, ok_ma_sides, ok_ma_groups, ok_mp_turns, ok_mk_nearOne, ok_mk_nearTwo, ok_mn_pinNet, ok_mn_pinPart, hw, hh⟩, rfl, rfl, (nI (ma.2.2.1 k_zA)), rfl⟩ dX5_side_34 hlocks
  · have hl := lv_entry ([.ref (ad 42), .int zA]) (n := 2) (Nat.le_of_ble_eq_true rfl)
    refine W.eq (g2 := entryFrame m ([.ref (ad 42), .int zA] : List Value).toArray 2) (by rw [ha]) ?_
    rw [lg_entry_eq]
    generalize (lg_sl ([.ref (ad 42), .int zA]) ++ List.replicate (2 - (lg_sl ([.ref (ad 42), .int zA])).length) Slot.unset).toArray = ls at hl ⊢
    have hl : lv_has ls 2 [(0, .ref (ad 42)), (1, .int zA)] := hl
    refine lv_aload_n hx hb dX5_side_0 rfl (lv_at hl 0 rfl) ?_
    refine lv_aload_n hx hb dX5_side_1 rfl (lv_at hl 0 rfl) ?_
    refine lv_iload_n hx hb dX5_side_2 rfl (lv_at hl 1 rfl) ?_
    refine bm_rcallV (As := [.int zA]) (rest := [.ref (ad 42)]) ⟨hx, hb, hml, hown, hts⟩ (Y_isPartN  (zA := zA) hno_zA) (cwV 1 hts gvX5_139 rfl rfl rfl hvX5_isPart ⟨Nat.le_of_ble_eq_true rfl, Nat.le_of_ble_eq_true rfl⟩) hK hP 42 5 rfl ww_42 rfl hl.1 rfl (Nat.le_of_ble_eq_true rfl) dX5_side_3 ⟨Nat.le_of_ble_eq_true rfl, Nat.le_of_ble_eq_true rfl⟩ ?_
    refine bm_zb_eq (x := false) (tgt := 13) hx hb dX5_side_6 (by decide) (fun c_3 => ?_) (fun c_3 => ?_)
    · refine lv_iconst (v := nI 1) hx hb dX5_side_13 (by decide) ?_
      refine va_put (D := D) (ci := 5) (v := .int (nI 1)) (ty := .int) (C := RX5) (T := TX5) (N := 28) hx hb hts (inT inX5) tyX5 tyX5_ok nmX5 hown hK hP hD hS 42 ww_42 rfl 0 (by decide) (hts (.fieldLink RX5 81 "BoardMovesModel" "thrown" "I") (List.mem_cons_of_mem _ flX5_81)) (fun _ h9 => h9) rfl (by decide +kernel) rfl rfl (Nat.le_of_ble_eq_true rfl) dX5_side_14 (fun H locs hP hD hS => ?_)
      have hP : va_P D vwCl (WW ad cJ cI cZ bm pa p0 p1 p2 li wi (1) ms ma mp mk mn ou) H := hP
      have hD : va_D A (WW ad cJ cI cZ bm pa p0 p1 p2 li wi (1) ms ma mp mk mn ou) := hD
      refine lv_aload_n hx hb dX5_side_17 rfl (lv_at hl 0 rfl) ?_
      refine va_get (D := D) (ci := 5) (v := .int (nI 1)) (C := RX5) (T := TX5) (N := 28) hx hb hts (inT inX5) hown hK hP 42 ww_42 rfl 0 (by decide) (hts (.fieldLink RX5 81 "BoardMovesModel" "thrown" "I") (List.mem_cons_of_mem _ flX5_81)) (fun _ h9 => h9) rfl dX5_side_18 ?_
      refine bm_nz_ne (x := 1) (tgt := 33) hx hb (by decide) dX5_side_21 (by decide) (fun c_4 => ?_) (fun c_4 => ?_)
      · refine lv_iconst (v := nI 0) hx hb dX5_side_33 (by decide) ?_
        exact bm_iretX (v := (nI 0)) hx hb hr hP hD hK hS ⟨(1), ms, ma, mp, mk, mn, ⟨ok_ms_parts, ok_ms_outs, ok_ms_nears, ok_ms_nets, ok_ms_pins, ok_ma_sides, ok_ma_groups, ok_mp_turns, ok_mk_nearOne, ok_mk_nearTwo, ok_mn_pinNet, ok_mn_pinPart, hw, hh⟩, rfl, rfl, (nI 0), rfl⟩ dX5_side_34 hlocks
      · exact absurd c_4 (by decide)
    · exact absurd c_3 (by decide)

set_option maxHeartbeats 16000000 in
set_option maxRecDepth 100000 in
theorem Y_height {l : Launch} {D : va_G} {ad : Nat → Nat} {cJ cI cZ : ClassId} {bm : gBM} {pa : gPA} {p0 p1 p2 : gPL} {li : gLI} {wi : gWI} {mt : Nat} {ms : gMS} {ma : gMA} {mp : gMP} {mk : gMK} {mn : gMN} {ou : Nat → Int64} {zA : Int32} {zB : Int64} (hok : okM ms ma mp mk mn)  : bm_Wx l yX5_height wsX5_height ({ frames := 4, cells := 0, slots := 0, locals := 93 }) D vwCl [(cJ, .long), (cI, .int), (cZ, .boolean)] (WW ad cJ cI cZ bm pa p0 p1 p2 li wi mt ms ma mp mk mn ou) [.ref (ad 42), .int zA, .long zB] (PMZ ad cJ cI cZ bm pa p0 p1 p2 li wi mt ms ma mp mk mn ou) := by
  obtain ⟨ok_ms_parts, ok_ms_outs, ok_ms_nears, ok_ms_nets, ok_ms_pins, ok_ma_sides, ok_ma_groups, ok_mp_turns, ok_mk_nearOne, ok_mk_nearTwo, ok_mn_pinNet, ok_mn_pinPart, hw, hh⟩ := hok
  intro sz
  refine Met.ofW (cc := cX5_height) (maxL := 6) (ret := (some .boolean)) (by decide) rfl ?_
  intro p e s m args below meth c s₁ B hml hv
  obtain ⟨ha, hsz, hP, hK, hD0⟩ := hv
  have hx := B.exec
  have hb := B.bytes
  have hr := B.returns
  have hts := atoms_spec (ws := wsX5_height) B.pre
  have hown : s.vm.findClass RX5 = some m.cls := findClass_of_methodNamed B.named
  have hlocks := B.notSynchronized
  subst hsz
  have hD := hD0.self (sz := s.heap.size)
  generalize hAe : va_A (WW ad cJ cI cZ bm pa p0 p1 p2 li wi mt ms ma mp mk mn ou) s.heap.size = A at hD ⊢
  have hA : ∀ q : Nat, s.heap.size ≤ q → A q := fun q h => by rw [← hAe]; exact Or.inr h
  have hS : va_S A s.heap s.heap [] := va_S.rf
  rcases bx_idx zA (n := ms.2.2.1) (by omega) with ⟨k_zA, hk_zA, rfl⟩ | hno_zA
  · have hl := lv_entry ([.ref (ad 42), .int (nI k_zA), .long zB]) (n := 6) (Nat.le_of_ble_eq_true rfl)
    refine W.eq (g2 := entryFrame m ([.ref (ad 42), .int (nI k_zA), .long zB] : List Value).toArray 6) (by rw [ha]) ?_
    rw [lg_entry_eq]
    generalize (lg_sl ([.ref (ad 42), .int (nI k_zA), .long zB]) ++ List.replicate (6 - (lg_sl ([.ref (ad 42), .int (nI k_zA), .long zB])).length) Slot.unset).toArray = ls at hl ⊢
    have hl : lv_has ls 6 [(0, .ref (ad 42)), (1, .int (nI k_zA)), (2, .long zB)] := hl
    refine lv_aload_n hx hb dX5_height_0 rfl (lv_at hl 0 rfl) ?_
    refine lv_aload_n hx hb dX5_height_1 rfl (lv_at hl 0 rfl) ?_
    refine lv_iload_n hx hb dX5_height_2 rfl (lv_at hl 1 rfl) ?_
    refine bm_rcallV (As := [.int (nI k_zA)]) (rest := [.ref (ad 42)]) ⟨hx, hb, hml, hown, hts⟩ (Y_isPartY  (zp := k_zA) ok_ms_parts (by omega)) (cwV 1 hts gvX5_139 rfl rfl rfl hvX5_isPart ⟨Nat.le_of_ble_eq_true rfl, Nat.le_of_ble_eq_true rfl⟩) hK hP 42 5 rfl ww_42 rfl hl.1 rfl (Nat.le_of_ble_eq_true rfl) dX5_height_3 ⟨Nat.le_of_ble_eq_true rfl, Nat.le_of_ble_eq_true rfl⟩ ?_
    refine bm_zb_ne (x := true) (tgt := 13) hx hb dX5_height_6 (by decide) (fun c_1 => ?_) (fun c_1 => ?_)
    · refine lv_lload_n hx hb dX5_height_13 rfl (lv_at hl 2 rfl) ?_
      refine lv_lconst (v := 0) hx hb dX5_height_14 (by decide) ?_
      refine bm_lc_lt (x := zB) (y := 0) (tgt := 27) hx hb dX5_height_15 dX5_height_16 (by decide) (fun c_2 => ?_) (fun c_2 => ?_)
      · refine lv_iconst (v := nI 2) hx hb dX5_height_27 (by decide) ?_
        refine lv_goto (tgt := 32) hx hb dX5_height_28 (by decide) ?_
        refine va_put (D := D) (ci := 5) (v := .int (nI 2)) (ty := .int) (C := RX5) (T := TX5) (N := 28) hx hb hts (inT inX5) tyX5 tyX5_ok nmX5 hown hK hP hD hS 42 ww_42 rfl 0 (by decide) (hts (.fieldLink RX5 81 "BoardMovesModel" "thrown" "I") (List.mem_cons_of_mem _ flX5_81)) (fun _ h9 => h9) rfl (by decide +kernel) rfl rfl (Nat.le_of_ble_eq_true rfl) dX5_height_32 (fun H locs hP hD hS => ?_)
        have hP : va_P D vwCl (WW ad cJ cI cZ bm pa p0 p1 p2 li wi (2) ms ma mp mk mn ou) H := hP
        have hD : va_D A (WW ad cJ cI cZ bm pa p0 p1 p2 li wi (2) ms ma mp mk mn ou) := hD
        refine lv_aload_n hx hb dX5_height_35 rfl (lv_at hl 0 rfl) ?_
        refine va_get (D := D) (ci := 5) (v := .int (nI 2)) (C := RX5) (T := TX5) (N := 28) hx hb hts (inT inX5) hown hK hP 42 ww_42 rfl 0 (by decide) (hts (.fieldLink RX5 81 "BoardMovesModel" "thrown" "I") (List.mem_cons_of_mem _ flX5_81)) (fun _ h9 => h9) rfl dX5_height_36 ?_
        refine bm_nz_eq (x := 2) (tgt := 44) hx hb (by decide) dX5_height_39 (by decide) (fun c_3 => ?_) (fun c_3 => ?_)
        · exact absurd c_3 (by decide)
        · refine lv_iconst (v := bm_b false) hx hb dX5_height_42 (by decide) ?_
          exact bm_zretX (v := false) hx hb hr hP hD hK hS ⟨(2), ms, ma, mp, mk, mn, ⟨ok_ms_parts, ok_ms_outs, ok_ms_nears, ok_ms_nets, ok_ms_pins, ok_ma_sides, ok_ma_groups, ok_mp_turns, ok_mk_nearOne, ok_mk_nearTwo, ok_mn_pinNet, ok_mn_pinPart, hw, hh⟩, rfl, rfl, false, rfl⟩ dX5_height_43 hlocks
      · refine lv_lload_n hx hb dX5_height_19 rfl (lv_at hl 2 rfl) ?_
        refine lv_ldc2 (v := 65536) hx hb hown (hts (.constantLong RX5 69 65536) (List.mem_cons_of_mem _ clX5_69)) dX5_height_20 ?_
        refine bm_lc_le (x := zB) (y := 65536) (tgt := 31) hx hb dX5_height_23 dX5_height_24 (by decide) (fun c_4 => ?_) (fun c_4 => ?_)
        · refine lv_iconst (v := nI 0) hx hb dX5_height_31 (by decide) ?_
          refine va_put (D := D) (ci := 5) (v := .int (nI 0)) (ty := .int) (C := RX5) (T := TX5) (N := 28) hx hb hts (inT inX5) tyX5 tyX5_ok nmX5 hown hK hP hD hS 42 ww_42 rfl 0 (by decide) (hts (.fieldLink RX5 81 "BoardMovesModel" "thrown" "I") (List.mem_cons_of_mem _ flX5_81)) (fun _ h9 => h9) rfl (by decide +kernel) rfl rfl (Nat.le_of_ble_eq_true rfl) dX5_height_32 (fun H locs hP hD hS => ?_)
          have hP : va_P D vwCl (WW ad cJ cI cZ bm pa p0 p1 p2 li wi (0) ms ma mp mk mn ou) H := hP
          have hD : va_D A (WW ad cJ cI cZ bm pa p0 p1 p2 li wi (0) ms ma mp mk mn ou) := hD
          refine lv_aload_n hx hb dX5_height_35 rfl (lv_at hl 0 rfl) ?_
          refine va_get (D := D) (ci := 5) (v := .int (nI 0)) (C := RX5) (T := TX5) (N := 28) hx hb hts (inT inX5) hown hK hP 42 ww_42 rfl 0 (by decide) (hts (.fieldLink RX5 81 "BoardMovesModel" "thrown" "I") (List.mem_cons_of_mem _ flX5_81)) (fun _ h9 => h9) rfl dX5_height_36 ?_
          refine bm_nz_eq (x := 0) (tgt := 44) hx hb (by decide) dX5_height_39 (by decide) (fun c_5 => ?_) (fun c_5 => ?_)
          · refine lv_aload_n hx hb dX5_height_44 rfl (lv_at hl 0 rfl) ?_
            refine va_get (D := D) (ci := 5) (v := .ref (ad 46)) (C := RX5) (T := TX5) (N := 28) hx hb hts (inT inX5) hown hK hP 42 ww_42 rfl 7 (by decide) (hts (.fieldLink RX5 20 "BoardMovesModel" "heights" "[J") (List.mem_cons_of_mem _ flX5_20)) (fun _ h9 => h9) rfl dX5_height_45 ?_
            refine lv_iload_n hx hb dX5_height_48 rfl (lv_at hl 1 rfl) ?_
            refine bm_lald (f := ma.2.2.2.1) hx hb hK hP 46 0 ww_46 rfl (j := k_zA) (by omega) (by decide) dX5_height_49 ?_
            refine lv_topl (fun t_6 _ => ?_)
            refine lv_lstore (lv' := [(4, .long t_6), (0, .ref (ad 42)), (1, .int (nI k_zA)), (2, .long zB)]) hx hb dX5_height_50 hl (by decide) rfl (fun ls hl => ?_)
            refine lv_aload_n hx hb dX5_height_52 rfl (lv_at hl 1 rfl) ?_
            refine va_get (D := D) (ci := 5) (v := .ref (ad 46)) (C := RX5) (T := TX5) (N := 28) hx hb hts (inT inX5) hown hK hP 42 ww_42 rfl 7 (by decide) (hts (.fieldLink RX5 20 "BoardMovesModel" "heights" "[J") (List.mem_cons_of_mem _ flX5_20)) (fun _ h9 => h9) rfl dX5_height_53 ?_
            refine lv_iload_n hx hb dX5_height_56 rfl (lv_at hl 2 rfl) ?_
            refine lv_lload_n hx hb dX5_height_57 rfl (lv_at hl 3 rfl) ?_
            refine bm_last (f := ma.2.2.2.1) hx hb hK hP hD hS 46 0 ww_46 rfl (j := k_zA) (x := zB) (by omega) (by decide) dX5_height_58 (fun H locs hP hD hS => ?_)
            have hP : va_P D vwCl (WW ad cJ cI cZ bm pa p0 p1 p2 li wi (0) ms (ma.1, ma.2.1, ma.2.2.1, va_up ma.2.2.2.1 k_zA zB, ma.2.2.2.2.1, ma.2.2.2.2.2.1, ma.2.2.2.2.2.2) mp mk mn ou) H := hP
            have hD : va_D A (WW ad cJ cI cZ bm pa p0 p1 p2 li wi (0) ms (ma.1, ma.2.1, ma.2.2.1, va_up ma.2.2.2.1 k_zA zB, ma.2.2.2.2.1, ma.2.2.2.2.2.1, ma.2.2.2.2.2.2) mp mk mn ou) := hD
            refine lv_aload_n hx hb dX5_height_59 rfl (lv_at hl 1 rfl) ?_
            refine lv_iconst (v := nI 0) hx hb dX5_height_60 (by decide) ?_
            refine bm_xcallV (As := [.int (nI 0)]) (rest := []) ⟨hx, hb, hml, hown, hts⟩ (y_isWell (mt := (0)) (ma := (ma.1, ma.2.1, ma.2.2.1, va_up ma.2.2.2.1 k_zA zB, ma.2.2.2.2.1, ma.2.2.2.2.2.1, ma.2.2.2.2.2.2)) (zr := 0) ok_mp_turns ok_ms_parts ok_ms_outs ok_ma_sides ok_ms_nears ok_mk_nearOne ok_mk_nearTwo (by omega)) (cwV 1 hts gvX5_157 rfl rfl rfl hvX5_isWell ⟨Nat.le_of_ble_eq_true rfl, Nat.le_of_ble_eq_true rfl⟩) hK hP hD hS hA 42 5 rfl ww_42 rfl hl.1 rfl (Nat.le_of_ble_eq_true rfl) dX5_height_61 ⟨Nat.le_of_ble_eq_true rfl, Nat.le_of_ble_eq_true rfl⟩ (fun ws_7 r_8 h_9 H locs hP hD hS => ?_)
            obtain ⟨rfl, v_10, rfl⟩ := h_9
            have hP : va_P D vwCl (WW ad cJ cI cZ bm pa p0 p1 p2 li wi (0) ms (ma.1, ma.2.1, ma.2.2.1, va_up ma.2.2.2.1 k_zA zB, ma.2.2.2.2.1, ma.2.2.2.2.2.1, ma.2.2.2.2.2.2) mp mk mn ou) H := hP
            have hD : va_D A (WW ad cJ cI cZ bm pa p0 p1 p2 li wi (0) ms (ma.1, ma.2.1, ma.2.2.1, va_up ma.2.2.2.1 k_zA zB, ma.2.2.2.2.1, ma.2.2.2.2.2.1, ma.2.2.2.2.2.2) mp mk mn ou) := hD
            refine bm_zb_eq (x := v_10) (tgt := 69) hx hb dX5_height_64 (by decide) (fun c_11 => ?_) (fun c_11 => ?_)
            · refine lv_aload_n hx hb dX5_height_69 rfl (lv_at hl 1 rfl) ?_
              refine va_get (D := D) (ci := 5) (v := .ref (ad 46)) (C := RX5) (T := TX5) (N := 28) hx hb hts (inT inX5) hown hK hP 42 ww_42 rfl 7 (by decide) (hts (.fieldLink RX5 20 "BoardMovesModel" "heights" "[J") (List.mem_cons_of_mem _ flX5_20)) (fun _ h9 => h9) rfl dX5_height_70 ?_
              refine lv_iload_n hx hb dX5_height_73 rfl (lv_at hl 2 rfl) ?_
              refine lv_lload hx hb dX5_height_74 (lv_at hl 0 rfl) ?_
              refine bm_last (f := (va_up ma.2.2.2.1 k_zA zB)) hx hb hK hP hD hS 46 0 ww_46 rfl (j := k_zA) (x := t_6) (by omega) (by decide) dX5_height_76 (fun H locs hP hD hS => ?_)
              have hP : va_P D vwCl (WW ad cJ cI cZ bm pa p0 p1 p2 li wi (0) ms (ma.1, ma.2.1, ma.2.2.1, va_up (va_up ma.2.2.2.1 k_zA zB) k_zA t_6, ma.2.2.2.2.1, ma.2.2.2.2.2.1, ma.2.2.2.2.2.2) mp mk mn ou) H := hP
              have hD : va_D A (WW ad cJ cI cZ bm pa p0 p1 p2 li wi (0) ms (ma.1, ma.2.1, ma.2.2.1, va_up (va_up ma.2.2.2.1 k_zA zB) k_zA t_6, ma.2.2.2.2.1, ma.2.2.2.2.2.1, ma.2.2.2.2.2.2) mp mk mn ou) := hD
              refine lv_iconst (v := bm_b false) hx hb dX5_height_77 (by decide) ?_
              exact bm_zretX (v := false) hx hb hr hP hD hK hS ⟨(0), ms, (ma.1, ma.2.1, ma.2.2.1, va_up (va_up ma.2.2.2.1 k_zA zB) k_zA t_6, ma.2.2.2.2.1, ma.2.2.2.2.2.1, ma.2.2.2.2.2.2), mp, mk, mn, ⟨ok_ms_parts, ok_ms_outs, ok_ms_nears, ok_ms_nets, ok_ms_pins, ok_ma_sides, ok_ma_groups, ok_mp_turns, ok_mk_nearOne, ok_mk_nearTwo, ok_mn_pinNet, ok_mn_pinPart, hw, hh⟩, rfl, rfl, false, rfl⟩ dX5_height_78 hlocks
            · refine lv_iconst (v := bm_b true) hx hb dX5_height_67 (by decide) ?_
              exact bm_zretX (v := true) hx hb hr hP hD hK hS ⟨(0), ms, (ma.1, ma.2.1, ma.2.2.1, va_up ma.2.2.2.1 k_zA zB, ma.2.2.2.2.1, ma.2.2.2.2.2.1, ma.2.2.2.2.2.2), mp, mk, mn, ⟨ok_ms_parts, ok_ms_outs, ok_ms_nears, ok_ms_nets, ok_ms_pins, ok_ma_sides, ok_ma_groups, ok_mp_turns, ok_mk_nearOne, ok_mk_nearTwo, ok_mn_pinNet, ok_mn_pinPart, hw, hh⟩, rfl, rfl, true, rfl⟩ dX5_height_68 hlocks
          · exact absurd c_5 (by decide)
        · refine lv_iconst (v := nI 2) hx hb dX5_height_27 (by decide) ?_
          refine lv_goto (tgt := 32) hx hb dX5_height_28 (by decide) ?_
          refine va_put (D := D) (ci := 5) (v := .int (nI 2)) (ty := .int) (C := RX5) (T := TX5) (N := 28) hx hb hts (inT inX5) tyX5 tyX5_ok nmX5 hown hK hP hD hS 42 ww_42 rfl 0 (by decide) (hts (.fieldLink RX5 81 "BoardMovesModel" "thrown" "I") (List.mem_cons_of_mem _ flX5_81)) (fun _ h9 => h9) rfl (by decide +kernel) rfl rfl (Nat.le_of_ble_eq_true rfl) dX5_height_32 (fun H locs hP hD hS => ?_)
          have hP : va_P D vwCl (WW ad cJ cI cZ bm pa p0 p1 p2 li wi (2) ms ma mp mk mn ou) H := hP
          have hD : va_D A (WW ad cJ cI cZ bm pa p0 p1 p2 li wi (2) ms ma mp mk mn ou) := hD
          refine lv_aload_n hx hb dX5_height_35 rfl (lv_at hl 0 rfl) ?_
          refine va_get (D := D) (ci := 5) (v := .int (nI 2)) (C := RX5) (T := TX5) (N := 28) hx hb hts (inT inX5) hown hK hP 42 ww_42 rfl 0 (by decide) (hts (.fieldLink RX5 81 "BoardMovesModel" "thrown" "I") (List.mem_cons_of_mem _ flX5_81)) (fun _ h9 => h9) rfl dX5_height_36 ?_
          refine bm_nz_eq (x := 2) (tgt := 44) hx hb (by decide) dX5_height_39 (by decide) (fun c_12 => ?_) (fun c_12 => ?_)
          · exact absurd c_12 (by decide)
          · refine lv_iconst (v := bm_b false) hx hb dX5_height_42 (by decide) ?_
            exact bm_zretX (v := false) hx hb hr hP hD hK hS ⟨(2), ms, ma, mp, mk, mn, ⟨ok_ms_parts, ok_ms_outs, ok_ms_nears, ok_ms_nets, ok_ms_pins, ok_ma_sides, ok_ma_groups, ok_mp_turns, ok_mk_nearOne, ok_mk_nearTwo, ok_mn_pinNet, ok_mn_pinPart, hw, hh⟩, rfl, rfl, false, rfl⟩ dX5_height_43 hlocks
    · exact absurd c_1 (by decide)
  · have hl := lv_entry ([.ref (ad 42), .int zA, .long zB]) (n := 6) (Nat.le_of_ble_eq_true rfl)
    refine W.eq (g2 := entryFrame m ([.ref (ad 42), .int zA, .long zB] : List Value).toArray 6) (by rw [ha]) ?_
    rw [lg_entry_eq]
    generalize (lg_sl ([.ref (ad 42), .int zA, .long zB]) ++ List.replicate (6 - (lg_sl ([.ref (ad 42), .int zA, .long zB])).length) Slot.unset).toArray = ls at hl ⊢
    have hl : lv_has ls 6 [(0, .ref (ad 42)), (1, .int zA), (2, .long zB)] := hl
    refine lv_aload_n hx hb dX5_height_0 rfl (lv_at hl 0 rfl) ?_
    refine lv_aload_n hx hb dX5_height_1 rfl (lv_at hl 0 rfl) ?_
    refine lv_iload_n hx hb dX5_height_2 rfl (lv_at hl 1 rfl) ?_
    refine bm_rcallV (As := [.int zA]) (rest := [.ref (ad 42)]) ⟨hx, hb, hml, hown, hts⟩ (Y_isPartN  (zA := zA) hno_zA) (cwV 1 hts gvX5_139 rfl rfl rfl hvX5_isPart ⟨Nat.le_of_ble_eq_true rfl, Nat.le_of_ble_eq_true rfl⟩) hK hP 42 5 rfl ww_42 rfl hl.1 rfl (Nat.le_of_ble_eq_true rfl) dX5_height_3 ⟨Nat.le_of_ble_eq_true rfl, Nat.le_of_ble_eq_true rfl⟩ ?_
    refine bm_zb_ne (x := false) (tgt := 13) hx hb dX5_height_6 (by decide) (fun c_13 => ?_) (fun c_13 => ?_)
    · exact absurd c_13 (by decide)
    · refine lv_iconst (v := nI 1) hx hb dX5_height_9 (by decide) ?_
      refine lv_goto (tgt := 32) hx hb dX5_height_10 (by decide) ?_
      refine va_put (D := D) (ci := 5) (v := .int (nI 1)) (ty := .int) (C := RX5) (T := TX5) (N := 28) hx hb hts (inT inX5) tyX5 tyX5_ok nmX5 hown hK hP hD hS 42 ww_42 rfl 0 (by decide) (hts (.fieldLink RX5 81 "BoardMovesModel" "thrown" "I") (List.mem_cons_of_mem _ flX5_81)) (fun _ h9 => h9) rfl (by decide +kernel) rfl rfl (Nat.le_of_ble_eq_true rfl) dX5_height_32 (fun H locs hP hD hS => ?_)
      have hP : va_P D vwCl (WW ad cJ cI cZ bm pa p0 p1 p2 li wi (1) ms ma mp mk mn ou) H := hP
      have hD : va_D A (WW ad cJ cI cZ bm pa p0 p1 p2 li wi (1) ms ma mp mk mn ou) := hD
      refine lv_aload_n hx hb dX5_height_35 rfl (lv_at hl 0 rfl) ?_
      refine va_get (D := D) (ci := 5) (v := .int (nI 1)) (C := RX5) (T := TX5) (N := 28) hx hb hts (inT inX5) hown hK hP 42 ww_42 rfl 0 (by decide) (hts (.fieldLink RX5 81 "BoardMovesModel" "thrown" "I") (List.mem_cons_of_mem _ flX5_81)) (fun _ h9 => h9) rfl dX5_height_36 ?_
      refine bm_nz_eq (x := 1) (tgt := 44) hx hb (by decide) dX5_height_39 (by decide) (fun c_14 => ?_) (fun c_14 => ?_)
      · exact absurd c_14 (by decide)
      · refine lv_iconst (v := bm_b false) hx hb dX5_height_42 (by decide) ?_
        exact bm_zretX (v := false) hx hb hr hP hD hK hS ⟨(1), ms, ma, mp, mk, mn, ⟨ok_ms_parts, ok_ms_outs, ok_ms_nears, ok_ms_nets, ok_ms_pins, ok_ma_sides, ok_ma_groups, ok_mp_turns, ok_mk_nearOne, ok_mk_nearTwo, ok_mn_pinNet, ok_mn_pinPart, hw, hh⟩, rfl, rfl, false, rfl⟩ dX5_height_43 hlocks

set_option maxHeartbeats 16000000 in
set_option maxRecDepth 100000 in
theorem Y_near {l : Launch} {D : va_G} {ad : Nat → Nat} {cJ cI cZ : ClassId} {bm : gBM} {pa : gPA} {p0 p1 p2 : gPL} {li : gLI} {wi : gWI} {mt : Nat} {ms : gMS} {ma : gMA} {mp : gMP} {mk : gMK} {mn : gMN} {ou : Nat → Int64} {zA : Int32} {zB : Int32} {zC : Int64} (hok : okM ms ma mp mk mn)  : bm_Wx l yX5_near wsX5_near ({ frames := 4, cells := 0, slots := 0, locals := 93 }) D vwCl [(cJ, .long), (cI, .int), (cZ, .boolean)] (WW ad cJ cI cZ bm pa p0 p1 p2 li wi mt ms ma mp mk mn ou) [.ref (ad 42), .int zA, .int zB, .long zC] (PMZ ad cJ cI cZ bm pa p0 p1 p2 li wi mt ms ma mp mk mn ou) := by
  obtain ⟨ok_ms_parts, ok_ms_outs, ok_ms_nears, ok_ms_nets, ok_ms_pins, ok_ma_sides, ok_ma_groups, ok_mp_turns, ok_mk_nearOne, ok_mk_nearTwo, ok_mn_pinNet, ok_mn_pinPart, hw, hh⟩ := hok
  intro sz
  refine Met.ofW (cc := cX5_near) (maxL := 5) (ret := (some .boolean)) (by decide) rfl ?_
  intro p e s m args below meth c s₁ B hml hv
  obtain ⟨ha, hsz, hP, hK, hD0⟩ := hv
  have hx := B.exec
  have hb := B.bytes
  have hr := B.returns
  have hts := atoms_spec (ws := wsX5_near) B.pre
  have hown : s.vm.findClass RX5 = some m.cls := findClass_of_methodNamed B.named
  have hlocks := B.notSynchronized
  subst hsz
  have hD := hD0.self (sz := s.heap.size)
  generalize hAe : va_A (WW ad cJ cI cZ bm pa p0 p1 p2 li wi mt ms ma mp mk mn ou) s.heap.size = A at hD ⊢
  have hA : ∀ q : Nat, s.heap.size ≤ q → A q := fun q h => by rw [← hAe]; exact Or.inr h
  have hS : va_S A s.heap s.heap [] := va_S.rf
  rcases bx_idx zA (n := ms.2.2.1) (by omega) with ⟨k_zA, hk_zA, rfl⟩ | hno_zA
  · rcases bx_idx zB (n := ms.2.2.1) (by omega) with ⟨k_zB, hk_zB, rfl⟩ | hno_zB
    · have hl := lv_entry ([.ref (ad 42), .int (nI k_zA), .int (nI k_zB), .long zC]) (n := 5) (Nat.le_of_ble_eq_true rfl)
      refine W.eq (g2 := entryFrame m ([.ref (ad 42), .int (nI k_zA), .int (nI k_zB), .long zC] : List Value).toArray 5) (by rw [ha]) ?_
      rw [lg_entry_eq]
      generalize (lg_sl ([.ref (ad 42), .int (nI k_zA), .int (nI k_zB), .long zC]) ++ List.replicate (5 - (lg_sl ([.ref (ad 42), .int (nI k_zA), .int (nI k_zB), .long zC])).length) Slot.unset).toArray = ls at hl ⊢
      have hl : lv_has ls 5 [(0, .ref (ad 42)), (1, .int (nI k_zA)), (2, .int (nI k_zB)), (3, .long zC)] := hl
      refine lv_aload_n hx hb dX5_near_0 rfl (lv_at hl 0 rfl) ?_
      refine lv_aload_n hx hb dX5_near_1 rfl (lv_at hl 0 rfl) ?_
      refine lv_iload_n hx hb dX5_near_2 rfl (lv_at hl 1 rfl) ?_
      refine bm_rcallV (As := [.int (nI k_zA)]) (rest := [.ref (ad 42)]) ⟨hx, hb, hml, hown, hts⟩ (Y_isPartY  (zp := k_zA) ok_ms_parts (by omega)) (cwV 1 hts gvX5_139 rfl rfl rfl hvX5_isPart ⟨Nat.le_of_ble_eq_true rfl, Nat.le_of_ble_eq_true rfl⟩) hK hP 42 5 rfl ww_42 rfl hl.1 rfl (Nat.le_of_ble_eq_true rfl) dX5_near_3 ⟨Nat.le_of_ble_eq_true rfl, Nat.le_of_ble_eq_true rfl⟩ ?_
      refine bm_zb_eq (x := true) (tgt := 17) hx hb dX5_near_6 (by decide) (fun c_1 => ?_) (fun c_1 => ?_)
      · exact absurd c_1 (by decide)
      · refine lv_aload_n hx hb dX5_near_9 rfl (lv_at hl 0 rfl) ?_
        refine lv_iload_n hx hb dX5_near_10 rfl (lv_at hl 2 rfl) ?_
        refine bm_rcallV (As := [.int (nI k_zB)]) (rest := [.ref (ad 42)]) ⟨hx, hb, hml, hown, hts⟩ (Y_isPartY  (zp := k_zB) ok_ms_parts (by omega)) (cwV 1 hts gvX5_139 rfl rfl rfl hvX5_isPart ⟨Nat.le_of_ble_eq_true rfl, Nat.le_of_ble_eq_true rfl⟩) hK hP 42 5 rfl ww_42 rfl hl.1 rfl (Nat.le_of_ble_eq_true rfl) dX5_near_11 ⟨Nat.le_of_ble_eq_true rfl, Nat.le_of_ble_eq_true rfl⟩ ?_
        refine bm_zb_ne (x := true) (tgt := 21) hx hb dX5_near_14 (by decide) (fun c_2 => ?_) (fun c_2 => ?_)
        · refine lv_lload_n hx hb dX5_near_21 rfl (lv_at hl 3 rfl) ?_
          refine lv_lconst (v := 0) hx hb dX5_near_22 (by decide) ?_
          refine bm_lc_ge (x := zC) (y := 0) (tgt := 31) hx hb dX5_near_23 dX5_near_24 (by decide) (fun c_3 => ?_) (fun c_3 => ?_)
          · refine lv_iconst (v := nI 0) hx hb dX5_near_31 (by decide) ?_
            refine va_put (D := D) (ci := 5) (v := .int (nI 0)) (ty := .int) (C := RX5) (T := TX5) (N := 28) hx hb hts (inT inX5) tyX5 tyX5_ok nmX5 hown hK hP hD hS 42 ww_42 rfl 0 (by decide) (hts (.fieldLink RX5 81 "BoardMovesModel" "thrown" "I") (List.mem_cons_of_mem _ flX5_81)) (fun _ h9 => h9) rfl (by decide +kernel) rfl rfl (Nat.le_of_ble_eq_true rfl) dX5_near_32 (fun H locs hP hD hS => ?_)
            have hP : va_P D vwCl (WW ad cJ cI cZ bm pa p0 p1 p2 li wi (0) ms ma mp mk mn ou) H := hP
            have hD : va_D A (WW ad cJ cI cZ bm pa p0 p1 p2 li wi (0) ms ma mp mk mn ou) := hD
            refine lv_aload_n hx hb dX5_near_35 rfl (lv_at hl 0 rfl) ?_
            refine va_get (D := D) (ci := 5) (v := .int (nI 0)) (C := RX5) (T := TX5) (N := 28) hx hb hts (inT inX5) hown hK hP 42 ww_42 rfl 0 (by decide) (hts (.fieldLink RX5 81 "BoardMovesModel" "thrown" "I") (List.mem_cons_of_mem _ flX5_81)) (fun _ h9 => h9) rfl dX5_near_36 ?_
            refine bm_nz_ne (x := 0) (tgt := 56) hx hb (by decide) dX5_near_39 (by decide) (fun c_4 => ?_) (fun c_4 => ?_)
            · exact absurd c_4 (by decide)
            · refine lv_aload_n hx hb dX5_near_42 rfl (lv_at hl 0 rfl) ?_
              refine va_get (D := D) (ci := 5) (v := .int (nI ms.2.2.2.2.1)) (C := RX5) (T := TX5) (N := 28) hx hb hts (inT inX5) hown hK hP 42 ww_42 rfl 16 (by decide) (hts (.fieldLink RX5 126 "BoardMovesModel" "nears" "I") (List.mem_cons_of_mem _ flX5_126)) (fun _ h9 => h9) rfl dX5_near_43 ?_
              refine lv_bipush (v := nI 20) hx hb dX5_near_46 (by decide) ?_
              refine bm_ni_eq (x := ms.2.2.2.2.1) (y := 20) (tgt := 56) hx hb (by omega) (by omega) dX5_near_48 (by decide) (fun c_5 => ?_) (fun c_5 => ?_)
              · refine lv_iconst (v := bm_b false) hx hb dX5_near_56 (by decide) ?_
                exact bm_zretX (v := false) hx hb hr hP hD hK hS ⟨(0), ms, ma, mp, mk, mn, ⟨ok_ms_parts, ok_ms_outs, ok_ms_nears, ok_ms_nets, ok_ms_pins, ok_ma_sides, ok_ma_groups, ok_mp_turns, ok_mk_nearOne, ok_mk_nearTwo, ok_mn_pinNet, ok_mn_pinPart, hw, hh⟩, rfl, rfl, false, rfl⟩ dX5_near_57 hlocks
              · refine lv_iload_n hx hb dX5_near_51 rfl (lv_at hl 1 rfl) ?_
                refine lv_iload_n hx hb dX5_near_52 rfl (lv_at hl 2 rfl) ?_
                refine bm_ni_ne (x := k_zA) (y := k_zB) (tgt := 58) hx hb (by omega) (by omega) dX5_near_53 (by decide) (fun c_6 => ?_) (fun c_6 => ?_)
                · refine lv_aload_n hx hb dX5_near_58 rfl (lv_at hl 0 rfl) ?_
                  refine va_get (D := D) (ci := 5) (v := .ref (ad 54)) (C := RX5) (T := TX5) (N := 28) hx hb hts (inT inX5) hown hK hP 42 ww_42 rfl 17 (by decide) (hts (.fieldLink RX5 45 "BoardMovesModel" "nearOne" "[I") (List.mem_cons_of_mem _ flX5_45)) (fun _ h9 => h9) rfl dX5_near_59 ?_
                  refine lv_aload_n hx hb dX5_near_62 rfl (lv_at hl 0 rfl) ?_
                  refine va_get (D := D) (ci := 5) (v := .int (nI ms.2.2.2.2.1)) (C := RX5) (T := TX5) (N := 28) hx hb hts (inT inX5) hown hK hP 42 ww_42 rfl 16 (by decide) (hts (.fieldLink RX5 126 "BoardMovesModel" "nears" "I") (List.mem_cons_of_mem _ flX5_126)) (fun _ h9 => h9) rfl dX5_near_63 ?_
                  refine lv_iload_n hx hb dX5_near_66 rfl (lv_at hl 1 rfl) ?_
                  refine bm_nast (f := mk.2.1) hx hb hK hP hD hS 54 1 ww_54 rfl (j := ms.2.2.2.2.1) (x := k_zA) (by omega) (by decide) dX5_near_67 (fun H locs hP hD hS => ?_)
                  have hP : va_P D vwCl (WW ad cJ cI cZ bm pa p0 p1 p2 li wi (0) ms ma mp (mk.1, va_up mk.2.1 ms.2.2.2.2.1 k_zA, mk.2.2.1, mk.2.2.2) mn ou) H := hP
                  have hD : va_D A (WW ad cJ cI cZ bm pa p0 p1 p2 li wi (0) ms ma mp (mk.1, va_up mk.2.1 ms.2.2.2.2.1 k_zA, mk.2.2.1, mk.2.2.2) mn ou) := hD
                  refine lv_aload_n hx hb dX5_near_68 rfl (lv_at hl 0 rfl) ?_
                  refine va_get (D := D) (ci := 5) (v := .ref (ad 55)) (C := RX5) (T := TX5) (N := 28) hx hb hts (inT inX5) hown hK hP 42 ww_42 rfl 18 (by decide) (hts (.fieldLink RX5 48 "BoardMovesModel" "nearTwo" "[I") (List.mem_cons_of_mem _ flX5_48)) (fun _ h9 => h9) rfl dX5_near_69 ?_
                  refine lv_aload_n hx hb dX5_near_72 rfl (lv_at hl 0 rfl) ?_
                  refine va_get (D := D) (ci := 5) (v := .int (nI ms.2.2.2.2.1)) (C := RX5) (T := TX5) (N := 28) hx hb hts (inT inX5) hown hK hP 42 ww_42 rfl 16 (by decide) (hts (.fieldLink RX5 126 "BoardMovesModel" "nears" "I") (List.mem_cons_of_mem _ flX5_126)) (fun _ h9 => h9) rfl dX5_near_73 ?_
                  refine lv_iload_n hx hb dX5_near_76 rfl (lv_at hl 2 rfl) ?_
                  refine bm_nast (f := mk.2.2.1) hx hb hK hP hD hS 55 1 ww_55 rfl (j := ms.2.2.2.2.1) (x := k_zB) (by omega) (by decide) dX5_near_77 (fun H locs hP hD hS => ?_)
                  have hP : va_P D vwCl (WW ad cJ cI cZ bm pa p0 p1 p2 li wi (0) ms ma mp (mk.1, va_up mk.2.1 ms.2.2.2.2.1 k_zA, va_up mk.2.2.1 ms.2.2.2.2.1 k_zB, mk.2.2.2) mn ou) H := hP
                  have hD : va_D A (WW ad cJ cI cZ bm pa p0 p1 p2 li wi (0) ms ma mp (mk.1, va_up mk.2.1 ms.2.2.2.2.1 k_zA, va_up mk.2.2.1 ms.2.2.2.2.1 k_zB, mk.2.2.2) mn ou) := hD
                  refine lv_aload_n hx hb dX5_near_78 rfl (lv_at hl 0 rfl) ?_
                  refine va_get (D := D) (ci := 5) (v := .ref (ad 56)) (C := RX5) (T := TX5) (N := 28) hx hb hts (inT inX5) hown hK hP 42 ww_42 rfl 19 (by decide) (hts (.fieldLink RX5 51 "BoardMovesModel" "nearMost" "[J") (List.mem_cons_of_mem _ flX5_51)) (fun _ h9 => h9) rfl dX5_near_79 ?_
                  refine lv_aload_n hx hb dX5_near_82 rfl (lv_at hl 0 rfl) ?_
                  refine va_get (D := D) (ci := 5) (v := .int (nI ms.2.2.2.2.1)) (C := RX5) (T := TX5) (N := 28) hx hb hts (inT inX5) hown hK hP 42 ww_42 rfl 16 (by decide) (hts (.fieldLink RX5 126 "BoardMovesModel" "nears" "I") (List.mem_cons_of_mem _ flX5_126)) (fun _ h9 => h9) rfl dX5_near_83 ?_
                  refine lv_lload_n hx hb dX5_near_86 rfl (lv_at hl 3 rfl) ?_
                  refine bm_last (f := mk.2.2.2) hx hb hK hP hD hS 56 0 ww_56 rfl (j := ms.2.2.2.2.1) (x := zC) (by omega) (by decide) dX5_near_87 (fun H locs hP hD hS => ?_)
                  have hP : va_P D vwCl (WW ad cJ cI cZ bm pa p0 p1 p2 li wi (0) ms ma mp (mk.1, va_up mk.2.1 ms.2.2.2.2.1 k_zA, va_up mk.2.2.1 ms.2.2.2.2.1 k_zB, va_up mk.2.2.2 ms.2.2.2.2.1 zC) mn ou) H := hP
                  have hD : va_D A (WW ad cJ cI cZ bm pa p0 p1 p2 li wi (0) ms ma mp (mk.1, va_up mk.2.1 ms.2.2.2.2.1 k_zA, va_up mk.2.2.1 ms.2.2.2.2.1 k_zB, va_up mk.2.2.2 ms.2.2.2.2.1 zC) mn ou) := hD
                  refine lv_aload_n hx hb dX5_near_88 rfl (lv_at hl 0 rfl) ?_
                  refine lv_dup hx hb dX5_near_89 rfl ?_
                  refine va_get (D := D) (ci := 5) (v := .int (nI ms.2.2.2.2.1)) (C := RX5) (T := TX5) (N := 28) hx hb hts (inT inX5) hown hK hP 42 ww_42 rfl 16 (by decide) (hts (.fieldLink RX5 126 "BoardMovesModel" "nears" "I") (List.mem_cons_of_mem _ flX5_126)) (fun _ h9 => h9) rfl dX5_near_90 ?_
                  refine lv_iconst (v := nI 1) hx hb dX5_near_93 (by decide) ?_
                  refine bm_nadd hx hb dX5_near_94 ?_
                  refine va_put (D := D) (ci := 5) (v := .int (nI (ms.2.2.2.2.1 + 1))) (ty := .int) (C := RX5) (T := TX5) (N := 28) hx hb hts (inT inX5) tyX5 tyX5_ok nmX5 hown hK hP hD hS 42 ww_42 rfl 16 (by decide) (hts (.fieldLink RX5 126 "BoardMovesModel" "nears" "I") (List.mem_cons_of_mem _ flX5_126)) (fun _ h9 => h9) rfl (by decide +kernel) rfl rfl (Nat.le_of_ble_eq_true rfl) dX5_near_95 (fun H locs hP hD hS => ?_)
                  have hP : va_P D vwCl (WW ad cJ cI cZ bm pa p0 p1 p2 li wi (0) (ms.1, ms.2.1, ms.2.2.1, ms.2.2.2.1, ms.2.2.2.2.1 + 1, ms.2.2.2.2.2.1, ms.2.2.2.2.2.2.1, ms.2.2.2.2.2.2.2) ma mp (mk.1, va_up mk.2.1 ms.2.2.2.2.1 k_zA, va_up mk.2.2.1 ms.2.2.2.2.1 k_zB, va_up mk.2.2.2 ms.2.2.2.2.1 zC) mn ou) H := hP
                  have hD : va_D A (WW ad cJ cI cZ bm pa p0 p1 p2 li wi (0) (ms.1, ms.2.1, ms.2.2.1, ms.2.2.2.1, ms.2.2.2.2.1 + 1, ms.2.2.2.2.2.1, ms.2.2.2.2.2.2.1, ms.2.2.2.2.2.2.2) ma mp (mk.1, va_up mk.2.1 ms.2.2.2.2.1 k_zA, va_up mk.2.2.1 ms.2.2.2.2.1 k_zB, va_up mk.2.2.2 ms.2.2.2.2.1 zC) mn ou) := hD
                  refine lv_aload_n hx hb dX5_near_98 rfl (lv_at hl 0 rfl) ?_
                  refine lv_iconst (v := nI 0) hx hb dX5_near_99 (by decide) ?_
                  refine bm_xcallV (As := [.int (nI 0)]) (rest := []) ⟨hx, hb, hml, hown, hts⟩ (y_isWell (mt := (0)) (ms := (ms.1, ms.2.1, ms.2.2.1, ms.2.2.2.1, ms.2.2.2.2.1 + 1, ms.2.2.2.2.2.1, ms.2.2.2.2.2.2.1, ms.2.2.2.2.2.2.2)) (mk := (mk.1, va_up mk.2.1 ms.2.2.2.2.1 k_zA, va_up mk.2.2.1 ms.2.2.2.2.1 k_zB, va_up mk.2.2.2 ms.2.2.2.2.1 zC)) (zr := 0) ok_mp_turns ok_ms_parts ok_ms_outs ok_ma_sides (show ms.2.2.2.2.1 + 1 ≤ 20 by omega) (bx_uplt ok_mk_nearOne (by omega)) (bx_uplt ok_mk_nearTwo (by omega)) (by omega)) (cwV 1 hts gvX5_157 rfl rfl rfl hvX5_isWell ⟨Nat.le_of_ble_eq_true rfl, Nat.le_of_ble_eq_true rfl⟩) hK hP hD hS hA 42 5 rfl ww_42 rfl hl.1 rfl (Nat.le_of_ble_eq_true rfl) dX5_near_100 ⟨Nat.le_of_ble_eq_true rfl, Nat.le_of_ble_eq_true rfl⟩ (fun ws_7 r_8 h_9 H locs hP hD hS => ?_)
                  obtain ⟨rfl, v_10, rfl⟩ := h_9
                  have hP : va_P D vwCl (WW ad cJ cI cZ bm pa p0 p1 p2 li wi (0) (ms.1, ms.2.1, ms.2.2.1, ms.2.2.2.1, ms.2.2.2.2.1 + 1, ms.2.2.2.2.2.1, ms.2.2.2.2.2.2.1, ms.2.2.2.2.2.2.2) ma mp (mk.1, va_up mk.2.1 ms.2.2.2.2.1 k_zA, va_up mk.2.2.1 ms.2.2.2.2.1 k_zB, va_up mk.2.2.2 ms.2.2.2.2.1 zC) mn ou) H := hP
                  have hD : va_D A (WW ad cJ cI cZ bm pa p0 p1 p2 li wi (0) (ms.1, ms.2.1, ms.2.2.1, ms.2.2.2.1, ms.2.2.2.2.1 + 1, ms.2.2.2.2.2.1, ms.2.2.2.2.2.2.1, ms.2.2.2.2.2.2.2) ma mp (mk.1, va_up mk.2.1 ms.2.2.2.2.1 k_zA, va_up mk.2.2.1 ms.2.2.2.2.1 k_zB, va_up mk.2.2.2 ms.2.2.2.2.1 zC) mn ou) := hD
                  refine bm_zb_eq (x := v_10) (tgt := 108) hx hb dX5_near_103 (by decide) (fun c_11 => ?_) (fun c_11 => ?_)
                  · refine lv_aload_n hx hb dX5_near_108 rfl (lv_at hl 0 rfl) ?_
                    refine lv_dup hx hb dX5_near_109 rfl ?_
                    refine va_get (D := D) (ci := 5) (v := .int (nI (ms.2.2.2.2.1 + 1))) (C := RX5) (T := TX5) (N := 28) hx hb hts (inT inX5) hown hK hP 42 ww_42 rfl 16 (by decide) (hts (.fieldLink RX5 126 "BoardMovesModel" "nears" "I") (List.mem_cons_of_mem _ flX5_126)) (fun _ h9 => h9) rfl dX5_near_110 ?_
                    refine lv_iconst (v := nI 1) hx hb dX5_near_113 (by decide) ?_
                    refine bm_nsub hx hb (by omega) dX5_near_114 ?_
                    refine va_put (D := D) (ci := 5) (v := .int (nI ((ms.2.2.2.2.1 + 1) - 1))) (ty := .int) (C := RX5) (T := TX5) (N := 28) hx hb hts (inT inX5) tyX5 tyX5_ok nmX5 hown hK hP hD hS 42 ww_42 rfl 16 (by decide) (hts (.fieldLink RX5 126 "BoardMovesModel" "nears" "I") (List.mem_cons_of_mem _ flX5_126)) (fun _ h9 => h9) rfl (by decide +kernel) rfl rfl (Nat.le_of_ble_eq_true rfl) dX5_near_115 (fun H locs hP hD hS => ?_)
                    have hP : va_P D vwCl (WW ad cJ cI cZ bm pa p0 p1 p2 li wi (0) (ms.1, ms.2.1, ms.2.2.1, ms.2.2.2.1, (ms.2.2.2.2.1 + 1) - 1, ms.2.2.2.2.2.1, ms.2.2.2.2.2.2.1, ms.2.2.2.2.2.2.2) ma mp (mk.1, va_up mk.2.1 ms.2.2.2.2.1 k_zA, va_up mk.2.2.1 ms.2.2.2.2.1 k_zB, va_up mk.2.2.2 ms.2.2.2.2.1 zC) mn ou) H := hP
                    have hD : va_D A (WW ad cJ cI cZ bm pa p0 p1 p2 li wi (0) (ms.1, ms.2.1, ms.2.2.1, ms.2.2.2.1, (ms.2.2.2.2.1 + 1) - 1, ms.2.2.2.2.2.1, ms.2.2.2.2.2.2.1, ms.2.2.2.2.2.2.2) ma mp (mk.1, va_up mk.2.1 ms.2.2.2.2.1 k_zA, va_up mk.2.2.1 ms.2.2.2.2.1 k_zB, va_up mk.2.2.2 ms.2.2.2.2.1 zC) mn ou) := hD
                    refine lv_iconst (v := bm_b false) hx hb dX5_near_118 (by decide) ?_
                    exact bm_zretX (v := false) hx hb hr hP hD hK hS ⟨(0), (ms.1, ms.2.1, ms.2.2.1, ms.2.2.2.1, (ms.2.2.2.2.1 + 1) - 1, ms.2.2.2.2.2.1, ms.2.2.2.2.2.2.1, ms.2.2.2.2.2.2.2), ma, mp, (mk.1, va_up mk.2.1 ms.2.2.2.2.1 k_zA, va_up mk.2.2.1 ms.2.2.2.2.1 k_zB, va_up mk.2.2.2 ms.2.2.2.2.1 zC), mn, ⟨ok_ms_parts, ok_ms_outs, (show (ms.2.2.2.2.1 + 1) - 1 ≤ 20 by omega), ok_ms_nets, ok_ms_pins, ok_ma_sides, ok_ma_groups, ok_mp_turns, (bx_uplt ok_mk_nearOne (by omega)), (bx_uplt ok_mk_nearTwo (by omega)), ok_mn_pinNet, ok_mn_pinPart, hw, hh⟩, rfl, rfl, false, rfl⟩ dX5_near_119 hlocks
                  · refine lv_iconst (v := bm_b true) hx hb dX5_near_106 (by decide) ?_
                    exact bm_zretX (v := true) hx hb hr hP hD hK hS ⟨(0), (ms.1, ms.2.1, ms.2.2.1, ms.2.2.2.1, ms.2.2.2.2.1 + 1, ms.2.2.2.2.2.1, ms.2.2.2.2.2.2.1, ms.2.2.2.2.2.2.2), ma, mp, (mk.1, va_up mk.2.1 ms.2.2.2.2.1 k_zA, va_up mk.2.2.1 ms.2.2.2.2.1 k_zB, va_up mk.2.2.2 ms.2.2.2.2.1 zC), mn, ⟨ok_ms_parts, ok_ms_outs, (show ms.2.2.2.2.1 + 1 ≤ 20 by omega), ok_ms_nets, ok_ms_pins, ok_ma_sides, ok_ma_groups, ok_mp_turns, (bx_uplt ok_mk_nearOne (by omega)), (bx_uplt ok_mk_nearTwo (by omega)), ok_mn_pinNet, ok_mn_pinPart, hw, hh⟩, rfl, rfl, true, rfl⟩ dX5_near_107 hlocks
                · refine lv_iconst (v := bm_b false) hx hb dX5_near_56 (by decide) ?_
                  exact bm_zretX (v := false) hx hb hr hP hD hK hS ⟨(0), ms, ma, mp, mk, mn, ⟨ok_ms_parts, ok_ms_outs, ok_ms_nears, ok_ms_nets, ok_ms_pins, ok_ma_sides, ok_ma_groups, ok_mp_turns, ok_mk_nearOne, ok_mk_nearTwo, ok_mn_pinNet, ok_mn_pinPart, hw, hh⟩, rfl, rfl, false, rfl⟩ dX5_near_57 hlocks
          · refine lv_iconst (v := nI 2) hx hb dX5_near_27 (by decide) ?_
            refine lv_goto (tgt := 32) hx hb dX5_near_28 (by decide) ?_
            refine va_put (D := D) (ci := 5) (v := .int (nI 2)) (ty := .int) (C := RX5) (T := TX5) (N := 28) hx hb hts (inT inX5) tyX5 tyX5_ok nmX5 hown hK hP hD hS 42 ww_42 rfl 0 (by decide) (hts (.fieldLink RX5 81 "BoardMovesModel" "thrown" "I") (List.mem_cons_of_mem _ flX5_81)) (fun _ h9 => h9) rfl (by decide +kernel) rfl rfl (Nat.le_of_ble_eq_true rfl) dX5_near_32 (fun H locs hP hD hS => ?_)
            have hP : va_P D vwCl (WW ad cJ cI cZ bm pa p0 p1 p2 li wi (2) ms ma mp mk mn ou) H := hP
            have hD : va_D A (WW ad cJ cI cZ bm pa p0 p1 p2 li wi (2) ms ma mp mk mn ou) := hD
            refine lv_aload_n hx hb dX5_near_35 rfl (lv_at hl 0 rfl) ?_
            refine va_get (D := D) (ci := 5) (v := .int (nI 2)) (C := RX5) (T := TX5) (N := 28) hx hb hts (inT inX5) hown hK hP 42 ww_42 rfl 0 (by decide) (hts (.fieldLink RX5 81 "BoardMovesModel" "thrown" "I") (List.mem_cons_of_mem _ flX5_81)) (fun _ h9 => h9) rfl dX5_near_36 ?_
            refine bm_nz_ne (x := 2) (tgt := 56) hx hb (by decide) dX5_near_39 (by decide) (fun c_12 => ?_) (fun c_12 => ?_)
            · refine lv_iconst (v := bm_b false) hx hb dX5_near_56 (by decide) ?_
              exact bm_zretX (v := false) hx hb hr hP hD hK hS ⟨(2), ms, ma, mp, mk, mn, ⟨ok_ms_parts, ok_ms_outs, ok_ms_nears, ok_ms_nets, ok_ms_pins, ok_ma_sides, ok_ma_groups, ok_mp_turns, ok_mk_nearOne, ok_mk_nearTwo, ok_mn_pinNet, ok_mn_pinPart, hw, hh⟩, rfl, rfl, false, rfl⟩ dX5_near_57 hlocks
            · exact absurd c_12 (by decide)
        · exact absurd c_2 (by decide)
    · have hl := lv_entry ([.ref (ad 42), .int (nI k_zA), .int zB, .long zC]) (n := 5) (Nat.le_of_ble_eq_true rfl)
      refine W.eq (g2 := entryFrame m ([.ref (ad 42), .int (nI k_zA), .int zB, .long zC] : List Value).toArray 5) (by rw [ha]) ?_
      rw [lg_entry_eq]
      generalize (lg_sl ([.ref (ad 42), .int (nI k_zA), .int zB, .long zC]) ++ List.replicate (5 - (lg_sl ([.ref (ad 42), .int (nI k_zA), .int zB, .long zC])).length) Slot.unset).toArray = ls at hl ⊢
      have hl : lv_has ls 5 [(0, .ref (ad 42)), (1, .int (nI k_zA)), (2, .int zB), (3, .long zC)] := hl
      refine lv_aload_n hx hb dX5_near_0 rfl (lv_at hl 0 rfl) ?_
      refine lv_aload_n hx hb dX5_near_1 rfl (lv_at hl 0 rfl) ?_
      refine lv_iload_n hx hb dX5_near_2 rfl (lv_at hl 1 rfl) ?_
      refine bm_rcallV (As := [.int (nI k_zA)]) (rest := [.ref (ad 42)]) ⟨hx, hb, hml, hown, hts⟩ (Y_isPartY  (zp := k_zA) ok_ms_parts (by omega)) (cwV 1 hts gvX5_139 rfl rfl rfl hvX5_isPart ⟨Nat.le_of_ble_eq_true rfl, Nat.le_of_ble_eq_true rfl⟩) hK hP 42 5 rfl ww_42 rfl hl.1 rfl (Nat.le_of_ble_eq_true rfl) dX5_near_3 ⟨Nat.le_of_ble_eq_true rfl, Nat.le_of_ble_eq_true rfl⟩ ?_
      refine bm_zb_eq (x := true) (tgt := 17) hx hb dX5_near_6 (by decide) (fun c_13 => ?_) (fun c_13 => ?_)
      · exact absurd c_13 (by decide)
      · refine lv_aload_n hx hb dX5_near_9 rfl (lv_at hl 0 rfl) ?_
        refine lv_iload_n hx hb dX5_near_10 rfl (lv_at hl 2 rfl) ?_
        refine bm_rcallV (As := [.int zB]) (rest := [.ref (ad 42)]) ⟨hx, hb, hml, hown, hts⟩ (Y_isPartN  (zA := zB) hno_zB) (cwV 1 hts gvX5_139 rfl rfl rfl hvX5_isPart ⟨Nat.le_of_ble_eq_true rfl, Nat.le_of_ble_eq_true rfl⟩) hK hP 42 5 rfl ww_42 rfl hl.1 rfl (Nat.le_of_ble_eq_true rfl) dX5_near_11 ⟨Nat.le_of_ble_eq_true rfl, Nat.le_of_ble_eq_true rfl⟩ ?_
        refine bm_zb_ne (x := false) (tgt := 21) hx hb dX5_near_14 (by decide) (fun c_14 => ?_) (fun c_14 => ?_)
        · exact absurd c_14 (by decide)
        · refine lv_iconst (v := nI 1) hx hb dX5_near_17 (by decide) ?_
          refine lv_goto (tgt := 32) hx hb dX5_near_18 (by decide) ?_
          refine va_put (D := D) (ci := 5) (v := .int (nI 1)) (ty := .int) (C := RX5) (T := TX5) (N := 28) hx hb hts (inT inX5) tyX5 tyX5_ok nmX5 hown hK hP hD hS 42 ww_42 rfl 0 (by decide) (hts (.fieldLink RX5 81 "BoardMovesModel" "thrown" "I") (List.mem_cons_of_mem _ flX5_81)) (fun _ h9 => h9) rfl (by decide +kernel) rfl rfl (Nat.le_of_ble_eq_true rfl) dX5_near_32 (fun H locs hP hD hS => ?_)
          have hP : va_P D vwCl (WW ad cJ cI cZ bm pa p0 p1 p2 li wi (1) ms ma mp mk mn ou) H := hP
          have hD : va_D A (WW ad cJ cI cZ bm pa p0 p1 p2 li wi (1) ms ma mp mk mn ou) := hD
          refine lv_aload_n hx hb dX5_near_35 rfl (lv_at hl 0 rfl) ?_
          refine va_get (D := D) (ci := 5) (v := .int (nI 1)) (C := RX5) (T := TX5) (N := 28) hx hb hts (inT inX5) hown hK hP 42 ww_42 rfl 0 (by decide) (hts (.fieldLink RX5 81 "BoardMovesModel" "thrown" "I") (List.mem_cons_of_mem _ flX5_81)) (fun _ h9 => h9) rfl dX5_near_36 ?_
          refine bm_nz_ne (x := 1) (tgt := 56) hx hb (by decide) dX5_near_39 (by decide) (fun c_15 => ?_) (fun c_15 => ?_)
          · refine lv_iconst (v := bm_b false) hx hb dX5_near_56 (by decide) ?_
            exact bm_zretX (v := false) hx hb hr hP hD hK hS ⟨(1), ms, ma, mp, mk, mn, ⟨ok_ms_parts, ok_ms_outs, ok_ms_nears, ok_ms_nets, ok_ms_pins, ok_ma_sides, ok_ma_groups, ok_mp_turns, ok_mk_nearOne, ok_mk_nearTwo, ok_mn_pinNet, ok_mn_pinPart, hw, hh⟩, rfl, rfl, false, rfl⟩ dX5_near_57 hlocks
          · exact absurd c_15 (by decide)
  · have hl := lv_entry ([.ref (ad 42), .int zA, .int zB, .long zC]) (n := 5) (Nat.le_of_ble_eq_true rfl)
    refine W.eq (g2 := entryFrame m ([.ref (ad 42), .int zA, .int zB, .long zC] : List Value).toArray 5) (by rw [ha]) ?_
    rw [lg_entry_eq]
    generalize (lg_sl ([.ref (ad 42), .int zA, .int zB, .long zC]) ++ List.replicate (5 - (lg_sl ([.ref (ad 42), .int zA, .int zB, .long zC])).length) Slot.unset).toArray = ls at hl ⊢
    have hl : lv_has ls 5 [(0, .ref (ad 42)), (1, .int zA), (2, .int zB), (3, .long zC)] := hl
    refine lv_aload_n hx hb dX5_near_0 rfl (lv_at hl 0 rfl) ?_
    refine lv_aload_n hx hb dX5_near_1 rfl (lv_at hl 0 rfl) ?_
    refine lv_iload_n hx hb dX5_near_2 rfl (lv_at hl 1 rfl) ?_
    refine bm_rcallV (As := [.int zA]) (rest := [.ref (ad 42)]) ⟨hx, hb, hml, hown, hts⟩ (Y_isPartN  (zA := zA) hno_zA) (cwV 1 hts gvX5_139 rfl rfl rfl hvX5_isPart ⟨Nat.le_of_ble_eq_true rfl, Nat.le_of_ble_eq_true rfl⟩) hK hP 42 5 rfl ww_42 rfl hl.1 rfl (Nat.le_of_ble_eq_true rfl) dX5_near_3 ⟨Nat.le_of_ble_eq_true rfl, Nat.le_of_ble_eq_true rfl⟩ ?_
    refine bm_zb_eq (x := false) (tgt := 17) hx hb dX5_near_6 (by decide) (fun c_16 => ?_) (fun c_16 => ?_)
    · refine lv_iconst (v := nI 1) hx hb dX5_near_17 (by decide) ?_
      refine lv_goto (tgt := 32) hx hb dX5_near_18 (by decide) ?_
      refine va_put (D := D) (ci := 5) (v := .int (nI 1)) (ty := .int) (C := RX5) (T := TX5) (N := 28) hx hb hts (inT inX5) tyX5 tyX5_ok nmX5 hown hK hP hD hS 42 ww_42 rfl 0 (by decide) (hts (.fieldLink RX5 81 "BoardMovesModel" "thrown" "I") (List.mem_cons_of_mem _ flX5_81)) (fun _ h9 => h9) rfl (by decide +kernel) rfl rfl (Nat.le_of_ble_eq_true rfl) dX5_near_32 (fun H locs hP hD hS => ?_)
      have hP : va_P D vwCl (WW ad cJ cI cZ bm pa p0 p1 p2 li wi (1) ms ma mp mk mn ou) H := hP
      have hD : va_D A (WW ad cJ cI cZ bm pa p0 p1 p2 li wi (1) ms ma mp mk mn ou) := hD
      refine lv_aload_n hx hb dX5_near_35 rfl (lv_at hl 0 rfl) ?_
      refine va_get (D := D) (ci := 5) (v := .int (nI 1)) (C := RX5) (T := TX5) (N := 28) hx hb hts (inT inX5) hown hK hP 42 ww_42 rfl 0 (by decide) (hts (.fieldLink RX5 81 "BoardMovesModel" "thrown" "I") (List.mem_cons_of_mem _ flX5_81)) (fun _ h9 => h9) rfl dX5_near_36 ?_
      refine bm_nz_ne (x := 1) (tgt := 56) hx hb (by decide) dX5_near_39 (by decide) (fun c_17 => ?_) (fun c_17 => ?_)
      · refine lv_iconst (v := bm_b false) hx hb dX5_near_56 (by decide) ?_
        exact bm_zretX (v := false) hx hb hr hP hD hK hS ⟨(1), ms, ma, mp, mk, mn, ⟨ok_ms_parts, ok_ms_outs, ok_ms_nears, ok_ms_nets, ok_ms_pins, ok_ma_sides, ok_ma_groups, ok_mp_turns, ok_mk_nearOne, ok_mk_nearTwo, ok_mn_pinNet, ok_mn_pinPart, hw, hh⟩, rfl, rfl, false, rfl⟩ dX5_near_57 hlocks
      · exact absurd c_17 (by decide)
    · exact absurd c_16 (by decide)

set_option maxHeartbeats 16000000 in
set_option maxRecDepth 100000 in
theorem Y_keepOut {l : Launch} {D : va_G} {ad : Nat → Nat} {cJ cI cZ : ClassId} {bm : gBM} {pa : gPA} {p0 p1 p2 : gPL} {li : gLI} {wi : gWI} {mt : Nat} {ms : gMS} {ma : gMA} {mp : gMP} {mk : gMK} {mn : gMN} {ou : Nat → Int64} {z1 : Int64} {z2 : Int64} {z3 : Int64} {z4 : Int64} {z5 : Int64} (hok : okM ms ma mp mk mn)  : bm_Wx l yX5_keepOut wsX5_keepOut ({ frames := 4, cells := 0, slots := 0, locals := 93 }) D vwCl [(cJ, .long), (cI, .int), (cZ, .boolean)] (WW ad cJ cI cZ bm pa p0 p1 p2 li wi mt ms ma mp mk mn ou) [.ref (ad 42), .long z1, .long z2, .long z3, .long z4, .long z5] (PMZ ad cJ cI cZ bm pa p0 p1 p2 li wi mt ms ma mp mk mn ou) := by
  obtain ⟨ok_ms_parts, ok_ms_outs, ok_ms_nears, ok_ms_nets, ok_ms_pins, ok_ma_sides, ok_ma_groups, ok_mp_turns, ok_mk_nearOne, ok_mk_nearTwo, ok_mn_pinNet, ok_mn_pinPart, hw, hh⟩ := hok
  intro sz
  refine Met.ofW (cc := cX5_keepOut) (maxL := 12) (ret := (some .boolean)) (by decide) rfl ?_
  intro p e s m args below meth c s₁ B hml hv
  obtain ⟨ha, hsz, hP, hK, hD0⟩ := hv
  have hx := B.exec
  have hb := B.bytes
  have hr := B.returns
  have hts := atoms_spec (ws := wsX5_keepOut) B.pre
  have hown : s.vm.findClass RX5 = some m.cls := findClass_of_methodNamed B.named
  have hlocks := B.notSynchronized
  subst hsz
  have hD := hD0.self (sz := s.heap.size)
  generalize hAe : va_A (WW ad cJ cI cZ bm pa p0 p1 p2 li wi mt ms ma mp mk mn ou) s.heap.size = A at hD ⊢
  have hA : ∀ q : Nat, s.heap.size ≤ q → A q := fun q h => by rw [← hAe]; exact Or.inr h
  have hS : va_S A s.heap s.heap [] := va_S.rf
  have hl := lv_entry ([.ref (ad 42), .long z1, .long z2, .long z3, .long z4, .long z5]) (n := 12) (Nat.le_of_ble_eq_true rfl)
  refine W.eq (g2 := entryFrame m ([.ref (ad 42), .long z1, .long z2, .long z3, .long z4, .long z5] : List Value).toArray 12) (by rw [ha]) ?_
  rw [lg_entry_eq]
  generalize (lg_sl ([.ref (ad 42), .long z1, .long z2, .long z3, .long z4, .long z5]) ++ List.replicate (12 - (lg_sl ([.ref (ad 42), .long z1, .long z2, .long z3, .long z4, .long z5])).length) Slot.unset).toArray = ls at hl ⊢
  have hl : lv_has ls 12 [(0, .ref (ad 42)), (1, .long z1), (3, .long z2), (5, .long z3), (7, .long z4), (9, .long z5)] := hl
  refine lv_aload_n hx hb dX5_keepOut_0 rfl (lv_at hl 0 rfl) ?_
  refine lv_lload hx hb dX5_keepOut_1 (lv_at hl 5 rfl) ?_
  refine lv_lconst (v := 0) hx hb dX5_keepOut_3 (by decide) ?_
  refine bm_lc_ge (x := z5) (y := 0) (tgt := 12) hx hb dX5_keepOut_4 dX5_keepOut_5 (by decide) (fun c_1 => ?_) (fun c_1 => ?_)
  · refine lv_iconst (v := nI 0) hx hb dX5_keepOut_12 (by decide) ?_
    refine va_put (D := D) (ci := 5) (v := .int (nI 0)) (ty := .int) (C := RX5) (T := TX5) (N := 28) hx hb hts (inT inX5) tyX5 tyX5_ok nmX5 hown hK hP hD hS 42 ww_42 rfl 0 (by decide) (hts (.fieldLink RX5 81 "BoardMovesModel" "thrown" "I") (List.mem_cons_of_mem _ flX5_81)) (fun _ h9 => h9) rfl (by decide +kernel) rfl rfl (Nat.le_of_ble_eq_true rfl) dX5_keepOut_13 (fun H locs hP hD hS => ?_)
    have hP : va_P D vwCl (WW ad cJ cI cZ bm pa p0 p1 p2 li wi (0) ms ma mp mk mn ou) H := hP
    have hD : va_D A (WW ad cJ cI cZ bm pa p0 p1 p2 li wi (0) ms ma mp mk mn ou) := hD
    refine lv_aload_n hx hb dX5_keepOut_16 rfl (lv_at hl 0 rfl) ?_
    refine va_get (D := D) (ci := 5) (v := .int (nI 0)) (C := RX5) (T := TX5) (N := 28) hx hb hts (inT inX5) hown hK hP 42 ww_42 rfl 0 (by decide) (hts (.fieldLink RX5 81 "BoardMovesModel" "thrown" "I") (List.mem_cons_of_mem _ flX5_81)) (fun _ h9 => h9) rfl dX5_keepOut_17 ?_
    refine bm_nz_ne (x := 0) (tgt := 46) hx hb (by decide) dX5_keepOut_20 (by decide) (fun c_2 => ?_) (fun c_2 => ?_)
    · exact absurd c_2 (by decide)
    · refine lv_aload_n hx hb dX5_keepOut_23 rfl (lv_at hl 0 rfl) ?_
      refine va_get (D := D) (ci := 5) (v := .int (nI ms.2.2.2.1)) (C := RX5) (T := TX5) (N := 28) hx hb hts (inT inX5) hown hK hP 42 ww_42 rfl 14 (by decide) (hts (.fieldLink RX5 109 "BoardMovesModel" "outs" "I") (List.mem_cons_of_mem _ flX5_109)) (fun _ h9 => h9) rfl dX5_keepOut_24 ?_
      refine lv_bipush (v := nI 10) hx hb dX5_keepOut_27 (by decide) ?_
      refine bm_ni_eq (x := ms.2.2.2.1) (y := 10) (tgt := 46) hx hb (by omega) (by omega) dX5_keepOut_29 (by decide) (fun c_3 => ?_) (fun c_3 => ?_)
      · refine lv_iconst (v := bm_b false) hx hb dX5_keepOut_46 (by decide) ?_
        exact bm_zretX (v := false) hx hb hr hP hD hK hS ⟨(0), ms, ma, mp, mk, mn, ⟨ok_ms_parts, ok_ms_outs, ok_ms_nears, ok_ms_nets, ok_ms_pins, ok_ma_sides, ok_ma_groups, ok_mp_turns, ok_mk_nearOne, ok_mk_nearTwo, ok_mn_pinNet, ok_mn_pinPart, hw, hh⟩, rfl, rfl, false, rfl⟩ dX5_keepOut_47 hlocks
      · refine lv_lload_n hx hb dX5_keepOut_32 rfl (lv_at hl 1 rfl) ?_
        refine lv_lload hx hb dX5_keepOut_33 (lv_at hl 3 rfl) ?_
        refine bm_lc_ge (x := z1) (y := z3) (tgt := 46) hx hb dX5_keepOut_35 dX5_keepOut_36 (by decide) (fun c_4 => ?_) (fun c_4 => ?_)
        · refine lv_iconst (v := bm_b false) hx hb dX5_keepOut_46 (by decide) ?_
          exact bm_zretX (v := false) hx hb hr hP hD hK hS ⟨(0), ms, ma, mp, mk, mn, ⟨ok_ms_parts, ok_ms_outs, ok_ms_nears, ok_ms_nets, ok_ms_pins, ok_ma_sides, ok_ma_groups, ok_mp_turns, ok_mk_nearOne, ok_mk_nearTwo, ok_mn_pinNet, ok_mn_pinPart, hw, hh⟩, rfl, rfl, false, rfl⟩ dX5_keepOut_47 hlocks
        · refine lv_lload_n hx hb dX5_keepOut_39 rfl (lv_at hl 2 rfl) ?_
          refine lv_lload hx hb dX5_keepOut_40 (lv_at hl 4 rfl) ?_
          refine bm_lc_lt (x := z2) (y := z4) (tgt := 48) hx hb dX5_keepOut_42 dX5_keepOut_43 (by decide) (fun c_5 => ?_) (fun c_5 => ?_)
          · refine lv_iconst (v := nI 5) hx hb dX5_keepOut_48 (by decide) ?_
            refine lv_aload_n hx hb dX5_keepOut_49 rfl (lv_at hl 0 rfl) ?_
            refine va_get (D := D) (ci := 5) (v := .int (nI ms.2.2.2.1)) (C := RX5) (T := TX5) (N := 28) hx hb hts (inT inX5) hown hK hP 42 ww_42 rfl 14 (by decide) (hts (.fieldLink RX5 109 "BoardMovesModel" "outs" "I") (List.mem_cons_of_mem _ flX5_109)) (fun _ h9 => h9) rfl dX5_keepOut_50 ?_
            refine bm_nmul hx hb dX5_keepOut_53 ?_
            refine lv_istore (lv' := [(11, .int (nI (5 * ms.2.2.2.1))), (0, .ref (ad 42)), (1, .long z1), (3, .long z2), (5, .long z3), (7, .long z4), (9, .long z5)]) hx hb dX5_keepOut_54 hl (by decide) rfl (fun ls hl => ?_)
            refine lv_aload_n hx hb dX5_keepOut_56 rfl (lv_at hl 1 rfl) ?_
            refine va_get (D := D) (ci := 5) (v := .ref (ad 53)) (C := RX5) (T := TX5) (N := 28) hx hb hts (inT inX5) hown hK hP 42 ww_42 rfl 15 (by decide) (hts (.fieldLink RX5 42 "BoardMovesModel" "out" "[J") (List.mem_cons_of_mem _ flX5_42)) (fun _ h9 => h9) rfl dX5_keepOut_57 ?_
            refine lv_iload hx hb dX5_keepOut_60 (lv_at hl 0 rfl) ?_
            refine lv_lload_n hx hb dX5_keepOut_62 rfl (lv_at hl 2 rfl) ?_
            refine bm_last (f := mk.1) hx hb hK hP hD hS 53 0 ww_53 rfl (j := (5 * ms.2.2.2.1)) (x := z1) (by omega) (by decide) dX5_keepOut_63 (fun H locs hP hD hS => ?_)
            have hP : va_P D vwCl (WW ad cJ cI cZ bm pa p0 p1 p2 li wi (0) ms ma mp (va_up mk.1 (5 * ms.2.2.2.1) z1, mk.2.1, mk.2.2.1, mk.2.2.2) mn ou) H := hP
            have hD : va_D A (WW ad cJ cI cZ bm pa p0 p1 p2 li wi (0) ms ma mp (va_up mk.1 (5 * ms.2.2.2.1) z1, mk.2.1, mk.2.2.1, mk.2.2.2) mn ou) := hD
            refine lv_aload_n hx hb dX5_keepOut_64 rfl (lv_at hl 1 rfl) ?_
            refine va_get (D := D) (ci := 5) (v := .ref (ad 53)) (C := RX5) (T := TX5) (N := 28) hx hb hts (inT inX5) hown hK hP 42 ww_42 rfl 15 (by decide) (hts (.fieldLink RX5 42 "BoardMovesModel" "out" "[J") (List.mem_cons_of_mem _ flX5_42)) (fun _ h9 => h9) rfl dX5_keepOut_65 ?_
            refine lv_iload hx hb dX5_keepOut_68 (lv_at hl 0 rfl) ?_
            refine lv_iconst (v := nI 1) hx hb dX5_keepOut_70 (by decide) ?_
            refine bm_nadd hx hb dX5_keepOut_71 ?_
            refine lv_lload_n hx hb dX5_keepOut_72 rfl (lv_at hl 3 rfl) ?_
            refine bm_last (f := (va_up mk.1 (5 * ms.2.2.2.1) z1)) hx hb hK hP hD hS 53 0 ww_53 rfl (j := ((5 * ms.2.2.2.1) + 1)) (x := z2) (by omega) (by decide) dX5_keepOut_73 (fun H locs hP hD hS => ?_)
            have hP : va_P D vwCl (WW ad cJ cI cZ bm pa p0 p1 p2 li wi (0) ms ma mp (va_up (va_up mk.1 (5 * ms.2.2.2.1) z1) ((5 * ms.2.2.2.1) + 1) z2, mk.2.1, mk.2.2.1, mk.2.2.2) mn ou) H := hP
            have hD : va_D A (WW ad cJ cI cZ bm pa p0 p1 p2 li wi (0) ms ma mp (va_up (va_up mk.1 (5 * ms.2.2.2.1) z1) ((5 * ms.2.2.2.1) + 1) z2, mk.2.1, mk.2.2.1, mk.2.2.2) mn ou) := hD
            refine lv_aload_n hx hb dX5_keepOut_74 rfl (lv_at hl 1 rfl) ?_
            refine va_get (D := D) (ci := 5) (v := .ref (ad 53)) (C := RX5) (T := TX5) (N := 28) hx hb hts (inT inX5) hown hK hP 42 ww_42 rfl 15 (by decide) (hts (.fieldLink RX5 42 "BoardMovesModel" "out" "[J") (List.mem_cons_of_mem _ flX5_42)) (fun _ h9 => h9) rfl dX5_keepOut_75 ?_
            refine lv_iload hx hb dX5_keepOut_78 (lv_at hl 0 rfl) ?_
            refine lv_iconst (v := nI 2) hx hb dX5_keepOut_80 (by decide) ?_
            refine bm_nadd hx hb dX5_keepOut_81 ?_
            refine lv_lload hx hb dX5_keepOut_82 (lv_at hl 4 rfl) ?_
            refine bm_last (f := (va_up (va_up mk.1 (5 * ms.2.2.2.1) z1) ((5 * ms.2.2.2.1) + 1) z2)) hx hb hK hP hD hS 53 0 ww_53 rfl (j := ((5 * ms.2.2.2.1) + 2)) (x := z3) (by omega) (by decide) dX5_keepOut_84 (fun H locs hP hD hS => ?_)
            have hP : va_P D vwCl (WW ad cJ cI cZ bm pa p0 p1 p2 li wi (0) ms ma mp (va_up (va_up (va_up mk.1 (5 * ms.2.2.2.1) z1) ((5 * ms.2.2.2.1) + 1) z2) ((5 * ms.2.2.2.1) + 2) z3, mk.2.1, mk.2.2.1, mk.2.2.2) mn ou) H := hP
            have hD : va_D A (WW ad cJ cI cZ bm pa p0 p1 p2 li wi (0) ms ma mp (va_up (va_up (va_up mk.1 (5 * ms.2.2.2.1) z1) ((5 * ms.2.2.2.1) + 1) z2) ((5 * ms.2.2.2.1) + 2) z3, mk.2.1, mk.2.2.1, mk.2.2.2) mn ou) := hD
            refine lv_aload_n hx hb dX5_keepOut_85 rfl (lv_at hl 1 rfl) ?_
            refine va_get (D := D) (ci := 5) (v := .ref (ad 53)) (C := RX5) (T := TX5) (N := 28) hx hb hts (inT inX5) hown hK hP 42 ww_42 rfl 15 (by decide) (hts (.fieldLink RX5 42 "BoardMovesModel" "out" "[J") (List.mem_cons_of_mem _ flX5_42)) (fun _ h9 => h9) rfl dX5_keepOut_86 ?_
            refine lv_iload hx hb dX5_keepOut_89 (lv_at hl 0 rfl) ?_
            refine lv_iconst (v := nI 3) hx hb dX5_keepOut_91 (by decide) ?_
            refine bm_nadd hx hb dX5_keepOut_92 ?_
            refine lv_lload hx hb dX5_keepOut_93 (lv_at hl 5 rfl) ?_
            refine bm_last (f := (va_up (va_up (va_up mk.1 (5 * ms.2.2.2.1) z1) ((5 * ms.2.2.2.1) + 1) z2) ((5 * ms.2.2.2.1) + 2) z3)) hx hb hK hP hD hS 53 0 ww_53 rfl (j := ((5 * ms.2.2.2.1) + 3)) (x := z4) (by omega) (by decide) dX5_keepOut_95 (fun H locs hP hD hS => ?_)
            have hP : va_P D vwCl (WW ad cJ cI cZ bm pa p0 p1 p2 li wi (0) ms ma mp (va_up (va_up (va_up (va_up mk.1 (5 * ms.2.2.2.1) z1) ((5 * ms.2.2.2.1) + 1) z2) ((5 * ms.2.2.2.1) + 2) z3) ((5 * ms.2.2.2.1) + 3) z4, mk.2.1, mk.2.2.1, mk.2.2.2) mn ou) H := hP
            have hD : va_D A (WW ad cJ cI cZ bm pa p0 p1 p2 li wi (0) ms ma mp (va_up (va_up (va_up (va_up mk.1 (5 * ms.2.2.2.1) z1) ((5 * ms.2.2.2.1) + 1) z2) ((5 * ms.2.2.2.1) + 2) z3) ((5 * ms.2.2.2.1) + 3) z4, mk.2.1, mk.2.2.1, mk.2.2.2) mn ou) := hD
            refine lv_aload_n hx hb dX5_keepOut_96 rfl (lv_at hl 1 rfl) ?_
            refine va_get (D := D) (ci := 5) (v := .ref (ad 53)) (C := RX5) (T := TX5) (N := 28) hx hb hts (inT inX5) hown hK hP 42 ww_42 rfl 15 (by decide) (hts (.fieldLink RX5 42 "BoardMovesModel" "out" "[J") (List.mem_cons_of_mem _ flX5_42)) (fun _ h9 => h9) rfl dX5_keepOut_97 ?_
            refine lv_iload hx hb dX5_keepOut_100 (lv_at hl 0 rfl) ?_
            refine lv_iconst (v := nI 4) hx hb dX5_keepOut_102 (by decide) ?_
            refine bm_nadd hx hb dX5_keepOut_103 ?_
            refine lv_lload hx hb dX5_keepOut_104 (lv_at hl 6 rfl) ?_
            refine bm_last (f := (va_up (va_up (va_up (va_up mk.1 (5 * ms.2.2.2.1) z1) ((5 * ms.2.2.2.1) + 1) z2) ((5 * ms.2.2.2.1) + 2) z3) ((5 * ms.2.2.2.1) + 3) z4)) hx hb hK hP hD hS 53 0 ww_53 rfl (j := ((5 * ms.2.2.2.1) + 4)) (x := z5) (by omega) (by decide) dX5_keepOut_106 (fun H locs hP hD hS => ?_)
            have hP : va_P D vwCl (WW ad cJ cI cZ bm pa p0 p1 p2 li wi (0) ms ma mp (va_up (va_up (va_up (va_up (va_up mk.1 (5 * ms.2.2.2.1) z1) ((5 * ms.2.2.2.1) + 1) z2) ((5 * ms.2.2.2.1) + 2) z3) ((5 * ms.2.2.2.1) + 3) z4) ((5 * ms.2.2.2.1) + 4) z5, mk.2.1, mk.2.2.1, mk.2.2.2) mn ou) H := hP
            have hD : va_D A (WW ad cJ cI cZ bm pa p0 p1 p2 li wi (0) ms ma mp (va_up (va_up (va_up (va_up (va_up mk.1 (5 * ms.2.2.2.1) z1) ((5 * ms.2.2.2.1) + 1) z2) ((5 * ms.2.2.2.1) + 2) z3) ((5 * ms.2.2.2.1) + 3) z4) ((5 * ms.2.2.2.1) + 4) z5, mk.2.1, mk.2.2.1, mk.2.2.2) mn ou) := hD
            refine lv_aload_n hx hb dX5_keepOut_107 rfl (lv_at hl 1 rfl) ?_
            refine lv_dup hx hb dX5_keepOut_108 rfl ?_
            refine va_get (D := D) (ci := 5) (v := .int (nI ms.2.2.2.1)) (C := RX5) (T := TX5) (N := 28) hx hb hts (inT inX5) hown hK hP 42 ww_42 rfl 14 (by decide) (hts (.fieldLink RX5 109 "BoardMovesModel" "outs" "I") (List.mem_cons_of_mem _ flX5_109)) (fun _ h9 => h9) rfl dX5_keepOut_109 ?_
            refine lv_iconst (v := nI 1) hx hb dX5_keepOut_112 (by decide) ?_
            refine bm_nadd hx hb dX5_keepOut_113 ?_
            refine va_put (D := D) (ci := 5) (v := .int (nI (ms.2.2.2.1 + 1))) (ty := .int) (C := RX5) (T := TX5) (N := 28) hx hb hts (inT inX5) tyX5 tyX5_ok nmX5 hown hK hP hD hS 42 ww_42 rfl 14 (by decide) (hts (.fieldLink RX5 109 "BoardMovesModel" "outs" "I") (List.mem_cons_of_mem _ flX5_109)) (fun _ h9 => h9) rfl (by decide +kernel) rfl rfl (Nat.le_of_ble_eq_true rfl) dX5_keepOut_114 (fun H locs hP hD hS => ?_)
            have hP : va_P D vwCl (WW ad cJ cI cZ bm pa p0 p1 p2 li wi (0) (ms.1, ms.2.1, ms.2.2.1, ms.2.2.2.1 + 1, ms.2.2.2.2.1, ms.2.2.2.2.2.1, ms.2.2.2.2.2.2.1, ms.2.2.2.2.2.2.2) ma mp (va_up (va_up (va_up (va_up (va_up mk.1 (5 * ms.2.2.2.1) z1) ((5 * ms.2.2.2.1) + 1) z2) ((5 * ms.2.2.2.1) + 2) z3) ((5 * ms.2.2.2.1) + 3) z4) ((5 * ms.2.2.2.1) + 4) z5, mk.2.1, mk.2.2.1, mk.2.2.2) mn ou) H := hP
            have hD : va_D A (WW ad cJ cI cZ bm pa p0 p1 p2 li wi (0) (ms.1, ms.2.1, ms.2.2.1, ms.2.2.2.1 + 1, ms.2.2.2.2.1, ms.2.2.2.2.2.1, ms.2.2.2.2.2.2.1, ms.2.2.2.2.2.2.2) ma mp (va_up (va_up (va_up (va_up (va_up mk.1 (5 * ms.2.2.2.1) z1) ((5 * ms.2.2.2.1) + 1) z2) ((5 * ms.2.2.2.1) + 2) z3) ((5 * ms.2.2.2.1) + 3) z4) ((5 * ms.2.2.2.1) + 4) z5, mk.2.1, mk.2.2.1, mk.2.2.2) mn ou) := hD
            refine lv_aload_n hx hb dX5_keepOut_117 rfl (lv_at hl 1 rfl) ?_
            refine lv_iconst (v := nI 0) hx hb dX5_keepOut_118 (by decide) ?_
            refine bm_xcallV (As := [.int (nI 0)]) (rest := []) ⟨hx, hb, hml, hown, hts⟩ (y_isWell (mt := (0)) (ms := (ms.1, ms.2.1, ms.2.2.1, ms.2.2.2.1 + 1, ms.2.2.2.2.1, ms.2.2.2.2.2.1, ms.2.2.2.2.2.2.1, ms.2.2.2.2.2.2.2)) (mk := (va_up (va_up (va_up (va_up (va_up mk.1 (5 * ms.2.2.2.1) z1) ((5 * ms.2.2.2.1) + 1) z2) ((5 * ms.2.2.2.1) + 2) z3) ((5 * ms.2.2.2.1) + 3) z4) ((5 * ms.2.2.2.1) + 4) z5, mk.2.1, mk.2.2.1, mk.2.2.2)) (zr := 0) ok_mp_turns ok_ms_parts (show ms.2.2.2.1 + 1 ≤ 10 by omega) ok_ma_sides ok_ms_nears ok_mk_nearOne ok_mk_nearTwo (by omega)) (cwV 1 hts gvX5_157 rfl rfl rfl hvX5_isWell ⟨Nat.le_of_ble_eq_true rfl, Nat.le_of_ble_eq_true rfl⟩) hK hP hD hS hA 42 5 rfl ww_42 rfl hl.1 rfl (Nat.le_of_ble_eq_true rfl) dX5_keepOut_119 ⟨Nat.le_of_ble_eq_true rfl, Nat.le_of_ble_eq_true rfl⟩ (fun ws_6 r_7 h_8 H locs hP hD hS => ?_)
            obtain ⟨rfl, v_9, rfl⟩ := h_8
            have hP : va_P D vwCl (WW ad cJ cI cZ bm pa p0 p1 p2 li wi (0) (ms.1, ms.2.1, ms.2.2.1, ms.2.2.2.1 + 1, ms.2.2.2.2.1, ms.2.2.2.2.2.1, ms.2.2.2.2.2.2.1, ms.2.2.2.2.2.2.2) ma mp (va_up (va_up (va_up (va_up (va_up mk.1 (5 * ms.2.2.2.1) z1) ((5 * ms.2.2.2.1) + 1) z2) ((5 * ms.2.2.2.1) + 2) z3) ((5 * ms.2.2.2.1) + 3) z4) ((5 * ms.2.2.2.1) + 4) z5, mk.2.1, mk.2.2.1, mk.2.2.2) mn ou) H := hP
            have hD : va_D A (WW ad cJ cI cZ bm pa p0 p1 p2 li wi (0) (ms.1, ms.2.1, ms.2.2.1, ms.2.2.2.1 + 1, ms.2.2.2.2.1, ms.2.2.2.2.2.1, ms.2.2.2.2.2.2.1, ms.2.2.2.2.2.2.2) ma mp (va_up (va_up (va_up (va_up (va_up mk.1 (5 * ms.2.2.2.1) z1) ((5 * ms.2.2.2.1) + 1) z2) ((5 * ms.2.2.2.1) + 2) z3) ((5 * ms.2.2.2.1) + 3) z4) ((5 * ms.2.2.2.1) + 4) z5, mk.2.1, mk.2.2.1, mk.2.2.2) mn ou) := hD
            refine bm_zb_eq (x := v_9) (tgt := 127) hx hb dX5_keepOut_122 (by decide) (fun c_10 => ?_) (fun c_10 => ?_)
            · refine lv_aload_n hx hb dX5_keepOut_127 rfl (lv_at hl 1 rfl) ?_
              refine lv_dup hx hb dX5_keepOut_128 rfl ?_
              refine va_get (D := D) (ci := 5) (v := .int (nI (ms.2.2.2.1 + 1))) (C := RX5) (T := TX5) (N := 28) hx hb hts (inT inX5) hown hK hP 42 ww_42 rfl 14 (by decide) (hts (.fieldLink RX5 109 "BoardMovesModel" "outs" "I") (List.mem_cons_of_mem _ flX5_109)) (fun _ h9 => h9) rfl dX5_keepOut_129 ?_
              refine lv_iconst (v := nI 1) hx hb dX5_keepOut_132 (by decide) ?_
              refine bm_nsub hx hb (by omega) dX5_keepOut_133 ?_
              refine va_put (D := D) (ci := 5) (v := .int (nI ((ms.2.2.2.1 + 1) - 1))) (ty := .int) (C := RX5) (T := TX5) (N := 28) hx hb hts (inT inX5) tyX5 tyX5_ok nmX5 hown hK hP hD hS 42 ww_42 rfl 14 (by decide) (hts (.fieldLink RX5 109 "BoardMovesModel" "outs" "I") (List.mem_cons_of_mem _ flX5_109)) (fun _ h9 => h9) rfl (by decide +kernel) rfl rfl (Nat.le_of_ble_eq_true rfl) dX5_keepOut_134 (fun H locs hP hD hS => ?_)
              have hP : va_P D vwCl (WW ad cJ cI cZ bm pa p0 p1 p2 li wi (0) (ms.1, ms.2.1, ms.2.2.1, (ms.2.2.2.1 + 1) - 1, ms.2.2.2.2.1, ms.2.2.2.2.2.1, ms.2.2.2.2.2.2.1, ms.2.2.2.2.2.2.2) ma mp (va_up (va_up (va_up (va_up (va_up mk.1 (5 * ms.2.2.2.1) z1) ((5 * ms.2.2.2.1) + 1) z2) ((5 * ms.2.2.2.1) + 2) z3) ((5 * ms.2.2.2.1) + 3) z4) ((5 * ms.2.2.2.1) + 4) z5, mk.2.1, mk.2.2.1, mk.2.2.2) mn ou) H := hP
              have hD : va_D A (WW ad cJ cI cZ bm pa p0 p1 p2 li wi (0) (ms.1, ms.2.1, ms.2.2.1, (ms.2.2.2.1 + 1) - 1, ms.2.2.2.2.1, ms.2.2.2.2.2.1, ms.2.2.2.2.2.2.1, ms.2.2.2.2.2.2.2) ma mp (va_up (va_up (va_up (va_up (va_up mk.1 (5 * ms.2.2.2.1) z1) ((5 * ms.2.2.2.1) + 1) z2) ((5 * ms.2.2.2.1) + 2) z3) ((5 * ms.2.2.2.1) + 3) z4) ((5 * ms.2.2.2.1) + 4) z5, mk.2.1, mk.2.2.1, mk.2.2.2) mn ou) := hD
              refine lv_iconst (v := bm_b false) hx hb dX5_keepOut_137 (by decide) ?_
              exact bm_zretX (v := false) hx hb hr hP hD hK hS ⟨(0), (ms.1, ms.2.1, ms.2.2.1, (ms.2.2.2.1 + 1) - 1, ms.2.2.2.2.1, ms.2.2.2.2.2.1, ms.2.2.2.2.2.2.1, ms.2.2.2.2.2.2.2), ma, mp, (va_up (va_up (va_up (va_up (va_up mk.1 (5 * ms.2.2.2.1) z1) ((5 * ms.2.2.2.1) + 1) z2) ((5 * ms.2.2.2.1) + 2) z3) ((5 * ms.2.2.2.1) + 3) z4) ((5 * ms.2.2.2.1) + 4) z5, mk.2.1, mk.2.2.1, mk.2.2.2), mn, ⟨ok_ms_parts, (show (ms.2.2.2.1 + 1) - 1 ≤ 10 by omega), ok_ms_nears, ok_ms_nets, ok_ms_pins, ok_ma_sides, ok_ma_groups, ok_mp_turns, ok_mk_nearOne, ok_mk_nearTwo, ok_mn_pinNet, ok_mn_pinPart, hw, hh⟩, rfl, rfl, false, rfl⟩ dX5_keepOut_138 hlocks
            · refine lv_iconst (v := bm_b true) hx hb dX5_keepOut_125 (by decide) ?_
              exact bm_zretX (v := true) hx hb hr hP hD hK hS ⟨(0), (ms.1, ms.2.1, ms.2.2.1, ms.2.2.2.1 + 1, ms.2.2.2.2.1, ms.2.2.2.2.2.1, ms.2.2.2.2.2.2.1, ms.2.2.2.2.2.2.2), ma, mp, (va_up (va_up (va_up (va_up (va_up mk.1 (5 * ms.2.2.2.1) z1) ((5 * ms.2.2.2.1) + 1) z2) ((5 * ms.2.2.2.1) + 2) z3) ((5 * ms.2.2.2.1) + 3) z4) ((5 * ms.2.2.2.1) + 4) z5, mk.2.1, mk.2.2.1, mk.2.2.2), mn, ⟨ok_ms_parts, (show ms.2.2.2.1 + 1 ≤ 10 by omega), ok_ms_nears, ok_ms_nets, ok_ms_pins, ok_ma_sides, ok_ma_groups, ok_mp_turns, ok_mk_nearOne, ok_mk_nearTwo, ok_mn_pinNet, ok_mn_pinPart, hw, hh⟩, rfl, rfl, true, rfl⟩ dX5_keepOut_126 hlocks
          · refine lv_iconst (v := bm_b false) hx hb dX5_keepOut_46 (by decide) ?_
            exact bm_zretX (v := false) hx hb hr hP hD hK hS ⟨(0), ms, ma, mp, mk, mn, ⟨ok_ms_parts, ok_ms_outs, ok_ms_nears, ok_ms_nets, ok_ms_pins, ok_ma_sides, ok_ma_groups, ok_mp_turns, ok_mk_nearOne, ok_mk_nearTwo, ok_mn_pinNet, ok_mn_pinPart, hw, hh⟩, rfl, rfl, false, rfl⟩ dX5_keepOut_47 hlocks
  · refine lv_iconst (v := nI 1) hx hb dX5_keepOut_8 (by decide) ?_
    refine lv_goto (tgt := 13) hx hb dX5_keepOut_9 (by decide) ?_
    refine va_put (D := D) (ci := 5) (v := .int (nI 1)) (ty := .int) (C := RX5) (T := TX5) (N := 28) hx hb hts (inT inX5) tyX5 tyX5_ok nmX5 hown hK hP hD hS 42 ww_42 rfl 0 (by decide) (hts (.fieldLink RX5 81 "BoardMovesModel" "thrown" "I") (List.mem_cons_of_mem _ flX5_81)) (fun _ h9 => h9) rfl (by decide +kernel) rfl rfl (Nat.le_of_ble_eq_true rfl) dX5_keepOut_13 (fun H locs hP hD hS => ?_)
    have hP : va_P D vwCl (WW ad cJ cI cZ bm pa p0 p1 p2 li wi (1) ms ma mp mk mn ou) H := hP
    have hD : va_D A (WW ad cJ cI cZ bm pa p0 p1 p2 li wi (1) ms ma mp mk mn ou) := hD
    refine lv_aload_n hx hb dX5_keepOut_16 rfl (lv_at hl 0 rfl) ?_
    refine va_get (D := D) (ci := 5) (v := .int (nI 1)) (C := RX5) (T := TX5) (N := 28) hx hb hts (inT inX5) hown hK hP 42 ww_42 rfl 0 (by decide) (hts (.fieldLink RX5 81 "BoardMovesModel" "thrown" "I") (List.mem_cons_of_mem _ flX5_81)) (fun _ h9 => h9) rfl dX5_keepOut_17 ?_
    refine bm_nz_ne (x := 1) (tgt := 46) hx hb (by decide) dX5_keepOut_20 (by decide) (fun c_11 => ?_) (fun c_11 => ?_)
    · refine lv_iconst (v := bm_b false) hx hb dX5_keepOut_46 (by decide) ?_
      exact bm_zretX (v := false) hx hb hr hP hD hK hS ⟨(1), ms, ma, mp, mk, mn, ⟨ok_ms_parts, ok_ms_outs, ok_ms_nears, ok_ms_nets, ok_ms_pins, ok_ma_sides, ok_ma_groups, ok_mp_turns, ok_mk_nearOne, ok_mk_nearTwo, ok_mn_pinNet, ok_mn_pinPart, hw, hh⟩, rfl, rfl, false, rfl⟩ dX5_keepOut_47 hlocks
    · exact absurd c_11 (by decide)

set_option maxHeartbeats 16000000 in
set_option maxRecDepth 100000 in
theorem Y_wire {l : Launch} {D : va_G} {ad : Nat → Nat} {cJ cI cZ : ClassId} {bm : gBM} {pa : gPA} {p0 p1 p2 : gPL} {li : gLI} {wi : gWI} {mt : Nat} {ms : gMS} {ma : gMA} {mp : gMP} {mk : gMK} {mn : gMN} {ou : Nat → Int64}  (hok : okM ms ma mp mk mn)  : bm_Wx l yX5_wire wsX5_wire ({ frames := 4, cells := 0, slots := 0, locals := 105 }) D vwCl [(cJ, .long), (cI, .int), (cZ, .boolean)] (WW ad cJ cI cZ bm pa p0 p1 p2 li wi mt ms ma mp mk mn ou) [.ref (ad 42)] (PMJ ad cJ cI cZ bm pa p0 p1 p2 li wi mt ms ma mp mk mn ou) := by
  obtain ⟨ok_ms_parts, ok_ms_outs, ok_ms_nears, ok_ms_nets, ok_ms_pins, ok_ma_sides, ok_ma_groups, ok_mp_turns, ok_mk_nearOne, ok_mk_nearTwo, ok_mn_pinNet, ok_mn_pinPart, hw, hh⟩ := hok
  intro sz
  refine Met.ofW (cc := cX5_wire) (maxL := 1) (ret := (some .long)) (by decide) rfl ?_
  intro p e s m args below meth c s₁ B hml hv
  obtain ⟨ha, hsz, hP, hK, hD0⟩ := hv
  have hx := B.exec
  have hb := B.bytes
  have hr := B.returns
  have hts := atoms_spec (ws := wsX5_wire) B.pre
  have hown : s.vm.findClass RX5 = some m.cls := findClass_of_methodNamed B.named
  have hlocks := B.notSynchronized
  subst hsz
  have hD := hD0.self (sz := s.heap.size)
  generalize hAe : va_A (WW ad cJ cI cZ bm pa p0 p1 p2 li wi mt ms ma mp mk mn ou) s.heap.size = A at hD ⊢
  have hA : ∀ q : Nat, s.heap.size ≤ q → A q := fun q h => by rw [← hAe]; exact Or.inr h
  have hS : va_S A s.heap s.heap [] := va_S.rf
  have hl := lv_entry ([.ref (ad 42)]) (n := 1) (Nat.le_of_ble_eq_true rfl)
  refine W.eq (g2 := entryFrame m ([.ref (ad 42)] : List Value).toArray 1) (by rw [ha]) ?_
  rw [lg_entry_eq]
  generalize (lg_sl ([.ref (ad 42)]) ++ List.replicate (1 - (lg_sl ([.ref (ad 42)])).length) Slot.unset).toArray = ls at hl ⊢
  have hl : lv_has ls 1 [(0, .ref (ad 42))] := hl
  refine lv_aload_n hx hb dX5_wire_0 rfl (lv_at hl 0 rfl) ?_
  refine lv_iconst (v := nI 0) hx hb dX5_wire_1 (by decide) ?_
  refine va_put (D := D) (ci := 5) (v := .int (nI 0)) (ty := .int) (C := RX5) (T := TX5) (N := 28) hx hb hts (inT inX5) tyX5 tyX5_ok nmX5 hown hK hP hD hS 42 ww_42 rfl 0 (by decide) (hts (.fieldLink RX5 81 "BoardMovesModel" "thrown" "I") (List.mem_cons_of_mem _ flX5_81)) (fun _ h9 => h9) rfl (by decide +kernel) rfl rfl (Nat.le_of_ble_eq_true rfl) dX5_wire_2 (fun H locs hP hD hS => ?_)
  have hP : va_P D vwCl (WW ad cJ cI cZ bm pa p0 p1 p2 li wi (0) ms ma mp mk mn ou) H := hP
  have hD : va_D A (WW ad cJ cI cZ bm pa p0 p1 p2 li wi (0) ms ma mp mk mn ou) := hD
  refine lv_aload_n hx hb dX5_wire_5 rfl (lv_at hl 0 rfl) ?_
  refine lv_iconst (v := nI 0) hx hb dX5_wire_6 (by decide) ?_
  refine bm_xcallV (As := [.int (nI 0)]) (rest := []) ⟨hx, hb, hml, hown, hts⟩ (y_wireOf (mt := (0)) (zr := 0) ok_ms_nets ok_ms_pins ok_mn_pinNet ok_mn_pinPart ok_mp_turns (by omega)) (cwV 1 hts gvX5_173 rfl rfl rfl hvX5_wireOf ⟨Nat.le_of_ble_eq_true rfl, Nat.le_of_ble_eq_true rfl⟩) hK hP hD hS hA 42 5 rfl ww_42 rfl hl.1 rfl (Nat.le_of_ble_eq_true rfl) dX5_wire_7 ⟨Nat.le_of_ble_eq_true rfl, Nat.le_of_ble_eq_true rfl⟩ (fun ws_1 r_2 h_3 H locs hP hD hS => ?_)
  obtain ⟨rfl, v_4, rfl⟩ := h_3
  have hP : va_P D vwCl (WW ad cJ cI cZ bm pa p0 p1 p2 li wi (0) ms ma mp mk mn ou) H := hP
  have hD : va_D A (WW ad cJ cI cZ bm pa p0 p1 p2 li wi (0) ms ma mp mk mn ou) := hD
  exact bm_lretX (v := v_4) hx hb hr hP hD hK hS ⟨(0), ms, ma, mp, mk, mn, ⟨ok_ms_parts, ok_ms_outs, ok_ms_nears, ok_ms_nets, ok_ms_pins, ok_ma_sides, ok_ma_groups, ok_mp_turns, ok_mk_nearOne, ok_mk_nearTwo, ok_mn_pinNet, ok_mn_pinPart, hw, hh⟩, rfl, rfl, v_4, rfl⟩ dX5_wire_10 hlocks

set_option maxHeartbeats 16000000 in
set_option maxRecDepth 100000 in
theorem Y_full {l : Launch} {D : va_G} {ad : Nat → Nat} {cJ cI cZ : ClassId} {bm : gBM} {pa : gPA} {p0 p1 p2 : gPL} {li : gLI} {wi : gWI} {mt : Nat} {ms : gMS} {ma : gMA} {mp : gMP} {mk : gMK} {mn : gMN} {ou : Nat → Int64}  (hok : okM ms ma mp mk mn)  : bm_Wx l yX5_full wsX5_full ({ frames := 4, cells := 0, slots := 0, locals := 105 }) D vwCl [(cJ, .long), (cI, .int), (cZ, .boolean)] (WW ad cJ cI cZ bm pa p0 p1 p2 li wi mt ms ma mp mk mn ou) [.ref (ad 42)] (PMJ ad cJ cI cZ bm pa p0 p1 p2 li wi mt ms ma mp mk mn ou) := by
  obtain ⟨ok_ms_parts, ok_ms_outs, ok_ms_nears, ok_ms_nets, ok_ms_pins, ok_ma_sides, ok_ma_groups, ok_mp_turns, ok_mk_nearOne, ok_mk_nearTwo, ok_mn_pinNet, ok_mn_pinPart, hw, hh⟩ := hok
  intro sz
  refine Met.ofW (cc := cX5_full) (maxL := 1) (ret := (some .long)) (by decide) rfl ?_
  intro p e s m args below meth c s₁ B hml hv
  obtain ⟨ha, hsz, hP, hK, hD0⟩ := hv
  have hx := B.exec
  have hb := B.bytes
  have hr := B.returns
  have hts := atoms_spec (ws := wsX5_full) B.pre
  have hown : s.vm.findClass RX5 = some m.cls := findClass_of_methodNamed B.named
  have hlocks := B.notSynchronized
  subst hsz
  have hD := hD0.self (sz := s.heap.size)
  generalize hAe : va_A (WW ad cJ cI cZ bm pa p0 p1 p2 li wi mt ms ma mp mk mn ou) s.heap.size = A at hD ⊢
  have hA : ∀ q : Nat, s.heap.size ≤ q → A q := fun q h => by rw [← hAe]; exact Or.inr h
  have hS : va_S A s.heap s.heap [] := va_S.rf
  have hl := lv_entry ([.ref (ad 42)]) (n := 1) (Nat.le_of_ble_eq_true rfl)
  refine W.eq (g2 := entryFrame m ([.ref (ad 42)] : List Value).toArray 1) (by rw [ha]) ?_
  rw [lg_entry_eq]
  generalize (lg_sl ([.ref (ad 42)]) ++ List.replicate (1 - (lg_sl ([.ref (ad 42)])).length) Slot.unset).toArray = ls at hl ⊢
  have hl : lv_has ls 1 [(0, .ref (ad 42))] := hl
  refine lv_aload_n hx hb dX5_full_0 rfl (lv_at hl 0 rfl) ?_
  refine lv_iconst (v := nI 0) hx hb dX5_full_1 (by decide) ?_
  refine va_put (D := D) (ci := 5) (v := .int (nI 0)) (ty := .int) (C := RX5) (T := TX5) (N := 28) hx hb hts (inT inX5) tyX5 tyX5_ok nmX5 hown hK hP hD hS 42 ww_42 rfl 0 (by decide) (hts (.fieldLink RX5 81 "BoardMovesModel" "thrown" "I") (List.mem_cons_of_mem _ flX5_81)) (fun _ h9 => h9) rfl (by decide +kernel) rfl rfl (Nat.le_of_ble_eq_true rfl) dX5_full_2 (fun H locs hP hD hS => ?_)
  have hP : va_P D vwCl (WW ad cJ cI cZ bm pa p0 p1 p2 li wi (0) ms ma mp mk mn ou) H := hP
  have hD : va_D A (WW ad cJ cI cZ bm pa p0 p1 p2 li wi (0) ms ma mp mk mn ou) := hD
  refine lv_aload_n hx hb dX5_full_5 rfl (lv_at hl 0 rfl) ?_
  refine lv_iconst (v := nI 0) hx hb dX5_full_6 (by decide) ?_
  refine bm_xcallV (As := [.int (nI 0)]) (rest := []) ⟨hx, hb, hml, hown, hts⟩ (y_wireOf (mt := (0)) (zr := 0) ok_ms_nets ok_ms_pins ok_mn_pinNet ok_mn_pinPart ok_mp_turns (by omega)) (cwV 1 hts gvX5_173 rfl rfl rfl hvX5_wireOf ⟨Nat.le_of_ble_eq_true rfl, Nat.le_of_ble_eq_true rfl⟩) hK hP hD hS hA 42 5 rfl ww_42 rfl hl.1 rfl (Nat.le_of_ble_eq_true rfl) dX5_full_7 ⟨Nat.le_of_ble_eq_true rfl, Nat.le_of_ble_eq_true rfl⟩ (fun ws_1 r_2 h_3 H locs hP hD hS => ?_)
  obtain ⟨rfl, v_4, rfl⟩ := h_3
  have hP : va_P D vwCl (WW ad cJ cI cZ bm pa p0 p1 p2 li wi (0) ms ma mp mk mn ou) H := hP
  have hD : va_D A (WW ad cJ cI cZ bm pa p0 p1 p2 li wi (0) ms ma mp mk mn ou) := hD
  exact bm_lretX (v := v_4) hx hb hr hP hD hK hS ⟨(0), ms, ma, mp, mk, mn, ⟨ok_ms_parts, ok_ms_outs, ok_ms_nears, ok_ms_nets, ok_ms_pins, ok_ma_sides, ok_ma_groups, ok_mp_turns, ok_mk_nearOne, ok_mk_nearTwo, ok_mn_pinNet, ok_mn_pinPart, hw, hh⟩, rfl, rfl, v_4, rfl⟩ dX5_full_10 hlocks

set_option maxHeartbeats 8000000 in
set_option maxRecDepth 100000 in
theorem y_size {l : Launch} {D : va_G} {ad : Nat → Nat} {cJ cI cZ : ClassId} {bm : gBM} {pa : gPA} {p0 p1 p2 : gPL} {li : gLI} {wi : gWI} {mt : Nat} {ms : gMS} {ma : gMA} {mp : gMP} {mk : gMK} {mn : gMN} {ou : Nat → Int64} {z1 : Int64}    : bm_Wx l yX5_size wsX5_size ({ frames := 0, cells := 0, slots := 0, locals := 0 }) D vwCl [(cJ, .long), (cI, .int), (cZ, .boolean)] (WW ad cJ cI cZ bm pa p0 p1 p2 li wi mt ms ma mp mk mn ou) [.long z1] (fun ws9 r9 => ws9 = (WW ad cJ cI cZ bm pa p0 p1 p2 li wi mt ms ma mp mk mn ou) ∧ ∃ v9 : Int64, r9 = some (.long v9)) := by
  intro sz
  refine Met.ofW (cc := cX5_size) (maxL := 2) (ret := (some .long)) (by decide) rfl ?_
  intro p e s m args below meth c s₁ B hml hv
  obtain ⟨ha, hsz, hP, hK, hD0⟩ := hv
  have hx := B.exec
  have hb := B.bytes
  have hr := B.returns
  have hts := atoms_spec (ws := wsX5_size) B.pre
  have hown : s.vm.findClass RX5 = some m.cls := findClass_of_methodNamed B.named
  have hlocks := B.notSynchronized
  subst hsz
  have hD := hD0.self (sz := s.heap.size)
  generalize hAe : va_A (WW ad cJ cI cZ bm pa p0 p1 p2 li wi mt ms ma mp mk mn ou) s.heap.size = A at hD ⊢
  have hA : ∀ q : Nat, s.heap.size ≤ q → A q := fun q h => by rw [← hAe]; exact Or.inr h
  have hS : va_S A s.heap s.heap [] := va_S.rf
  have hl := lv_entry ([.long z1]) (n := 2) (Nat.le_of_ble_eq_true rfl)
  refine W.eq (g2 := entryFrame m ([.long z1] : List Value).toArray 2) (by rw [ha]) ?_
  rw [lg_entry_eq]
  generalize (lg_sl ([.long z1]) ++ List.replicate (2 - (lg_sl ([.long z1])).length) Slot.unset).toArray = ls at hl ⊢
  have hl : lv_has ls 2 [(0, .long z1)] := hl
  refine lv_lload_n hx hb dX5_size_0 rfl (lv_at hl 0 rfl) ?_
  refine lv_lconst (v := 0) hx hb dX5_size_1 (by decide) ?_
  refine bm_lc_ge (x := z1) (y := 0) (tgt := 12) hx hb dX5_size_2 dX5_size_3 (by decide) (fun c_1 => ?_) (fun c_1 => ?_)
  · refine lv_lload_n hx hb dX5_size_12 rfl (lv_at hl 0 rfl) ?_
    exact bm_lretX (v := z1) hx hb hr hP hD hK hS ⟨rfl, z1, rfl⟩ dX5_size_13 hlocks
  · refine lv_lconst (v := 0) hx hb dX5_size_6 (by decide) ?_
    refine lv_lload_n hx hb dX5_size_7 rfl (lv_at hl 0 rfl) ?_
    refine lv_lsub hx hb dX5_size_8 ?_
    refine lv_topl (fun t_2 _ => ?_)
    refine lv_goto (tgt := 13) hx hb dX5_size_9 (by decide) ?_
    exact bm_lretX (v := t_2) hx hb hr hP hD hK hS ⟨rfl, t_2, rfl⟩ dX5_size_13 hlocks

set_option maxHeartbeats 8000000 in
set_option maxRecDepth 100000 in
theorem y_isSize {l : Launch} {D : va_G} {ad : Nat → Nat} {cJ cI cZ : ClassId} {bm : gBM} {pa : gPA} {p0 p1 p2 : gPL} {li : gLI} {wi : gWI} {mt : Nat} {ms : gMS} {ma : gMA} {mp : gMP} {mk : gMK} {mn : gMN} {ou : Nat → Int64} {z1 : Int64}    : bm_Wx l yX5_isSize wsX5_isSize ({ frames := 0, cells := 0, slots := 0, locals := 0 }) D vwCl [(cJ, .long), (cI, .int), (cZ, .boolean)] (WW ad cJ cI cZ bm pa p0 p1 p2 li wi mt ms ma mp mk mn ou) [.long z1] (fun ws9 r9 => ws9 = (WW ad cJ cI cZ bm pa p0 p1 p2 li wi mt ms ma mp mk mn ou) ∧ ∃ b9 : Bool, r9 = some (.int (bm_b b9))) := by
  intro sz
  refine Met.ofW (cc := cX5_isSize) (maxL := 2) (ret := (some .boolean)) (by decide) rfl ?_
  intro p e s m args below meth c s₁ B hml hv
  obtain ⟨ha, hsz, hP, hK, hD0⟩ := hv
  have hx := B.exec
  have hb := B.bytes
  have hr := B.returns
  have hts := atoms_spec (ws := wsX5_isSize) B.pre
  have hown : s.vm.findClass RX5 = some m.cls := findClass_of_methodNamed B.named
  have hlocks := B.notSynchronized
  subst hsz
  have hD := hD0.self (sz := s.heap.size)
  generalize hAe : va_A (WW ad cJ cI cZ bm pa p0 p1 p2 li wi mt ms ma mp mk mn ou) s.heap.size = A at hD ⊢
  have hA : ∀ q : Nat, s.heap.size ≤ q → A q := fun q h => by rw [← hAe]; exact Or.inr h
  have hS : va_S A s.heap s.heap [] := va_S.rf
  have hl := lv_entry ([.long z1]) (n := 2) (Nat.le_of_ble_eq_true rfl)
  refine W.eq (g2 := entryFrame m ([.long z1] : List Value).toArray 2) (by rw [ha]) ?_
  rw [lg_entry_eq]
  generalize (lg_sl ([.long z1]) ++ List.replicate (2 - (lg_sl ([.long z1])).length) Slot.unset).toArray = ls at hl ⊢
  have hl : lv_has ls 2 [(0, .long z1)] := hl
  refine lv_lload_n hx hb dX5_isSize_0 rfl (lv_at hl 0 rfl) ?_
  refine lv_lconst (v := 1) hx hb dX5_isSize_1 (by decide) ?_
  refine bm_lc_lt (x := z1) (y := 1) (tgt := 18) hx hb dX5_isSize_2 dX5_isSize_3 (by decide) (fun c_1 => ?_) (fun c_1 => ?_)
  · refine lv_iconst (v := bm_b false) hx hb dX5_isSize_18 (by decide) ?_
    exact bm_zretX (v := false) hx hb hr hP hD hK hS ⟨rfl, false, rfl⟩ dX5_isSize_19 hlocks
  · refine lv_lload_n hx hb dX5_isSize_6 rfl (lv_at hl 0 rfl) ?_
    refine lv_ldc2 (v := 65536) hx hb hown (hts (.constantLong RX5 69 65536) (List.mem_cons_of_mem _ clX5_69)) dX5_isSize_7 ?_
    refine bm_lc_gt (x := z1) (y := 65536) (tgt := 18) hx hb dX5_isSize_10 dX5_isSize_11 (by decide) (fun c_2 => ?_) (fun c_2 => ?_)
    · refine lv_iconst (v := bm_b false) hx hb dX5_isSize_18 (by decide) ?_
      exact bm_zretX (v := false) hx hb hr hP hD hK hS ⟨rfl, false, rfl⟩ dX5_isSize_19 hlocks
    · refine lv_iconst (v := bm_b true) hx hb dX5_isSize_14 (by decide) ?_
      refine lv_goto (tgt := 19) hx hb dX5_isSize_15 (by decide) ?_
      exact bm_zretX (v := true) hx hb hr hP hD hK hS ⟨rfl, true, rfl⟩ dX5_isSize_19 hlocks
