set_option maxHeartbeats 16000000 in
set_option maxRecDepth 100000 in
theorem Y_clearT {l : Launch} {D : va_G} {ad : Nat → Nat} {cJ cI cZ : ClassId} {bm : gBM} {pa : gPA} {p0 p1 p2 : gPL} {li : gLI} {wi : gWI} {mt : Nat} {ms : gMS} {ma : gMA} {mp : gMP} {mk : gMK} {mn : gMN} {ou : Nat → Int64}  (hok : okM ms ma mp mk mn)  : bm_Wx l yX5_clear2 wsX5_clear2 ({ frames := 0, cells := 0, slots := 0, locals := 0 }) D vwCl [(cJ, .long), (cI, .int), (cZ, .boolean)] (WW ad cJ cI cZ bm pa p0 p1 p2 li wi mt ms ma mp mk mn ou) [.ref (ad 42)] (fun ws9 r9 => ∃ (mt9 : Nat) (ms9 : gMS) (ma9 : gMA) (mp9 : gMP) (mk9 : gMK) (mn9 : gMN), okM ms9 ma9 mp9 mk9 mn9 ∧ 0 = 0 ∧ ws9 = WW ad cJ cI cZ bm pa p0 p1 p2 li wi mt9 ms9 ma9 mp9 mk9 mn9 ou ∧ r9 = some (.int (bm_b true))) := by
  obtain ⟨ok_ms_parts, ok_ms_outs, ok_ms_nears, ok_ms_nets, ok_ms_pins, ok_ma_sides, ok_ma_groups, ok_mp_turns, ok_mk_nearOne, ok_mk_nearTwo, ok_mn_pinNet, ok_mn_pinPart, hw, hh⟩ := hok
  intro sz
  refine Met.ofW (cc := cX5_clear2) (maxL := 1) (ret := (some .boolean)) (by decide) rfl ?_
  intro p e s m args below meth c s₁ B hml hv
  obtain ⟨ha, hsz, hP, hK, hD0⟩ := hv
  have hx := B.exec
  have hb := B.bytes
  have hr := B.returns
  have hts := atoms_spec (ws := wsX5_clear2) B.pre
  have hown : s.vm.findClass RX5 = some m.cls := findClass_of_methodNamed B.named
  have hlocks := B.notSynchronized
  subst hsz
  have hD := hD0.self (sz := s.heap.size)
  generalize hAe : va_A (WW ad cJ cI cZ bm pa p0 p1 p2 li wi mt ms ma mp mk mn ou) s.heap.size = A at hD ⊢
  have hA : ∀ q : Nat, s.heap.size ≤ q → A q := fun q h => by rw [← hAe]; exact Or.inr h
  have hS : va_S A s.heap s.heap [] := va_S.rf
  have hl := lv_entry ([.ref (ad 42)]) (n := 1) (Nat.le_of_ble_eq_true rfl)
  refine W.eq (g2 := entryFrame m ([.ref (ad 42)] : List Value).toArray 1) (by rw [ha]) ?_
  rw [lg_entry_eq]
  generalize (lg_sl ([.ref (ad 42)]) ++ List.replicate (1 - (lg_sl ([.ref (ad 42)])).length) Slot.unset).toArray = ls at hl ⊢
  have hl : lv_has ls 1 [(0, .ref (ad 42))] := hl
  refine lv_aload_n hx hb dX5_clear2_0 rfl (lv_at hl 0 rfl) ?_
  refine lv_iconst (v := nI 0) hx hb dX5_clear2_1 (by decide) ?_
  refine va_put (D := D) (ci := 5) (v := .int (nI 0)) (ty := .int) (C := RX5) (T := TX5) (N := 28) hx hb hts (inT inX5) tyX5 tyX5_ok nmX5 hown hK hP hD hS 42 ww_42 rfl 0 (by decide) (hts (.fieldLink RX5 81 "BoardMovesModel" "thrown" "I") (List.mem_cons_of_mem _ flX5_81)) (fun _ h9 => h9) rfl (by decide +kernel) rfl rfl (Nat.le_of_ble_eq_true rfl) dX5_clear2_2 (fun H locs hP hD hS => ?_)
  have hP : va_P D vwCl (WW ad cJ cI cZ bm pa p0 p1 p2 li wi (0) ms ma mp mk mn ou) H := hP
  have hD : va_D A (WW ad cJ cI cZ bm pa p0 p1 p2 li wi (0) ms ma mp mk mn ou) := hD
  refine lv_iconst (v := bm_b true) hx hb dX5_clear2_5 (by decide) ?_
  exact bm_zretX (v := true) hx hb hr hP hD hK hS ⟨(0), ms, ma, mp, mk, mn, ⟨ok_ms_parts, ok_ms_outs, ok_ms_nears, ok_ms_nets, ok_ms_pins, ok_ma_sides, ok_ma_groups, ok_mp_turns, ok_mk_nearOne, ok_mk_nearTwo, ok_mn_pinNet, ok_mn_pinPart, hw, hh⟩, rfl, rfl, rfl⟩ dX5_clear2_6 hlocks

set_option maxHeartbeats 8000000 in
set_option maxRecDepth 100000 in
theorem x_addNet {l : Launch} {D : va_G} {ad : Nat → Nat} {cJ cI cZ : ClassId} {bm : gBM} {pa : gPA} {p0 p1 p2 : gPL} {li : gLI} {wi : gWI} {mt : Nat} {ms : gMS} {ma : gMA} {mp : gMP} {mk : gMK} {mn : gMN} {ou : Nat → Int64}  (ok_wi_nets : wi.2.2.2.2.2.2.2.2.2.1 ≤ 40)   : bm_Wx l yX3_addNet wsX3_addNet ({ frames := 0, cells := 0, slots := 0, locals := 0 }) D vwCl [(cJ, .long), (cI, .int), (cZ, .boolean)] (WW ad cJ cI cZ bm pa p0 p1 p2 li wi mt ms ma mp mk mn ou) [.ref (ad 32)] (fun ws9 r9 => ∃ (e0 : Nat) , (e0 ≤ 40) ∧ ws9 = (WW ad cJ cI cZ bm pa p0 p1 p2 li (wi.1, wi.2.1, wi.2.2.1, wi.2.2.2.1, wi.2.2.2.2.1, wi.2.2.2.2.2.1, wi.2.2.2.2.2.2.1, wi.2.2.2.2.2.2.2.1, wi.2.2.2.2.2.2.2.2.1, e0, wi.2.2.2.2.2.2.2.2.2.2) mt ms ma mp mk mn ou) ∧ ∃ v9 : Int32, r9 = some (.int v9)) := by
  intro sz
  refine Met.ofW (cc := cX3_addNet) (maxL := 1) (ret := (some .int)) (by decide) rfl ?_
  intro p e s m args below meth c s₁ B hml hv
  obtain ⟨ha, hsz, hP, hK, hD0⟩ := hv
  have hx := B.exec
  have hb := B.bytes
  have hr := B.returns
  have hts := atoms_spec (ws := wsX3_addNet) B.pre
  have hown : s.vm.findClass RX3 = some m.cls := findClass_of_methodNamed B.named
  have hlocks := B.notSynchronized
  subst hsz
  have hD := hD0.self (sz := s.heap.size)
  generalize hAe : va_A (WW ad cJ cI cZ bm pa p0 p1 p2 li wi mt ms ma mp mk mn ou) s.heap.size = A at hD ⊢
  have hA : ∀ q : Nat, s.heap.size ≤ q → A q := fun q h => by rw [← hAe]; exact Or.inr h
  have hS : va_S A s.heap s.heap [] := va_S.rf
  have hl := lv_entry ([.ref (ad 32)]) (n := 1) (Nat.le_of_ble_eq_true rfl)
  refine W.eq (g2 := entryFrame m ([.ref (ad 32)] : List Value).toArray 1) (by rw [ha]) ?_
  rw [lg_entry_eq]
  generalize (lg_sl ([.ref (ad 32)]) ++ List.replicate (1 - (lg_sl ([.ref (ad 32)])).length) Slot.unset).toArray = ls at hl ⊢
  have hl : lv_has ls 1 [(0, .ref (ad 32))] := hl
  refine lv_aload_n hx hb dX3_addNet_0 rfl (lv_at hl 0 rfl) ?_
  refine va_get (D := D) (ci := 3) (v := .int (nI wi.2.2.2.2.2.2.2.2.2.1)) (C := RX3) (T := TX3) (N := 12) hx hb hts (inT inX3) hown hK hP 32 ww_32 rfl 10 (by decide) (hts (.fieldLink RX3 41 "BoardMoves$Wiring" "nets" "I") (List.mem_cons_of_mem _ flX3_41)) (fun _ h9 => h9) rfl dX3_addNet_1 ?_
  refine lv_bipush (v := nI 40) hx hb dX3_addNet_4 (by decide) ?_
  refine bm_ni_lt (x := wi.2.2.2.2.2.2.2.2.2.1) (y := 40) (tgt := 11) hx hb (by omega) (by omega) dX3_addNet_6 (by decide) (fun c_1 => ?_) (fun c_1 => ?_)
  · refine lv_aload_n hx hb dX3_addNet_11 rfl (lv_at hl 0 rfl) ?_
    refine lv_dup hx hb dX3_addNet_12 rfl ?_
    refine va_get (D := D) (ci := 3) (v := .int (nI wi.2.2.2.2.2.2.2.2.2.1)) (C := RX3) (T := TX3) (N := 12) hx hb hts (inT inX3) hown hK hP 32 ww_32 rfl 10 (by decide) (hts (.fieldLink RX3 41 "BoardMoves$Wiring" "nets" "I") (List.mem_cons_of_mem _ flX3_41)) (fun _ h9 => h9) rfl dX3_addNet_13 ?_
    refine lv_iconst (v := nI 1) hx hb dX3_addNet_16 (by decide) ?_
    refine bm_nadd hx hb dX3_addNet_17 ?_
    refine va_put (D := D) (ci := 3) (v := .int (nI (wi.2.2.2.2.2.2.2.2.2.1 + 1))) (ty := .int) (C := RX3) (T := TX3) (N := 12) hx hb hts (inT inX3) tyX3 tyX3_ok nmX3 hown hK hP hD hS 32 ww_32 rfl 10 (by decide) (hts (.fieldLink RX3 41 "BoardMoves$Wiring" "nets" "I") (List.mem_cons_of_mem _ flX3_41)) (fun _ h9 => h9) rfl (by decide +kernel) rfl rfl (Nat.le_of_ble_eq_true rfl) dX3_addNet_18 (fun H locs hP hD hS => ?_)
    have hP : va_P D vwCl (WW ad cJ cI cZ bm pa p0 p1 p2 li (wi.1, wi.2.1, wi.2.2.1, wi.2.2.2.1, wi.2.2.2.2.1, wi.2.2.2.2.2.1, wi.2.2.2.2.2.2.1, wi.2.2.2.2.2.2.2.1, wi.2.2.2.2.2.2.2.2.1, wi.2.2.2.2.2.2.2.2.2.1 + 1, wi.2.2.2.2.2.2.2.2.2.2) mt ms ma mp mk mn ou) H := hP
    have hD : va_D A (WW ad cJ cI cZ bm pa p0 p1 p2 li (wi.1, wi.2.1, wi.2.2.1, wi.2.2.2.1, wi.2.2.2.2.1, wi.2.2.2.2.2.1, wi.2.2.2.2.2.2.1, wi.2.2.2.2.2.2.2.1, wi.2.2.2.2.2.2.2.2.1, wi.2.2.2.2.2.2.2.2.2.1 + 1, wi.2.2.2.2.2.2.2.2.2.2) mt ms ma mp mk mn ou) := hD
    refine lv_aload_n hx hb dX3_addNet_21 rfl (lv_at hl 0 rfl) ?_
    refine va_get (D := D) (ci := 3) (v := .int (nI (wi.2.2.2.2.2.2.2.2.2.1 + 1))) (C := RX3) (T := TX3) (N := 12) hx hb hts (inT inX3) hown hK hP 32 ww_32 rfl 10 (by decide) (hts (.fieldLink RX3 41 "BoardMoves$Wiring" "nets" "I") (List.mem_cons_of_mem _ flX3_41)) (fun _ h9 => h9) rfl dX3_addNet_22 ?_
    refine lv_iconst (v := nI 1) hx hb dX3_addNet_25 (by decide) ?_
    refine bm_nsub hx hb (by omega) dX3_addNet_26 ?_
    exact bm_iretX (v := (nI ((wi.2.2.2.2.2.2.2.2.2.1 + 1) - 1))) hx hb hr hP hD hK hS ⟨(wi.2.2.2.2.2.2.2.2.2.1 + 1), (by omega), rfl, (nI ((wi.2.2.2.2.2.2.2.2.2.1 + 1) - 1)), rfl⟩ dX3_addNet_27 hlocks
  · refine lv_iconst (v := -1) hx hb dX3_addNet_9 (by decide) ?_
    exact bm_iretX (v := (-1)) hx hb hr hP hD hK hS ⟨wi.2.2.2.2.2.2.2.2.2.1, ok_wi_nets, rfl, (-1), rfl⟩ dX3_addNet_10 hlocks

set_option maxHeartbeats 16000000 in
set_option maxRecDepth 100000 in
theorem Z_net {l : Launch} {D : va_G} {ad : Nat → Nat} {cJ cI cZ : ClassId} {bm : gBM} {pa : gPA} {p0 p1 p2 : gPL} {li : gLI} {wi : gWI} {mt : Nat} {ms : gMS} {ma : gMA} {mp : gMP} {mk : gMK} {mn : gMN} {ou : Nat → Int64}  (hok : okC bm pa p0 p1 p2 li wi)  : bm_Wx l yX4_net wsX4_net ({ frames := 1, cells := 0, slots := 0, locals := 20 }) D vwCl [(cJ, .long), (cI, .int), (cZ, .boolean)] (WW ad cJ cI cZ bm pa p0 p1 p2 li wi mt ms ma mp mk mn ou) [.ref (ad 0)] (PCI ad cJ cI cZ bm pa p0 p1 p2 li wi mt ms ma mp mk mn ou) := by
  obtain ⟨ok_pa_n, ok_pa_side, ok_pa_lowest, ok_p0_turn, ok_p1_turn, ok_p2_turn, ok_li_one, ok_li_other, ok_li_keepOuts, ok_li_nears, ok_wi_netOf, ok_wi_partOf, ok_wi_nets, ok_wi_pins, hw, hh, hI⟩ := hok
  intro sz
  refine Met.ofW (cc := cX4_net) (maxL := 1) (ret := (some .int)) (by decide) rfl ?_
  intro p e s m args below meth c s₁ B hml hv
  obtain ⟨ha, hsz, hP, hK, hD0⟩ := hv
  have hx := B.exec
  have hb := B.bytes
  have hr := B.returns
  have hts := atoms_spec (ws := wsX4_net) B.pre
  have hown : s.vm.findClass RX4 = some m.cls := findClass_of_methodNamed B.named
  have hlocks := B.notSynchronized
  subst hsz
  have hD := hD0.self (sz := s.heap.size)
  generalize hAe : va_A (WW ad cJ cI cZ bm pa p0 p1 p2 li wi mt ms ma mp mk mn ou) s.heap.size = A at hD ⊢
  have hA : ∀ q : Nat, s.heap.size ≤ q → A q := fun q h => by rw [← hAe]; exact Or.inr h
  have hS : va_S A s.heap s.heap [] := va_S.rf
  have hl := lv_entry ([.ref (ad 0)]) (n := 1) (Nat.le_of_ble_eq_true rfl)
  refine W.eq (g2 := entryFrame m ([.ref (ad 0)] : List Value).toArray 1) (by rw [ha]) ?_
  rw [lg_entry_eq]
  generalize (lg_sl ([.ref (ad 0)]) ++ List.replicate (1 - (lg_sl ([.ref (ad 0)])).length) Slot.unset).toArray = ls at hl ⊢
  have hl : lv_has ls 1 [(0, .ref (ad 0))] := hl
  refine lv_aload_n hx hb dX4_net_0 rfl (lv_at hl 0 rfl) ?_
  refine va_get (D := D) (ci := 4) (v := .ref (ad 32)) (C := RX4) (T := TX4) (N := 10) hx hb hts (inT inX4) hown hK hP 0 ww_0 rfl 4 (by decide) (hts (.fieldLink RX4 30 "BoardMoves" "wiring" "LBoardMoves$Wiring;") (List.mem_cons_of_mem _ flX4_30)) (fun _ h9 => h9) rfl dX4_net_1 ?_
  refine bm_xcallV (As := []) (rest := []) ⟨hx, hb, hml, hown, hts⟩ (x_addNet   ok_wi_nets ) (cwV 0 hts gvX4_135 rfl rfl rfl hvX3_addNet ⟨Nat.le_of_ble_eq_true rfl, Nat.le_of_ble_eq_true rfl⟩) hK hP hD hS hA 32 3 rfl ww_32 rfl hl.1 rfl (Nat.le_of_ble_eq_true rfl) dX4_net_4 ⟨Nat.le_of_ble_eq_true rfl, Nat.le_of_ble_eq_true rfl⟩ (fun ws_1 r_2 h_3 H locs hP hD hS => ?_)
  obtain ⟨g_4, ok_5, rfl, v_6, rfl⟩ := h_3
  have hP : va_P D vwCl (WW ad cJ cI cZ bm pa p0 p1 p2 li (wi.1, wi.2.1, wi.2.2.1, wi.2.2.2.1, wi.2.2.2.2.1, wi.2.2.2.2.2.1, wi.2.2.2.2.2.2.1, wi.2.2.2.2.2.2.2.1, wi.2.2.2.2.2.2.2.2.1, g_4, wi.2.2.2.2.2.2.2.2.2.2) mt ms ma mp mk mn ou) H := hP
  have hD : va_D A (WW ad cJ cI cZ bm pa p0 p1 p2 li (wi.1, wi.2.1, wi.2.2.1, wi.2.2.2.1, wi.2.2.2.2.1, wi.2.2.2.2.2.1, wi.2.2.2.2.2.2.1, wi.2.2.2.2.2.2.2.1, wi.2.2.2.2.2.2.2.2.1, g_4, wi.2.2.2.2.2.2.2.2.2.2) mt ms ma mp mk mn ou) := hD
  exact bm_iretX (v := v_6) hx hb hr hP hD hK hS ⟨bm, pa, p0, p1, p2, li, (wi.1, wi.2.1, wi.2.2.1, wi.2.2.2.1, wi.2.2.2.2.1, wi.2.2.2.2.2.1, wi.2.2.2.2.2.2.1, wi.2.2.2.2.2.2.2.1, wi.2.2.2.2.2.2.2.2.1, g_4, wi.2.2.2.2.2.2.2.2.2.2), ou, ⟨ok_pa_n, ok_pa_side, ok_pa_lowest, ok_p0_turn, ok_p1_turn, ok_p2_turn, ok_li_one, ok_li_other, ok_li_keepOuts, ok_li_nears, ok_wi_netOf, ok_wi_partOf, ok_5, ok_wi_pins, hw, hh, (INV_to hI rfl rfl rfl rfl rfl rfl rfl)⟩, rfl, rfl, v_6, rfl⟩ dX4_net_7 hlocks

set_option maxHeartbeats 16000000 in
set_option maxRecDepth 100000 in
theorem Y_net {l : Launch} {D : va_G} {ad : Nat → Nat} {cJ cI cZ : ClassId} {bm : gBM} {pa : gPA} {p0 p1 p2 : gPL} {li : gLI} {wi : gWI} {mt : Nat} {ms : gMS} {ma : gMA} {mp : gMP} {mk : gMK} {mn : gMN} {ou : Nat → Int64}  (hok : okM ms ma mp mk mn)  : bm_Wx l yX5_net wsX5_net ({ frames := 0, cells := 0, slots := 0, locals := 0 }) D vwCl [(cJ, .long), (cI, .int), (cZ, .boolean)] (WW ad cJ cI cZ bm pa p0 p1 p2 li wi mt ms ma mp mk mn ou) [.ref (ad 42)] (PMI ad cJ cI cZ bm pa p0 p1 p2 li wi mt ms ma mp mk mn ou) := by
  obtain ⟨ok_ms_parts, ok_ms_outs, ok_ms_nears, ok_ms_nets, ok_ms_pins, ok_ma_sides, ok_ma_groups, ok_mp_turns, ok_mk_nearOne, ok_mk_nearTwo, ok_mn_pinNet, ok_mn_pinPart, hw, hh⟩ := hok
  intro sz
  refine Met.ofW (cc := cX5_net) (maxL := 1) (ret := (some .int)) (by decide) rfl ?_
  intro p e s m args below meth c s₁ B hml hv
  obtain ⟨ha, hsz, hP, hK, hD0⟩ := hv
  have hx := B.exec
  have hb := B.bytes
  have hr := B.returns
  have hts := atoms_spec (ws := wsX5_net) B.pre
  have hown : s.vm.findClass RX5 = some m.cls := findClass_of_methodNamed B.named
  have hlocks := B.notSynchronized
  subst hsz
  have hD := hD0.self (sz := s.heap.size)
  generalize hAe : va_A (WW ad cJ cI cZ bm pa p0 p1 p2 li wi mt ms ma mp mk mn ou) s.heap.size = A at hD ⊢
  have hA : ∀ q : Nat, s.heap.size ≤ q → A q := fun q h => by rw [← hAe]; exact Or.inr h
  have hS : va_S A s.heap s.heap [] := va_S.rf
  have hl := lv_entry ([.ref (ad 42)]) (n := 1) (Nat.le_of_ble_eq_true rfl)
  refine W.eq (g2 := entryFrame m ([.ref (ad 42)] : List Value).toArray 1) (by rw [ha]) ?_
  rw [lg_entry_eq]
  generalize (lg_sl ([.ref (ad 42)]) ++ List.replicate (1 - (lg_sl ([.ref (ad 42)])).length) Slot.unset).toArray = ls at hl ⊢
  have hl : lv_has ls 1 [(0, .ref (ad 42))] := hl
  refine lv_aload_n hx hb dX5_net_0 rfl (lv_at hl 0 rfl) ?_
  refine lv_iconst (v := nI 0) hx hb dX5_net_1 (by decide) ?_
  refine va_put (D := D) (ci := 5) (v := .int (nI 0)) (ty := .int) (C := RX5) (T := TX5) (N := 28) hx hb hts (inT inX5) tyX5 tyX5_ok nmX5 hown hK hP hD hS 42 ww_42 rfl 0 (by decide) (hts (.fieldLink RX5 81 "BoardMovesModel" "thrown" "I") (List.mem_cons_of_mem _ flX5_81)) (fun _ h9 => h9) rfl (by decide +kernel) rfl rfl (Nat.le_of_ble_eq_true rfl) dX5_net_2 (fun H locs hP hD hS => ?_)
  have hP : va_P D vwCl (WW ad cJ cI cZ bm pa p0 p1 p2 li wi (0) ms ma mp mk mn ou) H := hP
  have hD : va_D A (WW ad cJ cI cZ bm pa p0 p1 p2 li wi (0) ms ma mp mk mn ou) := hD
  refine lv_aload_n hx hb dX5_net_5 rfl (lv_at hl 0 rfl) ?_
  refine va_get (D := D) (ci := 5) (v := .int (nI ms.2.2.2.2.2.1)) (C := RX5) (T := TX5) (N := 28) hx hb hts (inT inX5) hown hK hP 42 ww_42 rfl 20 (by decide) (hts (.fieldLink RX5 160 "BoardMovesModel" "nets" "I") (List.mem_cons_of_mem _ flX5_160)) (fun _ h9 => h9) rfl dX5_net_6 ?_
  refine lv_bipush (v := nI 40) hx hb dX5_net_9 (by decide) ?_
  refine bm_ni_ne (x := ms.2.2.2.2.2.1) (y := 40) (tgt := 16) hx hb (by omega) (by omega) dX5_net_11 (by decide) (fun c_1 => ?_) (fun c_1 => ?_)
  · refine lv_aload_n hx hb dX5_net_16 rfl (lv_at hl 0 rfl) ?_
    refine lv_dup hx hb dX5_net_17 rfl ?_
    refine va_get (D := D) (ci := 5) (v := .int (nI ms.2.2.2.2.2.1)) (C := RX5) (T := TX5) (N := 28) hx hb hts (inT inX5) hown hK hP 42 ww_42 rfl 20 (by decide) (hts (.fieldLink RX5 160 "BoardMovesModel" "nets" "I") (List.mem_cons_of_mem _ flX5_160)) (fun _ h9 => h9) rfl dX5_net_18 ?_
    refine lv_iconst (v := nI 1) hx hb dX5_net_21 (by decide) ?_
    refine bm_nadd hx hb dX5_net_22 ?_
    refine va_put (D := D) (ci := 5) (v := .int (nI (ms.2.2.2.2.2.1 + 1))) (ty := .int) (C := RX5) (T := TX5) (N := 28) hx hb hts (inT inX5) tyX5 tyX5_ok nmX5 hown hK hP hD hS 42 ww_42 rfl 20 (by decide) (hts (.fieldLink RX5 160 "BoardMovesModel" "nets" "I") (List.mem_cons_of_mem _ flX5_160)) (fun _ h9 => h9) rfl (by decide +kernel) rfl rfl (Nat.le_of_ble_eq_true rfl) dX5_net_23 (fun H locs hP hD hS => ?_)
    have hP : va_P D vwCl (WW ad cJ cI cZ bm pa p0 p1 p2 li wi (0) (ms.1, ms.2.1, ms.2.2.1, ms.2.2.2.1, ms.2.2.2.2.1, ms.2.2.2.2.2.1 + 1, ms.2.2.2.2.2.2.1, ms.2.2.2.2.2.2.2) ma mp mk mn ou) H := hP
    have hD : va_D A (WW ad cJ cI cZ bm pa p0 p1 p2 li wi (0) (ms.1, ms.2.1, ms.2.2.1, ms.2.2.2.1, ms.2.2.2.2.1, ms.2.2.2.2.2.1 + 1, ms.2.2.2.2.2.2.1, ms.2.2.2.2.2.2.2) ma mp mk mn ou) := hD
    refine lv_aload_n hx hb dX5_net_26 rfl (lv_at hl 0 rfl) ?_
    refine va_get (D := D) (ci := 5) (v := .int (nI (ms.2.2.2.2.2.1 + 1))) (C := RX5) (T := TX5) (N := 28) hx hb hts (inT inX5) hown hK hP 42 ww_42 rfl 20 (by decide) (hts (.fieldLink RX5 160 "BoardMovesModel" "nets" "I") (List.mem_cons_of_mem _ flX5_160)) (fun _ h9 => h9) rfl dX5_net_27 ?_
    refine lv_iconst (v := nI 1) hx hb dX5_net_30 (by decide) ?_
    refine bm_nsub hx hb (by omega) dX5_net_31 ?_
    exact bm_iretX (v := (nI ((ms.2.2.2.2.2.1 + 1) - 1))) hx hb hr hP hD hK hS ⟨(0), (ms.1, ms.2.1, ms.2.2.1, ms.2.2.2.1, ms.2.2.2.2.1, ms.2.2.2.2.2.1 + 1, ms.2.2.2.2.2.2.1, ms.2.2.2.2.2.2.2), ma, mp, mk, mn, ⟨ok_ms_parts, ok_ms_outs, ok_ms_nears, (show ms.2.2.2.2.2.1 + 1 ≤ 40 by omega), ok_ms_pins, ok_ma_sides, ok_ma_groups, ok_mp_turns, ok_mk_nearOne, ok_mk_nearTwo, ok_mn_pinNet, ok_mn_pinPart, hw, hh⟩, rfl, rfl, (nI ((ms.2.2.2.2.2.1 + 1) - 1)), rfl⟩ dX5_net_32 hlocks
  · refine lv_iconst (v := -1) hx hb dX5_net_14 (by decide) ?_
    exact bm_iretX (v := (-1)) hx hb hr hP hD hK hS ⟨(0), ms, ma, mp, mk, mn, ⟨ok_ms_parts, ok_ms_outs, ok_ms_nears, ok_ms_nets, ok_ms_pins, ok_ma_sides, ok_ma_groups, ok_mp_turns, ok_mk_nearOne, ok_mk_nearTwo, ok_mn_pinNet, ok_mn_pinPart, hw, hh⟩, rfl, rfl, (-1), rfl⟩ dX5_net_15 hlocks
