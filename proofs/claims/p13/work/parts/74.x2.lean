set_option maxHeartbeats 16000000 in
set_option maxRecDepth 100000 in
theorem Z_groupA {l : Launch} {D : va_G} {ad : Nat → Nat} {cJ cI cZ : ClassId} {bm : gBM} {pa : gPA} {p0 p1 p2 : gPL} {li : gLI} {wi : gWI} {mt : Nat} {ms : gMS} {ma : gMA} {mp : gMP} {mk : gMK} {mn : gMN} {ou : Nat → Int64} {zA : Nat} {zB : Nat} (hok : okC bm pa p0 p1 p2 li wi) (hk_zA : zA < pa.2.2.2.2.2.2) (hk_zB : zB < pa.2.2.2.2.2.2) : bm_Wx l yX4_group wsX4_group ({ frames := 2, cells := 0, slots := 0, locals := 51 }) D vwCl [(cJ, .long), (cI, .int), (cZ, .boolean)] (WW ad cJ cI cZ bm pa p0 p1 p2 li wi mt ms ma mp mk mn ou) [.ref (ad 0), .int (nI zA), .int (nI zB)] (fun ws9 r9 => ∃ (bm9 : gBM) (pa9 : gPA) (p09 p19 p29 : gPL) (li9 : gLI) (wi9 : gWI) (ou9 : Nat → Int64), okC bm9 pa9 p09 p19 p29 li9 wi9 ∧ (pa9.2.2.2.2.2.2, pa9.2.2.2.2.2.1) = (pa.2.2.2.2.2.2, (gG pa.2.2.2.2.2.1 (Nat.min (pa.2.2.2.2.2.1 zA) (pa.2.2.2.2.2.1 zB)) (Nat.max (pa.2.2.2.2.2.1 zA) (pa.2.2.2.2.2.1 zB)) pa.2.2.2.2.2.2).1) ∧ ws9 = WW ad cJ cI cZ bm9 pa9 p09 p19 p29 li9 wi9 mt ms ma mp mk mn ou9 ∧ r9 = some (.int (nI (gG pa.2.2.2.2.2.1 (Nat.min (pa.2.2.2.2.2.1 zA) (pa.2.2.2.2.2.1 zB)) (Nat.max (pa.2.2.2.2.2.1 zA) (pa.2.2.2.2.2.1 zB)) pa.2.2.2.2.2.2).2))) := by
  obtain ⟨ok_pa_n, ok_pa_side, ok_pa_lowest, ok_p0_turn, ok_p1_turn, ok_p2_turn, ok_li_one, ok_li_other, ok_li_keepOuts, ok_li_nears, ok_wi_netOf, ok_wi_partOf, ok_wi_nets, ok_wi_pins, hw, hh⟩ := hok
  intro sz
  refine Met.ofW (cc := cX4_group) (maxL := 3) (ret := (some .int)) (by decide) rfl ?_
  intro p e s m args below meth c s₁ B hml hv
  obtain ⟨ha, hsz, hP, hK, hD0⟩ := hv
  have hx := B.exec
  have hb := B.bytes
  have hr := B.returns
  have hts := atoms_spec (ws := wsX4_group) B.pre
  have hown : s.vm.findClass RX4 = some m.cls := findClass_of_methodNamed B.named
  have hlocks := B.notSynchronized
  subst hsz
  have hD := hD0.self (sz := s.heap.size)
  generalize hAe : va_A (WW ad cJ cI cZ bm pa p0 p1 p2 li wi mt ms ma mp mk mn ou) s.heap.size = A at hD ⊢
  have hA : ∀ q : Nat, s.heap.size ≤ q → A q := fun q h => by rw [← hAe]; exact Or.inr h
  have hS : va_S A s.heap s.heap [] := va_S.rf
  have hl := lv_entry ([.ref (ad 0), .int (nI zA), .int (nI zB)]) (n := 3) (Nat.le_of_ble_eq_true rfl)
  refine W.eq (g2 := entryFrame m ([.ref (ad 0), .int (nI zA), .int (nI zB)] : List Value).toArray 3) (by rw [ha]) ?_
  rw [lg_entry_eq]
  generalize (lg_sl ([.ref (ad 0), .int (nI zA), .int (nI zB)]) ++ List.replicate (3 - (lg_sl ([.ref (ad 0), .int (nI zA), .int (nI zB)])).length) Slot.unset).toArray = ls at hl ⊢
  have hl : lv_has ls 3 [(0, .ref (ad 0)), (1, .int (nI zA)), (2, .int (nI zB))] := hl
  refine lv_aload_n hx hb dX4_group_0 rfl (lv_at hl 0 rfl) ?_
  refine lv_iload_n hx hb dX4_group_1 rfl (lv_at hl 1 rfl) ?_
  refine bm_vcallV (As := [.int (nI zA)]) (rest := []) ⟨hx, hb, hml, hown, hts⟩ (X_needY  (zp := zA) ok_pa_n (by omega)) (cwV 1 hts gvX4_86 rfl rfl rfl hvX4_needPart ⟨Nat.le_of_ble_eq_true rfl, Nat.le_of_ble_eq_true rfl⟩) hK hP 0 4 rfl ww_0 rfl hl.1 rfl (Nat.le_of_ble_eq_true rfl) dX4_group_2 ⟨Nat.le_of_ble_eq_true rfl, Nat.le_of_ble_eq_true rfl⟩ ?_
  refine lv_aload_n hx hb dX4_group_5 rfl (lv_at hl 0 rfl) ?_
  refine lv_iload_n hx hb dX4_group_6 rfl (lv_at hl 2 rfl) ?_
  refine bm_vcallV (As := [.int (nI zB)]) (rest := []) ⟨hx, hb, hml, hown, hts⟩ (X_needY  (zp := zB) ok_pa_n (by omega)) (cwV 1 hts gvX4_86 rfl rfl rfl hvX4_needPart ⟨Nat.le_of_ble_eq_true rfl, Nat.le_of_ble_eq_true rfl⟩) hK hP 0 4 rfl ww_0 rfl hl.1 rfl (Nat.le_of_ble_eq_true rfl) dX4_group_7 ⟨Nat.le_of_ble_eq_true rfl, Nat.le_of_ble_eq_true rfl⟩ ?_
  refine lv_aload_n hx hb dX4_group_10 rfl (lv_at hl 0 rfl) ?_
  refine va_get (D := D) (ci := 4) (v := .ref (ad 1)) (C := RX4) (T := TX4) (N := 10) hx hb hts (inT inX4) hown hK hP 0 ww_0 rfl 2 (by decide) (hts (.fieldLink RX4 12 "BoardMoves" "parts" "LBoardMoves$Parts;") (List.mem_cons_of_mem _ flX4_12)) (fun _ h9 => h9) rfl dX4_group_11 ?_
  refine lv_iload_n hx hb dX4_group_14 rfl (lv_at hl 1 rfl) ?_
  refine lv_iload_n hx hb dX4_group_15 rfl (lv_at hl 2 rfl) ?_
  refine bm_xcallV (As := [.int (nI zA), .int (nI zB)]) (rest := []) ⟨hx, hb, hml, hown, hts⟩ (x_joinG  (za := zA) (zb := zB) ok_pa_n ok_pa_lowest (by omega) (by omega)) (cwV 2 hts gvX4_214 rfl rfl rfl hvX1_join ⟨Nat.le_of_ble_eq_true rfl, Nat.le_of_ble_eq_true rfl⟩) hK hP hD hS hA 1 1 rfl ww_1 rfl hl.1 rfl (Nat.le_of_ble_eq_true rfl) dX4_group_16 ⟨Nat.le_of_ble_eq_true rfl, Nat.le_of_ble_eq_true rfl⟩ (fun ws_1 r_2 h_3 H locs hP hD hS => ?_)
  obtain ⟨rfl, rfl⟩ := h_3
  have hP : va_P D vwCl (WW ad cJ cI cZ bm (pa.1, pa.2.1, pa.2.2.1, pa.2.2.2.1, pa.2.2.2.2.1, (gG pa.2.2.2.2.2.1 (Nat.min (pa.2.2.2.2.2.1 zA) (pa.2.2.2.2.2.1 zB)) (Nat.max (pa.2.2.2.2.2.1 zA) (pa.2.2.2.2.2.1 zB)) pa.2.2.2.2.2.2).1, pa.2.2.2.2.2.2) p0 p1 p2 li wi mt ms ma mp mk mn ou) H := hP
  have hD : va_D A (WW ad cJ cI cZ bm (pa.1, pa.2.1, pa.2.2.1, pa.2.2.2.1, pa.2.2.2.2.1, (gG pa.2.2.2.2.2.1 (Nat.min (pa.2.2.2.2.2.1 zA) (pa.2.2.2.2.2.1 zB)) (Nat.max (pa.2.2.2.2.2.1 zA) (pa.2.2.2.2.2.1 zB)) pa.2.2.2.2.2.2).1, pa.2.2.2.2.2.2) p0 p1 p2 li wi mt ms ma mp mk mn ou) := hD
  exact bm_iretX (v := (nI ((gG pa.2.2.2.2.2.1 (Nat.min (pa.2.2.2.2.2.1 zA) (pa.2.2.2.2.2.1 zB)) (Nat.max (pa.2.2.2.2.2.1 zA) (pa.2.2.2.2.2.1 zB)) pa.2.2.2.2.2.2).2))) hx hb hr hP hD hK hS ⟨bm, (pa.1, pa.2.1, pa.2.2.1, pa.2.2.2.1, pa.2.2.2.2.1, (gG pa.2.2.2.2.2.1 (Nat.min (pa.2.2.2.2.2.1 zA) (pa.2.2.2.2.2.1 zB)) (Nat.max (pa.2.2.2.2.2.1 zA) (pa.2.2.2.2.2.1 zB)) pa.2.2.2.2.2.2).1, pa.2.2.2.2.2.2), p0, p1, p2, li, wi, ou, ⟨ok_pa_n, ok_pa_side, (gG_lt ok_pa_lowest (Nat.lt_of_le_of_lt (Nat.min_le_left _ _) (ok_pa_lowest _)) _), ok_p0_turn, ok_p1_turn, ok_p2_turn, ok_li_one, ok_li_other, ok_li_keepOuts, ok_li_nears, ok_wi_netOf, ok_wi_partOf, ok_wi_nets, ok_wi_pins, hw, hh⟩, rfl, rfl, rfl⟩ dX4_group_19 hlocks

set_option maxHeartbeats 16000000 in
set_option maxRecDepth 100000 in
theorem E_groupA {l : Launch} (hlt : l.stackTraces = false) {D : va_G} {ad : Nat → Nat} {cJ cI cZ : ClassId} {bm : gBM} {pa : gPA} {p0 p1 p2 : gPL} {li : gLI} {wi : gWI} {mt : Nat} {ms : gMS} {ma : gMA} {mp : gMP} {mk : gMK} {mn : gMN} {ou : Nat → Int64} (hok : okC bm pa p0 p1 p2 li wi) {zA zB : Nat} (hk_zA : zA < pa.2.2.2.2.2.2) (hk_zB : zB < pa.2.2.2.2.2.2) (sz : Nat) : Met l yL_group wsL_group ({ frames := 3, cells := 1, slots := 6, locals := 73 }) (bx_Hn D vwCl [(cJ, .long), (cI, .int), (cZ, .boolean)] (WW ad cJ cI cZ bm pa p0 p1 p2 li wi mt ms ma mp mk mn ou) [.ref (ad 0), .int (nI zA), .int (nI zB), .ref (ad 62)] sz) (bm_Wxq D vwCl [(cJ, .long), (cI, .int), (cZ, .boolean)] (fun ws9 r9 => ∃ (bm9 : gBM) (pa9 : gPA) (p09 p19 p29 : gPL) (li9 : gLI) (wi9 : gWI) (ou9 : Nat → Int64), okC bm9 pa9 p09 p19 p29 li9 wi9 ∧ (pa9.2.2.2.2.2.2, pa9.2.2.2.2.2.1) = (pa.2.2.2.2.2.2, (gG pa.2.2.2.2.2.1 (Nat.min (pa.2.2.2.2.2.1 zA) (pa.2.2.2.2.2.1 zB)) (Nat.max (pa.2.2.2.2.2.1 zA) (pa.2.2.2.2.2.1 zB)) pa.2.2.2.2.2.2).1) ∧ ou9 0 = (nI (gG pa.2.2.2.2.2.1 (Nat.min (pa.2.2.2.2.2.1 zA) (pa.2.2.2.2.2.1 zB)) (Nat.max (pa.2.2.2.2.2.1 zA) (pa.2.2.2.2.2.1 zB)) pa.2.2.2.2.2.2).2).toInt64 ∧ ws9 = WW ad cJ cI cZ bm9 pa9 p09 p19 p29 li9 wi9 mt ms ma mp mk mn ou9 ∧ r9 = some (.int (nI 0))) (va_A (WW ad cJ cI cZ bm pa p0 p1 p2 li wi mt ms ma mp mk mn ou) sz)) 1 6 (va_A (WW ad cJ cI cZ bm pa p0 p1 p2 li wi mt ms ma mp mk mn ou) sz) := by
  have hok9 := hok
  obtain ⟨ok_pa_n, ok_pa_side, ok_pa_lowest, ok_p0_turn, ok_p1_turn, ok_p2_turn, ok_li_one, ok_li_other, ok_li_keepOuts, ok_li_nears, ok_wi_netOf, ok_wi_partOf, ok_wi_nets, ok_wi_pins, hw, hh⟩ := hok9
  refine bx_ofWH (cc := cL_group) (maxL := 5) (ret := (some .int)) (hs := [(0, 10, 13, 19)]) (by decide) rfl ?_
  intro p e s m args below meth c s₁ B hml htab hv9
  obtain ⟨⟨ha, hsz, hP, hK, hD0, hX, hZ⟩, hN1, hN2⟩ := hv9
  have hx := B.exec
  have hb := B.bytes
  have hr := B.returns
  have hts := atoms_spec (ws := wsL_group) B.pre
  have hown : s.vm.findClass RL = some m.cls := findClass_of_methodNamed B.named
  have hlocks := B.notSynchronized
  subst hsz
  have hD := hD0.self (sz := s.heap.size)
  generalize hAe : va_A (WW ad cJ cI cZ bm pa p0 p1 p2 li wi mt ms ma mp mk mn ou) s.heap.size = A at hD ⊢
  have hA : ∀ q : Nat, s.heap.size ≤ q → A q := fun q h => by rw [← hAe]; exact Or.inr h
  have hS : va_S A s.heap s.heap [] := va_S.rf
  have hl := lv_entry ([.ref (ad 0), .int (nI zA), .int (nI zB), .ref (ad 62)]) (n := 5) (Nat.le_of_ble_eq_true rfl)
  refine W.eq (g2 := entryFrame m ([.ref (ad 0), .int (nI zA), .int (nI zB), .ref (ad 62)] : List Value).toArray 5) (by rw [ha]) ?_
  rw [lg_entry_eq]
  generalize (lg_sl ([.ref (ad 0), .int (nI zA), .int (nI zB), .ref (ad 62)]) ++ List.replicate (5 - (lg_sl ([.ref (ad 0), .int (nI zA), .int (nI zB), .ref (ad 62)])).length) Slot.unset).toArray = ls at hl ⊢
  have hl : lv_has ls 5 [(0, .ref (ad 0)), (1, .int (nI zA)), (2, .int (nI zB)), (3, .ref (ad 62))] := hl
  refine lv_aload_n hx hb dL_group_0 rfl (lv_at hl 3 rfl) ?_
  refine lv_iconst (v := nI 0) hx hb dL_group_1 (by decide) ?_
  refine lv_aload_n hx hb dL_group_2 rfl (lv_at hl 0 rfl) ?_
  refine lv_iload_n hx hb dL_group_3 rfl (lv_at hl 1 rfl) ?_
  refine lv_iload_n hx hb dL_group_4 rfl (lv_at hl 2 rfl) ?_
  refine bm_xcallV (As := [.int (nI zA), .int (nI zB)]) (rest := [.int (nI 0), .ref (ad 62)]) ⟨hx, hb, hml, hown, hts⟩ (Z_groupA  hok hk_zA hk_zB) (cwV 2 hts gwL_47 rfl rfl rfl hvX4_group ⟨Nat.le_of_ble_eq_true rfl, Nat.le_of_ble_eq_true rfl⟩) hK hP hD hS hA 0 4 rfl ww_0 rfl hl.1 rfl (Nat.le_of_ble_eq_true rfl) dL_group_5 ⟨Nat.le_of_ble_eq_true rfl, Nat.le_of_ble_eq_true rfl⟩ (fun ws_1 r_2 h_3 H locs hP hD hS => ?_)
  obtain ⟨bmn_4, pan_5, p0n_6, p1n_7, p2n_8, lin_9, win_10, oun_11, okn_12, hnn_13, rfl, rfl⟩ := h_3
  have hP : va_P D vwCl (WW ad cJ cI cZ bmn_4 pan_5 p0n_6 p1n_7 p2n_8 lin_9 win_10 mt ms ma mp mk mn oun_11) H := hP
  have hD : va_D A (WW ad cJ cI cZ bmn_4 pan_5 p0n_6 p1n_7 p2n_8 lin_9 win_10 mt ms ma mp mk mn oun_11) := hD
  refine lv_i2l (v := (nI ((gG pa.2.2.2.2.2.1 (Nat.min (pa.2.2.2.2.2.1 zA) (pa.2.2.2.2.2.1 zB)) (Nat.max (pa.2.2.2.2.2.1 zA) (pa.2.2.2.2.2.1 zB)) pa.2.2.2.2.2.2).2)).toInt64) hx hb dL_group_8 rfl ?_
  refine bm_last (f := oun_11) hx hb hK hP hD hS 62 0 ww_62 rfl (j := 0) (x := ((nI ((gG pa.2.2.2.2.2.1 (Nat.min (pa.2.2.2.2.2.1 zA) (pa.2.2.2.2.2.1 zB)) (Nat.max (pa.2.2.2.2.2.1 zA) (pa.2.2.2.2.2.1 zB)) pa.2.2.2.2.2.2).2)).toInt64)) (by omega) (by decide) dL_group_9 (fun H locs hP hD hS => ?_)
  have hP : va_P D vwCl (WW ad cJ cI cZ bmn_4 pan_5 p0n_6 p1n_7 p2n_8 lin_9 win_10 mt ms ma mp mk mn (va_up oun_11 0 ((nI ((gG pa.2.2.2.2.2.1 (Nat.min (pa.2.2.2.2.2.1 zA) (pa.2.2.2.2.2.1 zB)) (Nat.max (pa.2.2.2.2.2.1 zA) (pa.2.2.2.2.2.1 zB)) pa.2.2.2.2.2.2).2)).toInt64))) H := hP
  have hD : va_D A (WW ad cJ cI cZ bmn_4 pan_5 p0n_6 p1n_7 p2n_8 lin_9 win_10 mt ms ma mp mk mn (va_up oun_11 0 ((nI ((gG pa.2.2.2.2.2.1 (Nat.min (pa.2.2.2.2.2.1 zA) (pa.2.2.2.2.2.1 zB)) (Nat.max (pa.2.2.2.2.2.1 zA) (pa.2.2.2.2.2.1 zB)) pa.2.2.2.2.2.2).2)).toInt64))) := hD
  refine lv_goto (tgt := 17) hx hb dL_group_10 (by decide) ?_
  refine lv_iconst (v := nI 0) hx hb dL_group_17 (by decide) ?_
  refine W.widen (k := 1) (n := 6) (by decide) (by decide) ?_
  exact bm_iretX (v := nI 0) hx hb hr hP hD hK hS ⟨bmn_4, pan_5, p0n_6, p1n_7, p2n_8, lin_9, win_10, (va_up oun_11 0 ((nI ((gG pa.2.2.2.2.2.1 (Nat.min (pa.2.2.2.2.2.1 zA) (pa.2.2.2.2.2.1 zB)) (Nat.max (pa.2.2.2.2.2.1 zA) (pa.2.2.2.2.2.1 zB)) pa.2.2.2.2.2.2).2)).toInt64)), okn_12, hnn_13, (by simp [va_up]), rfl, rfl⟩ dL_group_18 hlocks

set_option maxHeartbeats 16000000 in
set_option maxRecDepth 100000 in
theorem E_groupM {l : Launch} (hlt : l.stackTraces = false) {D : va_G} {ad : Nat → Nat} {cJ cI cZ : ClassId} {bm : gBM} {pa : gPA} {p0 p1 p2 : gPL} {li : gLI} {wi : gWI} {mt : Nat} {ms : gMS} {ma : gMA} {mp : gMP} {mk : gMK} {mn : gMN} {ou : Nat → Int64} (hok : okC bm pa p0 p1 p2 li wi) {zA : Nat} (hk_zA : zA < pa.2.2.2.2.2.2) {zB : Int32} (hno_zB : ¬ (¬ zB < 0 ∧ zB < nI pa.2.2.2.2.2.2)) (sz : Nat) : Met l yL_group wsL_group ({ frames := 8, cells := 1, slots := 6, locals := 144 }) (bx_Hn D vwCl [(cJ, .long), (cI, .int), (cZ, .boolean)] (WW ad cJ cI cZ bm pa p0 p1 p2 li wi mt ms ma mp mk mn ou) [.ref (ad 0), .int (nI zA), .int zB, .ref (ad 62)] sz) (bm_Wxq D vwCl [(cJ, .long), (cI, .int), (cZ, .boolean)] (fun ws9 r9 => ∃ (bm9 : gBM) (pa9 : gPA) (p09 p19 p29 : gPL) (li9 : gLI) (wi9 : gWI) (ou9 : Nat → Int64), okC bm9 pa9 p09 p19 p29 li9 wi9 ∧ (pa9.2.2.2.2.2.2, pa9.2.2.2.2.2.1) = (pa.2.2.2.2.2.2, pa.2.2.2.2.2.1) ∧ ws9 = WW ad cJ cI cZ bm9 pa9 p09 p19 p29 li9 wi9 mt ms ma mp mk mn ou9 ∧ r9 = some (.int (nI 1))) (va_A (WW ad cJ cI cZ bm pa p0 p1 p2 li wi mt ms ma mp mk mn ou) sz)) 1 6 (va_A (WW ad cJ cI cZ bm pa p0 p1 p2 li wi mt ms ma mp mk mn ou) sz) := by
  have hok9 := hok
  obtain ⟨ok_pa_n, ok_pa_side, ok_pa_lowest, ok_p0_turn, ok_p1_turn, ok_p2_turn, ok_li_one, ok_li_other, ok_li_keepOuts, ok_li_nears, ok_wi_netOf, ok_wi_partOf, ok_wi_nets, ok_wi_pins, hw, hh⟩ := hok9
  refine bx_ofWH (cc := cL_group) (maxL := 5) (ret := (some .int)) (hs := [(0, 10, 13, 19)]) (by decide) rfl ?_
  intro p e s m args below meth c s₁ B hml htab hv9
  obtain ⟨⟨ha, hsz, hP, hK, hD0, hX, hZ⟩, hN1, hN2⟩ := hv9
  have hx := B.exec
  have hb := B.bytes
  have hr := B.returns
  have hts := atoms_spec (ws := wsL_group) B.pre
  have hown : s.vm.findClass RL = some m.cls := findClass_of_methodNamed B.named
  have hlocks := B.notSynchronized
  subst hsz
  have hD := hD0.self (sz := s.heap.size)
  generalize hAe : va_A (WW ad cJ cI cZ bm pa p0 p1 p2 li wi mt ms ma mp mk mn ou) s.heap.size = A at hD ⊢
  have hA : ∀ q : Nat, s.heap.size ≤ q → A q := fun q h => by rw [← hAe]; exact Or.inr h
  have hS : va_S A s.heap s.heap [] := va_S.rf
  have hl := lv_entry ([.ref (ad 0), .int (nI zA), .int zB, .ref (ad 62)]) (n := 5) (Nat.le_of_ble_eq_true rfl)
  refine W.eq (g2 := entryFrame m ([.ref (ad 0), .int (nI zA), .int zB, .ref (ad 62)] : List Value).toArray 5) (by rw [ha]) ?_
  rw [lg_entry_eq]
  generalize (lg_sl ([.ref (ad 0), .int (nI zA), .int zB, .ref (ad 62)]) ++ List.replicate (5 - (lg_sl ([.ref (ad 0), .int (nI zA), .int zB, .ref (ad 62)])).length) Slot.unset).toArray = ls at hl ⊢
  have hl : lv_has ls 5 [(0, .ref (ad 0)), (1, .int (nI zA)), (2, .int zB), (3, .ref (ad 62))] := hl
  refine lv_aload_n hx hb dL_group_0 rfl (lv_at hl 3 rfl) ?_
  refine lv_iconst (v := nI 0) hx hb dL_group_1 (by decide) ?_
  refine lv_aload_n hx hb dL_group_2 rfl (lv_at hl 0 rfl) ?_
  refine lv_iload_n hx hb dL_group_3 rfl (lv_at hl 1 rfl) ?_
  refine lv_iload_n hx hb dL_group_4 rfl (lv_at hl 2 rfl) ?_
  refine bx_catch (name := "java/lang/IndexOutOfBoundsException") (bx_tcallV (As := [.int (nI zA), .int zB]) (rest := [.int (nI 0), .ref (ad 62)]) ⟨hx, hb, hml, hown, hts⟩ (X_group2 hlt ok_pa_n hk_zA hno_zB) (cwV 2 hts gwL_47 rfl rfl rfl hvX4_group ⟨Nat.le_of_ble_eq_true rfl, Nat.le_of_ble_eq_true rfl⟩) hK hP hX hZ 0 4 rfl ww_0 rfl hl.1 rfl (Nat.le_of_ble_eq_true rfl) dL_group_5 ⟨Nat.le_of_ble_eq_true rfl, Nat.le_of_ble_eq_true rfl⟩) hown htab (by decide) (by decide) (hts (.classLink RL 19 "java/lang/IndexOutOfBoundsException") (by decide +kernel)) (hX (.castable "java/lang/IndexOutOfBoundsException" "java/lang/IndexOutOfBoundsException") (by decide +kernel) _) (fun q9 H hz hh => ?_)
  have hP := bx_keepP hP hh
  have hS := bx_keepS hS hz hh
  refine lv_astore (lv' := [(4, .ref q9), (0, .ref (ad 0)), (1, .int (nI zA)), (2, .int zB), (3, .ref (ad 62))]) hx hb dL_group_13 hl (by decide) rfl (fun ls hl => ?_)
  refine lv_iconst (v := nI 1) hx hb dL_group_15 (by decide) ?_
  exact bm_iretX (v := nI 1) hx hb hr hP hD hK hS ⟨bm, pa, p0, p1, p2, li, wi, ou, hok, rfl, rfl, rfl⟩ dL_group_16 hlocks

set_option maxHeartbeats 16000000 in
set_option maxRecDepth 100000 in
theorem E_groupN {l : Launch} (hlt : l.stackTraces = false) {D : va_G} {ad : Nat → Nat} {cJ cI cZ : ClassId} {bm : gBM} {pa : gPA} {p0 p1 p2 : gPL} {li : gLI} {wi : gWI} {mt : Nat} {ms : gMS} {ma : gMA} {mp : gMP} {mk : gMK} {mn : gMN} {ou : Nat → Int64} (hok : okC bm pa p0 p1 p2 li wi) {zA : Int32} (hno_zA : ¬ (¬ zA < 0 ∧ zA < nI pa.2.2.2.2.2.2)) {zB : Int32} (sz : Nat) : Met l yL_group wsL_group ({ frames := 8, cells := 1, slots := 6, locals := 144 }) (bx_Hn D vwCl [(cJ, .long), (cI, .int), (cZ, .boolean)] (WW ad cJ cI cZ bm pa p0 p1 p2 li wi mt ms ma mp mk mn ou) [.ref (ad 0), .int zA, .int zB, .ref (ad 62)] sz) (bm_Wxq D vwCl [(cJ, .long), (cI, .int), (cZ, .boolean)] (fun ws9 r9 => ∃ (bm9 : gBM) (pa9 : gPA) (p09 p19 p29 : gPL) (li9 : gLI) (wi9 : gWI) (ou9 : Nat → Int64), okC bm9 pa9 p09 p19 p29 li9 wi9 ∧ (pa9.2.2.2.2.2.2, pa9.2.2.2.2.2.1) = (pa.2.2.2.2.2.2, pa.2.2.2.2.2.1) ∧ ws9 = WW ad cJ cI cZ bm9 pa9 p09 p19 p29 li9 wi9 mt ms ma mp mk mn ou9 ∧ r9 = some (.int (nI 1))) (va_A (WW ad cJ cI cZ bm pa p0 p1 p2 li wi mt ms ma mp mk mn ou) sz)) 1 6 (va_A (WW ad cJ cI cZ bm pa p0 p1 p2 li wi mt ms ma mp mk mn ou) sz) := by
  have hok9 := hok
  obtain ⟨ok_pa_n, ok_pa_side, ok_pa_lowest, ok_p0_turn, ok_p1_turn, ok_p2_turn, ok_li_one, ok_li_other, ok_li_keepOuts, ok_li_nears, ok_wi_netOf, ok_wi_partOf, ok_wi_nets, ok_wi_pins, hw, hh⟩ := hok9
  refine bx_ofWH (cc := cL_group) (maxL := 5) (ret := (some .int)) (hs := [(0, 10, 13, 19)]) (by decide) rfl ?_
  intro p e s m args below meth c s₁ B hml htab hv9
  obtain ⟨⟨ha, hsz, hP, hK, hD0, hX, hZ⟩, hN1, hN2⟩ := hv9
  have hx := B.exec
  have hb := B.bytes
  have hr := B.returns
  have hts := atoms_spec (ws := wsL_group) B.pre
  have hown : s.vm.findClass RL = some m.cls := findClass_of_methodNamed B.named
  have hlocks := B.notSynchronized
  subst hsz
  have hD := hD0.self (sz := s.heap.size)
  generalize hAe : va_A (WW ad cJ cI cZ bm pa p0 p1 p2 li wi mt ms ma mp mk mn ou) s.heap.size = A at hD ⊢
  have hA : ∀ q : Nat, s.heap.size ≤ q → A q := fun q h => by rw [← hAe]; exact Or.inr h
  have hS : va_S A s.heap s.heap [] := va_S.rf
  have hl := lv_entry ([.ref (ad 0), .int zA, .int zB, .ref (ad 62)]) (n := 5) (Nat.le_of_ble_eq_true rfl)
  refine W.eq (g2 := entryFrame m ([.ref (ad 0), .int zA, .int zB, .ref (ad 62)] : List Value).toArray 5) (by rw [ha]) ?_
  rw [lg_entry_eq]
  generalize (lg_sl ([.ref (ad 0), .int zA, .int zB, .ref (ad 62)]) ++ List.replicate (5 - (lg_sl ([.ref (ad 0), .int zA, .int zB, .ref (ad 62)])).length) Slot.unset).toArray = ls at hl ⊢
  have hl : lv_has ls 5 [(0, .ref (ad 0)), (1, .int zA), (2, .int zB), (3, .ref (ad 62))] := hl
  refine lv_aload_n hx hb dL_group_0 rfl (lv_at hl 3 rfl) ?_
  refine lv_iconst (v := nI 0) hx hb dL_group_1 (by decide) ?_
  refine lv_aload_n hx hb dL_group_2 rfl (lv_at hl 0 rfl) ?_
  refine lv_iload_n hx hb dL_group_3 rfl (lv_at hl 1 rfl) ?_
  refine lv_iload_n hx hb dL_group_4 rfl (lv_at hl 2 rfl) ?_
  refine bx_catch (name := "java/lang/IndexOutOfBoundsException") (bx_tcallV (As := [.int zA, .int zB]) (rest := [.int (nI 0), .ref (ad 62)]) ⟨hx, hb, hml, hown, hts⟩ (X_group1 hlt hno_zA) (cwV 2 hts gwL_47 rfl rfl rfl hvX4_group ⟨Nat.le_of_ble_eq_true rfl, Nat.le_of_ble_eq_true rfl⟩) hK hP hX hZ 0 4 rfl ww_0 rfl hl.1 rfl (Nat.le_of_ble_eq_true rfl) dL_group_5 ⟨Nat.le_of_ble_eq_true rfl, Nat.le_of_ble_eq_true rfl⟩) hown htab (by decide) (by decide) (hts (.classLink RL 19 "java/lang/IndexOutOfBoundsException") (by decide +kernel)) (hX (.castable "java/lang/IndexOutOfBoundsException" "java/lang/IndexOutOfBoundsException") (by decide +kernel) _) (fun q9 H hz hh => ?_)
  have hP := bx_keepP hP hh
  have hS := bx_keepS hS hz hh
  refine lv_astore (lv' := [(4, .ref q9), (0, .ref (ad 0)), (1, .int zA), (2, .int zB), (3, .ref (ad 62))]) hx hb dL_group_13 hl (by decide) rfl (fun ls hl => ?_)
  refine lv_iconst (v := nI 1) hx hb dL_group_15 (by decide) ?_
  exact bm_iretX (v := nI 1) hx hb hr hP hD hK hS ⟨bm, pa, p0, p1, p2, li, wi, ou, hok, rfl, rfl, rfl⟩ dL_group_16 hlocks

set_option maxHeartbeats 16000000 in
set_option maxRecDepth 100000 in
theorem Y_groupA {l : Launch} {D : va_G} {ad : Nat → Nat} {cJ cI cZ : ClassId} {bm : gBM} {pa : gPA} {p0 p1 p2 : gPL} {li : gLI} {wi : gWI} {mt : Nat} {ms : gMS} {ma : gMA} {mp : gMP} {mk : gMK} {mn : gMN} {ou : Nat → Int64} {zA : Nat} {zB : Nat} (hok : okM ms ma mp mk mn) (hk_zA : zA < ms.2.2.1) (hk_zB : zB < ms.2.2.1) : bm_Wx l yX5_group wsX5_group ({ frames := 1, cells := 0, slots := 0, locals := 21 }) D vwCl [(cJ, .long), (cI, .int), (cZ, .boolean)] (WW ad cJ cI cZ bm pa p0 p1 p2 li wi mt ms ma mp mk mn ou) [.ref (ad 42), .int (nI zA), .int (nI zB)] (fun ws9 r9 => ∃ (mt9 : Nat) (ms9 : gMS) (ma9 : gMA) (mp9 : gMP) (mk9 : gMK) (mn9 : gMN), okM ms9 ma9 mp9 mk9 mn9 ∧ (ms9.2.2.1, ma9.2.2.2.2.2.1) = (ms.2.2.1, (gG ma.2.2.2.2.2.1 (Nat.min (ma.2.2.2.2.2.1 zA) (ma.2.2.2.2.2.1 zB)) (Nat.max (ma.2.2.2.2.2.1 zA) (ma.2.2.2.2.2.1 zB)) ms.2.2.1).1) ∧ mt9 = 0 ∧ ws9 = WW ad cJ cI cZ bm pa p0 p1 p2 li wi mt9 ms9 ma9 mp9 mk9 mn9 ou ∧ r9 = some (.int (nI (gG ma.2.2.2.2.2.1 (Nat.min (ma.2.2.2.2.2.1 zA) (ma.2.2.2.2.2.1 zB)) (Nat.max (ma.2.2.2.2.2.1 zA) (ma.2.2.2.2.2.1 zB)) ms.2.2.1).2))) := by
  obtain ⟨ok_ms_parts, ok_ms_outs, ok_ms_nears, ok_ms_nets, ok_ms_pins, ok_ma_sides, ok_ma_groups, ok_mp_turns, ok_mk_nearOne, ok_mk_nearTwo, ok_mn_pinNet, ok_mn_pinPart, hw, hh⟩ := hok
  intro sz
  refine Met.ofW (cc := cX5_group) (maxL := 7) (ret := (some .int)) (by decide) rfl ?_
  intro p e s m args below meth c s₁ B hml hv
  obtain ⟨ha, hsz, hP, hK, hD0⟩ := hv
  have hx := B.exec
  have hb := B.bytes
  have hr := B.returns
  have hts := atoms_spec (ws := wsX5_group) B.pre
  have hown : s.vm.findClass RX5 = some m.cls := findClass_of_methodNamed B.named
  have hlocks := B.notSynchronized
  subst hsz
  have hD := hD0.self (sz := s.heap.size)
  generalize hAe : va_A (WW ad cJ cI cZ bm pa p0 p1 p2 li wi mt ms ma mp mk mn ou) s.heap.size = A at hD ⊢
  have hA : ∀ q : Nat, s.heap.size ≤ q → A q := fun q h => by rw [← hAe]; exact Or.inr h
  have hS : va_S A s.heap s.heap [] := va_S.rf
  have hl := lv_entry ([.ref (ad 42), .int (nI zA), .int (nI zB)]) (n := 7) (Nat.le_of_ble_eq_true rfl)
  refine W.eq (g2 := entryFrame m ([.ref (ad 42), .int (nI zA), .int (nI zB)] : List Value).toArray 7) (by rw [ha]) ?_
  rw [lg_entry_eq]
  generalize (lg_sl ([.ref (ad 42), .int (nI zA), .int (nI zB)]) ++ List.replicate (7 - (lg_sl ([.ref (ad 42), .int (nI zA), .int (nI zB)])).length) Slot.unset).toArray = ls at hl ⊢
  have hl : lv_has ls 7 [(0, .ref (ad 42)), (1, .int (nI zA)), (2, .int (nI zB))] := hl
  refine lv_aload_n hx hb dX5_group_0 rfl (lv_at hl 0 rfl) ?_
  refine lv_aload_n hx hb dX5_group_1 rfl (lv_at hl 0 rfl) ?_
  refine lv_iload_n hx hb dX5_group_2 rfl (lv_at hl 1 rfl) ?_
  refine bm_rcallV (As := [.int (nI zA)]) (rest := [.ref (ad 42)]) ⟨hx, hb, hml, hown, hts⟩ (Y_isPartY  (zp := zA) ok_ms_parts (by omega)) (cwV 1 hts gvX5_139 rfl rfl rfl hvX5_isPart ⟨Nat.le_of_ble_eq_true rfl, Nat.le_of_ble_eq_true rfl⟩) hK hP 42 5 rfl ww_42 rfl hl.1 rfl (Nat.le_of_ble_eq_true rfl) dX5_group_3 ⟨Nat.le_of_ble_eq_true rfl, Nat.le_of_ble_eq_true rfl⟩ ?_
  refine bm_zb_eq (x := true) (tgt := 21) hx hb dX5_group_6 (by decide) (fun c_1 => ?_) (fun c_1 => ?_)
  · exact absurd c_1 (by decide)
  · refine lv_aload_n hx hb dX5_group_9 rfl (lv_at hl 0 rfl) ?_
    refine lv_iload_n hx hb dX5_group_10 rfl (lv_at hl 2 rfl) ?_
    refine bm_rcallV (As := [.int (nI zB)]) (rest := [.ref (ad 42)]) ⟨hx, hb, hml, hown, hts⟩ (Y_isPartY  (zp := zB) ok_ms_parts (by omega)) (cwV 1 hts gvX5_139 rfl rfl rfl hvX5_isPart ⟨Nat.le_of_ble_eq_true rfl, Nat.le_of_ble_eq_true rfl⟩) hK hP 42 5 rfl ww_42 rfl hl.1 rfl (Nat.le_of_ble_eq_true rfl) dX5_group_11 ⟨Nat.le_of_ble_eq_true rfl, Nat.le_of_ble_eq_true rfl⟩ ?_
    refine bm_zb_eq (x := true) (tgt := 21) hx hb dX5_group_14 (by decide) (fun c_2 => ?_) (fun c_2 => ?_)
    · exact absurd c_2 (by decide)
    · refine lv_iconst (v := nI 0) hx hb dX5_group_17 (by decide) ?_
      refine lv_goto (tgt := 22) hx hb dX5_group_18 (by decide) ?_
      refine va_put (D := D) (ci := 5) (v := .int (nI 0)) (ty := .int) (C := RX5) (T := TX5) (N := 28) hx hb hts (inT inX5) tyX5 tyX5_ok nmX5 hown hK hP hD hS 42 ww_42 rfl 0 (by decide) (hts (.fieldLink RX5 81 "BoardMovesModel" "thrown" "I") (List.mem_cons_of_mem _ flX5_81)) (fun _ h9 => h9) rfl (by decide +kernel) rfl rfl (Nat.le_of_ble_eq_true rfl) dX5_group_22 (fun H locs hP hD hS => ?_)
      have hP : va_P D vwCl (WW ad cJ cI cZ bm pa p0 p1 p2 li wi (0) ms ma mp mk mn ou) H := hP
      have hD : va_D A (WW ad cJ cI cZ bm pa p0 p1 p2 li wi (0) ms ma mp mk mn ou) := hD
      refine lv_aload_n hx hb dX5_group_25 rfl (lv_at hl 0 rfl) ?_
      refine va_get (D := D) (ci := 5) (v := .int (nI 0)) (C := RX5) (T := TX5) (N := 28) hx hb hts (inT inX5) hown hK hP 42 ww_42 rfl 0 (by decide) (hts (.fieldLink RX5 81 "BoardMovesModel" "thrown" "I") (List.mem_cons_of_mem _ flX5_81)) (fun _ h9 => h9) rfl dX5_group_26 ?_
      refine bm_nz_eq (x := 0) (tgt := 34) hx hb (by decide) dX5_group_29 (by decide) (fun c_3 => ?_) (fun c_3 => ?_)
      · refine lv_aload_n hx hb dX5_group_34 rfl (lv_at hl 0 rfl) ?_
        refine va_get (D := D) (ci := 5) (v := .ref (ad 48)) (C := RX5) (T := TX5) (N := 28) hx hb hts (inT inX5) hown hK hP 42 ww_42 rfl 9 (by decide) (hts (.fieldLink RX5 27 "BoardMovesModel" "groups" "[I") (List.mem_cons_of_mem _ flX5_27)) (fun _ h9 => h9) rfl dX5_group_35 ?_
        refine lv_iload_n hx hb dX5_group_38 rfl (lv_at hl 1 rfl) ?_
        refine bm_nald (f := ma.2.2.2.2.2.1) hx hb hK hP 48 1 ww_48 rfl (j := zA) (by omega) (by decide) dX5_group_39 ?_
        refine lv_aload_n hx hb dX5_group_40 rfl (lv_at hl 0 rfl) ?_
        refine va_get (D := D) (ci := 5) (v := .ref (ad 48)) (C := RX5) (T := TX5) (N := 28) hx hb hts (inT inX5) hown hK hP 42 ww_42 rfl 9 (by decide) (hts (.fieldLink RX5 27 "BoardMovesModel" "groups" "[I") (List.mem_cons_of_mem _ flX5_27)) (fun _ h9 => h9) rfl dX5_group_41 ?_
        refine lv_iload_n hx hb dX5_group_44 rfl (lv_at hl 2 rfl) ?_
        refine bm_nald (f := ma.2.2.2.2.2.1) hx hb hK hP 48 1 ww_48 rfl (j := zB) (by omega) (by decide) dX5_group_45 ?_
        refine bm_ni_ge (x := (ma.2.2.2.2.2.1 zA)) (y := (ma.2.2.2.2.2.1 zB)) (tgt := 58) hx hb (bm40 (ok_ma_groups _)) (bm40 (ok_ma_groups _)) dX5_group_46 (by decide) (fun c_4 => ?_) (fun c_4 => ?_)
        · refine lv_aload_n hx hb dX5_group_58 rfl (lv_at hl 0 rfl) ?_
          refine va_get (D := D) (ci := 5) (v := .ref (ad 48)) (C := RX5) (T := TX5) (N := 28) hx hb hts (inT inX5) hown hK hP 42 ww_42 rfl 9 (by decide) (hts (.fieldLink RX5 27 "BoardMovesModel" "groups" "[I") (List.mem_cons_of_mem _ flX5_27)) (fun _ h9 => h9) rfl dX5_group_59 ?_
          refine lv_iload_n hx hb dX5_group_62 rfl (lv_at hl 2 rfl) ?_
          refine bm_nald (f := ma.2.2.2.2.2.1) hx hb hK hP 48 1 ww_48 rfl (j := zB) (by omega) (by decide) dX5_group_63 ?_
          refine lv_istore_n (lv' := [(3, .int (nI (ma.2.2.2.2.2.1 zB))), (0, .ref (ad 42)), (1, .int (nI zA)), (2, .int (nI zB))]) hx hb dX5_group_64 rfl hl (by decide) rfl (fun ls hl => ?_)
          refine lv_aload_n hx hb dX5_group_65 rfl (lv_at hl 1 rfl) ?_
          refine va_get (D := D) (ci := 5) (v := .ref (ad 48)) (C := RX5) (T := TX5) (N := 28) hx hb hts (inT inX5) hown hK hP 42 ww_42 rfl 9 (by decide) (hts (.fieldLink RX5 27 "BoardMovesModel" "groups" "[I") (List.mem_cons_of_mem _ flX5_27)) (fun _ h9 => h9) rfl dX5_group_66 ?_
          refine lv_iload_n hx hb dX5_group_69 rfl (lv_at hl 2 rfl) ?_
          refine bm_nald (f := ma.2.2.2.2.2.1) hx hb hK hP 48 1 ww_48 rfl (j := zA) (by omega) (by decide) dX5_group_70 ?_
          refine lv_aload_n hx hb dX5_group_71 rfl (lv_at hl 1 rfl) ?_
          refine va_get (D := D) (ci := 5) (v := .ref (ad 48)) (C := RX5) (T := TX5) (N := 28) hx hb hts (inT inX5) hown hK hP 42 ww_42 rfl 9 (by decide) (hts (.fieldLink RX5 27 "BoardMovesModel" "groups" "[I") (List.mem_cons_of_mem _ flX5_27)) (fun _ h9 => h9) rfl dX5_group_72 ?_
          refine lv_iload_n hx hb dX5_group_75 rfl (lv_at hl 3 rfl) ?_
          refine bm_nald (f := ma.2.2.2.2.2.1) hx hb hK hP 48 1 ww_48 rfl (j := zB) (by omega) (by decide) dX5_group_76 ?_
          refine bm_ni_ge (x := (ma.2.2.2.2.2.1 zA)) (y := (ma.2.2.2.2.2.1 zB)) (tgt := 89) hx hb (bm40 (ok_ma_groups _)) (bm40 (ok_ma_groups _)) dX5_group_77 (by decide) (fun c_5 => ?_) (fun c_5 => ?_)
          · refine lv_aload_n hx hb dX5_group_89 rfl (lv_at hl 1 rfl) ?_
            refine va_get (D := D) (ci := 5) (v := .ref (ad 48)) (C := RX5) (T := TX5) (N := 28) hx hb hts (inT inX5) hown hK hP 42 ww_42 rfl 9 (by decide) (hts (.fieldLink RX5 27 "BoardMovesModel" "groups" "[I") (List.mem_cons_of_mem _ flX5_27)) (fun _ h9 => h9) rfl dX5_group_90 ?_
            refine lv_iload_n hx hb dX5_group_93 rfl (lv_at hl 2 rfl) ?_
            refine bm_nald (f := ma.2.2.2.2.2.1) hx hb hK hP 48 1 ww_48 rfl (j := zA) (by omega) (by decide) dX5_group_94 ?_
            refine lv_istore (lv' := [(4, .int (nI (ma.2.2.2.2.2.1 zA))), (3, .int (nI (ma.2.2.2.2.2.1 zB))), (0, .ref (ad 42)), (1, .int (nI zA)), (2, .int (nI zB))]) hx hb dX5_group_95 hl (by decide) rfl (fun ls hl => ?_)
            refine lv_iconst (v := nI 0) hx hb dX5_group_97 (by decide) ?_
            refine lv_istore (lv' := [(5, .int (nI 0)), (4, .int (nI (ma.2.2.2.2.2.1 zA))), (3, .int (nI (ma.2.2.2.2.2.1 zB))), (0, .ref (ad 42)), (1, .int (nI zA)), (2, .int (nI zB))]) hx hb dX5_group_98 hl (by decide) rfl (fun ls hl => ?_)
            obtain ⟨em, eM⟩ := bx_mge c_4
            refine lv_iconst (v := nI 0) hx hb dX5_group_100 (by decide) ?_
            refine lv_istore (lv' := [(6, .int (nI 0)), (5, .int (nI 0)), (4, .int (nI (ma.2.2.2.2.2.1 zA))), (3, .int (nI (ma.2.2.2.2.2.1 zB))), (0, .ref (ad 42)), (1, .int (nI zA)), (2, .int (nI zB))]) hx hb dX5_group_101 hl (by decide) rfl (fun ls hl => ?_)
            have lp_6 : ∀ (k_8 i_7 : Nat), i_7 ≤ ms.2.2.1 → ms.2.2.1 < i_7 + k_8 → ∀ (H : Heap) (locs : List Loc), va_P D vwCl (WW ad cJ cI cZ bm pa p0 p1 p2 li wi (0) ms (ma.1, ma.2.1, ma.2.2.1, ma.2.2.2.1, ma.2.2.2.2.1, (gG ma.2.2.2.2.2.1 (ma.2.2.2.2.2.1 zB) (ma.2.2.2.2.2.1 zA) i_7).1, ma.2.2.2.2.2.2) mp mk mn ou) H → va_D A (WW ad cJ cI cZ bm pa p0 p1 p2 li wi (0) ms (ma.1, ma.2.1, ma.2.2.1, ma.2.2.2.1, ma.2.2.2.2.1, (gG ma.2.2.2.2.2.1 (ma.2.2.2.2.2.1 zB) (ma.2.2.2.2.2.1 zA) i_7).1, ma.2.2.2.2.2.2) mp mk mn ou) → va_S A s.heap H locs → ∀ (ls : Array Slot), lv_has ls 7 [(6, .int (nI i_7)), (5, .int (nI ((gG ma.2.2.2.2.2.1 (ma.2.2.2.2.2.1 zB) (ma.2.2.2.2.2.1 zA) i_7).2))), (4, .int (nI (ma.2.2.2.2.2.1 zA))), (3, .int (nI (ma.2.2.2.2.2.1 zB))), (0, .ref (ad 42)), (1, .int (nI zA)), (2, .int (nI zB))] → W p l e (headSpec wsX5_group ({ frames := 1, cells := 0, slots := 0, locals := 21 })).room s m args below meth c H locs 0 0 (MQ below (bm_Wxq D vwCl [(cJ, .long), (cI, .int), (cZ, .boolean)] (fun ws9 r9 => ∃ (mt9 : Nat) (ms9 : gMS) (ma9 : gMA) (mp9 : gMP) (mk9 : gMK) (mn9 : gMN), okM ms9 ma9 mp9 mk9 mn9 ∧ (ms9.2.2.1, ma9.2.2.2.2.2.1) = (ms.2.2.1, (gG ma.2.2.2.2.2.1 (Nat.min (ma.2.2.2.2.2.1 zA) (ma.2.2.2.2.2.1 zB)) (Nat.max (ma.2.2.2.2.2.1 zA) (ma.2.2.2.2.2.1 zB)) ms.2.2.1).1) ∧ mt9 = 0 ∧ ws9 = WW ad cJ cI cZ bm pa p0 p1 p2 li wi mt9 ms9 ma9 mp9 mk9 mn9 ou ∧ r9 = some (.int (nI (gG ma.2.2.2.2.2.1 (Nat.min (ma.2.2.2.2.2.1 zA) (ma.2.2.2.2.2.1 zB)) (Nat.max (ma.2.2.2.2.2.1 zA) (ma.2.2.2.2.2.1 zB)) ms.2.2.1).2))) A) args s 0 0 A) (F0 m 103 ls []) := by
              intro k_8
              induction k_8 with
              | zero => intro i_7 hi_10 hk_11; exfalso; omega
              | succ k_8 ih_9 =>
                intro i_7 hi_10 hk_11 H locs hP hD hS ls hl
                refine lv_iload hx hb dX5_group_103 (lv_at hl 0 rfl) ?_
                refine lv_aload_n hx hb dX5_group_105 rfl (lv_at hl 4 rfl) ?_
                refine va_get (D := D) (ci := 5) (v := .int (nI ms.2.2.1)) (C := RX5) (T := TX5) (N := 28) hx hb hts (inT inX5) hown hK hP 42 ww_42 rfl 3 (by decide) (hts (.fieldLink RX5 85 "BoardMovesModel" "parts" "I") (List.mem_cons_of_mem _ flX5_85)) (fun _ h9 => h9) rfl dX5_group_106 ?_
                refine bm_ni_ge (x := i_7) (y := ms.2.2.1) (tgt := 159) hx hb (by omega) (by omega) dX5_group_109 (by decide) (fun c_12 => ?_) (fun c_12 => ?_)
                · have ei : i_7 = ms.2.2.1 := by omega
                  refine lv_iload hx hb dX5_group_159 (lv_at hl 1 rfl) ?_
                  exact bm_iretX (v := (nI ((gG ma.2.2.2.2.2.1 (ma.2.2.2.2.2.1 zB) (ma.2.2.2.2.2.1 zA) i_7).2))) hx hb hr hP hD hK hS ⟨(0), ms, (ma.1, ma.2.1, ma.2.2.1, ma.2.2.2.1, ma.2.2.2.2.1, (gG ma.2.2.2.2.2.1 (ma.2.2.2.2.2.1 zB) (ma.2.2.2.2.2.1 zA) i_7).1, ma.2.2.2.2.2.2), mp, mk, mn, ⟨ok_ms_parts, ok_ms_outs, ok_ms_nears, ok_ms_nets, ok_ms_pins, ok_ma_sides, (gG_lt ok_ma_groups (ok_ma_groups _) i_7), ok_mp_turns, ok_mk_nearOne, ok_mk_nearTwo, ok_mn_pinNet, ok_mn_pinPart, hw, hh⟩, (by rw [ei, em, eM]), rfl, rfl, (by rw [ei, em, eM])⟩ dX5_group_161 hlocks
                · refine lv_aload_n hx hb dX5_group_112 rfl (lv_at hl 4 rfl) ?_
                  refine va_get (D := D) (ci := 5) (v := .ref (ad 48)) (C := RX5) (T := TX5) (N := 28) hx hb hts (inT inX5) hown hK hP 42 ww_42 rfl 9 (by decide) (hts (.fieldLink RX5 27 "BoardMovesModel" "groups" "[I") (List.mem_cons_of_mem _ flX5_27)) (fun _ h9 => h9) rfl dX5_group_113 ?_
                  refine lv_iload hx hb dX5_group_116 (lv_at hl 0 rfl) ?_
                  refine bm_nald (f := ((gG ma.2.2.2.2.2.1 (ma.2.2.2.2.2.1 zB) (ma.2.2.2.2.2.1 zA) i_7).1)) hx hb hK hP 48 1 ww_48 rfl (j := i_7) (by omega) (by decide) dX5_group_118 ?_
                  refine lv_iload hx hb dX5_group_119 (lv_at hl 2 rfl) ?_
                  refine bm_ni_ne (x := (((gG ma.2.2.2.2.2.1 (ma.2.2.2.2.2.1 zB) (ma.2.2.2.2.2.1 zA) i_7).1) i_7)) (y := (ma.2.2.2.2.2.1 zA)) (tgt := 132) hx hb (bm40 ((gG_lt ok_ma_groups (ok_ma_groups _) i_7) _)) (bm40 (ok_ma_groups _)) dX5_group_121 (by decide) (fun c_13 => ?_) (fun c_13 => ?_)
                  · refine lv_iload hx hb dX5_group_132 (lv_at hl 1 rfl) ?_
                    refine lv_aload_n hx hb dX5_group_134 rfl (lv_at hl 4 rfl) ?_
                    refine va_get (D := D) (ci := 5) (v := .ref (ad 48)) (C := RX5) (T := TX5) (N := 28) hx hb hts (inT inX5) hown hK hP 42 ww_42 rfl 9 (by decide) (hts (.fieldLink RX5 27 "BoardMovesModel" "groups" "[I") (List.mem_cons_of_mem _ flX5_27)) (fun _ h9 => h9) rfl dX5_group_135 ?_
                    refine lv_iload hx hb dX5_group_138 (lv_at hl 0 rfl) ?_
                    refine bm_nald (f := ((gG ma.2.2.2.2.2.1 (ma.2.2.2.2.2.1 zB) (ma.2.2.2.2.2.1 zA) i_7).1)) hx hb hK hP 48 1 ww_48 rfl (j := i_7) (by omega) (by decide) dX5_group_140 ?_
                    refine lv_iload_n hx hb dX5_group_141 rfl (lv_at hl 3 rfl) ?_
                    refine bm_ni_ne (x := (((gG ma.2.2.2.2.2.1 (ma.2.2.2.2.2.1 zB) (ma.2.2.2.2.2.1 zA) i_7).1) i_7)) (y := (ma.2.2.2.2.2.1 zB)) (tgt := 149) hx hb (bm40 ((gG_lt ok_ma_groups (ok_ma_groups _) i_7) _)) (bm40 (ok_ma_groups _)) dX5_group_142 (by decide) (fun c_14 => ?_) (fun c_14 => ?_)
                    · refine lv_iconst (v := nI 0) hx hb dX5_group_149 (by decide) ?_
                      refine bm_nadd hx hb dX5_group_150 ?_
                      refine lv_istore (lv' := [(5, .int (nI (((gG ma.2.2.2.2.2.1 (ma.2.2.2.2.2.1 zB) (ma.2.2.2.2.2.1 zA) i_7).2) + 0))), (6, .int (nI i_7)), (4, .int (nI (ma.2.2.2.2.2.1 zA))), (3, .int (nI (ma.2.2.2.2.2.1 zB))), (0, .ref (ad 42)), (1, .int (nI zA)), (2, .int (nI zB))]) hx hb dX5_group_151 hl (by decide) rfl (fun ls hl => ?_)
                      refine lv_iinc (v := (nI (i_7 + 1))) (lv' := [(6, .int (nI (i_7 + 1))), (5, .int (nI (((gG ma.2.2.2.2.2.1 (ma.2.2.2.2.2.1 zB) (ma.2.2.2.2.2.1 zA) i_7).2) + 0))), (4, .int (nI (ma.2.2.2.2.2.1 zA))), (3, .int (nI (ma.2.2.2.2.2.1 zB))), (0, .ref (ad 42)), (1, .int (nI zA)), (2, .int (nI zB))]) hx hb dX5_group_153 hl (k := 1) rfl (nI_1 i_7) (by decide) rfl (fun ls hl => ?_)
                      refine lv_goto (tgt := 103) hx hb dX5_group_156 (by decide) ?_
                      obtain ⟨e_15, e_16⟩ := gG_n (f := ma.2.2.2.2.2.1) (m := ma.2.2.2.2.2.1 zB) (M := ma.2.2.2.2.2.1 zA) (k := i_7) (by omega) (by omega)
                      rw [e_15] at hP hD
                      rw [e_16] at hl
                      exact ih_9 (i_7 + 1) (by omega) (by omega) _ _ hP hD hS _ (lv_sub hl [0, 1, 2, 3, 4, 5, 6] rfl)
                    · refine lv_iconst (v := nI 1) hx hb dX5_group_145 (by decide) ?_
                      refine lv_goto (tgt := 150) hx hb dX5_group_146 (by decide) ?_
                      refine bm_nadd hx hb dX5_group_150 ?_
                      refine lv_istore (lv' := [(5, .int (nI (((gG ma.2.2.2.2.2.1 (ma.2.2.2.2.2.1 zB) (ma.2.2.2.2.2.1 zA) i_7).2) + 1))), (6, .int (nI i_7)), (4, .int (nI (ma.2.2.2.2.2.1 zA))), (3, .int (nI (ma.2.2.2.2.2.1 zB))), (0, .ref (ad 42)), (1, .int (nI zA)), (2, .int (nI zB))]) hx hb dX5_group_151 hl (by decide) rfl (fun ls hl => ?_)
                      refine lv_iinc (v := (nI (i_7 + 1))) (lv' := [(6, .int (nI (i_7 + 1))), (5, .int (nI (((gG ma.2.2.2.2.2.1 (ma.2.2.2.2.2.1 zB) (ma.2.2.2.2.2.1 zA) i_7).2) + 1))), (4, .int (nI (ma.2.2.2.2.2.1 zA))), (3, .int (nI (ma.2.2.2.2.2.1 zB))), (0, .ref (ad 42)), (1, .int (nI zA)), (2, .int (nI zB))]) hx hb dX5_group_153 hl (k := 1) rfl (nI_1 i_7) (by decide) rfl (fun ls hl => ?_)
                      refine lv_goto (tgt := 103) hx hb dX5_group_156 (by decide) ?_
                      obtain ⟨e_17, e_18⟩ := gG_m (f := ma.2.2.2.2.2.1) (m := ma.2.2.2.2.2.1 zB) (M := ma.2.2.2.2.2.1 zA) (k := i_7) (by omega) (by omega)
                      rw [e_17] at hP hD
                      rw [e_18] at hl
                      exact ih_9 (i_7 + 1) (by omega) (by omega) _ _ hP hD hS _ (lv_sub hl [0, 1, 2, 3, 4, 5, 6] rfl)
                  · refine lv_aload_n hx hb dX5_group_124 rfl (lv_at hl 4 rfl) ?_
                    refine va_get (D := D) (ci := 5) (v := .ref (ad 48)) (C := RX5) (T := TX5) (N := 28) hx hb hts (inT inX5) hown hK hP 42 ww_42 rfl 9 (by decide) (hts (.fieldLink RX5 27 "BoardMovesModel" "groups" "[I") (List.mem_cons_of_mem _ flX5_27)) (fun _ h9 => h9) rfl dX5_group_125 ?_
                    refine lv_iload hx hb dX5_group_128 (lv_at hl 0 rfl) ?_
                    refine lv_iload_n hx hb dX5_group_130 rfl (lv_at hl 3 rfl) ?_
                    refine bm_nast (f := ((gG ma.2.2.2.2.2.1 (ma.2.2.2.2.2.1 zB) (ma.2.2.2.2.2.1 zA) i_7).1)) hx hb hK hP hD hS 48 1 ww_48 rfl (j := i_7) (x := (ma.2.2.2.2.2.1 zB)) (by omega) (by decide) dX5_group_131 (fun H locs hP hD hS => ?_)
                    have hP : va_P D vwCl (WW ad cJ cI cZ bm pa p0 p1 p2 li wi (0) ms (ma.1, ma.2.1, ma.2.2.1, ma.2.2.2.1, ma.2.2.2.2.1, va_up ((gG ma.2.2.2.2.2.1 (ma.2.2.2.2.2.1 zB) (ma.2.2.2.2.2.1 zA) i_7).1) i_7 (ma.2.2.2.2.2.1 zB), ma.2.2.2.2.2.2) mp mk mn ou) H := hP
                    have hD : va_D A (WW ad cJ cI cZ bm pa p0 p1 p2 li wi (0) ms (ma.1, ma.2.1, ma.2.2.1, ma.2.2.2.1, ma.2.2.2.2.1, va_up ((gG ma.2.2.2.2.2.1 (ma.2.2.2.2.2.1 zB) (ma.2.2.2.2.2.1 zA) i_7).1) i_7 (ma.2.2.2.2.2.1 zB), ma.2.2.2.2.2.2) mp mk mn ou) := hD
                    refine lv_iload hx hb dX5_group_132 (lv_at hl 1 rfl) ?_
                    refine lv_aload_n hx hb dX5_group_134 rfl (lv_at hl 4 rfl) ?_
                    refine va_get (D := D) (ci := 5) (v := .ref (ad 48)) (C := RX5) (T := TX5) (N := 28) hx hb hts (inT inX5) hown hK hP 42 ww_42 rfl 9 (by decide) (hts (.fieldLink RX5 27 "BoardMovesModel" "groups" "[I") (List.mem_cons_of_mem _ flX5_27)) (fun _ h9 => h9) rfl dX5_group_135 ?_
                    refine lv_iload hx hb dX5_group_138 (lv_at hl 0 rfl) ?_
                    refine bm_nald (f := (va_up ((gG ma.2.2.2.2.2.1 (ma.2.2.2.2.2.1 zB) (ma.2.2.2.2.2.1 zA) i_7).1) i_7 (ma.2.2.2.2.2.1 zB))) hx hb hK hP 48 1 ww_48 rfl (j := i_7) (by omega) (by decide) dX5_group_140 ?_
                    refine lv_iload_n hx hb dX5_group_141 rfl (lv_at hl 3 rfl) ?_
                    refine bm_ni_ne (x := ((va_up ((gG ma.2.2.2.2.2.1 (ma.2.2.2.2.2.1 zB) (ma.2.2.2.2.2.1 zA) i_7).1) i_7 (ma.2.2.2.2.2.1 zB)) i_7)) (y := (ma.2.2.2.2.2.1 zB)) (tgt := 149) hx hb (bm40 ((bx_uplt (gG_lt ok_ma_groups (ok_ma_groups _) i_7) (ok_ma_groups _)) _)) (bm40 (ok_ma_groups _)) dX5_group_142 (by decide) (fun c_19 => ?_) (fun c_19 => ?_)
                    · exact absurd (by simp [va_up]) c_19
                    · refine lv_iconst (v := nI 1) hx hb dX5_group_145 (by decide) ?_
                      refine lv_goto (tgt := 150) hx hb dX5_group_146 (by decide) ?_
                      refine bm_nadd hx hb dX5_group_150 ?_
                      refine lv_istore (lv' := [(5, .int (nI (((gG ma.2.2.2.2.2.1 (ma.2.2.2.2.2.1 zB) (ma.2.2.2.2.2.1 zA) i_7).2) + 1))), (6, .int (nI i_7)), (4, .int (nI (ma.2.2.2.2.2.1 zA))), (3, .int (nI (ma.2.2.2.2.2.1 zB))), (0, .ref (ad 42)), (1, .int (nI zA)), (2, .int (nI zB))]) hx hb dX5_group_151 hl (by decide) rfl (fun ls hl => ?_)
                      refine lv_iinc (v := (nI (i_7 + 1))) (lv' := [(6, .int (nI (i_7 + 1))), (5, .int (nI (((gG ma.2.2.2.2.2.1 (ma.2.2.2.2.2.1 zB) (ma.2.2.2.2.2.1 zA) i_7).2) + 1))), (4, .int (nI (ma.2.2.2.2.2.1 zA))), (3, .int (nI (ma.2.2.2.2.2.1 zB))), (0, .ref (ad 42)), (1, .int (nI zA)), (2, .int (nI zB))]) hx hb dX5_group_153 hl (k := 1) rfl (nI_1 i_7) (by decide) rfl (fun ls hl => ?_)
                      refine lv_goto (tgt := 103) hx hb dX5_group_156 (by decide) ?_
                      obtain ⟨e_20, e_21⟩ := gG_y (f := ma.2.2.2.2.2.1) (m := ma.2.2.2.2.2.1 zB) (M := ma.2.2.2.2.2.1 zA) (k := i_7) (by omega)
                      rw [e_20] at hP hD
                      rw [e_21] at hl
                      exact ih_9 (i_7 + 1) (by omega) (by omega) _ _ hP hD hS _ (lv_sub hl [0, 1, 2, 3, 4, 5, 6] rfl)
            exact lp_6 (ms.2.2.1 + 1) 0 (by omega) (by omega) _ _ hP hD hS _ (lv_sub hl [0, 1, 2, 3, 4, 5, 6] rfl)
          · exact absurd c_5 c_4
        · refine lv_aload_n hx hb dX5_group_49 rfl (lv_at hl 0 rfl) ?_
          refine va_get (D := D) (ci := 5) (v := .ref (ad 48)) (C := RX5) (T := TX5) (N := 28) hx hb hts (inT inX5) hown hK hP 42 ww_42 rfl 9 (by decide) (hts (.fieldLink RX5 27 "BoardMovesModel" "groups" "[I") (List.mem_cons_of_mem _ flX5_27)) (fun _ h9 => h9) rfl dX5_group_50 ?_
          refine lv_iload_n hx hb dX5_group_53 rfl (lv_at hl 1 rfl) ?_
          refine bm_nald (f := ma.2.2.2.2.2.1) hx hb hK hP 48 1 ww_48 rfl (j := zA) (by omega) (by decide) dX5_group_54 ?_
          refine lv_goto (tgt := 64) hx hb dX5_group_55 (by decide) ?_
          refine lv_istore_n (lv' := [(3, .int (nI (ma.2.2.2.2.2.1 zA))), (0, .ref (ad 42)), (1, .int (nI zA)), (2, .int (nI zB))]) hx hb dX5_group_64 rfl hl (by decide) rfl (fun ls hl => ?_)
          refine lv_aload_n hx hb dX5_group_65 rfl (lv_at hl 1 rfl) ?_
          refine va_get (D := D) (ci := 5) (v := .ref (ad 48)) (C := RX5) (T := TX5) (N := 28) hx hb hts (inT inX5) hown hK hP 42 ww_42 rfl 9 (by decide) (hts (.fieldLink RX5 27 "BoardMovesModel" "groups" "[I") (List.mem_cons_of_mem _ flX5_27)) (fun _ h9 => h9) rfl dX5_group_66 ?_
          refine lv_iload_n hx hb dX5_group_69 rfl (lv_at hl 2 rfl) ?_
          refine bm_nald (f := ma.2.2.2.2.2.1) hx hb hK hP 48 1 ww_48 rfl (j := zA) (by omega) (by decide) dX5_group_70 ?_
          refine lv_aload_n hx hb dX5_group_71 rfl (lv_at hl 1 rfl) ?_
          refine va_get (D := D) (ci := 5) (v := .ref (ad 48)) (C := RX5) (T := TX5) (N := 28) hx hb hts (inT inX5) hown hK hP 42 ww_42 rfl 9 (by decide) (hts (.fieldLink RX5 27 "BoardMovesModel" "groups" "[I") (List.mem_cons_of_mem _ flX5_27)) (fun _ h9 => h9) rfl dX5_group_72 ?_
          refine lv_iload_n hx hb dX5_group_75 rfl (lv_at hl 3 rfl) ?_
          refine bm_nald (f := ma.2.2.2.2.2.1) hx hb hK hP 48 1 ww_48 rfl (j := zB) (by omega) (by decide) dX5_group_76 ?_
          refine bm_ni_ge (x := (ma.2.2.2.2.2.1 zA)) (y := (ma.2.2.2.2.2.1 zB)) (tgt := 89) hx hb (bm40 (ok_ma_groups _)) (bm40 (ok_ma_groups _)) dX5_group_77 (by decide) (fun c_22 => ?_) (fun c_22 => ?_)
          · exact absurd c_4 c_22
          · refine lv_aload_n hx hb dX5_group_80 rfl (lv_at hl 1 rfl) ?_
            refine va_get (D := D) (ci := 5) (v := .ref (ad 48)) (C := RX5) (T := TX5) (N := 28) hx hb hts (inT inX5) hown hK hP 42 ww_42 rfl 9 (by decide) (hts (.fieldLink RX5 27 "BoardMovesModel" "groups" "[I") (List.mem_cons_of_mem _ flX5_27)) (fun _ h9 => h9) rfl dX5_group_81 ?_
            refine lv_iload_n hx hb dX5_group_84 rfl (lv_at hl 3 rfl) ?_
            refine bm_nald (f := ma.2.2.2.2.2.1) hx hb hK hP 48 1 ww_48 rfl (j := zB) (by omega) (by decide) dX5_group_85 ?_
            refine lv_goto (tgt := 95) hx hb dX5_group_86 (by decide) ?_
            refine lv_istore (lv' := [(4, .int (nI (ma.2.2.2.2.2.1 zB))), (3, .int (nI (ma.2.2.2.2.2.1 zA))), (0, .ref (ad 42)), (1, .int (nI zA)), (2, .int (nI zB))]) hx hb dX5_group_95 hl (by decide) rfl (fun ls hl => ?_)
            refine lv_iconst (v := nI 0) hx hb dX5_group_97 (by decide) ?_
            refine lv_istore (lv' := [(5, .int (nI 0)), (4, .int (nI (ma.2.2.2.2.2.1 zB))), (3, .int (nI (ma.2.2.2.2.2.1 zA))), (0, .ref (ad 42)), (1, .int (nI zA)), (2, .int (nI zB))]) hx hb dX5_group_98 hl (by decide) rfl (fun ls hl => ?_)
            obtain ⟨em, eM⟩ := bx_mlt c_4
            refine lv_iconst (v := nI 0) hx hb dX5_group_100 (by decide) ?_
            refine lv_istore (lv' := [(6, .int (nI 0)), (5, .int (nI 0)), (4, .int (nI (ma.2.2.2.2.2.1 zB))), (3, .int (nI (ma.2.2.2.2.2.1 zA))), (0, .ref (ad 42)), (1, .int (nI zA)), (2, .int (nI zB))]) hx hb dX5_group_101 hl (by decide) rfl (fun ls hl => ?_)
            have lp_23 : ∀ (k_25 i_24 : Nat), i_24 ≤ ms.2.2.1 → ms.2.2.1 < i_24 + k_25 → ∀ (H : Heap) (locs : List Loc), va_P D vwCl (WW ad cJ cI cZ bm pa p0 p1 p2 li wi (0) ms (ma.1, ma.2.1, ma.2.2.1, ma.2.2.2.1, ma.2.2.2.2.1, (gG ma.2.2.2.2.2.1 (ma.2.2.2.2.2.1 zA) (ma.2.2.2.2.2.1 zB) i_24).1, ma.2.2.2.2.2.2) mp mk mn ou) H → va_D A (WW ad cJ cI cZ bm pa p0 p1 p2 li wi (0) ms (ma.1, ma.2.1, ma.2.2.1, ma.2.2.2.1, ma.2.2.2.2.1, (gG ma.2.2.2.2.2.1 (ma.2.2.2.2.2.1 zA) (ma.2.2.2.2.2.1 zB) i_24).1, ma.2.2.2.2.2.2) mp mk mn ou) → va_S A s.heap H locs → ∀ (ls : Array Slot), lv_has ls 7 [(6, .int (nI i_24)), (5, .int (nI ((gG ma.2.2.2.2.2.1 (ma.2.2.2.2.2.1 zA) (ma.2.2.2.2.2.1 zB) i_24).2))), (4, .int (nI (ma.2.2.2.2.2.1 zB))), (3, .int (nI (ma.2.2.2.2.2.1 zA))), (0, .ref (ad 42)), (1, .int (nI zA)), (2, .int (nI zB))] → W p l e (headSpec wsX5_group ({ frames := 1, cells := 0, slots := 0, locals := 21 })).room s m args below meth c H locs 0 0 (MQ below (bm_Wxq D vwCl [(cJ, .long), (cI, .int), (cZ, .boolean)] (fun ws9 r9 => ∃ (mt9 : Nat) (ms9 : gMS) (ma9 : gMA) (mp9 : gMP) (mk9 : gMK) (mn9 : gMN), okM ms9 ma9 mp9 mk9 mn9 ∧ (ms9.2.2.1, ma9.2.2.2.2.2.1) = (ms.2.2.1, (gG ma.2.2.2.2.2.1 (Nat.min (ma.2.2.2.2.2.1 zA) (ma.2.2.2.2.2.1 zB)) (Nat.max (ma.2.2.2.2.2.1 zA) (ma.2.2.2.2.2.1 zB)) ms.2.2.1).1) ∧ mt9 = 0 ∧ ws9 = WW ad cJ cI cZ bm pa p0 p1 p2 li wi mt9 ms9 ma9 mp9 mk9 mn9 ou ∧ r9 = some (.int (nI (gG ma.2.2.2.2.2.1 (Nat.min (ma.2.2.2.2.2.1 zA) (ma.2.2.2.2.2.1 zB)) (Nat.max (ma.2.2.2.2.2.1 zA) (ma.2.2.2.2.2.1 zB)) ms.2.2.1).2))) A) args s 0 0 A) (F0 m 103 ls []) := by
              intro k_25
              induction k_25 with
              | zero => intro i_24 hi_27 hk_28; exfalso; omega
              | succ k_25 ih_26 =>
                intro i_24 hi_27 hk_28 H locs hP hD hS ls hl
                refine lv_iload hx hb dX5_group_103 (lv_at hl 0 rfl) ?_
                refine lv_aload_n hx hb dX5_group_105 rfl (lv_at hl 4 rfl) ?_
                refine va_get (D := D) (ci := 5) (v := .int (nI ms.2.2.1)) (C := RX5) (T := TX5) (N := 28) hx hb hts (inT inX5) hown hK hP 42 ww_42 rfl 3 (by decide) (hts (.fieldLink RX5 85 "BoardMovesModel" "parts" "I") (List.mem_cons_of_mem _ flX5_85)) (fun _ h9 => h9) rfl dX5_group_106 ?_
                refine bm_ni_ge (x := i_24) (y := ms.2.2.1) (tgt := 159) hx hb (by omega) (by omega) dX5_group_109 (by decide) (fun c_29 => ?_) (fun c_29 => ?_)
                · have ei : i_24 = ms.2.2.1 := by omega
                  refine lv_iload hx hb dX5_group_159 (lv_at hl 1 rfl) ?_
                  exact bm_iretX (v := (nI ((gG ma.2.2.2.2.2.1 (ma.2.2.2.2.2.1 zA) (ma.2.2.2.2.2.1 zB) i_24).2))) hx hb hr hP hD hK hS ⟨(0), ms, (ma.1, ma.2.1, ma.2.2.1, ma.2.2.2.1, ma.2.2.2.2.1, (gG ma.2.2.2.2.2.1 (ma.2.2.2.2.2.1 zA) (ma.2.2.2.2.2.1 zB) i_24).1, ma.2.2.2.2.2.2), mp, mk, mn, ⟨ok_ms_parts, ok_ms_outs, ok_ms_nears, ok_ms_nets, ok_ms_pins, ok_ma_sides, (gG_lt ok_ma_groups (ok_ma_groups _) i_24), ok_mp_turns, ok_mk_nearOne, ok_mk_nearTwo, ok_mn_pinNet, ok_mn_pinPart, hw, hh⟩, (by rw [ei, em, eM]), rfl, rfl, (by rw [ei, em, eM])⟩ dX5_group_161 hlocks
                · refine lv_aload_n hx hb dX5_group_112 rfl (lv_at hl 4 rfl) ?_
                  refine va_get (D := D) (ci := 5) (v := .ref (ad 48)) (C := RX5) (T := TX5) (N := 28) hx hb hts (inT inX5) hown hK hP 42 ww_42 rfl 9 (by decide) (hts (.fieldLink RX5 27 "BoardMovesModel" "groups" "[I") (List.mem_cons_of_mem _ flX5_27)) (fun _ h9 => h9) rfl dX5_group_113 ?_
                  refine lv_iload hx hb dX5_group_116 (lv_at hl 0 rfl) ?_
                  refine bm_nald (f := ((gG ma.2.2.2.2.2.1 (ma.2.2.2.2.2.1 zA) (ma.2.2.2.2.2.1 zB) i_24).1)) hx hb hK hP 48 1 ww_48 rfl (j := i_24) (by omega) (by decide) dX5_group_118 ?_
                  refine lv_iload hx hb dX5_group_119 (lv_at hl 2 rfl) ?_
                  refine bm_ni_ne (x := (((gG ma.2.2.2.2.2.1 (ma.2.2.2.2.2.1 zA) (ma.2.2.2.2.2.1 zB) i_24).1) i_24)) (y := (ma.2.2.2.2.2.1 zB)) (tgt := 132) hx hb (bm40 ((gG_lt ok_ma_groups (ok_ma_groups _) i_24) _)) (bm40 (ok_ma_groups _)) dX5_group_121 (by decide) (fun c_30 => ?_) (fun c_30 => ?_)
                  · refine lv_iload hx hb dX5_group_132 (lv_at hl 1 rfl) ?_
                    refine lv_aload_n hx hb dX5_group_134 rfl (lv_at hl 4 rfl) ?_
                    refine va_get (D := D) (ci := 5) (v := .ref (ad 48)) (C := RX5) (T := TX5) (N := 28) hx hb hts (inT inX5) hown hK hP 42 ww_42 rfl 9 (by decide) (hts (.fieldLink RX5 27 "BoardMovesModel" "groups" "[I") (List.mem_cons_of_mem _ flX5_27)) (fun _ h9 => h9) rfl dX5_group_135 ?_
                    refine lv_iload hx hb dX5_group_138 (lv_at hl 0 rfl) ?_
                    refine bm_nald (f := ((gG ma.2.2.2.2.2.1 (ma.2.2.2.2.2.1 zA) (ma.2.2.2.2.2.1 zB) i_24).1)) hx hb hK hP 48 1 ww_48 rfl (j := i_24) (by omega) (by decide) dX5_group_140 ?_
                    refine lv_iload_n hx hb dX5_group_141 rfl (lv_at hl 3 rfl) ?_
                    refine bm_ni_ne (x := (((gG ma.2.2.2.2.2.1 (ma.2.2.2.2.2.1 zA) (ma.2.2.2.2.2.1 zB) i_24).1) i_24)) (y := (ma.2.2.2.2.2.1 zA)) (tgt := 149) hx hb (bm40 ((gG_lt ok_ma_groups (ok_ma_groups _) i_24) _)) (bm40 (ok_ma_groups _)) dX5_group_142 (by decide) (fun c_31 => ?_) (fun c_31 => ?_)
                    · refine lv_iconst (v := nI 0) hx hb dX5_group_149 (by decide) ?_
                      refine bm_nadd hx hb dX5_group_150 ?_
                      refine lv_istore (lv' := [(5, .int (nI (((gG ma.2.2.2.2.2.1 (ma.2.2.2.2.2.1 zA) (ma.2.2.2.2.2.1 zB) i_24).2) + 0))), (6, .int (nI i_24)), (4, .int (nI (ma.2.2.2.2.2.1 zB))), (3, .int (nI (ma.2.2.2.2.2.1 zA))), (0, .ref (ad 42)), (1, .int (nI zA)), (2, .int (nI zB))]) hx hb dX5_group_151 hl (by decide) rfl (fun ls hl => ?_)
                      refine lv_iinc (v := (nI (i_24 + 1))) (lv' := [(6, .int (nI (i_24 + 1))), (5, .int (nI (((gG ma.2.2.2.2.2.1 (ma.2.2.2.2.2.1 zA) (ma.2.2.2.2.2.1 zB) i_24).2) + 0))), (4, .int (nI (ma.2.2.2.2.2.1 zB))), (3, .int (nI (ma.2.2.2.2.2.1 zA))), (0, .ref (ad 42)), (1, .int (nI zA)), (2, .int (nI zB))]) hx hb dX5_group_153 hl (k := 1) rfl (nI_1 i_24) (by decide) rfl (fun ls hl => ?_)
                      refine lv_goto (tgt := 103) hx hb dX5_group_156 (by decide) ?_
                      obtain ⟨e_32, e_33⟩ := gG_n (f := ma.2.2.2.2.2.1) (m := ma.2.2.2.2.2.1 zA) (M := ma.2.2.2.2.2.1 zB) (k := i_24) (by omega) (by omega)
                      rw [e_32] at hP hD
                      rw [e_33] at hl
                      exact ih_26 (i_24 + 1) (by omega) (by omega) _ _ hP hD hS _ (lv_sub hl [0, 1, 2, 3, 4, 5, 6] rfl)
                    · refine lv_iconst (v := nI 1) hx hb dX5_group_145 (by decide) ?_
                      refine lv_goto (tgt := 150) hx hb dX5_group_146 (by decide) ?_
                      refine bm_nadd hx hb dX5_group_150 ?_
                      refine lv_istore (lv' := [(5, .int (nI (((gG ma.2.2.2.2.2.1 (ma.2.2.2.2.2.1 zA) (ma.2.2.2.2.2.1 zB) i_24).2) + 1))), (6, .int (nI i_24)), (4, .int (nI (ma.2.2.2.2.2.1 zB))), (3, .int (nI (ma.2.2.2.2.2.1 zA))), (0, .ref (ad 42)), (1, .int (nI zA)), (2, .int (nI zB))]) hx hb dX5_group_151 hl (by decide) rfl (fun ls hl => ?_)
                      refine lv_iinc (v := (nI (i_24 + 1))) (lv' := [(6, .int (nI (i_24 + 1))), (5, .int (nI (((gG ma.2.2.2.2.2.1 (ma.2.2.2.2.2.1 zA) (ma.2.2.2.2.2.1 zB) i_24).2) + 1))), (4, .int (nI (ma.2.2.2.2.2.1 zB))), (3, .int (nI (ma.2.2.2.2.2.1 zA))), (0, .ref (ad 42)), (1, .int (nI zA)), (2, .int (nI zB))]) hx hb dX5_group_153 hl (k := 1) rfl (nI_1 i_24) (by decide) rfl (fun ls hl => ?_)
                      refine lv_goto (tgt := 103) hx hb dX5_group_156 (by decide) ?_
                      obtain ⟨e_34, e_35⟩ := gG_m (f := ma.2.2.2.2.2.1) (m := ma.2.2.2.2.2.1 zA) (M := ma.2.2.2.2.2.1 zB) (k := i_24) (by omega) (by omega)
                      rw [e_34] at hP hD
                      rw [e_35] at hl
                      exact ih_26 (i_24 + 1) (by omega) (by omega) _ _ hP hD hS _ (lv_sub hl [0, 1, 2, 3, 4, 5, 6] rfl)
                  · refine lv_aload_n hx hb dX5_group_124 rfl (lv_at hl 4 rfl) ?_
                    refine va_get (D := D) (ci := 5) (v := .ref (ad 48)) (C := RX5) (T := TX5) (N := 28) hx hb hts (inT inX5) hown hK hP 42 ww_42 rfl 9 (by decide) (hts (.fieldLink RX5 27 "BoardMovesModel" "groups" "[I") (List.mem_cons_of_mem _ flX5_27)) (fun _ h9 => h9) rfl dX5_group_125 ?_
                    refine lv_iload hx hb dX5_group_128 (lv_at hl 0 rfl) ?_
                    refine lv_iload_n hx hb dX5_group_130 rfl (lv_at hl 3 rfl) ?_
                    refine bm_nast (f := ((gG ma.2.2.2.2.2.1 (ma.2.2.2.2.2.1 zA) (ma.2.2.2.2.2.1 zB) i_24).1)) hx hb hK hP hD hS 48 1 ww_48 rfl (j := i_24) (x := (ma.2.2.2.2.2.1 zA)) (by omega) (by decide) dX5_group_131 (fun H locs hP hD hS => ?_)
                    have hP : va_P D vwCl (WW ad cJ cI cZ bm pa p0 p1 p2 li wi (0) ms (ma.1, ma.2.1, ma.2.2.1, ma.2.2.2.1, ma.2.2.2.2.1, va_up ((gG ma.2.2.2.2.2.1 (ma.2.2.2.2.2.1 zA) (ma.2.2.2.2.2.1 zB) i_24).1) i_24 (ma.2.2.2.2.2.1 zA), ma.2.2.2.2.2.2) mp mk mn ou) H := hP
                    have hD : va_D A (WW ad cJ cI cZ bm pa p0 p1 p2 li wi (0) ms (ma.1, ma.2.1, ma.2.2.1, ma.2.2.2.1, ma.2.2.2.2.1, va_up ((gG ma.2.2.2.2.2.1 (ma.2.2.2.2.2.1 zA) (ma.2.2.2.2.2.1 zB) i_24).1) i_24 (ma.2.2.2.2.2.1 zA), ma.2.2.2.2.2.2) mp mk mn ou) := hD
                    refine lv_iload hx hb dX5_group_132 (lv_at hl 1 rfl) ?_
                    refine lv_aload_n hx hb dX5_group_134 rfl (lv_at hl 4 rfl) ?_
                    refine va_get (D := D) (ci := 5) (v := .ref (ad 48)) (C := RX5) (T := TX5) (N := 28) hx hb hts (inT inX5) hown hK hP 42 ww_42 rfl 9 (by decide) (hts (.fieldLink RX5 27 "BoardMovesModel" "groups" "[I") (List.mem_cons_of_mem _ flX5_27)) (fun _ h9 => h9) rfl dX5_group_135 ?_
                    refine lv_iload hx hb dX5_group_138 (lv_at hl 0 rfl) ?_
                    refine bm_nald (f := (va_up ((gG ma.2.2.2.2.2.1 (ma.2.2.2.2.2.1 zA) (ma.2.2.2.2.2.1 zB) i_24).1) i_24 (ma.2.2.2.2.2.1 zA))) hx hb hK hP 48 1 ww_48 rfl (j := i_24) (by omega) (by decide) dX5_group_140 ?_
                    refine lv_iload_n hx hb dX5_group_141 rfl (lv_at hl 3 rfl) ?_
                    refine bm_ni_ne (x := ((va_up ((gG ma.2.2.2.2.2.1 (ma.2.2.2.2.2.1 zA) (ma.2.2.2.2.2.1 zB) i_24).1) i_24 (ma.2.2.2.2.2.1 zA)) i_24)) (y := (ma.2.2.2.2.2.1 zA)) (tgt := 149) hx hb (bm40 ((bx_uplt (gG_lt ok_ma_groups (ok_ma_groups _) i_24) (ok_ma_groups _)) _)) (bm40 (ok_ma_groups _)) dX5_group_142 (by decide) (fun c_36 => ?_) (fun c_36 => ?_)
                    · exact absurd (by simp [va_up]) c_36
                    · refine lv_iconst (v := nI 1) hx hb dX5_group_145 (by decide) ?_
                      refine lv_goto (tgt := 150) hx hb dX5_group_146 (by decide) ?_
                      refine bm_nadd hx hb dX5_group_150 ?_
                      refine lv_istore (lv' := [(5, .int (nI (((gG ma.2.2.2.2.2.1 (ma.2.2.2.2.2.1 zA) (ma.2.2.2.2.2.1 zB) i_24).2) + 1))), (6, .int (nI i_24)), (4, .int (nI (ma.2.2.2.2.2.1 zB))), (3, .int (nI (ma.2.2.2.2.2.1 zA))), (0, .ref (ad 42)), (1, .int (nI zA)), (2, .int (nI zB))]) hx hb dX5_group_151 hl (by decide) rfl (fun ls hl => ?_)
                      refine lv_iinc (v := (nI (i_24 + 1))) (lv' := [(6, .int (nI (i_24 + 1))), (5, .int (nI (((gG ma.2.2.2.2.2.1 (ma.2.2.2.2.2.1 zA) (ma.2.2.2.2.2.1 zB) i_24).2) + 1))), (4, .int (nI (ma.2.2.2.2.2.1 zB))), (3, .int (nI (ma.2.2.2.2.2.1 zA))), (0, .ref (ad 42)), (1, .int (nI zA)), (2, .int (nI zB))]) hx hb dX5_group_153 hl (k := 1) rfl (nI_1 i_24) (by decide) rfl (fun ls hl => ?_)
                      refine lv_goto (tgt := 103) hx hb dX5_group_156 (by decide) ?_
                      obtain ⟨e_37, e_38⟩ := gG_y (f := ma.2.2.2.2.2.1) (m := ma.2.2.2.2.2.1 zA) (M := ma.2.2.2.2.2.1 zB) (k := i_24) (by omega)
                      rw [e_37] at hP hD
                      rw [e_38] at hl
                      exact ih_26 (i_24 + 1) (by omega) (by omega) _ _ hP hD hS _ (lv_sub hl [0, 1, 2, 3, 4, 5, 6] rfl)
            exact lp_23 (ms.2.2.1 + 1) 0 (by omega) (by omega) _ _ hP hD hS _ (lv_sub hl [0, 1, 2, 3, 4, 5, 6] rfl)
      · exact absurd c_3 (by decide)

set_option maxHeartbeats 4000000 in
set_option maxRecDepth 100000 in
theorem Y_groupM {l : Launch} {D : va_G} {ad : Nat → Nat} {cJ cI cZ : ClassId} {bm : gBM} {pa : gPA} {p0 p1 p2 : gPL} {li : gLI} {wi : gWI} {mt : Nat} {ms : gMS} {ma : gMA} {mp : gMP} {mk : gMK} {mn : gMN} {ou : Nat → Int64} (okp : ms.2.2.1 ≤ 40) {zA : Nat} (hk_zA : zA < ms.2.2.1) {zB : Int32} (hno_zB : ¬ (¬ zB < 0 ∧ zB < nI ms.2.2.1)) : bm_Wr l yX5_group wsX5_group ({ frames := 1, cells := 0, slots := 0, locals := 21 }) D vwCl [(cJ, .long), (cI, .int), (cZ, .boolean)] (WW ad cJ cI cZ bm pa p0 p1 p2 li wi mt ms ma mp mk mn ou) [.ref (ad 42), .int (nI zA), .int zB] (WW ad cJ cI cZ bm pa p0 p1 p2 li wi (1) ms ma mp mk mn ou) (some (.int (nI 0))) := by
  intro sz
  refine Met.ofW (cc := cX5_group) (maxL := 7) (ret := (some .int)) (by decide) rfl ?_
  intro p e s m args below meth c s₁ B hml hv
  obtain ⟨ha, hsz, hP, hK, hD0⟩ := hv
  have hx := B.exec
  have hb := B.bytes
  have hr := B.returns
  have hts := atoms_spec (ws := wsX5_group) B.pre
  have hown : s.vm.findClass RX5 = some m.cls := findClass_of_methodNamed B.named
  have hlocks := B.notSynchronized
  subst hsz
  have hD := hD0.self (sz := s.heap.size)
  generalize hAe : va_A (WW ad cJ cI cZ bm pa p0 p1 p2 li wi mt ms ma mp mk mn ou) s.heap.size = A at hD ⊢
  have hA : ∀ q : Nat, s.heap.size ≤ q → A q := fun q h => by rw [← hAe]; exact Or.inr h
  have hS : va_S A s.heap s.heap [] := va_S.rf
  have hl := lv_entry ([.ref (ad 42), .int (nI zA), .int zB]) (n := 7) (Nat.le_of_ble_eq_true rfl)
  refine W.eq (g2 := entryFrame m ([.ref (ad 42), .int (nI zA), .int zB] : List Value).toArray 7) (by rw [ha]) ?_
  rw [lg_entry_eq]
  generalize (lg_sl ([.ref (ad 42), .int (nI zA), .int zB]) ++ List.replicate (7 - (lg_sl ([.ref (ad 42), .int (nI zA), .int zB])).length) Slot.unset).toArray = ls at hl ⊢
  have hl : lv_has ls 7 [(0, .ref (ad 42)), (1, .int (nI zA)), (2, .int zB)] := hl
  refine lv_aload_n hx hb dX5_group_0 rfl (lv_at hl 0 rfl) ?_
  refine lv_aload_n hx hb dX5_group_1 rfl (lv_at hl 0 rfl) ?_
  refine lv_iload_n hx hb dX5_group_2 rfl (lv_at hl 1 rfl) ?_
  refine bm_rcallV (As := [.int (nI zA)]) (rest := [.ref (ad 42)]) ⟨hx, hb, hml, hown, hts⟩ (Y_isPartY okp (by omega)) (cwV 1 hts gvX5_139 rfl rfl rfl hvX5_isPart ⟨Nat.le_of_ble_eq_true rfl, Nat.le_of_ble_eq_true rfl⟩) hK hP 42 5 rfl ww_42 rfl hl.1 rfl (Nat.le_of_ble_eq_true rfl) dX5_group_3 ⟨Nat.le_of_ble_eq_true rfl, Nat.le_of_ble_eq_true rfl⟩ ?_
  refine bm_zb_eq (x := true) (tgt := 21) hx hb dX5_group_6 (by decide) (fun c_1 => ?_) (fun c_1 => ?_)
  · exact absurd c_1 (by decide)
  · refine lv_aload_n hx hb dX5_group_9 rfl (lv_at hl 0 rfl) ?_
    refine lv_iload_n hx hb dX5_group_10 rfl (lv_at hl 2 rfl) ?_
    refine bm_rcallV (As := [.int zB]) (rest := [.ref (ad 42)]) ⟨hx, hb, hml, hown, hts⟩ (Y_isPartN hno_zB) (cwV 1 hts gvX5_139 rfl rfl rfl hvX5_isPart ⟨Nat.le_of_ble_eq_true rfl, Nat.le_of_ble_eq_true rfl⟩) hK hP 42 5 rfl ww_42 rfl hl.1 rfl (Nat.le_of_ble_eq_true rfl) dX5_group_11 ⟨Nat.le_of_ble_eq_true rfl, Nat.le_of_ble_eq_true rfl⟩ ?_
    refine bm_zb_eq (x := false) (tgt := 21) hx hb dX5_group_14 (by decide) (fun c_2 => ?_) (fun c_2 => ?_)
    · refine lv_iconst (v := nI 1) hx hb dX5_group_21 (by decide) ?_
      refine va_put (D := D) (ci := 5) (v := .int (nI 1)) (ty := .int) (C := RX5) (T := TX5) (N := 28) hx hb hts (inT inX5) tyX5 tyX5_ok nmX5 hown hK hP hD hS 42 ww_42 rfl 0 (by decide) (hts (.fieldLink RX5 81 "BoardMovesModel" "thrown" "I") (List.mem_cons_of_mem _ flX5_81)) (fun _ h9 => h9) rfl (by decide +kernel) rfl rfl (Nat.le_of_ble_eq_true rfl) dX5_group_22 (fun H locs hP hD hS => ?_)
      have hP : va_P D vwCl (WW ad cJ cI cZ bm pa p0 p1 p2 li wi (1) ms ma mp mk mn ou) H := hP
      have hD : va_D A (WW ad cJ cI cZ bm pa p0 p1 p2 li wi (1) ms ma mp mk mn ou) := hD
      refine lv_aload_n hx hb dX5_group_25 rfl (lv_at hl 0 rfl) ?_
      refine va_get (D := D) (ci := 5) (v := .int (nI 1)) (C := RX5) (T := TX5) (N := 28) hx hb hts (inT inX5) hown hK hP 42 ww_42 rfl 0 (by decide) (hts (.fieldLink RX5 81 "BoardMovesModel" "thrown" "I") (List.mem_cons_of_mem _ flX5_81)) (fun _ h9 => h9) rfl dX5_group_26 ?_
      refine bm_nz_eq (x := 1) (tgt := 34) hx hb (by decide) dX5_group_29 (by decide) (fun c_3 => ?_) (fun c_3 => ?_)
      · exact absurd c_3 (by decide)
      · refine lv_iconst (v := nI 0) hx hb dX5_group_32 (by decide) ?_
        exact bm_iretW (v := (nI 0)) hx hb hr hP hD hK hS ⟨rfl, rfl⟩ dX5_group_33 hlocks
    · exact absurd c_2 (by decide)
