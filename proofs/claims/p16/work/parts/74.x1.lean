set_option maxHeartbeats 4000000 in
set_option maxRecDepth 100000 in
theorem E_partX {l : Launch} (hlt : l.stackTraces = false) {D : va_G} {ad : Nat → Nat} {cJ cI cZ : ClassId} {bm : gBM} {pa : gPA} {p0 p1 p2 : gPL} {li : gLI} {wi : gWI} {mt : Nat} {ms : gMS} {ma : gMA} {mp : gMP} {mk : gMK} {mn : gMN} {ou : Nat → Int64} {zA zB : Int64} {zC : Int32} (hv : q_pv zA zB zC = false) (sz : Nat) : Met l yL_part wsL_part ({ frames := 7, cells := 1, slots := 6, locals := 126 }) (bx_Hp D vwCl [(cJ, .long), (cI, .int), (cZ, .boolean)] (WW ad cJ cI cZ bm pa p0 p1 p2 li wi mt ms ma mp mk mn ou) [.ref (ad 0), .long zA, .long zB, .int zC, .ref (ad 62)] sz) (bm_Wq D vwCl [(cJ, .long), (cI, .int), (cZ, .boolean)] (WW ad cJ cI cZ bm pa p0 p1 p2 li wi mt ms ma mp mk mn ou) (some (.int (nI 1))) (va_A (WW ad cJ cI cZ bm pa p0 p1 p2 li wi mt ms ma mp mk mn ou) sz)) 1 6 (va_A (WW ad cJ cI cZ bm pa p0 p1 p2 li wi mt ms ma mp mk mn ou) sz) := by
  refine bx_ofWH (cc := cL_part) (maxL := 8) (ret := (some .int)) (hs := [(0, 13, 16, 13)]) (by decide) rfl ?_
  intro p e s m args below meth c s₁ B hml htab hv
  obtain ⟨ha, hsz, hP, hK, hD0, hX, hZ⟩ := hv
  have hx := B.exec
  have hb := B.bytes
  have hr := B.returns
  have hts := atoms_spec (ws := wsL_part) B.pre
  have hown : s.vm.findClass RL = some m.cls := findClass_of_methodNamed B.named
  have hlocks := B.notSynchronized
  subst hsz
  have hD := hD0.self (sz := s.heap.size)
  generalize hAe : va_A (WW ad cJ cI cZ bm pa p0 p1 p2 li wi mt ms ma mp mk mn ou) s.heap.size = A at hD ⊢
  have hA : ∀ q : Nat, s.heap.size ≤ q → A q := fun q h => by rw [← hAe]; exact Or.inr h
  have hS : va_S A s.heap s.heap [] := va_S.rf
  have hl := lv_entry ([.ref (ad 0), .long zA, .long zB, .int zC, .ref (ad 62)]) (n := 8) (Nat.le_of_ble_eq_true rfl)
  refine W.eq (g2 := entryFrame m ([.ref (ad 0), .long zA, .long zB, .int zC, .ref (ad 62)] : List Value).toArray 8) (by rw [ha]) ?_
  rw [lg_entry_eq]
  generalize (lg_sl ([.ref (ad 0), .long zA, .long zB, .int zC, .ref (ad 62)]) ++ List.replicate (8 - (lg_sl ([.ref (ad 0), .long zA, .long zB, .int zC, .ref (ad 62)])).length) Slot.unset).toArray = ls at hl ⊢
  have hl : lv_has ls 8 [(0, .ref (ad 0)), (1, .long zA), (3, .long zB), (5, .int zC), (6, .ref (ad 62))] := hl
  refine lv_aload hx hb dL_part_0 (lv_at hl 4 rfl) ?_
  refine lv_iconst (v := nI 0) hx hb dL_part_2 (by decide) ?_
  refine lv_aload_n hx hb dL_part_3 rfl (lv_at hl 0 rfl) ?_
  refine lv_lload_n hx hb dL_part_4 rfl (lv_at hl 1 rfl) ?_
  refine lv_lload_n hx hb dL_part_5 rfl (lv_at hl 2 rfl) ?_
  refine lv_iload hx hb dL_part_6 (lv_at hl 3 rfl) ?_
  refine bx_catch (name := "java/lang/IllegalArgumentException") (bx_tcallV (As := [.long zA, .long zB, .int zC]) (rest := [.int (nI 0), .ref (ad 62)]) ⟨hx, hb, hml, hown, hts⟩ (X_partX hlt hv) (cwV 3 hts gwL_7 rfl rfl rfl hvX4_part ⟨Nat.le_of_ble_eq_true rfl, Nat.le_of_ble_eq_true rfl⟩) hK hP hX hZ 0 4 rfl ww_0 rfl hl.1 rfl (Nat.le_of_ble_eq_true rfl) dL_part_8 ⟨Nat.le_of_ble_eq_true rfl, Nat.le_of_ble_eq_true rfl⟩) hown htab (by decide) (by decide) (hts (.classLink RL 13 "java/lang/IllegalArgumentException") (by decide +kernel)) (hX (.castable "java/lang/IllegalArgumentException" "java/lang/IllegalArgumentException") (by decide +kernel) _) (fun q9 H hz hh => ?_)
  have hP := bx_keepP hP hh
  have hS := bx_keepS hS hz hh
  refine lv_astore (lv' := [(7, .ref q9), (0, .ref (ad 0)), (1, .long zA), (3, .long zB), (5, .int zC), (6, .ref (ad 62))]) hx hb dL_part_16 hl (by decide) rfl (fun ls hl => ?_)
  refine lv_iconst (v := nI 1) hx hb dL_part_18 (by decide) ?_
  exact bm_iretW (v := (nI 1)) hx hb hr hP hD hK hS ⟨rfl, rfl⟩ dL_part_19 hlocks

set_option maxHeartbeats 16000000 in
set_option maxRecDepth 100000 in
theorem Z_near1 {l : Launch} {D : va_G} {ad : Nat → Nat} {cJ cI cZ : ClassId} {bm : gBM} {pa : gPA} {p0 p1 p2 : gPL} {li : gLI} {wi : gWI} {mt : Nat} {ms : gMS} {ma : gMA} {mp : gMP} {mk : gMK} {mn : gMN} {ou : Nat → Int64} {zA : Nat} {zB : Nat} {zC : Int64} (hok : okC bm pa p0 p1 p2 li wi) (hk_zA : zA < pa.2.2.2.2.2.2)(hk_zB : zB < pa.2.2.2.2.2.2) (hv : ¬ zC < 0) (hq : li.2.2.2.2.2.2.2.2.2 < 20) : bm_Wx l yX4_near wsX4_near ({ frames := 2, cells := 0, slots := 0, locals := 52 }) D vwCl [(cJ, .long), (cI, .int), (cZ, .boolean)] (WW ad cJ cI cZ bm pa p0 p1 p2 li wi mt ms ma mp mk mn ou) [.ref (ad 0), .int (nI zA), .int (nI zB), .long zC] (PCZ ad cJ cI cZ bm pa p0 p1 p2 li wi mt ms ma mp mk mn ou) := by
  obtain ⟨ok_pa_n, ok_pa_side, ok_pa_lowest, ok_p0_turn, ok_p1_turn, ok_p2_turn, ok_li_one, ok_li_other, ok_li_keepOuts, ok_li_nears, ok_wi_netOf, ok_wi_partOf, ok_wi_nets, ok_wi_pins, hw, hh, hI⟩ := hok
  intro sz
  refine Met.ofW (cc := cX4_near) (maxL := 5) (ret := (some .boolean)) (by decide) rfl ?_
  intro p e s m args below meth c s₁ B hml hv
  obtain ⟨ha, hsz, hP, hK, hD0⟩ := hv
  have hx := B.exec
  have hb := B.bytes
  have hr := B.returns
  have hts := atoms_spec (ws := wsX4_near) B.pre
  have hown : s.vm.findClass RX4 = some m.cls := findClass_of_methodNamed B.named
  have hlocks := B.notSynchronized
  subst hsz
  have hD := hD0.self (sz := s.heap.size)
  generalize hAe : va_A (WW ad cJ cI cZ bm pa p0 p1 p2 li wi mt ms ma mp mk mn ou) s.heap.size = A at hD ⊢
  have hA : ∀ q : Nat, s.heap.size ≤ q → A q := fun q h => by rw [← hAe]; exact Or.inr h
  have hS : va_S A s.heap s.heap [] := va_S.rf
  have hl := lv_entry ([.ref (ad 0), .int (nI zA), .int (nI zB), .long zC]) (n := 5) (Nat.le_of_ble_eq_true rfl)
  refine W.eq (g2 := entryFrame m ([.ref (ad 0), .int (nI zA), .int (nI zB), .long zC] : List Value).toArray 5) (by rw [ha]) ?_
  rw [lg_entry_eq]
  generalize (lg_sl ([.ref (ad 0), .int (nI zA), .int (nI zB), .long zC]) ++ List.replicate (5 - (lg_sl ([.ref (ad 0), .int (nI zA), .int (nI zB), .long zC])).length) Slot.unset).toArray = ls at hl ⊢
  have hl : lv_has ls 5 [(0, .ref (ad 0)), (1, .int (nI zA)), (2, .int (nI zB)), (3, .long zC)] := hl
  refine lv_aload_n hx hb dX4_near_0 rfl (lv_at hl 0 rfl) ?_
  refine lv_iload_n hx hb dX4_near_1 rfl (lv_at hl 1 rfl) ?_
  refine bm_vcallV (As := [.int (nI zA)]) (rest := []) ⟨hx, hb, hml, hown, hts⟩ (X_needY  (zp := zA) ok_pa_n (by omega)) (cwV 1 hts gvX4_86 rfl rfl rfl hvX4_needPart ⟨Nat.le_of_ble_eq_true rfl, Nat.le_of_ble_eq_true rfl⟩) hK hP 0 4 rfl ww_0 rfl hl.1 rfl (Nat.le_of_ble_eq_true rfl) dX4_near_2 ⟨Nat.le_of_ble_eq_true rfl, Nat.le_of_ble_eq_true rfl⟩ ?_
  refine lv_aload_n hx hb dX4_near_5 rfl (lv_at hl 0 rfl) ?_
  refine lv_iload_n hx hb dX4_near_6 rfl (lv_at hl 2 rfl) ?_
  refine bm_vcallV (As := [.int (nI zB)]) (rest := []) ⟨hx, hb, hml, hown, hts⟩ (X_needY  (zp := zB) ok_pa_n (by omega)) (cwV 1 hts gvX4_86 rfl rfl rfl hvX4_needPart ⟨Nat.le_of_ble_eq_true rfl, Nat.le_of_ble_eq_true rfl⟩) hK hP 0 4 rfl ww_0 rfl hl.1 rfl (Nat.le_of_ble_eq_true rfl) dX4_near_7 ⟨Nat.le_of_ble_eq_true rfl, Nat.le_of_ble_eq_true rfl⟩ ?_
  refine lv_lload_n hx hb dX4_near_10 rfl (lv_at hl 3 rfl) ?_
  refine lv_lconst (v := 0) hx hb dX4_near_11 (by decide) ?_
  refine bm_lc_ge (x := zC) (y := 0) (tgt := 26) hx hb dX4_near_12 dX4_near_13 (by decide) (fun c_1 => ?_) (fun c_1 => ?_)
  · refine lv_iload_n hx hb dX4_near_26 rfl (lv_at hl 1 rfl) ?_
    refine lv_iload_n hx hb dX4_near_27 rfl (lv_at hl 2 rfl) ?_
    refine bm_ni_eq (x := zA) (y := zB) (tgt := 44) hx hb (by omega) (by omega) dX4_near_28 (by decide) (fun c_2 => ?_) (fun c_2 => ?_)
    · refine lv_iconst (v := bm_b false) hx hb dX4_near_44 (by decide) ?_
      exact bm_zretX (v := false) hx hb hr hP hD hK hS ⟨bm, pa, p0, p1, p2, li, wi, ou, ⟨ok_pa_n, ok_pa_side, ok_pa_lowest, ok_p0_turn, ok_p1_turn, ok_p2_turn, ok_li_one, ok_li_other, ok_li_keepOuts, ok_li_nears, ok_wi_netOf, ok_wi_partOf, ok_wi_nets, ok_wi_pins, hw, hh, (INV_to hI rfl rfl rfl rfl rfl rfl rfl)⟩, rfl, rfl, false, rfl⟩ dX4_near_45 hlocks
    · refine lv_aload_n hx hb dX4_near_31 rfl (lv_at hl 0 rfl) ?_
      refine va_get (D := D) (ci := 4) (v := .ref (ad 8)) (C := RX4) (T := TX4) (N := 10) hx hb hts (inT inX4) hown hK hP 0 ww_0 rfl 5 (by decide) (hts (.fieldLink RX4 37 "BoardMoves" "now" "LBoardMoves$Placement;") (List.mem_cons_of_mem _ flX4_37)) (fun _ h9 => h9) rfl dX4_near_32 ?_
      refine lv_iload_n hx hb dX4_near_35 rfl (lv_at hl 1 rfl) ?_
      refine lv_iload_n hx hb dX4_near_36 rfl (lv_at hl 2 rfl) ?_
      refine lv_lload_n hx hb dX4_near_37 rfl (lv_at hl 3 rfl) ?_
      refine bm_rcallV (As := [.int (nI zA), .int (nI zB), .long zC]) (rest := []) ⟨hx, hb, hml, hown, hts⟩ (r_near  (a := zA) (b := zB) ok_p0_turn (by omega) (by omega)) (cwV 3 hts gvX4_207 rfl rfl rfl hvX2_isNear ⟨Nat.le_of_ble_eq_true rfl, Nat.le_of_ble_eq_true rfl⟩) hK hP 8 2 rfl ww_8 rfl hl.1 rfl (Nat.le_of_ble_eq_true rfl) dX4_near_38 ⟨Nat.le_of_ble_eq_true rfl, Nat.le_of_ble_eq_true rfl⟩ ?_
      refine bm_zb_ne (x := (q_near pa p0 zA zB zC)) (tgt := 46) hx hb dX4_near_41 (by decide) (fun c_3 => ?_) (fun c_3 => ?_)
      · refine lv_aload_n hx hb dX4_near_46 rfl (lv_at hl 0 rfl) ?_
        refine va_get (D := D) (ci := 4) (v := .ref (ad 23)) (C := RX4) (T := TX4) (N := 10) hx hb hts (inT inX4) hown hK hP 0 ww_0 rfl 3 (by decide) (hts (.fieldLink RX4 23 "BoardMoves" "limits" "LBoardMoves$Limits;") (List.mem_cons_of_mem _ flX4_23)) (fun _ h9 => h9) rfl dX4_near_47 ?_
        refine lv_iload_n hx hb dX4_near_50 rfl (lv_at hl 1 rfl) ?_
        refine lv_iload_n hx hb dX4_near_51 rfl (lv_at hl 2 rfl) ?_
        refine lv_lload_n hx hb dX4_near_52 rfl (lv_at hl 3 rfl) ?_
        refine bm_xcallV (As := [.int (nI zA), .int (nI zB), .long zC]) (rest := []) ⟨hx, hb, hml, hown, hts⟩ (x_addNear1  (za := zA) (zb := zB) (z1 := zC) ok_li_nears ok_li_one ok_li_other (by omega) (by omega) hq) (cwV 3 hts gvX4_211 rfl rfl rfl hvX0_addNear ⟨Nat.le_of_ble_eq_true rfl, Nat.le_of_ble_eq_true rfl⟩) hK hP hD hS hA 23 0 rfl ww_23 rfl hl.1 rfl (Nat.le_of_ble_eq_true rfl) dX4_near_53 ⟨Nat.le_of_ble_eq_true rfl, Nat.le_of_ble_eq_true rfl⟩ (fun ws_4 r_5 h_6 H locs hP hD hS => ?_)
        obtain ⟨rfl, rfl⟩ := h_6
        have hP : va_P D vwCl (WW ad cJ cI cZ bm pa p0 p1 p2 (li.1, li.2.1, li.2.2.1, li.2.2.2.1, li.2.2.2.2.1, va_up li.2.2.2.2.2.1 li.2.2.2.2.2.2.2.2.2 zA, va_up li.2.2.2.2.2.2.1 li.2.2.2.2.2.2.2.2.2 zB, va_up li.2.2.2.2.2.2.2.1 li.2.2.2.2.2.2.2.2.2 zC, li.2.2.2.2.2.2.2.2.1, li.2.2.2.2.2.2.2.2.2 + 1) wi mt ms ma mp mk mn ou) H := hP
        have hD : va_D A (WW ad cJ cI cZ bm pa p0 p1 p2 (li.1, li.2.1, li.2.2.1, li.2.2.2.1, li.2.2.2.2.1, va_up li.2.2.2.2.2.1 li.2.2.2.2.2.2.2.2.2 zA, va_up li.2.2.2.2.2.2.1 li.2.2.2.2.2.2.2.2.2 zB, va_up li.2.2.2.2.2.2.2.1 li.2.2.2.2.2.2.2.2.2 zC, li.2.2.2.2.2.2.2.2.1, li.2.2.2.2.2.2.2.2.2 + 1) wi mt ms ma mp mk mn ou) := hD
        exact bm_zretX (v := true) hx hb hr hP hD hK hS ⟨bm, pa, p0, p1, p2, (li.1, li.2.1, li.2.2.1, li.2.2.2.1, li.2.2.2.2.1, va_up li.2.2.2.2.2.1 li.2.2.2.2.2.2.2.2.2 zA, va_up li.2.2.2.2.2.2.1 li.2.2.2.2.2.2.2.2.2 zB, va_up li.2.2.2.2.2.2.2.1 li.2.2.2.2.2.2.2.2.2 zC, li.2.2.2.2.2.2.2.2.1, li.2.2.2.2.2.2.2.2.2 + 1), wi, ou, ⟨ok_pa_n, ok_pa_side, ok_pa_lowest, ok_p0_turn, ok_p1_turn, ok_p2_turn, (bx_uplt ok_li_one (by omega)), (bx_uplt ok_li_other (by omega)), ok_li_keepOuts, (Nat.succ_le_of_lt hq), ok_wi_netOf, ok_wi_partOf, ok_wi_nets, ok_wi_pins, hw, hh, (INV_near hI hk_zA hk_zB c_3)⟩, rfl, rfl, true, rfl⟩ dX4_near_56 hlocks
      · refine lv_iconst (v := bm_b false) hx hb dX4_near_44 (by decide) ?_
        exact bm_zretX (v := false) hx hb hr hP hD hK hS ⟨bm, pa, p0, p1, p2, li, wi, ou, ⟨ok_pa_n, ok_pa_side, ok_pa_lowest, ok_p0_turn, ok_p1_turn, ok_p2_turn, ok_li_one, ok_li_other, ok_li_keepOuts, ok_li_nears, ok_wi_netOf, ok_wi_partOf, ok_wi_nets, ok_wi_pins, hw, hh, (INV_to hI rfl rfl rfl rfl rfl rfl rfl)⟩, rfl, rfl, false, rfl⟩ dX4_near_45 hlocks
  · exact absurd c_1 hv

set_option maxHeartbeats 16000000 in
set_option maxRecDepth 100000 in
theorem Z_near2 {l : Launch} {D : va_G} {ad : Nat → Nat} {cJ cI cZ : ClassId} {bm : gBM} {pa : gPA} {p0 p1 p2 : gPL} {li : gLI} {wi : gWI} {mt : Nat} {ms : gMS} {ma : gMA} {mp : gMP} {mk : gMK} {mn : gMN} {ou : Nat → Int64} {zA : Nat} {zB : Nat} {zC : Int64} (hok : okC bm pa p0 p1 p2 li wi) (hk_zA : zA < pa.2.2.2.2.2.2)(hk_zB : zB < pa.2.2.2.2.2.2) (hv : ¬ zC < 0) (hq : li.2.2.2.2.2.2.2.2.2 = 20) : bm_Wx l yX4_near wsX4_near ({ frames := 2, cells := 0, slots := 0, locals := 52 }) D vwCl [(cJ, .long), (cI, .int), (cZ, .boolean)] (WW ad cJ cI cZ bm pa p0 p1 p2 li wi mt ms ma mp mk mn ou) [.ref (ad 0), .int (nI zA), .int (nI zB), .long zC] (PCZ ad cJ cI cZ bm pa p0 p1 p2 li wi mt ms ma mp mk mn ou) := by
  obtain ⟨ok_pa_n, ok_pa_side, ok_pa_lowest, ok_p0_turn, ok_p1_turn, ok_p2_turn, ok_li_one, ok_li_other, ok_li_keepOuts, ok_li_nears, ok_wi_netOf, ok_wi_partOf, ok_wi_nets, ok_wi_pins, hw, hh, hI⟩ := hok
  intro sz
  refine Met.ofW (cc := cX4_near) (maxL := 5) (ret := (some .boolean)) (by decide) rfl ?_
  intro p e s m args below meth c s₁ B hml hv
  obtain ⟨ha, hsz, hP, hK, hD0⟩ := hv
  have hx := B.exec
  have hb := B.bytes
  have hr := B.returns
  have hts := atoms_spec (ws := wsX4_near) B.pre
  have hown : s.vm.findClass RX4 = some m.cls := findClass_of_methodNamed B.named
  have hlocks := B.notSynchronized
  subst hsz
  have hD := hD0.self (sz := s.heap.size)
  generalize hAe : va_A (WW ad cJ cI cZ bm pa p0 p1 p2 li wi mt ms ma mp mk mn ou) s.heap.size = A at hD ⊢
  have hA : ∀ q : Nat, s.heap.size ≤ q → A q := fun q h => by rw [← hAe]; exact Or.inr h
  have hS : va_S A s.heap s.heap [] := va_S.rf
  have hl := lv_entry ([.ref (ad 0), .int (nI zA), .int (nI zB), .long zC]) (n := 5) (Nat.le_of_ble_eq_true rfl)
  refine W.eq (g2 := entryFrame m ([.ref (ad 0), .int (nI zA), .int (nI zB), .long zC] : List Value).toArray 5) (by rw [ha]) ?_
  rw [lg_entry_eq]
  generalize (lg_sl ([.ref (ad 0), .int (nI zA), .int (nI zB), .long zC]) ++ List.replicate (5 - (lg_sl ([.ref (ad 0), .int (nI zA), .int (nI zB), .long zC])).length) Slot.unset).toArray = ls at hl ⊢
  have hl : lv_has ls 5 [(0, .ref (ad 0)), (1, .int (nI zA)), (2, .int (nI zB)), (3, .long zC)] := hl
  refine lv_aload_n hx hb dX4_near_0 rfl (lv_at hl 0 rfl) ?_
  refine lv_iload_n hx hb dX4_near_1 rfl (lv_at hl 1 rfl) ?_
  refine bm_vcallV (As := [.int (nI zA)]) (rest := []) ⟨hx, hb, hml, hown, hts⟩ (X_needY  (zp := zA) ok_pa_n (by omega)) (cwV 1 hts gvX4_86 rfl rfl rfl hvX4_needPart ⟨Nat.le_of_ble_eq_true rfl, Nat.le_of_ble_eq_true rfl⟩) hK hP 0 4 rfl ww_0 rfl hl.1 rfl (Nat.le_of_ble_eq_true rfl) dX4_near_2 ⟨Nat.le_of_ble_eq_true rfl, Nat.le_of_ble_eq_true rfl⟩ ?_
  refine lv_aload_n hx hb dX4_near_5 rfl (lv_at hl 0 rfl) ?_
  refine lv_iload_n hx hb dX4_near_6 rfl (lv_at hl 2 rfl) ?_
  refine bm_vcallV (As := [.int (nI zB)]) (rest := []) ⟨hx, hb, hml, hown, hts⟩ (X_needY  (zp := zB) ok_pa_n (by omega)) (cwV 1 hts gvX4_86 rfl rfl rfl hvX4_needPart ⟨Nat.le_of_ble_eq_true rfl, Nat.le_of_ble_eq_true rfl⟩) hK hP 0 4 rfl ww_0 rfl hl.1 rfl (Nat.le_of_ble_eq_true rfl) dX4_near_7 ⟨Nat.le_of_ble_eq_true rfl, Nat.le_of_ble_eq_true rfl⟩ ?_
  refine lv_lload_n hx hb dX4_near_10 rfl (lv_at hl 3 rfl) ?_
  refine lv_lconst (v := 0) hx hb dX4_near_11 (by decide) ?_
  refine bm_lc_ge (x := zC) (y := 0) (tgt := 26) hx hb dX4_near_12 dX4_near_13 (by decide) (fun c_1 => ?_) (fun c_1 => ?_)
  · refine lv_iload_n hx hb dX4_near_26 rfl (lv_at hl 1 rfl) ?_
    refine lv_iload_n hx hb dX4_near_27 rfl (lv_at hl 2 rfl) ?_
    refine bm_ni_eq (x := zA) (y := zB) (tgt := 44) hx hb (by omega) (by omega) dX4_near_28 (by decide) (fun c_2 => ?_) (fun c_2 => ?_)
    · refine lv_iconst (v := bm_b false) hx hb dX4_near_44 (by decide) ?_
      exact bm_zretX (v := false) hx hb hr hP hD hK hS ⟨bm, pa, p0, p1, p2, li, wi, ou, ⟨ok_pa_n, ok_pa_side, ok_pa_lowest, ok_p0_turn, ok_p1_turn, ok_p2_turn, ok_li_one, ok_li_other, ok_li_keepOuts, ok_li_nears, ok_wi_netOf, ok_wi_partOf, ok_wi_nets, ok_wi_pins, hw, hh, (INV_to hI rfl rfl rfl rfl rfl rfl rfl)⟩, rfl, rfl, false, rfl⟩ dX4_near_45 hlocks
    · refine lv_aload_n hx hb dX4_near_31 rfl (lv_at hl 0 rfl) ?_
      refine va_get (D := D) (ci := 4) (v := .ref (ad 8)) (C := RX4) (T := TX4) (N := 10) hx hb hts (inT inX4) hown hK hP 0 ww_0 rfl 5 (by decide) (hts (.fieldLink RX4 37 "BoardMoves" "now" "LBoardMoves$Placement;") (List.mem_cons_of_mem _ flX4_37)) (fun _ h9 => h9) rfl dX4_near_32 ?_
      refine lv_iload_n hx hb dX4_near_35 rfl (lv_at hl 1 rfl) ?_
      refine lv_iload_n hx hb dX4_near_36 rfl (lv_at hl 2 rfl) ?_
      refine lv_lload_n hx hb dX4_near_37 rfl (lv_at hl 3 rfl) ?_
      refine bm_rcallV (As := [.int (nI zA), .int (nI zB), .long zC]) (rest := []) ⟨hx, hb, hml, hown, hts⟩ (r_near  (a := zA) (b := zB) ok_p0_turn (by omega) (by omega)) (cwV 3 hts gvX4_207 rfl rfl rfl hvX2_isNear ⟨Nat.le_of_ble_eq_true rfl, Nat.le_of_ble_eq_true rfl⟩) hK hP 8 2 rfl ww_8 rfl hl.1 rfl (Nat.le_of_ble_eq_true rfl) dX4_near_38 ⟨Nat.le_of_ble_eq_true rfl, Nat.le_of_ble_eq_true rfl⟩ ?_
      refine bm_zb_ne (x := (q_near pa p0 zA zB zC)) (tgt := 46) hx hb dX4_near_41 (by decide) (fun c_3 => ?_) (fun c_3 => ?_)
      · refine lv_aload_n hx hb dX4_near_46 rfl (lv_at hl 0 rfl) ?_
        refine va_get (D := D) (ci := 4) (v := .ref (ad 23)) (C := RX4) (T := TX4) (N := 10) hx hb hts (inT inX4) hown hK hP 0 ww_0 rfl 3 (by decide) (hts (.fieldLink RX4 23 "BoardMoves" "limits" "LBoardMoves$Limits;") (List.mem_cons_of_mem _ flX4_23)) (fun _ h9 => h9) rfl dX4_near_47 ?_
        refine lv_iload_n hx hb dX4_near_50 rfl (lv_at hl 1 rfl) ?_
        refine lv_iload_n hx hb dX4_near_51 rfl (lv_at hl 2 rfl) ?_
        refine lv_lload_n hx hb dX4_near_52 rfl (lv_at hl 3 rfl) ?_
        refine bm_xcallV (As := [.int (nI zA), .int (nI zB), .long zC]) (rest := []) ⟨hx, hb, hml, hown, hts⟩ (x_addNear2  (za := zA) (zb := zB) (z1 := zC) ok_li_nears ok_li_one ok_li_other (by omega) (by omega) hq) (cwV 3 hts gvX4_211 rfl rfl rfl hvX0_addNear ⟨Nat.le_of_ble_eq_true rfl, Nat.le_of_ble_eq_true rfl⟩) hK hP hD hS hA 23 0 rfl ww_23 rfl hl.1 rfl (Nat.le_of_ble_eq_true rfl) dX4_near_53 ⟨Nat.le_of_ble_eq_true rfl, Nat.le_of_ble_eq_true rfl⟩ (fun ws_4 r_5 h_6 H locs hP hD hS => ?_)
        obtain ⟨rfl, rfl⟩ := h_6
        have hP : va_P D vwCl (WW ad cJ cI cZ bm pa p0 p1 p2 li wi mt ms ma mp mk mn ou) H := hP
        have hD : va_D A (WW ad cJ cI cZ bm pa p0 p1 p2 li wi mt ms ma mp mk mn ou) := hD
        exact bm_zretX (v := false) hx hb hr hP hD hK hS ⟨bm, pa, p0, p1, p2, li, wi, ou, ⟨ok_pa_n, ok_pa_side, ok_pa_lowest, ok_p0_turn, ok_p1_turn, ok_p2_turn, ok_li_one, ok_li_other, ok_li_keepOuts, ok_li_nears, ok_wi_netOf, ok_wi_partOf, ok_wi_nets, ok_wi_pins, hw, hh, (INV_to hI rfl rfl rfl rfl rfl rfl rfl)⟩, rfl, rfl, false, rfl⟩ dX4_near_56 hlocks
      · refine lv_iconst (v := bm_b false) hx hb dX4_near_44 (by decide) ?_
        exact bm_zretX (v := false) hx hb hr hP hD hK hS ⟨bm, pa, p0, p1, p2, li, wi, ou, ⟨ok_pa_n, ok_pa_side, ok_pa_lowest, ok_p0_turn, ok_p1_turn, ok_p2_turn, ok_li_one, ok_li_other, ok_li_keepOuts, ok_li_nears, ok_wi_netOf, ok_wi_partOf, ok_wi_nets, ok_wi_pins, hw, hh, (INV_to hI rfl rfl rfl rfl rfl rfl rfl)⟩, rfl, rfl, false, rfl⟩ dX4_near_45 hlocks
  · exact absurd c_1 hv

set_option maxHeartbeats 16000000 in
set_option maxRecDepth 100000 in
theorem Z_ko1 {l : Launch} {D : va_G} {ad : Nat → Nat} {cJ cI cZ : ClassId} {bm : gBM} {pa : gPA} {p0 p1 p2 : gPL} {li : gLI} {wi : gWI} {mt : Nat} {ms : gMS} {ma : gMA} {mp : gMP} {mk : gMK} {mn : gMN} {ou : Nat → Int64} {z1 : Int64} {z2 : Int64} {z3 : Int64} {z4 : Int64} {z5 : Int64} (hok : okC bm pa p0 p1 p2 li wi) (hv : ¬ z5 < 0) (hq : li.2.2.2.2.2.2.2.2.1 < 10) : bm_Wx l yX4_keepOut wsX4_keepOut ({ frames := 5, cells := 0, slots := 0, locals := 119 }) D vwCl [(cJ, .long), (cI, .int), (cZ, .boolean)] (WW ad cJ cI cZ bm pa p0 p1 p2 li wi mt ms ma mp mk mn ou) [.ref (ad 0), .long z1, .long z2, .long z3, .long z4, .long z5] (PCZ ad cJ cI cZ bm pa p0 p1 p2 li wi mt ms ma mp mk mn ou) := by
  obtain ⟨ok_pa_n, ok_pa_side, ok_pa_lowest, ok_p0_turn, ok_p1_turn, ok_p2_turn, ok_li_one, ok_li_other, ok_li_keepOuts, ok_li_nears, ok_wi_netOf, ok_wi_partOf, ok_wi_nets, ok_wi_pins, hw, hh, hI⟩ := hok
  intro sz
  refine Met.ofW (cc := cX4_keepOut) (maxL := 11) (ret := (some .boolean)) (by decide) rfl ?_
  intro p e s m args below meth c s₁ B hml hv
  obtain ⟨ha, hsz, hP, hK, hD0⟩ := hv
  have hx := B.exec
  have hb := B.bytes
  have hr := B.returns
  have hts := atoms_spec (ws := wsX4_keepOut) B.pre
  have hown : s.vm.findClass RX4 = some m.cls := findClass_of_methodNamed B.named
  have hlocks := B.notSynchronized
  subst hsz
  have hD := hD0.self (sz := s.heap.size)
  generalize hAe : va_A (WW ad cJ cI cZ bm pa p0 p1 p2 li wi mt ms ma mp mk mn ou) s.heap.size = A at hD ⊢
  have hA : ∀ q : Nat, s.heap.size ≤ q → A q := fun q h => by rw [← hAe]; exact Or.inr h
  have hS : va_S A s.heap s.heap [] := va_S.rf
  have hl := lv_entry ([.ref (ad 0), .long z1, .long z2, .long z3, .long z4, .long z5]) (n := 11) (Nat.le_of_ble_eq_true rfl)
  refine W.eq (g2 := entryFrame m ([.ref (ad 0), .long z1, .long z2, .long z3, .long z4, .long z5] : List Value).toArray 11) (by rw [ha]) ?_
  rw [lg_entry_eq]
  generalize (lg_sl ([.ref (ad 0), .long z1, .long z2, .long z3, .long z4, .long z5]) ++ List.replicate (11 - (lg_sl ([.ref (ad 0), .long z1, .long z2, .long z3, .long z4, .long z5])).length) Slot.unset).toArray = ls at hl ⊢
  have hl : lv_has ls 11 [(0, .ref (ad 0)), (1, .long z1), (3, .long z2), (5, .long z3), (7, .long z4), (9, .long z5)] := hl
  refine lv_lload hx hb dX4_keepOut_0 (lv_at hl 5 rfl) ?_
  refine lv_lconst (v := 0) hx hb dX4_keepOut_2 (by decide) ?_
  refine bm_lc_ge (x := z5) (y := 0) (tgt := 17) hx hb dX4_keepOut_3 dX4_keepOut_4 (by decide) (fun c_1 => ?_) (fun c_1 => ?_)
  · refine lv_lload_n hx hb dX4_keepOut_17 rfl (lv_at hl 1 rfl) ?_
    refine lv_lload hx hb dX4_keepOut_18 (lv_at hl 3 rfl) ?_
    refine bm_lc_ge (x := z1) (y := z3) (tgt := 49) hx hb dX4_keepOut_20 dX4_keepOut_21 (by decide) (fun c_2 => ?_) (fun c_2 => ?_)
    · refine lv_iconst (v := bm_b false) hx hb dX4_keepOut_49 (by decide) ?_
      exact bm_zretX (v := false) hx hb hr hP hD hK hS ⟨bm, pa, p0, p1, p2, li, wi, ou, ⟨ok_pa_n, ok_pa_side, ok_pa_lowest, ok_p0_turn, ok_p1_turn, ok_p2_turn, ok_li_one, ok_li_other, ok_li_keepOuts, ok_li_nears, ok_wi_netOf, ok_wi_partOf, ok_wi_nets, ok_wi_pins, hw, hh, (INV_to hI rfl rfl rfl rfl rfl rfl rfl)⟩, rfl, rfl, false, rfl⟩ dX4_keepOut_50 hlocks
    · refine lv_lload_n hx hb dX4_keepOut_24 rfl (lv_at hl 2 rfl) ?_
      refine lv_lload hx hb dX4_keepOut_25 (lv_at hl 4 rfl) ?_
      refine bm_lc_ge (x := z2) (y := z4) (tgt := 49) hx hb dX4_keepOut_27 dX4_keepOut_28 (by decide) (fun c_3 => ?_) (fun c_3 => ?_)
      · refine lv_iconst (v := bm_b false) hx hb dX4_keepOut_49 (by decide) ?_
        exact bm_zretX (v := false) hx hb hr hP hD hK hS ⟨bm, pa, p0, p1, p2, li, wi, ou, ⟨ok_pa_n, ok_pa_side, ok_pa_lowest, ok_p0_turn, ok_p1_turn, ok_p2_turn, ok_li_one, ok_li_other, ok_li_keepOuts, ok_li_nears, ok_wi_netOf, ok_wi_partOf, ok_wi_nets, ok_wi_pins, hw, hh, (INV_to hI rfl rfl rfl rfl rfl rfl rfl)⟩, rfl, rfl, false, rfl⟩ dX4_keepOut_50 hlocks
      · refine lv_aload_n hx hb dX4_keepOut_31 rfl (lv_at hl 0 rfl) ?_
        refine va_get (D := D) (ci := 4) (v := .ref (ad 23)) (C := RX4) (T := TX4) (N := 10) hx hb hts (inT inX4) hown hK hP 0 ww_0 rfl 3 (by decide) (hts (.fieldLink RX4 23 "BoardMoves" "limits" "LBoardMoves$Limits;") (List.mem_cons_of_mem _ flX4_23)) (fun _ h9 => h9) rfl dX4_keepOut_32 ?_
        refine lv_lload_n hx hb dX4_keepOut_35 rfl (lv_at hl 1 rfl) ?_
        refine lv_lload_n hx hb dX4_keepOut_36 rfl (lv_at hl 2 rfl) ?_
        refine lv_lload hx hb dX4_keepOut_37 (lv_at hl 3 rfl) ?_
        refine lv_lload hx hb dX4_keepOut_39 (lv_at hl 4 rfl) ?_
        refine lv_lload hx hb dX4_keepOut_41 (lv_at hl 5 rfl) ?_
        refine bm_xcallV (As := [.long z1, .long z2, .long z3, .long z4, .long z5]) (rest := []) ⟨hx, hb, hml, hown, hts⟩ (x_addKO1  (z1 := z1) (z2 := z2) (z3 := z3) (z4 := z4) (z5 := z5) ok_li_keepOuts  hq) (cwV 5 hts gvX4_225 rfl rfl rfl hvX0_addKeepOut ⟨Nat.le_of_ble_eq_true rfl, Nat.le_of_ble_eq_true rfl⟩) hK hP hD hS hA 23 0 rfl ww_23 rfl hl.1 rfl (Nat.le_of_ble_eq_true rfl) dX4_keepOut_43 ⟨Nat.le_of_ble_eq_true rfl, Nat.le_of_ble_eq_true rfl⟩ (fun ws_4 r_5 h_6 H locs hP hD hS => ?_)
        obtain ⟨rfl, rfl⟩ := h_6
        have hP : va_P D vwCl (WW ad cJ cI cZ bm pa p0 p1 p2 (va_up li.1 li.2.2.2.2.2.2.2.2.1 z1, va_up li.2.1 li.2.2.2.2.2.2.2.2.1 z2, va_up li.2.2.1 li.2.2.2.2.2.2.2.2.1 z3, va_up li.2.2.2.1 li.2.2.2.2.2.2.2.2.1 z4, va_up li.2.2.2.2.1 li.2.2.2.2.2.2.2.2.1 z5, li.2.2.2.2.2.1, li.2.2.2.2.2.2.1, li.2.2.2.2.2.2.2.1, li.2.2.2.2.2.2.2.2.1 + 1, li.2.2.2.2.2.2.2.2.2) wi mt ms ma mp mk mn ou) H := hP
        have hD : va_D A (WW ad cJ cI cZ bm pa p0 p1 p2 (va_up li.1 li.2.2.2.2.2.2.2.2.1 z1, va_up li.2.1 li.2.2.2.2.2.2.2.2.1 z2, va_up li.2.2.1 li.2.2.2.2.2.2.2.2.1 z3, va_up li.2.2.2.1 li.2.2.2.2.2.2.2.2.1 z4, va_up li.2.2.2.2.1 li.2.2.2.2.2.2.2.2.1 z5, li.2.2.2.2.2.1, li.2.2.2.2.2.2.1, li.2.2.2.2.2.2.2.1, li.2.2.2.2.2.2.2.2.1 + 1, li.2.2.2.2.2.2.2.2.2) wi mt ms ma mp mk mn ou) := hD
        refine bm_zb_ne (x := true) (tgt := 51) hx hb dX4_keepOut_46 (by decide) (fun c_7 => ?_) (fun c_7 => ?_)
        · refine lv_aload_n hx hb dX4_keepOut_51 rfl (lv_at hl 0 rfl) ?_
          refine bm_rcallV (As := []) (rest := []) ⟨hx, hb, hml, hown, hts⟩ (r_all (li := (va_up li.1 li.2.2.2.2.2.2.2.2.1 z1, va_up li.2.1 li.2.2.2.2.2.2.2.2.1 z2, va_up li.2.2.1 li.2.2.2.2.2.2.2.2.1 z3, va_up li.2.2.2.1 li.2.2.2.2.2.2.2.2.1 z4, va_up li.2.2.2.2.1 li.2.2.2.2.2.2.2.2.1 z5, li.2.2.2.2.2.1, li.2.2.2.2.2.2.1, li.2.2.2.2.2.2.2.1, li.2.2.2.2.2.2.2.2.1 + 1, li.2.2.2.2.2.2.2.2.2)) ⟨ok_pa_n, ok_pa_side, ok_pa_lowest⟩ ok_p0_turn ⟨ok_li_one, ok_li_other, (show li.2.2.2.2.2.2.2.2.1 + 1 ≤ 10 by omega), ok_li_nears⟩) (cwV 0 hts gvX4_229 rfl rfl rfl hvX4_allStandWell ⟨Nat.le_of_ble_eq_true rfl, Nat.le_of_ble_eq_true rfl⟩) hK hP 0 4 rfl ww_0 rfl hl.1 rfl (Nat.le_of_ble_eq_true rfl) dX4_keepOut_52 ⟨Nat.le_of_ble_eq_true rfl, Nat.le_of_ble_eq_true rfl⟩ ?_
          refine bm_zb_ne (x := (q_allWell bm pa p0 (va_up li.1 li.2.2.2.2.2.2.2.2.1 z1, va_up li.2.1 li.2.2.2.2.2.2.2.2.1 z2, va_up li.2.2.1 li.2.2.2.2.2.2.2.2.1 z3, va_up li.2.2.2.1 li.2.2.2.2.2.2.2.2.1 z4, va_up li.2.2.2.2.1 li.2.2.2.2.2.2.2.2.1 z5, li.2.2.2.2.2.1, li.2.2.2.2.2.2.1, li.2.2.2.2.2.2.2.1, li.2.2.2.2.2.2.2.2.1 + 1, li.2.2.2.2.2.2.2.2.2))) (tgt := 67) hx hb dX4_keepOut_55 (by decide) (fun c_8 => ?_) (fun c_8 => ?_)
          · refine lv_iconst (v := bm_b true) hx hb dX4_keepOut_67 (by decide) ?_
            exact bm_zretX (v := true) hx hb hr hP hD hK hS ⟨bm, pa, p0, p1, p2, (va_up li.1 li.2.2.2.2.2.2.2.2.1 z1, va_up li.2.1 li.2.2.2.2.2.2.2.2.1 z2, va_up li.2.2.1 li.2.2.2.2.2.2.2.2.1 z3, va_up li.2.2.2.1 li.2.2.2.2.2.2.2.2.1 z4, va_up li.2.2.2.2.1 li.2.2.2.2.2.2.2.2.1 z5, li.2.2.2.2.2.1, li.2.2.2.2.2.2.1, li.2.2.2.2.2.2.2.1, li.2.2.2.2.2.2.2.2.1 + 1, li.2.2.2.2.2.2.2.2.2), wi, ou, ⟨ok_pa_n, ok_pa_side, ok_pa_lowest, ok_p0_turn, ok_p1_turn, ok_p2_turn, ok_li_one, ok_li_other, (show li.2.2.2.2.2.2.2.2.1 + 1 ≤ 10 by omega), ok_li_nears, ok_wi_netOf, ok_wi_partOf, ok_wi_nets, ok_wi_pins, hw, hh, (INV_ko hI rfl rfl rfl c_8)⟩, rfl, rfl, true, rfl⟩ dX4_keepOut_68 hlocks
          · refine lv_aload_n hx hb dX4_keepOut_58 rfl (lv_at hl 0 rfl) ?_
            refine va_get (D := D) (ci := 4) (v := .ref (ad 23)) (C := RX4) (T := TX4) (N := 10) hx hb hts (inT inX4) hown hK hP 0 ww_0 rfl 3 (by decide) (hts (.fieldLink RX4 23 "BoardMoves" "limits" "LBoardMoves$Limits;") (List.mem_cons_of_mem _ flX4_23)) (fun _ h9 => h9) rfl dX4_keepOut_59 ?_
            refine bm_xcallV (As := []) (rest := []) ⟨hx, hb, hml, hown, hts⟩ (x_dropKO1 (li := (va_up li.1 li.2.2.2.2.2.2.2.2.1 z1, va_up li.2.1 li.2.2.2.2.2.2.2.2.1 z2, va_up li.2.2.1 li.2.2.2.2.2.2.2.2.1 z3, va_up li.2.2.2.1 li.2.2.2.2.2.2.2.2.1 z4, va_up li.2.2.2.2.1 li.2.2.2.2.2.2.2.2.1 z5, li.2.2.2.2.2.1, li.2.2.2.2.2.2.1, li.2.2.2.2.2.2.2.1, li.2.2.2.2.2.2.2.2.1 + 1, li.2.2.2.2.2.2.2.2.2))  (show li.2.2.2.2.2.2.2.2.1 + 1 ≤ 10 by omega)  (Nat.succ_pos _)) (cwV 0 hts gvX4_232 rfl rfl rfl hvX0_dropKeepOut ⟨Nat.le_of_ble_eq_true rfl, Nat.le_of_ble_eq_true rfl⟩) hK hP hD hS hA 23 0 rfl ww_23 rfl hl.1 rfl (Nat.le_of_ble_eq_true rfl) dX4_keepOut_62 ⟨Nat.le_of_ble_eq_true rfl, Nat.le_of_ble_eq_true rfl⟩ (fun ws_9 r_10 h_11 H locs hP hD hS => ?_)
            obtain ⟨rfl, rfl⟩ := h_11
            have hP : va_P D vwCl (WW ad cJ cI cZ bm pa p0 p1 p2 (va_up li.1 li.2.2.2.2.2.2.2.2.1 z1, va_up li.2.1 li.2.2.2.2.2.2.2.2.1 z2, va_up li.2.2.1 li.2.2.2.2.2.2.2.2.1 z3, va_up li.2.2.2.1 li.2.2.2.2.2.2.2.2.1 z4, va_up li.2.2.2.2.1 li.2.2.2.2.2.2.2.2.1 z5, li.2.2.2.2.2.1, li.2.2.2.2.2.2.1, li.2.2.2.2.2.2.2.1, (li.2.2.2.2.2.2.2.2.1 + 1) - 1, li.2.2.2.2.2.2.2.2.2) wi mt ms ma mp mk mn ou) H := hP
            have hD : va_D A (WW ad cJ cI cZ bm pa p0 p1 p2 (va_up li.1 li.2.2.2.2.2.2.2.2.1 z1, va_up li.2.1 li.2.2.2.2.2.2.2.2.1 z2, va_up li.2.2.1 li.2.2.2.2.2.2.2.2.1 z3, va_up li.2.2.2.1 li.2.2.2.2.2.2.2.2.1 z4, va_up li.2.2.2.2.1 li.2.2.2.2.2.2.2.2.1 z5, li.2.2.2.2.2.1, li.2.2.2.2.2.2.1, li.2.2.2.2.2.2.2.1, (li.2.2.2.2.2.2.2.2.1 + 1) - 1, li.2.2.2.2.2.2.2.2.2) wi mt ms ma mp mk mn ou) := hD
            refine lv_iconst (v := bm_b false) hx hb dX4_keepOut_65 (by decide) ?_
            exact bm_zretX (v := false) hx hb hr hP hD hK hS ⟨bm, pa, p0, p1, p2, (va_up li.1 li.2.2.2.2.2.2.2.2.1 z1, va_up li.2.1 li.2.2.2.2.2.2.2.2.1 z2, va_up li.2.2.1 li.2.2.2.2.2.2.2.2.1 z3, va_up li.2.2.2.1 li.2.2.2.2.2.2.2.2.1 z4, va_up li.2.2.2.2.1 li.2.2.2.2.2.2.2.2.1 z5, li.2.2.2.2.2.1, li.2.2.2.2.2.2.1, li.2.2.2.2.2.2.2.1, (li.2.2.2.2.2.2.2.2.1 + 1) - 1, li.2.2.2.2.2.2.2.2.2), wi, ou, ⟨ok_pa_n, ok_pa_side, ok_pa_lowest, ok_p0_turn, ok_p1_turn, ok_p2_turn, ok_li_one, ok_li_other, (show (li.2.2.2.2.2.2.2.2.1 + 1) - 1 ≤ 10 by omega), ok_li_nears, ok_wi_netOf, ok_wi_partOf, ok_wi_nets, ok_wi_pins, hw, hh, (INV_kod hI)⟩, rfl, rfl, false, rfl⟩ dX4_keepOut_66 hlocks
        · exact absurd c_7 (by decide)
  · exact absurd c_1 hv

set_option maxHeartbeats 16000000 in
set_option maxRecDepth 100000 in
theorem Z_ko2 {l : Launch} {D : va_G} {ad : Nat → Nat} {cJ cI cZ : ClassId} {bm : gBM} {pa : gPA} {p0 p1 p2 : gPL} {li : gLI} {wi : gWI} {mt : Nat} {ms : gMS} {ma : gMA} {mp : gMP} {mk : gMK} {mn : gMN} {ou : Nat → Int64} {z1 : Int64} {z2 : Int64} {z3 : Int64} {z4 : Int64} {z5 : Int64} (hok : okC bm pa p0 p1 p2 li wi) (hv : ¬ z5 < 0) (hq : li.2.2.2.2.2.2.2.2.1 = 10) : bm_Wx l yX4_keepOut wsX4_keepOut ({ frames := 1, cells := 0, slots := 0, locals := 30 }) D vwCl [(cJ, .long), (cI, .int), (cZ, .boolean)] (WW ad cJ cI cZ bm pa p0 p1 p2 li wi mt ms ma mp mk mn ou) [.ref (ad 0), .long z1, .long z2, .long z3, .long z4, .long z5] (PCZ ad cJ cI cZ bm pa p0 p1 p2 li wi mt ms ma mp mk mn ou) := by
  obtain ⟨ok_pa_n, ok_pa_side, ok_pa_lowest, ok_p0_turn, ok_p1_turn, ok_p2_turn, ok_li_one, ok_li_other, ok_li_keepOuts, ok_li_nears, ok_wi_netOf, ok_wi_partOf, ok_wi_nets, ok_wi_pins, hw, hh, hI⟩ := hok
  intro sz
  refine Met.ofW (cc := cX4_keepOut) (maxL := 11) (ret := (some .boolean)) (by decide) rfl ?_
  intro p e s m args below meth c s₁ B hml hv
  obtain ⟨ha, hsz, hP, hK, hD0⟩ := hv
  have hx := B.exec
  have hb := B.bytes
  have hr := B.returns
  have hts := atoms_spec (ws := wsX4_keepOut) B.pre
  have hown : s.vm.findClass RX4 = some m.cls := findClass_of_methodNamed B.named
  have hlocks := B.notSynchronized
  subst hsz
  have hD := hD0.self (sz := s.heap.size)
  generalize hAe : va_A (WW ad cJ cI cZ bm pa p0 p1 p2 li wi mt ms ma mp mk mn ou) s.heap.size = A at hD ⊢
  have hA : ∀ q : Nat, s.heap.size ≤ q → A q := fun q h => by rw [← hAe]; exact Or.inr h
  have hS : va_S A s.heap s.heap [] := va_S.rf
  have hl := lv_entry ([.ref (ad 0), .long z1, .long z2, .long z3, .long z4, .long z5]) (n := 11) (Nat.le_of_ble_eq_true rfl)
  refine W.eq (g2 := entryFrame m ([.ref (ad 0), .long z1, .long z2, .long z3, .long z4, .long z5] : List Value).toArray 11) (by rw [ha]) ?_
  rw [lg_entry_eq]
  generalize (lg_sl ([.ref (ad 0), .long z1, .long z2, .long z3, .long z4, .long z5]) ++ List.replicate (11 - (lg_sl ([.ref (ad 0), .long z1, .long z2, .long z3, .long z4, .long z5])).length) Slot.unset).toArray = ls at hl ⊢
  have hl : lv_has ls 11 [(0, .ref (ad 0)), (1, .long z1), (3, .long z2), (5, .long z3), (7, .long z4), (9, .long z5)] := hl
  refine lv_lload hx hb dX4_keepOut_0 (lv_at hl 5 rfl) ?_
  refine lv_lconst (v := 0) hx hb dX4_keepOut_2 (by decide) ?_
  refine bm_lc_ge (x := z5) (y := 0) (tgt := 17) hx hb dX4_keepOut_3 dX4_keepOut_4 (by decide) (fun c_1 => ?_) (fun c_1 => ?_)
  · refine lv_lload_n hx hb dX4_keepOut_17 rfl (lv_at hl 1 rfl) ?_
    refine lv_lload hx hb dX4_keepOut_18 (lv_at hl 3 rfl) ?_
    refine bm_lc_ge (x := z1) (y := z3) (tgt := 49) hx hb dX4_keepOut_20 dX4_keepOut_21 (by decide) (fun c_2 => ?_) (fun c_2 => ?_)
    · refine lv_iconst (v := bm_b false) hx hb dX4_keepOut_49 (by decide) ?_
      exact bm_zretX (v := false) hx hb hr hP hD hK hS ⟨bm, pa, p0, p1, p2, li, wi, ou, ⟨ok_pa_n, ok_pa_side, ok_pa_lowest, ok_p0_turn, ok_p1_turn, ok_p2_turn, ok_li_one, ok_li_other, ok_li_keepOuts, ok_li_nears, ok_wi_netOf, ok_wi_partOf, ok_wi_nets, ok_wi_pins, hw, hh, (INV_to hI rfl rfl rfl rfl rfl rfl rfl)⟩, rfl, rfl, false, rfl⟩ dX4_keepOut_50 hlocks
    · refine lv_lload_n hx hb dX4_keepOut_24 rfl (lv_at hl 2 rfl) ?_
      refine lv_lload hx hb dX4_keepOut_25 (lv_at hl 4 rfl) ?_
      refine bm_lc_ge (x := z2) (y := z4) (tgt := 49) hx hb dX4_keepOut_27 dX4_keepOut_28 (by decide) (fun c_3 => ?_) (fun c_3 => ?_)
      · refine lv_iconst (v := bm_b false) hx hb dX4_keepOut_49 (by decide) ?_
        exact bm_zretX (v := false) hx hb hr hP hD hK hS ⟨bm, pa, p0, p1, p2, li, wi, ou, ⟨ok_pa_n, ok_pa_side, ok_pa_lowest, ok_p0_turn, ok_p1_turn, ok_p2_turn, ok_li_one, ok_li_other, ok_li_keepOuts, ok_li_nears, ok_wi_netOf, ok_wi_partOf, ok_wi_nets, ok_wi_pins, hw, hh, (INV_to hI rfl rfl rfl rfl rfl rfl rfl)⟩, rfl, rfl, false, rfl⟩ dX4_keepOut_50 hlocks
      · refine lv_aload_n hx hb dX4_keepOut_31 rfl (lv_at hl 0 rfl) ?_
        refine va_get (D := D) (ci := 4) (v := .ref (ad 23)) (C := RX4) (T := TX4) (N := 10) hx hb hts (inT inX4) hown hK hP 0 ww_0 rfl 3 (by decide) (hts (.fieldLink RX4 23 "BoardMoves" "limits" "LBoardMoves$Limits;") (List.mem_cons_of_mem _ flX4_23)) (fun _ h9 => h9) rfl dX4_keepOut_32 ?_
        refine lv_lload_n hx hb dX4_keepOut_35 rfl (lv_at hl 1 rfl) ?_
        refine lv_lload_n hx hb dX4_keepOut_36 rfl (lv_at hl 2 rfl) ?_
        refine lv_lload hx hb dX4_keepOut_37 (lv_at hl 3 rfl) ?_
        refine lv_lload hx hb dX4_keepOut_39 (lv_at hl 4 rfl) ?_
        refine lv_lload hx hb dX4_keepOut_41 (lv_at hl 5 rfl) ?_
        refine bm_xcallV (As := [.long z1, .long z2, .long z3, .long z4, .long z5]) (rest := []) ⟨hx, hb, hml, hown, hts⟩ (x_addKO2  (z1 := z1) (z2 := z2) (z3 := z3) (z4 := z4) (z5 := z5) ok_li_keepOuts  hq) (cwV 5 hts gvX4_225 rfl rfl rfl hvX0_addKeepOut ⟨Nat.le_of_ble_eq_true rfl, Nat.le_of_ble_eq_true rfl⟩) hK hP hD hS hA 23 0 rfl ww_23 rfl hl.1 rfl (Nat.le_of_ble_eq_true rfl) dX4_keepOut_43 ⟨Nat.le_of_ble_eq_true rfl, Nat.le_of_ble_eq_true rfl⟩ (fun ws_4 r_5 h_6 H locs hP hD hS => ?_)
        obtain ⟨rfl, rfl⟩ := h_6
        have hP : va_P D vwCl (WW ad cJ cI cZ bm pa p0 p1 p2 li wi mt ms ma mp mk mn ou) H := hP
        have hD : va_D A (WW ad cJ cI cZ bm pa p0 p1 p2 li wi mt ms ma mp mk mn ou) := hD
        refine bm_zb_ne (x := false) (tgt := 51) hx hb dX4_keepOut_46 (by decide) (fun c_7 => ?_) (fun c_7 => ?_)
        · exact absurd c_7 (by decide)
        · refine lv_iconst (v := bm_b false) hx hb dX4_keepOut_49 (by decide) ?_
          exact bm_zretX (v := false) hx hb hr hP hD hK hS ⟨bm, pa, p0, p1, p2, li, wi, ou, ⟨ok_pa_n, ok_pa_side, ok_pa_lowest, ok_p0_turn, ok_p1_turn, ok_p2_turn, ok_li_one, ok_li_other, ok_li_keepOuts, ok_li_nears, ok_wi_netOf, ok_wi_partOf, ok_wi_nets, ok_wi_pins, hw, hh, (INV_to hI rfl rfl rfl rfl rfl rfl rfl)⟩, rfl, rfl, false, rfl⟩ dX4_keepOut_50 hlocks
  · exact absurd c_1 hv

set_option maxHeartbeats 16000000 in
set_option maxRecDepth 100000 in
theorem Z_clearT {l : Launch} {D : va_G} {ad : Nat → Nat} {cJ cI cZ : ClassId} {bm : gBM} {pa : gPA} {p0 p1 p2 : gPL} {li : gLI} {wi : gWI} {mt : Nat} {ms : gMS} {ma : gMA} {mp : gMP} {mk : gMK} {mn : gMN} {ou : Nat → Int64}  (hok : okC bm pa p0 p1 p2 li wi)  : bm_Wx l yX4_clear2 wsX4_clear2 ({ frames := 5, cells := 0, slots := 0, locals := 119 }) D vwCl [(cJ, .long), (cI, .int), (cZ, .boolean)] (WW ad cJ cI cZ bm pa p0 p1 p2 li wi mt ms ma mp mk mn ou) [.ref (ad 0)] (fun ws9 r9 => ∃ (bm9 : gBM) (pa9 : gPA) (p09 p19 p29 : gPL) (li9 : gLI) (wi9 : gWI) (ou9 : Nat → Int64), okC bm9 pa9 p09 p19 p29 li9 wi9 ∧ 0 = 0 ∧ ws9 = WW ad cJ cI cZ bm9 pa9 p09 p19 p29 li9 wi9 mt ms ma mp mk mn ou9 ∧ r9 = some (.int (bm_b true))) := by
  obtain ⟨ok_pa_n, ok_pa_side, ok_pa_lowest, ok_p0_turn, ok_p1_turn, ok_p2_turn, ok_li_one, ok_li_other, ok_li_keepOuts, ok_li_nears, ok_wi_netOf, ok_wi_partOf, ok_wi_nets, ok_wi_pins, hw, hh, hI⟩ := hok
  intro sz
  refine Met.ofW (cc := cX4_clear2) (maxL := 1) (ret := (some .boolean)) (by decide) rfl ?_
  intro p e s m args below meth c s₁ B hml hv
  obtain ⟨ha, hsz, hP, hK, hD0⟩ := hv
  have hx := B.exec
  have hb := B.bytes
  have hr := B.returns
  have hts := atoms_spec (ws := wsX4_clear2) B.pre
  have hown : s.vm.findClass RX4 = some m.cls := findClass_of_methodNamed B.named
  have hlocks := B.notSynchronized
  subst hsz
  have hD := hD0.self (sz := s.heap.size)
  generalize hAe : va_A (WW ad cJ cI cZ bm pa p0 p1 p2 li wi mt ms ma mp mk mn ou) s.heap.size = A at hD ⊢
  have hA : ∀ q : Nat, s.heap.size ≤ q → A q := fun q h => by rw [← hAe]; exact Or.inr h
  have hS : va_S A s.heap s.heap [] := va_S.rf
  have hl := lv_entry ([.ref (ad 0)]) (n := 1) (Nat.le_of_ble_eq_true rfl)
  refine W.eq (g2 := entryFrame m ([.ref (ad 0)] : List Value).toArray 1) (by rw [ha]) ?_
  rw [lg_entry_eq]
  generalize (lg_sl ([.ref (ad 0)]) ++ List.replicate (1 - (lg_sl ([.ref (ad 0)])).length) Slot.unset).toArray = ls at hl ⊢
  have hl : lv_has ls 1 [(0, .ref (ad 0))] := hl
  refine lv_aload_n hx hb dX4_clear2_0 rfl (lv_at hl 0 rfl) ?_
  refine bm_rcallV (As := []) (rest := []) ⟨hx, hb, hml, hown, hts⟩ (r_all  ⟨ok_pa_n, ok_pa_side, ok_pa_lowest⟩ ok_p0_turn ⟨ok_li_one, ok_li_other, ok_li_keepOuts, ok_li_nears⟩) (cwV 0 hts gvX4_229 rfl rfl rfl hvX4_allStandWell ⟨Nat.le_of_ble_eq_true rfl, Nat.le_of_ble_eq_true rfl⟩) hK hP 0 4 rfl ww_0 rfl hl.1 rfl (Nat.le_of_ble_eq_true rfl) dX4_clear2_1 ⟨Nat.le_of_ble_eq_true rfl, Nat.le_of_ble_eq_true rfl⟩ ?_
  exact bm_zretX (v := (q_allWell bm pa p0 li)) hx hb hr hP hD hK hS ⟨bm, pa, p0, p1, p2, li, wi, ou, ⟨ok_pa_n, ok_pa_side, ok_pa_lowest, ok_p0_turn, ok_p1_turn, ok_p2_turn, ok_li_one, ok_li_other, ok_li_keepOuts, ok_li_nears, ok_wi_netOf, ok_wi_partOf, ok_wi_nets, ok_wi_pins, hw, hh, (INV_to hI rfl rfl rfl rfl rfl rfl rfl)⟩, rfl, rfl, (by rw [inv_all hI])⟩ dX4_clear2_4 hlocks
