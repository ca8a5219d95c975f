set_option maxHeartbeats 16000000 in
set_option maxRecDepth 100000 in
theorem H_height {l : Launch} (hlt : l.stackTraces = false) {D : va_G} {ad : Nat → Nat} {cJ cI cZ : ClassId} {bm : gBM} {pa : gPA} {p0 p1 p2 : gPL} {li : gLI} {wi : gWI} {mt : Nat} {ms : gMS} {ma : gMA} {mp : gMP} {mk : gMK} {mn : gMN} {ou : Nat → Int64} {zA : Int32} {zB : Int64} (hok : okC bm pa p0 p1 p2 li wi) (sz : Nat) : Met l yL_height wsL_height ({ frames := 8, cells := 1, slots := 6, locals := 147 }) (bx_Hn D vwCl [(cJ, .long), (cI, .int), (cZ, .boolean)] (WW ad cJ cI cZ bm pa p0 p1 p2 li wi mt ms ma mp mk mn ou) [.ref (ad 0), .int zA, .long zB, .ref (ad 62)] sz) (bm_Wxq D vwCl [(cJ, .long), (cI, .int), (cZ, .boolean)] (PCI ad cJ cI cZ bm pa p0 p1 p2 li wi mt ms ma mp mk mn ou) (va_A (WW ad cJ cI cZ bm pa p0 p1 p2 li wi mt ms ma mp mk mn ou) sz)) 1 6 (va_A (WW ad cJ cI cZ bm pa p0 p1 p2 li wi mt ms ma mp mk mn ou) sz) := by
  have hok9 := hok
  obtain ⟨ok_pa_n, ok_pa_side, ok_pa_lowest, ok_p0_turn, ok_p1_turn, ok_p2_turn, ok_li_one, ok_li_other, ok_li_keepOuts, ok_li_nears, ok_wi_netOf, ok_wi_partOf, ok_wi_nets, ok_wi_pins, hw, hh⟩ := hok9
  refine bx_ofWH (cc := cL_height) (maxL := 6) (ret := (some .int)) (hs := [(0, 18, 21, 19), (0, 18, 25, 13)]) (by decide) rfl ?_
  intro p e s m args below meth c s₁ B hml htab hv
  obtain ⟨⟨ha, hsz, hP, hK, hD0, hX, hZ⟩, hN1, hN2⟩ := hv
  have hx := B.exec
  have hb := B.bytes
  have hr := B.returns
  have hts := atoms_spec (ws := wsL_height) B.pre
  have hown : s.vm.findClass RL = some m.cls := findClass_of_methodNamed B.named
  have hlocks := B.notSynchronized
  subst hsz
  have hD := hD0.self (sz := s.heap.size)
  generalize hAe : va_A (WW ad cJ cI cZ bm pa p0 p1 p2 li wi mt ms ma mp mk mn ou) s.heap.size = A at hD ⊢
  have hA : ∀ q : Nat, s.heap.size ≤ q → A q := fun q h => by rw [← hAe]; exact Or.inr h
  have hS : va_S A s.heap s.heap [] := va_S.rf
  rcases bx_idx zA (n := pa.2.2.2.2.2.2) (by omega) with ⟨k_zA, hk_zA, rfl⟩ | hno_zA
  · rcases Bool.eq_false_or_eq_true (q_ht zB) with hv | hv
    · have hl := lv_entry ([.ref (ad 0), .int (nI k_zA), .long zB, .ref (ad 62)]) (n := 6) (Nat.le_of_ble_eq_true rfl)
      refine W.eq (g2 := entryFrame m ([.ref (ad 0), .int (nI k_zA), .long zB, .ref (ad 62)] : List Value).toArray 6) (by rw [ha]) ?_
      rw [lg_entry_eq]
      generalize (lg_sl ([.ref (ad 0), .int (nI k_zA), .long zB, .ref (ad 62)]) ++ List.replicate (6 - (lg_sl ([.ref (ad 0), .int (nI k_zA), .long zB, .ref (ad 62)])).length) Slot.unset).toArray = ls at hl ⊢
      have hl : lv_has ls 6 [(0, .ref (ad 0)), (1, .int (nI k_zA)), (2, .long zB), (4, .ref (ad 62))] := hl
      refine lv_aload hx hb dL_height_0 (lv_at hl 3 rfl) ?_
      refine lv_iconst (v := nI 0) hx hb dL_height_2 (by decide) ?_
      refine lv_aload_n hx hb dL_height_3 rfl (lv_at hl 0 rfl) ?_
      refine lv_iload_n hx hb dL_height_4 rfl (lv_at hl 1 rfl) ?_
      refine lv_lload_n hx hb dL_height_5 rfl (lv_at hl 2 rfl) ?_
      refine bm_xcallV (As := [.int (nI k_zA), .long zB]) (rest := [.int (nI 0), .ref (ad 62)]) ⟨hx, hb, hml, hown, hts⟩ (Z_height  (zA := k_zA) hok hk_zA hv) (cwV 2 hts gwL_51 rfl rfl rfl hvX4_height ⟨Nat.le_of_ble_eq_true rfl, Nat.le_of_ble_eq_true rfl⟩) hK hP hD hS hA 0 4 rfl ww_0 rfl hl.1 rfl (Nat.le_of_ble_eq_true rfl) dL_height_6 ⟨Nat.le_of_ble_eq_true rfl, Nat.le_of_ble_eq_true rfl⟩ (fun ws_1 r_2 h_3 H locs hP hD hS => ?_)
      obtain ⟨bmn_4, pan_5, p0n_6, p1n_7, p2n_8, lin_9, win_10, oun_11, okn_12, hnn_13, rfl, v_14, rfl⟩ := h_3
      have hP : va_P D vwCl (WW ad cJ cI cZ bmn_4 pan_5 p0n_6 p1n_7 p2n_8 lin_9 win_10 mt ms ma mp mk mn oun_11) H := hP
      have hD : va_D A (WW ad cJ cI cZ bmn_4 pan_5 p0n_6 p1n_7 p2n_8 lin_9 win_10 mt ms ma mp mk mn oun_11) := hD
      refine bm_zb_eq (x := v_14) (tgt := 16) hx hb dL_height_9 (by decide) (fun c_15 => ?_) (fun c_15 => ?_)
      · refine lv_lconst (v := 0) hx hb dL_height_16 (by decide) ?_
        refine bm_last (f := oun_11) hx hb hK hP hD hS 62 0 ww_62 rfl (j := 0) (x := 0) (by omega) (by decide) dL_height_17 (fun H locs hP hD hS => ?_)
        have hP : va_P D vwCl (WW ad cJ cI cZ bmn_4 pan_5 p0n_6 p1n_7 p2n_8 lin_9 win_10 mt ms ma mp mk mn (va_up oun_11 0 0)) H := hP
        have hD : va_D A (WW ad cJ cI cZ bmn_4 pan_5 p0n_6 p1n_7 p2n_8 lin_9 win_10 mt ms ma mp mk mn (va_up oun_11 0 0)) := hD
        refine lv_goto (tgt := 29) hx hb dL_height_18 (by decide) ?_
        refine lv_iconst (v := nI 0) hx hb dL_height_29 (by decide) ?_
        refine W.widen (k := 1) (n := 6) (by decide) (by decide) ?_
        exact bm_iretX (v := (nI 0)) hx hb hr hP hD hK hS ⟨bmn_4, pan_5, p0n_6, p1n_7, p2n_8, lin_9, win_10, (va_up oun_11 0 0), okn_12, hnn_13, rfl, (nI 0), rfl⟩ dL_height_30 hlocks
      · refine lv_lconst (v := 1) hx hb dL_height_12 (by decide) ?_
        refine lv_goto (tgt := 17) hx hb dL_height_13 (by decide) ?_
        refine bm_last (f := oun_11) hx hb hK hP hD hS 62 0 ww_62 rfl (j := 0) (x := 1) (by omega) (by decide) dL_height_17 (fun H locs hP hD hS => ?_)
        have hP : va_P D vwCl (WW ad cJ cI cZ bmn_4 pan_5 p0n_6 p1n_7 p2n_8 lin_9 win_10 mt ms ma mp mk mn (va_up oun_11 0 1)) H := hP
        have hD : va_D A (WW ad cJ cI cZ bmn_4 pan_5 p0n_6 p1n_7 p2n_8 lin_9 win_10 mt ms ma mp mk mn (va_up oun_11 0 1)) := hD
        refine lv_goto (tgt := 29) hx hb dL_height_18 (by decide) ?_
        refine lv_iconst (v := nI 0) hx hb dL_height_29 (by decide) ?_
        refine W.widen (k := 1) (n := 6) (by decide) (by decide) ?_
        exact bm_iretX (v := (nI 0)) hx hb hr hP hD hK hS ⟨bmn_4, pan_5, p0n_6, p1n_7, p2n_8, lin_9, win_10, (va_up oun_11 0 1), okn_12, hnn_13, rfl, (nI 0), rfl⟩ dL_height_30 hlocks
    · have hl := lv_entry ([.ref (ad 0), .int (nI k_zA), .long zB, .ref (ad 62)]) (n := 6) (Nat.le_of_ble_eq_true rfl)
      refine W.eq (g2 := entryFrame m ([.ref (ad 0), .int (nI k_zA), .long zB, .ref (ad 62)] : List Value).toArray 6) (by rw [ha]) ?_
      rw [lg_entry_eq]
      generalize (lg_sl ([.ref (ad 0), .int (nI k_zA), .long zB, .ref (ad 62)]) ++ List.replicate (6 - (lg_sl ([.ref (ad 0), .int (nI k_zA), .long zB, .ref (ad 62)])).length) Slot.unset).toArray = ls at hl ⊢
      have hl : lv_has ls 6 [(0, .ref (ad 0)), (1, .int (nI k_zA)), (2, .long zB), (4, .ref (ad 62))] := hl
      refine lv_aload hx hb dL_height_0 (lv_at hl 3 rfl) ?_
      refine lv_iconst (v := nI 0) hx hb dL_height_2 (by decide) ?_
      refine lv_aload_n hx hb dL_height_3 rfl (lv_at hl 0 rfl) ?_
      refine lv_iload_n hx hb dL_height_4 rfl (lv_at hl 1 rfl) ?_
      refine lv_lload_n hx hb dL_height_5 rfl (lv_at hl 2 rfl) ?_
      refine bx_catch2 (name0 := "java/lang/IndexOutOfBoundsException") (name := "java/lang/IllegalArgumentException") (bx_tcallV (As := [.int (nI k_zA), .long zB]) (rest := [.int (nI 0), .ref (ad 62)]) ⟨hx, hb, hml, hown, hts⟩ (X_height2 hlt (zA := k_zA) ok_pa_n hk_zA hv) (cwV 2 hts gwL_51 rfl rfl rfl hvX4_height ⟨Nat.le_of_ble_eq_true rfl, Nat.le_of_ble_eq_true rfl⟩) hK hP hX hZ 0 4 rfl ww_0 rfl hl.1 rfl (Nat.le_of_ble_eq_true rfl) dL_height_6 ⟨Nat.le_of_ble_eq_true rfl, Nat.le_of_ble_eq_true rfl⟩) hown htab (by decide) (by decide) (by decide) (by decide) (hts (.classLink RL 19 "java/lang/IndexOutOfBoundsException") (by decide +kernel)) hN1 (hts (.classLink RL 13 "java/lang/IllegalArgumentException") (by decide +kernel)) (hX (.castable "java/lang/IllegalArgumentException" "java/lang/IllegalArgumentException") (by decide +kernel) _) (fun q9 H hz hh => ?_)
      have hP := bx_keepP hP hh
      have hS := bx_keepS hS hz hh
      refine lv_astore (lv' := [(5, .ref q9), (0, .ref (ad 0)), (1, .int (nI k_zA)), (2, .long zB), (4, .ref (ad 62))]) hx hb dL_height_25 hl (by decide) rfl (fun ls hl => ?_)
      refine lv_iconst (v := nI 2) hx hb dL_height_27 (by decide) ?_
      exact bm_iretX (v := (nI 2)) hx hb hr hP hD hK hS ⟨bm, pa, p0, p1, p2, li, wi, ou, hok, rfl, rfl, (nI 2), rfl⟩ dL_height_28 hlocks
  · have hl := lv_entry ([.ref (ad 0), .int zA, .long zB, .ref (ad 62)]) (n := 6) (Nat.le_of_ble_eq_true rfl)
    refine W.eq (g2 := entryFrame m ([.ref (ad 0), .int zA, .long zB, .ref (ad 62)] : List Value).toArray 6) (by rw [ha]) ?_
    rw [lg_entry_eq]
    generalize (lg_sl ([.ref (ad 0), .int zA, .long zB, .ref (ad 62)]) ++ List.replicate (6 - (lg_sl ([.ref (ad 0), .int zA, .long zB, .ref (ad 62)])).length) Slot.unset).toArray = ls at hl ⊢
    have hl : lv_has ls 6 [(0, .ref (ad 0)), (1, .int zA), (2, .long zB), (4, .ref (ad 62))] := hl
    refine lv_aload hx hb dL_height_0 (lv_at hl 3 rfl) ?_
    refine lv_iconst (v := nI 0) hx hb dL_height_2 (by decide) ?_
    refine lv_aload_n hx hb dL_height_3 rfl (lv_at hl 0 rfl) ?_
    refine lv_iload_n hx hb dL_height_4 rfl (lv_at hl 1 rfl) ?_
    refine lv_lload_n hx hb dL_height_5 rfl (lv_at hl 2 rfl) ?_
    refine bx_catch (name := "java/lang/IndexOutOfBoundsException") (bx_tcallV (As := [.int zA, .long zB]) (rest := [.int (nI 0), .ref (ad 62)]) ⟨hx, hb, hml, hown, hts⟩ (X_height1 hlt  hno_zA) (cwV 2 hts gwL_51 rfl rfl rfl hvX4_height ⟨Nat.le_of_ble_eq_true rfl, Nat.le_of_ble_eq_true rfl⟩) hK hP hX hZ 0 4 rfl ww_0 rfl hl.1 rfl (Nat.le_of_ble_eq_true rfl) dL_height_6 ⟨Nat.le_of_ble_eq_true rfl, Nat.le_of_ble_eq_true rfl⟩) hown htab (by decide) (by decide) (hts (.classLink RL 19 "java/lang/IndexOutOfBoundsException") (by decide +kernel)) (hX (.castable "java/lang/IndexOutOfBoundsException" "java/lang/IndexOutOfBoundsException") (by decide +kernel) _) (fun q9 H hz hh => ?_)
    have hP := bx_keepP hP hh
    have hS := bx_keepS hS hz hh
    refine lv_astore (lv' := [(5, .ref q9), (0, .ref (ad 0)), (1, .int zA), (2, .long zB), (4, .ref (ad 62))]) hx hb dL_height_21 hl (by decide) rfl (fun ls hl => ?_)
    refine lv_iconst (v := nI 1) hx hb dL_height_23 (by decide) ?_
    exact bm_iretX (v := (nI 1)) hx hb hr hP hD hK hS ⟨bm, pa, p0, p1, p2, li, wi, ou, hok, rfl, rfl, (nI 1), rfl⟩ dL_height_24 hlocks

set_option maxHeartbeats 16000000 in
set_option maxRecDepth 100000 in
theorem H_keepOut {l : Launch} (hlt : l.stackTraces = false) {D : va_G} {ad : Nat → Nat} {cJ cI cZ : ClassId} {bm : gBM} {pa : gPA} {p0 p1 p2 : gPL} {li : gLI} {wi : gWI} {mt : Nat} {ms : gMS} {ma : gMA} {mp : gMP} {mk : gMK} {mn : gMN} {ou : Nat → Int64} {zA : Int64} {zB : Int64} {zC : Int64} {zD : Int64} {zE : Int64} (hok : okC bm pa p0 p1 p2 li wi) (sz : Nat) : Met l yL_keepOut wsL_keepOut ({ frames := 7, cells := 1, slots := 6, locals := 149 }) (bx_Hn D vwCl [(cJ, .long), (cI, .int), (cZ, .boolean)] (WW ad cJ cI cZ bm pa p0 p1 p2 li wi mt ms ma mp mk mn ou) [.ref (ad 0), .long zA, .long zB, .long zC, .long zD, .long zE, .ref (ad 62)] sz) (bm_Wxq D vwCl [(cJ, .long), (cI, .int), (cZ, .boolean)] (PCI ad cJ cI cZ bm pa p0 p1 p2 li wi mt ms ma mp mk mn ou) (va_A (WW ad cJ cI cZ bm pa p0 p1 p2 li wi mt ms ma mp mk mn ou) sz)) 1 6 (va_A (WW ad cJ cI cZ bm pa p0 p1 p2 li wi mt ms ma mp mk mn ou) sz) := by
  have hok9 := hok
  obtain ⟨ok_pa_n, ok_pa_side, ok_pa_lowest, ok_p0_turn, ok_p1_turn, ok_p2_turn, ok_li_one, ok_li_other, ok_li_keepOuts, ok_li_nears, ok_wi_netOf, ok_wi_partOf, ok_wi_nets, ok_wi_pins, hw, hh⟩ := hok9
  refine bx_ofWH (cc := cL_keepOut) (maxL := 13) (ret := (some .int)) (hs := [(0, 24, 27, 13)]) (by decide) rfl ?_
  intro p e s m args below meth c s₁ B hml htab hv
  obtain ⟨⟨ha, hsz, hP, hK, hD0, hX, hZ⟩, hN1, hN2⟩ := hv
  have hx := B.exec
  have hb := B.bytes
  have hr := B.returns
  have hts := atoms_spec (ws := wsL_keepOut) B.pre
  have hown : s.vm.findClass RL = some m.cls := findClass_of_methodNamed B.named
  have hlocks := B.notSynchronized
  subst hsz
  have hD := hD0.self (sz := s.heap.size)
  generalize hAe : va_A (WW ad cJ cI cZ bm pa p0 p1 p2 li wi mt ms ma mp mk mn ou) s.heap.size = A at hD ⊢
  have hA : ∀ q : Nat, s.heap.size ≤ q → A q := fun q h => by rw [← hAe]; exact Or.inr h
  have hS : va_S A s.heap s.heap [] := va_S.rf
  by_cases hv : zE < 0
  · have hl := lv_entry ([.ref (ad 0), .long zA, .long zB, .long zC, .long zD, .long zE, .ref (ad 62)]) (n := 13) (Nat.le_of_ble_eq_true rfl)
    refine W.eq (g2 := entryFrame m ([.ref (ad 0), .long zA, .long zB, .long zC, .long zD, .long zE, .ref (ad 62)] : List Value).toArray 13) (by rw [ha]) ?_
    rw [lg_entry_eq]
    generalize (lg_sl ([.ref (ad 0), .long zA, .long zB, .long zC, .long zD, .long zE, .ref (ad 62)]) ++ List.replicate (13 - (lg_sl ([.ref (ad 0), .long zA, .long zB, .long zC, .long zD, .long zE, .ref (ad 62)])).length) Slot.unset).toArray = ls at hl ⊢
    have hl : lv_has ls 13 [(0, .ref (ad 0)), (1, .long zA), (3, .long zB), (5, .long zC), (7, .long zD), (9, .long zE), (11, .ref (ad 62))] := hl
    refine lv_aload hx hb dL_keepOut_0 (lv_at hl 6 rfl) ?_
    refine lv_iconst (v := nI 0) hx hb dL_keepOut_2 (by decide) ?_
    refine lv_aload_n hx hb dL_keepOut_3 rfl (lv_at hl 0 rfl) ?_
    refine lv_lload_n hx hb dL_keepOut_4 rfl (lv_at hl 1 rfl) ?_
    refine lv_lload_n hx hb dL_keepOut_5 rfl (lv_at hl 2 rfl) ?_
    refine lv_lload hx hb dL_keepOut_6 (lv_at hl 3 rfl) ?_
    refine lv_lload hx hb dL_keepOut_8 (lv_at hl 4 rfl) ?_
    refine lv_lload hx hb dL_keepOut_10 (lv_at hl 5 rfl) ?_
    refine bx_catch (name := "java/lang/IllegalArgumentException") (bx_tcallV (As := [.long zA, .long zB, .long zC, .long zD, .long zE]) (rest := [.int (nI 0), .ref (ad 62)]) ⟨hx, hb, hml, hown, hts⟩ (X_koX hlt  hv) (cwV 5 hts gwL_55 rfl rfl rfl hvX4_keepOut ⟨Nat.le_of_ble_eq_true rfl, Nat.le_of_ble_eq_true rfl⟩) hK hP hX hZ 0 4 rfl ww_0 rfl hl.1 rfl (Nat.le_of_ble_eq_true rfl) dL_keepOut_12 ⟨Nat.le_of_ble_eq_true rfl, Nat.le_of_ble_eq_true rfl⟩) hown htab (by decide) (by decide) (hts (.classLink RL 13 "java/lang/IllegalArgumentException") (by decide +kernel)) (hX (.castable "java/lang/IllegalArgumentException" "java/lang/IllegalArgumentException") (by decide +kernel) _) (fun q9 H hz hh => ?_)
    have hP := bx_keepP hP hh
    have hS := bx_keepS hS hz hh
    refine lv_astore (lv' := [(12, .ref q9), (0, .ref (ad 0)), (1, .long zA), (3, .long zB), (5, .long zC), (7, .long zD), (9, .long zE), (11, .ref (ad 62))]) hx hb dL_keepOut_27 hl (by decide) rfl (fun ls hl => ?_)
    refine lv_iconst (v := nI 1) hx hb dL_keepOut_29 (by decide) ?_
    exact bm_iretX (v := (nI 1)) hx hb hr hP hD hK hS ⟨bm, pa, p0, p1, p2, li, wi, ou, hok, rfl, rfl, (nI 1), rfl⟩ dL_keepOut_30 hlocks
  · rcases Nat.lt_or_eq_of_le ok_li_keepOuts with hq | hq
    · have hl := lv_entry ([.ref (ad 0), .long zA, .long zB, .long zC, .long zD, .long zE, .ref (ad 62)]) (n := 13) (Nat.le_of_ble_eq_true rfl)
      refine W.eq (g2 := entryFrame m ([.ref (ad 0), .long zA, .long zB, .long zC, .long zD, .long zE, .ref (ad 62)] : List Value).toArray 13) (by rw [ha]) ?_
      rw [lg_entry_eq]
      generalize (lg_sl ([.ref (ad 0), .long zA, .long zB, .long zC, .long zD, .long zE, .ref (ad 62)]) ++ List.replicate (13 - (lg_sl ([.ref (ad 0), .long zA, .long zB, .long zC, .long zD, .long zE, .ref (ad 62)])).length) Slot.unset).toArray = ls at hl ⊢
      have hl : lv_has ls 13 [(0, .ref (ad 0)), (1, .long zA), (3, .long zB), (5, .long zC), (7, .long zD), (9, .long zE), (11, .ref (ad 62))] := hl
      refine lv_aload hx hb dL_keepOut_0 (lv_at hl 6 rfl) ?_
      refine lv_iconst (v := nI 0) hx hb dL_keepOut_2 (by decide) ?_
      refine lv_aload_n hx hb dL_keepOut_3 rfl (lv_at hl 0 rfl) ?_
      refine lv_lload_n hx hb dL_keepOut_4 rfl (lv_at hl 1 rfl) ?_
      refine lv_lload_n hx hb dL_keepOut_5 rfl (lv_at hl 2 rfl) ?_
      refine lv_lload hx hb dL_keepOut_6 (lv_at hl 3 rfl) ?_
      refine lv_lload hx hb dL_keepOut_8 (lv_at hl 4 rfl) ?_
      refine lv_lload hx hb dL_keepOut_10 (lv_at hl 5 rfl) ?_
      refine bm_xcallV (As := [.long zA, .long zB, .long zC, .long zD, .long zE]) (rest := [.int (nI 0), .ref (ad 62)]) ⟨hx, hb, hml, hown, hts⟩ (Z_ko1   hok hv hq) (cwV 5 hts gwL_55 rfl rfl rfl hvX4_keepOut ⟨Nat.le_of_ble_eq_true rfl, Nat.le_of_ble_eq_true rfl⟩) hK hP hD hS hA 0 4 rfl ww_0 rfl hl.1 rfl (Nat.le_of_ble_eq_true rfl) dL_keepOut_12 ⟨Nat.le_of_ble_eq_true rfl, Nat.le_of_ble_eq_true rfl⟩ (fun ws_1 r_2 h_3 H locs hP hD hS => ?_)
      obtain ⟨bmn_4, pan_5, p0n_6, p1n_7, p2n_8, lin_9, win_10, oun_11, okn_12, hnn_13, rfl, v_14, rfl⟩ := h_3
      have hP : va_P D vwCl (WW ad cJ cI cZ bmn_4 pan_5 p0n_6 p1n_7 p2n_8 lin_9 win_10 mt ms ma mp mk mn oun_11) H := hP
      have hD : va_D A (WW ad cJ cI cZ bmn_4 pan_5 p0n_6 p1n_7 p2n_8 lin_9 win_10 mt ms ma mp mk mn oun_11) := hD
      refine bm_zb_eq (x := v_14) (tgt := 22) hx hb dL_keepOut_15 (by decide) (fun c_15 => ?_) (fun c_15 => ?_)
      · refine lv_lconst (v := 0) hx hb dL_keepOut_22 (by decide) ?_
        refine bm_last (f := oun_11) hx hb hK hP hD hS 62 0 ww_62 rfl (j := 0) (x := 0) (by omega) (by decide) dL_keepOut_23 (fun H locs hP hD hS => ?_)
        have hP : va_P D vwCl (WW ad cJ cI cZ bmn_4 pan_5 p0n_6 p1n_7 p2n_8 lin_9 win_10 mt ms ma mp mk mn (va_up oun_11 0 0)) H := hP
        have hD : va_D A (WW ad cJ cI cZ bmn_4 pan_5 p0n_6 p1n_7 p2n_8 lin_9 win_10 mt ms ma mp mk mn (va_up oun_11 0 0)) := hD
        refine lv_goto (tgt := 31) hx hb dL_keepOut_24 (by decide) ?_
        refine lv_iconst (v := nI 0) hx hb dL_keepOut_31 (by decide) ?_
        refine W.widen (k := 1) (n := 6) (by decide) (by decide) ?_
        exact bm_iretX (v := (nI 0)) hx hb hr hP hD hK hS ⟨bmn_4, pan_5, p0n_6, p1n_7, p2n_8, lin_9, win_10, (va_up oun_11 0 0), okn_12, hnn_13, rfl, (nI 0), rfl⟩ dL_keepOut_32 hlocks
      · refine lv_lconst (v := 1) hx hb dL_keepOut_18 (by decide) ?_
        refine lv_goto (tgt := 23) hx hb dL_keepOut_19 (by decide) ?_
        refine bm_last (f := oun_11) hx hb hK hP hD hS 62 0 ww_62 rfl (j := 0) (x := 1) (by omega) (by decide) dL_keepOut_23 (fun H locs hP hD hS => ?_)
        have hP : va_P D vwCl (WW ad cJ cI cZ bmn_4 pan_5 p0n_6 p1n_7 p2n_8 lin_9 win_10 mt ms ma mp mk mn (va_up oun_11 0 1)) H := hP
        have hD : va_D A (WW ad cJ cI cZ bmn_4 pan_5 p0n_6 p1n_7 p2n_8 lin_9 win_10 mt ms ma mp mk mn (va_up oun_11 0 1)) := hD
        refine lv_goto (tgt := 31) hx hb dL_keepOut_24 (by decide) ?_
        refine lv_iconst (v := nI 0) hx hb dL_keepOut_31 (by decide) ?_
        refine W.widen (k := 1) (n := 6) (by decide) (by decide) ?_
        exact bm_iretX (v := (nI 0)) hx hb hr hP hD hK hS ⟨bmn_4, pan_5, p0n_6, p1n_7, p2n_8, lin_9, win_10, (va_up oun_11 0 1), okn_12, hnn_13, rfl, (nI 0), rfl⟩ dL_keepOut_32 hlocks
    · have hl := lv_entry ([.ref (ad 0), .long zA, .long zB, .long zC, .long zD, .long zE, .ref (ad 62)]) (n := 13) (Nat.le_of_ble_eq_true rfl)
      refine W.eq (g2 := entryFrame m ([.ref (ad 0), .long zA, .long zB, .long zC, .long zD, .long zE, .ref (ad 62)] : List Value).toArray 13) (by rw [ha]) ?_
      rw [lg_entry_eq]
      generalize (lg_sl ([.ref (ad 0), .long zA, .long zB, .long zC, .long zD, .long zE, .ref (ad 62)]) ++ List.replicate (13 - (lg_sl ([.ref (ad 0), .long zA, .long zB, .long zC, .long zD, .long zE, .ref (ad 62)])).length) Slot.unset).toArray = ls at hl ⊢
      have hl : lv_has ls 13 [(0, .ref (ad 0)), (1, .long zA), (3, .long zB), (5, .long zC), (7, .long zD), (9, .long zE), (11, .ref (ad 62))] := hl
      refine lv_aload hx hb dL_keepOut_0 (lv_at hl 6 rfl) ?_
      refine lv_iconst (v := nI 0) hx hb dL_keepOut_2 (by decide) ?_
      refine lv_aload_n hx hb dL_keepOut_3 rfl (lv_at hl 0 rfl) ?_
      refine lv_lload_n hx hb dL_keepOut_4 rfl (lv_at hl 1 rfl) ?_
      refine lv_lload_n hx hb dL_keepOut_5 rfl (lv_at hl 2 rfl) ?_
      refine lv_lload hx hb dL_keepOut_6 (lv_at hl 3 rfl) ?_
      refine lv_lload hx hb dL_keepOut_8 (lv_at hl 4 rfl) ?_
      refine lv_lload hx hb dL_keepOut_10 (lv_at hl 5 rfl) ?_
      refine bm_xcallV (As := [.long zA, .long zB, .long zC, .long zD, .long zE]) (rest := [.int (nI 0), .ref (ad 62)]) ⟨hx, hb, hml, hown, hts⟩ (Z_ko2   hok hv hq) (cwV 5 hts gwL_55 rfl rfl rfl hvX4_keepOut ⟨Nat.le_of_ble_eq_true rfl, Nat.le_of_ble_eq_true rfl⟩) hK hP hD hS hA 0 4 rfl ww_0 rfl hl.1 rfl (Nat.le_of_ble_eq_true rfl) dL_keepOut_12 ⟨Nat.le_of_ble_eq_true rfl, Nat.le_of_ble_eq_true rfl⟩ (fun ws_16 r_17 h_18 H locs hP hD hS => ?_)
      obtain ⟨bmn_19, pan_20, p0n_21, p1n_22, p2n_23, lin_24, win_25, oun_26, okn_27, hnn_28, rfl, v_29, rfl⟩ := h_18
      have hP : va_P D vwCl (WW ad cJ cI cZ bmn_19 pan_20 p0n_21 p1n_22 p2n_23 lin_24 win_25 mt ms ma mp mk mn oun_26) H := hP
      have hD : va_D A (WW ad cJ cI cZ bmn_19 pan_20 p0n_21 p1n_22 p2n_23 lin_24 win_25 mt ms ma mp mk mn oun_26) := hD
      refine bm_zb_eq (x := v_29) (tgt := 22) hx hb dL_keepOut_15 (by decide) (fun c_30 => ?_) (fun c_30 => ?_)
      · refine lv_lconst (v := 0) hx hb dL_keepOut_22 (by decide) ?_
        refine bm_last (f := oun_26) hx hb hK hP hD hS 62 0 ww_62 rfl (j := 0) (x := 0) (by omega) (by decide) dL_keepOut_23 (fun H locs hP hD hS => ?_)
        have hP : va_P D vwCl (WW ad cJ cI cZ bmn_19 pan_20 p0n_21 p1n_22 p2n_23 lin_24 win_25 mt ms ma mp mk mn (va_up oun_26 0 0)) H := hP
        have hD : va_D A (WW ad cJ cI cZ bmn_19 pan_20 p0n_21 p1n_22 p2n_23 lin_24 win_25 mt ms ma mp mk mn (va_up oun_26 0 0)) := hD
        refine lv_goto (tgt := 31) hx hb dL_keepOut_24 (by decide) ?_
        refine lv_iconst (v := nI 0) hx hb dL_keepOut_31 (by decide) ?_
        refine W.widen (k := 1) (n := 6) (by decide) (by decide) ?_
        exact bm_iretX (v := (nI 0)) hx hb hr hP hD hK hS ⟨bmn_19, pan_20, p0n_21, p1n_22, p2n_23, lin_24, win_25, (va_up oun_26 0 0), okn_27, hnn_28, rfl, (nI 0), rfl⟩ dL_keepOut_32 hlocks
      · refine lv_lconst (v := 1) hx hb dL_keepOut_18 (by decide) ?_
        refine lv_goto (tgt := 23) hx hb dL_keepOut_19 (by decide) ?_
        refine bm_last (f := oun_26) hx hb hK hP hD hS 62 0 ww_62 rfl (j := 0) (x := 1) (by omega) (by decide) dL_keepOut_23 (fun H locs hP hD hS => ?_)
        have hP : va_P D vwCl (WW ad cJ cI cZ bmn_19 pan_20 p0n_21 p1n_22 p2n_23 lin_24 win_25 mt ms ma mp mk mn (va_up oun_26 0 1)) H := hP
        have hD : va_D A (WW ad cJ cI cZ bmn_19 pan_20 p0n_21 p1n_22 p2n_23 lin_24 win_25 mt ms ma mp mk mn (va_up oun_26 0 1)) := hD
        refine lv_goto (tgt := 31) hx hb dL_keepOut_24 (by decide) ?_
        refine lv_iconst (v := nI 0) hx hb dL_keepOut_31 (by decide) ?_
        refine W.widen (k := 1) (n := 6) (by decide) (by decide) ?_
        exact bm_iretX (v := (nI 0)) hx hb hr hP hD hK hS ⟨bmn_19, pan_20, p0n_21, p1n_22, p2n_23, lin_24, win_25, (va_up oun_26 0 1), okn_27, hnn_28, rfl, (nI 0), rfl⟩ dL_keepOut_32 hlocks

set_option maxHeartbeats 16000000 in
set_option maxRecDepth 100000 in
theorem H_side {l : Launch} (hlt : l.stackTraces = false) {D : va_G} {ad : Nat → Nat} {cJ cI cZ : ClassId} {bm : gBM} {pa : gPA} {p0 p1 p2 : gPL} {li : gLI} {wi : gWI} {mt : Nat} {ms : gMS} {ma : gMA} {mp : gMP} {mk : gMK} {mn : gMN} {ou : Nat → Int64} {zA : Int32} (hok : okC bm pa p0 p1 p2 li wi) (sz : Nat) : Met l yL_side wsL_side ({ frames := 8, cells := 1, slots := 6, locals := 143 }) (bx_Hn D vwCl [(cJ, .long), (cI, .int), (cZ, .boolean)] (WW ad cJ cI cZ bm pa p0 p1 p2 li wi mt ms ma mp mk mn ou) [.ref (ad 0), .int zA, .ref (ad 62)] sz) (bm_Wxq D vwCl [(cJ, .long), (cI, .int), (cZ, .boolean)] (PCI ad cJ cI cZ bm pa p0 p1 p2 li wi mt ms ma mp mk mn ou) (va_A (WW ad cJ cI cZ bm pa p0 p1 p2 li wi mt ms ma mp mk mn ou) sz)) 1 6 (va_A (WW ad cJ cI cZ bm pa p0 p1 p2 li wi mt ms ma mp mk mn ou) sz) := by
  have hok9 := hok
  obtain ⟨ok_pa_n, ok_pa_side, ok_pa_lowest, ok_p0_turn, ok_p1_turn, ok_p2_turn, ok_li_one, ok_li_other, ok_li_keepOuts, ok_li_nears, ok_wi_netOf, ok_wi_partOf, ok_wi_nets, ok_wi_pins, hw, hh⟩ := hok9
  refine bx_ofWH (cc := cL_side) (maxL := 4) (ret := (some .int)) (hs := [(0, 9, 12, 19)]) (by decide) rfl ?_
  intro p e s m args below meth c s₁ B hml htab hv
  obtain ⟨⟨ha, hsz, hP, hK, hD0, hX, hZ⟩, hN1, hN2⟩ := hv
  have hx := B.exec
  have hb := B.bytes
  have hr := B.returns
  have hts := atoms_spec (ws := wsL_side) B.pre
  have hown : s.vm.findClass RL = some m.cls := findClass_of_methodNamed B.named
  have hlocks := B.notSynchronized
  subst hsz
  have hD := hD0.self (sz := s.heap.size)
  generalize hAe : va_A (WW ad cJ cI cZ bm pa p0 p1 p2 li wi mt ms ma mp mk mn ou) s.heap.size = A at hD ⊢
  have hA : ∀ q : Nat, s.heap.size ≤ q → A q := fun q h => by rw [← hAe]; exact Or.inr h
  have hS : va_S A s.heap s.heap [] := va_S.rf
  rcases bx_idx zA (n := pa.2.2.2.2.2.2) (by omega) with ⟨k_zA, hk_zA, rfl⟩ | hno_zA
  · have hl := lv_entry ([.ref (ad 0), .int (nI k_zA), .ref (ad 62)]) (n := 4) (Nat.le_of_ble_eq_true rfl)
    refine W.eq (g2 := entryFrame m ([.ref (ad 0), .int (nI k_zA), .ref (ad 62)] : List Value).toArray 4) (by rw [ha]) ?_
    rw [lg_entry_eq]
    generalize (lg_sl ([.ref (ad 0), .int (nI k_zA), .ref (ad 62)]) ++ List.replicate (4 - (lg_sl ([.ref (ad 0), .int (nI k_zA), .ref (ad 62)])).length) Slot.unset).toArray = ls at hl ⊢
    have hl : lv_has ls 4 [(0, .ref (ad 0)), (1, .int (nI k_zA)), (2, .ref (ad 62))] := hl
    refine lv_aload_n hx hb dL_side_0 rfl (lv_at hl 2 rfl) ?_
    refine lv_iconst (v := nI 0) hx hb dL_side_1 (by decide) ?_
    refine lv_aload_n hx hb dL_side_2 rfl (lv_at hl 0 rfl) ?_
    refine lv_iload_n hx hb dL_side_3 rfl (lv_at hl 1 rfl) ?_
    refine bm_xcallV (As := [.int (nI k_zA)]) (rest := [.int (nI 0), .ref (ad 62)]) ⟨hx, hb, hml, hown, hts⟩ (Z_side  (zA := k_zA) hok hk_zA) (cwV 1 hts gwL_59 rfl rfl rfl hvX4_side ⟨Nat.le_of_ble_eq_true rfl, Nat.le_of_ble_eq_true rfl⟩) hK hP hD hS hA 0 4 rfl ww_0 rfl hl.1 rfl (Nat.le_of_ble_eq_true rfl) dL_side_4 ⟨Nat.le_of_ble_eq_true rfl, Nat.le_of_ble_eq_true rfl⟩ (fun ws_1 r_2 h_3 H locs hP hD hS => ?_)
    obtain ⟨bmn_4, pan_5, p0n_6, p1n_7, p2n_8, lin_9, win_10, oun_11, okn_12, hnn_13, rfl, v_14, rfl⟩ := h_3
    have hP : va_P D vwCl (WW ad cJ cI cZ bmn_4 pan_5 p0n_6 p1n_7 p2n_8 lin_9 win_10 mt ms ma mp mk mn oun_11) H := hP
    have hD : va_D A (WW ad cJ cI cZ bmn_4 pan_5 p0n_6 p1n_7 p2n_8 lin_9 win_10 mt ms ma mp mk mn oun_11) := hD
    refine lv_i2l (v := v_14.toInt64) hx hb dL_side_7 rfl ?_
    refine lv_topl (fun t_15 _ => ?_)
    refine bm_last (f := oun_11) hx hb hK hP hD hS 62 0 ww_62 rfl (j := 0) (x := t_15) (by omega) (by decide) dL_side_8 (fun H locs hP hD hS => ?_)
    have hP : va_P D vwCl (WW ad cJ cI cZ bmn_4 pan_5 p0n_6 p1n_7 p2n_8 lin_9 win_10 mt ms ma mp mk mn (va_up oun_11 0 t_15)) H := hP
    have hD : va_D A (WW ad cJ cI cZ bmn_4 pan_5 p0n_6 p1n_7 p2n_8 lin_9 win_10 mt ms ma mp mk mn (va_up oun_11 0 t_15)) := hD
    refine lv_goto (tgt := 15) hx hb dL_side_9 (by decide) ?_
    refine lv_iconst (v := nI 0) hx hb dL_side_15 (by decide) ?_
    refine W.widen (k := 1) (n := 6) (by decide) (by decide) ?_
    exact bm_iretX (v := (nI 0)) hx hb hr hP hD hK hS ⟨bmn_4, pan_5, p0n_6, p1n_7, p2n_8, lin_9, win_10, (va_up oun_11 0 t_15), okn_12, hnn_13, rfl, (nI 0), rfl⟩ dL_side_16 hlocks
  · have hl := lv_entry ([.ref (ad 0), .int zA, .ref (ad 62)]) (n := 4) (Nat.le_of_ble_eq_true rfl)
    refine W.eq (g2 := entryFrame m ([.ref (ad 0), .int zA, .ref (ad 62)] : List Value).toArray 4) (by rw [ha]) ?_
    rw [lg_entry_eq]
    generalize (lg_sl ([.ref (ad 0), .int zA, .ref (ad 62)]) ++ List.replicate (4 - (lg_sl ([.ref (ad 0), .int zA, .ref (ad 62)])).length) Slot.unset).toArray = ls at hl ⊢
    have hl : lv_has ls 4 [(0, .ref (ad 0)), (1, .int zA), (2, .ref (ad 62))] := hl
    refine lv_aload_n hx hb dL_side_0 rfl (lv_at hl 2 rfl) ?_
    refine lv_iconst (v := nI 0) hx hb dL_side_1 (by decide) ?_
    refine lv_aload_n hx hb dL_side_2 rfl (lv_at hl 0 rfl) ?_
    refine lv_iload_n hx hb dL_side_3 rfl (lv_at hl 1 rfl) ?_
    refine bx_catch (name := "java/lang/IndexOutOfBoundsException") (bx_tcallV (As := [.int zA]) (rest := [.int (nI 0), .ref (ad 62)]) ⟨hx, hb, hml, hown, hts⟩ (X_side1 hlt  hno_zA) (cwV 1 hts gwL_59 rfl rfl rfl hvX4_side ⟨Nat.le_of_ble_eq_true rfl, Nat.le_of_ble_eq_true rfl⟩) hK hP hX hZ 0 4 rfl ww_0 rfl hl.1 rfl (Nat.le_of_ble_eq_true rfl) dL_side_4 ⟨Nat.le_of_ble_eq_true rfl, Nat.le_of_ble_eq_true rfl⟩) hown htab (by decide) (by decide) (hts (.classLink RL 19 "java/lang/IndexOutOfBoundsException") (by decide +kernel)) (hX (.castable "java/lang/IndexOutOfBoundsException" "java/lang/IndexOutOfBoundsException") (by decide +kernel) _) (fun q9 H hz hh => ?_)
    have hP := bx_keepP hP hh
    have hS := bx_keepS hS hz hh
    refine lv_astore_n (lv' := [(3, .ref q9), (0, .ref (ad 0)), (1, .int zA), (2, .ref (ad 62))]) hx hb dL_side_12 rfl hl (by decide) rfl (fun ls hl => ?_)
    refine lv_iconst (v := nI 1) hx hb dL_side_13 (by decide) ?_
    exact bm_iretX (v := (nI 1)) hx hb hr hP hD hK hS ⟨bm, pa, p0, p1, p2, li, wi, ou, hok, rfl, rfl, (nI 1), rfl⟩ dL_side_14 hlocks
