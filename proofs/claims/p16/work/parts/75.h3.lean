set_option maxHeartbeats 16000000 in
set_option maxRecDepth 100000 in
theorem H_run {l : Launch} (hlt : l.stackTraces = false) {D : va_G} {ad : Nat → Nat} {cJ cI cZ : ClassId} {bm : gBM} {pa : gPA} {p0 p1 p2 : gPL} {li : gLI} {wi : gWI} {mt : Nat} {ms : gMS} {ma : gMA} {mp : gMP} {mk : gMK} {mn : gMN} {ou : Nat → Int64} {zA : Int64} (hok : okC bm pa p0 p1 p2 li wi) (sz : Nat) : Met l yL_run wsL_run ({ frames := 7, cells := 1, slots := 6, locals := 183 }) (bx_Hn D vwCl [(cJ, .long), (cI, .int), (cZ, .boolean)] (WW ad cJ cI cZ bm pa p0 p1 p2 li wi mt ms ma mp mk mn ou) [.ref (ad 0), .long zA, .ref (ad 62)] sz) (bm_Wxq D vwCl [(cJ, .long), (cI, .int), (cZ, .boolean)] (PCI ad cJ cI cZ bm pa p0 p1 p2 li wi mt ms ma mp mk mn ou) (va_A (WW ad cJ cI cZ bm pa p0 p1 p2 li wi mt ms ma mp mk mn ou) sz)) 1 6 (va_A (WW ad cJ cI cZ bm pa p0 p1 p2 li wi mt ms ma mp mk mn ou) sz) := by
  have hok9 := hok
  obtain ⟨ok_pa_n, ok_pa_side, ok_pa_lowest, ok_p0_turn, ok_p1_turn, ok_p2_turn, ok_li_one, ok_li_other, ok_li_keepOuts, ok_li_nears, ok_wi_netOf, ok_wi_partOf, ok_wi_nets, ok_wi_pins, hw, hh⟩ := hok9
  refine bx_ofWH (cc := cL_run) (maxL := 5) (ret := (some .int)) (hs := [(0, 9, 12, 13)]) (by decide) rfl ?_
  intro p e s m args below meth c s₁ B hml htab hv
  obtain ⟨⟨ha, hsz, hP, hK, hD0, hX, hZ⟩, hN1, hN2⟩ := hv
  have hx := B.exec
  have hb := B.bytes
  have hr := B.returns
  have hts := atoms_spec (ws := wsL_run) B.pre
  have hown : s.vm.findClass RL = some m.cls := findClass_of_methodNamed B.named
  have hlocks := B.notSynchronized
  subst hsz
  have hD := hD0.self (sz := s.heap.size)
  generalize hAe : va_A (WW ad cJ cI cZ bm pa p0 p1 p2 li wi mt ms ma mp mk mn ou) s.heap.size = A at hD ⊢
  have hA : ∀ q : Nat, s.heap.size ≤ q → A q := fun q h => by rw [← hAe]; exact Or.inr h
  have hS : va_S A s.heap s.heap [] := va_S.rf
  rcases bx_stp zA with ⟨k_zA, hk_zA, rfl⟩ | hno_zA
  · have hl := lv_entry ([.ref (ad 0), .long (lN k_zA), .ref (ad 62)]) (n := 5) (Nat.le_of_ble_eq_true rfl)
    refine W.eq (g2 := entryFrame m ([.ref (ad 0), .long (lN k_zA), .ref (ad 62)] : List Value).toArray 5) (by rw [ha]) ?_
    rw [lg_entry_eq]
    generalize (lg_sl ([.ref (ad 0), .long (lN k_zA), .ref (ad 62)]) ++ List.replicate (5 - (lg_sl ([.ref (ad 0), .long (lN k_zA), .ref (ad 62)])).length) Slot.unset).toArray = ls at hl ⊢
    have hl : lv_has ls 5 [(0, .ref (ad 0)), (1, .long (lN k_zA)), (3, .ref (ad 62))] := hl
    refine lv_aload_n hx hb dL_run_0 rfl (lv_at hl 2 rfl) ?_
    refine lv_iconst (v := nI 0) hx hb dL_run_1 (by decide) ?_
    refine lv_aload_n hx hb dL_run_2 rfl (lv_at hl 0 rfl) ?_
    refine lv_lload_n hx hb dL_run_3 rfl (lv_at hl 1 rfl) ?_
    refine bm_xcallV (As := [.long (lN k_zA)]) (rest := [.int (nI 0), .ref (ad 62)]) ⟨hx, hb, hml, hown, hts⟩ (Z_run  (zA := k_zA) hok hk_zA) (cwV 1 hts gwL_39 rfl rfl rfl hvX4_run ⟨Nat.le_of_ble_eq_true rfl, Nat.le_of_ble_eq_true rfl⟩) hK hP hD hS hA 0 4 rfl ww_0 rfl hl.1 rfl (Nat.le_of_ble_eq_true rfl) dL_run_4 ⟨Nat.le_of_ble_eq_true rfl, Nat.le_of_ble_eq_true rfl⟩ (fun ws_1 r_2 h_3 H locs hP hD hS => ?_)
    obtain ⟨bmn_4, pan_5, p0n_6, p1n_7, p2n_8, lin_9, win_10, oun_11, okn_12, hnn_13, rfl, v_14, rfl⟩ := h_3
    have hP : va_P D vwCl (WW ad cJ cI cZ bmn_4 pan_5 p0n_6 p1n_7 p2n_8 lin_9 win_10 mt ms ma mp mk mn oun_11) H := hP
    have hD : va_D A (WW ad cJ cI cZ bmn_4 pan_5 p0n_6 p1n_7 p2n_8 lin_9 win_10 mt ms ma mp mk mn oun_11) := hD
    refine lv_i2l (v := v_14.toInt64) hx hb dL_run_7 rfl ?_
    refine lv_topl (fun t_15 _ => ?_)
    refine bm_last (f := oun_11) hx hb hK hP hD hS 62 0 ww_62 rfl (j := 0) (x := t_15) (by omega) (by decide) dL_run_8 (fun H locs hP hD hS => ?_)
    have hP : va_P D vwCl (WW ad cJ cI cZ bmn_4 pan_5 p0n_6 p1n_7 p2n_8 lin_9 win_10 mt ms ma mp mk mn (va_up oun_11 0 t_15)) H := hP
    have hD : va_D A (WW ad cJ cI cZ bmn_4 pan_5 p0n_6 p1n_7 p2n_8 lin_9 win_10 mt ms ma mp mk mn (va_up oun_11 0 t_15)) := hD
    refine lv_goto (tgt := 16) hx hb dL_run_9 (by decide) ?_
    refine lv_iconst (v := nI 0) hx hb dL_run_16 (by decide) ?_
    refine W.widen (k := 1) (n := 6) (by decide) (by decide) ?_
    exact bm_iretX (v := (nI 0)) hx hb hr hP hD hK hS ⟨bmn_4, pan_5, p0n_6, p1n_7, p2n_8, lin_9, win_10, (va_up oun_11 0 t_15), okn_12, hnn_13, rfl, (nI 0), rfl⟩ dL_run_17 hlocks
  · have hl := lv_entry ([.ref (ad 0), .long zA, .ref (ad 62)]) (n := 5) (Nat.le_of_ble_eq_true rfl)
    refine W.eq (g2 := entryFrame m ([.ref (ad 0), .long zA, .ref (ad 62)] : List Value).toArray 5) (by rw [ha]) ?_
    rw [lg_entry_eq]
    generalize (lg_sl ([.ref (ad 0), .long zA, .ref (ad 62)]) ++ List.replicate (5 - (lg_sl ([.ref (ad 0), .long zA, .ref (ad 62)])).length) Slot.unset).toArray = ls at hl ⊢
    have hl : lv_has ls 5 [(0, .ref (ad 0)), (1, .long zA), (3, .ref (ad 62))] := hl
    refine lv_aload_n hx hb dL_run_0 rfl (lv_at hl 2 rfl) ?_
    refine lv_iconst (v := nI 0) hx hb dL_run_1 (by decide) ?_
    refine lv_aload_n hx hb dL_run_2 rfl (lv_at hl 0 rfl) ?_
    refine lv_lload_n hx hb dL_run_3 rfl (lv_at hl 1 rfl) ?_
    refine bx_catch (name := "java/lang/IllegalArgumentException") (bx_tcallV (As := [.long zA]) (rest := [.int (nI 0), .ref (ad 62)]) ⟨hx, hb, hml, hown, hts⟩ (X_runX hlt  hno_zA) (cwV 1 hts gwL_39 rfl rfl rfl hvX4_run ⟨Nat.le_of_ble_eq_true rfl, Nat.le_of_ble_eq_true rfl⟩) hK hP hX hZ 0 4 rfl ww_0 rfl hl.1 rfl (Nat.le_of_ble_eq_true rfl) dL_run_4 ⟨Nat.le_of_ble_eq_true rfl, Nat.le_of_ble_eq_true rfl⟩) hown htab (by decide) (by decide) (hts (.classLink RL 13 "java/lang/IllegalArgumentException") (by decide +kernel)) (hX (.castable "java/lang/IllegalArgumentException" "java/lang/IllegalArgumentException") (by decide +kernel) _) (fun q9 H hz hh => ?_)
    have hP := bx_keepP hP hh
    have hS := bx_keepS hS hz hh
    refine lv_astore (lv' := [(4, .ref q9), (0, .ref (ad 0)), (1, .long zA), (3, .ref (ad 62))]) hx hb dL_run_12 hl (by decide) rfl (fun ls hl => ?_)
    refine lv_iconst (v := nI 1) hx hb dL_run_14 (by decide) ?_
    exact bm_iretX (v := (nI 1)) hx hb hr hP hD hK hS ⟨bm, pa, p0, p1, p2, li, wi, ou, hok, rfl, rfl, (nI 1), rfl⟩ dL_run_15 hlocks

set_option maxHeartbeats 16000000 in
set_option maxRecDepth 100000 in
theorem H_near {l : Launch} (hlt : l.stackTraces = false) {D : va_G} {ad : Nat → Nat} {cJ cI cZ : ClassId} {bm : gBM} {pa : gPA} {p0 p1 p2 : gPL} {li : gLI} {wi : gWI} {mt : Nat} {ms : gMS} {ma : gMA} {mp : gMP} {mk : gMK} {mn : gMN} {ou : Nat → Int64} {zA : Int32} {zB : Int32} {zC : Int64} (hok : okC bm pa p0 p1 p2 li wi) (sz : Nat) : Met l yL_near wsL_near ({ frames := 8, cells := 1, slots := 6, locals := 146 }) (bx_Hn D vwCl [(cJ, .long), (cI, .int), (cZ, .boolean)] (WW ad cJ cI cZ bm pa p0 p1 p2 li wi mt ms ma mp mk mn ou) [.ref (ad 0), .int zA, .int zB, .long zC, .ref (ad 62)] sz) (bm_Wxq D vwCl [(cJ, .long), (cI, .int), (cZ, .boolean)] (PCI ad cJ cI cZ bm pa p0 p1 p2 li wi mt ms ma mp mk mn ou) (va_A (WW ad cJ cI cZ bm pa p0 p1 p2 li wi mt ms ma mp mk mn ou) sz)) 1 6 (va_A (WW ad cJ cI cZ bm pa p0 p1 p2 li wi mt ms ma mp mk mn ou) sz) := by
  have hok9 := hok
  obtain ⟨ok_pa_n, ok_pa_side, ok_pa_lowest, ok_p0_turn, ok_p1_turn, ok_p2_turn, ok_li_one, ok_li_other, ok_li_keepOuts, ok_li_nears, ok_wi_netOf, ok_wi_partOf, ok_wi_nets, ok_wi_pins, hw, hh⟩ := hok9
  refine bx_ofWH (cc := cL_near) (maxL := 7) (ret := (some .int)) (hs := [(0, 19, 22, 19), (0, 19, 26, 13)]) (by decide) rfl ?_
  intro p e s m args below meth c s₁ B hml htab hv
  obtain ⟨⟨ha, hsz, hP, hK, hD0, hX, hZ⟩, hN1, hN2⟩ := hv
  have hx := B.exec
  have hb := B.bytes
  have hr := B.returns
  have hts := atoms_spec (ws := wsL_near) B.pre
  have hown : s.vm.findClass RL = some m.cls := findClass_of_methodNamed B.named
  have hlocks := B.notSynchronized
  subst hsz
  have hD := hD0.self (sz := s.heap.size)
  generalize hAe : va_A (WW ad cJ cI cZ bm pa p0 p1 p2 li wi mt ms ma mp mk mn ou) s.heap.size = A at hD ⊢
  have hA : ∀ q : Nat, s.heap.size ≤ q → A q := fun q h => by rw [← hAe]; exact Or.inr h
  have hS : va_S A s.heap s.heap [] := va_S.rf
  rcases bx_idx zA (n := pa.2.2.2.2.2.2) (by omega) with ⟨k_zA, hk_zA, rfl⟩ | hno_zA
  · rcases bx_idx zB (n := pa.2.2.2.2.2.2) (by omega) with ⟨k_zB, hk_zB, rfl⟩ | hno_zB
    · by_cases hv : zC < 0
      · have hl := lv_entry ([.ref (ad 0), .int (nI k_zA), .int (nI k_zB), .long zC, .ref (ad 62)]) (n := 7) (Nat.le_of_ble_eq_true rfl)
        refine W.eq (g2 := entryFrame m ([.ref (ad 0), .int (nI k_zA), .int (nI k_zB), .long zC, .ref (ad 62)] : List Value).toArray 7) (by rw [ha]) ?_
        rw [lg_entry_eq]
        generalize (lg_sl ([.ref (ad 0), .int (nI k_zA), .int (nI k_zB), .long zC, .ref (ad 62)]) ++ List.replicate (7 - (lg_sl ([.ref (ad 0), .int (nI k_zA), .int (nI k_zB), .long zC, .ref (ad 62)])).length) Slot.unset).toArray = ls at hl ⊢
        have hl : lv_has ls 7 [(0, .ref (ad 0)), (1, .int (nI k_zA)), (2, .int (nI k_zB)), (3, .long zC), (5, .ref (ad 62))] := hl
        refine lv_aload hx hb dL_near_0 (lv_at hl 4 rfl) ?_
        refine lv_iconst (v := nI 0) hx hb dL_near_2 (by decide) ?_
        refine lv_aload_n hx hb dL_near_3 rfl (lv_at hl 0 rfl) ?_
        refine lv_iload_n hx hb dL_near_4 rfl (lv_at hl 1 rfl) ?_
        refine lv_iload_n hx hb dL_near_5 rfl (lv_at hl 2 rfl) ?_
        refine lv_lload_n hx hb dL_near_6 rfl (lv_at hl 3 rfl) ?_
        refine bx_catch2 (name0 := "java/lang/IndexOutOfBoundsException") (name := "java/lang/IllegalArgumentException") (bx_tcallV (As := [.int (nI k_zA), .int (nI k_zB), .long zC]) (rest := [.int (nI 0), .ref (ad 62)]) ⟨hx, hb, hml, hown, hts⟩ (X_near3 hlt (zA := k_zA) (zB := k_zB) ok_pa_n hk_zA hk_zB hv) (cwV 3 hts gwL_43 rfl rfl rfl hvX4_near ⟨Nat.le_of_ble_eq_true rfl, Nat.le_of_ble_eq_true rfl⟩) hK hP hX hZ 0 4 rfl ww_0 rfl hl.1 rfl (Nat.le_of_ble_eq_true rfl) dL_near_7 ⟨Nat.le_of_ble_eq_true rfl, Nat.le_of_ble_eq_true rfl⟩) hown htab (by decide) (by decide) (by decide) (by decide) (hts (.classLink RL 19 "java/lang/IndexOutOfBoundsException") (by decide +kernel)) hN1 (hts (.classLink RL 13 "java/lang/IllegalArgumentException") (by decide +kernel)) (hX (.castable "java/lang/IllegalArgumentException" "java/lang/IllegalArgumentException") (by decide +kernel) _) (fun q9 H hz hh => ?_)
        have hP := bx_keepP hP hh
        have hS := bx_keepS hS hz hh
        refine lv_astore (lv' := [(6, .ref q9), (0, .ref (ad 0)), (1, .int (nI k_zA)), (2, .int (nI k_zB)), (3, .long zC), (5, .ref (ad 62))]) hx hb dL_near_26 hl (by decide) rfl (fun ls hl => ?_)
        refine lv_iconst (v := nI 2) hx hb dL_near_28 (by decide) ?_
        exact bm_iretX (v := (nI 2)) hx hb hr hP hD hK hS ⟨bm, pa, p0, p1, p2, li, wi, ou, hok, rfl, rfl, (nI 2), rfl⟩ dL_near_29 hlocks
      · rcases Nat.lt_or_eq_of_le ok_li_nears with hq | hq
        · have hl := lv_entry ([.ref (ad 0), .int (nI k_zA), .int (nI k_zB), .long zC, .ref (ad 62)]) (n := 7) (Nat.le_of_ble_eq_true rfl)
          refine W.eq (g2 := entryFrame m ([.ref (ad 0), .int (nI k_zA), .int (nI k_zB), .long zC, .ref (ad 62)] : List Value).toArray 7) (by rw [ha]) ?_
          rw [lg_entry_eq]
          generalize (lg_sl ([.ref (ad 0), .int (nI k_zA), .int (nI k_zB), .long zC, .ref (ad 62)]) ++ List.replicate (7 - (lg_sl ([.ref (ad 0), .int (nI k_zA), .int (nI k_zB), .long zC, .ref (ad 62)])).length) Slot.unset).toArray = ls at hl ⊢
          have hl : lv_has ls 7 [(0, .ref (ad 0)), (1, .int (nI k_zA)), (2, .int (nI k_zB)), (3, .long zC), (5, .ref (ad 62))] := hl
          refine lv_aload hx hb dL_near_0 (lv_at hl 4 rfl) ?_
          refine lv_iconst (v := nI 0) hx hb dL_near_2 (by decide) ?_
          refine lv_aload_n hx hb dL_near_3 rfl (lv_at hl 0 rfl) ?_
          refine lv_iload_n hx hb dL_near_4 rfl (lv_at hl 1 rfl) ?_
          refine lv_iload_n hx hb dL_near_5 rfl (lv_at hl 2 rfl) ?_
          refine lv_lload_n hx hb dL_near_6 rfl (lv_at hl 3 rfl) ?_
          refine bm_xcallV (As := [.int (nI k_zA), .int (nI k_zB), .long zC]) (rest := [.int (nI 0), .ref (ad 62)]) ⟨hx, hb, hml, hown, hts⟩ (Z_near1  (zA := k_zA) (zB := k_zB) hok hk_zA hk_zB hv hq) (cwV 3 hts gwL_43 rfl rfl rfl hvX4_near ⟨Nat.le_of_ble_eq_true rfl, Nat.le_of_ble_eq_true rfl⟩) hK hP hD hS hA 0 4 rfl ww_0 rfl hl.1 rfl (Nat.le_of_ble_eq_true rfl) dL_near_7 ⟨Nat.le_of_ble_eq_true rfl, Nat.le_of_ble_eq_true rfl⟩ (fun ws_1 r_2 h_3 H locs hP hD hS => ?_)
          obtain ⟨bmn_4, pan_5, p0n_6, p1n_7, p2n_8, lin_9, win_10, oun_11, okn_12, hnn_13, rfl, v_14, rfl⟩ := h_3
          have hP : va_P D vwCl (WW ad cJ cI cZ bmn_4 pan_5 p0n_6 p1n_7 p2n_8 lin_9 win_10 mt ms ma mp mk mn oun_11) H := hP
          have hD : va_D A (WW ad cJ cI cZ bmn_4 pan_5 p0n_6 p1n_7 p2n_8 lin_9 win_10 mt ms ma mp mk mn oun_11) := hD
          refine bm_zb_eq (x := v_14) (tgt := 17) hx hb dL_near_10 (by decide) (fun c_15 => ?_) (fun c_15 => ?_)
          · refine lv_lconst (v := 0) hx hb dL_near_17 (by decide) ?_
            refine bm_last (f := oun_11) hx hb hK hP hD hS 62 0 ww_62 rfl (j := 0) (x := 0) (by omega) (by decide) dL_near_18 (fun H locs hP hD hS => ?_)
            have hP : va_P D vwCl (WW ad cJ cI cZ bmn_4 pan_5 p0n_6 p1n_7 p2n_8 lin_9 win_10 mt ms ma mp mk mn (va_up oun_11 0 0)) H := hP
            have hD : va_D A (WW ad cJ cI cZ bmn_4 pan_5 p0n_6 p1n_7 p2n_8 lin_9 win_10 mt ms ma mp mk mn (va_up oun_11 0 0)) := hD
            refine lv_goto (tgt := 30) hx hb dL_near_19 (by decide) ?_
            refine lv_iconst (v := nI 0) hx hb dL_near_30 (by decide) ?_
            refine W.widen (k := 1) (n := 6) (by decide) (by decide) ?_
            exact bm_iretX (v := (nI 0)) hx hb hr hP hD hK hS ⟨bmn_4, pan_5, p0n_6, p1n_7, p2n_8, lin_9, win_10, (va_up oun_11 0 0), okn_12, hnn_13, rfl, (nI 0), rfl⟩ dL_near_31 hlocks
          · refine lv_lconst (v := 1) hx hb dL_near_13 (by decide) ?_
            refine lv_goto (tgt := 18) hx hb dL_near_14 (by decide) ?_
            refine bm_last (f := oun_11) hx hb hK hP hD hS 62 0 ww_62 rfl (j := 0) (x := 1) (by omega) (by decide) dL_near_18 (fun H locs hP hD hS => ?_)
            have hP : va_P D vwCl (WW ad cJ cI cZ bmn_4 pan_5 p0n_6 p1n_7 p2n_8 lin_9 win_10 mt ms ma mp mk mn (va_up oun_11 0 1)) H := hP
            have hD : va_D A (WW ad cJ cI cZ bmn_4 pan_5 p0n_6 p1n_7 p2n_8 lin_9 win_10 mt ms ma mp mk mn (va_up oun_11 0 1)) := hD
            refine lv_goto (tgt := 30) hx hb dL_near_19 (by decide) ?_
            refine lv_iconst (v := nI 0) hx hb dL_near_30 (by decide) ?_
            refine W.widen (k := 1) (n := 6) (by decide) (by decide) ?_
            exact bm_iretX (v := (nI 0)) hx hb hr hP hD hK hS ⟨bmn_4, pan_5, p0n_6, p1n_7, p2n_8, lin_9, win_10, (va_up oun_11 0 1), okn_12, hnn_13, rfl, (nI 0), rfl⟩ dL_near_31 hlocks
        · have hl := lv_entry ([.ref (ad 0), .int (nI k_zA), .int (nI k_zB), .long zC, .ref (ad 62)]) (n := 7) (Nat.le_of_ble_eq_true rfl)
          refine W.eq (g2 := entryFrame m ([.ref (ad 0), .int (nI k_zA), .int (nI k_zB), .long zC, .ref (ad 62)] : List Value).toArray 7) (by rw [ha]) ?_
          rw [lg_entry_eq]
          generalize (lg_sl ([.ref (ad 0), .int (nI k_zA), .int (nI k_zB), .long zC, .ref (ad 62)]) ++ List.replicate (7 - (lg_sl ([.ref (ad 0), .int (nI k_zA), .int (nI k_zB), .long zC, .ref (ad 62)])).length) Slot.unset).toArray = ls at hl ⊢
          have hl : lv_has ls 7 [(0, .ref (ad 0)), (1, .int (nI k_zA)), (2, .int (nI k_zB)), (3, .long zC), (5, .ref (ad 62))] := hl
          refine lv_aload hx hb dL_near_0 (lv_at hl 4 rfl) ?_
          refine lv_iconst (v := nI 0) hx hb dL_near_2 (by decide) ?_
          refine lv_aload_n hx hb dL_near_3 rfl (lv_at hl 0 rfl) ?_
          refine lv_iload_n hx hb dL_near_4 rfl (lv_at hl 1 rfl) ?_
          refine lv_iload_n hx hb dL_near_5 rfl (lv_at hl 2 rfl) ?_
          refine lv_lload_n hx hb dL_near_6 rfl (lv_at hl 3 rfl) ?_
          refine bm_xcallV (As := [.int (nI k_zA), .int (nI k_zB), .long zC]) (rest := [.int (nI 0), .ref (ad 62)]) ⟨hx, hb, hml, hown, hts⟩ (Z_near2  (zA := k_zA) (zB := k_zB) hok hk_zA hk_zB hv hq) (cwV 3 hts gwL_43 rfl rfl rfl hvX4_near ⟨Nat.le_of_ble_eq_true rfl, Nat.le_of_ble_eq_true rfl⟩) hK hP hD hS hA 0 4 rfl ww_0 rfl hl.1 rfl (Nat.le_of_ble_eq_true rfl) dL_near_7 ⟨Nat.le_of_ble_eq_true rfl, Nat.le_of_ble_eq_true rfl⟩ (fun ws_16 r_17 h_18 H locs hP hD hS => ?_)
          obtain ⟨bmn_19, pan_20, p0n_21, p1n_22, p2n_23, lin_24, win_25, oun_26, okn_27, hnn_28, rfl, v_29, rfl⟩ := h_18
          have hP : va_P D vwCl (WW ad cJ cI cZ bmn_19 pan_20 p0n_21 p1n_22 p2n_23 lin_24 win_25 mt ms ma mp mk mn oun_26) H := hP
          have hD : va_D A (WW ad cJ cI cZ bmn_19 pan_20 p0n_21 p1n_22 p2n_23 lin_24 win_25 mt ms ma mp mk mn oun_26) := hD
          refine bm_zb_eq (x := v_29) (tgt := 17) hx hb dL_near_10 (by decide) (fun c_30 => ?_) (fun c_30 => ?_)
          · refine lv_lconst (v := 0) hx hb dL_near_17 (by decide) ?_
            refine bm_last (f := oun_26) hx hb hK hP hD hS 62 0 ww_62 rfl (j := 0) (x := 0) (by omega) (by decide) dL_near_18 (fun H locs hP hD hS => ?_)
            have hP : va_P D vwCl (WW ad cJ cI cZ bmn_19 pan_20 p0n_21 p1n_22 p2n_23 lin_24 win_25 mt ms ma mp mk mn (va_up oun_26 0 0)) H := hP
            have hD : va_D A (WW ad cJ cI cZ bmn_19 pan_20 p0n_21 p1n_22 p2n_23 lin_24 win_25 mt ms ma mp mk mn (va_up oun_26 0 0)) := hD
            refine lv_goto (tgt := 30) hx hb dL_near_19 (by decide) ?_
            refine lv_iconst (v := nI 0) hx hb dL_near_30 (by decide) ?_
            refine W.widen (k := 1) (n := 6) (by decide) (by decide) ?_
            exact bm_iretX (v := (nI 0)) hx hb hr hP hD hK hS ⟨bmn_19, pan_20, p0n_21, p1n_22, p2n_23, lin_24, win_25, (va_up oun_26 0 0), okn_27, hnn_28, rfl, (nI 0), rfl⟩ dL_near_31 hlocks
          · refine lv_lconst (v := 1) hx hb dL_near_13 (by decide) ?_
            refine lv_goto (tgt := 18) hx hb dL_near_14 (by decide) ?_
            refine bm_last (f := oun_26) hx hb hK hP hD hS 62 0 ww_62 rfl (j := 0) (x := 1) (by omega) (by decide) dL_near_18 (fun H locs hP hD hS => ?_)
            have hP : va_P D vwCl (WW ad cJ cI cZ bmn_19 pan_20 p0n_21 p1n_22 p2n_23 lin_24 win_25 mt ms ma mp mk mn (va_up oun_26 0 1)) H := hP
            have hD : va_D A (WW ad cJ cI cZ bmn_19 pan_20 p0n_21 p1n_22 p2n_23 lin_24 win_25 mt ms ma mp mk mn (va_up oun_26 0 1)) := hD
            refine lv_goto (tgt := 30) hx hb dL_near_19 (by decide) ?_
            refine lv_iconst (v := nI 0) hx hb dL_near_30 (by decide) ?_
            refine W.widen (k := 1) (n := 6) (by decide) (by decide) ?_
            exact bm_iretX (v := (nI 0)) hx hb hr hP hD hK hS ⟨bmn_19, pan_20, p0n_21, p1n_22, p2n_23, lin_24, win_25, (va_up oun_26 0 1), okn_27, hnn_28, rfl, (nI 0), rfl⟩ dL_near_31 hlocks
    · have hl := lv_entry ([.ref (ad 0), .int (nI k_zA), .int zB, .long zC, .ref (ad 62)]) (n := 7) (Nat.le_of_ble_eq_true rfl)
      refine W.eq (g2 := entryFrame m ([.ref (ad 0), .int (nI k_zA), .int zB, .long zC, .ref (ad 62)] : List Value).toArray 7) (by rw [ha]) ?_
      rw [lg_entry_eq]
      generalize (lg_sl ([.ref (ad 0), .int (nI k_zA), .int zB, .long zC, .ref (ad 62)]) ++ List.replicate (7 - (lg_sl ([.ref (ad 0), .int (nI k_zA), .int zB, .long zC, .ref (ad 62)])).length) Slot.unset).toArray = ls at hl ⊢
      have hl : lv_has ls 7 [(0, .ref (ad 0)), (1, .int (nI k_zA)), (2, .int zB), (3, .long zC), (5, .ref (ad 62))] := hl
      refine lv_aload hx hb dL_near_0 (lv_at hl 4 rfl) ?_
      refine lv_iconst (v := nI 0) hx hb dL_near_2 (by decide) ?_
      refine lv_aload_n hx hb dL_near_3 rfl (lv_at hl 0 rfl) ?_
      refine lv_iload_n hx hb dL_near_4 rfl (lv_at hl 1 rfl) ?_
      refine lv_iload_n hx hb dL_near_5 rfl (lv_at hl 2 rfl) ?_
      refine lv_lload_n hx hb dL_near_6 rfl (lv_at hl 3 rfl) ?_
      refine bx_catch (name := "java/lang/IndexOutOfBoundsException") (bx_tcallV (As := [.int (nI k_zA), .int zB, .long zC]) (rest := [.int (nI 0), .ref (ad 62)]) ⟨hx, hb, hml, hown, hts⟩ (X_near2 hlt (zA := k_zA) ok_pa_n hk_zA hno_zB) (cwV 3 hts gwL_43 rfl rfl rfl hvX4_near ⟨Nat.le_of_ble_eq_true rfl, Nat.le_of_ble_eq_true rfl⟩) hK hP hX hZ 0 4 rfl ww_0 rfl hl.1 rfl (Nat.le_of_ble_eq_true rfl) dL_near_7 ⟨Nat.le_of_ble_eq_true rfl, Nat.le_of_ble_eq_true rfl⟩) hown htab (by decide) (by decide) (hts (.classLink RL 19 "java/lang/IndexOutOfBoundsException") (by decide +kernel)) (hX (.castable "java/lang/IndexOutOfBoundsException" "java/lang/IndexOutOfBoundsException") (by decide +kernel) _) (fun q9 H hz hh => ?_)
      have hP := bx_keepP hP hh
      have hS := bx_keepS hS hz hh
      refine lv_astore (lv' := [(6, .ref q9), (0, .ref (ad 0)), (1, .int (nI k_zA)), (2, .int zB), (3, .long zC), (5, .ref (ad 62))]) hx hb dL_near_22 hl (by decide) rfl (fun ls hl => ?_)
      refine lv_iconst (v := nI 1) hx hb dL_near_24 (by decide) ?_
      exact bm_iretX (v := (nI 1)) hx hb hr hP hD hK hS ⟨bm, pa, p0, p1, p2, li, wi, ou, hok, rfl, rfl, (nI 1), rfl⟩ dL_near_25 hlocks
  · have hl := lv_entry ([.ref (ad 0), .int zA, .int zB, .long zC, .ref (ad 62)]) (n := 7) (Nat.le_of_ble_eq_true rfl)
    refine W.eq (g2 := entryFrame m ([.ref (ad 0), .int zA, .int zB, .long zC, .ref (ad 62)] : List Value).toArray 7) (by rw [ha]) ?_
    rw [lg_entry_eq]
    generalize (lg_sl ([.ref (ad 0), .int zA, .int zB, .long zC, .ref (ad 62)]) ++ List.replicate (7 - (lg_sl ([.ref (ad 0), .int zA, .int zB, .long zC, .ref (ad 62)])).length) Slot.unset).toArray = ls at hl ⊢
    have hl : lv_has ls 7 [(0, .ref (ad 0)), (1, .int zA), (2, .int zB), (3, .long zC), (5, .ref (ad 62))] := hl
    refine lv_aload hx hb dL_near_0 (lv_at hl 4 rfl) ?_
    refine lv_iconst (v := nI 0) hx hb dL_near_2 (by decide) ?_
    refine lv_aload_n hx hb dL_near_3 rfl (lv_at hl 0 rfl) ?_
    refine lv_iload_n hx hb dL_near_4 rfl (lv_at hl 1 rfl) ?_
    refine lv_iload_n hx hb dL_near_5 rfl (lv_at hl 2 rfl) ?_
    refine lv_lload_n hx hb dL_near_6 rfl (lv_at hl 3 rfl) ?_
    refine bx_catch (name := "java/lang/IndexOutOfBoundsException") (bx_tcallV (As := [.int zA, .int zB, .long zC]) (rest := [.int (nI 0), .ref (ad 62)]) ⟨hx, hb, hml, hown, hts⟩ (X_near1 hlt  hno_zA) (cwV 3 hts gwL_43 rfl rfl rfl hvX4_near ⟨Nat.le_of_ble_eq_true rfl, Nat.le_of_ble_eq_true rfl⟩) hK hP hX hZ 0 4 rfl ww_0 rfl hl.1 rfl (Nat.le_of_ble_eq_true rfl) dL_near_7 ⟨Nat.le_of_ble_eq_true rfl, Nat.le_of_ble_eq_true rfl⟩) hown htab (by decide) (by decide) (hts (.classLink RL 19 "java/lang/IndexOutOfBoundsException") (by decide +kernel)) (hX (.castable "java/lang/IndexOutOfBoundsException" "java/lang/IndexOutOfBoundsException") (by decide +kernel) _) (fun q9 H hz hh => ?_)
    have hP := bx_keepP hP hh
    have hS := bx_keepS hS hz hh
    refine lv_astore (lv' := [(6, .ref q9), (0, .ref (ad 0)), (1, .int zA), (2, .int zB), (3, .long zC), (5, .ref (ad 62))]) hx hb dL_near_22 hl (by decide) rfl (fun ls hl => ?_)
    refine lv_iconst (v := nI 1) hx hb dL_near_24 (by decide) ?_
    exact bm_iretX (v := (nI 1)) hx hb hr hP hD hK hS ⟨bm, pa, p0, p1, p2, li, wi, ou, hok, rfl, rfl, (nI 1), rfl⟩ dL_near_25 hlocks

set_option maxHeartbeats 16000000 in
set_option maxRecDepth 100000 in
theorem H_group {l : Launch} (hlt : l.stackTraces = false) {D : va_G} {ad : Nat → Nat} {cJ cI cZ : ClassId} {bm : gBM} {pa : gPA} {p0 p1 p2 : gPL} {li : gLI} {wi : gWI} {mt : Nat} {ms : gMS} {ma : gMA} {mp : gMP} {mk : gMK} {mn : gMN} {ou : Nat → Int64} {zA : Int32} {zB : Int32} (hok : okC bm pa p0 p1 p2 li wi) (sz : Nat) : Met l yL_group wsL_group ({ frames := 8, cells := 1, slots := 6, locals := 144 }) (bx_Hn D vwCl [(cJ, .long), (cI, .int), (cZ, .boolean)] (WW ad cJ cI cZ bm pa p0 p1 p2 li wi mt ms ma mp mk mn ou) [.ref (ad 0), .int zA, .int zB, .ref (ad 62)] sz) (bm_Wxq D vwCl [(cJ, .long), (cI, .int), (cZ, .boolean)] (PCI ad cJ cI cZ bm pa p0 p1 p2 li wi mt ms ma mp mk mn ou) (va_A (WW ad cJ cI cZ bm pa p0 p1 p2 li wi mt ms ma mp mk mn ou) sz)) 1 6 (va_A (WW ad cJ cI cZ bm pa p0 p1 p2 li wi mt ms ma mp mk mn ou) sz) := by
  have hok9 := hok
  obtain ⟨ok_pa_n, ok_pa_side, ok_pa_lowest, ok_p0_turn, ok_p1_turn, ok_p2_turn, ok_li_one, ok_li_other, ok_li_keepOuts, ok_li_nears, ok_wi_netOf, ok_wi_partOf, ok_wi_nets, ok_wi_pins, hw, hh⟩ := hok9
  refine bx_ofWH (cc := cL_group) (maxL := 5) (ret := (some .int)) (hs := [(0, 10, 13, 19)]) (by decide) rfl ?_
  intro p e s m args below meth c s₁ B hml htab hv
  obtain ⟨⟨ha, hsz, hP, hK, hD0, hX, hZ⟩, hN1, hN2⟩ := hv
  have hx := B.exec
  have hb := B.bytes
  have hr := B.returns
  have hts := atoms_spec (ws := wsL_group) B.pre
  have hown : s.vm.findClass RL = some m.cls := findClass_of_methodNamed B.named
  have hlocks := B.notSynchronized
  subst hsz
  have hD := hD0.self (sz := s.heap.size)
  generalize hAe : va_A (WW ad cJ cI cZ bm pa p0 p1 p2 li wi mt ms ma mp mk mn ou) s.heap.size = A at hD ⊢
  have hA : ∀ q : Nat, s.heap.size ≤ q → A q := fun q h => by rw [← hAe]; exact Or.inr h
  have hS : va_S A s.heap s.heap [] := va_S.rf
  rcases bx_idx zA (n := pa.2.2.2.2.2.2) (by omega) with ⟨k_zA, hk_zA, rfl⟩ | hno_zA
  · rcases bx_idx zB (n := pa.2.2.2.2.2.2) (by omega) with ⟨k_zB, hk_zB, rfl⟩ | hno_zB
    · have hl := lv_entry ([.ref (ad 0), .int (nI k_zA), .int (nI k_zB), .ref (ad 62)]) (n := 5) (Nat.le_of_ble_eq_true rfl)
      refine W.eq (g2 := entryFrame m ([.ref (ad 0), .int (nI k_zA), .int (nI k_zB), .ref (ad 62)] : List Value).toArray 5) (by rw [ha]) ?_
      rw [lg_entry_eq]
      generalize (lg_sl ([.ref (ad 0), .int (nI k_zA), .int (nI k_zB), .ref (ad 62)]) ++ List.replicate (5 - (lg_sl ([.ref (ad 0), .int (nI k_zA), .int (nI k_zB), .ref (ad 62)])).length) Slot.unset).toArray = ls at hl ⊢
      have hl : lv_has ls 5 [(0, .ref (ad 0)), (1, .int (nI k_zA)), (2, .int (nI k_zB)), (3, .ref (ad 62))] := hl
      refine lv_aload_n hx hb dL_group_0 rfl (lv_at hl 3 rfl) ?_
      refine lv_iconst (v := nI 0) hx hb dL_group_1 (by decide) ?_
      refine lv_aload_n hx hb dL_group_2 rfl (lv_at hl 0 rfl) ?_
      refine lv_iload_n hx hb dL_group_3 rfl (lv_at hl 1 rfl) ?_
      refine lv_iload_n hx hb dL_group_4 rfl (lv_at hl 2 rfl) ?_
      refine bm_xcallV (As := [.int (nI k_zA), .int (nI k_zB)]) (rest := [.int (nI 0), .ref (ad 62)]) ⟨hx, hb, hml, hown, hts⟩ (Z_group  (zA := k_zA) (zB := k_zB) hok hk_zA hk_zB) (cwV 2 hts gwL_47 rfl rfl rfl hvX4_group ⟨Nat.le_of_ble_eq_true rfl, Nat.le_of_ble_eq_true rfl⟩) hK hP hD hS hA 0 4 rfl ww_0 rfl hl.1 rfl (Nat.le_of_ble_eq_true rfl) dL_group_5 ⟨Nat.le_of_ble_eq_true rfl, Nat.le_of_ble_eq_true rfl⟩ (fun ws_1 r_2 h_3 H locs hP hD hS => ?_)
      obtain ⟨bmn_4, pan_5, p0n_6, p1n_7, p2n_8, lin_9, win_10, oun_11, okn_12, hnn_13, rfl, v_14, rfl⟩ := h_3
      have hP : va_P D vwCl (WW ad cJ cI cZ bmn_4 pan_5 p0n_6 p1n_7 p2n_8 lin_9 win_10 mt ms ma mp mk mn oun_11) H := hP
      have hD : va_D A (WW ad cJ cI cZ bmn_4 pan_5 p0n_6 p1n_7 p2n_8 lin_9 win_10 mt ms ma mp mk mn oun_11) := hD
      refine lv_i2l (v := v_14.toInt64) hx hb dL_group_8 rfl ?_
      refine lv_topl (fun t_15 _ => ?_)
      refine bm_last (f := oun_11) hx hb hK hP hD hS 62 0 ww_62 rfl (j := 0) (x := t_15) (by omega) (by decide) dL_group_9 (fun H locs hP hD hS => ?_)
      have hP : va_P D vwCl (WW ad cJ cI cZ bmn_4 pan_5 p0n_6 p1n_7 p2n_8 lin_9 win_10 mt ms ma mp mk mn (va_up oun_11 0 t_15)) H := hP
      have hD : va_D A (WW ad cJ cI cZ bmn_4 pan_5 p0n_6 p1n_7 p2n_8 lin_9 win_10 mt ms ma mp mk mn (va_up oun_11 0 t_15)) := hD
      refine lv_goto (tgt := 17) hx hb dL_group_10 (by decide) ?_
      refine lv_iconst (v := nI 0) hx hb dL_group_17 (by decide) ?_
      refine W.widen (k := 1) (n := 6) (by decide) (by decide) ?_
      exact bm_iretX (v := (nI 0)) hx hb hr hP hD hK hS ⟨bmn_4, pan_5, p0n_6, p1n_7, p2n_8, lin_9, win_10, (va_up oun_11 0 t_15), okn_12, hnn_13, rfl, (nI 0), rfl⟩ dL_group_18 hlocks
    · have hl := lv_entry ([.ref (ad 0), .int (nI k_zA), .int zB, .ref (ad 62)]) (n := 5) (Nat.le_of_ble_eq_true rfl)
      refine W.eq (g2 := entryFrame m ([.ref (ad 0), .int (nI k_zA), .int zB, .ref (ad 62)] : List Value).toArray 5) (by rw [ha]) ?_
      rw [lg_entry_eq]
      generalize (lg_sl ([.ref (ad 0), .int (nI k_zA), .int zB, .ref (ad 62)]) ++ List.replicate (5 - (lg_sl ([.ref (ad 0), .int (nI k_zA), .int zB, .ref (ad 62)])).length) Slot.unset).toArray = ls at hl ⊢
      have hl : lv_has ls 5 [(0, .ref (ad 0)), (1, .int (nI k_zA)), (2, .int zB), (3, .ref (ad 62))] := hl
      refine lv_aload_n hx hb dL_group_0 rfl (lv_at hl 3 rfl) ?_
      refine lv_iconst (v := nI 0) hx hb dL_group_1 (by decide) ?_
      refine lv_aload_n hx hb dL_group_2 rfl (lv_at hl 0 rfl) ?_
      refine lv_iload_n hx hb dL_group_3 rfl (lv_at hl 1 rfl) ?_
      refine lv_iload_n hx hb dL_group_4 rfl (lv_at hl 2 rfl) ?_
      refine bx_catch (name := "java/lang/IndexOutOfBoundsException") (bx_tcallV (As := [.int (nI k_zA), .int zB]) (rest := [.int (nI 0), .ref (ad 62)]) ⟨hx, hb, hml, hown, hts⟩ (X_group2 hlt (zA := k_zA) ok_pa_n hk_zA hno_zB) (cwV 2 hts gwL_47 rfl rfl rfl hvX4_group ⟨Nat.le_of_ble_eq_true rfl, Nat.le_of_ble_eq_true rfl⟩) hK hP hX hZ 0 4 rfl ww_0 rfl hl.1 rfl (Nat.le_of_ble_eq_true rfl) dL_group_5 ⟨Nat.le_of_ble_eq_true rfl, Nat.le_of_ble_eq_true rfl⟩) hown htab (by decide) (by decide) (hts (.classLink RL 19 "java/lang/IndexOutOfBoundsException") (by decide +kernel)) (hX (.castable "java/lang/IndexOutOfBoundsException" "java/lang/IndexOutOfBoundsException") (by decide +kernel) _) (fun q9 H hz hh => ?_)
      have hP := bx_keepP hP hh
      have hS := bx_keepS hS hz hh
      refine lv_astore (lv' := [(4, .ref q9), (0, .ref (ad 0)), (1, .int (nI k_zA)), (2, .int zB), (3, .ref (ad 62))]) hx hb dL_group_13 hl (by decide) rfl (fun ls hl => ?_)
      refine lv_iconst (v := nI 1) hx hb dL_group_15 (by decide) ?_
      exact bm_iretX (v := (nI 1)) hx hb hr hP hD hK hS ⟨bm, pa, p0, p1, p2, li, wi, ou, hok, rfl, rfl, (nI 1), rfl⟩ dL_group_16 hlocks
  · have hl := lv_entry ([.ref (ad 0), .int zA, .int zB, .ref (ad 62)]) (n := 5) (Nat.le_of_ble_eq_true rfl)
    refine W.eq (g2 := entryFrame m ([.ref (ad 0), .int zA, .int zB, .ref (ad 62)] : List Value).toArray 5) (by rw [ha]) ?_
    rw [lg_entry_eq]
    generalize (lg_sl ([.ref (ad 0), .int zA, .int zB, .ref (ad 62)]) ++ List.replicate (5 - (lg_sl ([.ref (ad 0), .int zA, .int zB, .ref (ad 62)])).length) Slot.unset).toArray = ls at hl ⊢
    have hl : lv_has ls 5 [(0, .ref (ad 0)), (1, .int zA), (2, .int zB), (3, .ref (ad 62))] := hl
    refine lv_aload_n hx hb dL_group_0 rfl (lv_at hl 3 rfl) ?_
    refine lv_iconst (v := nI 0) hx hb dL_group_1 (by decide) ?_
    refine lv_aload_n hx hb dL_group_2 rfl (lv_at hl 0 rfl) ?_
    refine lv_iload_n hx hb dL_group_3 rfl (lv_at hl 1 rfl) ?_
    refine lv_iload_n hx hb dL_group_4 rfl (lv_at hl 2 rfl) ?_
    refine bx_catch (name := "java/lang/IndexOutOfBoundsException") (bx_tcallV (As := [.int zA, .int zB]) (rest := [.int (nI 0), .ref (ad 62)]) ⟨hx, hb, hml, hown, hts⟩ (X_group1 hlt  hno_zA) (cwV 2 hts gwL_47 rfl rfl rfl hvX4_group ⟨Nat.le_of_ble_eq_true rfl, Nat.le_of_ble_eq_true rfl⟩) hK hP hX hZ 0 4 rfl ww_0 rfl hl.1 rfl (Nat.le_of_ble_eq_true rfl) dL_group_5 ⟨Nat.le_of_ble_eq_true rfl, Nat.le_of_ble_eq_true rfl⟩) hown htab (by decide) (by decide) (hts (.classLink RL 19 "java/lang/IndexOutOfBoundsException") (by decide +kernel)) (hX (.castable "java/lang/IndexOutOfBoundsException" "java/lang/IndexOutOfBoundsException") (by decide +kernel) _) (fun q9 H hz hh => ?_)
    have hP := bx_keepP hP hh
    have hS := bx_keepS hS hz hh
    refine lv_astore (lv' := [(4, .ref q9), (0, .ref (ad 0)), (1, .int zA), (2, .int zB), (3, .ref (ad 62))]) hx hb dL_group_13 hl (by decide) rfl (fun ls hl => ?_)
    refine lv_iconst (v := nI 1) hx hb dL_group_15 (by decide) ?_
    exact bm_iretX (v := (nI 1)) hx hb hr hP hD hK hS ⟨bm, pa, p0, p1, p2, li, wi, ou, hok, rfl, rfl, (nI 1), rfl⟩ dL_group_16 hlocks
