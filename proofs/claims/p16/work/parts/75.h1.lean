set_option maxHeartbeats 16000000 in
set_option maxRecDepth 100000 in
theorem H_put {l : Launch} (hlt : l.stackTraces = false) {D : va_G} {ad : Nat → Nat} {cJ cI cZ : ClassId} {bm : gBM} {pa : gPA} {p0 p1 p2 : gPL} {li : gLI} {wi : gWI} {mt : Nat} {ms : gMS} {ma : gMA} {mp : gMP} {mk : gMK} {mn : gMN} {ou : Nat → Int64} {zA : Int32} {zB : Int64} {zC : Int64} {zD : Int32} (hok : okC bm pa p0 p1 p2 li wi) (sz : Nat) : Met l yL_put wsL_put ({ frames := 8, cells := 1, slots := 6, locals := 148 }) (bx_Hn D vwCl [(cJ, .long), (cI, .int), (cZ, .boolean)] (WW ad cJ cI cZ bm pa p0 p1 p2 li wi mt ms ma mp mk mn ou) [.ref (ad 0), .int zA, .long zB, .long zC, .int zD, .ref (ad 62)] sz) (bm_Wxq D vwCl [(cJ, .long), (cI, .int), (cZ, .boolean)] (PCI ad cJ cI cZ bm pa p0 p1 p2 li wi mt ms ma mp mk mn ou) (va_A (WW ad cJ cI cZ bm pa p0 p1 p2 li wi mt ms ma mp mk mn ou) sz)) 1 6 (va_A (WW ad cJ cI cZ bm pa p0 p1 p2 li wi mt ms ma mp mk mn ou) sz) := by
  have hok9 := hok
  obtain ⟨ok_pa_n, ok_pa_side, ok_pa_lowest, ok_p0_turn, ok_p1_turn, ok_p2_turn, ok_li_one, ok_li_other, ok_li_keepOuts, ok_li_nears, ok_wi_netOf, ok_wi_partOf, ok_wi_nets, ok_wi_pins, hw, hh⟩ := hok9
  refine bx_ofWH (cc := cL_put) (maxL := 9) (ret := (some .int)) (hs := [(0, 22, 25, 19), (0, 22, 29, 13)]) (by decide) rfl ?_
  intro p e s m args below meth c s₁ B hml htab hv
  obtain ⟨⟨ha, hsz, hP, hK, hD0, hX, hZ⟩, hN1, hN2⟩ := hv
  have hx := B.exec
  have hb := B.bytes
  have hr := B.returns
  have hts := atoms_spec (ws := wsL_put) B.pre
  have hown : s.vm.findClass RL = some m.cls := findClass_of_methodNamed B.named
  have hlocks := B.notSynchronized
  subst hsz
  have hD := hD0.self (sz := s.heap.size)
  generalize hAe : va_A (WW ad cJ cI cZ bm pa p0 p1 p2 li wi mt ms ma mp mk mn ou) s.heap.size = A at hD ⊢
  have hA : ∀ q : Nat, s.heap.size ≤ q → A q := fun q h => by rw [← hAe]; exact Or.inr h
  have hS : va_S A s.heap s.heap [] := va_S.rf
  rcases bx_idx zA (n := pa.2.2.2.2.2.2) (by omega) with ⟨k_zA, hk_zA, rfl⟩ | hno_zA
  · rcases bx_idx zD (n := 4) (by omega) with ⟨k_zD, hk_zD, rfl⟩ | hno_zD
    · have hl := lv_entry ([.ref (ad 0), .int (nI k_zA), .long zB, .long zC, .int (nI k_zD), .ref (ad 62)]) (n := 9) (Nat.le_of_ble_eq_true rfl)
      refine W.eq (g2 := entryFrame m ([.ref (ad 0), .int (nI k_zA), .long zB, .long zC, .int (nI k_zD), .ref (ad 62)] : List Value).toArray 9) (by rw [ha]) ?_
      rw [lg_entry_eq]
      generalize (lg_sl ([.ref (ad 0), .int (nI k_zA), .long zB, .long zC, .int (nI k_zD), .ref (ad 62)]) ++ List.replicate (9 - (lg_sl ([.ref (ad 0), .int (nI k_zA), .long zB, .long zC, .int (nI k_zD), .ref (ad 62)])).length) Slot.unset).toArray = ls at hl ⊢
      have hl : lv_has ls 9 [(0, .ref (ad 0)), (1, .int (nI k_zA)), (2, .long zB), (4, .long zC), (6, .int (nI k_zD)), (7, .ref (ad 62))] := hl
      refine lv_aload hx hb dL_put_0 (lv_at hl 5 rfl) ?_
      refine lv_iconst (v := nI 0) hx hb dL_put_2 (by decide) ?_
      refine lv_aload_n hx hb dL_put_3 rfl (lv_at hl 0 rfl) ?_
      refine lv_iload_n hx hb dL_put_4 rfl (lv_at hl 1 rfl) ?_
      refine lv_lload_n hx hb dL_put_5 rfl (lv_at hl 2 rfl) ?_
      refine lv_lload hx hb dL_put_6 (lv_at hl 3 rfl) ?_
      refine lv_iload hx hb dL_put_8 (lv_at hl 4 rfl) ?_
      refine bm_xcallV (As := [.int (nI k_zA), .long zB, .long zC, .int (nI k_zD)]) (rest := [.int (nI 0), .ref (ad 62)]) ⟨hx, hb, hml, hown, hts⟩ (Z_put  (zA := k_zA) (zD := k_zD) hok hk_zA hk_zD) (cwV 4 hts gwL_15 rfl rfl rfl hvX4_put ⟨Nat.le_of_ble_eq_true rfl, Nat.le_of_ble_eq_true rfl⟩) hK hP hD hS hA 0 4 rfl ww_0 rfl hl.1 rfl (Nat.le_of_ble_eq_true rfl) dL_put_10 ⟨Nat.le_of_ble_eq_true rfl, Nat.le_of_ble_eq_true rfl⟩ (fun ws_1 r_2 h_3 H locs hP hD hS => ?_)
      obtain ⟨bmn_4, pan_5, p0n_6, p1n_7, p2n_8, lin_9, win_10, oun_11, okn_12, hnn_13, rfl, v_14, rfl⟩ := h_3
      have hP : va_P D vwCl (WW ad cJ cI cZ bmn_4 pan_5 p0n_6 p1n_7 p2n_8 lin_9 win_10 mt ms ma mp mk mn oun_11) H := hP
      have hD : va_D A (WW ad cJ cI cZ bmn_4 pan_5 p0n_6 p1n_7 p2n_8 lin_9 win_10 mt ms ma mp mk mn oun_11) := hD
      refine bm_zb_eq (x := v_14) (tgt := 20) hx hb dL_put_13 (by decide) (fun c_15 => ?_) (fun c_15 => ?_)
      · refine lv_lconst (v := 0) hx hb dL_put_20 (by decide) ?_
        refine bm_last (f := oun_11) hx hb hK hP hD hS 62 0 ww_62 rfl (j := 0) (x := 0) (by omega) (by decide) dL_put_21 (fun H locs hP hD hS => ?_)
        have hP : va_P D vwCl (WW ad cJ cI cZ bmn_4 pan_5 p0n_6 p1n_7 p2n_8 lin_9 win_10 mt ms ma mp mk mn (va_up oun_11 0 0)) H := hP
        have hD : va_D A (WW ad cJ cI cZ bmn_4 pan_5 p0n_6 p1n_7 p2n_8 lin_9 win_10 mt ms ma mp mk mn (va_up oun_11 0 0)) := hD
        refine lv_goto (tgt := 33) hx hb dL_put_22 (by decide) ?_
        refine lv_iconst (v := nI 0) hx hb dL_put_33 (by decide) ?_
        refine W.widen (k := 1) (n := 6) (by decide) (by decide) ?_
        exact bm_iretX (v := (nI 0)) hx hb hr hP hD hK hS ⟨bmn_4, pan_5, p0n_6, p1n_7, p2n_8, lin_9, win_10, (va_up oun_11 0 0), okn_12, hnn_13, rfl, (nI 0), rfl⟩ dL_put_34 hlocks
      · refine lv_lconst (v := 1) hx hb dL_put_16 (by decide) ?_
        refine lv_goto (tgt := 21) hx hb dL_put_17 (by decide) ?_
        refine bm_last (f := oun_11) hx hb hK hP hD hS 62 0 ww_62 rfl (j := 0) (x := 1) (by omega) (by decide) dL_put_21 (fun H locs hP hD hS => ?_)
        have hP : va_P D vwCl (WW ad cJ cI cZ bmn_4 pan_5 p0n_6 p1n_7 p2n_8 lin_9 win_10 mt ms ma mp mk mn (va_up oun_11 0 1)) H := hP
        have hD : va_D A (WW ad cJ cI cZ bmn_4 pan_5 p0n_6 p1n_7 p2n_8 lin_9 win_10 mt ms ma mp mk mn (va_up oun_11 0 1)) := hD
        refine lv_goto (tgt := 33) hx hb dL_put_22 (by decide) ?_
        refine lv_iconst (v := nI 0) hx hb dL_put_33 (by decide) ?_
        refine W.widen (k := 1) (n := 6) (by decide) (by decide) ?_
        exact bm_iretX (v := (nI 0)) hx hb hr hP hD hK hS ⟨bmn_4, pan_5, p0n_6, p1n_7, p2n_8, lin_9, win_10, (va_up oun_11 0 1), okn_12, hnn_13, rfl, (nI 0), rfl⟩ dL_put_34 hlocks
    · have hl := lv_entry ([.ref (ad 0), .int (nI k_zA), .long zB, .long zC, .int zD, .ref (ad 62)]) (n := 9) (Nat.le_of_ble_eq_true rfl)
      refine W.eq (g2 := entryFrame m ([.ref (ad 0), .int (nI k_zA), .long zB, .long zC, .int zD, .ref (ad 62)] : List Value).toArray 9) (by rw [ha]) ?_
      rw [lg_entry_eq]
      generalize (lg_sl ([.ref (ad 0), .int (nI k_zA), .long zB, .long zC, .int zD, .ref (ad 62)]) ++ List.replicate (9 - (lg_sl ([.ref (ad 0), .int (nI k_zA), .long zB, .long zC, .int zD, .ref (ad 62)])).length) Slot.unset).toArray = ls at hl ⊢
      have hl : lv_has ls 9 [(0, .ref (ad 0)), (1, .int (nI k_zA)), (2, .long zB), (4, .long zC), (6, .int zD), (7, .ref (ad 62))] := hl
      refine lv_aload hx hb dL_put_0 (lv_at hl 5 rfl) ?_
      refine lv_iconst (v := nI 0) hx hb dL_put_2 (by decide) ?_
      refine lv_aload_n hx hb dL_put_3 rfl (lv_at hl 0 rfl) ?_
      refine lv_iload_n hx hb dL_put_4 rfl (lv_at hl 1 rfl) ?_
      refine lv_lload_n hx hb dL_put_5 rfl (lv_at hl 2 rfl) ?_
      refine lv_lload hx hb dL_put_6 (lv_at hl 3 rfl) ?_
      refine lv_iload hx hb dL_put_8 (lv_at hl 4 rfl) ?_
      refine bx_catch2 (name0 := "java/lang/IndexOutOfBoundsException") (name := "java/lang/IllegalArgumentException") (bx_tcallV (As := [.int (nI k_zA), .long zB, .long zC, .int zD]) (rest := [.int (nI 0), .ref (ad 62)]) ⟨hx, hb, hml, hown, hts⟩ (X_put2 hlt (zA := k_zA) ok_pa_n hk_zA hno_zD) (cwV 4 hts gwL_15 rfl rfl rfl hvX4_put ⟨Nat.le_of_ble_eq_true rfl, Nat.le_of_ble_eq_true rfl⟩) hK hP hX hZ 0 4 rfl ww_0 rfl hl.1 rfl (Nat.le_of_ble_eq_true rfl) dL_put_10 ⟨Nat.le_of_ble_eq_true rfl, Nat.le_of_ble_eq_true rfl⟩) hown htab (by decide) (by decide) (by decide) (by decide) (hts (.classLink RL 19 "java/lang/IndexOutOfBoundsException") (by decide +kernel)) hN1 (hts (.classLink RL 13 "java/lang/IllegalArgumentException") (by decide +kernel)) (hX (.castable "java/lang/IllegalArgumentException" "java/lang/IllegalArgumentException") (by decide +kernel) _) (fun q9 H hz hh => ?_)
      have hP := bx_keepP hP hh
      have hS := bx_keepS hS hz hh
      refine lv_astore (lv' := [(8, .ref q9), (0, .ref (ad 0)), (1, .int (nI k_zA)), (2, .long zB), (4, .long zC), (6, .int zD), (7, .ref (ad 62))]) hx hb dL_put_29 hl (by decide) rfl (fun ls hl => ?_)
      refine lv_iconst (v := nI 2) hx hb dL_put_31 (by decide) ?_
      exact bm_iretX (v := (nI 2)) hx hb hr hP hD hK hS ⟨bm, pa, p0, p1, p2, li, wi, ou, hok, rfl, rfl, (nI 2), rfl⟩ dL_put_32 hlocks
  · have hl := lv_entry ([.ref (ad 0), .int zA, .long zB, .long zC, .int zD, .ref (ad 62)]) (n := 9) (Nat.le_of_ble_eq_true rfl)
    refine W.eq (g2 := entryFrame m ([.ref (ad 0), .int zA, .long zB, .long zC, .int zD, .ref (ad 62)] : List Value).toArray 9) (by rw [ha]) ?_
    rw [lg_entry_eq]
    generalize (lg_sl ([.ref (ad 0), .int zA, .long zB, .long zC, .int zD, .ref (ad 62)]) ++ List.replicate (9 - (lg_sl ([.ref (ad 0), .int zA, .long zB, .long zC, .int zD, .ref (ad 62)])).length) Slot.unset).toArray = ls at hl ⊢
    have hl : lv_has ls 9 [(0, .ref (ad 0)), (1, .int zA), (2, .long zB), (4, .long zC), (6, .int zD), (7, .ref (ad 62))] := hl
    refine lv_aload hx hb dL_put_0 (lv_at hl 5 rfl) ?_
    refine lv_iconst (v := nI 0) hx hb dL_put_2 (by decide) ?_
    refine lv_aload_n hx hb dL_put_3 rfl (lv_at hl 0 rfl) ?_
    refine lv_iload_n hx hb dL_put_4 rfl (lv_at hl 1 rfl) ?_
    refine lv_lload_n hx hb dL_put_5 rfl (lv_at hl 2 rfl) ?_
    refine lv_lload hx hb dL_put_6 (lv_at hl 3 rfl) ?_
    refine lv_iload hx hb dL_put_8 (lv_at hl 4 rfl) ?_
    refine bx_catch (name := "java/lang/IndexOutOfBoundsException") (bx_tcallV (As := [.int zA, .long zB, .long zC, .int zD]) (rest := [.int (nI 0), .ref (ad 62)]) ⟨hx, hb, hml, hown, hts⟩ (X_put1 hlt  hno_zA) (cwV 4 hts gwL_15 rfl rfl rfl hvX4_put ⟨Nat.le_of_ble_eq_true rfl, Nat.le_of_ble_eq_true rfl⟩) hK hP hX hZ 0 4 rfl ww_0 rfl hl.1 rfl (Nat.le_of_ble_eq_true rfl) dL_put_10 ⟨Nat.le_of_ble_eq_true rfl, Nat.le_of_ble_eq_true rfl⟩) hown htab (by decide) (by decide) (hts (.classLink RL 19 "java/lang/IndexOutOfBoundsException") (by decide +kernel)) (hX (.castable "java/lang/IndexOutOfBoundsException" "java/lang/IndexOutOfBoundsException") (by decide +kernel) _) (fun q9 H hz hh => ?_)
    have hP := bx_keepP hP hh
    have hS := bx_keepS hS hz hh
    refine lv_astore (lv' := [(8, .ref q9), (0, .ref (ad 0)), (1, .int zA), (2, .long zB), (4, .long zC), (6, .int zD), (7, .ref (ad 62))]) hx hb dL_put_25 hl (by decide) rfl (fun ls hl => ?_)
    refine lv_iconst (v := nI 1) hx hb dL_put_27 (by decide) ?_
    exact bm_iretX (v := (nI 1)) hx hb hr hP hD hK hS ⟨bm, pa, p0, p1, p2, li, wi, ou, hok, rfl, rfl, (nI 1), rfl⟩ dL_put_28 hlocks

set_option maxHeartbeats 16000000 in
set_option maxRecDepth 100000 in
theorem H_lock {l : Launch} (hlt : l.stackTraces = false) {D : va_G} {ad : Nat → Nat} {cJ cI cZ : ClassId} {bm : gBM} {pa : gPA} {p0 p1 p2 : gPL} {li : gLI} {wi : gWI} {mt : Nat} {ms : gMS} {ma : gMA} {mp : gMP} {mk : gMK} {mn : gMN} {ou : Nat → Int64} {zA : Int32} {zB : Bool} (hok : okC bm pa p0 p1 p2 li wi) (sz : Nat) : Met l yL_lock wsL_lock ({ frames := 8, cells := 1, slots := 6, locals := 145 }) (bx_Hn D vwCl [(cJ, .long), (cI, .int), (cZ, .boolean)] (WW ad cJ cI cZ bm pa p0 p1 p2 li wi mt ms ma mp mk mn ou) [.ref (ad 0), .int zA, .int (bm_b zB), .ref (ad 62)] sz) (bm_Wxq D vwCl [(cJ, .long), (cI, .int), (cZ, .boolean)] (PCI ad cJ cI cZ bm pa p0 p1 p2 li wi mt ms ma mp mk mn ou) (va_A (WW ad cJ cI cZ bm pa p0 p1 p2 li wi mt ms ma mp mk mn ou) sz)) 1 6 (va_A (WW ad cJ cI cZ bm pa p0 p1 p2 li wi mt ms ma mp mk mn ou) sz) := by
  have hok9 := hok
  obtain ⟨ok_pa_n, ok_pa_side, ok_pa_lowest, ok_p0_turn, ok_p1_turn, ok_p2_turn, ok_li_one, ok_li_other, ok_li_keepOuts, ok_li_nears, ok_wi_netOf, ok_wi_partOf, ok_wi_nets, ok_wi_pins, hw, hh⟩ := hok9
  refine bx_ofWH (cc := cL_lock) (maxL := 5) (ret := (some .int)) (hs := [(0, 17, 20, 19)]) (by decide) rfl ?_
  intro p e s m args below meth c s₁ B hml htab hv
  obtain ⟨⟨ha, hsz, hP, hK, hD0, hX, hZ⟩, hN1, hN2⟩ := hv
  have hx := B.exec
  have hb := B.bytes
  have hr := B.returns
  have hts := atoms_spec (ws := wsL_lock) B.pre
  have hown : s.vm.findClass RL = some m.cls := findClass_of_methodNamed B.named
  have hlocks := B.notSynchronized
  subst hsz
  have hD := hD0.self (sz := s.heap.size)
  generalize hAe : va_A (WW ad cJ cI cZ bm pa p0 p1 p2 li wi mt ms ma mp mk mn ou) s.heap.size = A at hD ⊢
  have hA : ∀ q : Nat, s.heap.size ≤ q → A q := fun q h => by rw [← hAe]; exact Or.inr h
  have hS : va_S A s.heap s.heap [] := va_S.rf
  rcases bx_idx zA (n := pa.2.2.2.2.2.2) (by omega) with ⟨k_zA, hk_zA, rfl⟩ | hno_zA
  · have hl := lv_entry ([.ref (ad 0), .int (nI k_zA), .int (bm_b zB), .ref (ad 62)]) (n := 5) (Nat.le_of_ble_eq_true rfl)
    refine W.eq (g2 := entryFrame m ([.ref (ad 0), .int (nI k_zA), .int (bm_b zB), .ref (ad 62)] : List Value).toArray 5) (by rw [ha]) ?_
    rw [lg_entry_eq]
    generalize (lg_sl ([.ref (ad 0), .int (nI k_zA), .int (bm_b zB), .ref (ad 62)]) ++ List.replicate (5 - (lg_sl ([.ref (ad 0), .int (nI k_zA), .int (bm_b zB), .ref (ad 62)])).length) Slot.unset).toArray = ls at hl ⊢
    have hl : lv_has ls 5 [(0, .ref (ad 0)), (1, .int (nI k_zA)), (2, .int (bm_b zB)), (3, .ref (ad 62))] := hl
    refine lv_aload_n hx hb dL_lock_0 rfl (lv_at hl 3 rfl) ?_
    refine lv_iconst (v := nI 0) hx hb dL_lock_1 (by decide) ?_
    refine lv_aload_n hx hb dL_lock_2 rfl (lv_at hl 0 rfl) ?_
    refine lv_iload_n hx hb dL_lock_3 rfl (lv_at hl 1 rfl) ?_
    refine lv_iload_n hx hb dL_lock_4 rfl (lv_at hl 2 rfl) ?_
    refine bm_xcallV (As := [.int (nI k_zA), .int (bm_b zB)]) (rest := [.int (nI 0), .ref (ad 62)]) ⟨hx, hb, hml, hown, hts⟩ (Z_lock  (zA := k_zA) hok hk_zA) (cwV 2 hts gwL_21 rfl rfl rfl hvX4_lock ⟨Nat.le_of_ble_eq_true rfl, Nat.le_of_ble_eq_true rfl⟩) hK hP hD hS hA 0 4 rfl ww_0 rfl hl.1 rfl (Nat.le_of_ble_eq_true rfl) dL_lock_5 ⟨Nat.le_of_ble_eq_true rfl, Nat.le_of_ble_eq_true rfl⟩ (fun ws_1 r_2 h_3 H locs hP hD hS => ?_)
    obtain ⟨bmn_4, pan_5, p0n_6, p1n_7, p2n_8, lin_9, win_10, oun_11, okn_12, hnn_13, rfl, v_14, rfl⟩ := h_3
    have hP : va_P D vwCl (WW ad cJ cI cZ bmn_4 pan_5 p0n_6 p1n_7 p2n_8 lin_9 win_10 mt ms ma mp mk mn oun_11) H := hP
    have hD : va_D A (WW ad cJ cI cZ bmn_4 pan_5 p0n_6 p1n_7 p2n_8 lin_9 win_10 mt ms ma mp mk mn oun_11) := hD
    refine bm_zb_eq (x := v_14) (tgt := 15) hx hb dL_lock_8 (by decide) (fun c_15 => ?_) (fun c_15 => ?_)
    · refine lv_lconst (v := 0) hx hb dL_lock_15 (by decide) ?_
      refine bm_last (f := oun_11) hx hb hK hP hD hS 62 0 ww_62 rfl (j := 0) (x := 0) (by omega) (by decide) dL_lock_16 (fun H locs hP hD hS => ?_)
      have hP : va_P D vwCl (WW ad cJ cI cZ bmn_4 pan_5 p0n_6 p1n_7 p2n_8 lin_9 win_10 mt ms ma mp mk mn (va_up oun_11 0 0)) H := hP
      have hD : va_D A (WW ad cJ cI cZ bmn_4 pan_5 p0n_6 p1n_7 p2n_8 lin_9 win_10 mt ms ma mp mk mn (va_up oun_11 0 0)) := hD
      refine lv_goto (tgt := 24) hx hb dL_lock_17 (by decide) ?_
      refine lv_iconst (v := nI 0) hx hb dL_lock_24 (by decide) ?_
      refine W.widen (k := 1) (n := 6) (by decide) (by decide) ?_
      exact bm_iretX (v := (nI 0)) hx hb hr hP hD hK hS ⟨bmn_4, pan_5, p0n_6, p1n_7, p2n_8, lin_9, win_10, (va_up oun_11 0 0), okn_12, hnn_13, rfl, (nI 0), rfl⟩ dL_lock_25 hlocks
    · refine lv_lconst (v := 1) hx hb dL_lock_11 (by decide) ?_
      refine lv_goto (tgt := 16) hx hb dL_lock_12 (by decide) ?_
      refine bm_last (f := oun_11) hx hb hK hP hD hS 62 0 ww_62 rfl (j := 0) (x := 1) (by omega) (by decide) dL_lock_16 (fun H locs hP hD hS => ?_)
      have hP : va_P D vwCl (WW ad cJ cI cZ bmn_4 pan_5 p0n_6 p1n_7 p2n_8 lin_9 win_10 mt ms ma mp mk mn (va_up oun_11 0 1)) H := hP
      have hD : va_D A (WW ad cJ cI cZ bmn_4 pan_5 p0n_6 p1n_7 p2n_8 lin_9 win_10 mt ms ma mp mk mn (va_up oun_11 0 1)) := hD
      refine lv_goto (tgt := 24) hx hb dL_lock_17 (by decide) ?_
      refine lv_iconst (v := nI 0) hx hb dL_lock_24 (by decide) ?_
      refine W.widen (k := 1) (n := 6) (by decide) (by decide) ?_
      exact bm_iretX (v := (nI 0)) hx hb hr hP hD hK hS ⟨bmn_4, pan_5, p0n_6, p1n_7, p2n_8, lin_9, win_10, (va_up oun_11 0 1), okn_12, hnn_13, rfl, (nI 0), rfl⟩ dL_lock_25 hlocks
  · have hl := lv_entry ([.ref (ad 0), .int zA, .int (bm_b zB), .ref (ad 62)]) (n := 5) (Nat.le_of_ble_eq_true rfl)
    refine W.eq (g2 := entryFrame m ([.ref (ad 0), .int zA, .int (bm_b zB), .ref (ad 62)] : List Value).toArray 5) (by rw [ha]) ?_
    rw [lg_entry_eq]
    generalize (lg_sl ([.ref (ad 0), .int zA, .int (bm_b zB), .ref (ad 62)]) ++ List.replicate (5 - (lg_sl ([.ref (ad 0), .int zA, .int (bm_b zB), .ref (ad 62)])).length) Slot.unset).toArray = ls at hl ⊢
    have hl : lv_has ls 5 [(0, .ref (ad 0)), (1, .int zA), (2, .int (bm_b zB)), (3, .ref (ad 62))] := hl
    refine lv_aload_n hx hb dL_lock_0 rfl (lv_at hl 3 rfl) ?_
    refine lv_iconst (v := nI 0) hx hb dL_lock_1 (by decide) ?_
    refine lv_aload_n hx hb dL_lock_2 rfl (lv_at hl 0 rfl) ?_
    refine lv_iload_n hx hb dL_lock_3 rfl (lv_at hl 1 rfl) ?_
    refine lv_iload_n hx hb dL_lock_4 rfl (lv_at hl 2 rfl) ?_
    refine bx_catch (name := "java/lang/IndexOutOfBoundsException") (bx_tcallV (As := [.int zA, .int (bm_b zB)]) (rest := [.int (nI 0), .ref (ad 62)]) ⟨hx, hb, hml, hown, hts⟩ (X_lock1 hlt  hno_zA) (cwV 2 hts gwL_21 rfl rfl rfl hvX4_lock ⟨Nat.le_of_ble_eq_true rfl, Nat.le_of_ble_eq_true rfl⟩) hK hP hX hZ 0 4 rfl ww_0 rfl hl.1 rfl (Nat.le_of_ble_eq_true rfl) dL_lock_5 ⟨Nat.le_of_ble_eq_true rfl, Nat.le_of_ble_eq_true rfl⟩) hown htab (by decide) (by decide) (hts (.classLink RL 19 "java/lang/IndexOutOfBoundsException") (by decide +kernel)) (hX (.castable "java/lang/IndexOutOfBoundsException" "java/lang/IndexOutOfBoundsException") (by decide +kernel) _) (fun q9 H hz hh => ?_)
    have hP := bx_keepP hP hh
    have hS := bx_keepS hS hz hh
    refine lv_astore (lv' := [(4, .ref q9), (0, .ref (ad 0)), (1, .int zA), (2, .int (bm_b zB)), (3, .ref (ad 62))]) hx hb dL_lock_20 hl (by decide) rfl (fun ls hl => ?_)
    refine lv_iconst (v := nI 1) hx hb dL_lock_22 (by decide) ?_
    exact bm_iretX (v := (nI 1)) hx hb hr hP hD hK hS ⟨bm, pa, p0, p1, p2, li, wi, ou, hok, rfl, rfl, (nI 1), rfl⟩ dL_lock_23 hlocks
