set_option maxHeartbeats 16000000 in
set_option maxRecDepth 100000 in
theorem E_pinM {l : Launch} (hlt : l.stackTraces = false) {D : va_G} {ad : Nat → Nat} {cJ cI cZ : ClassId} {bm : gBM} {pa : gPA} {p0 p1 p2 : gPL} {li : gLI} {wi : gWI} {mt : Nat} {ms : gMS} {ma : gMA} {mp : gMP} {mk : gMK} {mn : gMN} {ou : Nat → Int64} (hok : okC bm pa p0 p1 p2 li wi) {zA : Nat} (hk_zA : zA < wi.2.2.2.2.2.2.2.2.2.1) {zB : Int32} (hno_zB : ¬ (¬ zB < 0 ∧ zB < nI pa.2.2.2.2.2.2)) {zC zD : Int64} (sz : Nat) : Met l yL_pin wsL_pin ({ frames := 8, cells := 1, slots := 6, locals := 148 }) (bx_Hn D vwCl [(cJ, .long), (cI, .int), (cZ, .boolean)] (WW ad cJ cI cZ bm pa p0 p1 p2 li wi mt ms ma mp mk mn ou) [.ref (ad 0), .int (nI zA), .int zB, .long zC, .long zD, .ref (ad 62)] sz) (bm_Wxq D vwCl [(cJ, .long), (cI, .int), (cZ, .boolean)] (fun ws9 r9 => ∃ (bm9 : gBM) (pa9 : gPA) (p09 p19 p29 : gPL) (li9 : gLI) (wi9 : gWI) (ou9 : Nat → Int64), okC bm9 pa9 p09 p19 p29 li9 wi9 ∧ (pa9.2.2.2.2.2.2, pa9.1, pa9.2.1, wi9.2.2.2.2.2.2.2.2.2.1, wi9.2.2.2.2.2.2.2.2.2.2) = (pa.2.2.2.2.2.2, pa.1, pa.2.1, wi.2.2.2.2.2.2.2.2.2.1, wi.2.2.2.2.2.2.2.2.2.2) ∧ ws9 = WW ad cJ cI cZ bm9 pa9 p09 p19 p29 li9 wi9 mt ms ma mp mk mn ou9 ∧ r9 = some (.int (nI 1))) (va_A (WW ad cJ cI cZ bm pa p0 p1 p2 li wi mt ms ma mp mk mn ou) sz)) 1 6 (va_A (WW ad cJ cI cZ bm pa p0 p1 p2 li wi mt ms ma mp mk mn ou) sz) := by
  have hok9 := hok
  obtain ⟨ok_pa_n, ok_pa_side, ok_pa_lowest, ok_p0_turn, ok_p1_turn, ok_p2_turn, ok_li_one, ok_li_other, ok_li_keepOuts, ok_li_nears, ok_wi_netOf, ok_wi_partOf, ok_wi_nets, ok_wi_pins, hw, hh⟩ := hok9
  refine bx_ofWH (cc := cL_pin) (maxL := 9) (ret := (some .int)) (hs := [(0, 21, 24, 19), (0, 21, 28, 13)]) (by decide) rfl ?_
  intro p e s m args below meth c s₁ B hml htab hv9
  obtain ⟨⟨ha, hsz, hP, hK, hD0, hX, hZ⟩, hN1, hN2⟩ := hv9
  have hx := B.exec
  have hb := B.bytes
  have hr := B.returns
  have hts := atoms_spec (ws := wsL_pin) B.pre
  have hown : s.vm.findClass RL = some m.cls := findClass_of_methodNamed B.named
  have hlocks := B.notSynchronized
  subst hsz
  have hD := hD0.self (sz := s.heap.size)
  generalize hAe : va_A (WW ad cJ cI cZ bm pa p0 p1 p2 li wi mt ms ma mp mk mn ou) s.heap.size = A at hD ⊢
  have hA : ∀ q : Nat, s.heap.size ≤ q → A q := fun q h => by rw [← hAe]; exact Or.inr h
  have hS : va_S A s.heap s.heap [] := va_S.rf
  have hl := lv_entry ([.ref (ad 0), .int (nI zA), .int zB, .long zC, .long zD, .ref (ad 62)]) (n := 9) (Nat.le_of_ble_eq_true rfl)
  refine W.eq (g2 := entryFrame m ([.ref (ad 0), .int (nI zA), .int zB, .long zC, .long zD, .ref (ad 62)] : List Value).toArray 9) (by rw [ha]) ?_
  rw [lg_entry_eq]
  generalize (lg_sl ([.ref (ad 0), .int (nI zA), .int zB, .long zC, .long zD, .ref (ad 62)]) ++ List.replicate (9 - (lg_sl ([.ref (ad 0), .int (nI zA), .int zB, .long zC, .long zD, .ref (ad 62)])).length) Slot.unset).toArray = ls at hl ⊢
  have hl : lv_has ls 9 [(0, .ref (ad 0)), (1, .int (nI zA)), (2, .int zB), (3, .long zC), (5, .long zD), (7, .ref (ad 62))] := hl
  refine lv_aload hx hb dL_pin_0 (lv_at hl 5 rfl) ?_
  refine lv_iconst (v := nI 0) hx hb dL_pin_2 (by decide) ?_
  refine lv_aload_n hx hb dL_pin_3 rfl (lv_at hl 0 rfl) ?_
  refine lv_iload_n hx hb dL_pin_4 rfl (lv_at hl 1 rfl) ?_
  refine lv_iload_n hx hb dL_pin_5 rfl (lv_at hl 2 rfl) ?_
  refine lv_lload_n hx hb dL_pin_6 rfl (lv_at hl 3 rfl) ?_
  refine lv_lload hx hb dL_pin_7 (lv_at hl 4 rfl) ?_
  refine bx_catch (name := "java/lang/IndexOutOfBoundsException") (bx_tcallV (As := [.int (nI zA), .int zB, .long zC, .long zD]) (rest := [.int (nI 0), .ref (ad 62)]) ⟨hx, hb, hml, hown, hts⟩ (X_pin2 hlt ok_wi_nets hk_zA hno_zB) (cwV 4 hts gwL_25 rfl rfl rfl hvX4_pin ⟨Nat.le_of_ble_eq_true rfl, Nat.le_of_ble_eq_true rfl⟩) hK hP hX hZ 0 4 rfl ww_0 rfl hl.1 rfl (Nat.le_of_ble_eq_true rfl) dL_pin_9 ⟨Nat.le_of_ble_eq_true rfl, Nat.le_of_ble_eq_true rfl⟩) hown htab (by decide) (by decide) (hts (.classLink RL 19 "java/lang/IndexOutOfBoundsException") (by decide +kernel)) (hX (.castable "java/lang/IndexOutOfBoundsException" "java/lang/IndexOutOfBoundsException") (by decide +kernel) _) (fun q9 H hz hh => ?_)
  have hP := bx_keepP hP hh
  have hS := bx_keepS hS hz hh
  refine lv_astore (lv' := [(8, .ref q9), (0, .ref (ad 0)), (1, .int (nI zA)), (2, .int zB), (3, .long zC), (5, .long zD), (7, .ref (ad 62))]) hx hb dL_pin_24 hl (by decide) rfl (fun ls hl => ?_)
  refine lv_iconst (v := nI 1) hx hb dL_pin_26 (by decide) ?_
  exact bm_iretX (v := nI 1) hx hb hr hP hD hK hS ⟨bm, pa, p0, p1, p2, li, wi, ou, hok, rfl, rfl, rfl⟩ dL_pin_27 hlocks

set_option maxHeartbeats 16000000 in
set_option maxRecDepth 100000 in
theorem E_pinN {l : Launch} (hlt : l.stackTraces = false) {D : va_G} {ad : Nat → Nat} {cJ cI cZ : ClassId} {bm : gBM} {pa : gPA} {p0 p1 p2 : gPL} {li : gLI} {wi : gWI} {mt : Nat} {ms : gMS} {ma : gMA} {mp : gMP} {mk : gMK} {mn : gMN} {ou : Nat → Int64} (hok : okC bm pa p0 p1 p2 li wi) {zA : Int32} (hno_zA : ¬ (¬ zA < 0 ∧ zA < nI wi.2.2.2.2.2.2.2.2.2.1)) {zB : Int32} {zC zD : Int64} (sz : Nat) : Met l yL_pin wsL_pin ({ frames := 7, cells := 1, slots := 6, locals := 127 }) (bx_Hn D vwCl [(cJ, .long), (cI, .int), (cZ, .boolean)] (WW ad cJ cI cZ bm pa p0 p1 p2 li wi mt ms ma mp mk mn ou) [.ref (ad 0), .int zA, .int zB, .long zC, .long zD, .ref (ad 62)] sz) (bm_Wxq D vwCl [(cJ, .long), (cI, .int), (cZ, .boolean)] (fun ws9 r9 => ∃ (bm9 : gBM) (pa9 : gPA) (p09 p19 p29 : gPL) (li9 : gLI) (wi9 : gWI) (ou9 : Nat → Int64), okC bm9 pa9 p09 p19 p29 li9 wi9 ∧ (pa9.2.2.2.2.2.2, pa9.1, pa9.2.1, wi9.2.2.2.2.2.2.2.2.2.1, wi9.2.2.2.2.2.2.2.2.2.2) = (pa.2.2.2.2.2.2, pa.1, pa.2.1, wi.2.2.2.2.2.2.2.2.2.1, wi.2.2.2.2.2.2.2.2.2.2) ∧ ws9 = WW ad cJ cI cZ bm9 pa9 p09 p19 p29 li9 wi9 mt ms ma mp mk mn ou9 ∧ r9 = some (.int (nI 1))) (va_A (WW ad cJ cI cZ bm pa p0 p1 p2 li wi mt ms ma mp mk mn ou) sz)) 1 6 (va_A (WW ad cJ cI cZ bm pa p0 p1 p2 li wi mt ms ma mp mk mn ou) sz) := by
  have hok9 := hok
  obtain ⟨ok_pa_n, ok_pa_side, ok_pa_lowest, ok_p0_turn, ok_p1_turn, ok_p2_turn, ok_li_one, ok_li_other, ok_li_keepOuts, ok_li_nears, ok_wi_netOf, ok_wi_partOf, ok_wi_nets, ok_wi_pins, hw, hh⟩ := hok9
  refine bx_ofWH (cc := cL_pin) (maxL := 9) (ret := (some .int)) (hs := [(0, 21, 24, 19), (0, 21, 28, 13)]) (by decide) rfl ?_
  intro p e s m args below meth c s₁ B hml htab hv9
  obtain ⟨⟨ha, hsz, hP, hK, hD0, hX, hZ⟩, hN1, hN2⟩ := hv9
  have hx := B.exec
  have hb := B.bytes
  have hr := B.returns
  have hts := atoms_spec (ws := wsL_pin) B.pre
  have hown : s.vm.findClass RL = some m.cls := findClass_of_methodNamed B.named
  have hlocks := B.notSynchronized
  subst hsz
  have hD := hD0.self (sz := s.heap.size)
  generalize hAe : va_A (WW ad cJ cI cZ bm pa p0 p1 p2 li wi mt ms ma mp mk mn ou) s.heap.size = A at hD ⊢
  have hA : ∀ q : Nat, s.heap.size ≤ q → A q := fun q h => by rw [← hAe]; exact Or.inr h
  have hS : va_S A s.heap s.heap [] := va_S.rf
  have hl := lv_entry ([.ref (ad 0), .int zA, .int zB, .long zC, .long zD, .ref (ad 62)]) (n := 9) (Nat.le_of_ble_eq_true rfl)
  refine W.eq (g2 := entryFrame m ([.ref (ad 0), .int zA, .int zB, .long zC, .long zD, .ref (ad 62)] : List Value).toArray 9) (by rw [ha]) ?_
  rw [lg_entry_eq]
  generalize (lg_sl ([.ref (ad 0), .int zA, .int zB, .long zC, .long zD, .ref (ad 62)]) ++ List.replicate (9 - (lg_sl ([.ref (ad 0), .int zA, .int zB, .long zC, .long zD, .ref (ad 62)])).length) Slot.unset).toArray = ls at hl ⊢
  have hl : lv_has ls 9 [(0, .ref (ad 0)), (1, .int zA), (2, .int zB), (3, .long zC), (5, .long zD), (7, .ref (ad 62))] := hl
  refine lv_aload hx hb dL_pin_0 (lv_at hl 5 rfl) ?_
  refine lv_iconst (v := nI 0) hx hb dL_pin_2 (by decide) ?_
  refine lv_aload_n hx hb dL_pin_3 rfl (lv_at hl 0 rfl) ?_
  refine lv_iload_n hx hb dL_pin_4 rfl (lv_at hl 1 rfl) ?_
  refine lv_iload_n hx hb dL_pin_5 rfl (lv_at hl 2 rfl) ?_
  refine lv_lload_n hx hb dL_pin_6 rfl (lv_at hl 3 rfl) ?_
  refine lv_lload hx hb dL_pin_7 (lv_at hl 4 rfl) ?_
  refine bx_catch (name := "java/lang/IndexOutOfBoundsException") (bx_tcallV (As := [.int zA, .int zB, .long zC, .long zD]) (rest := [.int (nI 0), .ref (ad 62)]) ⟨hx, hb, hml, hown, hts⟩ (X_pin1 hlt hno_zA) (cwV 4 hts gwL_25 rfl rfl rfl hvX4_pin ⟨Nat.le_of_ble_eq_true rfl, Nat.le_of_ble_eq_true rfl⟩) hK hP hX hZ 0 4 rfl ww_0 rfl hl.1 rfl (Nat.le_of_ble_eq_true rfl) dL_pin_9 ⟨Nat.le_of_ble_eq_true rfl, Nat.le_of_ble_eq_true rfl⟩) hown htab (by decide) (by decide) (hts (.classLink RL 19 "java/lang/IndexOutOfBoundsException") (by decide +kernel)) (hX (.castable "java/lang/IndexOutOfBoundsException" "java/lang/IndexOutOfBoundsException") (by decide +kernel) _) (fun q9 H hz hh => ?_)
  have hP := bx_keepP hP hh
  have hS := bx_keepS hS hz hh
  refine lv_astore (lv' := [(8, .ref q9), (0, .ref (ad 0)), (1, .int zA), (2, .int zB), (3, .long zC), (5, .long zD), (7, .ref (ad 62))]) hx hb dL_pin_24 hl (by decide) rfl (fun ls hl => ?_)
  refine lv_iconst (v := nI 1) hx hb dL_pin_26 (by decide) ?_
  exact bm_iretX (v := nI 1) hx hb hr hP hD hK hS ⟨bm, pa, p0, p1, p2, li, wi, ou, hok, rfl, rfl, rfl⟩ dL_pin_27 hlocks

set_option maxHeartbeats 4000000 in
set_option maxRecDepth 100000 in
theorem Y_pin3 {l : Launch} {D : va_G} {ad : Nat → Nat} {cJ cI cZ : ClassId} {bm : gBM} {pa : gPA} {p0 p1 p2 : gPL} {li : gLI} {wi : gWI} {mt : Nat} {ms : gMS} {ma : gMA} {mp : gMP} {mk : gMK} {mn : gMN} {ou : Nat → Int64} (okw : ms.2.2.2.2.2.1 ≤ 40) (okp : ms.2.2.1 ≤ 40) (okx : ms.2.2.2.2.2.2.1 ≤ 120) {zA : Nat} (hk_zA : zA < ms.2.2.2.2.2.1) {zB : Nat} (hk_zB : zB < ms.2.2.1) {zC zD : Int64} (hv : q_in zC (ma.1 zB) zD (ma.2.1 zB) = true) (hq : ms.2.2.2.2.2.2.1 < 120) : bm_Wr l yX5_pin wsX5_pin ({ frames := 1, cells := 0, slots := 0, locals := 21 }) D vwCl [(cJ, .long), (cI, .int), (cZ, .boolean)] (WW ad cJ cI cZ bm pa p0 p1 p2 li wi mt ms ma mp mk mn ou) [.ref (ad 42), .int (nI zA), .int (nI zB), .long zC, .long zD] (WW ad cJ cI cZ bm pa p0 p1 p2 li wi (0) (ms.1, ms.2.1, ms.2.2.1, ms.2.2.2.1, ms.2.2.2.2.1, ms.2.2.2.2.2.1, ms.2.2.2.2.2.2.1 + 1, ms.2.2.2.2.2.2.2) ma mp mk (va_up mn.1 ms.2.2.2.2.2.2.1 zA, va_up mn.2.1 ms.2.2.2.2.2.2.1 zB, va_up mn.2.2.1 ms.2.2.2.2.2.2.1 zC, va_up mn.2.2.2.1 ms.2.2.2.2.2.2.1 zD, mn.2.2.2.2) ou) (some (.int (bm_b true))) := by
  intro sz
  refine Met.ofW (cc := cX5_pin) (maxL := 9) (ret := (some .boolean)) (by decide) rfl ?_
  intro p e s m args below meth c s₁ B hml hv
  obtain ⟨ha, hsz, hP, hK, hD0⟩ := hv
  have hx := B.exec
  have hb := B.bytes
  have hr := B.returns
  have hts := atoms_spec (ws := wsX5_pin) B.pre
  have hown : s.vm.findClass RX5 = some m.cls := findClass_of_methodNamed B.named
  have hlocks := B.notSynchronized
  subst hsz
  have hD := hD0.self (sz := s.heap.size)
  generalize hAe : va_A (WW ad cJ cI cZ bm pa p0 p1 p2 li wi mt ms ma mp mk mn ou) s.heap.size = A at hD ⊢
  have hA : ∀ q : Nat, s.heap.size ≤ q → A q := fun q h => by rw [← hAe]; exact Or.inr h
  have hS : va_S A s.heap s.heap [] := va_S.rf
  have hl := lv_entry ([.ref (ad 42), .int (nI zA), .int (nI zB), .long zC, .long zD]) (n := 9) (Nat.le_of_ble_eq_true rfl)
  refine W.eq (g2 := entryFrame m ([.ref (ad 42), .int (nI zA), .int (nI zB), .long zC, .long zD] : List Value).toArray 9) (by rw [ha]) ?_
  rw [lg_entry_eq]
  generalize (lg_sl ([.ref (ad 42), .int (nI zA), .int (nI zB), .long zC, .long zD]) ++ List.replicate (9 - (lg_sl ([.ref (ad 42), .int (nI zA), .int (nI zB), .long zC, .long zD])).length) Slot.unset).toArray = ls at hl ⊢
  have hl : lv_has ls 9 [(0, .ref (ad 42)), (1, .int (nI zA)), (2, .int (nI zB)), (3, .long zC), (5, .long zD)] := hl
  refine lv_iload_n hx hb dX5_pin_0 rfl (lv_at hl 1 rfl) ?_
  refine lv_if_lt (x := (nI zA)) (tgt := 24) hx hb dX5_pin_1 (by decide) (fun c_1 => ?_) (fun c_1 => ?_)
  · exact absurd c_1 (bx_nn (by omega))
  · refine lv_iload_n hx hb dX5_pin_4 rfl (lv_at hl 1 rfl) ?_
    refine lv_aload_n hx hb dX5_pin_5 rfl (lv_at hl 0 rfl) ?_
    refine va_get (D := D) (ci := 5) (v := .int (nI ms.2.2.2.2.2.1)) (C := RX5) (T := TX5) (N := 28) hx hb hts (inT inX5) hown hK hP 42 ww_42 rfl 20 (by decide) (hts (.fieldLink RX5 160 "BoardMovesModel" "nets" "I") (List.mem_cons_of_mem _ flX5_160)) (fun _ h9 => h9) rfl dX5_pin_6 ?_
    refine bm_ni_ge (x := zA) (y := ms.2.2.2.2.2.1) (tgt := 24) hx hb (by omega) (by omega) dX5_pin_9 (by decide) (fun c_2 => ?_) (fun c_2 => ?_)
    · exact absurd hk_zA c_2
    · refine lv_aload_n hx hb dX5_pin_12 rfl (lv_at hl 0 rfl) ?_
      refine lv_iload_n hx hb dX5_pin_13 rfl (lv_at hl 2 rfl) ?_
      refine bm_rcallV (As := [.int (nI zB)]) (rest := []) ⟨hx, hb, hml, hown, hts⟩ (Y_isPartY okp (by omega)) (cwV 1 hts gvX5_139 rfl rfl rfl hvX5_isPart ⟨Nat.le_of_ble_eq_true rfl, Nat.le_of_ble_eq_true rfl⟩) hK hP 42 5 rfl ww_42 rfl hl.1 rfl (Nat.le_of_ble_eq_true rfl) dX5_pin_14 ⟨Nat.le_of_ble_eq_true rfl, Nat.le_of_ble_eq_true rfl⟩ ?_
      refine bm_zb_eq (x := true) (tgt := 24) hx hb dX5_pin_17 (by decide) (fun c_3 => ?_) (fun c_3 => ?_)
      · exact absurd c_3 (by decide)
      · refine lv_iconst (v := bm_b true) hx hb dX5_pin_20 (by decide) ?_
        refine lv_goto (tgt := 25) hx hb dX5_pin_21 (by decide) ?_
        refine lv_istore (lv' := [(7, .int (bm_b true)), (0, .ref (ad 42)), (1, .int (nI zA)), (2, .int (nI zB)), (3, .long zC), (5, .long zD)]) hx hb dX5_pin_25 hl (by decide) rfl (fun ls hl => ?_)
        refine lv_iload hx hb dX5_pin_27 (lv_at hl 0 rfl) ?_
        refine bm_zb_eq (x := true) (tgt := 72) hx hb dX5_pin_29 (by decide) (fun c_4 => ?_) (fun c_4 => ?_)
        · exact absurd c_4 (by decide)
        · refine lv_lload_n hx hb dX5_pin_32 rfl (lv_at hl 4 rfl) ?_
          refine lv_lconst (v := 0) hx hb dX5_pin_33 (by decide) ?_
          refine bm_lc_lt (x := zC) (y := 0) (tgt := 72) hx hb dX5_pin_34 dX5_pin_35 (by decide) (fun c_5 => ?_) (fun c_5 => ?_)
          · exact absurd hv (by simp [q_in, c_5])
          · refine lv_lload_n hx hb dX5_pin_38 rfl (lv_at hl 4 rfl) ?_
            refine lv_aload_n hx hb dX5_pin_39 rfl (lv_at hl 1 rfl) ?_
            refine va_get (D := D) (ci := 5) (v := .ref (ad 43)) (C := RX5) (T := TX5) (N := 28) hx hb hts (inT inX5) hown hK hP 42 ww_42 rfl 4 (by decide) (hts (.fieldLink RX5 7 "BoardMovesModel" "wide" "[J") (List.mem_cons_of_mem _ flX5_7)) (fun _ h9 => h9) rfl dX5_pin_40 ?_
            refine lv_iload_n hx hb dX5_pin_43 rfl (lv_at hl 3 rfl) ?_
            refine bm_lald (f := ma.1) hx hb hK hP 43 0 ww_43 rfl (j := zB) (by omega) (by decide) dX5_pin_44 ?_
            refine bm_lc_gt (x := zC) (y := (ma.1 zB)) (tgt := 72) hx hb dX5_pin_45 dX5_pin_46 (by decide) (fun c_6 => ?_) (fun c_6 => ?_)
            · exact absurd hv (by simp [q_in, c_6])
            · refine lv_lload hx hb dX5_pin_49 (lv_at hl 5 rfl) ?_
              refine lv_lconst (v := 0) hx hb dX5_pin_51 (by decide) ?_
              refine bm_lc_lt (x := zD) (y := 0) (tgt := 72) hx hb dX5_pin_52 dX5_pin_53 (by decide) (fun c_7 => ?_) (fun c_7 => ?_)
              · exact absurd hv (by simp [q_in, c_7])
              · refine lv_lload hx hb dX5_pin_56 (lv_at hl 5 rfl) ?_
                refine lv_aload_n hx hb dX5_pin_58 rfl (lv_at hl 1 rfl) ?_
                refine va_get (D := D) (ci := 5) (v := .ref (ad 44)) (C := RX5) (T := TX5) (N := 28) hx hb hts (inT inX5) hown hK hP 42 ww_42 rfl 5 (by decide) (hts (.fieldLink RX5 13 "BoardMovesModel" "high" "[J") (List.mem_cons_of_mem _ flX5_13)) (fun _ h9 => h9) rfl dX5_pin_59 ?_
                refine lv_iload_n hx hb dX5_pin_62 rfl (lv_at hl 3 rfl) ?_
                refine bm_lald (f := ma.2.1) hx hb hK hP 44 0 ww_44 rfl (j := zB) (by omega) (by decide) dX5_pin_63 ?_
                refine bm_lc_gt (x := zD) (y := (ma.2.1 zB)) (tgt := 72) hx hb dX5_pin_64 dX5_pin_65 (by decide) (fun c_8 => ?_) (fun c_8 => ?_)
                · exact absurd hv (by simp [q_in, c_8])
                · refine lv_iconst (v := bm_b true) hx hb dX5_pin_68 (by decide) ?_
                  refine lv_goto (tgt := 73) hx hb dX5_pin_69 (by decide) ?_
                  refine lv_istore (lv' := [(8, .int (bm_b true)), (7, .int (bm_b true)), (0, .ref (ad 42)), (1, .int (nI zA)), (2, .int (nI zB)), (3, .long zC), (5, .long zD)]) hx hb dX5_pin_73 hl (by decide) rfl (fun ls hl => ?_)
                  refine lv_aload_n hx hb dX5_pin_75 rfl (lv_at hl 2 rfl) ?_
                  refine lv_iload hx hb dX5_pin_76 (lv_at hl 1 rfl) ?_
                  refine bm_zb_ne (x := true) (tgt := 85) hx hb dX5_pin_78 (by decide) (fun c_9 => ?_) (fun c_9 => ?_)
                  · refine lv_iload hx hb dX5_pin_85 (lv_at hl 0 rfl) ?_
                    refine bm_zb_eq (x := true) (tgt := 94) hx hb dX5_pin_87 (by decide) (fun c_10 => ?_) (fun c_10 => ?_)
                    · exact absurd c_10 (by decide)
                    · refine lv_iconst (v := nI 0) hx hb dX5_pin_90 (by decide) ?_
                      refine lv_goto (tgt := 95) hx hb dX5_pin_91 (by decide) ?_
                      refine va_put (D := D) (ci := 5) (v := .int (nI 0)) (ty := .int) (C := RX5) (T := TX5) (N := 28) hx hb hts (inT inX5) tyX5 tyX5_ok nmX5 hown hK hP hD hS 42 ww_42 rfl 0 (by decide) (hts (.fieldLink RX5 81 "BoardMovesModel" "thrown" "I") (List.mem_cons_of_mem _ flX5_81)) (fun _ h9 => h9) rfl (by decide +kernel) rfl rfl (Nat.le_of_ble_eq_true rfl) dX5_pin_95 (fun H locs hP hD hS => ?_)
                      have hP : va_P D vwCl (WW ad cJ cI cZ bm pa p0 p1 p2 li wi (0) ms ma mp mk mn ou) H := hP
                      have hD : va_D A (WW ad cJ cI cZ bm pa p0 p1 p2 li wi (0) ms ma mp mk mn ou) := hD
                      refine lv_aload_n hx hb dX5_pin_98 rfl (lv_at hl 2 rfl) ?_
                      refine va_get (D := D) (ci := 5) (v := .int (nI 0)) (C := RX5) (T := TX5) (N := 28) hx hb hts (inT inX5) hown hK hP 42 ww_42 rfl 0 (by decide) (hts (.fieldLink RX5 81 "BoardMovesModel" "thrown" "I") (List.mem_cons_of_mem _ flX5_81)) (fun _ h9 => h9) rfl dX5_pin_99 ?_
                      refine bm_nz_ne (x := 0) (tgt := 114) hx hb (by decide) dX5_pin_102 (by decide) (fun c_11 => ?_) (fun c_11 => ?_)
                      · exact absurd c_11 (by decide)
                      · refine lv_aload_n hx hb dX5_pin_105 rfl (lv_at hl 2 rfl) ?_
                        refine va_get (D := D) (ci := 5) (v := .int (nI ms.2.2.2.2.2.2.1)) (C := RX5) (T := TX5) (N := 28) hx hb hts (inT inX5) hown hK hP 42 ww_42 rfl 21 (by decide) (hts (.fieldLink RX5 163 "BoardMovesModel" "pins" "I") (List.mem_cons_of_mem _ flX5_163)) (fun _ h9 => h9) rfl dX5_pin_106 ?_
                        refine lv_bipush (v := nI 120) hx hb dX5_pin_109 (by decide) ?_
                        refine bm_ni_ne (x := ms.2.2.2.2.2.2.1) (y := 120) (tgt := 116) hx hb (by omega) (by omega) dX5_pin_111 (by decide) (fun c_12 => ?_) (fun c_12 => ?_)
                        · refine lv_aload_n hx hb dX5_pin_116 rfl (lv_at hl 2 rfl) ?_
                          refine va_get (D := D) (ci := 5) (v := .ref (ad 57)) (C := RX5) (T := TX5) (N := 28) hx hb hts (inT inX5) hown hK hP 42 ww_42 rfl 22 (by decide) (hts (.fieldLink RX5 54 "BoardMovesModel" "pinNet" "[I") (List.mem_cons_of_mem _ flX5_54)) (fun _ h9 => h9) rfl dX5_pin_117 ?_
                          refine lv_aload_n hx hb dX5_pin_120 rfl (lv_at hl 2 rfl) ?_
                          refine va_get (D := D) (ci := 5) (v := .int (nI ms.2.2.2.2.2.2.1)) (C := RX5) (T := TX5) (N := 28) hx hb hts (inT inX5) hown hK hP 42 ww_42 rfl 21 (by decide) (hts (.fieldLink RX5 163 "BoardMovesModel" "pins" "I") (List.mem_cons_of_mem _ flX5_163)) (fun _ h9 => h9) rfl dX5_pin_121 ?_
                          refine lv_iload_n hx hb dX5_pin_124 rfl (lv_at hl 3 rfl) ?_
                          refine bm_nast (f := mn.1) hx hb hK hP hD hS 57 1 ww_57 rfl (j := ms.2.2.2.2.2.2.1) (x := zA) (by omega) (by decide) dX5_pin_125 (fun H locs hP hD hS => ?_)
                          have hP : va_P D vwCl (WW ad cJ cI cZ bm pa p0 p1 p2 li wi (0) ms ma mp mk (va_up mn.1 ms.2.2.2.2.2.2.1 zA, mn.2.1, mn.2.2.1, mn.2.2.2.1, mn.2.2.2.2) ou) H := hP
                          have hD : va_D A (WW ad cJ cI cZ bm pa p0 p1 p2 li wi (0) ms ma mp mk (va_up mn.1 ms.2.2.2.2.2.2.1 zA, mn.2.1, mn.2.2.1, mn.2.2.2.1, mn.2.2.2.2) ou) := hD
                          refine lv_aload_n hx hb dX5_pin_126 rfl (lv_at hl 2 rfl) ?_
                          refine va_get (D := D) (ci := 5) (v := .ref (ad 58)) (C := RX5) (T := TX5) (N := 28) hx hb hts (inT inX5) hown hK hP 42 ww_42 rfl 23 (by decide) (hts (.fieldLink RX5 57 "BoardMovesModel" "pinPart" "[I") (List.mem_cons_of_mem _ flX5_57)) (fun _ h9 => h9) rfl dX5_pin_127 ?_
                          refine lv_aload_n hx hb dX5_pin_130 rfl (lv_at hl 2 rfl) ?_
                          refine va_get (D := D) (ci := 5) (v := .int (nI ms.2.2.2.2.2.2.1)) (C := RX5) (T := TX5) (N := 28) hx hb hts (inT inX5) hown hK hP 42 ww_42 rfl 21 (by decide) (hts (.fieldLink RX5 163 "BoardMovesModel" "pins" "I") (List.mem_cons_of_mem _ flX5_163)) (fun _ h9 => h9) rfl dX5_pin_131 ?_
                          refine lv_iload_n hx hb dX5_pin_134 rfl (lv_at hl 4 rfl) ?_
                          refine bm_nast (f := mn.2.1) hx hb hK hP hD hS 58 1 ww_58 rfl (j := ms.2.2.2.2.2.2.1) (x := zB) (by omega) (by decide) dX5_pin_135 (fun H locs hP hD hS => ?_)
                          have hP : va_P D vwCl (WW ad cJ cI cZ bm pa p0 p1 p2 li wi (0) ms ma mp mk (va_up mn.1 ms.2.2.2.2.2.2.1 zA, va_up mn.2.1 ms.2.2.2.2.2.2.1 zB, mn.2.2.1, mn.2.2.2.1, mn.2.2.2.2) ou) H := hP
                          have hD : va_D A (WW ad cJ cI cZ bm pa p0 p1 p2 li wi (0) ms ma mp mk (va_up mn.1 ms.2.2.2.2.2.2.1 zA, va_up mn.2.1 ms.2.2.2.2.2.2.1 zB, mn.2.2.1, mn.2.2.2.1, mn.2.2.2.2) ou) := hD
                          refine lv_aload_n hx hb dX5_pin_136 rfl (lv_at hl 2 rfl) ?_
                          refine va_get (D := D) (ci := 5) (v := .ref (ad 59)) (C := RX5) (T := TX5) (N := 28) hx hb hts (inT inX5) hown hK hP 42 ww_42 rfl 24 (by decide) (hts (.fieldLink RX5 60 "BoardMovesModel" "pinX" "[J") (List.mem_cons_of_mem _ flX5_60)) (fun _ h9 => h9) rfl dX5_pin_137 ?_
                          refine lv_aload_n hx hb dX5_pin_140 rfl (lv_at hl 2 rfl) ?_
                          refine va_get (D := D) (ci := 5) (v := .int (nI ms.2.2.2.2.2.2.1)) (C := RX5) (T := TX5) (N := 28) hx hb hts (inT inX5) hown hK hP 42 ww_42 rfl 21 (by decide) (hts (.fieldLink RX5 163 "BoardMovesModel" "pins" "I") (List.mem_cons_of_mem _ flX5_163)) (fun _ h9 => h9) rfl dX5_pin_141 ?_
                          refine lv_lload_n hx hb dX5_pin_144 rfl (lv_at hl 5 rfl) ?_
                          refine bm_last (f := mn.2.2.1) hx hb hK hP hD hS 59 0 ww_59 rfl (j := ms.2.2.2.2.2.2.1) (x := zC) (by omega) (by decide) dX5_pin_145 (fun H locs hP hD hS => ?_)
                          have hP : va_P D vwCl (WW ad cJ cI cZ bm pa p0 p1 p2 li wi (0) ms ma mp mk (va_up mn.1 ms.2.2.2.2.2.2.1 zA, va_up mn.2.1 ms.2.2.2.2.2.2.1 zB, va_up mn.2.2.1 ms.2.2.2.2.2.2.1 zC, mn.2.2.2.1, mn.2.2.2.2) ou) H := hP
                          have hD : va_D A (WW ad cJ cI cZ bm pa p0 p1 p2 li wi (0) ms ma mp mk (va_up mn.1 ms.2.2.2.2.2.2.1 zA, va_up mn.2.1 ms.2.2.2.2.2.2.1 zB, va_up mn.2.2.1 ms.2.2.2.2.2.2.1 zC, mn.2.2.2.1, mn.2.2.2.2) ou) := hD
                          refine lv_aload_n hx hb dX5_pin_146 rfl (lv_at hl 2 rfl) ?_
                          refine va_get (D := D) (ci := 5) (v := .ref (ad 60)) (C := RX5) (T := TX5) (N := 28) hx hb hts (inT inX5) hown hK hP 42 ww_42 rfl 25 (by decide) (hts (.fieldLink RX5 63 "BoardMovesModel" "pinY" "[J") (List.mem_cons_of_mem _ flX5_63)) (fun _ h9 => h9) rfl dX5_pin_147 ?_
                          refine lv_aload_n hx hb dX5_pin_150 rfl (lv_at hl 2 rfl) ?_
                          refine va_get (D := D) (ci := 5) (v := .int (nI ms.2.2.2.2.2.2.1)) (C := RX5) (T := TX5) (N := 28) hx hb hts (inT inX5) hown hK hP 42 ww_42 rfl 21 (by decide) (hts (.fieldLink RX5 163 "BoardMovesModel" "pins" "I") (List.mem_cons_of_mem _ flX5_163)) (fun _ h9 => h9) rfl dX5_pin_151 ?_
                          refine lv_lload hx hb dX5_pin_154 (lv_at hl 6 rfl) ?_
                          refine bm_last (f := mn.2.2.2.1) hx hb hK hP hD hS 60 0 ww_60 rfl (j := ms.2.2.2.2.2.2.1) (x := zD) (by omega) (by decide) dX5_pin_156 (fun H locs hP hD hS => ?_)
                          have hP : va_P D vwCl (WW ad cJ cI cZ bm pa p0 p1 p2 li wi (0) ms ma mp mk (va_up mn.1 ms.2.2.2.2.2.2.1 zA, va_up mn.2.1 ms.2.2.2.2.2.2.1 zB, va_up mn.2.2.1 ms.2.2.2.2.2.2.1 zC, va_up mn.2.2.2.1 ms.2.2.2.2.2.2.1 zD, mn.2.2.2.2) ou) H := hP
                          have hD : va_D A (WW ad cJ cI cZ bm pa p0 p1 p2 li wi (0) ms ma mp mk (va_up mn.1 ms.2.2.2.2.2.2.1 zA, va_up mn.2.1 ms.2.2.2.2.2.2.1 zB, va_up mn.2.2.1 ms.2.2.2.2.2.2.1 zC, va_up mn.2.2.2.1 ms.2.2.2.2.2.2.1 zD, mn.2.2.2.2) ou) := hD
                          refine lv_aload_n hx hb dX5_pin_157 rfl (lv_at hl 2 rfl) ?_
                          refine lv_dup hx hb dX5_pin_158 rfl ?_
                          refine va_get (D := D) (ci := 5) (v := .int (nI ms.2.2.2.2.2.2.1)) (C := RX5) (T := TX5) (N := 28) hx hb hts (inT inX5) hown hK hP 42 ww_42 rfl 21 (by decide) (hts (.fieldLink RX5 163 "BoardMovesModel" "pins" "I") (List.mem_cons_of_mem _ flX5_163)) (fun _ h9 => h9) rfl dX5_pin_159 ?_
                          refine lv_iconst (v := nI 1) hx hb dX5_pin_162 (by decide) ?_
                          refine bm_nadd hx hb dX5_pin_163 ?_
                          refine va_put (D := D) (ci := 5) (v := .int (nI (ms.2.2.2.2.2.2.1 + 1))) (ty := .int) (C := RX5) (T := TX5) (N := 28) hx hb hts (inT inX5) tyX5 tyX5_ok nmX5 hown hK hP hD hS 42 ww_42 rfl 21 (by decide) (hts (.fieldLink RX5 163 "BoardMovesModel" "pins" "I") (List.mem_cons_of_mem _ flX5_163)) (fun _ h9 => h9) rfl (by decide +kernel) rfl rfl (Nat.le_of_ble_eq_true rfl) dX5_pin_164 (fun H locs hP hD hS => ?_)
                          have hP : va_P D vwCl (WW ad cJ cI cZ bm pa p0 p1 p2 li wi (0) (ms.1, ms.2.1, ms.2.2.1, ms.2.2.2.1, ms.2.2.2.2.1, ms.2.2.2.2.2.1, ms.2.2.2.2.2.2.1 + 1, ms.2.2.2.2.2.2.2) ma mp mk (va_up mn.1 ms.2.2.2.2.2.2.1 zA, va_up mn.2.1 ms.2.2.2.2.2.2.1 zB, va_up mn.2.2.1 ms.2.2.2.2.2.2.1 zC, va_up mn.2.2.2.1 ms.2.2.2.2.2.2.1 zD, mn.2.2.2.2) ou) H := hP
                          have hD : va_D A (WW ad cJ cI cZ bm pa p0 p1 p2 li wi (0) (ms.1, ms.2.1, ms.2.2.1, ms.2.2.2.1, ms.2.2.2.2.1, ms.2.2.2.2.2.1, ms.2.2.2.2.2.2.1 + 1, ms.2.2.2.2.2.2.2) ma mp mk (va_up mn.1 ms.2.2.2.2.2.2.1 zA, va_up mn.2.1 ms.2.2.2.2.2.2.1 zB, va_up mn.2.2.1 ms.2.2.2.2.2.2.1 zC, va_up mn.2.2.2.1 ms.2.2.2.2.2.2.1 zD, mn.2.2.2.2) ou) := hD
                          refine lv_iconst (v := bm_b true) hx hb dX5_pin_167 (by decide) ?_
                          exact bm_zretW (v := true) hx hb hr hP hD hK hS ⟨rfl, rfl⟩ dX5_pin_168 hlocks
                        · exfalso; omega
                  · exact absurd c_9 (by decide)

set_option maxHeartbeats 4000000 in
set_option maxRecDepth 100000 in
theorem Y_pin4 {l : Launch} {D : va_G} {ad : Nat → Nat} {cJ cI cZ : ClassId} {bm : gBM} {pa : gPA} {p0 p1 p2 : gPL} {li : gLI} {wi : gWI} {mt : Nat} {ms : gMS} {ma : gMA} {mp : gMP} {mk : gMK} {mn : gMN} {ou : Nat → Int64} (okw : ms.2.2.2.2.2.1 ≤ 40) (okp : ms.2.2.1 ≤ 40) (okx : ms.2.2.2.2.2.2.1 ≤ 120) {zA : Nat} (hk_zA : zA < ms.2.2.2.2.2.1) {zB : Nat} (hk_zB : zB < ms.2.2.1) {zC zD : Int64} (hv : q_in zC (ma.1 zB) zD (ma.2.1 zB) = true) (hq : ms.2.2.2.2.2.2.1 = 120) : bm_Wr l yX5_pin wsX5_pin ({ frames := 1, cells := 0, slots := 0, locals := 21 }) D vwCl [(cJ, .long), (cI, .int), (cZ, .boolean)] (WW ad cJ cI cZ bm pa p0 p1 p2 li wi mt ms ma mp mk mn ou) [.ref (ad 42), .int (nI zA), .int (nI zB), .long zC, .long zD] (WW ad cJ cI cZ bm pa p0 p1 p2 li wi (0) ms ma mp mk mn ou) (some (.int (bm_b false))) := by
  intro sz
  refine Met.ofW (cc := cX5_pin) (maxL := 9) (ret := (some .boolean)) (by decide) rfl ?_
  intro p e s m args below meth c s₁ B hml hv
  obtain ⟨ha, hsz, hP, hK, hD0⟩ := hv
  have hx := B.exec
  have hb := B.bytes
  have hr := B.returns
  have hts := atoms_spec (ws := wsX5_pin) B.pre
  have hown : s.vm.findClass RX5 = some m.cls := findClass_of_methodNamed B.named
  have hlocks := B.notSynchronized
  subst hsz
  have hD := hD0.self (sz := s.heap.size)
  generalize hAe : va_A (WW ad cJ cI cZ bm pa p0 p1 p2 li wi mt ms ma mp mk mn ou) s.heap.size = A at hD ⊢
  have hA : ∀ q : Nat, s.heap.size ≤ q → A q := fun q h => by rw [← hAe]; exact Or.inr h
  have hS : va_S A s.heap s.heap [] := va_S.rf
  have hl := lv_entry ([.ref (ad 42), .int (nI zA), .int (nI zB), .long zC, .long zD]) (n := 9) (Nat.le_of_ble_eq_true rfl)
  refine W.eq (g2 := entryFrame m ([.ref (ad 42), .int (nI zA), .int (nI zB), .long zC, .long zD] : List Value).toArray 9) (by rw [ha]) ?_
  rw [lg_entry_eq]
  generalize (lg_sl ([.ref (ad 42), .int (nI zA), .int (nI zB), .long zC, .long zD]) ++ List.replicate (9 - (lg_sl ([.ref (ad 42), .int (nI zA), .int (nI zB), .long zC, .long zD])).length) Slot.unset).toArray = ls at hl ⊢
  have hl : lv_has ls 9 [(0, .ref (ad 42)), (1, .int (nI zA)), (2, .int (nI zB)), (3, .long zC), (5, .long zD)] := hl
  refine lv_iload_n hx hb dX5_pin_0 rfl (lv_at hl 1 rfl) ?_
  refine lv_if_lt (x := (nI zA)) (tgt := 24) hx hb dX5_pin_1 (by decide) (fun c_1 => ?_) (fun c_1 => ?_)
  · exact absurd c_1 (bx_nn (by omega))
  · refine lv_iload_n hx hb dX5_pin_4 rfl (lv_at hl 1 rfl) ?_
    refine lv_aload_n hx hb dX5_pin_5 rfl (lv_at hl 0 rfl) ?_
    refine va_get (D := D) (ci := 5) (v := .int (nI ms.2.2.2.2.2.1)) (C := RX5) (T := TX5) (N := 28) hx hb hts (inT inX5) hown hK hP 42 ww_42 rfl 20 (by decide) (hts (.fieldLink RX5 160 "BoardMovesModel" "nets" "I") (List.mem_cons_of_mem _ flX5_160)) (fun _ h9 => h9) rfl dX5_pin_6 ?_
    refine bm_ni_ge (x := zA) (y := ms.2.2.2.2.2.1) (tgt := 24) hx hb (by omega) (by omega) dX5_pin_9 (by decide) (fun c_2 => ?_) (fun c_2 => ?_)
    · exact absurd hk_zA c_2
    · refine lv_aload_n hx hb dX5_pin_12 rfl (lv_at hl 0 rfl) ?_
      refine lv_iload_n hx hb dX5_pin_13 rfl (lv_at hl 2 rfl) ?_
      refine bm_rcallV (As := [.int (nI zB)]) (rest := []) ⟨hx, hb, hml, hown, hts⟩ (Y_isPartY okp (by omega)) (cwV 1 hts gvX5_139 rfl rfl rfl hvX5_isPart ⟨Nat.le_of_ble_eq_true rfl, Nat.le_of_ble_eq_true rfl⟩) hK hP 42 5 rfl ww_42 rfl hl.1 rfl (Nat.le_of_ble_eq_true rfl) dX5_pin_14 ⟨Nat.le_of_ble_eq_true rfl, Nat.le_of_ble_eq_true rfl⟩ ?_
      refine bm_zb_eq (x := true) (tgt := 24) hx hb dX5_pin_17 (by decide) (fun c_3 => ?_) (fun c_3 => ?_)
      · exact absurd c_3 (by decide)
      · refine lv_iconst (v := bm_b true) hx hb dX5_pin_20 (by decide) ?_
        refine lv_goto (tgt := 25) hx hb dX5_pin_21 (by decide) ?_
        refine lv_istore (lv' := [(7, .int (bm_b true)), (0, .ref (ad 42)), (1, .int (nI zA)), (2, .int (nI zB)), (3, .long zC), (5, .long zD)]) hx hb dX5_pin_25 hl (by decide) rfl (fun ls hl => ?_)
        refine lv_iload hx hb dX5_pin_27 (lv_at hl 0 rfl) ?_
        refine bm_zb_eq (x := true) (tgt := 72) hx hb dX5_pin_29 (by decide) (fun c_4 => ?_) (fun c_4 => ?_)
        · exact absurd c_4 (by decide)
        · refine lv_lload_n hx hb dX5_pin_32 rfl (lv_at hl 4 rfl) ?_
          refine lv_lconst (v := 0) hx hb dX5_pin_33 (by decide) ?_
          refine bm_lc_lt (x := zC) (y := 0) (tgt := 72) hx hb dX5_pin_34 dX5_pin_35 (by decide) (fun c_5 => ?_) (fun c_5 => ?_)
          · exact absurd hv (by simp [q_in, c_5])
          · refine lv_lload_n hx hb dX5_pin_38 rfl (lv_at hl 4 rfl) ?_
            refine lv_aload_n hx hb dX5_pin_39 rfl (lv_at hl 1 rfl) ?_
            refine va_get (D := D) (ci := 5) (v := .ref (ad 43)) (C := RX5) (T := TX5) (N := 28) hx hb hts (inT inX5) hown hK hP 42 ww_42 rfl 4 (by decide) (hts (.fieldLink RX5 7 "BoardMovesModel" "wide" "[J") (List.mem_cons_of_mem _ flX5_7)) (fun _ h9 => h9) rfl dX5_pin_40 ?_
            refine lv_iload_n hx hb dX5_pin_43 rfl (lv_at hl 3 rfl) ?_
            refine bm_lald (f := ma.1) hx hb hK hP 43 0 ww_43 rfl (j := zB) (by omega) (by decide) dX5_pin_44 ?_
            refine bm_lc_gt (x := zC) (y := (ma.1 zB)) (tgt := 72) hx hb dX5_pin_45 dX5_pin_46 (by decide) (fun c_6 => ?_) (fun c_6 => ?_)
            · exact absurd hv (by simp [q_in, c_6])
            · refine lv_lload hx hb dX5_pin_49 (lv_at hl 5 rfl) ?_
              refine lv_lconst (v := 0) hx hb dX5_pin_51 (by decide) ?_
              refine bm_lc_lt (x := zD) (y := 0) (tgt := 72) hx hb dX5_pin_52 dX5_pin_53 (by decide) (fun c_7 => ?_) (fun c_7 => ?_)
              · exact absurd hv (by simp [q_in, c_7])
              · refine lv_lload hx hb dX5_pin_56 (lv_at hl 5 rfl) ?_
                refine lv_aload_n hx hb dX5_pin_58 rfl (lv_at hl 1 rfl) ?_
                refine va_get (D := D) (ci := 5) (v := .ref (ad 44)) (C := RX5) (T := TX5) (N := 28) hx hb hts (inT inX5) hown hK hP 42 ww_42 rfl 5 (by decide) (hts (.fieldLink RX5 13 "BoardMovesModel" "high" "[J") (List.mem_cons_of_mem _ flX5_13)) (fun _ h9 => h9) rfl dX5_pin_59 ?_
                refine lv_iload_n hx hb dX5_pin_62 rfl (lv_at hl 3 rfl) ?_
                refine bm_lald (f := ma.2.1) hx hb hK hP 44 0 ww_44 rfl (j := zB) (by omega) (by decide) dX5_pin_63 ?_
                refine bm_lc_gt (x := zD) (y := (ma.2.1 zB)) (tgt := 72) hx hb dX5_pin_64 dX5_pin_65 (by decide) (fun c_8 => ?_) (fun c_8 => ?_)
                · exact absurd hv (by simp [q_in, c_8])
                · refine lv_iconst (v := bm_b true) hx hb dX5_pin_68 (by decide) ?_
                  refine lv_goto (tgt := 73) hx hb dX5_pin_69 (by decide) ?_
                  refine lv_istore (lv' := [(8, .int (bm_b true)), (7, .int (bm_b true)), (0, .ref (ad 42)), (1, .int (nI zA)), (2, .int (nI zB)), (3, .long zC), (5, .long zD)]) hx hb dX5_pin_73 hl (by decide) rfl (fun ls hl => ?_)
                  refine lv_aload_n hx hb dX5_pin_75 rfl (lv_at hl 2 rfl) ?_
                  refine lv_iload hx hb dX5_pin_76 (lv_at hl 1 rfl) ?_
                  refine bm_zb_ne (x := true) (tgt := 85) hx hb dX5_pin_78 (by decide) (fun c_9 => ?_) (fun c_9 => ?_)
                  · refine lv_iload hx hb dX5_pin_85 (lv_at hl 0 rfl) ?_
                    refine bm_zb_eq (x := true) (tgt := 94) hx hb dX5_pin_87 (by decide) (fun c_10 => ?_) (fun c_10 => ?_)
                    · exact absurd c_10 (by decide)
                    · refine lv_iconst (v := nI 0) hx hb dX5_pin_90 (by decide) ?_
                      refine lv_goto (tgt := 95) hx hb dX5_pin_91 (by decide) ?_
                      refine va_put (D := D) (ci := 5) (v := .int (nI 0)) (ty := .int) (C := RX5) (T := TX5) (N := 28) hx hb hts (inT inX5) tyX5 tyX5_ok nmX5 hown hK hP hD hS 42 ww_42 rfl 0 (by decide) (hts (.fieldLink RX5 81 "BoardMovesModel" "thrown" "I") (List.mem_cons_of_mem _ flX5_81)) (fun _ h9 => h9) rfl (by decide +kernel) rfl rfl (Nat.le_of_ble_eq_true rfl) dX5_pin_95 (fun H locs hP hD hS => ?_)
                      have hP : va_P D vwCl (WW ad cJ cI cZ bm pa p0 p1 p2 li wi (0) ms ma mp mk mn ou) H := hP
                      have hD : va_D A (WW ad cJ cI cZ bm pa p0 p1 p2 li wi (0) ms ma mp mk mn ou) := hD
                      refine lv_aload_n hx hb dX5_pin_98 rfl (lv_at hl 2 rfl) ?_
                      refine va_get (D := D) (ci := 5) (v := .int (nI 0)) (C := RX5) (T := TX5) (N := 28) hx hb hts (inT inX5) hown hK hP 42 ww_42 rfl 0 (by decide) (hts (.fieldLink RX5 81 "BoardMovesModel" "thrown" "I") (List.mem_cons_of_mem _ flX5_81)) (fun _ h9 => h9) rfl dX5_pin_99 ?_
                      refine bm_nz_ne (x := 0) (tgt := 114) hx hb (by decide) dX5_pin_102 (by decide) (fun c_11 => ?_) (fun c_11 => ?_)
                      · exact absurd c_11 (by decide)
                      · refine lv_aload_n hx hb dX5_pin_105 rfl (lv_at hl 2 rfl) ?_
                        refine va_get (D := D) (ci := 5) (v := .int (nI ms.2.2.2.2.2.2.1)) (C := RX5) (T := TX5) (N := 28) hx hb hts (inT inX5) hown hK hP 42 ww_42 rfl 21 (by decide) (hts (.fieldLink RX5 163 "BoardMovesModel" "pins" "I") (List.mem_cons_of_mem _ flX5_163)) (fun _ h9 => h9) rfl dX5_pin_106 ?_
                        refine lv_bipush (v := nI 120) hx hb dX5_pin_109 (by decide) ?_
                        refine bm_ni_ne (x := ms.2.2.2.2.2.2.1) (y := 120) (tgt := 116) hx hb (by omega) (by omega) dX5_pin_111 (by decide) (fun c_12 => ?_) (fun c_12 => ?_)
                        · exfalso; omega
                        · refine lv_iconst (v := bm_b false) hx hb dX5_pin_114 (by decide) ?_
                          exact bm_zretW (v := false) hx hb hr hP hD hK hS ⟨rfl, rfl⟩ dX5_pin_115 hlocks
                  · exact absurd c_9 (by decide)

set_option maxHeartbeats 4000000 in
set_option maxRecDepth 100000 in
theorem Y_pinX {l : Launch} {D : va_G} {ad : Nat → Nat} {cJ cI cZ : ClassId} {bm : gBM} {pa : gPA} {p0 p1 p2 : gPL} {li : gLI} {wi : gWI} {mt : Nat} {ms : gMS} {ma : gMA} {mp : gMP} {mk : gMK} {mn : gMN} {ou : Nat → Int64} (okw : ms.2.2.2.2.2.1 ≤ 40) (okp : ms.2.2.1 ≤ 40) (okx : ms.2.2.2.2.2.2.1 ≤ 120) {zA : Nat} (hk_zA : zA < ms.2.2.2.2.2.1) {zB : Nat} (hk_zB : zB < ms.2.2.1) {zC zD : Int64} (hv : q_in zC (ma.1 zB) zD (ma.2.1 zB) = false) : bm_Wr l yX5_pin wsX5_pin ({ frames := 1, cells := 0, slots := 0, locals := 21 }) D vwCl [(cJ, .long), (cI, .int), (cZ, .boolean)] (WW ad cJ cI cZ bm pa p0 p1 p2 li wi mt ms ma mp mk mn ou) [.ref (ad 42), .int (nI zA), .int (nI zB), .long zC, .long zD] (WW ad cJ cI cZ bm pa p0 p1 p2 li wi (2) ms ma mp mk mn ou) (some (.int (bm_b false))) := by
  intro sz
  refine Met.ofW (cc := cX5_pin) (maxL := 9) (ret := (some .boolean)) (by decide) rfl ?_
  intro p e s m args below meth c s₁ B hml hv
  obtain ⟨ha, hsz, hP, hK, hD0⟩ := hv
  have hx := B.exec
  have hb := B.bytes
  have hr := B.returns
  have hts := atoms_spec (ws := wsX5_pin) B.pre
  have hown : s.vm.findClass RX5 = some m.cls := findClass_of_methodNamed B.named
  have hlocks := B.notSynchronized
  subst hsz
  have hD := hD0.self (sz := s.heap.size)
  generalize hAe : va_A (WW ad cJ cI cZ bm pa p0 p1 p2 li wi mt ms ma mp mk mn ou) s.heap.size = A at hD ⊢
  have hA : ∀ q : Nat, s.heap.size ≤ q → A q := fun q h => by rw [← hAe]; exact Or.inr h
  have hS : va_S A s.heap s.heap [] := va_S.rf
  have hl := lv_entry ([.ref (ad 42), .int (nI zA), .int (nI zB), .long zC, .long zD]) (n := 9) (Nat.le_of_ble_eq_true rfl)
  refine W.eq (g2 := entryFrame m ([.ref (ad 42), .int (nI zA), .int (nI zB), .long zC, .long zD] : List Value).toArray 9) (by rw [ha]) ?_
  rw [lg_entry_eq]
  generalize (lg_sl ([.ref (ad 42), .int (nI zA), .int (nI zB), .long zC, .long zD]) ++ List.replicate (9 - (lg_sl ([.ref (ad 42), .int (nI zA), .int (nI zB), .long zC, .long zD])).length) Slot.unset).toArray = ls at hl ⊢
  have hl : lv_has ls 9 [(0, .ref (ad 42)), (1, .int (nI zA)), (2, .int (nI zB)), (3, .long zC), (5, .long zD)] := hl
  refine lv_iload_n hx hb dX5_pin_0 rfl (lv_at hl 1 rfl) ?_
  refine lv_if_lt (x := (nI zA)) (tgt := 24) hx hb dX5_pin_1 (by decide) (fun c_1 => ?_) (fun c_1 => ?_)
  · exact absurd c_1 (bx_nn (by omega))
  · refine lv_iload_n hx hb dX5_pin_4 rfl (lv_at hl 1 rfl) ?_
    refine lv_aload_n hx hb dX5_pin_5 rfl (lv_at hl 0 rfl) ?_
    refine va_get (D := D) (ci := 5) (v := .int (nI ms.2.2.2.2.2.1)) (C := RX5) (T := TX5) (N := 28) hx hb hts (inT inX5) hown hK hP 42 ww_42 rfl 20 (by decide) (hts (.fieldLink RX5 160 "BoardMovesModel" "nets" "I") (List.mem_cons_of_mem _ flX5_160)) (fun _ h9 => h9) rfl dX5_pin_6 ?_
    refine bm_ni_ge (x := zA) (y := ms.2.2.2.2.2.1) (tgt := 24) hx hb (by omega) (by omega) dX5_pin_9 (by decide) (fun c_2 => ?_) (fun c_2 => ?_)
    · exact absurd hk_zA c_2
    · refine lv_aload_n hx hb dX5_pin_12 rfl (lv_at hl 0 rfl) ?_
      refine lv_iload_n hx hb dX5_pin_13 rfl (lv_at hl 2 rfl) ?_
      refine bm_rcallV (As := [.int (nI zB)]) (rest := []) ⟨hx, hb, hml, hown, hts⟩ (Y_isPartY okp (by omega)) (cwV 1 hts gvX5_139 rfl rfl rfl hvX5_isPart ⟨Nat.le_of_ble_eq_true rfl, Nat.le_of_ble_eq_true rfl⟩) hK hP 42 5 rfl ww_42 rfl hl.1 rfl (Nat.le_of_ble_eq_true rfl) dX5_pin_14 ⟨Nat.le_of_ble_eq_true rfl, Nat.le_of_ble_eq_true rfl⟩ ?_
      refine bm_zb_eq (x := true) (tgt := 24) hx hb dX5_pin_17 (by decide) (fun c_3 => ?_) (fun c_3 => ?_)
      · exact absurd c_3 (by decide)
      · refine lv_iconst (v := bm_b true) hx hb dX5_pin_20 (by decide) ?_
        refine lv_goto (tgt := 25) hx hb dX5_pin_21 (by decide) ?_
        refine lv_istore (lv' := [(7, .int (bm_b true)), (0, .ref (ad 42)), (1, .int (nI zA)), (2, .int (nI zB)), (3, .long zC), (5, .long zD)]) hx hb dX5_pin_25 hl (by decide) rfl (fun ls hl => ?_)
        refine lv_iload hx hb dX5_pin_27 (lv_at hl 0 rfl) ?_
        refine bm_zb_eq (x := true) (tgt := 72) hx hb dX5_pin_29 (by decide) (fun c_4 => ?_) (fun c_4 => ?_)
        · exact absurd c_4 (by decide)
        · refine lv_lload_n hx hb dX5_pin_32 rfl (lv_at hl 4 rfl) ?_
          refine lv_lconst (v := 0) hx hb dX5_pin_33 (by decide) ?_
          refine bm_lc_lt (x := zC) (y := 0) (tgt := 72) hx hb dX5_pin_34 dX5_pin_35 (by decide) (fun c_5 => ?_) (fun c_5 => ?_)
          · refine lv_iconst (v := bm_b false) hx hb dX5_pin_72 (by decide) ?_
            refine lv_istore (lv' := [(8, .int (bm_b false)), (7, .int (bm_b true)), (0, .ref (ad 42)), (1, .int (nI zA)), (2, .int (nI zB)), (3, .long zC), (5, .long zD)]) hx hb dX5_pin_73 hl (by decide) rfl (fun ls hl => ?_)
            refine lv_aload_n hx hb dX5_pin_75 rfl (lv_at hl 2 rfl) ?_
            refine lv_iload hx hb dX5_pin_76 (lv_at hl 1 rfl) ?_
            refine bm_zb_ne (x := true) (tgt := 85) hx hb dX5_pin_78 (by decide) (fun c_6 => ?_) (fun c_6 => ?_)
            · refine lv_iload hx hb dX5_pin_85 (lv_at hl 0 rfl) ?_
              refine bm_zb_eq (x := false) (tgt := 94) hx hb dX5_pin_87 (by decide) (fun c_7 => ?_) (fun c_7 => ?_)
              · refine lv_iconst (v := nI 2) hx hb dX5_pin_94 (by decide) ?_
                refine va_put (D := D) (ci := 5) (v := .int (nI 2)) (ty := .int) (C := RX5) (T := TX5) (N := 28) hx hb hts (inT inX5) tyX5 tyX5_ok nmX5 hown hK hP hD hS 42 ww_42 rfl 0 (by decide) (hts (.fieldLink RX5 81 "BoardMovesModel" "thrown" "I") (List.mem_cons_of_mem _ flX5_81)) (fun _ h9 => h9) rfl (by decide +kernel) rfl rfl (Nat.le_of_ble_eq_true rfl) dX5_pin_95 (fun H locs hP hD hS => ?_)
                have hP : va_P D vwCl (WW ad cJ cI cZ bm pa p0 p1 p2 li wi (2) ms ma mp mk mn ou) H := hP
                have hD : va_D A (WW ad cJ cI cZ bm pa p0 p1 p2 li wi (2) ms ma mp mk mn ou) := hD
                refine lv_aload_n hx hb dX5_pin_98 rfl (lv_at hl 2 rfl) ?_
                refine va_get (D := D) (ci := 5) (v := .int (nI 2)) (C := RX5) (T := TX5) (N := 28) hx hb hts (inT inX5) hown hK hP 42 ww_42 rfl 0 (by decide) (hts (.fieldLink RX5 81 "BoardMovesModel" "thrown" "I") (List.mem_cons_of_mem _ flX5_81)) (fun _ h9 => h9) rfl dX5_pin_99 ?_
                refine bm_nz_ne (x := 2) (tgt := 114) hx hb (by decide) dX5_pin_102 (by decide) (fun c_8 => ?_) (fun c_8 => ?_)
                · refine lv_iconst (v := bm_b false) hx hb dX5_pin_114 (by decide) ?_
                  exact bm_zretW (v := false) hx hb hr hP hD hK hS ⟨rfl, rfl⟩ dX5_pin_115 hlocks
                · exact absurd c_8 (by decide)
              · exact absurd c_7 (by decide)
            · exact absurd c_6 (by decide)
          · refine lv_lload_n hx hb dX5_pin_38 rfl (lv_at hl 4 rfl) ?_
            refine lv_aload_n hx hb dX5_pin_39 rfl (lv_at hl 1 rfl) ?_
            refine va_get (D := D) (ci := 5) (v := .ref (ad 43)) (C := RX5) (T := TX5) (N := 28) hx hb hts (inT inX5) hown hK hP 42 ww_42 rfl 4 (by decide) (hts (.fieldLink RX5 7 "BoardMovesModel" "wide" "[J") (List.mem_cons_of_mem _ flX5_7)) (fun _ h9 => h9) rfl dX5_pin_40 ?_
            refine lv_iload_n hx hb dX5_pin_43 rfl (lv_at hl 3 rfl) ?_
            refine bm_lald (f := ma.1) hx hb hK hP 43 0 ww_43 rfl (j := zB) (by omega) (by decide) dX5_pin_44 ?_
            refine bm_lc_gt (x := zC) (y := (ma.1 zB)) (tgt := 72) hx hb dX5_pin_45 dX5_pin_46 (by decide) (fun c_9 => ?_) (fun c_9 => ?_)
            · refine lv_iconst (v := bm_b false) hx hb dX5_pin_72 (by decide) ?_
              refine lv_istore (lv' := [(8, .int (bm_b false)), (7, .int (bm_b true)), (0, .ref (ad 42)), (1, .int (nI zA)), (2, .int (nI zB)), (3, .long zC), (5, .long zD)]) hx hb dX5_pin_73 hl (by decide) rfl (fun ls hl => ?_)
              refine lv_aload_n hx hb dX5_pin_75 rfl (lv_at hl 2 rfl) ?_
              refine lv_iload hx hb dX5_pin_76 (lv_at hl 1 rfl) ?_
              refine bm_zb_ne (x := true) (tgt := 85) hx hb dX5_pin_78 (by decide) (fun c_10 => ?_) (fun c_10 => ?_)
              · refine lv_iload hx hb dX5_pin_85 (lv_at hl 0 rfl) ?_
                refine bm_zb_eq (x := false) (tgt := 94) hx hb dX5_pin_87 (by decide) (fun c_11 => ?_) (fun c_11 => ?_)
                · refine lv_iconst (v := nI 2) hx hb dX5_pin_94 (by decide) ?_
                  refine va_put (D := D) (ci := 5) (v := .int (nI 2)) (ty := .int) (C := RX5) (T := TX5) (N := 28) hx hb hts (inT inX5) tyX5 tyX5_ok nmX5 hown hK hP hD hS 42 ww_42 rfl 0 (by decide) (hts (.fieldLink RX5 81 "BoardMovesModel" "thrown" "I") (List.mem_cons_of_mem _ flX5_81)) (fun _ h9 => h9) rfl (by decide +kernel) rfl rfl (Nat.le_of_ble_eq_true rfl) dX5_pin_95 (fun H locs hP hD hS => ?_)
                  have hP : va_P D vwCl (WW ad cJ cI cZ bm pa p0 p1 p2 li wi (2) ms ma mp mk mn ou) H := hP
                  have hD : va_D A (WW ad cJ cI cZ bm pa p0 p1 p2 li wi (2) ms ma mp mk mn ou) := hD
                  refine lv_aload_n hx hb dX5_pin_98 rfl (lv_at hl 2 rfl) ?_
                  refine va_get (D := D) (ci := 5) (v := .int (nI 2)) (C := RX5) (T := TX5) (N := 28) hx hb hts (inT inX5) hown hK hP 42 ww_42 rfl 0 (by decide) (hts (.fieldLink RX5 81 "BoardMovesModel" "thrown" "I") (List.mem_cons_of_mem _ flX5_81)) (fun _ h9 => h9) rfl dX5_pin_99 ?_
                  refine bm_nz_ne (x := 2) (tgt := 114) hx hb (by decide) dX5_pin_102 (by decide) (fun c_12 => ?_) (fun c_12 => ?_)
                  · refine lv_iconst (v := bm_b false) hx hb dX5_pin_114 (by decide) ?_
                    exact bm_zretW (v := false) hx hb hr hP hD hK hS ⟨rfl, rfl⟩ dX5_pin_115 hlocks
                  · exact absurd c_12 (by decide)
                · exact absurd c_11 (by decide)
              · exact absurd c_10 (by decide)
            · refine lv_lload hx hb dX5_pin_49 (lv_at hl 5 rfl) ?_
              refine lv_lconst (v := 0) hx hb dX5_pin_51 (by decide) ?_
              refine bm_lc_lt (x := zD) (y := 0) (tgt := 72) hx hb dX5_pin_52 dX5_pin_53 (by decide) (fun c_13 => ?_) (fun c_13 => ?_)
              · refine lv_iconst (v := bm_b false) hx hb dX5_pin_72 (by decide) ?_
                refine lv_istore (lv' := [(8, .int (bm_b false)), (7, .int (bm_b true)), (0, .ref (ad 42)), (1, .int (nI zA)), (2, .int (nI zB)), (3, .long zC), (5, .long zD)]) hx hb dX5_pin_73 hl (by decide) rfl (fun ls hl => ?_)
                refine lv_aload_n hx hb dX5_pin_75 rfl (lv_at hl 2 rfl) ?_
                refine lv_iload hx hb dX5_pin_76 (lv_at hl 1 rfl) ?_
                refine bm_zb_ne (x := true) (tgt := 85) hx hb dX5_pin_78 (by decide) (fun c_14 => ?_) (fun c_14 => ?_)
                · refine lv_iload hx hb dX5_pin_85 (lv_at hl 0 rfl) ?_
                  refine bm_zb_eq (x := false) (tgt := 94) hx hb dX5_pin_87 (by decide) (fun c_15 => ?_) (fun c_15 => ?_)
                  · refine lv_iconst (v := nI 2) hx hb dX5_pin_94 (by decide) ?_
                    refine va_put (D := D) (ci := 5) (v := .int (nI 2)) (ty := .int) (C := RX5) (T := TX5) (N := 28) hx hb hts (inT inX5) tyX5 tyX5_ok nmX5 hown hK hP hD hS 42 ww_42 rfl 0 (by decide) (hts (.fieldLink RX5 81 "BoardMovesModel" "thrown" "I") (List.mem_cons_of_mem _ flX5_81)) (fun _ h9 => h9) rfl (by decide +kernel) rfl rfl (Nat.le_of_ble_eq_true rfl) dX5_pin_95 (fun H locs hP hD hS => ?_)
                    have hP : va_P D vwCl (WW ad cJ cI cZ bm pa p0 p1 p2 li wi (2) ms ma mp mk mn ou) H := hP
                    have hD : va_D A (WW ad cJ cI cZ bm pa p0 p1 p2 li wi (2) ms ma mp mk mn ou) := hD
                    refine lv_aload_n hx hb dX5_pin_98 rfl (lv_at hl 2 rfl) ?_
                    refine va_get (D := D) (ci := 5) (v := .int (nI 2)) (C := RX5) (T := TX5) (N := 28) hx hb hts (inT inX5) hown hK hP 42 ww_42 rfl 0 (by decide) (hts (.fieldLink RX5 81 "BoardMovesModel" "thrown" "I") (List.mem_cons_of_mem _ flX5_81)) (fun _ h9 => h9) rfl dX5_pin_99 ?_
                    refine bm_nz_ne (x := 2) (tgt := 114) hx hb (by decide) dX5_pin_102 (by decide) (fun c_16 => ?_) (fun c_16 => ?_)
                    · refine lv_iconst (v := bm_b false) hx hb dX5_pin_114 (by decide) ?_
                      exact bm_zretW (v := false) hx hb hr hP hD hK hS ⟨rfl, rfl⟩ dX5_pin_115 hlocks
                    · exact absurd c_16 (by decide)
                  · exact absurd c_15 (by decide)
                · exact absurd c_14 (by decide)
              · refine lv_lload hx hb dX5_pin_56 (lv_at hl 5 rfl) ?_
                refine lv_aload_n hx hb dX5_pin_58 rfl (lv_at hl 1 rfl) ?_
                refine va_get (D := D) (ci := 5) (v := .ref (ad 44)) (C := RX5) (T := TX5) (N := 28) hx hb hts (inT inX5) hown hK hP 42 ww_42 rfl 5 (by decide) (hts (.fieldLink RX5 13 "BoardMovesModel" "high" "[J") (List.mem_cons_of_mem _ flX5_13)) (fun _ h9 => h9) rfl dX5_pin_59 ?_
                refine lv_iload_n hx hb dX5_pin_62 rfl (lv_at hl 3 rfl) ?_
                refine bm_lald (f := ma.2.1) hx hb hK hP 44 0 ww_44 rfl (j := zB) (by omega) (by decide) dX5_pin_63 ?_
                refine bm_lc_gt (x := zD) (y := (ma.2.1 zB)) (tgt := 72) hx hb dX5_pin_64 dX5_pin_65 (by decide) (fun c_17 => ?_) (fun c_17 => ?_)
                · refine lv_iconst (v := bm_b false) hx hb dX5_pin_72 (by decide) ?_
                  refine lv_istore (lv' := [(8, .int (bm_b false)), (7, .int (bm_b true)), (0, .ref (ad 42)), (1, .int (nI zA)), (2, .int (nI zB)), (3, .long zC), (5, .long zD)]) hx hb dX5_pin_73 hl (by decide) rfl (fun ls hl => ?_)
                  refine lv_aload_n hx hb dX5_pin_75 rfl (lv_at hl 2 rfl) ?_
                  refine lv_iload hx hb dX5_pin_76 (lv_at hl 1 rfl) ?_
                  refine bm_zb_ne (x := true) (tgt := 85) hx hb dX5_pin_78 (by decide) (fun c_18 => ?_) (fun c_18 => ?_)
                  · refine lv_iload hx hb dX5_pin_85 (lv_at hl 0 rfl) ?_
                    refine bm_zb_eq (x := false) (tgt := 94) hx hb dX5_pin_87 (by decide) (fun c_19 => ?_) (fun c_19 => ?_)
                    · refine lv_iconst (v := nI 2) hx hb dX5_pin_94 (by decide) ?_
                      refine va_put (D := D) (ci := 5) (v := .int (nI 2)) (ty := .int) (C := RX5) (T := TX5) (N := 28) hx hb hts (inT inX5) tyX5 tyX5_ok nmX5 hown hK hP hD hS 42 ww_42 rfl 0 (by decide) (hts (.fieldLink RX5 81 "BoardMovesModel" "thrown" "I") (List.mem_cons_of_mem _ flX5_81)) (fun _ h9 => h9) rfl (by decide +kernel) rfl rfl (Nat.le_of_ble_eq_true rfl) dX5_pin_95 (fun H locs hP hD hS => ?_)
                      have hP : va_P D vwCl (WW ad cJ cI cZ bm pa p0 p1 p2 li wi (2) ms ma mp mk mn ou) H := hP
                      have hD : va_D A (WW ad cJ cI cZ bm pa p0 p1 p2 li wi (2) ms ma mp mk mn ou) := hD
                      refine lv_aload_n hx hb dX5_pin_98 rfl (lv_at hl 2 rfl) ?_
                      refine va_get (D := D) (ci := 5) (v := .int (nI 2)) (C := RX5) (T := TX5) (N := 28) hx hb hts (inT inX5) hown hK hP 42 ww_42 rfl 0 (by decide) (hts (.fieldLink RX5 81 "BoardMovesModel" "thrown" "I") (List.mem_cons_of_mem _ flX5_81)) (fun _ h9 => h9) rfl dX5_pin_99 ?_
                      refine bm_nz_ne (x := 2) (tgt := 114) hx hb (by decide) dX5_pin_102 (by decide) (fun c_20 => ?_) (fun c_20 => ?_)
                      · refine lv_iconst (v := bm_b false) hx hb dX5_pin_114 (by decide) ?_
                        exact bm_zretW (v := false) hx hb hr hP hD hK hS ⟨rfl, rfl⟩ dX5_pin_115 hlocks
                      · exact absurd c_20 (by decide)
                    · exact absurd c_19 (by decide)
                  · exact absurd c_18 (by decide)
                · exact absurd hv (by simp [q_in, c_5, c_9, c_13, c_17])

set_option maxHeartbeats 4000000 in
set_option maxRecDepth 100000 in
theorem Y_pinM {l : Launch} {D : va_G} {ad : Nat → Nat} {cJ cI cZ : ClassId} {bm : gBM} {pa : gPA} {p0 p1 p2 : gPL} {li : gLI} {wi : gWI} {mt : Nat} {ms : gMS} {ma : gMA} {mp : gMP} {mk : gMK} {mn : gMN} {ou : Nat → Int64} (okw : ms.2.2.2.2.2.1 ≤ 40) (okp : ms.2.2.1 ≤ 40) (okx : ms.2.2.2.2.2.2.1 ≤ 120) {zA : Nat} (hk_zA : zA < ms.2.2.2.2.2.1) {zB : Int32} (hno_zB : ¬ (¬ zB < 0 ∧ zB < nI ms.2.2.1)) {zC zD : Int64}  : bm_Wr l yX5_pin wsX5_pin ({ frames := 1, cells := 0, slots := 0, locals := 21 }) D vwCl [(cJ, .long), (cI, .int), (cZ, .boolean)] (WW ad cJ cI cZ bm pa p0 p1 p2 li wi mt ms ma mp mk mn ou) [.ref (ad 42), .int (nI zA), .int zB, .long zC, .long zD] (WW ad cJ cI cZ bm pa p0 p1 p2 li wi (1) ms ma mp mk mn ou) (some (.int (bm_b false))) := by
  intro sz
  refine Met.ofW (cc := cX5_pin) (maxL := 9) (ret := (some .boolean)) (by decide) rfl ?_
  intro p e s m args below meth c s₁ B hml hv
  obtain ⟨ha, hsz, hP, hK, hD0⟩ := hv
  have hx := B.exec
  have hb := B.bytes
  have hr := B.returns
  have hts := atoms_spec (ws := wsX5_pin) B.pre
  have hown : s.vm.findClass RX5 = some m.cls := findClass_of_methodNamed B.named
  have hlocks := B.notSynchronized
  subst hsz
  have hD := hD0.self (sz := s.heap.size)
  generalize hAe : va_A (WW ad cJ cI cZ bm pa p0 p1 p2 li wi mt ms ma mp mk mn ou) s.heap.size = A at hD ⊢
  have hA : ∀ q : Nat, s.heap.size ≤ q → A q := fun q h => by rw [← hAe]; exact Or.inr h
  have hS : va_S A s.heap s.heap [] := va_S.rf
  have hl := lv_entry ([.ref (ad 42), .int (nI zA), .int zB, .long zC, .long zD]) (n := 9) (Nat.le_of_ble_eq_true rfl)
  refine W.eq (g2 := entryFrame m ([.ref (ad 42), .int (nI zA), .int zB, .long zC, .long zD] : List Value).toArray 9) (by rw [ha]) ?_
  rw [lg_entry_eq]
  generalize (lg_sl ([.ref (ad 42), .int (nI zA), .int zB, .long zC, .long zD]) ++ List.replicate (9 - (lg_sl ([.ref (ad 42), .int (nI zA), .int zB, .long zC, .long zD])).length) Slot.unset).toArray = ls at hl ⊢
  have hl : lv_has ls 9 [(0, .ref (ad 42)), (1, .int (nI zA)), (2, .int zB), (3, .long zC), (5, .long zD)] := hl
  refine lv_iload_n hx hb dX5_pin_0 rfl (lv_at hl 1 rfl) ?_
  refine lv_if_lt (x := (nI zA)) (tgt := 24) hx hb dX5_pin_1 (by decide) (fun c_1 => ?_) (fun c_1 => ?_)
  · exact absurd c_1 (bx_nn (by omega))
  · refine lv_iload_n hx hb dX5_pin_4 rfl (lv_at hl 1 rfl) ?_
    refine lv_aload_n hx hb dX5_pin_5 rfl (lv_at hl 0 rfl) ?_
    refine va_get (D := D) (ci := 5) (v := .int (nI ms.2.2.2.2.2.1)) (C := RX5) (T := TX5) (N := 28) hx hb hts (inT inX5) hown hK hP 42 ww_42 rfl 20 (by decide) (hts (.fieldLink RX5 160 "BoardMovesModel" "nets" "I") (List.mem_cons_of_mem _ flX5_160)) (fun _ h9 => h9) rfl dX5_pin_6 ?_
    refine bm_ni_ge (x := zA) (y := ms.2.2.2.2.2.1) (tgt := 24) hx hb (by omega) (by omega) dX5_pin_9 (by decide) (fun c_2 => ?_) (fun c_2 => ?_)
    · exact absurd hk_zA c_2
    · refine lv_aload_n hx hb dX5_pin_12 rfl (lv_at hl 0 rfl) ?_
      refine lv_iload_n hx hb dX5_pin_13 rfl (lv_at hl 2 rfl) ?_
      refine bm_rcallV (As := [.int zB]) (rest := []) ⟨hx, hb, hml, hown, hts⟩ (Y_isPartN hno_zB) (cwV 1 hts gvX5_139 rfl rfl rfl hvX5_isPart ⟨Nat.le_of_ble_eq_true rfl, Nat.le_of_ble_eq_true rfl⟩) hK hP 42 5 rfl ww_42 rfl hl.1 rfl (Nat.le_of_ble_eq_true rfl) dX5_pin_14 ⟨Nat.le_of_ble_eq_true rfl, Nat.le_of_ble_eq_true rfl⟩ ?_
      refine bm_zb_eq (x := false) (tgt := 24) hx hb dX5_pin_17 (by decide) (fun c_3 => ?_) (fun c_3 => ?_)
      · refine lv_iconst (v := bm_b false) hx hb dX5_pin_24 (by decide) ?_
        refine lv_istore (lv' := [(7, .int (bm_b false)), (0, .ref (ad 42)), (1, .int (nI zA)), (2, .int zB), (3, .long zC), (5, .long zD)]) hx hb dX5_pin_25 hl (by decide) rfl (fun ls hl => ?_)
        refine lv_iload hx hb dX5_pin_27 (lv_at hl 0 rfl) ?_
        refine bm_zb_eq (x := false) (tgt := 72) hx hb dX5_pin_29 (by decide) (fun c_4 => ?_) (fun c_4 => ?_)
        · refine lv_iconst (v := bm_b false) hx hb dX5_pin_72 (by decide) ?_
          refine lv_istore (lv' := [(8, .int (bm_b false)), (7, .int (bm_b false)), (0, .ref (ad 42)), (1, .int (nI zA)), (2, .int zB), (3, .long zC), (5, .long zD)]) hx hb dX5_pin_73 hl (by decide) rfl (fun ls hl => ?_)
          refine lv_aload_n hx hb dX5_pin_75 rfl (lv_at hl 2 rfl) ?_
          refine lv_iload hx hb dX5_pin_76 (lv_at hl 1 rfl) ?_
          refine bm_zb_ne (x := false) (tgt := 85) hx hb dX5_pin_78 (by decide) (fun c_5 => ?_) (fun c_5 => ?_)
          · exact absurd c_5 (by decide)
          · refine lv_iconst (v := nI 1) hx hb dX5_pin_81 (by decide) ?_
            refine lv_goto (tgt := 95) hx hb dX5_pin_82 (by decide) ?_
            refine va_put (D := D) (ci := 5) (v := .int (nI 1)) (ty := .int) (C := RX5) (T := TX5) (N := 28) hx hb hts (inT inX5) tyX5 tyX5_ok nmX5 hown hK hP hD hS 42 ww_42 rfl 0 (by decide) (hts (.fieldLink RX5 81 "BoardMovesModel" "thrown" "I") (List.mem_cons_of_mem _ flX5_81)) (fun _ h9 => h9) rfl (by decide +kernel) rfl rfl (Nat.le_of_ble_eq_true rfl) dX5_pin_95 (fun H locs hP hD hS => ?_)
            have hP : va_P D vwCl (WW ad cJ cI cZ bm pa p0 p1 p2 li wi (1) ms ma mp mk mn ou) H := hP
            have hD : va_D A (WW ad cJ cI cZ bm pa p0 p1 p2 li wi (1) ms ma mp mk mn ou) := hD
            refine lv_aload_n hx hb dX5_pin_98 rfl (lv_at hl 2 rfl) ?_
            refine va_get (D := D) (ci := 5) (v := .int (nI 1)) (C := RX5) (T := TX5) (N := 28) hx hb hts (inT inX5) hown hK hP 42 ww_42 rfl 0 (by decide) (hts (.fieldLink RX5 81 "BoardMovesModel" "thrown" "I") (List.mem_cons_of_mem _ flX5_81)) (fun _ h9 => h9) rfl dX5_pin_99 ?_
            refine bm_nz_ne (x := 1) (tgt := 114) hx hb (by decide) dX5_pin_102 (by decide) (fun c_6 => ?_) (fun c_6 => ?_)
            · refine lv_iconst (v := bm_b false) hx hb dX5_pin_114 (by decide) ?_
              exact bm_zretW (v := false) hx hb hr hP hD hK hS ⟨rfl, rfl⟩ dX5_pin_115 hlocks
            · exact absurd c_6 (by decide)
        · exact absurd c_4 (by decide)
      · exact absurd c_3 (by decide)
