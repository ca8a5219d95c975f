set_option maxHeartbeats 8000000 in
set_option maxRecDepth 100000 in
theorem x_placeI {l : Launch} {D : va_G} {ad : Nat → Nat} {cJ cI cZ : ClassId} {bm : gBM} {pa : gPA} {p0 p1 p2 : gPL} {li : gLI} {wi : gWI} {mt : Nat} {ms : gMS} {ma : gMA} {mp : gMP} {mk : gMK} {mn : gMN} {ou : Nat → Int64} {zj : Nat} {z1 : Int64} {z2 : Int64} {zt : Nat} (ok_p0_turn : ∀ i, p0.2.2.1 i < 40) (hp0 : zj < 40) (hp1 : zt < 40)  : bm_Wx l yX2_place wsX2_place ({ frames := 0, cells := 0, slots := 0, locals := 0 }) D vwCl [(cJ, .long), (cI, .int), (cZ, .boolean)] (WW ad cJ cI cZ bm pa p0 p1 p2 li wi mt ms ma mp mk mn ou) [.ref (ad 8), .int (nI zj), .long z1, .long z2, .int (nI zt)] (fun ws9 r9 => ∃ (e0 : Nat → Int64) (e1 : Nat → Int64) (e2 : Nat → Nat) , (∀ i, e2 i < 40) ∧ ws9 = (WW ad cJ cI cZ bm pa (e0, e1, e2, va_up p0.2.2.2 zj true) p1 p2 li wi mt ms ma mp mk mn ou) ∧ r9 = none) := by
  intro sz
  refine Met.ofW (cc := cX2_place) (maxL := 7) (ret := none) (by decide) rfl ?_
  intro p e s m args below meth c s₁ B hml hv
  obtain ⟨ha, hsz, hP, hK, hD0⟩ := hv
  have hx := B.exec
  have hb := B.bytes
  have hr := B.returns
  have hts := atoms_spec (ws := wsX2_place) B.pre
  have hown : s.vm.findClass RX2 = some m.cls := findClass_of_methodNamed B.named
  have hlocks := B.notSynchronized
  subst hsz
  have hD := hD0.self (sz := s.heap.size)
  generalize hAe : va_A (WW ad cJ cI cZ bm pa p0 p1 p2 li wi mt ms ma mp mk mn ou) s.heap.size = A at hD ⊢
  have hA : ∀ q : Nat, s.heap.size ≤ q → A q := fun q h => by rw [← hAe]; exact Or.inr h
  have hS : va_S A s.heap s.heap [] := va_S.rf
  have hl := lv_entry ([.ref (ad 8), .int (nI zj), .long z1, .long z2, .int (nI zt)]) (n := 7) (Nat.le_of_ble_eq_true rfl)
  refine W.eq (g2 := entryFrame m ([.ref (ad 8), .int (nI zj), .long z1, .long z2, .int (nI zt)] : List Value).toArray 7) (by rw [ha]) ?_
  rw [lg_entry_eq]
  generalize (lg_sl ([.ref (ad 8), .int (nI zj), .long z1, .long z2, .int (nI zt)]) ++ List.replicate (7 - (lg_sl ([.ref (ad 8), .int (nI zj), .long z1, .long z2, .int (nI zt)])).length) Slot.unset).toArray = ls at hl ⊢
  have hl : lv_has ls 7 [(0, .ref (ad 8)), (1, .int (nI zj)), (2, .long z1), (4, .long z2), (6, .int (nI zt))] := hl
  refine lv_aload_n hx hb dX2_place_0 rfl (lv_at hl 0 rfl) ?_
  refine va_get (D := D) (ci := 2) (v := .ref (ad 9)) (C := RX2) (T := TX2) (N := 5) hx hb hts (inT inX2) hown hK hP 8 ww_8 rfl 1 (by decide) (hts (.fieldLink RX2 9 "BoardMoves$Placement" "x" "[J") (List.mem_cons_of_mem _ flX2_9)) (fun _ h9 => h9) rfl dX2_place_1 ?_
  refine lv_iload_n hx hb dX2_place_4 rfl (lv_at hl 1 rfl) ?_
  refine lv_lload_n hx hb dX2_place_5 rfl (lv_at hl 2 rfl) ?_
  refine bm_last (f := p0.1) hx hb hK hP hD hS 9 0 ww_9 rfl (j := zj) (x := z1) (by omega) (by decide) dX2_place_6 (fun H locs hP hD hS => ?_)
  have hP : va_P D vwCl (WW ad cJ cI cZ bm pa (va_up p0.1 zj z1, p0.2.1, p0.2.2.1, p0.2.2.2) p1 p2 li wi mt ms ma mp mk mn ou) H := hP
  have hD : va_D A (WW ad cJ cI cZ bm pa (va_up p0.1 zj z1, p0.2.1, p0.2.2.1, p0.2.2.2) p1 p2 li wi mt ms ma mp mk mn ou) := hD
  refine lv_aload_n hx hb dX2_place_7 rfl (lv_at hl 0 rfl) ?_
  refine va_get (D := D) (ci := 2) (v := .ref (ad 10)) (C := RX2) (T := TX2) (N := 5) hx hb hts (inT inX2) hown hK hP 8 ww_8 rfl 2 (by decide) (hts (.fieldLink RX2 15 "BoardMoves$Placement" "y" "[J") (List.mem_cons_of_mem _ flX2_15)) (fun _ h9 => h9) rfl dX2_place_8 ?_
  refine lv_iload_n hx hb dX2_place_11 rfl (lv_at hl 1 rfl) ?_
  refine lv_lload hx hb dX2_place_12 (lv_at hl 3 rfl) ?_
  refine bm_last (f := p0.2.1) hx hb hK hP hD hS 10 0 ww_10 rfl (j := zj) (x := z2) (by omega) (by decide) dX2_place_14 (fun H locs hP hD hS => ?_)
  have hP : va_P D vwCl (WW ad cJ cI cZ bm pa (va_up p0.1 zj z1, va_up p0.2.1 zj z2, p0.2.2.1, p0.2.2.2) p1 p2 li wi mt ms ma mp mk mn ou) H := hP
  have hD : va_D A (WW ad cJ cI cZ bm pa (va_up p0.1 zj z1, va_up p0.2.1 zj z2, p0.2.2.1, p0.2.2.2) p1 p2 li wi mt ms ma mp mk mn ou) := hD
  refine lv_aload_n hx hb dX2_place_15 rfl (lv_at hl 0 rfl) ?_
  refine va_get (D := D) (ci := 2) (v := .ref (ad 11)) (C := RX2) (T := TX2) (N := 5) hx hb hts (inT inX2) hown hK hP 8 ww_8 rfl 3 (by decide) (hts (.fieldLink RX2 18 "BoardMoves$Placement" "turn" "[I") (List.mem_cons_of_mem _ flX2_18)) (fun _ h9 => h9) rfl dX2_place_16 ?_
  refine lv_iload_n hx hb dX2_place_19 rfl (lv_at hl 1 rfl) ?_
  refine lv_iload hx hb dX2_place_20 (lv_at hl 4 rfl) ?_
  refine bm_nast (f := p0.2.2.1) hx hb hK hP hD hS 11 1 ww_11 rfl (j := zj) (x := zt) (by omega) (by decide) dX2_place_22 (fun H locs hP hD hS => ?_)
  have hP : va_P D vwCl (WW ad cJ cI cZ bm pa (va_up p0.1 zj z1, va_up p0.2.1 zj z2, va_up p0.2.2.1 zj zt, p0.2.2.2) p1 p2 li wi mt ms ma mp mk mn ou) H := hP
  have hD : va_D A (WW ad cJ cI cZ bm pa (va_up p0.1 zj z1, va_up p0.2.1 zj z2, va_up p0.2.2.1 zj zt, p0.2.2.2) p1 p2 li wi mt ms ma mp mk mn ou) := hD
  refine lv_aload_n hx hb dX2_place_23 rfl (lv_at hl 0 rfl) ?_
  refine va_get (D := D) (ci := 2) (v := .ref (ad 12)) (C := RX2) (T := TX2) (N := 5) hx hb hts (inT inX2) hown hK hP 8 ww_8 rfl 4 (by decide) (hts (.fieldLink RX2 22 "BoardMoves$Placement" "placed" "[Z") (List.mem_cons_of_mem _ flX2_22)) (fun _ h9 => h9) rfl dX2_place_24 ?_
  refine lv_iload_n hx hb dX2_place_27 rfl (lv_at hl 1 rfl) ?_
  refine lv_iconst (v := bm_b true) hx hb dX2_place_28 (by decide) ?_
  refine bm_zast (f := p0.2.2.2) hx hb hK hP hD hS 12 2 ww_12 rfl (j := zj) (x := true) (by omega) (by decide) dX2_place_29 (fun H locs hP hD hS => ?_)
  have hP : va_P D vwCl (WW ad cJ cI cZ bm pa (va_up p0.1 zj z1, va_up p0.2.1 zj z2, va_up p0.2.2.1 zj zt, va_up p0.2.2.2 zj true) p1 p2 li wi mt ms ma mp mk mn ou) H := hP
  have hD : va_D A (WW ad cJ cI cZ bm pa (va_up p0.1 zj z1, va_up p0.2.1 zj z2, va_up p0.2.2.1 zj zt, va_up p0.2.2.2 zj true) p1 p2 li wi mt ms ma mp mk mn ou) := hD
  exact bm_vretX hx hb hr hP hD hK hS ⟨(va_up p0.1 zj z1), (va_up p0.2.1 zj z2), (va_up p0.2.2.1 zj zt), (bx_uplt ok_p0_turn (by omega)), rfl, rfl⟩ dX2_place_30 hlocks

set_option maxHeartbeats 8000000 in
set_option maxRecDepth 100000 in
theorem x_backI {l : Launch} {D : va_G} {ad : Nat → Nat} {cJ cI cZ : ClassId} {bm : gBM} {pa : gPA} {p0 p1 p2 : gPL} {li : gLI} {wi : gWI} {mt : Nat} {ms : gMS} {ma : gMA} {mp : gMP} {mk : gMK} {mn : gMN} {ou : Nat → Int64}  (ok_pa_n : pa.2.2.2.2.2.2 ≤ 40) (ok_pa_side : ∀ i, pa.2.2.1 i < 40) (ok_pa_lowest : ∀ i, pa.2.2.2.2.2.1 i < 40) (ok_p0_turn : ∀ i, p0.2.2.1 i < 40) (ok_p1_turn : ∀ i, p1.2.2.1 i < 40)   : bm_Wx l yX4_takeBack wsX4_takeBack ({ frames := 1, cells := 0, slots := 0, locals := 22 }) D vwCl [(cJ, .long), (cI, .int), (cZ, .boolean)] (WW ad cJ cI cZ bm pa p0 p1 p2 li wi mt ms ma mp mk mn ou) [.ref (ad 0)] (fun ws9 r9 => ∃ (e0 : Nat → Int64) (e1 : Nat → Int64) (e2 : Nat → Nat) (e3 : Nat → Bool) , (∀ i, e2 i < 40) ∧ (AG pa.2.2.2.2.2.2 (e0, e1, e2, e3) p1 ∧ ∀ i, pa.2.2.2.2.2.2 ≤ i → e3 i = p0.2.2.2 i) ∧ ws9 = (WW ad cJ cI cZ bm pa (e0, e1, e2, e3) p1 p2 li wi mt ms ma mp mk mn ou) ∧ ∃ b9 : Bool, r9 = some (.int (bm_b b9))) := by
  intro sz
  refine Met.ofW (cc := cX4_takeBack) (maxL := 1) (ret := (some .boolean)) (by decide) rfl ?_
  intro p e s m args below meth c s₁ B hml hv
  obtain ⟨ha, hsz, hP, hK, hD0⟩ := hv
  have hx := B.exec
  have hb := B.bytes
  have hr := B.returns
  have hts := atoms_spec (ws := wsX4_takeBack) B.pre
  have hown : s.vm.findClass RX4 = some m.cls := findClass_of_methodNamed B.named
  have hlocks := B.notSynchronized
  subst hsz
  have hD := hD0.self (sz := s.heap.size)
  generalize hAe : va_A (WW ad cJ cI cZ bm pa p0 p1 p2 li wi mt ms ma mp mk mn ou) s.heap.size = A at hD ⊢
  have hA : ∀ q : Nat, s.heap.size ≤ q → A q := fun q h => by rw [← hAe]; exact Or.inr h
  have hS : va_S A s.heap s.heap [] := va_S.rf
  have hl := lv_entry ([.ref (ad 0)]) (n := 1) (Nat.le_of_ble_eq_true rfl)
  refine W.eq (g2 := entryFrame m ([.ref (ad 0)] : List Value).toArray 1) (by rw [ha]) ?_
  rw [lg_entry_eq]
  generalize (lg_sl ([.ref (ad 0)]) ++ List.replicate (1 - (lg_sl ([.ref (ad 0)])).length) Slot.unset).toArray = ls at hl ⊢
  have hl : lv_has ls 1 [(0, .ref (ad 0))] := hl
  refine lv_aload_n hx hb dX4_takeBack_0 rfl (lv_at hl 0 rfl) ?_
  refine va_get (D := D) (ci := 4) (v := .ref (ad 8)) (C := RX4) (T := TX4) (N := 10) hx hb hts (inT inX4) hown hK hP 0 ww_0 rfl 5 (by decide) (hts (.fieldLink RX4 37 "BoardMoves" "now" "LBoardMoves$Placement;") (List.mem_cons_of_mem _ flX4_37)) (fun _ h9 => h9) rfl dX4_takeBack_1 ?_
  refine lv_aload_n hx hb dX4_takeBack_4 rfl (lv_at hl 0 rfl) ?_
  refine va_get (D := D) (ci := 4) (v := .ref (ad 13)) (C := RX4) (T := TX4) (N := 10) hx hb hts (inT inX4) hown hK hP 0 ww_0 rfl 6 (by decide) (hts (.fieldLink RX4 41 "BoardMoves" "before" "LBoardMoves$Placement;") (List.mem_cons_of_mem _ flX4_41)) (fun _ h9 => h9) rfl dX4_takeBack_5 ?_
  refine bm_wcallV (As := [.ref (ad 13)]) (rest := []) ⟨hx, hb, hml, hown, hts⟩ (w_copyp0p1  ⟨ok_pa_n, ok_pa_side, ok_pa_lowest⟩) (cwV 1 hts gvX4_108 rfl rfl rfl hvX2_copyFrom ⟨Nat.le_of_ble_eq_true rfl, Nat.le_of_ble_eq_true rfl⟩) hK hP hD hS hA 8 2 rfl ww_8 rfl hl.1 rfl (Nat.le_of_ble_eq_true rfl) dX4_takeBack_8 ⟨Nat.le_of_ble_eq_true rfl, Nat.le_of_ble_eq_true rfl⟩ (fun H locs hP hD hS => ?_)
  have hP : va_P D vwCl (WW ad cJ cI cZ bm pa (q_copyU p1 p0 pa.2.2.2.2.2.2) p1 p2 li wi mt ms ma mp mk mn ou) H := hP
  have hD : va_D A (WW ad cJ cI cZ bm pa (q_copyU p1 p0 pa.2.2.2.2.2.2) p1 p2 li wi mt ms ma mp mk mn ou) := hD
  obtain ⟨pl_1, hpl_2⟩ : ∃ q9, q9 = q_copyU p1 p0 pa.2.2.2.2.2.2 := ⟨_, rfl⟩
  rw [← hpl_2] at hP hD
  have okq_3 : ∀ i, pl_1.2.2.1 i < 40 := by rw [hpl_2]; exact q_okL_copy (f := p1) (t := p0) ok_p1_turn ok_p0_turn
  have hag_4 : AG pa.2.2.2.2.2.2 pl_1 p1 := by rw [hpl_2]; exact ag_copy _ _ _
  have hP : va_P D vwCl (WW ad cJ cI cZ bm pa pl_1 p1 p2 li wi mt ms ma mp mk mn ou) H := hP
  have hD : va_D A (WW ad cJ cI cZ bm pa pl_1 p1 p2 li wi mt ms ma mp mk mn ou) := hD
  have ho_5 : ∀ i, pa.2.2.2.2.2.2 ≤ i → pl_1.2.2.2 i = p0.2.2.2 i := by rw [hpl_2]; exact copy_same
  refine lv_iconst (v := bm_b false) hx hb dX4_takeBack_11 (by decide) ?_
  exact bm_zretX (v := false) hx hb hr hP hD hK hS ⟨pl_1.1, pl_1.2.1, pl_1.2.2.1, pl_1.2.2.2, okq_3, ⟨hag_4, ho_5⟩, rfl, false, rfl⟩ dX4_takeBack_12 hlocks

set_option maxHeartbeats 8000000 in
set_option maxRecDepth 100000 in
theorem x_addKO1 {l : Launch} {D : va_G} {ad : Nat → Nat} {cJ cI cZ : ClassId} {bm : gBM} {pa : gPA} {p0 p1 p2 : gPL} {li : gLI} {wi : gWI} {mt : Nat} {ms : gMS} {ma : gMA} {mp : gMP} {mk : gMK} {mn : gMN} {ou : Nat → Int64} {z1 : Int64} {z2 : Int64} {z3 : Int64} {z4 : Int64} {z5 : Int64} (ok_li_keepOuts : li.2.2.2.2.2.2.2.2.1 ≤ 10)  (hq : li.2.2.2.2.2.2.2.2.1 < 10) : bm_Wx l yX0_addKeepOut wsX0_addKeepOut ({ frames := 0, cells := 0, slots := 0, locals := 0 }) D vwCl [(cJ, .long), (cI, .int), (cZ, .boolean)] (WW ad cJ cI cZ bm pa p0 p1 p2 li wi mt ms ma mp mk mn ou) [.ref (ad 23), .long z1, .long z2, .long z3, .long z4, .long z5] (fun ws9 r9 => ws9 = (WW ad cJ cI cZ bm pa p0 p1 p2 (va_up li.1 li.2.2.2.2.2.2.2.2.1 z1, va_up li.2.1 li.2.2.2.2.2.2.2.2.1 z2, va_up li.2.2.1 li.2.2.2.2.2.2.2.2.1 z3, va_up li.2.2.2.1 li.2.2.2.2.2.2.2.2.1 z4, va_up li.2.2.2.2.1 li.2.2.2.2.2.2.2.2.1 z5, li.2.2.2.2.2.1, li.2.2.2.2.2.2.1, li.2.2.2.2.2.2.2.1, li.2.2.2.2.2.2.2.2.1 + 1, li.2.2.2.2.2.2.2.2.2) wi mt ms ma mp mk mn ou) ∧ r9 = some (.int (bm_b true))) := by
  intro sz
  refine Met.ofW (cc := cX0_addKeepOut) (maxL := 11) (ret := (some .boolean)) (by decide) rfl ?_
  intro p e s m args below meth c s₁ B hml hv
  obtain ⟨ha, hsz, hP, hK, hD0⟩ := hv
  have hx := B.exec
  have hb := B.bytes
  have hr := B.returns
  have hts := atoms_spec (ws := wsX0_addKeepOut) B.pre
  have hown : s.vm.findClass RX0 = some m.cls := findClass_of_methodNamed B.named
  have hlocks := B.notSynchronized
  subst hsz
  have hD := hD0.self (sz := s.heap.size)
  generalize hAe : va_A (WW ad cJ cI cZ bm pa p0 p1 p2 li wi mt ms ma mp mk mn ou) s.heap.size = A at hD ⊢
  have hA : ∀ q : Nat, s.heap.size ≤ q → A q := fun q h => by rw [← hAe]; exact Or.inr h
  have hS : va_S A s.heap s.heap [] := va_S.rf
  have hl := lv_entry ([.ref (ad 23), .long z1, .long z2, .long z3, .long z4, .long z5]) (n := 11) (Nat.le_of_ble_eq_true rfl)
  refine W.eq (g2 := entryFrame m ([.ref (ad 23), .long z1, .long z2, .long z3, .long z4, .long z5] : List Value).toArray 11) (by rw [ha]) ?_
  rw [lg_entry_eq]
  generalize (lg_sl ([.ref (ad 23), .long z1, .long z2, .long z3, .long z4, .long z5]) ++ List.replicate (11 - (lg_sl ([.ref (ad 23), .long z1, .long z2, .long z3, .long z4, .long z5])).length) Slot.unset).toArray = ls at hl ⊢
  have hl : lv_has ls 11 [(0, .ref (ad 23)), (1, .long z1), (3, .long z2), (5, .long z3), (7, .long z4), (9, .long z5)] := hl
  refine lv_aload_n hx hb dX0_addKeepOut_0 rfl (lv_at hl 0 rfl) ?_
  refine va_get (D := D) (ci := 0) (v := .int (nI li.2.2.2.2.2.2.2.2.1)) (C := RX0) (T := TX0) (N := 11) hx hb hts (inT inX0) hown hK hP 23 ww_23 rfl 9 (by decide) (hts (.fieldLink RX0 37 "BoardMoves$Limits" "keepOuts" "I") (List.mem_cons_of_mem _ flX0_37)) (fun _ h9 => h9) rfl dX0_addKeepOut_1 ?_
  refine lv_bipush (v := nI 10) hx hb dX0_addKeepOut_4 (by decide) ?_
  refine bm_ni_lt (x := li.2.2.2.2.2.2.2.2.1) (y := 10) (tgt := 11) hx hb (by omega) (by omega) dX0_addKeepOut_6 (by decide) (fun c_1 => ?_) (fun c_1 => ?_)
  · refine lv_aload_n hx hb dX0_addKeepOut_11 rfl (lv_at hl 0 rfl) ?_
    refine va_get (D := D) (ci := 0) (v := .ref (ad 24)) (C := RX0) (T := TX0) (N := 11) hx hb hts (inT inX0) hown hK hP 23 ww_23 rfl 1 (by decide) (hts (.fieldLink RX0 9 "BoardMoves$Limits" "x0" "[J") (List.mem_cons_of_mem _ flX0_9)) (fun _ h9 => h9) rfl dX0_addKeepOut_12 ?_
    refine lv_aload_n hx hb dX0_addKeepOut_15 rfl (lv_at hl 0 rfl) ?_
    refine va_get (D := D) (ci := 0) (v := .int (nI li.2.2.2.2.2.2.2.2.1)) (C := RX0) (T := TX0) (N := 11) hx hb hts (inT inX0) hown hK hP 23 ww_23 rfl 9 (by decide) (hts (.fieldLink RX0 37 "BoardMoves$Limits" "keepOuts" "I") (List.mem_cons_of_mem _ flX0_37)) (fun _ h9 => h9) rfl dX0_addKeepOut_16 ?_
    refine lv_lload_n hx hb dX0_addKeepOut_19 rfl (lv_at hl 1 rfl) ?_
    refine bm_last (f := li.1) hx hb hK hP hD hS 24 0 ww_24 rfl (j := li.2.2.2.2.2.2.2.2.1) (x := z1) (by omega) (by decide) dX0_addKeepOut_20 (fun H locs hP hD hS => ?_)
    have hP : va_P D vwCl (WW ad cJ cI cZ bm pa p0 p1 p2 (va_up li.1 li.2.2.2.2.2.2.2.2.1 z1, li.2.1, li.2.2.1, li.2.2.2.1, li.2.2.2.2.1, li.2.2.2.2.2.1, li.2.2.2.2.2.2.1, li.2.2.2.2.2.2.2.1, li.2.2.2.2.2.2.2.2.1, li.2.2.2.2.2.2.2.2.2) wi mt ms ma mp mk mn ou) H := hP
    have hD : va_D A (WW ad cJ cI cZ bm pa p0 p1 p2 (va_up li.1 li.2.2.2.2.2.2.2.2.1 z1, li.2.1, li.2.2.1, li.2.2.2.1, li.2.2.2.2.1, li.2.2.2.2.2.1, li.2.2.2.2.2.2.1, li.2.2.2.2.2.2.2.1, li.2.2.2.2.2.2.2.2.1, li.2.2.2.2.2.2.2.2.2) wi mt ms ma mp mk mn ou) := hD
    refine lv_aload_n hx hb dX0_addKeepOut_21 rfl (lv_at hl 0 rfl) ?_
    refine va_get (D := D) (ci := 0) (v := .ref (ad 25)) (C := RX0) (T := TX0) (N := 11) hx hb hts (inT inX0) hown hK hP 23 ww_23 rfl 2 (by decide) (hts (.fieldLink RX0 15 "BoardMoves$Limits" "y0" "[J") (List.mem_cons_of_mem _ flX0_15)) (fun _ h9 => h9) rfl dX0_addKeepOut_22 ?_
    refine lv_aload_n hx hb dX0_addKeepOut_25 rfl (lv_at hl 0 rfl) ?_
    refine va_get (D := D) (ci := 0) (v := .int (nI li.2.2.2.2.2.2.2.2.1)) (C := RX0) (T := TX0) (N := 11) hx hb hts (inT inX0) hown hK hP 23 ww_23 rfl 9 (by decide) (hts (.fieldLink RX0 37 "BoardMoves$Limits" "keepOuts" "I") (List.mem_cons_of_mem _ flX0_37)) (fun _ h9 => h9) rfl dX0_addKeepOut_26 ?_
    refine lv_lload_n hx hb dX0_addKeepOut_29 rfl (lv_at hl 2 rfl) ?_
    refine bm_last (f := li.2.1) hx hb hK hP hD hS 25 0 ww_25 rfl (j := li.2.2.2.2.2.2.2.2.1) (x := z2) (by omega) (by decide) dX0_addKeepOut_30 (fun H locs hP hD hS => ?_)
    have hP : va_P D vwCl (WW ad cJ cI cZ bm pa p0 p1 p2 (va_up li.1 li.2.2.2.2.2.2.2.2.1 z1, va_up li.2.1 li.2.2.2.2.2.2.2.2.1 z2, li.2.2.1, li.2.2.2.1, li.2.2.2.2.1, li.2.2.2.2.2.1, li.2.2.2.2.2.2.1, li.2.2.2.2.2.2.2.1, li.2.2.2.2.2.2.2.2.1, li.2.2.2.2.2.2.2.2.2) wi mt ms ma mp mk mn ou) H := hP
    have hD : va_D A (WW ad cJ cI cZ bm pa p0 p1 p2 (va_up li.1 li.2.2.2.2.2.2.2.2.1 z1, va_up li.2.1 li.2.2.2.2.2.2.2.2.1 z2, li.2.2.1, li.2.2.2.1, li.2.2.2.2.1, li.2.2.2.2.2.1, li.2.2.2.2.2.2.1, li.2.2.2.2.2.2.2.1, li.2.2.2.2.2.2.2.2.1, li.2.2.2.2.2.2.2.2.2) wi mt ms ma mp mk mn ou) := hD
    refine lv_aload_n hx hb dX0_addKeepOut_31 rfl (lv_at hl 0 rfl) ?_
    refine va_get (D := D) (ci := 0) (v := .ref (ad 26)) (C := RX0) (T := TX0) (N := 11) hx hb hts (inT inX0) hown hK hP 23 ww_23 rfl 3 (by decide) (hts (.fieldLink RX0 18 "BoardMoves$Limits" "x1" "[J") (List.mem_cons_of_mem _ flX0_18)) (fun _ h9 => h9) rfl dX0_addKeepOut_32 ?_
    refine lv_aload_n hx hb dX0_addKeepOut_35 rfl (lv_at hl 0 rfl) ?_
    refine va_get (D := D) (ci := 0) (v := .int (nI li.2.2.2.2.2.2.2.2.1)) (C := RX0) (T := TX0) (N := 11) hx hb hts (inT inX0) hown hK hP 23 ww_23 rfl 9 (by decide) (hts (.fieldLink RX0 37 "BoardMoves$Limits" "keepOuts" "I") (List.mem_cons_of_mem _ flX0_37)) (fun _ h9 => h9) rfl dX0_addKeepOut_36 ?_
    refine lv_lload hx hb dX0_addKeepOut_39 (lv_at hl 3 rfl) ?_
    refine bm_last (f := li.2.2.1) hx hb hK hP hD hS 26 0 ww_26 rfl (j := li.2.2.2.2.2.2.2.2.1) (x := z3) (by omega) (by decide) dX0_addKeepOut_41 (fun H locs hP hD hS => ?_)
    have hP : va_P D vwCl (WW ad cJ cI cZ bm pa p0 p1 p2 (va_up li.1 li.2.2.2.2.2.2.2.2.1 z1, va_up li.2.1 li.2.2.2.2.2.2.2.2.1 z2, va_up li.2.2.1 li.2.2.2.2.2.2.2.2.1 z3, li.2.2.2.1, li.2.2.2.2.1, li.2.2.2.2.2.1, li.2.2.2.2.2.2.1, li.2.2.2.2.2.2.2.1, li.2.2.2.2.2.2.2.2.1, li.2.2.2.2.2.2.2.2.2) wi mt ms ma mp mk mn ou) H := hP
    have hD : va_D A (WW ad cJ cI cZ bm pa p0 p1 p2 (va_up li.1 li.2.2.2.2.2.2.2.2.1 z1, va_up li.2.1 li.2.2.2.2.2.2.2.2.1 z2, va_up li.2.2.1 li.2.2.2.2.2.2.2.2.1 z3, li.2.2.2.1, li.2.2.2.2.1, li.2.2.2.2.2.1, li.2.2.2.2.2.2.1, li.2.2.2.2.2.2.2.1, li.2.2.2.2.2.2.2.2.1, li.2.2.2.2.2.2.2.2.2) wi mt ms ma mp mk mn ou) := hD
    refine lv_aload_n hx hb dX0_addKeepOut_42 rfl (lv_at hl 0 rfl) ?_
    refine va_get (D := D) (ci := 0) (v := .ref (ad 27)) (C := RX0) (T := TX0) (N := 11) hx hb hts (inT inX0) hown hK hP 23 ww_23 rfl 4 (by decide) (hts (.fieldLink RX0 21 "BoardMoves$Limits" "y1" "[J") (List.mem_cons_of_mem _ flX0_21)) (fun _ h9 => h9) rfl dX0_addKeepOut_43 ?_
    refine lv_aload_n hx hb dX0_addKeepOut_46 rfl (lv_at hl 0 rfl) ?_
    refine va_get (D := D) (ci := 0) (v := .int (nI li.2.2.2.2.2.2.2.2.1)) (C := RX0) (T := TX0) (N := 11) hx hb hts (inT inX0) hown hK hP 23 ww_23 rfl 9 (by decide) (hts (.fieldLink RX0 37 "BoardMoves$Limits" "keepOuts" "I") (List.mem_cons_of_mem _ flX0_37)) (fun _ h9 => h9) rfl dX0_addKeepOut_47 ?_
    refine lv_lload hx hb dX0_addKeepOut_50 (lv_at hl 4 rfl) ?_
    refine bm_last (f := li.2.2.2.1) hx hb hK hP hD hS 27 0 ww_27 rfl (j := li.2.2.2.2.2.2.2.2.1) (x := z4) (by omega) (by decide) dX0_addKeepOut_52 (fun H locs hP hD hS => ?_)
    have hP : va_P D vwCl (WW ad cJ cI cZ bm pa p0 p1 p2 (va_up li.1 li.2.2.2.2.2.2.2.2.1 z1, va_up li.2.1 li.2.2.2.2.2.2.2.2.1 z2, va_up li.2.2.1 li.2.2.2.2.2.2.2.2.1 z3, va_up li.2.2.2.1 li.2.2.2.2.2.2.2.2.1 z4, li.2.2.2.2.1, li.2.2.2.2.2.1, li.2.2.2.2.2.2.1, li.2.2.2.2.2.2.2.1, li.2.2.2.2.2.2.2.2.1, li.2.2.2.2.2.2.2.2.2) wi mt ms ma mp mk mn ou) H := hP
    have hD : va_D A (WW ad cJ cI cZ bm pa p0 p1 p2 (va_up li.1 li.2.2.2.2.2.2.2.2.1 z1, va_up li.2.1 li.2.2.2.2.2.2.2.2.1 z2, va_up li.2.2.1 li.2.2.2.2.2.2.2.2.1 z3, va_up li.2.2.2.1 li.2.2.2.2.2.2.2.2.1 z4, li.2.2.2.2.1, li.2.2.2.2.2.1, li.2.2.2.2.2.2.1, li.2.2.2.2.2.2.2.1, li.2.2.2.2.2.2.2.2.1, li.2.2.2.2.2.2.2.2.2) wi mt ms ma mp mk mn ou) := hD
    refine lv_aload_n hx hb dX0_addKeepOut_53 rfl (lv_at hl 0 rfl) ?_
    refine va_get (D := D) (ci := 0) (v := .ref (ad 28)) (C := RX0) (T := TX0) (N := 11) hx hb hts (inT inX0) hown hK hP 23 ww_23 rfl 5 (by decide) (hts (.fieldLink RX0 24 "BoardMoves$Limits" "tallest" "[J") (List.mem_cons_of_mem _ flX0_24)) (fun _ h9 => h9) rfl dX0_addKeepOut_54 ?_
    refine lv_aload_n hx hb dX0_addKeepOut_57 rfl (lv_at hl 0 rfl) ?_
    refine va_get (D := D) (ci := 0) (v := .int (nI li.2.2.2.2.2.2.2.2.1)) (C := RX0) (T := TX0) (N := 11) hx hb hts (inT inX0) hown hK hP 23 ww_23 rfl 9 (by decide) (hts (.fieldLink RX0 37 "BoardMoves$Limits" "keepOuts" "I") (List.mem_cons_of_mem _ flX0_37)) (fun _ h9 => h9) rfl dX0_addKeepOut_58 ?_
    refine lv_lload hx hb dX0_addKeepOut_61 (lv_at hl 5 rfl) ?_
    refine bm_last (f := li.2.2.2.2.1) hx hb hK hP hD hS 28 0 ww_28 rfl (j := li.2.2.2.2.2.2.2.2.1) (x := z5) (by omega) (by decide) dX0_addKeepOut_63 (fun H locs hP hD hS => ?_)
    have hP : va_P D vwCl (WW ad cJ cI cZ bm pa p0 p1 p2 (va_up li.1 li.2.2.2.2.2.2.2.2.1 z1, va_up li.2.1 li.2.2.2.2.2.2.2.2.1 z2, va_up li.2.2.1 li.2.2.2.2.2.2.2.2.1 z3, va_up li.2.2.2.1 li.2.2.2.2.2.2.2.2.1 z4, va_up li.2.2.2.2.1 li.2.2.2.2.2.2.2.2.1 z5, li.2.2.2.2.2.1, li.2.2.2.2.2.2.1, li.2.2.2.2.2.2.2.1, li.2.2.2.2.2.2.2.2.1, li.2.2.2.2.2.2.2.2.2) wi mt ms ma mp mk mn ou) H := hP
    have hD : va_D A (WW ad cJ cI cZ bm pa p0 p1 p2 (va_up li.1 li.2.2.2.2.2.2.2.2.1 z1, va_up li.2.1 li.2.2.2.2.2.2.2.2.1 z2, va_up li.2.2.1 li.2.2.2.2.2.2.2.2.1 z3, va_up li.2.2.2.1 li.2.2.2.2.2.2.2.2.1 z4, va_up li.2.2.2.2.1 li.2.2.2.2.2.2.2.2.1 z5, li.2.2.2.2.2.1, li.2.2.2.2.2.2.1, li.2.2.2.2.2.2.2.1, li.2.2.2.2.2.2.2.2.1, li.2.2.2.2.2.2.2.2.2) wi mt ms ma mp mk mn ou) := hD
    refine lv_aload_n hx hb dX0_addKeepOut_64 rfl (lv_at hl 0 rfl) ?_
    refine lv_dup hx hb dX0_addKeepOut_65 rfl ?_
    refine va_get (D := D) (ci := 0) (v := .int (nI li.2.2.2.2.2.2.2.2.1)) (C := RX0) (T := TX0) (N := 11) hx hb hts (inT inX0) hown hK hP 23 ww_23 rfl 9 (by decide) (hts (.fieldLink RX0 37 "BoardMoves$Limits" "keepOuts" "I") (List.mem_cons_of_mem _ flX0_37)) (fun _ h9 => h9) rfl dX0_addKeepOut_66 ?_
    refine lv_iconst (v := nI 1) hx hb dX0_addKeepOut_69 (by decide) ?_
    refine bm_nadd hx hb dX0_addKeepOut_70 ?_
    refine va_put (D := D) (ci := 0) (v := .int (nI (li.2.2.2.2.2.2.2.2.1 + 1))) (ty := .int) (C := RX0) (T := TX0) (N := 11) hx hb hts (inT inX0) tyX0 tyX0_ok nmX0 hown hK hP hD hS 23 ww_23 rfl 9 (by decide) (hts (.fieldLink RX0 37 "BoardMoves$Limits" "keepOuts" "I") (List.mem_cons_of_mem _ flX0_37)) (fun _ h9 => h9) rfl (by decide +kernel) rfl rfl (Nat.le_of_ble_eq_true rfl) dX0_addKeepOut_71 (fun H locs hP hD hS => ?_)
    have hP : va_P D vwCl (WW ad cJ cI cZ bm pa p0 p1 p2 (va_up li.1 li.2.2.2.2.2.2.2.2.1 z1, va_up li.2.1 li.2.2.2.2.2.2.2.2.1 z2, va_up li.2.2.1 li.2.2.2.2.2.2.2.2.1 z3, va_up li.2.2.2.1 li.2.2.2.2.2.2.2.2.1 z4, va_up li.2.2.2.2.1 li.2.2.2.2.2.2.2.2.1 z5, li.2.2.2.2.2.1, li.2.2.2.2.2.2.1, li.2.2.2.2.2.2.2.1, li.2.2.2.2.2.2.2.2.1 + 1, li.2.2.2.2.2.2.2.2.2) wi mt ms ma mp mk mn ou) H := hP
    have hD : va_D A (WW ad cJ cI cZ bm pa p0 p1 p2 (va_up li.1 li.2.2.2.2.2.2.2.2.1 z1, va_up li.2.1 li.2.2.2.2.2.2.2.2.1 z2, va_up li.2.2.1 li.2.2.2.2.2.2.2.2.1 z3, va_up li.2.2.2.1 li.2.2.2.2.2.2.2.2.1 z4, va_up li.2.2.2.2.1 li.2.2.2.2.2.2.2.2.1 z5, li.2.2.2.2.2.1, li.2.2.2.2.2.2.1, li.2.2.2.2.2.2.2.1, li.2.2.2.2.2.2.2.2.1 + 1, li.2.2.2.2.2.2.2.2.2) wi mt ms ma mp mk mn ou) := hD
    refine lv_iconst (v := bm_b true) hx hb dX0_addKeepOut_74 (by decide) ?_
    exact bm_zretX (v := true) hx hb hr hP hD hK hS ⟨rfl, rfl⟩ dX0_addKeepOut_75 hlocks
  · exfalso; omega

set_option maxHeartbeats 8000000 in
set_option maxRecDepth 100000 in
theorem x_addKO2 {l : Launch} {D : va_G} {ad : Nat → Nat} {cJ cI cZ : ClassId} {bm : gBM} {pa : gPA} {p0 p1 p2 : gPL} {li : gLI} {wi : gWI} {mt : Nat} {ms : gMS} {ma : gMA} {mp : gMP} {mk : gMK} {mn : gMN} {ou : Nat → Int64} {z1 : Int64} {z2 : Int64} {z3 : Int64} {z4 : Int64} {z5 : Int64} (ok_li_keepOuts : li.2.2.2.2.2.2.2.2.1 ≤ 10)  (hq : li.2.2.2.2.2.2.2.2.1 = 10) : bm_Wx l yX0_addKeepOut wsX0_addKeepOut ({ frames := 0, cells := 0, slots := 0, locals := 0 }) D vwCl [(cJ, .long), (cI, .int), (cZ, .boolean)] (WW ad cJ cI cZ bm pa p0 p1 p2 li wi mt ms ma mp mk mn ou) [.ref (ad 23), .long z1, .long z2, .long z3, .long z4, .long z5] (fun ws9 r9 => ws9 = (WW ad cJ cI cZ bm pa p0 p1 p2 li wi mt ms ma mp mk mn ou) ∧ r9 = some (.int (bm_b false))) := by
  intro sz
  refine Met.ofW (cc := cX0_addKeepOut) (maxL := 11) (ret := (some .boolean)) (by decide) rfl ?_
  intro p e s m args below meth c s₁ B hml hv
  obtain ⟨ha, hsz, hP, hK, hD0⟩ := hv
  have hx := B.exec
  have hb := B.bytes
  have hr := B.returns
  have hts := atoms_spec (ws := wsX0_addKeepOut) B.pre
  have hown : s.vm.findClass RX0 = some m.cls := findClass_of_methodNamed B.named
  have hlocks := B.notSynchronized
  subst hsz
  have hD := hD0.self (sz := s.heap.size)
  generalize hAe : va_A (WW ad cJ cI cZ bm pa p0 p1 p2 li wi mt ms ma mp mk mn ou) s.heap.size = A at hD ⊢
  have hA : ∀ q : Nat, s.heap.size ≤ q → A q := fun q h => by rw [← hAe]; exact Or.inr h
  have hS : va_S A s.heap s.heap [] := va_S.rf
  have hl := lv_entry ([.ref (ad 23), .long z1, .long z2, .long z3, .long z4, .long z5]) (n := 11) (Nat.le_of_ble_eq_true rfl)
  refine W.eq (g2 := entryFrame m ([.ref (ad 23), .long z1, .long z2, .long z3, .long z4, .long z5] : List Value).toArray 11) (by rw [ha]) ?_
  rw [lg_entry_eq]
  generalize (lg_sl ([.ref (ad 23), .long z1, .long z2, .long z3, .long z4, .long z5]) ++ List.replicate (11 - (lg_sl ([.ref (ad 23), .long z1, .long z2, .long z3, .long z4, .long z5])).length) Slot.unset).toArray = ls at hl ⊢
  have hl : lv_has ls 11 [(0, .ref (ad 23)), (1, .long z1), (3, .long z2), (5, .long z3), (7, .long z4), (9, .long z5)] := hl
  refine lv_aload_n hx hb dX0_addKeepOut_0 rfl (lv_at hl 0 rfl) ?_
  refine va_get (D := D) (ci := 0) (v := .int (nI li.2.2.2.2.2.2.2.2.1)) (C := RX0) (T := TX0) (N := 11) hx hb hts (inT inX0) hown hK hP 23 ww_23 rfl 9 (by decide) (hts (.fieldLink RX0 37 "BoardMoves$Limits" "keepOuts" "I") (List.mem_cons_of_mem _ flX0_37)) (fun _ h9 => h9) rfl dX0_addKeepOut_1 ?_
  refine lv_bipush (v := nI 10) hx hb dX0_addKeepOut_4 (by decide) ?_
  refine bm_ni_lt (x := li.2.2.2.2.2.2.2.2.1) (y := 10) (tgt := 11) hx hb (by omega) (by omega) dX0_addKeepOut_6 (by decide) (fun c_1 => ?_) (fun c_1 => ?_)
  · exfalso; omega
  · refine lv_iconst (v := bm_b false) hx hb dX0_addKeepOut_9 (by decide) ?_
    exact bm_zretX (v := false) hx hb hr hP hD hK hS ⟨rfl, rfl⟩ dX0_addKeepOut_10 hlocks

set_option maxHeartbeats 8000000 in
set_option maxRecDepth 100000 in
theorem x_dropKO1 {l : Launch} {D : va_G} {ad : Nat → Nat} {cJ cI cZ : ClassId} {bm : gBM} {pa : gPA} {p0 p1 p2 : gPL} {li : gLI} {wi : gWI} {mt : Nat} {ms : gMS} {ma : gMA} {mp : gMP} {mk : gMK} {mn : gMN} {ou : Nat → Int64}  (ok_li_keepOuts : li.2.2.2.2.2.2.2.2.1 ≤ 10)  (hq : 0 < li.2.2.2.2.2.2.2.2.1) : bm_Wx l yX0_dropKeepOut wsX0_dropKeepOut ({ frames := 0, cells := 0, slots := 0, locals := 0 }) D vwCl [(cJ, .long), (cI, .int), (cZ, .boolean)] (WW ad cJ cI cZ bm pa p0 p1 p2 li wi mt ms ma mp mk mn ou) [.ref (ad 23)] (fun ws9 r9 => ws9 = (WW ad cJ cI cZ bm pa p0 p1 p2 (li.1, li.2.1, li.2.2.1, li.2.2.2.1, li.2.2.2.2.1, li.2.2.2.2.2.1, li.2.2.2.2.2.2.1, li.2.2.2.2.2.2.2.1, li.2.2.2.2.2.2.2.2.1 - 1, li.2.2.2.2.2.2.2.2.2) wi mt ms ma mp mk mn ou) ∧ r9 = none) := by
  intro sz
  refine Met.ofW (cc := cX0_dropKeepOut) (maxL := 1) (ret := none) (by decide) rfl ?_
  intro p e s m args below meth c s₁ B hml hv
  obtain ⟨ha, hsz, hP, hK, hD0⟩ := hv
  have hx := B.exec
  have hb := B.bytes
  have hr := B.returns
  have hts := atoms_spec (ws := wsX0_dropKeepOut) B.pre
  have hown : s.vm.findClass RX0 = some m.cls := findClass_of_methodNamed B.named
  have hlocks := B.notSynchronized
  subst hsz
  have hD := hD0.self (sz := s.heap.size)
  generalize hAe : va_A (WW ad cJ cI cZ bm pa p0 p1 p2 li wi mt ms ma mp mk mn ou) s.heap.size = A at hD ⊢
  have hA : ∀ q : Nat, s.heap.size ≤ q → A q := fun q h => by rw [← hAe]; exact Or.inr h
  have hS : va_S A s.heap s.heap [] := va_S.rf
  have hl := lv_entry ([.ref (ad 23)]) (n := 1) (Nat.le_of_ble_eq_true rfl)
  refine W.eq (g2 := entryFrame m ([.ref (ad 23)] : List Value).toArray 1) (by rw [ha]) ?_
  rw [lg_entry_eq]
  generalize (lg_sl ([.ref (ad 23)]) ++ List.replicate (1 - (lg_sl ([.ref (ad 23)])).length) Slot.unset).toArray = ls at hl ⊢
  have hl : lv_has ls 1 [(0, .ref (ad 23))] := hl
  refine lv_aload_n hx hb dX0_dropKeepOut_0 rfl (lv_at hl 0 rfl) ?_
  refine va_get (D := D) (ci := 0) (v := .int (nI li.2.2.2.2.2.2.2.2.1)) (C := RX0) (T := TX0) (N := 11) hx hb hts (inT inX0) hown hK hP 23 ww_23 rfl 9 (by decide) (hts (.fieldLink RX0 37 "BoardMoves$Limits" "keepOuts" "I") (List.mem_cons_of_mem _ flX0_37)) (fun _ h9 => h9) rfl dX0_dropKeepOut_1 ?_
  refine bm_nz_le (x := li.2.2.2.2.2.2.2.2.1) (tgt := 17) hx hb (by omega) dX0_dropKeepOut_4 (by decide) (fun c_1 => ?_) (fun c_1 => ?_)
  · exfalso; omega
  · refine lv_aload_n hx hb dX0_dropKeepOut_7 rfl (lv_at hl 0 rfl) ?_
    refine lv_dup hx hb dX0_dropKeepOut_8 rfl ?_
    refine va_get (D := D) (ci := 0) (v := .int (nI li.2.2.2.2.2.2.2.2.1)) (C := RX0) (T := TX0) (N := 11) hx hb hts (inT inX0) hown hK hP 23 ww_23 rfl 9 (by decide) (hts (.fieldLink RX0 37 "BoardMoves$Limits" "keepOuts" "I") (List.mem_cons_of_mem _ flX0_37)) (fun _ h9 => h9) rfl dX0_dropKeepOut_9 ?_
    refine lv_iconst (v := nI 1) hx hb dX0_dropKeepOut_12 (by decide) ?_
    refine bm_nsub hx hb (by omega) dX0_dropKeepOut_13 ?_
    refine va_put (D := D) (ci := 0) (v := .int (nI (li.2.2.2.2.2.2.2.2.1 - 1))) (ty := .int) (C := RX0) (T := TX0) (N := 11) hx hb hts (inT inX0) tyX0 tyX0_ok nmX0 hown hK hP hD hS 23 ww_23 rfl 9 (by decide) (hts (.fieldLink RX0 37 "BoardMoves$Limits" "keepOuts" "I") (List.mem_cons_of_mem _ flX0_37)) (fun _ h9 => h9) rfl (by decide +kernel) rfl rfl (Nat.le_of_ble_eq_true rfl) dX0_dropKeepOut_14 (fun H locs hP hD hS => ?_)
    have hP : va_P D vwCl (WW ad cJ cI cZ bm pa p0 p1 p2 (li.1, li.2.1, li.2.2.1, li.2.2.2.1, li.2.2.2.2.1, li.2.2.2.2.2.1, li.2.2.2.2.2.2.1, li.2.2.2.2.2.2.2.1, li.2.2.2.2.2.2.2.2.1 - 1, li.2.2.2.2.2.2.2.2.2) wi mt ms ma mp mk mn ou) H := hP
    have hD : va_D A (WW ad cJ cI cZ bm pa p0 p1 p2 (li.1, li.2.1, li.2.2.1, li.2.2.2.1, li.2.2.2.2.1, li.2.2.2.2.2.1, li.2.2.2.2.2.2.1, li.2.2.2.2.2.2.2.1, li.2.2.2.2.2.2.2.2.1 - 1, li.2.2.2.2.2.2.2.2.2) wi mt ms ma mp mk mn ou) := hD
    exact bm_vretX hx hb hr hP hD hK hS ⟨rfl, rfl⟩ dX0_dropKeepOut_17 hlocks

set_option maxHeartbeats 8000000 in
set_option maxRecDepth 100000 in
theorem x_addNear1 {l : Launch} {D : va_G} {ad : Nat → Nat} {cJ cI cZ : ClassId} {bm : gBM} {pa : gPA} {p0 p1 p2 : gPL} {li : gLI} {wi : gWI} {mt : Nat} {ms : gMS} {ma : gMA} {mp : gMP} {mk : gMK} {mn : gMN} {ou : Nat → Int64} {za : Nat} {zb : Nat} {z1 : Int64} (ok_li_nears : li.2.2.2.2.2.2.2.2.2 ≤ 20) (ok_li_one : ∀ i, li.2.2.2.2.2.1 i < 40) (ok_li_other : ∀ i, li.2.2.2.2.2.2.1 i < 40) (hp0 : za < 40) (hp1 : zb < 40) (hq : li.2.2.2.2.2.2.2.2.2 < 20) : bm_Wx l yX0_addNear wsX0_addNear ({ frames := 0, cells := 0, slots := 0, locals := 0 }) D vwCl [(cJ, .long), (cI, .int), (cZ, .boolean)] (WW ad cJ cI cZ bm pa p0 p1 p2 li wi mt ms ma mp mk mn ou) [.ref (ad 23), .int (nI za), .int (nI zb), .long z1] (fun ws9 r9 => ws9 = (WW ad cJ cI cZ bm pa p0 p1 p2 (li.1, li.2.1, li.2.2.1, li.2.2.2.1, li.2.2.2.2.1, va_up li.2.2.2.2.2.1 li.2.2.2.2.2.2.2.2.2 za, va_up li.2.2.2.2.2.2.1 li.2.2.2.2.2.2.2.2.2 zb, va_up li.2.2.2.2.2.2.2.1 li.2.2.2.2.2.2.2.2.2 z1, li.2.2.2.2.2.2.2.2.1, li.2.2.2.2.2.2.2.2.2 + 1) wi mt ms ma mp mk mn ou) ∧ r9 = some (.int (bm_b true))) := by
  intro sz
  refine Met.ofW (cc := cX0_addNear) (maxL := 5) (ret := (some .boolean)) (by decide) rfl ?_
  intro p e s m args below meth c s₁ B hml hv
  obtain ⟨ha, hsz, hP, hK, hD0⟩ := hv
  have hx := B.exec
  have hb := B.bytes
  have hr := B.returns
  have hts := atoms_spec (ws := wsX0_addNear) B.pre
  have hown : s.vm.findClass RX0 = some m.cls := findClass_of_methodNamed B.named
  have hlocks := B.notSynchronized
  subst hsz
  have hD := hD0.self (sz := s.heap.size)
  generalize hAe : va_A (WW ad cJ cI cZ bm pa p0 p1 p2 li wi mt ms ma mp mk mn ou) s.heap.size = A at hD ⊢
  have hA : ∀ q : Nat, s.heap.size ≤ q → A q := fun q h => by rw [← hAe]; exact Or.inr h
  have hS : va_S A s.heap s.heap [] := va_S.rf
  have hl := lv_entry ([.ref (ad 23), .int (nI za), .int (nI zb), .long z1]) (n := 5) (Nat.le_of_ble_eq_true rfl)
  refine W.eq (g2 := entryFrame m ([.ref (ad 23), .int (nI za), .int (nI zb), .long z1] : List Value).toArray 5) (by rw [ha]) ?_
  rw [lg_entry_eq]
  generalize (lg_sl ([.ref (ad 23), .int (nI za), .int (nI zb), .long z1]) ++ List.replicate (5 - (lg_sl ([.ref (ad 23), .int (nI za), .int (nI zb), .long z1])).length) Slot.unset).toArray = ls at hl ⊢
  have hl : lv_has ls 5 [(0, .ref (ad 23)), (1, .int (nI za)), (2, .int (nI zb)), (3, .long z1)] := hl
  refine lv_aload_n hx hb dX0_addNear_0 rfl (lv_at hl 0 rfl) ?_
  refine va_get (D := D) (ci := 0) (v := .int (nI li.2.2.2.2.2.2.2.2.2)) (C := RX0) (T := TX0) (N := 11) hx hb hts (inT inX0) hown hK hP 23 ww_23 rfl 10 (by decide) (hts (.fieldLink RX0 41 "BoardMoves$Limits" "nears" "I") (List.mem_cons_of_mem _ flX0_41)) (fun _ h9 => h9) rfl dX0_addNear_1 ?_
  refine lv_bipush (v := nI 20) hx hb dX0_addNear_4 (by decide) ?_
  refine bm_ni_lt (x := li.2.2.2.2.2.2.2.2.2) (y := 20) (tgt := 11) hx hb (by omega) (by omega) dX0_addNear_6 (by decide) (fun c_1 => ?_) (fun c_1 => ?_)
  · refine lv_aload_n hx hb dX0_addNear_11 rfl (lv_at hl 0 rfl) ?_
    refine va_get (D := D) (ci := 0) (v := .ref (ad 29)) (C := RX0) (T := TX0) (N := 11) hx hb hts (inT inX0) hown hK hP 23 ww_23 rfl 6 (by decide) (hts (.fieldLink RX0 27 "BoardMoves$Limits" "one" "[I") (List.mem_cons_of_mem _ flX0_27)) (fun _ h9 => h9) rfl dX0_addNear_12 ?_
    refine lv_aload_n hx hb dX0_addNear_15 rfl (lv_at hl 0 rfl) ?_
    refine va_get (D := D) (ci := 0) (v := .int (nI li.2.2.2.2.2.2.2.2.2)) (C := RX0) (T := TX0) (N := 11) hx hb hts (inT inX0) hown hK hP 23 ww_23 rfl 10 (by decide) (hts (.fieldLink RX0 41 "BoardMoves$Limits" "nears" "I") (List.mem_cons_of_mem _ flX0_41)) (fun _ h9 => h9) rfl dX0_addNear_16 ?_
    refine lv_iload_n hx hb dX0_addNear_19 rfl (lv_at hl 1 rfl) ?_
    refine bm_nast (f := li.2.2.2.2.2.1) hx hb hK hP hD hS 29 1 ww_29 rfl (j := li.2.2.2.2.2.2.2.2.2) (x := za) (by omega) (by decide) dX0_addNear_20 (fun H locs hP hD hS => ?_)
    have hP : va_P D vwCl (WW ad cJ cI cZ bm pa p0 p1 p2 (li.1, li.2.1, li.2.2.1, li.2.2.2.1, li.2.2.2.2.1, va_up li.2.2.2.2.2.1 li.2.2.2.2.2.2.2.2.2 za, li.2.2.2.2.2.2.1, li.2.2.2.2.2.2.2.1, li.2.2.2.2.2.2.2.2.1, li.2.2.2.2.2.2.2.2.2) wi mt ms ma mp mk mn ou) H := hP
    have hD : va_D A (WW ad cJ cI cZ bm pa p0 p1 p2 (li.1, li.2.1, li.2.2.1, li.2.2.2.1, li.2.2.2.2.1, va_up li.2.2.2.2.2.1 li.2.2.2.2.2.2.2.2.2 za, li.2.2.2.2.2.2.1, li.2.2.2.2.2.2.2.1, li.2.2.2.2.2.2.2.2.1, li.2.2.2.2.2.2.2.2.2) wi mt ms ma mp mk mn ou) := hD
    refine lv_aload_n hx hb dX0_addNear_21 rfl (lv_at hl 0 rfl) ?_
    refine va_get (D := D) (ci := 0) (v := .ref (ad 30)) (C := RX0) (T := TX0) (N := 11) hx hb hts (inT inX0) hown hK hP 23 ww_23 rfl 7 (by decide) (hts (.fieldLink RX0 31 "BoardMoves$Limits" "other" "[I") (List.mem_cons_of_mem _ flX0_31)) (fun _ h9 => h9) rfl dX0_addNear_22 ?_
    refine lv_aload_n hx hb dX0_addNear_25 rfl (lv_at hl 0 rfl) ?_
    refine va_get (D := D) (ci := 0) (v := .int (nI li.2.2.2.2.2.2.2.2.2)) (C := RX0) (T := TX0) (N := 11) hx hb hts (inT inX0) hown hK hP 23 ww_23 rfl 10 (by decide) (hts (.fieldLink RX0 41 "BoardMoves$Limits" "nears" "I") (List.mem_cons_of_mem _ flX0_41)) (fun _ h9 => h9) rfl dX0_addNear_26 ?_
    refine lv_iload_n hx hb dX0_addNear_29 rfl (lv_at hl 2 rfl) ?_
    refine bm_nast (f := li.2.2.2.2.2.2.1) hx hb hK hP hD hS 30 1 ww_30 rfl (j := li.2.2.2.2.2.2.2.2.2) (x := zb) (by omega) (by decide) dX0_addNear_30 (fun H locs hP hD hS => ?_)
    have hP : va_P D vwCl (WW ad cJ cI cZ bm pa p0 p1 p2 (li.1, li.2.1, li.2.2.1, li.2.2.2.1, li.2.2.2.2.1, va_up li.2.2.2.2.2.1 li.2.2.2.2.2.2.2.2.2 za, va_up li.2.2.2.2.2.2.1 li.2.2.2.2.2.2.2.2.2 zb, li.2.2.2.2.2.2.2.1, li.2.2.2.2.2.2.2.2.1, li.2.2.2.2.2.2.2.2.2) wi mt ms ma mp mk mn ou) H := hP
    have hD : va_D A (WW ad cJ cI cZ bm pa p0 p1 p2 (li.1, li.2.1, li.2.2.1, li.2.2.2.1, li.2.2.2.2.1, va_up li.2.2.2.2.2.1 li.2.2.2.2.2.2.2.2.2 za, va_up li.2.2.2.2.2.2.1 li.2.2.2.2.2.2.2.2.2 zb, li.2.2.2.2.2.2.2.1, li.2.2.2.2.2.2.2.2.1, li.2.2.2.2.2.2.2.2.2) wi mt ms ma mp mk mn ou) := hD
    refine lv_aload_n hx hb dX0_addNear_31 rfl (lv_at hl 0 rfl) ?_
    refine va_get (D := D) (ci := 0) (v := .ref (ad 31)) (C := RX0) (T := TX0) (N := 11) hx hb hts (inT inX0) hown hK hP 23 ww_23 rfl 8 (by decide) (hts (.fieldLink RX0 34 "BoardMoves$Limits" "most" "[J") (List.mem_cons_of_mem _ flX0_34)) (fun _ h9 => h9) rfl dX0_addNear_32 ?_
    refine lv_aload_n hx hb dX0_addNear_35 rfl (lv_at hl 0 rfl) ?_
    refine va_get (D := D) (ci := 0) (v := .int (nI li.2.2.2.2.2.2.2.2.2)) (C := RX0) (T := TX0) (N := 11) hx hb hts (inT inX0) hown hK hP 23 ww_23 rfl 10 (by decide) (hts (.fieldLink RX0 41 "BoardMoves$Limits" "nears" "I") (List.mem_cons_of_mem _ flX0_41)) (fun _ h9 => h9) rfl dX0_addNear_36 ?_
    refine lv_lload_n hx hb dX0_addNear_39 rfl (lv_at hl 3 rfl) ?_
    refine bm_last (f := li.2.2.2.2.2.2.2.1) hx hb hK hP hD hS 31 0 ww_31 rfl (j := li.2.2.2.2.2.2.2.2.2) (x := z1) (by omega) (by decide) dX0_addNear_40 (fun H locs hP hD hS => ?_)
    have hP : va_P D vwCl (WW ad cJ cI cZ bm pa p0 p1 p2 (li.1, li.2.1, li.2.2.1, li.2.2.2.1, li.2.2.2.2.1, va_up li.2.2.2.2.2.1 li.2.2.2.2.2.2.2.2.2 za, va_up li.2.2.2.2.2.2.1 li.2.2.2.2.2.2.2.2.2 zb, va_up li.2.2.2.2.2.2.2.1 li.2.2.2.2.2.2.2.2.2 z1, li.2.2.2.2.2.2.2.2.1, li.2.2.2.2.2.2.2.2.2) wi mt ms ma mp mk mn ou) H := hP
    have hD : va_D A (WW ad cJ cI cZ bm pa p0 p1 p2 (li.1, li.2.1, li.2.2.1, li.2.2.2.1, li.2.2.2.2.1, va_up li.2.2.2.2.2.1 li.2.2.2.2.2.2.2.2.2 za, va_up li.2.2.2.2.2.2.1 li.2.2.2.2.2.2.2.2.2 zb, va_up li.2.2.2.2.2.2.2.1 li.2.2.2.2.2.2.2.2.2 z1, li.2.2.2.2.2.2.2.2.1, li.2.2.2.2.2.2.2.2.2) wi mt ms ma mp mk mn ou) := hD
    refine lv_aload_n hx hb dX0_addNear_41 rfl (lv_at hl 0 rfl) ?_
    refine lv_dup hx hb dX0_addNear_42 rfl ?_
    refine va_get (D := D) (ci := 0) (v := .int (nI li.2.2.2.2.2.2.2.2.2)) (C := RX0) (T := TX0) (N := 11) hx hb hts (inT inX0) hown hK hP 23 ww_23 rfl 10 (by decide) (hts (.fieldLink RX0 41 "BoardMoves$Limits" "nears" "I") (List.mem_cons_of_mem _ flX0_41)) (fun _ h9 => h9) rfl dX0_addNear_43 ?_
    refine lv_iconst (v := nI 1) hx hb dX0_addNear_46 (by decide) ?_
    refine bm_nadd hx hb dX0_addNear_47 ?_
    refine va_put (D := D) (ci := 0) (v := .int (nI (li.2.2.2.2.2.2.2.2.2 + 1))) (ty := .int) (C := RX0) (T := TX0) (N := 11) hx hb hts (inT inX0) tyX0 tyX0_ok nmX0 hown hK hP hD hS 23 ww_23 rfl 10 (by decide) (hts (.fieldLink RX0 41 "BoardMoves$Limits" "nears" "I") (List.mem_cons_of_mem _ flX0_41)) (fun _ h9 => h9) rfl (by decide +kernel) rfl rfl (Nat.le_of_ble_eq_true rfl) dX0_addNear_48 (fun H locs hP hD hS => ?_)
    have hP : va_P D vwCl (WW ad cJ cI cZ bm pa p0 p1 p2 (li.1, li.2.1, li.2.2.1, li.2.2.2.1, li.2.2.2.2.1, va_up li.2.2.2.2.2.1 li.2.2.2.2.2.2.2.2.2 za, va_up li.2.2.2.2.2.2.1 li.2.2.2.2.2.2.2.2.2 zb, va_up li.2.2.2.2.2.2.2.1 li.2.2.2.2.2.2.2.2.2 z1, li.2.2.2.2.2.2.2.2.1, li.2.2.2.2.2.2.2.2.2 + 1) wi mt ms ma mp mk mn ou) H := hP
    have hD : va_D A (WW ad cJ cI cZ bm pa p0 p1 p2 (li.1, li.2.1, li.2.2.1, li.2.2.2.1, li.2.2.2.2.1, va_up li.2.2.2.2.2.1 li.2.2.2.2.2.2.2.2.2 za, va_up li.2.2.2.2.2.2.1 li.2.2.2.2.2.2.2.2.2 zb, va_up li.2.2.2.2.2.2.2.1 li.2.2.2.2.2.2.2.2.2 z1, li.2.2.2.2.2.2.2.2.1, li.2.2.2.2.2.2.2.2.2 + 1) wi mt ms ma mp mk mn ou) := hD
    refine lv_iconst (v := bm_b true) hx hb dX0_addNear_51 (by decide) ?_
    exact bm_zretX (v := true) hx hb hr hP hD hK hS ⟨rfl, rfl⟩ dX0_addNear_52 hlocks
  · exfalso; omega

set_option maxHeartbeats 8000000 in
set_option maxRecDepth 100000 in
theorem x_addNear2 {l : Launch} {D : va_G} {ad : Nat → Nat} {cJ cI cZ : ClassId} {bm : gBM} {pa : gPA} {p0 p1 p2 : gPL} {li : gLI} {wi : gWI} {mt : Nat} {ms : gMS} {ma : gMA} {mp : gMP} {mk : gMK} {mn : gMN} {ou : Nat → Int64} {za : Nat} {zb : Nat} {z1 : Int64} (ok_li_nears : li.2.2.2.2.2.2.2.2.2 ≤ 20) (ok_li_one : ∀ i, li.2.2.2.2.2.1 i < 40) (ok_li_other : ∀ i, li.2.2.2.2.2.2.1 i < 40) (hp0 : za < 40) (hp1 : zb < 40) (hq : li.2.2.2.2.2.2.2.2.2 = 20) : bm_Wx l yX0_addNear wsX0_addNear ({ frames := 0, cells := 0, slots := 0, locals := 0 }) D vwCl [(cJ, .long), (cI, .int), (cZ, .boolean)] (WW ad cJ cI cZ bm pa p0 p1 p2 li wi mt ms ma mp mk mn ou) [.ref (ad 23), .int (nI za), .int (nI zb), .long z1] (fun ws9 r9 => ws9 = (WW ad cJ cI cZ bm pa p0 p1 p2 li wi mt ms ma mp mk mn ou) ∧ r9 = some (.int (bm_b false))) := by
  intro sz
  refine Met.ofW (cc := cX0_addNear) (maxL := 5) (ret := (some .boolean)) (by decide) rfl ?_
  intro p e s m args below meth c s₁ B hml hv
  obtain ⟨ha, hsz, hP, hK, hD0⟩ := hv
  have hx := B.exec
  have hb := B.bytes
  have hr := B.returns
  have hts := atoms_spec (ws := wsX0_addNear) B.pre
  have hown : s.vm.findClass RX0 = some m.cls := findClass_of_methodNamed B.named
  have hlocks := B.notSynchronized
  subst hsz
  have hD := hD0.self (sz := s.heap.size)
  generalize hAe : va_A (WW ad cJ cI cZ bm pa p0 p1 p2 li wi mt ms ma mp mk mn ou) s.heap.size = A at hD ⊢
  have hA : ∀ q : Nat, s.heap.size ≤ q → A q := fun q h => by rw [← hAe]; exact Or.inr h
  have hS : va_S A s.heap s.heap [] := va_S.rf
  have hl := lv_entry ([.ref (ad 23), .int (nI za), .int (nI zb), .long z1]) (n := 5) (Nat.le_of_ble_eq_true rfl)
  refine W.eq (g2 := entryFrame m ([.ref (ad 23), .int (nI za), .int (nI zb), .long z1] : List Value).toArray 5) (by rw [ha]) ?_
  rw [lg_entry_eq]
  generalize (lg_sl ([.ref (ad 23), .int (nI za), .int (nI zb), .long z1]) ++ List.replicate (5 - (lg_sl ([.ref (ad 23), .int (nI za), .int (nI zb), .long z1])).length) Slot.unset).toArray = ls at hl ⊢
  have hl : lv_has ls 5 [(0, .ref (ad 23)), (1, .int (nI za)), (2, .int (nI zb)), (3, .long z1)] := hl
  refine lv_aload_n hx hb dX0_addNear_0 rfl (lv_at hl 0 rfl) ?_
  refine va_get (D := D) (ci := 0) (v := .int (nI li.2.2.2.2.2.2.2.2.2)) (C := RX0) (T := TX0) (N := 11) hx hb hts (inT inX0) hown hK hP 23 ww_23 rfl 10 (by decide) (hts (.fieldLink RX0 41 "BoardMoves$Limits" "nears" "I") (List.mem_cons_of_mem _ flX0_41)) (fun _ h9 => h9) rfl dX0_addNear_1 ?_
  refine lv_bipush (v := nI 20) hx hb dX0_addNear_4 (by decide) ?_
  refine bm_ni_lt (x := li.2.2.2.2.2.2.2.2.2) (y := 20) (tgt := 11) hx hb (by omega) (by omega) dX0_addNear_6 (by decide) (fun c_1 => ?_) (fun c_1 => ?_)
  · exfalso; omega
  · refine lv_iconst (v := bm_b false) hx hb dX0_addNear_9 (by decide) ?_
    exact bm_zretX (v := false) hx hb hr hP hD hK hS ⟨rfl, rfl⟩ dX0_addNear_10 hlocks
