set_option maxHeartbeats 8000000 in
set_option maxRecDepth 100000 in
theorem y_left {l : Launch} {D : va_G} {ad : Nat → Nat} {cJ cI cZ : ClassId} {bm : gBM} {pa : gPA} {p0 p1 p2 : gPL} {li : gLI} {wi : gWI} {mt : Nat} {ms : gMS} {ma : gMA} {mp : gMP} {mk : gMK} {mn : gMN} {ou : Nat → Int64} {zr : Nat} {zp : Nat}  (hp0 : zr < 3) (hp1 : zp < 40)  : bm_Wx l yX5_left wsX5_left ({ frames := 0, cells := 0, slots := 0, locals := 0 }) D vwCl [(cJ, .long), (cI, .int), (cZ, .boolean)] (WW ad cJ cI cZ bm pa p0 p1 p2 li wi mt ms ma mp mk mn ou) [.ref (ad 42), .int (nI zr), .int (nI zp)] (fun ws9 r9 => ws9 = (WW ad cJ cI cZ bm pa p0 p1 p2 li wi mt ms ma mp mk mn ou) ∧ ∃ v9 : Int64, r9 = some (.long v9)) := by
  intro sz
  refine Met.ofW (cc := cX5_left) (maxL := 3) (ret := (some .long)) (by decide) rfl ?_
  intro p e s m args below meth c s₁ B hml hv
  obtain ⟨ha, hsz, hP, hK, hD0⟩ := hv
  have hx := B.exec
  have hb := B.bytes
  have hr := B.returns
  have hts := atoms_spec (ws := wsX5_left) B.pre
  have hown : s.vm.findClass RX5 = some m.cls := findClass_of_methodNamed B.named
  have hlocks := B.notSynchronized
  subst hsz
  have hD := hD0.self (sz := s.heap.size)
  generalize hAe : va_A (WW ad cJ cI cZ bm pa p0 p1 p2 li wi mt ms ma mp mk mn ou) s.heap.size = A at hD ⊢
  have hA : ∀ q : Nat, s.heap.size ≤ q → A q := fun q h => by rw [← hAe]; exact Or.inr h
  have hS : va_S A s.heap s.heap [] := va_S.rf
  have hl := lv_entry ([.ref (ad 42), .int (nI zr), .int (nI zp)]) (n := 3) (Nat.le_of_ble_eq_true rfl)
  refine W.eq (g2 := entryFrame m ([.ref (ad 42), .int (nI zr), .int (nI zp)] : List Value).toArray 3) (by rw [ha]) ?_
  rw [lg_entry_eq]
  generalize (lg_sl ([.ref (ad 42), .int (nI zr), .int (nI zp)]) ++ List.replicate (3 - (lg_sl ([.ref (ad 42), .int (nI zr), .int (nI zp)])).length) Slot.unset).toArray = ls at hl ⊢
  have hl : lv_has ls 3 [(0, .ref (ad 42)), (1, .int (nI zr)), (2, .int (nI zp))] := hl
  refine lv_aload_n hx hb dX5_left_0 rfl (lv_at hl 0 rfl) ?_
  refine va_get (D := D) (ci := 5) (v := .ref (ad 50)) (C := RX5) (T := TX5) (N := 28) hx hb hts (inT inX5) hown hK hP 42 ww_42 rfl 11 (by decide) (hts (.fieldLink RX5 33 "BoardMovesModel" "x" "[J") (List.mem_cons_of_mem _ flX5_33)) (fun _ h9 => h9) rfl dX5_left_1 ?_
  refine lv_bipush (v := nI 40) hx hb dX5_left_4 (by decide) ?_
  refine lv_iload_n hx hb dX5_left_6 rfl (lv_at hl 1 rfl) ?_
  refine bm_nmul hx hb dX5_left_7 ?_
  refine lv_iload_n hx hb dX5_left_8 rfl (lv_at hl 2 rfl) ?_
  refine bm_nadd hx hb dX5_left_9 ?_
  refine bm_lald (f := mp.1) hx hb hK hP 50 0 ww_50 rfl (j := ((40 * zr) + zp)) (by omega) (by decide) dX5_left_10 ?_
  refine lv_topl (fun t_1 _ => ?_)
  exact bm_lretX (v := t_1) hx hb hr hP hD hK hS ⟨rfl, t_1, rfl⟩ dX5_left_11 hlocks

set_option maxHeartbeats 8000000 in
set_option maxRecDepth 100000 in
theorem y_low {l : Launch} {D : va_G} {ad : Nat → Nat} {cJ cI cZ : ClassId} {bm : gBM} {pa : gPA} {p0 p1 p2 : gPL} {li : gLI} {wi : gWI} {mt : Nat} {ms : gMS} {ma : gMA} {mp : gMP} {mk : gMK} {mn : gMN} {ou : Nat → Int64} {zr : Nat} {zp : Nat}  (hp0 : zr < 3) (hp1 : zp < 40)  : bm_Wx l yX5_low wsX5_low ({ frames := 0, cells := 0, slots := 0, locals := 0 }) D vwCl [(cJ, .long), (cI, .int), (cZ, .boolean)] (WW ad cJ cI cZ bm pa p0 p1 p2 li wi mt ms ma mp mk mn ou) [.ref (ad 42), .int (nI zr), .int (nI zp)] (fun ws9 r9 => ws9 = (WW ad cJ cI cZ bm pa p0 p1 p2 li wi mt ms ma mp mk mn ou) ∧ ∃ v9 : Int64, r9 = some (.long v9)) := by
  intro sz
  refine Met.ofW (cc := cX5_low) (maxL := 3) (ret := (some .long)) (by decide) rfl ?_
  intro p e s m args below meth c s₁ B hml hv
  obtain ⟨ha, hsz, hP, hK, hD0⟩ := hv
  have hx := B.exec
  have hb := B.bytes
  have hr := B.returns
  have hts := atoms_spec (ws := wsX5_low) B.pre
  have hown : s.vm.findClass RX5 = some m.cls := findClass_of_methodNamed B.named
  have hlocks := B.notSynchronized
  subst hsz
  have hD := hD0.self (sz := s.heap.size)
  generalize hAe : va_A (WW ad cJ cI cZ bm pa p0 p1 p2 li wi mt ms ma mp mk mn ou) s.heap.size = A at hD ⊢
  have hA : ∀ q : Nat, s.heap.size ≤ q → A q := fun q h => by rw [← hAe]; exact Or.inr h
  have hS : va_S A s.heap s.heap [] := va_S.rf
  have hl := lv_entry ([.ref (ad 42), .int (nI zr), .int (nI zp)]) (n := 3) (Nat.le_of_ble_eq_true rfl)
  refine W.eq (g2 := entryFrame m ([.ref (ad 42), .int (nI zr), .int (nI zp)] : List Value).toArray 3) (by rw [ha]) ?_
  rw [lg_entry_eq]
  generalize (lg_sl ([.ref (ad 42), .int (nI zr), .int (nI zp)]) ++ List.replicate (3 - (lg_sl ([.ref (ad 42), .int (nI zr), .int (nI zp)])).length) Slot.unset).toArray = ls at hl ⊢
  have hl : lv_has ls 3 [(0, .ref (ad 42)), (1, .int (nI zr)), (2, .int (nI zp))] := hl
  refine lv_aload_n hx hb dX5_low_0 rfl (lv_at hl 0 rfl) ?_
  refine va_get (D := D) (ci := 5) (v := .ref (ad 51)) (C := RX5) (T := TX5) (N := 28) hx hb hts (inT inX5) hown hK hP 42 ww_42 rfl 12 (by decide) (hts (.fieldLink RX5 36 "BoardMovesModel" "y" "[J") (List.mem_cons_of_mem _ flX5_36)) (fun _ h9 => h9) rfl dX5_low_1 ?_
  refine lv_bipush (v := nI 40) hx hb dX5_low_4 (by decide) ?_
  refine lv_iload_n hx hb dX5_low_6 rfl (lv_at hl 1 rfl) ?_
  refine bm_nmul hx hb dX5_low_7 ?_
  refine lv_iload_n hx hb dX5_low_8 rfl (lv_at hl 2 rfl) ?_
  refine bm_nadd hx hb dX5_low_9 ?_
  refine bm_lald (f := mp.2.1) hx hb hK hP 51 0 ww_51 rfl (j := ((40 * zr) + zp)) (by omega) (by decide) dX5_low_10 ?_
  refine lv_topl (fun t_1 _ => ?_)
  exact bm_lretX (v := t_1) hx hb hr hP hD hK hS ⟨rfl, t_1, rfl⟩ dX5_low_11 hlocks

set_option maxHeartbeats 8000000 in
set_option maxRecDepth 100000 in
theorem y_lies {l : Launch} {D : va_G} {ad : Nat → Nat} {cJ cI cZ : ClassId} {bm : gBM} {pa : gPA} {p0 p1 p2 : gPL} {li : gLI} {wi : gWI} {mt : Nat} {ms : gMS} {ma : gMA} {mp : gMP} {mk : gMK} {mn : gMN} {ou : Nat → Int64} {zr : Nat} {zp : Nat} (ok_mp_turns : ∀ i, mp.2.2 i < 40) (hp0 : zr < 3) (hp1 : zp < 40)  : bm_Wx l yX5_lies wsX5_lies ({ frames := 0, cells := 0, slots := 0, locals := 0 }) D vwCl [(cJ, .long), (cI, .int), (cZ, .boolean)] (WW ad cJ cI cZ bm pa p0 p1 p2 li wi mt ms ma mp mk mn ou) [.ref (ad 42), .int (nI zr), .int (nI zp)] (fun ws9 r9 => ws9 = (WW ad cJ cI cZ bm pa p0 p1 p2 li wi mt ms ma mp mk mn ou) ∧ ∃ b9 : Bool, r9 = some (.int (bm_b b9))) := by
  intro sz
  refine Met.ofW (cc := cX5_lies) (maxL := 3) (ret := (some .boolean)) (by decide) rfl ?_
  intro p e s m args below meth c s₁ B hml hv
  obtain ⟨ha, hsz, hP, hK, hD0⟩ := hv
  have hx := B.exec
  have hb := B.bytes
  have hr := B.returns
  have hts := atoms_spec (ws := wsX5_lies) B.pre
  have hown : s.vm.findClass RX5 = some m.cls := findClass_of_methodNamed B.named
  have hlocks := B.notSynchronized
  subst hsz
  have hD := hD0.self (sz := s.heap.size)
  generalize hAe : va_A (WW ad cJ cI cZ bm pa p0 p1 p2 li wi mt ms ma mp mk mn ou) s.heap.size = A at hD ⊢
  have hA : ∀ q : Nat, s.heap.size ≤ q → A q := fun q h => by rw [← hAe]; exact Or.inr h
  have hS : va_S A s.heap s.heap [] := va_S.rf
  have hl := lv_entry ([.ref (ad 42), .int (nI zr), .int (nI zp)]) (n := 3) (Nat.le_of_ble_eq_true rfl)
  refine W.eq (g2 := entryFrame m ([.ref (ad 42), .int (nI zr), .int (nI zp)] : List Value).toArray 3) (by rw [ha]) ?_
  rw [lg_entry_eq]
  generalize (lg_sl ([.ref (ad 42), .int (nI zr), .int (nI zp)]) ++ List.replicate (3 - (lg_sl ([.ref (ad 42), .int (nI zr), .int (nI zp)])).length) Slot.unset).toArray = ls at hl ⊢
  have hl : lv_has ls 3 [(0, .ref (ad 42)), (1, .int (nI zr)), (2, .int (nI zp))] := hl
  refine lv_aload_n hx hb dX5_lies_0 rfl (lv_at hl 0 rfl) ?_
  refine va_get (D := D) (ci := 5) (v := .ref (ad 52)) (C := RX5) (T := TX5) (N := 28) hx hb hts (inT inX5) hown hK hP 42 ww_42 rfl 13 (by decide) (hts (.fieldLink RX5 39 "BoardMovesModel" "turns" "[I") (List.mem_cons_of_mem _ flX5_39)) (fun _ h9 => h9) rfl dX5_lies_1 ?_
  refine lv_bipush (v := nI 40) hx hb dX5_lies_4 (by decide) ?_
  refine lv_iload_n hx hb dX5_lies_6 rfl (lv_at hl 1 rfl) ?_
  refine bm_nmul hx hb dX5_lies_7 ?_
  refine lv_iload_n hx hb dX5_lies_8 rfl (lv_at hl 2 rfl) ?_
  refine bm_nadd hx hb dX5_lies_9 ?_
  refine bm_nald (f := mp.2.2) hx hb hK hP 52 1 ww_52 rfl (j := ((40 * zr) + zp)) (by omega) (by decide) dX5_lies_10 ?_
  refine lv_iconst (v := nI 2) hx hb dX5_lies_11 (by decide) ?_
  refine bm_nrem hx hb (bm40 (ok_mp_turns _)) (by decide) (by decide) dX5_lies_12 ?_
  refine lv_iconst (v := nI 1) hx hb dX5_lies_13 (by decide) ?_
  refine bm_ni_ne (x := ((mp.2.2 ((40 * zr) + zp)) % 2)) (y := 1) (tgt := 21) hx hb (by omega) (by omega) dX5_lies_14 (by decide) (fun c_1 => ?_) (fun c_1 => ?_)
  · refine lv_iconst (v := bm_b false) hx hb dX5_lies_21 (by decide) ?_
    exact bm_zretX (v := false) hx hb hr hP hD hK hS ⟨rfl, false, rfl⟩ dX5_lies_22 hlocks
  · refine lv_iconst (v := bm_b true) hx hb dX5_lies_17 (by decide) ?_
    refine lv_goto (tgt := 22) hx hb dX5_lies_18 (by decide) ?_
    exact bm_zretX (v := true) hx hb hr hP hD hK hS ⟨rfl, true, rfl⟩ dX5_lies_22 hlocks

set_option maxHeartbeats 8000000 in
set_option maxRecDepth 100000 in
theorem y_right {l : Launch} {D : va_G} {ad : Nat → Nat} {cJ cI cZ : ClassId} {bm : gBM} {pa : gPA} {p0 p1 p2 : gPL} {li : gLI} {wi : gWI} {mt : Nat} {ms : gMS} {ma : gMA} {mp : gMP} {mk : gMK} {mn : gMN} {ou : Nat → Int64} {zr : Nat} {zp : Nat} (ok_mp_turns : ∀ i, mp.2.2 i < 40) (hp0 : zr < 3) (hp1 : zp < 40)  : bm_Wx l yX5_right wsX5_right ({ frames := 1, cells := 0, slots := 0, locals := 22 }) D vwCl [(cJ, .long), (cI, .int), (cZ, .boolean)] (WW ad cJ cI cZ bm pa p0 p1 p2 li wi mt ms ma mp mk mn ou) [.ref (ad 42), .int (nI zr), .int (nI zp)] (fun ws9 r9 => ws9 = (WW ad cJ cI cZ bm pa p0 p1 p2 li wi mt ms ma mp mk mn ou) ∧ ∃ v9 : Int64, r9 = some (.long v9)) := by
  intro sz
  refine Met.ofW (cc := cX5_right) (maxL := 3) (ret := (some .long)) (by decide) rfl ?_
  intro p e s m args below meth c s₁ B hml hv
  obtain ⟨ha, hsz, hP, hK, hD0⟩ := hv
  have hx := B.exec
  have hb := B.bytes
  have hr := B.returns
  have hts := atoms_spec (ws := wsX5_right) B.pre
  have hown : s.vm.findClass RX5 = some m.cls := findClass_of_methodNamed B.named
  have hlocks := B.notSynchronized
  subst hsz
  have hD := hD0.self (sz := s.heap.size)
  generalize hAe : va_A (WW ad cJ cI cZ bm pa p0 p1 p2 li wi mt ms ma mp mk mn ou) s.heap.size = A at hD ⊢
  have hA : ∀ q : Nat, s.heap.size ≤ q → A q := fun q h => by rw [← hAe]; exact Or.inr h
  have hS : va_S A s.heap s.heap [] := va_S.rf
  have hl := lv_entry ([.ref (ad 42), .int (nI zr), .int (nI zp)]) (n := 3) (Nat.le_of_ble_eq_true rfl)
  refine W.eq (g2 := entryFrame m ([.ref (ad 42), .int (nI zr), .int (nI zp)] : List Value).toArray 3) (by rw [ha]) ?_
  rw [lg_entry_eq]
  generalize (lg_sl ([.ref (ad 42), .int (nI zr), .int (nI zp)]) ++ List.replicate (3 - (lg_sl ([.ref (ad 42), .int (nI zr), .int (nI zp)])).length) Slot.unset).toArray = ls at hl ⊢
  have hl : lv_has ls 3 [(0, .ref (ad 42)), (1, .int (nI zr)), (2, .int (nI zp))] := hl
  refine lv_aload_n hx hb dX5_right_0 rfl (lv_at hl 0 rfl) ?_
  refine lv_iload_n hx hb dX5_right_1 rfl (lv_at hl 1 rfl) ?_
  refine lv_iload_n hx hb dX5_right_2 rfl (lv_at hl 2 rfl) ?_
  refine bm_xcallV (As := [.int (nI zr), .int (nI zp)]) (rest := []) ⟨hx, hb, hml, hown, hts⟩ (y_left  (zr := zr) (zp := zp)  (by omega) (by omega)) (cwV 2 hts gvX5_92 rfl rfl rfl hvX5_left ⟨Nat.le_of_ble_eq_true rfl, Nat.le_of_ble_eq_true rfl⟩) hK hP hD hS hA 42 5 rfl ww_42 rfl hl.1 rfl (Nat.le_of_ble_eq_true rfl) dX5_right_3 ⟨Nat.le_of_ble_eq_true rfl, Nat.le_of_ble_eq_true rfl⟩ (fun ws_1 r_2 h_3 H locs hP hD hS => ?_)
  obtain ⟨rfl, v_4, rfl⟩ := h_3
  have hP : va_P D vwCl (WW ad cJ cI cZ bm pa p0 p1 p2 li wi mt ms ma mp mk mn ou) H := hP
  have hD : va_D A (WW ad cJ cI cZ bm pa p0 p1 p2 li wi mt ms ma mp mk mn ou) := hD
  refine lv_aload_n hx hb dX5_right_6 rfl (lv_at hl 0 rfl) ?_
  refine lv_iload_n hx hb dX5_right_7 rfl (lv_at hl 1 rfl) ?_
  refine lv_iload_n hx hb dX5_right_8 rfl (lv_at hl 2 rfl) ?_
  refine bm_xcallV (As := [.int (nI zr), .int (nI zp)]) (rest := [.long v_4]) ⟨hx, hb, hml, hown, hts⟩ (y_lies  (zr := zr) (zp := zp) ok_mp_turns (by omega) (by omega)) (cwV 2 hts gvX5_96 rfl rfl rfl hvX5_lies ⟨Nat.le_of_ble_eq_true rfl, Nat.le_of_ble_eq_true rfl⟩) hK hP hD hS hA 42 5 rfl ww_42 rfl hl.1 rfl (Nat.le_of_ble_eq_true rfl) dX5_right_9 ⟨Nat.le_of_ble_eq_true rfl, Nat.le_of_ble_eq_true rfl⟩ (fun ws_5 r_6 h_7 H locs hP hD hS => ?_)
  obtain ⟨rfl, v_8, rfl⟩ := h_7
  have hP : va_P D vwCl (WW ad cJ cI cZ bm pa p0 p1 p2 li wi mt ms ma mp mk mn ou) H := hP
  have hD : va_D A (WW ad cJ cI cZ bm pa p0 p1 p2 li wi mt ms ma mp mk mn ou) := hD
  refine bm_zb_eq (x := v_8) (tgt := 24) hx hb dX5_right_12 (by decide) (fun c_9 => ?_) (fun c_9 => ?_)
  · refine lv_aload_n hx hb dX5_right_24 rfl (lv_at hl 0 rfl) ?_
    refine va_get (D := D) (ci := 5) (v := .ref (ad 43)) (C := RX5) (T := TX5) (N := 28) hx hb hts (inT inX5) hown hK hP 42 ww_42 rfl 4 (by decide) (hts (.fieldLink RX5 7 "BoardMovesModel" "wide" "[J") (List.mem_cons_of_mem _ flX5_7)) (fun _ h9 => h9) rfl dX5_right_25 ?_
    refine lv_iload_n hx hb dX5_right_28 rfl (lv_at hl 2 rfl) ?_
    refine bm_lald (f := ma.1) hx hb hK hP 43 0 ww_43 rfl (j := zp) (by omega) (by decide) dX5_right_29 ?_
    refine lv_topl (fun t_10 _ => ?_)
    refine lv_ladd hx hb dX5_right_30 ?_
    refine lv_topl (fun t_11 _ => ?_)
    exact bm_lretX (v := t_11) hx hb hr hP hD hK hS ⟨rfl, t_11, rfl⟩ dX5_right_31 hlocks
  · refine lv_aload_n hx hb dX5_right_15 rfl (lv_at hl 0 rfl) ?_
    refine va_get (D := D) (ci := 5) (v := .ref (ad 44)) (C := RX5) (T := TX5) (N := 28) hx hb hts (inT inX5) hown hK hP 42 ww_42 rfl 5 (by decide) (hts (.fieldLink RX5 13 "BoardMovesModel" "high" "[J") (List.mem_cons_of_mem _ flX5_13)) (fun _ h9 => h9) rfl dX5_right_16 ?_
    refine lv_iload_n hx hb dX5_right_19 rfl (lv_at hl 2 rfl) ?_
    refine bm_lald (f := ma.2.1) hx hb hK hP 44 0 ww_44 rfl (j := zp) (by omega) (by decide) dX5_right_20 ?_
    refine lv_topl (fun t_12 _ => ?_)
    refine lv_goto (tgt := 30) hx hb dX5_right_21 (by decide) ?_
    refine lv_ladd hx hb dX5_right_30 ?_
    refine lv_topl (fun t_13 _ => ?_)
    exact bm_lretX (v := t_13) hx hb hr hP hD hK hS ⟨rfl, t_13, rfl⟩ dX5_right_31 hlocks

set_option maxHeartbeats 8000000 in
set_option maxRecDepth 100000 in
theorem y_top {l : Launch} {D : va_G} {ad : Nat → Nat} {cJ cI cZ : ClassId} {bm : gBM} {pa : gPA} {p0 p1 p2 : gPL} {li : gLI} {wi : gWI} {mt : Nat} {ms : gMS} {ma : gMA} {mp : gMP} {mk : gMK} {mn : gMN} {ou : Nat → Int64} {zr : Nat} {zp : Nat} (ok_mp_turns : ∀ i, mp.2.2 i < 40) (hp0 : zr < 3) (hp1 : zp < 40)  : bm_Wx l yX5_top wsX5_top ({ frames := 1, cells := 0, slots := 0, locals := 22 }) D vwCl [(cJ, .long), (cI, .int), (cZ, .boolean)] (WW ad cJ cI cZ bm pa p0 p1 p2 li wi mt ms ma mp mk mn ou) [.ref (ad 42), .int (nI zr), .int (nI zp)] (fun ws9 r9 => ws9 = (WW ad cJ cI cZ bm pa p0 p1 p2 li wi mt ms ma mp mk mn ou) ∧ ∃ v9 : Int64, r9 = some (.long v9)) := by
  intro sz
  refine Met.ofW (cc := cX5_top) (maxL := 3) (ret := (some .long)) (by decide) rfl ?_
  intro p e s m args below meth c s₁ B hml hv
  obtain ⟨ha, hsz, hP, hK, hD0⟩ := hv
  have hx := B.exec
  have hb := B.bytes
  have hr := B.returns
  have hts := atoms_spec (ws := wsX5_top) B.pre
  have hown : s.vm.findClass RX5 = some m.cls := findClass_of_methodNamed B.named
  have hlocks := B.notSynchronized
  subst hsz
  have hD := hD0.self (sz := s.heap.size)
  generalize hAe : va_A (WW ad cJ cI cZ bm pa p0 p1 p2 li wi mt ms ma mp mk mn ou) s.heap.size = A at hD ⊢
  have hA : ∀ q : Nat, s.heap.size ≤ q → A q := fun q h => by rw [← hAe]; exact Or.inr h
  have hS : va_S A s.heap s.heap [] := va_S.rf
  have hl := lv_entry ([.ref (ad 42), .int (nI zr), .int (nI zp)]) (n := 3) (Nat.le_of_ble_eq_true rfl)
  refine W.eq (g2 := entryFrame m ([.ref (ad 42), .int (nI zr), .int (nI zp)] : List Value).toArray 3) (by rw [ha]) ?_
  rw [lg_entry_eq]
  generalize (lg_sl ([.ref (ad 42), .int (nI zr), .int (nI zp)]) ++ List.replicate (3 - (lg_sl ([.ref (ad 42), .int (nI zr), .int (nI zp)])).length) Slot.unset).toArray = ls at hl ⊢
  have hl : lv_has ls 3 [(0, .ref (ad 42)), (1, .int (nI zr)), (2, .int (nI zp))] := hl
  refine lv_aload_n hx hb dX5_top_0 rfl (lv_at hl 0 rfl) ?_
  refine lv_iload_n hx hb dX5_top_1 rfl (lv_at hl 1 rfl) ?_
  refine lv_iload_n hx hb dX5_top_2 rfl (lv_at hl 2 rfl) ?_
  refine bm_xcallV (As := [.int (nI zr), .int (nI zp)]) (rest := []) ⟨hx, hb, hml, hown, hts⟩ (y_low  (zr := zr) (zp := zp)  (by omega) (by omega)) (cwV 2 hts gvX5_100 rfl rfl rfl hvX5_low ⟨Nat.le_of_ble_eq_true rfl, Nat.le_of_ble_eq_true rfl⟩) hK hP hD hS hA 42 5 rfl ww_42 rfl hl.1 rfl (Nat.le_of_ble_eq_true rfl) dX5_top_3 ⟨Nat.le_of_ble_eq_true rfl, Nat.le_of_ble_eq_true rfl⟩ (fun ws_1 r_2 h_3 H locs hP hD hS => ?_)
  obtain ⟨rfl, v_4, rfl⟩ := h_3
  have hP : va_P D vwCl (WW ad cJ cI cZ bm pa p0 p1 p2 li wi mt ms ma mp mk mn ou) H := hP
  have hD : va_D A (WW ad cJ cI cZ bm pa p0 p1 p2 li wi mt ms ma mp mk mn ou) := hD
  refine lv_aload_n hx hb dX5_top_6 rfl (lv_at hl 0 rfl) ?_
  refine lv_iload_n hx hb dX5_top_7 rfl (lv_at hl 1 rfl) ?_
  refine lv_iload_n hx hb dX5_top_8 rfl (lv_at hl 2 rfl) ?_
  refine bm_xcallV (As := [.int (nI zr), .int (nI zp)]) (rest := [.long v_4]) ⟨hx, hb, hml, hown, hts⟩ (y_lies  (zr := zr) (zp := zp) ok_mp_turns (by omega) (by omega)) (cwV 2 hts gvX5_96 rfl rfl rfl hvX5_lies ⟨Nat.le_of_ble_eq_true rfl, Nat.le_of_ble_eq_true rfl⟩) hK hP hD hS hA 42 5 rfl ww_42 rfl hl.1 rfl (Nat.le_of_ble_eq_true rfl) dX5_top_9 ⟨Nat.le_of_ble_eq_true rfl, Nat.le_of_ble_eq_true rfl⟩ (fun ws_5 r_6 h_7 H locs hP hD hS => ?_)
  obtain ⟨rfl, v_8, rfl⟩ := h_7
  have hP : va_P D vwCl (WW ad cJ cI cZ bm pa p0 p1 p2 li wi mt ms ma mp mk mn ou) H := hP
  have hD : va_D A (WW ad cJ cI cZ bm pa p0 p1 p2 li wi mt ms ma mp mk mn ou) := hD
  refine bm_zb_eq (x := v_8) (tgt := 24) hx hb dX5_top_12 (by decide) (fun c_9 => ?_) (fun c_9 => ?_)
  · refine lv_aload_n hx hb dX5_top_24 rfl (lv_at hl 0 rfl) ?_
    refine va_get (D := D) (ci := 5) (v := .ref (ad 44)) (C := RX5) (T := TX5) (N := 28) hx hb hts (inT inX5) hown hK hP 42 ww_42 rfl 5 (by decide) (hts (.fieldLink RX5 13 "BoardMovesModel" "high" "[J") (List.mem_cons_of_mem _ flX5_13)) (fun _ h9 => h9) rfl dX5_top_25 ?_
    refine lv_iload_n hx hb dX5_top_28 rfl (lv_at hl 2 rfl) ?_
    refine bm_lald (f := ma.2.1) hx hb hK hP 44 0 ww_44 rfl (j := zp) (by omega) (by decide) dX5_top_29 ?_
    refine lv_topl (fun t_10 _ => ?_)
    refine lv_ladd hx hb dX5_top_30 ?_
    refine lv_topl (fun t_11 _ => ?_)
    exact bm_lretX (v := t_11) hx hb hr hP hD hK hS ⟨rfl, t_11, rfl⟩ dX5_top_31 hlocks
  · refine lv_aload_n hx hb dX5_top_15 rfl (lv_at hl 0 rfl) ?_
    refine va_get (D := D) (ci := 5) (v := .ref (ad 43)) (C := RX5) (T := TX5) (N := 28) hx hb hts (inT inX5) hown hK hP 42 ww_42 rfl 4 (by decide) (hts (.fieldLink RX5 7 "BoardMovesModel" "wide" "[J") (List.mem_cons_of_mem _ flX5_7)) (fun _ h9 => h9) rfl dX5_top_16 ?_
    refine lv_iload_n hx hb dX5_top_19 rfl (lv_at hl 2 rfl) ?_
    refine bm_lald (f := ma.1) hx hb hK hP 43 0 ww_43 rfl (j := zp) (by omega) (by decide) dX5_top_20 ?_
    refine lv_topl (fun t_12 _ => ?_)
    refine lv_goto (tgt := 30) hx hb dX5_top_21 (by decide) ?_
    refine lv_ladd hx hb dX5_top_30 ?_
    refine lv_topl (fun t_13 _ => ?_)
    exact bm_lretX (v := t_13) hx hb hr hP hD hK hS ⟨rfl, t_13, rfl⟩ dX5_top_31 hlocks

set_option maxHeartbeats 8000000 in
set_option maxRecDepth 100000 in
theorem y_overlap {l : Launch} {D : va_G} {ad : Nat → Nat} {cJ cI cZ : ClassId} {bm : gBM} {pa : gPA} {p0 p1 p2 : gPL} {li : gLI} {wi : gWI} {mt : Nat} {ms : gMS} {ma : gMA} {mp : gMP} {mk : gMK} {mn : gMN} {ou : Nat → Int64} {zr : Nat} {zp : Nat} {zq : Nat} (ok_mp_turns : ∀ i, mp.2.2 i < 40) (hp0 : zr < 3) (hp1 : zp < 40) (hp2 : zq < 40)  : bm_Wx l yX5_overlap wsX5_overlap ({ frames := 2, cells := 0, slots := 0, locals := 44 }) D vwCl [(cJ, .long), (cI, .int), (cZ, .boolean)] (WW ad cJ cI cZ bm pa p0 p1 p2 li wi mt ms ma mp mk mn ou) [.ref (ad 42), .int (nI zr), .int (nI zp), .int (nI zq)] (fun ws9 r9 => ws9 = (WW ad cJ cI cZ bm pa p0 p1 p2 li wi mt ms ma mp mk mn ou) ∧ ∃ b9 : Bool, r9 = some (.int (bm_b b9))) := by
  intro sz
  refine Met.ofW (cc := cX5_overlap) (maxL := 4) (ret := (some .boolean)) (by decide) rfl ?_
  intro p e s m args below meth c s₁ B hml hv
  obtain ⟨ha, hsz, hP, hK, hD0⟩ := hv
  have hx := B.exec
  have hb := B.bytes
  have hr := B.returns
  have hts := atoms_spec (ws := wsX5_overlap) B.pre
  have hown : s.vm.findClass RX5 = some m.cls := findClass_of_methodNamed B.named
  have hlocks := B.notSynchronized
  subst hsz
  have hD := hD0.self (sz := s.heap.size)
  generalize hAe : va_A (WW ad cJ cI cZ bm pa p0 p1 p2 li wi mt ms ma mp mk mn ou) s.heap.size = A at hD ⊢
  have hA : ∀ q : Nat, s.heap.size ≤ q → A q := fun q h => by rw [← hAe]; exact Or.inr h
  have hS : va_S A s.heap s.heap [] := va_S.rf
  have hl := lv_entry ([.ref (ad 42), .int (nI zr), .int (nI zp), .int (nI zq)]) (n := 4) (Nat.le_of_ble_eq_true rfl)
  refine W.eq (g2 := entryFrame m ([.ref (ad 42), .int (nI zr), .int (nI zp), .int (nI zq)] : List Value).toArray 4) (by rw [ha]) ?_
  rw [lg_entry_eq]
  generalize (lg_sl ([.ref (ad 42), .int (nI zr), .int (nI zp), .int (nI zq)]) ++ List.replicate (4 - (lg_sl ([.ref (ad 42), .int (nI zr), .int (nI zp), .int (nI zq)])).length) Slot.unset).toArray = ls at hl ⊢
  have hl : lv_has ls 4 [(0, .ref (ad 42)), (1, .int (nI zr)), (2, .int (nI zp)), (3, .int (nI zq))] := hl
  refine lv_aload_n hx hb dX5_overlap_0 rfl (lv_at hl 0 rfl) ?_
  refine lv_iload_n hx hb dX5_overlap_1 rfl (lv_at hl 1 rfl) ?_
  refine lv_iload_n hx hb dX5_overlap_2 rfl (lv_at hl 2 rfl) ?_
  refine bm_xcallV (As := [.int (nI zr), .int (nI zp)]) (rest := []) ⟨hx, hb, hml, hown, hts⟩ (y_left  (zr := zr) (zp := zp)  (by omega) (by omega)) (cwV 2 hts gvX5_92 rfl rfl rfl hvX5_left ⟨Nat.le_of_ble_eq_true rfl, Nat.le_of_ble_eq_true rfl⟩) hK hP hD hS hA 42 5 rfl ww_42 rfl hl.1 rfl (Nat.le_of_ble_eq_true rfl) dX5_overlap_3 ⟨Nat.le_of_ble_eq_true rfl, Nat.le_of_ble_eq_true rfl⟩ (fun ws_1 r_2 h_3 H locs hP hD hS => ?_)
  obtain ⟨rfl, v_4, rfl⟩ := h_3
  have hP : va_P D vwCl (WW ad cJ cI cZ bm pa p0 p1 p2 li wi mt ms ma mp mk mn ou) H := hP
  have hD : va_D A (WW ad cJ cI cZ bm pa p0 p1 p2 li wi mt ms ma mp mk mn ou) := hD
  refine lv_aload_n hx hb dX5_overlap_6 rfl (lv_at hl 0 rfl) ?_
  refine lv_iload_n hx hb dX5_overlap_7 rfl (lv_at hl 1 rfl) ?_
  refine lv_iload_n hx hb dX5_overlap_8 rfl (lv_at hl 3 rfl) ?_
  refine bm_xcallV (As := [.int (nI zr), .int (nI zq)]) (rest := [.long v_4]) ⟨hx, hb, hml, hown, hts⟩ (y_right  (zr := zr) (zp := zq) ok_mp_turns (by omega) (by omega)) (cwV 2 hts gvX5_103 rfl rfl rfl hvX5_right ⟨Nat.le_of_ble_eq_true rfl, Nat.le_of_ble_eq_true rfl⟩) hK hP hD hS hA 42 5 rfl ww_42 rfl hl.1 rfl (Nat.le_of_ble_eq_true rfl) dX5_overlap_9 ⟨Nat.le_of_ble_eq_true rfl, Nat.le_of_ble_eq_true rfl⟩ (fun ws_5 r_6 h_7 H locs hP hD hS => ?_)
  obtain ⟨rfl, v_8, rfl⟩ := h_7
  have hP : va_P D vwCl (WW ad cJ cI cZ bm pa p0 p1 p2 li wi mt ms ma mp mk mn ou) H := hP
  have hD : va_D A (WW ad cJ cI cZ bm pa p0 p1 p2 li wi mt ms ma mp mk mn ou) := hD
  refine bm_lc_ge (x := v_4) (y := v_8) (tgt := 68) hx hb dX5_overlap_12 dX5_overlap_13 (by decide) (fun c_9 => ?_) (fun c_9 => ?_)
  · refine lv_iconst (v := bm_b false) hx hb dX5_overlap_68 (by decide) ?_
    exact bm_zretX (v := false) hx hb hr hP hD hK hS ⟨rfl, false, rfl⟩ dX5_overlap_69 hlocks
  · refine lv_aload_n hx hb dX5_overlap_16 rfl (lv_at hl 0 rfl) ?_
    refine lv_iload_n hx hb dX5_overlap_17 rfl (lv_at hl 1 rfl) ?_
    refine lv_iload_n hx hb dX5_overlap_18 rfl (lv_at hl 3 rfl) ?_
    refine bm_xcallV (As := [.int (nI zr), .int (nI zq)]) (rest := []) ⟨hx, hb, hml, hown, hts⟩ (y_left  (zr := zr) (zp := zq)  (by omega) (by omega)) (cwV 2 hts gvX5_92 rfl rfl rfl hvX5_left ⟨Nat.le_of_ble_eq_true rfl, Nat.le_of_ble_eq_true rfl⟩) hK hP hD hS hA 42 5 rfl ww_42 rfl hl.1 rfl (Nat.le_of_ble_eq_true rfl) dX5_overlap_19 ⟨Nat.le_of_ble_eq_true rfl, Nat.le_of_ble_eq_true rfl⟩ (fun ws_10 r_11 h_12 H locs hP hD hS => ?_)
    obtain ⟨rfl, v_13, rfl⟩ := h_12
    have hP : va_P D vwCl (WW ad cJ cI cZ bm pa p0 p1 p2 li wi mt ms ma mp mk mn ou) H := hP
    have hD : va_D A (WW ad cJ cI cZ bm pa p0 p1 p2 li wi mt ms ma mp mk mn ou) := hD
    refine lv_aload_n hx hb dX5_overlap_22 rfl (lv_at hl 0 rfl) ?_
    refine lv_iload_n hx hb dX5_overlap_23 rfl (lv_at hl 1 rfl) ?_
    refine lv_iload_n hx hb dX5_overlap_24 rfl (lv_at hl 2 rfl) ?_
    refine bm_xcallV (As := [.int (nI zr), .int (nI zp)]) (rest := [.long v_13]) ⟨hx, hb, hml, hown, hts⟩ (y_right  (zr := zr) (zp := zp) ok_mp_turns (by omega) (by omega)) (cwV 2 hts gvX5_103 rfl rfl rfl hvX5_right ⟨Nat.le_of_ble_eq_true rfl, Nat.le_of_ble_eq_true rfl⟩) hK hP hD hS hA 42 5 rfl ww_42 rfl hl.1 rfl (Nat.le_of_ble_eq_true rfl) dX5_overlap_25 ⟨Nat.le_of_ble_eq_true rfl, Nat.le_of_ble_eq_true rfl⟩ (fun ws_14 r_15 h_16 H locs hP hD hS => ?_)
    obtain ⟨rfl, v_17, rfl⟩ := h_16
    have hP : va_P D vwCl (WW ad cJ cI cZ bm pa p0 p1 p2 li wi mt ms ma mp mk mn ou) H := hP
    have hD : va_D A (WW ad cJ cI cZ bm pa p0 p1 p2 li wi mt ms ma mp mk mn ou) := hD
    refine bm_lc_ge (x := v_13) (y := v_17) (tgt := 68) hx hb dX5_overlap_28 dX5_overlap_29 (by decide) (fun c_18 => ?_) (fun c_18 => ?_)
    · refine lv_iconst (v := bm_b false) hx hb dX5_overlap_68 (by decide) ?_
      exact bm_zretX (v := false) hx hb hr hP hD hK hS ⟨rfl, false, rfl⟩ dX5_overlap_69 hlocks
    · refine lv_aload_n hx hb dX5_overlap_32 rfl (lv_at hl 0 rfl) ?_
      refine lv_iload_n hx hb dX5_overlap_33 rfl (lv_at hl 1 rfl) ?_
      refine lv_iload_n hx hb dX5_overlap_34 rfl (lv_at hl 2 rfl) ?_
      refine bm_xcallV (As := [.int (nI zr), .int (nI zp)]) (rest := []) ⟨hx, hb, hml, hown, hts⟩ (y_low  (zr := zr) (zp := zp)  (by omega) (by omega)) (cwV 2 hts gvX5_100 rfl rfl rfl hvX5_low ⟨Nat.le_of_ble_eq_true rfl, Nat.le_of_ble_eq_true rfl⟩) hK hP hD hS hA 42 5 rfl ww_42 rfl hl.1 rfl (Nat.le_of_ble_eq_true rfl) dX5_overlap_35 ⟨Nat.le_of_ble_eq_true rfl, Nat.le_of_ble_eq_true rfl⟩ (fun ws_19 r_20 h_21 H locs hP hD hS => ?_)
      obtain ⟨rfl, v_22, rfl⟩ := h_21
      have hP : va_P D vwCl (WW ad cJ cI cZ bm pa p0 p1 p2 li wi mt ms ma mp mk mn ou) H := hP
      have hD : va_D A (WW ad cJ cI cZ bm pa p0 p1 p2 li wi mt ms ma mp mk mn ou) := hD
      refine lv_aload_n hx hb dX5_overlap_38 rfl (lv_at hl 0 rfl) ?_
      refine lv_iload_n hx hb dX5_overlap_39 rfl (lv_at hl 1 rfl) ?_
      refine lv_iload_n hx hb dX5_overlap_40 rfl (lv_at hl 3 rfl) ?_
      refine bm_xcallV (As := [.int (nI zr), .int (nI zq)]) (rest := [.long v_22]) ⟨hx, hb, hml, hown, hts⟩ (y_top  (zr := zr) (zp := zq) ok_mp_turns (by omega) (by omega)) (cwV 2 hts gvX5_106 rfl rfl rfl hvX5_top ⟨Nat.le_of_ble_eq_true rfl, Nat.le_of_ble_eq_true rfl⟩) hK hP hD hS hA 42 5 rfl ww_42 rfl hl.1 rfl (Nat.le_of_ble_eq_true rfl) dX5_overlap_41 ⟨Nat.le_of_ble_eq_true rfl, Nat.le_of_ble_eq_true rfl⟩ (fun ws_23 r_24 h_25 H locs hP hD hS => ?_)
      obtain ⟨rfl, v_26, rfl⟩ := h_25
      have hP : va_P D vwCl (WW ad cJ cI cZ bm pa p0 p1 p2 li wi mt ms ma mp mk mn ou) H := hP
      have hD : va_D A (WW ad cJ cI cZ bm pa p0 p1 p2 li wi mt ms ma mp mk mn ou) := hD
      refine bm_lc_ge (x := v_22) (y := v_26) (tgt := 68) hx hb dX5_overlap_44 dX5_overlap_45 (by decide) (fun c_27 => ?_) (fun c_27 => ?_)
      · refine lv_iconst (v := bm_b false) hx hb dX5_overlap_68 (by decide) ?_
        exact bm_zretX (v := false) hx hb hr hP hD hK hS ⟨rfl, false, rfl⟩ dX5_overlap_69 hlocks
      · refine lv_aload_n hx hb dX5_overlap_48 rfl (lv_at hl 0 rfl) ?_
        refine lv_iload_n hx hb dX5_overlap_49 rfl (lv_at hl 1 rfl) ?_
        refine lv_iload_n hx hb dX5_overlap_50 rfl (lv_at hl 3 rfl) ?_
        refine bm_xcallV (As := [.int (nI zr), .int (nI zq)]) (rest := []) ⟨hx, hb, hml, hown, hts⟩ (y_low  (zr := zr) (zp := zq)  (by omega) (by omega)) (cwV 2 hts gvX5_100 rfl rfl rfl hvX5_low ⟨Nat.le_of_ble_eq_true rfl, Nat.le_of_ble_eq_true rfl⟩) hK hP hD hS hA 42 5 rfl ww_42 rfl hl.1 rfl (Nat.le_of_ble_eq_true rfl) dX5_overlap_51 ⟨Nat.le_of_ble_eq_true rfl, Nat.le_of_ble_eq_true rfl⟩ (fun ws_28 r_29 h_30 H locs hP hD hS => ?_)
        obtain ⟨rfl, v_31, rfl⟩ := h_30
        have hP : va_P D vwCl (WW ad cJ cI cZ bm pa p0 p1 p2 li wi mt ms ma mp mk mn ou) H := hP
        have hD : va_D A (WW ad cJ cI cZ bm pa p0 p1 p2 li wi mt ms ma mp mk mn ou) := hD
        refine lv_aload_n hx hb dX5_overlap_54 rfl (lv_at hl 0 rfl) ?_
        refine lv_iload_n hx hb dX5_overlap_55 rfl (lv_at hl 1 rfl) ?_
        refine lv_iload_n hx hb dX5_overlap_56 rfl (lv_at hl 2 rfl) ?_
        refine bm_xcallV (As := [.int (nI zr), .int (nI zp)]) (rest := [.long v_31]) ⟨hx, hb, hml, hown, hts⟩ (y_top  (zr := zr) (zp := zp) ok_mp_turns (by omega) (by omega)) (cwV 2 hts gvX5_106 rfl rfl rfl hvX5_top ⟨Nat.le_of_ble_eq_true rfl, Nat.le_of_ble_eq_true rfl⟩) hK hP hD hS hA 42 5 rfl ww_42 rfl hl.1 rfl (Nat.le_of_ble_eq_true rfl) dX5_overlap_57 ⟨Nat.le_of_ble_eq_true rfl, Nat.le_of_ble_eq_true rfl⟩ (fun ws_32 r_33 h_34 H locs hP hD hS => ?_)
        obtain ⟨rfl, v_35, rfl⟩ := h_34
        have hP : va_P D vwCl (WW ad cJ cI cZ bm pa p0 p1 p2 li wi mt ms ma mp mk mn ou) H := hP
        have hD : va_D A (WW ad cJ cI cZ bm pa p0 p1 p2 li wi mt ms ma mp mk mn ou) := hD
        refine bm_lc_ge (x := v_31) (y := v_35) (tgt := 68) hx hb dX5_overlap_60 dX5_overlap_61 (by decide) (fun c_36 => ?_) (fun c_36 => ?_)
        · refine lv_iconst (v := bm_b false) hx hb dX5_overlap_68 (by decide) ?_
          exact bm_zretX (v := false) hx hb hr hP hD hK hS ⟨rfl, false, rfl⟩ dX5_overlap_69 hlocks
        · refine lv_iconst (v := bm_b true) hx hb dX5_overlap_64 (by decide) ?_
          refine lv_goto (tgt := 69) hx hb dX5_overlap_65 (by decide) ?_
          exact bm_zretX (v := true) hx hb hr hP hD hK hS ⟨rfl, true, rfl⟩ dX5_overlap_69 hlocks

set_option maxHeartbeats 8000000 in
set_option maxRecDepth 100000 in
theorem y_onBoard {l : Launch} {D : va_G} {ad : Nat → Nat} {cJ cI cZ : ClassId} {bm : gBM} {pa : gPA} {p0 p1 p2 : gPL} {li : gLI} {wi : gWI} {mt : Nat} {ms : gMS} {ma : gMA} {mp : gMP} {mk : gMK} {mn : gMN} {ou : Nat → Int64} {zr : Nat} {zp : Nat} (ok_mp_turns : ∀ i, mp.2.2 i < 40) (hp0 : zr < 3) (hp1 : zp < 40)  : bm_Wx l yX5_isOnBoard wsX5_isOnBoard ({ frames := 2, cells := 0, slots := 0, locals := 44 }) D vwCl [(cJ, .long), (cI, .int), (cZ, .boolean)] (WW ad cJ cI cZ bm pa p0 p1 p2 li wi mt ms ma mp mk mn ou) [.ref (ad 42), .int (nI zr), .int (nI zp)] (fun ws9 r9 => ws9 = (WW ad cJ cI cZ bm pa p0 p1 p2 li wi mt ms ma mp mk mn ou) ∧ ∃ b9 : Bool, r9 = some (.int (bm_b b9))) := by
  intro sz
  refine Met.ofW (cc := cX5_isOnBoard) (maxL := 7) (ret := (some .boolean)) (by decide) rfl ?_
  intro p e s m args below meth c s₁ B hml hv
  obtain ⟨ha, hsz, hP, hK, hD0⟩ := hv
  have hx := B.exec
  have hb := B.bytes
  have hr := B.returns
  have hts := atoms_spec (ws := wsX5_isOnBoard) B.pre
  have hown : s.vm.findClass RX5 = some m.cls := findClass_of_methodNamed B.named
  have hlocks := B.notSynchronized
  subst hsz
  have hD := hD0.self (sz := s.heap.size)
  generalize hAe : va_A (WW ad cJ cI cZ bm pa p0 p1 p2 li wi mt ms ma mp mk mn ou) s.heap.size = A at hD ⊢
  have hA : ∀ q : Nat, s.heap.size ≤ q → A q := fun q h => by rw [← hAe]; exact Or.inr h
  have hS : va_S A s.heap s.heap [] := va_S.rf
  have hl := lv_entry ([.ref (ad 42), .int (nI zr), .int (nI zp)]) (n := 7) (Nat.le_of_ble_eq_true rfl)
  refine W.eq (g2 := entryFrame m ([.ref (ad 42), .int (nI zr), .int (nI zp)] : List Value).toArray 7) (by rw [ha]) ?_
  rw [lg_entry_eq]
  generalize (lg_sl ([.ref (ad 42), .int (nI zr), .int (nI zp)]) ++ List.replicate (7 - (lg_sl ([.ref (ad 42), .int (nI zr), .int (nI zp)])).length) Slot.unset).toArray = ls at hl ⊢
  have hl : lv_has ls 7 [(0, .ref (ad 42)), (1, .int (nI zr)), (2, .int (nI zp))] := hl
  refine lv_aload_n hx hb dX5_isOnBoard_0 rfl (lv_at hl 0 rfl) ?_
  refine lv_iload_n hx hb dX5_isOnBoard_1 rfl (lv_at hl 1 rfl) ?_
  refine lv_iload_n hx hb dX5_isOnBoard_2 rfl (lv_at hl 2 rfl) ?_
  refine bm_xcallV (As := [.int (nI zr), .int (nI zp)]) (rest := []) ⟨hx, hb, hml, hown, hts⟩ (y_left  (zr := zr) (zp := zp)  (by omega) (by omega)) (cwV 2 hts gvX5_92 rfl rfl rfl hvX5_left ⟨Nat.le_of_ble_eq_true rfl, Nat.le_of_ble_eq_true rfl⟩) hK hP hD hS hA 42 5 rfl ww_42 rfl hl.1 rfl (Nat.le_of_ble_eq_true rfl) dX5_isOnBoard_3 ⟨Nat.le_of_ble_eq_true rfl, Nat.le_of_ble_eq_true rfl⟩ (fun ws_1 r_2 h_3 H locs hP hD hS => ?_)
  obtain ⟨rfl, v_4, rfl⟩ := h_3
  have hP : va_P D vwCl (WW ad cJ cI cZ bm pa p0 p1 p2 li wi mt ms ma mp mk mn ou) H := hP
  have hD : va_D A (WW ad cJ cI cZ bm pa p0 p1 p2 li wi mt ms ma mp mk mn ou) := hD
  refine lv_lstore_n (lv' := [(3, .long v_4), (0, .ref (ad 42)), (1, .int (nI zr)), (2, .int (nI zp))]) hx hb dX5_isOnBoard_6 rfl hl (by decide) rfl (fun ls hl => ?_)
  refine lv_aload_n hx hb dX5_isOnBoard_7 rfl (lv_at hl 1 rfl) ?_
  refine lv_iload_n hx hb dX5_isOnBoard_8 rfl (lv_at hl 2 rfl) ?_
  refine lv_iload_n hx hb dX5_isOnBoard_9 rfl (lv_at hl 3 rfl) ?_
  refine bm_xcallV (As := [.int (nI zr), .int (nI zp)]) (rest := []) ⟨hx, hb, hml, hown, hts⟩ (y_low  (zr := zr) (zp := zp)  (by omega) (by omega)) (cwV 2 hts gvX5_100 rfl rfl rfl hvX5_low ⟨Nat.le_of_ble_eq_true rfl, Nat.le_of_ble_eq_true rfl⟩) hK hP hD hS hA 42 5 rfl ww_42 rfl hl.1 rfl (Nat.le_of_ble_eq_true rfl) dX5_isOnBoard_10 ⟨Nat.le_of_ble_eq_true rfl, Nat.le_of_ble_eq_true rfl⟩ (fun ws_5 r_6 h_7 H locs hP hD hS => ?_)
  obtain ⟨rfl, v_8, rfl⟩ := h_7
  have hP : va_P D vwCl (WW ad cJ cI cZ bm pa p0 p1 p2 li wi mt ms ma mp mk mn ou) H := hP
  have hD : va_D A (WW ad cJ cI cZ bm pa p0 p1 p2 li wi mt ms ma mp mk mn ou) := hD
  refine lv_lstore (lv' := [(5, .long v_8), (3, .long v_4), (0, .ref (ad 42)), (1, .int (nI zr)), (2, .int (nI zp))]) hx hb dX5_isOnBoard_13 hl (by decide) rfl (fun ls hl => ?_)
  refine lv_lload_n hx hb dX5_isOnBoard_15 rfl (lv_at hl 1 rfl) ?_
  refine lv_lconst (v := 0) hx hb dX5_isOnBoard_16 (by decide) ?_
  refine bm_lc_lt (x := v_4) (y := 0) (tgt := 79) hx hb dX5_isOnBoard_17 dX5_isOnBoard_18 (by decide) (fun c_9 => ?_) (fun c_9 => ?_)
  · refine lv_iconst (v := bm_b false) hx hb dX5_isOnBoard_79 (by decide) ?_
    exact bm_zretX (v := false) hx hb hr hP hD hK hS ⟨rfl, false, rfl⟩ dX5_isOnBoard_80 hlocks
  · refine lv_lload_n hx hb dX5_isOnBoard_21 rfl (lv_at hl 1 rfl) ?_
    refine lv_aload_n hx hb dX5_isOnBoard_22 rfl (lv_at hl 2 rfl) ?_
    refine va_get (D := D) (ci := 5) (v := .long ms.1) (C := RX5) (T := TX5) (N := 28) hx hb hts (inT inX5) hown hK hP 42 ww_42 rfl 1 (by decide) (hts (.fieldLink RX5 71 "BoardMovesModel" "width" "J") (List.mem_cons_of_mem _ flX5_71)) (fun _ h9 => h9) rfl dX5_isOnBoard_23 ?_
    refine bm_lc_gt (x := v_4) (y := ms.1) (tgt := 79) hx hb dX5_isOnBoard_26 dX5_isOnBoard_27 (by decide) (fun c_10 => ?_) (fun c_10 => ?_)
    · refine lv_iconst (v := bm_b false) hx hb dX5_isOnBoard_79 (by decide) ?_
      exact bm_zretX (v := false) hx hb hr hP hD hK hS ⟨rfl, false, rfl⟩ dX5_isOnBoard_80 hlocks
    · refine lv_aload_n hx hb dX5_isOnBoard_30 rfl (lv_at hl 2 rfl) ?_
      refine lv_iload_n hx hb dX5_isOnBoard_31 rfl (lv_at hl 3 rfl) ?_
      refine lv_iload_n hx hb dX5_isOnBoard_32 rfl (lv_at hl 4 rfl) ?_
      refine bm_xcallV (As := [.int (nI zr), .int (nI zp)]) (rest := []) ⟨hx, hb, hml, hown, hts⟩ (y_right  (zr := zr) (zp := zp) ok_mp_turns (by omega) (by omega)) (cwV 2 hts gvX5_103 rfl rfl rfl hvX5_right ⟨Nat.le_of_ble_eq_true rfl, Nat.le_of_ble_eq_true rfl⟩) hK hP hD hS hA 42 5 rfl ww_42 rfl hl.1 rfl (Nat.le_of_ble_eq_true rfl) dX5_isOnBoard_33 ⟨Nat.le_of_ble_eq_true rfl, Nat.le_of_ble_eq_true rfl⟩ (fun ws_11 r_12 h_13 H locs hP hD hS => ?_)
      obtain ⟨rfl, v_14, rfl⟩ := h_13
      have hP : va_P D vwCl (WW ad cJ cI cZ bm pa p0 p1 p2 li wi mt ms ma mp mk mn ou) H := hP
      have hD : va_D A (WW ad cJ cI cZ bm pa p0 p1 p2 li wi mt ms ma mp mk mn ou) := hD
      refine lv_aload_n hx hb dX5_isOnBoard_36 rfl (lv_at hl 2 rfl) ?_
      refine va_get (D := D) (ci := 5) (v := .long ms.1) (C := RX5) (T := TX5) (N := 28) hx hb hts (inT inX5) hown hK hP 42 ww_42 rfl 1 (by decide) (hts (.fieldLink RX5 71 "BoardMovesModel" "width" "J") (List.mem_cons_of_mem _ flX5_71)) (fun _ h9 => h9) rfl dX5_isOnBoard_37 ?_
      refine bm_lc_gt (x := v_14) (y := ms.1) (tgt := 79) hx hb dX5_isOnBoard_40 dX5_isOnBoard_41 (by decide) (fun c_15 => ?_) (fun c_15 => ?_)
      · refine lv_iconst (v := bm_b false) hx hb dX5_isOnBoard_79 (by decide) ?_
        exact bm_zretX (v := false) hx hb hr hP hD hK hS ⟨rfl, false, rfl⟩ dX5_isOnBoard_80 hlocks
      · refine lv_lload hx hb dX5_isOnBoard_44 (lv_at hl 0 rfl) ?_
        refine lv_lconst (v := 0) hx hb dX5_isOnBoard_46 (by decide) ?_
        refine bm_lc_lt (x := v_8) (y := 0) (tgt := 79) hx hb dX5_isOnBoard_47 dX5_isOnBoard_48 (by decide) (fun c_16 => ?_) (fun c_16 => ?_)
        · refine lv_iconst (v := bm_b false) hx hb dX5_isOnBoard_79 (by decide) ?_
          exact bm_zretX (v := false) hx hb hr hP hD hK hS ⟨rfl, false, rfl⟩ dX5_isOnBoard_80 hlocks
        · refine lv_lload hx hb dX5_isOnBoard_51 (lv_at hl 0 rfl) ?_
          refine lv_aload_n hx hb dX5_isOnBoard_53 rfl (lv_at hl 2 rfl) ?_
          refine va_get (D := D) (ci := 5) (v := .long ms.2.1) (C := RX5) (T := TX5) (N := 28) hx hb hts (inT inX5) hown hK hP 42 ww_42 rfl 2 (by decide) (hts (.fieldLink RX5 75 "BoardMovesModel" "height" "J") (List.mem_cons_of_mem _ flX5_75)) (fun _ h9 => h9) rfl dX5_isOnBoard_54 ?_
          refine bm_lc_gt (x := v_8) (y := ms.2.1) (tgt := 79) hx hb dX5_isOnBoard_57 dX5_isOnBoard_58 (by decide) (fun c_17 => ?_) (fun c_17 => ?_)
          · refine lv_iconst (v := bm_b false) hx hb dX5_isOnBoard_79 (by decide) ?_
            exact bm_zretX (v := false) hx hb hr hP hD hK hS ⟨rfl, false, rfl⟩ dX5_isOnBoard_80 hlocks
          · refine lv_aload_n hx hb dX5_isOnBoard_61 rfl (lv_at hl 2 rfl) ?_
            refine lv_iload_n hx hb dX5_isOnBoard_62 rfl (lv_at hl 3 rfl) ?_
            refine lv_iload_n hx hb dX5_isOnBoard_63 rfl (lv_at hl 4 rfl) ?_
            refine bm_xcallV (As := [.int (nI zr), .int (nI zp)]) (rest := []) ⟨hx, hb, hml, hown, hts⟩ (y_top  (zr := zr) (zp := zp) ok_mp_turns (by omega) (by omega)) (cwV 2 hts gvX5_106 rfl rfl rfl hvX5_top ⟨Nat.le_of_ble_eq_true rfl, Nat.le_of_ble_eq_true rfl⟩) hK hP hD hS hA 42 5 rfl ww_42 rfl hl.1 rfl (Nat.le_of_ble_eq_true rfl) dX5_isOnBoard_64 ⟨Nat.le_of_ble_eq_true rfl, Nat.le_of_ble_eq_true rfl⟩ (fun ws_18 r_19 h_20 H locs hP hD hS => ?_)
            obtain ⟨rfl, v_21, rfl⟩ := h_20
            have hP : va_P D vwCl (WW ad cJ cI cZ bm pa p0 p1 p2 li wi mt ms ma mp mk mn ou) H := hP
            have hD : va_D A (WW ad cJ cI cZ bm pa p0 p1 p2 li wi mt ms ma mp mk mn ou) := hD
            refine lv_aload_n hx hb dX5_isOnBoard_67 rfl (lv_at hl 2 rfl) ?_
            refine va_get (D := D) (ci := 5) (v := .long ms.2.1) (C := RX5) (T := TX5) (N := 28) hx hb hts (inT inX5) hown hK hP 42 ww_42 rfl 2 (by decide) (hts (.fieldLink RX5 75 "BoardMovesModel" "height" "J") (List.mem_cons_of_mem _ flX5_75)) (fun _ h9 => h9) rfl dX5_isOnBoard_68 ?_
            refine bm_lc_gt (x := v_21) (y := ms.2.1) (tgt := 79) hx hb dX5_isOnBoard_71 dX5_isOnBoard_72 (by decide) (fun c_22 => ?_) (fun c_22 => ?_)
            · refine lv_iconst (v := bm_b false) hx hb dX5_isOnBoard_79 (by decide) ?_
              exact bm_zretX (v := false) hx hb hr hP hD hK hS ⟨rfl, false, rfl⟩ dX5_isOnBoard_80 hlocks
            · refine lv_iconst (v := bm_b true) hx hb dX5_isOnBoard_75 (by decide) ?_
              refine lv_goto (tgt := 80) hx hb dX5_isOnBoard_76 (by decide) ?_
              exact bm_zretX (v := true) hx hb hr hP hD hK hS ⟨rfl, true, rfl⟩ dX5_isOnBoard_80 hlocks
