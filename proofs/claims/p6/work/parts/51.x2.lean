set_option maxHeartbeats 8000000 in
set_option maxRecDepth 100000 in
theorem x_differs {l : Launch} {D : va_G} {ad : Nat → Nat} {cJ cI cZ : ClassId} {bm : gBM} {pa : gPA} {p0 p1 p2 : gPL} {li : gLI} {wi : gWI} {mt : Nat} {ms : gMS} {ma : gMA} {mp : gMP} {mk : gMK} {mn : gMN} {ou : Nat → Int64} {zj : Nat} (ok_p0_turn : ∀ i, p0.2.2.1 i < 40) (ok_p1_turn : ∀ i, p1.2.2.1 i < 40) (hp0 : zj < 40)  : bm_Wx l yX2_differs wsX2_differs ({ frames := 0, cells := 0, slots := 0, locals := 0 }) D vwCl [(cJ, .long), (cI, .int), (cZ, .boolean)] (WW ad cJ cI cZ bm pa p0 p1 p2 li wi mt ms ma mp mk mn ou) [.ref (ad 8), .ref (ad 13), .int (nI zj)] (fun ws9 r9 => ws9 = (WW ad cJ cI cZ bm pa p0 p1 p2 li wi mt ms ma mp mk mn ou) ∧ ∃ b9 : Bool, r9 = some (.int (bm_b b9))) := by
  intro sz
  refine Met.ofW (cc := cX2_differs) (maxL := 3) (ret := (some .boolean)) (by decide) rfl ?_
  intro p e s m args below meth c s₁ B hml hv
  obtain ⟨ha, hsz, hP, hK, hD0⟩ := hv
  have hx := B.exec
  have hb := B.bytes
  have hr := B.returns
  have hts := atoms_spec (ws := wsX2_differs) B.pre
  have hown : s.vm.findClass RX2 = some m.cls := findClass_of_methodNamed B.named
  have hlocks := B.notSynchronized
  subst hsz
  have hD := hD0.self (sz := s.heap.size)
  generalize hAe : va_A (WW ad cJ cI cZ bm pa p0 p1 p2 li wi mt ms ma mp mk mn ou) s.heap.size = A at hD ⊢
  have hA : ∀ q : Nat, s.heap.size ≤ q → A q := fun q h => by rw [← hAe]; exact Or.inr h
  have hS : va_S A s.heap s.heap [] := va_S.rf
  have hl := lv_entry ([.ref (ad 8), .ref (ad 13), .int (nI zj)]) (n := 3) (Nat.le_of_ble_eq_true rfl)
  refine W.eq (g2 := entryFrame m ([.ref (ad 8), .ref (ad 13), .int (nI zj)] : List Value).toArray 3) (by rw [ha]) ?_
  rw [lg_entry_eq]
  generalize (lg_sl ([.ref (ad 8), .ref (ad 13), .int (nI zj)]) ++ List.replicate (3 - (lg_sl ([.ref (ad 8), .ref (ad 13), .int (nI zj)])).length) Slot.unset).toArray = ls at hl ⊢
  have hl : lv_has ls 3 [(0, .ref (ad 8)), (1, .ref (ad 13)), (2, .int (nI zj))] := hl
  refine lv_aload_n hx hb dX2_differs_0 rfl (lv_at hl 0 rfl) ?_
  refine va_get (D := D) (ci := 2) (v := .ref (ad 9)) (C := RX2) (T := TX2) (N := 5) hx hb hts (inT inX2) hown hK hP 8 ww_8 rfl 1 (by decide) (hts (.fieldLink RX2 9 "BoardMoves$Placement" "x" "[J") (List.mem_cons_of_mem _ flX2_9)) (fun _ h9 => h9) rfl dX2_differs_1 ?_
  refine lv_iload_n hx hb dX2_differs_4 rfl (lv_at hl 2 rfl) ?_
  refine bm_lald (f := p0.1) hx hb hK hP 9 0 ww_9 rfl (j := zj) (by omega) (by decide) dX2_differs_5 ?_
  refine lv_topl (fun t_1 _ => ?_)
  refine lv_aload_n hx hb dX2_differs_6 rfl (lv_at hl 1 rfl) ?_
  refine va_get (D := D) (ci := 2) (v := .ref (ad 14)) (C := RX2) (T := TX2) (N := 5) hx hb hts (inT inX2) hown hK hP 13 ww_13 rfl 1 (by decide) (hts (.fieldLink RX2 9 "BoardMoves$Placement" "x" "[J") (List.mem_cons_of_mem _ flX2_9)) (fun _ h9 => h9) rfl dX2_differs_7 ?_
  refine lv_iload_n hx hb dX2_differs_10 rfl (lv_at hl 2 rfl) ?_
  refine bm_lald (f := p1.1) hx hb hK hP 14 0 ww_14 rfl (j := zj) (by omega) (by decide) dX2_differs_11 ?_
  refine lv_topl (fun t_2 _ => ?_)
  refine bm_lc_ne (x := t_1) (y := t_2) (tgt := 62) hx hb dX2_differs_12 dX2_differs_13 (by decide) (fun c_3 => ?_) (fun c_3 => ?_)
  · refine lv_iconst (v := bm_b true) hx hb dX2_differs_62 (by decide) ?_
    refine lv_goto (tgt := 67) hx hb dX2_differs_63 (by decide) ?_
    exact bm_zretX (v := true) hx hb hr hP hD hK hS ⟨rfl, true, rfl⟩ dX2_differs_67 hlocks
  · refine lv_aload_n hx hb dX2_differs_16 rfl (lv_at hl 0 rfl) ?_
    refine va_get (D := D) (ci := 2) (v := .ref (ad 10)) (C := RX2) (T := TX2) (N := 5) hx hb hts (inT inX2) hown hK hP 8 ww_8 rfl 2 (by decide) (hts (.fieldLink RX2 15 "BoardMoves$Placement" "y" "[J") (List.mem_cons_of_mem _ flX2_15)) (fun _ h9 => h9) rfl dX2_differs_17 ?_
    refine lv_iload_n hx hb dX2_differs_20 rfl (lv_at hl 2 rfl) ?_
    refine bm_lald (f := p0.2.1) hx hb hK hP 10 0 ww_10 rfl (j := zj) (by omega) (by decide) dX2_differs_21 ?_
    refine lv_topl (fun t_4 _ => ?_)
    refine lv_aload_n hx hb dX2_differs_22 rfl (lv_at hl 1 rfl) ?_
    refine va_get (D := D) (ci := 2) (v := .ref (ad 15)) (C := RX2) (T := TX2) (N := 5) hx hb hts (inT inX2) hown hK hP 13 ww_13 rfl 2 (by decide) (hts (.fieldLink RX2 15 "BoardMoves$Placement" "y" "[J") (List.mem_cons_of_mem _ flX2_15)) (fun _ h9 => h9) rfl dX2_differs_23 ?_
    refine lv_iload_n hx hb dX2_differs_26 rfl (lv_at hl 2 rfl) ?_
    refine bm_lald (f := p1.2.1) hx hb hK hP 15 0 ww_15 rfl (j := zj) (by omega) (by decide) dX2_differs_27 ?_
    refine lv_topl (fun t_5 _ => ?_)
    refine bm_lc_ne (x := t_4) (y := t_5) (tgt := 62) hx hb dX2_differs_28 dX2_differs_29 (by decide) (fun c_6 => ?_) (fun c_6 => ?_)
    · refine lv_iconst (v := bm_b true) hx hb dX2_differs_62 (by decide) ?_
      refine lv_goto (tgt := 67) hx hb dX2_differs_63 (by decide) ?_
      exact bm_zretX (v := true) hx hb hr hP hD hK hS ⟨rfl, true, rfl⟩ dX2_differs_67 hlocks
    · refine lv_aload_n hx hb dX2_differs_32 rfl (lv_at hl 0 rfl) ?_
      refine va_get (D := D) (ci := 2) (v := .ref (ad 11)) (C := RX2) (T := TX2) (N := 5) hx hb hts (inT inX2) hown hK hP 8 ww_8 rfl 3 (by decide) (hts (.fieldLink RX2 18 "BoardMoves$Placement" "turn" "[I") (List.mem_cons_of_mem _ flX2_18)) (fun _ h9 => h9) rfl dX2_differs_33 ?_
      refine lv_iload_n hx hb dX2_differs_36 rfl (lv_at hl 2 rfl) ?_
      refine bm_nald (f := p0.2.2.1) hx hb hK hP 11 1 ww_11 rfl (j := zj) (by omega) (by decide) dX2_differs_37 ?_
      refine lv_aload_n hx hb dX2_differs_38 rfl (lv_at hl 1 rfl) ?_
      refine va_get (D := D) (ci := 2) (v := .ref (ad 16)) (C := RX2) (T := TX2) (N := 5) hx hb hts (inT inX2) hown hK hP 13 ww_13 rfl 3 (by decide) (hts (.fieldLink RX2 18 "BoardMoves$Placement" "turn" "[I") (List.mem_cons_of_mem _ flX2_18)) (fun _ h9 => h9) rfl dX2_differs_39 ?_
      refine lv_iload_n hx hb dX2_differs_42 rfl (lv_at hl 2 rfl) ?_
      refine bm_nald (f := p1.2.2.1) hx hb hK hP 16 1 ww_16 rfl (j := zj) (by omega) (by decide) dX2_differs_43 ?_
      refine bm_ni_ne (x := (p0.2.2.1 zj)) (y := (p1.2.2.1 zj)) (tgt := 62) hx hb (bm40 (ok_p0_turn _)) (bm40 (ok_p1_turn _)) dX2_differs_44 (by decide) (fun c_7 => ?_) (fun c_7 => ?_)
      · refine lv_iconst (v := bm_b true) hx hb dX2_differs_62 (by decide) ?_
        refine lv_goto (tgt := 67) hx hb dX2_differs_63 (by decide) ?_
        exact bm_zretX (v := true) hx hb hr hP hD hK hS ⟨rfl, true, rfl⟩ dX2_differs_67 hlocks
      · refine lv_aload_n hx hb dX2_differs_47 rfl (lv_at hl 0 rfl) ?_
        refine va_get (D := D) (ci := 2) (v := .ref (ad 12)) (C := RX2) (T := TX2) (N := 5) hx hb hts (inT inX2) hown hK hP 8 ww_8 rfl 4 (by decide) (hts (.fieldLink RX2 22 "BoardMoves$Placement" "placed" "[Z") (List.mem_cons_of_mem _ flX2_22)) (fun _ h9 => h9) rfl dX2_differs_48 ?_
        refine lv_iload_n hx hb dX2_differs_51 rfl (lv_at hl 2 rfl) ?_
        refine bm_zald (f := p0.2.2.2) hx hb hK hP 12 2 ww_12 rfl (j := zj) (by omega) (by decide) dX2_differs_52 ?_
        refine lv_aload_n hx hb dX2_differs_53 rfl (lv_at hl 1 rfl) ?_
        refine va_get (D := D) (ci := 2) (v := .ref (ad 17)) (C := RX2) (T := TX2) (N := 5) hx hb hts (inT inX2) hown hK hP 13 ww_13 rfl 4 (by decide) (hts (.fieldLink RX2 22 "BoardMoves$Placement" "placed" "[Z") (List.mem_cons_of_mem _ flX2_22)) (fun _ h9 => h9) rfl dX2_differs_54 ?_
        refine lv_iload_n hx hb dX2_differs_57 rfl (lv_at hl 2 rfl) ?_
        refine bm_zald (f := p1.2.2.2) hx hb hK hP 17 2 ww_17 rfl (j := zj) (by omega) (by decide) dX2_differs_58 ?_
        refine bm_bb_eq (x := (p0.2.2.2 zj)) (y := (p1.2.2.2 zj)) (tgt := 66) hx hb dX2_differs_59 (by decide) (fun c_8 => ?_) (fun c_8 => ?_)
        · refine lv_iconst (v := bm_b false) hx hb dX2_differs_66 (by decide) ?_
          exact bm_zretX (v := false) hx hb hr hP hD hK hS ⟨rfl, false, rfl⟩ dX2_differs_67 hlocks
        · refine lv_iconst (v := bm_b true) hx hb dX2_differs_62 (by decide) ?_
          refine lv_goto (tgt := 67) hx hb dX2_differs_63 (by decide) ?_
          exact bm_zretX (v := true) hx hb hr hP hD hK hS ⟨rfl, true, rfl⟩ dX2_differs_67 hlocks

set_option maxHeartbeats 8000000 in
set_option maxRecDepth 100000 in
theorem x_way {l : Launch} {D : va_G} {ad : Nat → Nat} {cJ cI cZ : ClassId} {bm : gBM} {pa : gPA} {p0 p1 p2 : gPL} {li : gLI} {wi : gWI} {mt : Nat} {ms : gMS} {ma : gMA} {mp : gMP} {mk : gMK} {mn : gMN} {ou : Nat → Int64} {za : Nat} {zb : Nat} {zx : Bool} {zu : Bool} (ok_p0_turn : ∀ i, p0.2.2.1 i < 40) (hp0 : za < 40) (hp1 : zb < 40)  : bm_Wx l yX2_wayToBorder wsX2_wayToBorder ({ frames := 1, cells := 0, slots := 0, locals := 21 }) D vwCl [(cJ, .long), (cI, .int), (cZ, .boolean)] (WW ad cJ cI cZ bm pa p0 p1 p2 li wi mt ms ma mp mk mn ou) [.ref (ad 8), .int (nI za), .int (nI zb), .int (bm_b zx), .int (bm_b zu)] (fun ws9 r9 => ws9 = (WW ad cJ cI cZ bm pa p0 p1 p2 li wi mt ms ma mp mk mn ou) ∧ ∃ v9 : Int64, r9 = some (.long v9)) := by
  intro sz
  refine Met.ofW (cc := cX2_wayToBorder) (maxL := 5) (ret := (some .long)) (by decide) rfl ?_
  intro p e s m args below meth c s₁ B hml hv
  obtain ⟨ha, hsz, hP, hK, hD0⟩ := hv
  have hx := B.exec
  have hb := B.bytes
  have hr := B.returns
  have hts := atoms_spec (ws := wsX2_wayToBorder) B.pre
  have hown : s.vm.findClass RX2 = some m.cls := findClass_of_methodNamed B.named
  have hlocks := B.notSynchronized
  subst hsz
  have hD := hD0.self (sz := s.heap.size)
  generalize hAe : va_A (WW ad cJ cI cZ bm pa p0 p1 p2 li wi mt ms ma mp mk mn ou) s.heap.size = A at hD ⊢
  have hA : ∀ q : Nat, s.heap.size ≤ q → A q := fun q h => by rw [← hAe]; exact Or.inr h
  have hS : va_S A s.heap s.heap [] := va_S.rf
  have hl := lv_entry ([.ref (ad 8), .int (nI za), .int (nI zb), .int (bm_b zx), .int (bm_b zu)]) (n := 5) (Nat.le_of_ble_eq_true rfl)
  refine W.eq (g2 := entryFrame m ([.ref (ad 8), .int (nI za), .int (nI zb), .int (bm_b zx), .int (bm_b zu)] : List Value).toArray 5) (by rw [ha]) ?_
  rw [lg_entry_eq]
  generalize (lg_sl ([.ref (ad 8), .int (nI za), .int (nI zb), .int (bm_b zx), .int (bm_b zu)]) ++ List.replicate (5 - (lg_sl ([.ref (ad 8), .int (nI za), .int (nI zb), .int (bm_b zx), .int (bm_b zu)])).length) Slot.unset).toArray = ls at hl ⊢
  have hl : lv_has ls 5 [(0, .ref (ad 8)), (1, .int (nI za)), (2, .int (nI zb)), (3, .int (bm_b zx)), (4, .int (bm_b zu))] := hl
  refine lv_iload_n hx hb dX2_wayToBorder_0 rfl (lv_at hl 3 rfl) ?_
  refine bm_zb_eq (x := zx) (tgt := 37) hx hb dX2_wayToBorder_1 (by decide) (fun c_1 => ?_) (fun c_1 => ?_)
  · refine lv_iload hx hb dX2_wayToBorder_37 (lv_at hl 4 rfl) ?_
    refine bm_zb_eq (x := zu) (tgt := 57) hx hb dX2_wayToBorder_39 (by decide) (fun c_2 => ?_) (fun c_2 => ?_)
    · refine lv_aload_n hx hb dX2_wayToBorder_57 rfl (lv_at hl 0 rfl) ?_
      refine va_get (D := D) (ci := 2) (v := .ref (ad 10)) (C := RX2) (T := TX2) (N := 5) hx hb hts (inT inX2) hown hK hP 8 ww_8 rfl 2 (by decide) (hts (.fieldLink RX2 15 "BoardMoves$Placement" "y" "[J") (List.mem_cons_of_mem _ flX2_15)) (fun _ h9 => h9) rfl dX2_wayToBorder_58 ?_
      refine lv_iload_n hx hb dX2_wayToBorder_61 rfl (lv_at hl 2 rfl) ?_
      refine bm_lald (f := p0.2.1) hx hb hK hP 10 0 ww_10 rfl (j := zb) (by omega) (by decide) dX2_wayToBorder_62 ?_
      refine lv_topl (fun t_3 _ => ?_)
      refine lv_aload_n hx hb dX2_wayToBorder_63 rfl (lv_at hl 0 rfl) ?_
      refine lv_iload_n hx hb dX2_wayToBorder_64 rfl (lv_at hl 1 rfl) ?_
      refine bm_xcallV (As := [.int (nI za)]) (rest := [.long t_3]) ⟨hx, hb, hml, hown, hts⟩ (x_endY  (zj := za) ok_p0_turn (by omega)) (cwV 1 hts gvX2_50 rfl rfl rfl hvX2_endY ⟨Nat.le_of_ble_eq_true rfl, Nat.le_of_ble_eq_true rfl⟩) hK hP hD hS hA 8 2 rfl ww_8 rfl hl.1 rfl (Nat.le_of_ble_eq_true rfl) dX2_wayToBorder_65 ⟨Nat.le_of_ble_eq_true rfl, Nat.le_of_ble_eq_true rfl⟩ (fun ws_4 r_5 h_6 H locs hP hD hS => ?_)
      obtain ⟨rfl, v_7, rfl⟩ := h_6
      have hP : va_P D vwCl (WW ad cJ cI cZ bm pa p0 p1 p2 li wi mt ms ma mp mk mn ou) H := hP
      have hD : va_D A (WW ad cJ cI cZ bm pa p0 p1 p2 li wi mt ms ma mp mk mn ou) := hD
      refine lv_lsub hx hb dX2_wayToBorder_68 ?_
      refine lv_topl (fun t_8 _ => ?_)
      exact bm_lretX (v := t_8) hx hb hr hP hD hK hS ⟨rfl, t_8, rfl⟩ dX2_wayToBorder_69 hlocks
    · refine lv_aload_n hx hb dX2_wayToBorder_42 rfl (lv_at hl 0 rfl) ?_
      refine lv_iload_n hx hb dX2_wayToBorder_43 rfl (lv_at hl 2 rfl) ?_
      refine bm_xcallV (As := [.int (nI zb)]) (rest := []) ⟨hx, hb, hml, hown, hts⟩ (x_endY  (zj := zb) ok_p0_turn (by omega)) (cwV 1 hts gvX2_50 rfl rfl rfl hvX2_endY ⟨Nat.le_of_ble_eq_true rfl, Nat.le_of_ble_eq_true rfl⟩) hK hP hD hS hA 8 2 rfl ww_8 rfl hl.1 rfl (Nat.le_of_ble_eq_true rfl) dX2_wayToBorder_44 ⟨Nat.le_of_ble_eq_true rfl, Nat.le_of_ble_eq_true rfl⟩ (fun ws_9 r_10 h_11 H locs hP hD hS => ?_)
      obtain ⟨rfl, v_12, rfl⟩ := h_11
      have hP : va_P D vwCl (WW ad cJ cI cZ bm pa p0 p1 p2 li wi mt ms ma mp mk mn ou) H := hP
      have hD : va_D A (WW ad cJ cI cZ bm pa p0 p1 p2 li wi mt ms ma mp mk mn ou) := hD
      refine lv_aload_n hx hb dX2_wayToBorder_47 rfl (lv_at hl 0 rfl) ?_
      refine va_get (D := D) (ci := 2) (v := .ref (ad 10)) (C := RX2) (T := TX2) (N := 5) hx hb hts (inT inX2) hown hK hP 8 ww_8 rfl 2 (by decide) (hts (.fieldLink RX2 15 "BoardMoves$Placement" "y" "[J") (List.mem_cons_of_mem _ flX2_15)) (fun _ h9 => h9) rfl dX2_wayToBorder_48 ?_
      refine lv_iload_n hx hb dX2_wayToBorder_51 rfl (lv_at hl 1 rfl) ?_
      refine bm_lald (f := p0.2.1) hx hb hK hP 10 0 ww_10 rfl (j := za) (by omega) (by decide) dX2_wayToBorder_52 ?_
      refine lv_topl (fun t_13 _ => ?_)
      refine lv_lsub hx hb dX2_wayToBorder_53 ?_
      refine lv_topl (fun t_14 _ => ?_)
      refine lv_goto (tgt := 69) hx hb dX2_wayToBorder_54 (by decide) ?_
      exact bm_lretX (v := t_14) hx hb hr hP hD hK hS ⟨rfl, t_14, rfl⟩ dX2_wayToBorder_69 hlocks
  · refine lv_iload hx hb dX2_wayToBorder_4 (lv_at hl 4 rfl) ?_
    refine bm_zb_eq (x := zu) (tgt := 24) hx hb dX2_wayToBorder_6 (by decide) (fun c_15 => ?_) (fun c_15 => ?_)
    · refine lv_aload_n hx hb dX2_wayToBorder_24 rfl (lv_at hl 0 rfl) ?_
      refine va_get (D := D) (ci := 2) (v := .ref (ad 9)) (C := RX2) (T := TX2) (N := 5) hx hb hts (inT inX2) hown hK hP 8 ww_8 rfl 1 (by decide) (hts (.fieldLink RX2 9 "BoardMoves$Placement" "x" "[J") (List.mem_cons_of_mem _ flX2_9)) (fun _ h9 => h9) rfl dX2_wayToBorder_25 ?_
      refine lv_iload_n hx hb dX2_wayToBorder_28 rfl (lv_at hl 2 rfl) ?_
      refine bm_lald (f := p0.1) hx hb hK hP 9 0 ww_9 rfl (j := zb) (by omega) (by decide) dX2_wayToBorder_29 ?_
      refine lv_topl (fun t_16 _ => ?_)
      refine lv_aload_n hx hb dX2_wayToBorder_30 rfl (lv_at hl 0 rfl) ?_
      refine lv_iload_n hx hb dX2_wayToBorder_31 rfl (lv_at hl 1 rfl) ?_
      refine bm_xcallV (As := [.int (nI za)]) (rest := [.long t_16]) ⟨hx, hb, hml, hown, hts⟩ (x_endX  (zj := za) ok_p0_turn (by omega)) (cwV 1 hts gvX2_46 rfl rfl rfl hvX2_endX ⟨Nat.le_of_ble_eq_true rfl, Nat.le_of_ble_eq_true rfl⟩) hK hP hD hS hA 8 2 rfl ww_8 rfl hl.1 rfl (Nat.le_of_ble_eq_true rfl) dX2_wayToBorder_32 ⟨Nat.le_of_ble_eq_true rfl, Nat.le_of_ble_eq_true rfl⟩ (fun ws_17 r_18 h_19 H locs hP hD hS => ?_)
      obtain ⟨rfl, v_20, rfl⟩ := h_19
      have hP : va_P D vwCl (WW ad cJ cI cZ bm pa p0 p1 p2 li wi mt ms ma mp mk mn ou) H := hP
      have hD : va_D A (WW ad cJ cI cZ bm pa p0 p1 p2 li wi mt ms ma mp mk mn ou) := hD
      refine lv_lsub hx hb dX2_wayToBorder_35 ?_
      refine lv_topl (fun t_21 _ => ?_)
      exact bm_lretX (v := t_21) hx hb hr hP hD hK hS ⟨rfl, t_21, rfl⟩ dX2_wayToBorder_36 hlocks
    · refine lv_aload_n hx hb dX2_wayToBorder_9 rfl (lv_at hl 0 rfl) ?_
      refine lv_iload_n hx hb dX2_wayToBorder_10 rfl (lv_at hl 2 rfl) ?_
      refine bm_xcallV (As := [.int (nI zb)]) (rest := []) ⟨hx, hb, hml, hown, hts⟩ (x_endX  (zj := zb) ok_p0_turn (by omega)) (cwV 1 hts gvX2_46 rfl rfl rfl hvX2_endX ⟨Nat.le_of_ble_eq_true rfl, Nat.le_of_ble_eq_true rfl⟩) hK hP hD hS hA 8 2 rfl ww_8 rfl hl.1 rfl (Nat.le_of_ble_eq_true rfl) dX2_wayToBorder_11 ⟨Nat.le_of_ble_eq_true rfl, Nat.le_of_ble_eq_true rfl⟩ (fun ws_22 r_23 h_24 H locs hP hD hS => ?_)
      obtain ⟨rfl, v_25, rfl⟩ := h_24
      have hP : va_P D vwCl (WW ad cJ cI cZ bm pa p0 p1 p2 li wi mt ms ma mp mk mn ou) H := hP
      have hD : va_D A (WW ad cJ cI cZ bm pa p0 p1 p2 li wi mt ms ma mp mk mn ou) := hD
      refine lv_aload_n hx hb dX2_wayToBorder_14 rfl (lv_at hl 0 rfl) ?_
      refine va_get (D := D) (ci := 2) (v := .ref (ad 9)) (C := RX2) (T := TX2) (N := 5) hx hb hts (inT inX2) hown hK hP 8 ww_8 rfl 1 (by decide) (hts (.fieldLink RX2 9 "BoardMoves$Placement" "x" "[J") (List.mem_cons_of_mem _ flX2_9)) (fun _ h9 => h9) rfl dX2_wayToBorder_15 ?_
      refine lv_iload_n hx hb dX2_wayToBorder_18 rfl (lv_at hl 1 rfl) ?_
      refine bm_lald (f := p0.1) hx hb hK hP 9 0 ww_9 rfl (j := za) (by omega) (by decide) dX2_wayToBorder_19 ?_
      refine lv_topl (fun t_26 _ => ?_)
      refine lv_lsub hx hb dX2_wayToBorder_20 ?_
      refine lv_topl (fun t_27 _ => ?_)
      refine lv_goto (tgt := 36) hx hb dX2_wayToBorder_21 (by decide) ?_
      exact bm_lretX (v := t_27) hx hb hr hP hD hK hS ⟨rfl, t_27, rfl⟩ dX2_wayToBorder_36 hlocks

set_option maxHeartbeats 8000000 in
set_option maxRecDepth 100000 in
theorem x_near {l : Launch} {D : va_G} {ad : Nat → Nat} {cJ cI cZ : ClassId} {bm : gBM} {pa : gPA} {p0 p1 p2 : gPL} {li : gLI} {wi : gWI} {mt : Nat} {ms : gMS} {ma : gMA} {mp : gMP} {mk : gMK} {mn : gMN} {ou : Nat → Int64} {za : Nat} {zb : Nat} {z1 : Int64} (ok_p0_turn : ∀ i, p0.2.2.1 i < 40) (hp0 : za < 40) (hp1 : zb < 40)  : bm_Wx l yX2_isNear wsX2_isNear ({ frames := 1, cells := 0, slots := 0, locals := 24 }) D vwCl [(cJ, .long), (cI, .int), (cZ, .boolean)] (WW ad cJ cI cZ bm pa p0 p1 p2 li wi mt ms ma mp mk mn ou) [.ref (ad 8), .int (nI za), .int (nI zb), .long z1] (fun ws9 r9 => ws9 = (WW ad cJ cI cZ bm pa p0 p1 p2 li wi mt ms ma mp mk mn ou) ∧ ∃ b9 : Bool, r9 = some (.int (bm_b b9))) := by
  intro sz
  refine Met.ofW (cc := cX2_isNear) (maxL := 9) (ret := (some .boolean)) (by decide) rfl ?_
  intro p e s m args below meth c s₁ B hml hv
  obtain ⟨ha, hsz, hP, hK, hD0⟩ := hv
  have hx := B.exec
  have hb := B.bytes
  have hr := B.returns
  have hts := atoms_spec (ws := wsX2_isNear) B.pre
  have hown : s.vm.findClass RX2 = some m.cls := findClass_of_methodNamed B.named
  have hlocks := B.notSynchronized
  subst hsz
  have hD := hD0.self (sz := s.heap.size)
  generalize hAe : va_A (WW ad cJ cI cZ bm pa p0 p1 p2 li wi mt ms ma mp mk mn ou) s.heap.size = A at hD ⊢
  have hA : ∀ q : Nat, s.heap.size ≤ q → A q := fun q h => by rw [← hAe]; exact Or.inr h
  have hS : va_S A s.heap s.heap [] := va_S.rf
  have hl := lv_entry ([.ref (ad 8), .int (nI za), .int (nI zb), .long z1]) (n := 9) (Nat.le_of_ble_eq_true rfl)
  refine W.eq (g2 := entryFrame m ([.ref (ad 8), .int (nI za), .int (nI zb), .long z1] : List Value).toArray 9) (by rw [ha]) ?_
  rw [lg_entry_eq]
  generalize (lg_sl ([.ref (ad 8), .int (nI za), .int (nI zb), .long z1]) ++ List.replicate (9 - (lg_sl ([.ref (ad 8), .int (nI za), .int (nI zb), .long z1])).length) Slot.unset).toArray = ls at hl ⊢
  have hl : lv_has ls 9 [(0, .ref (ad 8)), (1, .int (nI za)), (2, .int (nI zb)), (3, .long z1)] := hl
  refine lv_aload_n hx hb dX2_isNear_0 rfl (lv_at hl 0 rfl) ?_
  refine va_get (D := D) (ci := 2) (v := .ref (ad 12)) (C := RX2) (T := TX2) (N := 5) hx hb hts (inT inX2) hown hK hP 8 ww_8 rfl 4 (by decide) (hts (.fieldLink RX2 22 "BoardMoves$Placement" "placed" "[Z") (List.mem_cons_of_mem _ flX2_22)) (fun _ h9 => h9) rfl dX2_isNear_1 ?_
  refine lv_iload_n hx hb dX2_isNear_4 rfl (lv_at hl 1 rfl) ?_
  refine bm_zald (f := p0.2.2.2) hx hb hK hP 12 2 ww_12 rfl (j := za) (by omega) (by decide) dX2_isNear_5 ?_
  refine bm_zb_eq (x := (p0.2.2.2 za)) (tgt := 18) hx hb dX2_isNear_6 (by decide) (fun c_1 => ?_) (fun c_1 => ?_)
  · refine lv_iconst (v := bm_b true) hx hb dX2_isNear_18 (by decide) ?_
    exact bm_zretX (v := true) hx hb hr hP hD hK hS ⟨rfl, true, rfl⟩ dX2_isNear_19 hlocks
  · refine lv_aload_n hx hb dX2_isNear_9 rfl (lv_at hl 0 rfl) ?_
    refine va_get (D := D) (ci := 2) (v := .ref (ad 12)) (C := RX2) (T := TX2) (N := 5) hx hb hts (inT inX2) hown hK hP 8 ww_8 rfl 4 (by decide) (hts (.fieldLink RX2 22 "BoardMoves$Placement" "placed" "[Z") (List.mem_cons_of_mem _ flX2_22)) (fun _ h9 => h9) rfl dX2_isNear_10 ?_
    refine lv_iload_n hx hb dX2_isNear_13 rfl (lv_at hl 2 rfl) ?_
    refine bm_zald (f := p0.2.2.2) hx hb hK hP 12 2 ww_12 rfl (j := zb) (by omega) (by decide) dX2_isNear_14 ?_
    refine bm_zb_ne (x := (p0.2.2.2 zb)) (tgt := 20) hx hb dX2_isNear_15 (by decide) (fun c_2 => ?_) (fun c_2 => ?_)
    · refine lv_aload_n hx hb dX2_isNear_20 rfl (lv_at hl 0 rfl) ?_
      refine va_get (D := D) (ci := 2) (v := .ref (ad 9)) (C := RX2) (T := TX2) (N := 5) hx hb hts (inT inX2) hown hK hP 8 ww_8 rfl 1 (by decide) (hts (.fieldLink RX2 9 "BoardMoves$Placement" "x" "[J") (List.mem_cons_of_mem _ flX2_9)) (fun _ h9 => h9) rfl dX2_isNear_21 ?_
      refine lv_iload_n hx hb dX2_isNear_24 rfl (lv_at hl 1 rfl) ?_
      refine bm_lald (f := p0.1) hx hb hK hP 9 0 ww_9 rfl (j := za) (by omega) (by decide) dX2_isNear_25 ?_
      refine lv_topl (fun t_3 _ => ?_)
      refine lv_aload_n hx hb dX2_isNear_26 rfl (lv_at hl 0 rfl) ?_
      refine va_get (D := D) (ci := 2) (v := .ref (ad 9)) (C := RX2) (T := TX2) (N := 5) hx hb hts (inT inX2) hown hK hP 8 ww_8 rfl 1 (by decide) (hts (.fieldLink RX2 9 "BoardMoves$Placement" "x" "[J") (List.mem_cons_of_mem _ flX2_9)) (fun _ h9 => h9) rfl dX2_isNear_27 ?_
      refine lv_iload_n hx hb dX2_isNear_30 rfl (lv_at hl 2 rfl) ?_
      refine bm_lald (f := p0.1) hx hb hK hP 9 0 ww_9 rfl (j := zb) (by omega) (by decide) dX2_isNear_31 ?_
      refine lv_topl (fun t_4 _ => ?_)
      refine bm_mmaxl (rest := []) hx hb (hml.trans hl.1.symm) hown (hts (.methodLink RX2 64 Lib.MathLoose.max_long.x) (by decide +kernel)) (hts (.static Lib.MathLoose.max_long.x) (by decide +kernel)) (hts (.initialized "java/lang/Math") (by decide +kernel)) (hts (.code Lib.MathLoose.max_long.x Lib.MathLoose.max_long.code 4 (some .long)) (by decide +kernel)) (Nat.le_of_ble_eq_true rfl) (Nat.le_of_ble_eq_true rfl) (Nat.le_of_ble_eq_true rfl) (Nat.le_of_ble_eq_true rfl) dX2_isNear_32 ?_
      refine lv_topl (fun t_5 _ => ?_)
      refine lv_aload_n hx hb dX2_isNear_35 rfl (lv_at hl 0 rfl) ?_
      refine lv_iload_n hx hb dX2_isNear_36 rfl (lv_at hl 1 rfl) ?_
      refine bm_xcallV (As := [.int (nI za)]) (rest := [.long t_5]) ⟨hx, hb, hml, hown, hts⟩ (x_endX  (zj := za) ok_p0_turn (by omega)) (cwV 1 hts gvX2_46 rfl rfl rfl hvX2_endX ⟨Nat.le_of_ble_eq_true rfl, Nat.le_of_ble_eq_true rfl⟩) hK hP hD hS hA 8 2 rfl ww_8 rfl hl.1 rfl (Nat.le_of_ble_eq_true rfl) dX2_isNear_37 ⟨Nat.le_of_ble_eq_true rfl, Nat.le_of_ble_eq_true rfl⟩ (fun ws_6 r_7 h_8 H locs hP hD hS => ?_)
      obtain ⟨rfl, v_9, rfl⟩ := h_8
      have hP : va_P D vwCl (WW ad cJ cI cZ bm pa p0 p1 p2 li wi mt ms ma mp mk mn ou) H := hP
      have hD : va_D A (WW ad cJ cI cZ bm pa p0 p1 p2 li wi mt ms ma mp mk mn ou) := hD
      refine lv_aload_n hx hb dX2_isNear_40 rfl (lv_at hl 0 rfl) ?_
      refine lv_iload_n hx hb dX2_isNear_41 rfl (lv_at hl 2 rfl) ?_
      refine bm_xcallV (As := [.int (nI zb)]) (rest := [.long v_9, .long t_5]) ⟨hx, hb, hml, hown, hts⟩ (x_endX  (zj := zb) ok_p0_turn (by omega)) (cwV 1 hts gvX2_46 rfl rfl rfl hvX2_endX ⟨Nat.le_of_ble_eq_true rfl, Nat.le_of_ble_eq_true rfl⟩) hK hP hD hS hA 8 2 rfl ww_8 rfl hl.1 rfl (Nat.le_of_ble_eq_true rfl) dX2_isNear_42 ⟨Nat.le_of_ble_eq_true rfl, Nat.le_of_ble_eq_true rfl⟩ (fun ws_10 r_11 h_12 H locs hP hD hS => ?_)
      obtain ⟨rfl, v_13, rfl⟩ := h_12
      have hP : va_P D vwCl (WW ad cJ cI cZ bm pa p0 p1 p2 li wi mt ms ma mp mk mn ou) H := hP
      have hD : va_D A (WW ad cJ cI cZ bm pa p0 p1 p2 li wi mt ms ma mp mk mn ou) := hD
      refine bm_mminl (rest := [.long t_5]) hx hb (hml.trans hl.1.symm) hown (hts (.methodLink RX2 70 Lib.MathLoose.min_long.x) (by decide +kernel)) (hts (.static Lib.MathLoose.min_long.x) (by decide +kernel)) (hts (.initialized "java/lang/Math") (by decide +kernel)) (hts (.code Lib.MathLoose.min_long.x Lib.MathLoose.min_long.code 4 (some .long)) (by decide +kernel)) (Nat.le_of_ble_eq_true rfl) (Nat.le_of_ble_eq_true rfl) (Nat.le_of_ble_eq_true rfl) (Nat.le_of_ble_eq_true rfl) dX2_isNear_45 ?_
      refine lv_topl (fun t_14 _ => ?_)
      refine lv_lsub hx hb dX2_isNear_48 ?_
      refine lv_topl (fun t_15 _ => ?_)
      refine lv_lstore (lv' := [(5, .long t_15), (0, .ref (ad 8)), (1, .int (nI za)), (2, .int (nI zb)), (3, .long z1)]) hx hb dX2_isNear_49 hl (by decide) rfl (fun ls hl => ?_)
      refine lv_aload_n hx hb dX2_isNear_51 rfl (lv_at hl 1 rfl) ?_
      refine va_get (D := D) (ci := 2) (v := .ref (ad 10)) (C := RX2) (T := TX2) (N := 5) hx hb hts (inT inX2) hown hK hP 8 ww_8 rfl 2 (by decide) (hts (.fieldLink RX2 15 "BoardMoves$Placement" "y" "[J") (List.mem_cons_of_mem _ flX2_15)) (fun _ h9 => h9) rfl dX2_isNear_52 ?_
      refine lv_iload_n hx hb dX2_isNear_55 rfl (lv_at hl 2 rfl) ?_
      refine bm_lald (f := p0.2.1) hx hb hK hP 10 0 ww_10 rfl (j := za) (by omega) (by decide) dX2_isNear_56 ?_
      refine lv_topl (fun t_16 _ => ?_)
      refine lv_aload_n hx hb dX2_isNear_57 rfl (lv_at hl 1 rfl) ?_
      refine va_get (D := D) (ci := 2) (v := .ref (ad 10)) (C := RX2) (T := TX2) (N := 5) hx hb hts (inT inX2) hown hK hP 8 ww_8 rfl 2 (by decide) (hts (.fieldLink RX2 15 "BoardMoves$Placement" "y" "[J") (List.mem_cons_of_mem _ flX2_15)) (fun _ h9 => h9) rfl dX2_isNear_58 ?_
      refine lv_iload_n hx hb dX2_isNear_61 rfl (lv_at hl 3 rfl) ?_
      refine bm_lald (f := p0.2.1) hx hb hK hP 10 0 ww_10 rfl (j := zb) (by omega) (by decide) dX2_isNear_62 ?_
      refine lv_topl (fun t_17 _ => ?_)
      refine bm_mmaxl (rest := []) hx hb (hml.trans hl.1.symm) hown (hts (.methodLink RX2 64 Lib.MathLoose.max_long.x) (by decide +kernel)) (hts (.static Lib.MathLoose.max_long.x) (by decide +kernel)) (hts (.initialized "java/lang/Math") (by decide +kernel)) (hts (.code Lib.MathLoose.max_long.x Lib.MathLoose.max_long.code 4 (some .long)) (by decide +kernel)) (Nat.le_of_ble_eq_true rfl) (Nat.le_of_ble_eq_true rfl) (Nat.le_of_ble_eq_true rfl) (Nat.le_of_ble_eq_true rfl) dX2_isNear_63 ?_
      refine lv_topl (fun t_18 _ => ?_)
      refine lv_aload_n hx hb dX2_isNear_66 rfl (lv_at hl 1 rfl) ?_
      refine lv_iload_n hx hb dX2_isNear_67 rfl (lv_at hl 2 rfl) ?_
      refine bm_xcallV (As := [.int (nI za)]) (rest := [.long t_18]) ⟨hx, hb, hml, hown, hts⟩ (x_endY  (zj := za) ok_p0_turn (by omega)) (cwV 1 hts gvX2_50 rfl rfl rfl hvX2_endY ⟨Nat.le_of_ble_eq_true rfl, Nat.le_of_ble_eq_true rfl⟩) hK hP hD hS hA 8 2 rfl ww_8 rfl hl.1 rfl (Nat.le_of_ble_eq_true rfl) dX2_isNear_68 ⟨Nat.le_of_ble_eq_true rfl, Nat.le_of_ble_eq_true rfl⟩ (fun ws_19 r_20 h_21 H locs hP hD hS => ?_)
      obtain ⟨rfl, v_22, rfl⟩ := h_21
      have hP : va_P D vwCl (WW ad cJ cI cZ bm pa p0 p1 p2 li wi mt ms ma mp mk mn ou) H := hP
      have hD : va_D A (WW ad cJ cI cZ bm pa p0 p1 p2 li wi mt ms ma mp mk mn ou) := hD
      refine lv_aload_n hx hb dX2_isNear_71 rfl (lv_at hl 1 rfl) ?_
      refine lv_iload_n hx hb dX2_isNear_72 rfl (lv_at hl 3 rfl) ?_
      refine bm_xcallV (As := [.int (nI zb)]) (rest := [.long v_22, .long t_18]) ⟨hx, hb, hml, hown, hts⟩ (x_endY  (zj := zb) ok_p0_turn (by omega)) (cwV 1 hts gvX2_50 rfl rfl rfl hvX2_endY ⟨Nat.le_of_ble_eq_true rfl, Nat.le_of_ble_eq_true rfl⟩) hK hP hD hS hA 8 2 rfl ww_8 rfl hl.1 rfl (Nat.le_of_ble_eq_true rfl) dX2_isNear_73 ⟨Nat.le_of_ble_eq_true rfl, Nat.le_of_ble_eq_true rfl⟩ (fun ws_23 r_24 h_25 H locs hP hD hS => ?_)
      obtain ⟨rfl, v_26, rfl⟩ := h_25
      have hP : va_P D vwCl (WW ad cJ cI cZ bm pa p0 p1 p2 li wi mt ms ma mp mk mn ou) H := hP
      have hD : va_D A (WW ad cJ cI cZ bm pa p0 p1 p2 li wi mt ms ma mp mk mn ou) := hD
      refine bm_mminl (rest := [.long t_18]) hx hb (hml.trans hl.1.symm) hown (hts (.methodLink RX2 70 Lib.MathLoose.min_long.x) (by decide +kernel)) (hts (.static Lib.MathLoose.min_long.x) (by decide +kernel)) (hts (.initialized "java/lang/Math") (by decide +kernel)) (hts (.code Lib.MathLoose.min_long.x Lib.MathLoose.min_long.code 4 (some .long)) (by decide +kernel)) (Nat.le_of_ble_eq_true rfl) (Nat.le_of_ble_eq_true rfl) (Nat.le_of_ble_eq_true rfl) (Nat.le_of_ble_eq_true rfl) dX2_isNear_76 ?_
      refine lv_topl (fun t_27 _ => ?_)
      refine lv_lsub hx hb dX2_isNear_79 ?_
      refine lv_topl (fun t_28 _ => ?_)
      refine lv_lstore (lv' := [(7, .long t_28), (5, .long t_15), (0, .ref (ad 8)), (1, .int (nI za)), (2, .int (nI zb)), (3, .long z1)]) hx hb dX2_isNear_80 hl (by decide) rfl (fun ls hl => ?_)
      refine lv_lconst (v := 0) hx hb dX2_isNear_82 (by decide) ?_
      refine lv_lload hx hb dX2_isNear_83 (lv_at hl 1 rfl) ?_
      refine bm_mmaxl (rest := []) hx hb (hml.trans hl.1.symm) hown (hts (.methodLink RX2 64 Lib.MathLoose.max_long.x) (by decide +kernel)) (hts (.static Lib.MathLoose.max_long.x) (by decide +kernel)) (hts (.initialized "java/lang/Math") (by decide +kernel)) (hts (.code Lib.MathLoose.max_long.x Lib.MathLoose.max_long.code 4 (some .long)) (by decide +kernel)) (Nat.le_of_ble_eq_true rfl) (Nat.le_of_ble_eq_true rfl) (Nat.le_of_ble_eq_true rfl) (Nat.le_of_ble_eq_true rfl) dX2_isNear_85 ?_
      refine lv_topl (fun t_29 _ => ?_)
      refine lv_lconst (v := 0) hx hb dX2_isNear_88 (by decide) ?_
      refine lv_lload hx hb dX2_isNear_89 (lv_at hl 0 rfl) ?_
      refine bm_mmaxl (rest := [.long t_29]) hx hb (hml.trans hl.1.symm) hown (hts (.methodLink RX2 64 Lib.MathLoose.max_long.x) (by decide +kernel)) (hts (.static Lib.MathLoose.max_long.x) (by decide +kernel)) (hts (.initialized "java/lang/Math") (by decide +kernel)) (hts (.code Lib.MathLoose.max_long.x Lib.MathLoose.max_long.code 4 (some .long)) (by decide +kernel)) (Nat.le_of_ble_eq_true rfl) (Nat.le_of_ble_eq_true rfl) (Nat.le_of_ble_eq_true rfl) (Nat.le_of_ble_eq_true rfl) dX2_isNear_91 ?_
      refine lv_topl (fun t_30 _ => ?_)
      refine lv_ladd hx hb dX2_isNear_94 ?_
      refine lv_topl (fun t_31 _ => ?_)
      refine lv_lload_n hx hb dX2_isNear_95 rfl (lv_at hl 5 rfl) ?_
      refine bm_lc_gt (x := t_31) (y := z1) (tgt := 104) hx hb dX2_isNear_96 dX2_isNear_97 (by decide) (fun c_32 => ?_) (fun c_32 => ?_)
      · refine lv_iconst (v := bm_b false) hx hb dX2_isNear_104 (by decide) ?_
        exact bm_zretX (v := false) hx hb hr hP hD hK hS ⟨rfl, false, rfl⟩ dX2_isNear_105 hlocks
      · refine lv_iconst (v := bm_b true) hx hb dX2_isNear_100 (by decide) ?_
        refine lv_goto (tgt := 105) hx hb dX2_isNear_101 (by decide) ?_
        exact bm_zretX (v := true) hx hb hr hP hD hK hS ⟨rfl, true, rfl⟩ dX2_isNear_105 hlocks
    · refine lv_iconst (v := bm_b true) hx hb dX2_isNear_18 (by decide) ?_
      exact bm_zretX (v := true) hx hb hr hP hD hK hS ⟨rfl, true, rfl⟩ dX2_isNear_19 hlocks

set_option maxHeartbeats 8000000 in
set_option maxRecDepth 100000 in
theorem x_cp10 {l : Launch} {D : va_G} {ad : Nat → Nat} {cJ cI cZ : ClassId} {bm : gBM} {pa : gPA} {p0 p1 p2 : gPL} {li : gLI} {wi : gWI} {mt : Nat} {ms : gMS} {ma : gMA} {mp : gMP} {mk : gMK} {mn : gMN} {ou : Nat → Int64}  (ok_pa_n : pa.2.2.2.2.2.2 ≤ 40) (ok_p1_turn : ∀ i, p1.2.2.1 i < 40) (ok_p0_turn : ∀ i, p0.2.2.1 i < 40)   : bm_Wx l yX2_copyFrom wsX2_copyFrom ({ frames := 0, cells := 0, slots := 0, locals := 0 }) D vwCl [(cJ, .long), (cI, .int), (cZ, .boolean)] (WW ad cJ cI cZ bm pa p0 p1 p2 li wi mt ms ma mp mk mn ou) [.ref (ad 13), .ref (ad 8)] (fun ws9 r9 => ∃ (e0 : Nat → Int64) (e1 : Nat → Int64) (e2 : Nat → Nat) (e3 : Nat → Bool) , (∀ i, e2 i < 40) ∧ ws9 = (WW ad cJ cI cZ bm pa p0 (e0, e1, e2, e3) p2 li wi mt ms ma mp mk mn ou) ∧ r9 = none) := by
  intro sz
  refine Met.ofW (cc := cX2_copyFrom) (maxL := 3) (ret := none) (by decide) rfl ?_
  intro p e s m args below meth c s₁ B hml hv
  obtain ⟨ha, hsz, hP, hK, hD0⟩ := hv
  have hx := B.exec
  have hb := B.bytes
  have hr := B.returns
  have hts := atoms_spec (ws := wsX2_copyFrom) B.pre
  have hown : s.vm.findClass RX2 = some m.cls := findClass_of_methodNamed B.named
  have hlocks := B.notSynchronized
  subst hsz
  have hD := hD0.self (sz := s.heap.size)
  generalize hAe : va_A (WW ad cJ cI cZ bm pa p0 p1 p2 li wi mt ms ma mp mk mn ou) s.heap.size = A at hD ⊢
  have hA : ∀ q : Nat, s.heap.size ≤ q → A q := fun q h => by rw [← hAe]; exact Or.inr h
  have hS : va_S A s.heap s.heap [] := va_S.rf
  have hl := lv_entry ([.ref (ad 13), .ref (ad 8)]) (n := 3) (Nat.le_of_ble_eq_true rfl)
  refine W.eq (g2 := entryFrame m ([.ref (ad 13), .ref (ad 8)] : List Value).toArray 3) (by rw [ha]) ?_
  rw [lg_entry_eq]
  generalize (lg_sl ([.ref (ad 13), .ref (ad 8)]) ++ List.replicate (3 - (lg_sl ([.ref (ad 13), .ref (ad 8)])).length) Slot.unset).toArray = ls at hl ⊢
  have hl : lv_has ls 3 [(0, .ref (ad 13)), (1, .ref (ad 8))] := hl
  refine lv_iconst (v := nI 0) hx hb dX2_copyFrom_0 (by decide) ?_
  refine lv_istore_n (lv' := [(2, .int (nI 0)), (0, .ref (ad 13)), (1, .ref (ad 8))]) hx hb dX2_copyFrom_1 rfl hl (by decide) rfl (fun ls hl => ?_)
  have lp_1 : ∀ (k_3 : Nat) (i_2 : Nat) (g_5 : Nat → Int64) (g_6 : Nat → Int64) (g_7 : Nat → Nat) (g_9 : Nat → Bool), i_2 ≤ pa.2.2.2.2.2.2 → pa.2.2.2.2.2.2 < i_2 + k_3 → (∀ i, g_7 i < 40) → ∀ (H : Heap) (locs : List Loc), va_P D vwCl (WW ad cJ cI cZ bm pa p0 (g_5, g_6, g_7, g_9) p2 li wi mt ms ma mp mk mn ou) H → va_D A (WW ad cJ cI cZ bm pa p0 (g_5, g_6, g_7, g_9) p2 li wi mt ms ma mp mk mn ou) → va_S A s.heap H locs → ∀ (ls : Array Slot), lv_has ls 3 [(2, .int (nI i_2)), (0, .ref (ad 13)), (1, .ref (ad 8))] → W p l e (headSpec wsX2_copyFrom ({ frames := 0, cells := 0, slots := 0, locals := 0 })).room s m args below meth c H locs 0 0 (MQ below (bm_Wxq D vwCl [(cJ, .long), (cI, .int), (cZ, .boolean)] (fun ws9 r9 => ∃ (e0 : Nat → Int64) (e1 : Nat → Int64) (e2 : Nat → Nat) (e3 : Nat → Bool) , (∀ i, e2 i < 40) ∧ ws9 = (WW ad cJ cI cZ bm pa p0 (e0, e1, e2, e3) p2 li wi mt ms ma mp mk mn ou) ∧ r9 = none) A) args s 0 0 A) (F0 m 2 ls []) := by
    intro k_3
    induction k_3 with
    | zero => intro i_2 g_5 g_6 g_7 g_9 hi_10 hk_11; exfalso; omega
    | succ k_3 ih_4 =>
      intro i_2 g_5 g_6 g_7 g_9 hi_10 hk_11 ok_8 H locs hP hD hS ls hl
      refine lv_iload_n hx hb dX2_copyFrom_2 rfl (lv_at hl 0 rfl) ?_
      refine lv_aload_n hx hb dX2_copyFrom_3 rfl (lv_at hl 1 rfl) ?_
      refine va_get (D := D) (ci := 2) (v := .ref (ad 1)) (C := RX2) (T := TX2) (N := 5) hx hb hts (inT inX2) hown hK hP 13 ww_13 rfl 0 (by decide) (hts (.fieldLink RX2 26 "BoardMoves$Placement" "parts" "LBoardMoves$Parts;") (List.mem_cons_of_mem _ flX2_26)) (fun _ h9 => h9) rfl dX2_copyFrom_4 ?_
      refine va_get (D := D) (ci := 1) (v := .int (nI pa.2.2.2.2.2.2)) (C := RX1) (T := TX1) (N := 7) hx hb hts (inT inX1) hown hK hP 1 ww_1 rfl 6 (by decide) (hts (.fieldLink RX2 30 "BoardMoves$Parts" "count" "I") (List.mem_cons_of_mem _ flX2_30)) (fun _ h9 => h9) rfl dX2_copyFrom_7 ?_
      refine bm_ni_ge (x := i_2) (y := pa.2.2.2.2.2.2) (tgt := 67) hx hb (by omega) (by omega) dX2_copyFrom_10 (by decide) (fun c_12 => ?_) (fun c_12 => ?_)
      · exact bm_vretX hx hb hr hP hD hK hS ⟨g_5, g_6, g_7, g_9, ok_8, rfl, rfl⟩ dX2_copyFrom_67 hlocks
      · refine lv_aload_n hx hb dX2_copyFrom_13 rfl (lv_at hl 1 rfl) ?_
        refine va_get (D := D) (ci := 2) (v := .ref (ad 14)) (C := RX2) (T := TX2) (N := 5) hx hb hts (inT inX2) hown hK hP 13 ww_13 rfl 1 (by decide) (hts (.fieldLink RX2 9 "BoardMoves$Placement" "x" "[J") (List.mem_cons_of_mem _ flX2_9)) (fun _ h9 => h9) rfl dX2_copyFrom_14 ?_
        refine lv_iload_n hx hb dX2_copyFrom_17 rfl (lv_at hl 0 rfl) ?_
        refine lv_aload_n hx hb dX2_copyFrom_18 rfl (lv_at hl 2 rfl) ?_
        refine va_get (D := D) (ci := 2) (v := .ref (ad 9)) (C := RX2) (T := TX2) (N := 5) hx hb hts (inT inX2) hown hK hP 8 ww_8 rfl 1 (by decide) (hts (.fieldLink RX2 9 "BoardMoves$Placement" "x" "[J") (List.mem_cons_of_mem _ flX2_9)) (fun _ h9 => h9) rfl dX2_copyFrom_19 ?_
        refine lv_iload_n hx hb dX2_copyFrom_22 rfl (lv_at hl 0 rfl) ?_
        refine bm_lald (f := p0.1) hx hb hK hP 9 0 ww_9 rfl (j := i_2) (by omega) (by decide) dX2_copyFrom_23 ?_
        refine lv_topl (fun t_13 _ => ?_)
        refine bm_last (f := g_5) hx hb hK hP hD hS 14 0 ww_14 rfl (j := i_2) (x := t_13) (by omega) (by decide) dX2_copyFrom_24 (fun H locs hP hD hS => ?_)
        have hP : va_P D vwCl (WW ad cJ cI cZ bm pa p0 (va_up g_5 i_2 t_13, g_6, g_7, g_9) p2 li wi mt ms ma mp mk mn ou) H := hP
        have hD : va_D A (WW ad cJ cI cZ bm pa p0 (va_up g_5 i_2 t_13, g_6, g_7, g_9) p2 li wi mt ms ma mp mk mn ou) := hD
        refine lv_aload_n hx hb dX2_copyFrom_25 rfl (lv_at hl 1 rfl) ?_
        refine va_get (D := D) (ci := 2) (v := .ref (ad 15)) (C := RX2) (T := TX2) (N := 5) hx hb hts (inT inX2) hown hK hP 13 ww_13 rfl 2 (by decide) (hts (.fieldLink RX2 15 "BoardMoves$Placement" "y" "[J") (List.mem_cons_of_mem _ flX2_15)) (fun _ h9 => h9) rfl dX2_copyFrom_26 ?_
        refine lv_iload_n hx hb dX2_copyFrom_29 rfl (lv_at hl 0 rfl) ?_
        refine lv_aload_n hx hb dX2_copyFrom_30 rfl (lv_at hl 2 rfl) ?_
        refine va_get (D := D) (ci := 2) (v := .ref (ad 10)) (C := RX2) (T := TX2) (N := 5) hx hb hts (inT inX2) hown hK hP 8 ww_8 rfl 2 (by decide) (hts (.fieldLink RX2 15 "BoardMoves$Placement" "y" "[J") (List.mem_cons_of_mem _ flX2_15)) (fun _ h9 => h9) rfl dX2_copyFrom_31 ?_
        refine lv_iload_n hx hb dX2_copyFrom_34 rfl (lv_at hl 0 rfl) ?_
        refine bm_lald (f := p0.2.1) hx hb hK hP 10 0 ww_10 rfl (j := i_2) (by omega) (by decide) dX2_copyFrom_35 ?_
        refine lv_topl (fun t_14 _ => ?_)
        refine bm_last (f := g_6) hx hb hK hP hD hS 15 0 ww_15 rfl (j := i_2) (x := t_14) (by omega) (by decide) dX2_copyFrom_36 (fun H locs hP hD hS => ?_)
        have hP : va_P D vwCl (WW ad cJ cI cZ bm pa p0 (va_up g_5 i_2 t_13, va_up g_6 i_2 t_14, g_7, g_9) p2 li wi mt ms ma mp mk mn ou) H := hP
        have hD : va_D A (WW ad cJ cI cZ bm pa p0 (va_up g_5 i_2 t_13, va_up g_6 i_2 t_14, g_7, g_9) p2 li wi mt ms ma mp mk mn ou) := hD
        refine lv_aload_n hx hb dX2_copyFrom_37 rfl (lv_at hl 1 rfl) ?_
        refine va_get (D := D) (ci := 2) (v := .ref (ad 16)) (C := RX2) (T := TX2) (N := 5) hx hb hts (inT inX2) hown hK hP 13 ww_13 rfl 3 (by decide) (hts (.fieldLink RX2 18 "BoardMoves$Placement" "turn" "[I") (List.mem_cons_of_mem _ flX2_18)) (fun _ h9 => h9) rfl dX2_copyFrom_38 ?_
        refine lv_iload_n hx hb dX2_copyFrom_41 rfl (lv_at hl 0 rfl) ?_
        refine lv_aload_n hx hb dX2_copyFrom_42 rfl (lv_at hl 2 rfl) ?_
        refine va_get (D := D) (ci := 2) (v := .ref (ad 11)) (C := RX2) (T := TX2) (N := 5) hx hb hts (inT inX2) hown hK hP 8 ww_8 rfl 3 (by decide) (hts (.fieldLink RX2 18 "BoardMoves$Placement" "turn" "[I") (List.mem_cons_of_mem _ flX2_18)) (fun _ h9 => h9) rfl dX2_copyFrom_43 ?_
        refine lv_iload_n hx hb dX2_copyFrom_46 rfl (lv_at hl 0 rfl) ?_
        refine bm_nald (f := p0.2.2.1) hx hb hK hP 11 1 ww_11 rfl (j := i_2) (by omega) (by decide) dX2_copyFrom_47 ?_
        refine bm_nast (f := g_7) hx hb hK hP hD hS 16 1 ww_16 rfl (j := i_2) (x := (p0.2.2.1 i_2)) (by omega) (by decide) dX2_copyFrom_48 (fun H locs hP hD hS => ?_)
        have hP : va_P D vwCl (WW ad cJ cI cZ bm pa p0 (va_up g_5 i_2 t_13, va_up g_6 i_2 t_14, va_up g_7 i_2 (p0.2.2.1 i_2), g_9) p2 li wi mt ms ma mp mk mn ou) H := hP
        have hD : va_D A (WW ad cJ cI cZ bm pa p0 (va_up g_5 i_2 t_13, va_up g_6 i_2 t_14, va_up g_7 i_2 (p0.2.2.1 i_2), g_9) p2 li wi mt ms ma mp mk mn ou) := hD
        refine lv_aload_n hx hb dX2_copyFrom_49 rfl (lv_at hl 1 rfl) ?_
        refine va_get (D := D) (ci := 2) (v := .ref (ad 17)) (C := RX2) (T := TX2) (N := 5) hx hb hts (inT inX2) hown hK hP 13 ww_13 rfl 4 (by decide) (hts (.fieldLink RX2 22 "BoardMoves$Placement" "placed" "[Z") (List.mem_cons_of_mem _ flX2_22)) (fun _ h9 => h9) rfl dX2_copyFrom_50 ?_
        refine lv_iload_n hx hb dX2_copyFrom_53 rfl (lv_at hl 0 rfl) ?_
        refine lv_aload_n hx hb dX2_copyFrom_54 rfl (lv_at hl 2 rfl) ?_
        refine va_get (D := D) (ci := 2) (v := .ref (ad 12)) (C := RX2) (T := TX2) (N := 5) hx hb hts (inT inX2) hown hK hP 8 ww_8 rfl 4 (by decide) (hts (.fieldLink RX2 22 "BoardMoves$Placement" "placed" "[Z") (List.mem_cons_of_mem _ flX2_22)) (fun _ h9 => h9) rfl dX2_copyFrom_55 ?_
        refine lv_iload_n hx hb dX2_copyFrom_58 rfl (lv_at hl 0 rfl) ?_
        refine bm_zald (f := p0.2.2.2) hx hb hK hP 12 2 ww_12 rfl (j := i_2) (by omega) (by decide) dX2_copyFrom_59 ?_
        refine bm_zast (f := g_9) hx hb hK hP hD hS 17 2 ww_17 rfl (j := i_2) (x := (p0.2.2.2 i_2)) (by omega) (by decide) dX2_copyFrom_60 (fun H locs hP hD hS => ?_)
        have hP : va_P D vwCl (WW ad cJ cI cZ bm pa p0 (va_up g_5 i_2 t_13, va_up g_6 i_2 t_14, va_up g_7 i_2 (p0.2.2.1 i_2), va_up g_9 i_2 (p0.2.2.2 i_2)) p2 li wi mt ms ma mp mk mn ou) H := hP
        have hD : va_D A (WW ad cJ cI cZ bm pa p0 (va_up g_5 i_2 t_13, va_up g_6 i_2 t_14, va_up g_7 i_2 (p0.2.2.1 i_2), va_up g_9 i_2 (p0.2.2.2 i_2)) p2 li wi mt ms ma mp mk mn ou) := hD
        refine lv_iinc (v := (nI (i_2 + 1))) (lv' := [(2, .int (nI (i_2 + 1))), (0, .ref (ad 13)), (1, .ref (ad 8))]) hx hb dX2_copyFrom_61 hl (k := 0) rfl (nI_1 i_2) (by decide) rfl (fun ls hl => ?_)
        refine lv_goto (tgt := 2) hx hb dX2_copyFrom_64 (by decide) ?_
        exact ih_4 (i_2 + 1) (va_up g_5 i_2 t_13) (va_up g_6 i_2 t_14) (va_up g_7 i_2 (p0.2.2.1 i_2)) (va_up g_9 i_2 (p0.2.2.2 i_2)) (by omega) (by omega) (bx_uplt ok_8 (ok_p0_turn _)) _ _ hP hD hS _ (lv_sub hl [0, 1, 2] rfl)
  exact lp_1 (pa.2.2.2.2.2.2 + 1) 0 p1.1 p1.2.1 p1.2.2.1 p1.2.2.2 (by omega) (by omega) ok_p1_turn _ _ hP hD hS _ (lv_sub hl [0, 1, 2] rfl)

set_option maxHeartbeats 8000000 in
set_option maxRecDepth 100000 in
theorem x_cp20 {l : Launch} {D : va_G} {ad : Nat → Nat} {cJ cI cZ : ClassId} {bm : gBM} {pa : gPA} {p0 p1 p2 : gPL} {li : gLI} {wi : gWI} {mt : Nat} {ms : gMS} {ma : gMA} {mp : gMP} {mk : gMK} {mn : gMN} {ou : Nat → Int64}  (ok_pa_n : pa.2.2.2.2.2.2 ≤ 40) (ok_p2_turn : ∀ i, p2.2.2.1 i < 40) (ok_p0_turn : ∀ i, p0.2.2.1 i < 40)   : bm_Wx l yX2_copyFrom wsX2_copyFrom ({ frames := 0, cells := 0, slots := 0, locals := 0 }) D vwCl [(cJ, .long), (cI, .int), (cZ, .boolean)] (WW ad cJ cI cZ bm pa p0 p1 p2 li wi mt ms ma mp mk mn ou) [.ref (ad 18), .ref (ad 8)] (fun ws9 r9 => ∃ (e0 : Nat → Int64) (e1 : Nat → Int64) (e2 : Nat → Nat) (e3 : Nat → Bool) , (∀ i, e2 i < 40) ∧ ws9 = (WW ad cJ cI cZ bm pa p0 p1 (e0, e1, e2, e3) li wi mt ms ma mp mk mn ou) ∧ r9 = none) := by
  intro sz
  refine Met.ofW (cc := cX2_copyFrom) (maxL := 3) (ret := none) (by decide) rfl ?_
  intro p e s m args below meth c s₁ B hml hv
  obtain ⟨ha, hsz, hP, hK, hD0⟩ := hv
  have hx := B.exec
  have hb := B.bytes
  have hr := B.returns
  have hts := atoms_spec (ws := wsX2_copyFrom) B.pre
  have hown : s.vm.findClass RX2 = some m.cls := findClass_of_methodNamed B.named
  have hlocks := B.notSynchronized
  subst hsz
  have hD := hD0.self (sz := s.heap.size)
  generalize hAe : va_A (WW ad cJ cI cZ bm pa p0 p1 p2 li wi mt ms ma mp mk mn ou) s.heap.size = A at hD ⊢
  have hA : ∀ q : Nat, s.heap.size ≤ q → A q := fun q h => by rw [← hAe]; exact Or.inr h
  have hS : va_S A s.heap s.heap [] := va_S.rf
  have hl := lv_entry ([.ref (ad 18), .ref (ad 8)]) (n := 3) (Nat.le_of_ble_eq_true rfl)
  refine W.eq (g2 := entryFrame m ([.ref (ad 18), .ref (ad 8)] : List Value).toArray 3) (by rw [ha]) ?_
  rw [lg_entry_eq]
  generalize (lg_sl ([.ref (ad 18), .ref (ad 8)]) ++ List.replicate (3 - (lg_sl ([.ref (ad 18), .ref (ad 8)])).length) Slot.unset).toArray = ls at hl ⊢
  have hl : lv_has ls 3 [(0, .ref (ad 18)), (1, .ref (ad 8))] := hl
  refine lv_iconst (v := nI 0) hx hb dX2_copyFrom_0 (by decide) ?_
  refine lv_istore_n (lv' := [(2, .int (nI 0)), (0, .ref (ad 18)), (1, .ref (ad 8))]) hx hb dX2_copyFrom_1 rfl hl (by decide) rfl (fun ls hl => ?_)
  have lp_1 : ∀ (k_3 : Nat) (i_2 : Nat) (g_5 : Nat → Int64) (g_6 : Nat → Int64) (g_7 : Nat → Nat) (g_9 : Nat → Bool), i_2 ≤ pa.2.2.2.2.2.2 → pa.2.2.2.2.2.2 < i_2 + k_3 → (∀ i, g_7 i < 40) → ∀ (H : Heap) (locs : List Loc), va_P D vwCl (WW ad cJ cI cZ bm pa p0 p1 (g_5, g_6, g_7, g_9) li wi mt ms ma mp mk mn ou) H → va_D A (WW ad cJ cI cZ bm pa p0 p1 (g_5, g_6, g_7, g_9) li wi mt ms ma mp mk mn ou) → va_S A s.heap H locs → ∀ (ls : Array Slot), lv_has ls 3 [(2, .int (nI i_2)), (0, .ref (ad 18)), (1, .ref (ad 8))] → W p l e (headSpec wsX2_copyFrom ({ frames := 0, cells := 0, slots := 0, locals := 0 })).room s m args below meth c H locs 0 0 (MQ below (bm_Wxq D vwCl [(cJ, .long), (cI, .int), (cZ, .boolean)] (fun ws9 r9 => ∃ (e0 : Nat → Int64) (e1 : Nat → Int64) (e2 : Nat → Nat) (e3 : Nat → Bool) , (∀ i, e2 i < 40) ∧ ws9 = (WW ad cJ cI cZ bm pa p0 p1 (e0, e1, e2, e3) li wi mt ms ma mp mk mn ou) ∧ r9 = none) A) args s 0 0 A) (F0 m 2 ls []) := by
    intro k_3
    induction k_3 with
    | zero => intro i_2 g_5 g_6 g_7 g_9 hi_10 hk_11; exfalso; omega
    | succ k_3 ih_4 =>
      intro i_2 g_5 g_6 g_7 g_9 hi_10 hk_11 ok_8 H locs hP hD hS ls hl
      refine lv_iload_n hx hb dX2_copyFrom_2 rfl (lv_at hl 0 rfl) ?_
      refine lv_aload_n hx hb dX2_copyFrom_3 rfl (lv_at hl 1 rfl) ?_
      refine va_get (D := D) (ci := 2) (v := .ref (ad 1)) (C := RX2) (T := TX2) (N := 5) hx hb hts (inT inX2) hown hK hP 18 ww_18 rfl 0 (by decide) (hts (.fieldLink RX2 26 "BoardMoves$Placement" "parts" "LBoardMoves$Parts;") (List.mem_cons_of_mem _ flX2_26)) (fun _ h9 => h9) rfl dX2_copyFrom_4 ?_
      refine va_get (D := D) (ci := 1) (v := .int (nI pa.2.2.2.2.2.2)) (C := RX1) (T := TX1) (N := 7) hx hb hts (inT inX1) hown hK hP 1 ww_1 rfl 6 (by decide) (hts (.fieldLink RX2 30 "BoardMoves$Parts" "count" "I") (List.mem_cons_of_mem _ flX2_30)) (fun _ h9 => h9) rfl dX2_copyFrom_7 ?_
      refine bm_ni_ge (x := i_2) (y := pa.2.2.2.2.2.2) (tgt := 67) hx hb (by omega) (by omega) dX2_copyFrom_10 (by decide) (fun c_12 => ?_) (fun c_12 => ?_)
      · exact bm_vretX hx hb hr hP hD hK hS ⟨g_5, g_6, g_7, g_9, ok_8, rfl, rfl⟩ dX2_copyFrom_67 hlocks
      · refine lv_aload_n hx hb dX2_copyFrom_13 rfl (lv_at hl 1 rfl) ?_
        refine va_get (D := D) (ci := 2) (v := .ref (ad 19)) (C := RX2) (T := TX2) (N := 5) hx hb hts (inT inX2) hown hK hP 18 ww_18 rfl 1 (by decide) (hts (.fieldLink RX2 9 "BoardMoves$Placement" "x" "[J") (List.mem_cons_of_mem _ flX2_9)) (fun _ h9 => h9) rfl dX2_copyFrom_14 ?_
        refine lv_iload_n hx hb dX2_copyFrom_17 rfl (lv_at hl 0 rfl) ?_
        refine lv_aload_n hx hb dX2_copyFrom_18 rfl (lv_at hl 2 rfl) ?_
        refine va_get (D := D) (ci := 2) (v := .ref (ad 9)) (C := RX2) (T := TX2) (N := 5) hx hb hts (inT inX2) hown hK hP 8 ww_8 rfl 1 (by decide) (hts (.fieldLink RX2 9 "BoardMoves$Placement" "x" "[J") (List.mem_cons_of_mem _ flX2_9)) (fun _ h9 => h9) rfl dX2_copyFrom_19 ?_
        refine lv_iload_n hx hb dX2_copyFrom_22 rfl (lv_at hl 0 rfl) ?_
        refine bm_lald (f := p0.1) hx hb hK hP 9 0 ww_9 rfl (j := i_2) (by omega) (by decide) dX2_copyFrom_23 ?_
        refine lv_topl (fun t_13 _ => ?_)
        refine bm_last (f := g_5) hx hb hK hP hD hS 19 0 ww_19 rfl (j := i_2) (x := t_13) (by omega) (by decide) dX2_copyFrom_24 (fun H locs hP hD hS => ?_)
        have hP : va_P D vwCl (WW ad cJ cI cZ bm pa p0 p1 (va_up g_5 i_2 t_13, g_6, g_7, g_9) li wi mt ms ma mp mk mn ou) H := hP
        have hD : va_D A (WW ad cJ cI cZ bm pa p0 p1 (va_up g_5 i_2 t_13, g_6, g_7, g_9) li wi mt ms ma mp mk mn ou) := hD
        refine lv_aload_n hx hb dX2_copyFrom_25 rfl (lv_at hl 1 rfl) ?_
        refine va_get (D := D) (ci := 2) (v := .ref (ad 20)) (C := RX2) (T := TX2) (N := 5) hx hb hts (inT inX2) hown hK hP 18 ww_18 rfl 2 (by decide) (hts (.fieldLink RX2 15 "BoardMoves$Placement" "y" "[J") (List.mem_cons_of_mem _ flX2_15)) (fun _ h9 => h9) rfl dX2_copyFrom_26 ?_
        refine lv_iload_n hx hb dX2_copyFrom_29 rfl (lv_at hl 0 rfl) ?_
        refine lv_aload_n hx hb dX2_copyFrom_30 rfl (lv_at hl 2 rfl) ?_
        refine va_get (D := D) (ci := 2) (v := .ref (ad 10)) (C := RX2) (T := TX2) (N := 5) hx hb hts (inT inX2) hown hK hP 8 ww_8 rfl 2 (by decide) (hts (.fieldLink RX2 15 "BoardMoves$Placement" "y" "[J") (List.mem_cons_of_mem _ flX2_15)) (fun _ h9 => h9) rfl dX2_copyFrom_31 ?_
        refine lv_iload_n hx hb dX2_copyFrom_34 rfl (lv_at hl 0 rfl) ?_
        refine bm_lald (f := p0.2.1) hx hb hK hP 10 0 ww_10 rfl (j := i_2) (by omega) (by decide) dX2_copyFrom_35 ?_
        refine lv_topl (fun t_14 _ => ?_)
        refine bm_last (f := g_6) hx hb hK hP hD hS 20 0 ww_20 rfl (j := i_2) (x := t_14) (by omega) (by decide) dX2_copyFrom_36 (fun H locs hP hD hS => ?_)
        have hP : va_P D vwCl (WW ad cJ cI cZ bm pa p0 p1 (va_up g_5 i_2 t_13, va_up g_6 i_2 t_14, g_7, g_9) li wi mt ms ma mp mk mn ou) H := hP
        have hD : va_D A (WW ad cJ cI cZ bm pa p0 p1 (va_up g_5 i_2 t_13, va_up g_6 i_2 t_14, g_7, g_9) li wi mt ms ma mp mk mn ou) := hD
        refine lv_aload_n hx hb dX2_copyFrom_37 rfl (lv_at hl 1 rfl) ?_
        refine va_get (D := D) (ci := 2) (v := .ref (ad 21)) (C := RX2) (T := TX2) (N := 5) hx hb hts (inT inX2) hown hK hP 18 ww_18 rfl 3 (by decide) (hts (.fieldLink RX2 18 "BoardMoves$Placement" "turn" "[I") (List.mem_cons_of_mem _ flX2_18)) (fun _ h9 => h9) rfl dX2_copyFrom_38 ?_
        refine lv_iload_n hx hb dX2_copyFrom_41 rfl (lv_at hl 0 rfl) ?_
        refine lv_aload_n hx hb dX2_copyFrom_42 rfl (lv_at hl 2 rfl) ?_
        refine va_get (D := D) (ci := 2) (v := .ref (ad 11)) (C := RX2) (T := TX2) (N := 5) hx hb hts (inT inX2) hown hK hP 8 ww_8 rfl 3 (by decide) (hts (.fieldLink RX2 18 "BoardMoves$Placement" "turn" "[I") (List.mem_cons_of_mem _ flX2_18)) (fun _ h9 => h9) rfl dX2_copyFrom_43 ?_
        refine lv_iload_n hx hb dX2_copyFrom_46 rfl (lv_at hl 0 rfl) ?_
        refine bm_nald (f := p0.2.2.1) hx hb hK hP 11 1 ww_11 rfl (j := i_2) (by omega) (by decide) dX2_copyFrom_47 ?_
        refine bm_nast (f := g_7) hx hb hK hP hD hS 21 1 ww_21 rfl (j := i_2) (x := (p0.2.2.1 i_2)) (by omega) (by decide) dX2_copyFrom_48 (fun H locs hP hD hS => ?_)
        have hP : va_P D vwCl (WW ad cJ cI cZ bm pa p0 p1 (va_up g_5 i_2 t_13, va_up g_6 i_2 t_14, va_up g_7 i_2 (p0.2.2.1 i_2), g_9) li wi mt ms ma mp mk mn ou) H := hP
        have hD : va_D A (WW ad cJ cI cZ bm pa p0 p1 (va_up g_5 i_2 t_13, va_up g_6 i_2 t_14, va_up g_7 i_2 (p0.2.2.1 i_2), g_9) li wi mt ms ma mp mk mn ou) := hD
        refine lv_aload_n hx hb dX2_copyFrom_49 rfl (lv_at hl 1 rfl) ?_
        refine va_get (D := D) (ci := 2) (v := .ref (ad 22)) (C := RX2) (T := TX2) (N := 5) hx hb hts (inT inX2) hown hK hP 18 ww_18 rfl 4 (by decide) (hts (.fieldLink RX2 22 "BoardMoves$Placement" "placed" "[Z") (List.mem_cons_of_mem _ flX2_22)) (fun _ h9 => h9) rfl dX2_copyFrom_50 ?_
        refine lv_iload_n hx hb dX2_copyFrom_53 rfl (lv_at hl 0 rfl) ?_
        refine lv_aload_n hx hb dX2_copyFrom_54 rfl (lv_at hl 2 rfl) ?_
        refine va_get (D := D) (ci := 2) (v := .ref (ad 12)) (C := RX2) (T := TX2) (N := 5) hx hb hts (inT inX2) hown hK hP 8 ww_8 rfl 4 (by decide) (hts (.fieldLink RX2 22 "BoardMoves$Placement" "placed" "[Z") (List.mem_cons_of_mem _ flX2_22)) (fun _ h9 => h9) rfl dX2_copyFrom_55 ?_
        refine lv_iload_n hx hb dX2_copyFrom_58 rfl (lv_at hl 0 rfl) ?_
        refine bm_zald (f := p0.2.2.2) hx hb hK hP 12 2 ww_12 rfl (j := i_2) (by omega) (by decide) dX2_copyFrom_59 ?_
        refine bm_zast (f := g_9) hx hb hK hP hD hS 22 2 ww_22 rfl (j := i_2) (x := (p0.2.2.2 i_2)) (by omega) (by decide) dX2_copyFrom_60 (fun H locs hP hD hS => ?_)
        have hP : va_P D vwCl (WW ad cJ cI cZ bm pa p0 p1 (va_up g_5 i_2 t_13, va_up g_6 i_2 t_14, va_up g_7 i_2 (p0.2.2.1 i_2), va_up g_9 i_2 (p0.2.2.2 i_2)) li wi mt ms ma mp mk mn ou) H := hP
        have hD : va_D A (WW ad cJ cI cZ bm pa p0 p1 (va_up g_5 i_2 t_13, va_up g_6 i_2 t_14, va_up g_7 i_2 (p0.2.2.1 i_2), va_up g_9 i_2 (p0.2.2.2 i_2)) li wi mt ms ma mp mk mn ou) := hD
        refine lv_iinc (v := (nI (i_2 + 1))) (lv' := [(2, .int (nI (i_2 + 1))), (0, .ref (ad 18)), (1, .ref (ad 8))]) hx hb dX2_copyFrom_61 hl (k := 0) rfl (nI_1 i_2) (by decide) rfl (fun ls hl => ?_)
        refine lv_goto (tgt := 2) hx hb dX2_copyFrom_64 (by decide) ?_
        exact ih_4 (i_2 + 1) (va_up g_5 i_2 t_13) (va_up g_6 i_2 t_14) (va_up g_7 i_2 (p0.2.2.1 i_2)) (va_up g_9 i_2 (p0.2.2.2 i_2)) (by omega) (by omega) (bx_uplt ok_8 (ok_p0_turn _)) _ _ hP hD hS _ (lv_sub hl [0, 1, 2] rfl)
  exact lp_1 (pa.2.2.2.2.2.2 + 1) 0 p2.1 p2.2.1 p2.2.2.1 p2.2.2.2 (by omega) (by omega) ok_p2_turn _ _ hP hD hS _ (lv_sub hl [0, 1, 2] rfl)

set_option maxHeartbeats 8000000 in
set_option maxRecDepth 100000 in
theorem x_cp01 {l : Launch} {D : va_G} {ad : Nat → Nat} {cJ cI cZ : ClassId} {bm : gBM} {pa : gPA} {p0 p1 p2 : gPL} {li : gLI} {wi : gWI} {mt : Nat} {ms : gMS} {ma : gMA} {mp : gMP} {mk : gMK} {mn : gMN} {ou : Nat → Int64}  (ok_pa_n : pa.2.2.2.2.2.2 ≤ 40) (ok_p0_turn : ∀ i, p0.2.2.1 i < 40) (ok_p1_turn : ∀ i, p1.2.2.1 i < 40)   : bm_Wx l yX2_copyFrom wsX2_copyFrom ({ frames := 0, cells := 0, slots := 0, locals := 0 }) D vwCl [(cJ, .long), (cI, .int), (cZ, .boolean)] (WW ad cJ cI cZ bm pa p0 p1 p2 li wi mt ms ma mp mk mn ou) [.ref (ad 8), .ref (ad 13)] (fun ws9 r9 => ∃ (e0 : Nat → Int64) (e1 : Nat → Int64) (e2 : Nat → Nat) (e3 : Nat → Bool) , (∀ i, e2 i < 40) ∧ ws9 = (WW ad cJ cI cZ bm pa (e0, e1, e2, e3) p1 p2 li wi mt ms ma mp mk mn ou) ∧ r9 = none) := by
  intro sz
  refine Met.ofW (cc := cX2_copyFrom) (maxL := 3) (ret := none) (by decide) rfl ?_
  intro p e s m args below meth c s₁ B hml hv
  obtain ⟨ha, hsz, hP, hK, hD0⟩ := hv
  have hx := B.exec
  have hb := B.bytes
  have hr := B.returns
  have hts := atoms_spec (ws := wsX2_copyFrom) B.pre
  have hown : s.vm.findClass RX2 = some m.cls := findClass_of_methodNamed B.named
  have hlocks := B.notSynchronized
  subst hsz
  have hD := hD0.self (sz := s.heap.size)
  generalize hAe : va_A (WW ad cJ cI cZ bm pa p0 p1 p2 li wi mt ms ma mp mk mn ou) s.heap.size = A at hD ⊢
  have hA : ∀ q : Nat, s.heap.size ≤ q → A q := fun q h => by rw [← hAe]; exact Or.inr h
  have hS : va_S A s.heap s.heap [] := va_S.rf
  have hl := lv_entry ([.ref (ad 8), .ref (ad 13)]) (n := 3) (Nat.le_of_ble_eq_true rfl)
  refine W.eq (g2 := entryFrame m ([.ref (ad 8), .ref (ad 13)] : List Value).toArray 3) (by rw [ha]) ?_
  rw [lg_entry_eq]
  generalize (lg_sl ([.ref (ad 8), .ref (ad 13)]) ++ List.replicate (3 - (lg_sl ([.ref (ad 8), .ref (ad 13)])).length) Slot.unset).toArray = ls at hl ⊢
  have hl : lv_has ls 3 [(0, .ref (ad 8)), (1, .ref (ad 13))] := hl
  refine lv_iconst (v := nI 0) hx hb dX2_copyFrom_0 (by decide) ?_
  refine lv_istore_n (lv' := [(2, .int (nI 0)), (0, .ref (ad 8)), (1, .ref (ad 13))]) hx hb dX2_copyFrom_1 rfl hl (by decide) rfl (fun ls hl => ?_)
  have lp_1 : ∀ (k_3 : Nat) (i_2 : Nat) (g_5 : Nat → Int64) (g_6 : Nat → Int64) (g_7 : Nat → Nat) (g_9 : Nat → Bool), i_2 ≤ pa.2.2.2.2.2.2 → pa.2.2.2.2.2.2 < i_2 + k_3 → (∀ i, g_7 i < 40) → ∀ (H : Heap) (locs : List Loc), va_P D vwCl (WW ad cJ cI cZ bm pa (g_5, g_6, g_7, g_9) p1 p2 li wi mt ms ma mp mk mn ou) H → va_D A (WW ad cJ cI cZ bm pa (g_5, g_6, g_7, g_9) p1 p2 li wi mt ms ma mp mk mn ou) → va_S A s.heap H locs → ∀ (ls : Array Slot), lv_has ls 3 [(2, .int (nI i_2)), (0, .ref (ad 8)), (1, .ref (ad 13))] → W p l e (headSpec wsX2_copyFrom ({ frames := 0, cells := 0, slots := 0, locals := 0 })).room s m args below meth c H locs 0 0 (MQ below (bm_Wxq D vwCl [(cJ, .long), (cI, .int), (cZ, .boolean)] (fun ws9 r9 => ∃ (e0 : Nat → Int64) (e1 : Nat → Int64) (e2 : Nat → Nat) (e3 : Nat → Bool) , (∀ i, e2 i < 40) ∧ ws9 = (WW ad cJ cI cZ bm pa (e0, e1, e2, e3) p1 p2 li wi mt ms ma mp mk mn ou) ∧ r9 = none) A) args s 0 0 A) (F0 m 2 ls []) := by
    intro k_3
    induction k_3 with
    | zero => intro i_2 g_5 g_6 g_7 g_9 hi_10 hk_11; exfalso; omega
    | succ k_3 ih_4 =>
      intro i_2 g_5 g_6 g_7 g_9 hi_10 hk_11 ok_8 H locs hP hD hS ls hl
      refine lv_iload_n hx hb dX2_copyFrom_2 rfl (lv_at hl 0 rfl) ?_
      refine lv_aload_n hx hb dX2_copyFrom_3 rfl (lv_at hl 1 rfl) ?_
      refine va_get (D := D) (ci := 2) (v := .ref (ad 1)) (C := RX2) (T := TX2) (N := 5) hx hb hts (inT inX2) hown hK hP 8 ww_8 rfl 0 (by decide) (hts (.fieldLink RX2 26 "BoardMoves$Placement" "parts" "LBoardMoves$Parts;") (List.mem_cons_of_mem _ flX2_26)) (fun _ h9 => h9) rfl dX2_copyFrom_4 ?_
      refine va_get (D := D) (ci := 1) (v := .int (nI pa.2.2.2.2.2.2)) (C := RX1) (T := TX1) (N := 7) hx hb hts (inT inX1) hown hK hP 1 ww_1 rfl 6 (by decide) (hts (.fieldLink RX2 30 "BoardMoves$Parts" "count" "I") (List.mem_cons_of_mem _ flX2_30)) (fun _ h9 => h9) rfl dX2_copyFrom_7 ?_
      refine bm_ni_ge (x := i_2) (y := pa.2.2.2.2.2.2) (tgt := 67) hx hb (by omega) (by omega) dX2_copyFrom_10 (by decide) (fun c_12 => ?_) (fun c_12 => ?_)
      · exact bm_vretX hx hb hr hP hD hK hS ⟨g_5, g_6, g_7, g_9, ok_8, rfl, rfl⟩ dX2_copyFrom_67 hlocks
      · refine lv_aload_n hx hb dX2_copyFrom_13 rfl (lv_at hl 1 rfl) ?_
        refine va_get (D := D) (ci := 2) (v := .ref (ad 9)) (C := RX2) (T := TX2) (N := 5) hx hb hts (inT inX2) hown hK hP 8 ww_8 rfl 1 (by decide) (hts (.fieldLink RX2 9 "BoardMoves$Placement" "x" "[J") (List.mem_cons_of_mem _ flX2_9)) (fun _ h9 => h9) rfl dX2_copyFrom_14 ?_
        refine lv_iload_n hx hb dX2_copyFrom_17 rfl (lv_at hl 0 rfl) ?_
        refine lv_aload_n hx hb dX2_copyFrom_18 rfl (lv_at hl 2 rfl) ?_
        refine va_get (D := D) (ci := 2) (v := .ref (ad 14)) (C := RX2) (T := TX2) (N := 5) hx hb hts (inT inX2) hown hK hP 13 ww_13 rfl 1 (by decide) (hts (.fieldLink RX2 9 "BoardMoves$Placement" "x" "[J") (List.mem_cons_of_mem _ flX2_9)) (fun _ h9 => h9) rfl dX2_copyFrom_19 ?_
        refine lv_iload_n hx hb dX2_copyFrom_22 rfl (lv_at hl 0 rfl) ?_
        refine bm_lald (f := p1.1) hx hb hK hP 14 0 ww_14 rfl (j := i_2) (by omega) (by decide) dX2_copyFrom_23 ?_
        refine lv_topl (fun t_13 _ => ?_)
        refine bm_last (f := g_5) hx hb hK hP hD hS 9 0 ww_9 rfl (j := i_2) (x := t_13) (by omega) (by decide) dX2_copyFrom_24 (fun H locs hP hD hS => ?_)
        have hP : va_P D vwCl (WW ad cJ cI cZ bm pa (va_up g_5 i_2 t_13, g_6, g_7, g_9) p1 p2 li wi mt ms ma mp mk mn ou) H := hP
        have hD : va_D A (WW ad cJ cI cZ bm pa (va_up g_5 i_2 t_13, g_6, g_7, g_9) p1 p2 li wi mt ms ma mp mk mn ou) := hD
        refine lv_aload_n hx hb dX2_copyFrom_25 rfl (lv_at hl 1 rfl) ?_
        refine va_get (D := D) (ci := 2) (v := .ref (ad 10)) (C := RX2) (T := TX2) (N := 5) hx hb hts (inT inX2) hown hK hP 8 ww_8 rfl 2 (by decide) (hts (.fieldLink RX2 15 "BoardMoves$Placement" "y" "[J") (List.mem_cons_of_mem _ flX2_15)) (fun _ h9 => h9) rfl dX2_copyFrom_26 ?_
        refine lv_iload_n hx hb dX2_copyFrom_29 rfl (lv_at hl 0 rfl) ?_
        refine lv_aload_n hx hb dX2_copyFrom_30 rfl (lv_at hl 2 rfl) ?_
        refine va_get (D := D) (ci := 2) (v := .ref (ad 15)) (C := RX2) (T := TX2) (N := 5) hx hb hts (inT inX2) hown hK hP 13 ww_13 rfl 2 (by decide) (hts (.fieldLink RX2 15 "BoardMoves$Placement" "y" "[J") (List.mem_cons_of_mem _ flX2_15)) (fun _ h9 => h9) rfl dX2_copyFrom_31 ?_
        refine lv_iload_n hx hb dX2_copyFrom_34 rfl (lv_at hl 0 rfl) ?_
        refine bm_lald (f := p1.2.1) hx hb hK hP 15 0 ww_15 rfl (j := i_2) (by omega) (by decide) dX2_copyFrom_35 ?_
        refine lv_topl (fun t_14 _ => ?_)
        refine bm_last (f := g_6) hx hb hK hP hD hS 10 0 ww_10 rfl (j := i_2) (x := t_14) (by omega) (by decide) dX2_copyFrom_36 (fun H locs hP hD hS => ?_)
        have hP : va_P D vwCl (WW ad cJ cI cZ bm pa (va_up g_5 i_2 t_13, va_up g_6 i_2 t_14, g_7, g_9) p1 p2 li wi mt ms ma mp mk mn ou) H := hP
        have hD : va_D A (WW ad cJ cI cZ bm pa (va_up g_5 i_2 t_13, va_up g_6 i_2 t_14, g_7, g_9) p1 p2 li wi mt ms ma mp mk mn ou) := hD
        refine lv_aload_n hx hb dX2_copyFrom_37 rfl (lv_at hl 1 rfl) ?_
        refine va_get (D := D) (ci := 2) (v := .ref (ad 11)) (C := RX2) (T := TX2) (N := 5) hx hb hts (inT inX2) hown hK hP 8 ww_8 rfl 3 (by decide) (hts (.fieldLink RX2 18 "BoardMoves$Placement" "turn" "[I") (List.mem_cons_of_mem _ flX2_18)) (fun _ h9 => h9) rfl dX2_copyFrom_38 ?_
        refine lv_iload_n hx hb dX2_copyFrom_41 rfl (lv_at hl 0 rfl) ?_
        refine lv_aload_n hx hb dX2_copyFrom_42 rfl (lv_at hl 2 rfl) ?_
        refine va_get (D := D) (ci := 2) (v := .ref (ad 16)) (C := RX2) (T := TX2) (N := 5) hx hb hts (inT inX2) hown hK hP 13 ww_13 rfl 3 (by decide) (hts (.fieldLink RX2 18 "BoardMoves$Placement" "turn" "[I") (List.mem_cons_of_mem _ flX2_18)) (fun _ h9 => h9) rfl dX2_copyFrom_43 ?_
        refine lv_iload_n hx hb dX2_copyFrom_46 rfl (lv_at hl 0 rfl) ?_
        refine bm_nald (f := p1.2.2.1) hx hb hK hP 16 1 ww_16 rfl (j := i_2) (by omega) (by decide) dX2_copyFrom_47 ?_
        refine bm_nast (f := g_7) hx hb hK hP hD hS 11 1 ww_11 rfl (j := i_2) (x := (p1.2.2.1 i_2)) (by omega) (by decide) dX2_copyFrom_48 (fun H locs hP hD hS => ?_)
        have hP : va_P D vwCl (WW ad cJ cI cZ bm pa (va_up g_5 i_2 t_13, va_up g_6 i_2 t_14, va_up g_7 i_2 (p1.2.2.1 i_2), g_9) p1 p2 li wi mt ms ma mp mk mn ou) H := hP
        have hD : va_D A (WW ad cJ cI cZ bm pa (va_up g_5 i_2 t_13, va_up g_6 i_2 t_14, va_up g_7 i_2 (p1.2.2.1 i_2), g_9) p1 p2 li wi mt ms ma mp mk mn ou) := hD
        refine lv_aload_n hx hb dX2_copyFrom_49 rfl (lv_at hl 1 rfl) ?_
        refine va_get (D := D) (ci := 2) (v := .ref (ad 12)) (C := RX2) (T := TX2) (N := 5) hx hb hts (inT inX2) hown hK hP 8 ww_8 rfl 4 (by decide) (hts (.fieldLink RX2 22 "BoardMoves$Placement" "placed" "[Z") (List.mem_cons_of_mem _ flX2_22)) (fun _ h9 => h9) rfl dX2_copyFrom_50 ?_
        refine lv_iload_n hx hb dX2_copyFrom_53 rfl (lv_at hl 0 rfl) ?_
        refine lv_aload_n hx hb dX2_copyFrom_54 rfl (lv_at hl 2 rfl) ?_
        refine va_get (D := D) (ci := 2) (v := .ref (ad 17)) (C := RX2) (T := TX2) (N := 5) hx hb hts (inT inX2) hown hK hP 13 ww_13 rfl 4 (by decide) (hts (.fieldLink RX2 22 "BoardMoves$Placement" "placed" "[Z") (List.mem_cons_of_mem _ flX2_22)) (fun _ h9 => h9) rfl dX2_copyFrom_55 ?_
        refine lv_iload_n hx hb dX2_copyFrom_58 rfl (lv_at hl 0 rfl) ?_
        refine bm_zald (f := p1.2.2.2) hx hb hK hP 17 2 ww_17 rfl (j := i_2) (by omega) (by decide) dX2_copyFrom_59 ?_
        refine bm_zast (f := g_9) hx hb hK hP hD hS 12 2 ww_12 rfl (j := i_2) (x := (p1.2.2.2 i_2)) (by omega) (by decide) dX2_copyFrom_60 (fun H locs hP hD hS => ?_)
        have hP : va_P D vwCl (WW ad cJ cI cZ bm pa (va_up g_5 i_2 t_13, va_up g_6 i_2 t_14, va_up g_7 i_2 (p1.2.2.1 i_2), va_up g_9 i_2 (p1.2.2.2 i_2)) p1 p2 li wi mt ms ma mp mk mn ou) H := hP
        have hD : va_D A (WW ad cJ cI cZ bm pa (va_up g_5 i_2 t_13, va_up g_6 i_2 t_14, va_up g_7 i_2 (p1.2.2.1 i_2), va_up g_9 i_2 (p1.2.2.2 i_2)) p1 p2 li wi mt ms ma mp mk mn ou) := hD
        refine lv_iinc (v := (nI (i_2 + 1))) (lv' := [(2, .int (nI (i_2 + 1))), (0, .ref (ad 8)), (1, .ref (ad 13))]) hx hb dX2_copyFrom_61 hl (k := 0) rfl (nI_1 i_2) (by decide) rfl (fun ls hl => ?_)
        refine lv_goto (tgt := 2) hx hb dX2_copyFrom_64 (by decide) ?_
        exact ih_4 (i_2 + 1) (va_up g_5 i_2 t_13) (va_up g_6 i_2 t_14) (va_up g_7 i_2 (p1.2.2.1 i_2)) (va_up g_9 i_2 (p1.2.2.2 i_2)) (by omega) (by omega) (bx_uplt ok_8 (ok_p1_turn _)) _ _ hP hD hS _ (lv_sub hl [0, 1, 2] rfl)
  exact lp_1 (pa.2.2.2.2.2.2 + 1) 0 p0.1 p0.2.1 p0.2.2.1 p0.2.2.2 (by omega) (by omega) ok_p0_turn _ _ hP hD hS _ (lv_sub hl [0, 1, 2] rfl)

set_option maxHeartbeats 8000000 in
set_option maxRecDepth 100000 in
theorem x_cp02 {l : Launch} {D : va_G} {ad : Nat → Nat} {cJ cI cZ : ClassId} {bm : gBM} {pa : gPA} {p0 p1 p2 : gPL} {li : gLI} {wi : gWI} {mt : Nat} {ms : gMS} {ma : gMA} {mp : gMP} {mk : gMK} {mn : gMN} {ou : Nat → Int64}  (ok_pa_n : pa.2.2.2.2.2.2 ≤ 40) (ok_p0_turn : ∀ i, p0.2.2.1 i < 40) (ok_p2_turn : ∀ i, p2.2.2.1 i < 40)   : bm_Wx l yX2_copyFrom wsX2_copyFrom ({ frames := 0, cells := 0, slots := 0, locals := 0 }) D vwCl [(cJ, .long), (cI, .int), (cZ, .boolean)] (WW ad cJ cI cZ bm pa p0 p1 p2 li wi mt ms ma mp mk mn ou) [.ref (ad 8), .ref (ad 18)] (fun ws9 r9 => ∃ (e0 : Nat → Int64) (e1 : Nat → Int64) (e2 : Nat → Nat) (e3 : Nat → Bool) , (∀ i, e2 i < 40) ∧ ws9 = (WW ad cJ cI cZ bm pa (e0, e1, e2, e3) p1 p2 li wi mt ms ma mp mk mn ou) ∧ r9 = none) := by
  intro sz
  refine Met.ofW (cc := cX2_copyFrom) (maxL := 3) (ret := none) (by decide) rfl ?_
  intro p e s m args below meth c s₁ B hml hv
  obtain ⟨ha, hsz, hP, hK, hD0⟩ := hv
  have hx := B.exec
  have hb := B.bytes
  have hr := B.returns
  have hts := atoms_spec (ws := wsX2_copyFrom) B.pre
  have hown : s.vm.findClass RX2 = some m.cls := findClass_of_methodNamed B.named
  have hlocks := B.notSynchronized
  subst hsz
  have hD := hD0.self (sz := s.heap.size)
  generalize hAe : va_A (WW ad cJ cI cZ bm pa p0 p1 p2 li wi mt ms ma mp mk mn ou) s.heap.size = A at hD ⊢
  have hA : ∀ q : Nat, s.heap.size ≤ q → A q := fun q h => by rw [← hAe]; exact Or.inr h
  have hS : va_S A s.heap s.heap [] := va_S.rf
  have hl := lv_entry ([.ref (ad 8), .ref (ad 18)]) (n := 3) (Nat.le_of_ble_eq_true rfl)
  refine W.eq (g2 := entryFrame m ([.ref (ad 8), .ref (ad 18)] : List Value).toArray 3) (by rw [ha]) ?_
  rw [lg_entry_eq]
  generalize (lg_sl ([.ref (ad 8), .ref (ad 18)]) ++ List.replicate (3 - (lg_sl ([.ref (ad 8), .ref (ad 18)])).length) Slot.unset).toArray = ls at hl ⊢
  have hl : lv_has ls 3 [(0, .ref (ad 8)), (1, .ref (ad 18))] := hl
  refine lv_iconst (v := nI 0) hx hb dX2_copyFrom_0 (by decide) ?_
  refine lv_istore_n (lv' := [(2, .int (nI 0)), (0, .ref (ad 8)), (1, .ref (ad 18))]) hx hb dX2_copyFrom_1 rfl hl (by decide) rfl (fun ls hl => ?_)
  have lp_1 : ∀ (k_3 : Nat) (i_2 : Nat) (g_5 : Nat → Int64) (g_6 : Nat → Int64) (g_7 : Nat → Nat) (g_9 : Nat → Bool), i_2 ≤ pa.2.2.2.2.2.2 → pa.2.2.2.2.2.2 < i_2 + k_3 → (∀ i, g_7 i < 40) → ∀ (H : Heap) (locs : List Loc), va_P D vwCl (WW ad cJ cI cZ bm pa (g_5, g_6, g_7, g_9) p1 p2 li wi mt ms ma mp mk mn ou) H → va_D A (WW ad cJ cI cZ bm pa (g_5, g_6, g_7, g_9) p1 p2 li wi mt ms ma mp mk mn ou) → va_S A s.heap H locs → ∀ (ls : Array Slot), lv_has ls 3 [(2, .int (nI i_2)), (0, .ref (ad 8)), (1, .ref (ad 18))] → W p l e (headSpec wsX2_copyFrom ({ frames := 0, cells := 0, slots := 0, locals := 0 })).room s m args below meth c H locs 0 0 (MQ below (bm_Wxq D vwCl [(cJ, .long), (cI, .int), (cZ, .boolean)] (fun ws9 r9 => ∃ (e0 : Nat → Int64) (e1 : Nat → Int64) (e2 : Nat → Nat) (e3 : Nat → Bool) , (∀ i, e2 i < 40) ∧ ws9 = (WW ad cJ cI cZ bm pa (e0, e1, e2, e3) p1 p2 li wi mt ms ma mp mk mn ou) ∧ r9 = none) A) args s 0 0 A) (F0 m 2 ls []) := by
    intro k_3
    induction k_3 with
    | zero => intro i_2 g_5 g_6 g_7 g_9 hi_10 hk_11; exfalso; omega
    | succ k_3 ih_4 =>
      intro i_2 g_5 g_6 g_7 g_9 hi_10 hk_11 ok_8 H locs hP hD hS ls hl
      refine lv_iload_n hx hb dX2_copyFrom_2 rfl (lv_at hl 0 rfl) ?_
      refine lv_aload_n hx hb dX2_copyFrom_3 rfl (lv_at hl 1 rfl) ?_
      refine va_get (D := D) (ci := 2) (v := .ref (ad 1)) (C := RX2) (T := TX2) (N := 5) hx hb hts (inT inX2) hown hK hP 8 ww_8 rfl 0 (by decide) (hts (.fieldLink RX2 26 "BoardMoves$Placement" "parts" "LBoardMoves$Parts;") (List.mem_cons_of_mem _ flX2_26)) (fun _ h9 => h9) rfl dX2_copyFrom_4 ?_
      refine va_get (D := D) (ci := 1) (v := .int (nI pa.2.2.2.2.2.2)) (C := RX1) (T := TX1) (N := 7) hx hb hts (inT inX1) hown hK hP 1 ww_1 rfl 6 (by decide) (hts (.fieldLink RX2 30 "BoardMoves$Parts" "count" "I") (List.mem_cons_of_mem _ flX2_30)) (fun _ h9 => h9) rfl dX2_copyFrom_7 ?_
      refine bm_ni_ge (x := i_2) (y := pa.2.2.2.2.2.2) (tgt := 67) hx hb (by omega) (by omega) dX2_copyFrom_10 (by decide) (fun c_12 => ?_) (fun c_12 => ?_)
      · exact bm_vretX hx hb hr hP hD hK hS ⟨g_5, g_6, g_7, g_9, ok_8, rfl, rfl⟩ dX2_copyFrom_67 hlocks
      · refine lv_aload_n hx hb dX2_copyFrom_13 rfl (lv_at hl 1 rfl) ?_
        refine va_get (D := D) (ci := 2) (v := .ref (ad 9)) (C := RX2) (T := TX2) (N := 5) hx hb hts (inT inX2) hown hK hP 8 ww_8 rfl 1 (by decide) (hts (.fieldLink RX2 9 "BoardMoves$Placement" "x" "[J") (List.mem_cons_of_mem _ flX2_9)) (fun _ h9 => h9) rfl dX2_copyFrom_14 ?_
        refine lv_iload_n hx hb dX2_copyFrom_17 rfl (lv_at hl 0 rfl) ?_
        refine lv_aload_n hx hb dX2_copyFrom_18 rfl (lv_at hl 2 rfl) ?_
        refine va_get (D := D) (ci := 2) (v := .ref (ad 19)) (C := RX2) (T := TX2) (N := 5) hx hb hts (inT inX2) hown hK hP 18 ww_18 rfl 1 (by decide) (hts (.fieldLink RX2 9 "BoardMoves$Placement" "x" "[J") (List.mem_cons_of_mem _ flX2_9)) (fun _ h9 => h9) rfl dX2_copyFrom_19 ?_
        refine lv_iload_n hx hb dX2_copyFrom_22 rfl (lv_at hl 0 rfl) ?_
        refine bm_lald (f := p2.1) hx hb hK hP 19 0 ww_19 rfl (j := i_2) (by omega) (by decide) dX2_copyFrom_23 ?_
        refine lv_topl (fun t_13 _ => ?_)
        refine bm_last (f := g_5) hx hb hK hP hD hS 9 0 ww_9 rfl (j := i_2) (x := t_13) (by omega) (by decide) dX2_copyFrom_24 (fun H locs hP hD hS => ?_)
        have hP : va_P D vwCl (WW ad cJ cI cZ bm pa (va_up g_5 i_2 t_13, g_6, g_7, g_9) p1 p2 li wi mt ms ma mp mk mn ou) H := hP
        have hD : va_D A (WW ad cJ cI cZ bm pa (va_up g_5 i_2 t_13, g_6, g_7, g_9) p1 p2 li wi mt ms ma mp mk mn ou) := hD
        refine lv_aload_n hx hb dX2_copyFrom_25 rfl (lv_at hl 1 rfl) ?_
        refine va_get (D := D) (ci := 2) (v := .ref (ad 10)) (C := RX2) (T := TX2) (N := 5) hx hb hts (inT inX2) hown hK hP 8 ww_8 rfl 2 (by decide) (hts (.fieldLink RX2 15 "BoardMoves$Placement" "y" "[J") (List.mem_cons_of_mem _ flX2_15)) (fun _ h9 => h9) rfl dX2_copyFrom_26 ?_
        refine lv_iload_n hx hb dX2_copyFrom_29 rfl (lv_at hl 0 rfl) ?_
        refine lv_aload_n hx hb dX2_copyFrom_30 rfl (lv_at hl 2 rfl) ?_
        refine va_get (D := D) (ci := 2) (v := .ref (ad 20)) (C := RX2) (T := TX2) (N := 5) hx hb hts (inT inX2) hown hK hP 18 ww_18 rfl 2 (by decide) (hts (.fieldLink RX2 15 "BoardMoves$Placement" "y" "[J") (List.mem_cons_of_mem _ flX2_15)) (fun _ h9 => h9) rfl dX2_copyFrom_31 ?_
        refine lv_iload_n hx hb dX2_copyFrom_34 rfl (lv_at hl 0 rfl) ?_
        refine bm_lald (f := p2.2.1) hx hb hK hP 20 0 ww_20 rfl (j := i_2) (by omega) (by decide) dX2_copyFrom_35 ?_
        refine lv_topl (fun t_14 _ => ?_)
        refine bm_last (f := g_6) hx hb hK hP hD hS 10 0 ww_10 rfl (j := i_2) (x := t_14) (by omega) (by decide) dX2_copyFrom_36 (fun H locs hP hD hS => ?_)
        have hP : va_P D vwCl (WW ad cJ cI cZ bm pa (va_up g_5 i_2 t_13, va_up g_6 i_2 t_14, g_7, g_9) p1 p2 li wi mt ms ma mp mk mn ou) H := hP
        have hD : va_D A (WW ad cJ cI cZ bm pa (va_up g_5 i_2 t_13, va_up g_6 i_2 t_14, g_7, g_9) p1 p2 li wi mt ms ma mp mk mn ou) := hD
        refine lv_aload_n hx hb dX2_copyFrom_37 rfl (lv_at hl 1 rfl) ?_
        refine va_get (D := D) (ci := 2) (v := .ref (ad 11)) (C := RX2) (T := TX2) (N := 5) hx hb hts (inT inX2) hown hK hP 8 ww_8 rfl 3 (by decide) (hts (.fieldLink RX2 18 "BoardMoves$Placement" "turn" "[I") (List.mem_cons_of_mem _ flX2_18)) (fun _ h9 => h9) rfl dX2_copyFrom_38 ?_
        refine lv_iload_n hx hb dX2_copyFrom_41 rfl (lv_at hl 0 rfl) ?_
        refine lv_aload_n hx hb dX2_copyFrom_42 rfl (lv_at hl 2 rfl) ?_
        refine va_get (D := D) (ci := 2) (v := .ref (ad 21)) (C := RX2) (T := TX2) (N := 5) hx hb hts (inT inX2) hown hK hP 18 ww_18 rfl 3 (by decide) (hts (.fieldLink RX2 18 "BoardMoves$Placement" "turn" "[I") (List.mem_cons_of_mem _ flX2_18)) (fun _ h9 => h9) rfl dX2_copyFrom_43 ?_
        refine lv_iload_n hx hb dX2_copyFrom_46 rfl (lv_at hl 0 rfl) ?_
        refine bm_nald (f := p2.2.2.1) hx hb hK hP 21 1 ww_21 rfl (j := i_2) (by omega) (by decide) dX2_copyFrom_47 ?_
        refine bm_nast (f := g_7) hx hb hK hP hD hS 11 1 ww_11 rfl (j := i_2) (x := (p2.2.2.1 i_2)) (by omega) (by decide) dX2_copyFrom_48 (fun H locs hP hD hS => ?_)
        have hP : va_P D vwCl (WW ad cJ cI cZ bm pa (va_up g_5 i_2 t_13, va_up g_6 i_2 t_14, va_up g_7 i_2 (p2.2.2.1 i_2), g_9) p1 p2 li wi mt ms ma mp mk mn ou) H := hP
        have hD : va_D A (WW ad cJ cI cZ bm pa (va_up g_5 i_2 t_13, va_up g_6 i_2 t_14, va_up g_7 i_2 (p2.2.2.1 i_2), g_9) p1 p2 li wi mt ms ma mp mk mn ou) := hD
        refine lv_aload_n hx hb dX2_copyFrom_49 rfl (lv_at hl 1 rfl) ?_
        refine va_get (D := D) (ci := 2) (v := .ref (ad 12)) (C := RX2) (T := TX2) (N := 5) hx hb hts (inT inX2) hown hK hP 8 ww_8 rfl 4 (by decide) (hts (.fieldLink RX2 22 "BoardMoves$Placement" "placed" "[Z") (List.mem_cons_of_mem _ flX2_22)) (fun _ h9 => h9) rfl dX2_copyFrom_50 ?_
        refine lv_iload_n hx hb dX2_copyFrom_53 rfl (lv_at hl 0 rfl) ?_
        refine lv_aload_n hx hb dX2_copyFrom_54 rfl (lv_at hl 2 rfl) ?_
        refine va_get (D := D) (ci := 2) (v := .ref (ad 22)) (C := RX2) (T := TX2) (N := 5) hx hb hts (inT inX2) hown hK hP 18 ww_18 rfl 4 (by decide) (hts (.fieldLink RX2 22 "BoardMoves$Placement" "placed" "[Z") (List.mem_cons_of_mem _ flX2_22)) (fun _ h9 => h9) rfl dX2_copyFrom_55 ?_
        refine lv_iload_n hx hb dX2_copyFrom_58 rfl (lv_at hl 0 rfl) ?_
        refine bm_zald (f := p2.2.2.2) hx hb hK hP 22 2 ww_22 rfl (j := i_2) (by omega) (by decide) dX2_copyFrom_59 ?_
        refine bm_zast (f := g_9) hx hb hK hP hD hS 12 2 ww_12 rfl (j := i_2) (x := (p2.2.2.2 i_2)) (by omega) (by decide) dX2_copyFrom_60 (fun H locs hP hD hS => ?_)
        have hP : va_P D vwCl (WW ad cJ cI cZ bm pa (va_up g_5 i_2 t_13, va_up g_6 i_2 t_14, va_up g_7 i_2 (p2.2.2.1 i_2), va_up g_9 i_2 (p2.2.2.2 i_2)) p1 p2 li wi mt ms ma mp mk mn ou) H := hP
        have hD : va_D A (WW ad cJ cI cZ bm pa (va_up g_5 i_2 t_13, va_up g_6 i_2 t_14, va_up g_7 i_2 (p2.2.2.1 i_2), va_up g_9 i_2 (p2.2.2.2 i_2)) p1 p2 li wi mt ms ma mp mk mn ou) := hD
        refine lv_iinc (v := (nI (i_2 + 1))) (lv' := [(2, .int (nI (i_2 + 1))), (0, .ref (ad 8)), (1, .ref (ad 18))]) hx hb dX2_copyFrom_61 hl (k := 0) rfl (nI_1 i_2) (by decide) rfl (fun ls hl => ?_)
        refine lv_goto (tgt := 2) hx hb dX2_copyFrom_64 (by decide) ?_
        exact ih_4 (i_2 + 1) (va_up g_5 i_2 t_13) (va_up g_6 i_2 t_14) (va_up g_7 i_2 (p2.2.2.1 i_2)) (va_up g_9 i_2 (p2.2.2.2 i_2)) (by omega) (by omega) (bx_uplt ok_8 (ok_p2_turn _)) _ _ hP hD hS _ (lv_sub hl [0, 1, 2] rfl)
  exact lp_1 (pa.2.2.2.2.2.2 + 1) 0 p0.1 p0.2.1 p0.2.2.1 p0.2.2.2 (by omega) (by omega) ok_p0_turn _ _ hP hD hS _ (lv_sub hl [0, 1, 2] rfl)

set_option maxHeartbeats 8000000 in
set_option maxRecDepth 100000 in
theorem x_place {l : Launch} {D : va_G} {ad : Nat → Nat} {cJ cI cZ : ClassId} {bm : gBM} {pa : gPA} {p0 p1 p2 : gPL} {li : gLI} {wi : gWI} {mt : Nat} {ms : gMS} {ma : gMA} {mp : gMP} {mk : gMK} {mn : gMN} {ou : Nat → Int64} {zj : Nat} {z1 : Int64} {z2 : Int64} {zt : Nat} (ok_p0_turn : ∀ i, p0.2.2.1 i < 40) (hp0 : zj < 40) (hp1 : zt < 40)  : bm_Wx l yX2_place wsX2_place ({ frames := 0, cells := 0, slots := 0, locals := 0 }) D vwCl [(cJ, .long), (cI, .int), (cZ, .boolean)] (WW ad cJ cI cZ bm pa p0 p1 p2 li wi mt ms ma mp mk mn ou) [.ref (ad 8), .int (nI zj), .long z1, .long z2, .int (nI zt)] (fun ws9 r9 => ∃ (e0 : Nat → Int64) (e1 : Nat → Int64) (e2 : Nat → Nat) (e3 : Nat → Bool) , (∀ i, e2 i < 40) ∧ ws9 = (WW ad cJ cI cZ bm pa (e0, e1, e2, e3) p1 p2 li wi mt ms ma mp mk mn ou) ∧ r9 = none) := by
  intro sz
  refine Met.ofW (cc := cX2_place) (maxL := 7) (ret := none) (by decide) rfl ?_
  intro p e s m args below meth c s₁ B hml hv
  obtain ⟨ha, hsz, hP, hK, hD0⟩ := hv
  have hx := B.exec
  have hb := B.bytes
  have hr := B.returns
  have hts := atoms_spec (ws := wsX2_place) B.pre
  have hown : s.vm.findClass RX2 = some m.cls := findClass_of_methodNamed B.named
  have hlocks := B.notSynchronized
  subst hsz
  have hD := hD0.self (sz := s.heap.size)
  generalize hAe : va_A (WW ad cJ cI cZ bm pa p0 p1 p2 li wi mt ms ma mp mk mn ou) s.heap.size = A at hD ⊢
  have hA : ∀ q : Nat, s.heap.size ≤ q → A q := fun q h => by rw [← hAe]; exact Or.inr h
  have hS : va_S A s.heap s.heap [] := va_S.rf
  have hl := lv_entry ([.ref (ad 8), .int (nI zj), .long z1, .long z2, .int (nI zt)]) (n := 7) (Nat.le_of_ble_eq_true rfl)
  refine W.eq (g2 := entryFrame m ([.ref (ad 8), .int (nI zj), .long z1, .long z2, .int (nI zt)] : List Value).toArray 7) (by rw [ha]) ?_
  rw [lg_entry_eq]
  generalize (lg_sl ([.ref (ad 8), .int (nI zj), .long z1, .long z2, .int (nI zt)]) ++ List.replicate (7 - (lg_sl ([.ref (ad 8), .int (nI zj), .long z1, .long z2, .int (nI zt)])).length) Slot.unset).toArray = ls at hl ⊢
  have hl : lv_has ls 7 [(0, .ref (ad 8)), (1, .int (nI zj)), (2, .long z1), (4, .long z2), (6, .int (nI zt))] := hl
  refine lv_aload_n hx hb dX2_place_0 rfl (lv_at hl 0 rfl) ?_
  refine va_get (D := D) (ci := 2) (v := .ref (ad 9)) (C := RX2) (T := TX2) (N := 5) hx hb hts (inT inX2) hown hK hP 8 ww_8 rfl 1 (by decide) (hts (.fieldLink RX2 9 "BoardMoves$Placement" "x" "[J") (List.mem_cons_of_mem _ flX2_9)) (fun _ h9 => h9) rfl dX2_place_1 ?_
  refine lv_iload_n hx hb dX2_place_4 rfl (lv_at hl 1 rfl) ?_
  refine lv_lload_n hx hb dX2_place_5 rfl (lv_at hl 2 rfl) ?_
  refine bm_last (f := p0.1) hx hb hK hP hD hS 9 0 ww_9 rfl (j := zj) (x := z1) (by omega) (by decide) dX2_place_6 (fun H locs hP hD hS => ?_)
  have hP : va_P D vwCl (WW ad cJ cI cZ bm pa (va_up p0.1 zj z1, p0.2.1, p0.2.2.1, p0.2.2.2) p1 p2 li wi mt ms ma mp mk mn ou) H := hP
  have hD : va_D A (WW ad cJ cI cZ bm pa (va_up p0.1 zj z1, p0.2.1, p0.2.2.1, p0.2.2.2) p1 p2 li wi mt ms ma mp mk mn ou) := hD
  refine lv_aload_n hx hb dX2_place_7 rfl (lv_at hl 0 rfl) ?_
  refine va_get (D := D) (ci := 2) (v := .ref (ad 10)) (C := RX2) (T := TX2) (N := 5) hx hb hts (inT inX2) hown hK hP 8 ww_8 rfl 2 (by decide) (hts (.fieldLink RX2 15 "BoardMoves$Placement" "y" "[J") (List.mem_cons_of_mem _ flX2_15)) (fun _ h9 => h9) rfl dX2_place_8 ?_
  refine lv_iload_n hx hb dX2_place_11 rfl (lv_at hl 1 rfl) ?_
  refine lv_lload hx hb dX2_place_12 (lv_at hl 3 rfl) ?_
  refine bm_last (f := p0.2.1) hx hb hK hP hD hS 10 0 ww_10 rfl (j := zj) (x := z2) (by omega) (by decide) dX2_place_14 (fun H locs hP hD hS => ?_)
  have hP : va_P D vwCl (WW ad cJ cI cZ bm pa (va_up p0.1 zj z1, va_up p0.2.1 zj z2, p0.2.2.1, p0.2.2.2) p1 p2 li wi mt ms ma mp mk mn ou) H := hP
  have hD : va_D A (WW ad cJ cI cZ bm pa (va_up p0.1 zj z1, va_up p0.2.1 zj z2, p0.2.2.1, p0.2.2.2) p1 p2 li wi mt ms ma mp mk mn ou) := hD
  refine lv_aload_n hx hb dX2_place_15 rfl (lv_at hl 0 rfl) ?_
  refine va_get (D := D) (ci := 2) (v := .ref (ad 11)) (C := RX2) (T := TX2) (N := 5) hx hb hts (inT inX2) hown hK hP 8 ww_8 rfl 3 (by decide) (hts (.fieldLink RX2 18 "BoardMoves$Placement" "turn" "[I") (List.mem_cons_of_mem _ flX2_18)) (fun _ h9 => h9) rfl dX2_place_16 ?_
  refine lv_iload_n hx hb dX2_place_19 rfl (lv_at hl 1 rfl) ?_
  refine lv_iload hx hb dX2_place_20 (lv_at hl 4 rfl) ?_
  refine bm_nast (f := p0.2.2.1) hx hb hK hP hD hS 11 1 ww_11 rfl (j := zj) (x := zt) (by omega) (by decide) dX2_place_22 (fun H locs hP hD hS => ?_)
  have hP : va_P D vwCl (WW ad cJ cI cZ bm pa (va_up p0.1 zj z1, va_up p0.2.1 zj z2, va_up p0.2.2.1 zj zt, p0.2.2.2) p1 p2 li wi mt ms ma mp mk mn ou) H := hP
  have hD : va_D A (WW ad cJ cI cZ bm pa (va_up p0.1 zj z1, va_up p0.2.1 zj z2, va_up p0.2.2.1 zj zt, p0.2.2.2) p1 p2 li wi mt ms ma mp mk mn ou) := hD
  refine lv_aload_n hx hb dX2_place_23 rfl (lv_at hl 0 rfl) ?_
  refine va_get (D := D) (ci := 2) (v := .ref (ad 12)) (C := RX2) (T := TX2) (N := 5) hx hb hts (inT inX2) hown hK hP 8 ww_8 rfl 4 (by decide) (hts (.fieldLink RX2 22 "BoardMoves$Placement" "placed" "[Z") (List.mem_cons_of_mem _ flX2_22)) (fun _ h9 => h9) rfl dX2_place_24 ?_
  refine lv_iload_n hx hb dX2_place_27 rfl (lv_at hl 1 rfl) ?_
  refine lv_iconst (v := bm_b true) hx hb dX2_place_28 (by decide) ?_
  refine bm_zast (f := p0.2.2.2) hx hb hK hP hD hS 12 2 ww_12 rfl (j := zj) (x := true) (by omega) (by decide) dX2_place_29 (fun H locs hP hD hS => ?_)
  have hP : va_P D vwCl (WW ad cJ cI cZ bm pa (va_up p0.1 zj z1, va_up p0.2.1 zj z2, va_up p0.2.2.1 zj zt, va_up p0.2.2.2 zj true) p1 p2 li wi mt ms ma mp mk mn ou) H := hP
  have hD : va_D A (WW ad cJ cI cZ bm pa (va_up p0.1 zj z1, va_up p0.2.1 zj z2, va_up p0.2.2.1 zj zt, va_up p0.2.2.2 zj true) p1 p2 li wi mt ms ma mp mk mn ou) := hD
  exact bm_vretX hx hb hr hP hD hK hS ⟨(va_up p0.1 zj z1), (va_up p0.2.1 zj z2), (va_up p0.2.2.1 zj zt), (va_up p0.2.2.2 zj true), (bx_uplt ok_p0_turn (by omega)), rfl, rfl⟩ dX2_place_30 hlocks

set_option maxHeartbeats 8000000 in
set_option maxRecDepth 100000 in
theorem x_shift {l : Launch} {D : va_G} {ad : Nat → Nat} {cJ cI cZ : ClassId} {bm : gBM} {pa : gPA} {p0 p1 p2 : gPL} {li : gLI} {wi : gWI} {mt : Nat} {ms : gMS} {ma : gMA} {mp : gMP} {mk : gMK} {mn : gMN} {ou : Nat → Int64} {zj : Nat} {z1 : Int64} {z2 : Int64} (ok_pa_n : pa.2.2.2.2.2.2 ≤ 40) (ok_pa_lowest : ∀ i, pa.2.2.2.2.2.1 i < 40) (hp0 : zj < 40)  : bm_Wx l yX2_shiftGroup wsX2_shiftGroup ({ frames := 1, cells := 0, slots := 0, locals := 22 }) D vwCl [(cJ, .long), (cI, .int), (cZ, .boolean)] (WW ad cJ cI cZ bm pa p0 p1 p2 li wi mt ms ma mp mk mn ou) [.ref (ad 8), .int (nI zj), .long z1, .long z2] (fun ws9 r9 => ∃ (e0 : Nat → Int64) (e1 : Nat → Int64) , ws9 = (WW ad cJ cI cZ bm pa (e0, e1, p0.2.2.1, p0.2.2.2) p1 p2 li wi mt ms ma mp mk mn ou) ∧ r9 = none) := by
  intro sz
  refine Met.ofW (cc := cX2_shiftGroup) (maxL := 7) (ret := none) (by decide) rfl ?_
  intro p e s m args below meth c s₁ B hml hv
  obtain ⟨ha, hsz, hP, hK, hD0⟩ := hv
  have hx := B.exec
  have hb := B.bytes
  have hr := B.returns
  have hts := atoms_spec (ws := wsX2_shiftGroup) B.pre
  have hown : s.vm.findClass RX2 = some m.cls := findClass_of_methodNamed B.named
  have hlocks := B.notSynchronized
  subst hsz
  have hD := hD0.self (sz := s.heap.size)
  generalize hAe : va_A (WW ad cJ cI cZ bm pa p0 p1 p2 li wi mt ms ma mp mk mn ou) s.heap.size = A at hD ⊢
  have hA : ∀ q : Nat, s.heap.size ≤ q → A q := fun q h => by rw [← hAe]; exact Or.inr h
  have hS : va_S A s.heap s.heap [] := va_S.rf
  have hl := lv_entry ([.ref (ad 8), .int (nI zj), .long z1, .long z2]) (n := 7) (Nat.le_of_ble_eq_true rfl)
  refine W.eq (g2 := entryFrame m ([.ref (ad 8), .int (nI zj), .long z1, .long z2] : List Value).toArray 7) (by rw [ha]) ?_
  rw [lg_entry_eq]
  generalize (lg_sl ([.ref (ad 8), .int (nI zj), .long z1, .long z2]) ++ List.replicate (7 - (lg_sl ([.ref (ad 8), .int (nI zj), .long z1, .long z2])).length) Slot.unset).toArray = ls at hl ⊢
  have hl : lv_has ls 7 [(0, .ref (ad 8)), (1, .int (nI zj)), (2, .long z1), (4, .long z2)] := hl
  refine lv_iconst (v := nI 0) hx hb dX2_shiftGroup_0 (by decide) ?_
  refine lv_istore (lv' := [(6, .int (nI 0)), (0, .ref (ad 8)), (1, .int (nI zj)), (2, .long z1), (4, .long z2)]) hx hb dX2_shiftGroup_1 hl (by decide) rfl (fun ls hl => ?_)
  have lp_1 : ∀ (k_3 : Nat) (i_2 : Nat) (g_5 : Nat → Int64) (g_6 : Nat → Int64), i_2 ≤ pa.2.2.2.2.2.2 → pa.2.2.2.2.2.2 < i_2 + k_3 → ∀ (H : Heap) (locs : List Loc), va_P D vwCl (WW ad cJ cI cZ bm pa (g_5, g_6, p0.2.2.1, p0.2.2.2) p1 p2 li wi mt ms ma mp mk mn ou) H → va_D A (WW ad cJ cI cZ bm pa (g_5, g_6, p0.2.2.1, p0.2.2.2) p1 p2 li wi mt ms ma mp mk mn ou) → va_S A s.heap H locs → ∀ (ls : Array Slot), lv_has ls 7 [(6, .int (nI i_2)), (0, .ref (ad 8)), (1, .int (nI zj)), (2, .long z1), (4, .long z2)] → W p l e (headSpec wsX2_shiftGroup ({ frames := 1, cells := 0, slots := 0, locals := 22 })).room s m args below meth c H locs 0 0 (MQ below (bm_Wxq D vwCl [(cJ, .long), (cI, .int), (cZ, .boolean)] (fun ws9 r9 => ∃ (e0 : Nat → Int64) (e1 : Nat → Int64) , ws9 = (WW ad cJ cI cZ bm pa (e0, e1, p0.2.2.1, p0.2.2.2) p1 p2 li wi mt ms ma mp mk mn ou) ∧ r9 = none) A) args s 0 0 A) (F0 m 3 ls []) := by
    intro k_3
    induction k_3 with
    | zero => intro i_2 g_5 g_6 hi_7 hk_8; exfalso; omega
    | succ k_3 ih_4 =>
      intro i_2 g_5 g_6 hi_7 hk_8  H locs hP hD hS ls hl
      refine lv_iload hx hb dX2_shiftGroup_3 (lv_at hl 0 rfl) ?_
      refine lv_aload_n hx hb dX2_shiftGroup_5 rfl (lv_at hl 1 rfl) ?_
      refine va_get (D := D) (ci := 2) (v := .ref (ad 1)) (C := RX2) (T := TX2) (N := 5) hx hb hts (inT inX2) hown hK hP 8 ww_8 rfl 0 (by decide) (hts (.fieldLink RX2 26 "BoardMoves$Placement" "parts" "LBoardMoves$Parts;") (List.mem_cons_of_mem _ flX2_26)) (fun _ h9 => h9) rfl dX2_shiftGroup_6 ?_
      refine va_get (D := D) (ci := 1) (v := .int (nI pa.2.2.2.2.2.2)) (C := RX1) (T := TX1) (N := 7) hx hb hts (inT inX1) hown hK hP 1 ww_1 rfl 6 (by decide) (hts (.fieldLink RX2 30 "BoardMoves$Parts" "count" "I") (List.mem_cons_of_mem _ flX2_30)) (fun _ h9 => h9) rfl dX2_shiftGroup_9 ?_
      refine bm_ni_ge (x := i_2) (y := pa.2.2.2.2.2.2) (tgt := 67) hx hb (by omega) (by omega) dX2_shiftGroup_12 (by decide) (fun c_9 => ?_) (fun c_9 => ?_)
      · exact bm_vretX hx hb hr hP hD hK hS ⟨g_5, g_6, rfl, rfl⟩ dX2_shiftGroup_67 hlocks
      · refine lv_aload_n hx hb dX2_shiftGroup_15 rfl (lv_at hl 1 rfl) ?_
        refine va_get (D := D) (ci := 2) (v := .ref (ad 12)) (C := RX2) (T := TX2) (N := 5) hx hb hts (inT inX2) hown hK hP 8 ww_8 rfl 4 (by decide) (hts (.fieldLink RX2 22 "BoardMoves$Placement" "placed" "[Z") (List.mem_cons_of_mem _ flX2_22)) (fun _ h9 => h9) rfl dX2_shiftGroup_16 ?_
        refine lv_iload hx hb dX2_shiftGroup_19 (lv_at hl 0 rfl) ?_
        refine bm_zald (f := p0.2.2.2) hx hb hK hP 12 2 ww_12 rfl (j := i_2) (by omega) (by decide) dX2_shiftGroup_21 ?_
        refine bm_zb_eq (x := (p0.2.2.2 i_2)) (tgt := 61) hx hb dX2_shiftGroup_22 (by decide) (fun c_10 => ?_) (fun c_10 => ?_)
        · refine lv_iinc (v := (nI (i_2 + 1))) (lv' := [(6, .int (nI (i_2 + 1))), (0, .ref (ad 8)), (1, .int (nI zj)), (2, .long z1), (4, .long z2)]) hx hb dX2_shiftGroup_61 hl (k := 0) rfl (nI_1 i_2) (by decide) rfl (fun ls hl => ?_)
          refine lv_goto (tgt := 3) hx hb dX2_shiftGroup_64 (by decide) ?_
          exact ih_4 (i_2 + 1) g_5 g_6 (by omega) (by omega)  _ _ hP hD hS _ (lv_sub hl [0, 1, 2, 3, 4] rfl)
        · refine lv_aload_n hx hb dX2_shiftGroup_25 rfl (lv_at hl 1 rfl) ?_
          refine va_get (D := D) (ci := 2) (v := .ref (ad 1)) (C := RX2) (T := TX2) (N := 5) hx hb hts (inT inX2) hown hK hP 8 ww_8 rfl 0 (by decide) (hts (.fieldLink RX2 26 "BoardMoves$Placement" "parts" "LBoardMoves$Parts;") (List.mem_cons_of_mem _ flX2_26)) (fun _ h9 => h9) rfl dX2_shiftGroup_26 ?_
          refine lv_iload hx hb dX2_shiftGroup_29 (lv_at hl 0 rfl) ?_
          refine lv_iload_n hx hb dX2_shiftGroup_31 rfl (lv_at hl 2 rfl) ?_
          refine bm_xcallV (As := [.int (nI i_2), .int (nI zj)]) (rest := []) ⟨hx, hb, hml, hown, hts⟩ (x_mates (p0 := (g_5, g_6, p0.2.2.1, p0.2.2.2)) (za := i_2) (zb := zj) ok_pa_lowest (by omega) (by omega)) (cwV 2 hts gvX2_36 rfl rfl rfl hvX1_areMates ⟨Nat.le_of_ble_eq_true rfl, Nat.le_of_ble_eq_true rfl⟩) hK hP hD hS hA 1 1 rfl ww_1 rfl hl.1 rfl (Nat.le_of_ble_eq_true rfl) dX2_shiftGroup_32 ⟨Nat.le_of_ble_eq_true rfl, Nat.le_of_ble_eq_true rfl⟩ (fun ws_11 r_12 h_13 H locs hP hD hS => ?_)
          obtain ⟨rfl, v_14, rfl⟩ := h_13
          have hP : va_P D vwCl (WW ad cJ cI cZ bm pa (g_5, g_6, p0.2.2.1, p0.2.2.2) p1 p2 li wi mt ms ma mp mk mn ou) H := hP
          have hD : va_D A (WW ad cJ cI cZ bm pa (g_5, g_6, p0.2.2.1, p0.2.2.2) p1 p2 li wi mt ms ma mp mk mn ou) := hD
          refine bm_zb_eq (x := v_14) (tgt := 61) hx hb dX2_shiftGroup_35 (by decide) (fun c_15 => ?_) (fun c_15 => ?_)
          · refine lv_iinc (v := (nI (i_2 + 1))) (lv' := [(6, .int (nI (i_2 + 1))), (0, .ref (ad 8)), (1, .int (nI zj)), (2, .long z1), (4, .long z2)]) hx hb dX2_shiftGroup_61 hl (k := 0) rfl (nI_1 i_2) (by decide) rfl (fun ls hl => ?_)
            refine lv_goto (tgt := 3) hx hb dX2_shiftGroup_64 (by decide) ?_
            exact ih_4 (i_2 + 1) g_5 g_6 (by omega) (by omega)  _ _ hP hD hS _ (lv_sub hl [0, 1, 2, 3, 4] rfl)
          · refine lv_aload_n hx hb dX2_shiftGroup_38 rfl (lv_at hl 1 rfl) ?_
            refine va_get (D := D) (ci := 2) (v := .ref (ad 9)) (C := RX2) (T := TX2) (N := 5) hx hb hts (inT inX2) hown hK hP 8 ww_8 rfl 1 (by decide) (hts (.fieldLink RX2 9 "BoardMoves$Placement" "x" "[J") (List.mem_cons_of_mem _ flX2_9)) (fun _ h9 => h9) rfl dX2_shiftGroup_39 ?_
            refine lv_iload hx hb dX2_shiftGroup_42 (lv_at hl 0 rfl) ?_
            refine lv_dup2_11 hx hb dX2_shiftGroup_44 rfl rfl ?_
            refine bm_lald (f := g_5) hx hb hK hP 9 0 ww_9 rfl (j := i_2) (by omega) (by decide) dX2_shiftGroup_45 ?_
            refine lv_topl (fun t_16 _ => ?_)
            refine lv_lload_n hx hb dX2_shiftGroup_46 rfl (lv_at hl 3 rfl) ?_
            refine lv_ladd hx hb dX2_shiftGroup_47 ?_
            refine lv_topl (fun t_17 _ => ?_)
            refine bm_last (f := g_5) hx hb hK hP hD hS 9 0 ww_9 rfl (j := i_2) (x := t_17) (by omega) (by decide) dX2_shiftGroup_48 (fun H locs hP hD hS => ?_)
            have hP : va_P D vwCl (WW ad cJ cI cZ bm pa (va_up g_5 i_2 t_17, g_6, p0.2.2.1, p0.2.2.2) p1 p2 li wi mt ms ma mp mk mn ou) H := hP
            have hD : va_D A (WW ad cJ cI cZ bm pa (va_up g_5 i_2 t_17, g_6, p0.2.2.1, p0.2.2.2) p1 p2 li wi mt ms ma mp mk mn ou) := hD
            refine lv_aload_n hx hb dX2_shiftGroup_49 rfl (lv_at hl 1 rfl) ?_
            refine va_get (D := D) (ci := 2) (v := .ref (ad 10)) (C := RX2) (T := TX2) (N := 5) hx hb hts (inT inX2) hown hK hP 8 ww_8 rfl 2 (by decide) (hts (.fieldLink RX2 15 "BoardMoves$Placement" "y" "[J") (List.mem_cons_of_mem _ flX2_15)) (fun _ h9 => h9) rfl dX2_shiftGroup_50 ?_
            refine lv_iload hx hb dX2_shiftGroup_53 (lv_at hl 0 rfl) ?_
            refine lv_dup2_11 hx hb dX2_shiftGroup_55 rfl rfl ?_
            refine bm_lald (f := g_6) hx hb hK hP 10 0 ww_10 rfl (j := i_2) (by omega) (by decide) dX2_shiftGroup_56 ?_
            refine lv_topl (fun t_18 _ => ?_)
            refine lv_lload hx hb dX2_shiftGroup_57 (lv_at hl 4 rfl) ?_
            refine lv_ladd hx hb dX2_shiftGroup_59 ?_
            refine lv_topl (fun t_19 _ => ?_)
            refine bm_last (f := g_6) hx hb hK hP hD hS 10 0 ww_10 rfl (j := i_2) (x := t_19) (by omega) (by decide) dX2_shiftGroup_60 (fun H locs hP hD hS => ?_)
            have hP : va_P D vwCl (WW ad cJ cI cZ bm pa (va_up g_5 i_2 t_17, va_up g_6 i_2 t_19, p0.2.2.1, p0.2.2.2) p1 p2 li wi mt ms ma mp mk mn ou) H := hP
            have hD : va_D A (WW ad cJ cI cZ bm pa (va_up g_5 i_2 t_17, va_up g_6 i_2 t_19, p0.2.2.1, p0.2.2.2) p1 p2 li wi mt ms ma mp mk mn ou) := hD
            refine lv_iinc (v := (nI (i_2 + 1))) (lv' := [(6, .int (nI (i_2 + 1))), (0, .ref (ad 8)), (1, .int (nI zj)), (2, .long z1), (4, .long z2)]) hx hb dX2_shiftGroup_61 hl (k := 0) rfl (nI_1 i_2) (by decide) rfl (fun ls hl => ?_)
            refine lv_goto (tgt := 3) hx hb dX2_shiftGroup_64 (by decide) ?_
            exact ih_4 (i_2 + 1) (va_up g_5 i_2 t_17) (va_up g_6 i_2 t_19) (by omega) (by omega)  _ _ hP hD hS _ (lv_sub hl [0, 1, 2, 3, 4] rfl)
  exact lp_1 (pa.2.2.2.2.2.2 + 1) 0 p0.1 p0.2.1 (by omega) (by omega)  _ _ hP hD hS _ (lv_sub hl [0, 1, 2, 3, 4] rfl)
