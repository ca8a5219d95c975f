set_option maxHeartbeats 8000000 in
set_option maxRecDepth 100000 in
theorem x_draw {l : Launch} {D : va_G} {ad : Nat → Nat} {cJ cI cZ : ClassId} {bm : gBM} {pa : gPA} {p0 p1 p2 : gPL} {li : gLI} {wi : gWI} {mt : Nat} {ms : gMS} {ma : gMA} {mp : gMP} {mk : gMK} {mn : gMN} {ou : Nat → Int64}     : bm_Wx l yX4_draw wsX4_draw ({ frames := 0, cells := 0, slots := 0, locals := 0 }) D vwCl [(cJ, .long), (cI, .int), (cZ, .boolean)] (WW ad cJ cI cZ bm pa p0 p1 p2 li wi mt ms ma mp mk mn ou) [.ref (ad 0)] (fun ws9 r9 => ∃ (e0 : Int64) , ws9 = (WW ad cJ cI cZ (bm.1, bm.2.1, e0, bm.2.2.2) pa p0 p1 p2 li wi mt ms ma mp mk mn ou) ∧ ∃ z9 : Nat, z9 < 2 ^ 31 ∧ r9 = some (.long (lN z9))) := by
  intro sz
  refine Met.ofW (cc := cX4_draw) (maxL := 1) (ret := (some .long)) (by decide) rfl ?_
  intro p e s m args below meth c s₁ B hml hv
  obtain ⟨ha, hsz, hP, hK, hD0⟩ := hv
  have hx := B.exec
  have hb := B.bytes
  have hr := B.returns
  have hts := atoms_spec (ws := wsX4_draw) B.pre
  have hown : s.vm.findClass RX4 = some m.cls := findClass_of_methodNamed B.named
  have hlocks := B.notSynchronized
  subst hsz
  have hD := hD0.self (sz := s.heap.size)
  generalize hAe : va_A (WW ad cJ cI cZ bm pa p0 p1 p2 li wi mt ms ma mp mk mn ou) s.heap.size = A at hD ⊢
  have hA : ∀ q : Nat, s.heap.size ≤ q → A q := fun q h => by rw [← hAe]; exact Or.inr h
  have hS : va_S A s.heap s.heap [] := va_S.rf
  have hl := lv_entry ([.ref (ad 0)]) (n := 1) (Nat.le_of_ble_eq_true rfl)
  refine W.eq (g2 := entryFrame m ([.ref (ad 0)] : List Value).toArray 1) (by rw [ha]) ?_
  rw [lg_entry_eq]
  generalize (lg_sl ([.ref (ad 0)]) ++ List.replicate (1 - (lg_sl ([.ref (ad 0)])).length) Slot.unset).toArray = ls at hl ⊢
  have hl : lv_has ls 1 [(0, .ref (ad 0))] := hl
  refine lv_aload_n hx hb dX4_draw_0 rfl (lv_at hl 0 rfl) ?_
  refine lv_aload_n hx hb dX4_draw_1 rfl (lv_at hl 0 rfl) ?_
  refine va_get (D := D) (ci := 4) (v := .long bm.2.2.1) (C := RX4) (T := TX4) (N := 10) hx hb hts (inT inX4) hown hK hP 0 ww_0 rfl 8 (by decide) (hts (.fieldLink RX4 68 "BoardMoves" "drawn" "J") (List.mem_cons_of_mem _ flX4_68)) (fun _ h9 => h9) rfl dX4_draw_2 ?_
  refine lv_ldc2 (v := 6364136223846793005) hx hb hown (hts (.constantLong RX4 268 6364136223846793005) (List.mem_cons_of_mem _ clX4_268)) dX4_draw_5 ?_
  refine lv_topl (fun t_1 _ => ?_)
  refine lv_lmul hx hb dX4_draw_8 ?_
  refine lv_topl (fun t_2 _ => ?_)
  refine lv_ldc2 (v := 1442695040888963407) hx hb hown (hts (.constantLong RX4 270 1442695040888963407) (List.mem_cons_of_mem _ clX4_270)) dX4_draw_9 ?_
  refine lv_topl (fun t_3 _ => ?_)
  refine lv_ladd hx hb dX4_draw_12 ?_
  refine lv_topl (fun t_4 _ => ?_)
  refine va_put (D := D) (ci := 4) (v := .long t_4) (ty := .long) (C := RX4) (T := TX4) (N := 10) hx hb hts (inT inX4) tyX4 tyX4_ok nmX4 hown hK hP hD hS 0 ww_0 rfl 8 (by decide) (hts (.fieldLink RX4 68 "BoardMoves" "drawn" "J") (List.mem_cons_of_mem _ flX4_68)) (fun _ h9 => h9) rfl (by decide +kernel) rfl rfl (Nat.le_of_ble_eq_true rfl) dX4_draw_13 (fun H locs hP hD hS => ?_)
  have hP : va_P D vwCl (WW ad cJ cI cZ (bm.1, bm.2.1, t_4, bm.2.2.2) pa p0 p1 p2 li wi mt ms ma mp mk mn ou) H := hP
  have hD : va_D A (WW ad cJ cI cZ (bm.1, bm.2.1, t_4, bm.2.2.2) pa p0 p1 p2 li wi mt ms ma mp mk mn ou) := hD
  refine lv_aload_n hx hb dX4_draw_16 rfl (lv_at hl 0 rfl) ?_
  refine va_get (D := D) (ci := 4) (v := .long t_4) (C := RX4) (T := TX4) (N := 10) hx hb hts (inT inX4) hown hK hP 0 ww_0 rfl 8 (by decide) (hts (.fieldLink RX4 68 "BoardMoves" "drawn" "J") (List.mem_cons_of_mem _ flX4_68)) (fun _ h9 => h9) rfl dX4_draw_17 ?_
  refine lv_bipush (v := nI 33) hx hb dX4_draw_20 (by decide) ?_
  refine bm_ushr33 hx hb dX4_draw_22 (fun z_5 hz_5 => ?_)
  exact bm_lretX (v := (lN z_5)) hx hb hr hP hD hK hS ⟨t_4, rfl, z_5, (by omega), rfl⟩ dX4_draw_23 hlocks

set_option maxHeartbeats 8000000 in
set_option maxRecDepth 100000 in
theorem x_swap {l : Launch} {D : va_G} {ad : Nat → Nat} {cJ cI cZ : ClassId} {bm : gBM} {pa : gPA} {p0 p1 p2 : gPL} {li : gLI} {wi : gWI} {mt : Nat} {ms : gMS} {ma : gMA} {mp : gMP} {mk : gMK} {mn : gMN} {ou : Nat → Int64} {za : Nat} {zb : Nat} (ok_pa_n : pa.2.2.2.2.2.2 ≤ 40) (ok_pa_lowest : ∀ i, pa.2.2.2.2.2.1 i < 40) (hp0 : za < 40) (hp1 : zb < 40)  : bm_Wx l yX4_swapPlaces wsX4_swapPlaces ({ frames := 2, cells := 0, slots := 0, locals := 48 }) D vwCl [(cJ, .long), (cI, .int), (cZ, .boolean)] (WW ad cJ cI cZ bm pa p0 p1 p2 li wi mt ms ma mp mk mn ou) [.ref (ad 0), .int (nI za), .int (nI zb)] (fun ws9 r9 => ∃ (e0 : Nat → Int64) (e1 : Nat → Int64) , ws9 = (WW ad cJ cI cZ bm pa (e0, e1, p0.2.2.1, p0.2.2.2) p1 p2 li wi mt ms ma mp mk mn ou) ∧ r9 = none) := by
  intro sz
  refine Met.ofW (cc := cX4_swapPlaces) (maxL := 7) (ret := none) (by decide) rfl ?_
  intro p e s m args below meth c s₁ B hml hv
  obtain ⟨ha, hsz, hP, hK, hD0⟩ := hv
  have hx := B.exec
  have hb := B.bytes
  have hr := B.returns
  have hts := atoms_spec (ws := wsX4_swapPlaces) B.pre
  have hown : s.vm.findClass RX4 = some m.cls := findClass_of_methodNamed B.named
  have hlocks := B.notSynchronized
  subst hsz
  have hD := hD0.self (sz := s.heap.size)
  generalize hAe : va_A (WW ad cJ cI cZ bm pa p0 p1 p2 li wi mt ms ma mp mk mn ou) s.heap.size = A at hD ⊢
  have hA : ∀ q : Nat, s.heap.size ≤ q → A q := fun q h => by rw [← hAe]; exact Or.inr h
  have hS : va_S A s.heap s.heap [] := va_S.rf
  have hl := lv_entry ([.ref (ad 0), .int (nI za), .int (nI zb)]) (n := 7) (Nat.le_of_ble_eq_true rfl)
  refine W.eq (g2 := entryFrame m ([.ref (ad 0), .int (nI za), .int (nI zb)] : List Value).toArray 7) (by rw [ha]) ?_
  rw [lg_entry_eq]
  generalize (lg_sl ([.ref (ad 0), .int (nI za), .int (nI zb)]) ++ List.replicate (7 - (lg_sl ([.ref (ad 0), .int (nI za), .int (nI zb)])).length) Slot.unset).toArray = ls at hl ⊢
  have hl : lv_has ls 7 [(0, .ref (ad 0)), (1, .int (nI za)), (2, .int (nI zb))] := hl
  refine lv_aload_n hx hb dX4_swapPlaces_0 rfl (lv_at hl 0 rfl) ?_
  refine va_get (D := D) (ci := 4) (v := .ref (ad 8)) (C := RX4) (T := TX4) (N := 10) hx hb hts (inT inX4) hown hK hP 0 ww_0 rfl 5 (by decide) (hts (.fieldLink RX4 37 "BoardMoves" "now" "LBoardMoves$Placement;") (List.mem_cons_of_mem _ flX4_37)) (fun _ h9 => h9) rfl dX4_swapPlaces_1 ?_
  refine va_get (D := D) (ci := 2) (v := .ref (ad 12)) (C := RX2) (T := TX2) (N := 5) hx hb hts (inT inX2) hown hK hP 8 ww_8 rfl 4 (by decide) (hts (.fieldLink RX4 96 "BoardMoves$Placement" "placed" "[Z") (List.mem_cons_of_mem _ flX4_96)) (fun _ h9 => h9) rfl dX4_swapPlaces_4 ?_
  refine lv_iload_n hx hb dX4_swapPlaces_7 rfl (lv_at hl 2 rfl) ?_
  refine bm_zald (f := p0.2.2.2) hx hb hK hP 12 2 ww_12 rfl (j := zb) (by omega) (by decide) dX4_swapPlaces_8 ?_
  refine bm_zb_eq (x := (p0.2.2.2 zb)) (tgt := 24) hx hb dX4_swapPlaces_9 (by decide) (fun c_1 => ?_) (fun c_1 => ?_)
  · exact bm_vretX hx hb hr hP hD hK hS ⟨p0.1, p0.2.1, rfl, rfl⟩ dX4_swapPlaces_24 hlocks
  · refine lv_aload_n hx hb dX4_swapPlaces_12 rfl (lv_at hl 0 rfl) ?_
    refine va_get (D := D) (ci := 4) (v := .ref (ad 1)) (C := RX4) (T := TX4) (N := 10) hx hb hts (inT inX4) hown hK hP 0 ww_0 rfl 2 (by decide) (hts (.fieldLink RX4 12 "BoardMoves" "parts" "LBoardMoves$Parts;") (List.mem_cons_of_mem _ flX4_12)) (fun _ h9 => h9) rfl dX4_swapPlaces_13 ?_
    refine lv_iload_n hx hb dX4_swapPlaces_16 rfl (lv_at hl 1 rfl) ?_
    refine lv_iload_n hx hb dX4_swapPlaces_17 rfl (lv_at hl 2 rfl) ?_
    refine bm_xcallV (As := [.int (nI za), .int (nI zb)]) (rest := []) ⟨hx, hb, hml, hown, hts⟩ (x_mates  (za := za) (zb := zb) ok_pa_lowest (by omega) (by omega)) (cwV 2 hts gvX4_256 rfl rfl rfl hvX1_areMates ⟨Nat.le_of_ble_eq_true rfl, Nat.le_of_ble_eq_true rfl⟩) hK hP hD hS hA 1 1 rfl ww_1 rfl hl.1 rfl (Nat.le_of_ble_eq_true rfl) dX4_swapPlaces_18 ⟨Nat.le_of_ble_eq_true rfl, Nat.le_of_ble_eq_true rfl⟩ (fun ws_2 r_3 h_4 H locs hP hD hS => ?_)
    obtain ⟨rfl, v_5, rfl⟩ := h_4
    have hP : va_P D vwCl (WW ad cJ cI cZ bm pa p0 p1 p2 li wi mt ms ma mp mk mn ou) H := hP
    have hD : va_D A (WW ad cJ cI cZ bm pa p0 p1 p2 li wi mt ms ma mp mk mn ou) := hD
    refine bm_zb_eq (x := v_5) (tgt := 25) hx hb dX4_swapPlaces_21 (by decide) (fun c_6 => ?_) (fun c_6 => ?_)
    · refine lv_aload_n hx hb dX4_swapPlaces_25 rfl (lv_at hl 0 rfl) ?_
      refine va_get (D := D) (ci := 4) (v := .ref (ad 8)) (C := RX4) (T := TX4) (N := 10) hx hb hts (inT inX4) hown hK hP 0 ww_0 rfl 5 (by decide) (hts (.fieldLink RX4 37 "BoardMoves" "now" "LBoardMoves$Placement;") (List.mem_cons_of_mem _ flX4_37)) (fun _ h9 => h9) rfl dX4_swapPlaces_26 ?_
      refine va_get (D := D) (ci := 2) (v := .ref (ad 9)) (C := RX2) (T := TX2) (N := 5) hx hb hts (inT inX2) hown hK hP 8 ww_8 rfl 1 (by decide) (hts (.fieldLink RX4 112 "BoardMoves$Placement" "x" "[J") (List.mem_cons_of_mem _ flX4_112)) (fun _ h9 => h9) rfl dX4_swapPlaces_29 ?_
      refine lv_iload_n hx hb dX4_swapPlaces_32 rfl (lv_at hl 2 rfl) ?_
      refine bm_lald (f := p0.1) hx hb hK hP 9 0 ww_9 rfl (j := zb) (by omega) (by decide) dX4_swapPlaces_33 ?_
      refine lv_topl (fun t_7 _ => ?_)
      refine lv_aload_n hx hb dX4_swapPlaces_34 rfl (lv_at hl 0 rfl) ?_
      refine va_get (D := D) (ci := 4) (v := .ref (ad 8)) (C := RX4) (T := TX4) (N := 10) hx hb hts (inT inX4) hown hK hP 0 ww_0 rfl 5 (by decide) (hts (.fieldLink RX4 37 "BoardMoves" "now" "LBoardMoves$Placement;") (List.mem_cons_of_mem _ flX4_37)) (fun _ h9 => h9) rfl dX4_swapPlaces_35 ?_
      refine va_get (D := D) (ci := 2) (v := .ref (ad 9)) (C := RX2) (T := TX2) (N := 5) hx hb hts (inT inX2) hown hK hP 8 ww_8 rfl 1 (by decide) (hts (.fieldLink RX4 112 "BoardMoves$Placement" "x" "[J") (List.mem_cons_of_mem _ flX4_112)) (fun _ h9 => h9) rfl dX4_swapPlaces_38 ?_
      refine lv_iload_n hx hb dX4_swapPlaces_41 rfl (lv_at hl 1 rfl) ?_
      refine bm_lald (f := p0.1) hx hb hK hP 9 0 ww_9 rfl (j := za) (by omega) (by decide) dX4_swapPlaces_42 ?_
      refine lv_topl (fun t_8 _ => ?_)
      refine lv_lsub hx hb dX4_swapPlaces_43 ?_
      refine lv_topl (fun t_9 _ => ?_)
      refine lv_lstore_n (lv' := [(3, .long t_9), (0, .ref (ad 0)), (1, .int (nI za)), (2, .int (nI zb))]) hx hb dX4_swapPlaces_44 rfl hl (by decide) rfl (fun ls hl => ?_)
      refine lv_aload_n hx hb dX4_swapPlaces_45 rfl (lv_at hl 1 rfl) ?_
      refine va_get (D := D) (ci := 4) (v := .ref (ad 8)) (C := RX4) (T := TX4) (N := 10) hx hb hts (inT inX4) hown hK hP 0 ww_0 rfl 5 (by decide) (hts (.fieldLink RX4 37 "BoardMoves" "now" "LBoardMoves$Placement;") (List.mem_cons_of_mem _ flX4_37)) (fun _ h9 => h9) rfl dX4_swapPlaces_46 ?_
      refine va_get (D := D) (ci := 2) (v := .ref (ad 10)) (C := RX2) (T := TX2) (N := 5) hx hb hts (inT inX2) hown hK hP 8 ww_8 rfl 2 (by decide) (hts (.fieldLink RX4 116 "BoardMoves$Placement" "y" "[J") (List.mem_cons_of_mem _ flX4_116)) (fun _ h9 => h9) rfl dX4_swapPlaces_49 ?_
      refine lv_iload_n hx hb dX4_swapPlaces_52 rfl (lv_at hl 3 rfl) ?_
      refine bm_lald (f := p0.2.1) hx hb hK hP 10 0 ww_10 rfl (j := zb) (by omega) (by decide) dX4_swapPlaces_53 ?_
      refine lv_topl (fun t_10 _ => ?_)
      refine lv_aload_n hx hb dX4_swapPlaces_54 rfl (lv_at hl 1 rfl) ?_
      refine va_get (D := D) (ci := 4) (v := .ref (ad 8)) (C := RX4) (T := TX4) (N := 10) hx hb hts (inT inX4) hown hK hP 0 ww_0 rfl 5 (by decide) (hts (.fieldLink RX4 37 "BoardMoves" "now" "LBoardMoves$Placement;") (List.mem_cons_of_mem _ flX4_37)) (fun _ h9 => h9) rfl dX4_swapPlaces_55 ?_
      refine va_get (D := D) (ci := 2) (v := .ref (ad 10)) (C := RX2) (T := TX2) (N := 5) hx hb hts (inT inX2) hown hK hP 8 ww_8 rfl 2 (by decide) (hts (.fieldLink RX4 116 "BoardMoves$Placement" "y" "[J") (List.mem_cons_of_mem _ flX4_116)) (fun _ h9 => h9) rfl dX4_swapPlaces_58 ?_
      refine lv_iload_n hx hb dX4_swapPlaces_61 rfl (lv_at hl 2 rfl) ?_
      refine bm_lald (f := p0.2.1) hx hb hK hP 10 0 ww_10 rfl (j := za) (by omega) (by decide) dX4_swapPlaces_62 ?_
      refine lv_topl (fun t_11 _ => ?_)
      refine lv_lsub hx hb dX4_swapPlaces_63 ?_
      refine lv_topl (fun t_12 _ => ?_)
      refine lv_lstore (lv' := [(5, .long t_12), (3, .long t_9), (0, .ref (ad 0)), (1, .int (nI za)), (2, .int (nI zb))]) hx hb dX4_swapPlaces_64 hl (by decide) rfl (fun ls hl => ?_)
      refine lv_aload_n hx hb dX4_swapPlaces_66 rfl (lv_at hl 2 rfl) ?_
      refine va_get (D := D) (ci := 4) (v := .ref (ad 8)) (C := RX4) (T := TX4) (N := 10) hx hb hts (inT inX4) hown hK hP 0 ww_0 rfl 5 (by decide) (hts (.fieldLink RX4 37 "BoardMoves" "now" "LBoardMoves$Placement;") (List.mem_cons_of_mem _ flX4_37)) (fun _ h9 => h9) rfl dX4_swapPlaces_67 ?_
      refine lv_iload_n hx hb dX4_swapPlaces_70 rfl (lv_at hl 3 rfl) ?_
      refine lv_lload_n hx hb dX4_swapPlaces_71 rfl (lv_at hl 1 rfl) ?_
      refine lv_lload hx hb dX4_swapPlaces_72 (lv_at hl 0 rfl) ?_
      refine bm_xcallV (As := [.int (nI za), .long t_9, .long t_12]) (rest := []) ⟨hx, hb, hml, hown, hts⟩ (x_shift  (zj := za) (z1 := t_9) (z2 := t_12) ok_pa_n ok_pa_lowest (by omega)) (cwV 3 hts gvX4_119 rfl rfl rfl hvX2_shiftGroup ⟨Nat.le_of_ble_eq_true rfl, Nat.le_of_ble_eq_true rfl⟩) hK hP hD hS hA 8 2 rfl ww_8 rfl hl.1 rfl (Nat.le_of_ble_eq_true rfl) dX4_swapPlaces_74 ⟨Nat.le_of_ble_eq_true rfl, Nat.le_of_ble_eq_true rfl⟩ (fun ws_13 r_14 h_15 H locs hP hD hS => ?_)
      obtain ⟨g_16, g_17, rfl, rfl⟩ := h_15
      have hP : va_P D vwCl (WW ad cJ cI cZ bm pa (g_16, g_17, p0.2.2.1, p0.2.2.2) p1 p2 li wi mt ms ma mp mk mn ou) H := hP
      have hD : va_D A (WW ad cJ cI cZ bm pa (g_16, g_17, p0.2.2.1, p0.2.2.2) p1 p2 li wi mt ms ma mp mk mn ou) := hD
      refine lv_aload_n hx hb dX4_swapPlaces_77 rfl (lv_at hl 2 rfl) ?_
      refine va_get (D := D) (ci := 4) (v := .ref (ad 8)) (C := RX4) (T := TX4) (N := 10) hx hb hts (inT inX4) hown hK hP 0 ww_0 rfl 5 (by decide) (hts (.fieldLink RX4 37 "BoardMoves" "now" "LBoardMoves$Placement;") (List.mem_cons_of_mem _ flX4_37)) (fun _ h9 => h9) rfl dX4_swapPlaces_78 ?_
      refine lv_iload_n hx hb dX4_swapPlaces_81 rfl (lv_at hl 4 rfl) ?_
      refine lv_lload_n hx hb dX4_swapPlaces_82 rfl (lv_at hl 1 rfl) ?_
      refine lv_lneg hx hb dX4_swapPlaces_83 ?_
      refine lv_topl (fun t_18 _ => ?_)
      refine lv_lload hx hb dX4_swapPlaces_84 (lv_at hl 0 rfl) ?_
      refine lv_lneg hx hb dX4_swapPlaces_86 ?_
      refine lv_topl (fun t_19 _ => ?_)
      refine bm_xcallV (As := [.int (nI zb), .long t_18, .long t_19]) (rest := []) ⟨hx, hb, hml, hown, hts⟩ (x_shift (p0 := (g_16, g_17, p0.2.2.1, p0.2.2.2)) (zj := zb) (z1 := t_18) (z2 := t_19) ok_pa_n ok_pa_lowest (by omega)) (cwV 3 hts gvX4_119 rfl rfl rfl hvX2_shiftGroup ⟨Nat.le_of_ble_eq_true rfl, Nat.le_of_ble_eq_true rfl⟩) hK hP hD hS hA 8 2 rfl ww_8 rfl hl.1 rfl (Nat.le_of_ble_eq_true rfl) dX4_swapPlaces_87 ⟨Nat.le_of_ble_eq_true rfl, Nat.le_of_ble_eq_true rfl⟩ (fun ws_20 r_21 h_22 H locs hP hD hS => ?_)
      obtain ⟨g_23, g_24, rfl, rfl⟩ := h_22
      have hP : va_P D vwCl (WW ad cJ cI cZ bm pa (g_23, g_24, p0.2.2.1, p0.2.2.2) p1 p2 li wi mt ms ma mp mk mn ou) H := hP
      have hD : va_D A (WW ad cJ cI cZ bm pa (g_23, g_24, p0.2.2.1, p0.2.2.2) p1 p2 li wi mt ms ma mp mk mn ou) := hD
      exact bm_vretX hx hb hr hP hD hK hS ⟨g_23, g_24, rfl, rfl⟩ dX4_swapPlaces_90 hlocks
    · exact bm_vretX hx hb hr hP hD hK hS ⟨p0.1, p0.2.1, rfl, rfl⟩ dX4_swapPlaces_24 hlocks

set_option maxHeartbeats 8000000 in
set_option maxRecDepth 100000 in
theorem x_turnA {l : Launch} {D : va_G} {ad : Nat → Nat} {cJ cI cZ : ClassId} {bm : gBM} {pa : gPA} {p0 p1 p2 : gPL} {li : gLI} {wi : gWI} {mt : Nat} {ms : gMS} {ma : gMA} {mp : gMP} {mk : gMK} {mn : gMN} {ou : Nat → Int64} {za : Nat} {zq : Nat} (ok_pa_n : pa.2.2.2.2.2.2 ≤ 40) (ok_pa_lowest : ∀ i, pa.2.2.2.2.2.1 i < 40) (ok_p0_turn : ∀ i, p0.2.2.1 i < 40) (hp0 : za < 40) (hp1 : zq < 40)  : bm_Wx l yX4_turnAlone wsX4_turnAlone ({ frames := 2, cells := 0, slots := 0, locals := 44 }) D vwCl [(cJ, .long), (cI, .int), (cZ, .boolean)] (WW ad cJ cI cZ bm pa p0 p1 p2 li wi mt ms ma mp mk mn ou) [.ref (ad 0), .int (nI za), .int (nI zq)] (fun ws9 r9 => ∃ (e0 : Nat → Nat) , (∀ i, e0 i < 40) ∧ ws9 = (WW ad cJ cI cZ bm pa (p0.1, p0.2.1, e0, p0.2.2.2) p1 p2 li wi mt ms ma mp mk mn ou) ∧ r9 = none) := by
  intro sz
  refine Met.ofW (cc := cX4_turnAlone) (maxL := 3) (ret := none) (by decide) rfl ?_
  intro p e s m args below meth c s₁ B hml hv
  obtain ⟨ha, hsz, hP, hK, hD0⟩ := hv
  have hx := B.exec
  have hb := B.bytes
  have hr := B.returns
  have hts := atoms_spec (ws := wsX4_turnAlone) B.pre
  have hown : s.vm.findClass RX4 = some m.cls := findClass_of_methodNamed B.named
  have hlocks := B.notSynchronized
  subst hsz
  have hD := hD0.self (sz := s.heap.size)
  generalize hAe : va_A (WW ad cJ cI cZ bm pa p0 p1 p2 li wi mt ms ma mp mk mn ou) s.heap.size = A at hD ⊢
  have hA : ∀ q : Nat, s.heap.size ≤ q → A q := fun q h => by rw [← hAe]; exact Or.inr h
  have hS : va_S A s.heap s.heap [] := va_S.rf
  have hl := lv_entry ([.ref (ad 0), .int (nI za), .int (nI zq)]) (n := 3) (Nat.le_of_ble_eq_true rfl)
  refine W.eq (g2 := entryFrame m ([.ref (ad 0), .int (nI za), .int (nI zq)] : List Value).toArray 3) (by rw [ha]) ?_
  rw [lg_entry_eq]
  generalize (lg_sl ([.ref (ad 0), .int (nI za), .int (nI zq)]) ++ List.replicate (3 - (lg_sl ([.ref (ad 0), .int (nI za), .int (nI zq)])).length) Slot.unset).toArray = ls at hl ⊢
  have hl : lv_has ls 3 [(0, .ref (ad 0)), (1, .int (nI za)), (2, .int (nI zq))] := hl
  refine lv_aload_n hx hb dX4_turnAlone_0 rfl (lv_at hl 0 rfl) ?_
  refine va_get (D := D) (ci := 4) (v := .ref (ad 8)) (C := RX4) (T := TX4) (N := 10) hx hb hts (inT inX4) hown hK hP 0 ww_0 rfl 5 (by decide) (hts (.fieldLink RX4 37 "BoardMoves" "now" "LBoardMoves$Placement;") (List.mem_cons_of_mem _ flX4_37)) (fun _ h9 => h9) rfl dX4_turnAlone_1 ?_
  refine lv_iload_n hx hb dX4_turnAlone_4 rfl (lv_at hl 1 rfl) ?_
  refine bm_xcallV (As := [.int (nI za)]) (rest := []) ⟨hx, hb, hml, hown, hts⟩ (x_mateP  (zj := za) ok_pa_n ok_pa_lowest (by omega)) (cwV 1 hts gvX4_104 rfl rfl rfl hvX2_hasPlacedMate ⟨Nat.le_of_ble_eq_true rfl, Nat.le_of_ble_eq_true rfl⟩) hK hP hD hS hA 8 2 rfl ww_8 rfl hl.1 rfl (Nat.le_of_ble_eq_true rfl) dX4_turnAlone_5 ⟨Nat.le_of_ble_eq_true rfl, Nat.le_of_ble_eq_true rfl⟩ (fun ws_1 r_2 h_3 H locs hP hD hS => ?_)
  obtain ⟨rfl, v_4, rfl⟩ := h_3
  have hP : va_P D vwCl (WW ad cJ cI cZ bm pa p0 p1 p2 li wi mt ms ma mp mk mn ou) H := hP
  have hD : va_D A (WW ad cJ cI cZ bm pa p0 p1 p2 li wi mt ms ma mp mk mn ou) := hD
  refine bm_zb_ne (x := v_4) (tgt := 33) hx hb dX4_turnAlone_8 (by decide) (fun c_5 => ?_) (fun c_5 => ?_)
  · exact bm_vretX hx hb hr hP hD hK hS ⟨p0.2.2.1, ok_p0_turn, rfl, rfl⟩ dX4_turnAlone_33 hlocks
  · refine lv_aload_n hx hb dX4_turnAlone_11 rfl (lv_at hl 0 rfl) ?_
    refine va_get (D := D) (ci := 4) (v := .ref (ad 8)) (C := RX4) (T := TX4) (N := 10) hx hb hts (inT inX4) hown hK hP 0 ww_0 rfl 5 (by decide) (hts (.fieldLink RX4 37 "BoardMoves" "now" "LBoardMoves$Placement;") (List.mem_cons_of_mem _ flX4_37)) (fun _ h9 => h9) rfl dX4_turnAlone_12 ?_
    refine va_get (D := D) (ci := 2) (v := .ref (ad 11)) (C := RX2) (T := TX2) (N := 5) hx hb hts (inT inX2) hown hK hP 8 ww_8 rfl 3 (by decide) (hts (.fieldLink RX4 100 "BoardMoves$Placement" "turn" "[I") (List.mem_cons_of_mem _ flX4_100)) (fun _ h9 => h9) rfl dX4_turnAlone_15 ?_
    refine lv_iload_n hx hb dX4_turnAlone_18 rfl (lv_at hl 1 rfl) ?_
    refine lv_aload_n hx hb dX4_turnAlone_19 rfl (lv_at hl 0 rfl) ?_
    refine va_get (D := D) (ci := 4) (v := .ref (ad 8)) (C := RX4) (T := TX4) (N := 10) hx hb hts (inT inX4) hown hK hP 0 ww_0 rfl 5 (by decide) (hts (.fieldLink RX4 37 "BoardMoves" "now" "LBoardMoves$Placement;") (List.mem_cons_of_mem _ flX4_37)) (fun _ h9 => h9) rfl dX4_turnAlone_20 ?_
    refine va_get (D := D) (ci := 2) (v := .ref (ad 11)) (C := RX2) (T := TX2) (N := 5) hx hb hts (inT inX2) hown hK hP 8 ww_8 rfl 3 (by decide) (hts (.fieldLink RX4 100 "BoardMoves$Placement" "turn" "[I") (List.mem_cons_of_mem _ flX4_100)) (fun _ h9 => h9) rfl dX4_turnAlone_23 ?_
    refine lv_iload_n hx hb dX4_turnAlone_26 rfl (lv_at hl 1 rfl) ?_
    refine bm_nald (f := p0.2.2.1) hx hb hK hP 11 1 ww_11 rfl (j := za) (by omega) (by decide) dX4_turnAlone_27 ?_
    refine lv_iload_n hx hb dX4_turnAlone_28 rfl (lv_at hl 2 rfl) ?_
    refine bm_nadd hx hb dX4_turnAlone_29 ?_
    refine lv_iconst (v := nI 4) hx hb dX4_turnAlone_30 (by decide) ?_
    refine bm_nrem hx hb (by have h := ok_p0_turn za; omega) (by decide) (by decide) dX4_turnAlone_31 ?_
    refine bm_nast (f := p0.2.2.1) hx hb hK hP hD hS 11 1 ww_11 rfl (j := za) (x := (((p0.2.2.1 za) + zq) % 4)) (by omega) (by decide) dX4_turnAlone_32 (fun H locs hP hD hS => ?_)
    have hP : va_P D vwCl (WW ad cJ cI cZ bm pa (p0.1, p0.2.1, va_up p0.2.2.1 za (((p0.2.2.1 za) + zq) % 4), p0.2.2.2) p1 p2 li wi mt ms ma mp mk mn ou) H := hP
    have hD : va_D A (WW ad cJ cI cZ bm pa (p0.1, p0.2.1, va_up p0.2.2.1 za (((p0.2.2.1 za) + zq) % 4), p0.2.2.2) p1 p2 li wi mt ms ma mp mk mn ou) := hD
    exact bm_vretX hx hb hr hP hD hK hS ⟨(va_up p0.2.2.1 za (((p0.2.2.1 za) + zq) % 4)), (bx_uplt ok_p0_turn (by omega)), rfl, rfl⟩ dX4_turnAlone_33 hlocks

set_option maxHeartbeats 8000000 in
set_option maxRecDepth 100000 in
theorem x_join {l : Launch} {D : va_G} {ad : Nat → Nat} {cJ cI cZ : ClassId} {bm : gBM} {pa : gPA} {p0 p1 p2 : gPL} {li : gLI} {wi : gWI} {mt : Nat} {ms : gMS} {ma : gMA} {mp : gMP} {mk : gMK} {mn : gMN} {ou : Nat → Int64} {za : Nat} {zb : Nat} (ok_pa_n : pa.2.2.2.2.2.2 ≤ 40) (ok_pa_lowest : ∀ i, pa.2.2.2.2.2.1 i < 40) (hp0 : za < 40) (hp1 : zb < 40)  : bm_Wx l yX1_join wsX1_join ({ frames := 1, cells := 0, slots := 0, locals := 24 }) D vwCl [(cJ, .long), (cI, .int), (cZ, .boolean)] (WW ad cJ cI cZ bm pa p0 p1 p2 li wi mt ms ma mp mk mn ou) [.ref (ad 1), .int (nI za), .int (nI zb)] (fun ws9 r9 => ∃ (e0 : Nat → Nat) , (∀ i, e0 i < 40) ∧ ws9 = (WW ad cJ cI cZ bm (pa.1, pa.2.1, pa.2.2.1, pa.2.2.2.1, pa.2.2.2.2.1, e0, pa.2.2.2.2.2.2) p0 p1 p2 li wi mt ms ma mp mk mn ou) ∧ ∃ v9 : Int32, r9 = some (.int v9)) := by
  intro sz
  refine Met.ofW (cc := cX1_join) (maxL := 8) (ret := (some .int)) (by decide) rfl ?_
  intro p e s m args below meth c s₁ B hml hv
  obtain ⟨ha, hsz, hP, hK, hD0⟩ := hv
  have hx := B.exec
  have hb := B.bytes
  have hr := B.returns
  have hts := atoms_spec (ws := wsX1_join) B.pre
  have hown : s.vm.findClass RX1 = some m.cls := findClass_of_methodNamed B.named
  have hlocks := B.notSynchronized
  subst hsz
  have hD := hD0.self (sz := s.heap.size)
  generalize hAe : va_A (WW ad cJ cI cZ bm pa p0 p1 p2 li wi mt ms ma mp mk mn ou) s.heap.size = A at hD ⊢
  have hA : ∀ q : Nat, s.heap.size ≤ q → A q := fun q h => by rw [← hAe]; exact Or.inr h
  have hS : va_S A s.heap s.heap [] := va_S.rf
  have hl := lv_entry ([.ref (ad 1), .int (nI za), .int (nI zb)]) (n := 8) (Nat.le_of_ble_eq_true rfl)
  refine W.eq (g2 := entryFrame m ([.ref (ad 1), .int (nI za), .int (nI zb)] : List Value).toArray 8) (by rw [ha]) ?_
  rw [lg_entry_eq]
  generalize (lg_sl ([.ref (ad 1), .int (nI za), .int (nI zb)]) ++ List.replicate (8 - (lg_sl ([.ref (ad 1), .int (nI za), .int (nI zb)])).length) Slot.unset).toArray = ls at hl ⊢
  have hl : lv_has ls 8 [(0, .ref (ad 1)), (1, .int (nI za)), (2, .int (nI zb))] := hl
  refine lv_aload_n hx hb dX1_join_0 rfl (lv_at hl 0 rfl) ?_
  refine va_get (D := D) (ci := 1) (v := .ref (ad 7)) (C := RX1) (T := TX1) (N := 7) hx hb hts (inT inX1) hown hK hP 1 ww_1 rfl 5 (by decide) (hts (.fieldLink RX1 29 "BoardMoves$Parts" "lowest" "[I") (List.mem_cons_of_mem _ flX1_29)) (fun _ h9 => h9) rfl dX1_join_1 ?_
  refine lv_iload_n hx hb dX1_join_4 rfl (lv_at hl 1 rfl) ?_
  refine bm_nald (f := pa.2.2.2.2.2.1) hx hb hK hP 7 1 ww_7 rfl (j := za) (by omega) (by decide) dX1_join_5 ?_
  refine lv_istore_n (lv' := [(3, .int (nI (pa.2.2.2.2.2.1 za))), (0, .ref (ad 1)), (1, .int (nI za)), (2, .int (nI zb))]) hx hb dX1_join_6 rfl hl (by decide) rfl (fun ls hl => ?_)
  refine lv_aload_n hx hb dX1_join_7 rfl (lv_at hl 1 rfl) ?_
  refine va_get (D := D) (ci := 1) (v := .ref (ad 7)) (C := RX1) (T := TX1) (N := 7) hx hb hts (inT inX1) hown hK hP 1 ww_1 rfl 5 (by decide) (hts (.fieldLink RX1 29 "BoardMoves$Parts" "lowest" "[I") (List.mem_cons_of_mem _ flX1_29)) (fun _ h9 => h9) rfl dX1_join_8 ?_
  refine lv_iload_n hx hb dX1_join_11 rfl (lv_at hl 3 rfl) ?_
  refine bm_nald (f := pa.2.2.2.2.2.1) hx hb hK hP 7 1 ww_7 rfl (j := zb) (by omega) (by decide) dX1_join_12 ?_
  refine lv_istore (lv' := [(4, .int (nI (pa.2.2.2.2.2.1 zb))), (3, .int (nI (pa.2.2.2.2.2.1 za))), (0, .ref (ad 1)), (1, .int (nI za)), (2, .int (nI zb))]) hx hb dX1_join_13 hl (by decide) rfl (fun ls hl => ?_)
  refine lv_iload_n hx hb dX1_join_15 rfl (lv_at hl 1 rfl) ?_
  refine lv_iload hx hb dX1_join_16 (lv_at hl 0 rfl) ?_
  refine bm_mminn (rest := []) hx hb (hml.trans hl.1.symm) hown (hts (.methodLink RX1 36 Lib.Math.min.name) (by decide +kernel)) (hts (.static Lib.Math.min.name) (by decide +kernel)) (hts (.initialized "java/lang/Math") (by decide +kernel)) (hts (.code Lib.Math.min.name Lib.Math.min.code 2 (some .int)) (by decide +kernel)) (Nat.le_of_ble_eq_true rfl) (Nat.le_of_ble_eq_true rfl) (Nat.le_of_ble_eq_true rfl) (Nat.le_of_ble_eq_true rfl) (bm40 (ok_pa_lowest _)) (bm40 (ok_pa_lowest _)) dX1_join_18 ?_
  refine lv_istore (lv' := [(5, .int (nI (Nat.min (pa.2.2.2.2.2.1 za) (pa.2.2.2.2.2.1 zb)))), (4, .int (nI (pa.2.2.2.2.2.1 zb))), (3, .int (nI (pa.2.2.2.2.2.1 za))), (0, .ref (ad 1)), (1, .int (nI za)), (2, .int (nI zb))]) hx hb dX1_join_21 hl (by decide) rfl (fun ls hl => ?_)
  refine lv_iconst (v := nI 0) hx hb dX1_join_23 (by decide) ?_
  refine lv_istore (lv' := [(6, .int (nI 0)), (5, .int (nI (Nat.min (pa.2.2.2.2.2.1 za) (pa.2.2.2.2.2.1 zb)))), (4, .int (nI (pa.2.2.2.2.2.1 zb))), (3, .int (nI (pa.2.2.2.2.2.1 za))), (0, .ref (ad 1)), (1, .int (nI za)), (2, .int (nI zb))]) hx hb dX1_join_24 hl (by decide) rfl (fun ls hl => ?_)
  refine lv_iconst (v := nI 0) hx hb dX1_join_26 (by decide) ?_
  refine lv_istore (lv' := [(7, .int (nI 0)), (6, .int (nI 0)), (5, .int (nI (Nat.min (pa.2.2.2.2.2.1 za) (pa.2.2.2.2.2.1 zb)))), (4, .int (nI (pa.2.2.2.2.2.1 zb))), (3, .int (nI (pa.2.2.2.2.2.1 za))), (0, .ref (ad 1)), (1, .int (nI za)), (2, .int (nI zb))]) hx hb dX1_join_27 hl (by decide) rfl (fun ls hl => ?_)
  have lp_1 : ∀ (k_3 : Nat) (i_2 : Nat) (v_5 : Int32) (g_6 : Nat → Nat), i_2 ≤ pa.2.2.2.2.2.2 → pa.2.2.2.2.2.2 < i_2 + k_3 → (∀ i, g_6 i < 40) → ∀ (H : Heap) (locs : List Loc), va_P D vwCl (WW ad cJ cI cZ bm (pa.1, pa.2.1, pa.2.2.1, pa.2.2.2.1, pa.2.2.2.2.1, g_6, pa.2.2.2.2.2.2) p0 p1 p2 li wi mt ms ma mp mk mn ou) H → va_D A (WW ad cJ cI cZ bm (pa.1, pa.2.1, pa.2.2.1, pa.2.2.2.1, pa.2.2.2.2.1, g_6, pa.2.2.2.2.2.2) p0 p1 p2 li wi mt ms ma mp mk mn ou) → va_S A s.heap H locs → ∀ (ls : Array Slot), lv_has ls 8 [(7, .int (nI i_2)), (6, .int v_5), (5, .int (nI (Nat.min (pa.2.2.2.2.2.1 za) (pa.2.2.2.2.2.1 zb)))), (4, .int (nI (pa.2.2.2.2.2.1 zb))), (3, .int (nI (pa.2.2.2.2.2.1 za))), (0, .ref (ad 1)), (1, .int (nI za)), (2, .int (nI zb))] → W p l e (headSpec wsX1_join ({ frames := 1, cells := 0, slots := 0, locals := 24 })).room s m args below meth c H locs 0 0 (MQ below (bm_Wxq D vwCl [(cJ, .long), (cI, .int), (cZ, .boolean)] (fun ws9 r9 => ∃ (e0 : Nat → Nat) , (∀ i, e0 i < 40) ∧ ws9 = (WW ad cJ cI cZ bm (pa.1, pa.2.1, pa.2.2.1, pa.2.2.2.1, pa.2.2.2.2.1, e0, pa.2.2.2.2.2.2) p0 p1 p2 li wi mt ms ma mp mk mn ou) ∧ ∃ v9 : Int32, r9 = some (.int v9)) A) args s 0 0 A) (F0 m 29 ls []) := by
    intro k_3
    induction k_3 with
    | zero => intro i_2 v_5 g_6 hi_8 hk_9; exfalso; omega
    | succ k_3 ih_4 =>
      intro i_2 v_5 g_6 hi_8 hk_9 ok_7 H locs hP hD hS ls hl
      refine lv_iload hx hb dX1_join_29 (lv_at hl 0 rfl) ?_
      refine lv_aload_n hx hb dX1_join_31 rfl (lv_at hl 5 rfl) ?_
      refine va_get (D := D) (ci := 1) (v := .int (nI pa.2.2.2.2.2.2)) (C := RX1) (T := TX1) (N := 7) hx hb hts (inT inX1) hown hK hP 1 ww_1 rfl 6 (by decide) (hts (.fieldLink RX1 32 "BoardMoves$Parts" "count" "I") (List.mem_cons_of_mem _ flX1_32)) (fun _ h9 => h9) rfl dX1_join_32 ?_
      refine bm_ni_ge (x := i_2) (y := pa.2.2.2.2.2.2) (tgt := 79) hx hb (by omega) (by omega) dX1_join_35 (by decide) (fun c_10 => ?_) (fun c_10 => ?_)
      · refine lv_iload hx hb dX1_join_79 (lv_at hl 1 rfl) ?_
        exact bm_iretX (v := v_5) hx hb hr hP hD hK hS ⟨g_6, ok_7, rfl, v_5, rfl⟩ dX1_join_81 hlocks
      · refine lv_aload_n hx hb dX1_join_38 rfl (lv_at hl 5 rfl) ?_
        refine va_get (D := D) (ci := 1) (v := .ref (ad 7)) (C := RX1) (T := TX1) (N := 7) hx hb hts (inT inX1) hown hK hP 1 ww_1 rfl 5 (by decide) (hts (.fieldLink RX1 29 "BoardMoves$Parts" "lowest" "[I") (List.mem_cons_of_mem _ flX1_29)) (fun _ h9 => h9) rfl dX1_join_39 ?_
        refine lv_iload hx hb dX1_join_42 (lv_at hl 0 rfl) ?_
        refine bm_nald (f := g_6) hx hb hK hP 7 1 ww_7 rfl (j := i_2) (by omega) (by decide) dX1_join_44 ?_
        refine lv_iload_n hx hb dX1_join_45 rfl (lv_at hl 4 rfl) ?_
        refine bm_ni_eq (x := (g_6 i_2)) (y := (pa.2.2.2.2.2.1 za)) (tgt := 61) hx hb (bm40 (ok_7 _)) (bm40 (ok_pa_lowest _)) dX1_join_46 (by decide) (fun c_11 => ?_) (fun c_11 => ?_)
        · refine lv_aload_n hx hb dX1_join_61 rfl (lv_at hl 5 rfl) ?_
          refine va_get (D := D) (ci := 1) (v := .ref (ad 7)) (C := RX1) (T := TX1) (N := 7) hx hb hts (inT inX1) hown hK hP 1 ww_1 rfl 5 (by decide) (hts (.fieldLink RX1 29 "BoardMoves$Parts" "lowest" "[I") (List.mem_cons_of_mem _ flX1_29)) (fun _ h9 => h9) rfl dX1_join_62 ?_
          refine lv_iload hx hb dX1_join_65 (lv_at hl 0 rfl) ?_
          refine lv_iload hx hb dX1_join_67 (lv_at hl 2 rfl) ?_
          refine bm_nast (f := g_6) hx hb hK hP hD hS 7 1 ww_7 rfl (j := i_2) (x := (Nat.min (pa.2.2.2.2.2.1 za) (pa.2.2.2.2.2.1 zb))) (by omega) (by decide) dX1_join_69 (fun H locs hP hD hS => ?_)
          have hP : va_P D vwCl (WW ad cJ cI cZ bm (pa.1, pa.2.1, pa.2.2.1, pa.2.2.2.1, pa.2.2.2.2.1, va_up g_6 i_2 (Nat.min (pa.2.2.2.2.2.1 za) (pa.2.2.2.2.2.1 zb)), pa.2.2.2.2.2.2) p0 p1 p2 li wi mt ms ma mp mk mn ou) H := hP
          have hD : va_D A (WW ad cJ cI cZ bm (pa.1, pa.2.1, pa.2.2.1, pa.2.2.2.1, pa.2.2.2.2.1, va_up g_6 i_2 (Nat.min (pa.2.2.2.2.2.1 za) (pa.2.2.2.2.2.1 zb)), pa.2.2.2.2.2.2) p0 p1 p2 li wi mt ms ma mp mk mn ou) := hD
          refine lv_iinc (v := (v_5 + 1)) (lv' := [(6, .int (v_5 + 1)), (7, .int (nI i_2)), (5, .int (nI (Nat.min (pa.2.2.2.2.2.1 za) (pa.2.2.2.2.2.1 zb)))), (4, .int (nI (pa.2.2.2.2.2.1 zb))), (3, .int (nI (pa.2.2.2.2.2.1 za))), (0, .ref (ad 1)), (1, .int (nI za)), (2, .int (nI zb))]) hx hb dX1_join_70 hl (k := 1) rfl (rfl) (by decide) rfl (fun ls hl => ?_)
          refine lv_iinc (v := (nI (i_2 + 1))) (lv' := [(7, .int (nI (i_2 + 1))), (6, .int (v_5 + 1)), (5, .int (nI (Nat.min (pa.2.2.2.2.2.1 za) (pa.2.2.2.2.2.1 zb)))), (4, .int (nI (pa.2.2.2.2.2.1 zb))), (3, .int (nI (pa.2.2.2.2.2.1 za))), (0, .ref (ad 1)), (1, .int (nI za)), (2, .int (nI zb))]) hx hb dX1_join_73 hl (k := 1) rfl (nI_1 i_2) (by decide) rfl (fun ls hl => ?_)
          refine lv_goto (tgt := 29) hx hb dX1_join_76 (by decide) ?_
          exact ih_4 (i_2 + 1) (v_5 + 1) (va_up g_6 i_2 (Nat.min (pa.2.2.2.2.2.1 za) (pa.2.2.2.2.2.1 zb))) (by omega) (by omega) (bx_uplt ok_7 (Nat.lt_of_le_of_lt (Nat.min_le_left _ _) (ok_pa_lowest _))) _ _ hP hD hS _ (lv_sub hl [0, 1, 2, 3, 4, 5, 6, 7] rfl)
        · refine lv_aload_n hx hb dX1_join_49 rfl (lv_at hl 5 rfl) ?_
          refine va_get (D := D) (ci := 1) (v := .ref (ad 7)) (C := RX1) (T := TX1) (N := 7) hx hb hts (inT inX1) hown hK hP 1 ww_1 rfl 5 (by decide) (hts (.fieldLink RX1 29 "BoardMoves$Parts" "lowest" "[I") (List.mem_cons_of_mem _ flX1_29)) (fun _ h9 => h9) rfl dX1_join_50 ?_
          refine lv_iload hx hb dX1_join_53 (lv_at hl 0 rfl) ?_
          refine bm_nald (f := g_6) hx hb hK hP 7 1 ww_7 rfl (j := i_2) (by omega) (by decide) dX1_join_55 ?_
          refine lv_iload hx hb dX1_join_56 (lv_at hl 3 rfl) ?_
          refine bm_ni_ne (x := (g_6 i_2)) (y := (pa.2.2.2.2.2.1 zb)) (tgt := 73) hx hb (bm40 (ok_7 _)) (bm40 (ok_pa_lowest _)) dX1_join_58 (by decide) (fun c_12 => ?_) (fun c_12 => ?_)
          · refine lv_iinc (v := (nI (i_2 + 1))) (lv' := [(7, .int (nI (i_2 + 1))), (6, .int v_5), (5, .int (nI (Nat.min (pa.2.2.2.2.2.1 za) (pa.2.2.2.2.2.1 zb)))), (4, .int (nI (pa.2.2.2.2.2.1 zb))), (3, .int (nI (pa.2.2.2.2.2.1 za))), (0, .ref (ad 1)), (1, .int (nI za)), (2, .int (nI zb))]) hx hb dX1_join_73 hl (k := 0) rfl (nI_1 i_2) (by decide) rfl (fun ls hl => ?_)
            refine lv_goto (tgt := 29) hx hb dX1_join_76 (by decide) ?_
            exact ih_4 (i_2 + 1) v_5 g_6 (by omega) (by omega) ok_7 _ _ hP hD hS _ (lv_sub hl [0, 1, 2, 3, 4, 5, 6, 7] rfl)
          · refine lv_aload_n hx hb dX1_join_61 rfl (lv_at hl 5 rfl) ?_
            refine va_get (D := D) (ci := 1) (v := .ref (ad 7)) (C := RX1) (T := TX1) (N := 7) hx hb hts (inT inX1) hown hK hP 1 ww_1 rfl 5 (by decide) (hts (.fieldLink RX1 29 "BoardMoves$Parts" "lowest" "[I") (List.mem_cons_of_mem _ flX1_29)) (fun _ h9 => h9) rfl dX1_join_62 ?_
            refine lv_iload hx hb dX1_join_65 (lv_at hl 0 rfl) ?_
            refine lv_iload hx hb dX1_join_67 (lv_at hl 2 rfl) ?_
            refine bm_nast (f := g_6) hx hb hK hP hD hS 7 1 ww_7 rfl (j := i_2) (x := (Nat.min (pa.2.2.2.2.2.1 za) (pa.2.2.2.2.2.1 zb))) (by omega) (by decide) dX1_join_69 (fun H locs hP hD hS => ?_)
            have hP : va_P D vwCl (WW ad cJ cI cZ bm (pa.1, pa.2.1, pa.2.2.1, pa.2.2.2.1, pa.2.2.2.2.1, va_up g_6 i_2 (Nat.min (pa.2.2.2.2.2.1 za) (pa.2.2.2.2.2.1 zb)), pa.2.2.2.2.2.2) p0 p1 p2 li wi mt ms ma mp mk mn ou) H := hP
            have hD : va_D A (WW ad cJ cI cZ bm (pa.1, pa.2.1, pa.2.2.1, pa.2.2.2.1, pa.2.2.2.2.1, va_up g_6 i_2 (Nat.min (pa.2.2.2.2.2.1 za) (pa.2.2.2.2.2.1 zb)), pa.2.2.2.2.2.2) p0 p1 p2 li wi mt ms ma mp mk mn ou) := hD
            refine lv_iinc (v := (v_5 + 1)) (lv' := [(6, .int (v_5 + 1)), (7, .int (nI i_2)), (5, .int (nI (Nat.min (pa.2.2.2.2.2.1 za) (pa.2.2.2.2.2.1 zb)))), (4, .int (nI (pa.2.2.2.2.2.1 zb))), (3, .int (nI (pa.2.2.2.2.2.1 za))), (0, .ref (ad 1)), (1, .int (nI za)), (2, .int (nI zb))]) hx hb dX1_join_70 hl (k := 1) rfl (rfl) (by decide) rfl (fun ls hl => ?_)
            refine lv_iinc (v := (nI (i_2 + 1))) (lv' := [(7, .int (nI (i_2 + 1))), (6, .int (v_5 + 1)), (5, .int (nI (Nat.min (pa.2.2.2.2.2.1 za) (pa.2.2.2.2.2.1 zb)))), (4, .int (nI (pa.2.2.2.2.2.1 zb))), (3, .int (nI (pa.2.2.2.2.2.1 za))), (0, .ref (ad 1)), (1, .int (nI za)), (2, .int (nI zb))]) hx hb dX1_join_73 hl (k := 1) rfl (nI_1 i_2) (by decide) rfl (fun ls hl => ?_)
            refine lv_goto (tgt := 29) hx hb dX1_join_76 (by decide) ?_
            exact ih_4 (i_2 + 1) (v_5 + 1) (va_up g_6 i_2 (Nat.min (pa.2.2.2.2.2.1 za) (pa.2.2.2.2.2.1 zb))) (by omega) (by omega) (bx_uplt ok_7 (Nat.lt_of_le_of_lt (Nat.min_le_left _ _) (ok_pa_lowest _))) _ _ hP hD hS _ (lv_sub hl [0, 1, 2, 3, 4, 5, 6, 7] rfl)
  exact lp_1 (pa.2.2.2.2.2.2 + 1) 0 0 pa.2.2.2.2.2.1 (by omega) (by omega) ok_pa_lowest _ _ hP hD hS _ (lv_sub hl [0, 1, 2, 3, 4, 5, 6, 7] rfl)
