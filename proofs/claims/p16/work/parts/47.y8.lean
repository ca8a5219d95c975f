set_option maxHeartbeats 8000000 in
set_option maxRecDepth 100000 in
theorem y_draw {l : Launch} {D : va_G} {ad : Nat → Nat} {cJ cI cZ : ClassId} {bm : gBM} {pa : gPA} {p0 p1 p2 : gPL} {li : gLI} {wi : gWI} {mt : Nat} {ms : gMS} {ma : gMA} {mp : gMP} {mk : gMK} {mn : gMN} {ou : Nat → Int64}     : bm_Wx l yX5_draw wsX5_draw ({ frames := 0, cells := 0, slots := 0, locals := 0 }) D vwCl [(cJ, .long), (cI, .int), (cZ, .boolean)] (WW ad cJ cI cZ bm pa p0 p1 p2 li wi mt ms ma mp mk mn ou) [.ref (ad 42)] (fun ws9 r9 => ∃ (e0 : Int64) , ws9 = (WW ad cJ cI cZ bm pa p0 p1 p2 li wi mt (ms.1, ms.2.1, ms.2.2.1, ms.2.2.2.1, ms.2.2.2.2.1, ms.2.2.2.2.2.1, ms.2.2.2.2.2.2.1, e0) ma mp mk mn ou) ∧ ∃ z9 : Nat, z9 < 2 ^ 31 ∧ r9 = some (.long (lN z9))) := by
  intro sz
  refine Met.ofW (cc := cX5_draw) (maxL := 1) (ret := (some .long)) (by decide) rfl ?_
  intro p e s m args below meth c s₁ B hml hv
  obtain ⟨ha, hsz, hP, hK, hD0⟩ := hv
  have hx := B.exec
  have hb := B.bytes
  have hr := B.returns
  have hts := atoms_spec (ws := wsX5_draw) B.pre
  have hown : s.vm.findClass RX5 = some m.cls := findClass_of_methodNamed B.named
  have hlocks := B.notSynchronized
  subst hsz
  have hD := hD0.self (sz := s.heap.size)
  generalize hAe : va_A (WW ad cJ cI cZ bm pa p0 p1 p2 li wi mt ms ma mp mk mn ou) s.heap.size = A at hD ⊢
  have hA : ∀ q : Nat, s.heap.size ≤ q → A q := fun q h => by rw [← hAe]; exact Or.inr h
  have hS : va_S A s.heap s.heap [] := va_S.rf
  have hl := lv_entry ([.ref (ad 42)]) (n := 1) (Nat.le_of_ble_eq_true rfl)
  refine W.eq (g2 := entryFrame m ([.ref (ad 42)] : List Value).toArray 1) (by rw [ha]) ?_
  rw [lg_entry_eq]
  generalize (lg_sl ([.ref (ad 42)]) ++ List.replicate (1 - (lg_sl ([.ref (ad 42)])).length) Slot.unset).toArray = ls at hl ⊢
  have hl : lv_has ls 1 [(0, .ref (ad 42))] := hl
  refine lv_aload_n hx hb dX5_draw_0 rfl (lv_at hl 0 rfl) ?_
  refine lv_aload_n hx hb dX5_draw_1 rfl (lv_at hl 0 rfl) ?_
  refine va_get (D := D) (ci := 5) (v := .long ms.2.2.2.2.2.2.2) (C := RX5) (T := TX5) (N := 28) hx hb hts (inT inX5) hown hK hP 42 ww_42 rfl 27 (by decide) (hts (.fieldLink RX5 78 "BoardMovesModel" "s" "J") (List.mem_cons_of_mem _ flX5_78)) (fun _ h9 => h9) rfl dX5_draw_2 ?_
  refine lv_ldc2 (v := 6364136223846793005) hx hb hown (hts (.constantLong RX5 195 6364136223846793005) (List.mem_cons_of_mem _ clX5_195)) dX5_draw_5 ?_
  refine lv_topl (fun t_1 _ => ?_)
  refine lv_lmul hx hb dX5_draw_8 ?_
  refine lv_topl (fun t_2 _ => ?_)
  refine lv_ldc2 (v := 1442695040888963407) hx hb hown (hts (.constantLong RX5 197 1442695040888963407) (List.mem_cons_of_mem _ clX5_197)) dX5_draw_9 ?_
  refine lv_topl (fun t_3 _ => ?_)
  refine lv_ladd hx hb dX5_draw_12 ?_
  refine lv_topl (fun t_4 _ => ?_)
  refine va_put (D := D) (ci := 5) (v := .long t_4) (ty := .long) (C := RX5) (T := TX5) (N := 28) hx hb hts (inT inX5) tyX5 tyX5_ok nmX5 hown hK hP hD hS 42 ww_42 rfl 27 (by decide) (hts (.fieldLink RX5 78 "BoardMovesModel" "s" "J") (List.mem_cons_of_mem _ flX5_78)) (fun _ h9 => h9) rfl (by decide +kernel) rfl rfl (Nat.le_of_ble_eq_true rfl) dX5_draw_13 (fun H locs hP hD hS => ?_)
  have hP : va_P D vwCl (WW ad cJ cI cZ bm pa p0 p1 p2 li wi mt (ms.1, ms.2.1, ms.2.2.1, ms.2.2.2.1, ms.2.2.2.2.1, ms.2.2.2.2.2.1, ms.2.2.2.2.2.2.1, t_4) ma mp mk mn ou) H := hP
  have hD : va_D A (WW ad cJ cI cZ bm pa p0 p1 p2 li wi mt (ms.1, ms.2.1, ms.2.2.1, ms.2.2.2.1, ms.2.2.2.2.1, ms.2.2.2.2.2.1, ms.2.2.2.2.2.2.1, t_4) ma mp mk mn ou) := hD
  refine lv_aload_n hx hb dX5_draw_16 rfl (lv_at hl 0 rfl) ?_
  refine va_get (D := D) (ci := 5) (v := .long t_4) (C := RX5) (T := TX5) (N := 28) hx hb hts (inT inX5) hown hK hP 42 ww_42 rfl 27 (by decide) (hts (.fieldLink RX5 78 "BoardMovesModel" "s" "J") (List.mem_cons_of_mem _ flX5_78)) (fun _ h9 => h9) rfl dX5_draw_17 ?_
  refine lv_bipush (v := nI 33) hx hb dX5_draw_20 (by decide) ?_
  refine bm_ushr33 hx hb dX5_draw_22 (fun z_5 hz_5 => ?_)
  exact bm_lretX (v := (lN z_5)) hx hb hr hP hD hK hS ⟨t_4, rfl, z_5, (by omega), rfl⟩ dX5_draw_23 hlocks

set_option maxHeartbeats 8000000 in
set_option maxRecDepth 100000 in
theorem y_step {l : Launch} {D : va_G} {ad : Nat → Nat} {cJ cI cZ : ClassId} {bm : gBM} {pa : gPA} {p0 p1 p2 : gPL} {li : gLI} {wi : gWI} {mt : Nat} {ms : gMS} {ma : gMA} {mp : gMP} {mk : gMK} {mn : gMN} {ou : Nat → Int64} {z1 : Nat} {z2 : Nat} {z3 : Nat} {z4 : Nat} (ok_ms_parts : ms.2.2.1 ≤ 40) (ok_ma_groups : ∀ i, ma.2.2.2.2.2.1 i < 40) (ok_mp_turns : ∀ i, mp.2.2 i < 40) (hp0 : z1 < 2 ^ 31) (hp1 : z2 < 2 ^ 31) (hp2 : z3 < 2 ^ 31) (hp3 : z4 < 2 ^ 31) (hpos : 0 < ms.2.2.1) (hw : ms.1 ≠ 0) (hh : ms.2.1 ≠ 0) : bm_Wx l yX5_step wsX5_step ({ frames := 1, cells := 0, slots := 0, locals := 26 }) D vwCl [(cJ, .long), (cI, .int), (cZ, .boolean)] (WW ad cJ cI cZ bm pa p0 p1 p2 li wi mt ms ma mp mk mn ou) [.ref (ad 42), .long (lN z1), .long (lN z2), .long (lN z3), .long (lN z4)] (fun ws9 r9 => ∃ (e0 : Nat → Int64) (e1 : Nat → Int64) (e2 : Nat → Nat) (e3 : Nat → Bool) , (∀ i, e2 i < 40) ∧ ws9 = (WW ad cJ cI cZ bm pa p0 p1 p2 li wi mt ms ma (e0, e1, e2) mk (mn.1, mn.2.1, mn.2.2.1, mn.2.2.2.1, e3) ou) ∧ r9 = none) := by
  intro sz
  refine Met.ofW (cc := cX5_step) (maxL := 15) (ret := none) (by decide) rfl ?_
  intro p e s m args below meth c s₁ B hml hv
  obtain ⟨ha, hsz, hP, hK, hD0⟩ := hv
  have hx := B.exec
  have hb := B.bytes
  have hr := B.returns
  have hts := atoms_spec (ws := wsX5_step) B.pre
  have hown : s.vm.findClass RX5 = some m.cls := findClass_of_methodNamed B.named
  have hlocks := B.notSynchronized
  subst hsz
  have hD := hD0.self (sz := s.heap.size)
  generalize hAe : va_A (WW ad cJ cI cZ bm pa p0 p1 p2 li wi mt ms ma mp mk mn ou) s.heap.size = A at hD ⊢
  have hA : ∀ q : Nat, s.heap.size ≤ q → A q := fun q h => by rw [← hAe]; exact Or.inr h
  have hS : va_S A s.heap s.heap [] := va_S.rf
  have hl := lv_entry ([.ref (ad 42), .long (lN z1), .long (lN z2), .long (lN z3), .long (lN z4)]) (n := 15) (Nat.le_of_ble_eq_true rfl)
  refine W.eq (g2 := entryFrame m ([.ref (ad 42), .long (lN z1), .long (lN z2), .long (lN z3), .long (lN z4)] : List Value).toArray 15) (by rw [ha]) ?_
  rw [lg_entry_eq]
  generalize (lg_sl ([.ref (ad 42), .long (lN z1), .long (lN z2), .long (lN z3), .long (lN z4)]) ++ List.replicate (15 - (lg_sl ([.ref (ad 42), .long (lN z1), .long (lN z2), .long (lN z3), .long (lN z4)])).length) Slot.unset).toArray = ls at hl ⊢
  have hl : lv_has ls 15 [(0, .ref (ad 42)), (1, .long (lN z1)), (3, .long (lN z2)), (5, .long (lN z3)), (7, .long (lN z4))] := hl
  refine lv_lload_n hx hb dX5_step_0 rfl (lv_at hl 1 rfl) ?_
  refine lv_aload_n hx hb dX5_step_1 rfl (lv_at hl 0 rfl) ?_
  refine va_get (D := D) (ci := 5) (v := .int (nI ms.2.2.1)) (C := RX5) (T := TX5) (N := 28) hx hb hts (inT inX5) hown hK hP 42 ww_42 rfl 3 (by decide) (hts (.fieldLink RX5 85 "BoardMovesModel" "parts" "I") (List.mem_cons_of_mem _ flX5_85)) (fun _ h9 => h9) rfl dX5_step_2 ?_
  refine bm_i2lN (x := ms.2.2.1) hx hb (by omega) dX5_step_5 ?_
  refine bm_lrN (x := z1) (y := ms.2.2.1) hx hb (by omega) (by omega) (by omega) dX5_step_6 ?_
  refine bm_l2iN (x := z1 % ms.2.2.1) hx hb dX5_step_7 ?_
  refine lv_istore (lv' := [(9, .int (nI (z1 % ms.2.2.1))), (0, .ref (ad 42)), (1, .long (lN z1)), (3, .long (lN z2)), (5, .long (lN z3)), (7, .long (lN z4))]) hx hb dX5_step_8 hl (by decide) rfl (fun ls hl => ?_)
  refine lv_lload hx hb dX5_step_10 (lv_at hl 4 rfl) ?_
  refine lv_aload_n hx hb dX5_step_12 rfl (lv_at hl 1 rfl) ?_
  refine va_get (D := D) (ci := 5) (v := .int (nI ms.2.2.1)) (C := RX5) (T := TX5) (N := 28) hx hb hts (inT inX5) hown hK hP 42 ww_42 rfl 3 (by decide) (hts (.fieldLink RX5 85 "BoardMovesModel" "parts" "I") (List.mem_cons_of_mem _ flX5_85)) (fun _ h9 => h9) rfl dX5_step_13 ?_
  refine bm_i2lN (x := ms.2.2.1) hx hb (by omega) dX5_step_16 ?_
  refine bm_lrN (x := z3) (y := ms.2.2.1) hx hb (by omega) (by omega) (by omega) dX5_step_17 ?_
  refine bm_l2iN (x := z3 % ms.2.2.1) hx hb dX5_step_18 ?_
  refine lv_istore (lv' := [(10, .int (nI (z3 % ms.2.2.1))), (9, .int (nI (z1 % ms.2.2.1))), (0, .ref (ad 42)), (1, .long (lN z1)), (3, .long (lN z2)), (5, .long (lN z3)), (7, .long (lN z4))]) hx hb dX5_step_19 hl (by decide) rfl (fun ls hl => ?_)
  refine lv_aload_n hx hb dX5_step_21 rfl (lv_at hl 2 rfl) ?_
  refine va_get (D := D) (ci := 5) (v := .ref (ad 49)) (C := RX5) (T := TX5) (N := 28) hx hb hts (inT inX5) hown hK hP 42 ww_42 rfl 10 (by decide) (hts (.fieldLink RX5 30 "BoardMovesModel" "placed" "[Z") (List.mem_cons_of_mem _ flX5_30)) (fun _ h9 => h9) rfl dX5_step_22 ?_
  refine lv_iload hx hb dX5_step_25 (lv_at hl 1 rfl) ?_
  refine bm_zald (f := ma.2.2.2.2.2.2) hx hb hK hP 49 2 ww_49 rfl (j := (z1 % ms.2.2.1)) (Nat.lt_of_lt_of_le (Nat.mod_lt _ hpos) ok_ms_parts) (by decide) dX5_step_27 ?_
  refine bm_zb_eq (x := (ma.2.2.2.2.2.2 (z1 % ms.2.2.1))) (tgt := 41) hx hb dX5_step_28 (by decide) (fun c_1 => ?_) (fun c_1 => ?_)
  · exact bm_vretX hx hb hr hP hD hK hS ⟨mp.1, mp.2.1, mp.2.2, mn.2.2.2.2, ok_mp_turns, rfl, rfl⟩ dX5_step_41 hlocks
  · refine lv_aload_n hx hb dX5_step_31 rfl (lv_at hl 2 rfl) ?_
    refine va_get (D := D) (ci := 5) (v := .ref (ad 47)) (C := RX5) (T := TX5) (N := 28) hx hb hts (inT inX5) hown hK hP 42 ww_42 rfl 8 (by decide) (hts (.fieldLink RX5 23 "BoardMovesModel" "locked" "[Z") (List.mem_cons_of_mem _ flX5_23)) (fun _ h9 => h9) rfl dX5_step_32 ?_
    refine lv_iload hx hb dX5_step_35 (lv_at hl 1 rfl) ?_
    refine bm_zald (f := ma.2.2.2.2.1) hx hb hK hP 47 2 ww_47 rfl (j := (z1 % ms.2.2.1)) (Nat.lt_of_lt_of_le (Nat.mod_lt _ hpos) ok_ms_parts) (by decide) dX5_step_37 ?_
    refine bm_zb_eq (x := (ma.2.2.2.2.1 (z1 % ms.2.2.1))) (tgt := 42) hx hb dX5_step_38 (by decide) (fun c_2 => ?_) (fun c_2 => ?_)
    · refine lv_lload_n hx hb dX5_step_42 rfl (lv_at hl 4 rfl) ?_
      refine lv_ldc2 (v := 4) hx hb hown (hts (.constantLong RX5 199 4) (List.mem_cons_of_mem _ clX5_199)) dX5_step_43 ?_
      refine bm_lrN (x := z2) (y := 4) hx hb (by omega) (by omega) (by omega) dX5_step_46 ?_
      refine lv_lconst (v := 0) hx hb dX5_step_47 (by decide) ?_
      refine bm_lc_ne (x := (lN (z2 % 4))) (y := 0) (tgt := 141) hx hb dX5_step_48 dX5_step_49 (by decide) (fun c_3 => ?_) (fun c_3 => ?_)
      · refine lv_lload_n hx hb dX5_step_141 rfl (lv_at hl 4 rfl) ?_
        refine lv_ldc2 (v := 4) hx hb hown (hts (.constantLong RX5 199 4) (List.mem_cons_of_mem _ clX5_199)) dX5_step_142 ?_
        refine bm_lrN (x := z2) (y := 4) hx hb (by omega) (by omega) (by omega) dX5_step_145 ?_
        refine lv_lconst (v := 1) hx hb dX5_step_146 (by decide) ?_
        refine bm_lc_ne (x := (lN (z2 % 4))) (y := 1) (tgt := 192) hx hb dX5_step_147 dX5_step_148 (by decide) (fun c_4 => ?_) (fun c_4 => ?_)
        · refine lv_aload_n hx hb dX5_step_192 rfl (lv_at hl 2 rfl) ?_
          refine lv_iload hx hb dX5_step_193 (lv_at hl 1 rfl) ?_
          refine lv_lload hx hb dX5_step_195 (lv_at hl 5 rfl) ?_
          refine lv_aload_n hx hb dX5_step_197 rfl (lv_at hl 2 rfl) ?_
          refine va_get (D := D) (ci := 5) (v := .long ms.1) (C := RX5) (T := TX5) (N := 28) hx hb hts (inT inX5) hown hK hP 42 ww_42 rfl 1 (by decide) (hts (.fieldLink RX5 71 "BoardMovesModel" "width" "J") (List.mem_cons_of_mem _ flX5_71)) (fun _ h9 => h9) rfl dX5_step_198 ?_
          refine lv_lrem hx hb dX5_step_201 hw ?_
          refine lv_topl (fun t_5 _ => ?_)
          refine lv_aload_n hx hb dX5_step_202 rfl (lv_at hl 2 rfl) ?_
          refine lv_iconst (v := nI 0) hx hb dX5_step_203 (by decide) ?_
          refine lv_iload hx hb dX5_step_204 (lv_at hl 1 rfl) ?_
          refine bm_xcallV (As := [.int (nI 0), .int (nI (z1 % ms.2.2.1))]) (rest := [.long t_5, .int (nI (z1 % ms.2.2.1)), .ref (ad 42)]) ⟨hx, hb, hml, hown, hts⟩ (y_left  (zr := 0) (zp := z1 % ms.2.2.1)  (by omega) (Nat.lt_of_lt_of_le (Nat.mod_lt _ hpos) ok_ms_parts)) (cwV 2 hts gvX5_92 rfl rfl rfl hvX5_left ⟨Nat.le_of_ble_eq_true rfl, Nat.le_of_ble_eq_true rfl⟩) hK hP hD hS hA 42 5 rfl ww_42 rfl hl.1 rfl (Nat.le_of_ble_eq_true rfl) dX5_step_206 ⟨Nat.le_of_ble_eq_true rfl, Nat.le_of_ble_eq_true rfl⟩ (fun ws_6 r_7 h_8 H locs hP hD hS => ?_)
          obtain ⟨rfl, v_9, rfl⟩ := h_8
          have hP : va_P D vwCl (WW ad cJ cI cZ bm pa p0 p1 p2 li wi mt ms ma mp mk mn ou) H := hP
          have hD : va_D A (WW ad cJ cI cZ bm pa p0 p1 p2 li wi mt ms ma mp mk mn ou) := hD
          refine lv_lsub hx hb dX5_step_209 ?_
          refine lv_topl (fun t_10 _ => ?_)
          refine lv_lload hx hb dX5_step_210 (lv_at hl 6 rfl) ?_
          refine lv_aload_n hx hb dX5_step_212 rfl (lv_at hl 2 rfl) ?_
          refine va_get (D := D) (ci := 5) (v := .long ms.2.1) (C := RX5) (T := TX5) (N := 28) hx hb hts (inT inX5) hown hK hP 42 ww_42 rfl 2 (by decide) (hts (.fieldLink RX5 75 "BoardMovesModel" "height" "J") (List.mem_cons_of_mem _ flX5_75)) (fun _ h9 => h9) rfl dX5_step_213 ?_
          refine lv_lrem hx hb dX5_step_216 hh ?_
          refine lv_topl (fun t_11 _ => ?_)
          refine lv_aload_n hx hb dX5_step_217 rfl (lv_at hl 2 rfl) ?_
          refine lv_iconst (v := nI 0) hx hb dX5_step_218 (by decide) ?_
          refine lv_iload hx hb dX5_step_219 (lv_at hl 1 rfl) ?_
          refine bm_xcallV (As := [.int (nI 0), .int (nI (z1 % ms.2.2.1))]) (rest := [.long t_11, .long t_10, .int (nI (z1 % ms.2.2.1)), .ref (ad 42)]) ⟨hx, hb, hml, hown, hts⟩ (y_low  (zr := 0) (zp := z1 % ms.2.2.1)  (by omega) (Nat.lt_of_lt_of_le (Nat.mod_lt _ hpos) ok_ms_parts)) (cwV 2 hts gvX5_100 rfl rfl rfl hvX5_low ⟨Nat.le_of_ble_eq_true rfl, Nat.le_of_ble_eq_true rfl⟩) hK hP hD hS hA 42 5 rfl ww_42 rfl hl.1 rfl (Nat.le_of_ble_eq_true rfl) dX5_step_221 ⟨Nat.le_of_ble_eq_true rfl, Nat.le_of_ble_eq_true rfl⟩ (fun ws_12 r_13 h_14 H locs hP hD hS => ?_)
          obtain ⟨rfl, v_15, rfl⟩ := h_14
          have hP : va_P D vwCl (WW ad cJ cI cZ bm pa p0 p1 p2 li wi mt ms ma mp mk mn ou) H := hP
          have hD : va_D A (WW ad cJ cI cZ bm pa p0 p1 p2 li wi mt ms ma mp mk mn ou) := hD
          refine lv_lsub hx hb dX5_step_224 ?_
          refine lv_topl (fun t_16 _ => ?_)
          refine bm_xcallV (As := [.int (nI (z1 % ms.2.2.1)), .long t_10, .long t_16]) (rest := []) ⟨hx, hb, hml, hown, hts⟩ (y_go  (zp := z1 % ms.2.2.1) (z1 := t_10) (z2 := t_16) ok_ms_parts ok_ma_groups (Nat.lt_of_lt_of_le (Nat.mod_lt _ hpos) ok_ms_parts)) (cwV 3 hts gvX5_149 rfl rfl rfl hvX5_go ⟨Nat.le_of_ble_eq_true rfl, Nat.le_of_ble_eq_true rfl⟩) hK hP hD hS hA 42 5 rfl ww_42 rfl hl.1 rfl (Nat.le_of_ble_eq_true rfl) dX5_step_225 ⟨Nat.le_of_ble_eq_true rfl, Nat.le_of_ble_eq_true rfl⟩ (fun ws_17 r_18 h_19 H locs hP hD hS => ?_)
          obtain ⟨g_20, g_21, g_22, rfl, rfl⟩ := h_19
          have hP : va_P D vwCl (WW ad cJ cI cZ bm pa p0 p1 p2 li wi mt ms ma (g_20, g_21, mp.2.2) mk (mn.1, mn.2.1, mn.2.2.1, mn.2.2.2.1, g_22) ou) H := hP
          have hD : va_D A (WW ad cJ cI cZ bm pa p0 p1 p2 li wi mt ms ma (g_20, g_21, mp.2.2) mk (mn.1, mn.2.1, mn.2.2.1, mn.2.2.2.1, g_22) ou) := hD
          exact bm_vretX hx hb hr hP hD hK hS ⟨g_20, g_21, mp.2.2, g_22, ok_mp_turns, rfl, rfl⟩ dX5_step_228 hlocks
        · refine lv_aload_n hx hb dX5_step_151 rfl (lv_at hl 2 rfl) ?_
          refine lv_iload hx hb dX5_step_152 (lv_at hl 1 rfl) ?_
          refine bm_xcallV (As := [.int (nI (z1 % ms.2.2.1))]) (rest := []) ⟨hx, hb, hml, hown, hts⟩ (y_mate  (zp := z1 % ms.2.2.1) ok_ms_parts ok_ma_groups (Nat.lt_of_lt_of_le (Nat.mod_lt _ hpos) ok_ms_parts)) (cwV 1 hts gvX5_146 rfl rfl rfl hvX5_hasMate ⟨Nat.le_of_ble_eq_true rfl, Nat.le_of_ble_eq_true rfl⟩) hK hP hD hS hA 42 5 rfl ww_42 rfl hl.1 rfl (Nat.le_of_ble_eq_true rfl) dX5_step_154 ⟨Nat.le_of_ble_eq_true rfl, Nat.le_of_ble_eq_true rfl⟩ (fun ws_23 r_24 h_25 H locs hP hD hS => ?_)
          obtain ⟨rfl, v_26, rfl⟩ := h_25
          have hP : va_P D vwCl (WW ad cJ cI cZ bm pa p0 p1 p2 li wi mt ms ma mp mk mn ou) H := hP
          have hD : va_D A (WW ad cJ cI cZ bm pa p0 p1 p2 li wi mt ms ma mp mk mn ou) := hD
          refine bm_zb_ne (x := v_26) (tgt := 228) hx hb dX5_step_157 (by decide) (fun c_27 => ?_) (fun c_27 => ?_)
          · exact bm_vretX hx hb hr hP hD hK hS ⟨mp.1, mp.2.1, mp.2.2, mn.2.2.2.2, ok_mp_turns, rfl, rfl⟩ dX5_step_228 hlocks
          · refine lv_aload_n hx hb dX5_step_160 rfl (lv_at hl 2 rfl) ?_
            refine va_get (D := D) (ci := 5) (v := .ref (ad 52)) (C := RX5) (T := TX5) (N := 28) hx hb hts (inT inX5) hown hK hP 42 ww_42 rfl 13 (by decide) (hts (.fieldLink RX5 39 "BoardMovesModel" "turns" "[I") (List.mem_cons_of_mem _ flX5_39)) (fun _ h9 => h9) rfl dX5_step_161 ?_
            refine lv_bipush (v := nI 40) hx hb dX5_step_164 (by decide) ?_
            refine lv_iload hx hb dX5_step_166 (lv_at hl 1 rfl) ?_
            refine bm_nadd hx hb dX5_step_168 ?_
            refine lv_aload_n hx hb dX5_step_169 rfl (lv_at hl 2 rfl) ?_
            refine va_get (D := D) (ci := 5) (v := .ref (ad 52)) (C := RX5) (T := TX5) (N := 28) hx hb hts (inT inX5) hown hK hP 42 ww_42 rfl 13 (by decide) (hts (.fieldLink RX5 39 "BoardMovesModel" "turns" "[I") (List.mem_cons_of_mem _ flX5_39)) (fun _ h9 => h9) rfl dX5_step_170 ?_
            refine lv_iload hx hb dX5_step_173 (lv_at hl 1 rfl) ?_
            refine bm_nald (f := mp.2.2) hx hb hK hP 52 1 ww_52 rfl (j := (z1 % ms.2.2.1)) (by have h := (Nat.lt_of_lt_of_le (Nat.mod_lt z1 hpos) ok_ms_parts); omega) (by decide) dX5_step_175 ?_
            refine lv_lload hx hb dX5_step_176 (lv_at hl 6 rfl) ?_
            refine lv_ldc2 (v := 3) hx hb hown (hts (.constantLong RX5 201 3) (List.mem_cons_of_mem _ clX5_201)) dX5_step_178 ?_
            refine bm_lrN (x := z4) (y := 3) hx hb (by omega) (by omega) (by omega) dX5_step_181 ?_
            refine bm_l2iN (x := z4 % 3) hx hb dX5_step_182 ?_
            refine bm_nadd hx hb dX5_step_183 ?_
            refine lv_iconst (v := nI 1) hx hb dX5_step_184 (by decide) ?_
            refine bm_nadd hx hb dX5_step_185 ?_
            refine lv_iconst (v := nI 4) hx hb dX5_step_186 (by decide) ?_
            refine bm_nrem hx hb (by have h := ok_mp_turns (z1 % ms.2.2.1); omega) (by decide) (by decide) dX5_step_187 ?_
            refine bm_nast (f := mp.2.2) hx hb hK hP hD hS 52 1 ww_52 rfl (j := (40 + (z1 % ms.2.2.1))) (x := ((((mp.2.2 (z1 % ms.2.2.1)) + (z4 % 3)) + 1) % 4)) (by have h := (Nat.lt_of_lt_of_le (Nat.mod_lt z1 hpos) ok_ms_parts); omega) (by decide) dX5_step_188 (fun H locs hP hD hS => ?_)
            have hP : va_P D vwCl (WW ad cJ cI cZ bm pa p0 p1 p2 li wi mt ms ma (mp.1, mp.2.1, va_up mp.2.2 (40 + (z1 % ms.2.2.1)) ((((mp.2.2 (z1 % ms.2.2.1)) + (z4 % 3)) + 1) % 4)) mk mn ou) H := hP
            have hD : va_D A (WW ad cJ cI cZ bm pa p0 p1 p2 li wi mt ms ma (mp.1, mp.2.1, va_up mp.2.2 (40 + (z1 % ms.2.2.1)) ((((mp.2.2 (z1 % ms.2.2.1)) + (z4 % 3)) + 1) % 4)) mk mn ou) := hD
            refine lv_goto (tgt := 228) hx hb dX5_step_189 (by decide) ?_
            exact bm_vretX hx hb hr hP hD hK hS ⟨mp.1, mp.2.1, (va_up mp.2.2 (40 + (z1 % ms.2.2.1)) ((((mp.2.2 (z1 % ms.2.2.1)) + (z4 % 3)) + 1) % 4)), mn.2.2.2.2, (bx_uplt ok_mp_turns (by omega)), rfl, rfl⟩ dX5_step_228 hlocks
      · refine lv_aload_n hx hb dX5_step_52 rfl (lv_at hl 2 rfl) ?_
        refine va_get (D := D) (ci := 5) (v := .ref (ad 49)) (C := RX5) (T := TX5) (N := 28) hx hb hts (inT inX5) hown hK hP 42 ww_42 rfl 10 (by decide) (hts (.fieldLink RX5 30 "BoardMovesModel" "placed" "[Z") (List.mem_cons_of_mem _ flX5_30)) (fun _ h9 => h9) rfl dX5_step_53 ?_
        refine lv_iload hx hb dX5_step_56 (lv_at hl 0 rfl) ?_
        refine bm_zald (f := ma.2.2.2.2.2.2) hx hb hK hP 49 2 ww_49 rfl (j := (z3 % ms.2.2.1)) (Nat.lt_of_lt_of_le (Nat.mod_lt _ hpos) ok_ms_parts) (by decide) dX5_step_58 ?_
        refine bm_zb_eq (x := (ma.2.2.2.2.2.2 (z3 % ms.2.2.1))) (tgt := 79) hx hb dX5_step_59 (by decide) (fun c_28 => ?_) (fun c_28 => ?_)
        · exact bm_vretX hx hb hr hP hD hK hS ⟨mp.1, mp.2.1, mp.2.2, mn.2.2.2.2, ok_mp_turns, rfl, rfl⟩ dX5_step_79 hlocks
        · refine lv_aload_n hx hb dX5_step_62 rfl (lv_at hl 2 rfl) ?_
          refine va_get (D := D) (ci := 5) (v := .ref (ad 48)) (C := RX5) (T := TX5) (N := 28) hx hb hts (inT inX5) hown hK hP 42 ww_42 rfl 9 (by decide) (hts (.fieldLink RX5 27 "BoardMovesModel" "groups" "[I") (List.mem_cons_of_mem _ flX5_27)) (fun _ h9 => h9) rfl dX5_step_63 ?_
          refine lv_iload hx hb dX5_step_66 (lv_at hl 1 rfl) ?_
          refine bm_nald (f := ma.2.2.2.2.2.1) hx hb hK hP 48 1 ww_48 rfl (j := (z1 % ms.2.2.1)) (Nat.lt_of_lt_of_le (Nat.mod_lt _ hpos) ok_ms_parts) (by decide) dX5_step_68 ?_
          refine lv_aload_n hx hb dX5_step_69 rfl (lv_at hl 2 rfl) ?_
          refine va_get (D := D) (ci := 5) (v := .ref (ad 48)) (C := RX5) (T := TX5) (N := 28) hx hb hts (inT inX5) hown hK hP 42 ww_42 rfl 9 (by decide) (hts (.fieldLink RX5 27 "BoardMovesModel" "groups" "[I") (List.mem_cons_of_mem _ flX5_27)) (fun _ h9 => h9) rfl dX5_step_70 ?_
          refine lv_iload hx hb dX5_step_73 (lv_at hl 0 rfl) ?_
          refine bm_nald (f := ma.2.2.2.2.2.1) hx hb hK hP 48 1 ww_48 rfl (j := (z3 % ms.2.2.1)) (Nat.lt_of_lt_of_le (Nat.mod_lt _ hpos) ok_ms_parts) (by decide) dX5_step_75 ?_
          refine bm_ni_ne (x := (ma.2.2.2.2.2.1 (z1 % ms.2.2.1))) (y := (ma.2.2.2.2.2.1 (z3 % ms.2.2.1))) (tgt := 80) hx hb (bm40 (ok_ma_groups _)) (bm40 (ok_ma_groups _)) dX5_step_76 (by decide) (fun c_29 => ?_) (fun c_29 => ?_)
          · refine lv_aload_n hx hb dX5_step_80 rfl (lv_at hl 2 rfl) ?_
            refine lv_iconst (v := nI 0) hx hb dX5_step_81 (by decide) ?_
            refine lv_iload hx hb dX5_step_82 (lv_at hl 0 rfl) ?_
            refine bm_xcallV (As := [.int (nI 0), .int (nI (z3 % ms.2.2.1))]) (rest := []) ⟨hx, hb, hml, hown, hts⟩ (y_left  (zr := 0) (zp := z3 % ms.2.2.1)  (by omega) (Nat.lt_of_lt_of_le (Nat.mod_lt _ hpos) ok_ms_parts)) (cwV 2 hts gvX5_92 rfl rfl rfl hvX5_left ⟨Nat.le_of_ble_eq_true rfl, Nat.le_of_ble_eq_true rfl⟩) hK hP hD hS hA 42 5 rfl ww_42 rfl hl.1 rfl (Nat.le_of_ble_eq_true rfl) dX5_step_84 ⟨Nat.le_of_ble_eq_true rfl, Nat.le_of_ble_eq_true rfl⟩ (fun ws_30 r_31 h_32 H locs hP hD hS => ?_)
            obtain ⟨rfl, v_33, rfl⟩ := h_32
            have hP : va_P D vwCl (WW ad cJ cI cZ bm pa p0 p1 p2 li wi mt ms ma mp mk mn ou) H := hP
            have hD : va_D A (WW ad cJ cI cZ bm pa p0 p1 p2 li wi mt ms ma mp mk mn ou) := hD
            refine lv_aload_n hx hb dX5_step_87 rfl (lv_at hl 2 rfl) ?_
            refine lv_iconst (v := nI 0) hx hb dX5_step_88 (by decide) ?_
            refine lv_iload hx hb dX5_step_89 (lv_at hl 1 rfl) ?_
            refine bm_xcallV (As := [.int (nI 0), .int (nI (z1 % ms.2.2.1))]) (rest := [.long v_33]) ⟨hx, hb, hml, hown, hts⟩ (y_left  (zr := 0) (zp := z1 % ms.2.2.1)  (by omega) (Nat.lt_of_lt_of_le (Nat.mod_lt _ hpos) ok_ms_parts)) (cwV 2 hts gvX5_92 rfl rfl rfl hvX5_left ⟨Nat.le_of_ble_eq_true rfl, Nat.le_of_ble_eq_true rfl⟩) hK hP hD hS hA 42 5 rfl ww_42 rfl hl.1 rfl (Nat.le_of_ble_eq_true rfl) dX5_step_91 ⟨Nat.le_of_ble_eq_true rfl, Nat.le_of_ble_eq_true rfl⟩ (fun ws_34 r_35 h_36 H locs hP hD hS => ?_)
            obtain ⟨rfl, v_37, rfl⟩ := h_36
            have hP : va_P D vwCl (WW ad cJ cI cZ bm pa p0 p1 p2 li wi mt ms ma mp mk mn ou) H := hP
            have hD : va_D A (WW ad cJ cI cZ bm pa p0 p1 p2 li wi mt ms ma mp mk mn ou) := hD
            refine lv_lsub hx hb dX5_step_94 ?_
            refine lv_topl (fun t_38 _ => ?_)
            refine lv_lstore (lv' := [(11, .long t_38), (10, .int (nI (z3 % ms.2.2.1))), (9, .int (nI (z1 % ms.2.2.1))), (0, .ref (ad 42)), (1, .long (lN z1)), (3, .long (lN z2)), (5, .long (lN z3)), (7, .long (lN z4))]) hx hb dX5_step_95 hl (by decide) rfl (fun ls hl => ?_)
            refine lv_aload_n hx hb dX5_step_97 rfl (lv_at hl 3 rfl) ?_
            refine lv_iconst (v := nI 0) hx hb dX5_step_98 (by decide) ?_
            refine lv_iload hx hb dX5_step_99 (lv_at hl 1 rfl) ?_
            refine bm_xcallV (As := [.int (nI 0), .int (nI (z3 % ms.2.2.1))]) (rest := []) ⟨hx, hb, hml, hown, hts⟩ (y_low  (zr := 0) (zp := z3 % ms.2.2.1)  (by omega) (Nat.lt_of_lt_of_le (Nat.mod_lt _ hpos) ok_ms_parts)) (cwV 2 hts gvX5_100 rfl rfl rfl hvX5_low ⟨Nat.le_of_ble_eq_true rfl, Nat.le_of_ble_eq_true rfl⟩) hK hP hD hS hA 42 5 rfl ww_42 rfl hl.1 rfl (Nat.le_of_ble_eq_true rfl) dX5_step_101 ⟨Nat.le_of_ble_eq_true rfl, Nat.le_of_ble_eq_true rfl⟩ (fun ws_39 r_40 h_41 H locs hP hD hS => ?_)
            obtain ⟨rfl, v_42, rfl⟩ := h_41
            have hP : va_P D vwCl (WW ad cJ cI cZ bm pa p0 p1 p2 li wi mt ms ma mp mk mn ou) H := hP
            have hD : va_D A (WW ad cJ cI cZ bm pa p0 p1 p2 li wi mt ms ma mp mk mn ou) := hD
            refine lv_aload_n hx hb dX5_step_104 rfl (lv_at hl 3 rfl) ?_
            refine lv_iconst (v := nI 0) hx hb dX5_step_105 (by decide) ?_
            refine lv_iload hx hb dX5_step_106 (lv_at hl 2 rfl) ?_
            refine bm_xcallV (As := [.int (nI 0), .int (nI (z1 % ms.2.2.1))]) (rest := [.long v_42]) ⟨hx, hb, hml, hown, hts⟩ (y_low  (zr := 0) (zp := z1 % ms.2.2.1)  (by omega) (Nat.lt_of_lt_of_le (Nat.mod_lt _ hpos) ok_ms_parts)) (cwV 2 hts gvX5_100 rfl rfl rfl hvX5_low ⟨Nat.le_of_ble_eq_true rfl, Nat.le_of_ble_eq_true rfl⟩) hK hP hD hS hA 42 5 rfl ww_42 rfl hl.1 rfl (Nat.le_of_ble_eq_true rfl) dX5_step_108 ⟨Nat.le_of_ble_eq_true rfl, Nat.le_of_ble_eq_true rfl⟩ (fun ws_43 r_44 h_45 H locs hP hD hS => ?_)
            obtain ⟨rfl, v_46, rfl⟩ := h_45
            have hP : va_P D vwCl (WW ad cJ cI cZ bm pa p0 p1 p2 li wi mt ms ma mp mk mn ou) H := hP
            have hD : va_D A (WW ad cJ cI cZ bm pa p0 p1 p2 li wi mt ms ma mp mk mn ou) := hD
            refine lv_lsub hx hb dX5_step_111 ?_
            refine lv_topl (fun t_47 _ => ?_)
            refine lv_lstore (lv' := [(13, .long t_47), (11, .long t_38), (10, .int (nI (z3 % ms.2.2.1))), (9, .int (nI (z1 % ms.2.2.1))), (0, .ref (ad 42)), (1, .long (lN z1)), (3, .long (lN z2)), (5, .long (lN z3)), (7, .long (lN z4))]) hx hb dX5_step_112 hl (by decide) rfl (fun ls hl => ?_)
            refine lv_aload_n hx hb dX5_step_114 rfl (lv_at hl 4 rfl) ?_
            refine lv_iload hx hb dX5_step_115 (lv_at hl 3 rfl) ?_
            refine lv_lload hx hb dX5_step_117 (lv_at hl 1 rfl) ?_
            refine lv_lload hx hb dX5_step_119 (lv_at hl 0 rfl) ?_
            refine bm_xcallV (As := [.int (nI (z1 % ms.2.2.1)), .long t_38, .long t_47]) (rest := []) ⟨hx, hb, hml, hown, hts⟩ (y_go  (zp := z1 % ms.2.2.1) (z1 := t_38) (z2 := t_47) ok_ms_parts ok_ma_groups (Nat.lt_of_lt_of_le (Nat.mod_lt _ hpos) ok_ms_parts)) (cwV 3 hts gvX5_149 rfl rfl rfl hvX5_go ⟨Nat.le_of_ble_eq_true rfl, Nat.le_of_ble_eq_true rfl⟩) hK hP hD hS hA 42 5 rfl ww_42 rfl hl.1 rfl (Nat.le_of_ble_eq_true rfl) dX5_step_121 ⟨Nat.le_of_ble_eq_true rfl, Nat.le_of_ble_eq_true rfl⟩ (fun ws_48 r_49 h_50 H locs hP hD hS => ?_)
            obtain ⟨g_51, g_52, g_53, rfl, rfl⟩ := h_50
            have hP : va_P D vwCl (WW ad cJ cI cZ bm pa p0 p1 p2 li wi mt ms ma (g_51, g_52, mp.2.2) mk (mn.1, mn.2.1, mn.2.2.1, mn.2.2.2.1, g_53) ou) H := hP
            have hD : va_D A (WW ad cJ cI cZ bm pa p0 p1 p2 li wi mt ms ma (g_51, g_52, mp.2.2) mk (mn.1, mn.2.1, mn.2.2.1, mn.2.2.2.1, g_53) ou) := hD
            refine lv_aload_n hx hb dX5_step_124 rfl (lv_at hl 4 rfl) ?_
            refine lv_iload hx hb dX5_step_125 (lv_at hl 2 rfl) ?_
            refine lv_lconst (v := 0) hx hb dX5_step_127 (by decide) ?_
            refine lv_lload hx hb dX5_step_128 (lv_at hl 1 rfl) ?_
            refine lv_lsub hx hb dX5_step_130 ?_
            refine lv_topl (fun t_54 _ => ?_)
            refine lv_lconst (v := 0) hx hb dX5_step_131 (by decide) ?_
            refine lv_lload hx hb dX5_step_132 (lv_at hl 0 rfl) ?_
            refine lv_lsub hx hb dX5_step_134 ?_
            refine lv_topl (fun t_55 _ => ?_)
            refine bm_xcallV (As := [.int (nI (z3 % ms.2.2.1)), .long t_54, .long t_55]) (rest := []) ⟨hx, hb, hml, hown, hts⟩ (y_go (mp := (g_51, g_52, mp.2.2)) (mn := (mn.1, mn.2.1, mn.2.2.1, mn.2.2.2.1, g_53)) (zp := z3 % ms.2.2.1) (z1 := t_54) (z2 := t_55) ok_ms_parts ok_ma_groups (Nat.lt_of_lt_of_le (Nat.mod_lt _ hpos) ok_ms_parts)) (cwV 3 hts gvX5_149 rfl rfl rfl hvX5_go ⟨Nat.le_of_ble_eq_true rfl, Nat.le_of_ble_eq_true rfl⟩) hK hP hD hS hA 42 5 rfl ww_42 rfl hl.1 rfl (Nat.le_of_ble_eq_true rfl) dX5_step_135 ⟨Nat.le_of_ble_eq_true rfl, Nat.le_of_ble_eq_true rfl⟩ (fun ws_56 r_57 h_58 H locs hP hD hS => ?_)
            obtain ⟨g_59, g_60, g_61, rfl, rfl⟩ := h_58
            have hP : va_P D vwCl (WW ad cJ cI cZ bm pa p0 p1 p2 li wi mt ms ma (g_59, g_60, mp.2.2) mk (mn.1, mn.2.1, mn.2.2.1, mn.2.2.2.1, g_61) ou) H := hP
            have hD : va_D A (WW ad cJ cI cZ bm pa p0 p1 p2 li wi mt ms ma (g_59, g_60, mp.2.2) mk (mn.1, mn.2.1, mn.2.2.1, mn.2.2.2.1, g_61) ou) := hD
            refine lv_goto (tgt := 228) hx hb dX5_step_138 (by decide) ?_
            exact bm_vretX hx hb hr hP hD hK hS ⟨g_59, g_60, mp.2.2, g_61, ok_mp_turns, rfl, rfl⟩ dX5_step_228 hlocks
          · exact bm_vretX hx hb hr hP hD hK hS ⟨mp.1, mp.2.1, mp.2.2, mn.2.2.2.2, ok_mp_turns, rfl, rfl⟩ dX5_step_79 hlocks
    · exact bm_vretX hx hb hr hP hD hK hS ⟨mp.1, mp.2.1, mp.2.2, mn.2.2.2.2, ok_mp_turns, rfl, rfl⟩ dX5_step_41 hlocks

set_option maxHeartbeats 8000000 in
set_option maxRecDepth 100000 in
theorem y_changes {l : Launch} {D : va_G} {ad : Nat → Nat} {cJ cI cZ : ClassId} {bm : gBM} {pa : gPA} {p0 p1 p2 : gPL} {li : gLI} {wi : gWI} {mt : Nat} {ms : gMS} {ma : gMA} {mp : gMP} {mk : gMK} {mn : gMN} {ou : Nat → Int64}  (ok_ms_parts : ms.2.2.1 ≤ 40) (ok_mp_turns : ∀ i, mp.2.2 i < 40)   : bm_Wx l yX5_changes wsX5_changes ({ frames := 2, cells := 0, slots := 0, locals := 44 }) D vwCl [(cJ, .long), (cI, .int), (cZ, .boolean)] (WW ad cJ cI cZ bm pa p0 p1 p2 li wi mt ms ma mp mk mn ou) [.ref (ad 42)] (fun ws9 r9 => ws9 = (WW ad cJ cI cZ bm pa p0 p1 p2 li wi mt ms ma mp mk mn ou) ∧ ∃ b9 : Bool, r9 = some (.int (bm_b b9))) := by
  intro sz
  refine Met.ofW (cc := cX5_changes) (maxL := 3) (ret := (some .boolean)) (by decide) rfl ?_
  intro p e s m args below meth c s₁ B hml hv
  obtain ⟨ha, hsz, hP, hK, hD0⟩ := hv
  have hx := B.exec
  have hb := B.bytes
  have hr := B.returns
  have hts := atoms_spec (ws := wsX5_changes) B.pre
  have hown : s.vm.findClass RX5 = some m.cls := findClass_of_methodNamed B.named
  have hlocks := B.notSynchronized
  subst hsz
  have hD := hD0.self (sz := s.heap.size)
  generalize hAe : va_A (WW ad cJ cI cZ bm pa p0 p1 p2 li wi mt ms ma mp mk mn ou) s.heap.size = A at hD ⊢
  have hA : ∀ q : Nat, s.heap.size ≤ q → A q := fun q h => by rw [← hAe]; exact Or.inr h
  have hS : va_S A s.heap s.heap [] := va_S.rf
  have hl := lv_entry ([.ref (ad 42)]) (n := 3) (Nat.le_of_ble_eq_true rfl)
  refine W.eq (g2 := entryFrame m ([.ref (ad 42)] : List Value).toArray 3) (by rw [ha]) ?_
  rw [lg_entry_eq]
  generalize (lg_sl ([.ref (ad 42)]) ++ List.replicate (3 - (lg_sl ([.ref (ad 42)])).length) Slot.unset).toArray = ls at hl ⊢
  have hl : lv_has ls 3 [(0, .ref (ad 42))] := hl
  refine lv_iconst (v := bm_b false) hx hb dX5_changes_0 (by decide) ?_
  refine lv_istore_n (lv' := [(1, .int (bm_b false)), (0, .ref (ad 42))]) hx hb dX5_changes_1 rfl hl (by decide) rfl (fun ls hl => ?_)
  refine lv_iconst (v := nI 0) hx hb dX5_changes_2 (by decide) ?_
  refine lv_istore_n (lv' := [(2, .int (nI 0)), (1, .int (bm_b false)), (0, .ref (ad 42))]) hx hb dX5_changes_3 rfl hl (by decide) rfl (fun ls hl => ?_)
  have lp_1 : ∀ (k_3 : Nat) (i_2 : Nat) (v_5 : Bool), i_2 ≤ ms.2.2.1 → ms.2.2.1 < i_2 + k_3 → ∀ (H : Heap) (locs : List Loc), va_P D vwCl (WW ad cJ cI cZ bm pa p0 p1 p2 li wi mt ms ma mp mk mn ou) H → va_D A (WW ad cJ cI cZ bm pa p0 p1 p2 li wi mt ms ma mp mk mn ou) → va_S A s.heap H locs → ∀ (ls : Array Slot), lv_has ls 3 [(2, .int (nI i_2)), (1, .int (bm_b v_5)), (0, .ref (ad 42))] → W p l e (headSpec wsX5_changes ({ frames := 2, cells := 0, slots := 0, locals := 44 })).room s m args below meth c H locs 0 0 (MQ below (bm_Wxq D vwCl [(cJ, .long), (cI, .int), (cZ, .boolean)] (fun ws9 r9 => ws9 = (WW ad cJ cI cZ bm pa p0 p1 p2 li wi mt ms ma mp mk mn ou) ∧ ∃ b9 : Bool, r9 = some (.int (bm_b b9))) A) args s 0 0 A) (F0 m 4 ls []) := by
    intro k_3
    induction k_3 with
    | zero => intro i_2 v_5 hi_6 hk_7; exfalso; omega
    | succ k_3 ih_4 =>
      intro i_2 v_5 hi_6 hk_7  H locs hP hD hS ls hl
      refine lv_iload_n hx hb dX5_changes_4 rfl (lv_at hl 0 rfl) ?_
      refine lv_aload_n hx hb dX5_changes_5 rfl (lv_at hl 2 rfl) ?_
      refine va_get (D := D) (ci := 5) (v := .int (nI ms.2.2.1)) (C := RX5) (T := TX5) (N := 28) hx hb hts (inT inX5) hown hK hP 42 ww_42 rfl 3 (by decide) (hts (.fieldLink RX5 85 "BoardMovesModel" "parts" "I") (List.mem_cons_of_mem _ flX5_85)) (fun _ h9 => h9) rfl dX5_changes_6 ?_
      refine bm_ni_ge (x := i_2) (y := ms.2.2.1) (tgt := 46) hx hb (by omega) (by omega) dX5_changes_9 (by decide) (fun c_8 => ?_) (fun c_8 => ?_)
      · refine lv_iload_n hx hb dX5_changes_46 rfl (lv_at hl 1 rfl) ?_
        exact bm_zretX (v := v_5) hx hb hr hP hD hK hS ⟨rfl, v_5, rfl⟩ dX5_changes_47 hlocks
      · refine lv_iload_n hx hb dX5_changes_12 rfl (lv_at hl 1 rfl) ?_
        refine bm_zb_ne (x := v_5) (tgt := 34) hx hb dX5_changes_13 (by decide) (fun c_9 => ?_) (fun c_9 => ?_)
        · refine lv_iconst (v := bm_b true) hx hb dX5_changes_34 (by decide) ?_
          refine lv_goto (tgt := 39) hx hb dX5_changes_35 (by decide) ?_
          refine lv_istore_n (lv' := [(1, .int (bm_b true)), (2, .int (nI i_2)), (0, .ref (ad 42))]) hx hb dX5_changes_39 rfl hl (by decide) rfl (fun ls hl => ?_)
          refine lv_iinc (v := (nI (i_2 + 1))) (lv' := [(2, .int (nI (i_2 + 1))), (1, .int (bm_b true)), (0, .ref (ad 42))]) hx hb dX5_changes_40 hl (k := 1) rfl (nI_1 i_2) (by decide) rfl (fun ls hl => ?_)
          refine lv_goto (tgt := 4) hx hb dX5_changes_43 (by decide) ?_
          exact ih_4 (i_2 + 1) true (by omega) (by omega)  _ _ hP hD hS _ (lv_sub hl [0, 1, 2] rfl)
        · refine lv_aload_n hx hb dX5_changes_16 rfl (lv_at hl 2 rfl) ?_
          refine va_get (D := D) (ci := 5) (v := .ref (ad 49)) (C := RX5) (T := TX5) (N := 28) hx hb hts (inT inX5) hown hK hP 42 ww_42 rfl 10 (by decide) (hts (.fieldLink RX5 30 "BoardMovesModel" "placed" "[Z") (List.mem_cons_of_mem _ flX5_30)) (fun _ h9 => h9) rfl dX5_changes_17 ?_
          refine lv_iload_n hx hb dX5_changes_20 rfl (lv_at hl 0 rfl) ?_
          refine bm_zald (f := ma.2.2.2.2.2.2) hx hb hK hP 49 2 ww_49 rfl (j := i_2) (by omega) (by decide) dX5_changes_21 ?_
          refine bm_zb_eq (x := (ma.2.2.2.2.2.2 i_2)) (tgt := 38) hx hb dX5_changes_22 (by decide) (fun c_10 => ?_) (fun c_10 => ?_)
          · refine lv_iconst (v := bm_b false) hx hb dX5_changes_38 (by decide) ?_
            refine lv_istore_n (lv' := [(1, .int (bm_b false)), (2, .int (nI i_2)), (0, .ref (ad 42))]) hx hb dX5_changes_39 rfl hl (by decide) rfl (fun ls hl => ?_)
            refine lv_iinc (v := (nI (i_2 + 1))) (lv' := [(2, .int (nI (i_2 + 1))), (1, .int (bm_b false)), (0, .ref (ad 42))]) hx hb dX5_changes_40 hl (k := 1) rfl (nI_1 i_2) (by decide) rfl (fun ls hl => ?_)
            refine lv_goto (tgt := 4) hx hb dX5_changes_43 (by decide) ?_
            exact ih_4 (i_2 + 1) false (by omega) (by omega)  _ _ hP hD hS _ (lv_sub hl [0, 1, 2] rfl)
          · refine lv_aload_n hx hb dX5_changes_25 rfl (lv_at hl 2 rfl) ?_
            refine lv_iconst (v := nI 1) hx hb dX5_changes_26 (by decide) ?_
            refine lv_iload_n hx hb dX5_changes_27 rfl (lv_at hl 0 rfl) ?_
            refine bm_xcallV (As := [.int (nI 1), .int (nI i_2)]) (rest := []) ⟨hx, hb, hml, hown, hts⟩ (y_same  (zr := 1) (zp := i_2) ok_mp_turns (by omega) (by omega)) (cwV 2 hts gvX5_136 rfl rfl rfl hvX5_isSame ⟨Nat.le_of_ble_eq_true rfl, Nat.le_of_ble_eq_true rfl⟩) hK hP hD hS hA 42 5 rfl ww_42 rfl hl.1 rfl (Nat.le_of_ble_eq_true rfl) dX5_changes_28 ⟨Nat.le_of_ble_eq_true rfl, Nat.le_of_ble_eq_true rfl⟩ (fun ws_11 r_12 h_13 H locs hP hD hS => ?_)
            obtain ⟨rfl, v_14, rfl⟩ := h_13
            have hP : va_P D vwCl (WW ad cJ cI cZ bm pa p0 p1 p2 li wi mt ms ma mp mk mn ou) H := hP
            have hD : va_D A (WW ad cJ cI cZ bm pa p0 p1 p2 li wi mt ms ma mp mk mn ou) := hD
            refine bm_zb_ne (x := v_14) (tgt := 38) hx hb dX5_changes_31 (by decide) (fun c_15 => ?_) (fun c_15 => ?_)
            · refine lv_iconst (v := bm_b false) hx hb dX5_changes_38 (by decide) ?_
              refine lv_istore_n (lv' := [(1, .int (bm_b false)), (2, .int (nI i_2)), (0, .ref (ad 42))]) hx hb dX5_changes_39 rfl hl (by decide) rfl (fun ls hl => ?_)
              refine lv_iinc (v := (nI (i_2 + 1))) (lv' := [(2, .int (nI (i_2 + 1))), (1, .int (bm_b false)), (0, .ref (ad 42))]) hx hb dX5_changes_40 hl (k := 1) rfl (nI_1 i_2) (by decide) rfl (fun ls hl => ?_)
              refine lv_goto (tgt := 4) hx hb dX5_changes_43 (by decide) ?_
              exact ih_4 (i_2 + 1) false (by omega) (by omega)  _ _ hP hD hS _ (lv_sub hl [0, 1, 2] rfl)
            · refine lv_iconst (v := bm_b true) hx hb dX5_changes_34 (by decide) ?_
              refine lv_goto (tgt := 39) hx hb dX5_changes_35 (by decide) ?_
              refine lv_istore_n (lv' := [(1, .int (bm_b true)), (2, .int (nI i_2)), (0, .ref (ad 42))]) hx hb dX5_changes_39 rfl hl (by decide) rfl (fun ls hl => ?_)
              refine lv_iinc (v := (nI (i_2 + 1))) (lv' := [(2, .int (nI (i_2 + 1))), (1, .int (bm_b true)), (0, .ref (ad 42))]) hx hb dX5_changes_40 hl (k := 1) rfl (nI_1 i_2) (by decide) rfl (fun ls hl => ?_)
              refine lv_goto (tgt := 4) hx hb dX5_changes_43 (by decide) ?_
              exact ih_4 (i_2 + 1) true (by omega) (by omega)  _ _ hP hD hS _ (lv_sub hl [0, 1, 2] rfl)
  exact lp_1 (ms.2.2.1 + 1) 0 false (by omega) (by omega)  _ _ hP hD hS _ (lv_sub hl [0, 1, 2] rfl)
