set_option maxHeartbeats 16000000 in
set_option maxRecDepth 100000 in
theorem Z_run {l : Launch} {D : va_G} {ad : Nat → Nat} {cJ cI cZ : ClassId} {bm : gBM} {pa : gPA} {p0 p1 p2 : gPL} {li : gLI} {wi : gWI} {mt : Nat} {ms : gMS} {ma : gMA} {mp : gMP} {mk : gMK} {mn : gMN} {ou : Nat → Int64} {zA : Nat} (hok : okC bm pa p0 p1 p2 li wi) (hz : zA ≤ 2000) : bm_Wx l yX4_run wsX4_run ({ frames := 6, cells := 0, slots := 0, locals := 154 }) D vwCl [(cJ, .long), (cI, .int), (cZ, .boolean)] (WW ad cJ cI cZ bm pa p0 p1 p2 li wi mt ms ma mp mk mn ou) [.ref (ad 0), .long (lN zA)] (PCI ad cJ cI cZ bm pa p0 p1 p2 li wi mt ms ma mp mk mn ou) := by
  obtain ⟨ok_pa_n, ok_pa_side, ok_pa_lowest, ok_p0_turn, ok_p1_turn, ok_p2_turn, ok_li_one, ok_li_other, ok_li_keepOuts, ok_li_nears, ok_wi_netOf, ok_wi_partOf, ok_wi_nets, ok_wi_pins, hw, hh⟩ := hok
  intro sz
  refine Met.ofW (cc := cX4_run) (maxL := 10) (ret := (some .int)) (by decide) rfl ?_
  intro p e s m args below meth c s₁ B hml hv
  obtain ⟨ha, hsz, hP, hK, hD0⟩ := hv
  have hx := B.exec
  have hb := B.bytes
  have hr := B.returns
  have hts := atoms_spec (ws := wsX4_run) B.pre
  have hown : s.vm.findClass RX4 = some m.cls := findClass_of_methodNamed B.named
  have hlocks := B.notSynchronized
  subst hsz
  have hD := hD0.self (sz := s.heap.size)
  generalize hAe : va_A (WW ad cJ cI cZ bm pa p0 p1 p2 li wi mt ms ma mp mk mn ou) s.heap.size = A at hD ⊢
  have hA : ∀ q : Nat, s.heap.size ≤ q → A q := fun q h => by rw [← hAe]; exact Or.inr h
  have hS : va_S A s.heap s.heap [] := va_S.rf
  have hl := lv_entry ([.ref (ad 0), .long (lN zA)]) (n := 10) (Nat.le_of_ble_eq_true rfl)
  refine W.eq (g2 := entryFrame m ([.ref (ad 0), .long (lN zA)] : List Value).toArray 10) (by rw [ha]) ?_
  rw [lg_entry_eq]
  generalize (lg_sl ([.ref (ad 0), .long (lN zA)]) ++ List.replicate (10 - (lg_sl ([.ref (ad 0), .long (lN zA)])).length) Slot.unset).toArray = ls at hl ⊢
  have hl : lv_has ls 10 [(0, .ref (ad 0)), (1, .long (lN zA))] := hl
  refine lv_lload_n hx hb dX4_run_0 rfl (lv_at hl 1 rfl) ?_
  refine lv_lconst (v := 0) hx hb dX4_run_1 (by decide) ?_
  refine bm_lc_lt (x := (lN zA)) (y := 0) (tgt := 14) hx hb dX4_run_2 dX4_run_3 (by decide) (fun c_1 => ?_) (fun c_1 => ?_)
  · exact absurd c_1 (bx_lN0 (by omega))
  · refine lv_lload_n hx hb dX4_run_6 rfl (lv_at hl 1 rfl) ?_
    refine lv_ldc2 (v := 2000) hx hb hown (hts (.constantLong RX4 193 2000) (List.mem_cons_of_mem _ clX4_193)) dX4_run_7 ?_
    refine bm_lc_le (x := (lN zA)) (y := 2000) (tgt := 24) hx hb dX4_run_10 dX4_run_11 (by decide) (fun c_2 => ?_) (fun c_2 => ?_)
    · refine lv_aload_n hx hb dX4_run_24 rfl (lv_at hl 0 rfl) ?_
      refine va_get (D := D) (ci := 4) (v := .ref (ad 1)) (C := RX4) (T := TX4) (N := 10) hx hb hts (inT inX4) hown hK hP 0 ww_0 rfl 2 (by decide) (hts (.fieldLink RX4 12 "BoardMoves" "parts" "LBoardMoves$Parts;") (List.mem_cons_of_mem _ flX4_12)) (fun _ h9 => h9) rfl dX4_run_25 ?_
      refine va_get (D := D) (ci := 1) (v := .int (nI pa.2.2.2.2.2.2)) (C := RX1) (T := TX1) (N := 7) hx hb hts (inT inX1) hown hK hP 1 ww_1 rfl 6 (by decide) (hts (.fieldLink RX4 197 "BoardMoves$Parts" "count" "I") (List.mem_cons_of_mem _ flX4_197)) (fun _ h9 => h9) rfl dX4_run_28 ?_
      refine bm_nz_eq (x := pa.2.2.2.2.2.2) (tgt := 40) hx hb (by omega) dX4_run_31 (by decide) (fun c_3 => ?_) (fun c_3 => ?_)
      · refine lv_iconst (v := nI 0) hx hb dX4_run_40 (by decide) ?_
        exact bm_iretX (v := (nI 0)) hx hb hr hP hD hK hS ⟨bm, pa, p0, p1, p2, li, wi, ou, ⟨ok_pa_n, ok_pa_side, ok_pa_lowest, ok_p0_turn, ok_p1_turn, ok_p2_turn, ok_li_one, ok_li_other, ok_li_keepOuts, ok_li_nears, ok_wi_netOf, ok_wi_partOf, ok_wi_nets, ok_wi_pins, hw, hh⟩, rfl, rfl, (nI 0), rfl⟩ dX4_run_41 hlocks
      · refine lv_lload_n hx hb dX4_run_34 rfl (lv_at hl 1 rfl) ?_
        refine lv_lconst (v := 0) hx hb dX4_run_35 (by decide) ?_
        refine bm_lc_ne (x := (lN zA)) (y := 0) (tgt := 42) hx hb dX4_run_36 dX4_run_37 (by decide) (fun c_4 => ?_) (fun c_4 => ?_)
        · have hz0 : 0 < zA := Nat.pos_of_ne_zero (fun h => c_4 (by rw [h]; rfl))
          refine lv_aload_n hx hb dX4_run_42 rfl (lv_at hl 0 rfl) ?_
          refine va_get (D := D) (ci := 4) (v := .long bm.2.2.2) (C := RX4) (T := TX4) (N := 10) hx hb hts (inT inX4) hown hK hP 0 ww_0 rfl 9 (by decide) (hts (.fieldLink RX4 47 "BoardMoves" "keptWire" "J") (List.mem_cons_of_mem _ flX4_47)) (fun _ h9 => h9) rfl dX4_run_43 ?_
          refine lv_lstore_n (lv' := [(3, .long bm.2.2.2), (0, .ref (ad 0)), (1, .long (lN zA))]) hx hb dX4_run_46 rfl hl (by decide) rfl (fun ls hl => ?_)
          refine lv_aload_n hx hb dX4_run_47 rfl (lv_at hl 1 rfl) ?_
          refine va_get (D := D) (ci := 4) (v := .long bm.2.2.2) (C := RX4) (T := TX4) (N := 10) hx hb hts (inT inX4) hown hK hP 0 ww_0 rfl 9 (by decide) (hts (.fieldLink RX4 47 "BoardMoves" "keptWire" "J") (List.mem_cons_of_mem _ flX4_47)) (fun _ h9 => h9) rfl dX4_run_48 ?_
          refine lv_lstore (lv' := [(5, .long bm.2.2.2), (3, .long bm.2.2.2), (0, .ref (ad 0)), (1, .long (lN zA))]) hx hb dX4_run_51 hl (by decide) rfl (fun ls hl => ?_)
          refine lv_iconst (v := nI 0) hx hb dX4_run_53 (by decide) ?_
          refine lv_istore (lv' := [(7, .int (nI 0)), (5, .long bm.2.2.2), (3, .long bm.2.2.2), (0, .ref (ad 0)), (1, .long (lN zA))]) hx hb dX4_run_54 hl (by decide) rfl (fun ls hl => ?_)
          refine lv_aload_n hx hb dX4_run_56 rfl (lv_at hl 3 rfl) ?_
          refine va_get (D := D) (ci := 4) (v := .ref (ad 18)) (C := RX4) (T := TX4) (N := 10) hx hb hts (inT inX4) hown hK hP 0 ww_0 rfl 7 (by decide) (hts (.fieldLink RX4 44 "BoardMoves" "best" "LBoardMoves$Placement;") (List.mem_cons_of_mem _ flX4_44)) (fun _ h9 => h9) rfl dX4_run_57 ?_
          refine lv_aload_n hx hb dX4_run_60 rfl (lv_at hl 3 rfl) ?_
          refine va_get (D := D) (ci := 4) (v := .ref (ad 8)) (C := RX4) (T := TX4) (N := 10) hx hb hts (inT inX4) hown hK hP 0 ww_0 rfl 5 (by decide) (hts (.fieldLink RX4 37 "BoardMoves" "now" "LBoardMoves$Placement;") (List.mem_cons_of_mem _ flX4_37)) (fun _ h9 => h9) rfl dX4_run_61 ?_
          refine bm_xcallV (As := [.ref (ad 8)]) (rest := []) ⟨hx, hb, hml, hown, hts⟩ (x_cp20   ok_pa_n ok_p2_turn ok_p0_turn ) (cwV 1 hts gvX4_108 rfl rfl rfl hvX2_copyFrom ⟨Nat.le_of_ble_eq_true rfl, Nat.le_of_ble_eq_true rfl⟩) hK hP hD hS hA 18 2 rfl ww_18 rfl hl.1 rfl (Nat.le_of_ble_eq_true rfl) dX4_run_64 ⟨Nat.le_of_ble_eq_true rfl, Nat.le_of_ble_eq_true rfl⟩ (fun ws_5 r_6 h_7 H locs hP hD hS => ?_)
          obtain ⟨g_8, g_9, g_10, g_12, ok_11, rfl, rfl⟩ := h_7
          have hP : va_P D vwCl (WW ad cJ cI cZ bm pa p0 p1 (g_8, g_9, g_10, g_12) li wi mt ms ma mp mk mn ou) H := hP
          have hD : va_D A (WW ad cJ cI cZ bm pa p0 p1 (g_8, g_9, g_10, g_12) li wi mt ms ma mp mk mn ou) := hD
          refine lv_lload_n hx hb dX4_run_67 rfl (lv_at hl 4 rfl) ?_
          refine lv_lconst (v := 1) hx hb dX4_run_68 (by decide) ?_
          refine lv_lsub hx hb dX4_run_69 ?_
          refine lv_lstore (lv' := [(8, .long (lN zA - 1)), (7, .int (nI 0)), (5, .long bm.2.2.2), (3, .long bm.2.2.2), (0, .ref (ad 0)), (1, .long (lN zA))]) hx hb dX4_run_70 hl (by decide) rfl (fun ls hl => ?_)
          have lp_13 : ∀ (j_14 : Nat) (v_16 : Int64) (v_17 : Int32) (g_18 : Nat → Int64) (g_19 : Nat → Int64) (g_20 : Nat → Nat) (g_22 : Nat → Bool) (g_23 : Nat → Int64) (g_24 : Nat → Int64) (g_25 : Nat → Nat) (g_27 : Nat → Bool) (g_28 : Nat → Int64) (g_29 : Nat → Int64) (g_30 : Nat → Nat) (g_32 : Nat → Bool) (g_33 : Nat → Bool) (g_34 : Nat → Int64) (g_35 : Nat → Int64) (g_36 : Nat → Int64) (g_37 : Nat → Int64) (g_38 : Int64) (g_39 : Int64), (∀ i, g_20 i < 40) → (∀ i, g_25 i < 40) → (∀ i, g_30 i < 40) → ∀ (H : Heap) (locs : List Loc), va_P D vwCl (WW ad cJ cI cZ (bm.1, bm.2.1, g_39, g_38) pa (g_18, g_19, g_20, g_22) (g_23, g_24, g_25, g_27) (g_28, g_29, g_30, g_32) li (wi.1, wi.2.1, wi.2.2.1, wi.2.2.2.1, g_33, g_34, g_35, g_36, g_37, wi.2.2.2.2.2.2.2.2.2.1, wi.2.2.2.2.2.2.2.2.2.2) mt ms ma mp mk mn ou) H → va_D A (WW ad cJ cI cZ (bm.1, bm.2.1, g_39, g_38) pa (g_18, g_19, g_20, g_22) (g_23, g_24, g_25, g_27) (g_28, g_29, g_30, g_32) li (wi.1, wi.2.1, wi.2.2.1, wi.2.2.2.1, g_33, g_34, g_35, g_36, g_37, wi.2.2.2.2.2.2.2.2.2.1, wi.2.2.2.2.2.2.2.2.2.2) mt ms ma mp mk mn ou) → va_S A s.heap H locs → ∀ (ls : Array Slot), lv_has ls 10 [(8, .long (lN j_14 - 1)), (7, .int v_17), (5, .long v_16), (3, .long bm.2.2.2), (0, .ref (ad 0)), (1, .long (lN zA))] → W p l e (headSpec wsX4_run ({ frames := 6, cells := 0, slots := 0, locals := 154 })).room s m args below meth c H locs 0 0 (MQ below (bm_Wxq D vwCl [(cJ, .long), (cI, .int), (cZ, .boolean)] (PCI ad cJ cI cZ bm pa p0 p1 p2 li wi mt ms ma mp mk mn ou) A) args s 0 0 A) (F0 m 72 ls []) := by
            intro j_14
            induction j_14 with
            | zero =>
              intro v_16 v_17 g_18 g_19 g_20 g_22 g_23 g_24 g_25 g_27 g_28 g_29 g_30 g_32 g_33 g_34 g_35 g_36 g_37 g_38 g_39 ok_21 ok_26 ok_31 H locs hP hD hS ls hl
              refine lv_lload hx hb dX4_run_72 (lv_at hl 0 rfl) ?_
              refine lv_lconst (v := 0) hx hb dX4_run_74 (by decide) ?_
              refine bm_lc_lt (x := (lN 0 - 1)) (y := 0) (tgt := 135) hx hb dX4_run_75 dX4_run_76 (by decide) (fun c_40 => ?_) (fun c_40 => ?_)
              · refine lv_aload_n hx hb dX4_run_135 rfl (lv_at hl 4 rfl) ?_
                refine va_get (D := D) (ci := 4) (v := .ref (ad 8)) (C := RX4) (T := TX4) (N := 10) hx hb hts (inT inX4) hown hK hP 0 ww_0 rfl 5 (by decide) (hts (.fieldLink RX4 37 "BoardMoves" "now" "LBoardMoves$Placement;") (List.mem_cons_of_mem _ flX4_37)) (fun _ h9 => h9) rfl dX4_run_136 ?_
                refine lv_aload_n hx hb dX4_run_139 rfl (lv_at hl 4 rfl) ?_
                refine va_get (D := D) (ci := 4) (v := .ref (ad 18)) (C := RX4) (T := TX4) (N := 10) hx hb hts (inT inX4) hown hK hP 0 ww_0 rfl 7 (by decide) (hts (.fieldLink RX4 44 "BoardMoves" "best" "LBoardMoves$Placement;") (List.mem_cons_of_mem _ flX4_44)) (fun _ h9 => h9) rfl dX4_run_140 ?_
                refine bm_xcallV (As := [.ref (ad 18)]) (rest := []) ⟨hx, hb, hml, hown, hts⟩ (x_cp02 (bm := (bm.1, bm.2.1, g_39, g_38)) (p0 := (g_18, g_19, g_20, g_22)) (p1 := (g_23, g_24, g_25, g_27)) (p2 := (g_28, g_29, g_30, g_32)) (wi := (wi.1, wi.2.1, wi.2.2.1, wi.2.2.2.1, g_33, g_34, g_35, g_36, g_37, wi.2.2.2.2.2.2.2.2.2.1, wi.2.2.2.2.2.2.2.2.2.2))  ok_pa_n ok_21 ok_31 ) (cwV 1 hts gvX4_108 rfl rfl rfl hvX2_copyFrom ⟨Nat.le_of_ble_eq_true rfl, Nat.le_of_ble_eq_true rfl⟩) hK hP hD hS hA 8 2 rfl ww_8 rfl hl.1 rfl (Nat.le_of_ble_eq_true rfl) dX4_run_143 ⟨Nat.le_of_ble_eq_true rfl, Nat.le_of_ble_eq_true rfl⟩ (fun ws_41 r_42 h_43 H locs hP hD hS => ?_)
                obtain ⟨g_44, g_45, g_46, g_48, ok_47, rfl, rfl⟩ := h_43
                have hP : va_P D vwCl (WW ad cJ cI cZ (bm.1, bm.2.1, g_39, g_38) pa (g_44, g_45, g_46, g_48) (g_23, g_24, g_25, g_27) (g_28, g_29, g_30, g_32) li (wi.1, wi.2.1, wi.2.2.1, wi.2.2.2.1, g_33, g_34, g_35, g_36, g_37, wi.2.2.2.2.2.2.2.2.2.1, wi.2.2.2.2.2.2.2.2.2.2) mt ms ma mp mk mn ou) H := hP
                have hD : va_D A (WW ad cJ cI cZ (bm.1, bm.2.1, g_39, g_38) pa (g_44, g_45, g_46, g_48) (g_23, g_24, g_25, g_27) (g_28, g_29, g_30, g_32) li (wi.1, wi.2.1, wi.2.2.1, wi.2.2.2.1, g_33, g_34, g_35, g_36, g_37, wi.2.2.2.2.2.2.2.2.2.1, wi.2.2.2.2.2.2.2.2.2.2) mt ms ma mp mk mn ou) := hD
                refine lv_aload_n hx hb dX4_run_146 rfl (lv_at hl 4 rfl) ?_
                refine lv_lload hx hb dX4_run_147 (lv_at hl 2 rfl) ?_
                refine va_put (D := D) (ci := 4) (v := .long v_16) (ty := .long) (C := RX4) (T := TX4) (N := 10) hx hb hts (inT inX4) tyX4 tyX4_ok nmX4 hown hK hP hD hS 0 ww_0 rfl 9 (by decide) (hts (.fieldLink RX4 47 "BoardMoves" "keptWire" "J") (List.mem_cons_of_mem _ flX4_47)) (fun _ h9 => h9) rfl (by decide +kernel) rfl rfl (Nat.le_of_ble_eq_true rfl) dX4_run_149 (fun H locs hP hD hS => ?_)
                have hP : va_P D vwCl (WW ad cJ cI cZ (bm.1, bm.2.1, g_39, v_16) pa (g_44, g_45, g_46, g_48) (g_23, g_24, g_25, g_27) (g_28, g_29, g_30, g_32) li (wi.1, wi.2.1, wi.2.2.1, wi.2.2.2.1, g_33, g_34, g_35, g_36, g_37, wi.2.2.2.2.2.2.2.2.2.1, wi.2.2.2.2.2.2.2.2.2.2) mt ms ma mp mk mn ou) H := hP
                have hD : va_D A (WW ad cJ cI cZ (bm.1, bm.2.1, g_39, v_16) pa (g_44, g_45, g_46, g_48) (g_23, g_24, g_25, g_27) (g_28, g_29, g_30, g_32) li (wi.1, wi.2.1, wi.2.2.1, wi.2.2.2.1, g_33, g_34, g_35, g_36, g_37, wi.2.2.2.2.2.2.2.2.2.1, wi.2.2.2.2.2.2.2.2.2.2) mt ms ma mp mk mn ou) := hD
                refine lv_iload hx hb dX4_run_152 (lv_at hl 1 rfl) ?_
                exact bm_iretX (v := v_17) hx hb hr hP hD hK hS ⟨(bm.1, bm.2.1, g_39, v_16), pa, (g_44, g_45, g_46, g_48), (g_23, g_24, g_25, g_27), (g_28, g_29, g_30, g_32), li, (wi.1, wi.2.1, wi.2.2.1, wi.2.2.2.1, g_33, g_34, g_35, g_36, g_37, wi.2.2.2.2.2.2.2.2.2.1, wi.2.2.2.2.2.2.2.2.2.2), ou, ⟨ok_pa_n, ok_pa_side, ok_pa_lowest, ok_47, ok_26, ok_31, ok_li_one, ok_li_other, ok_li_keepOuts, ok_li_nears, ok_wi_netOf, ok_wi_partOf, ok_wi_nets, ok_wi_pins, hw, hh⟩, rfl, rfl, v_17, rfl⟩ dX4_run_154 hlocks
              · exact absurd (by decide) c_40
            | succ j_14 ih_15 =>
              intro v_16 v_17 g_18 g_19 g_20 g_22 g_23 g_24 g_25 g_27 g_28 g_29 g_30 g_32 g_33 g_34 g_35 g_36 g_37 g_38 g_39 ok_21 ok_26 ok_31 H locs hP hD hS ls hl
              refine lv_lload hx hb dX4_run_72 (lv_at hl 0 rfl) ?_
              refine lv_lconst (v := 0) hx hb dX4_run_74 (by decide) ?_
              refine bm_lc_lt (x := (lN (j_14 + 1) - 1)) (y := 0) (tgt := 135) hx hb dX4_run_75 dX4_run_76 (by decide) (fun c_49 => ?_) (fun c_49 => ?_)
              · refine lv_aload_n hx hb dX4_run_135 rfl (lv_at hl 4 rfl) ?_
                refine va_get (D := D) (ci := 4) (v := .ref (ad 8)) (C := RX4) (T := TX4) (N := 10) hx hb hts (inT inX4) hown hK hP 0 ww_0 rfl 5 (by decide) (hts (.fieldLink RX4 37 "BoardMoves" "now" "LBoardMoves$Placement;") (List.mem_cons_of_mem _ flX4_37)) (fun _ h9 => h9) rfl dX4_run_136 ?_
                refine lv_aload_n hx hb dX4_run_139 rfl (lv_at hl 4 rfl) ?_
                refine va_get (D := D) (ci := 4) (v := .ref (ad 18)) (C := RX4) (T := TX4) (N := 10) hx hb hts (inT inX4) hown hK hP 0 ww_0 rfl 7 (by decide) (hts (.fieldLink RX4 44 "BoardMoves" "best" "LBoardMoves$Placement;") (List.mem_cons_of_mem _ flX4_44)) (fun _ h9 => h9) rfl dX4_run_140 ?_
                refine bm_xcallV (As := [.ref (ad 18)]) (rest := []) ⟨hx, hb, hml, hown, hts⟩ (x_cp02 (bm := (bm.1, bm.2.1, g_39, g_38)) (p0 := (g_18, g_19, g_20, g_22)) (p1 := (g_23, g_24, g_25, g_27)) (p2 := (g_28, g_29, g_30, g_32)) (wi := (wi.1, wi.2.1, wi.2.2.1, wi.2.2.2.1, g_33, g_34, g_35, g_36, g_37, wi.2.2.2.2.2.2.2.2.2.1, wi.2.2.2.2.2.2.2.2.2.2))  ok_pa_n ok_21 ok_31 ) (cwV 1 hts gvX4_108 rfl rfl rfl hvX2_copyFrom ⟨Nat.le_of_ble_eq_true rfl, Nat.le_of_ble_eq_true rfl⟩) hK hP hD hS hA 8 2 rfl ww_8 rfl hl.1 rfl (Nat.le_of_ble_eq_true rfl) dX4_run_143 ⟨Nat.le_of_ble_eq_true rfl, Nat.le_of_ble_eq_true rfl⟩ (fun ws_50 r_51 h_52 H locs hP hD hS => ?_)
                obtain ⟨g_53, g_54, g_55, g_57, ok_56, rfl, rfl⟩ := h_52
                have hP : va_P D vwCl (WW ad cJ cI cZ (bm.1, bm.2.1, g_39, g_38) pa (g_53, g_54, g_55, g_57) (g_23, g_24, g_25, g_27) (g_28, g_29, g_30, g_32) li (wi.1, wi.2.1, wi.2.2.1, wi.2.2.2.1, g_33, g_34, g_35, g_36, g_37, wi.2.2.2.2.2.2.2.2.2.1, wi.2.2.2.2.2.2.2.2.2.2) mt ms ma mp mk mn ou) H := hP
                have hD : va_D A (WW ad cJ cI cZ (bm.1, bm.2.1, g_39, g_38) pa (g_53, g_54, g_55, g_57) (g_23, g_24, g_25, g_27) (g_28, g_29, g_30, g_32) li (wi.1, wi.2.1, wi.2.2.1, wi.2.2.2.1, g_33, g_34, g_35, g_36, g_37, wi.2.2.2.2.2.2.2.2.2.1, wi.2.2.2.2.2.2.2.2.2.2) mt ms ma mp mk mn ou) := hD
                refine lv_aload_n hx hb dX4_run_146 rfl (lv_at hl 4 rfl) ?_
                refine lv_lload hx hb dX4_run_147 (lv_at hl 2 rfl) ?_
                refine va_put (D := D) (ci := 4) (v := .long v_16) (ty := .long) (C := RX4) (T := TX4) (N := 10) hx hb hts (inT inX4) tyX4 tyX4_ok nmX4 hown hK hP hD hS 0 ww_0 rfl 9 (by decide) (hts (.fieldLink RX4 47 "BoardMoves" "keptWire" "J") (List.mem_cons_of_mem _ flX4_47)) (fun _ h9 => h9) rfl (by decide +kernel) rfl rfl (Nat.le_of_ble_eq_true rfl) dX4_run_149 (fun H locs hP hD hS => ?_)
                have hP : va_P D vwCl (WW ad cJ cI cZ (bm.1, bm.2.1, g_39, v_16) pa (g_53, g_54, g_55, g_57) (g_23, g_24, g_25, g_27) (g_28, g_29, g_30, g_32) li (wi.1, wi.2.1, wi.2.2.1, wi.2.2.2.1, g_33, g_34, g_35, g_36, g_37, wi.2.2.2.2.2.2.2.2.2.1, wi.2.2.2.2.2.2.2.2.2.2) mt ms ma mp mk mn ou) H := hP
                have hD : va_D A (WW ad cJ cI cZ (bm.1, bm.2.1, g_39, v_16) pa (g_53, g_54, g_55, g_57) (g_23, g_24, g_25, g_27) (g_28, g_29, g_30, g_32) li (wi.1, wi.2.1, wi.2.2.1, wi.2.2.2.1, g_33, g_34, g_35, g_36, g_37, wi.2.2.2.2.2.2.2.2.2.1, wi.2.2.2.2.2.2.2.2.2.2) mt ms ma mp mk mn ou) := hD
                refine lv_iload hx hb dX4_run_152 (lv_at hl 1 rfl) ?_
                exact bm_iretX (v := v_17) hx hb hr hP hD hK hS ⟨(bm.1, bm.2.1, g_39, v_16), pa, (g_53, g_54, g_55, g_57), (g_23, g_24, g_25, g_27), (g_28, g_29, g_30, g_32), li, (wi.1, wi.2.1, wi.2.2.1, wi.2.2.2.1, g_33, g_34, g_35, g_36, g_37, wi.2.2.2.2.2.2.2.2.2.1, wi.2.2.2.2.2.2.2.2.2.2), ou, ⟨ok_pa_n, ok_pa_side, ok_pa_lowest, ok_56, ok_26, ok_31, ok_li_one, ok_li_other, ok_li_keepOuts, ok_li_nears, ok_wi_netOf, ok_wi_partOf, ok_wi_nets, ok_wi_pins, hw, hh⟩, rfl, rfl, v_17, rfl⟩ dX4_run_154 hlocks
              · refine lv_aload_n hx hb dX4_run_79 rfl (lv_at hl 4 rfl) ?_
                refine lv_lload_n hx hb dX4_run_80 rfl (lv_at hl 3 rfl) ?_
                refine lv_lload hx hb dX4_run_81 (lv_at hl 0 rfl) ?_
                refine lv_lmul hx hb dX4_run_83 ?_
                refine lv_topl (fun t_58 _ => ?_)
                refine lv_ldc2 (v := 8) hx hb hown (hts (.constantLong RX4 200 8) (List.mem_cons_of_mem _ clX4_200)) dX4_run_84 ?_
                refine lv_lload_n hx hb dX4_run_87 rfl (lv_at hl 5 rfl) ?_
                refine bm_lmulN (x := 8) (y := zA) hx hb dX4_run_88 ?_
                refine lv_ldiv hx hb dX4_run_89 (bm_lN_ne0 (by omega) (by omega)) ?_
                refine lv_topl (fun t_59 _ => ?_)
                refine bm_xcallV (As := [.long t_59]) (rest := []) ⟨hx, hb, hml, hown, hts⟩ (x_step (bm := (bm.1, bm.2.1, g_39, g_38)) (p0 := (g_18, g_19, g_20, g_22)) (p1 := (g_23, g_24, g_25, g_27)) (p2 := (g_28, g_29, g_30, g_32)) (wi := (wi.1, wi.2.1, wi.2.2.1, wi.2.2.2.1, g_33, g_34, g_35, g_36, g_37, wi.2.2.2.2.2.2.2.2.2.1, wi.2.2.2.2.2.2.2.2.2.2)) (z1 := t_59) ok_pa_n ok_pa_side ok_21 ok_li_keepOuts ok_li_nears ok_li_one ok_li_other ok_26 ok_pa_lowest ok_wi_nets ok_wi_pins ok_wi_netOf ok_wi_partOf  hw hh) (cwV 1 hts gvX4_202 rfl rfl rfl hvX4_step ⟨Nat.le_of_ble_eq_true rfl, Nat.le_of_ble_eq_true rfl⟩) hK hP hD hS hA 0 4 rfl ww_0 rfl hl.1 rfl (Nat.le_of_ble_eq_true rfl) dX4_run_90 ⟨Nat.le_of_ble_eq_true rfl, Nat.le_of_ble_eq_true rfl⟩ (fun ws_60 r_61 h_62 H locs hP hD hS => ?_)
                obtain ⟨g_63, g_64, g_65, g_67, g_68, g_69, g_70, g_72, g_73, g_74, g_75, g_76, g_77, g_78, g_79, ok_66, ok_71, rfl, v_80, rfl⟩ := h_62
                have hP : va_P D vwCl (WW ad cJ cI cZ (bm.1, bm.2.1, g_79, g_78) pa (g_63, g_64, g_65, g_67) (g_68, g_69, g_70, g_72) (g_28, g_29, g_30, g_32) li (wi.1, wi.2.1, wi.2.2.1, wi.2.2.2.1, g_73, g_74, g_75, g_76, g_77, wi.2.2.2.2.2.2.2.2.2.1, wi.2.2.2.2.2.2.2.2.2.2) mt ms ma mp mk mn ou) H := hP
                have hD : va_D A (WW ad cJ cI cZ (bm.1, bm.2.1, g_79, g_78) pa (g_63, g_64, g_65, g_67) (g_68, g_69, g_70, g_72) (g_28, g_29, g_30, g_32) li (wi.1, wi.2.1, wi.2.2.1, wi.2.2.2.1, g_73, g_74, g_75, g_76, g_77, wi.2.2.2.2.2.2.2.2.2.1, wi.2.2.2.2.2.2.2.2.2.2) mt ms ma mp mk mn ou) := hD
                refine bm_zb_eq (x := v_80) (tgt := 126) hx hb dX4_run_93 (by decide) (fun c_81 => ?_) (fun c_81 => ?_)
                · refine lv_lload hx hb dX4_run_126 (lv_at hl 0 rfl) ?_
                  refine lv_lconst (v := 1) hx hb dX4_run_128 (by decide) ?_
                  refine lv_lsub hx hb dX4_run_129 ?_
                  rw [bx_lNs j_14]
                  refine lv_lstore (lv' := [(8, .long (lN j_14 - 1)), (7, .int v_17), (5, .long v_16), (3, .long bm.2.2.2), (0, .ref (ad 0)), (1, .long (lN zA))]) hx hb dX4_run_130 hl (by decide) rfl (fun ls hl => ?_)
                  refine lv_goto (tgt := 72) hx hb dX4_run_132 (by decide) ?_
                  exact ih_15 v_16 v_17 g_63 g_64 g_65 g_67 g_68 g_69 g_70 g_72 g_28 g_29 g_30 g_32 g_73 g_74 g_75 g_76 g_77 g_78 g_79 ok_66 ok_71 ok_31 _ _ hP hD hS _ (lv_sub hl [0, 1, 2, 3, 4, 5] rfl)
                · refine lv_iinc (v := (v_17 + 1)) (lv' := [(7, .int (v_17 + 1)), (8, .long (lN (j_14 + 1) - 1)), (5, .long v_16), (3, .long bm.2.2.2), (0, .ref (ad 0)), (1, .long (lN zA))]) hx hb dX4_run_96 hl (k := 1) rfl (rfl) (by decide) rfl (fun ls hl => ?_)
                  refine lv_aload_n hx hb dX4_run_99 rfl (lv_at hl 4 rfl) ?_
                  refine va_get (D := D) (ci := 4) (v := .long g_78) (C := RX4) (T := TX4) (N := 10) hx hb hts (inT inX4) hown hK hP 0 ww_0 rfl 9 (by decide) (hts (.fieldLink RX4 47 "BoardMoves" "keptWire" "J") (List.mem_cons_of_mem _ flX4_47)) (fun _ h9 => h9) rfl dX4_run_100 ?_
                  refine lv_lload hx hb dX4_run_103 (lv_at hl 2 rfl) ?_
                  refine bm_lc_ge (x := g_78) (y := v_16) (tgt := 126) hx hb dX4_run_105 dX4_run_106 (by decide) (fun c_82 => ?_) (fun c_82 => ?_)
                  · refine lv_lload hx hb dX4_run_126 (lv_at hl 1 rfl) ?_
                    refine lv_lconst (v := 1) hx hb dX4_run_128 (by decide) ?_
                    refine lv_lsub hx hb dX4_run_129 ?_
                    rw [bx_lNs j_14]
                    refine lv_lstore (lv' := [(8, .long (lN j_14 - 1)), (7, .int (v_17 + 1)), (5, .long v_16), (3, .long bm.2.2.2), (0, .ref (ad 0)), (1, .long (lN zA))]) hx hb dX4_run_130 hl (by decide) rfl (fun ls hl => ?_)
                    refine lv_goto (tgt := 72) hx hb dX4_run_132 (by decide) ?_
                    exact ih_15 v_16 (v_17 + 1) g_63 g_64 g_65 g_67 g_68 g_69 g_70 g_72 g_28 g_29 g_30 g_32 g_73 g_74 g_75 g_76 g_77 g_78 g_79 ok_66 ok_71 ok_31 _ _ hP hD hS _ (lv_sub hl [0, 1, 2, 3, 4, 5] rfl)
                  · refine lv_aload_n hx hb dX4_run_109 rfl (lv_at hl 4 rfl) ?_
                    refine va_get (D := D) (ci := 4) (v := .long g_78) (C := RX4) (T := TX4) (N := 10) hx hb hts (inT inX4) hown hK hP 0 ww_0 rfl 9 (by decide) (hts (.fieldLink RX4 47 "BoardMoves" "keptWire" "J") (List.mem_cons_of_mem _ flX4_47)) (fun _ h9 => h9) rfl dX4_run_110 ?_
                    refine lv_lstore (lv' := [(5, .long g_78), (7, .int (v_17 + 1)), (8, .long (lN (j_14 + 1) - 1)), (3, .long bm.2.2.2), (0, .ref (ad 0)), (1, .long (lN zA))]) hx hb dX4_run_113 hl (by decide) rfl (fun ls hl => ?_)
                    refine lv_aload_n hx hb dX4_run_115 rfl (lv_at hl 4 rfl) ?_
                    refine va_get (D := D) (ci := 4) (v := .ref (ad 18)) (C := RX4) (T := TX4) (N := 10) hx hb hts (inT inX4) hown hK hP 0 ww_0 rfl 7 (by decide) (hts (.fieldLink RX4 44 "BoardMoves" "best" "LBoardMoves$Placement;") (List.mem_cons_of_mem _ flX4_44)) (fun _ h9 => h9) rfl dX4_run_116 ?_
                    refine lv_aload_n hx hb dX4_run_119 rfl (lv_at hl 4 rfl) ?_
                    refine va_get (D := D) (ci := 4) (v := .ref (ad 8)) (C := RX4) (T := TX4) (N := 10) hx hb hts (inT inX4) hown hK hP 0 ww_0 rfl 5 (by decide) (hts (.fieldLink RX4 37 "BoardMoves" "now" "LBoardMoves$Placement;") (List.mem_cons_of_mem _ flX4_37)) (fun _ h9 => h9) rfl dX4_run_120 ?_
                    refine bm_xcallV (As := [.ref (ad 8)]) (rest := []) ⟨hx, hb, hml, hown, hts⟩ (x_cp20 (bm := (bm.1, bm.2.1, g_79, g_78)) (p0 := (g_63, g_64, g_65, g_67)) (p1 := (g_68, g_69, g_70, g_72)) (p2 := (g_28, g_29, g_30, g_32)) (wi := (wi.1, wi.2.1, wi.2.2.1, wi.2.2.2.1, g_73, g_74, g_75, g_76, g_77, wi.2.2.2.2.2.2.2.2.2.1, wi.2.2.2.2.2.2.2.2.2.2))  ok_pa_n ok_31 ok_66 ) (cwV 1 hts gvX4_108 rfl rfl rfl hvX2_copyFrom ⟨Nat.le_of_ble_eq_true rfl, Nat.le_of_ble_eq_true rfl⟩) hK hP hD hS hA 18 2 rfl ww_18 rfl hl.1 rfl (Nat.le_of_ble_eq_true rfl) dX4_run_123 ⟨Nat.le_of_ble_eq_true rfl, Nat.le_of_ble_eq_true rfl⟩ (fun ws_83 r_84 h_85 H locs hP hD hS => ?_)
                    obtain ⟨g_86, g_87, g_88, g_90, ok_89, rfl, rfl⟩ := h_85
                    have hP : va_P D vwCl (WW ad cJ cI cZ (bm.1, bm.2.1, g_79, g_78) pa (g_63, g_64, g_65, g_67) (g_68, g_69, g_70, g_72) (g_86, g_87, g_88, g_90) li (wi.1, wi.2.1, wi.2.2.1, wi.2.2.2.1, g_73, g_74, g_75, g_76, g_77, wi.2.2.2.2.2.2.2.2.2.1, wi.2.2.2.2.2.2.2.2.2.2) mt ms ma mp mk mn ou) H := hP
                    have hD : va_D A (WW ad cJ cI cZ (bm.1, bm.2.1, g_79, g_78) pa (g_63, g_64, g_65, g_67) (g_68, g_69, g_70, g_72) (g_86, g_87, g_88, g_90) li (wi.1, wi.2.1, wi.2.2.1, wi.2.2.2.1, g_73, g_74, g_75, g_76, g_77, wi.2.2.2.2.2.2.2.2.2.1, wi.2.2.2.2.2.2.2.2.2.2) mt ms ma mp mk mn ou) := hD
                    refine lv_lload hx hb dX4_run_126 (lv_at hl 2 rfl) ?_
                    refine lv_lconst (v := 1) hx hb dX4_run_128 (by decide) ?_
                    refine lv_lsub hx hb dX4_run_129 ?_
                    rw [bx_lNs j_14]
                    refine lv_lstore (lv' := [(8, .long (lN j_14 - 1)), (5, .long g_78), (7, .int (v_17 + 1)), (3, .long bm.2.2.2), (0, .ref (ad 0)), (1, .long (lN zA))]) hx hb dX4_run_130 hl (by decide) rfl (fun ls hl => ?_)
                    refine lv_goto (tgt := 72) hx hb dX4_run_132 (by decide) ?_
                    exact ih_15 g_78 (v_17 + 1) g_63 g_64 g_65 g_67 g_68 g_69 g_70 g_72 g_86 g_87 g_88 g_90 g_73 g_74 g_75 g_76 g_77 g_78 g_79 ok_66 ok_71 ok_89 _ _ hP hD hS _ (lv_sub hl [0, 2, 1, 3, 4, 5] rfl)
          exact lp_13 zA bm.2.2.2 0 p0.1 p0.2.1 p0.2.2.1 p0.2.2.2 p1.1 p1.2.1 p1.2.2.1 p1.2.2.2 g_8 g_9 g_10 g_12 wi.2.2.2.2.1 wi.2.2.2.2.2.1 wi.2.2.2.2.2.2.1 wi.2.2.2.2.2.2.2.1 wi.2.2.2.2.2.2.2.2.1 bm.2.2.2 bm.2.2.1 ok_p0_turn ok_p1_turn ok_11 _ _ hP hD hS _ (lv_sub hl [0, 1, 2, 3, 4, 5] rfl)
        · refine lv_iconst (v := nI 0) hx hb dX4_run_40 (by decide) ?_
          exact bm_iretX (v := (nI 0)) hx hb hr hP hD hK hS ⟨bm, pa, p0, p1, p2, li, wi, ou, ⟨ok_pa_n, ok_pa_side, ok_pa_lowest, ok_p0_turn, ok_p1_turn, ok_p2_turn, ok_li_one, ok_li_other, ok_li_keepOuts, ok_li_nears, ok_wi_netOf, ok_wi_partOf, ok_wi_nets, ok_wi_pins, hw, hh⟩, rfl, rfl, (nI 0), rfl⟩ dX4_run_41 hlocks
    · exact absurd c_2 (bx_lN2000 hz)
