set_option maxHeartbeats 16000000 in
set_option maxRecDepth 100000 in
theorem Y_run {l : Launch} {D : va_G} {ad : Nat → Nat} {cJ cI cZ : ClassId} {bm : gBM} {pa : gPA} {p0 p1 p2 : gPL} {li : gLI} {wi : gWI} {mt : Nat} {ms : gMS} {ma : gMA} {mp : gMP} {mk : gMK} {mn : gMN} {ou : Nat → Int64} {zA : Int64} (hok : okM ms ma mp mk mn)  : bm_Wx l yX5_run wsX5_run ({ frames := 4, cells := 0, slots := 0, locals := 105 }) D vwCl [(cJ, .long), (cI, .int), (cZ, .boolean)] (WW ad cJ cI cZ bm pa p0 p1 p2 li wi mt ms ma mp mk mn ou) [.ref (ad 42), .long zA] (PMI ad cJ cI cZ bm pa p0 p1 p2 li wi mt ms ma mp mk mn ou) := by
  obtain ⟨ok_ms_parts, ok_ms_outs, ok_ms_nears, ok_ms_nets, ok_ms_pins, ok_ma_sides, ok_ma_groups, ok_mp_turns, ok_mk_nearOne, ok_mk_nearTwo, ok_mn_pinNet, ok_mn_pinPart, hw, hh⟩ := hok
  intro sz
  refine Met.ofW (cc := cX5_run) (maxL := 23) (ret := (some .int)) (by decide) rfl ?_
  intro p e s m args below meth c s₁ B hml hv
  obtain ⟨ha, hsz, hP, hK, hD0⟩ := hv
  have hx := B.exec
  have hb := B.bytes
  have hr := B.returns
  have hts := atoms_spec (ws := wsX5_run) B.pre
  have hown : s.vm.findClass RX5 = some m.cls := findClass_of_methodNamed B.named
  have hlocks := B.notSynchronized
  subst hsz
  have hD := hD0.self (sz := s.heap.size)
  generalize hAe : va_A (WW ad cJ cI cZ bm pa p0 p1 p2 li wi mt ms ma mp mk mn ou) s.heap.size = A at hD ⊢
  have hA : ∀ q : Nat, s.heap.size ≤ q → A q := fun q h => by rw [← hAe]; exact Or.inr h
  have hS : va_S A s.heap s.heap [] := va_S.rf
  rcases bx_stp zA with ⟨k_zA, hk_zA, rfl⟩ | hno_zA
  · have hl := lv_entry ([.ref (ad 42), .long (lN k_zA)]) (n := 23) (Nat.le_of_ble_eq_true rfl)
    refine W.eq (g2 := entryFrame m ([.ref (ad 42), .long (lN k_zA)] : List Value).toArray 23) (by rw [ha]) ?_
    rw [lg_entry_eq]
    generalize (lg_sl ([.ref (ad 42), .long (lN k_zA)]) ++ List.replicate (23 - (lg_sl ([.ref (ad 42), .long (lN k_zA)])).length) Slot.unset).toArray = ls at hl ⊢
    have hl : lv_has ls 23 [(0, .ref (ad 42)), (1, .long (lN k_zA))] := hl
    refine lv_aload_n hx hb dX5_run_0 rfl (lv_at hl 0 rfl) ?_
    refine lv_lload_n hx hb dX5_run_1 rfl (lv_at hl 1 rfl) ?_
    refine lv_lconst (v := 0) hx hb dX5_run_2 (by decide) ?_
    refine bm_lc_lt (x := (lN k_zA)) (y := 0) (tgt := 19) hx hb dX5_run_3 dX5_run_4 (by decide) (fun c_1 => ?_) (fun c_1 => ?_)
    · refine lv_iconst (v := nI 1) hx hb dX5_run_19 (by decide) ?_
      refine va_put (D := D) (ci := 5) (v := .int (nI 1)) (ty := .int) (C := RX5) (T := TX5) (N := 28) hx hb hts (inT inX5) tyX5 tyX5_ok nmX5 hown hK hP hD hS 42 ww_42 rfl 0 (by decide) (hts (.fieldLink RX5 81 "BoardMovesModel" "thrown" "I") (List.mem_cons_of_mem _ flX5_81)) (fun _ h9 => h9) rfl (by decide +kernel) rfl rfl (Nat.le_of_ble_eq_true rfl) dX5_run_20 (fun H locs hP hD hS => ?_)
      have hP : va_P D vwCl (WW ad cJ cI cZ bm pa p0 p1 p2 li wi (1) ms ma mp mk mn ou) H := hP
      have hD : va_D A (WW ad cJ cI cZ bm pa p0 p1 p2 li wi (1) ms ma mp mk mn ou) := hD
      refine lv_aload_n hx hb dX5_run_23 rfl (lv_at hl 0 rfl) ?_
      refine va_get (D := D) (ci := 5) (v := .int (nI 1)) (C := RX5) (T := TX5) (N := 28) hx hb hts (inT inX5) hown hK hP 42 ww_42 rfl 0 (by decide) (hts (.fieldLink RX5 81 "BoardMovesModel" "thrown" "I") (List.mem_cons_of_mem _ flX5_81)) (fun _ h9 => h9) rfl dX5_run_24 ?_
      refine bm_nz_ne (x := 1) (tgt := 37) hx hb (by decide) dX5_run_27 (by decide) (fun c_2 => ?_) (fun c_2 => ?_)
      · refine lv_iconst (v := nI 0) hx hb dX5_run_37 (by decide) ?_
        exact bm_iretX (v := (nI 0)) hx hb hr hP hD hK hS ⟨(1), ms, ma, mp, mk, mn, ⟨ok_ms_parts, ok_ms_outs, ok_ms_nears, ok_ms_nets, ok_ms_pins, ok_ma_sides, ok_ma_groups, ok_mp_turns, ok_mk_nearOne, ok_mk_nearTwo, ok_mn_pinNet, ok_mn_pinPart, hw, hh⟩, rfl, rfl, (nI 0), rfl⟩ dX5_run_38 hlocks
      · exact absurd c_2 (by decide)
    · refine lv_lload_n hx hb dX5_run_7 rfl (lv_at hl 1 rfl) ?_
      refine lv_ldc2 (v := 2000) hx hb hown (hts (.constantLong RX5 203 2000) (List.mem_cons_of_mem _ clX5_203)) dX5_run_8 ?_
      refine bm_lc_gt (x := (lN k_zA)) (y := 2000) (tgt := 19) hx hb dX5_run_11 dX5_run_12 (by decide) (fun c_3 => ?_) (fun c_3 => ?_)
      · refine lv_iconst (v := nI 1) hx hb dX5_run_19 (by decide) ?_
        refine va_put (D := D) (ci := 5) (v := .int (nI 1)) (ty := .int) (C := RX5) (T := TX5) (N := 28) hx hb hts (inT inX5) tyX5 tyX5_ok nmX5 hown hK hP hD hS 42 ww_42 rfl 0 (by decide) (hts (.fieldLink RX5 81 "BoardMovesModel" "thrown" "I") (List.mem_cons_of_mem _ flX5_81)) (fun _ h9 => h9) rfl (by decide +kernel) rfl rfl (Nat.le_of_ble_eq_true rfl) dX5_run_20 (fun H locs hP hD hS => ?_)
        have hP : va_P D vwCl (WW ad cJ cI cZ bm pa p0 p1 p2 li wi (1) ms ma mp mk mn ou) H := hP
        have hD : va_D A (WW ad cJ cI cZ bm pa p0 p1 p2 li wi (1) ms ma mp mk mn ou) := hD
        refine lv_aload_n hx hb dX5_run_23 rfl (lv_at hl 0 rfl) ?_
        refine va_get (D := D) (ci := 5) (v := .int (nI 1)) (C := RX5) (T := TX5) (N := 28) hx hb hts (inT inX5) hown hK hP 42 ww_42 rfl 0 (by decide) (hts (.fieldLink RX5 81 "BoardMovesModel" "thrown" "I") (List.mem_cons_of_mem _ flX5_81)) (fun _ h9 => h9) rfl dX5_run_24 ?_
        refine bm_nz_ne (x := 1) (tgt := 37) hx hb (by decide) dX5_run_27 (by decide) (fun c_4 => ?_) (fun c_4 => ?_)
        · refine lv_iconst (v := nI 0) hx hb dX5_run_37 (by decide) ?_
          exact bm_iretX (v := (nI 0)) hx hb hr hP hD hK hS ⟨(1), ms, ma, mp, mk, mn, ⟨ok_ms_parts, ok_ms_outs, ok_ms_nears, ok_ms_nets, ok_ms_pins, ok_ma_sides, ok_ma_groups, ok_mp_turns, ok_mk_nearOne, ok_mk_nearTwo, ok_mn_pinNet, ok_mn_pinPart, hw, hh⟩, rfl, rfl, (nI 0), rfl⟩ dX5_run_38 hlocks
        · exact absurd c_4 (by decide)
      · refine lv_iconst (v := nI 0) hx hb dX5_run_15 (by decide) ?_
        refine lv_goto (tgt := 20) hx hb dX5_run_16 (by decide) ?_
        refine va_put (D := D) (ci := 5) (v := .int (nI 0)) (ty := .int) (C := RX5) (T := TX5) (N := 28) hx hb hts (inT inX5) tyX5 tyX5_ok nmX5 hown hK hP hD hS 42 ww_42 rfl 0 (by decide) (hts (.fieldLink RX5 81 "BoardMovesModel" "thrown" "I") (List.mem_cons_of_mem _ flX5_81)) (fun _ h9 => h9) rfl (by decide +kernel) rfl rfl (Nat.le_of_ble_eq_true rfl) dX5_run_20 (fun H locs hP hD hS => ?_)
        have hP : va_P D vwCl (WW ad cJ cI cZ bm pa p0 p1 p2 li wi (0) ms ma mp mk mn ou) H := hP
        have hD : va_D A (WW ad cJ cI cZ bm pa p0 p1 p2 li wi (0) ms ma mp mk mn ou) := hD
        refine lv_aload_n hx hb dX5_run_23 rfl (lv_at hl 0 rfl) ?_
        refine va_get (D := D) (ci := 5) (v := .int (nI 0)) (C := RX5) (T := TX5) (N := 28) hx hb hts (inT inX5) hown hK hP 42 ww_42 rfl 0 (by decide) (hts (.fieldLink RX5 81 "BoardMovesModel" "thrown" "I") (List.mem_cons_of_mem _ flX5_81)) (fun _ h9 => h9) rfl dX5_run_24 ?_
        refine bm_nz_ne (x := 0) (tgt := 37) hx hb (by decide) dX5_run_27 (by decide) (fun c_5 => ?_) (fun c_5 => ?_)
        · exact absurd c_5 (by decide)
        · refine lv_aload_n hx hb dX5_run_30 rfl (lv_at hl 0 rfl) ?_
          refine va_get (D := D) (ci := 5) (v := .int (nI ms.2.2.1)) (C := RX5) (T := TX5) (N := 28) hx hb hts (inT inX5) hown hK hP 42 ww_42 rfl 3 (by decide) (hts (.fieldLink RX5 85 "BoardMovesModel" "parts" "I") (List.mem_cons_of_mem _ flX5_85)) (fun _ h9 => h9) rfl dX5_run_31 ?_
          refine bm_nz_ne (x := ms.2.2.1) (tgt := 39) hx hb (by omega) dX5_run_34 (by decide) (fun c_6 => ?_) (fun c_6 => ?_)
          · have hpos : 0 < ms.2.2.1 := by omega
            refine lv_aload_n hx hb dX5_run_39 rfl (lv_at hl 0 rfl) ?_
            refine lv_iconst (v := nI 0) hx hb dX5_run_40 (by decide) ?_
            refine bm_xcallV (As := [.int (nI 0)]) (rest := []) ⟨hx, hb, hml, hown, hts⟩ (y_wireOf (mt := (0)) (zr := 0) ok_ms_nets ok_ms_pins ok_mn_pinNet ok_mn_pinPart ok_mp_turns (by omega)) (cwV 1 hts gvX5_173 rfl rfl rfl hvX5_wireOf ⟨Nat.le_of_ble_eq_true rfl, Nat.le_of_ble_eq_true rfl⟩) hK hP hD hS hA 42 5 rfl ww_42 rfl hl.1 rfl (Nat.le_of_ble_eq_true rfl) dX5_run_41 ⟨Nat.le_of_ble_eq_true rfl, Nat.le_of_ble_eq_true rfl⟩ (fun ws_7 r_8 h_9 H locs hP hD hS => ?_)
            obtain ⟨rfl, v_10, rfl⟩ := h_9
            have hP : va_P D vwCl (WW ad cJ cI cZ bm pa p0 p1 p2 li wi (0) ms ma mp mk mn ou) H := hP
            have hD : va_D A (WW ad cJ cI cZ bm pa p0 p1 p2 li wi (0) ms ma mp mk mn ou) := hD
            refine lv_lstore_n (lv' := [(3, .long v_10), (0, .ref (ad 42)), (1, .long (lN k_zA))]) hx hb dX5_run_44 rfl hl (by decide) rfl (fun ls hl => ?_)
            refine lv_lload_n hx hb dX5_run_45 rfl (lv_at hl 0 rfl) ?_
            refine lv_lstore (lv' := [(5, .long v_10), (3, .long v_10), (0, .ref (ad 42)), (1, .long (lN k_zA))]) hx hb dX5_run_46 hl (by decide) rfl (fun ls hl => ?_)
            refine lv_aload_n hx hb dX5_run_48 rfl (lv_at hl 2 rfl) ?_
            refine lv_iconst (v := nI 2) hx hb dX5_run_49 (by decide) ?_
            refine lv_iconst (v := nI 0) hx hb dX5_run_50 (by decide) ?_
            refine bm_xcallV (As := [.int (nI 2), .int (nI 0)]) (rest := []) ⟨hx, hb, hml, hown, hts⟩ (y_copy (mt := (0)) (zt := 2) (zf := 0) ok_mp_turns (by omega) (by omega)) (cwV 2 hts gvX5_132 rfl rfl rfl hvX5_copy ⟨Nat.le_of_ble_eq_true rfl, Nat.le_of_ble_eq_true rfl⟩) hK hP hD hS hA 42 5 rfl ww_42 rfl hl.1 rfl (Nat.le_of_ble_eq_true rfl) dX5_run_51 ⟨Nat.le_of_ble_eq_true rfl, Nat.le_of_ble_eq_true rfl⟩ (fun ws_11 r_12 h_13 H locs hP hD hS => ?_)
            obtain ⟨g_14, g_15, g_16, ok_17, rfl, rfl⟩ := h_13
            have hP : va_P D vwCl (WW ad cJ cI cZ bm pa p0 p1 p2 li wi (0) ms ma (g_14, g_15, g_16) mk mn ou) H := hP
            have hD : va_D A (WW ad cJ cI cZ bm pa p0 p1 p2 li wi (0) ms ma (g_14, g_15, g_16) mk mn ou) := hD
            refine lv_iconst (v := nI 0) hx hb dX5_run_54 (by decide) ?_
            refine lv_istore (lv' := [(7, .int (nI 0)), (5, .long v_10), (3, .long v_10), (0, .ref (ad 42)), (1, .long (lN k_zA))]) hx hb dX5_run_55 hl (by decide) rfl (fun ls hl => ?_)
            refine lv_lconst (v := lN 0) hx hb dX5_run_57 (by decide) ?_
            refine lv_lstore (lv' := [(8, .long (lN 0)), (7, .int (nI 0)), (5, .long v_10), (3, .long v_10), (0, .ref (ad 42)), (1, .long (lN k_zA))]) hx hb dX5_run_58 hl (by decide) rfl (fun ls hl => ?_)
            have lp_18 : ∀ (k_20 : Nat) (i_19 : Nat) (v_22 : Int64) (v_23 : Int32) (g_24 : Nat → Int64) (g_25 : Nat → Int64) (g_26 : Nat → Nat) (g_28 : Nat → Bool) (g_29 : Int64), i_19 ≤ k_zA → k_zA < i_19 + k_20 → (∀ i, g_26 i < 40) → ∀ (H : Heap) (locs : List Loc), va_P D vwCl (WW ad cJ cI cZ bm pa p0 p1 p2 li wi (0) (ms.1, ms.2.1, ms.2.2.1, ms.2.2.2.1, ms.2.2.2.2.1, ms.2.2.2.2.2.1, ms.2.2.2.2.2.2.1, g_29) ma (g_24, g_25, g_26) mk (mn.1, mn.2.1, mn.2.2.1, mn.2.2.2.1, g_28) ou) H → va_D A (WW ad cJ cI cZ bm pa p0 p1 p2 li wi (0) (ms.1, ms.2.1, ms.2.2.1, ms.2.2.2.1, ms.2.2.2.2.1, ms.2.2.2.2.2.1, ms.2.2.2.2.2.2.1, g_29) ma (g_24, g_25, g_26) mk (mn.1, mn.2.1, mn.2.2.1, mn.2.2.2.1, g_28) ou) → va_S A s.heap H locs → ∀ (ls : Array Slot), lv_has ls 23 [(8, .long (lN i_19)), (7, .int v_23), (5, .long v_22), (3, .long v_10), (0, .ref (ad 42)), (1, .long (lN k_zA))] → W p l e (headSpec wsX5_run ({ frames := 4, cells := 0, slots := 0, locals := 105 })).room s m args below meth c H locs 0 0 (MQ below (bm_Wxq D vwCl [(cJ, .long), (cI, .int), (cZ, .boolean)] (PMI ad cJ cI cZ bm pa p0 p1 p2 li wi mt ms ma mp mk mn ou) A) args s 0 0 A) (F0 m 60 ls []) := by
              intro k_20
              induction k_20 with
              | zero => intro i_19 v_22 v_23 g_24 g_25 g_26 g_28 g_29 hi_30 hk_31; exfalso; omega
              | succ k_20 ih_21 =>
                intro i_19 v_22 v_23 g_24 g_25 g_26 g_28 g_29 hi_30 hk_31 ok_27 H locs hP hD hS ls hl
                refine lv_lload hx hb dX5_run_60 (lv_at hl 0 rfl) ?_
                refine lv_lload_n hx hb dX5_run_62 rfl (lv_at hl 5 rfl) ?_
                refine bm_Nlc_ge (x := i_19) (y := k_zA) (tgt := 217) hx hb (by omega) (by omega) dX5_run_63 dX5_run_64 (by decide) (fun c_32 => ?_) (fun c_32 => ?_)
                · refine lv_aload_n hx hb dX5_run_217 rfl (lv_at hl 4 rfl) ?_
                  refine lv_iconst (v := nI 0) hx hb dX5_run_218 (by decide) ?_
                  refine lv_iconst (v := nI 2) hx hb dX5_run_219 (by decide) ?_
                  refine bm_xcallV (As := [.int (nI 0), .int (nI 2)]) (rest := []) ⟨hx, hb, hml, hown, hts⟩ (y_copy (mt := (0)) (ms := (ms.1, ms.2.1, ms.2.2.1, ms.2.2.2.1, ms.2.2.2.2.1, ms.2.2.2.2.2.1, ms.2.2.2.2.2.2.1, g_29)) (mp := (g_24, g_25, g_26)) (mn := (mn.1, mn.2.1, mn.2.2.1, mn.2.2.2.1, g_28)) (zt := 0) (zf := 2) ok_27 (by omega) (by omega)) (cwV 2 hts gvX5_132 rfl rfl rfl hvX5_copy ⟨Nat.le_of_ble_eq_true rfl, Nat.le_of_ble_eq_true rfl⟩) hK hP hD hS hA 42 5 rfl ww_42 rfl hl.1 rfl (Nat.le_of_ble_eq_true rfl) dX5_run_220 ⟨Nat.le_of_ble_eq_true rfl, Nat.le_of_ble_eq_true rfl⟩ (fun ws_33 r_34 h_35 H locs hP hD hS => ?_)
                  obtain ⟨g_36, g_37, g_38, ok_39, rfl, rfl⟩ := h_35
                  have hP : va_P D vwCl (WW ad cJ cI cZ bm pa p0 p1 p2 li wi (0) (ms.1, ms.2.1, ms.2.2.1, ms.2.2.2.1, ms.2.2.2.2.1, ms.2.2.2.2.2.1, ms.2.2.2.2.2.2.1, g_29) ma (g_36, g_37, g_38) mk (mn.1, mn.2.1, mn.2.2.1, mn.2.2.2.1, g_28) ou) H := hP
                  have hD : va_D A (WW ad cJ cI cZ bm pa p0 p1 p2 li wi (0) (ms.1, ms.2.1, ms.2.2.1, ms.2.2.2.1, ms.2.2.2.2.1, ms.2.2.2.2.2.1, ms.2.2.2.2.2.2.1, g_29) ma (g_36, g_37, g_38) mk (mn.1, mn.2.1, mn.2.2.1, mn.2.2.2.1, g_28) ou) := hD
                  refine lv_iload hx hb dX5_run_223 (lv_at hl 1 rfl) ?_
                  exact bm_iretX (v := v_23) hx hb hr hP hD hK hS ⟨(0), (ms.1, ms.2.1, ms.2.2.1, ms.2.2.2.1, ms.2.2.2.2.1, ms.2.2.2.2.2.1, ms.2.2.2.2.2.2.1, g_29), ma, (g_36, g_37, g_38), mk, (mn.1, mn.2.1, mn.2.2.1, mn.2.2.2.1, g_28), ⟨ok_ms_parts, ok_ms_outs, ok_ms_nears, ok_ms_nets, ok_ms_pins, ok_ma_sides, ok_ma_groups, ok_39, ok_mk_nearOne, ok_mk_nearTwo, ok_mn_pinNet, ok_mn_pinPart, hw, hh⟩, rfl, rfl, v_23, rfl⟩ dX5_run_225 hlocks
                · refine lv_aload_n hx hb dX5_run_67 rfl (lv_at hl 4 rfl) ?_
                  refine bm_xcallV (As := []) (rest := []) ⟨hx, hb, hml, hown, hts⟩ (y_draw (mt := (0)) (ms := (ms.1, ms.2.1, ms.2.2.1, ms.2.2.2.1, ms.2.2.2.2.1, ms.2.2.2.2.2.1, ms.2.2.2.2.2.2.1, g_29)) (mp := (g_24, g_25, g_26)) (mn := (mn.1, mn.2.1, mn.2.2.1, mn.2.2.2.1, g_28))   ) (cwV 0 hts gvX5_205 rfl rfl rfl hvX5_draw ⟨Nat.le_of_ble_eq_true rfl, Nat.le_of_ble_eq_true rfl⟩) hK hP hD hS hA 42 5 rfl ww_42 rfl hl.1 rfl (Nat.le_of_ble_eq_true rfl) dX5_run_68 ⟨Nat.le_of_ble_eq_true rfl, Nat.le_of_ble_eq_true rfl⟩ (fun ws_40 r_41 h_42 H locs hP hD hS => ?_)
                  obtain ⟨g_43, rfl, z_44, hz_45, rfl⟩ := h_42
                  have hP : va_P D vwCl (WW ad cJ cI cZ bm pa p0 p1 p2 li wi (0) (ms.1, ms.2.1, ms.2.2.1, ms.2.2.2.1, ms.2.2.2.2.1, ms.2.2.2.2.2.1, ms.2.2.2.2.2.2.1, g_43) ma (g_24, g_25, g_26) mk (mn.1, mn.2.1, mn.2.2.1, mn.2.2.2.1, g_28) ou) H := hP
                  have hD : va_D A (WW ad cJ cI cZ bm pa p0 p1 p2 li wi (0) (ms.1, ms.2.1, ms.2.2.1, ms.2.2.2.1, ms.2.2.2.2.1, ms.2.2.2.2.2.1, ms.2.2.2.2.2.2.1, g_43) ma (g_24, g_25, g_26) mk (mn.1, mn.2.1, mn.2.2.1, mn.2.2.2.1, g_28) ou) := hD
                  refine lv_lstore (lv' := [(10, .long (lN z_44)), (8, .long (lN i_19)), (7, .int v_23), (5, .long v_22), (3, .long v_10), (0, .ref (ad 42)), (1, .long (lN k_zA))]) hx hb dX5_run_71 hl (by decide) rfl (fun ls hl => ?_)
                  refine lv_aload_n hx hb dX5_run_73 rfl (lv_at hl 5 rfl) ?_
                  refine bm_xcallV (As := []) (rest := []) ⟨hx, hb, hml, hown, hts⟩ (y_draw (mt := (0)) (ms := (ms.1, ms.2.1, ms.2.2.1, ms.2.2.2.1, ms.2.2.2.2.1, ms.2.2.2.2.2.1, ms.2.2.2.2.2.2.1, g_43)) (mp := (g_24, g_25, g_26)) (mn := (mn.1, mn.2.1, mn.2.2.1, mn.2.2.2.1, g_28))   ) (cwV 0 hts gvX5_205 rfl rfl rfl hvX5_draw ⟨Nat.le_of_ble_eq_true rfl, Nat.le_of_ble_eq_true rfl⟩) hK hP hD hS hA 42 5 rfl ww_42 rfl hl.1 rfl (Nat.le_of_ble_eq_true rfl) dX5_run_74 ⟨Nat.le_of_ble_eq_true rfl, Nat.le_of_ble_eq_true rfl⟩ (fun ws_46 r_47 h_48 H locs hP hD hS => ?_)
                  obtain ⟨g_49, rfl, z_50, hz_51, rfl⟩ := h_48
                  have hP : va_P D vwCl (WW ad cJ cI cZ bm pa p0 p1 p2 li wi (0) (ms.1, ms.2.1, ms.2.2.1, ms.2.2.2.1, ms.2.2.2.2.1, ms.2.2.2.2.2.1, ms.2.2.2.2.2.2.1, g_49) ma (g_24, g_25, g_26) mk (mn.1, mn.2.1, mn.2.2.1, mn.2.2.2.1, g_28) ou) H := hP
                  have hD : va_D A (WW ad cJ cI cZ bm pa p0 p1 p2 li wi (0) (ms.1, ms.2.1, ms.2.2.1, ms.2.2.2.1, ms.2.2.2.2.1, ms.2.2.2.2.2.1, ms.2.2.2.2.2.2.1, g_49) ma (g_24, g_25, g_26) mk (mn.1, mn.2.1, mn.2.2.1, mn.2.2.2.1, g_28) ou) := hD
                  refine lv_lstore (lv' := [(12, .long (lN z_50)), (10, .long (lN z_44)), (8, .long (lN i_19)), (7, .int v_23), (5, .long v_22), (3, .long v_10), (0, .ref (ad 42)), (1, .long (lN k_zA))]) hx hb dX5_run_77 hl (by decide) rfl (fun ls hl => ?_)
                  refine lv_aload_n hx hb dX5_run_79 rfl (lv_at hl 6 rfl) ?_
                  refine bm_xcallV (As := []) (rest := []) ⟨hx, hb, hml, hown, hts⟩ (y_draw (mt := (0)) (ms := (ms.1, ms.2.1, ms.2.2.1, ms.2.2.2.1, ms.2.2.2.2.1, ms.2.2.2.2.2.1, ms.2.2.2.2.2.2.1, g_49)) (mp := (g_24, g_25, g_26)) (mn := (mn.1, mn.2.1, mn.2.2.1, mn.2.2.2.1, g_28))   ) (cwV 0 hts gvX5_205 rfl rfl rfl hvX5_draw ⟨Nat.le_of_ble_eq_true rfl, Nat.le_of_ble_eq_true rfl⟩) hK hP hD hS hA 42 5 rfl ww_42 rfl hl.1 rfl (Nat.le_of_ble_eq_true rfl) dX5_run_80 ⟨Nat.le_of_ble_eq_true rfl, Nat.le_of_ble_eq_true rfl⟩ (fun ws_52 r_53 h_54 H locs hP hD hS => ?_)
                  obtain ⟨g_55, rfl, z_56, hz_57, rfl⟩ := h_54
                  have hP : va_P D vwCl (WW ad cJ cI cZ bm pa p0 p1 p2 li wi (0) (ms.1, ms.2.1, ms.2.2.1, ms.2.2.2.1, ms.2.2.2.2.1, ms.2.2.2.2.2.1, ms.2.2.2.2.2.2.1, g_55) ma (g_24, g_25, g_26) mk (mn.1, mn.2.1, mn.2.2.1, mn.2.2.2.1, g_28) ou) H := hP
                  have hD : va_D A (WW ad cJ cI cZ bm pa p0 p1 p2 li wi (0) (ms.1, ms.2.1, ms.2.2.1, ms.2.2.2.1, ms.2.2.2.2.1, ms.2.2.2.2.2.1, ms.2.2.2.2.2.2.1, g_55) ma (g_24, g_25, g_26) mk (mn.1, mn.2.1, mn.2.2.1, mn.2.2.2.1, g_28) ou) := hD
                  refine lv_lstore (lv' := [(14, .long (lN z_56)), (12, .long (lN z_50)), (10, .long (lN z_44)), (8, .long (lN i_19)), (7, .int v_23), (5, .long v_22), (3, .long v_10), (0, .ref (ad 42)), (1, .long (lN k_zA))]) hx hb dX5_run_83 hl (by decide) rfl (fun ls hl => ?_)
                  refine lv_aload_n hx hb dX5_run_85 rfl (lv_at hl 7 rfl) ?_
                  refine bm_xcallV (As := []) (rest := []) ⟨hx, hb, hml, hown, hts⟩ (y_draw (mt := (0)) (ms := (ms.1, ms.2.1, ms.2.2.1, ms.2.2.2.1, ms.2.2.2.2.1, ms.2.2.2.2.2.1, ms.2.2.2.2.2.2.1, g_55)) (mp := (g_24, g_25, g_26)) (mn := (mn.1, mn.2.1, mn.2.2.1, mn.2.2.2.1, g_28))   ) (cwV 0 hts gvX5_205 rfl rfl rfl hvX5_draw ⟨Nat.le_of_ble_eq_true rfl, Nat.le_of_ble_eq_true rfl⟩) hK hP hD hS hA 42 5 rfl ww_42 rfl hl.1 rfl (Nat.le_of_ble_eq_true rfl) dX5_run_86 ⟨Nat.le_of_ble_eq_true rfl, Nat.le_of_ble_eq_true rfl⟩ (fun ws_58 r_59 h_60 H locs hP hD hS => ?_)
                  obtain ⟨g_61, rfl, z_62, hz_63, rfl⟩ := h_60
                  have hP : va_P D vwCl (WW ad cJ cI cZ bm pa p0 p1 p2 li wi (0) (ms.1, ms.2.1, ms.2.2.1, ms.2.2.2.1, ms.2.2.2.2.1, ms.2.2.2.2.2.1, ms.2.2.2.2.2.2.1, g_61) ma (g_24, g_25, g_26) mk (mn.1, mn.2.1, mn.2.2.1, mn.2.2.2.1, g_28) ou) H := hP
                  have hD : va_D A (WW ad cJ cI cZ bm pa p0 p1 p2 li wi (0) (ms.1, ms.2.1, ms.2.2.1, ms.2.2.2.1, ms.2.2.2.2.1, ms.2.2.2.2.2.1, ms.2.2.2.2.2.2.1, g_61) ma (g_24, g_25, g_26) mk (mn.1, mn.2.1, mn.2.2.1, mn.2.2.2.1, g_28) ou) := hD
                  refine lv_lstore (lv' := [(16, .long (lN z_62)), (14, .long (lN z_56)), (12, .long (lN z_50)), (10, .long (lN z_44)), (8, .long (lN i_19)), (7, .int v_23), (5, .long v_22), (3, .long v_10), (0, .ref (ad 42)), (1, .long (lN k_zA))]) hx hb dX5_run_89 hl (by decide) rfl (fun ls hl => ?_)
                  refine lv_aload_n hx hb dX5_run_91 rfl (lv_at hl 8 rfl) ?_
                  refine bm_xcallV (As := []) (rest := []) ⟨hx, hb, hml, hown, hts⟩ (y_begin (mt := (0)) (ms := (ms.1, ms.2.1, ms.2.2.1, ms.2.2.2.1, ms.2.2.2.2.1, ms.2.2.2.2.2.1, ms.2.2.2.2.2.2.1, g_61)) (mp := (g_24, g_25, g_26)) (mn := (mn.1, mn.2.1, mn.2.2.1, mn.2.2.2.1, g_28))  ok_27 ) (cwV 0 hts gvX5_143 rfl rfl rfl hvX5_begin ⟨Nat.le_of_ble_eq_true rfl, Nat.le_of_ble_eq_true rfl⟩) hK hP hD hS hA 42 5 rfl ww_42 rfl hl.1 rfl (Nat.le_of_ble_eq_true rfl) dX5_run_92 ⟨Nat.le_of_ble_eq_true rfl, Nat.le_of_ble_eq_true rfl⟩ (fun ws_64 r_65 h_66 H locs hP hD hS => ?_)
                  obtain ⟨g_67, g_68, g_69, g_71, ok_70, rfl, rfl⟩ := h_66
                  have hP : va_P D vwCl (WW ad cJ cI cZ bm pa p0 p1 p2 li wi (0) (ms.1, ms.2.1, ms.2.2.1, ms.2.2.2.1, ms.2.2.2.2.1, ms.2.2.2.2.2.1, ms.2.2.2.2.2.2.1, g_61) ma (g_67, g_68, g_69) mk (mn.1, mn.2.1, mn.2.2.1, mn.2.2.2.1, g_71) ou) H := hP
                  have hD : va_D A (WW ad cJ cI cZ bm pa p0 p1 p2 li wi (0) (ms.1, ms.2.1, ms.2.2.1, ms.2.2.2.1, ms.2.2.2.2.1, ms.2.2.2.2.2.1, ms.2.2.2.2.2.2.1, g_61) ma (g_67, g_68, g_69) mk (mn.1, mn.2.1, mn.2.2.1, mn.2.2.2.1, g_71) ou) := hD
                  refine lv_aload_n hx hb dX5_run_95 rfl (lv_at hl 8 rfl) ?_
                  refine lv_lload hx hb dX5_run_96 (lv_at hl 3 rfl) ?_
                  refine lv_lload hx hb dX5_run_98 (lv_at hl 2 rfl) ?_
                  refine lv_lload hx hb dX5_run_100 (lv_at hl 1 rfl) ?_
                  refine lv_lload hx hb dX5_run_102 (lv_at hl 0 rfl) ?_
                  refine bm_xcallV (As := [.long (lN z_44), .long (lN z_50), .long (lN z_56), .long (lN z_62)]) (rest := []) ⟨hx, hb, hml, hown, hts⟩ (y_step (mt := (0)) (ms := (ms.1, ms.2.1, ms.2.2.1, ms.2.2.2.1, ms.2.2.2.2.1, ms.2.2.2.2.2.1, ms.2.2.2.2.2.2.1, g_61)) (mp := (g_67, g_68, g_69)) (mn := (mn.1, mn.2.1, mn.2.2.1, mn.2.2.2.1, g_71)) (z1 := z_44) (z2 := z_50) (z3 := z_56) (z4 := z_62) ok_ms_parts ok_ma_groups ok_70 (by omega) (by omega) (by omega) (by omega) hpos hw hh) (cwV 4 hts gvX5_209 rfl rfl rfl hvX5_step ⟨Nat.le_of_ble_eq_true rfl, Nat.le_of_ble_eq_true rfl⟩) hK hP hD hS hA 42 5 rfl ww_42 rfl hl.1 rfl (Nat.le_of_ble_eq_true rfl) dX5_run_104 ⟨Nat.le_of_ble_eq_true rfl, Nat.le_of_ble_eq_true rfl⟩ (fun ws_72 r_73 h_74 H locs hP hD hS => ?_)
                  obtain ⟨g_75, g_76, g_77, g_79, ok_78, rfl, rfl⟩ := h_74
                  have hP : va_P D vwCl (WW ad cJ cI cZ bm pa p0 p1 p2 li wi (0) (ms.1, ms.2.1, ms.2.2.1, ms.2.2.2.1, ms.2.2.2.2.1, ms.2.2.2.2.2.1, ms.2.2.2.2.2.2.1, g_61) ma (g_75, g_76, g_77) mk (mn.1, mn.2.1, mn.2.2.1, mn.2.2.2.1, g_79) ou) H := hP
                  have hD : va_D A (WW ad cJ cI cZ bm pa p0 p1 p2 li wi (0) (ms.1, ms.2.1, ms.2.2.1, ms.2.2.2.1, ms.2.2.2.2.1, ms.2.2.2.2.2.1, ms.2.2.2.2.2.2.1, g_61) ma (g_75, g_76, g_77) mk (mn.1, mn.2.1, mn.2.2.1, mn.2.2.2.1, g_79) ou) := hD
                  refine lv_aload_n hx hb dX5_run_107 rfl (lv_at hl 8 rfl) ?_
                  refine lv_iconst (v := nI 0) hx hb dX5_run_108 (by decide) ?_
                  refine bm_xcallV (As := [.int (nI 0)]) (rest := []) ⟨hx, hb, hml, hown, hts⟩ (y_wireOf (mt := (0)) (ms := (ms.1, ms.2.1, ms.2.2.1, ms.2.2.2.1, ms.2.2.2.2.1, ms.2.2.2.2.2.1, ms.2.2.2.2.2.2.1, g_61)) (mp := (g_75, g_76, g_77)) (mn := (mn.1, mn.2.1, mn.2.2.1, mn.2.2.2.1, g_79)) (zr := 0) ok_ms_nets ok_ms_pins ok_mn_pinNet ok_mn_pinPart ok_78 (by omega)) (cwV 1 hts gvX5_173 rfl rfl rfl hvX5_wireOf ⟨Nat.le_of_ble_eq_true rfl, Nat.le_of_ble_eq_true rfl⟩) hK hP hD hS hA 42 5 rfl ww_42 rfl hl.1 rfl (Nat.le_of_ble_eq_true rfl) dX5_run_109 ⟨Nat.le_of_ble_eq_true rfl, Nat.le_of_ble_eq_true rfl⟩ (fun ws_80 r_81 h_82 H locs hP hD hS => ?_)
                  obtain ⟨rfl, v_83, rfl⟩ := h_82
                  have hP : va_P D vwCl (WW ad cJ cI cZ bm pa p0 p1 p2 li wi (0) (ms.1, ms.2.1, ms.2.2.1, ms.2.2.2.1, ms.2.2.2.2.1, ms.2.2.2.2.2.1, ms.2.2.2.2.2.2.1, g_61) ma (g_75, g_76, g_77) mk (mn.1, mn.2.1, mn.2.2.1, mn.2.2.2.1, g_79) ou) H := hP
                  have hD : va_D A (WW ad cJ cI cZ bm pa p0 p1 p2 li wi (0) (ms.1, ms.2.1, ms.2.2.1, ms.2.2.2.1, ms.2.2.2.2.1, ms.2.2.2.2.2.1, ms.2.2.2.2.2.2.1, g_61) ma (g_75, g_76, g_77) mk (mn.1, mn.2.1, mn.2.2.1, mn.2.2.2.1, g_79) ou) := hD
                  refine lv_lload_n hx hb dX5_run_112 rfl (lv_at hl 7 rfl) ?_
                  refine lv_lload_n hx hb dX5_run_113 rfl (lv_at hl 9 rfl) ?_
                  refine lv_lconst (v := 1) hx hb dX5_run_114 (by decide) ?_
                  refine lv_lsub hx hb dX5_run_115 ?_
                  refine lv_topl (fun t_84 _ => ?_)
                  refine lv_lload hx hb dX5_run_116 (lv_at hl 4 rfl) ?_
                  refine lv_lsub hx hb dX5_run_118 ?_
                  refine lv_topl (fun t_85 _ => ?_)
                  refine lv_lmul hx hb dX5_run_119 ?_
                  refine lv_topl (fun t_86 _ => ?_)
                  refine lv_ldc2 (v := 8) hx hb hown (hts (.constantLong RX5 213 8) (List.mem_cons_of_mem _ clX5_213)) dX5_run_120 ?_
                  refine lv_lload_n hx hb dX5_run_123 rfl (lv_at hl 9 rfl) ?_
                  refine bm_lmulN (x := 8) (y := k_zA) hx hb dX5_run_124 ?_
                  refine lv_ldiv hx hb dX5_run_125 (bm_lN_ne0 (by omega) (by omega)) ?_
                  refine lv_topl (fun t_87 _ => ?_)
                  refine lv_ladd hx hb dX5_run_126 ?_
                  refine lv_topl (fun t_88 _ => ?_)
                  refine lv_lstore (lv' := [(18, .long t_88), (16, .long (lN z_62)), (14, .long (lN z_56)), (12, .long (lN z_50)), (10, .long (lN z_44)), (8, .long (lN i_19)), (7, .int v_23), (5, .long v_22), (3, .long v_10), (0, .ref (ad 42)), (1, .long (lN k_zA))]) hx hb dX5_run_127 hl (by decide) rfl (fun ls hl => ?_)
                  refine lv_aload_n hx hb dX5_run_129 rfl (lv_at hl 9 rfl) ?_
                  refine bm_xcallV (As := []) (rest := []) ⟨hx, hb, hml, hown, hts⟩ (y_changes (mt := (0)) (ms := (ms.1, ms.2.1, ms.2.2.1, ms.2.2.2.1, ms.2.2.2.2.1, ms.2.2.2.2.2.1, ms.2.2.2.2.2.2.1, g_61)) (mp := (g_75, g_76, g_77)) (mn := (mn.1, mn.2.1, mn.2.2.1, mn.2.2.2.1, g_79))  ok_ms_parts ok_78 ) (cwV 0 hts gvX5_215 rfl rfl rfl hvX5_changes ⟨Nat.le_of_ble_eq_true rfl, Nat.le_of_ble_eq_true rfl⟩) hK hP hD hS hA 42 5 rfl ww_42 rfl hl.1 rfl (Nat.le_of_ble_eq_true rfl) dX5_run_130 ⟨Nat.le_of_ble_eq_true rfl, Nat.le_of_ble_eq_true rfl⟩ (fun ws_89 r_90 h_91 H locs hP hD hS => ?_)
                  obtain ⟨rfl, v_92, rfl⟩ := h_91
                  have hP : va_P D vwCl (WW ad cJ cI cZ bm pa p0 p1 p2 li wi (0) (ms.1, ms.2.1, ms.2.2.1, ms.2.2.2.1, ms.2.2.2.2.1, ms.2.2.2.2.2.1, ms.2.2.2.2.2.2.1, g_61) ma (g_75, g_76, g_77) mk (mn.1, mn.2.1, mn.2.2.1, mn.2.2.2.1, g_79) ou) H := hP
                  have hD : va_D A (WW ad cJ cI cZ bm pa p0 p1 p2 li wi (0) (ms.1, ms.2.1, ms.2.2.1, ms.2.2.2.1, ms.2.2.2.2.1, ms.2.2.2.2.2.1, ms.2.2.2.2.2.2.1, g_61) ma (g_75, g_76, g_77) mk (mn.1, mn.2.1, mn.2.2.1, mn.2.2.2.1, g_79) ou) := hD
                  refine bm_zb_eq (x := v_92) (tgt := 166) hx hb dX5_run_133 (by decide) (fun c_93 => ?_) (fun c_93 => ?_)
                  · refine lv_iconst (v := bm_b false) hx hb dX5_run_166 (by decide) ?_
                    refine lv_istore (lv' := [(20, .int (bm_b false)), (18, .long t_88), (16, .long (lN z_62)), (14, .long (lN z_56)), (12, .long (lN z_50)), (10, .long (lN z_44)), (8, .long (lN i_19)), (7, .int v_23), (5, .long v_22), (3, .long v_10), (0, .ref (ad 42)), (1, .long (lN k_zA))]) hx hb dX5_run_167 hl (by decide) rfl (fun ls hl => ?_)
                    refine lv_iload hx hb dX5_run_169 (lv_at hl 0 rfl) ?_
                    refine bm_zb_eq (x := false) (tgt := 208) hx hb dX5_run_171 (by decide) (fun c_94 => ?_) (fun c_94 => ?_)
                    · refine lv_lload hx hb dX5_run_208 (lv_at hl 6 rfl) ?_
                      refine lv_lconst (v := 1) hx hb dX5_run_210 (by decide) ?_
                      refine bm_ladd1 hx hb dX5_run_211 ?_
                      refine lv_lstore (lv' := [(8, .long (lN (i_19 + 1))), (20, .int (bm_b false)), (18, .long t_88), (16, .long (lN z_62)), (14, .long (lN z_56)), (12, .long (lN z_50)), (10, .long (lN z_44)), (7, .int v_23), (5, .long v_22), (3, .long v_10), (0, .ref (ad 42)), (1, .long (lN k_zA))]) hx hb dX5_run_212 hl (by decide) rfl (fun ls hl => ?_)
                      refine lv_goto (tgt := 60) hx hb dX5_run_214 (by decide) ?_
                      exact ih_21 (i_19 + 1) v_22 v_23 g_75 g_76 g_77 g_79 g_61 (by omega) (by omega) ok_78 _ _ hP hD hS _ (lv_sub hl [0, 7, 8, 9, 10, 11] rfl)
                    · exact absurd c_94 (by decide)
                  · refine lv_aload_n hx hb dX5_run_136 rfl (lv_at hl 9 rfl) ?_
                    refine bm_xcallV (As := []) (rest := []) ⟨hx, hb, hml, hown, hts⟩ (y_locked (mt := (0)) (ms := (ms.1, ms.2.1, ms.2.2.1, ms.2.2.2.1, ms.2.2.2.2.1, ms.2.2.2.2.2.1, ms.2.2.2.2.2.2.1, g_61)) (mp := (g_75, g_76, g_77)) (mn := (mn.1, mn.2.1, mn.2.2.1, mn.2.2.2.1, g_79))  ok_ms_parts ok_78 ) (cwV 0 hts gvX5_153 rfl rfl rfl hvX5_movesLocked ⟨Nat.le_of_ble_eq_true rfl, Nat.le_of_ble_eq_true rfl⟩) hK hP hD hS hA 42 5 rfl ww_42 rfl hl.1 rfl (Nat.le_of_ble_eq_true rfl) dX5_run_137 ⟨Nat.le_of_ble_eq_true rfl, Nat.le_of_ble_eq_true rfl⟩ (fun ws_95 r_96 h_97 H locs hP hD hS => ?_)
                    obtain ⟨rfl, v_98, rfl⟩ := h_97
                    have hP : va_P D vwCl (WW ad cJ cI cZ bm pa p0 p1 p2 li wi (0) (ms.1, ms.2.1, ms.2.2.1, ms.2.2.2.1, ms.2.2.2.2.1, ms.2.2.2.2.2.1, ms.2.2.2.2.2.2.1, g_61) ma (g_75, g_76, g_77) mk (mn.1, mn.2.1, mn.2.2.1, mn.2.2.2.1, g_79) ou) H := hP
                    have hD : va_D A (WW ad cJ cI cZ bm pa p0 p1 p2 li wi (0) (ms.1, ms.2.1, ms.2.2.1, ms.2.2.2.1, ms.2.2.2.2.1, ms.2.2.2.2.2.1, ms.2.2.2.2.2.2.1, g_61) ma (g_75, g_76, g_77) mk (mn.1, mn.2.1, mn.2.2.1, mn.2.2.2.1, g_79) ou) := hD
                    refine bm_zb_ne (x := v_98) (tgt := 166) hx hb dX5_run_140 (by decide) (fun c_99 => ?_) (fun c_99 => ?_)
                    · refine lv_iconst (v := bm_b false) hx hb dX5_run_166 (by decide) ?_
                      refine lv_istore (lv' := [(20, .int (bm_b false)), (18, .long t_88), (16, .long (lN z_62)), (14, .long (lN z_56)), (12, .long (lN z_50)), (10, .long (lN z_44)), (8, .long (lN i_19)), (7, .int v_23), (5, .long v_22), (3, .long v_10), (0, .ref (ad 42)), (1, .long (lN k_zA))]) hx hb dX5_run_167 hl (by decide) rfl (fun ls hl => ?_)
                      refine lv_iload hx hb dX5_run_169 (lv_at hl 0 rfl) ?_
                      refine bm_zb_eq (x := false) (tgt := 208) hx hb dX5_run_171 (by decide) (fun c_100 => ?_) (fun c_100 => ?_)
                      · refine lv_lload hx hb dX5_run_208 (lv_at hl 6 rfl) ?_
                        refine lv_lconst (v := 1) hx hb dX5_run_210 (by decide) ?_
                        refine bm_ladd1 hx hb dX5_run_211 ?_
                        refine lv_lstore (lv' := [(8, .long (lN (i_19 + 1))), (20, .int (bm_b false)), (18, .long t_88), (16, .long (lN z_62)), (14, .long (lN z_56)), (12, .long (lN z_50)), (10, .long (lN z_44)), (7, .int v_23), (5, .long v_22), (3, .long v_10), (0, .ref (ad 42)), (1, .long (lN k_zA))]) hx hb dX5_run_212 hl (by decide) rfl (fun ls hl => ?_)
                        refine lv_goto (tgt := 60) hx hb dX5_run_214 (by decide) ?_
                        exact ih_21 (i_19 + 1) v_22 v_23 g_75 g_76 g_77 g_79 g_61 (by omega) (by omega) ok_78 _ _ hP hD hS _ (lv_sub hl [0, 7, 8, 9, 10, 11] rfl)
                      · exact absurd c_100 (by decide)
                    · refine lv_aload_n hx hb dX5_run_143 rfl (lv_at hl 9 rfl) ?_
                      refine lv_iconst (v := nI 1) hx hb dX5_run_144 (by decide) ?_
                      refine bm_xcallV (As := [.int (nI 1)]) (rest := []) ⟨hx, hb, hml, hown, hts⟩ (y_isWell (mt := (0)) (ms := (ms.1, ms.2.1, ms.2.2.1, ms.2.2.2.1, ms.2.2.2.2.1, ms.2.2.2.2.2.1, ms.2.2.2.2.2.2.1, g_61)) (mp := (g_75, g_76, g_77)) (mn := (mn.1, mn.2.1, mn.2.2.1, mn.2.2.2.1, g_79)) (zr := 1) ok_78 ok_ms_parts ok_ms_outs ok_ma_sides ok_ms_nears ok_mk_nearOne ok_mk_nearTwo (by omega)) (cwV 1 hts gvX5_157 rfl rfl rfl hvX5_isWell ⟨Nat.le_of_ble_eq_true rfl, Nat.le_of_ble_eq_true rfl⟩) hK hP hD hS hA 42 5 rfl ww_42 rfl hl.1 rfl (Nat.le_of_ble_eq_true rfl) dX5_run_145 ⟨Nat.le_of_ble_eq_true rfl, Nat.le_of_ble_eq_true rfl⟩ (fun ws_101 r_102 h_103 H locs hP hD hS => ?_)
                      obtain ⟨rfl, v_104, rfl⟩ := h_103
                      have hP : va_P D vwCl (WW ad cJ cI cZ bm pa p0 p1 p2 li wi (0) (ms.1, ms.2.1, ms.2.2.1, ms.2.2.2.1, ms.2.2.2.2.1, ms.2.2.2.2.2.1, ms.2.2.2.2.2.2.1, g_61) ma (g_75, g_76, g_77) mk (mn.1, mn.2.1, mn.2.2.1, mn.2.2.2.1, g_79) ou) H := hP
                      have hD : va_D A (WW ad cJ cI cZ bm pa p0 p1 p2 li wi (0) (ms.1, ms.2.1, ms.2.2.1, ms.2.2.2.1, ms.2.2.2.2.1, ms.2.2.2.2.2.1, ms.2.2.2.2.2.2.1, g_61) ma (g_75, g_76, g_77) mk (mn.1, mn.2.1, mn.2.2.1, mn.2.2.2.1, g_79) ou) := hD
                      refine bm_zb_eq (x := v_104) (tgt := 166) hx hb dX5_run_148 (by decide) (fun c_105 => ?_) (fun c_105 => ?_)
                      · refine lv_iconst (v := bm_b false) hx hb dX5_run_166 (by decide) ?_
                        refine lv_istore (lv' := [(20, .int (bm_b false)), (18, .long t_88), (16, .long (lN z_62)), (14, .long (lN z_56)), (12, .long (lN z_50)), (10, .long (lN z_44)), (8, .long (lN i_19)), (7, .int v_23), (5, .long v_22), (3, .long v_10), (0, .ref (ad 42)), (1, .long (lN k_zA))]) hx hb dX5_run_167 hl (by decide) rfl (fun ls hl => ?_)
                        refine lv_iload hx hb dX5_run_169 (lv_at hl 0 rfl) ?_
                        refine bm_zb_eq (x := false) (tgt := 208) hx hb dX5_run_171 (by decide) (fun c_106 => ?_) (fun c_106 => ?_)
                        · refine lv_lload hx hb dX5_run_208 (lv_at hl 6 rfl) ?_
                          refine lv_lconst (v := 1) hx hb dX5_run_210 (by decide) ?_
                          refine bm_ladd1 hx hb dX5_run_211 ?_
                          refine lv_lstore (lv' := [(8, .long (lN (i_19 + 1))), (20, .int (bm_b false)), (18, .long t_88), (16, .long (lN z_62)), (14, .long (lN z_56)), (12, .long (lN z_50)), (10, .long (lN z_44)), (7, .int v_23), (5, .long v_22), (3, .long v_10), (0, .ref (ad 42)), (1, .long (lN k_zA))]) hx hb dX5_run_212 hl (by decide) rfl (fun ls hl => ?_)
                          refine lv_goto (tgt := 60) hx hb dX5_run_214 (by decide) ?_
                          exact ih_21 (i_19 + 1) v_22 v_23 g_75 g_76 g_77 g_79 g_61 (by omega) (by omega) ok_78 _ _ hP hD hS _ (lv_sub hl [0, 7, 8, 9, 10, 11] rfl)
                        · exact absurd c_106 (by decide)
                      · refine lv_aload_n hx hb dX5_run_151 rfl (lv_at hl 9 rfl) ?_
                        refine lv_iconst (v := nI 1) hx hb dX5_run_152 (by decide) ?_
                        refine bm_xcallV (As := [.int (nI 1)]) (rest := []) ⟨hx, hb, hml, hown, hts⟩ (y_wireOf (mt := (0)) (ms := (ms.1, ms.2.1, ms.2.2.1, ms.2.2.2.1, ms.2.2.2.2.1, ms.2.2.2.2.2.1, ms.2.2.2.2.2.2.1, g_61)) (mp := (g_75, g_76, g_77)) (mn := (mn.1, mn.2.1, mn.2.2.1, mn.2.2.2.1, g_79)) (zr := 1) ok_ms_nets ok_ms_pins ok_mn_pinNet ok_mn_pinPart ok_78 (by omega)) (cwV 1 hts gvX5_173 rfl rfl rfl hvX5_wireOf ⟨Nat.le_of_ble_eq_true rfl, Nat.le_of_ble_eq_true rfl⟩) hK hP hD hS hA 42 5 rfl ww_42 rfl hl.1 rfl (Nat.le_of_ble_eq_true rfl) dX5_run_153 ⟨Nat.le_of_ble_eq_true rfl, Nat.le_of_ble_eq_true rfl⟩ (fun ws_107 r_108 h_109 H locs hP hD hS => ?_)
                        obtain ⟨rfl, v_110, rfl⟩ := h_109
                        have hP : va_P D vwCl (WW ad cJ cI cZ bm pa p0 p1 p2 li wi (0) (ms.1, ms.2.1, ms.2.2.1, ms.2.2.2.1, ms.2.2.2.2.1, ms.2.2.2.2.2.1, ms.2.2.2.2.2.2.1, g_61) ma (g_75, g_76, g_77) mk (mn.1, mn.2.1, mn.2.2.1, mn.2.2.2.1, g_79) ou) H := hP
                        have hD : va_D A (WW ad cJ cI cZ bm pa p0 p1 p2 li wi (0) (ms.1, ms.2.1, ms.2.2.1, ms.2.2.2.1, ms.2.2.2.2.1, ms.2.2.2.2.2.1, ms.2.2.2.2.2.2.1, g_61) ma (g_75, g_76, g_77) mk (mn.1, mn.2.1, mn.2.2.1, mn.2.2.2.1, g_79) ou) := hD
                        refine lv_lload hx hb dX5_run_156 (lv_at hl 0 rfl) ?_
                        refine bm_lc_gt (x := v_110) (y := t_88) (tgt := 166) hx hb dX5_run_158 dX5_run_159 (by decide) (fun c_111 => ?_) (fun c_111 => ?_)
                        · refine lv_iconst (v := bm_b false) hx hb dX5_run_166 (by decide) ?_
                          refine lv_istore (lv' := [(20, .int (bm_b false)), (18, .long t_88), (16, .long (lN z_62)), (14, .long (lN z_56)), (12, .long (lN z_50)), (10, .long (lN z_44)), (8, .long (lN i_19)), (7, .int v_23), (5, .long v_22), (3, .long v_10), (0, .ref (ad 42)), (1, .long (lN k_zA))]) hx hb dX5_run_167 hl (by decide) rfl (fun ls hl => ?_)
                          refine lv_iload hx hb dX5_run_169 (lv_at hl 0 rfl) ?_
                          refine bm_zb_eq (x := false) (tgt := 208) hx hb dX5_run_171 (by decide) (fun c_112 => ?_) (fun c_112 => ?_)
                          · refine lv_lload hx hb dX5_run_208 (lv_at hl 6 rfl) ?_
                            refine lv_lconst (v := 1) hx hb dX5_run_210 (by decide) ?_
                            refine bm_ladd1 hx hb dX5_run_211 ?_
                            refine lv_lstore (lv' := [(8, .long (lN (i_19 + 1))), (20, .int (bm_b false)), (18, .long t_88), (16, .long (lN z_62)), (14, .long (lN z_56)), (12, .long (lN z_50)), (10, .long (lN z_44)), (7, .int v_23), (5, .long v_22), (3, .long v_10), (0, .ref (ad 42)), (1, .long (lN k_zA))]) hx hb dX5_run_212 hl (by decide) rfl (fun ls hl => ?_)
                            refine lv_goto (tgt := 60) hx hb dX5_run_214 (by decide) ?_
                            exact ih_21 (i_19 + 1) v_22 v_23 g_75 g_76 g_77 g_79 g_61 (by omega) (by omega) ok_78 _ _ hP hD hS _ (lv_sub hl [0, 7, 8, 9, 10, 11] rfl)
                          · exact absurd c_112 (by decide)
                        · refine lv_iconst (v := bm_b true) hx hb dX5_run_162 (by decide) ?_
                          refine lv_goto (tgt := 167) hx hb dX5_run_163 (by decide) ?_
                          refine lv_istore (lv' := [(20, .int (bm_b true)), (18, .long t_88), (16, .long (lN z_62)), (14, .long (lN z_56)), (12, .long (lN z_50)), (10, .long (lN z_44)), (8, .long (lN i_19)), (7, .int v_23), (5, .long v_22), (3, .long v_10), (0, .ref (ad 42)), (1, .long (lN k_zA))]) hx hb dX5_run_167 hl (by decide) rfl (fun ls hl => ?_)
                          refine lv_iload hx hb dX5_run_169 (lv_at hl 0 rfl) ?_
                          refine bm_zb_eq (x := true) (tgt := 208) hx hb dX5_run_171 (by decide) (fun c_113 => ?_) (fun c_113 => ?_)
                          · exact absurd c_113 (by decide)
                          · refine lv_aload_n hx hb dX5_run_174 rfl (lv_at hl 10 rfl) ?_
                            refine lv_iconst (v := nI 0) hx hb dX5_run_175 (by decide) ?_
                            refine lv_iconst (v := nI 1) hx hb dX5_run_176 (by decide) ?_
                            refine bm_xcallV (As := [.int (nI 0), .int (nI 1)]) (rest := []) ⟨hx, hb, hml, hown, hts⟩ (y_copy (mt := (0)) (ms := (ms.1, ms.2.1, ms.2.2.1, ms.2.2.2.1, ms.2.2.2.2.1, ms.2.2.2.2.2.1, ms.2.2.2.2.2.2.1, g_61)) (mp := (g_75, g_76, g_77)) (mn := (mn.1, mn.2.1, mn.2.2.1, mn.2.2.2.1, g_79)) (zt := 0) (zf := 1) ok_78 (by omega) (by omega)) (cwV 2 hts gvX5_132 rfl rfl rfl hvX5_copy ⟨Nat.le_of_ble_eq_true rfl, Nat.le_of_ble_eq_true rfl⟩) hK hP hD hS hA 42 5 rfl ww_42 rfl hl.1 rfl (Nat.le_of_ble_eq_true rfl) dX5_run_177 ⟨Nat.le_of_ble_eq_true rfl, Nat.le_of_ble_eq_true rfl⟩ (fun ws_114 r_115 h_116 H locs hP hD hS => ?_)
                            obtain ⟨g_117, g_118, g_119, ok_120, rfl, rfl⟩ := h_116
                            have hP : va_P D vwCl (WW ad cJ cI cZ bm pa p0 p1 p2 li wi (0) (ms.1, ms.2.1, ms.2.2.1, ms.2.2.2.1, ms.2.2.2.2.1, ms.2.2.2.2.2.1, ms.2.2.2.2.2.2.1, g_61) ma (g_117, g_118, g_119) mk (mn.1, mn.2.1, mn.2.2.1, mn.2.2.2.1, g_79) ou) H := hP
                            have hD : va_D A (WW ad cJ cI cZ bm pa p0 p1 p2 li wi (0) (ms.1, ms.2.1, ms.2.2.1, ms.2.2.2.1, ms.2.2.2.2.1, ms.2.2.2.2.2.1, ms.2.2.2.2.2.2.1, g_61) ma (g_117, g_118, g_119) mk (mn.1, mn.2.1, mn.2.2.1, mn.2.2.2.1, g_79) ou) := hD
                            refine lv_iinc (v := (v_23 + 1)) (lv' := [(7, .int (v_23 + 1)), (20, .int (bm_b true)), (18, .long t_88), (16, .long (lN z_62)), (14, .long (lN z_56)), (12, .long (lN z_50)), (10, .long (lN z_44)), (8, .long (lN i_19)), (5, .long v_22), (3, .long v_10), (0, .ref (ad 42)), (1, .long (lN k_zA))]) hx hb dX5_run_180 hl (k := 7) rfl (rfl) (by decide) rfl (fun ls hl => ?_)
                            refine lv_aload_n hx hb dX5_run_183 rfl (lv_at hl 10 rfl) ?_
                            refine lv_iconst (v := nI 0) hx hb dX5_run_184 (by decide) ?_
                            refine bm_xcallV (As := [.int (nI 0)]) (rest := []) ⟨hx, hb, hml, hown, hts⟩ (y_wireOf (mt := (0)) (ms := (ms.1, ms.2.1, ms.2.2.1, ms.2.2.2.1, ms.2.2.2.2.1, ms.2.2.2.2.2.1, ms.2.2.2.2.2.2.1, g_61)) (mp := (g_117, g_118, g_119)) (mn := (mn.1, mn.2.1, mn.2.2.1, mn.2.2.2.1, g_79)) (zr := 0) ok_ms_nets ok_ms_pins ok_mn_pinNet ok_mn_pinPart ok_120 (by omega)) (cwV 1 hts gvX5_173 rfl rfl rfl hvX5_wireOf ⟨Nat.le_of_ble_eq_true rfl, Nat.le_of_ble_eq_true rfl⟩) hK hP hD hS hA 42 5 rfl ww_42 rfl hl.1 rfl (Nat.le_of_ble_eq_true rfl) dX5_run_185 ⟨Nat.le_of_ble_eq_true rfl, Nat.le_of_ble_eq_true rfl⟩ (fun ws_121 r_122 h_123 H locs hP hD hS => ?_)
                            obtain ⟨rfl, v_124, rfl⟩ := h_123
                            have hP : va_P D vwCl (WW ad cJ cI cZ bm pa p0 p1 p2 li wi (0) (ms.1, ms.2.1, ms.2.2.1, ms.2.2.2.1, ms.2.2.2.2.1, ms.2.2.2.2.2.1, ms.2.2.2.2.2.2.1, g_61) ma (g_117, g_118, g_119) mk (mn.1, mn.2.1, mn.2.2.1, mn.2.2.2.1, g_79) ou) H := hP
                            have hD : va_D A (WW ad cJ cI cZ bm pa p0 p1 p2 li wi (0) (ms.1, ms.2.1, ms.2.2.1, ms.2.2.2.1, ms.2.2.2.2.1, ms.2.2.2.2.2.1, ms.2.2.2.2.2.2.1, g_61) ma (g_117, g_118, g_119) mk (mn.1, mn.2.1, mn.2.2.1, mn.2.2.2.1, g_79) ou) := hD
                            refine lv_lstore (lv' := [(21, .long v_124), (7, .int (v_23 + 1)), (20, .int (bm_b true)), (18, .long t_88), (16, .long (lN z_62)), (14, .long (lN z_56)), (12, .long (lN z_50)), (10, .long (lN z_44)), (8, .long (lN i_19)), (5, .long v_22), (3, .long v_10), (0, .ref (ad 42)), (1, .long (lN k_zA))]) hx hb dX5_run_188 hl (by decide) rfl (fun ls hl => ?_)
                            refine lv_lload hx hb dX5_run_190 (lv_at hl 0 rfl) ?_
                            refine lv_lload hx hb dX5_run_192 (lv_at hl 9 rfl) ?_
                            refine bm_lc_ge (x := v_124) (y := v_22) (tgt := 208) hx hb dX5_run_194 dX5_run_195 (by decide) (fun c_125 => ?_) (fun c_125 => ?_)
                            · refine lv_lload hx hb dX5_run_208 (lv_at hl 8 rfl) ?_
                              refine lv_lconst (v := 1) hx hb dX5_run_210 (by decide) ?_
                              refine bm_ladd1 hx hb dX5_run_211 ?_
                              refine lv_lstore (lv' := [(8, .long (lN (i_19 + 1))), (21, .long v_124), (7, .int (v_23 + 1)), (20, .int (bm_b true)), (18, .long t_88), (16, .long (lN z_62)), (14, .long (lN z_56)), (12, .long (lN z_50)), (10, .long (lN z_44)), (5, .long v_22), (3, .long v_10), (0, .ref (ad 42)), (1, .long (lN k_zA))]) hx hb dX5_run_212 hl (by decide) rfl (fun ls hl => ?_)
                              refine lv_goto (tgt := 60) hx hb dX5_run_214 (by decide) ?_
                              exact ih_21 (i_19 + 1) v_22 (v_23 + 1) g_117 g_118 g_119 g_79 g_61 (by omega) (by omega) ok_120 _ _ hP hD hS _ (lv_sub hl [0, 2, 9, 10, 11, 12] rfl)
                            · refine lv_lload hx hb dX5_run_198 (lv_at hl 0 rfl) ?_
                              refine lv_lstore (lv' := [(5, .long v_124), (21, .long v_124), (7, .int (v_23 + 1)), (20, .int (bm_b true)), (18, .long t_88), (16, .long (lN z_62)), (14, .long (lN z_56)), (12, .long (lN z_50)), (10, .long (lN z_44)), (8, .long (lN i_19)), (3, .long v_10), (0, .ref (ad 42)), (1, .long (lN k_zA))]) hx hb dX5_run_200 hl (by decide) rfl (fun ls hl => ?_)
                              refine lv_aload_n hx hb dX5_run_202 rfl (lv_at hl 11 rfl) ?_
                              refine lv_iconst (v := nI 2) hx hb dX5_run_203 (by decide) ?_
                              refine lv_iconst (v := nI 0) hx hb dX5_run_204 (by decide) ?_
                              refine bm_xcallV (As := [.int (nI 2), .int (nI 0)]) (rest := []) ⟨hx, hb, hml, hown, hts⟩ (y_copy (mt := (0)) (ms := (ms.1, ms.2.1, ms.2.2.1, ms.2.2.2.1, ms.2.2.2.2.1, ms.2.2.2.2.2.1, ms.2.2.2.2.2.2.1, g_61)) (mp := (g_117, g_118, g_119)) (mn := (mn.1, mn.2.1, mn.2.2.1, mn.2.2.2.1, g_79)) (zt := 2) (zf := 0) ok_120 (by omega) (by omega)) (cwV 2 hts gvX5_132 rfl rfl rfl hvX5_copy ⟨Nat.le_of_ble_eq_true rfl, Nat.le_of_ble_eq_true rfl⟩) hK hP hD hS hA 42 5 rfl ww_42 rfl hl.1 rfl (Nat.le_of_ble_eq_true rfl) dX5_run_205 ⟨Nat.le_of_ble_eq_true rfl, Nat.le_of_ble_eq_true rfl⟩ (fun ws_126 r_127 h_128 H locs hP hD hS => ?_)
                              obtain ⟨g_129, g_130, g_131, ok_132, rfl, rfl⟩ := h_128
                              have hP : va_P D vwCl (WW ad cJ cI cZ bm pa p0 p1 p2 li wi (0) (ms.1, ms.2.1, ms.2.2.1, ms.2.2.2.1, ms.2.2.2.2.1, ms.2.2.2.2.2.1, ms.2.2.2.2.2.2.1, g_61) ma (g_129, g_130, g_131) mk (mn.1, mn.2.1, mn.2.2.1, mn.2.2.2.1, g_79) ou) H := hP
                              have hD : va_D A (WW ad cJ cI cZ bm pa p0 p1 p2 li wi (0) (ms.1, ms.2.1, ms.2.2.1, ms.2.2.2.1, ms.2.2.2.2.1, ms.2.2.2.2.2.1, ms.2.2.2.2.2.2.1, g_61) ma (g_129, g_130, g_131) mk (mn.1, mn.2.1, mn.2.2.1, mn.2.2.2.1, g_79) ou) := hD
                              refine lv_lload hx hb dX5_run_208 (lv_at hl 9 rfl) ?_
                              refine lv_lconst (v := 1) hx hb dX5_run_210 (by decide) ?_
                              refine bm_ladd1 hx hb dX5_run_211 ?_
                              refine lv_lstore (lv' := [(8, .long (lN (i_19 + 1))), (5, .long v_124), (21, .long v_124), (7, .int (v_23 + 1)), (20, .int (bm_b true)), (18, .long t_88), (16, .long (lN z_62)), (14, .long (lN z_56)), (12, .long (lN z_50)), (10, .long (lN z_44)), (3, .long v_10), (0, .ref (ad 42)), (1, .long (lN k_zA))]) hx hb dX5_run_212 hl (by decide) rfl (fun ls hl => ?_)
                              refine lv_goto (tgt := 60) hx hb dX5_run_214 (by decide) ?_
                              exact ih_21 (i_19 + 1) v_124 (v_23 + 1) g_129 g_130 g_131 g_79 g_61 (by omega) (by omega) ok_132 _ _ hP hD hS _ (lv_sub hl [0, 3, 1, 10, 11, 12] rfl)
            exact lp_18 (k_zA + 1) 0 v_10 0 g_14 g_15 g_16 mn.2.2.2.2 ms.2.2.2.2.2.2.2 (by omega) (by omega) ok_17 _ _ hP hD hS _ (lv_sub hl [0, 1, 2, 3, 4, 5] rfl)
          · refine lv_iconst (v := nI 0) hx hb dX5_run_37 (by decide) ?_
            exact bm_iretX (v := (nI 0)) hx hb hr hP hD hK hS ⟨(0), ms, ma, mp, mk, mn, ⟨ok_ms_parts, ok_ms_outs, ok_ms_nears, ok_ms_nets, ok_ms_pins, ok_ma_sides, ok_ma_groups, ok_mp_turns, ok_mk_nearOne, ok_mk_nearTwo, ok_mn_pinNet, ok_mn_pinPart, hw, hh⟩, rfl, rfl, (nI 0), rfl⟩ dX5_run_38 hlocks
  · have hl := lv_entry ([.ref (ad 42), .long zA]) (n := 23) (Nat.le_of_ble_eq_true rfl)
    refine W.eq (g2 := entryFrame m ([.ref (ad 42), .long zA] : List Value).toArray 23) (by rw [ha]) ?_
    rw [lg_entry_eq]
    generalize (lg_sl ([.ref (ad 42), .long zA]) ++ List.replicate (23 - (lg_sl ([.ref (ad 42), .long zA])).length) Slot.unset).toArray = ls at hl ⊢
    have hl : lv_has ls 23 [(0, .ref (ad 42)), (1, .long zA)] := hl
    refine lv_aload_n hx hb dX5_run_0 rfl (lv_at hl 0 rfl) ?_
    refine lv_lload_n hx hb dX5_run_1 rfl (lv_at hl 1 rfl) ?_
    refine lv_lconst (v := 0) hx hb dX5_run_2 (by decide) ?_
    refine bm_lc_lt (x := zA) (y := 0) (tgt := 19) hx hb dX5_run_3 dX5_run_4 (by decide) (fun c_133 => ?_) (fun c_133 => ?_)
    · refine lv_iconst (v := nI 1) hx hb dX5_run_19 (by decide) ?_
      refine va_put (D := D) (ci := 5) (v := .int (nI 1)) (ty := .int) (C := RX5) (T := TX5) (N := 28) hx hb hts (inT inX5) tyX5 tyX5_ok nmX5 hown hK hP hD hS 42 ww_42 rfl 0 (by decide) (hts (.fieldLink RX5 81 "BoardMovesModel" "thrown" "I") (List.mem_cons_of_mem _ flX5_81)) (fun _ h9 => h9) rfl (by decide +kernel) rfl rfl (Nat.le_of_ble_eq_true rfl) dX5_run_20 (fun H locs hP hD hS => ?_)
      have hP : va_P D vwCl (WW ad cJ cI cZ bm pa p0 p1 p2 li wi (1) ms ma mp mk mn ou) H := hP
      have hD : va_D A (WW ad cJ cI cZ bm pa p0 p1 p2 li wi (1) ms ma mp mk mn ou) := hD
      refine lv_aload_n hx hb dX5_run_23 rfl (lv_at hl 0 rfl) ?_
      refine va_get (D := D) (ci := 5) (v := .int (nI 1)) (C := RX5) (T := TX5) (N := 28) hx hb hts (inT inX5) hown hK hP 42 ww_42 rfl 0 (by decide) (hts (.fieldLink RX5 81 "BoardMovesModel" "thrown" "I") (List.mem_cons_of_mem _ flX5_81)) (fun _ h9 => h9) rfl dX5_run_24 ?_
      refine bm_nz_ne (x := 1) (tgt := 37) hx hb (by decide) dX5_run_27 (by decide) (fun c_134 => ?_) (fun c_134 => ?_)
      · refine lv_iconst (v := nI 0) hx hb dX5_run_37 (by decide) ?_
        exact bm_iretX (v := (nI 0)) hx hb hr hP hD hK hS ⟨(1), ms, ma, mp, mk, mn, ⟨ok_ms_parts, ok_ms_outs, ok_ms_nears, ok_ms_nets, ok_ms_pins, ok_ma_sides, ok_ma_groups, ok_mp_turns, ok_mk_nearOne, ok_mk_nearTwo, ok_mn_pinNet, ok_mn_pinPart, hw, hh⟩, rfl, rfl, (nI 0), rfl⟩ dX5_run_38 hlocks
      · exact absurd c_134 (by decide)
    · refine lv_lload_n hx hb dX5_run_7 rfl (lv_at hl 1 rfl) ?_
      refine lv_ldc2 (v := 2000) hx hb hown (hts (.constantLong RX5 203 2000) (List.mem_cons_of_mem _ clX5_203)) dX5_run_8 ?_
      refine bm_lc_gt (x := zA) (y := 2000) (tgt := 19) hx hb dX5_run_11 dX5_run_12 (by decide) (fun c_135 => ?_) (fun c_135 => ?_)
      · refine lv_iconst (v := nI 1) hx hb dX5_run_19 (by decide) ?_
        refine va_put (D := D) (ci := 5) (v := .int (nI 1)) (ty := .int) (C := RX5) (T := TX5) (N := 28) hx hb hts (inT inX5) tyX5 tyX5_ok nmX5 hown hK hP hD hS 42 ww_42 rfl 0 (by decide) (hts (.fieldLink RX5 81 "BoardMovesModel" "thrown" "I") (List.mem_cons_of_mem _ flX5_81)) (fun _ h9 => h9) rfl (by decide +kernel) rfl rfl (Nat.le_of_ble_eq_true rfl) dX5_run_20 (fun H locs hP hD hS => ?_)
        have hP : va_P D vwCl (WW ad cJ cI cZ bm pa p0 p1 p2 li wi (1) ms ma mp mk mn ou) H := hP
        have hD : va_D A (WW ad cJ cI cZ bm pa p0 p1 p2 li wi (1) ms ma mp mk mn ou) := hD
        refine lv_aload_n hx hb dX5_run_23 rfl (lv_at hl 0 rfl) ?_
        refine va_get (D := D) (ci := 5) (v := .int (nI 1)) (C := RX5) (T := TX5) (N := 28) hx hb hts (inT inX5) hown hK hP 42 ww_42 rfl 0 (by decide) (hts (.fieldLink RX5 81 "BoardMovesModel" "thrown" "I") (List.mem_cons_of_mem _ flX5_81)) (fun _ h9 => h9) rfl dX5_run_24 ?_
        refine bm_nz_ne (x := 1) (tgt := 37) hx hb (by decide) dX5_run_27 (by decide) (fun c_136 => ?_) (fun c_136 => ?_)
        · refine lv_iconst (v := nI 0) hx hb dX5_run_37 (by decide) ?_
          exact bm_iretX (v := (nI 0)) hx hb hr hP hD hK hS ⟨(1), ms, ma, mp, mk, mn, ⟨ok_ms_parts, ok_ms_outs, ok_ms_nears, ok_ms_nets, ok_ms_pins, ok_ma_sides, ok_ma_groups, ok_mp_turns, ok_mk_nearOne, ok_mk_nearTwo, ok_mn_pinNet, ok_mn_pinPart, hw, hh⟩, rfl, rfl, (nI 0), rfl⟩ dX5_run_38 hlocks
        · exact absurd c_136 (by decide)
      · exact absurd hno_zA (by simp [q_rn, c_133, c_135])
