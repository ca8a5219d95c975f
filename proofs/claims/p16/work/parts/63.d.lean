set_option maxHeartbeats 16000000 in
set_option maxRecDepth 100000 in
theorem Y_part {l : Launch} {D : va_G} {ad : Nat → Nat} {cJ cI cZ : ClassId} {bm : gBM} {pa : gPA} {p0 p1 p2 : gPL} {li : gLI} {wi : gWI} {mt : Nat} {ms : gMS} {ma : gMA} {mp : gMP} {mk : gMK} {mn : gMN} {ou : Nat → Int64} {zA : Int64} {zB : Int64} {zC : Int32} (hok : okM ms ma mp mk mn)  : bm_Wx l yX5_part wsX5_part ({ frames := 1, cells := 0, slots := 0, locals := 21 }) D vwCl [(cJ, .long), (cI, .int), (cZ, .boolean)] (WW ad cJ cI cZ bm pa p0 p1 p2 li wi mt ms ma mp mk mn ou) [.ref (ad 42), .long zA, .long zB, .int zC] (PMI ad cJ cI cZ bm pa p0 p1 p2 li wi mt ms ma mp mk mn ou) := by
  obtain ⟨ok_ms_parts, ok_ms_outs, ok_ms_nears, ok_ms_nets, ok_ms_pins, ok_ma_sides, ok_ma_groups, ok_mp_turns, ok_mk_nearOne, ok_mk_nearTwo, ok_mn_pinNet, ok_mn_pinPart, hw, hh⟩ := hok
  intro sz
  refine Met.ofW (cc := cX5_part) (maxL := 6) (ret := (some .int)) (by decide) rfl ?_
  intro p e s m args below meth c s₁ B hml hv
  obtain ⟨ha, hsz, hP, hK, hD0⟩ := hv
  have hx := B.exec
  have hb := B.bytes
  have hr := B.returns
  have hts := atoms_spec (ws := wsX5_part) B.pre
  have hown : s.vm.findClass RX5 = some m.cls := findClass_of_methodNamed B.named
  have hlocks := B.notSynchronized
  subst hsz
  have hD := hD0.self (sz := s.heap.size)
  generalize hAe : va_A (WW ad cJ cI cZ bm pa p0 p1 p2 li wi mt ms ma mp mk mn ou) s.heap.size = A at hD ⊢
  have hA : ∀ q : Nat, s.heap.size ≤ q → A q := fun q h => by rw [← hAe]; exact Or.inr h
  have hS : va_S A s.heap s.heap [] := va_S.rf
  rcases bx_idx zC (n := 2) (by omega) with ⟨k_zC, hk_zC, rfl⟩ | hno_zC
  · have hl := lv_entry ([.ref (ad 42), .long zA, .long zB, .int (nI k_zC)]) (n := 6) (Nat.le_of_ble_eq_true rfl)
    refine W.eq (g2 := entryFrame m ([.ref (ad 42), .long zA, .long zB, .int (nI k_zC)] : List Value).toArray 6) (by rw [ha]) ?_
    rw [lg_entry_eq]
    generalize (lg_sl ([.ref (ad 42), .long zA, .long zB, .int (nI k_zC)]) ++ List.replicate (6 - (lg_sl ([.ref (ad 42), .long zA, .long zB, .int (nI k_zC)])).length) Slot.unset).toArray = ls at hl ⊢
    have hl : lv_has ls 6 [(0, .ref (ad 42)), (1, .long zA), (3, .long zB), (5, .int (nI k_zC))] := hl
    refine lv_aload_n hx hb dX5_part_0 rfl (lv_at hl 0 rfl) ?_
    refine lv_lload_n hx hb dX5_part_1 rfl (lv_at hl 1 rfl) ?_
    refine bm_xcallS (As := [.long zA]) (rest := [.ref (ad 42)]) ⟨hx, hb, hml, hown, hts⟩ (y_isSize  (z1 := zA)  ) (cwS 1 hts gsX5_88 rfl rfl rfl hsX5_isSize ⟨Nat.le_of_ble_eq_true rfl, Nat.le_of_ble_eq_true rfl⟩) hK hP hD hS hA rfl hl.1 rfl (Nat.le_of_ble_eq_true rfl) dX5_part_2 ⟨Nat.le_of_ble_eq_true rfl, Nat.le_of_ble_eq_true rfl⟩ (fun ws_1 r_2 h_3 H locs hP hD hS => ?_)
    obtain ⟨rfl, v_4, rfl⟩ := h_3
    have hP : va_P D vwCl (WW ad cJ cI cZ bm pa p0 p1 p2 li wi mt ms ma mp mk mn ou) H := hP
    have hD : va_D A (WW ad cJ cI cZ bm pa p0 p1 p2 li wi mt ms ma mp mk mn ou) := hD
    refine bm_zb_eq (x := v_4) (tgt := 30) hx hb dX5_part_5 (by decide) (fun c_5 => ?_) (fun c_5 => ?_)
    · refine lv_iconst (v := nI 1) hx hb dX5_part_30 (by decide) ?_
      refine va_put (D := D) (ci := 5) (v := .int (nI 1)) (ty := .int) (C := RX5) (T := TX5) (N := 28) hx hb hts (inT inX5) tyX5 tyX5_ok nmX5 hown hK hP hD hS 42 ww_42 rfl 0 (by decide) (hts (.fieldLink RX5 81 "BoardMovesModel" "thrown" "I") (List.mem_cons_of_mem _ flX5_81)) (fun _ h9 => h9) rfl (by decide +kernel) rfl rfl (Nat.le_of_ble_eq_true rfl) dX5_part_31 (fun H locs hP hD hS => ?_)
      have hP : va_P D vwCl (WW ad cJ cI cZ bm pa p0 p1 p2 li wi (1) ms ma mp mk mn ou) H := hP
      have hD : va_D A (WW ad cJ cI cZ bm pa p0 p1 p2 li wi (1) ms ma mp mk mn ou) := hD
      refine lv_aload_n hx hb dX5_part_34 rfl (lv_at hl 0 rfl) ?_
      refine va_get (D := D) (ci := 5) (v := .int (nI 1)) (C := RX5) (T := TX5) (N := 28) hx hb hts (inT inX5) hown hK hP 42 ww_42 rfl 0 (by decide) (hts (.fieldLink RX5 81 "BoardMovesModel" "thrown" "I") (List.mem_cons_of_mem _ flX5_81)) (fun _ h9 => h9) rfl dX5_part_35 ?_
      refine bm_nz_eq (x := 1) (tgt := 43) hx hb (by decide) dX5_part_38 (by decide) (fun c_6 => ?_) (fun c_6 => ?_)
      · exact absurd c_6 (by decide)
      · refine lv_iconst (v := nI 0) hx hb dX5_part_41 (by decide) ?_
        exact bm_iretX (v := (nI 0)) hx hb hr hP hD hK hS ⟨(1), ms, ma, mp, mk, mn, ⟨ok_ms_parts, ok_ms_outs, ok_ms_nears, ok_ms_nets, ok_ms_pins, ok_ma_sides, ok_ma_groups, ok_mp_turns, ok_mk_nearOne, ok_mk_nearTwo, ok_mn_pinNet, ok_mn_pinPart, hw, hh⟩, rfl, rfl, (nI 0), rfl⟩ dX5_part_42 hlocks
    · refine lv_lload_n hx hb dX5_part_8 rfl (lv_at hl 2 rfl) ?_
      refine bm_xcallS (As := [.long zB]) (rest := [.ref (ad 42)]) ⟨hx, hb, hml, hown, hts⟩ (y_isSize  (z1 := zB)  ) (cwS 1 hts gsX5_88 rfl rfl rfl hsX5_isSize ⟨Nat.le_of_ble_eq_true rfl, Nat.le_of_ble_eq_true rfl⟩) hK hP hD hS hA rfl hl.1 rfl (Nat.le_of_ble_eq_true rfl) dX5_part_9 ⟨Nat.le_of_ble_eq_true rfl, Nat.le_of_ble_eq_true rfl⟩ (fun ws_7 r_8 h_9 H locs hP hD hS => ?_)
      obtain ⟨rfl, v_10, rfl⟩ := h_9
      have hP : va_P D vwCl (WW ad cJ cI cZ bm pa p0 p1 p2 li wi mt ms ma mp mk mn ou) H := hP
      have hD : va_D A (WW ad cJ cI cZ bm pa p0 p1 p2 li wi mt ms ma mp mk mn ou) := hD
      refine bm_zb_eq (x := v_10) (tgt := 30) hx hb dX5_part_12 (by decide) (fun c_11 => ?_) (fun c_11 => ?_)
      · refine lv_iconst (v := nI 1) hx hb dX5_part_30 (by decide) ?_
        refine va_put (D := D) (ci := 5) (v := .int (nI 1)) (ty := .int) (C := RX5) (T := TX5) (N := 28) hx hb hts (inT inX5) tyX5 tyX5_ok nmX5 hown hK hP hD hS 42 ww_42 rfl 0 (by decide) (hts (.fieldLink RX5 81 "BoardMovesModel" "thrown" "I") (List.mem_cons_of_mem _ flX5_81)) (fun _ h9 => h9) rfl (by decide +kernel) rfl rfl (Nat.le_of_ble_eq_true rfl) dX5_part_31 (fun H locs hP hD hS => ?_)
        have hP : va_P D vwCl (WW ad cJ cI cZ bm pa p0 p1 p2 li wi (1) ms ma mp mk mn ou) H := hP
        have hD : va_D A (WW ad cJ cI cZ bm pa p0 p1 p2 li wi (1) ms ma mp mk mn ou) := hD
        refine lv_aload_n hx hb dX5_part_34 rfl (lv_at hl 0 rfl) ?_
        refine va_get (D := D) (ci := 5) (v := .int (nI 1)) (C := RX5) (T := TX5) (N := 28) hx hb hts (inT inX5) hown hK hP 42 ww_42 rfl 0 (by decide) (hts (.fieldLink RX5 81 "BoardMovesModel" "thrown" "I") (List.mem_cons_of_mem _ flX5_81)) (fun _ h9 => h9) rfl dX5_part_35 ?_
        refine bm_nz_eq (x := 1) (tgt := 43) hx hb (by decide) dX5_part_38 (by decide) (fun c_12 => ?_) (fun c_12 => ?_)
        · exact absurd c_12 (by decide)
        · refine lv_iconst (v := nI 0) hx hb dX5_part_41 (by decide) ?_
          exact bm_iretX (v := (nI 0)) hx hb hr hP hD hK hS ⟨(1), ms, ma, mp, mk, mn, ⟨ok_ms_parts, ok_ms_outs, ok_ms_nears, ok_ms_nets, ok_ms_pins, ok_ma_sides, ok_ma_groups, ok_mp_turns, ok_mk_nearOne, ok_mk_nearTwo, ok_mn_pinNet, ok_mn_pinPart, hw, hh⟩, rfl, rfl, (nI 0), rfl⟩ dX5_part_42 hlocks
      · refine lv_iload hx hb dX5_part_15 (lv_at hl 3 rfl) ?_
        refine bm_nz_eq (x := k_zC) (tgt := 26) hx hb (by omega) dX5_part_17 (by decide) (fun c_13 => ?_) (fun c_13 => ?_)
        · refine lv_iconst (v := nI 0) hx hb dX5_part_26 (by decide) ?_
          refine lv_goto (tgt := 31) hx hb dX5_part_27 (by decide) ?_
          refine va_put (D := D) (ci := 5) (v := .int (nI 0)) (ty := .int) (C := RX5) (T := TX5) (N := 28) hx hb hts (inT inX5) tyX5 tyX5_ok nmX5 hown hK hP hD hS 42 ww_42 rfl 0 (by decide) (hts (.fieldLink RX5 81 "BoardMovesModel" "thrown" "I") (List.mem_cons_of_mem _ flX5_81)) (fun _ h9 => h9) rfl (by decide +kernel) rfl rfl (Nat.le_of_ble_eq_true rfl) dX5_part_31 (fun H locs hP hD hS => ?_)
          have hP : va_P D vwCl (WW ad cJ cI cZ bm pa p0 p1 p2 li wi (0) ms ma mp mk mn ou) H := hP
          have hD : va_D A (WW ad cJ cI cZ bm pa p0 p1 p2 li wi (0) ms ma mp mk mn ou) := hD
          refine lv_aload_n hx hb dX5_part_34 rfl (lv_at hl 0 rfl) ?_
          refine va_get (D := D) (ci := 5) (v := .int (nI 0)) (C := RX5) (T := TX5) (N := 28) hx hb hts (inT inX5) hown hK hP 42 ww_42 rfl 0 (by decide) (hts (.fieldLink RX5 81 "BoardMovesModel" "thrown" "I") (List.mem_cons_of_mem _ flX5_81)) (fun _ h9 => h9) rfl dX5_part_35 ?_
          refine bm_nz_eq (x := 0) (tgt := 43) hx hb (by decide) dX5_part_38 (by decide) (fun c_14 => ?_) (fun c_14 => ?_)
          · refine lv_aload_n hx hb dX5_part_43 rfl (lv_at hl 0 rfl) ?_
            refine va_get (D := D) (ci := 5) (v := .int (nI ms.2.2.1)) (C := RX5) (T := TX5) (N := 28) hx hb hts (inT inX5) hown hK hP 42 ww_42 rfl 3 (by decide) (hts (.fieldLink RX5 85 "BoardMovesModel" "parts" "I") (List.mem_cons_of_mem _ flX5_85)) (fun _ h9 => h9) rfl dX5_part_44 ?_
            refine lv_bipush (v := nI 40) hx hb dX5_part_47 (by decide) ?_
            refine bm_ni_ne (x := ms.2.2.1) (y := 40) (tgt := 54) hx hb (by omega) (by omega) dX5_part_49 (by decide) (fun c_15 => ?_) (fun c_15 => ?_)
            · refine lv_aload_n hx hb dX5_part_54 rfl (lv_at hl 0 rfl) ?_
              refine va_get (D := D) (ci := 5) (v := .ref (ad 43)) (C := RX5) (T := TX5) (N := 28) hx hb hts (inT inX5) hown hK hP 42 ww_42 rfl 4 (by decide) (hts (.fieldLink RX5 7 "BoardMovesModel" "wide" "[J") (List.mem_cons_of_mem _ flX5_7)) (fun _ h9 => h9) rfl dX5_part_55 ?_
              refine lv_aload_n hx hb dX5_part_58 rfl (lv_at hl 0 rfl) ?_
              refine va_get (D := D) (ci := 5) (v := .int (nI ms.2.2.1)) (C := RX5) (T := TX5) (N := 28) hx hb hts (inT inX5) hown hK hP 42 ww_42 rfl 3 (by decide) (hts (.fieldLink RX5 85 "BoardMovesModel" "parts" "I") (List.mem_cons_of_mem _ flX5_85)) (fun _ h9 => h9) rfl dX5_part_59 ?_
              refine lv_lload_n hx hb dX5_part_62 rfl (lv_at hl 1 rfl) ?_
              refine bm_last (f := ma.1) hx hb hK hP hD hS 43 0 ww_43 rfl (j := ms.2.2.1) (x := zA) (by omega) (by decide) dX5_part_63 (fun H locs hP hD hS => ?_)
              have hP : va_P D vwCl (WW ad cJ cI cZ bm pa p0 p1 p2 li wi (0) ms (va_up ma.1 ms.2.2.1 zA, ma.2.1, ma.2.2.1, ma.2.2.2.1, ma.2.2.2.2.1, ma.2.2.2.2.2.1, ma.2.2.2.2.2.2) mp mk mn ou) H := hP
              have hD : va_D A (WW ad cJ cI cZ bm pa p0 p1 p2 li wi (0) ms (va_up ma.1 ms.2.2.1 zA, ma.2.1, ma.2.2.1, ma.2.2.2.1, ma.2.2.2.2.1, ma.2.2.2.2.2.1, ma.2.2.2.2.2.2) mp mk mn ou) := hD
              refine lv_aload_n hx hb dX5_part_64 rfl (lv_at hl 0 rfl) ?_
              refine va_get (D := D) (ci := 5) (v := .ref (ad 44)) (C := RX5) (T := TX5) (N := 28) hx hb hts (inT inX5) hown hK hP 42 ww_42 rfl 5 (by decide) (hts (.fieldLink RX5 13 "BoardMovesModel" "high" "[J") (List.mem_cons_of_mem _ flX5_13)) (fun _ h9 => h9) rfl dX5_part_65 ?_
              refine lv_aload_n hx hb dX5_part_68 rfl (lv_at hl 0 rfl) ?_
              refine va_get (D := D) (ci := 5) (v := .int (nI ms.2.2.1)) (C := RX5) (T := TX5) (N := 28) hx hb hts (inT inX5) hown hK hP 42 ww_42 rfl 3 (by decide) (hts (.fieldLink RX5 85 "BoardMovesModel" "parts" "I") (List.mem_cons_of_mem _ flX5_85)) (fun _ h9 => h9) rfl dX5_part_69 ?_
              refine lv_lload_n hx hb dX5_part_72 rfl (lv_at hl 2 rfl) ?_
              refine bm_last (f := ma.2.1) hx hb hK hP hD hS 44 0 ww_44 rfl (j := ms.2.2.1) (x := zB) (by omega) (by decide) dX5_part_73 (fun H locs hP hD hS => ?_)
              have hP : va_P D vwCl (WW ad cJ cI cZ bm pa p0 p1 p2 li wi (0) ms (va_up ma.1 ms.2.2.1 zA, va_up ma.2.1 ms.2.2.1 zB, ma.2.2.1, ma.2.2.2.1, ma.2.2.2.2.1, ma.2.2.2.2.2.1, ma.2.2.2.2.2.2) mp mk mn ou) H := hP
              have hD : va_D A (WW ad cJ cI cZ bm pa p0 p1 p2 li wi (0) ms (va_up ma.1 ms.2.2.1 zA, va_up ma.2.1 ms.2.2.1 zB, ma.2.2.1, ma.2.2.2.1, ma.2.2.2.2.1, ma.2.2.2.2.2.1, ma.2.2.2.2.2.2) mp mk mn ou) := hD
              refine lv_aload_n hx hb dX5_part_74 rfl (lv_at hl 0 rfl) ?_
              refine va_get (D := D) (ci := 5) (v := .ref (ad 45)) (C := RX5) (T := TX5) (N := 28) hx hb hts (inT inX5) hown hK hP 42 ww_42 rfl 6 (by decide) (hts (.fieldLink RX5 16 "BoardMovesModel" "sides" "[I") (List.mem_cons_of_mem _ flX5_16)) (fun _ h9 => h9) rfl dX5_part_75 ?_
              refine lv_aload_n hx hb dX5_part_78 rfl (lv_at hl 0 rfl) ?_
              refine va_get (D := D) (ci := 5) (v := .int (nI ms.2.2.1)) (C := RX5) (T := TX5) (N := 28) hx hb hts (inT inX5) hown hK hP 42 ww_42 rfl 3 (by decide) (hts (.fieldLink RX5 85 "BoardMovesModel" "parts" "I") (List.mem_cons_of_mem _ flX5_85)) (fun _ h9 => h9) rfl dX5_part_79 ?_
              refine lv_iload hx hb dX5_part_82 (lv_at hl 3 rfl) ?_
              refine bm_nast (f := ma.2.2.1) hx hb hK hP hD hS 45 1 ww_45 rfl (j := ms.2.2.1) (x := k_zC) (by omega) (by decide) dX5_part_84 (fun H locs hP hD hS => ?_)
              have hP : va_P D vwCl (WW ad cJ cI cZ bm pa p0 p1 p2 li wi (0) ms (va_up ma.1 ms.2.2.1 zA, va_up ma.2.1 ms.2.2.1 zB, va_up ma.2.2.1 ms.2.2.1 k_zC, ma.2.2.2.1, ma.2.2.2.2.1, ma.2.2.2.2.2.1, ma.2.2.2.2.2.2) mp mk mn ou) H := hP
              have hD : va_D A (WW ad cJ cI cZ bm pa p0 p1 p2 li wi (0) ms (va_up ma.1 ms.2.2.1 zA, va_up ma.2.1 ms.2.2.1 zB, va_up ma.2.2.1 ms.2.2.1 k_zC, ma.2.2.2.1, ma.2.2.2.2.1, ma.2.2.2.2.2.1, ma.2.2.2.2.2.2) mp mk mn ou) := hD
              refine lv_aload_n hx hb dX5_part_85 rfl (lv_at hl 0 rfl) ?_
              refine va_get (D := D) (ci := 5) (v := .ref (ad 48)) (C := RX5) (T := TX5) (N := 28) hx hb hts (inT inX5) hown hK hP 42 ww_42 rfl 9 (by decide) (hts (.fieldLink RX5 27 "BoardMovesModel" "groups" "[I") (List.mem_cons_of_mem _ flX5_27)) (fun _ h9 => h9) rfl dX5_part_86 ?_
              refine lv_aload_n hx hb dX5_part_89 rfl (lv_at hl 0 rfl) ?_
              refine va_get (D := D) (ci := 5) (v := .int (nI ms.2.2.1)) (C := RX5) (T := TX5) (N := 28) hx hb hts (inT inX5) hown hK hP 42 ww_42 rfl 3 (by decide) (hts (.fieldLink RX5 85 "BoardMovesModel" "parts" "I") (List.mem_cons_of_mem _ flX5_85)) (fun _ h9 => h9) rfl dX5_part_90 ?_
              refine lv_aload_n hx hb dX5_part_93 rfl (lv_at hl 0 rfl) ?_
              refine va_get (D := D) (ci := 5) (v := .int (nI ms.2.2.1)) (C := RX5) (T := TX5) (N := 28) hx hb hts (inT inX5) hown hK hP 42 ww_42 rfl 3 (by decide) (hts (.fieldLink RX5 85 "BoardMovesModel" "parts" "I") (List.mem_cons_of_mem _ flX5_85)) (fun _ h9 => h9) rfl dX5_part_94 ?_
              refine bm_nast (f := ma.2.2.2.2.2.1) hx hb hK hP hD hS 48 1 ww_48 rfl (j := ms.2.2.1) (x := ms.2.2.1) (by omega) (by decide) dX5_part_97 (fun H locs hP hD hS => ?_)
              have hP : va_P D vwCl (WW ad cJ cI cZ bm pa p0 p1 p2 li wi (0) ms (va_up ma.1 ms.2.2.1 zA, va_up ma.2.1 ms.2.2.1 zB, va_up ma.2.2.1 ms.2.2.1 k_zC, ma.2.2.2.1, ma.2.2.2.2.1, va_up ma.2.2.2.2.2.1 ms.2.2.1 ms.2.2.1, ma.2.2.2.2.2.2) mp mk mn ou) H := hP
              have hD : va_D A (WW ad cJ cI cZ bm pa p0 p1 p2 li wi (0) ms (va_up ma.1 ms.2.2.1 zA, va_up ma.2.1 ms.2.2.1 zB, va_up ma.2.2.1 ms.2.2.1 k_zC, ma.2.2.2.1, ma.2.2.2.2.1, va_up ma.2.2.2.2.2.1 ms.2.2.1 ms.2.2.1, ma.2.2.2.2.2.2) mp mk mn ou) := hD
              refine lv_aload_n hx hb dX5_part_98 rfl (lv_at hl 0 rfl) ?_
              refine lv_dup hx hb dX5_part_99 rfl ?_
              refine va_get (D := D) (ci := 5) (v := .int (nI ms.2.2.1)) (C := RX5) (T := TX5) (N := 28) hx hb hts (inT inX5) hown hK hP 42 ww_42 rfl 3 (by decide) (hts (.fieldLink RX5 85 "BoardMovesModel" "parts" "I") (List.mem_cons_of_mem _ flX5_85)) (fun _ h9 => h9) rfl dX5_part_100 ?_
              refine lv_iconst (v := nI 1) hx hb dX5_part_103 (by decide) ?_
              refine bm_nadd hx hb dX5_part_104 ?_
              refine va_put (D := D) (ci := 5) (v := .int (nI (ms.2.2.1 + 1))) (ty := .int) (C := RX5) (T := TX5) (N := 28) hx hb hts (inT inX5) tyX5 tyX5_ok nmX5 hown hK hP hD hS 42 ww_42 rfl 3 (by decide) (hts (.fieldLink RX5 85 "BoardMovesModel" "parts" "I") (List.mem_cons_of_mem _ flX5_85)) (fun _ h9 => h9) rfl (by decide +kernel) rfl rfl (Nat.le_of_ble_eq_true rfl) dX5_part_105 (fun H locs hP hD hS => ?_)
              have hP : va_P D vwCl (WW ad cJ cI cZ bm pa p0 p1 p2 li wi (0) (ms.1, ms.2.1, ms.2.2.1 + 1, ms.2.2.2.1, ms.2.2.2.2.1, ms.2.2.2.2.2.1, ms.2.2.2.2.2.2.1, ms.2.2.2.2.2.2.2) (va_up ma.1 ms.2.2.1 zA, va_up ma.2.1 ms.2.2.1 zB, va_up ma.2.2.1 ms.2.2.1 k_zC, ma.2.2.2.1, ma.2.2.2.2.1, va_up ma.2.2.2.2.2.1 ms.2.2.1 ms.2.2.1, ma.2.2.2.2.2.2) mp mk mn ou) H := hP
              have hD : va_D A (WW ad cJ cI cZ bm pa p0 p1 p2 li wi (0) (ms.1, ms.2.1, ms.2.2.1 + 1, ms.2.2.2.1, ms.2.2.2.2.1, ms.2.2.2.2.2.1, ms.2.2.2.2.2.2.1, ms.2.2.2.2.2.2.2) (va_up ma.1 ms.2.2.1 zA, va_up ma.2.1 ms.2.2.1 zB, va_up ma.2.2.1 ms.2.2.1 k_zC, ma.2.2.2.1, ma.2.2.2.2.1, va_up ma.2.2.2.2.2.1 ms.2.2.1 ms.2.2.1, ma.2.2.2.2.2.2) mp mk mn ou) := hD
              refine lv_aload_n hx hb dX5_part_108 rfl (lv_at hl 0 rfl) ?_
              refine va_get (D := D) (ci := 5) (v := .int (nI (ms.2.2.1 + 1))) (C := RX5) (T := TX5) (N := 28) hx hb hts (inT inX5) hown hK hP 42 ww_42 rfl 3 (by decide) (hts (.fieldLink RX5 85 "BoardMovesModel" "parts" "I") (List.mem_cons_of_mem _ flX5_85)) (fun _ h9 => h9) rfl dX5_part_109 ?_
              refine lv_iconst (v := nI 1) hx hb dX5_part_112 (by decide) ?_
              refine bm_nsub hx hb (by omega) dX5_part_113 ?_
              exact bm_iretX (v := (nI ((ms.2.2.1 + 1) - 1))) hx hb hr hP hD hK hS ⟨(0), (ms.1, ms.2.1, ms.2.2.1 + 1, ms.2.2.2.1, ms.2.2.2.2.1, ms.2.2.2.2.2.1, ms.2.2.2.2.2.2.1, ms.2.2.2.2.2.2.2), (va_up ma.1 ms.2.2.1 zA, va_up ma.2.1 ms.2.2.1 zB, va_up ma.2.2.1 ms.2.2.1 k_zC, ma.2.2.2.1, ma.2.2.2.2.1, va_up ma.2.2.2.2.2.1 ms.2.2.1 ms.2.2.1, ma.2.2.2.2.2.2), mp, mk, mn, ⟨(show ms.2.2.1 + 1 ≤ 40 by omega), ok_ms_outs, ok_ms_nears, ok_ms_nets, ok_ms_pins, (bx_uplt ok_ma_sides (by omega)), (bx_uplt ok_ma_groups (by omega)), ok_mp_turns, ok_mk_nearOne, ok_mk_nearTwo, ok_mn_pinNet, ok_mn_pinPart, hw, hh⟩, rfl, rfl, (nI ((ms.2.2.1 + 1) - 1)), rfl⟩ dX5_part_114 hlocks
            · refine lv_iconst (v := -1) hx hb dX5_part_52 (by decide) ?_
              exact bm_iretX (v := (-1)) hx hb hr hP hD hK hS ⟨(0), ms, ma, mp, mk, mn, ⟨ok_ms_parts, ok_ms_outs, ok_ms_nears, ok_ms_nets, ok_ms_pins, ok_ma_sides, ok_ma_groups, ok_mp_turns, ok_mk_nearOne, ok_mk_nearTwo, ok_mn_pinNet, ok_mn_pinPart, hw, hh⟩, rfl, rfl, (-1), rfl⟩ dX5_part_53 hlocks
          · exact absurd c_14 (by decide)
        · refine lv_iload hx hb dX5_part_20 (lv_at hl 3 rfl) ?_
          refine lv_iconst (v := nI 1) hx hb dX5_part_22 (by decide) ?_
          refine bm_ni_ne (x := k_zC) (y := 1) (tgt := 30) hx hb (by omega) (by omega) dX5_part_23 (by decide) (fun c_16 => ?_) (fun c_16 => ?_)
          · refine lv_iconst (v := nI 1) hx hb dX5_part_30 (by decide) ?_
            refine va_put (D := D) (ci := 5) (v := .int (nI 1)) (ty := .int) (C := RX5) (T := TX5) (N := 28) hx hb hts (inT inX5) tyX5 tyX5_ok nmX5 hown hK hP hD hS 42 ww_42 rfl 0 (by decide) (hts (.fieldLink RX5 81 "BoardMovesModel" "thrown" "I") (List.mem_cons_of_mem _ flX5_81)) (fun _ h9 => h9) rfl (by decide +kernel) rfl rfl (Nat.le_of_ble_eq_true rfl) dX5_part_31 (fun H locs hP hD hS => ?_)
            have hP : va_P D vwCl (WW ad cJ cI cZ bm pa p0 p1 p2 li wi (1) ms ma mp mk mn ou) H := hP
            have hD : va_D A (WW ad cJ cI cZ bm pa p0 p1 p2 li wi (1) ms ma mp mk mn ou) := hD
            refine lv_aload_n hx hb dX5_part_34 rfl (lv_at hl 0 rfl) ?_
            refine va_get (D := D) (ci := 5) (v := .int (nI 1)) (C := RX5) (T := TX5) (N := 28) hx hb hts (inT inX5) hown hK hP 42 ww_42 rfl 0 (by decide) (hts (.fieldLink RX5 81 "BoardMovesModel" "thrown" "I") (List.mem_cons_of_mem _ flX5_81)) (fun _ h9 => h9) rfl dX5_part_35 ?_
            refine bm_nz_eq (x := 1) (tgt := 43) hx hb (by decide) dX5_part_38 (by decide) (fun c_17 => ?_) (fun c_17 => ?_)
            · exact absurd c_17 (by decide)
            · refine lv_iconst (v := nI 0) hx hb dX5_part_41 (by decide) ?_
              exact bm_iretX (v := (nI 0)) hx hb hr hP hD hK hS ⟨(1), ms, ma, mp, mk, mn, ⟨ok_ms_parts, ok_ms_outs, ok_ms_nears, ok_ms_nets, ok_ms_pins, ok_ma_sides, ok_ma_groups, ok_mp_turns, ok_mk_nearOne, ok_mk_nearTwo, ok_mn_pinNet, ok_mn_pinPart, hw, hh⟩, rfl, rfl, (nI 0), rfl⟩ dX5_part_42 hlocks
          · refine lv_iconst (v := nI 0) hx hb dX5_part_26 (by decide) ?_
            refine lv_goto (tgt := 31) hx hb dX5_part_27 (by decide) ?_
            refine va_put (D := D) (ci := 5) (v := .int (nI 0)) (ty := .int) (C := RX5) (T := TX5) (N := 28) hx hb hts (inT inX5) tyX5 tyX5_ok nmX5 hown hK hP hD hS 42 ww_42 rfl 0 (by decide) (hts (.fieldLink RX5 81 "BoardMovesModel" "thrown" "I") (List.mem_cons_of_mem _ flX5_81)) (fun _ h9 => h9) rfl (by decide +kernel) rfl rfl (Nat.le_of_ble_eq_true rfl) dX5_part_31 (fun H locs hP hD hS => ?_)
            have hP : va_P D vwCl (WW ad cJ cI cZ bm pa p0 p1 p2 li wi (0) ms ma mp mk mn ou) H := hP
            have hD : va_D A (WW ad cJ cI cZ bm pa p0 p1 p2 li wi (0) ms ma mp mk mn ou) := hD
            refine lv_aload_n hx hb dX5_part_34 rfl (lv_at hl 0 rfl) ?_
            refine va_get (D := D) (ci := 5) (v := .int (nI 0)) (C := RX5) (T := TX5) (N := 28) hx hb hts (inT inX5) hown hK hP 42 ww_42 rfl 0 (by decide) (hts (.fieldLink RX5 81 "BoardMovesModel" "thrown" "I") (List.mem_cons_of_mem _ flX5_81)) (fun _ h9 => h9) rfl dX5_part_35 ?_
            refine bm_nz_eq (x := 0) (tgt := 43) hx hb (by decide) dX5_part_38 (by decide) (fun c_18 => ?_) (fun c_18 => ?_)
            · refine lv_aload_n hx hb dX5_part_43 rfl (lv_at hl 0 rfl) ?_
              refine va_get (D := D) (ci := 5) (v := .int (nI ms.2.2.1)) (C := RX5) (T := TX5) (N := 28) hx hb hts (inT inX5) hown hK hP 42 ww_42 rfl 3 (by decide) (hts (.fieldLink RX5 85 "BoardMovesModel" "parts" "I") (List.mem_cons_of_mem _ flX5_85)) (fun _ h9 => h9) rfl dX5_part_44 ?_
              refine lv_bipush (v := nI 40) hx hb dX5_part_47 (by decide) ?_
              refine bm_ni_ne (x := ms.2.2.1) (y := 40) (tgt := 54) hx hb (by omega) (by omega) dX5_part_49 (by decide) (fun c_19 => ?_) (fun c_19 => ?_)
              · refine lv_aload_n hx hb dX5_part_54 rfl (lv_at hl 0 rfl) ?_
                refine va_get (D := D) (ci := 5) (v := .ref (ad 43)) (C := RX5) (T := TX5) (N := 28) hx hb hts (inT inX5) hown hK hP 42 ww_42 rfl 4 (by decide) (hts (.fieldLink RX5 7 "BoardMovesModel" "wide" "[J") (List.mem_cons_of_mem _ flX5_7)) (fun _ h9 => h9) rfl dX5_part_55 ?_
                refine lv_aload_n hx hb dX5_part_58 rfl (lv_at hl 0 rfl) ?_
                refine va_get (D := D) (ci := 5) (v := .int (nI ms.2.2.1)) (C := RX5) (T := TX5) (N := 28) hx hb hts (inT inX5) hown hK hP 42 ww_42 rfl 3 (by decide) (hts (.fieldLink RX5 85 "BoardMovesModel" "parts" "I") (List.mem_cons_of_mem _ flX5_85)) (fun _ h9 => h9) rfl dX5_part_59 ?_
                refine lv_lload_n hx hb dX5_part_62 rfl (lv_at hl 1 rfl) ?_
                refine bm_last (f := ma.1) hx hb hK hP hD hS 43 0 ww_43 rfl (j := ms.2.2.1) (x := zA) (by omega) (by decide) dX5_part_63 (fun H locs hP hD hS => ?_)
                have hP : va_P D vwCl (WW ad cJ cI cZ bm pa p0 p1 p2 li wi (0) ms (va_up ma.1 ms.2.2.1 zA, ma.2.1, ma.2.2.1, ma.2.2.2.1, ma.2.2.2.2.1, ma.2.2.2.2.2.1, ma.2.2.2.2.2.2) mp mk mn ou) H := hP
                have hD : va_D A (WW ad cJ cI cZ bm pa p0 p1 p2 li wi (0) ms (va_up ma.1 ms.2.2.1 zA, ma.2.1, ma.2.2.1, ma.2.2.2.1, ma.2.2.2.2.1, ma.2.2.2.2.2.1, ma.2.2.2.2.2.2) mp mk mn ou) := hD
                refine lv_aload_n hx hb dX5_part_64 rfl (lv_at hl 0 rfl) ?_
                refine va_get (D := D) (ci := 5) (v := .ref (ad 44)) (C := RX5) (T := TX5) (N := 28) hx hb hts (inT inX5) hown hK hP 42 ww_42 rfl 5 (by decide) (hts (.fieldLink RX5 13 "BoardMovesModel" "high" "[J") (List.mem_cons_of_mem _ flX5_13)) (fun _ h9 => h9) rfl dX5_part_65 ?_
                refine lv_aload_n hx hb dX5_part_68 rfl (lv_at hl 0 rfl) ?_
                refine va_get (D := D) (ci := 5) (v := .int (nI ms.2.2.1)) (C := RX5) (T := TX5) (N := 28) hx hb hts (inT inX5) hown hK hP 42 ww_42 rfl 3 (by decide) (hts (.fieldLink RX5 85 "BoardMovesModel" "parts" "I") (List.mem_cons_of_mem _ flX5_85)) (fun _ h9 => h9) rfl dX5_part_69 ?_
                refine lv_lload_n hx hb dX5_part_72 rfl (lv_at hl 2 rfl) ?_
                refine bm_last (f := ma.2.1) hx hb hK hP hD hS 44 0 ww_44 rfl (j := ms.2.2.1) (x := zB) (by omega) (by decide) dX5_part_73 (fun H locs hP hD hS => ?_)
                have hP : va_P D vwCl (WW ad cJ cI cZ bm pa p0 p1 p2 li wi (0) ms (va_up ma.1 ms.2.2.1 zA, va_up ma.2.1 ms.2.2.1 zB, ma.2.2.1, ma.2.2.2.1, ma.2.2.2.2.1, ma.2.2.2.2.2.1, ma.2.2.2.2.2.2) mp mk mn ou) H := hP
                have hD : va_D A (WW ad cJ cI cZ bm pa p0 p1 p2 li wi (0) ms (va_up ma.1 ms.2.2.1 zA, va_up ma.2.1 ms.2.2.1 zB, ma.2.2.1, ma.2.2.2.1, ma.2.2.2.2.1, ma.2.2.2.2.2.1, ma.2.2.2.2.2.2) mp mk mn ou) := hD
                refine lv_aload_n hx hb dX5_part_74 rfl (lv_at hl 0 rfl) ?_
                refine va_get (D := D) (ci := 5) (v := .ref (ad 45)) (C := RX5) (T := TX5) (N := 28) hx hb hts (inT inX5) hown hK hP 42 ww_42 rfl 6 (by decide) (hts (.fieldLink RX5 16 "BoardMovesModel" "sides" "[I") (List.mem_cons_of_mem _ flX5_16)) (fun _ h9 => h9) rfl dX5_part_75 ?_
                refine lv_aload_n hx hb dX5_part_78 rfl (lv_at hl 0 rfl) ?_
                refine va_get (D := D) (ci := 5) (v := .int (nI ms.2.2.1)) (C := RX5) (T := TX5) (N := 28) hx hb hts (inT inX5) hown hK hP 42 ww_42 rfl 3 (by decide) (hts (.fieldLink RX5 85 "BoardMovesModel" "parts" "I") (List.mem_cons_of_mem _ flX5_85)) (fun _ h9 => h9) rfl dX5_part_79 ?_
                refine lv_iload hx hb dX5_part_82 (lv_at hl 3 rfl) ?_
                refine bm_nast (f := ma.2.2.1) hx hb hK hP hD hS 45 1 ww_45 rfl (j := ms.2.2.1) (x := k_zC) (by omega) (by decide) dX5_part_84 (fun H locs hP hD hS => ?_)
                have hP : va_P D vwCl (WW ad cJ cI cZ bm pa p0 p1 p2 li wi (0) ms (va_up ma.1 ms.2.2.1 zA, va_up ma.2.1 ms.2.2.1 zB, va_up ma.2.2.1 ms.2.2.1 k_zC, ma.2.2.2.1, ma.2.2.2.2.1, ma.2.2.2.2.2.1, ma.2.2.2.2.2.2) mp mk mn ou) H := hP
                have hD : va_D A (WW ad cJ cI cZ bm pa p0 p1 p2 li wi (0) ms (va_up ma.1 ms.2.2.1 zA, va_up ma.2.1 ms.2.2.1 zB, va_up ma.2.2.1 ms.2.2.1 k_zC, ma.2.2.2.1, ma.2.2.2.2.1, ma.2.2.2.2.2.1, ma.2.2.2.2.2.2) mp mk mn ou) := hD
                refine lv_aload_n hx hb dX5_part_85 rfl (lv_at hl 0 rfl) ?_
                refine va_get (D := D) (ci := 5) (v := .ref (ad 48)) (C := RX5) (T := TX5) (N := 28) hx hb hts (inT inX5) hown hK hP 42 ww_42 rfl 9 (by decide) (hts (.fieldLink RX5 27 "BoardMovesModel" "groups" "[I") (List.mem_cons_of_mem _ flX5_27)) (fun _ h9 => h9) rfl dX5_part_86 ?_
                refine lv_aload_n hx hb dX5_part_89 rfl (lv_at hl 0 rfl) ?_
                refine va_get (D := D) (ci := 5) (v := .int (nI ms.2.2.1)) (C := RX5) (T := TX5) (N := 28) hx hb hts (inT inX5) hown hK hP 42 ww_42 rfl 3 (by decide) (hts (.fieldLink RX5 85 "BoardMovesModel" "parts" "I") (List.mem_cons_of_mem _ flX5_85)) (fun _ h9 => h9) rfl dX5_part_90 ?_
                refine lv_aload_n hx hb dX5_part_93 rfl (lv_at hl 0 rfl) ?_
                refine va_get (D := D) (ci := 5) (v := .int (nI ms.2.2.1)) (C := RX5) (T := TX5) (N := 28) hx hb hts (inT inX5) hown hK hP 42 ww_42 rfl 3 (by decide) (hts (.fieldLink RX5 85 "BoardMovesModel" "parts" "I") (List.mem_cons_of_mem _ flX5_85)) (fun _ h9 => h9) rfl dX5_part_94 ?_
                refine bm_nast (f := ma.2.2.2.2.2.1) hx hb hK hP hD hS 48 1 ww_48 rfl (j := ms.2.2.1) (x := ms.2.2.1) (by omega) (by decide) dX5_part_97 (fun H locs hP hD hS => ?_)
                have hP : va_P D vwCl (WW ad cJ cI cZ bm pa p0 p1 p2 li wi (0) ms (va_up ma.1 ms.2.2.1 zA, va_up ma.2.1 ms.2.2.1 zB, va_up ma.2.2.1 ms.2.2.1 k_zC, ma.2.2.2.1, ma.2.2.2.2.1, va_up ma.2.2.2.2.2.1 ms.2.2.1 ms.2.2.1, ma.2.2.2.2.2.2) mp mk mn ou) H := hP
                have hD : va_D A (WW ad cJ cI cZ bm pa p0 p1 p2 li wi (0) ms (va_up ma.1 ms.2.2.1 zA, va_up ma.2.1 ms.2.2.1 zB, va_up ma.2.2.1 ms.2.2.1 k_zC, ma.2.2.2.1, ma.2.2.2.2.1, va_up ma.2.2.2.2.2.1 ms.2.2.1 ms.2.2.1, ma.2.2.2.2.2.2) mp mk mn ou) := hD
                refine lv_aload_n hx hb dX5_part_98 rfl (lv_at hl 0 rfl) ?_
                refine lv_dup hx hb dX5_part_99 rfl ?_
                refine va_get (D := D) (ci := 5) (v := .int (nI ms.2.2.1)) (C := RX5) (T := TX5) (N := 28) hx hb hts (inT inX5) hown hK hP 42 ww_42 rfl 3 (by decide) (hts (.fieldLink RX5 85 "BoardMovesModel" "parts" "I") (List.mem_cons_of_mem _ flX5_85)) (fun _ h9 => h9) rfl dX5_part_100 ?_
                refine lv_iconst (v := nI 1) hx hb dX5_part_103 (by decide) ?_
                refine bm_nadd hx hb dX5_part_104 ?_
                refine va_put (D := D) (ci := 5) (v := .int (nI (ms.2.2.1 + 1))) (ty := .int) (C := RX5) (T := TX5) (N := 28) hx hb hts (inT inX5) tyX5 tyX5_ok nmX5 hown hK hP hD hS 42 ww_42 rfl 3 (by decide) (hts (.fieldLink RX5 85 "BoardMovesModel" "parts" "I") (List.mem_cons_of_mem _ flX5_85)) (fun _ h9 => h9) rfl (by decide +kernel) rfl rfl (Nat.le_of_ble_eq_true rfl) dX5_part_105 (fun H locs hP hD hS => ?_)
                have hP : va_P D vwCl (WW ad cJ cI cZ bm pa p0 p1 p2 li wi (0) (ms.1, ms.2.1, ms.2.2.1 + 1, ms.2.2.2.1, ms.2.2.2.2.1, ms.2.2.2.2.2.1, ms.2.2.2.2.2.2.1, ms.2.2.2.2.2.2.2) (va_up ma.1 ms.2.2.1 zA, va_up ma.2.1 ms.2.2.1 zB, va_up ma.2.2.1 ms.2.2.1 k_zC, ma.2.2.2.1, ma.2.2.2.2.1, va_up ma.2.2.2.2.2.1 ms.2.2.1 ms.2.2.1, ma.2.2.2.2.2.2) mp mk mn ou) H := hP
                have hD : va_D A (WW ad cJ cI cZ bm pa p0 p1 p2 li wi (0) (ms.1, ms.2.1, ms.2.2.1 + 1, ms.2.2.2.1, ms.2.2.2.2.1, ms.2.2.2.2.2.1, ms.2.2.2.2.2.2.1, ms.2.2.2.2.2.2.2) (va_up ma.1 ms.2.2.1 zA, va_up ma.2.1 ms.2.2.1 zB, va_up ma.2.2.1 ms.2.2.1 k_zC, ma.2.2.2.1, ma.2.2.2.2.1, va_up ma.2.2.2.2.2.1 ms.2.2.1 ms.2.2.1, ma.2.2.2.2.2.2) mp mk mn ou) := hD
                refine lv_aload_n hx hb dX5_part_108 rfl (lv_at hl 0 rfl) ?_
                refine va_get (D := D) (ci := 5) (v := .int (nI (ms.2.2.1 + 1))) (C := RX5) (T := TX5) (N := 28) hx hb hts (inT inX5) hown hK hP 42 ww_42 rfl 3 (by decide) (hts (.fieldLink RX5 85 "BoardMovesModel" "parts" "I") (List.mem_cons_of_mem _ flX5_85)) (fun _ h9 => h9) rfl dX5_part_109 ?_
                refine lv_iconst (v := nI 1) hx hb dX5_part_112 (by decide) ?_
                refine bm_nsub hx hb (by omega) dX5_part_113 ?_
                exact bm_iretX (v := (nI ((ms.2.2.1 + 1) - 1))) hx hb hr hP hD hK hS ⟨(0), (ms.1, ms.2.1, ms.2.2.1 + 1, ms.2.2.2.1, ms.2.2.2.2.1, ms.2.2.2.2.2.1, ms.2.2.2.2.2.2.1, ms.2.2.2.2.2.2.2), (va_up ma.1 ms.2.2.1 zA, va_up ma.2.1 ms.2.2.1 zB, va_up ma.2.2.1 ms.2.2.1 k_zC, ma.2.2.2.1, ma.2.2.2.2.1, va_up ma.2.2.2.2.2.1 ms.2.2.1 ms.2.2.1, ma.2.2.2.2.2.2), mp, mk, mn, ⟨(show ms.2.2.1 + 1 ≤ 40 by omega), ok_ms_outs, ok_ms_nears, ok_ms_nets, ok_ms_pins, (bx_uplt ok_ma_sides (by omega)), (bx_uplt ok_ma_groups (by omega)), ok_mp_turns, ok_mk_nearOne, ok_mk_nearTwo, ok_mn_pinNet, ok_mn_pinPart, hw, hh⟩, rfl, rfl, (nI ((ms.2.2.1 + 1) - 1)), rfl⟩ dX5_part_114 hlocks
              · refine lv_iconst (v := -1) hx hb dX5_part_52 (by decide) ?_
                exact bm_iretX (v := (-1)) hx hb hr hP hD hK hS ⟨(0), ms, ma, mp, mk, mn, ⟨ok_ms_parts, ok_ms_outs, ok_ms_nears, ok_ms_nets, ok_ms_pins, ok_ma_sides, ok_ma_groups, ok_mp_turns, ok_mk_nearOne, ok_mk_nearTwo, ok_mn_pinNet, ok_mn_pinPart, hw, hh⟩, rfl, rfl, (-1), rfl⟩ dX5_part_53 hlocks
            · exact absurd c_18 (by decide)
  · have hl := lv_entry ([.ref (ad 42), .long zA, .long zB, .int zC]) (n := 6) (Nat.le_of_ble_eq_true rfl)
    refine W.eq (g2 := entryFrame m ([.ref (ad 42), .long zA, .long zB, .int zC] : List Value).toArray 6) (by rw [ha]) ?_
    rw [lg_entry_eq]
    generalize (lg_sl ([.ref (ad 42), .long zA, .long zB, .int zC]) ++ List.replicate (6 - (lg_sl ([.ref (ad 42), .long zA, .long zB, .int zC])).length) Slot.unset).toArray = ls at hl ⊢
    have hl : lv_has ls 6 [(0, .ref (ad 42)), (1, .long zA), (3, .long zB), (5, .int zC)] := hl
    refine lv_aload_n hx hb dX5_part_0 rfl (lv_at hl 0 rfl) ?_
    refine lv_lload_n hx hb dX5_part_1 rfl (lv_at hl 1 rfl) ?_
    refine bm_xcallS (As := [.long zA]) (rest := [.ref (ad 42)]) ⟨hx, hb, hml, hown, hts⟩ (y_isSize  (z1 := zA)  ) (cwS 1 hts gsX5_88 rfl rfl rfl hsX5_isSize ⟨Nat.le_of_ble_eq_true rfl, Nat.le_of_ble_eq_true rfl⟩) hK hP hD hS hA rfl hl.1 rfl (Nat.le_of_ble_eq_true rfl) dX5_part_2 ⟨Nat.le_of_ble_eq_true rfl, Nat.le_of_ble_eq_true rfl⟩ (fun ws_20 r_21 h_22 H locs hP hD hS => ?_)
    obtain ⟨rfl, v_23, rfl⟩ := h_22
    have hP : va_P D vwCl (WW ad cJ cI cZ bm pa p0 p1 p2 li wi mt ms ma mp mk mn ou) H := hP
    have hD : va_D A (WW ad cJ cI cZ bm pa p0 p1 p2 li wi mt ms ma mp mk mn ou) := hD
    refine bm_zb_eq (x := v_23) (tgt := 30) hx hb dX5_part_5 (by decide) (fun c_24 => ?_) (fun c_24 => ?_)
    · refine lv_iconst (v := nI 1) hx hb dX5_part_30 (by decide) ?_
      refine va_put (D := D) (ci := 5) (v := .int (nI 1)) (ty := .int) (C := RX5) (T := TX5) (N := 28) hx hb hts (inT inX5) tyX5 tyX5_ok nmX5 hown hK hP hD hS 42 ww_42 rfl 0 (by decide) (hts (.fieldLink RX5 81 "BoardMovesModel" "thrown" "I") (List.mem_cons_of_mem _ flX5_81)) (fun _ h9 => h9) rfl (by decide +kernel) rfl rfl (Nat.le_of_ble_eq_true rfl) dX5_part_31 (fun H locs hP hD hS => ?_)
      have hP : va_P D vwCl (WW ad cJ cI cZ bm pa p0 p1 p2 li wi (1) ms ma mp mk mn ou) H := hP
      have hD : va_D A (WW ad cJ cI cZ bm pa p0 p1 p2 li wi (1) ms ma mp mk mn ou) := hD
      refine lv_aload_n hx hb dX5_part_34 rfl (lv_at hl 0 rfl) ?_
      refine va_get (D := D) (ci := 5) (v := .int (nI 1)) (C := RX5) (T := TX5) (N := 28) hx hb hts (inT inX5) hown hK hP 42 ww_42 rfl 0 (by decide) (hts (.fieldLink RX5 81 "BoardMovesModel" "thrown" "I") (List.mem_cons_of_mem _ flX5_81)) (fun _ h9 => h9) rfl dX5_part_35 ?_
      refine bm_nz_eq (x := 1) (tgt := 43) hx hb (by decide) dX5_part_38 (by decide) (fun c_25 => ?_) (fun c_25 => ?_)
      · exact absurd c_25 (by decide)
      · refine lv_iconst (v := nI 0) hx hb dX5_part_41 (by decide) ?_
        exact bm_iretX (v := (nI 0)) hx hb hr hP hD hK hS ⟨(1), ms, ma, mp, mk, mn, ⟨ok_ms_parts, ok_ms_outs, ok_ms_nears, ok_ms_nets, ok_ms_pins, ok_ma_sides, ok_ma_groups, ok_mp_turns, ok_mk_nearOne, ok_mk_nearTwo, ok_mn_pinNet, ok_mn_pinPart, hw, hh⟩, rfl, rfl, (nI 0), rfl⟩ dX5_part_42 hlocks
    · refine lv_lload_n hx hb dX5_part_8 rfl (lv_at hl 2 rfl) ?_
      refine bm_xcallS (As := [.long zB]) (rest := [.ref (ad 42)]) ⟨hx, hb, hml, hown, hts⟩ (y_isSize  (z1 := zB)  ) (cwS 1 hts gsX5_88 rfl rfl rfl hsX5_isSize ⟨Nat.le_of_ble_eq_true rfl, Nat.le_of_ble_eq_true rfl⟩) hK hP hD hS hA rfl hl.1 rfl (Nat.le_of_ble_eq_true rfl) dX5_part_9 ⟨Nat.le_of_ble_eq_true rfl, Nat.le_of_ble_eq_true rfl⟩ (fun ws_26 r_27 h_28 H locs hP hD hS => ?_)
      obtain ⟨rfl, v_29, rfl⟩ := h_28
      have hP : va_P D vwCl (WW ad cJ cI cZ bm pa p0 p1 p2 li wi mt ms ma mp mk mn ou) H := hP
      have hD : va_D A (WW ad cJ cI cZ bm pa p0 p1 p2 li wi mt ms ma mp mk mn ou) := hD
      refine bm_zb_eq (x := v_29) (tgt := 30) hx hb dX5_part_12 (by decide) (fun c_30 => ?_) (fun c_30 => ?_)
      · refine lv_iconst (v := nI 1) hx hb dX5_part_30 (by decide) ?_
        refine va_put (D := D) (ci := 5) (v := .int (nI 1)) (ty := .int) (C := RX5) (T := TX5) (N := 28) hx hb hts (inT inX5) tyX5 tyX5_ok nmX5 hown hK hP hD hS 42 ww_42 rfl 0 (by decide) (hts (.fieldLink RX5 81 "BoardMovesModel" "thrown" "I") (List.mem_cons_of_mem _ flX5_81)) (fun _ h9 => h9) rfl (by decide +kernel) rfl rfl (Nat.le_of_ble_eq_true rfl) dX5_part_31 (fun H locs hP hD hS => ?_)
        have hP : va_P D vwCl (WW ad cJ cI cZ bm pa p0 p1 p2 li wi (1) ms ma mp mk mn ou) H := hP
        have hD : va_D A (WW ad cJ cI cZ bm pa p0 p1 p2 li wi (1) ms ma mp mk mn ou) := hD
        refine lv_aload_n hx hb dX5_part_34 rfl (lv_at hl 0 rfl) ?_
        refine va_get (D := D) (ci := 5) (v := .int (nI 1)) (C := RX5) (T := TX5) (N := 28) hx hb hts (inT inX5) hown hK hP 42 ww_42 rfl 0 (by decide) (hts (.fieldLink RX5 81 "BoardMovesModel" "thrown" "I") (List.mem_cons_of_mem _ flX5_81)) (fun _ h9 => h9) rfl dX5_part_35 ?_
        refine bm_nz_eq (x := 1) (tgt := 43) hx hb (by decide) dX5_part_38 (by decide) (fun c_31 => ?_) (fun c_31 => ?_)
        · exact absurd c_31 (by decide)
        · refine lv_iconst (v := nI 0) hx hb dX5_part_41 (by decide) ?_
          exact bm_iretX (v := (nI 0)) hx hb hr hP hD hK hS ⟨(1), ms, ma, mp, mk, mn, ⟨ok_ms_parts, ok_ms_outs, ok_ms_nears, ok_ms_nets, ok_ms_pins, ok_ma_sides, ok_ma_groups, ok_mp_turns, ok_mk_nearOne, ok_mk_nearTwo, ok_mn_pinNet, ok_mn_pinPart, hw, hh⟩, rfl, rfl, (nI 0), rfl⟩ dX5_part_42 hlocks
      · refine lv_iload hx hb dX5_part_15 (lv_at hl 3 rfl) ?_
        refine lv_if_eq (x := zC) (tgt := 26) hx hb dX5_part_17 (by decide) (fun c_32 => ?_) (fun c_32 => ?_)
        · exact absurd (by rw [c_32]; decide) hno_zC
        · refine lv_iload hx hb dX5_part_20 (lv_at hl 3 rfl) ?_
          refine lv_iconst (v := nI 1) hx hb dX5_part_22 (by decide) ?_
          refine lv_icmp_ne (x := zC) (y := (nI 1)) (tgt := 30) hx hb dX5_part_23 (by decide) (fun c_33 => ?_) (fun c_33 => ?_)
          · refine lv_iconst (v := nI 1) hx hb dX5_part_30 (by decide) ?_
            refine va_put (D := D) (ci := 5) (v := .int (nI 1)) (ty := .int) (C := RX5) (T := TX5) (N := 28) hx hb hts (inT inX5) tyX5 tyX5_ok nmX5 hown hK hP hD hS 42 ww_42 rfl 0 (by decide) (hts (.fieldLink RX5 81 "BoardMovesModel" "thrown" "I") (List.mem_cons_of_mem _ flX5_81)) (fun _ h9 => h9) rfl (by decide +kernel) rfl rfl (Nat.le_of_ble_eq_true rfl) dX5_part_31 (fun H locs hP hD hS => ?_)
            have hP : va_P D vwCl (WW ad cJ cI cZ bm pa p0 p1 p2 li wi (1) ms ma mp mk mn ou) H := hP
            have hD : va_D A (WW ad cJ cI cZ bm pa p0 p1 p2 li wi (1) ms ma mp mk mn ou) := hD
            refine lv_aload_n hx hb dX5_part_34 rfl (lv_at hl 0 rfl) ?_
            refine va_get (D := D) (ci := 5) (v := .int (nI 1)) (C := RX5) (T := TX5) (N := 28) hx hb hts (inT inX5) hown hK hP 42 ww_42 rfl 0 (by decide) (hts (.fieldLink RX5 81 "BoardMovesModel" "thrown" "I") (List.mem_cons_of_mem _ flX5_81)) (fun _ h9 => h9) rfl dX5_part_35 ?_
            refine bm_nz_eq (x := 1) (tgt := 43) hx hb (by decide) dX5_part_38 (by decide) (fun c_34 => ?_) (fun c_34 => ?_)
            · exact absurd c_34 (by decide)
            · refine lv_iconst (v := nI 0) hx hb dX5_part_41 (by decide) ?_
              exact bm_iretX (v := (nI 0)) hx hb hr hP hD hK hS ⟨(1), ms, ma, mp, mk, mn, ⟨ok_ms_parts, ok_ms_outs, ok_ms_nears, ok_ms_nets, ok_ms_pins, ok_ma_sides, ok_ma_groups, ok_mp_turns, ok_mk_nearOne, ok_mk_nearTwo, ok_mn_pinNet, ok_mn_pinPart, hw, hh⟩, rfl, rfl, (nI 0), rfl⟩ dX5_part_42 hlocks
          · exact absurd (by rw [c_33]; decide) hno_zC

set_option maxHeartbeats 16000000 in
set_option maxRecDepth 100000 in
theorem Y_at {l : Launch} {D : va_G} {ad : Nat → Nat} {cJ cI cZ : ClassId} {bm : gBM} {pa : gPA} {p0 p1 p2 : gPL} {li : gLI} {wi : gWI} {mt : Nat} {ms : gMS} {ma : gMA} {mp : gMP} {mk : gMK} {mn : gMN} {ou : Nat → Int64} {zA : Int32} {zB : Int32} (hok : okM ms ma mp mk mn)  : bm_Wx l yX5_at wsX5_at ({ frames := 1, cells := 0, slots := 0, locals := 22 }) D vwCl [(cJ, .long), (cI, .int), (cZ, .boolean)] (WW ad cJ cI cZ bm pa p0 p1 p2 li wi mt ms ma mp mk mn ou) [.ref (ad 42), .int zA, .int zB] (PMJ ad cJ cI cZ bm pa p0 p1 p2 li wi mt ms ma mp mk mn ou) := by
  obtain ⟨ok_ms_parts, ok_ms_outs, ok_ms_nears, ok_ms_nets, ok_ms_pins, ok_ma_sides, ok_ma_groups, ok_mp_turns, ok_mk_nearOne, ok_mk_nearTwo, ok_mn_pinNet, ok_mn_pinPart, hw, hh⟩ := hok
  intro sz
  refine Met.ofW (cc := cX5_at) (maxL := 3) (ret := (some .long)) (by decide) rfl ?_
  intro p e s m args below meth c s₁ B hml hv
  obtain ⟨ha, hsz, hP, hK, hD0⟩ := hv
  have hx := B.exec
  have hb := B.bytes
  have hr := B.returns
  have hts := atoms_spec (ws := wsX5_at) B.pre
  have hown : s.vm.findClass RX5 = some m.cls := findClass_of_methodNamed B.named
  have hlocks := B.notSynchronized
  subst hsz
  have hD := hD0.self (sz := s.heap.size)
  generalize hAe : va_A (WW ad cJ cI cZ bm pa p0 p1 p2 li wi mt ms ma mp mk mn ou) s.heap.size = A at hD ⊢
  have hA : ∀ q : Nat, s.heap.size ≤ q → A q := fun q h => by rw [← hAe]; exact Or.inr h
  have hS : va_S A s.heap s.heap [] := va_S.rf
  rcases bx_idx zA (n := ms.2.2.1) (by omega) with ⟨k_zA, hk_zA, rfl⟩ | hno_zA
  · rcases bx_idx zB (n := 7) (by omega) with ⟨k_zB, hk_zB, rfl⟩ | hno_zB
    · have hl := lv_entry ([.ref (ad 42), .int (nI k_zA), .int (nI k_zB)]) (n := 3) (Nat.le_of_ble_eq_true rfl)
      refine W.eq (g2 := entryFrame m ([.ref (ad 42), .int (nI k_zA), .int (nI k_zB)] : List Value).toArray 3) (by rw [ha]) ?_
      rw [lg_entry_eq]
      generalize (lg_sl ([.ref (ad 42), .int (nI k_zA), .int (nI k_zB)]) ++ List.replicate (3 - (lg_sl ([.ref (ad 42), .int (nI k_zA), .int (nI k_zB)])).length) Slot.unset).toArray = ls at hl ⊢
      have hl : lv_has ls 3 [(0, .ref (ad 42)), (1, .int (nI k_zA)), (2, .int (nI k_zB))] := hl
      refine lv_aload_n hx hb dX5_at_0 rfl (lv_at hl 0 rfl) ?_
      refine lv_aload_n hx hb dX5_at_1 rfl (lv_at hl 0 rfl) ?_
      refine lv_iload_n hx hb dX5_at_2 rfl (lv_at hl 1 rfl) ?_
      refine bm_rcallV (As := [.int (nI k_zA)]) (rest := [.ref (ad 42)]) ⟨hx, hb, hml, hown, hts⟩ (Y_isPartY  (zp := k_zA) ok_ms_parts (by omega)) (cwV 1 hts gvX5_139 rfl rfl rfl hvX5_isPart ⟨Nat.le_of_ble_eq_true rfl, Nat.le_of_ble_eq_true rfl⟩) hK hP 42 5 rfl ww_42 rfl hl.1 rfl (Nat.le_of_ble_eq_true rfl) dX5_at_3 ⟨Nat.le_of_ble_eq_true rfl, Nat.le_of_ble_eq_true rfl⟩ ?_
      refine bm_zb_eq (x := true) (tgt := 23) hx hb dX5_at_6 (by decide) (fun c_1 => ?_) (fun c_1 => ?_)
      · exact absurd c_1 (by decide)
      · refine lv_iload_n hx hb dX5_at_9 rfl (lv_at hl 2 rfl) ?_
        refine lv_if_lt (x := (nI k_zB)) (tgt := 23) hx hb dX5_at_10 (by decide) (fun c_2 => ?_) (fun c_2 => ?_)
        · refine lv_iconst (v := nI 1) hx hb dX5_at_23 (by decide) ?_
          refine va_put (D := D) (ci := 5) (v := .int (nI 1)) (ty := .int) (C := RX5) (T := TX5) (N := 28) hx hb hts (inT inX5) tyX5 tyX5_ok nmX5 hown hK hP hD hS 42 ww_42 rfl 0 (by decide) (hts (.fieldLink RX5 81 "BoardMovesModel" "thrown" "I") (List.mem_cons_of_mem _ flX5_81)) (fun _ h9 => h9) rfl (by decide +kernel) rfl rfl (Nat.le_of_ble_eq_true rfl) dX5_at_24 (fun H locs hP hD hS => ?_)
          have hP : va_P D vwCl (WW ad cJ cI cZ bm pa p0 p1 p2 li wi (1) ms ma mp mk mn ou) H := hP
          have hD : va_D A (WW ad cJ cI cZ bm pa p0 p1 p2 li wi (1) ms ma mp mk mn ou) := hD
          refine lv_aload_n hx hb dX5_at_27 rfl (lv_at hl 0 rfl) ?_
          refine va_get (D := D) (ci := 5) (v := .int (nI 1)) (C := RX5) (T := TX5) (N := 28) hx hb hts (inT inX5) hown hK hP 42 ww_42 rfl 0 (by decide) (hts (.fieldLink RX5 81 "BoardMovesModel" "thrown" "I") (List.mem_cons_of_mem _ flX5_81)) (fun _ h9 => h9) rfl dX5_at_28 ?_
          refine bm_nz_eq (x := 1) (tgt := 36) hx hb (by decide) dX5_at_31 (by decide) (fun c_3 => ?_) (fun c_3 => ?_)
          · exact absurd c_3 (by decide)
          · refine lv_lconst (v := 0) hx hb dX5_at_34 (by decide) ?_
            exact bm_lretX (v := 0) hx hb hr hP hD hK hS ⟨(1), ms, ma, mp, mk, mn, ⟨ok_ms_parts, ok_ms_outs, ok_ms_nears, ok_ms_nets, ok_ms_pins, ok_ma_sides, ok_ma_groups, ok_mp_turns, ok_mk_nearOne, ok_mk_nearTwo, ok_mn_pinNet, ok_mn_pinPart, hw, hh⟩, rfl, rfl, 0, rfl⟩ dX5_at_35 hlocks
        · refine lv_iload_n hx hb dX5_at_13 rfl (lv_at hl 2 rfl) ?_
          refine lv_bipush (v := nI 7) hx hb dX5_at_14 (by decide) ?_
          refine bm_ni_ge (x := k_zB) (y := 7) (tgt := 23) hx hb (by omega) (by omega) dX5_at_16 (by decide) (fun c_4 => ?_) (fun c_4 => ?_)
          · refine lv_iconst (v := nI 1) hx hb dX5_at_23 (by decide) ?_
            refine va_put (D := D) (ci := 5) (v := .int (nI 1)) (ty := .int) (C := RX5) (T := TX5) (N := 28) hx hb hts (inT inX5) tyX5 tyX5_ok nmX5 hown hK hP hD hS 42 ww_42 rfl 0 (by decide) (hts (.fieldLink RX5 81 "BoardMovesModel" "thrown" "I") (List.mem_cons_of_mem _ flX5_81)) (fun _ h9 => h9) rfl (by decide +kernel) rfl rfl (Nat.le_of_ble_eq_true rfl) dX5_at_24 (fun H locs hP hD hS => ?_)
            have hP : va_P D vwCl (WW ad cJ cI cZ bm pa p0 p1 p2 li wi (1) ms ma mp mk mn ou) H := hP
            have hD : va_D A (WW ad cJ cI cZ bm pa p0 p1 p2 li wi (1) ms ma mp mk mn ou) := hD
            refine lv_aload_n hx hb dX5_at_27 rfl (lv_at hl 0 rfl) ?_
            refine va_get (D := D) (ci := 5) (v := .int (nI 1)) (C := RX5) (T := TX5) (N := 28) hx hb hts (inT inX5) hown hK hP 42 ww_42 rfl 0 (by decide) (hts (.fieldLink RX5 81 "BoardMovesModel" "thrown" "I") (List.mem_cons_of_mem _ flX5_81)) (fun _ h9 => h9) rfl dX5_at_28 ?_
            refine bm_nz_eq (x := 1) (tgt := 36) hx hb (by decide) dX5_at_31 (by decide) (fun c_5 => ?_) (fun c_5 => ?_)
            · exact absurd c_5 (by decide)
            · refine lv_lconst (v := 0) hx hb dX5_at_34 (by decide) ?_
              exact bm_lretX (v := 0) hx hb hr hP hD hK hS ⟨(1), ms, ma, mp, mk, mn, ⟨ok_ms_parts, ok_ms_outs, ok_ms_nears, ok_ms_nets, ok_ms_pins, ok_ma_sides, ok_ma_groups, ok_mp_turns, ok_mk_nearOne, ok_mk_nearTwo, ok_mn_pinNet, ok_mn_pinPart, hw, hh⟩, rfl, rfl, 0, rfl⟩ dX5_at_35 hlocks
          · refine lv_iconst (v := nI 0) hx hb dX5_at_19 (by decide) ?_
            refine lv_goto (tgt := 24) hx hb dX5_at_20 (by decide) ?_
            refine va_put (D := D) (ci := 5) (v := .int (nI 0)) (ty := .int) (C := RX5) (T := TX5) (N := 28) hx hb hts (inT inX5) tyX5 tyX5_ok nmX5 hown hK hP hD hS 42 ww_42 rfl 0 (by decide) (hts (.fieldLink RX5 81 "BoardMovesModel" "thrown" "I") (List.mem_cons_of_mem _ flX5_81)) (fun _ h9 => h9) rfl (by decide +kernel) rfl rfl (Nat.le_of_ble_eq_true rfl) dX5_at_24 (fun H locs hP hD hS => ?_)
            have hP : va_P D vwCl (WW ad cJ cI cZ bm pa p0 p1 p2 li wi (0) ms ma mp mk mn ou) H := hP
            have hD : va_D A (WW ad cJ cI cZ bm pa p0 p1 p2 li wi (0) ms ma mp mk mn ou) := hD
            refine lv_aload_n hx hb dX5_at_27 rfl (lv_at hl 0 rfl) ?_
            refine va_get (D := D) (ci := 5) (v := .int (nI 0)) (C := RX5) (T := TX5) (N := 28) hx hb hts (inT inX5) hown hK hP 42 ww_42 rfl 0 (by decide) (hts (.fieldLink RX5 81 "BoardMovesModel" "thrown" "I") (List.mem_cons_of_mem _ flX5_81)) (fun _ h9 => h9) rfl dX5_at_28 ?_
            refine bm_nz_eq (x := 0) (tgt := 36) hx hb (by decide) dX5_at_31 (by decide) (fun c_6 => ?_) (fun c_6 => ?_)
            · refine lv_iload_n hx hb dX5_at_36 rfl (lv_at hl 2 rfl) ?_
              by_cases ht_7 : k_zB = 0
              · rw [ht_7]
                refine lv_tableIn (off := 39) (tgt := 76) hx hb dX5_at_37 (by decide) (by decide) (by decide) (by decide) ?_
                refine lv_aload_n hx hb dX5_at_76 rfl (lv_at hl 0 rfl) ?_
                refine va_get (D := D) (ci := 5) (v := .ref (ad 49)) (C := RX5) (T := TX5) (N := 28) hx hb hts (inT inX5) hown hK hP 42 ww_42 rfl 10 (by decide) (hts (.fieldLink RX5 30 "BoardMovesModel" "placed" "[Z") (List.mem_cons_of_mem _ flX5_30)) (fun _ h9 => h9) rfl dX5_at_77 ?_
                refine lv_iload_n hx hb dX5_at_80 rfl (lv_at hl 1 rfl) ?_
                refine bm_zald (f := ma.2.2.2.2.2.2) hx hb hK hP 49 2 ww_49 rfl (j := k_zA) (by omega) (by decide) dX5_at_81 ?_
                refine bm_zb_eq (x := (ma.2.2.2.2.2.2 k_zA)) (tgt := 94) hx hb dX5_at_82 (by decide) (fun c_13 => ?_) (fun c_13 => ?_)
                · refine lv_lconst (v := 0) hx hb dX5_at_94 (by decide) ?_
                  exact bm_lretX (v := 0) hx hb hr hP hD hK hS ⟨(0), ms, ma, mp, mk, mn, ⟨ok_ms_parts, ok_ms_outs, ok_ms_nears, ok_ms_nets, ok_ms_pins, ok_ma_sides, ok_ma_groups, ok_mp_turns, ok_mk_nearOne, ok_mk_nearTwo, ok_mn_pinNet, ok_mn_pinPart, hw, hh⟩, rfl, rfl, 0, rfl⟩ dX5_at_95 hlocks
                · refine lv_aload_n hx hb dX5_at_85 rfl (lv_at hl 0 rfl) ?_
                  refine lv_iconst (v := nI 0) hx hb dX5_at_86 (by decide) ?_
                  refine lv_iload_n hx hb dX5_at_87 rfl (lv_at hl 1 rfl) ?_
                  refine bm_xcallV (As := [.int (nI 0), .int (nI k_zA)]) (rest := []) ⟨hx, hb, hml, hown, hts⟩ (y_left (mt := (0)) (zr := 0) (zp := k_zA)  (by omega) (by omega)) (cwV 2 hts gvX5_92 rfl rfl rfl hvX5_left ⟨Nat.le_of_ble_eq_true rfl, Nat.le_of_ble_eq_true rfl⟩) hK hP hD hS hA 42 5 rfl ww_42 rfl hl.1 rfl (Nat.le_of_ble_eq_true rfl) dX5_at_88 ⟨Nat.le_of_ble_eq_true rfl, Nat.le_of_ble_eq_true rfl⟩ (fun ws_14 r_15 h_16 H locs hP hD hS => ?_)
                  obtain ⟨rfl, v_17, rfl⟩ := h_16
                  have hP : va_P D vwCl (WW ad cJ cI cZ bm pa p0 p1 p2 li wi (0) ms ma mp mk mn ou) H := hP
                  have hD : va_D A (WW ad cJ cI cZ bm pa p0 p1 p2 li wi (0) ms ma mp mk mn ou) := hD
                  refine lv_goto (tgt := 95) hx hb dX5_at_91 (by decide) ?_
                  exact bm_lretX (v := v_17) hx hb hr hP hD hK hS ⟨(0), ms, ma, mp, mk, mn, ⟨ok_ms_parts, ok_ms_outs, ok_ms_nears, ok_ms_nets, ok_ms_pins, ok_ma_sides, ok_ma_groups, ok_mp_turns, ok_mk_nearOne, ok_mk_nearTwo, ok_mn_pinNet, ok_mn_pinPart, hw, hh⟩, rfl, rfl, v_17, rfl⟩ dX5_at_95 hlocks
              · by_cases ht_8 : k_zB = 1
                · rw [ht_8]
                  refine lv_tableIn (off := 59) (tgt := 96) hx hb dX5_at_37 (by decide) (by decide) (by decide) (by decide) ?_
                  refine lv_aload_n hx hb dX5_at_96 rfl (lv_at hl 0 rfl) ?_
                  refine va_get (D := D) (ci := 5) (v := .ref (ad 49)) (C := RX5) (T := TX5) (N := 28) hx hb hts (inT inX5) hown hK hP 42 ww_42 rfl 10 (by decide) (hts (.fieldLink RX5 30 "BoardMovesModel" "placed" "[Z") (List.mem_cons_of_mem _ flX5_30)) (fun _ h9 => h9) rfl dX5_at_97 ?_
                  refine lv_iload_n hx hb dX5_at_100 rfl (lv_at hl 1 rfl) ?_
                  refine bm_zald (f := ma.2.2.2.2.2.2) hx hb hK hP 49 2 ww_49 rfl (j := k_zA) (by omega) (by decide) dX5_at_101 ?_
                  refine bm_zb_eq (x := (ma.2.2.2.2.2.2 k_zA)) (tgt := 114) hx hb dX5_at_102 (by decide) (fun c_18 => ?_) (fun c_18 => ?_)
                  · refine lv_lconst (v := 0) hx hb dX5_at_114 (by decide) ?_
                    exact bm_lretX (v := 0) hx hb hr hP hD hK hS ⟨(0), ms, ma, mp, mk, mn, ⟨ok_ms_parts, ok_ms_outs, ok_ms_nears, ok_ms_nets, ok_ms_pins, ok_ma_sides, ok_ma_groups, ok_mp_turns, ok_mk_nearOne, ok_mk_nearTwo, ok_mn_pinNet, ok_mn_pinPart, hw, hh⟩, rfl, rfl, 0, rfl⟩ dX5_at_115 hlocks
                  · refine lv_aload_n hx hb dX5_at_105 rfl (lv_at hl 0 rfl) ?_
                    refine lv_iconst (v := nI 0) hx hb dX5_at_106 (by decide) ?_
                    refine lv_iload_n hx hb dX5_at_107 rfl (lv_at hl 1 rfl) ?_
                    refine bm_xcallV (As := [.int (nI 0), .int (nI k_zA)]) (rest := []) ⟨hx, hb, hml, hown, hts⟩ (y_low (mt := (0)) (zr := 0) (zp := k_zA)  (by omega) (by omega)) (cwV 2 hts gvX5_100 rfl rfl rfl hvX5_low ⟨Nat.le_of_ble_eq_true rfl, Nat.le_of_ble_eq_true rfl⟩) hK hP hD hS hA 42 5 rfl ww_42 rfl hl.1 rfl (Nat.le_of_ble_eq_true rfl) dX5_at_108 ⟨Nat.le_of_ble_eq_true rfl, Nat.le_of_ble_eq_true rfl⟩ (fun ws_19 r_20 h_21 H locs hP hD hS => ?_)
                    obtain ⟨rfl, v_22, rfl⟩ := h_21
                    have hP : va_P D vwCl (WW ad cJ cI cZ bm pa p0 p1 p2 li wi (0) ms ma mp mk mn ou) H := hP
                    have hD : va_D A (WW ad cJ cI cZ bm pa p0 p1 p2 li wi (0) ms ma mp mk mn ou) := hD
                    refine lv_goto (tgt := 115) hx hb dX5_at_111 (by decide) ?_
                    exact bm_lretX (v := v_22) hx hb hr hP hD hK hS ⟨(0), ms, ma, mp, mk, mn, ⟨ok_ms_parts, ok_ms_outs, ok_ms_nears, ok_ms_nets, ok_ms_pins, ok_ma_sides, ok_ma_groups, ok_mp_turns, ok_mk_nearOne, ok_mk_nearTwo, ok_mn_pinNet, ok_mn_pinPart, hw, hh⟩, rfl, rfl, v_22, rfl⟩ dX5_at_115 hlocks
                · by_cases ht_9 : k_zB = 2
                  · rw [ht_9]
                    refine lv_tableIn (off := 79) (tgt := 116) hx hb dX5_at_37 (by decide) (by decide) (by decide) (by decide) ?_
                    refine lv_aload_n hx hb dX5_at_116 rfl (lv_at hl 0 rfl) ?_
                    refine va_get (D := D) (ci := 5) (v := .ref (ad 49)) (C := RX5) (T := TX5) (N := 28) hx hb hts (inT inX5) hown hK hP 42 ww_42 rfl 10 (by decide) (hts (.fieldLink RX5 30 "BoardMovesModel" "placed" "[Z") (List.mem_cons_of_mem _ flX5_30)) (fun _ h9 => h9) rfl dX5_at_117 ?_
                    refine lv_iload_n hx hb dX5_at_120 rfl (lv_at hl 1 rfl) ?_
                    refine bm_zald (f := ma.2.2.2.2.2.2) hx hb hK hP 49 2 ww_49 rfl (j := k_zA) (by omega) (by decide) dX5_at_121 ?_
                    refine bm_zb_eq (x := (ma.2.2.2.2.2.2 k_zA)) (tgt := 135) hx hb dX5_at_122 (by decide) (fun c_23 => ?_) (fun c_23 => ?_)
                    · refine lv_lconst (v := 0) hx hb dX5_at_135 (by decide) ?_
                      exact bm_lretX (v := 0) hx hb hr hP hD hK hS ⟨(0), ms, ma, mp, mk, mn, ⟨ok_ms_parts, ok_ms_outs, ok_ms_nears, ok_ms_nets, ok_ms_pins, ok_ma_sides, ok_ma_groups, ok_mp_turns, ok_mk_nearOne, ok_mk_nearTwo, ok_mn_pinNet, ok_mn_pinPart, hw, hh⟩, rfl, rfl, 0, rfl⟩ dX5_at_136 hlocks
                    · refine lv_aload_n hx hb dX5_at_125 rfl (lv_at hl 0 rfl) ?_
                      refine va_get (D := D) (ci := 5) (v := .ref (ad 52)) (C := RX5) (T := TX5) (N := 28) hx hb hts (inT inX5) hown hK hP 42 ww_42 rfl 13 (by decide) (hts (.fieldLink RX5 39 "BoardMovesModel" "turns" "[I") (List.mem_cons_of_mem _ flX5_39)) (fun _ h9 => h9) rfl dX5_at_126 ?_
                      refine lv_iload_n hx hb dX5_at_129 rfl (lv_at hl 1 rfl) ?_
                      refine bm_nald (f := mp.2.2) hx hb hK hP 52 1 ww_52 rfl (j := k_zA) (by omega) (by decide) dX5_at_130 ?_
                      refine bm_i2lN (x := mp.2.2 k_zA) hx hb (bm40 (ok_mp_turns _)) dX5_at_131 ?_
                      refine lv_goto (tgt := 136) hx hb dX5_at_132 (by decide) ?_
                      exact bm_lretX (v := (lN (mp.2.2 k_zA))) hx hb hr hP hD hK hS ⟨(0), ms, ma, mp, mk, mn, ⟨ok_ms_parts, ok_ms_outs, ok_ms_nears, ok_ms_nets, ok_ms_pins, ok_ma_sides, ok_ma_groups, ok_mp_turns, ok_mk_nearOne, ok_mk_nearTwo, ok_mn_pinNet, ok_mn_pinPart, hw, hh⟩, rfl, rfl, (lN (mp.2.2 k_zA)), rfl⟩ dX5_at_136 hlocks
                  · by_cases ht_10 : k_zB = 3
                    · rw [ht_10]
                      refine lv_tableIn (off := 100) (tgt := 137) hx hb dX5_at_37 (by decide) (by decide) (by decide) (by decide) ?_
                      refine lv_aload_n hx hb dX5_at_137 rfl (lv_at hl 0 rfl) ?_
                      refine va_get (D := D) (ci := 5) (v := .ref (ad 49)) (C := RX5) (T := TX5) (N := 28) hx hb hts (inT inX5) hown hK hP 42 ww_42 rfl 10 (by decide) (hts (.fieldLink RX5 30 "BoardMovesModel" "placed" "[Z") (List.mem_cons_of_mem _ flX5_30)) (fun _ h9 => h9) rfl dX5_at_138 ?_
                      refine lv_iload_n hx hb dX5_at_141 rfl (lv_at hl 1 rfl) ?_
                      refine bm_zald (f := ma.2.2.2.2.2.2) hx hb hK hP 49 2 ww_49 rfl (j := k_zA) (by omega) (by decide) dX5_at_142 ?_
                      refine bm_zb_eq (x := (ma.2.2.2.2.2.2 k_zA)) (tgt := 150) hx hb dX5_at_143 (by decide) (fun c_24 => ?_) (fun c_24 => ?_)
                      · refine lv_lconst (v := 0) hx hb dX5_at_150 (by decide) ?_
                        exact bm_lretX (v := 0) hx hb hr hP hD hK hS ⟨(0), ms, ma, mp, mk, mn, ⟨ok_ms_parts, ok_ms_outs, ok_ms_nears, ok_ms_nets, ok_ms_pins, ok_ma_sides, ok_ma_groups, ok_mp_turns, ok_mk_nearOne, ok_mk_nearTwo, ok_mn_pinNet, ok_mn_pinPart, hw, hh⟩, rfl, rfl, 0, rfl⟩ dX5_at_151 hlocks
                      · refine lv_lconst (v := 1) hx hb dX5_at_146 (by decide) ?_
                        refine lv_goto (tgt := 151) hx hb dX5_at_147 (by decide) ?_
                        exact bm_lretX (v := 1) hx hb hr hP hD hK hS ⟨(0), ms, ma, mp, mk, mn, ⟨ok_ms_parts, ok_ms_outs, ok_ms_nears, ok_ms_nets, ok_ms_pins, ok_ma_sides, ok_ma_groups, ok_mp_turns, ok_mk_nearOne, ok_mk_nearTwo, ok_mn_pinNet, ok_mn_pinPart, hw, hh⟩, rfl, rfl, 1, rfl⟩ dX5_at_151 hlocks
                    · by_cases ht_11 : k_zB = 4
                      · rw [ht_11]
                        refine lv_tableIn (off := 115) (tgt := 152) hx hb dX5_at_37 (by decide) (by decide) (by decide) (by decide) ?_
                        refine lv_aload_n hx hb dX5_at_152 rfl (lv_at hl 0 rfl) ?_
                        refine va_get (D := D) (ci := 5) (v := .ref (ad 47)) (C := RX5) (T := TX5) (N := 28) hx hb hts (inT inX5) hown hK hP 42 ww_42 rfl 8 (by decide) (hts (.fieldLink RX5 23 "BoardMovesModel" "locked" "[Z") (List.mem_cons_of_mem _ flX5_23)) (fun _ h9 => h9) rfl dX5_at_153 ?_
                        refine lv_iload_n hx hb dX5_at_156 rfl (lv_at hl 1 rfl) ?_
                        refine bm_zald (f := ma.2.2.2.2.1) hx hb hK hP 47 2 ww_47 rfl (j := k_zA) (by omega) (by decide) dX5_at_157 ?_
                        refine bm_zb_eq (x := (ma.2.2.2.2.1 k_zA)) (tgt := 165) hx hb dX5_at_158 (by decide) (fun c_25 => ?_) (fun c_25 => ?_)
                        · refine lv_lconst (v := 0) hx hb dX5_at_165 (by decide) ?_
                          exact bm_lretX (v := 0) hx hb hr hP hD hK hS ⟨(0), ms, ma, mp, mk, mn, ⟨ok_ms_parts, ok_ms_outs, ok_ms_nears, ok_ms_nets, ok_ms_pins, ok_ma_sides, ok_ma_groups, ok_mp_turns, ok_mk_nearOne, ok_mk_nearTwo, ok_mn_pinNet, ok_mn_pinPart, hw, hh⟩, rfl, rfl, 0, rfl⟩ dX5_at_166 hlocks
                        · refine lv_lconst (v := 1) hx hb dX5_at_161 (by decide) ?_
                          refine lv_goto (tgt := 166) hx hb dX5_at_162 (by decide) ?_
                          exact bm_lretX (v := 1) hx hb hr hP hD hK hS ⟨(0), ms, ma, mp, mk, mn, ⟨ok_ms_parts, ok_ms_outs, ok_ms_nears, ok_ms_nets, ok_ms_pins, ok_ma_sides, ok_ma_groups, ok_mp_turns, ok_mk_nearOne, ok_mk_nearTwo, ok_mn_pinNet, ok_mn_pinPart, hw, hh⟩, rfl, rfl, 1, rfl⟩ dX5_at_166 hlocks
                      · by_cases ht_12 : k_zB = 5
                        · rw [ht_12]
                          refine lv_tableIn (off := 130) (tgt := 167) hx hb dX5_at_37 (by decide) (by decide) (by decide) (by decide) ?_
                          refine lv_aload_n hx hb dX5_at_167 rfl (lv_at hl 0 rfl) ?_
                          refine va_get (D := D) (ci := 5) (v := .ref (ad 48)) (C := RX5) (T := TX5) (N := 28) hx hb hts (inT inX5) hown hK hP 42 ww_42 rfl 9 (by decide) (hts (.fieldLink RX5 27 "BoardMovesModel" "groups" "[I") (List.mem_cons_of_mem _ flX5_27)) (fun _ h9 => h9) rfl dX5_at_168 ?_
                          refine lv_iload_n hx hb dX5_at_171 rfl (lv_at hl 1 rfl) ?_
                          refine bm_nald (f := ma.2.2.2.2.2.1) hx hb hK hP 48 1 ww_48 rfl (j := k_zA) (by omega) (by decide) dX5_at_172 ?_
                          refine bm_i2lN (x := ma.2.2.2.2.2.1 k_zA) hx hb (bm40 (ok_ma_groups _)) dX5_at_173 ?_
                          exact bm_lretX (v := (lN (ma.2.2.2.2.2.1 k_zA))) hx hb hr hP hD hK hS ⟨(0), ms, ma, mp, mk, mn, ⟨ok_ms_parts, ok_ms_outs, ok_ms_nears, ok_ms_nets, ok_ms_pins, ok_ma_sides, ok_ma_groups, ok_mp_turns, ok_mk_nearOne, ok_mk_nearTwo, ok_mn_pinNet, ok_mn_pinPart, hw, hh⟩, rfl, rfl, (lN (ma.2.2.2.2.2.1 k_zA)), rfl⟩ dX5_at_174 hlocks
                        · refine lv_tableOut (tgt := 175) hx hb dX5_at_37 (by rw [nI_toInt (by omega)]; omega) (by decide) ?_
                          refine lv_aload_n hx hb dX5_at_175 rfl (lv_at hl 0 rfl) ?_
                          refine va_get (D := D) (ci := 5) (v := .ref (ad 46)) (C := RX5) (T := TX5) (N := 28) hx hb hts (inT inX5) hown hK hP 42 ww_42 rfl 7 (by decide) (hts (.fieldLink RX5 20 "BoardMovesModel" "heights" "[J") (List.mem_cons_of_mem _ flX5_20)) (fun _ h9 => h9) rfl dX5_at_176 ?_
                          refine lv_iload_n hx hb dX5_at_179 rfl (lv_at hl 1 rfl) ?_
                          refine bm_lald (f := ma.2.2.2.1) hx hb hK hP 46 0 ww_46 rfl (j := k_zA) (by omega) (by decide) dX5_at_180 ?_
                          refine lv_topl (fun t_26 _ => ?_)
                          exact bm_lretX (v := t_26) hx hb hr hP hD hK hS ⟨(0), ms, ma, mp, mk, mn, ⟨ok_ms_parts, ok_ms_outs, ok_ms_nears, ok_ms_nets, ok_ms_pins, ok_ma_sides, ok_ma_groups, ok_mp_turns, ok_mk_nearOne, ok_mk_nearTwo, ok_mn_pinNet, ok_mn_pinPart, hw, hh⟩, rfl, rfl, t_26, rfl⟩ dX5_at_181 hlocks
            · exact absurd c_6 (by decide)
    · have hl := lv_entry ([.ref (ad 42), .int (nI k_zA), .int zB]) (n := 3) (Nat.le_of_ble_eq_true rfl)
      refine W.eq (g2 := entryFrame m ([.ref (ad 42), .int (nI k_zA), .int zB] : List Value).toArray 3) (by rw [ha]) ?_
      rw [lg_entry_eq]
      generalize (lg_sl ([.ref (ad 42), .int (nI k_zA), .int zB]) ++ List.replicate (3 - (lg_sl ([.ref (ad 42), .int (nI k_zA), .int zB])).length) Slot.unset).toArray = ls at hl ⊢
      have hl : lv_has ls 3 [(0, .ref (ad 42)), (1, .int (nI k_zA)), (2, .int zB)] := hl
      refine lv_aload_n hx hb dX5_at_0 rfl (lv_at hl 0 rfl) ?_
      refine lv_aload_n hx hb dX5_at_1 rfl (lv_at hl 0 rfl) ?_
      refine lv_iload_n hx hb dX5_at_2 rfl (lv_at hl 1 rfl) ?_
      refine bm_rcallV (As := [.int (nI k_zA)]) (rest := [.ref (ad 42)]) ⟨hx, hb, hml, hown, hts⟩ (Y_isPartY  (zp := k_zA) ok_ms_parts (by omega)) (cwV 1 hts gvX5_139 rfl rfl rfl hvX5_isPart ⟨Nat.le_of_ble_eq_true rfl, Nat.le_of_ble_eq_true rfl⟩) hK hP 42 5 rfl ww_42 rfl hl.1 rfl (Nat.le_of_ble_eq_true rfl) dX5_at_3 ⟨Nat.le_of_ble_eq_true rfl, Nat.le_of_ble_eq_true rfl⟩ ?_
      refine bm_zb_eq (x := true) (tgt := 23) hx hb dX5_at_6 (by decide) (fun c_27 => ?_) (fun c_27 => ?_)
      · exact absurd c_27 (by decide)
      · refine lv_iload_n hx hb dX5_at_9 rfl (lv_at hl 2 rfl) ?_
        refine lv_if_lt (x := zB) (tgt := 23) hx hb dX5_at_10 (by decide) (fun c_28 => ?_) (fun c_28 => ?_)
        · refine lv_iconst (v := nI 1) hx hb dX5_at_23 (by decide) ?_
          refine va_put (D := D) (ci := 5) (v := .int (nI 1)) (ty := .int) (C := RX5) (T := TX5) (N := 28) hx hb hts (inT inX5) tyX5 tyX5_ok nmX5 hown hK hP hD hS 42 ww_42 rfl 0 (by decide) (hts (.fieldLink RX5 81 "BoardMovesModel" "thrown" "I") (List.mem_cons_of_mem _ flX5_81)) (fun _ h9 => h9) rfl (by decide +kernel) rfl rfl (Nat.le_of_ble_eq_true rfl) dX5_at_24 (fun H locs hP hD hS => ?_)
          have hP : va_P D vwCl (WW ad cJ cI cZ bm pa p0 p1 p2 li wi (1) ms ma mp mk mn ou) H := hP
          have hD : va_D A (WW ad cJ cI cZ bm pa p0 p1 p2 li wi (1) ms ma mp mk mn ou) := hD
          refine lv_aload_n hx hb dX5_at_27 rfl (lv_at hl 0 rfl) ?_
          refine va_get (D := D) (ci := 5) (v := .int (nI 1)) (C := RX5) (T := TX5) (N := 28) hx hb hts (inT inX5) hown hK hP 42 ww_42 rfl 0 (by decide) (hts (.fieldLink RX5 81 "BoardMovesModel" "thrown" "I") (List.mem_cons_of_mem _ flX5_81)) (fun _ h9 => h9) rfl dX5_at_28 ?_
          refine bm_nz_eq (x := 1) (tgt := 36) hx hb (by decide) dX5_at_31 (by decide) (fun c_29 => ?_) (fun c_29 => ?_)
          · exact absurd c_29 (by decide)
          · refine lv_lconst (v := 0) hx hb dX5_at_34 (by decide) ?_
            exact bm_lretX (v := 0) hx hb hr hP hD hK hS ⟨(1), ms, ma, mp, mk, mn, ⟨ok_ms_parts, ok_ms_outs, ok_ms_nears, ok_ms_nets, ok_ms_pins, ok_ma_sides, ok_ma_groups, ok_mp_turns, ok_mk_nearOne, ok_mk_nearTwo, ok_mn_pinNet, ok_mn_pinPart, hw, hh⟩, rfl, rfl, 0, rfl⟩ dX5_at_35 hlocks
        · refine lv_iload_n hx hb dX5_at_13 rfl (lv_at hl 2 rfl) ?_
          refine lv_bipush (v := nI 7) hx hb dX5_at_14 (by decide) ?_
          refine lv_icmp_ge (x := zB) (y := (nI 7)) (tgt := 23) hx hb dX5_at_16 (by decide) (fun c_30 => ?_) (fun c_30 => ?_)
          · refine lv_iconst (v := nI 1) hx hb dX5_at_23 (by decide) ?_
            refine va_put (D := D) (ci := 5) (v := .int (nI 1)) (ty := .int) (C := RX5) (T := TX5) (N := 28) hx hb hts (inT inX5) tyX5 tyX5_ok nmX5 hown hK hP hD hS 42 ww_42 rfl 0 (by decide) (hts (.fieldLink RX5 81 "BoardMovesModel" "thrown" "I") (List.mem_cons_of_mem _ flX5_81)) (fun _ h9 => h9) rfl (by decide +kernel) rfl rfl (Nat.le_of_ble_eq_true rfl) dX5_at_24 (fun H locs hP hD hS => ?_)
            have hP : va_P D vwCl (WW ad cJ cI cZ bm pa p0 p1 p2 li wi (1) ms ma mp mk mn ou) H := hP
            have hD : va_D A (WW ad cJ cI cZ bm pa p0 p1 p2 li wi (1) ms ma mp mk mn ou) := hD
            refine lv_aload_n hx hb dX5_at_27 rfl (lv_at hl 0 rfl) ?_
            refine va_get (D := D) (ci := 5) (v := .int (nI 1)) (C := RX5) (T := TX5) (N := 28) hx hb hts (inT inX5) hown hK hP 42 ww_42 rfl 0 (by decide) (hts (.fieldLink RX5 81 "BoardMovesModel" "thrown" "I") (List.mem_cons_of_mem _ flX5_81)) (fun _ h9 => h9) rfl dX5_at_28 ?_
            refine bm_nz_eq (x := 1) (tgt := 36) hx hb (by decide) dX5_at_31 (by decide) (fun c_31 => ?_) (fun c_31 => ?_)
            · exact absurd c_31 (by decide)
            · refine lv_lconst (v := 0) hx hb dX5_at_34 (by decide) ?_
              exact bm_lretX (v := 0) hx hb hr hP hD hK hS ⟨(1), ms, ma, mp, mk, mn, ⟨ok_ms_parts, ok_ms_outs, ok_ms_nears, ok_ms_nets, ok_ms_pins, ok_ma_sides, ok_ma_groups, ok_mp_turns, ok_mk_nearOne, ok_mk_nearTwo, ok_mn_pinNet, ok_mn_pinPart, hw, hh⟩, rfl, rfl, 0, rfl⟩ dX5_at_35 hlocks
          · exact absurd ⟨c_28, bx_nlt c_30⟩ hno_zB
  · have hl := lv_entry ([.ref (ad 42), .int zA, .int zB]) (n := 3) (Nat.le_of_ble_eq_true rfl)
    refine W.eq (g2 := entryFrame m ([.ref (ad 42), .int zA, .int zB] : List Value).toArray 3) (by rw [ha]) ?_
    rw [lg_entry_eq]
    generalize (lg_sl ([.ref (ad 42), .int zA, .int zB]) ++ List.replicate (3 - (lg_sl ([.ref (ad 42), .int zA, .int zB])).length) Slot.unset).toArray = ls at hl ⊢
    have hl : lv_has ls 3 [(0, .ref (ad 42)), (1, .int zA), (2, .int zB)] := hl
    refine lv_aload_n hx hb dX5_at_0 rfl (lv_at hl 0 rfl) ?_
    refine lv_aload_n hx hb dX5_at_1 rfl (lv_at hl 0 rfl) ?_
    refine lv_iload_n hx hb dX5_at_2 rfl (lv_at hl 1 rfl) ?_
    refine bm_rcallV (As := [.int zA]) (rest := [.ref (ad 42)]) ⟨hx, hb, hml, hown, hts⟩ (Y_isPartN  (zA := zA) hno_zA) (cwV 1 hts gvX5_139 rfl rfl rfl hvX5_isPart ⟨Nat.le_of_ble_eq_true rfl, Nat.le_of_ble_eq_true rfl⟩) hK hP 42 5 rfl ww_42 rfl hl.1 rfl (Nat.le_of_ble_eq_true rfl) dX5_at_3 ⟨Nat.le_of_ble_eq_true rfl, Nat.le_of_ble_eq_true rfl⟩ ?_
    refine bm_zb_eq (x := false) (tgt := 23) hx hb dX5_at_6 (by decide) (fun c_32 => ?_) (fun c_32 => ?_)
    · refine lv_iconst (v := nI 1) hx hb dX5_at_23 (by decide) ?_
      refine va_put (D := D) (ci := 5) (v := .int (nI 1)) (ty := .int) (C := RX5) (T := TX5) (N := 28) hx hb hts (inT inX5) tyX5 tyX5_ok nmX5 hown hK hP hD hS 42 ww_42 rfl 0 (by decide) (hts (.fieldLink RX5 81 "BoardMovesModel" "thrown" "I") (List.mem_cons_of_mem _ flX5_81)) (fun _ h9 => h9) rfl (by decide +kernel) rfl rfl (Nat.le_of_ble_eq_true rfl) dX5_at_24 (fun H locs hP hD hS => ?_)
      have hP : va_P D vwCl (WW ad cJ cI cZ bm pa p0 p1 p2 li wi (1) ms ma mp mk mn ou) H := hP
      have hD : va_D A (WW ad cJ cI cZ bm pa p0 p1 p2 li wi (1) ms ma mp mk mn ou) := hD
      refine lv_aload_n hx hb dX5_at_27 rfl (lv_at hl 0 rfl) ?_
      refine va_get (D := D) (ci := 5) (v := .int (nI 1)) (C := RX5) (T := TX5) (N := 28) hx hb hts (inT inX5) hown hK hP 42 ww_42 rfl 0 (by decide) (hts (.fieldLink RX5 81 "BoardMovesModel" "thrown" "I") (List.mem_cons_of_mem _ flX5_81)) (fun _ h9 => h9) rfl dX5_at_28 ?_
      refine bm_nz_eq (x := 1) (tgt := 36) hx hb (by decide) dX5_at_31 (by decide) (fun c_33 => ?_) (fun c_33 => ?_)
      · exact absurd c_33 (by decide)
      · refine lv_lconst (v := 0) hx hb dX5_at_34 (by decide) ?_
        exact bm_lretX (v := 0) hx hb hr hP hD hK hS ⟨(1), ms, ma, mp, mk, mn, ⟨ok_ms_parts, ok_ms_outs, ok_ms_nears, ok_ms_nets, ok_ms_pins, ok_ma_sides, ok_ma_groups, ok_mp_turns, ok_mk_nearOne, ok_mk_nearTwo, ok_mn_pinNet, ok_mn_pinPart, hw, hh⟩, rfl, rfl, 0, rfl⟩ dX5_at_35 hlocks
    · exact absurd c_32 (by decide)
