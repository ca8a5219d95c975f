set_option maxHeartbeats 16000000 in
set_option maxRecDepth 100000 in
theorem Y_group {l : Launch} {D : va_G} {ad : Nat → Nat} {cJ cI cZ : ClassId} {bm : gBM} {pa : gPA} {p0 p1 p2 : gPL} {li : gLI} {wi : gWI} {mt : Nat} {ms : gMS} {ma : gMA} {mp : gMP} {mk : gMK} {mn : gMN} {ou : Nat → Int64} {zA : Int32} {zB : Int32} (hok : okM ms ma mp mk mn)  : bm_Wx l yX5_group wsX5_group ({ frames := 1, cells := 0, slots := 0, locals := 21 }) D vwCl [(cJ, .long), (cI, .int), (cZ, .boolean)] (WW ad cJ cI cZ bm pa p0 p1 p2 li wi mt ms ma mp mk mn ou) [.ref (ad 42), .int zA, .int zB] (PMI ad cJ cI cZ bm pa p0 p1 p2 li wi mt ms ma mp mk mn ou) := by
  obtain ⟨ok_ms_parts, ok_ms_outs, ok_ms_nears, ok_ms_nets, ok_ms_pins, ok_ma_sides, ok_ma_groups, ok_mp_turns, ok_mk_nearOne, ok_mk_nearTwo, ok_mn_pinNet, ok_mn_pinPart, hw, hh⟩ := hok
  intro sz
  refine Met.ofW (cc := cX5_group) (maxL := 7) (ret := (some .int)) (by decide) rfl ?_
  intro p e s m args below meth c s₁ B hml hv
  obtain ⟨ha, hsz, hP, hK, hD0⟩ := hv
  have hx := B.exec
  have hb := B.bytes
  have hr := B.returns
  have hts := atoms_spec (ws := wsX5_group) B.pre
  have hown : s.vm.findClass RX5 = some m.cls := findClass_of_methodNamed B.named
  have hlocks := B.notSynchronized
  subst hsz
  have hD := hD0.self (sz := s.heap.size)
  generalize hAe : va_A (WW ad cJ cI cZ bm pa p0 p1 p2 li wi mt ms ma mp mk mn ou) s.heap.size = A at hD ⊢
  have hA : ∀ q : Nat, s.heap.size ≤ q → A q := fun q h => by rw [← hAe]; exact Or.inr h
  have hS : va_S A s.heap s.heap [] := va_S.rf
  rcases bx_idx zA (n := ms.2.2.1) (by omega) with ⟨k_zA, hk_zA, rfl⟩ | hno_zA
  · rcases bx_idx zB (n := ms.2.2.1) (by omega) with ⟨k_zB, hk_zB, rfl⟩ | hno_zB
    · have hl := lv_entry ([.ref (ad 42), .int (nI k_zA), .int (nI k_zB)]) (n := 7) (Nat.le_of_ble_eq_true rfl)
      refine W.eq (g2 := entryFrame m ([.ref (ad 42), .int (nI k_zA), .int (nI k_zB)] : List Value).toArray 7) (by rw [ha]) ?_
      rw [lg_entry_eq]
      generalize (lg_sl ([.ref (ad 42), .int (nI k_zA), .int (nI k_zB)]) ++ List.replicate (7 - (lg_sl ([.ref (ad 42), .int (nI k_zA), .int (nI k_zB)])).length) Slot.unset).toArray = ls at hl ⊢
      have hl : lv_has ls 7 [(0, .ref (ad 42)), (1, .int (nI k_zA)), (2, .int (nI k_zB))] := hl
      refine lv_aload_n hx hb dX5_group_0 rfl (lv_at hl 0 rfl) ?_
      refine lv_aload_n hx hb dX5_group_1 rfl (lv_at hl 0 rfl) ?_
      refine lv_iload_n hx hb dX5_group_2 rfl (lv_at hl 1 rfl) ?_
      refine bm_rcallV (As := [.int (nI k_zA)]) (rest := [.ref (ad 42)]) ⟨hx, hb, hml, hown, hts⟩ (Y_isPartY  (zp := k_zA) ok_ms_parts (by omega)) (cwV 1 hts gvX5_139 rfl rfl rfl hvX5_isPart ⟨Nat.le_of_ble_eq_true rfl, Nat.le_of_ble_eq_true rfl⟩) hK hP 42 5 rfl ww_42 rfl hl.1 rfl (Nat.le_of_ble_eq_true rfl) dX5_group_3 ⟨Nat.le_of_ble_eq_true rfl, Nat.le_of_ble_eq_true rfl⟩ ?_
      refine bm_zb_eq (x := true) (tgt := 21) hx hb dX5_group_6 (by decide) (fun c_1 => ?_) (fun c_1 => ?_)
      · exact absurd c_1 (by decide)
      · refine lv_aload_n hx hb dX5_group_9 rfl (lv_at hl 0 rfl) ?_
        refine lv_iload_n hx hb dX5_group_10 rfl (lv_at hl 2 rfl) ?_
        refine bm_rcallV (As := [.int (nI k_zB)]) (rest := [.ref (ad 42)]) ⟨hx, hb, hml, hown, hts⟩ (Y_isPartY  (zp := k_zB) ok_ms_parts (by omega)) (cwV 1 hts gvX5_139 rfl rfl rfl hvX5_isPart ⟨Nat.le_of_ble_eq_true rfl, Nat.le_of_ble_eq_true rfl⟩) hK hP 42 5 rfl ww_42 rfl hl.1 rfl (Nat.le_of_ble_eq_true rfl) dX5_group_11 ⟨Nat.le_of_ble_eq_true rfl, Nat.le_of_ble_eq_true rfl⟩ ?_
        refine bm_zb_eq (x := true) (tgt := 21) hx hb dX5_group_14 (by decide) (fun c_2 => ?_) (fun c_2 => ?_)
        · exact absurd c_2 (by decide)
        · refine lv_iconst (v := nI 0) hx hb dX5_group_17 (by decide) ?_
          refine lv_goto (tgt := 22) hx hb dX5_group_18 (by decide) ?_
          refine va_put (D := D) (ci := 5) (v := .int (nI 0)) (ty := .int) (C := RX5) (T := TX5) (N := 28) hx hb hts (inT inX5) tyX5 tyX5_ok nmX5 hown hK hP hD hS 42 ww_42 rfl 0 (by decide) (hts (.fieldLink RX5 81 "BoardMovesModel" "thrown" "I") (List.mem_cons_of_mem _ flX5_81)) (fun _ h9 => h9) rfl (by decide +kernel) rfl rfl (Nat.le_of_ble_eq_true rfl) dX5_group_22 (fun H locs hP hD hS => ?_)
          have hP : va_P D vwCl (WW ad cJ cI cZ bm pa p0 p1 p2 li wi (0) ms ma mp mk mn ou) H := hP
          have hD : va_D A (WW ad cJ cI cZ bm pa p0 p1 p2 li wi (0) ms ma mp mk mn ou) := hD
          refine lv_aload_n hx hb dX5_group_25 rfl (lv_at hl 0 rfl) ?_
          refine va_get (D := D) (ci := 5) (v := .int (nI 0)) (C := RX5) (T := TX5) (N := 28) hx hb hts (inT inX5) hown hK hP 42 ww_42 rfl 0 (by decide) (hts (.fieldLink RX5 81 "BoardMovesModel" "thrown" "I") (List.mem_cons_of_mem _ flX5_81)) (fun _ h9 => h9) rfl dX5_group_26 ?_
          refine bm_nz_eq (x := 0) (tgt := 34) hx hb (by decide) dX5_group_29 (by decide) (fun c_3 => ?_) (fun c_3 => ?_)
          · refine lv_aload_n hx hb dX5_group_34 rfl (lv_at hl 0 rfl) ?_
            refine va_get (D := D) (ci := 5) (v := .ref (ad 48)) (C := RX5) (T := TX5) (N := 28) hx hb hts (inT inX5) hown hK hP 42 ww_42 rfl 9 (by decide) (hts (.fieldLink RX5 27 "BoardMovesModel" "groups" "[I") (List.mem_cons_of_mem _ flX5_27)) (fun _ h9 => h9) rfl dX5_group_35 ?_
            refine lv_iload_n hx hb dX5_group_38 rfl (lv_at hl 1 rfl) ?_
            refine bm_nald (f := ma.2.2.2.2.2.1) hx hb hK hP 48 1 ww_48 rfl (j := k_zA) (by omega) (by decide) dX5_group_39 ?_
            refine lv_aload_n hx hb dX5_group_40 rfl (lv_at hl 0 rfl) ?_
            refine va_get (D := D) (ci := 5) (v := .ref (ad 48)) (C := RX5) (T := TX5) (N := 28) hx hb hts (inT inX5) hown hK hP 42 ww_42 rfl 9 (by decide) (hts (.fieldLink RX5 27 "BoardMovesModel" "groups" "[I") (List.mem_cons_of_mem _ flX5_27)) (fun _ h9 => h9) rfl dX5_group_41 ?_
            refine lv_iload_n hx hb dX5_group_44 rfl (lv_at hl 2 rfl) ?_
            refine bm_nald (f := ma.2.2.2.2.2.1) hx hb hK hP 48 1 ww_48 rfl (j := k_zB) (by omega) (by decide) dX5_group_45 ?_
            refine bm_ni_ge (x := (ma.2.2.2.2.2.1 k_zA)) (y := (ma.2.2.2.2.2.1 k_zB)) (tgt := 58) hx hb (bm40 (ok_ma_groups _)) (bm40 (ok_ma_groups _)) dX5_group_46 (by decide) (fun c_4 => ?_) (fun c_4 => ?_)
            · refine lv_aload_n hx hb dX5_group_58 rfl (lv_at hl 0 rfl) ?_
              refine va_get (D := D) (ci := 5) (v := .ref (ad 48)) (C := RX5) (T := TX5) (N := 28) hx hb hts (inT inX5) hown hK hP 42 ww_42 rfl 9 (by decide) (hts (.fieldLink RX5 27 "BoardMovesModel" "groups" "[I") (List.mem_cons_of_mem _ flX5_27)) (fun _ h9 => h9) rfl dX5_group_59 ?_
              refine lv_iload_n hx hb dX5_group_62 rfl (lv_at hl 2 rfl) ?_
              refine bm_nald (f := ma.2.2.2.2.2.1) hx hb hK hP 48 1 ww_48 rfl (j := k_zB) (by omega) (by decide) dX5_group_63 ?_
              refine lv_istore_n (lv' := [(3, .int (nI (ma.2.2.2.2.2.1 k_zB))), (0, .ref (ad 42)), (1, .int (nI k_zA)), (2, .int (nI k_zB))]) hx hb dX5_group_64 rfl hl (by decide) rfl (fun ls hl => ?_)
              refine lv_aload_n hx hb dX5_group_65 rfl (lv_at hl 1 rfl) ?_
              refine va_get (D := D) (ci := 5) (v := .ref (ad 48)) (C := RX5) (T := TX5) (N := 28) hx hb hts (inT inX5) hown hK hP 42 ww_42 rfl 9 (by decide) (hts (.fieldLink RX5 27 "BoardMovesModel" "groups" "[I") (List.mem_cons_of_mem _ flX5_27)) (fun _ h9 => h9) rfl dX5_group_66 ?_
              refine lv_iload_n hx hb dX5_group_69 rfl (lv_at hl 2 rfl) ?_
              refine bm_nald (f := ma.2.2.2.2.2.1) hx hb hK hP 48 1 ww_48 rfl (j := k_zA) (by omega) (by decide) dX5_group_70 ?_
              refine lv_aload_n hx hb dX5_group_71 rfl (lv_at hl 1 rfl) ?_
              refine va_get (D := D) (ci := 5) (v := .ref (ad 48)) (C := RX5) (T := TX5) (N := 28) hx hb hts (inT inX5) hown hK hP 42 ww_42 rfl 9 (by decide) (hts (.fieldLink RX5 27 "BoardMovesModel" "groups" "[I") (List.mem_cons_of_mem _ flX5_27)) (fun _ h9 => h9) rfl dX5_group_72 ?_
              refine lv_iload_n hx hb dX5_group_75 rfl (lv_at hl 3 rfl) ?_
              refine bm_nald (f := ma.2.2.2.2.2.1) hx hb hK hP 48 1 ww_48 rfl (j := k_zB) (by omega) (by decide) dX5_group_76 ?_
              refine bm_ni_ge (x := (ma.2.2.2.2.2.1 k_zA)) (y := (ma.2.2.2.2.2.1 k_zB)) (tgt := 89) hx hb (bm40 (ok_ma_groups _)) (bm40 (ok_ma_groups _)) dX5_group_77 (by decide) (fun c_5 => ?_) (fun c_5 => ?_)
              · refine lv_aload_n hx hb dX5_group_89 rfl (lv_at hl 1 rfl) ?_
                refine va_get (D := D) (ci := 5) (v := .ref (ad 48)) (C := RX5) (T := TX5) (N := 28) hx hb hts (inT inX5) hown hK hP 42 ww_42 rfl 9 (by decide) (hts (.fieldLink RX5 27 "BoardMovesModel" "groups" "[I") (List.mem_cons_of_mem _ flX5_27)) (fun _ h9 => h9) rfl dX5_group_90 ?_
                refine lv_iload_n hx hb dX5_group_93 rfl (lv_at hl 2 rfl) ?_
                refine bm_nald (f := ma.2.2.2.2.2.1) hx hb hK hP 48 1 ww_48 rfl (j := k_zA) (by omega) (by decide) dX5_group_94 ?_
                refine lv_istore (lv' := [(4, .int (nI (ma.2.2.2.2.2.1 k_zA))), (3, .int (nI (ma.2.2.2.2.2.1 k_zB))), (0, .ref (ad 42)), (1, .int (nI k_zA)), (2, .int (nI k_zB))]) hx hb dX5_group_95 hl (by decide) rfl (fun ls hl => ?_)
                refine lv_iconst (v := nI 0) hx hb dX5_group_97 (by decide) ?_
                refine lv_istore (lv' := [(5, .int (nI 0)), (4, .int (nI (ma.2.2.2.2.2.1 k_zA))), (3, .int (nI (ma.2.2.2.2.2.1 k_zB))), (0, .ref (ad 42)), (1, .int (nI k_zA)), (2, .int (nI k_zB))]) hx hb dX5_group_98 hl (by decide) rfl (fun ls hl => ?_)
                refine lv_iconst (v := nI 0) hx hb dX5_group_100 (by decide) ?_
                refine lv_istore (lv' := [(6, .int (nI 0)), (5, .int (nI 0)), (4, .int (nI (ma.2.2.2.2.2.1 k_zA))), (3, .int (nI (ma.2.2.2.2.2.1 k_zB))), (0, .ref (ad 42)), (1, .int (nI k_zA)), (2, .int (nI k_zB))]) hx hb dX5_group_101 hl (by decide) rfl (fun ls hl => ?_)
                have lp_6 : ∀ (k_8 : Nat) (i_7 : Nat) (v_10 : Int32) (g_11 : Nat → Nat), i_7 ≤ ms.2.2.1 → ms.2.2.1 < i_7 + k_8 → (∀ i, g_11 i < 40) → ∀ (H : Heap) (locs : List Loc), va_P D vwCl (WW ad cJ cI cZ bm pa p0 p1 p2 li wi (0) ms (ma.1, ma.2.1, ma.2.2.1, ma.2.2.2.1, ma.2.2.2.2.1, g_11, ma.2.2.2.2.2.2) mp mk mn ou) H → va_D A (WW ad cJ cI cZ bm pa p0 p1 p2 li wi (0) ms (ma.1, ma.2.1, ma.2.2.1, ma.2.2.2.1, ma.2.2.2.2.1, g_11, ma.2.2.2.2.2.2) mp mk mn ou) → va_S A s.heap H locs → ∀ (ls : Array Slot), lv_has ls 7 [(6, .int (nI i_7)), (5, .int v_10), (4, .int (nI (ma.2.2.2.2.2.1 k_zA))), (3, .int (nI (ma.2.2.2.2.2.1 k_zB))), (0, .ref (ad 42)), (1, .int (nI k_zA)), (2, .int (nI k_zB))] → W p l e (headSpec wsX5_group ({ frames := 1, cells := 0, slots := 0, locals := 21 })).room s m args below meth c H locs 0 0 (MQ below (bm_Wxq D vwCl [(cJ, .long), (cI, .int), (cZ, .boolean)] (PMI ad cJ cI cZ bm pa p0 p1 p2 li wi mt ms ma mp mk mn ou) A) args s 0 0 A) (F0 m 103 ls []) := by
                  intro k_8
                  induction k_8 with
                  | zero => intro i_7 v_10 g_11 hi_13 hk_14; exfalso; omega
                  | succ k_8 ih_9 =>
                    intro i_7 v_10 g_11 hi_13 hk_14 ok_12 H locs hP hD hS ls hl
                    refine lv_iload hx hb dX5_group_103 (lv_at hl 0 rfl) ?_
                    refine lv_aload_n hx hb dX5_group_105 rfl (lv_at hl 4 rfl) ?_
                    refine va_get (D := D) (ci := 5) (v := .int (nI ms.2.2.1)) (C := RX5) (T := TX5) (N := 28) hx hb hts (inT inX5) hown hK hP 42 ww_42 rfl 3 (by decide) (hts (.fieldLink RX5 85 "BoardMovesModel" "parts" "I") (List.mem_cons_of_mem _ flX5_85)) (fun _ h9 => h9) rfl dX5_group_106 ?_
                    refine bm_ni_ge (x := i_7) (y := ms.2.2.1) (tgt := 159) hx hb (by omega) (by omega) dX5_group_109 (by decide) (fun c_15 => ?_) (fun c_15 => ?_)
                    · refine lv_iload hx hb dX5_group_159 (lv_at hl 1 rfl) ?_
                      exact bm_iretX (v := v_10) hx hb hr hP hD hK hS ⟨(0), ms, (ma.1, ma.2.1, ma.2.2.1, ma.2.2.2.1, ma.2.2.2.2.1, g_11, ma.2.2.2.2.2.2), mp, mk, mn, ⟨ok_ms_parts, ok_ms_outs, ok_ms_nears, ok_ms_nets, ok_ms_pins, ok_ma_sides, ok_12, ok_mp_turns, ok_mk_nearOne, ok_mk_nearTwo, ok_mn_pinNet, ok_mn_pinPart, hw, hh⟩, rfl, rfl, v_10, rfl⟩ dX5_group_161 hlocks
                    · refine lv_aload_n hx hb dX5_group_112 rfl (lv_at hl 4 rfl) ?_
                      refine va_get (D := D) (ci := 5) (v := .ref (ad 48)) (C := RX5) (T := TX5) (N := 28) hx hb hts (inT inX5) hown hK hP 42 ww_42 rfl 9 (by decide) (hts (.fieldLink RX5 27 "BoardMovesModel" "groups" "[I") (List.mem_cons_of_mem _ flX5_27)) (fun _ h9 => h9) rfl dX5_group_113 ?_
                      refine lv_iload hx hb dX5_group_116 (lv_at hl 0 rfl) ?_
                      refine bm_nald (f := g_11) hx hb hK hP 48 1 ww_48 rfl (j := i_7) (by omega) (by decide) dX5_group_118 ?_
                      refine lv_iload hx hb dX5_group_119 (lv_at hl 2 rfl) ?_
                      refine bm_ni_ne (x := (g_11 i_7)) (y := (ma.2.2.2.2.2.1 k_zA)) (tgt := 132) hx hb (bm40 (ok_12 _)) (bm40 (ok_ma_groups _)) dX5_group_121 (by decide) (fun c_16 => ?_) (fun c_16 => ?_)
                      · refine lv_iload hx hb dX5_group_132 (lv_at hl 1 rfl) ?_
                        refine lv_aload_n hx hb dX5_group_134 rfl (lv_at hl 4 rfl) ?_
                        refine va_get (D := D) (ci := 5) (v := .ref (ad 48)) (C := RX5) (T := TX5) (N := 28) hx hb hts (inT inX5) hown hK hP 42 ww_42 rfl 9 (by decide) (hts (.fieldLink RX5 27 "BoardMovesModel" "groups" "[I") (List.mem_cons_of_mem _ flX5_27)) (fun _ h9 => h9) rfl dX5_group_135 ?_
                        refine lv_iload hx hb dX5_group_138 (lv_at hl 0 rfl) ?_
                        refine bm_nald (f := g_11) hx hb hK hP 48 1 ww_48 rfl (j := i_7) (by omega) (by decide) dX5_group_140 ?_
                        refine lv_iload_n hx hb dX5_group_141 rfl (lv_at hl 3 rfl) ?_
                        refine bm_ni_ne (x := (g_11 i_7)) (y := (ma.2.2.2.2.2.1 k_zB)) (tgt := 149) hx hb (bm40 (ok_12 _)) (bm40 (ok_ma_groups _)) dX5_group_142 (by decide) (fun c_17 => ?_) (fun c_17 => ?_)
                        · refine lv_iconst (v := nI 0) hx hb dX5_group_149 (by decide) ?_
                          refine lv_iadd hx hb dX5_group_150 ?_
                          refine lv_topi (fun t_18 _ => ?_)
                          refine lv_istore (lv' := [(5, .int t_18), (6, .int (nI i_7)), (4, .int (nI (ma.2.2.2.2.2.1 k_zA))), (3, .int (nI (ma.2.2.2.2.2.1 k_zB))), (0, .ref (ad 42)), (1, .int (nI k_zA)), (2, .int (nI k_zB))]) hx hb dX5_group_151 hl (by decide) rfl (fun ls hl => ?_)
                          refine lv_iinc (v := (nI (i_7 + 1))) (lv' := [(6, .int (nI (i_7 + 1))), (5, .int t_18), (4, .int (nI (ma.2.2.2.2.2.1 k_zA))), (3, .int (nI (ma.2.2.2.2.2.1 k_zB))), (0, .ref (ad 42)), (1, .int (nI k_zA)), (2, .int (nI k_zB))]) hx hb dX5_group_153 hl (k := 1) rfl (nI_1 i_7) (by decide) rfl (fun ls hl => ?_)
                          refine lv_goto (tgt := 103) hx hb dX5_group_156 (by decide) ?_
                          exact ih_9 (i_7 + 1) t_18 g_11 (by omega) (by omega) ok_12 _ _ hP hD hS _ (lv_sub hl [0, 1, 2, 3, 4, 5, 6] rfl)
                        · refine lv_iconst (v := nI 1) hx hb dX5_group_145 (by decide) ?_
                          refine lv_goto (tgt := 150) hx hb dX5_group_146 (by decide) ?_
                          refine lv_iadd hx hb dX5_group_150 ?_
                          refine lv_topi (fun t_19 _ => ?_)
                          refine lv_istore (lv' := [(5, .int t_19), (6, .int (nI i_7)), (4, .int (nI (ma.2.2.2.2.2.1 k_zA))), (3, .int (nI (ma.2.2.2.2.2.1 k_zB))), (0, .ref (ad 42)), (1, .int (nI k_zA)), (2, .int (nI k_zB))]) hx hb dX5_group_151 hl (by decide) rfl (fun ls hl => ?_)
                          refine lv_iinc (v := (nI (i_7 + 1))) (lv' := [(6, .int (nI (i_7 + 1))), (5, .int t_19), (4, .int (nI (ma.2.2.2.2.2.1 k_zA))), (3, .int (nI (ma.2.2.2.2.2.1 k_zB))), (0, .ref (ad 42)), (1, .int (nI k_zA)), (2, .int (nI k_zB))]) hx hb dX5_group_153 hl (k := 1) rfl (nI_1 i_7) (by decide) rfl (fun ls hl => ?_)
                          refine lv_goto (tgt := 103) hx hb dX5_group_156 (by decide) ?_
                          exact ih_9 (i_7 + 1) t_19 g_11 (by omega) (by omega) ok_12 _ _ hP hD hS _ (lv_sub hl [0, 1, 2, 3, 4, 5, 6] rfl)
                      · refine lv_aload_n hx hb dX5_group_124 rfl (lv_at hl 4 rfl) ?_
                        refine va_get (D := D) (ci := 5) (v := .ref (ad 48)) (C := RX5) (T := TX5) (N := 28) hx hb hts (inT inX5) hown hK hP 42 ww_42 rfl 9 (by decide) (hts (.fieldLink RX5 27 "BoardMovesModel" "groups" "[I") (List.mem_cons_of_mem _ flX5_27)) (fun _ h9 => h9) rfl dX5_group_125 ?_
                        refine lv_iload hx hb dX5_group_128 (lv_at hl 0 rfl) ?_
                        refine lv_iload_n hx hb dX5_group_130 rfl (lv_at hl 3 rfl) ?_
                        refine bm_nast (f := g_11) hx hb hK hP hD hS 48 1 ww_48 rfl (j := i_7) (x := (ma.2.2.2.2.2.1 k_zB)) (by omega) (by decide) dX5_group_131 (fun H locs hP hD hS => ?_)
                        have hP : va_P D vwCl (WW ad cJ cI cZ bm pa p0 p1 p2 li wi (0) ms (ma.1, ma.2.1, ma.2.2.1, ma.2.2.2.1, ma.2.2.2.2.1, va_up g_11 i_7 (ma.2.2.2.2.2.1 k_zB), ma.2.2.2.2.2.2) mp mk mn ou) H := hP
                        have hD : va_D A (WW ad cJ cI cZ bm pa p0 p1 p2 li wi (0) ms (ma.1, ma.2.1, ma.2.2.1, ma.2.2.2.1, ma.2.2.2.2.1, va_up g_11 i_7 (ma.2.2.2.2.2.1 k_zB), ma.2.2.2.2.2.2) mp mk mn ou) := hD
                        refine lv_iload hx hb dX5_group_132 (lv_at hl 1 rfl) ?_
                        refine lv_aload_n hx hb dX5_group_134 rfl (lv_at hl 4 rfl) ?_
                        refine va_get (D := D) (ci := 5) (v := .ref (ad 48)) (C := RX5) (T := TX5) (N := 28) hx hb hts (inT inX5) hown hK hP 42 ww_42 rfl 9 (by decide) (hts (.fieldLink RX5 27 "BoardMovesModel" "groups" "[I") (List.mem_cons_of_mem _ flX5_27)) (fun _ h9 => h9) rfl dX5_group_135 ?_
                        refine lv_iload hx hb dX5_group_138 (lv_at hl 0 rfl) ?_
                        refine bm_nald (f := (va_up g_11 i_7 (ma.2.2.2.2.2.1 k_zB))) hx hb hK hP 48 1 ww_48 rfl (j := i_7) (by omega) (by decide) dX5_group_140 ?_
                        refine lv_iload_n hx hb dX5_group_141 rfl (lv_at hl 3 rfl) ?_
                        refine bm_ni_ne (x := ((va_up g_11 i_7 (ma.2.2.2.2.2.1 k_zB)) i_7)) (y := (ma.2.2.2.2.2.1 k_zB)) (tgt := 149) hx hb (bm40 ((bx_uplt ok_12 (ok_ma_groups _)) _)) (bm40 (ok_ma_groups _)) dX5_group_142 (by decide) (fun c_20 => ?_) (fun c_20 => ?_)
                        · refine lv_iconst (v := nI 0) hx hb dX5_group_149 (by decide) ?_
                          refine lv_iadd hx hb dX5_group_150 ?_
                          refine lv_topi (fun t_21 _ => ?_)
                          refine lv_istore (lv' := [(5, .int t_21), (6, .int (nI i_7)), (4, .int (nI (ma.2.2.2.2.2.1 k_zA))), (3, .int (nI (ma.2.2.2.2.2.1 k_zB))), (0, .ref (ad 42)), (1, .int (nI k_zA)), (2, .int (nI k_zB))]) hx hb dX5_group_151 hl (by decide) rfl (fun ls hl => ?_)
                          refine lv_iinc (v := (nI (i_7 + 1))) (lv' := [(6, .int (nI (i_7 + 1))), (5, .int t_21), (4, .int (nI (ma.2.2.2.2.2.1 k_zA))), (3, .int (nI (ma.2.2.2.2.2.1 k_zB))), (0, .ref (ad 42)), (1, .int (nI k_zA)), (2, .int (nI k_zB))]) hx hb dX5_group_153 hl (k := 1) rfl (nI_1 i_7) (by decide) rfl (fun ls hl => ?_)
                          refine lv_goto (tgt := 103) hx hb dX5_group_156 (by decide) ?_
                          exact ih_9 (i_7 + 1) t_21 (va_up g_11 i_7 (ma.2.2.2.2.2.1 k_zB)) (by omega) (by omega) (bx_uplt ok_12 (ok_ma_groups _)) _ _ hP hD hS _ (lv_sub hl [0, 1, 2, 3, 4, 5, 6] rfl)
                        · refine lv_iconst (v := nI 1) hx hb dX5_group_145 (by decide) ?_
                          refine lv_goto (tgt := 150) hx hb dX5_group_146 (by decide) ?_
                          refine lv_iadd hx hb dX5_group_150 ?_
                          refine lv_topi (fun t_22 _ => ?_)
                          refine lv_istore (lv' := [(5, .int t_22), (6, .int (nI i_7)), (4, .int (nI (ma.2.2.2.2.2.1 k_zA))), (3, .int (nI (ma.2.2.2.2.2.1 k_zB))), (0, .ref (ad 42)), (1, .int (nI k_zA)), (2, .int (nI k_zB))]) hx hb dX5_group_151 hl (by decide) rfl (fun ls hl => ?_)
                          refine lv_iinc (v := (nI (i_7 + 1))) (lv' := [(6, .int (nI (i_7 + 1))), (5, .int t_22), (4, .int (nI (ma.2.2.2.2.2.1 k_zA))), (3, .int (nI (ma.2.2.2.2.2.1 k_zB))), (0, .ref (ad 42)), (1, .int (nI k_zA)), (2, .int (nI k_zB))]) hx hb dX5_group_153 hl (k := 1) rfl (nI_1 i_7) (by decide) rfl (fun ls hl => ?_)
                          refine lv_goto (tgt := 103) hx hb dX5_group_156 (by decide) ?_
                          exact ih_9 (i_7 + 1) t_22 (va_up g_11 i_7 (ma.2.2.2.2.2.1 k_zB)) (by omega) (by omega) (bx_uplt ok_12 (ok_ma_groups _)) _ _ hP hD hS _ (lv_sub hl [0, 1, 2, 3, 4, 5, 6] rfl)
                exact lp_6 (ms.2.2.1 + 1) 0 0 ma.2.2.2.2.2.1 (by omega) (by omega) ok_ma_groups _ _ hP hD hS _ (lv_sub hl [0, 1, 2, 3, 4, 5, 6] rfl)
              · refine lv_aload_n hx hb dX5_group_80 rfl (lv_at hl 1 rfl) ?_
                refine va_get (D := D) (ci := 5) (v := .ref (ad 48)) (C := RX5) (T := TX5) (N := 28) hx hb hts (inT inX5) hown hK hP 42 ww_42 rfl 9 (by decide) (hts (.fieldLink RX5 27 "BoardMovesModel" "groups" "[I") (List.mem_cons_of_mem _ flX5_27)) (fun _ h9 => h9) rfl dX5_group_81 ?_
                refine lv_iload_n hx hb dX5_group_84 rfl (lv_at hl 3 rfl) ?_
                refine bm_nald (f := ma.2.2.2.2.2.1) hx hb hK hP 48 1 ww_48 rfl (j := k_zB) (by omega) (by decide) dX5_group_85 ?_
                refine lv_goto (tgt := 95) hx hb dX5_group_86 (by decide) ?_
                refine lv_istore (lv' := [(4, .int (nI (ma.2.2.2.2.2.1 k_zB))), (3, .int (nI (ma.2.2.2.2.2.1 k_zB))), (0, .ref (ad 42)), (1, .int (nI k_zA)), (2, .int (nI k_zB))]) hx hb dX5_group_95 hl (by decide) rfl (fun ls hl => ?_)
                refine lv_iconst (v := nI 0) hx hb dX5_group_97 (by decide) ?_
                refine lv_istore (lv' := [(5, .int (nI 0)), (4, .int (nI (ma.2.2.2.2.2.1 k_zB))), (3, .int (nI (ma.2.2.2.2.2.1 k_zB))), (0, .ref (ad 42)), (1, .int (nI k_zA)), (2, .int (nI k_zB))]) hx hb dX5_group_98 hl (by decide) rfl (fun ls hl => ?_)
                refine lv_iconst (v := nI 0) hx hb dX5_group_100 (by decide) ?_
                refine lv_istore (lv' := [(6, .int (nI 0)), (5, .int (nI 0)), (4, .int (nI (ma.2.2.2.2.2.1 k_zB))), (3, .int (nI (ma.2.2.2.2.2.1 k_zB))), (0, .ref (ad 42)), (1, .int (nI k_zA)), (2, .int (nI k_zB))]) hx hb dX5_group_101 hl (by decide) rfl (fun ls hl => ?_)
                have lp_23 : ∀ (k_25 : Nat) (i_24 : Nat) (v_27 : Int32) (g_28 : Nat → Nat), i_24 ≤ ms.2.2.1 → ms.2.2.1 < i_24 + k_25 → (∀ i, g_28 i < 40) → ∀ (H : Heap) (locs : List Loc), va_P D vwCl (WW ad cJ cI cZ bm pa p0 p1 p2 li wi (0) ms (ma.1, ma.2.1, ma.2.2.1, ma.2.2.2.1, ma.2.2.2.2.1, g_28, ma.2.2.2.2.2.2) mp mk mn ou) H → va_D A (WW ad cJ cI cZ bm pa p0 p1 p2 li wi (0) ms (ma.1, ma.2.1, ma.2.2.1, ma.2.2.2.1, ma.2.2.2.2.1, g_28, ma.2.2.2.2.2.2) mp mk mn ou) → va_S A s.heap H locs → ∀ (ls : Array Slot), lv_has ls 7 [(6, .int (nI i_24)), (5, .int v_27), (4, .int (nI (ma.2.2.2.2.2.1 k_zB))), (3, .int (nI (ma.2.2.2.2.2.1 k_zB))), (0, .ref (ad 42)), (1, .int (nI k_zA)), (2, .int (nI k_zB))] → W p l e (headSpec wsX5_group ({ frames := 1, cells := 0, slots := 0, locals := 21 })).room s m args below meth c H locs 0 0 (MQ below (bm_Wxq D vwCl [(cJ, .long), (cI, .int), (cZ, .boolean)] (PMI ad cJ cI cZ bm pa p0 p1 p2 li wi mt ms ma mp mk mn ou) A) args s 0 0 A) (F0 m 103 ls []) := by
                  intro k_25
                  induction k_25 with
                  | zero => intro i_24 v_27 g_28 hi_30 hk_31; exfalso; omega
                  | succ k_25 ih_26 =>
                    intro i_24 v_27 g_28 hi_30 hk_31 ok_29 H locs hP hD hS ls hl
                    refine lv_iload hx hb dX5_group_103 (lv_at hl 0 rfl) ?_
                    refine lv_aload_n hx hb dX5_group_105 rfl (lv_at hl 4 rfl) ?_
                    refine va_get (D := D) (ci := 5) (v := .int (nI ms.2.2.1)) (C := RX5) (T := TX5) (N := 28) hx hb hts (inT inX5) hown hK hP 42 ww_42 rfl 3 (by decide) (hts (.fieldLink RX5 85 "BoardMovesModel" "parts" "I") (List.mem_cons_of_mem _ flX5_85)) (fun _ h9 => h9) rfl dX5_group_106 ?_
                    refine bm_ni_ge (x := i_24) (y := ms.2.2.1) (tgt := 159) hx hb (by omega) (by omega) dX5_group_109 (by decide) (fun c_32 => ?_) (fun c_32 => ?_)
                    · refine lv_iload hx hb dX5_group_159 (lv_at hl 1 rfl) ?_
                      exact bm_iretX (v := v_27) hx hb hr hP hD hK hS ⟨(0), ms, (ma.1, ma.2.1, ma.2.2.1, ma.2.2.2.1, ma.2.2.2.2.1, g_28, ma.2.2.2.2.2.2), mp, mk, mn, ⟨ok_ms_parts, ok_ms_outs, ok_ms_nears, ok_ms_nets, ok_ms_pins, ok_ma_sides, ok_29, ok_mp_turns, ok_mk_nearOne, ok_mk_nearTwo, ok_mn_pinNet, ok_mn_pinPart, hw, hh⟩, rfl, rfl, v_27, rfl⟩ dX5_group_161 hlocks
                    · refine lv_aload_n hx hb dX5_group_112 rfl (lv_at hl 4 rfl) ?_
                      refine va_get (D := D) (ci := 5) (v := .ref (ad 48)) (C := RX5) (T := TX5) (N := 28) hx hb hts (inT inX5) hown hK hP 42 ww_42 rfl 9 (by decide) (hts (.fieldLink RX5 27 "BoardMovesModel" "groups" "[I") (List.mem_cons_of_mem _ flX5_27)) (fun _ h9 => h9) rfl dX5_group_113 ?_
                      refine lv_iload hx hb dX5_group_116 (lv_at hl 0 rfl) ?_
                      refine bm_nald (f := g_28) hx hb hK hP 48 1 ww_48 rfl (j := i_24) (by omega) (by decide) dX5_group_118 ?_
                      refine lv_iload hx hb dX5_group_119 (lv_at hl 2 rfl) ?_
                      refine bm_ni_ne (x := (g_28 i_24)) (y := (ma.2.2.2.2.2.1 k_zB)) (tgt := 132) hx hb (bm40 (ok_29 _)) (bm40 (ok_ma_groups _)) dX5_group_121 (by decide) (fun c_33 => ?_) (fun c_33 => ?_)
                      · refine lv_iload hx hb dX5_group_132 (lv_at hl 1 rfl) ?_
                        refine lv_aload_n hx hb dX5_group_134 rfl (lv_at hl 4 rfl) ?_
                        refine va_get (D := D) (ci := 5) (v := .ref (ad 48)) (C := RX5) (T := TX5) (N := 28) hx hb hts (inT inX5) hown hK hP 42 ww_42 rfl 9 (by decide) (hts (.fieldLink RX5 27 "BoardMovesModel" "groups" "[I") (List.mem_cons_of_mem _ flX5_27)) (fun _ h9 => h9) rfl dX5_group_135 ?_
                        refine lv_iload hx hb dX5_group_138 (lv_at hl 0 rfl) ?_
                        refine bm_nald (f := g_28) hx hb hK hP 48 1 ww_48 rfl (j := i_24) (by omega) (by decide) dX5_group_140 ?_
                        refine lv_iload_n hx hb dX5_group_141 rfl (lv_at hl 3 rfl) ?_
                        refine bm_ni_ne (x := (g_28 i_24)) (y := (ma.2.2.2.2.2.1 k_zB)) (tgt := 149) hx hb (bm40 (ok_29 _)) (bm40 (ok_ma_groups _)) dX5_group_142 (by decide) (fun c_34 => ?_) (fun c_34 => ?_)
                        · refine lv_iconst (v := nI 0) hx hb dX5_group_149 (by decide) ?_
                          refine lv_iadd hx hb dX5_group_150 ?_
                          refine lv_topi (fun t_35 _ => ?_)
                          refine lv_istore (lv' := [(5, .int t_35), (6, .int (nI i_24)), (4, .int (nI (ma.2.2.2.2.2.1 k_zB))), (3, .int (nI (ma.2.2.2.2.2.1 k_zB))), (0, .ref (ad 42)), (1, .int (nI k_zA)), (2, .int (nI k_zB))]) hx hb dX5_group_151 hl (by decide) rfl (fun ls hl => ?_)
                          refine lv_iinc (v := (nI (i_24 + 1))) (lv' := [(6, .int (nI (i_24 + 1))), (5, .int t_35), (4, .int (nI (ma.2.2.2.2.2.1 k_zB))), (3, .int (nI (ma.2.2.2.2.2.1 k_zB))), (0, .ref (ad 42)), (1, .int (nI k_zA)), (2, .int (nI k_zB))]) hx hb dX5_group_153 hl (k := 1) rfl (nI_1 i_24) (by decide) rfl (fun ls hl => ?_)
                          refine lv_goto (tgt := 103) hx hb dX5_group_156 (by decide) ?_
                          exact ih_26 (i_24 + 1) t_35 g_28 (by omega) (by omega) ok_29 _ _ hP hD hS _ (lv_sub hl [0, 1, 2, 3, 4, 5, 6] rfl)
                        · refine lv_iconst (v := nI 1) hx hb dX5_group_145 (by decide) ?_
                          refine lv_goto (tgt := 150) hx hb dX5_group_146 (by decide) ?_
                          refine lv_iadd hx hb dX5_group_150 ?_
                          refine lv_topi (fun t_36 _ => ?_)
                          refine lv_istore (lv' := [(5, .int t_36), (6, .int (nI i_24)), (4, .int (nI (ma.2.2.2.2.2.1 k_zB))), (3, .int (nI (ma.2.2.2.2.2.1 k_zB))), (0, .ref (ad 42)), (1, .int (nI k_zA)), (2, .int (nI k_zB))]) hx hb dX5_group_151 hl (by decide) rfl (fun ls hl => ?_)
                          refine lv_iinc (v := (nI (i_24 + 1))) (lv' := [(6, .int (nI (i_24 + 1))), (5, .int t_36), (4, .int (nI (ma.2.2.2.2.2.1 k_zB))), (3, .int (nI (ma.2.2.2.2.2.1 k_zB))), (0, .ref (ad 42)), (1, .int (nI k_zA)), (2, .int (nI k_zB))]) hx hb dX5_group_153 hl (k := 1) rfl (nI_1 i_24) (by decide) rfl (fun ls hl => ?_)
                          refine lv_goto (tgt := 103) hx hb dX5_group_156 (by decide) ?_
                          exact ih_26 (i_24 + 1) t_36 g_28 (by omega) (by omega) ok_29 _ _ hP hD hS _ (lv_sub hl [0, 1, 2, 3, 4, 5, 6] rfl)
                      · refine lv_aload_n hx hb dX5_group_124 rfl (lv_at hl 4 rfl) ?_
                        refine va_get (D := D) (ci := 5) (v := .ref (ad 48)) (C := RX5) (T := TX5) (N := 28) hx hb hts (inT inX5) hown hK hP 42 ww_42 rfl 9 (by decide) (hts (.fieldLink RX5 27 "BoardMovesModel" "groups" "[I") (List.mem_cons_of_mem _ flX5_27)) (fun _ h9 => h9) rfl dX5_group_125 ?_
                        refine lv_iload hx hb dX5_group_128 (lv_at hl 0 rfl) ?_
                        refine lv_iload_n hx hb dX5_group_130 rfl (lv_at hl 3 rfl) ?_
                        refine bm_nast (f := g_28) hx hb hK hP hD hS 48 1 ww_48 rfl (j := i_24) (x := (ma.2.2.2.2.2.1 k_zB)) (by omega) (by decide) dX5_group_131 (fun H locs hP hD hS => ?_)
                        have hP : va_P D vwCl (WW ad cJ cI cZ bm pa p0 p1 p2 li wi (0) ms (ma.1, ma.2.1, ma.2.2.1, ma.2.2.2.1, ma.2.2.2.2.1, va_up g_28 i_24 (ma.2.2.2.2.2.1 k_zB), ma.2.2.2.2.2.2) mp mk mn ou) H := hP
                        have hD : va_D A (WW ad cJ cI cZ bm pa p0 p1 p2 li wi (0) ms (ma.1, ma.2.1, ma.2.2.1, ma.2.2.2.1, ma.2.2.2.2.1, va_up g_28 i_24 (ma.2.2.2.2.2.1 k_zB), ma.2.2.2.2.2.2) mp mk mn ou) := hD
                        refine lv_iload hx hb dX5_group_132 (lv_at hl 1 rfl) ?_
                        refine lv_aload_n hx hb dX5_group_134 rfl (lv_at hl 4 rfl) ?_
                        refine va_get (D := D) (ci := 5) (v := .ref (ad 48)) (C := RX5) (T := TX5) (N := 28) hx hb hts (inT inX5) hown hK hP 42 ww_42 rfl 9 (by decide) (hts (.fieldLink RX5 27 "BoardMovesModel" "groups" "[I") (List.mem_cons_of_mem _ flX5_27)) (fun _ h9 => h9) rfl dX5_group_135 ?_
                        refine lv_iload hx hb dX5_group_138 (lv_at hl 0 rfl) ?_
                        refine bm_nald (f := (va_up g_28 i_24 (ma.2.2.2.2.2.1 k_zB))) hx hb hK hP 48 1 ww_48 rfl (j := i_24) (by omega) (by decide) dX5_group_140 ?_
                        refine lv_iload_n hx hb dX5_group_141 rfl (lv_at hl 3 rfl) ?_
                        refine bm_ni_ne (x := ((va_up g_28 i_24 (ma.2.2.2.2.2.1 k_zB)) i_24)) (y := (ma.2.2.2.2.2.1 k_zB)) (tgt := 149) hx hb (bm40 ((bx_uplt ok_29 (ok_ma_groups _)) _)) (bm40 (ok_ma_groups _)) dX5_group_142 (by decide) (fun c_37 => ?_) (fun c_37 => ?_)
                        · refine lv_iconst (v := nI 0) hx hb dX5_group_149 (by decide) ?_
                          refine lv_iadd hx hb dX5_group_150 ?_
                          refine lv_topi (fun t_38 _ => ?_)
                          refine lv_istore (lv' := [(5, .int t_38), (6, .int (nI i_24)), (4, .int (nI (ma.2.2.2.2.2.1 k_zB))), (3, .int (nI (ma.2.2.2.2.2.1 k_zB))), (0, .ref (ad 42)), (1, .int (nI k_zA)), (2, .int (nI k_zB))]) hx hb dX5_group_151 hl (by decide) rfl (fun ls hl => ?_)
                          refine lv_iinc (v := (nI (i_24 + 1))) (lv' := [(6, .int (nI (i_24 + 1))), (5, .int t_38), (4, .int (nI (ma.2.2.2.2.2.1 k_zB))), (3, .int (nI (ma.2.2.2.2.2.1 k_zB))), (0, .ref (ad 42)), (1, .int (nI k_zA)), (2, .int (nI k_zB))]) hx hb dX5_group_153 hl (k := 1) rfl (nI_1 i_24) (by decide) rfl (fun ls hl => ?_)
                          refine lv_goto (tgt := 103) hx hb dX5_group_156 (by decide) ?_
                          exact ih_26 (i_24 + 1) t_38 (va_up g_28 i_24 (ma.2.2.2.2.2.1 k_zB)) (by omega) (by omega) (bx_uplt ok_29 (ok_ma_groups _)) _ _ hP hD hS _ (lv_sub hl [0, 1, 2, 3, 4, 5, 6] rfl)
                        · refine lv_iconst (v := nI 1) hx hb dX5_group_145 (by decide) ?_
                          refine lv_goto (tgt := 150) hx hb dX5_group_146 (by decide) ?_
                          refine lv_iadd hx hb dX5_group_150 ?_
                          refine lv_topi (fun t_39 _ => ?_)
                          refine lv_istore (lv' := [(5, .int t_39), (6, .int (nI i_24)), (4, .int (nI (ma.2.2.2.2.2.1 k_zB))), (3, .int (nI (ma.2.2.2.2.2.1 k_zB))), (0, .ref (ad 42)), (1, .int (nI k_zA)), (2, .int (nI k_zB))]) hx hb dX5_group_151 hl (by decide) rfl (fun ls hl => ?_)
                          refine lv_iinc (v := (nI (i_24 + 1))) (lv' := [(6, .int (nI (i_24 + 1))), (5, .int t_39), (4, .int (nI (ma.2.2.2.2.2.1 k_zB))), (3, .int (nI (ma.2.2.2.2.2.1 k_zB))), (0, .ref (ad 42)), (1, .int (nI k_zA)), (2, .int (nI k_zB))]) hx hb dX5_group_153 hl (k := 1) rfl (nI_1 i_24) (by decide) rfl (fun ls hl => ?_)
                          refine lv_goto (tgt := 103) hx hb dX5_group_156 (by decide) ?_
                          exact ih_26 (i_24 + 1) t_39 (va_up g_28 i_24 (ma.2.2.2.2.2.1 k_zB)) (by omega) (by omega) (bx_uplt ok_29 (ok_ma_groups _)) _ _ hP hD hS _ (lv_sub hl [0, 1, 2, 3, 4, 5, 6] rfl)
                exact lp_23 (ms.2.2.1 + 1) 0 0 ma.2.2.2.2.2.1 (by omega) (by omega) ok_ma_groups _ _ hP hD hS _ (lv_sub hl [0, 1, 2, 3, 4, 5, 6] rfl)
            · refine lv_aload_n hx hb dX5_group_49 rfl (lv_at hl 0 rfl) ?_
              refine va_get (D := D) (ci := 5) (v := .ref (ad 48)) (C := RX5) (T := TX5) (N := 28) hx hb hts (inT inX5) hown hK hP 42 ww_42 rfl 9 (by decide) (hts (.fieldLink RX5 27 "BoardMovesModel" "groups" "[I") (List.mem_cons_of_mem _ flX5_27)) (fun _ h9 => h9) rfl dX5_group_50 ?_
              refine lv_iload_n hx hb dX5_group_53 rfl (lv_at hl 1 rfl) ?_
              refine bm_nald (f := ma.2.2.2.2.2.1) hx hb hK hP 48 1 ww_48 rfl (j := k_zA) (by omega) (by decide) dX5_group_54 ?_
              refine lv_goto (tgt := 64) hx hb dX5_group_55 (by decide) ?_
              refine lv_istore_n (lv' := [(3, .int (nI (ma.2.2.2.2.2.1 k_zA))), (0, .ref (ad 42)), (1, .int (nI k_zA)), (2, .int (nI k_zB))]) hx hb dX5_group_64 rfl hl (by decide) rfl (fun ls hl => ?_)
              refine lv_aload_n hx hb dX5_group_65 rfl (lv_at hl 1 rfl) ?_
              refine va_get (D := D) (ci := 5) (v := .ref (ad 48)) (C := RX5) (T := TX5) (N := 28) hx hb hts (inT inX5) hown hK hP 42 ww_42 rfl 9 (by decide) (hts (.fieldLink RX5 27 "BoardMovesModel" "groups" "[I") (List.mem_cons_of_mem _ flX5_27)) (fun _ h9 => h9) rfl dX5_group_66 ?_
              refine lv_iload_n hx hb dX5_group_69 rfl (lv_at hl 2 rfl) ?_
              refine bm_nald (f := ma.2.2.2.2.2.1) hx hb hK hP 48 1 ww_48 rfl (j := k_zA) (by omega) (by decide) dX5_group_70 ?_
              refine lv_aload_n hx hb dX5_group_71 rfl (lv_at hl 1 rfl) ?_
              refine va_get (D := D) (ci := 5) (v := .ref (ad 48)) (C := RX5) (T := TX5) (N := 28) hx hb hts (inT inX5) hown hK hP 42 ww_42 rfl 9 (by decide) (hts (.fieldLink RX5 27 "BoardMovesModel" "groups" "[I") (List.mem_cons_of_mem _ flX5_27)) (fun _ h9 => h9) rfl dX5_group_72 ?_
              refine lv_iload_n hx hb dX5_group_75 rfl (lv_at hl 3 rfl) ?_
              refine bm_nald (f := ma.2.2.2.2.2.1) hx hb hK hP 48 1 ww_48 rfl (j := k_zB) (by omega) (by decide) dX5_group_76 ?_
              refine bm_ni_ge (x := (ma.2.2.2.2.2.1 k_zA)) (y := (ma.2.2.2.2.2.1 k_zB)) (tgt := 89) hx hb (bm40 (ok_ma_groups _)) (bm40 (ok_ma_groups _)) dX5_group_77 (by decide) (fun c_40 => ?_) (fun c_40 => ?_)
              · refine lv_aload_n hx hb dX5_group_89 rfl (lv_at hl 1 rfl) ?_
                refine va_get (D := D) (ci := 5) (v := .ref (ad 48)) (C := RX5) (T := TX5) (N := 28) hx hb hts (inT inX5) hown hK hP 42 ww_42 rfl 9 (by decide) (hts (.fieldLink RX5 27 "BoardMovesModel" "groups" "[I") (List.mem_cons_of_mem _ flX5_27)) (fun _ h9 => h9) rfl dX5_group_90 ?_
                refine lv_iload_n hx hb dX5_group_93 rfl (lv_at hl 2 rfl) ?_
                refine bm_nald (f := ma.2.2.2.2.2.1) hx hb hK hP 48 1 ww_48 rfl (j := k_zA) (by omega) (by decide) dX5_group_94 ?_
                refine lv_istore (lv' := [(4, .int (nI (ma.2.2.2.2.2.1 k_zA))), (3, .int (nI (ma.2.2.2.2.2.1 k_zA))), (0, .ref (ad 42)), (1, .int (nI k_zA)), (2, .int (nI k_zB))]) hx hb dX5_group_95 hl (by decide) rfl (fun ls hl => ?_)
                refine lv_iconst (v := nI 0) hx hb dX5_group_97 (by decide) ?_
                refine lv_istore (lv' := [(5, .int (nI 0)), (4, .int (nI (ma.2.2.2.2.2.1 k_zA))), (3, .int (nI (ma.2.2.2.2.2.1 k_zA))), (0, .ref (ad 42)), (1, .int (nI k_zA)), (2, .int (nI k_zB))]) hx hb dX5_group_98 hl (by decide) rfl (fun ls hl => ?_)
                refine lv_iconst (v := nI 0) hx hb dX5_group_100 (by decide) ?_
                refine lv_istore (lv' := [(6, .int (nI 0)), (5, .int (nI 0)), (4, .int (nI (ma.2.2.2.2.2.1 k_zA))), (3, .int (nI (ma.2.2.2.2.2.1 k_zA))), (0, .ref (ad 42)), (1, .int (nI k_zA)), (2, .int (nI k_zB))]) hx hb dX5_group_101 hl (by decide) rfl (fun ls hl => ?_)
                have lp_41 : ∀ (k_43 : Nat) (i_42 : Nat) (v_45 : Int32) (g_46 : Nat → Nat), i_42 ≤ ms.2.2.1 → ms.2.2.1 < i_42 + k_43 → (∀ i, g_46 i < 40) → ∀ (H : Heap) (locs : List Loc), va_P D vwCl (WW ad cJ cI cZ bm pa p0 p1 p2 li wi (0) ms (ma.1, ma.2.1, ma.2.2.1, ma.2.2.2.1, ma.2.2.2.2.1, g_46, ma.2.2.2.2.2.2) mp mk mn ou) H → va_D A (WW ad cJ cI cZ bm pa p0 p1 p2 li wi (0) ms (ma.1, ma.2.1, ma.2.2.1, ma.2.2.2.1, ma.2.2.2.2.1, g_46, ma.2.2.2.2.2.2) mp mk mn ou) → va_S A s.heap H locs → ∀ (ls : Array Slot), lv_has ls 7 [(6, .int (nI i_42)), (5, .int v_45), (4, .int (nI (ma.2.2.2.2.2.1 k_zA))), (3, .int (nI (ma.2.2.2.2.2.1 k_zA))), (0, .ref (ad 42)), (1, .int (nI k_zA)), (2, .int (nI k_zB))] → W p l e (headSpec wsX5_group ({ frames := 1, cells := 0, slots := 0, locals := 21 })).room s m args below meth c H locs 0 0 (MQ below (bm_Wxq D vwCl [(cJ, .long), (cI, .int), (cZ, .boolean)] (PMI ad cJ cI cZ bm pa p0 p1 p2 li wi mt ms ma mp mk mn ou) A) args s 0 0 A) (F0 m 103 ls []) := by
                  intro k_43
                  induction k_43 with
                  | zero => intro i_42 v_45 g_46 hi_48 hk_49; exfalso; omega
                  | succ k_43 ih_44 =>
                    intro i_42 v_45 g_46 hi_48 hk_49 ok_47 H locs hP hD hS ls hl
                    refine lv_iload hx hb dX5_group_103 (lv_at hl 0 rfl) ?_
                    refine lv_aload_n hx hb dX5_group_105 rfl (lv_at hl 4 rfl) ?_
                    refine va_get (D := D) (ci := 5) (v := .int (nI ms.2.2.1)) (C := RX5) (T := TX5) (N := 28) hx hb hts (inT inX5) hown hK hP 42 ww_42 rfl 3 (by decide) (hts (.fieldLink RX5 85 "BoardMovesModel" "parts" "I") (List.mem_cons_of_mem _ flX5_85)) (fun _ h9 => h9) rfl dX5_group_106 ?_
                    refine bm_ni_ge (x := i_42) (y := ms.2.2.1) (tgt := 159) hx hb (by omega) (by omega) dX5_group_109 (by decide) (fun c_50 => ?_) (fun c_50 => ?_)
                    · refine lv_iload hx hb dX5_group_159 (lv_at hl 1 rfl) ?_
                      exact bm_iretX (v := v_45) hx hb hr hP hD hK hS ⟨(0), ms, (ma.1, ma.2.1, ma.2.2.1, ma.2.2.2.1, ma.2.2.2.2.1, g_46, ma.2.2.2.2.2.2), mp, mk, mn, ⟨ok_ms_parts, ok_ms_outs, ok_ms_nears, ok_ms_nets, ok_ms_pins, ok_ma_sides, ok_47, ok_mp_turns, ok_mk_nearOne, ok_mk_nearTwo, ok_mn_pinNet, ok_mn_pinPart, hw, hh⟩, rfl, rfl, v_45, rfl⟩ dX5_group_161 hlocks
                    · refine lv_aload_n hx hb dX5_group_112 rfl (lv_at hl 4 rfl) ?_
                      refine va_get (D := D) (ci := 5) (v := .ref (ad 48)) (C := RX5) (T := TX5) (N := 28) hx hb hts (inT inX5) hown hK hP 42 ww_42 rfl 9 (by decide) (hts (.fieldLink RX5 27 "BoardMovesModel" "groups" "[I") (List.mem_cons_of_mem _ flX5_27)) (fun _ h9 => h9) rfl dX5_group_113 ?_
                      refine lv_iload hx hb dX5_group_116 (lv_at hl 0 rfl) ?_
                      refine bm_nald (f := g_46) hx hb hK hP 48 1 ww_48 rfl (j := i_42) (by omega) (by decide) dX5_group_118 ?_
                      refine lv_iload hx hb dX5_group_119 (lv_at hl 2 rfl) ?_
                      refine bm_ni_ne (x := (g_46 i_42)) (y := (ma.2.2.2.2.2.1 k_zA)) (tgt := 132) hx hb (bm40 (ok_47 _)) (bm40 (ok_ma_groups _)) dX5_group_121 (by decide) (fun c_51 => ?_) (fun c_51 => ?_)
                      · refine lv_iload hx hb dX5_group_132 (lv_at hl 1 rfl) ?_
                        refine lv_aload_n hx hb dX5_group_134 rfl (lv_at hl 4 rfl) ?_
                        refine va_get (D := D) (ci := 5) (v := .ref (ad 48)) (C := RX5) (T := TX5) (N := 28) hx hb hts (inT inX5) hown hK hP 42 ww_42 rfl 9 (by decide) (hts (.fieldLink RX5 27 "BoardMovesModel" "groups" "[I") (List.mem_cons_of_mem _ flX5_27)) (fun _ h9 => h9) rfl dX5_group_135 ?_
                        refine lv_iload hx hb dX5_group_138 (lv_at hl 0 rfl) ?_
                        refine bm_nald (f := g_46) hx hb hK hP 48 1 ww_48 rfl (j := i_42) (by omega) (by decide) dX5_group_140 ?_
                        refine lv_iload_n hx hb dX5_group_141 rfl (lv_at hl 3 rfl) ?_
                        refine bm_ni_ne (x := (g_46 i_42)) (y := (ma.2.2.2.2.2.1 k_zA)) (tgt := 149) hx hb (bm40 (ok_47 _)) (bm40 (ok_ma_groups _)) dX5_group_142 (by decide) (fun c_52 => ?_) (fun c_52 => ?_)
                        · refine lv_iconst (v := nI 0) hx hb dX5_group_149 (by decide) ?_
                          refine lv_iadd hx hb dX5_group_150 ?_
                          refine lv_topi (fun t_53 _ => ?_)
                          refine lv_istore (lv' := [(5, .int t_53), (6, .int (nI i_42)), (4, .int (nI (ma.2.2.2.2.2.1 k_zA))), (3, .int (nI (ma.2.2.2.2.2.1 k_zA))), (0, .ref (ad 42)), (1, .int (nI k_zA)), (2, .int (nI k_zB))]) hx hb dX5_group_151 hl (by decide) rfl (fun ls hl => ?_)
                          refine lv_iinc (v := (nI (i_42 + 1))) (lv' := [(6, .int (nI (i_42 + 1))), (5, .int t_53), (4, .int (nI (ma.2.2.2.2.2.1 k_zA))), (3, .int (nI (ma.2.2.2.2.2.1 k_zA))), (0, .ref (ad 42)), (1, .int (nI k_zA)), (2, .int (nI k_zB))]) hx hb dX5_group_153 hl (k := 1) rfl (nI_1 i_42) (by decide) rfl (fun ls hl => ?_)
                          refine lv_goto (tgt := 103) hx hb dX5_group_156 (by decide) ?_
                          exact ih_44 (i_42 + 1) t_53 g_46 (by omega) (by omega) ok_47 _ _ hP hD hS _ (lv_sub hl [0, 1, 2, 3, 4, 5, 6] rfl)
                        · refine lv_iconst (v := nI 1) hx hb dX5_group_145 (by decide) ?_
                          refine lv_goto (tgt := 150) hx hb dX5_group_146 (by decide) ?_
                          refine lv_iadd hx hb dX5_group_150 ?_
                          refine lv_topi (fun t_54 _ => ?_)
                          refine lv_istore (lv' := [(5, .int t_54), (6, .int (nI i_42)), (4, .int (nI (ma.2.2.2.2.2.1 k_zA))), (3, .int (nI (ma.2.2.2.2.2.1 k_zA))), (0, .ref (ad 42)), (1, .int (nI k_zA)), (2, .int (nI k_zB))]) hx hb dX5_group_151 hl (by decide) rfl (fun ls hl => ?_)
                          refine lv_iinc (v := (nI (i_42 + 1))) (lv' := [(6, .int (nI (i_42 + 1))), (5, .int t_54), (4, .int (nI (ma.2.2.2.2.2.1 k_zA))), (3, .int (nI (ma.2.2.2.2.2.1 k_zA))), (0, .ref (ad 42)), (1, .int (nI k_zA)), (2, .int (nI k_zB))]) hx hb dX5_group_153 hl (k := 1) rfl (nI_1 i_42) (by decide) rfl (fun ls hl => ?_)
                          refine lv_goto (tgt := 103) hx hb dX5_group_156 (by decide) ?_
                          exact ih_44 (i_42 + 1) t_54 g_46 (by omega) (by omega) ok_47 _ _ hP hD hS _ (lv_sub hl [0, 1, 2, 3, 4, 5, 6] rfl)
                      · refine lv_aload_n hx hb dX5_group_124 rfl (lv_at hl 4 rfl) ?_
                        refine va_get (D := D) (ci := 5) (v := .ref (ad 48)) (C := RX5) (T := TX5) (N := 28) hx hb hts (inT inX5) hown hK hP 42 ww_42 rfl 9 (by decide) (hts (.fieldLink RX5 27 "BoardMovesModel" "groups" "[I") (List.mem_cons_of_mem _ flX5_27)) (fun _ h9 => h9) rfl dX5_group_125 ?_
                        refine lv_iload hx hb dX5_group_128 (lv_at hl 0 rfl) ?_
                        refine lv_iload_n hx hb dX5_group_130 rfl (lv_at hl 3 rfl) ?_
                        refine bm_nast (f := g_46) hx hb hK hP hD hS 48 1 ww_48 rfl (j := i_42) (x := (ma.2.2.2.2.2.1 k_zA)) (by omega) (by decide) dX5_group_131 (fun H locs hP hD hS => ?_)
                        have hP : va_P D vwCl (WW ad cJ cI cZ bm pa p0 p1 p2 li wi (0) ms (ma.1, ma.2.1, ma.2.2.1, ma.2.2.2.1, ma.2.2.2.2.1, va_up g_46 i_42 (ma.2.2.2.2.2.1 k_zA), ma.2.2.2.2.2.2) mp mk mn ou) H := hP
                        have hD : va_D A (WW ad cJ cI cZ bm pa p0 p1 p2 li wi (0) ms (ma.1, ma.2.1, ma.2.2.1, ma.2.2.2.1, ma.2.2.2.2.1, va_up g_46 i_42 (ma.2.2.2.2.2.1 k_zA), ma.2.2.2.2.2.2) mp mk mn ou) := hD
                        refine lv_iload hx hb dX5_group_132 (lv_at hl 1 rfl) ?_
                        refine lv_aload_n hx hb dX5_group_134 rfl (lv_at hl 4 rfl) ?_
                        refine va_get (D := D) (ci := 5) (v := .ref (ad 48)) (C := RX5) (T := TX5) (N := 28) hx hb hts (inT inX5) hown hK hP 42 ww_42 rfl 9 (by decide) (hts (.fieldLink RX5 27 "BoardMovesModel" "groups" "[I") (List.mem_cons_of_mem _ flX5_27)) (fun _ h9 => h9) rfl dX5_group_135 ?_
                        refine lv_iload hx hb dX5_group_138 (lv_at hl 0 rfl) ?_
                        refine bm_nald (f := (va_up g_46 i_42 (ma.2.2.2.2.2.1 k_zA))) hx hb hK hP 48 1 ww_48 rfl (j := i_42) (by omega) (by decide) dX5_group_140 ?_
                        refine lv_iload_n hx hb dX5_group_141 rfl (lv_at hl 3 rfl) ?_
                        refine bm_ni_ne (x := ((va_up g_46 i_42 (ma.2.2.2.2.2.1 k_zA)) i_42)) (y := (ma.2.2.2.2.2.1 k_zA)) (tgt := 149) hx hb (bm40 ((bx_uplt ok_47 (ok_ma_groups _)) _)) (bm40 (ok_ma_groups _)) dX5_group_142 (by decide) (fun c_55 => ?_) (fun c_55 => ?_)
                        · refine lv_iconst (v := nI 0) hx hb dX5_group_149 (by decide) ?_
                          refine lv_iadd hx hb dX5_group_150 ?_
                          refine lv_topi (fun t_56 _ => ?_)
                          refine lv_istore (lv' := [(5, .int t_56), (6, .int (nI i_42)), (4, .int (nI (ma.2.2.2.2.2.1 k_zA))), (3, .int (nI (ma.2.2.2.2.2.1 k_zA))), (0, .ref (ad 42)), (1, .int (nI k_zA)), (2, .int (nI k_zB))]) hx hb dX5_group_151 hl (by decide) rfl (fun ls hl => ?_)
                          refine lv_iinc (v := (nI (i_42 + 1))) (lv' := [(6, .int (nI (i_42 + 1))), (5, .int t_56), (4, .int (nI (ma.2.2.2.2.2.1 k_zA))), (3, .int (nI (ma.2.2.2.2.2.1 k_zA))), (0, .ref (ad 42)), (1, .int (nI k_zA)), (2, .int (nI k_zB))]) hx hb dX5_group_153 hl (k := 1) rfl (nI_1 i_42) (by decide) rfl (fun ls hl => ?_)
                          refine lv_goto (tgt := 103) hx hb dX5_group_156 (by decide) ?_
                          exact ih_44 (i_42 + 1) t_56 (va_up g_46 i_42 (ma.2.2.2.2.2.1 k_zA)) (by omega) (by omega) (bx_uplt ok_47 (ok_ma_groups _)) _ _ hP hD hS _ (lv_sub hl [0, 1, 2, 3, 4, 5, 6] rfl)
                        · refine lv_iconst (v := nI 1) hx hb dX5_group_145 (by decide) ?_
                          refine lv_goto (tgt := 150) hx hb dX5_group_146 (by decide) ?_
                          refine lv_iadd hx hb dX5_group_150 ?_
                          refine lv_topi (fun t_57 _ => ?_)
                          refine lv_istore (lv' := [(5, .int t_57), (6, .int (nI i_42)), (4, .int (nI (ma.2.2.2.2.2.1 k_zA))), (3, .int (nI (ma.2.2.2.2.2.1 k_zA))), (0, .ref (ad 42)), (1, .int (nI k_zA)), (2, .int (nI k_zB))]) hx hb dX5_group_151 hl (by decide) rfl (fun ls hl => ?_)
                          refine lv_iinc (v := (nI (i_42 + 1))) (lv' := [(6, .int (nI (i_42 + 1))), (5, .int t_57), (4, .int (nI (ma.2.2.2.2.2.1 k_zA))), (3, .int (nI (ma.2.2.2.2.2.1 k_zA))), (0, .ref (ad 42)), (1, .int (nI k_zA)), (2, .int (nI k_zB))]) hx hb dX5_group_153 hl (k := 1) rfl (nI_1 i_42) (by decide) rfl (fun ls hl => ?_)
                          refine lv_goto (tgt := 103) hx hb dX5_group_156 (by decide) ?_
                          exact ih_44 (i_42 + 1) t_57 (va_up g_46 i_42 (ma.2.2.2.2.2.1 k_zA)) (by omega) (by omega) (bx_uplt ok_47 (ok_ma_groups _)) _ _ hP hD hS _ (lv_sub hl [0, 1, 2, 3, 4, 5, 6] rfl)
                exact lp_41 (ms.2.2.1 + 1) 0 0 ma.2.2.2.2.2.1 (by omega) (by omega) ok_ma_groups _ _ hP hD hS _ (lv_sub hl [0, 1, 2, 3, 4, 5, 6] rfl)
              · refine lv_aload_n hx hb dX5_group_80 rfl (lv_at hl 1 rfl) ?_
                refine va_get (D := D) (ci := 5) (v := .ref (ad 48)) (C := RX5) (T := TX5) (N := 28) hx hb hts (inT inX5) hown hK hP 42 ww_42 rfl 9 (by decide) (hts (.fieldLink RX5 27 "BoardMovesModel" "groups" "[I") (List.mem_cons_of_mem _ flX5_27)) (fun _ h9 => h9) rfl dX5_group_81 ?_
                refine lv_iload_n hx hb dX5_group_84 rfl (lv_at hl 3 rfl) ?_
                refine bm_nald (f := ma.2.2.2.2.2.1) hx hb hK hP 48 1 ww_48 rfl (j := k_zB) (by omega) (by decide) dX5_group_85 ?_
                refine lv_goto (tgt := 95) hx hb dX5_group_86 (by decide) ?_
                refine lv_istore (lv' := [(4, .int (nI (ma.2.2.2.2.2.1 k_zB))), (3, .int (nI (ma.2.2.2.2.2.1 k_zA))), (0, .ref (ad 42)), (1, .int (nI k_zA)), (2, .int (nI k_zB))]) hx hb dX5_group_95 hl (by decide) rfl (fun ls hl => ?_)
                refine lv_iconst (v := nI 0) hx hb dX5_group_97 (by decide) ?_
                refine lv_istore (lv' := [(5, .int (nI 0)), (4, .int (nI (ma.2.2.2.2.2.1 k_zB))), (3, .int (nI (ma.2.2.2.2.2.1 k_zA))), (0, .ref (ad 42)), (1, .int (nI k_zA)), (2, .int (nI k_zB))]) hx hb dX5_group_98 hl (by decide) rfl (fun ls hl => ?_)
                refine lv_iconst (v := nI 0) hx hb dX5_group_100 (by decide) ?_
                refine lv_istore (lv' := [(6, .int (nI 0)), (5, .int (nI 0)), (4, .int (nI (ma.2.2.2.2.2.1 k_zB))), (3, .int (nI (ma.2.2.2.2.2.1 k_zA))), (0, .ref (ad 42)), (1, .int (nI k_zA)), (2, .int (nI k_zB))]) hx hb dX5_group_101 hl (by decide) rfl (fun ls hl => ?_)
                have lp_58 : ∀ (k_60 : Nat) (i_59 : Nat) (v_62 : Int32) (g_63 : Nat → Nat), i_59 ≤ ms.2.2.1 → ms.2.2.1 < i_59 + k_60 → (∀ i, g_63 i < 40) → ∀ (H : Heap) (locs : List Loc), va_P D vwCl (WW ad cJ cI cZ bm pa p0 p1 p2 li wi (0) ms (ma.1, ma.2.1, ma.2.2.1, ma.2.2.2.1, ma.2.2.2.2.1, g_63, ma.2.2.2.2.2.2) mp mk mn ou) H → va_D A (WW ad cJ cI cZ bm pa p0 p1 p2 li wi (0) ms (ma.1, ma.2.1, ma.2.2.1, ma.2.2.2.1, ma.2.2.2.2.1, g_63, ma.2.2.2.2.2.2) mp mk mn ou) → va_S A s.heap H locs → ∀ (ls : Array Slot), lv_has ls 7 [(6, .int (nI i_59)), (5, .int v_62), (4, .int (nI (ma.2.2.2.2.2.1 k_zB))), (3, .int (nI (ma.2.2.2.2.2.1 k_zA))), (0, .ref (ad 42)), (1, .int (nI k_zA)), (2, .int (nI k_zB))] → W p l e (headSpec wsX5_group ({ frames := 1, cells := 0, slots := 0, locals := 21 })).room s m args below meth c H locs 0 0 (MQ below (bm_Wxq D vwCl [(cJ, .long), (cI, .int), (cZ, .boolean)] (PMI ad cJ cI cZ bm pa p0 p1 p2 li wi mt ms ma mp mk mn ou) A) args s 0 0 A) (F0 m 103 ls []) := by
                  intro k_60
                  induction k_60 with
                  | zero => intro i_59 v_62 g_63 hi_65 hk_66; exfalso; omega
                  | succ k_60 ih_61 =>
                    intro i_59 v_62 g_63 hi_65 hk_66 ok_64 H locs hP hD hS ls hl
                    refine lv_iload hx hb dX5_group_103 (lv_at hl 0 rfl) ?_
                    refine lv_aload_n hx hb dX5_group_105 rfl (lv_at hl 4 rfl) ?_
                    refine va_get (D := D) (ci := 5) (v := .int (nI ms.2.2.1)) (C := RX5) (T := TX5) (N := 28) hx hb hts (inT inX5) hown hK hP 42 ww_42 rfl 3 (by decide) (hts (.fieldLink RX5 85 "BoardMovesModel" "parts" "I") (List.mem_cons_of_mem _ flX5_85)) (fun _ h9 => h9) rfl dX5_group_106 ?_
                    refine bm_ni_ge (x := i_59) (y := ms.2.2.1) (tgt := 159) hx hb (by omega) (by omega) dX5_group_109 (by decide) (fun c_67 => ?_) (fun c_67 => ?_)
                    · refine lv_iload hx hb dX5_group_159 (lv_at hl 1 rfl) ?_
                      exact bm_iretX (v := v_62) hx hb hr hP hD hK hS ⟨(0), ms, (ma.1, ma.2.1, ma.2.2.1, ma.2.2.2.1, ma.2.2.2.2.1, g_63, ma.2.2.2.2.2.2), mp, mk, mn, ⟨ok_ms_parts, ok_ms_outs, ok_ms_nears, ok_ms_nets, ok_ms_pins, ok_ma_sides, ok_64, ok_mp_turns, ok_mk_nearOne, ok_mk_nearTwo, ok_mn_pinNet, ok_mn_pinPart, hw, hh⟩, rfl, rfl, v_62, rfl⟩ dX5_group_161 hlocks
                    · refine lv_aload_n hx hb dX5_group_112 rfl (lv_at hl 4 rfl) ?_
                      refine va_get (D := D) (ci := 5) (v := .ref (ad 48)) (C := RX5) (T := TX5) (N := 28) hx hb hts (inT inX5) hown hK hP 42 ww_42 rfl 9 (by decide) (hts (.fieldLink RX5 27 "BoardMovesModel" "groups" "[I") (List.mem_cons_of_mem _ flX5_27)) (fun _ h9 => h9) rfl dX5_group_113 ?_
                      refine lv_iload hx hb dX5_group_116 (lv_at hl 0 rfl) ?_
                      refine bm_nald (f := g_63) hx hb hK hP 48 1 ww_48 rfl (j := i_59) (by omega) (by decide) dX5_group_118 ?_
                      refine lv_iload hx hb dX5_group_119 (lv_at hl 2 rfl) ?_
                      refine bm_ni_ne (x := (g_63 i_59)) (y := (ma.2.2.2.2.2.1 k_zB)) (tgt := 132) hx hb (bm40 (ok_64 _)) (bm40 (ok_ma_groups _)) dX5_group_121 (by decide) (fun c_68 => ?_) (fun c_68 => ?_)
                      · refine lv_iload hx hb dX5_group_132 (lv_at hl 1 rfl) ?_
                        refine lv_aload_n hx hb dX5_group_134 rfl (lv_at hl 4 rfl) ?_
                        refine va_get (D := D) (ci := 5) (v := .ref (ad 48)) (C := RX5) (T := TX5) (N := 28) hx hb hts (inT inX5) hown hK hP 42 ww_42 rfl 9 (by decide) (hts (.fieldLink RX5 27 "BoardMovesModel" "groups" "[I") (List.mem_cons_of_mem _ flX5_27)) (fun _ h9 => h9) rfl dX5_group_135 ?_
                        refine lv_iload hx hb dX5_group_138 (lv_at hl 0 rfl) ?_
                        refine bm_nald (f := g_63) hx hb hK hP 48 1 ww_48 rfl (j := i_59) (by omega) (by decide) dX5_group_140 ?_
                        refine lv_iload_n hx hb dX5_group_141 rfl (lv_at hl 3 rfl) ?_
                        refine bm_ni_ne (x := (g_63 i_59)) (y := (ma.2.2.2.2.2.1 k_zA)) (tgt := 149) hx hb (bm40 (ok_64 _)) (bm40 (ok_ma_groups _)) dX5_group_142 (by decide) (fun c_69 => ?_) (fun c_69 => ?_)
                        · refine lv_iconst (v := nI 0) hx hb dX5_group_149 (by decide) ?_
                          refine lv_iadd hx hb dX5_group_150 ?_
                          refine lv_topi (fun t_70 _ => ?_)
                          refine lv_istore (lv' := [(5, .int t_70), (6, .int (nI i_59)), (4, .int (nI (ma.2.2.2.2.2.1 k_zB))), (3, .int (nI (ma.2.2.2.2.2.1 k_zA))), (0, .ref (ad 42)), (1, .int (nI k_zA)), (2, .int (nI k_zB))]) hx hb dX5_group_151 hl (by decide) rfl (fun ls hl => ?_)
                          refine lv_iinc (v := (nI (i_59 + 1))) (lv' := [(6, .int (nI (i_59 + 1))), (5, .int t_70), (4, .int (nI (ma.2.2.2.2.2.1 k_zB))), (3, .int (nI (ma.2.2.2.2.2.1 k_zA))), (0, .ref (ad 42)), (1, .int (nI k_zA)), (2, .int (nI k_zB))]) hx hb dX5_group_153 hl (k := 1) rfl (nI_1 i_59) (by decide) rfl (fun ls hl => ?_)
                          refine lv_goto (tgt := 103) hx hb dX5_group_156 (by decide) ?_
                          exact ih_61 (i_59 + 1) t_70 g_63 (by omega) (by omega) ok_64 _ _ hP hD hS _ (lv_sub hl [0, 1, 2, 3, 4, 5, 6] rfl)
                        · refine lv_iconst (v := nI 1) hx hb dX5_group_145 (by decide) ?_
                          refine lv_goto (tgt := 150) hx hb dX5_group_146 (by decide) ?_
                          refine lv_iadd hx hb dX5_group_150 ?_
                          refine lv_topi (fun t_71 _ => ?_)
                          refine lv_istore (lv' := [(5, .int t_71), (6, .int (nI i_59)), (4, .int (nI (ma.2.2.2.2.2.1 k_zB))), (3, .int (nI (ma.2.2.2.2.2.1 k_zA))), (0, .ref (ad 42)), (1, .int (nI k_zA)), (2, .int (nI k_zB))]) hx hb dX5_group_151 hl (by decide) rfl (fun ls hl => ?_)
                          refine lv_iinc (v := (nI (i_59 + 1))) (lv' := [(6, .int (nI (i_59 + 1))), (5, .int t_71), (4, .int (nI (ma.2.2.2.2.2.1 k_zB))), (3, .int (nI (ma.2.2.2.2.2.1 k_zA))), (0, .ref (ad 42)), (1, .int (nI k_zA)), (2, .int (nI k_zB))]) hx hb dX5_group_153 hl (k := 1) rfl (nI_1 i_59) (by decide) rfl (fun ls hl => ?_)
                          refine lv_goto (tgt := 103) hx hb dX5_group_156 (by decide) ?_
                          exact ih_61 (i_59 + 1) t_71 g_63 (by omega) (by omega) ok_64 _ _ hP hD hS _ (lv_sub hl [0, 1, 2, 3, 4, 5, 6] rfl)
                      · refine lv_aload_n hx hb dX5_group_124 rfl (lv_at hl 4 rfl) ?_
                        refine va_get (D := D) (ci := 5) (v := .ref (ad 48)) (C := RX5) (T := TX5) (N := 28) hx hb hts (inT inX5) hown hK hP 42 ww_42 rfl 9 (by decide) (hts (.fieldLink RX5 27 "BoardMovesModel" "groups" "[I") (List.mem_cons_of_mem _ flX5_27)) (fun _ h9 => h9) rfl dX5_group_125 ?_
                        refine lv_iload hx hb dX5_group_128 (lv_at hl 0 rfl) ?_
                        refine lv_iload_n hx hb dX5_group_130 rfl (lv_at hl 3 rfl) ?_
                        refine bm_nast (f := g_63) hx hb hK hP hD hS 48 1 ww_48 rfl (j := i_59) (x := (ma.2.2.2.2.2.1 k_zA)) (by omega) (by decide) dX5_group_131 (fun H locs hP hD hS => ?_)
                        have hP : va_P D vwCl (WW ad cJ cI cZ bm pa p0 p1 p2 li wi (0) ms (ma.1, ma.2.1, ma.2.2.1, ma.2.2.2.1, ma.2.2.2.2.1, va_up g_63 i_59 (ma.2.2.2.2.2.1 k_zA), ma.2.2.2.2.2.2) mp mk mn ou) H := hP
                        have hD : va_D A (WW ad cJ cI cZ bm pa p0 p1 p2 li wi (0) ms (ma.1, ma.2.1, ma.2.2.1, ma.2.2.2.1, ma.2.2.2.2.1, va_up g_63 i_59 (ma.2.2.2.2.2.1 k_zA), ma.2.2.2.2.2.2) mp mk mn ou) := hD
                        refine lv_iload hx hb dX5_group_132 (lv_at hl 1 rfl) ?_
                        refine lv_aload_n hx hb dX5_group_134 rfl (lv_at hl 4 rfl) ?_
                        refine va_get (D := D) (ci := 5) (v := .ref (ad 48)) (C := RX5) (T := TX5) (N := 28) hx hb hts (inT inX5) hown hK hP 42 ww_42 rfl 9 (by decide) (hts (.fieldLink RX5 27 "BoardMovesModel" "groups" "[I") (List.mem_cons_of_mem _ flX5_27)) (fun _ h9 => h9) rfl dX5_group_135 ?_
                        refine lv_iload hx hb dX5_group_138 (lv_at hl 0 rfl) ?_
                        refine bm_nald (f := (va_up g_63 i_59 (ma.2.2.2.2.2.1 k_zA))) hx hb hK hP 48 1 ww_48 rfl (j := i_59) (by omega) (by decide) dX5_group_140 ?_
                        refine lv_iload_n hx hb dX5_group_141 rfl (lv_at hl 3 rfl) ?_
                        refine bm_ni_ne (x := ((va_up g_63 i_59 (ma.2.2.2.2.2.1 k_zA)) i_59)) (y := (ma.2.2.2.2.2.1 k_zA)) (tgt := 149) hx hb (bm40 ((bx_uplt ok_64 (ok_ma_groups _)) _)) (bm40 (ok_ma_groups _)) dX5_group_142 (by decide) (fun c_72 => ?_) (fun c_72 => ?_)
                        · refine lv_iconst (v := nI 0) hx hb dX5_group_149 (by decide) ?_
                          refine lv_iadd hx hb dX5_group_150 ?_
                          refine lv_topi (fun t_73 _ => ?_)
                          refine lv_istore (lv' := [(5, .int t_73), (6, .int (nI i_59)), (4, .int (nI (ma.2.2.2.2.2.1 k_zB))), (3, .int (nI (ma.2.2.2.2.2.1 k_zA))), (0, .ref (ad 42)), (1, .int (nI k_zA)), (2, .int (nI k_zB))]) hx hb dX5_group_151 hl (by decide) rfl (fun ls hl => ?_)
                          refine lv_iinc (v := (nI (i_59 + 1))) (lv' := [(6, .int (nI (i_59 + 1))), (5, .int t_73), (4, .int (nI (ma.2.2.2.2.2.1 k_zB))), (3, .int (nI (ma.2.2.2.2.2.1 k_zA))), (0, .ref (ad 42)), (1, .int (nI k_zA)), (2, .int (nI k_zB))]) hx hb dX5_group_153 hl (k := 1) rfl (nI_1 i_59) (by decide) rfl (fun ls hl => ?_)
                          refine lv_goto (tgt := 103) hx hb dX5_group_156 (by decide) ?_
                          exact ih_61 (i_59 + 1) t_73 (va_up g_63 i_59 (ma.2.2.2.2.2.1 k_zA)) (by omega) (by omega) (bx_uplt ok_64 (ok_ma_groups _)) _ _ hP hD hS _ (lv_sub hl [0, 1, 2, 3, 4, 5, 6] rfl)
                        · refine lv_iconst (v := nI 1) hx hb dX5_group_145 (by decide) ?_
                          refine lv_goto (tgt := 150) hx hb dX5_group_146 (by decide) ?_
                          refine lv_iadd hx hb dX5_group_150 ?_
                          refine lv_topi (fun t_74 _ => ?_)
                          refine lv_istore (lv' := [(5, .int t_74), (6, .int (nI i_59)), (4, .int (nI (ma.2.2.2.2.2.1 k_zB))), (3, .int (nI (ma.2.2.2.2.2.1 k_zA))), (0, .ref (ad 42)), (1, .int (nI k_zA)), (2, .int (nI k_zB))]) hx hb dX5_group_151 hl (by decide) rfl (fun ls hl => ?_)
                          refine lv_iinc (v := (nI (i_59 + 1))) (lv' := [(6, .int (nI (i_59 + 1))), (5, .int t_74), (4, .int (nI (ma.2.2.2.2.2.1 k_zB))), (3, .int (nI (ma.2.2.2.2.2.1 k_zA))), (0, .ref (ad 42)), (1, .int (nI k_zA)), (2, .int (nI k_zB))]) hx hb dX5_group_153 hl (k := 1) rfl (nI_1 i_59) (by decide) rfl (fun ls hl => ?_)
                          refine lv_goto (tgt := 103) hx hb dX5_group_156 (by decide) ?_
                          exact ih_61 (i_59 + 1) t_74 (va_up g_63 i_59 (ma.2.2.2.2.2.1 k_zA)) (by omega) (by omega) (bx_uplt ok_64 (ok_ma_groups _)) _ _ hP hD hS _ (lv_sub hl [0, 1, 2, 3, 4, 5, 6] rfl)
                exact lp_58 (ms.2.2.1 + 1) 0 0 ma.2.2.2.2.2.1 (by omega) (by omega) ok_ma_groups _ _ hP hD hS _ (lv_sub hl [0, 1, 2, 3, 4, 5, 6] rfl)
          · exact absurd c_3 (by decide)
    · have hl := lv_entry ([.ref (ad 42), .int (nI k_zA), .int zB]) (n := 7) (Nat.le_of_ble_eq_true rfl)
      refine W.eq (g2 := entryFrame m ([.ref (ad 42), .int (nI k_zA), .int zB] : List Value).toArray 7) (by rw [ha]) ?_
      rw [lg_entry_eq]
      generalize (lg_sl ([.ref (ad 42), .int (nI k_zA), .int zB]) ++ List.replicate (7 - (lg_sl ([.ref (ad 42), .int (nI k_zA), .int zB])).length) Slot.unset).toArray = ls at hl ⊢
      have hl : lv_has ls 7 [(0, .ref (ad 42)), (1, .int (nI k_zA)), (2, .int zB)] := hl
      refine lv_aload_n hx hb dX5_group_0 rfl (lv_at hl 0 rfl) ?_
      refine lv_aload_n hx hb dX5_group_1 rfl (lv_at hl 0 rfl) ?_
      refine lv_iload_n hx hb dX5_group_2 rfl (lv_at hl 1 rfl) ?_
      refine bm_rcallV (As := [.int (nI k_zA)]) (rest := [.ref (ad 42)]) ⟨hx, hb, hml, hown, hts⟩ (Y_isPartY  (zp := k_zA) ok_ms_parts (by omega)) (cwV 1 hts gvX5_139 rfl rfl rfl hvX5_isPart ⟨Nat.le_of_ble_eq_true rfl, Nat.le_of_ble_eq_true rfl⟩) hK hP 42 5 rfl ww_42 rfl hl.1 rfl (Nat.le_of_ble_eq_true rfl) dX5_group_3 ⟨Nat.le_of_ble_eq_true rfl, Nat.le_of_ble_eq_true rfl⟩ ?_
      refine bm_zb_eq (x := true) (tgt := 21) hx hb dX5_group_6 (by decide) (fun c_75 => ?_) (fun c_75 => ?_)
      · exact absurd c_75 (by decide)
      · refine lv_aload_n hx hb dX5_group_9 rfl (lv_at hl 0 rfl) ?_
        refine lv_iload_n hx hb dX5_group_10 rfl (lv_at hl 2 rfl) ?_
        refine bm_rcallV (As := [.int zB]) (rest := [.ref (ad 42)]) ⟨hx, hb, hml, hown, hts⟩ (Y_isPartN  (zA := zB) hno_zB) (cwV 1 hts gvX5_139 rfl rfl rfl hvX5_isPart ⟨Nat.le_of_ble_eq_true rfl, Nat.le_of_ble_eq_true rfl⟩) hK hP 42 5 rfl ww_42 rfl hl.1 rfl (Nat.le_of_ble_eq_true rfl) dX5_group_11 ⟨Nat.le_of_ble_eq_true rfl, Nat.le_of_ble_eq_true rfl⟩ ?_
        refine bm_zb_eq (x := false) (tgt := 21) hx hb dX5_group_14 (by decide) (fun c_76 => ?_) (fun c_76 => ?_)
        · refine lv_iconst (v := nI 1) hx hb dX5_group_21 (by decide) ?_
          refine va_put (D := D) (ci := 5) (v := .int (nI 1)) (ty := .int) (C := RX5) (T := TX5) (N := 28) hx hb hts (inT inX5) tyX5 tyX5_ok nmX5 hown hK hP hD hS 42 ww_42 rfl 0 (by decide) (hts (.fieldLink RX5 81 "BoardMovesModel" "thrown" "I") (List.mem_cons_of_mem _ flX5_81)) (fun _ h9 => h9) rfl (by decide +kernel) rfl rfl (Nat.le_of_ble_eq_true rfl) dX5_group_22 (fun H locs hP hD hS => ?_)
          have hP : va_P D vwCl (WW ad cJ cI cZ bm pa p0 p1 p2 li wi (1) ms ma mp mk mn ou) H := hP
          have hD : va_D A (WW ad cJ cI cZ bm pa p0 p1 p2 li wi (1) ms ma mp mk mn ou) := hD
          refine lv_aload_n hx hb dX5_group_25 rfl (lv_at hl 0 rfl) ?_
          refine va_get (D := D) (ci := 5) (v := .int (nI 1)) (C := RX5) (T := TX5) (N := 28) hx hb hts (inT inX5) hown hK hP 42 ww_42 rfl 0 (by decide) (hts (.fieldLink RX5 81 "BoardMovesModel" "thrown" "I") (List.mem_cons_of_mem _ flX5_81)) (fun _ h9 => h9) rfl dX5_group_26 ?_
          refine bm_nz_eq (x := 1) (tgt := 34) hx hb (by decide) dX5_group_29 (by decide) (fun c_77 => ?_) (fun c_77 => ?_)
          · exact absurd c_77 (by decide)
          · refine lv_iconst (v := nI 0) hx hb dX5_group_32 (by decide) ?_
            exact bm_iretX (v := (nI 0)) hx hb hr hP hD hK hS ⟨(1), ms, ma, mp, mk, mn, ⟨ok_ms_parts, ok_ms_outs, ok_ms_nears, ok_ms_nets, ok_ms_pins, ok_ma_sides, ok_ma_groups, ok_mp_turns, ok_mk_nearOne, ok_mk_nearTwo, ok_mn_pinNet, ok_mn_pinPart, hw, hh⟩, rfl, rfl, (nI 0), rfl⟩ dX5_group_33 hlocks
        · exact absurd c_76 (by decide)
  · have hl := lv_entry ([.ref (ad 42), .int zA, .int zB]) (n := 7) (Nat.le_of_ble_eq_true rfl)
    refine W.eq (g2 := entryFrame m ([.ref (ad 42), .int zA, .int zB] : List Value).toArray 7) (by rw [ha]) ?_
    rw [lg_entry_eq]
    generalize (lg_sl ([.ref (ad 42), .int zA, .int zB]) ++ List.replicate (7 - (lg_sl ([.ref (ad 42), .int zA, .int zB])).length) Slot.unset).toArray = ls at hl ⊢
    have hl : lv_has ls 7 [(0, .ref (ad 42)), (1, .int zA), (2, .int zB)] := hl
    refine lv_aload_n hx hb dX5_group_0 rfl (lv_at hl 0 rfl) ?_
    refine lv_aload_n hx hb dX5_group_1 rfl (lv_at hl 0 rfl) ?_
    refine lv_iload_n hx hb dX5_group_2 rfl (lv_at hl 1 rfl) ?_
    refine bm_rcallV (As := [.int zA]) (rest := [.ref (ad 42)]) ⟨hx, hb, hml, hown, hts⟩ (Y_isPartN  (zA := zA) hno_zA) (cwV 1 hts gvX5_139 rfl rfl rfl hvX5_isPart ⟨Nat.le_of_ble_eq_true rfl, Nat.le_of_ble_eq_true rfl⟩) hK hP 42 5 rfl ww_42 rfl hl.1 rfl (Nat.le_of_ble_eq_true rfl) dX5_group_3 ⟨Nat.le_of_ble_eq_true rfl, Nat.le_of_ble_eq_true rfl⟩ ?_
    refine bm_zb_eq (x := false) (tgt := 21) hx hb dX5_group_6 (by decide) (fun c_78 => ?_) (fun c_78 => ?_)
    · refine lv_iconst (v := nI 1) hx hb dX5_group_21 (by decide) ?_
      refine va_put (D := D) (ci := 5) (v := .int (nI 1)) (ty := .int) (C := RX5) (T := TX5) (N := 28) hx hb hts (inT inX5) tyX5 tyX5_ok nmX5 hown hK hP hD hS 42 ww_42 rfl 0 (by decide) (hts (.fieldLink RX5 81 "BoardMovesModel" "thrown" "I") (List.mem_cons_of_mem _ flX5_81)) (fun _ h9 => h9) rfl (by decide +kernel) rfl rfl (Nat.le_of_ble_eq_true rfl) dX5_group_22 (fun H locs hP hD hS => ?_)
      have hP : va_P D vwCl (WW ad cJ cI cZ bm pa p0 p1 p2 li wi (1) ms ma mp mk mn ou) H := hP
      have hD : va_D A (WW ad cJ cI cZ bm pa p0 p1 p2 li wi (1) ms ma mp mk mn ou) := hD
      refine lv_aload_n hx hb dX5_group_25 rfl (lv_at hl 0 rfl) ?_
      refine va_get (D := D) (ci := 5) (v := .int (nI 1)) (C := RX5) (T := TX5) (N := 28) hx hb hts (inT inX5) hown hK hP 42 ww_42 rfl 0 (by decide) (hts (.fieldLink RX5 81 "BoardMovesModel" "thrown" "I") (List.mem_cons_of_mem _ flX5_81)) (fun _ h9 => h9) rfl dX5_group_26 ?_
      refine bm_nz_eq (x := 1) (tgt := 34) hx hb (by decide) dX5_group_29 (by decide) (fun c_79 => ?_) (fun c_79 => ?_)
      · exact absurd c_79 (by decide)
      · refine lv_iconst (v := nI 0) hx hb dX5_group_32 (by decide) ?_
        exact bm_iretX (v := (nI 0)) hx hb hr hP hD hK hS ⟨(1), ms, ma, mp, mk, mn, ⟨ok_ms_parts, ok_ms_outs, ok_ms_nears, ok_ms_nets, ok_ms_pins, ok_ma_sides, ok_ma_groups, ok_mp_turns, ok_mk_nearOne, ok_mk_nearTwo, ok_mn_pinNet, ok_mn_pinPart, hw, hh⟩, rfl, rfl, (nI 0), rfl⟩ dX5_group_33 hlocks
    · exact absurd c_78 (by decide)

set_option maxHeartbeats 16000000 in
set_option maxRecDepth 100000 in
theorem Y_pin {l : Launch} {D : va_G} {ad : Nat → Nat} {cJ cI cZ : ClassId} {bm : gBM} {pa : gPA} {p0 p1 p2 : gPL} {li : gLI} {wi : gWI} {mt : Nat} {ms : gMS} {ma : gMA} {mp : gMP} {mk : gMK} {mn : gMN} {ou : Nat → Int64} {zA : Int32} {zB : Int32} {zC : Int64} {zD : Int64} (hok : okM ms ma mp mk mn)  : bm_Wx l yX5_pin wsX5_pin ({ frames := 1, cells := 0, slots := 0, locals := 21 }) D vwCl [(cJ, .long), (cI, .int), (cZ, .boolean)] (WW ad cJ cI cZ bm pa p0 p1 p2 li wi mt ms ma mp mk mn ou) [.ref (ad 42), .int zA, .int zB, .long zC, .long zD] (PMZ ad cJ cI cZ bm pa p0 p1 p2 li wi mt ms ma mp mk mn ou) := by
  obtain ⟨ok_ms_parts, ok_ms_outs, ok_ms_nears, ok_ms_nets, ok_ms_pins, ok_ma_sides, ok_ma_groups, ok_mp_turns, ok_mk_nearOne, ok_mk_nearTwo, ok_mn_pinNet, ok_mn_pinPart, hw, hh⟩ := hok
  intro sz
  refine Met.ofW (cc := cX5_pin) (maxL := 9) (ret := (some .boolean)) (by decide) rfl ?_
  intro p e s m args below meth c s₁ B hml hv
  obtain ⟨ha, hsz, hP, hK, hD0⟩ := hv
  have hx := B.exec
  have hb := B.bytes
  have hr := B.returns
  have hts := atoms_spec (ws := wsX5_pin) B.pre
  have hown : s.vm.findClass RX5 = some m.cls := findClass_of_methodNamed B.named
  have hlocks := B.notSynchronized
  subst hsz
  have hD := hD0.self (sz := s.heap.size)
  generalize hAe : va_A (WW ad cJ cI cZ bm pa p0 p1 p2 li wi mt ms ma mp mk mn ou) s.heap.size = A at hD ⊢
  have hA : ∀ q : Nat, s.heap.size ≤ q → A q := fun q h => by rw [← hAe]; exact Or.inr h
  have hS : va_S A s.heap s.heap [] := va_S.rf
  rcases bx_idx zA (n := ms.2.2.2.2.2.1) (by omega) with ⟨k_zA, hk_zA, rfl⟩ | hno_zA
  · rcases bx_idx zB (n := ms.2.2.1) (by omega) with ⟨k_zB, hk_zB, rfl⟩ | hno_zB
    · have hl := lv_entry ([.ref (ad 42), .int (nI k_zA), .int (nI k_zB), .long zC, .long zD]) (n := 9) (Nat.le_of_ble_eq_true rfl)
      refine W.eq (g2 := entryFrame m ([.ref (ad 42), .int (nI k_zA), .int (nI k_zB), .long zC, .long zD] : List Value).toArray 9) (by rw [ha]) ?_
      rw [lg_entry_eq]
      generalize (lg_sl ([.ref (ad 42), .int (nI k_zA), .int (nI k_zB), .long zC, .long zD]) ++ List.replicate (9 - (lg_sl ([.ref (ad 42), .int (nI k_zA), .int (nI k_zB), .long zC, .long zD])).length) Slot.unset).toArray = ls at hl ⊢
      have hl : lv_has ls 9 [(0, .ref (ad 42)), (1, .int (nI k_zA)), (2, .int (nI k_zB)), (3, .long zC), (5, .long zD)] := hl
      refine lv_iload_n hx hb dX5_pin_0 rfl (lv_at hl 1 rfl) ?_
      refine lv_if_lt (x := (nI k_zA)) (tgt := 24) hx hb dX5_pin_1 (by decide) (fun c_1 => ?_) (fun c_1 => ?_)
      · refine lv_iconst (v := bm_b false) hx hb dX5_pin_24 (by decide) ?_
        refine lv_istore (lv' := [(7, .int (bm_b false)), (0, .ref (ad 42)), (1, .int (nI k_zA)), (2, .int (nI k_zB)), (3, .long zC), (5, .long zD)]) hx hb dX5_pin_25 hl (by decide) rfl (fun ls hl => ?_)
        refine lv_iload hx hb dX5_pin_27 (lv_at hl 0 rfl) ?_
        refine bm_zb_eq (x := false) (tgt := 72) hx hb dX5_pin_29 (by decide) (fun c_2 => ?_) (fun c_2 => ?_)
        · refine lv_iconst (v := bm_b false) hx hb dX5_pin_72 (by decide) ?_
          refine lv_istore (lv' := [(8, .int (bm_b false)), (7, .int (bm_b false)), (0, .ref (ad 42)), (1, .int (nI k_zA)), (2, .int (nI k_zB)), (3, .long zC), (5, .long zD)]) hx hb dX5_pin_73 hl (by decide) rfl (fun ls hl => ?_)
          refine lv_aload_n hx hb dX5_pin_75 rfl (lv_at hl 2 rfl) ?_
          refine lv_iload hx hb dX5_pin_76 (lv_at hl 1 rfl) ?_
          refine bm_zb_ne (x := false) (tgt := 85) hx hb dX5_pin_78 (by decide) (fun c_3 => ?_) (fun c_3 => ?_)
          · exact absurd c_3 (by decide)
          · refine lv_iconst (v := nI 1) hx hb dX5_pin_81 (by decide) ?_
            refine lv_goto (tgt := 95) hx hb dX5_pin_82 (by decide) ?_
            refine va_put (D := D) (ci := 5) (v := .int (nI 1)) (ty := .int) (C := RX5) (T := TX5) (N := 28) hx hb hts (inT inX5) tyX5 tyX5_ok nmX5 hown hK hP hD hS 42 ww_42 rfl 0 (by decide) (hts (.fieldLink RX5 81 "BoardMovesModel" "thrown" "I") (List.mem_cons_of_mem _ flX5_81)) (fun _ h9 => h9) rfl (by decide +kernel) rfl rfl (Nat.le_of_ble_eq_true rfl) dX5_pin_95 (fun H locs hP hD hS => ?_)
            have hP : va_P D vwCl (WW ad cJ cI cZ bm pa p0 p1 p2 li wi (1) ms ma mp mk mn ou) H := hP
            have hD : va_D A (WW ad cJ cI cZ bm pa p0 p1 p2 li wi (1) ms ma mp mk mn ou) := hD
            refine lv_aload_n hx hb dX5_pin_98 rfl (lv_at hl 2 rfl) ?_
            refine va_get (D := D) (ci := 5) (v := .int (nI 1)) (C := RX5) (T := TX5) (N := 28) hx hb hts (inT inX5) hown hK hP 42 ww_42 rfl 0 (by decide) (hts (.fieldLink RX5 81 "BoardMovesModel" "thrown" "I") (List.mem_cons_of_mem _ flX5_81)) (fun _ h9 => h9) rfl dX5_pin_99 ?_
            refine bm_nz_ne (x := 1) (tgt := 114) hx hb (by decide) dX5_pin_102 (by decide) (fun c_4 => ?_) (fun c_4 => ?_)
            · refine lv_iconst (v := bm_b false) hx hb dX5_pin_114 (by decide) ?_
              exact bm_zretX (v := false) hx hb hr hP hD hK hS ⟨(1), ms, ma, mp, mk, mn, ⟨ok_ms_parts, ok_ms_outs, ok_ms_nears, ok_ms_nets, ok_ms_pins, ok_ma_sides, ok_ma_groups, ok_mp_turns, ok_mk_nearOne, ok_mk_nearTwo, ok_mn_pinNet, ok_mn_pinPart, hw, hh⟩, rfl, rfl, false, rfl⟩ dX5_pin_115 hlocks
            · exact absurd c_4 (by decide)
        · exact absurd c_2 (by decide)
      · refine lv_iload_n hx hb dX5_pin_4 rfl (lv_at hl 1 rfl) ?_
        refine lv_aload_n hx hb dX5_pin_5 rfl (lv_at hl 0 rfl) ?_
        refine va_get (D := D) (ci := 5) (v := .int (nI ms.2.2.2.2.2.1)) (C := RX5) (T := TX5) (N := 28) hx hb hts (inT inX5) hown hK hP 42 ww_42 rfl 20 (by decide) (hts (.fieldLink RX5 160 "BoardMovesModel" "nets" "I") (List.mem_cons_of_mem _ flX5_160)) (fun _ h9 => h9) rfl dX5_pin_6 ?_
        refine bm_ni_ge (x := k_zA) (y := ms.2.2.2.2.2.1) (tgt := 24) hx hb (by omega) (by omega) dX5_pin_9 (by decide) (fun c_5 => ?_) (fun c_5 => ?_)
        · refine lv_iconst (v := bm_b false) hx hb dX5_pin_24 (by decide) ?_
          refine lv_istore (lv' := [(7, .int (bm_b false)), (0, .ref (ad 42)), (1, .int (nI k_zA)), (2, .int (nI k_zB)), (3, .long zC), (5, .long zD)]) hx hb dX5_pin_25 hl (by decide) rfl (fun ls hl => ?_)
          refine lv_iload hx hb dX5_pin_27 (lv_at hl 0 rfl) ?_
          refine bm_zb_eq (x := false) (tgt := 72) hx hb dX5_pin_29 (by decide) (fun c_6 => ?_) (fun c_6 => ?_)
          · refine lv_iconst (v := bm_b false) hx hb dX5_pin_72 (by decide) ?_
            refine lv_istore (lv' := [(8, .int (bm_b false)), (7, .int (bm_b false)), (0, .ref (ad 42)), (1, .int (nI k_zA)), (2, .int (nI k_zB)), (3, .long zC), (5, .long zD)]) hx hb dX5_pin_73 hl (by decide) rfl (fun ls hl => ?_)
            refine lv_aload_n hx hb dX5_pin_75 rfl (lv_at hl 2 rfl) ?_
            refine lv_iload hx hb dX5_pin_76 (lv_at hl 1 rfl) ?_
            refine bm_zb_ne (x := false) (tgt := 85) hx hb dX5_pin_78 (by decide) (fun c_7 => ?_) (fun c_7 => ?_)
            · exact absurd c_7 (by decide)
            · refine lv_iconst (v := nI 1) hx hb dX5_pin_81 (by decide) ?_
              refine lv_goto (tgt := 95) hx hb dX5_pin_82 (by decide) ?_
              refine va_put (D := D) (ci := 5) (v := .int (nI 1)) (ty := .int) (C := RX5) (T := TX5) (N := 28) hx hb hts (inT inX5) tyX5 tyX5_ok nmX5 hown hK hP hD hS 42 ww_42 rfl 0 (by decide) (hts (.fieldLink RX5 81 "BoardMovesModel" "thrown" "I") (List.mem_cons_of_mem _ flX5_81)) (fun _ h9 => h9) rfl (by decide +kernel) rfl rfl (Nat.le_of_ble_eq_true rfl) dX5_pin_95 (fun H locs hP hD hS => ?_)
              have hP : va_P D vwCl (WW ad cJ cI cZ bm pa p0 p1 p2 li wi (1) ms ma mp mk mn ou) H := hP
              have hD : va_D A (WW ad cJ cI cZ bm pa p0 p1 p2 li wi (1) ms ma mp mk mn ou) := hD
              refine lv_aload_n hx hb dX5_pin_98 rfl (lv_at hl 2 rfl) ?_
              refine va_get (D := D) (ci := 5) (v := .int (nI 1)) (C := RX5) (T := TX5) (N := 28) hx hb hts (inT inX5) hown hK hP 42 ww_42 rfl 0 (by decide) (hts (.fieldLink RX5 81 "BoardMovesModel" "thrown" "I") (List.mem_cons_of_mem _ flX5_81)) (fun _ h9 => h9) rfl dX5_pin_99 ?_
              refine bm_nz_ne (x := 1) (tgt := 114) hx hb (by decide) dX5_pin_102 (by decide) (fun c_8 => ?_) (fun c_8 => ?_)
              · refine lv_iconst (v := bm_b false) hx hb dX5_pin_114 (by decide) ?_
                exact bm_zretX (v := false) hx hb hr hP hD hK hS ⟨(1), ms, ma, mp, mk, mn, ⟨ok_ms_parts, ok_ms_outs, ok_ms_nears, ok_ms_nets, ok_ms_pins, ok_ma_sides, ok_ma_groups, ok_mp_turns, ok_mk_nearOne, ok_mk_nearTwo, ok_mn_pinNet, ok_mn_pinPart, hw, hh⟩, rfl, rfl, false, rfl⟩ dX5_pin_115 hlocks
              · exact absurd c_8 (by decide)
          · exact absurd c_6 (by decide)
        · refine lv_aload_n hx hb dX5_pin_12 rfl (lv_at hl 0 rfl) ?_
          refine lv_iload_n hx hb dX5_pin_13 rfl (lv_at hl 2 rfl) ?_
          refine bm_rcallV (As := [.int (nI k_zB)]) (rest := []) ⟨hx, hb, hml, hown, hts⟩ (Y_isPartY  (zp := k_zB) ok_ms_parts (by omega)) (cwV 1 hts gvX5_139 rfl rfl rfl hvX5_isPart ⟨Nat.le_of_ble_eq_true rfl, Nat.le_of_ble_eq_true rfl⟩) hK hP 42 5 rfl ww_42 rfl hl.1 rfl (Nat.le_of_ble_eq_true rfl) dX5_pin_14 ⟨Nat.le_of_ble_eq_true rfl, Nat.le_of_ble_eq_true rfl⟩ ?_
          refine bm_zb_eq (x := true) (tgt := 24) hx hb dX5_pin_17 (by decide) (fun c_9 => ?_) (fun c_9 => ?_)
          · exact absurd c_9 (by decide)
          · refine lv_iconst (v := bm_b true) hx hb dX5_pin_20 (by decide) ?_
            refine lv_goto (tgt := 25) hx hb dX5_pin_21 (by decide) ?_
            refine lv_istore (lv' := [(7, .int (bm_b true)), (0, .ref (ad 42)), (1, .int (nI k_zA)), (2, .int (nI k_zB)), (3, .long zC), (5, .long zD)]) hx hb dX5_pin_25 hl (by decide) rfl (fun ls hl => ?_)
            refine lv_iload hx hb dX5_pin_27 (lv_at hl 0 rfl) ?_
            refine bm_zb_eq (x := true) (tgt := 72) hx hb dX5_pin_29 (by decide) (fun c_10 => ?_) (fun c_10 => ?_)
            · exact absurd c_10 (by decide)
            · refine lv_lload_n hx hb dX5_pin_32 rfl (lv_at hl 4 rfl) ?_
              refine lv_lconst (v := 0) hx hb dX5_pin_33 (by decide) ?_
              refine bm_lc_lt (x := zC) (y := 0) (tgt := 72) hx hb dX5_pin_34 dX5_pin_35 (by decide) (fun c_11 => ?_) (fun c_11 => ?_)
              · refine lv_iconst (v := bm_b false) hx hb dX5_pin_72 (by decide) ?_
                refine lv_istore (lv' := [(8, .int (bm_b false)), (7, .int (bm_b true)), (0, .ref (ad 42)), (1, .int (nI k_zA)), (2, .int (nI k_zB)), (3, .long zC), (5, .long zD)]) hx hb dX5_pin_73 hl (by decide) rfl (fun ls hl => ?_)
                refine lv_aload_n hx hb dX5_pin_75 rfl (lv_at hl 2 rfl) ?_
                refine lv_iload hx hb dX5_pin_76 (lv_at hl 1 rfl) ?_
                refine bm_zb_ne (x := true) (tgt := 85) hx hb dX5_pin_78 (by decide) (fun c_12 => ?_) (fun c_12 => ?_)
                · refine lv_iload hx hb dX5_pin_85 (lv_at hl 0 rfl) ?_
                  refine bm_zb_eq (x := false) (tgt := 94) hx hb dX5_pin_87 (by decide) (fun c_13 => ?_) (fun c_13 => ?_)
                  · refine lv_iconst (v := nI 2) hx hb dX5_pin_94 (by decide) ?_
                    refine va_put (D := D) (ci := 5) (v := .int (nI 2)) (ty := .int) (C := RX5) (T := TX5) (N := 28) hx hb hts (inT inX5) tyX5 tyX5_ok nmX5 hown hK hP hD hS 42 ww_42 rfl 0 (by decide) (hts (.fieldLink RX5 81 "BoardMovesModel" "thrown" "I") (List.mem_cons_of_mem _ flX5_81)) (fun _ h9 => h9) rfl (by decide +kernel) rfl rfl (Nat.le_of_ble_eq_true rfl) dX5_pin_95 (fun H locs hP hD hS => ?_)
                    have hP : va_P D vwCl (WW ad cJ cI cZ bm pa p0 p1 p2 li wi (2) ms ma mp mk mn ou) H := hP
                    have hD : va_D A (WW ad cJ cI cZ bm pa p0 p1 p2 li wi (2) ms ma mp mk mn ou) := hD
                    refine lv_aload_n hx hb dX5_pin_98 rfl (lv_at hl 2 rfl) ?_
                    refine va_get (D := D) (ci := 5) (v := .int (nI 2)) (C := RX5) (T := TX5) (N := 28) hx hb hts (inT inX5) hown hK hP 42 ww_42 rfl 0 (by decide) (hts (.fieldLink RX5 81 "BoardMovesModel" "thrown" "I") (List.mem_cons_of_mem _ flX5_81)) (fun _ h9 => h9) rfl dX5_pin_99 ?_
                    refine bm_nz_ne (x := 2) (tgt := 114) hx hb (by decide) dX5_pin_102 (by decide) (fun c_14 => ?_) (fun c_14 => ?_)
                    · refine lv_iconst (v := bm_b false) hx hb dX5_pin_114 (by decide) ?_
                      exact bm_zretX (v := false) hx hb hr hP hD hK hS ⟨(2), ms, ma, mp, mk, mn, ⟨ok_ms_parts, ok_ms_outs, ok_ms_nears, ok_ms_nets, ok_ms_pins, ok_ma_sides, ok_ma_groups, ok_mp_turns, ok_mk_nearOne, ok_mk_nearTwo, ok_mn_pinNet, ok_mn_pinPart, hw, hh⟩, rfl, rfl, false, rfl⟩ dX5_pin_115 hlocks
                    · exact absurd c_14 (by decide)
                  · exact absurd c_13 (by decide)
                · exact absurd c_12 (by decide)
              · refine lv_lload_n hx hb dX5_pin_38 rfl (lv_at hl 4 rfl) ?_
                refine lv_aload_n hx hb dX5_pin_39 rfl (lv_at hl 1 rfl) ?_
                refine va_get (D := D) (ci := 5) (v := .ref (ad 43)) (C := RX5) (T := TX5) (N := 28) hx hb hts (inT inX5) hown hK hP 42 ww_42 rfl 4 (by decide) (hts (.fieldLink RX5 7 "BoardMovesModel" "wide" "[J") (List.mem_cons_of_mem _ flX5_7)) (fun _ h9 => h9) rfl dX5_pin_40 ?_
                refine lv_iload_n hx hb dX5_pin_43 rfl (lv_at hl 3 rfl) ?_
                refine bm_lald (f := ma.1) hx hb hK hP 43 0 ww_43 rfl (j := k_zB) (by omega) (by decide) dX5_pin_44 ?_
                refine lv_topl (fun t_15 _ => ?_)
                refine bm_lc_gt (x := zC) (y := t_15) (tgt := 72) hx hb dX5_pin_45 dX5_pin_46 (by decide) (fun c_16 => ?_) (fun c_16 => ?_)
                · refine lv_iconst (v := bm_b false) hx hb dX5_pin_72 (by decide) ?_
                  refine lv_istore (lv' := [(8, .int (bm_b false)), (7, .int (bm_b true)), (0, .ref (ad 42)), (1, .int (nI k_zA)), (2, .int (nI k_zB)), (3, .long zC), (5, .long zD)]) hx hb dX5_pin_73 hl (by decide) rfl (fun ls hl => ?_)
                  refine lv_aload_n hx hb dX5_pin_75 rfl (lv_at hl 2 rfl) ?_
                  refine lv_iload hx hb dX5_pin_76 (lv_at hl 1 rfl) ?_
                  refine bm_zb_ne (x := true) (tgt := 85) hx hb dX5_pin_78 (by decide) (fun c_17 => ?_) (fun c_17 => ?_)
                  · refine lv_iload hx hb dX5_pin_85 (lv_at hl 0 rfl) ?_
                    refine bm_zb_eq (x := false) (tgt := 94) hx hb dX5_pin_87 (by decide) (fun c_18 => ?_) (fun c_18 => ?_)
                    · refine lv_iconst (v := nI 2) hx hb dX5_pin_94 (by decide) ?_
                      refine va_put (D := D) (ci := 5) (v := .int (nI 2)) (ty := .int) (C := RX5) (T := TX5) (N := 28) hx hb hts (inT inX5) tyX5 tyX5_ok nmX5 hown hK hP hD hS 42 ww_42 rfl 0 (by decide) (hts (.fieldLink RX5 81 "BoardMovesModel" "thrown" "I") (List.mem_cons_of_mem _ flX5_81)) (fun _ h9 => h9) rfl (by decide +kernel) rfl rfl (Nat.le_of_ble_eq_true rfl) dX5_pin_95 (fun H locs hP hD hS => ?_)
                      have hP : va_P D vwCl (WW ad cJ cI cZ bm pa p0 p1 p2 li wi (2) ms ma mp mk mn ou) H := hP
                      have hD : va_D A (WW ad cJ cI cZ bm pa p0 p1 p2 li wi (2) ms ma mp mk mn ou) := hD
                      refine lv_aload_n hx hb dX5_pin_98 rfl (lv_at hl 2 rfl) ?_
                      refine va_get (D := D) (ci := 5) (v := .int (nI 2)) (C := RX5) (T := TX5) (N := 28) hx hb hts (inT inX5) hown hK hP 42 ww_42 rfl 0 (by decide) (hts (.fieldLink RX5 81 "BoardMovesModel" "thrown" "I") (List.mem_cons_of_mem _ flX5_81)) (fun _ h9 => h9) rfl dX5_pin_99 ?_
                      refine bm_nz_ne (x := 2) (tgt := 114) hx hb (by decide) dX5_pin_102 (by decide) (fun c_19 => ?_) (fun c_19 => ?_)
                      · refine lv_iconst (v := bm_b false) hx hb dX5_pin_114 (by decide) ?_
                        exact bm_zretX (v := false) hx hb hr hP hD hK hS ⟨(2), ms, ma, mp, mk, mn, ⟨ok_ms_parts, ok_ms_outs, ok_ms_nears, ok_ms_nets, ok_ms_pins, ok_ma_sides, ok_ma_groups, ok_mp_turns, ok_mk_nearOne, ok_mk_nearTwo, ok_mn_pinNet, ok_mn_pinPart, hw, hh⟩, rfl, rfl, false, rfl⟩ dX5_pin_115 hlocks
                      · exact absurd c_19 (by decide)
                    · exact absurd c_18 (by decide)
                  · exact absurd c_17 (by decide)
                · refine lv_lload hx hb dX5_pin_49 (lv_at hl 5 rfl) ?_
                  refine lv_lconst (v := 0) hx hb dX5_pin_51 (by decide) ?_
                  refine bm_lc_lt (x := zD) (y := 0) (tgt := 72) hx hb dX5_pin_52 dX5_pin_53 (by decide) (fun c_20 => ?_) (fun c_20 => ?_)
                  · refine lv_iconst (v := bm_b false) hx hb dX5_pin_72 (by decide) ?_
                    refine lv_istore (lv' := [(8, .int (bm_b false)), (7, .int (bm_b true)), (0, .ref (ad 42)), (1, .int (nI k_zA)), (2, .int (nI k_zB)), (3, .long zC), (5, .long zD)]) hx hb dX5_pin_73 hl (by decide) rfl (fun ls hl => ?_)
                    refine lv_aload_n hx hb dX5_pin_75 rfl (lv_at hl 2 rfl) ?_
                    refine lv_iload hx hb dX5_pin_76 (lv_at hl 1 rfl) ?_
                    refine bm_zb_ne (x := true) (tgt := 85) hx hb dX5_pin_78 (by decide) (fun c_21 => ?_) (fun c_21 => ?_)
                    · refine lv_iload hx hb dX5_pin_85 (lv_at hl 0 rfl) ?_
                      refine bm_zb_eq (x := false) (tgt := 94) hx hb dX5_pin_87 (by decide) (fun c_22 => ?_) (fun c_22 => ?_)
                      · refine lv_iconst (v := nI 2) hx hb dX5_pin_94 (by decide) ?_
                        refine va_put (D := D) (ci := 5) (v := .int (nI 2)) (ty := .int) (C := RX5) (T := TX5) (N := 28) hx hb hts (inT inX5) tyX5 tyX5_ok nmX5 hown hK hP hD hS 42 ww_42 rfl 0 (by decide) (hts (.fieldLink RX5 81 "BoardMovesModel" "thrown" "I") (List.mem_cons_of_mem _ flX5_81)) (fun _ h9 => h9) rfl (by decide +kernel) rfl rfl (Nat.le_of_ble_eq_true rfl) dX5_pin_95 (fun H locs hP hD hS => ?_)
                        have hP : va_P D vwCl (WW ad cJ cI cZ bm pa p0 p1 p2 li wi (2) ms ma mp mk mn ou) H := hP
                        have hD : va_D A (WW ad cJ cI cZ bm pa p0 p1 p2 li wi (2) ms ma mp mk mn ou) := hD
                        refine lv_aload_n hx hb dX5_pin_98 rfl (lv_at hl 2 rfl) ?_
                        refine va_get (D := D) (ci := 5) (v := .int (nI 2)) (C := RX5) (T := TX5) (N := 28) hx hb hts (inT inX5) hown hK hP 42 ww_42 rfl 0 (by decide) (hts (.fieldLink RX5 81 "BoardMovesModel" "thrown" "I") (List.mem_cons_of_mem _ flX5_81)) (fun _ h9 => h9) rfl dX5_pin_99 ?_
                        refine bm_nz_ne (x := 2) (tgt := 114) hx hb (by decide) dX5_pin_102 (by decide) (fun c_23 => ?_) (fun c_23 => ?_)
                        · refine lv_iconst (v := bm_b false) hx hb dX5_pin_114 (by decide) ?_
                          exact bm_zretX (v := false) hx hb hr hP hD hK hS ⟨(2), ms, ma, mp, mk, mn, ⟨ok_ms_parts, ok_ms_outs, ok_ms_nears, ok_ms_nets, ok_ms_pins, ok_ma_sides, ok_ma_groups, ok_mp_turns, ok_mk_nearOne, ok_mk_nearTwo, ok_mn_pinNet, ok_mn_pinPart, hw, hh⟩, rfl, rfl, false, rfl⟩ dX5_pin_115 hlocks
                        · exact absurd c_23 (by decide)
                      · exact absurd c_22 (by decide)
                    · exact absurd c_21 (by decide)
                  · refine lv_lload hx hb dX5_pin_56 (lv_at hl 5 rfl) ?_
                    refine lv_aload_n hx hb dX5_pin_58 rfl (lv_at hl 1 rfl) ?_
                    refine va_get (D := D) (ci := 5) (v := .ref (ad 44)) (C := RX5) (T := TX5) (N := 28) hx hb hts (inT inX5) hown hK hP 42 ww_42 rfl 5 (by decide) (hts (.fieldLink RX5 13 "BoardMovesModel" "high" "[J") (List.mem_cons_of_mem _ flX5_13)) (fun _ h9 => h9) rfl dX5_pin_59 ?_
                    refine lv_iload_n hx hb dX5_pin_62 rfl (lv_at hl 3 rfl) ?_
                    refine bm_lald (f := ma.2.1) hx hb hK hP 44 0 ww_44 rfl (j := k_zB) (by omega) (by decide) dX5_pin_63 ?_
                    refine lv_topl (fun t_24 _ => ?_)
                    refine bm_lc_gt (x := zD) (y := t_24) (tgt := 72) hx hb dX5_pin_64 dX5_pin_65 (by decide) (fun c_25 => ?_) (fun c_25 => ?_)
                    · refine lv_iconst (v := bm_b false) hx hb dX5_pin_72 (by decide) ?_
                      refine lv_istore (lv' := [(8, .int (bm_b false)), (7, .int (bm_b true)), (0, .ref (ad 42)), (1, .int (nI k_zA)), (2, .int (nI k_zB)), (3, .long zC), (5, .long zD)]) hx hb dX5_pin_73 hl (by decide) rfl (fun ls hl => ?_)
                      refine lv_aload_n hx hb dX5_pin_75 rfl (lv_at hl 2 rfl) ?_
                      refine lv_iload hx hb dX5_pin_76 (lv_at hl 1 rfl) ?_
                      refine bm_zb_ne (x := true) (tgt := 85) hx hb dX5_pin_78 (by decide) (fun c_26 => ?_) (fun c_26 => ?_)
                      · refine lv_iload hx hb dX5_pin_85 (lv_at hl 0 rfl) ?_
                        refine bm_zb_eq (x := false) (tgt := 94) hx hb dX5_pin_87 (by decide) (fun c_27 => ?_) (fun c_27 => ?_)
                        · refine lv_iconst (v := nI 2) hx hb dX5_pin_94 (by decide) ?_
                          refine va_put (D := D) (ci := 5) (v := .int (nI 2)) (ty := .int) (C := RX5) (T := TX5) (N := 28) hx hb hts (inT inX5) tyX5 tyX5_ok nmX5 hown hK hP hD hS 42 ww_42 rfl 0 (by decide) (hts (.fieldLink RX5 81 "BoardMovesModel" "thrown" "I") (List.mem_cons_of_mem _ flX5_81)) (fun _ h9 => h9) rfl (by decide +kernel) rfl rfl (Nat.le_of_ble_eq_true rfl) dX5_pin_95 (fun H locs hP hD hS => ?_)
                          have hP : va_P D vwCl (WW ad cJ cI cZ bm pa p0 p1 p2 li wi (2) ms ma mp mk mn ou) H := hP
                          have hD : va_D A (WW ad cJ cI cZ bm pa p0 p1 p2 li wi (2) ms ma mp mk mn ou) := hD
                          refine lv_aload_n hx hb dX5_pin_98 rfl (lv_at hl 2 rfl) ?_
                          refine va_get (D := D) (ci := 5) (v := .int (nI 2)) (C := RX5) (T := TX5) (N := 28) hx hb hts (inT inX5) hown hK hP 42 ww_42 rfl 0 (by decide) (hts (.fieldLink RX5 81 "BoardMovesModel" "thrown" "I") (List.mem_cons_of_mem _ flX5_81)) (fun _ h9 => h9) rfl dX5_pin_99 ?_
                          refine bm_nz_ne (x := 2) (tgt := 114) hx hb (by decide) dX5_pin_102 (by decide) (fun c_28 => ?_) (fun c_28 => ?_)
                          · refine lv_iconst (v := bm_b false) hx hb dX5_pin_114 (by decide) ?_
                            exact bm_zretX (v := false) hx hb hr hP hD hK hS ⟨(2), ms, ma, mp, mk, mn, ⟨ok_ms_parts, ok_ms_outs, ok_ms_nears, ok_ms_nets, ok_ms_pins, ok_ma_sides, ok_ma_groups, ok_mp_turns, ok_mk_nearOne, ok_mk_nearTwo, ok_mn_pinNet, ok_mn_pinPart, hw, hh⟩, rfl, rfl, false, rfl⟩ dX5_pin_115 hlocks
                          · exact absurd c_28 (by decide)
                        · exact absurd c_27 (by decide)
                      · exact absurd c_26 (by decide)
                    · refine lv_iconst (v := bm_b true) hx hb dX5_pin_68 (by decide) ?_
                      refine lv_goto (tgt := 73) hx hb dX5_pin_69 (by decide) ?_
                      refine lv_istore (lv' := [(8, .int (bm_b true)), (7, .int (bm_b true)), (0, .ref (ad 42)), (1, .int (nI k_zA)), (2, .int (nI k_zB)), (3, .long zC), (5, .long zD)]) hx hb dX5_pin_73 hl (by decide) rfl (fun ls hl => ?_)
                      refine lv_aload_n hx hb dX5_pin_75 rfl (lv_at hl 2 rfl) ?_
                      refine lv_iload hx hb dX5_pin_76 (lv_at hl 1 rfl) ?_
                      refine bm_zb_ne (x := true) (tgt := 85) hx hb dX5_pin_78 (by decide) (fun c_29 => ?_) (fun c_29 => ?_)
                      · refine lv_iload hx hb dX5_pin_85 (lv_at hl 0 rfl) ?_
                        refine bm_zb_eq (x := true) (tgt := 94) hx hb dX5_pin_87 (by decide) (fun c_30 => ?_) (fun c_30 => ?_)
                        · exact absurd c_30 (by decide)
                        · refine lv_iconst (v := nI 0) hx hb dX5_pin_90 (by decide) ?_
                          refine lv_goto (tgt := 95) hx hb dX5_pin_91 (by decide) ?_
                          refine va_put (D := D) (ci := 5) (v := .int (nI 0)) (ty := .int) (C := RX5) (T := TX5) (N := 28) hx hb hts (inT inX5) tyX5 tyX5_ok nmX5 hown hK hP hD hS 42 ww_42 rfl 0 (by decide) (hts (.fieldLink RX5 81 "BoardMovesModel" "thrown" "I") (List.mem_cons_of_mem _ flX5_81)) (fun _ h9 => h9) rfl (by decide +kernel) rfl rfl (Nat.le_of_ble_eq_true rfl) dX5_pin_95 (fun H locs hP hD hS => ?_)
                          have hP : va_P D vwCl (WW ad cJ cI cZ bm pa p0 p1 p2 li wi (0) ms ma mp mk mn ou) H := hP
                          have hD : va_D A (WW ad cJ cI cZ bm pa p0 p1 p2 li wi (0) ms ma mp mk mn ou) := hD
                          refine lv_aload_n hx hb dX5_pin_98 rfl (lv_at hl 2 rfl) ?_
                          refine va_get (D := D) (ci := 5) (v := .int (nI 0)) (C := RX5) (T := TX5) (N := 28) hx hb hts (inT inX5) hown hK hP 42 ww_42 rfl 0 (by decide) (hts (.fieldLink RX5 81 "BoardMovesModel" "thrown" "I") (List.mem_cons_of_mem _ flX5_81)) (fun _ h9 => h9) rfl dX5_pin_99 ?_
                          refine bm_nz_ne (x := 0) (tgt := 114) hx hb (by decide) dX5_pin_102 (by decide) (fun c_31 => ?_) (fun c_31 => ?_)
                          · exact absurd c_31 (by decide)
                          · refine lv_aload_n hx hb dX5_pin_105 rfl (lv_at hl 2 rfl) ?_
                            refine va_get (D := D) (ci := 5) (v := .int (nI ms.2.2.2.2.2.2.1)) (C := RX5) (T := TX5) (N := 28) hx hb hts (inT inX5) hown hK hP 42 ww_42 rfl 21 (by decide) (hts (.fieldLink RX5 163 "BoardMovesModel" "pins" "I") (List.mem_cons_of_mem _ flX5_163)) (fun _ h9 => h9) rfl dX5_pin_106 ?_
                            refine lv_bipush (v := nI 120) hx hb dX5_pin_109 (by decide) ?_
                            refine bm_ni_ne (x := ms.2.2.2.2.2.2.1) (y := 120) (tgt := 116) hx hb (by omega) (by omega) dX5_pin_111 (by decide) (fun c_32 => ?_) (fun c_32 => ?_)
                            · refine lv_aload_n hx hb dX5_pin_116 rfl (lv_at hl 2 rfl) ?_
                              refine va_get (D := D) (ci := 5) (v := .ref (ad 57)) (C := RX5) (T := TX5) (N := 28) hx hb hts (inT inX5) hown hK hP 42 ww_42 rfl 22 (by decide) (hts (.fieldLink RX5 54 "BoardMovesModel" "pinNet" "[I") (List.mem_cons_of_mem _ flX5_54)) (fun _ h9 => h9) rfl dX5_pin_117 ?_
                              refine lv_aload_n hx hb dX5_pin_120 rfl (lv_at hl 2 rfl) ?_
                              refine va_get (D := D) (ci := 5) (v := .int (nI ms.2.2.2.2.2.2.1)) (C := RX5) (T := TX5) (N := 28) hx hb hts (inT inX5) hown hK hP 42 ww_42 rfl 21 (by decide) (hts (.fieldLink RX5 163 "BoardMovesModel" "pins" "I") (List.mem_cons_of_mem _ flX5_163)) (fun _ h9 => h9) rfl dX5_pin_121 ?_
                              refine lv_iload_n hx hb dX5_pin_124 rfl (lv_at hl 3 rfl) ?_
                              refine bm_nast (f := mn.1) hx hb hK hP hD hS 57 1 ww_57 rfl (j := ms.2.2.2.2.2.2.1) (x := k_zA) (by omega) (by decide) dX5_pin_125 (fun H locs hP hD hS => ?_)
                              have hP : va_P D vwCl (WW ad cJ cI cZ bm pa p0 p1 p2 li wi (0) ms ma mp mk (va_up mn.1 ms.2.2.2.2.2.2.1 k_zA, mn.2.1, mn.2.2.1, mn.2.2.2.1, mn.2.2.2.2) ou) H := hP
                              have hD : va_D A (WW ad cJ cI cZ bm pa p0 p1 p2 li wi (0) ms ma mp mk (va_up mn.1 ms.2.2.2.2.2.2.1 k_zA, mn.2.1, mn.2.2.1, mn.2.2.2.1, mn.2.2.2.2) ou) := hD
                              refine lv_aload_n hx hb dX5_pin_126 rfl (lv_at hl 2 rfl) ?_
                              refine va_get (D := D) (ci := 5) (v := .ref (ad 58)) (C := RX5) (T := TX5) (N := 28) hx hb hts (inT inX5) hown hK hP 42 ww_42 rfl 23 (by decide) (hts (.fieldLink RX5 57 "BoardMovesModel" "pinPart" "[I") (List.mem_cons_of_mem _ flX5_57)) (fun _ h9 => h9) rfl dX5_pin_127 ?_
                              refine lv_aload_n hx hb dX5_pin_130 rfl (lv_at hl 2 rfl) ?_
                              refine va_get (D := D) (ci := 5) (v := .int (nI ms.2.2.2.2.2.2.1)) (C := RX5) (T := TX5) (N := 28) hx hb hts (inT inX5) hown hK hP 42 ww_42 rfl 21 (by decide) (hts (.fieldLink RX5 163 "BoardMovesModel" "pins" "I") (List.mem_cons_of_mem _ flX5_163)) (fun _ h9 => h9) rfl dX5_pin_131 ?_
                              refine lv_iload_n hx hb dX5_pin_134 rfl (lv_at hl 4 rfl) ?_
                              refine bm_nast (f := mn.2.1) hx hb hK hP hD hS 58 1 ww_58 rfl (j := ms.2.2.2.2.2.2.1) (x := k_zB) (by omega) (by decide) dX5_pin_135 (fun H locs hP hD hS => ?_)
                              have hP : va_P D vwCl (WW ad cJ cI cZ bm pa p0 p1 p2 li wi (0) ms ma mp mk (va_up mn.1 ms.2.2.2.2.2.2.1 k_zA, va_up mn.2.1 ms.2.2.2.2.2.2.1 k_zB, mn.2.2.1, mn.2.2.2.1, mn.2.2.2.2) ou) H := hP
                              have hD : va_D A (WW ad cJ cI cZ bm pa p0 p1 p2 li wi (0) ms ma mp mk (va_up mn.1 ms.2.2.2.2.2.2.1 k_zA, va_up mn.2.1 ms.2.2.2.2.2.2.1 k_zB, mn.2.2.1, mn.2.2.2.1, mn.2.2.2.2) ou) := hD
                              refine lv_aload_n hx hb dX5_pin_136 rfl (lv_at hl 2 rfl) ?_
                              refine va_get (D := D) (ci := 5) (v := .ref (ad 59)) (C := RX5) (T := TX5) (N := 28) hx hb hts (inT inX5) hown hK hP 42 ww_42 rfl 24 (by decide) (hts (.fieldLink RX5 60 "BoardMovesModel" "pinX" "[J") (List.mem_cons_of_mem _ flX5_60)) (fun _ h9 => h9) rfl dX5_pin_137 ?_
                              refine lv_aload_n hx hb dX5_pin_140 rfl (lv_at hl 2 rfl) ?_
                              refine va_get (D := D) (ci := 5) (v := .int (nI ms.2.2.2.2.2.2.1)) (C := RX5) (T := TX5) (N := 28) hx hb hts (inT inX5) hown hK hP 42 ww_42 rfl 21 (by decide) (hts (.fieldLink RX5 163 "BoardMovesModel" "pins" "I") (List.mem_cons_of_mem _ flX5_163)) (fun _ h9 => h9) rfl dX5_pin_141 ?_
                              refine lv_lload_n hx hb dX5_pin_144 rfl (lv_at hl 5 rfl) ?_
                              refine bm_last (f := mn.2.2.1) hx hb hK hP hD hS 59 0 ww_59 rfl (j := ms.2.2.2.2.2.2.1) (x := zC) (by omega) (by decide) dX5_pin_145 (fun H locs hP hD hS => ?_)
                              have hP : va_P D vwCl (WW ad cJ cI cZ bm pa p0 p1 p2 li wi (0) ms ma mp mk (va_up mn.1 ms.2.2.2.2.2.2.1 k_zA, va_up mn.2.1 ms.2.2.2.2.2.2.1 k_zB, va_up mn.2.2.1 ms.2.2.2.2.2.2.1 zC, mn.2.2.2.1, mn.2.2.2.2) ou) H := hP
                              have hD : va_D A (WW ad cJ cI cZ bm pa p0 p1 p2 li wi (0) ms ma mp mk (va_up mn.1 ms.2.2.2.2.2.2.1 k_zA, va_up mn.2.1 ms.2.2.2.2.2.2.1 k_zB, va_up mn.2.2.1 ms.2.2.2.2.2.2.1 zC, mn.2.2.2.1, mn.2.2.2.2) ou) := hD
                              refine lv_aload_n hx hb dX5_pin_146 rfl (lv_at hl 2 rfl) ?_
                              refine va_get (D := D) (ci := 5) (v := .ref (ad 60)) (C := RX5) (T := TX5) (N := 28) hx hb hts (inT inX5) hown hK hP 42 ww_42 rfl 25 (by decide) (hts (.fieldLink RX5 63 "BoardMovesModel" "pinY" "[J") (List.mem_cons_of_mem _ flX5_63)) (fun _ h9 => h9) rfl dX5_pin_147 ?_
                              refine lv_aload_n hx hb dX5_pin_150 rfl (lv_at hl 2 rfl) ?_
                              refine va_get (D := D) (ci := 5) (v := .int (nI ms.2.2.2.2.2.2.1)) (C := RX5) (T := TX5) (N := 28) hx hb hts (inT inX5) hown hK hP 42 ww_42 rfl 21 (by decide) (hts (.fieldLink RX5 163 "BoardMovesModel" "pins" "I") (List.mem_cons_of_mem _ flX5_163)) (fun _ h9 => h9) rfl dX5_pin_151 ?_
                              refine lv_lload hx hb dX5_pin_154 (lv_at hl 6 rfl) ?_
                              refine bm_last (f := mn.2.2.2.1) hx hb hK hP hD hS 60 0 ww_60 rfl (j := ms.2.2.2.2.2.2.1) (x := zD) (by omega) (by decide) dX5_pin_156 (fun H locs hP hD hS => ?_)
                              have hP : va_P D vwCl (WW ad cJ cI cZ bm pa p0 p1 p2 li wi (0) ms ma mp mk (va_up mn.1 ms.2.2.2.2.2.2.1 k_zA, va_up mn.2.1 ms.2.2.2.2.2.2.1 k_zB, va_up mn.2.2.1 ms.2.2.2.2.2.2.1 zC, va_up mn.2.2.2.1 ms.2.2.2.2.2.2.1 zD, mn.2.2.2.2) ou) H := hP
                              have hD : va_D A (WW ad cJ cI cZ bm pa p0 p1 p2 li wi (0) ms ma mp mk (va_up mn.1 ms.2.2.2.2.2.2.1 k_zA, va_up mn.2.1 ms.2.2.2.2.2.2.1 k_zB, va_up mn.2.2.1 ms.2.2.2.2.2.2.1 zC, va_up mn.2.2.2.1 ms.2.2.2.2.2.2.1 zD, mn.2.2.2.2) ou) := hD
                              refine lv_aload_n hx hb dX5_pin_157 rfl (lv_at hl 2 rfl) ?_
                              refine lv_dup hx hb dX5_pin_158 rfl ?_
                              refine va_get (D := D) (ci := 5) (v := .int (nI ms.2.2.2.2.2.2.1)) (C := RX5) (T := TX5) (N := 28) hx hb hts (inT inX5) hown hK hP 42 ww_42 rfl 21 (by decide) (hts (.fieldLink RX5 163 "BoardMovesModel" "pins" "I") (List.mem_cons_of_mem _ flX5_163)) (fun _ h9 => h9) rfl dX5_pin_159 ?_
                              refine lv_iconst (v := nI 1) hx hb dX5_pin_162 (by decide) ?_
                              refine bm_nadd hx hb dX5_pin_163 ?_
                              refine va_put (D := D) (ci := 5) (v := .int (nI (ms.2.2.2.2.2.2.1 + 1))) (ty := .int) (C := RX5) (T := TX5) (N := 28) hx hb hts (inT inX5) tyX5 tyX5_ok nmX5 hown hK hP hD hS 42 ww_42 rfl 21 (by decide) (hts (.fieldLink RX5 163 "BoardMovesModel" "pins" "I") (List.mem_cons_of_mem _ flX5_163)) (fun _ h9 => h9) rfl (by decide +kernel) rfl rfl (Nat.le_of_ble_eq_true rfl) dX5_pin_164 (fun H locs hP hD hS => ?_)
                              have hP : va_P D vwCl (WW ad cJ cI cZ bm pa p0 p1 p2 li wi (0) (ms.1, ms.2.1, ms.2.2.1, ms.2.2.2.1, ms.2.2.2.2.1, ms.2.2.2.2.2.1, ms.2.2.2.2.2.2.1 + 1, ms.2.2.2.2.2.2.2) ma mp mk (va_up mn.1 ms.2.2.2.2.2.2.1 k_zA, va_up mn.2.1 ms.2.2.2.2.2.2.1 k_zB, va_up mn.2.2.1 ms.2.2.2.2.2.2.1 zC, va_up mn.2.2.2.1 ms.2.2.2.2.2.2.1 zD, mn.2.2.2.2) ou) H := hP
                              have hD : va_D A (WW ad cJ cI cZ bm pa p0 p1 p2 li wi (0) (ms.1, ms.2.1, ms.2.2.1, ms.2.2.2.1, ms.2.2.2.2.1, ms.2.2.2.2.2.1, ms.2.2.2.2.2.2.1 + 1, ms.2.2.2.2.2.2.2) ma mp mk (va_up mn.1 ms.2.2.2.2.2.2.1 k_zA, va_up mn.2.1 ms.2.2.2.2.2.2.1 k_zB, va_up mn.2.2.1 ms.2.2.2.2.2.2.1 zC, va_up mn.2.2.2.1 ms.2.2.2.2.2.2.1 zD, mn.2.2.2.2) ou) := hD
                              refine lv_iconst (v := bm_b true) hx hb dX5_pin_167 (by decide) ?_
                              exact bm_zretX (v := true) hx hb hr hP hD hK hS ⟨(0), (ms.1, ms.2.1, ms.2.2.1, ms.2.2.2.1, ms.2.2.2.2.1, ms.2.2.2.2.2.1, ms.2.2.2.2.2.2.1 + 1, ms.2.2.2.2.2.2.2), ma, mp, mk, (va_up mn.1 ms.2.2.2.2.2.2.1 k_zA, va_up mn.2.1 ms.2.2.2.2.2.2.1 k_zB, va_up mn.2.2.1 ms.2.2.2.2.2.2.1 zC, va_up mn.2.2.2.1 ms.2.2.2.2.2.2.1 zD, mn.2.2.2.2), ⟨ok_ms_parts, ok_ms_outs, ok_ms_nears, ok_ms_nets, (show ms.2.2.2.2.2.2.1 + 1 ≤ 120 by omega), ok_ma_sides, ok_ma_groups, ok_mp_turns, ok_mk_nearOne, ok_mk_nearTwo, (bx_uplt ok_mn_pinNet (by omega)), (bx_uplt ok_mn_pinPart (by omega)), hw, hh⟩, rfl, rfl, true, rfl⟩ dX5_pin_168 hlocks
                            · refine lv_iconst (v := bm_b false) hx hb dX5_pin_114 (by decide) ?_
                              exact bm_zretX (v := false) hx hb hr hP hD hK hS ⟨(0), ms, ma, mp, mk, mn, ⟨ok_ms_parts, ok_ms_outs, ok_ms_nears, ok_ms_nets, ok_ms_pins, ok_ma_sides, ok_ma_groups, ok_mp_turns, ok_mk_nearOne, ok_mk_nearTwo, ok_mn_pinNet, ok_mn_pinPart, hw, hh⟩, rfl, rfl, false, rfl⟩ dX5_pin_115 hlocks
                      · exact absurd c_29 (by decide)
    · have hl := lv_entry ([.ref (ad 42), .int (nI k_zA), .int zB, .long zC, .long zD]) (n := 9) (Nat.le_of_ble_eq_true rfl)
      refine W.eq (g2 := entryFrame m ([.ref (ad 42), .int (nI k_zA), .int zB, .long zC, .long zD] : List Value).toArray 9) (by rw [ha]) ?_
      rw [lg_entry_eq]
      generalize (lg_sl ([.ref (ad 42), .int (nI k_zA), .int zB, .long zC, .long zD]) ++ List.replicate (9 - (lg_sl ([.ref (ad 42), .int (nI k_zA), .int zB, .long zC, .long zD])).length) Slot.unset).toArray = ls at hl ⊢
      have hl : lv_has ls 9 [(0, .ref (ad 42)), (1, .int (nI k_zA)), (2, .int zB), (3, .long zC), (5, .long zD)] := hl
      refine lv_iload_n hx hb dX5_pin_0 rfl (lv_at hl 1 rfl) ?_
      refine lv_if_lt (x := (nI k_zA)) (tgt := 24) hx hb dX5_pin_1 (by decide) (fun c_33 => ?_) (fun c_33 => ?_)
      · refine lv_iconst (v := bm_b false) hx hb dX5_pin_24 (by decide) ?_
        refine lv_istore (lv' := [(7, .int (bm_b false)), (0, .ref (ad 42)), (1, .int (nI k_zA)), (2, .int zB), (3, .long zC), (5, .long zD)]) hx hb dX5_pin_25 hl (by decide) rfl (fun ls hl => ?_)
        refine lv_iload hx hb dX5_pin_27 (lv_at hl 0 rfl) ?_
        refine bm_zb_eq (x := false) (tgt := 72) hx hb dX5_pin_29 (by decide) (fun c_34 => ?_) (fun c_34 => ?_)
        · refine lv_iconst (v := bm_b false) hx hb dX5_pin_72 (by decide) ?_
          refine lv_istore (lv' := [(8, .int (bm_b false)), (7, .int (bm_b false)), (0, .ref (ad 42)), (1, .int (nI k_zA)), (2, .int zB), (3, .long zC), (5, .long zD)]) hx hb dX5_pin_73 hl (by decide) rfl (fun ls hl => ?_)
          refine lv_aload_n hx hb dX5_pin_75 rfl (lv_at hl 2 rfl) ?_
          refine lv_iload hx hb dX5_pin_76 (lv_at hl 1 rfl) ?_
          refine bm_zb_ne (x := false) (tgt := 85) hx hb dX5_pin_78 (by decide) (fun c_35 => ?_) (fun c_35 => ?_)
          · exact absurd c_35 (by decide)
          · refine lv_iconst (v := nI 1) hx hb dX5_pin_81 (by decide) ?_
            refine lv_goto (tgt := 95) hx hb dX5_pin_82 (by decide) ?_
            refine va_put (D := D) (ci := 5) (v := .int (nI 1)) (ty := .int) (C := RX5) (T := TX5) (N := 28) hx hb hts (inT inX5) tyX5 tyX5_ok nmX5 hown hK hP hD hS 42 ww_42 rfl 0 (by decide) (hts (.fieldLink RX5 81 "BoardMovesModel" "thrown" "I") (List.mem_cons_of_mem _ flX5_81)) (fun _ h9 => h9) rfl (by decide +kernel) rfl rfl (Nat.le_of_ble_eq_true rfl) dX5_pin_95 (fun H locs hP hD hS => ?_)
            have hP : va_P D vwCl (WW ad cJ cI cZ bm pa p0 p1 p2 li wi (1) ms ma mp mk mn ou) H := hP
            have hD : va_D A (WW ad cJ cI cZ bm pa p0 p1 p2 li wi (1) ms ma mp mk mn ou) := hD
            refine lv_aload_n hx hb dX5_pin_98 rfl (lv_at hl 2 rfl) ?_
            refine va_get (D := D) (ci := 5) (v := .int (nI 1)) (C := RX5) (T := TX5) (N := 28) hx hb hts (inT inX5) hown hK hP 42 ww_42 rfl 0 (by decide) (hts (.fieldLink RX5 81 "BoardMovesModel" "thrown" "I") (List.mem_cons_of_mem _ flX5_81)) (fun _ h9 => h9) rfl dX5_pin_99 ?_
            refine bm_nz_ne (x := 1) (tgt := 114) hx hb (by decide) dX5_pin_102 (by decide) (fun c_36 => ?_) (fun c_36 => ?_)
            · refine lv_iconst (v := bm_b false) hx hb dX5_pin_114 (by decide) ?_
              exact bm_zretX (v := false) hx hb hr hP hD hK hS ⟨(1), ms, ma, mp, mk, mn, ⟨ok_ms_parts, ok_ms_outs, ok_ms_nears, ok_ms_nets, ok_ms_pins, ok_ma_sides, ok_ma_groups, ok_mp_turns, ok_mk_nearOne, ok_mk_nearTwo, ok_mn_pinNet, ok_mn_pinPart, hw, hh⟩, rfl, rfl, false, rfl⟩ dX5_pin_115 hlocks
            · exact absurd c_36 (by decide)
        · exact absurd c_34 (by decide)
      · refine lv_iload_n hx hb dX5_pin_4 rfl (lv_at hl 1 rfl) ?_
        refine lv_aload_n hx hb dX5_pin_5 rfl (lv_at hl 0 rfl) ?_
        refine va_get (D := D) (ci := 5) (v := .int (nI ms.2.2.2.2.2.1)) (C := RX5) (T := TX5) (N := 28) hx hb hts (inT inX5) hown hK hP 42 ww_42 rfl 20 (by decide) (hts (.fieldLink RX5 160 "BoardMovesModel" "nets" "I") (List.mem_cons_of_mem _ flX5_160)) (fun _ h9 => h9) rfl dX5_pin_6 ?_
        refine bm_ni_ge (x := k_zA) (y := ms.2.2.2.2.2.1) (tgt := 24) hx hb (by omega) (by omega) dX5_pin_9 (by decide) (fun c_37 => ?_) (fun c_37 => ?_)
        · refine lv_iconst (v := bm_b false) hx hb dX5_pin_24 (by decide) ?_
          refine lv_istore (lv' := [(7, .int (bm_b false)), (0, .ref (ad 42)), (1, .int (nI k_zA)), (2, .int zB), (3, .long zC), (5, .long zD)]) hx hb dX5_pin_25 hl (by decide) rfl (fun ls hl => ?_)
          refine lv_iload hx hb dX5_pin_27 (lv_at hl 0 rfl) ?_
          refine bm_zb_eq (x := false) (tgt := 72) hx hb dX5_pin_29 (by decide) (fun c_38 => ?_) (fun c_38 => ?_)
          · refine lv_iconst (v := bm_b false) hx hb dX5_pin_72 (by decide) ?_
            refine lv_istore (lv' := [(8, .int (bm_b false)), (7, .int (bm_b false)), (0, .ref (ad 42)), (1, .int (nI k_zA)), (2, .int zB), (3, .long zC), (5, .long zD)]) hx hb dX5_pin_73 hl (by decide) rfl (fun ls hl => ?_)
            refine lv_aload_n hx hb dX5_pin_75 rfl (lv_at hl 2 rfl) ?_
            refine lv_iload hx hb dX5_pin_76 (lv_at hl 1 rfl) ?_
            refine bm_zb_ne (x := false) (tgt := 85) hx hb dX5_pin_78 (by decide) (fun c_39 => ?_) (fun c_39 => ?_)
            · exact absurd c_39 (by decide)
            · refine lv_iconst (v := nI 1) hx hb dX5_pin_81 (by decide) ?_
              refine lv_goto (tgt := 95) hx hb dX5_pin_82 (by decide) ?_
              refine va_put (D := D) (ci := 5) (v := .int (nI 1)) (ty := .int) (C := RX5) (T := TX5) (N := 28) hx hb hts (inT inX5) tyX5 tyX5_ok nmX5 hown hK hP hD hS 42 ww_42 rfl 0 (by decide) (hts (.fieldLink RX5 81 "BoardMovesModel" "thrown" "I") (List.mem_cons_of_mem _ flX5_81)) (fun _ h9 => h9) rfl (by decide +kernel) rfl rfl (Nat.le_of_ble_eq_true rfl) dX5_pin_95 (fun H locs hP hD hS => ?_)
              have hP : va_P D vwCl (WW ad cJ cI cZ bm pa p0 p1 p2 li wi (1) ms ma mp mk mn ou) H := hP
              have hD : va_D A (WW ad cJ cI cZ bm pa p0 p1 p2 li wi (1) ms ma mp mk mn ou) := hD
              refine lv_aload_n hx hb dX5_pin_98 rfl (lv_at hl 2 rfl) ?_
              refine va_get (D := D) (ci := 5) (v := .int (nI 1)) (C := RX5) (T := TX5) (N := 28) hx hb hts (inT inX5) hown hK hP 42 ww_42 rfl 0 (by decide) (hts (.fieldLink RX5 81 "BoardMovesModel" "thrown" "I") (List.mem_cons_of_mem _ flX5_81)) (fun _ h9 => h9) rfl dX5_pin_99 ?_
              refine bm_nz_ne (x := 1) (tgt := 114) hx hb (by decide) dX5_pin_102 (by decide) (fun c_40 => ?_) (fun c_40 => ?_)
              · refine lv_iconst (v := bm_b false) hx hb dX5_pin_114 (by decide) ?_
                exact bm_zretX (v := false) hx hb hr hP hD hK hS ⟨(1), ms, ma, mp, mk, mn, ⟨ok_ms_parts, ok_ms_outs, ok_ms_nears, ok_ms_nets, ok_ms_pins, ok_ma_sides, ok_ma_groups, ok_mp_turns, ok_mk_nearOne, ok_mk_nearTwo, ok_mn_pinNet, ok_mn_pinPart, hw, hh⟩, rfl, rfl, false, rfl⟩ dX5_pin_115 hlocks
              · exact absurd c_40 (by decide)
          · exact absurd c_38 (by decide)
        · refine lv_aload_n hx hb dX5_pin_12 rfl (lv_at hl 0 rfl) ?_
          refine lv_iload_n hx hb dX5_pin_13 rfl (lv_at hl 2 rfl) ?_
          refine bm_rcallV (As := [.int zB]) (rest := []) ⟨hx, hb, hml, hown, hts⟩ (Y_isPartN  (zA := zB) hno_zB) (cwV 1 hts gvX5_139 rfl rfl rfl hvX5_isPart ⟨Nat.le_of_ble_eq_true rfl, Nat.le_of_ble_eq_true rfl⟩) hK hP 42 5 rfl ww_42 rfl hl.1 rfl (Nat.le_of_ble_eq_true rfl) dX5_pin_14 ⟨Nat.le_of_ble_eq_true rfl, Nat.le_of_ble_eq_true rfl⟩ ?_
          refine bm_zb_eq (x := false) (tgt := 24) hx hb dX5_pin_17 (by decide) (fun c_41 => ?_) (fun c_41 => ?_)
          · refine lv_iconst (v := bm_b false) hx hb dX5_pin_24 (by decide) ?_
            refine lv_istore (lv' := [(7, .int (bm_b false)), (0, .ref (ad 42)), (1, .int (nI k_zA)), (2, .int zB), (3, .long zC), (5, .long zD)]) hx hb dX5_pin_25 hl (by decide) rfl (fun ls hl => ?_)
            refine lv_iload hx hb dX5_pin_27 (lv_at hl 0 rfl) ?_
            refine bm_zb_eq (x := false) (tgt := 72) hx hb dX5_pin_29 (by decide) (fun c_42 => ?_) (fun c_42 => ?_)
            · refine lv_iconst (v := bm_b false) hx hb dX5_pin_72 (by decide) ?_
              refine lv_istore (lv' := [(8, .int (bm_b false)), (7, .int (bm_b false)), (0, .ref (ad 42)), (1, .int (nI k_zA)), (2, .int zB), (3, .long zC), (5, .long zD)]) hx hb dX5_pin_73 hl (by decide) rfl (fun ls hl => ?_)
              refine lv_aload_n hx hb dX5_pin_75 rfl (lv_at hl 2 rfl) ?_
              refine lv_iload hx hb dX5_pin_76 (lv_at hl 1 rfl) ?_
              refine bm_zb_ne (x := false) (tgt := 85) hx hb dX5_pin_78 (by decide) (fun c_43 => ?_) (fun c_43 => ?_)
              · exact absurd c_43 (by decide)
              · refine lv_iconst (v := nI 1) hx hb dX5_pin_81 (by decide) ?_
                refine lv_goto (tgt := 95) hx hb dX5_pin_82 (by decide) ?_
                refine va_put (D := D) (ci := 5) (v := .int (nI 1)) (ty := .int) (C := RX5) (T := TX5) (N := 28) hx hb hts (inT inX5) tyX5 tyX5_ok nmX5 hown hK hP hD hS 42 ww_42 rfl 0 (by decide) (hts (.fieldLink RX5 81 "BoardMovesModel" "thrown" "I") (List.mem_cons_of_mem _ flX5_81)) (fun _ h9 => h9) rfl (by decide +kernel) rfl rfl (Nat.le_of_ble_eq_true rfl) dX5_pin_95 (fun H locs hP hD hS => ?_)
                have hP : va_P D vwCl (WW ad cJ cI cZ bm pa p0 p1 p2 li wi (1) ms ma mp mk mn ou) H := hP
                have hD : va_D A (WW ad cJ cI cZ bm pa p0 p1 p2 li wi (1) ms ma mp mk mn ou) := hD
                refine lv_aload_n hx hb dX5_pin_98 rfl (lv_at hl 2 rfl) ?_
                refine va_get (D := D) (ci := 5) (v := .int (nI 1)) (C := RX5) (T := TX5) (N := 28) hx hb hts (inT inX5) hown hK hP 42 ww_42 rfl 0 (by decide) (hts (.fieldLink RX5 81 "BoardMovesModel" "thrown" "I") (List.mem_cons_of_mem _ flX5_81)) (fun _ h9 => h9) rfl dX5_pin_99 ?_
                refine bm_nz_ne (x := 1) (tgt := 114) hx hb (by decide) dX5_pin_102 (by decide) (fun c_44 => ?_) (fun c_44 => ?_)
                · refine lv_iconst (v := bm_b false) hx hb dX5_pin_114 (by decide) ?_
                  exact bm_zretX (v := false) hx hb hr hP hD hK hS ⟨(1), ms, ma, mp, mk, mn, ⟨ok_ms_parts, ok_ms_outs, ok_ms_nears, ok_ms_nets, ok_ms_pins, ok_ma_sides, ok_ma_groups, ok_mp_turns, ok_mk_nearOne, ok_mk_nearTwo, ok_mn_pinNet, ok_mn_pinPart, hw, hh⟩, rfl, rfl, false, rfl⟩ dX5_pin_115 hlocks
                · exact absurd c_44 (by decide)
            · exact absurd c_42 (by decide)
          · exact absurd c_41 (by decide)
  · have hl := lv_entry ([.ref (ad 42), .int zA, .int zB, .long zC, .long zD]) (n := 9) (Nat.le_of_ble_eq_true rfl)
    refine W.eq (g2 := entryFrame m ([.ref (ad 42), .int zA, .int zB, .long zC, .long zD] : List Value).toArray 9) (by rw [ha]) ?_
    rw [lg_entry_eq]
    generalize (lg_sl ([.ref (ad 42), .int zA, .int zB, .long zC, .long zD]) ++ List.replicate (9 - (lg_sl ([.ref (ad 42), .int zA, .int zB, .long zC, .long zD])).length) Slot.unset).toArray = ls at hl ⊢
    have hl : lv_has ls 9 [(0, .ref (ad 42)), (1, .int zA), (2, .int zB), (3, .long zC), (5, .long zD)] := hl
    refine lv_iload_n hx hb dX5_pin_0 rfl (lv_at hl 1 rfl) ?_
    refine lv_if_lt (x := zA) (tgt := 24) hx hb dX5_pin_1 (by decide) (fun c_45 => ?_) (fun c_45 => ?_)
    · refine lv_iconst (v := bm_b false) hx hb dX5_pin_24 (by decide) ?_
      refine lv_istore (lv' := [(7, .int (bm_b false)), (0, .ref (ad 42)), (1, .int zA), (2, .int zB), (3, .long zC), (5, .long zD)]) hx hb dX5_pin_25 hl (by decide) rfl (fun ls hl => ?_)
      refine lv_iload hx hb dX5_pin_27 (lv_at hl 0 rfl) ?_
      refine bm_zb_eq (x := false) (tgt := 72) hx hb dX5_pin_29 (by decide) (fun c_46 => ?_) (fun c_46 => ?_)
      · refine lv_iconst (v := bm_b false) hx hb dX5_pin_72 (by decide) ?_
        refine lv_istore (lv' := [(8, .int (bm_b false)), (7, .int (bm_b false)), (0, .ref (ad 42)), (1, .int zA), (2, .int zB), (3, .long zC), (5, .long zD)]) hx hb dX5_pin_73 hl (by decide) rfl (fun ls hl => ?_)
        refine lv_aload_n hx hb dX5_pin_75 rfl (lv_at hl 2 rfl) ?_
        refine lv_iload hx hb dX5_pin_76 (lv_at hl 1 rfl) ?_
        refine bm_zb_ne (x := false) (tgt := 85) hx hb dX5_pin_78 (by decide) (fun c_47 => ?_) (fun c_47 => ?_)
        · exact absurd c_47 (by decide)
        · refine lv_iconst (v := nI 1) hx hb dX5_pin_81 (by decide) ?_
          refine lv_goto (tgt := 95) hx hb dX5_pin_82 (by decide) ?_
          refine va_put (D := D) (ci := 5) (v := .int (nI 1)) (ty := .int) (C := RX5) (T := TX5) (N := 28) hx hb hts (inT inX5) tyX5 tyX5_ok nmX5 hown hK hP hD hS 42 ww_42 rfl 0 (by decide) (hts (.fieldLink RX5 81 "BoardMovesModel" "thrown" "I") (List.mem_cons_of_mem _ flX5_81)) (fun _ h9 => h9) rfl (by decide +kernel) rfl rfl (Nat.le_of_ble_eq_true rfl) dX5_pin_95 (fun H locs hP hD hS => ?_)
          have hP : va_P D vwCl (WW ad cJ cI cZ bm pa p0 p1 p2 li wi (1) ms ma mp mk mn ou) H := hP
          have hD : va_D A (WW ad cJ cI cZ bm pa p0 p1 p2 li wi (1) ms ma mp mk mn ou) := hD
          refine lv_aload_n hx hb dX5_pin_98 rfl (lv_at hl 2 rfl) ?_
          refine va_get (D := D) (ci := 5) (v := .int (nI 1)) (C := RX5) (T := TX5) (N := 28) hx hb hts (inT inX5) hown hK hP 42 ww_42 rfl 0 (by decide) (hts (.fieldLink RX5 81 "BoardMovesModel" "thrown" "I") (List.mem_cons_of_mem _ flX5_81)) (fun _ h9 => h9) rfl dX5_pin_99 ?_
          refine bm_nz_ne (x := 1) (tgt := 114) hx hb (by decide) dX5_pin_102 (by decide) (fun c_48 => ?_) (fun c_48 => ?_)
          · refine lv_iconst (v := bm_b false) hx hb dX5_pin_114 (by decide) ?_
            exact bm_zretX (v := false) hx hb hr hP hD hK hS ⟨(1), ms, ma, mp, mk, mn, ⟨ok_ms_parts, ok_ms_outs, ok_ms_nears, ok_ms_nets, ok_ms_pins, ok_ma_sides, ok_ma_groups, ok_mp_turns, ok_mk_nearOne, ok_mk_nearTwo, ok_mn_pinNet, ok_mn_pinPart, hw, hh⟩, rfl, rfl, false, rfl⟩ dX5_pin_115 hlocks
          · exact absurd c_48 (by decide)
      · exact absurd c_46 (by decide)
    · refine lv_iload_n hx hb dX5_pin_4 rfl (lv_at hl 1 rfl) ?_
      refine lv_aload_n hx hb dX5_pin_5 rfl (lv_at hl 0 rfl) ?_
      refine va_get (D := D) (ci := 5) (v := .int (nI ms.2.2.2.2.2.1)) (C := RX5) (T := TX5) (N := 28) hx hb hts (inT inX5) hown hK hP 42 ww_42 rfl 20 (by decide) (hts (.fieldLink RX5 160 "BoardMovesModel" "nets" "I") (List.mem_cons_of_mem _ flX5_160)) (fun _ h9 => h9) rfl dX5_pin_6 ?_
      refine lv_icmp_ge (x := zA) (y := (nI ms.2.2.2.2.2.1)) (tgt := 24) hx hb dX5_pin_9 (by decide) (fun c_49 => ?_) (fun c_49 => ?_)
      · refine lv_iconst (v := bm_b false) hx hb dX5_pin_24 (by decide) ?_
        refine lv_istore (lv' := [(7, .int (bm_b false)), (0, .ref (ad 42)), (1, .int zA), (2, .int zB), (3, .long zC), (5, .long zD)]) hx hb dX5_pin_25 hl (by decide) rfl (fun ls hl => ?_)
        refine lv_iload hx hb dX5_pin_27 (lv_at hl 0 rfl) ?_
        refine bm_zb_eq (x := false) (tgt := 72) hx hb dX5_pin_29 (by decide) (fun c_50 => ?_) (fun c_50 => ?_)
        · refine lv_iconst (v := bm_b false) hx hb dX5_pin_72 (by decide) ?_
          refine lv_istore (lv' := [(8, .int (bm_b false)), (7, .int (bm_b false)), (0, .ref (ad 42)), (1, .int zA), (2, .int zB), (3, .long zC), (5, .long zD)]) hx hb dX5_pin_73 hl (by decide) rfl (fun ls hl => ?_)
          refine lv_aload_n hx hb dX5_pin_75 rfl (lv_at hl 2 rfl) ?_
          refine lv_iload hx hb dX5_pin_76 (lv_at hl 1 rfl) ?_
          refine bm_zb_ne (x := false) (tgt := 85) hx hb dX5_pin_78 (by decide) (fun c_51 => ?_) (fun c_51 => ?_)
          · exact absurd c_51 (by decide)
          · refine lv_iconst (v := nI 1) hx hb dX5_pin_81 (by decide) ?_
            refine lv_goto (tgt := 95) hx hb dX5_pin_82 (by decide) ?_
            refine va_put (D := D) (ci := 5) (v := .int (nI 1)) (ty := .int) (C := RX5) (T := TX5) (N := 28) hx hb hts (inT inX5) tyX5 tyX5_ok nmX5 hown hK hP hD hS 42 ww_42 rfl 0 (by decide) (hts (.fieldLink RX5 81 "BoardMovesModel" "thrown" "I") (List.mem_cons_of_mem _ flX5_81)) (fun _ h9 => h9) rfl (by decide +kernel) rfl rfl (Nat.le_of_ble_eq_true rfl) dX5_pin_95 (fun H locs hP hD hS => ?_)
            have hP : va_P D vwCl (WW ad cJ cI cZ bm pa p0 p1 p2 li wi (1) ms ma mp mk mn ou) H := hP
            have hD : va_D A (WW ad cJ cI cZ bm pa p0 p1 p2 li wi (1) ms ma mp mk mn ou) := hD
            refine lv_aload_n hx hb dX5_pin_98 rfl (lv_at hl 2 rfl) ?_
            refine va_get (D := D) (ci := 5) (v := .int (nI 1)) (C := RX5) (T := TX5) (N := 28) hx hb hts (inT inX5) hown hK hP 42 ww_42 rfl 0 (by decide) (hts (.fieldLink RX5 81 "BoardMovesModel" "thrown" "I") (List.mem_cons_of_mem _ flX5_81)) (fun _ h9 => h9) rfl dX5_pin_99 ?_
            refine bm_nz_ne (x := 1) (tgt := 114) hx hb (by decide) dX5_pin_102 (by decide) (fun c_52 => ?_) (fun c_52 => ?_)
            · refine lv_iconst (v := bm_b false) hx hb dX5_pin_114 (by decide) ?_
              exact bm_zretX (v := false) hx hb hr hP hD hK hS ⟨(1), ms, ma, mp, mk, mn, ⟨ok_ms_parts, ok_ms_outs, ok_ms_nears, ok_ms_nets, ok_ms_pins, ok_ma_sides, ok_ma_groups, ok_mp_turns, ok_mk_nearOne, ok_mk_nearTwo, ok_mn_pinNet, ok_mn_pinPart, hw, hh⟩, rfl, rfl, false, rfl⟩ dX5_pin_115 hlocks
            · exact absurd c_52 (by decide)
        · exact absurd c_50 (by decide)
      · exact absurd ⟨c_45, bx_nlt c_49⟩ hno_zA
