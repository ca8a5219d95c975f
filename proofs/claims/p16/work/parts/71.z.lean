set_option maxHeartbeats 16000000 in
set_option maxRecDepth 100000 in
theorem Z_run {l : Launch} {D : va_G} {ad : Nat → Nat} {cJ cI cZ : ClassId} {bm : gBM} {pa : gPA} {p0 p1 p2 : gPL} {li : gLI} {wi : gWI} {mt : Nat} {ms : gMS} {ma : gMA} {mp : gMP} {mk : gMK} {mn : gMN} {ou : Nat → Int64} {zA : Nat} (hok : okC bm pa p0 p1 p2 li wi) (hz : zA ≤ 2000) : bm_Wx l yX4_run wsX4_run ({ frames := 6, cells := 0, slots := 0, locals := 154 }) D vwCl [(cJ, .long), (cI, .int), (cZ, .boolean)] (WW ad cJ cI cZ bm pa p0 p1 p2 li wi mt ms ma mp mk mn ou) [.ref (ad 0), .long (lN zA)] (PCI ad cJ cI cZ bm pa p0 p1 p2 li wi mt ms ma mp mk mn ou) := by
  obtain ⟨ok_pa_n, ok_pa_side, ok_pa_lowest, ok_p0_turn, ok_p1_turn, ok_p2_turn, ok_li_one, ok_li_other, ok_li_keepOuts, ok_li_nears, ok_wi_netOf, ok_wi_partOf, ok_wi_nets, ok_wi_pins, hw, hh, hI⟩ := hok
  intro sz
  refine Met.ofW (cc := cX4_run) (maxL := 10) (ret := (some .int)) (by decide) rfl ?_
  intro p e s m args below meth c s₁ B hml hv
  obtain ⟨ha, hsz, hP, hK, hD0⟩ := hv
  have hx := B.exec
  have hb := B.bytes
  have hr := B.returns
  have hts := atoms_spec (ws := wsX4_run) B.pre
  have hown : s.vm.findClass RX4 = some m.cls := findClass_of_methodNamed B.named
  have hlocks := B.notSynchronized
  subst hsz
  have hD := hD0.self (sz := s.heap.size)
  generalize hAe : va_A (WW ad cJ cI cZ bm pa p0 p1 p2 li wi mt ms ma mp mk mn ou) s.heap.size = A at hD ⊢
  have hA : ∀ q : Nat, s.heap.size ≤ q → A q := fun q h => by rw [← hAe]; exact Or.inr h
  have hS : va_S A s.heap s.heap [] := va_S.rf
  have hl := lv_entry ([.ref (ad 0), .long (lN zA)]) (n := 10) (Nat.le_of_ble_eq_true rfl)
  refine W.eq (g2 := entryFrame m ([.ref (ad 0), .long (lN zA)] : List Value).toArray 10) (by rw [ha]) ?_
  rw [lg_entry_eq]
  generalize (lg_sl ([.ref (ad 0), .long (lN zA)]) ++ List.replicate (10 - (lg_sl ([.ref (ad 0), .long (lN zA)])).length) Slot.unset).toArray = ls at hl ⊢
  have hl : lv_has ls 10 [(0, .ref (ad 0)), (1, .long (lN zA))] := hl
  refine lv_lload_n hx hb dX4_run_0 rfl (lv_at hl 1 rfl) ?_
  refine lv_lconst (v := 0) hx hb dX4_run_1 (by decide) ?_
  refine bm_lc_lt (x := (lN zA)) (y := 0) (tgt := 14) hx hb dX4_run_2 dX4_run_3 (by decide) (fun c_1 => ?_) (fun c_1 => ?_)
  · exact absurd c_1 (bx_lN0 (by omega))
  · refine lv_lload_n hx hb dX4_run_6 rfl (lv_at hl 1 rfl) ?_
    refine lv_ldc2 (v := 2000) hx hb hown (hts (.constantLong RX4 193 2000) (List.mem_cons_of_mem _ clX4_193)) dX4_run_7 ?_
    refine bm_lc_le (x := (lN zA)) (y := 2000) (tgt := 24) hx hb dX4_run_10 dX4_run_11 (by decide) (fun c_2 => ?_) (fun c_2 => ?_)
    · refine lv_aload_n hx hb dX4_run_24 rfl (lv_at hl 0 rfl) ?_
      refine va_get (D := D) (ci := 4) (v := .ref (ad 1)) (C := RX4) (T := TX4) (N := 10) hx hb hts (inT inX4) hown hK hP 0 ww_0 rfl 2 (by decide) (hts (.fieldLink RX4 12 "BoardMoves" "parts" "LBoardMoves$Parts;") (List.mem_cons_of_mem _ flX4_12)) (fun _ h9 => h9) rfl dX4_run_25 ?_
      refine va_get (D := D) (ci := 1) (v := .int (nI pa.2.2.2.2.2.2)) (C := RX1) (T := TX1) (N := 7) hx hb hts (inT inX1) hown hK hP 1 ww_1 rfl 6 (by decide) (hts (.fieldLink RX4 197 "BoardMoves$Parts" "count" "I") (List.mem_cons_of_mem _ flX4_197)) (fun _ h9 => h9) rfl dX4_run_28 ?_
      refine bm_nz_eq (x := pa.2.2.2.2.2.2) (tgt := 40) hx hb (by omega) dX4_run_31 (by decide) (fun c_3 => ?_) (fun c_3 => ?_)
      · refine lv_iconst (v := nI 0) hx hb dX4_run_40 (by decide) ?_
        exact bm_iretX (v := (nI 0)) hx hb hr hP hD hK hS ⟨bm, pa, p0, p1, p2, li, wi, ou, ⟨ok_pa_n, ok_pa_side, ok_pa_lowest, ok_p0_turn, ok_p1_turn, ok_p2_turn, ok_li_one, ok_li_other, ok_li_keepOuts, ok_li_nears, ok_wi_netOf, ok_wi_partOf, ok_wi_nets, ok_wi_pins, hw, hh, (INV_to hI rfl rfl rfl rfl rfl rfl rfl)⟩, rfl, rfl, (nI 0), rfl⟩ dX4_run_41 hlocks
      · refine lv_lload_n hx hb dX4_run_34 rfl (lv_at hl 1 rfl) ?_
        refine lv_lconst (v := 0) hx hb dX4_run_35 (by decide) ?_
        refine bm_lc_ne (x := (lN zA)) (y := 0) (tgt := 42) hx hb dX4_run_36 dX4_run_37 (by decide) (fun c_4 => ?_) (fun c_4 => ?_)
        · have hz0 : 0 < zA := Nat.pos_of_ne_zero (fun h => c_4 (by rw [h]; rfl))
          refine lv_aload_n hx hb dX4_run_42 rfl (lv_at hl 0 rfl) ?_
          refine va_get (D := D) (ci := 4) (v := .long bm.2.2.2) (C := RX4) (T := TX4) (N := 10) hx hb hts (inT inX4) hown hK hP 0 ww_0 rfl 9 (by decide) (hts (.fieldLink RX4 47 "BoardMoves" "keptWire" "J") (List.mem_cons_of_mem _ flX4_47)) (fun _ h9 => h9) rfl dX4_run_43 ?_
          refine lv_lstore_n (lv' := [(3, .long bm.2.2.2), (0, .ref (ad 0)), (1, .long (lN zA))]) hx hb dX4_run_46 rfl hl (by decide) rfl (fun ls hl => ?_)
          refine lv_aload_n hx hb dX4_run_47 rfl (lv_at hl 1 rfl) ?_
          refine va_get (D := D) (ci := 4) (v := .long bm.2.2.2) (C := RX4) (T := TX4) (N := 10) hx hb hts (inT inX4) hown hK hP 0 ww_0 rfl 9 (by decide) (hts (.fieldLink RX4 47 "BoardMoves" "keptWire" "J") (List.mem_cons_of_mem _ flX4_47)) (fun _ h9 => h9) rfl dX4_run_48 ?_
          refine lv_lstore (lv' := [(5, .long bm.2.2.2), (3, .long bm.2.2.2), (0, .ref (ad 0)), (1, .long (lN zA))]) hx hb dX4_run_51 hl (by decide) rfl (fun ls hl => ?_)
          refine lv_iconst (v := nI 0) hx hb dX4_run_53 (by decide) ?_
          refine lv_istore (lv' := [(7, .int (nI 0)), (5, .long bm.2.2.2), (3, .long bm.2.2.2), (0, .ref (ad 0)), (1, .long (lN zA))]) hx hb dX4_run_54 hl (by decide) rfl (fun ls hl => ?_)
          refine lv_aload_n hx hb dX4_run_56 rfl (lv_at hl 3 rfl) ?_
          refine va_get (D := D) (ci := 4) (v := .ref (ad 18)) (C := RX4) (T := TX4) (N := 10) hx hb hts (inT inX4) hown hK hP 0 ww_0 rfl 7 (by decide) (hts (.fieldLink RX4 44 "BoardMoves" "best" "LBoardMoves$Placement;") (List.mem_cons_of_mem _ flX4_44)) (fun _ h9 => h9) rfl dX4_run_57 ?_
          refine lv_aload_n hx hb dX4_run_60 rfl (lv_at hl 3 rfl) ?_
          refine va_get (D := D) (ci := 4) (v := .ref (ad 8)) (C := RX4) (T := TX4) (N := 10) hx hb hts (inT inX4) hown hK hP 0 ww_0 rfl 5 (by decide) (hts (.fieldLink RX4 37 "BoardMoves" "now" "LBoardMoves$Placement;") (List.mem_cons_of_mem _ flX4_37)) (fun _ h9 => h9) rfl dX4_run_61 ?_
          refine bm_wcallV (As := [.ref (ad 8)]) (rest := []) ⟨hx, hb, hml, hown, hts⟩ (w_copyp2p0  ⟨ok_pa_n, ok_pa_side, ok_pa_lowest⟩) (cwV 1 hts gvX4_108 rfl rfl rfl hvX2_copyFrom ⟨Nat.le_of_ble_eq_true rfl, Nat.le_of_ble_eq_true rfl⟩) hK hP hD hS hA 18 2 rfl ww_18 rfl hl.1 rfl (Nat.le_of_ble_eq_true rfl) dX4_run_64 ⟨Nat.le_of_ble_eq_true rfl, Nat.le_of_ble_eq_true rfl⟩ (fun H locs hP hD hS => ?_)
          have hP : va_P D vwCl (WW ad cJ cI cZ bm pa p0 p1 (q_copyU p0 p2 pa.2.2.2.2.2.2) li wi mt ms ma mp mk mn ou) H := hP
          have hD : va_D A (WW ad cJ cI cZ bm pa p0 p1 (q_copyU p0 p2 pa.2.2.2.2.2.2) li wi mt ms ma mp mk mn ou) := hD
          obtain ⟨pl_5, hpl_6⟩ : ∃ q9, q9 = q_copyU p0 p2 pa.2.2.2.2.2.2 := ⟨_, rfl⟩
          rw [← hpl_6] at hP hD
          have okq_7 : ∀ i, pl_5.2.2.1 i < 40 := by rw [hpl_6]; exact q_okL_copy (f := p0) (t := p2) ok_p0_turn ok_p2_turn
          have hag_8 : AG pa.2.2.2.2.2.2 pl_5 p0 := by rw [hpl_6]; exact ag_copy _ _ _
          have hP : va_P D vwCl (WW ad cJ cI cZ bm pa p0 p1 pl_5 li wi mt ms ma mp mk mn ou) H := hP
          have hD : va_D A (WW ad cJ cI cZ bm pa p0 p1 pl_5 li wi mt ms ma mp mk mn ou) := hD
          have hW_9 : ∀ j, j < pa.2.2.2.2.2.2 → q_well bm pa pl_5 li j = true := fun j hj => ag_well hag_8 hI.2.1 hj (hI.1 j hj)
          refine lv_lload_n hx hb dX4_run_67 rfl (lv_at hl 4 rfl) ?_
          refine lv_lconst (v := 1) hx hb dX4_run_68 (by decide) ?_
          refine lv_lsub hx hb dX4_run_69 ?_
          refine lv_lstore (lv' := [(8, .long (lN zA - 1)), (7, .int (nI 0)), (5, .long bm.2.2.2), (3, .long bm.2.2.2), (0, .ref (ad 0)), (1, .long (lN zA))]) hx hb dX4_run_70 hl (by decide) rfl (fun ls hl => ?_)
          have lp_10 : ∀ (j_11 : Nat) (v_13 : Int64) (v_14 : Int32) (g_15 : Nat → Int64) (g_16 : Nat → Int64) (g_17 : Nat → Nat) (g_19 : Nat → Bool) (g_20 : Nat → Int64) (g_21 : Nat → Int64) (g_22 : Nat → Nat) (g_24 : Nat → Bool) (g_25 : Nat → Int64) (g_26 : Nat → Int64) (g_27 : Nat → Nat) (g_29 : Nat → Bool) (g_30 : Nat → Bool) (g_31 : Nat → Int64) (g_32 : Nat → Int64) (g_33 : Nat → Int64) (g_34 : Nat → Int64) (g_35 : Int64) (g_36 : Int64), (∀ i, g_17 i < 40) → (∀ i, g_22 i < 40) → (∀ i, g_27 i < 40) → (INV bm pa (g_15, g_16, g_17, g_19) li ∧ ∀ j, j < pa.2.2.2.2.2.2 → q_well bm pa (g_25, g_26, g_27, g_29) li j = true) → ∀ (H : Heap) (locs : List Loc), va_P D vwCl (WW ad cJ cI cZ (bm.1, bm.2.1, g_36, g_35) pa (g_15, g_16, g_17, g_19) (g_20, g_21, g_22, g_24) (g_25, g_26, g_27, g_29) li (wi.1, wi.2.1, wi.2.2.1, wi.2.2.2.1, g_30, g_31, g_32, g_33, g_34, wi.2.2.2.2.2.2.2.2.2.1, wi.2.2.2.2.2.2.2.2.2.2) mt ms ma mp mk mn ou) H → va_D A (WW ad cJ cI cZ (bm.1, bm.2.1, g_36, g_35) pa (g_15, g_16, g_17, g_19) (g_20, g_21, g_22, g_24) (g_25, g_26, g_27, g_29) li (wi.1, wi.2.1, wi.2.2.1, wi.2.2.2.1, g_30, g_31, g_32, g_33, g_34, wi.2.2.2.2.2.2.2.2.2.1, wi.2.2.2.2.2.2.2.2.2.2) mt ms ma mp mk mn ou) → va_S A s.heap H locs → ∀ (ls : Array Slot), lv_has ls 10 [(8, .long (lN j_11 - 1)), (7, .int v_14), (5, .long v_13), (3, .long bm.2.2.2), (0, .ref (ad 0)), (1, .long (lN zA))] → W p l e (headSpec wsX4_run ({ frames := 6, cells := 0, slots := 0, locals := 154 })).room s m args below meth c H locs 0 0 (MQ below (bm_Wxq D vwCl [(cJ, .long), (cI, .int), (cZ, .boolean)] (PCI ad cJ cI cZ bm pa p0 p1 p2 li wi mt ms ma mp mk mn ou) A) args s 0 0 A) (F0 m 72 ls []) := by
            intro j_11
            induction j_11 with
            | zero =>
              intro v_13 v_14 g_15 g_16 g_17 g_19 g_20 g_21 g_22 g_24 g_25 g_26 g_27 g_29 g_30 g_31 g_32 g_33 g_34 g_35 g_36 ok_18 ok_23 ok_28 hf_37 H locs hP hD hS ls hl
              refine lv_lload hx hb dX4_run_72 (lv_at hl 0 rfl) ?_
              refine lv_lconst (v := 0) hx hb dX4_run_74 (by decide) ?_
              refine bm_lc_lt (x := (lN 0 - 1)) (y := 0) (tgt := 135) hx hb dX4_run_75 dX4_run_76 (by decide) (fun c_38 => ?_) (fun c_38 => ?_)
              · refine lv_aload_n hx hb dX4_run_135 rfl (lv_at hl 4 rfl) ?_
                refine va_get (D := D) (ci := 4) (v := .ref (ad 8)) (C := RX4) (T := TX4) (N := 10) hx hb hts (inT inX4) hown hK hP 0 ww_0 rfl 5 (by decide) (hts (.fieldLink RX4 37 "BoardMoves" "now" "LBoardMoves$Placement;") (List.mem_cons_of_mem _ flX4_37)) (fun _ h9 => h9) rfl dX4_run_136 ?_
                refine lv_aload_n hx hb dX4_run_139 rfl (lv_at hl 4 rfl) ?_
                refine va_get (D := D) (ci := 4) (v := .ref (ad 18)) (C := RX4) (T := TX4) (N := 10) hx hb hts (inT inX4) hown hK hP 0 ww_0 rfl 7 (by decide) (hts (.fieldLink RX4 44 "BoardMoves" "best" "LBoardMoves$Placement;") (List.mem_cons_of_mem _ flX4_44)) (fun _ h9 => h9) rfl dX4_run_140 ?_
                refine bm_wcallV (As := [.ref (ad 18)]) (rest := []) ⟨hx, hb, hml, hown, hts⟩ (w_copyp0p2 (bm := (bm.1, bm.2.1, g_36, g_35)) (p0 := (g_15, g_16, g_17, g_19)) (p1 := (g_20, g_21, g_22, g_24)) (p2 := (g_25, g_26, g_27, g_29)) (wi := (wi.1, wi.2.1, wi.2.2.1, wi.2.2.2.1, g_30, g_31, g_32, g_33, g_34, wi.2.2.2.2.2.2.2.2.2.1, wi.2.2.2.2.2.2.2.2.2.2)) ⟨ok_pa_n, ok_pa_side, ok_pa_lowest⟩) (cwV 1 hts gvX4_108 rfl rfl rfl hvX2_copyFrom ⟨Nat.le_of_ble_eq_true rfl, Nat.le_of_ble_eq_true rfl⟩) hK hP hD hS hA 8 2 rfl ww_8 rfl hl.1 rfl (Nat.le_of_ble_eq_true rfl) dX4_run_143 ⟨Nat.le_of_ble_eq_true rfl, Nat.le_of_ble_eq_true rfl⟩ (fun H locs hP hD hS => ?_)
                have hP : va_P D vwCl (WW ad cJ cI cZ (bm.1, bm.2.1, g_36, g_35) pa (q_copyU (g_25, g_26, g_27, g_29) (g_15, g_16, g_17, g_19) pa.2.2.2.2.2.2) (g_20, g_21, g_22, g_24) (g_25, g_26, g_27, g_29) li (wi.1, wi.2.1, wi.2.2.1, wi.2.2.2.1, g_30, g_31, g_32, g_33, g_34, wi.2.2.2.2.2.2.2.2.2.1, wi.2.2.2.2.2.2.2.2.2.2) mt ms ma mp mk mn ou) H := hP
                have hD : va_D A (WW ad cJ cI cZ (bm.1, bm.2.1, g_36, g_35) pa (q_copyU (g_25, g_26, g_27, g_29) (g_15, g_16, g_17, g_19) pa.2.2.2.2.2.2) (g_20, g_21, g_22, g_24) (g_25, g_26, g_27, g_29) li (wi.1, wi.2.1, wi.2.2.1, wi.2.2.2.1, g_30, g_31, g_32, g_33, g_34, wi.2.2.2.2.2.2.2.2.2.1, wi.2.2.2.2.2.2.2.2.2.2) mt ms ma mp mk mn ou) := hD
                obtain ⟨pl_39, hpl_40⟩ : ∃ q9, q9 = q_copyU (g_25, g_26, g_27, g_29) (g_15, g_16, g_17, g_19) pa.2.2.2.2.2.2 := ⟨_, rfl⟩
                rw [← hpl_40] at hP hD
                have okq_41 : ∀ i, pl_39.2.2.1 i < 40 := by rw [hpl_40]; exact q_okL_copy (f := (g_25, g_26, g_27, g_29)) (t := (g_15, g_16, g_17, g_19)) ok_28 ok_18
                have hag_42 : AG pa.2.2.2.2.2.2 pl_39 (g_25, g_26, g_27, g_29) := by rw [hpl_40]; exact ag_copy _ _ _
                have hP : va_P D vwCl (WW ad cJ cI cZ (bm.1, bm.2.1, g_36, g_35) pa pl_39 (g_20, g_21, g_22, g_24) (g_25, g_26, g_27, g_29) li (wi.1, wi.2.1, wi.2.2.1, wi.2.2.2.1, g_30, g_31, g_32, g_33, g_34, wi.2.2.2.2.2.2.2.2.2.1, wi.2.2.2.2.2.2.2.2.2.2) mt ms ma mp mk mn ou) H := hP
                have hD : va_D A (WW ad cJ cI cZ (bm.1, bm.2.1, g_36, g_35) pa pl_39 (g_20, g_21, g_22, g_24) (g_25, g_26, g_27, g_29) li (wi.1, wi.2.1, wi.2.2.1, wi.2.2.2.1, g_30, g_31, g_32, g_33, g_34, wi.2.2.2.2.2.2.2.2.2.1, wi.2.2.2.2.2.2.2.2.2.2) mt ms ma mp mk mn ou) := hD
                have ho_43 : ∀ i, pa.2.2.2.2.2.2 ≤ i → pl_39.2.2.2 i = (g_15, g_16, g_17, g_19).2.2.2 i := by rw [hpl_40]; exact copy_same
                refine lv_aload_n hx hb dX4_run_146 rfl (lv_at hl 4 rfl) ?_
                refine lv_lload hx hb dX4_run_147 (lv_at hl 2 rfl) ?_
                refine va_put (D := D) (ci := 4) (v := .long v_13) (ty := .long) (C := RX4) (T := TX4) (N := 10) hx hb hts (inT inX4) tyX4 tyX4_ok nmX4 hown hK hP hD hS 0 ww_0 rfl 9 (by decide) (hts (.fieldLink RX4 47 "BoardMoves" "keptWire" "J") (List.mem_cons_of_mem _ flX4_47)) (fun _ h9 => h9) rfl (by decide +kernel) rfl rfl (Nat.le_of_ble_eq_true rfl) dX4_run_149 (fun H locs hP hD hS => ?_)
                have hP : va_P D vwCl (WW ad cJ cI cZ (bm.1, bm.2.1, g_36, v_13) pa pl_39 (g_20, g_21, g_22, g_24) (g_25, g_26, g_27, g_29) li (wi.1, wi.2.1, wi.2.2.1, wi.2.2.2.1, g_30, g_31, g_32, g_33, g_34, wi.2.2.2.2.2.2.2.2.2.1, wi.2.2.2.2.2.2.2.2.2.2) mt ms ma mp mk mn ou) H := hP
                have hD : va_D A (WW ad cJ cI cZ (bm.1, bm.2.1, g_36, v_13) pa pl_39 (g_20, g_21, g_22, g_24) (g_25, g_26, g_27, g_29) li (wi.1, wi.2.1, wi.2.2.1, wi.2.2.2.1, g_30, g_31, g_32, g_33, g_34, wi.2.2.2.2.2.2.2.2.2.1, wi.2.2.2.2.2.2.2.2.2.2) mt ms ma mp mk mn ou) := hD
                refine lv_iload hx hb dX4_run_152 (lv_at hl 1 rfl) ?_
                exact bm_iretX (v := v_14) hx hb hr hP hD hK hS ⟨(bm.1, bm.2.1, g_36, v_13), pa, pl_39, (g_20, g_21, g_22, g_24), (g_25, g_26, g_27, g_29), li, (wi.1, wi.2.1, wi.2.2.1, wi.2.2.2.1, g_30, g_31, g_32, g_33, g_34, wi.2.2.2.2.2.2.2.2.2.1, wi.2.2.2.2.2.2.2.2.2.2), ou, ⟨ok_pa_n, ok_pa_side, ok_pa_lowest, okq_41, ok_23, ok_28, ok_li_one, ok_li_other, ok_li_keepOuts, ok_li_nears, ok_wi_netOf, ok_wi_partOf, ok_wi_nets, ok_wi_pins, hw, hh, (INV_to (INV_ag hf_37.2 hf_37.1.2.1 (fun i hi => (ho_43 i hi).trans (hf_37.1.2.2 i hi)) hag_42) rfl rfl rfl rfl rfl rfl rfl)⟩, rfl, rfl, v_14, rfl⟩ dX4_run_154 hlocks
              · exact absurd (by decide) c_38
            | succ j_11 ih_12 =>
              intro v_13 v_14 g_15 g_16 g_17 g_19 g_20 g_21 g_22 g_24 g_25 g_26 g_27 g_29 g_30 g_31 g_32 g_33 g_34 g_35 g_36 ok_18 ok_23 ok_28 hf_37 H locs hP hD hS ls hl
              refine lv_lload hx hb dX4_run_72 (lv_at hl 0 rfl) ?_
              refine lv_lconst (v := 0) hx hb dX4_run_74 (by decide) ?_
              refine bm_lc_lt (x := (lN (j_11 + 1) - 1)) (y := 0) (tgt := 135) hx hb dX4_run_75 dX4_run_76 (by decide) (fun c_44 => ?_) (fun c_44 => ?_)
              · refine lv_aload_n hx hb dX4_run_135 rfl (lv_at hl 4 rfl) ?_
                refine va_get (D := D) (ci := 4) (v := .ref (ad 8)) (C := RX4) (T := TX4) (N := 10) hx hb hts (inT inX4) hown hK hP 0 ww_0 rfl 5 (by decide) (hts (.fieldLink RX4 37 "BoardMoves" "now" "LBoardMoves$Placement;") (List.mem_cons_of_mem _ flX4_37)) (fun _ h9 => h9) rfl dX4_run_136 ?_
                refine lv_aload_n hx hb dX4_run_139 rfl (lv_at hl 4 rfl) ?_
                refine va_get (D := D) (ci := 4) (v := .ref (ad 18)) (C := RX4) (T := TX4) (N := 10) hx hb hts (inT inX4) hown hK hP 0 ww_0 rfl 7 (by decide) (hts (.fieldLink RX4 44 "BoardMoves" "best" "LBoardMoves$Placement;") (List.mem_cons_of_mem _ flX4_44)) (fun _ h9 => h9) rfl dX4_run_140 ?_
                refine bm_wcallV (As := [.ref (ad 18)]) (rest := []) ⟨hx, hb, hml, hown, hts⟩ (w_copyp0p2 (bm := (bm.1, bm.2.1, g_36, g_35)) (p0 := (g_15, g_16, g_17, g_19)) (p1 := (g_20, g_21, g_22, g_24)) (p2 := (g_25, g_26, g_27, g_29)) (wi := (wi.1, wi.2.1, wi.2.2.1, wi.2.2.2.1, g_30, g_31, g_32, g_33, g_34, wi.2.2.2.2.2.2.2.2.2.1, wi.2.2.2.2.2.2.2.2.2.2)) ⟨ok_pa_n, ok_pa_side, ok_pa_lowest⟩) (cwV 1 hts gvX4_108 rfl rfl rfl hvX2_copyFrom ⟨Nat.le_of_ble_eq_true rfl, Nat.le_of_ble_eq_true rfl⟩) hK hP hD hS hA 8 2 rfl ww_8 rfl hl.1 rfl (Nat.le_of_ble_eq_true rfl) dX4_run_143 ⟨Nat.le_of_ble_eq_true rfl, Nat.le_of_ble_eq_true rfl⟩ (fun H locs hP hD hS => ?_)
                have hP : va_P D vwCl (WW ad cJ cI cZ (bm.1, bm.2.1, g_36, g_35) pa (q_copyU (g_25, g_26, g_27, g_29) (g_15, g_16, g_17, g_19) pa.2.2.2.2.2.2) (g_20, g_21, g_22, g_24) (g_25, g_26, g_27, g_29) li (wi.1, wi.2.1, wi.2.2.1, wi.2.2.2.1, g_30, g_31, g_32, g_33, g_34, wi.2.2.2.2.2.2.2.2.2.1, wi.2.2.2.2.2.2.2.2.2.2) mt ms ma mp mk mn ou) H := hP
                have hD : va_D A (WW ad cJ cI cZ (bm.1, bm.2.1, g_36, g_35) pa (q_copyU (g_25, g_26, g_27, g_29) (g_15, g_16, g_17, g_19) pa.2.2.2.2.2.2) (g_20, g_21, g_22, g_24) (g_25, g_26, g_27, g_29) li (wi.1, wi.2.1, wi.2.2.1, wi.2.2.2.1, g_30, g_31, g_32, g_33, g_34, wi.2.2.2.2.2.2.2.2.2.1, wi.2.2.2.2.2.2.2.2.2.2) mt ms ma mp mk mn ou) := hD
                obtain ⟨pl_45, hpl_46⟩ : ∃ q9, q9 = q_copyU (g_25, g_26, g_27, g_29) (g_15, g_16, g_17, g_19) pa.2.2.2.2.2.2 := ⟨_, rfl⟩
                rw [← hpl_46] at hP hD
                have okq_47 : ∀ i, pl_45.2.2.1 i < 40 := by rw [hpl_46]; exact q_okL_copy (f := (g_25, g_26, g_27, g_29)) (t := (g_15, g_16, g_17, g_19)) ok_28 ok_18
                have hag_48 : AG pa.2.2.2.2.2.2 pl_45 (g_25, g_26, g_27, g_29) := by rw [hpl_46]; exact ag_copy _ _ _
                have hP : va_P D vwCl (WW ad cJ cI cZ (bm.1, bm.2.1, g_36, g_35) pa pl_45 (g_20, g_21, g_22, g_24) (g_25, g_26, g_27, g_29) li (wi.1, wi.2.1, wi.2.2.1, wi.2.2.2.1, g_30, g_31, g_32, g_33, g_34, wi.2.2.2.2.2.2.2.2.2.1, wi.2.2.2.2.2.2.2.2.2.2) mt ms ma mp mk mn ou) H := hP
                have hD : va_D A (WW ad cJ cI cZ (bm.1, bm.2.1, g_36, g_35) pa pl_45 (g_20, g_21, g_22, g_24) (g_25, g_26, g_27, g_29) li (wi.1, wi.2.1, wi.2.2.1, wi.2.2.2.1, g_30, g_31, g_32, g_33, g_34, wi.2.2.2.2.2.2.2.2.2.1, wi.2.2.2.2.2.2.2.2.2.2) mt ms ma mp mk mn ou) := hD
                have ho_49 : ∀ i, pa.2.2.2.2.2.2 ≤ i → pl_45.2.2.2 i = (g_15, g_16, g_17, g_19).2.2.2 i := by rw [hpl_46]; exact copy_same
                refine lv_aload_n hx hb dX4_run_146 rfl (lv_at hl 4 rfl) ?_
                refine lv_lload hx hb dX4_run_147 (lv_at hl 2 rfl) ?_
                refine va_put (D := D) (ci := 4) (v := .long v_13) (ty := .long) (C := RX4) (T := TX4) (N := 10) hx hb hts (inT inX4) tyX4 tyX4_ok nmX4 hown hK hP hD hS 0 ww_0 rfl 9 (by decide) (hts (.fieldLink RX4 47 "BoardMoves" "keptWire" "J") (List.mem_cons_of_mem _ flX4_47)) (fun _ h9 => h9) rfl (by decide +kernel) rfl rfl (Nat.le_of_ble_eq_true rfl) dX4_run_149 (fun H locs hP hD hS => ?_)
                have hP : va_P D vwCl (WW ad cJ cI cZ (bm.1, bm.2.1, g_36, v_13) pa pl_45 (g_20, g_21, g_22, g_24) (g_25, g_26, g_27, g_29) li (wi.1, wi.2.1, wi.2.2.1, wi.2.2.2.1, g_30, g_31, g_32, g_33, g_34, wi.2.2.2.2.2.2.2.2.2.1, wi.2.2.2.2.2.2.2.2.2.2) mt ms ma mp mk mn ou) H := hP
                have hD : va_D A (WW ad cJ cI cZ (bm.1, bm.2.1, g_36, v_13) pa pl_45 (g_20, g_21, g_22, g_24) (g_25, g_26, g_27, g_29) li (wi.1, wi.2.1, wi.2.2.1, wi.2.2.2.1, g_30, g_31, g_32, g_33, g_34, wi.2.2.2.2.2.2.2.2.2.1, wi.2.2.2.2.2.2.2.2.2.2) mt ms ma mp mk mn ou) := hD
                refine lv_iload hx hb dX4_run_152 (lv_at hl 1 rfl) ?_
                exact bm_iretX (v := v_14) hx hb hr hP hD hK hS ⟨(bm.1, bm.2.1, g_36, v_13), pa, pl_45, (g_20, g_21, g_22, g_24), (g_25, g_26, g_27, g_29), li, (wi.1, wi.2.1, wi.2.2.1, wi.2.2.2.1, g_30, g_31, g_32, g_33, g_34, wi.2.2.2.2.2.2.2.2.2.1, wi.2.2.2.2.2.2.2.2.2.2), ou, ⟨ok_pa_n, ok_pa_side, ok_pa_lowest, okq_47, ok_23, ok_28, ok_li_one, ok_li_other, ok_li_keepOuts, ok_li_nears, ok_wi_netOf, ok_wi_partOf, ok_wi_nets, ok_wi_pins, hw, hh, (INV_to (INV_ag hf_37.2 hf_37.1.2.1 (fun i hi => (ho_49 i hi).trans (hf_37.1.2.2 i hi)) hag_48) rfl rfl rfl rfl rfl rfl rfl)⟩, rfl, rfl, v_14, rfl⟩ dX4_run_154 hlocks
              · refine lv_aload_n hx hb dX4_run_79 rfl (lv_at hl 4 rfl) ?_
                refine lv_lload_n hx hb dX4_run_80 rfl (lv_at hl 3 rfl) ?_
                refine lv_lload hx hb dX4_run_81 (lv_at hl 0 rfl) ?_
                refine lv_lmul hx hb dX4_run_83 ?_
                refine lv_topl (fun t_50 _ => ?_)
                refine lv_ldc2 (v := 8) hx hb hown (hts (.constantLong RX4 200 8) (List.mem_cons_of_mem _ clX4_200)) dX4_run_84 ?_
                refine lv_lload_n hx hb dX4_run_87 rfl (lv_at hl 5 rfl) ?_
                refine bm_lmulN (x := 8) (y := zA) hx hb dX4_run_88 ?_
                refine lv_ldiv hx hb dX4_run_89 (bm_lN_ne0 (by omega) (by omega)) ?_
                refine lv_topl (fun t_51 _ => ?_)
                refine bm_xcallV (As := [.long t_51]) (rest := []) ⟨hx, hb, hml, hown, hts⟩ (x_stepI (bm := (bm.1, bm.2.1, g_36, g_35)) (p0 := (g_15, g_16, g_17, g_19)) (p1 := (g_20, g_21, g_22, g_24)) (p2 := (g_25, g_26, g_27, g_29)) (wi := (wi.1, wi.2.1, wi.2.2.1, wi.2.2.2.1, g_30, g_31, g_32, g_33, g_34, wi.2.2.2.2.2.2.2.2.2.1, wi.2.2.2.2.2.2.2.2.2.2)) (z1 := t_51) ok_pa_n ok_pa_side ok_pa_lowest ok_18 ok_li_keepOuts ok_li_nears ok_li_one ok_li_other ok_23 ok_wi_nets ok_wi_pins ok_wi_netOf ok_wi_partOf  hw hh (INV_to hf_37.1 rfl rfl rfl rfl rfl rfl rfl)) (cwV 1 hts gvX4_202 rfl rfl rfl hvX4_step ⟨Nat.le_of_ble_eq_true rfl, Nat.le_of_ble_eq_true rfl⟩) hK hP hD hS hA 0 4 rfl ww_0 rfl hl.1 rfl (Nat.le_of_ble_eq_true rfl) dX4_run_90 ⟨Nat.le_of_ble_eq_true rfl, Nat.le_of_ble_eq_true rfl⟩ (fun ws_52 r_53 h_54 H locs hP hD hS => ?_)
                obtain ⟨g_55, g_56, g_57, g_59, g_60, g_61, g_62, g_64, g_65, g_66, g_67, g_68, g_69, g_70, g_71, ok_58, ok_63, hf_72, rfl, v_73, rfl⟩ := h_54
                have hP : va_P D vwCl (WW ad cJ cI cZ (bm.1, bm.2.1, g_71, g_70) pa (g_55, g_56, g_57, g_59) (g_60, g_61, g_62, g_64) (g_25, g_26, g_27, g_29) li (wi.1, wi.2.1, wi.2.2.1, wi.2.2.2.1, g_65, g_66, g_67, g_68, g_69, wi.2.2.2.2.2.2.2.2.2.1, wi.2.2.2.2.2.2.2.2.2.2) mt ms ma mp mk mn ou) H := hP
                have hD : va_D A (WW ad cJ cI cZ (bm.1, bm.2.1, g_71, g_70) pa (g_55, g_56, g_57, g_59) (g_60, g_61, g_62, g_64) (g_25, g_26, g_27, g_29) li (wi.1, wi.2.1, wi.2.2.1, wi.2.2.2.1, g_65, g_66, g_67, g_68, g_69, wi.2.2.2.2.2.2.2.2.2.1, wi.2.2.2.2.2.2.2.2.2.2) mt ms ma mp mk mn ou) := hD
                have hf_72I : INV bm pa (g_55, g_56, g_57, g_59) li := INV_to hf_72 rfl rfl rfl rfl rfl rfl rfl
                refine bm_zb_eq (x := v_73) (tgt := 126) hx hb dX4_run_93 (by decide) (fun c_74 => ?_) (fun c_74 => ?_)
                · refine lv_lload hx hb dX4_run_126 (lv_at hl 0 rfl) ?_
                  refine lv_lconst (v := 1) hx hb dX4_run_128 (by decide) ?_
                  refine lv_lsub hx hb dX4_run_129 ?_
                  rw [bx_lNs j_11]
                  refine lv_lstore (lv' := [(8, .long (lN j_11 - 1)), (7, .int v_14), (5, .long v_13), (3, .long bm.2.2.2), (0, .ref (ad 0)), (1, .long (lN zA))]) hx hb dX4_run_130 hl (by decide) rfl (fun ls hl => ?_)
                  refine lv_goto (tgt := 72) hx hb dX4_run_132 (by decide) ?_
                  exact ih_12 v_13 v_14 g_55 g_56 g_57 g_59 g_60 g_61 g_62 g_64 g_25 g_26 g_27 g_29 g_65 g_66 g_67 g_68 g_69 g_70 g_71 ok_58 ok_63 ok_28 ⟨hf_72I, hf_37.2⟩ _ _ hP hD hS _ (lv_sub hl [0, 1, 2, 3, 4, 5] rfl)
                · refine lv_iinc (v := (v_14 + 1)) (lv' := [(7, .int (v_14 + 1)), (8, .long (lN (j_11 + 1) - 1)), (5, .long v_13), (3, .long bm.2.2.2), (0, .ref (ad 0)), (1, .long (lN zA))]) hx hb dX4_run_96 hl (k := 1) rfl (rfl) (by decide) rfl (fun ls hl => ?_)
                  refine lv_aload_n hx hb dX4_run_99 rfl (lv_at hl 4 rfl) ?_
                  refine va_get (D := D) (ci := 4) (v := .long g_70) (C := RX4) (T := TX4) (N := 10) hx hb hts (inT inX4) hown hK hP 0 ww_0 rfl 9 (by decide) (hts (.fieldLink RX4 47 "BoardMoves" "keptWire" "J") (List.mem_cons_of_mem _ flX4_47)) (fun _ h9 => h9) rfl dX4_run_100 ?_
                  refine lv_lload hx hb dX4_run_103 (lv_at hl 2 rfl) ?_
                  refine bm_lc_ge (x := g_70) (y := v_13) (tgt := 126) hx hb dX4_run_105 dX4_run_106 (by decide) (fun c_75 => ?_) (fun c_75 => ?_)
                  · refine lv_lload hx hb dX4_run_126 (lv_at hl 1 rfl) ?_
                    refine lv_lconst (v := 1) hx hb dX4_run_128 (by decide) ?_
                    refine lv_lsub hx hb dX4_run_129 ?_
                    rw [bx_lNs j_11]
                    refine lv_lstore (lv' := [(8, .long (lN j_11 - 1)), (7, .int (v_14 + 1)), (5, .long v_13), (3, .long bm.2.2.2), (0, .ref (ad 0)), (1, .long (lN zA))]) hx hb dX4_run_130 hl (by decide) rfl (fun ls hl => ?_)
                    refine lv_goto (tgt := 72) hx hb dX4_run_132 (by decide) ?_
                    exact ih_12 v_13 (v_14 + 1) g_55 g_56 g_57 g_59 g_60 g_61 g_62 g_64 g_25 g_26 g_27 g_29 g_65 g_66 g_67 g_68 g_69 g_70 g_71 ok_58 ok_63 ok_28 ⟨hf_72I, hf_37.2⟩ _ _ hP hD hS _ (lv_sub hl [0, 1, 2, 3, 4, 5] rfl)
                  · refine lv_aload_n hx hb dX4_run_109 rfl (lv_at hl 4 rfl) ?_
                    refine va_get (D := D) (ci := 4) (v := .long g_70) (C := RX4) (T := TX4) (N := 10) hx hb hts (inT inX4) hown hK hP 0 ww_0 rfl 9 (by decide) (hts (.fieldLink RX4 47 "BoardMoves" "keptWire" "J") (List.mem_cons_of_mem _ flX4_47)) (fun _ h9 => h9) rfl dX4_run_110 ?_
                    refine lv_lstore (lv' := [(5, .long g_70), (7, .int (v_14 + 1)), (8, .long (lN (j_11 + 1) - 1)), (3, .long bm.2.2.2), (0, .ref (ad 0)), (1, .long (lN zA))]) hx hb dX4_run_113 hl (by decide) rfl (fun ls hl => ?_)
                    refine lv_aload_n hx hb dX4_run_115 rfl (lv_at hl 4 rfl) ?_
                    refine va_get (D := D) (ci := 4) (v := .ref (ad 18)) (C := RX4) (T := TX4) (N := 10) hx hb hts (inT inX4) hown hK hP 0 ww_0 rfl 7 (by decide) (hts (.fieldLink RX4 44 "BoardMoves" "best" "LBoardMoves$Placement;") (List.mem_cons_of_mem _ flX4_44)) (fun _ h9 => h9) rfl dX4_run_116 ?_
                    refine lv_aload_n hx hb dX4_run_119 rfl (lv_at hl 4 rfl) ?_
                    refine va_get (D := D) (ci := 4) (v := .ref (ad 8)) (C := RX4) (T := TX4) (N := 10) hx hb hts (inT inX4) hown hK hP 0 ww_0 rfl 5 (by decide) (hts (.fieldLink RX4 37 "BoardMoves" "now" "LBoardMoves$Placement;") (List.mem_cons_of_mem _ flX4_37)) (fun _ h9 => h9) rfl dX4_run_120 ?_
                    refine bm_wcallV (As := [.ref (ad 8)]) (rest := []) ⟨hx, hb, hml, hown, hts⟩ (w_copyp2p0 (bm := (bm.1, bm.2.1, g_71, g_70)) (p0 := (g_55, g_56, g_57, g_59)) (p1 := (g_60, g_61, g_62, g_64)) (p2 := (g_25, g_26, g_27, g_29)) (wi := (wi.1, wi.2.1, wi.2.2.1, wi.2.2.2.1, g_65, g_66, g_67, g_68, g_69, wi.2.2.2.2.2.2.2.2.2.1, wi.2.2.2.2.2.2.2.2.2.2)) ⟨ok_pa_n, ok_pa_side, ok_pa_lowest⟩) (cwV 1 hts gvX4_108 rfl rfl rfl hvX2_copyFrom ⟨Nat.le_of_ble_eq_true rfl, Nat.le_of_ble_eq_true rfl⟩) hK hP hD hS hA 18 2 rfl ww_18 rfl hl.1 rfl (Nat.le_of_ble_eq_true rfl) dX4_run_123 ⟨Nat.le_of_ble_eq_true rfl, Nat.le_of_ble_eq_true rfl⟩ (fun H locs hP hD hS => ?_)
                    have hP : va_P D vwCl (WW ad cJ cI cZ (bm.1, bm.2.1, g_71, g_70) pa (g_55, g_56, g_57, g_59) (g_60, g_61, g_62, g_64) (q_copyU (g_55, g_56, g_57, g_59) (g_25, g_26, g_27, g_29) pa.2.2.2.2.2.2) li (wi.1, wi.2.1, wi.2.2.1, wi.2.2.2.1, g_65, g_66, g_67, g_68, g_69, wi.2.2.2.2.2.2.2.2.2.1, wi.2.2.2.2.2.2.2.2.2.2) mt ms ma mp mk mn ou) H := hP
                    have hD : va_D A (WW ad cJ cI cZ (bm.1, bm.2.1, g_71, g_70) pa (g_55, g_56, g_57, g_59) (g_60, g_61, g_62, g_64) (q_copyU (g_55, g_56, g_57, g_59) (g_25, g_26, g_27, g_29) pa.2.2.2.2.2.2) li (wi.1, wi.2.1, wi.2.2.1, wi.2.2.2.1, g_65, g_66, g_67, g_68, g_69, wi.2.2.2.2.2.2.2.2.2.1, wi.2.2.2.2.2.2.2.2.2.2) mt ms ma mp mk mn ou) := hD
                    obtain ⟨pl_76, hpl_77⟩ : ∃ q9, q9 = q_copyU (g_55, g_56, g_57, g_59) (g_25, g_26, g_27, g_29) pa.2.2.2.2.2.2 := ⟨_, rfl⟩
                    rw [← hpl_77] at hP hD
                    have okq_78 : ∀ i, pl_76.2.2.1 i < 40 := by rw [hpl_77]; exact q_okL_copy (f := (g_55, g_56, g_57, g_59)) (t := (g_25, g_26, g_27, g_29)) ok_58 ok_28
                    have hag_79 : AG pa.2.2.2.2.2.2 pl_76 (g_55, g_56, g_57, g_59) := by rw [hpl_77]; exact ag_copy _ _ _
                    have hP : va_P D vwCl (WW ad cJ cI cZ (bm.1, bm.2.1, g_71, g_70) pa (g_55, g_56, g_57, g_59) (g_60, g_61, g_62, g_64) pl_76 li (wi.1, wi.2.1, wi.2.2.1, wi.2.2.2.1, g_65, g_66, g_67, g_68, g_69, wi.2.2.2.2.2.2.2.2.2.1, wi.2.2.2.2.2.2.2.2.2.2) mt ms ma mp mk mn ou) H := hP
                    have hD : va_D A (WW ad cJ cI cZ (bm.1, bm.2.1, g_71, g_70) pa (g_55, g_56, g_57, g_59) (g_60, g_61, g_62, g_64) pl_76 li (wi.1, wi.2.1, wi.2.2.1, wi.2.2.2.1, g_65, g_66, g_67, g_68, g_69, wi.2.2.2.2.2.2.2.2.2.1, wi.2.2.2.2.2.2.2.2.2.2) mt ms ma mp mk mn ou) := hD
                    have hW_80 : ∀ j, j < pa.2.2.2.2.2.2 → q_well bm pa pl_76 li j = true := fun j hj => ag_well hag_79 hf_72I.2.1 hj (hf_72I.1 j hj)
                    refine lv_lload hx hb dX4_run_126 (lv_at hl 2 rfl) ?_
                    refine lv_lconst (v := 1) hx hb dX4_run_128 (by decide) ?_
                    refine lv_lsub hx hb dX4_run_129 ?_
                    rw [bx_lNs j_11]
                    refine lv_lstore (lv' := [(8, .long (lN j_11 - 1)), (5, .long g_70), (7, .int (v_14 + 1)), (3, .long bm.2.2.2), (0, .ref (ad 0)), (1, .long (lN zA))]) hx hb dX4_run_130 hl (by decide) rfl (fun ls hl => ?_)
                    refine lv_goto (tgt := 72) hx hb dX4_run_132 (by decide) ?_
                    exact ih_12 g_70 (v_14 + 1) g_55 g_56 g_57 g_59 g_60 g_61 g_62 g_64 pl_76.1 pl_76.2.1 pl_76.2.2.1 pl_76.2.2.2 g_65 g_66 g_67 g_68 g_69 g_70 g_71 ok_58 ok_63 okq_78 ⟨hf_72I, hW_80⟩ _ _ hP hD hS _ (lv_sub hl [0, 2, 1, 3, 4, 5] rfl)
          exact lp_10 zA bm.2.2.2 0 p0.1 p0.2.1 p0.2.2.1 p0.2.2.2 p1.1 p1.2.1 p1.2.2.1 p1.2.2.2 pl_5.1 pl_5.2.1 pl_5.2.2.1 pl_5.2.2.2 wi.2.2.2.2.1 wi.2.2.2.2.2.1 wi.2.2.2.2.2.2.1 wi.2.2.2.2.2.2.2.1 wi.2.2.2.2.2.2.2.2.1 bm.2.2.2 bm.2.2.1 ok_p0_turn ok_p1_turn okq_7 ⟨hI, hW_9⟩ _ _ hP hD hS _ (lv_sub hl [0, 1, 2, 3, 4, 5] rfl)
        · refine lv_iconst (v := nI 0) hx hb dX4_run_40 (by decide) ?_
          exact bm_iretX (v := (nI 0)) hx hb hr hP hD hK hS ⟨bm, pa, p0, p1, p2, li, wi, ou, ⟨ok_pa_n, ok_pa_side, ok_pa_lowest, ok_p0_turn, ok_p1_turn, ok_p2_turn, ok_li_one, ok_li_other, ok_li_keepOuts, ok_li_nears, ok_wi_netOf, ok_wi_partOf, ok_wi_nets, ok_wi_pins, hw, hh, (INV_to hI rfl rfl rfl rfl rfl rfl rfl)⟩, rfl, rfl, (nI 0), rfl⟩ dX4_run_41 hlocks
    · exact absurd c_2 (bx_lN2000 hz)
