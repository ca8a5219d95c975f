set_option maxHeartbeats 8000000 in
set_option maxRecDepth 100000 in
theorem x_low {l : Launch} {D : va_G} {ad : Nat → Nat} {cJ cI cZ : ClassId} {bm : gBM} {pa : gPA} {p0 p1 p2 : gPL} {li : gLI} {wi : gWI} {mt : Nat} {ms : gMS} {ma : gMA} {mp : gMP} {mk : gMK} {mn : gMN} {ou : Nat → Int64} {zj : Nat} (ok_li_keepOuts : li.2.2.2.2.2.2.2.2.1 ≤ 10) (ok_p0_turn : ∀ i, p0.2.2.1 i < 40) (hp0 : zj < 40)  : bm_Wx l yX0_isLowEnough wsX0_isLowEnough ({ frames := 2, cells := 0, slots := 0, locals := 50 }) D vwCl [(cJ, .long), (cI, .int), (cZ, .boolean)] (WW ad cJ cI cZ bm pa p0 p1 p2 li wi mt ms ma mp mk mn ou) [.ref (ad 23), .ref (ad 8), .int (nI zj)] (fun ws9 r9 => ws9 = (WW ad cJ cI cZ bm pa p0 p1 p2 li wi mt ms ma mp mk mn ou) ∧ ∃ b9 : Bool, r9 = some (.int (bm_b b9))) := by
  intro sz
  refine Met.ofW (cc := cX0_isLowEnough) (maxL := 4) (ret := (some .boolean)) (by decide) rfl ?_
  intro p e s m args below meth c s₁ B hml hv
  obtain ⟨ha, hsz, hP, hK, hD0⟩ := hv
  have hx := B.exec
  have hb := B.bytes
  have hr := B.returns
  have hts := atoms_spec (ws := wsX0_isLowEnough) B.pre
  have hown : s.vm.findClass RX0 = some m.cls := findClass_of_methodNamed B.named
  have hlocks := B.notSynchronized
  subst hsz
  have hD := hD0.self (sz := s.heap.size)
  generalize hAe : va_A (WW ad cJ cI cZ bm pa p0 p1 p2 li wi mt ms ma mp mk mn ou) s.heap.size = A at hD ⊢
  have hA : ∀ q : Nat, s.heap.size ≤ q → A q := fun q h => by rw [← hAe]; exact Or.inr h
  have hS : va_S A s.heap s.heap [] := va_S.rf
  have hl := lv_entry ([.ref (ad 23), .ref (ad 8), .int (nI zj)]) (n := 4) (Nat.le_of_ble_eq_true rfl)
  refine W.eq (g2 := entryFrame m ([.ref (ad 23), .ref (ad 8), .int (nI zj)] : List Value).toArray 4) (by rw [ha]) ?_
  rw [lg_entry_eq]
  generalize (lg_sl ([.ref (ad 23), .ref (ad 8), .int (nI zj)]) ++ List.replicate (4 - (lg_sl ([.ref (ad 23), .ref (ad 8), .int (nI zj)])).length) Slot.unset).toArray = ls at hl ⊢
  have hl : lv_has ls 4 [(0, .ref (ad 23)), (1, .ref (ad 8)), (2, .int (nI zj))] := hl
  refine lv_iconst (v := nI 0) hx hb dX0_isLowEnough_0 (by decide) ?_
  refine lv_istore_n (lv' := [(3, .int (nI 0)), (0, .ref (ad 23)), (1, .ref (ad 8)), (2, .int (nI zj))]) hx hb dX0_isLowEnough_1 rfl hl (by decide) rfl (fun ls hl => ?_)
  have lp_1 : ∀ (k_3 : Nat) (i_2 : Nat) , i_2 ≤ li.2.2.2.2.2.2.2.2.1 → li.2.2.2.2.2.2.2.2.1 < i_2 + k_3 → ∀ (H : Heap) (locs : List Loc), va_P D vwCl (WW ad cJ cI cZ bm pa p0 p1 p2 li wi mt ms ma mp mk mn ou) H → va_D A (WW ad cJ cI cZ bm pa p0 p1 p2 li wi mt ms ma mp mk mn ou) → va_S A s.heap H locs → ∀ (ls : Array Slot), lv_has ls 4 [(3, .int (nI i_2)), (0, .ref (ad 23)), (1, .ref (ad 8)), (2, .int (nI zj))] → W p l e (headSpec wsX0_isLowEnough ({ frames := 2, cells := 0, slots := 0, locals := 50 })).room s m args below meth c H locs 0 0 (MQ below (bm_Wxq D vwCl [(cJ, .long), (cI, .int), (cZ, .boolean)] (fun ws9 r9 => ws9 = (WW ad cJ cI cZ bm pa p0 p1 p2 li wi mt ms ma mp mk mn ou) ∧ ∃ b9 : Bool, r9 = some (.int (bm_b b9))) A) args s 0 0 A) (F0 m 2 ls []) := by
    intro k_3
    induction k_3 with
    | zero => intro i_2 hi_5 hk_6; exfalso; omega
    | succ k_3 ih_4 =>
      intro i_2 hi_5 hk_6  H locs hP hD hS ls hl
      refine lv_iload_n hx hb dX0_isLowEnough_2 rfl (lv_at hl 0 rfl) ?_
      refine lv_aload_n hx hb dX0_isLowEnough_3 rfl (lv_at hl 1 rfl) ?_
      refine va_get (D := D) (ci := 0) (v := .int (nI li.2.2.2.2.2.2.2.2.1)) (C := RX0) (T := TX0) (N := 11) hx hb hts (inT inX0) hown hK hP 23 ww_23 rfl 9 (by decide) (hts (.fieldLink RX0 37 "BoardMoves$Limits" "keepOuts" "I") (List.mem_cons_of_mem _ flX0_37)) (fun _ h9 => h9) rfl dX0_isLowEnough_4 ?_
      refine bm_ni_ge (x := i_2) (y := li.2.2.2.2.2.2.2.2.1) (tgt := 69) hx hb (by omega) (by omega) dX0_isLowEnough_7 (by decide) (fun c_7 => ?_) (fun c_7 => ?_)
      · refine lv_iconst (v := bm_b true) hx hb dX0_isLowEnough_69 (by decide) ?_
        exact bm_zretX (v := true) hx hb hr hP hD hK hS ⟨rfl, true, rfl⟩ dX0_isLowEnough_70 hlocks
      · refine lv_aload_n hx hb dX0_isLowEnough_10 rfl (lv_at hl 1 rfl) ?_
        refine va_get (D := D) (ci := 0) (v := .ref (ad 1)) (C := RX0) (T := TX0) (N := 11) hx hb hts (inT inX0) hown hK hP 23 ww_23 rfl 0 (by decide) (hts (.fieldLink RX0 44 "BoardMoves$Limits" "parts" "LBoardMoves$Parts;") (List.mem_cons_of_mem _ flX0_44)) (fun _ h9 => h9) rfl dX0_isLowEnough_11 ?_
        refine va_get (D := D) (ci := 1) (v := .ref (ad 5)) (C := RX1) (T := TX1) (N := 7) hx hb hts (inT inX1) hown hK hP 1 ww_1 rfl 3 (by decide) (hts (.fieldLink RX0 48 "BoardMoves$Parts" "tall" "[J") (List.mem_cons_of_mem _ flX0_48)) (fun _ h9 => h9) rfl dX0_isLowEnough_14 ?_
        refine lv_iload_n hx hb dX0_isLowEnough_17 rfl (lv_at hl 3 rfl) ?_
        refine bm_lald (f := pa.2.2.2.1) hx hb hK hP 5 0 ww_5 rfl (j := zj) (by omega) (by decide) dX0_isLowEnough_18 ?_
        refine lv_topl (fun t_8 _ => ?_)
        refine lv_aload_n hx hb dX0_isLowEnough_19 rfl (lv_at hl 1 rfl) ?_
        refine va_get (D := D) (ci := 0) (v := .ref (ad 28)) (C := RX0) (T := TX0) (N := 11) hx hb hts (inT inX0) hown hK hP 23 ww_23 rfl 5 (by decide) (hts (.fieldLink RX0 24 "BoardMoves$Limits" "tallest" "[J") (List.mem_cons_of_mem _ flX0_24)) (fun _ h9 => h9) rfl dX0_isLowEnough_20 ?_
        refine lv_iload_n hx hb dX0_isLowEnough_23 rfl (lv_at hl 0 rfl) ?_
        refine bm_lald (f := li.2.2.2.2.1) hx hb hK hP 28 0 ww_28 rfl (j := i_2) (by omega) (by decide) dX0_isLowEnough_24 ?_
        refine lv_topl (fun t_9 _ => ?_)
        refine bm_lc_le (x := t_8) (y := t_9) (tgt := 63) hx hb dX0_isLowEnough_25 dX0_isLowEnough_26 (by decide) (fun c_10 => ?_) (fun c_10 => ?_)
        · refine lv_iinc (v := (nI (i_2 + 1))) (lv' := [(3, .int (nI (i_2 + 1))), (0, .ref (ad 23)), (1, .ref (ad 8)), (2, .int (nI zj))]) hx hb dX0_isLowEnough_63 hl (k := 0) rfl (nI_1 i_2) (by decide) rfl (fun ls hl => ?_)
          refine lv_goto (tgt := 2) hx hb dX0_isLowEnough_66 (by decide) ?_
          exact ih_4 (i_2 + 1) (by omega) (by omega)  _ _ hP hD hS _ (lv_sub hl [0, 1, 2, 3] rfl)
        · refine lv_aload_n hx hb dX0_isLowEnough_29 rfl (lv_at hl 2 rfl) ?_
          refine lv_iload_n hx hb dX0_isLowEnough_30 rfl (lv_at hl 3 rfl) ?_
          refine lv_aload_n hx hb dX0_isLowEnough_31 rfl (lv_at hl 1 rfl) ?_
          refine va_get (D := D) (ci := 0) (v := .ref (ad 24)) (C := RX0) (T := TX0) (N := 11) hx hb hts (inT inX0) hown hK hP 23 ww_23 rfl 1 (by decide) (hts (.fieldLink RX0 9 "BoardMoves$Limits" "x0" "[J") (List.mem_cons_of_mem _ flX0_9)) (fun _ h9 => h9) rfl dX0_isLowEnough_32 ?_
          refine lv_iload_n hx hb dX0_isLowEnough_35 rfl (lv_at hl 0 rfl) ?_
          refine bm_lald (f := li.1) hx hb hK hP 24 0 ww_24 rfl (j := i_2) (by omega) (by decide) dX0_isLowEnough_36 ?_
          refine lv_topl (fun t_11 _ => ?_)
          refine lv_aload_n hx hb dX0_isLowEnough_37 rfl (lv_at hl 1 rfl) ?_
          refine va_get (D := D) (ci := 0) (v := .ref (ad 25)) (C := RX0) (T := TX0) (N := 11) hx hb hts (inT inX0) hown hK hP 23 ww_23 rfl 2 (by decide) (hts (.fieldLink RX0 15 "BoardMoves$Limits" "y0" "[J") (List.mem_cons_of_mem _ flX0_15)) (fun _ h9 => h9) rfl dX0_isLowEnough_38 ?_
          refine lv_iload_n hx hb dX0_isLowEnough_41 rfl (lv_at hl 0 rfl) ?_
          refine bm_lald (f := li.2.1) hx hb hK hP 25 0 ww_25 rfl (j := i_2) (by omega) (by decide) dX0_isLowEnough_42 ?_
          refine lv_topl (fun t_12 _ => ?_)
          refine lv_aload_n hx hb dX0_isLowEnough_43 rfl (lv_at hl 1 rfl) ?_
          refine va_get (D := D) (ci := 0) (v := .ref (ad 26)) (C := RX0) (T := TX0) (N := 11) hx hb hts (inT inX0) hown hK hP 23 ww_23 rfl 3 (by decide) (hts (.fieldLink RX0 18 "BoardMoves$Limits" "x1" "[J") (List.mem_cons_of_mem _ flX0_18)) (fun _ h9 => h9) rfl dX0_isLowEnough_44 ?_
          refine lv_iload_n hx hb dX0_isLowEnough_47 rfl (lv_at hl 0 rfl) ?_
          refine bm_lald (f := li.2.2.1) hx hb hK hP 26 0 ww_26 rfl (j := i_2) (by omega) (by decide) dX0_isLowEnough_48 ?_
          refine lv_topl (fun t_13 _ => ?_)
          refine lv_aload_n hx hb dX0_isLowEnough_49 rfl (lv_at hl 1 rfl) ?_
          refine va_get (D := D) (ci := 0) (v := .ref (ad 27)) (C := RX0) (T := TX0) (N := 11) hx hb hts (inT inX0) hown hK hP 23 ww_23 rfl 4 (by decide) (hts (.fieldLink RX0 21 "BoardMoves$Limits" "y1" "[J") (List.mem_cons_of_mem _ flX0_21)) (fun _ h9 => h9) rfl dX0_isLowEnough_50 ?_
          refine lv_iload_n hx hb dX0_isLowEnough_53 rfl (lv_at hl 0 rfl) ?_
          refine bm_lald (f := li.2.2.2.1) hx hb hK hP 27 0 ww_27 rfl (j := i_2) (by omega) (by decide) dX0_isLowEnough_54 ?_
          refine lv_topl (fun t_14 _ => ?_)
          refine bm_xcallV (As := [.int (nI zj), .long t_11, .long t_12, .long t_13, .long t_14]) (rest := []) ⟨hx, hb, hml, hown, hts⟩ (x_meets  (zj := zj) (z1 := t_11) (z2 := t_12) (z3 := t_13) (z4 := t_14) ok_p0_turn (by omega)) (cwV 5 hts gvX0_53 rfl rfl rfl hvX2_meetsArea ⟨Nat.le_of_ble_eq_true rfl, Nat.le_of_ble_eq_true rfl⟩) hK hP hD hS hA 8 2 rfl ww_8 rfl hl.1 rfl (Nat.le_of_ble_eq_true rfl) dX0_isLowEnough_55 ⟨Nat.le_of_ble_eq_true rfl, Nat.le_of_ble_eq_true rfl⟩ (fun ws_15 r_16 h_17 H locs hP hD hS => ?_)
          obtain ⟨rfl, v_18, rfl⟩ := h_17
          have hP : va_P D vwCl (WW ad cJ cI cZ bm pa p0 p1 p2 li wi mt ms ma mp mk mn ou) H := hP
          have hD : va_D A (WW ad cJ cI cZ bm pa p0 p1 p2 li wi mt ms ma mp mk mn ou) := hD
          refine bm_zb_eq (x := v_18) (tgt := 63) hx hb dX0_isLowEnough_58 (by decide) (fun c_19 => ?_) (fun c_19 => ?_)
          · refine lv_iinc (v := (nI (i_2 + 1))) (lv' := [(3, .int (nI (i_2 + 1))), (0, .ref (ad 23)), (1, .ref (ad 8)), (2, .int (nI zj))]) hx hb dX0_isLowEnough_63 hl (k := 0) rfl (nI_1 i_2) (by decide) rfl (fun ls hl => ?_)
            refine lv_goto (tgt := 2) hx hb dX0_isLowEnough_66 (by decide) ?_
            exact ih_4 (i_2 + 1) (by omega) (by omega)  _ _ hP hD hS _ (lv_sub hl [0, 1, 2, 3] rfl)
          · refine lv_iconst (v := bm_b false) hx hb dX0_isLowEnough_61 (by decide) ?_
            exact bm_zretX (v := false) hx hb hr hP hD hK hS ⟨rfl, false, rfl⟩ dX0_isLowEnough_62 hlocks
  exact lp_1 (li.2.2.2.2.2.2.2.2.1 + 1) 0 (by omega) (by omega)  _ _ hP hD hS _ (lv_sub hl [0, 1, 2, 3] rfl)

set_option maxHeartbeats 8000000 in
set_option maxRecDepth 100000 in
theorem x_nears {l : Launch} {D : va_G} {ad : Nat → Nat} {cJ cI cZ : ClassId} {bm : gBM} {pa : gPA} {p0 p1 p2 : gPL} {li : gLI} {wi : gWI} {mt : Nat} {ms : gMS} {ma : gMA} {mp : gMP} {mk : gMK} {mn : gMN} {ou : Nat → Int64} {zj : Nat} (ok_li_nears : li.2.2.2.2.2.2.2.2.2 ≤ 20) (ok_li_one : ∀ i, li.2.2.2.2.2.1 i < 40) (ok_li_other : ∀ i, li.2.2.2.2.2.2.1 i < 40) (ok_p0_turn : ∀ i, p0.2.2.1 i < 40) (hp0 : zj < 40)  : bm_Wx l yX0_isNearEnough wsX0_isNearEnough ({ frames := 2, cells := 0, slots := 0, locals := 52 }) D vwCl [(cJ, .long), (cI, .int), (cZ, .boolean)] (WW ad cJ cI cZ bm pa p0 p1 p2 li wi mt ms ma mp mk mn ou) [.ref (ad 23), .ref (ad 8), .int (nI zj)] (fun ws9 r9 => ws9 = (WW ad cJ cI cZ bm pa p0 p1 p2 li wi mt ms ma mp mk mn ou) ∧ ∃ b9 : Bool, r9 = some (.int (bm_b b9))) := by
  intro sz
  refine Met.ofW (cc := cX0_isNearEnough) (maxL := 5) (ret := (some .boolean)) (by decide) rfl ?_
  intro p e s m args below meth c s₁ B hml hv
  obtain ⟨ha, hsz, hP, hK, hD0⟩ := hv
  have hx := B.exec
  have hb := B.bytes
  have hr := B.returns
  have hts := atoms_spec (ws := wsX0_isNearEnough) B.pre
  have hown : s.vm.findClass RX0 = some m.cls := findClass_of_methodNamed B.named
  have hlocks := B.notSynchronized
  subst hsz
  have hD := hD0.self (sz := s.heap.size)
  generalize hAe : va_A (WW ad cJ cI cZ bm pa p0 p1 p2 li wi mt ms ma mp mk mn ou) s.heap.size = A at hD ⊢
  have hA : ∀ q : Nat, s.heap.size ≤ q → A q := fun q h => by rw [← hAe]; exact Or.inr h
  have hS : va_S A s.heap s.heap [] := va_S.rf
  have hl := lv_entry ([.ref (ad 23), .ref (ad 8), .int (nI zj)]) (n := 5) (Nat.le_of_ble_eq_true rfl)
  refine W.eq (g2 := entryFrame m ([.ref (ad 23), .ref (ad 8), .int (nI zj)] : List Value).toArray 5) (by rw [ha]) ?_
  rw [lg_entry_eq]
  generalize (lg_sl ([.ref (ad 23), .ref (ad 8), .int (nI zj)]) ++ List.replicate (5 - (lg_sl ([.ref (ad 23), .ref (ad 8), .int (nI zj)])).length) Slot.unset).toArray = ls at hl ⊢
  have hl : lv_has ls 5 [(0, .ref (ad 23)), (1, .ref (ad 8)), (2, .int (nI zj))] := hl
  refine lv_iconst (v := nI 0) hx hb dX0_isNearEnough_0 (by decide) ?_
  refine lv_istore_n (lv' := [(3, .int (nI 0)), (0, .ref (ad 23)), (1, .ref (ad 8)), (2, .int (nI zj))]) hx hb dX0_isNearEnough_1 rfl hl (by decide) rfl (fun ls hl => ?_)
  have lp_1 : ∀ (k_3 : Nat) (i_2 : Nat) , i_2 ≤ li.2.2.2.2.2.2.2.2.2 → li.2.2.2.2.2.2.2.2.2 < i_2 + k_3 → ∀ (H : Heap) (locs : List Loc), va_P D vwCl (WW ad cJ cI cZ bm pa p0 p1 p2 li wi mt ms ma mp mk mn ou) H → va_D A (WW ad cJ cI cZ bm pa p0 p1 p2 li wi mt ms ma mp mk mn ou) → va_S A s.heap H locs → ∀ (ls : Array Slot), lv_has ls 5 [(3, .int (nI i_2)), (0, .ref (ad 23)), (1, .ref (ad 8)), (2, .int (nI zj))] → W p l e (headSpec wsX0_isNearEnough ({ frames := 2, cells := 0, slots := 0, locals := 52 })).room s m args below meth c H locs 0 0 (MQ below (bm_Wxq D vwCl [(cJ, .long), (cI, .int), (cZ, .boolean)] (fun ws9 r9 => ws9 = (WW ad cJ cI cZ bm pa p0 p1 p2 li wi mt ms ma mp mk mn ou) ∧ ∃ b9 : Bool, r9 = some (.int (bm_b b9))) A) args s 0 0 A) (F0 m 2 ls []) := by
    intro k_3
    induction k_3 with
    | zero => intro i_2 hi_5 hk_6; exfalso; omega
    | succ k_3 ih_4 =>
      intro i_2 hi_5 hk_6  H locs hP hD hS ls hl
      refine lv_iload_n hx hb dX0_isNearEnough_2 rfl (lv_at hl 0 rfl) ?_
      refine lv_aload_n hx hb dX0_isNearEnough_3 rfl (lv_at hl 1 rfl) ?_
      refine va_get (D := D) (ci := 0) (v := .int (nI li.2.2.2.2.2.2.2.2.2)) (C := RX0) (T := TX0) (N := 11) hx hb hts (inT inX0) hown hK hP 23 ww_23 rfl 10 (by decide) (hts (.fieldLink RX0 41 "BoardMoves$Limits" "nears" "I") (List.mem_cons_of_mem _ flX0_41)) (fun _ h9 => h9) rfl dX0_isNearEnough_4 ?_
      refine bm_ni_ge (x := i_2) (y := li.2.2.2.2.2.2.2.2.2) (tgt := 75) hx hb (by omega) (by omega) dX0_isNearEnough_7 (by decide) (fun c_7 => ?_) (fun c_7 => ?_)
      · refine lv_iconst (v := bm_b true) hx hb dX0_isNearEnough_75 (by decide) ?_
        exact bm_zretX (v := true) hx hb hr hP hD hK hS ⟨rfl, true, rfl⟩ dX0_isNearEnough_76 hlocks
      · refine lv_aload_n hx hb dX0_isNearEnough_10 rfl (lv_at hl 1 rfl) ?_
        refine va_get (D := D) (ci := 0) (v := .ref (ad 29)) (C := RX0) (T := TX0) (N := 11) hx hb hts (inT inX0) hown hK hP 23 ww_23 rfl 6 (by decide) (hts (.fieldLink RX0 27 "BoardMoves$Limits" "one" "[I") (List.mem_cons_of_mem _ flX0_27)) (fun _ h9 => h9) rfl dX0_isNearEnough_11 ?_
        refine lv_iload_n hx hb dX0_isNearEnough_14 rfl (lv_at hl 0 rfl) ?_
        refine bm_nald (f := li.2.2.2.2.2.1) hx hb hK hP 29 1 ww_29 rfl (j := i_2) (by omega) (by decide) dX0_isNearEnough_15 ?_
        refine lv_iload_n hx hb dX0_isNearEnough_16 rfl (lv_at hl 3 rfl) ?_
        refine bm_ni_eq (x := (li.2.2.2.2.2.1 i_2)) (y := zj) (tgt := 30) hx hb (bm40 (ok_li_one _)) (by omega) dX0_isNearEnough_17 (by decide) (fun c_8 => ?_) (fun c_8 => ?_)
        · refine lv_iconst (v := bm_b true) hx hb dX0_isNearEnough_30 (by decide) ?_
          refine lv_goto (tgt := 35) hx hb dX0_isNearEnough_31 (by decide) ?_
          refine lv_istore (lv' := [(4, .int (bm_b true)), (3, .int (nI i_2)), (0, .ref (ad 23)), (1, .ref (ad 8)), (2, .int (nI zj))]) hx hb dX0_isNearEnough_35 hl (by decide) rfl (fun ls hl => ?_)
          refine lv_iload hx hb dX0_isNearEnough_37 (lv_at hl 0 rfl) ?_
          refine bm_zb_eq (x := true) (tgt := 69) hx hb dX0_isNearEnough_39 (by decide) (fun c_9 => ?_) (fun c_9 => ?_)
          · exact absurd c_9 (by decide)
          · refine lv_aload_n hx hb dX0_isNearEnough_42 rfl (lv_at hl 3 rfl) ?_
            refine lv_aload_n hx hb dX0_isNearEnough_43 rfl (lv_at hl 2 rfl) ?_
            refine va_get (D := D) (ci := 0) (v := .ref (ad 29)) (C := RX0) (T := TX0) (N := 11) hx hb hts (inT inX0) hown hK hP 23 ww_23 rfl 6 (by decide) (hts (.fieldLink RX0 27 "BoardMoves$Limits" "one" "[I") (List.mem_cons_of_mem _ flX0_27)) (fun _ h9 => h9) rfl dX0_isNearEnough_44 ?_
            refine lv_iload_n hx hb dX0_isNearEnough_47 rfl (lv_at hl 1 rfl) ?_
            refine bm_nald (f := li.2.2.2.2.2.1) hx hb hK hP 29 1 ww_29 rfl (j := i_2) (by omega) (by decide) dX0_isNearEnough_48 ?_
            refine lv_aload_n hx hb dX0_isNearEnough_49 rfl (lv_at hl 2 rfl) ?_
            refine va_get (D := D) (ci := 0) (v := .ref (ad 30)) (C := RX0) (T := TX0) (N := 11) hx hb hts (inT inX0) hown hK hP 23 ww_23 rfl 7 (by decide) (hts (.fieldLink RX0 31 "BoardMoves$Limits" "other" "[I") (List.mem_cons_of_mem _ flX0_31)) (fun _ h9 => h9) rfl dX0_isNearEnough_50 ?_
            refine lv_iload_n hx hb dX0_isNearEnough_53 rfl (lv_at hl 1 rfl) ?_
            refine bm_nald (f := li.2.2.2.2.2.2.1) hx hb hK hP 30 1 ww_30 rfl (j := i_2) (by omega) (by decide) dX0_isNearEnough_54 ?_
            refine lv_aload_n hx hb dX0_isNearEnough_55 rfl (lv_at hl 2 rfl) ?_
            refine va_get (D := D) (ci := 0) (v := .ref (ad 31)) (C := RX0) (T := TX0) (N := 11) hx hb hts (inT inX0) hown hK hP 23 ww_23 rfl 8 (by decide) (hts (.fieldLink RX0 34 "BoardMoves$Limits" "most" "[J") (List.mem_cons_of_mem _ flX0_34)) (fun _ h9 => h9) rfl dX0_isNearEnough_56 ?_
            refine lv_iload_n hx hb dX0_isNearEnough_59 rfl (lv_at hl 1 rfl) ?_
            refine bm_lald (f := li.2.2.2.2.2.2.2.1) hx hb hK hP 31 0 ww_31 rfl (j := i_2) (by omega) (by decide) dX0_isNearEnough_60 ?_
            refine lv_topl (fun t_10 _ => ?_)
            refine bm_xcallV (As := [.int (nI (li.2.2.2.2.2.1 i_2)), .int (nI (li.2.2.2.2.2.2.1 i_2)), .long t_10]) (rest := []) ⟨hx, hb, hml, hown, hts⟩ (x_near  (za := li.2.2.2.2.2.1 i_2) (zb := li.2.2.2.2.2.2.1 i_2) (z1 := t_10) ok_p0_turn (ok_li_one _) (ok_li_other _)) (cwV 3 hts gvX0_59 rfl rfl rfl hvX2_isNear ⟨Nat.le_of_ble_eq_true rfl, Nat.le_of_ble_eq_true rfl⟩) hK hP hD hS hA 8 2 rfl ww_8 rfl hl.1 rfl (Nat.le_of_ble_eq_true rfl) dX0_isNearEnough_61 ⟨Nat.le_of_ble_eq_true rfl, Nat.le_of_ble_eq_true rfl⟩ (fun ws_11 r_12 h_13 H locs hP hD hS => ?_)
            obtain ⟨rfl, v_14, rfl⟩ := h_13
            have hP : va_P D vwCl (WW ad cJ cI cZ bm pa p0 p1 p2 li wi mt ms ma mp mk mn ou) H := hP
            have hD : va_D A (WW ad cJ cI cZ bm pa p0 p1 p2 li wi mt ms ma mp mk mn ou) := hD
            refine bm_zb_ne (x := v_14) (tgt := 69) hx hb dX0_isNearEnough_64 (by decide) (fun c_15 => ?_) (fun c_15 => ?_)
            · refine lv_iinc (v := (nI (i_2 + 1))) (lv' := [(3, .int (nI (i_2 + 1))), (4, .int (bm_b true)), (0, .ref (ad 23)), (1, .ref (ad 8)), (2, .int (nI zj))]) hx hb dX0_isNearEnough_69 hl (k := 1) rfl (nI_1 i_2) (by decide) rfl (fun ls hl => ?_)
              refine lv_goto (tgt := 2) hx hb dX0_isNearEnough_72 (by decide) ?_
              exact ih_4 (i_2 + 1) (by omega) (by omega)  _ _ hP hD hS _ (lv_sub hl [0, 2, 3, 4] rfl)
            · refine lv_iconst (v := bm_b false) hx hb dX0_isNearEnough_67 (by decide) ?_
              exact bm_zretX (v := false) hx hb hr hP hD hK hS ⟨rfl, false, rfl⟩ dX0_isNearEnough_68 hlocks
        · refine lv_aload_n hx hb dX0_isNearEnough_20 rfl (lv_at hl 1 rfl) ?_
          refine va_get (D := D) (ci := 0) (v := .ref (ad 30)) (C := RX0) (T := TX0) (N := 11) hx hb hts (inT inX0) hown hK hP 23 ww_23 rfl 7 (by decide) (hts (.fieldLink RX0 31 "BoardMoves$Limits" "other" "[I") (List.mem_cons_of_mem _ flX0_31)) (fun _ h9 => h9) rfl dX0_isNearEnough_21 ?_
          refine lv_iload_n hx hb dX0_isNearEnough_24 rfl (lv_at hl 0 rfl) ?_
          refine bm_nald (f := li.2.2.2.2.2.2.1) hx hb hK hP 30 1 ww_30 rfl (j := i_2) (by omega) (by decide) dX0_isNearEnough_25 ?_
          refine lv_iload_n hx hb dX0_isNearEnough_26 rfl (lv_at hl 3 rfl) ?_
          refine bm_ni_ne (x := (li.2.2.2.2.2.2.1 i_2)) (y := zj) (tgt := 34) hx hb (bm40 (ok_li_other _)) (by omega) dX0_isNearEnough_27 (by decide) (fun c_16 => ?_) (fun c_16 => ?_)
          · refine lv_iconst (v := bm_b false) hx hb dX0_isNearEnough_34 (by decide) ?_
            refine lv_istore (lv' := [(4, .int (bm_b false)), (3, .int (nI i_2)), (0, .ref (ad 23)), (1, .ref (ad 8)), (2, .int (nI zj))]) hx hb dX0_isNearEnough_35 hl (by decide) rfl (fun ls hl => ?_)
            refine lv_iload hx hb dX0_isNearEnough_37 (lv_at hl 0 rfl) ?_
            refine bm_zb_eq (x := false) (tgt := 69) hx hb dX0_isNearEnough_39 (by decide) (fun c_17 => ?_) (fun c_17 => ?_)
            · refine lv_iinc (v := (nI (i_2 + 1))) (lv' := [(3, .int (nI (i_2 + 1))), (4, .int (bm_b false)), (0, .ref (ad 23)), (1, .ref (ad 8)), (2, .int (nI zj))]) hx hb dX0_isNearEnough_69 hl (k := 1) rfl (nI_1 i_2) (by decide) rfl (fun ls hl => ?_)
              refine lv_goto (tgt := 2) hx hb dX0_isNearEnough_72 (by decide) ?_
              exact ih_4 (i_2 + 1) (by omega) (by omega)  _ _ hP hD hS _ (lv_sub hl [0, 2, 3, 4] rfl)
            · exact absurd c_17 (by decide)
          · refine lv_iconst (v := bm_b true) hx hb dX0_isNearEnough_30 (by decide) ?_
            refine lv_goto (tgt := 35) hx hb dX0_isNearEnough_31 (by decide) ?_
            refine lv_istore (lv' := [(4, .int (bm_b true)), (3, .int (nI i_2)), (0, .ref (ad 23)), (1, .ref (ad 8)), (2, .int (nI zj))]) hx hb dX0_isNearEnough_35 hl (by decide) rfl (fun ls hl => ?_)
            refine lv_iload hx hb dX0_isNearEnough_37 (lv_at hl 0 rfl) ?_
            refine bm_zb_eq (x := true) (tgt := 69) hx hb dX0_isNearEnough_39 (by decide) (fun c_18 => ?_) (fun c_18 => ?_)
            · exact absurd c_18 (by decide)
            · refine lv_aload_n hx hb dX0_isNearEnough_42 rfl (lv_at hl 3 rfl) ?_
              refine lv_aload_n hx hb dX0_isNearEnough_43 rfl (lv_at hl 2 rfl) ?_
              refine va_get (D := D) (ci := 0) (v := .ref (ad 29)) (C := RX0) (T := TX0) (N := 11) hx hb hts (inT inX0) hown hK hP 23 ww_23 rfl 6 (by decide) (hts (.fieldLink RX0 27 "BoardMoves$Limits" "one" "[I") (List.mem_cons_of_mem _ flX0_27)) (fun _ h9 => h9) rfl dX0_isNearEnough_44 ?_
              refine lv_iload_n hx hb dX0_isNearEnough_47 rfl (lv_at hl 1 rfl) ?_
              refine bm_nald (f := li.2.2.2.2.2.1) hx hb hK hP 29 1 ww_29 rfl (j := i_2) (by omega) (by decide) dX0_isNearEnough_48 ?_
              refine lv_aload_n hx hb dX0_isNearEnough_49 rfl (lv_at hl 2 rfl) ?_
              refine va_get (D := D) (ci := 0) (v := .ref (ad 30)) (C := RX0) (T := TX0) (N := 11) hx hb hts (inT inX0) hown hK hP 23 ww_23 rfl 7 (by decide) (hts (.fieldLink RX0 31 "BoardMoves$Limits" "other" "[I") (List.mem_cons_of_mem _ flX0_31)) (fun _ h9 => h9) rfl dX0_isNearEnough_50 ?_
              refine lv_iload_n hx hb dX0_isNearEnough_53 rfl (lv_at hl 1 rfl) ?_
              refine bm_nald (f := li.2.2.2.2.2.2.1) hx hb hK hP 30 1 ww_30 rfl (j := i_2) (by omega) (by decide) dX0_isNearEnough_54 ?_
              refine lv_aload_n hx hb dX0_isNearEnough_55 rfl (lv_at hl 2 rfl) ?_
              refine va_get (D := D) (ci := 0) (v := .ref (ad 31)) (C := RX0) (T := TX0) (N := 11) hx hb hts (inT inX0) hown hK hP 23 ww_23 rfl 8 (by decide) (hts (.fieldLink RX0 34 "BoardMoves$Limits" "most" "[J") (List.mem_cons_of_mem _ flX0_34)) (fun _ h9 => h9) rfl dX0_isNearEnough_56 ?_
              refine lv_iload_n hx hb dX0_isNearEnough_59 rfl (lv_at hl 1 rfl) ?_
              refine bm_lald (f := li.2.2.2.2.2.2.2.1) hx hb hK hP 31 0 ww_31 rfl (j := i_2) (by omega) (by decide) dX0_isNearEnough_60 ?_
              refine lv_topl (fun t_19 _ => ?_)
              refine bm_xcallV (As := [.int (nI (li.2.2.2.2.2.1 i_2)), .int (nI (li.2.2.2.2.2.2.1 i_2)), .long t_19]) (rest := []) ⟨hx, hb, hml, hown, hts⟩ (x_near  (za := li.2.2.2.2.2.1 i_2) (zb := li.2.2.2.2.2.2.1 i_2) (z1 := t_19) ok_p0_turn (ok_li_one _) (ok_li_other _)) (cwV 3 hts gvX0_59 rfl rfl rfl hvX2_isNear ⟨Nat.le_of_ble_eq_true rfl, Nat.le_of_ble_eq_true rfl⟩) hK hP hD hS hA 8 2 rfl ww_8 rfl hl.1 rfl (Nat.le_of_ble_eq_true rfl) dX0_isNearEnough_61 ⟨Nat.le_of_ble_eq_true rfl, Nat.le_of_ble_eq_true rfl⟩ (fun ws_20 r_21 h_22 H locs hP hD hS => ?_)
              obtain ⟨rfl, v_23, rfl⟩ := h_22
              have hP : va_P D vwCl (WW ad cJ cI cZ bm pa p0 p1 p2 li wi mt ms ma mp mk mn ou) H := hP
              have hD : va_D A (WW ad cJ cI cZ bm pa p0 p1 p2 li wi mt ms ma mp mk mn ou) := hD
              refine bm_zb_ne (x := v_23) (tgt := 69) hx hb dX0_isNearEnough_64 (by decide) (fun c_24 => ?_) (fun c_24 => ?_)
              · refine lv_iinc (v := (nI (i_2 + 1))) (lv' := [(3, .int (nI (i_2 + 1))), (4, .int (bm_b true)), (0, .ref (ad 23)), (1, .ref (ad 8)), (2, .int (nI zj))]) hx hb dX0_isNearEnough_69 hl (k := 1) rfl (nI_1 i_2) (by decide) rfl (fun ls hl => ?_)
                refine lv_goto (tgt := 2) hx hb dX0_isNearEnough_72 (by decide) ?_
                exact ih_4 (i_2 + 1) (by omega) (by omega)  _ _ hP hD hS _ (lv_sub hl [0, 2, 3, 4] rfl)
              · refine lv_iconst (v := bm_b false) hx hb dX0_isNearEnough_67 (by decide) ?_
                exact bm_zretX (v := false) hx hb hr hP hD hK hS ⟨rfl, false, rfl⟩ dX0_isNearEnough_68 hlocks
  exact lp_1 (li.2.2.2.2.2.2.2.2.2 + 1) 0 (by omega) (by omega)  _ _ hP hD hS _ (lv_sub hl [0, 1, 2, 3] rfl)

set_option maxHeartbeats 8000000 in
set_option maxRecDepth 100000 in
theorem x_addKO {l : Launch} {D : va_G} {ad : Nat → Nat} {cJ cI cZ : ClassId} {bm : gBM} {pa : gPA} {p0 p1 p2 : gPL} {li : gLI} {wi : gWI} {mt : Nat} {ms : gMS} {ma : gMA} {mp : gMP} {mk : gMK} {mn : gMN} {ou : Nat → Int64} {z1 : Int64} {z2 : Int64} {z3 : Int64} {z4 : Int64} {z5 : Int64} (ok_li_keepOuts : li.2.2.2.2.2.2.2.2.1 ≤ 10)   : bm_Wx l yX0_addKeepOut wsX0_addKeepOut ({ frames := 0, cells := 0, slots := 0, locals := 0 }) D vwCl [(cJ, .long), (cI, .int), (cZ, .boolean)] (WW ad cJ cI cZ bm pa p0 p1 p2 li wi mt ms ma mp mk mn ou) [.ref (ad 23), .long z1, .long z2, .long z3, .long z4, .long z5] (fun ws9 r9 => ∃ (e0 : Nat → Int64) (e1 : Nat → Int64) (e2 : Nat → Int64) (e3 : Nat → Int64) (e4 : Nat → Int64) (e5 : Nat) , (e5 ≤ 10) ∧ ws9 = (WW ad cJ cI cZ bm pa p0 p1 p2 (e0, e1, e2, e3, e4, li.2.2.2.2.2.1, li.2.2.2.2.2.2.1, li.2.2.2.2.2.2.2.1, e5, li.2.2.2.2.2.2.2.2.2) wi mt ms ma mp mk mn ou) ∧ ∃ b9 : Bool, r9 = some (.int (bm_b b9))) := by
  intro sz
  refine Met.ofW (cc := cX0_addKeepOut) (maxL := 11) (ret := (some .boolean)) (by decide) rfl ?_
  intro p e s m args below meth c s₁ B hml hv
  obtain ⟨ha, hsz, hP, hK, hD0⟩ := hv
  have hx := B.exec
  have hb := B.bytes
  have hr := B.returns
  have hts := atoms_spec (ws := wsX0_addKeepOut) B.pre
  have hown : s.vm.findClass RX0 = some m.cls := findClass_of_methodNamed B.named
  have hlocks := B.notSynchronized
  subst hsz
  have hD := hD0.self (sz := s.heap.size)
  generalize hAe : va_A (WW ad cJ cI cZ bm pa p0 p1 p2 li wi mt ms ma mp mk mn ou) s.heap.size = A at hD ⊢
  have hA : ∀ q : Nat, s.heap.size ≤ q → A q := fun q h => by rw [← hAe]; exact Or.inr h
  have hS : va_S A s.heap s.heap [] := va_S.rf
  have hl := lv_entry ([.ref (ad 23), .long z1, .long z2, .long z3, .long z4, .long z5]) (n := 11) (Nat.le_of_ble_eq_true rfl)
  refine W.eq (g2 := entryFrame m ([.ref (ad 23), .long z1, .long z2, .long z3, .long z4, .long z5] : List Value).toArray 11) (by rw [ha]) ?_
  rw [lg_entry_eq]
  generalize (lg_sl ([.ref (ad 23), .long z1, .long z2, .long z3, .long z4, .long z5]) ++ List.replicate (11 - (lg_sl ([.ref (ad 23), .long z1, .long z2, .long z3, .long z4, .long z5])).length) Slot.unset).toArray = ls at hl ⊢
  have hl : lv_has ls 11 [(0, .ref (ad 23)), (1, .long z1), (3, .long z2), (5, .long z3), (7, .long z4), (9, .long z5)] := hl
  refine lv_aload_n hx hb dX0_addKeepOut_0 rfl (lv_at hl 0 rfl) ?_
  refine va_get (D := D) (ci := 0) (v := .int (nI li.2.2.2.2.2.2.2.2.1)) (C := RX0) (T := TX0) (N := 11) hx hb hts (inT inX0) hown hK hP 23 ww_23 rfl 9 (by decide) (hts (.fieldLink RX0 37 "BoardMoves$Limits" "keepOuts" "I") (List.mem_cons_of_mem _ flX0_37)) (fun _ h9 => h9) rfl dX0_addKeepOut_1 ?_
  refine lv_bipush (v := nI 10) hx hb dX0_addKeepOut_4 (by decide) ?_
  refine bm_ni_lt (x := li.2.2.2.2.2.2.2.2.1) (y := 10) (tgt := 11) hx hb (by omega) (by omega) dX0_addKeepOut_6 (by decide) (fun c_1 => ?_) (fun c_1 => ?_)
  · refine lv_aload_n hx hb dX0_addKeepOut_11 rfl (lv_at hl 0 rfl) ?_
    refine va_get (D := D) (ci := 0) (v := .ref (ad 24)) (C := RX0) (T := TX0) (N := 11) hx hb hts (inT inX0) hown hK hP 23 ww_23 rfl 1 (by decide) (hts (.fieldLink RX0 9 "BoardMoves$Limits" "x0" "[J") (List.mem_cons_of_mem _ flX0_9)) (fun _ h9 => h9) rfl dX0_addKeepOut_12 ?_
    refine lv_aload_n hx hb dX0_addKeepOut_15 rfl (lv_at hl 0 rfl) ?_
    refine va_get (D := D) (ci := 0) (v := .int (nI li.2.2.2.2.2.2.2.2.1)) (C := RX0) (T := TX0) (N := 11) hx hb hts (inT inX0) hown hK hP 23 ww_23 rfl 9 (by decide) (hts (.fieldLink RX0 37 "BoardMoves$Limits" "keepOuts" "I") (List.mem_cons_of_mem _ flX0_37)) (fun _ h9 => h9) rfl dX0_addKeepOut_16 ?_
    refine lv_lload_n hx hb dX0_addKeepOut_19 rfl (lv_at hl 1 rfl) ?_
    refine bm_last (f := li.1) hx hb hK hP hD hS 24 0 ww_24 rfl (j := li.2.2.2.2.2.2.2.2.1) (x := z1) (by omega) (by decide) dX0_addKeepOut_20 (fun H locs hP hD hS => ?_)
    have hP : va_P D vwCl (WW ad cJ cI cZ bm pa p0 p1 p2 (va_up li.1 li.2.2.2.2.2.2.2.2.1 z1, li.2.1, li.2.2.1, li.2.2.2.1, li.2.2.2.2.1, li.2.2.2.2.2.1, li.2.2.2.2.2.2.1, li.2.2.2.2.2.2.2.1, li.2.2.2.2.2.2.2.2.1, li.2.2.2.2.2.2.2.2.2) wi mt ms ma mp mk mn ou) H := hP
    have hD : va_D A (WW ad cJ cI cZ bm pa p0 p1 p2 (va_up li.1 li.2.2.2.2.2.2.2.2.1 z1, li.2.1, li.2.2.1, li.2.2.2.1, li.2.2.2.2.1, li.2.2.2.2.2.1, li.2.2.2.2.2.2.1, li.2.2.2.2.2.2.2.1, li.2.2.2.2.2.2.2.2.1, li.2.2.2.2.2.2.2.2.2) wi mt ms ma mp mk mn ou) := hD
    refine lv_aload_n hx hb dX0_addKeepOut_21 rfl (lv_at hl 0 rfl) ?_
    refine va_get (D := D) (ci := 0) (v := .ref (ad 25)) (C := RX0) (T := TX0) (N := 11) hx hb hts (inT inX0) hown hK hP 23 ww_23 rfl 2 (by decide) (hts (.fieldLink RX0 15 "BoardMoves$Limits" "y0" "[J") (List.mem_cons_of_mem _ flX0_15)) (fun _ h9 => h9) rfl dX0_addKeepOut_22 ?_
    refine lv_aload_n hx hb dX0_addKeepOut_25 rfl (lv_at hl 0 rfl) ?_
    refine va_get (D := D) (ci := 0) (v := .int (nI li.2.2.2.2.2.2.2.2.1)) (C := RX0) (T := TX0) (N := 11) hx hb hts (inT inX0) hown hK hP 23 ww_23 rfl 9 (by decide) (hts (.fieldLink RX0 37 "BoardMoves$Limits" "keepOuts" "I") (List.mem_cons_of_mem _ flX0_37)) (fun _ h9 => h9) rfl dX0_addKeepOut_26 ?_
    refine lv_lload_n hx hb dX0_addKeepOut_29 rfl (lv_at hl 2 rfl) ?_
    refine bm_last (f := li.2.1) hx hb hK hP hD hS 25 0 ww_25 rfl (j := li.2.2.2.2.2.2.2.2.1) (x := z2) (by omega) (by decide) dX0_addKeepOut_30 (fun H locs hP hD hS => ?_)
    have hP : va_P D vwCl (WW ad cJ cI cZ bm pa p0 p1 p2 (va_up li.1 li.2.2.2.2.2.2.2.2.1 z1, va_up li.2.1 li.2.2.2.2.2.2.2.2.1 z2, li.2.2.1, li.2.2.2.1, li.2.2.2.2.1, li.2.2.2.2.2.1, li.2.2.2.2.2.2.1, li.2.2.2.2.2.2.2.1, li.2.2.2.2.2.2.2.2.1, li.2.2.2.2.2.2.2.2.2) wi mt ms ma mp mk mn ou) H := hP
    have hD : va_D A (WW ad cJ cI cZ bm pa p0 p1 p2 (va_up li.1 li.2.2.2.2.2.2.2.2.1 z1, va_up li.2.1 li.2.2.2.2.2.2.2.2.1 z2, li.2.2.1, li.2.2.2.1, li.2.2.2.2.1, li.2.2.2.2.2.1, li.2.2.2.2.2.2.1, li.2.2.2.2.2.2.2.1, li.2.2.2.2.2.2.2.2.1, li.2.2.2.2.2.2.2.2.2) wi mt ms ma mp mk mn ou) := hD
    refine lv_aload_n hx hb dX0_addKeepOut_31 rfl (lv_at hl 0 rfl) ?_
    refine va_get (D := D) (ci := 0) (v := .ref (ad 26)) (C := RX0) (T := TX0) (N := 11) hx hb hts (inT inX0) hown hK hP 23 ww_23 rfl 3 (by decide) (hts (.fieldLink RX0 18 "BoardMoves$Limits" "x1" "[J") (List.mem_cons_of_mem _ flX0_18)) (fun _ h9 => h9) rfl dX0_addKeepOut_32 ?_
    refine lv_aload_n hx hb dX0_addKeepOut_35 rfl (lv_at hl 0 rfl) ?_
    refine va_get (D := D) (ci := 0) (v := .int (nI li.2.2.2.2.2.2.2.2.1)) (C := RX0) (T := TX0) (N := 11) hx hb hts (inT inX0) hown hK hP 23 ww_23 rfl 9 (by decide) (hts (.fieldLink RX0 37 "BoardMoves$Limits" "keepOuts" "I") (List.mem_cons_of_mem _ flX0_37)) (fun _ h9 => h9) rfl dX0_addKeepOut_36 ?_
    refine lv_lload hx hb dX0_addKeepOut_39 (lv_at hl 3 rfl) ?_
    refine bm_last (f := li.2.2.1) hx hb hK hP hD hS 26 0 ww_26 rfl (j := li.2.2.2.2.2.2.2.2.1) (x := z3) (by omega) (by decide) dX0_addKeepOut_41 (fun H locs hP hD hS => ?_)
    have hP : va_P D vwCl (WW ad cJ cI cZ bm pa p0 p1 p2 (va_up li.1 li.2.2.2.2.2.2.2.2.1 z1, va_up li.2.1 li.2.2.2.2.2.2.2.2.1 z2, va_up li.2.2.1 li.2.2.2.2.2.2.2.2.1 z3, li.2.2.2.1, li.2.2.2.2.1, li.2.2.2.2.2.1, li.2.2.2.2.2.2.1, li.2.2.2.2.2.2.2.1, li.2.2.2.2.2.2.2.2.1, li.2.2.2.2.2.2.2.2.2) wi mt ms ma mp mk mn ou) H := hP
    have hD : va_D A (WW ad cJ cI cZ bm pa p0 p1 p2 (va_up li.1 li.2.2.2.2.2.2.2.2.1 z1, va_up li.2.1 li.2.2.2.2.2.2.2.2.1 z2, va_up li.2.2.1 li.2.2.2.2.2.2.2.2.1 z3, li.2.2.2.1, li.2.2.2.2.1, li.2.2.2.2.2.1, li.2.2.2.2.2.2.1, li.2.2.2.2.2.2.2.1, li.2.2.2.2.2.2.2.2.1, li.2.2.2.2.2.2.2.2.2) wi mt ms ma mp mk mn ou) := hD
    refine lv_aload_n hx hb dX0_addKeepOut_42 rfl (lv_at hl 0 rfl) ?_
    refine va_get (D := D) (ci := 0) (v := .ref (ad 27)) (C := RX0) (T := TX0) (N := 11) hx hb hts (inT inX0) hown hK hP 23 ww_23 rfl 4 (by decide) (hts (.fieldLink RX0 21 "BoardMoves$Limits" "y1" "[J") (List.mem_cons_of_mem _ flX0_21)) (fun _ h9 => h9) rfl dX0_addKeepOut_43 ?_
    refine lv_aload_n hx hb dX0_addKeepOut_46 rfl (lv_at hl 0 rfl) ?_
    refine va_get (D := D) (ci := 0) (v := .int (nI li.2.2.2.2.2.2.2.2.1)) (C := RX0) (T := TX0) (N := 11) hx hb hts (inT inX0) hown hK hP 23 ww_23 rfl 9 (by decide) (hts (.fieldLink RX0 37 "BoardMoves$Limits" "keepOuts" "I") (List.mem_cons_of_mem _ flX0_37)) (fun _ h9 => h9) rfl dX0_addKeepOut_47 ?_
    refine lv_lload hx hb dX0_addKeepOut_50 (lv_at hl 4 rfl) ?_
    refine bm_last (f := li.2.2.2.1) hx hb hK hP hD hS 27 0 ww_27 rfl (j := li.2.2.2.2.2.2.2.2.1) (x := z4) (by omega) (by decide) dX0_addKeepOut_52 (fun H locs hP hD hS => ?_)
    have hP : va_P D vwCl (WW ad cJ cI cZ bm pa p0 p1 p2 (va_up li.1 li.2.2.2.2.2.2.2.2.1 z1, va_up li.2.1 li.2.2.2.2.2.2.2.2.1 z2, va_up li.2.2.1 li.2.2.2.2.2.2.2.2.1 z3, va_up li.2.2.2.1 li.2.2.2.2.2.2.2.2.1 z4, li.2.2.2.2.1, li.2.2.2.2.2.1, li.2.2.2.2.2.2.1, li.2.2.2.2.2.2.2.1, li.2.2.2.2.2.2.2.2.1, li.2.2.2.2.2.2.2.2.2) wi mt ms ma mp mk mn ou) H := hP
    have hD : va_D A (WW ad cJ cI cZ bm pa p0 p1 p2 (va_up li.1 li.2.2.2.2.2.2.2.2.1 z1, va_up li.2.1 li.2.2.2.2.2.2.2.2.1 z2, va_up li.2.2.1 li.2.2.2.2.2.2.2.2.1 z3, va_up li.2.2.2.1 li.2.2.2.2.2.2.2.2.1 z4, li.2.2.2.2.1, li.2.2.2.2.2.1, li.2.2.2.2.2.2.1, li.2.2.2.2.2.2.2.1, li.2.2.2.2.2.2.2.2.1, li.2.2.2.2.2.2.2.2.2) wi mt ms ma mp mk mn ou) := hD
    refine lv_aload_n hx hb dX0_addKeepOut_53 rfl (lv_at hl 0 rfl) ?_
    refine va_get (D := D) (ci := 0) (v := .ref (ad 28)) (C := RX0) (T := TX0) (N := 11) hx hb hts (inT inX0) hown hK hP 23 ww_23 rfl 5 (by decide) (hts (.fieldLink RX0 24 "BoardMoves$Limits" "tallest" "[J") (List.mem_cons_of_mem _ flX0_24)) (fun _ h9 => h9) rfl dX0_addKeepOut_54 ?_
    refine lv_aload_n hx hb dX0_addKeepOut_57 rfl (lv_at hl 0 rfl) ?_
    refine va_get (D := D) (ci := 0) (v := .int (nI li.2.2.2.2.2.2.2.2.1)) (C := RX0) (T := TX0) (N := 11) hx hb hts (inT inX0) hown hK hP 23 ww_23 rfl 9 (by decide) (hts (.fieldLink RX0 37 "BoardMoves$Limits" "keepOuts" "I") (List.mem_cons_of_mem _ flX0_37)) (fun _ h9 => h9) rfl dX0_addKeepOut_58 ?_
    refine lv_lload hx hb dX0_addKeepOut_61 (lv_at hl 5 rfl) ?_
    refine bm_last (f := li.2.2.2.2.1) hx hb hK hP hD hS 28 0 ww_28 rfl (j := li.2.2.2.2.2.2.2.2.1) (x := z5) (by omega) (by decide) dX0_addKeepOut_63 (fun H locs hP hD hS => ?_)
    have hP : va_P D vwCl (WW ad cJ cI cZ bm pa p0 p1 p2 (va_up li.1 li.2.2.2.2.2.2.2.2.1 z1, va_up li.2.1 li.2.2.2.2.2.2.2.2.1 z2, va_up li.2.2.1 li.2.2.2.2.2.2.2.2.1 z3, va_up li.2.2.2.1 li.2.2.2.2.2.2.2.2.1 z4, va_up li.2.2.2.2.1 li.2.2.2.2.2.2.2.2.1 z5, li.2.2.2.2.2.1, li.2.2.2.2.2.2.1, li.2.2.2.2.2.2.2.1, li.2.2.2.2.2.2.2.2.1, li.2.2.2.2.2.2.2.2.2) wi mt ms ma mp mk mn ou) H := hP
    have hD : va_D A (WW ad cJ cI cZ bm pa p0 p1 p2 (va_up li.1 li.2.2.2.2.2.2.2.2.1 z1, va_up li.2.1 li.2.2.2.2.2.2.2.2.1 z2, va_up li.2.2.1 li.2.2.2.2.2.2.2.2.1 z3, va_up li.2.2.2.1 li.2.2.2.2.2.2.2.2.1 z4, va_up li.2.2.2.2.1 li.2.2.2.2.2.2.2.2.1 z5, li.2.2.2.2.2.1, li.2.2.2.2.2.2.1, li.2.2.2.2.2.2.2.1, li.2.2.2.2.2.2.2.2.1, li.2.2.2.2.2.2.2.2.2) wi mt ms ma mp mk mn ou) := hD
    refine lv_aload_n hx hb dX0_addKeepOut_64 rfl (lv_at hl 0 rfl) ?_
    refine lv_dup hx hb dX0_addKeepOut_65 rfl ?_
    refine va_get (D := D) (ci := 0) (v := .int (nI li.2.2.2.2.2.2.2.2.1)) (C := RX0) (T := TX0) (N := 11) hx hb hts (inT inX0) hown hK hP 23 ww_23 rfl 9 (by decide) (hts (.fieldLink RX0 37 "BoardMoves$Limits" "keepOuts" "I") (List.mem_cons_of_mem _ flX0_37)) (fun _ h9 => h9) rfl dX0_addKeepOut_66 ?_
    refine lv_iconst (v := nI 1) hx hb dX0_addKeepOut_69 (by decide) ?_
    refine bm_nadd hx hb dX0_addKeepOut_70 ?_
    refine va_put (D := D) (ci := 0) (v := .int (nI (li.2.2.2.2.2.2.2.2.1 + 1))) (ty := .int) (C := RX0) (T := TX0) (N := 11) hx hb hts (inT inX0) tyX0 tyX0_ok nmX0 hown hK hP hD hS 23 ww_23 rfl 9 (by decide) (hts (.fieldLink RX0 37 "BoardMoves$Limits" "keepOuts" "I") (List.mem_cons_of_mem _ flX0_37)) (fun _ h9 => h9) rfl (by decide +kernel) rfl rfl (Nat.le_of_ble_eq_true rfl) dX0_addKeepOut_71 (fun H locs hP hD hS => ?_)
    have hP : va_P D vwCl (WW ad cJ cI cZ bm pa p0 p1 p2 (va_up li.1 li.2.2.2.2.2.2.2.2.1 z1, va_up li.2.1 li.2.2.2.2.2.2.2.2.1 z2, va_up li.2.2.1 li.2.2.2.2.2.2.2.2.1 z3, va_up li.2.2.2.1 li.2.2.2.2.2.2.2.2.1 z4, va_up li.2.2.2.2.1 li.2.2.2.2.2.2.2.2.1 z5, li.2.2.2.2.2.1, li.2.2.2.2.2.2.1, li.2.2.2.2.2.2.2.1, li.2.2.2.2.2.2.2.2.1 + 1, li.2.2.2.2.2.2.2.2.2) wi mt ms ma mp mk mn ou) H := hP
    have hD : va_D A (WW ad cJ cI cZ bm pa p0 p1 p2 (va_up li.1 li.2.2.2.2.2.2.2.2.1 z1, va_up li.2.1 li.2.2.2.2.2.2.2.2.1 z2, va_up li.2.2.1 li.2.2.2.2.2.2.2.2.1 z3, va_up li.2.2.2.1 li.2.2.2.2.2.2.2.2.1 z4, va_up li.2.2.2.2.1 li.2.2.2.2.2.2.2.2.1 z5, li.2.2.2.2.2.1, li.2.2.2.2.2.2.1, li.2.2.2.2.2.2.2.1, li.2.2.2.2.2.2.2.2.1 + 1, li.2.2.2.2.2.2.2.2.2) wi mt ms ma mp mk mn ou) := hD
    refine lv_iconst (v := bm_b true) hx hb dX0_addKeepOut_74 (by decide) ?_
    exact bm_zretX (v := true) hx hb hr hP hD hK hS ⟨(va_up li.1 li.2.2.2.2.2.2.2.2.1 z1), (va_up li.2.1 li.2.2.2.2.2.2.2.2.1 z2), (va_up li.2.2.1 li.2.2.2.2.2.2.2.2.1 z3), (va_up li.2.2.2.1 li.2.2.2.2.2.2.2.2.1 z4), (va_up li.2.2.2.2.1 li.2.2.2.2.2.2.2.2.1 z5), (li.2.2.2.2.2.2.2.2.1 + 1), (by omega), rfl, true, rfl⟩ dX0_addKeepOut_75 hlocks
  · refine lv_iconst (v := bm_b false) hx hb dX0_addKeepOut_9 (by decide) ?_
    exact bm_zretX (v := false) hx hb hr hP hD hK hS ⟨li.1, li.2.1, li.2.2.1, li.2.2.2.1, li.2.2.2.2.1, li.2.2.2.2.2.2.2.2.1, ok_li_keepOuts, rfl, false, rfl⟩ dX0_addKeepOut_10 hlocks

set_option maxHeartbeats 8000000 in
set_option maxRecDepth 100000 in
theorem x_dropKO {l : Launch} {D : va_G} {ad : Nat → Nat} {cJ cI cZ : ClassId} {bm : gBM} {pa : gPA} {p0 p1 p2 : gPL} {li : gLI} {wi : gWI} {mt : Nat} {ms : gMS} {ma : gMA} {mp : gMP} {mk : gMK} {mn : gMN} {ou : Nat → Int64}  (ok_li_keepOuts : li.2.2.2.2.2.2.2.2.1 ≤ 10)   : bm_Wx l yX0_dropKeepOut wsX0_dropKeepOut ({ frames := 0, cells := 0, slots := 0, locals := 0 }) D vwCl [(cJ, .long), (cI, .int), (cZ, .boolean)] (WW ad cJ cI cZ bm pa p0 p1 p2 li wi mt ms ma mp mk mn ou) [.ref (ad 23)] (fun ws9 r9 => ∃ (e0 : Nat) , (e0 ≤ 10) ∧ ws9 = (WW ad cJ cI cZ bm pa p0 p1 p2 (li.1, li.2.1, li.2.2.1, li.2.2.2.1, li.2.2.2.2.1, li.2.2.2.2.2.1, li.2.2.2.2.2.2.1, li.2.2.2.2.2.2.2.1, e0, li.2.2.2.2.2.2.2.2.2) wi mt ms ma mp mk mn ou) ∧ r9 = none) := by
  intro sz
  refine Met.ofW (cc := cX0_dropKeepOut) (maxL := 1) (ret := none) (by decide) rfl ?_
  intro p e s m args below meth c s₁ B hml hv
  obtain ⟨ha, hsz, hP, hK, hD0⟩ := hv
  have hx := B.exec
  have hb := B.bytes
  have hr := B.returns
  have hts := atoms_spec (ws := wsX0_dropKeepOut) B.pre
  have hown : s.vm.findClass RX0 = some m.cls := findClass_of_methodNamed B.named
  have hlocks := B.notSynchronized
  subst hsz
  have hD := hD0.self (sz := s.heap.size)
  generalize hAe : va_A (WW ad cJ cI cZ bm pa p0 p1 p2 li wi mt ms ma mp mk mn ou) s.heap.size = A at hD ⊢
  have hA : ∀ q : Nat, s.heap.size ≤ q → A q := fun q h => by rw [← hAe]; exact Or.inr h
  have hS : va_S A s.heap s.heap [] := va_S.rf
  have hl := lv_entry ([.ref (ad 23)]) (n := 1) (Nat.le_of_ble_eq_true rfl)
  refine W.eq (g2 := entryFrame m ([.ref (ad 23)] : List Value).toArray 1) (by rw [ha]) ?_
  rw [lg_entry_eq]
  generalize (lg_sl ([.ref (ad 23)]) ++ List.replicate (1 - (lg_sl ([.ref (ad 23)])).length) Slot.unset).toArray = ls at hl ⊢
  have hl : lv_has ls 1 [(0, .ref (ad 23))] := hl
  refine lv_aload_n hx hb dX0_dropKeepOut_0 rfl (lv_at hl 0 rfl) ?_
  refine va_get (D := D) (ci := 0) (v := .int (nI li.2.2.2.2.2.2.2.2.1)) (C := RX0) (T := TX0) (N := 11) hx hb hts (inT inX0) hown hK hP 23 ww_23 rfl 9 (by decide) (hts (.fieldLink RX0 37 "BoardMoves$Limits" "keepOuts" "I") (List.mem_cons_of_mem _ flX0_37)) (fun _ h9 => h9) rfl dX0_dropKeepOut_1 ?_
  refine bm_nz_le (x := li.2.2.2.2.2.2.2.2.1) (tgt := 17) hx hb (by omega) dX0_dropKeepOut_4 (by decide) (fun c_1 => ?_) (fun c_1 => ?_)
  · exact bm_vretX hx hb hr hP hD hK hS ⟨li.2.2.2.2.2.2.2.2.1, ok_li_keepOuts, rfl, rfl⟩ dX0_dropKeepOut_17 hlocks
  · refine lv_aload_n hx hb dX0_dropKeepOut_7 rfl (lv_at hl 0 rfl) ?_
    refine lv_dup hx hb dX0_dropKeepOut_8 rfl ?_
    refine va_get (D := D) (ci := 0) (v := .int (nI li.2.2.2.2.2.2.2.2.1)) (C := RX0) (T := TX0) (N := 11) hx hb hts (inT inX0) hown hK hP 23 ww_23 rfl 9 (by decide) (hts (.fieldLink RX0 37 "BoardMoves$Limits" "keepOuts" "I") (List.mem_cons_of_mem _ flX0_37)) (fun _ h9 => h9) rfl dX0_dropKeepOut_9 ?_
    refine lv_iconst (v := nI 1) hx hb dX0_dropKeepOut_12 (by decide) ?_
    refine bm_nsub hx hb (by omega) dX0_dropKeepOut_13 ?_
    refine va_put (D := D) (ci := 0) (v := .int (nI (li.2.2.2.2.2.2.2.2.1 - 1))) (ty := .int) (C := RX0) (T := TX0) (N := 11) hx hb hts (inT inX0) tyX0 tyX0_ok nmX0 hown hK hP hD hS 23 ww_23 rfl 9 (by decide) (hts (.fieldLink RX0 37 "BoardMoves$Limits" "keepOuts" "I") (List.mem_cons_of_mem _ flX0_37)) (fun _ h9 => h9) rfl (by decide +kernel) rfl rfl (Nat.le_of_ble_eq_true rfl) dX0_dropKeepOut_14 (fun H locs hP hD hS => ?_)
    have hP : va_P D vwCl (WW ad cJ cI cZ bm pa p0 p1 p2 (li.1, li.2.1, li.2.2.1, li.2.2.2.1, li.2.2.2.2.1, li.2.2.2.2.2.1, li.2.2.2.2.2.2.1, li.2.2.2.2.2.2.2.1, li.2.2.2.2.2.2.2.2.1 - 1, li.2.2.2.2.2.2.2.2.2) wi mt ms ma mp mk mn ou) H := hP
    have hD : va_D A (WW ad cJ cI cZ bm pa p0 p1 p2 (li.1, li.2.1, li.2.2.1, li.2.2.2.1, li.2.2.2.2.1, li.2.2.2.2.2.1, li.2.2.2.2.2.2.1, li.2.2.2.2.2.2.2.1, li.2.2.2.2.2.2.2.2.1 - 1, li.2.2.2.2.2.2.2.2.2) wi mt ms ma mp mk mn ou) := hD
    exact bm_vretX hx hb hr hP hD hK hS ⟨(li.2.2.2.2.2.2.2.2.1 - 1), (by omega), rfl, rfl⟩ dX0_dropKeepOut_17 hlocks

set_option maxHeartbeats 8000000 in
set_option maxRecDepth 100000 in
theorem x_addNear {l : Launch} {D : va_G} {ad : Nat → Nat} {cJ cI cZ : ClassId} {bm : gBM} {pa : gPA} {p0 p1 p2 : gPL} {li : gLI} {wi : gWI} {mt : Nat} {ms : gMS} {ma : gMA} {mp : gMP} {mk : gMK} {mn : gMN} {ou : Nat → Int64} {za : Nat} {zb : Nat} {z1 : Int64} (ok_li_nears : li.2.2.2.2.2.2.2.2.2 ≤ 20) (ok_li_one : ∀ i, li.2.2.2.2.2.1 i < 40) (ok_li_other : ∀ i, li.2.2.2.2.2.2.1 i < 40) (hp0 : za < 40) (hp1 : zb < 40)  : bm_Wx l yX0_addNear wsX0_addNear ({ frames := 0, cells := 0, slots := 0, locals := 0 }) D vwCl [(cJ, .long), (cI, .int), (cZ, .boolean)] (WW ad cJ cI cZ bm pa p0 p1 p2 li wi mt ms ma mp mk mn ou) [.ref (ad 23), .int (nI za), .int (nI zb), .long z1] (fun ws9 r9 => ∃ (e0 : Nat → Nat) (e1 : Nat → Nat) (e2 : Nat → Int64) (e3 : Nat) , (∀ i, e0 i < 40) ∧ (∀ i, e1 i < 40) ∧ (e3 ≤ 20) ∧ ws9 = (WW ad cJ cI cZ bm pa p0 p1 p2 (li.1, li.2.1, li.2.2.1, li.2.2.2.1, li.2.2.2.2.1, e0, e1, e2, li.2.2.2.2.2.2.2.2.1, e3) wi mt ms ma mp mk mn ou) ∧ ∃ b9 : Bool, r9 = some (.int (bm_b b9))) := by
  intro sz
  refine Met.ofW (cc := cX0_addNear) (maxL := 5) (ret := (some .boolean)) (by decide) rfl ?_
  intro p e s m args below meth c s₁ B hml hv
  obtain ⟨ha, hsz, hP, hK, hD0⟩ := hv
  have hx := B.exec
  have hb := B.bytes
  have hr := B.returns
  have hts := atoms_spec (ws := wsX0_addNear) B.pre
  have hown : s.vm.findClass RX0 = some m.cls := findClass_of_methodNamed B.named
  have hlocks := B.notSynchronized
  subst hsz
  have hD := hD0.self (sz := s.heap.size)
  generalize hAe : va_A (WW ad cJ cI cZ bm pa p0 p1 p2 li wi mt ms ma mp mk mn ou) s.heap.size = A at hD ⊢
  have hA : ∀ q : Nat, s.heap.size ≤ q → A q := fun q h => by rw [← hAe]; exact Or.inr h
  have hS : va_S A s.heap s.heap [] := va_S.rf
  have hl := lv_entry ([.ref (ad 23), .int (nI za), .int (nI zb), .long z1]) (n := 5) (Nat.le_of_ble_eq_true rfl)
  refine W.eq (g2 := entryFrame m ([.ref (ad 23), .int (nI za), .int (nI zb), .long z1] : List Value).toArray 5) (by rw [ha]) ?_
  rw [lg_entry_eq]
  generalize (lg_sl ([.ref (ad 23), .int (nI za), .int (nI zb), .long z1]) ++ List.replicate (5 - (lg_sl ([.ref (ad 23), .int (nI za), .int (nI zb), .long z1])).length) Slot.unset).toArray = ls at hl ⊢
  have hl : lv_has ls 5 [(0, .ref (ad 23)), (1, .int (nI za)), (2, .int (nI zb)), (3, .long z1)] := hl
  refine lv_aload_n hx hb dX0_addNear_0 rfl (lv_at hl 0 rfl) ?_
  refine va_get (D := D) (ci := 0) (v := .int (nI li.2.2.2.2.2.2.2.2.2)) (C := RX0) (T := TX0) (N := 11) hx hb hts (inT inX0) hown hK hP 23 ww_23 rfl 10 (by decide) (hts (.fieldLink RX0 41 "BoardMoves$Limits" "nears" "I") (List.mem_cons_of_mem _ flX0_41)) (fun _ h9 => h9) rfl dX0_addNear_1 ?_
  refine lv_bipush (v := nI 20) hx hb dX0_addNear_4 (by decide) ?_
  refine bm_ni_lt (x := li.2.2.2.2.2.2.2.2.2) (y := 20) (tgt := 11) hx hb (by omega) (by omega) dX0_addNear_6 (by decide) (fun c_1 => ?_) (fun c_1 => ?_)
  · refine lv_aload_n hx hb dX0_addNear_11 rfl (lv_at hl 0 rfl) ?_
    refine va_get (D := D) (ci := 0) (v := .ref (ad 29)) (C := RX0) (T := TX0) (N := 11) hx hb hts (inT inX0) hown hK hP 23 ww_23 rfl 6 (by decide) (hts (.fieldLink RX0 27 "BoardMoves$Limits" "one" "[I") (List.mem_cons_of_mem _ flX0_27)) (fun _ h9 => h9) rfl dX0_addNear_12 ?_
    refine lv_aload_n hx hb dX0_addNear_15 rfl (lv_at hl 0 rfl) ?_
    refine va_get (D := D) (ci := 0) (v := .int (nI li.2.2.2.2.2.2.2.2.2)) (C := RX0) (T := TX0) (N := 11) hx hb hts (inT inX0) hown hK hP 23 ww_23 rfl 10 (by decide) (hts (.fieldLink RX0 41 "BoardMoves$Limits" "nears" "I") (List.mem_cons_of_mem _ flX0_41)) (fun _ h9 => h9) rfl dX0_addNear_16 ?_
    refine lv_iload_n hx hb dX0_addNear_19 rfl (lv_at hl 1 rfl) ?_
    refine bm_nast (f := li.2.2.2.2.2.1) hx hb hK hP hD hS 29 1 ww_29 rfl (j := li.2.2.2.2.2.2.2.2.2) (x := za) (by omega) (by decide) dX0_addNear_20 (fun H locs hP hD hS => ?_)
    have hP : va_P D vwCl (WW ad cJ cI cZ bm pa p0 p1 p2 (li.1, li.2.1, li.2.2.1, li.2.2.2.1, li.2.2.2.2.1, va_up li.2.2.2.2.2.1 li.2.2.2.2.2.2.2.2.2 za, li.2.2.2.2.2.2.1, li.2.2.2.2.2.2.2.1, li.2.2.2.2.2.2.2.2.1, li.2.2.2.2.2.2.2.2.2) wi mt ms ma mp mk mn ou) H := hP
    have hD : va_D A (WW ad cJ cI cZ bm pa p0 p1 p2 (li.1, li.2.1, li.2.2.1, li.2.2.2.1, li.2.2.2.2.1, va_up li.2.2.2.2.2.1 li.2.2.2.2.2.2.2.2.2 za, li.2.2.2.2.2.2.1, li.2.2.2.2.2.2.2.1, li.2.2.2.2.2.2.2.2.1, li.2.2.2.2.2.2.2.2.2) wi mt ms ma mp mk mn ou) := hD
    refine lv_aload_n hx hb dX0_addNear_21 rfl (lv_at hl 0 rfl) ?_
    refine va_get (D := D) (ci := 0) (v := .ref (ad 30)) (C := RX0) (T := TX0) (N := 11) hx hb hts (inT inX0) hown hK hP 23 ww_23 rfl 7 (by decide) (hts (.fieldLink RX0 31 "BoardMoves$Limits" "other" "[I") (List.mem_cons_of_mem _ flX0_31)) (fun _ h9 => h9) rfl dX0_addNear_22 ?_
    refine lv_aload_n hx hb dX0_addNear_25 rfl (lv_at hl 0 rfl) ?_
    refine va_get (D := D) (ci := 0) (v := .int (nI li.2.2.2.2.2.2.2.2.2)) (C := RX0) (T := TX0) (N := 11) hx hb hts (inT inX0) hown hK hP 23 ww_23 rfl 10 (by decide) (hts (.fieldLink RX0 41 "BoardMoves$Limits" "nears" "I") (List.mem_cons_of_mem _ flX0_41)) (fun _ h9 => h9) rfl dX0_addNear_26 ?_
    refine lv_iload_n hx hb dX0_addNear_29 rfl (lv_at hl 2 rfl) ?_
    refine bm_nast (f := li.2.2.2.2.2.2.1) hx hb hK hP hD hS 30 1 ww_30 rfl (j := li.2.2.2.2.2.2.2.2.2) (x := zb) (by omega) (by decide) dX0_addNear_30 (fun H locs hP hD hS => ?_)
    have hP : va_P D vwCl (WW ad cJ cI cZ bm pa p0 p1 p2 (li.1, li.2.1, li.2.2.1, li.2.2.2.1, li.2.2.2.2.1, va_up li.2.2.2.2.2.1 li.2.2.2.2.2.2.2.2.2 za, va_up li.2.2.2.2.2.2.1 li.2.2.2.2.2.2.2.2.2 zb, li.2.2.2.2.2.2.2.1, li.2.2.2.2.2.2.2.2.1, li.2.2.2.2.2.2.2.2.2) wi mt ms ma mp mk mn ou) H := hP
    have hD : va_D A (WW ad cJ cI cZ bm pa p0 p1 p2 (li.1, li.2.1, li.2.2.1, li.2.2.2.1, li.2.2.2.2.1, va_up li.2.2.2.2.2.1 li.2.2.2.2.2.2.2.2.2 za, va_up li.2.2.2.2.2.2.1 li.2.2.2.2.2.2.2.2.2 zb, li.2.2.2.2.2.2.2.1, li.2.2.2.2.2.2.2.2.1, li.2.2.2.2.2.2.2.2.2) wi mt ms ma mp mk mn ou) := hD
    refine lv_aload_n hx hb dX0_addNear_31 rfl (lv_at hl 0 rfl) ?_
    refine va_get (D := D) (ci := 0) (v := .ref (ad 31)) (C := RX0) (T := TX0) (N := 11) hx hb hts (inT inX0) hown hK hP 23 ww_23 rfl 8 (by decide) (hts (.fieldLink RX0 34 "BoardMoves$Limits" "most" "[J") (List.mem_cons_of_mem _ flX0_34)) (fun _ h9 => h9) rfl dX0_addNear_32 ?_
    refine lv_aload_n hx hb dX0_addNear_35 rfl (lv_at hl 0 rfl) ?_
    refine va_get (D := D) (ci := 0) (v := .int (nI li.2.2.2.2.2.2.2.2.2)) (C := RX0) (T := TX0) (N := 11) hx hb hts (inT inX0) hown hK hP 23 ww_23 rfl 10 (by decide) (hts (.fieldLink RX0 41 "BoardMoves$Limits" "nears" "I") (List.mem_cons_of_mem _ flX0_41)) (fun _ h9 => h9) rfl dX0_addNear_36 ?_
    refine lv_lload_n hx hb dX0_addNear_39 rfl (lv_at hl 3 rfl) ?_
    refine bm_last (f := li.2.2.2.2.2.2.2.1) hx hb hK hP hD hS 31 0 ww_31 rfl (j := li.2.2.2.2.2.2.2.2.2) (x := z1) (by omega) (by decide) dX0_addNear_40 (fun H locs hP hD hS => ?_)
    have hP : va_P D vwCl (WW ad cJ cI cZ bm pa p0 p1 p2 (li.1, li.2.1, li.2.2.1, li.2.2.2.1, li.2.2.2.2.1, va_up li.2.2.2.2.2.1 li.2.2.2.2.2.2.2.2.2 za, va_up li.2.2.2.2.2.2.1 li.2.2.2.2.2.2.2.2.2 zb, va_up li.2.2.2.2.2.2.2.1 li.2.2.2.2.2.2.2.2.2 z1, li.2.2.2.2.2.2.2.2.1, li.2.2.2.2.2.2.2.2.2) wi mt ms ma mp mk mn ou) H := hP
    have hD : va_D A (WW ad cJ cI cZ bm pa p0 p1 p2 (li.1, li.2.1, li.2.2.1, li.2.2.2.1, li.2.2.2.2.1, va_up li.2.2.2.2.2.1 li.2.2.2.2.2.2.2.2.2 za, va_up li.2.2.2.2.2.2.1 li.2.2.2.2.2.2.2.2.2 zb, va_up li.2.2.2.2.2.2.2.1 li.2.2.2.2.2.2.2.2.2 z1, li.2.2.2.2.2.2.2.2.1, li.2.2.2.2.2.2.2.2.2) wi mt ms ma mp mk mn ou) := hD
    refine lv_aload_n hx hb dX0_addNear_41 rfl (lv_at hl 0 rfl) ?_
    refine lv_dup hx hb dX0_addNear_42 rfl ?_
    refine va_get (D := D) (ci := 0) (v := .int (nI li.2.2.2.2.2.2.2.2.2)) (C := RX0) (T := TX0) (N := 11) hx hb hts (inT inX0) hown hK hP 23 ww_23 rfl 10 (by decide) (hts (.fieldLink RX0 41 "BoardMoves$Limits" "nears" "I") (List.mem_cons_of_mem _ flX0_41)) (fun _ h9 => h9) rfl dX0_addNear_43 ?_
    refine lv_iconst (v := nI 1) hx hb dX0_addNear_46 (by decide) ?_
    refine bm_nadd hx hb dX0_addNear_47 ?_
    refine va_put (D := D) (ci := 0) (v := .int (nI (li.2.2.2.2.2.2.2.2.2 + 1))) (ty := .int) (C := RX0) (T := TX0) (N := 11) hx hb hts (inT inX0) tyX0 tyX0_ok nmX0 hown hK hP hD hS 23 ww_23 rfl 10 (by decide) (hts (.fieldLink RX0 41 "BoardMoves$Limits" "nears" "I") (List.mem_cons_of_mem _ flX0_41)) (fun _ h9 => h9) rfl (by decide +kernel) rfl rfl (Nat.le_of_ble_eq_true rfl) dX0_addNear_48 (fun H locs hP hD hS => ?_)
    have hP : va_P D vwCl (WW ad cJ cI cZ bm pa p0 p1 p2 (li.1, li.2.1, li.2.2.1, li.2.2.2.1, li.2.2.2.2.1, va_up li.2.2.2.2.2.1 li.2.2.2.2.2.2.2.2.2 za, va_up li.2.2.2.2.2.2.1 li.2.2.2.2.2.2.2.2.2 zb, va_up li.2.2.2.2.2.2.2.1 li.2.2.2.2.2.2.2.2.2 z1, li.2.2.2.2.2.2.2.2.1, li.2.2.2.2.2.2.2.2.2 + 1) wi mt ms ma mp mk mn ou) H := hP
    have hD : va_D A (WW ad cJ cI cZ bm pa p0 p1 p2 (li.1, li.2.1, li.2.2.1, li.2.2.2.1, li.2.2.2.2.1, va_up li.2.2.2.2.2.1 li.2.2.2.2.2.2.2.2.2 za, va_up li.2.2.2.2.2.2.1 li.2.2.2.2.2.2.2.2.2 zb, va_up li.2.2.2.2.2.2.2.1 li.2.2.2.2.2.2.2.2.2 z1, li.2.2.2.2.2.2.2.2.1, li.2.2.2.2.2.2.2.2.2 + 1) wi mt ms ma mp mk mn ou) := hD
    refine lv_iconst (v := bm_b true) hx hb dX0_addNear_51 (by decide) ?_
    exact bm_zretX (v := true) hx hb hr hP hD hK hS ⟨(va_up li.2.2.2.2.2.1 li.2.2.2.2.2.2.2.2.2 za), (va_up li.2.2.2.2.2.2.1 li.2.2.2.2.2.2.2.2.2 zb), (va_up li.2.2.2.2.2.2.2.1 li.2.2.2.2.2.2.2.2.2 z1), (li.2.2.2.2.2.2.2.2.2 + 1), (bx_uplt ok_li_one (by omega)), (bx_uplt ok_li_other (by omega)), (by omega), rfl, true, rfl⟩ dX0_addNear_52 hlocks
  · refine lv_iconst (v := bm_b false) hx hb dX0_addNear_9 (by decide) ?_
    exact bm_zretX (v := false) hx hb hr hP hD hK hS ⟨li.2.2.2.2.2.1, li.2.2.2.2.2.2.1, li.2.2.2.2.2.2.2.1, li.2.2.2.2.2.2.2.2.2, ok_li_one, ok_li_other, ok_li_nears, rfl, false, rfl⟩ dX0_addNear_10 hlocks

set_option maxHeartbeats 8000000 in
set_option maxRecDepth 100000 in
theorem x_addPin {l : Launch} {D : va_G} {ad : Nat → Nat} {cJ cI cZ : ClassId} {bm : gBM} {pa : gPA} {p0 p1 p2 : gPL} {li : gLI} {wi : gWI} {mt : Nat} {ms : gMS} {ma : gMA} {mp : gMP} {mk : gMK} {mn : gMN} {ou : Nat → Int64} {za : Nat} {zb : Nat} {z1 : Int64} {z2 : Int64} (ok_wi_pins : wi.2.2.2.2.2.2.2.2.2.2 ≤ 120) (ok_wi_netOf : ∀ i, wi.1 i < 40) (ok_wi_partOf : ∀ i, wi.2.1 i < 40) (hp0 : za < 40) (hp1 : zb < 40)  : bm_Wx l yX3_addPin wsX3_addPin ({ frames := 0, cells := 0, slots := 0, locals := 0 }) D vwCl [(cJ, .long), (cI, .int), (cZ, .boolean)] (WW ad cJ cI cZ bm pa p0 p1 p2 li wi mt ms ma mp mk mn ou) [.ref (ad 32), .int (nI za), .int (nI zb), .long z1, .long z2] (fun ws9 r9 => ∃ (e0 : Nat → Nat) (e1 : Nat → Nat) (e2 : Nat → Int64) (e3 : Nat → Int64) (e4 : Nat) , (∀ i, e0 i < 40) ∧ (∀ i, e1 i < 40) ∧ (e4 ≤ 120) ∧ ws9 = (WW ad cJ cI cZ bm pa p0 p1 p2 li (e0, e1, e2, e3, wi.2.2.2.2.1, wi.2.2.2.2.2.1, wi.2.2.2.2.2.2.1, wi.2.2.2.2.2.2.2.1, wi.2.2.2.2.2.2.2.2.1, wi.2.2.2.2.2.2.2.2.2.1, e4) mt ms ma mp mk mn ou) ∧ ∃ b9 : Bool, r9 = some (.int (bm_b b9))) := by
  intro sz
  refine Met.ofW (cc := cX3_addPin) (maxL := 7) (ret := (some .boolean)) (by decide) rfl ?_
  intro p e s m args below meth c s₁ B hml hv
  obtain ⟨ha, hsz, hP, hK, hD0⟩ := hv
  have hx := B.exec
  have hb := B.bytes
  have hr := B.returns
  have hts := atoms_spec (ws := wsX3_addPin) B.pre
  have hown : s.vm.findClass RX3 = some m.cls := findClass_of_methodNamed B.named
  have hlocks := B.notSynchronized
  subst hsz
  have hD := hD0.self (sz := s.heap.size)
  generalize hAe : va_A (WW ad cJ cI cZ bm pa p0 p1 p2 li wi mt ms ma mp mk mn ou) s.heap.size = A at hD ⊢
  have hA : ∀ q : Nat, s.heap.size ≤ q → A q := fun q h => by rw [← hAe]; exact Or.inr h
  have hS : va_S A s.heap s.heap [] := va_S.rf
  have hl := lv_entry ([.ref (ad 32), .int (nI za), .int (nI zb), .long z1, .long z2]) (n := 7) (Nat.le_of_ble_eq_true rfl)
  refine W.eq (g2 := entryFrame m ([.ref (ad 32), .int (nI za), .int (nI zb), .long z1, .long z2] : List Value).toArray 7) (by rw [ha]) ?_
  rw [lg_entry_eq]
  generalize (lg_sl ([.ref (ad 32), .int (nI za), .int (nI zb), .long z1, .long z2]) ++ List.replicate (7 - (lg_sl ([.ref (ad 32), .int (nI za), .int (nI zb), .long z1, .long z2])).length) Slot.unset).toArray = ls at hl ⊢
  have hl : lv_has ls 7 [(0, .ref (ad 32)), (1, .int (nI za)), (2, .int (nI zb)), (3, .long z1), (5, .long z2)] := hl
  refine lv_aload_n hx hb dX3_addPin_0 rfl (lv_at hl 0 rfl) ?_
  refine va_get (D := D) (ci := 3) (v := .int (nI wi.2.2.2.2.2.2.2.2.2.2)) (C := RX3) (T := TX3) (N := 12) hx hb hts (inT inX3) hown hK hP 32 ww_32 rfl 11 (by decide) (hts (.fieldLink RX3 45 "BoardMoves$Wiring" "pins" "I") (List.mem_cons_of_mem _ flX3_45)) (fun _ h9 => h9) rfl dX3_addPin_1 ?_
  refine lv_bipush (v := nI 120) hx hb dX3_addPin_4 (by decide) ?_
  refine bm_ni_lt (x := wi.2.2.2.2.2.2.2.2.2.2) (y := 120) (tgt := 11) hx hb (by omega) (by omega) dX3_addPin_6 (by decide) (fun c_1 => ?_) (fun c_1 => ?_)
  · refine lv_aload_n hx hb dX3_addPin_11 rfl (lv_at hl 0 rfl) ?_
    refine va_get (D := D) (ci := 3) (v := .ref (ad 33)) (C := RX3) (T := TX3) (N := 12) hx hb hts (inT inX3) hown hK hP 32 ww_32 rfl 1 (by decide) (hts (.fieldLink RX3 9 "BoardMoves$Wiring" "netOf" "[I") (List.mem_cons_of_mem _ flX3_9)) (fun _ h9 => h9) rfl dX3_addPin_12 ?_
    refine lv_aload_n hx hb dX3_addPin_15 rfl (lv_at hl 0 rfl) ?_
    refine va_get (D := D) (ci := 3) (v := .int (nI wi.2.2.2.2.2.2.2.2.2.2)) (C := RX3) (T := TX3) (N := 12) hx hb hts (inT inX3) hown hK hP 32 ww_32 rfl 11 (by decide) (hts (.fieldLink RX3 45 "BoardMoves$Wiring" "pins" "I") (List.mem_cons_of_mem _ flX3_45)) (fun _ h9 => h9) rfl dX3_addPin_16 ?_
    refine lv_iload_n hx hb dX3_addPin_19 rfl (lv_at hl 1 rfl) ?_
    refine bm_nast (f := wi.1) hx hb hK hP hD hS 33 1 ww_33 rfl (j := wi.2.2.2.2.2.2.2.2.2.2) (x := za) (by omega) (by decide) dX3_addPin_20 (fun H locs hP hD hS => ?_)
    have hP : va_P D vwCl (WW ad cJ cI cZ bm pa p0 p1 p2 li (va_up wi.1 wi.2.2.2.2.2.2.2.2.2.2 za, wi.2.1, wi.2.2.1, wi.2.2.2.1, wi.2.2.2.2.1, wi.2.2.2.2.2.1, wi.2.2.2.2.2.2.1, wi.2.2.2.2.2.2.2.1, wi.2.2.2.2.2.2.2.2.1, wi.2.2.2.2.2.2.2.2.2.1, wi.2.2.2.2.2.2.2.2.2.2) mt ms ma mp mk mn ou) H := hP
    have hD : va_D A (WW ad cJ cI cZ bm pa p0 p1 p2 li (va_up wi.1 wi.2.2.2.2.2.2.2.2.2.2 za, wi.2.1, wi.2.2.1, wi.2.2.2.1, wi.2.2.2.2.1, wi.2.2.2.2.2.1, wi.2.2.2.2.2.2.1, wi.2.2.2.2.2.2.2.1, wi.2.2.2.2.2.2.2.2.1, wi.2.2.2.2.2.2.2.2.2.1, wi.2.2.2.2.2.2.2.2.2.2) mt ms ma mp mk mn ou) := hD
    refine lv_aload_n hx hb dX3_addPin_21 rfl (lv_at hl 0 rfl) ?_
    refine va_get (D := D) (ci := 3) (v := .ref (ad 34)) (C := RX3) (T := TX3) (N := 12) hx hb hts (inT inX3) hown hK hP 32 ww_32 rfl 2 (by decide) (hts (.fieldLink RX3 15 "BoardMoves$Wiring" "partOf" "[I") (List.mem_cons_of_mem _ flX3_15)) (fun _ h9 => h9) rfl dX3_addPin_22 ?_
    refine lv_aload_n hx hb dX3_addPin_25 rfl (lv_at hl 0 rfl) ?_
    refine va_get (D := D) (ci := 3) (v := .int (nI wi.2.2.2.2.2.2.2.2.2.2)) (C := RX3) (T := TX3) (N := 12) hx hb hts (inT inX3) hown hK hP 32 ww_32 rfl 11 (by decide) (hts (.fieldLink RX3 45 "BoardMoves$Wiring" "pins" "I") (List.mem_cons_of_mem _ flX3_45)) (fun _ h9 => h9) rfl dX3_addPin_26 ?_
    refine lv_iload_n hx hb dX3_addPin_29 rfl (lv_at hl 2 rfl) ?_
    refine bm_nast (f := wi.2.1) hx hb hK hP hD hS 34 1 ww_34 rfl (j := wi.2.2.2.2.2.2.2.2.2.2) (x := zb) (by omega) (by decide) dX3_addPin_30 (fun H locs hP hD hS => ?_)
    have hP : va_P D vwCl (WW ad cJ cI cZ bm pa p0 p1 p2 li (va_up wi.1 wi.2.2.2.2.2.2.2.2.2.2 za, va_up wi.2.1 wi.2.2.2.2.2.2.2.2.2.2 zb, wi.2.2.1, wi.2.2.2.1, wi.2.2.2.2.1, wi.2.2.2.2.2.1, wi.2.2.2.2.2.2.1, wi.2.2.2.2.2.2.2.1, wi.2.2.2.2.2.2.2.2.1, wi.2.2.2.2.2.2.2.2.2.1, wi.2.2.2.2.2.2.2.2.2.2) mt ms ma mp mk mn ou) H := hP
    have hD : va_D A (WW ad cJ cI cZ bm pa p0 p1 p2 li (va_up wi.1 wi.2.2.2.2.2.2.2.2.2.2 za, va_up wi.2.1 wi.2.2.2.2.2.2.2.2.2.2 zb, wi.2.2.1, wi.2.2.2.1, wi.2.2.2.2.1, wi.2.2.2.2.2.1, wi.2.2.2.2.2.2.1, wi.2.2.2.2.2.2.2.1, wi.2.2.2.2.2.2.2.2.1, wi.2.2.2.2.2.2.2.2.2.1, wi.2.2.2.2.2.2.2.2.2.2) mt ms ma mp mk mn ou) := hD
    refine lv_aload_n hx hb dX3_addPin_31 rfl (lv_at hl 0 rfl) ?_
    refine va_get (D := D) (ci := 3) (v := .ref (ad 35)) (C := RX3) (T := TX3) (N := 12) hx hb hts (inT inX3) hown hK hP 32 ww_32 rfl 3 (by decide) (hts (.fieldLink RX3 18 "BoardMoves$Wiring" "dx" "[J") (List.mem_cons_of_mem _ flX3_18)) (fun _ h9 => h9) rfl dX3_addPin_32 ?_
    refine lv_aload_n hx hb dX3_addPin_35 rfl (lv_at hl 0 rfl) ?_
    refine va_get (D := D) (ci := 3) (v := .int (nI wi.2.2.2.2.2.2.2.2.2.2)) (C := RX3) (T := TX3) (N := 12) hx hb hts (inT inX3) hown hK hP 32 ww_32 rfl 11 (by decide) (hts (.fieldLink RX3 45 "BoardMoves$Wiring" "pins" "I") (List.mem_cons_of_mem _ flX3_45)) (fun _ h9 => h9) rfl dX3_addPin_36 ?_
    refine lv_lload_n hx hb dX3_addPin_39 rfl (lv_at hl 3 rfl) ?_
    refine bm_last (f := wi.2.2.1) hx hb hK hP hD hS 35 0 ww_35 rfl (j := wi.2.2.2.2.2.2.2.2.2.2) (x := z1) (by omega) (by decide) dX3_addPin_40 (fun H locs hP hD hS => ?_)
    have hP : va_P D vwCl (WW ad cJ cI cZ bm pa p0 p1 p2 li (va_up wi.1 wi.2.2.2.2.2.2.2.2.2.2 za, va_up wi.2.1 wi.2.2.2.2.2.2.2.2.2.2 zb, va_up wi.2.2.1 wi.2.2.2.2.2.2.2.2.2.2 z1, wi.2.2.2.1, wi.2.2.2.2.1, wi.2.2.2.2.2.1, wi.2.2.2.2.2.2.1, wi.2.2.2.2.2.2.2.1, wi.2.2.2.2.2.2.2.2.1, wi.2.2.2.2.2.2.2.2.2.1, wi.2.2.2.2.2.2.2.2.2.2) mt ms ma mp mk mn ou) H := hP
    have hD : va_D A (WW ad cJ cI cZ bm pa p0 p1 p2 li (va_up wi.1 wi.2.2.2.2.2.2.2.2.2.2 za, va_up wi.2.1 wi.2.2.2.2.2.2.2.2.2.2 zb, va_up wi.2.2.1 wi.2.2.2.2.2.2.2.2.2.2 z1, wi.2.2.2.1, wi.2.2.2.2.1, wi.2.2.2.2.2.1, wi.2.2.2.2.2.2.1, wi.2.2.2.2.2.2.2.1, wi.2.2.2.2.2.2.2.2.1, wi.2.2.2.2.2.2.2.2.2.1, wi.2.2.2.2.2.2.2.2.2.2) mt ms ma mp mk mn ou) := hD
    refine lv_aload_n hx hb dX3_addPin_41 rfl (lv_at hl 0 rfl) ?_
    refine va_get (D := D) (ci := 3) (v := .ref (ad 36)) (C := RX3) (T := TX3) (N := 12) hx hb hts (inT inX3) hown hK hP 32 ww_32 rfl 4 (by decide) (hts (.fieldLink RX3 22 "BoardMoves$Wiring" "dy" "[J") (List.mem_cons_of_mem _ flX3_22)) (fun _ h9 => h9) rfl dX3_addPin_42 ?_
    refine lv_aload_n hx hb dX3_addPin_45 rfl (lv_at hl 0 rfl) ?_
    refine va_get (D := D) (ci := 3) (v := .int (nI wi.2.2.2.2.2.2.2.2.2.2)) (C := RX3) (T := TX3) (N := 12) hx hb hts (inT inX3) hown hK hP 32 ww_32 rfl 11 (by decide) (hts (.fieldLink RX3 45 "BoardMoves$Wiring" "pins" "I") (List.mem_cons_of_mem _ flX3_45)) (fun _ h9 => h9) rfl dX3_addPin_46 ?_
    refine lv_lload hx hb dX3_addPin_49 (lv_at hl 4 rfl) ?_
    refine bm_last (f := wi.2.2.2.1) hx hb hK hP hD hS 36 0 ww_36 rfl (j := wi.2.2.2.2.2.2.2.2.2.2) (x := z2) (by omega) (by decide) dX3_addPin_51 (fun H locs hP hD hS => ?_)
    have hP : va_P D vwCl (WW ad cJ cI cZ bm pa p0 p1 p2 li (va_up wi.1 wi.2.2.2.2.2.2.2.2.2.2 za, va_up wi.2.1 wi.2.2.2.2.2.2.2.2.2.2 zb, va_up wi.2.2.1 wi.2.2.2.2.2.2.2.2.2.2 z1, va_up wi.2.2.2.1 wi.2.2.2.2.2.2.2.2.2.2 z2, wi.2.2.2.2.1, wi.2.2.2.2.2.1, wi.2.2.2.2.2.2.1, wi.2.2.2.2.2.2.2.1, wi.2.2.2.2.2.2.2.2.1, wi.2.2.2.2.2.2.2.2.2.1, wi.2.2.2.2.2.2.2.2.2.2) mt ms ma mp mk mn ou) H := hP
    have hD : va_D A (WW ad cJ cI cZ bm pa p0 p1 p2 li (va_up wi.1 wi.2.2.2.2.2.2.2.2.2.2 za, va_up wi.2.1 wi.2.2.2.2.2.2.2.2.2.2 zb, va_up wi.2.2.1 wi.2.2.2.2.2.2.2.2.2.2 z1, va_up wi.2.2.2.1 wi.2.2.2.2.2.2.2.2.2.2 z2, wi.2.2.2.2.1, wi.2.2.2.2.2.1, wi.2.2.2.2.2.2.1, wi.2.2.2.2.2.2.2.1, wi.2.2.2.2.2.2.2.2.1, wi.2.2.2.2.2.2.2.2.2.1, wi.2.2.2.2.2.2.2.2.2.2) mt ms ma mp mk mn ou) := hD
    refine lv_aload_n hx hb dX3_addPin_52 rfl (lv_at hl 0 rfl) ?_
    refine lv_dup hx hb dX3_addPin_53 rfl ?_
    refine va_get (D := D) (ci := 3) (v := .int (nI wi.2.2.2.2.2.2.2.2.2.2)) (C := RX3) (T := TX3) (N := 12) hx hb hts (inT inX3) hown hK hP 32 ww_32 rfl 11 (by decide) (hts (.fieldLink RX3 45 "BoardMoves$Wiring" "pins" "I") (List.mem_cons_of_mem _ flX3_45)) (fun _ h9 => h9) rfl dX3_addPin_54 ?_
    refine lv_iconst (v := nI 1) hx hb dX3_addPin_57 (by decide) ?_
    refine bm_nadd hx hb dX3_addPin_58 ?_
    refine va_put (D := D) (ci := 3) (v := .int (nI (wi.2.2.2.2.2.2.2.2.2.2 + 1))) (ty := .int) (C := RX3) (T := TX3) (N := 12) hx hb hts (inT inX3) tyX3 tyX3_ok nmX3 hown hK hP hD hS 32 ww_32 rfl 11 (by decide) (hts (.fieldLink RX3 45 "BoardMoves$Wiring" "pins" "I") (List.mem_cons_of_mem _ flX3_45)) (fun _ h9 => h9) rfl (by decide +kernel) rfl rfl (Nat.le_of_ble_eq_true rfl) dX3_addPin_59 (fun H locs hP hD hS => ?_)
    have hP : va_P D vwCl (WW ad cJ cI cZ bm pa p0 p1 p2 li (va_up wi.1 wi.2.2.2.2.2.2.2.2.2.2 za, va_up wi.2.1 wi.2.2.2.2.2.2.2.2.2.2 zb, va_up wi.2.2.1 wi.2.2.2.2.2.2.2.2.2.2 z1, va_up wi.2.2.2.1 wi.2.2.2.2.2.2.2.2.2.2 z2, wi.2.2.2.2.1, wi.2.2.2.2.2.1, wi.2.2.2.2.2.2.1, wi.2.2.2.2.2.2.2.1, wi.2.2.2.2.2.2.2.2.1, wi.2.2.2.2.2.2.2.2.2.1, wi.2.2.2.2.2.2.2.2.2.2 + 1) mt ms ma mp mk mn ou) H := hP
    have hD : va_D A (WW ad cJ cI cZ bm pa p0 p1 p2 li (va_up wi.1 wi.2.2.2.2.2.2.2.2.2.2 za, va_up wi.2.1 wi.2.2.2.2.2.2.2.2.2.2 zb, va_up wi.2.2.1 wi.2.2.2.2.2.2.2.2.2.2 z1, va_up wi.2.2.2.1 wi.2.2.2.2.2.2.2.2.2.2 z2, wi.2.2.2.2.1, wi.2.2.2.2.2.1, wi.2.2.2.2.2.2.1, wi.2.2.2.2.2.2.2.1, wi.2.2.2.2.2.2.2.2.1, wi.2.2.2.2.2.2.2.2.2.1, wi.2.2.2.2.2.2.2.2.2.2 + 1) mt ms ma mp mk mn ou) := hD
    refine lv_iconst (v := bm_b true) hx hb dX3_addPin_62 (by decide) ?_
    exact bm_zretX (v := true) hx hb hr hP hD hK hS ⟨(va_up wi.1 wi.2.2.2.2.2.2.2.2.2.2 za), (va_up wi.2.1 wi.2.2.2.2.2.2.2.2.2.2 zb), (va_up wi.2.2.1 wi.2.2.2.2.2.2.2.2.2.2 z1), (va_up wi.2.2.2.1 wi.2.2.2.2.2.2.2.2.2.2 z2), (wi.2.2.2.2.2.2.2.2.2.2 + 1), (bx_uplt ok_wi_netOf (by omega)), (bx_uplt ok_wi_partOf (by omega)), (by omega), rfl, true, rfl⟩ dX3_addPin_63 hlocks
  · refine lv_iconst (v := bm_b false) hx hb dX3_addPin_9 (by decide) ?_
    exact bm_zretX (v := false) hx hb hr hP hD hK hS ⟨wi.1, wi.2.1, wi.2.2.1, wi.2.2.2.1, wi.2.2.2.2.2.2.2.2.2.2, ok_wi_netOf, ok_wi_partOf, ok_wi_pins, rfl, false, rfl⟩ dX3_addPin_10 hlocks

set_option maxHeartbeats 8000000 in
set_option maxRecDepth 100000 in
theorem x_turnedX {l : Launch} {D : va_G} {ad : Nat → Nat} {cJ cI cZ : ClassId} {bm : gBM} {pa : gPA} {p0 p1 p2 : gPL} {li : gLI} {wi : gWI} {mt : Nat} {ms : gMS} {ma : gMA} {mp : gMP} {mk : gMK} {mn : gMN} {ou : Nat → Int64} {zk : Nat} {zj : Nat} {zt : Nat}  (hp0 : zk < 120) (hp1 : zj < 40) (hp2 : zt < 40)  : bm_Wx l yX3_turnedX wsX3_turnedX ({ frames := 0, cells := 0, slots := 0, locals := 0 }) D vwCl [(cJ, .long), (cI, .int), (cZ, .boolean)] (WW ad cJ cI cZ bm pa p0 p1 p2 li wi mt ms ma mp mk mn ou) [.ref (ad 32), .int (nI zk), .int (nI zj), .int (nI zt)] (fun ws9 r9 => ws9 = (WW ad cJ cI cZ bm pa p0 p1 p2 li wi mt ms ma mp mk mn ou) ∧ ∃ v9 : Int64, r9 = some (.long v9)) := by
  intro sz
  refine Met.ofW (cc := cX3_turnedX) (maxL := 4) (ret := (some .long)) (by decide) rfl ?_
  intro p e s m args below meth c s₁ B hml hv
  obtain ⟨ha, hsz, hP, hK, hD0⟩ := hv
  have hx := B.exec
  have hb := B.bytes
  have hr := B.returns
  have hts := atoms_spec (ws := wsX3_turnedX) B.pre
  have hown : s.vm.findClass RX3 = some m.cls := findClass_of_methodNamed B.named
  have hlocks := B.notSynchronized
  subst hsz
  have hD := hD0.self (sz := s.heap.size)
  generalize hAe : va_A (WW ad cJ cI cZ bm pa p0 p1 p2 li wi mt ms ma mp mk mn ou) s.heap.size = A at hD ⊢
  have hA : ∀ q : Nat, s.heap.size ≤ q → A q := fun q h => by rw [← hAe]; exact Or.inr h
  have hS : va_S A s.heap s.heap [] := va_S.rf
  have hl := lv_entry ([.ref (ad 32), .int (nI zk), .int (nI zj), .int (nI zt)]) (n := 4) (Nat.le_of_ble_eq_true rfl)
  refine W.eq (g2 := entryFrame m ([.ref (ad 32), .int (nI zk), .int (nI zj), .int (nI zt)] : List Value).toArray 4) (by rw [ha]) ?_
  rw [lg_entry_eq]
  generalize (lg_sl ([.ref (ad 32), .int (nI zk), .int (nI zj), .int (nI zt)]) ++ List.replicate (4 - (lg_sl ([.ref (ad 32), .int (nI zk), .int (nI zj), .int (nI zt)])).length) Slot.unset).toArray = ls at hl ⊢
  have hl : lv_has ls 4 [(0, .ref (ad 32)), (1, .int (nI zk)), (2, .int (nI zj)), (3, .int (nI zt))] := hl
  refine lv_iload_n hx hb dX3_turnedX_0 rfl (lv_at hl 3 rfl) ?_
  by_cases ht_1 : zt = 1
  · rw [ht_1]
    refine lv_tableIn (off := 27) (tgt := 28) hx hb dX3_turnedX_1 (by decide) (by decide) (by decide) (by decide) ?_
    refine lv_aload_n hx hb dX3_turnedX_28 rfl (lv_at hl 0 rfl) ?_
    refine va_get (D := D) (ci := 3) (v := .ref (ad 1)) (C := RX3) (T := TX3) (N := 12) hx hb hts (inT inX3) hown hK hP 32 ww_32 rfl 0 (by decide) (hts (.fieldLink RX3 48 "BoardMoves$Wiring" "parts" "LBoardMoves$Parts;") (List.mem_cons_of_mem _ flX3_48)) (fun _ h9 => h9) rfl dX3_turnedX_29 ?_
    refine va_get (D := D) (ci := 1) (v := .ref (ad 3)) (C := RX1) (T := TX1) (N := 7) hx hb hts (inT inX1) hown hK hP 1 ww_1 rfl 1 (by decide) (hts (.fieldLink RX3 86 "BoardMoves$Parts" "h" "[J") (List.mem_cons_of_mem _ flX3_86)) (fun _ h9 => h9) rfl dX3_turnedX_32 ?_
    refine lv_iload_n hx hb dX3_turnedX_35 rfl (lv_at hl 2 rfl) ?_
    refine bm_lald (f := pa.2.1) hx hb hK hP 3 0 ww_3 rfl (j := zj) (by omega) (by decide) dX3_turnedX_36 ?_
    refine lv_topl (fun t_4 _ => ?_)
    refine lv_aload_n hx hb dX3_turnedX_37 rfl (lv_at hl 0 rfl) ?_
    refine va_get (D := D) (ci := 3) (v := .ref (ad 36)) (C := RX3) (T := TX3) (N := 12) hx hb hts (inT inX3) hown hK hP 32 ww_32 rfl 4 (by decide) (hts (.fieldLink RX3 22 "BoardMoves$Wiring" "dy" "[J") (List.mem_cons_of_mem _ flX3_22)) (fun _ h9 => h9) rfl dX3_turnedX_38 ?_
    refine lv_iload_n hx hb dX3_turnedX_41 rfl (lv_at hl 1 rfl) ?_
    refine bm_lald (f := wi.2.2.2.1) hx hb hK hP 36 0 ww_36 rfl (j := zk) (by omega) (by decide) dX3_turnedX_42 ?_
    refine lv_topl (fun t_5 _ => ?_)
    refine lv_lsub hx hb dX3_turnedX_43 ?_
    refine lv_topl (fun t_6 _ => ?_)
    exact bm_lretX (v := t_6) hx hb hr hP hD hK hS ⟨rfl, t_6, rfl⟩ dX3_turnedX_44 hlocks
  · by_cases ht_2 : zt = 2
    · rw [ht_2]
      refine lv_tableIn (off := 44) (tgt := 45) hx hb dX3_turnedX_1 (by decide) (by decide) (by decide) (by decide) ?_
      refine lv_aload_n hx hb dX3_turnedX_45 rfl (lv_at hl 0 rfl) ?_
      refine va_get (D := D) (ci := 3) (v := .ref (ad 1)) (C := RX3) (T := TX3) (N := 12) hx hb hts (inT inX3) hown hK hP 32 ww_32 rfl 0 (by decide) (hts (.fieldLink RX3 48 "BoardMoves$Wiring" "parts" "LBoardMoves$Parts;") (List.mem_cons_of_mem _ flX3_48)) (fun _ h9 => h9) rfl dX3_turnedX_46 ?_
      refine va_get (D := D) (ci := 1) (v := .ref (ad 2)) (C := RX1) (T := TX1) (N := 7) hx hb hts (inT inX1) hown hK hP 1 ww_1 rfl 0 (by decide) (hts (.fieldLink RX3 91 "BoardMoves$Parts" "w" "[J") (List.mem_cons_of_mem _ flX3_91)) (fun _ h9 => h9) rfl dX3_turnedX_49 ?_
      refine lv_iload_n hx hb dX3_turnedX_52 rfl (lv_at hl 2 rfl) ?_
      refine bm_lald (f := pa.1) hx hb hK hP 2 0 ww_2 rfl (j := zj) (by omega) (by decide) dX3_turnedX_53 ?_
      refine lv_topl (fun t_7 _ => ?_)
      refine lv_aload_n hx hb dX3_turnedX_54 rfl (lv_at hl 0 rfl) ?_
      refine va_get (D := D) (ci := 3) (v := .ref (ad 35)) (C := RX3) (T := TX3) (N := 12) hx hb hts (inT inX3) hown hK hP 32 ww_32 rfl 3 (by decide) (hts (.fieldLink RX3 18 "BoardMoves$Wiring" "dx" "[J") (List.mem_cons_of_mem _ flX3_18)) (fun _ h9 => h9) rfl dX3_turnedX_55 ?_
      refine lv_iload_n hx hb dX3_turnedX_58 rfl (lv_at hl 1 rfl) ?_
      refine bm_lald (f := wi.2.2.1) hx hb hK hP 35 0 ww_35 rfl (j := zk) (by omega) (by decide) dX3_turnedX_59 ?_
      refine lv_topl (fun t_8 _ => ?_)
      refine lv_lsub hx hb dX3_turnedX_60 ?_
      refine lv_topl (fun t_9 _ => ?_)
      exact bm_lretX (v := t_9) hx hb hr hP hD hK hS ⟨rfl, t_9, rfl⟩ dX3_turnedX_61 hlocks
    · by_cases ht_3 : zt = 3
      · rw [ht_3]
        refine lv_tableIn (off := 61) (tgt := 62) hx hb dX3_turnedX_1 (by decide) (by decide) (by decide) (by decide) ?_
        refine lv_aload_n hx hb dX3_turnedX_62 rfl (lv_at hl 0 rfl) ?_
        refine va_get (D := D) (ci := 3) (v := .ref (ad 36)) (C := RX3) (T := TX3) (N := 12) hx hb hts (inT inX3) hown hK hP 32 ww_32 rfl 4 (by decide) (hts (.fieldLink RX3 22 "BoardMoves$Wiring" "dy" "[J") (List.mem_cons_of_mem _ flX3_22)) (fun _ h9 => h9) rfl dX3_turnedX_63 ?_
        refine lv_iload_n hx hb dX3_turnedX_66 rfl (lv_at hl 1 rfl) ?_
        refine bm_lald (f := wi.2.2.2.1) hx hb hK hP 36 0 ww_36 rfl (j := zk) (by omega) (by decide) dX3_turnedX_67 ?_
        refine lv_topl (fun t_10 _ => ?_)
        exact bm_lretX (v := t_10) hx hb hr hP hD hK hS ⟨rfl, t_10, rfl⟩ dX3_turnedX_68 hlocks
      · refine lv_tableOut (tgt := 69) hx hb dX3_turnedX_1 (by rw [nI_toInt (by omega)]; omega) (by decide) ?_
        refine lv_aload_n hx hb dX3_turnedX_69 rfl (lv_at hl 0 rfl) ?_
        refine va_get (D := D) (ci := 3) (v := .ref (ad 35)) (C := RX3) (T := TX3) (N := 12) hx hb hts (inT inX3) hown hK hP 32 ww_32 rfl 3 (by decide) (hts (.fieldLink RX3 18 "BoardMoves$Wiring" "dx" "[J") (List.mem_cons_of_mem _ flX3_18)) (fun _ h9 => h9) rfl dX3_turnedX_70 ?_
        refine lv_iload_n hx hb dX3_turnedX_73 rfl (lv_at hl 1 rfl) ?_
        refine bm_lald (f := wi.2.2.1) hx hb hK hP 35 0 ww_35 rfl (j := zk) (by omega) (by decide) dX3_turnedX_74 ?_
        refine lv_topl (fun t_11 _ => ?_)
        exact bm_lretX (v := t_11) hx hb hr hP hD hK hS ⟨rfl, t_11, rfl⟩ dX3_turnedX_75 hlocks

set_option maxHeartbeats 8000000 in
set_option maxRecDepth 100000 in
theorem x_turnedY {l : Launch} {D : va_G} {ad : Nat → Nat} {cJ cI cZ : ClassId} {bm : gBM} {pa : gPA} {p0 p1 p2 : gPL} {li : gLI} {wi : gWI} {mt : Nat} {ms : gMS} {ma : gMA} {mp : gMP} {mk : gMK} {mn : gMN} {ou : Nat → Int64} {zk : Nat} {zj : Nat} {zt : Nat}  (hp0 : zk < 120) (hp1 : zj < 40) (hp2 : zt < 40)  : bm_Wx l yX3_turnedY wsX3_turnedY ({ frames := 0, cells := 0, slots := 0, locals := 0 }) D vwCl [(cJ, .long), (cI, .int), (cZ, .boolean)] (WW ad cJ cI cZ bm pa p0 p1 p2 li wi mt ms ma mp mk mn ou) [.ref (ad 32), .int (nI zk), .int (nI zj), .int (nI zt)] (fun ws9 r9 => ws9 = (WW ad cJ cI cZ bm pa p0 p1 p2 li wi mt ms ma mp mk mn ou) ∧ ∃ v9 : Int64, r9 = some (.long v9)) := by
  intro sz
  refine Met.ofW (cc := cX3_turnedY) (maxL := 4) (ret := (some .long)) (by decide) rfl ?_
  intro p e s m args below meth c s₁ B hml hv
  obtain ⟨ha, hsz, hP, hK, hD0⟩ := hv
  have hx := B.exec
  have hb := B.bytes
  have hr := B.returns
  have hts := atoms_spec (ws := wsX3_turnedY) B.pre
  have hown : s.vm.findClass RX3 = some m.cls := findClass_of_methodNamed B.named
  have hlocks := B.notSynchronized
  subst hsz
  have hD := hD0.self (sz := s.heap.size)
  generalize hAe : va_A (WW ad cJ cI cZ bm pa p0 p1 p2 li wi mt ms ma mp mk mn ou) s.heap.size = A at hD ⊢
  have hA : ∀ q : Nat, s.heap.size ≤ q → A q := fun q h => by rw [← hAe]; exact Or.inr h
  have hS : va_S A s.heap s.heap [] := va_S.rf
  have hl := lv_entry ([.ref (ad 32), .int (nI zk), .int (nI zj), .int (nI zt)]) (n := 4) (Nat.le_of_ble_eq_true rfl)
  refine W.eq (g2 := entryFrame m ([.ref (ad 32), .int (nI zk), .int (nI zj), .int (nI zt)] : List Value).toArray 4) (by rw [ha]) ?_
  rw [lg_entry_eq]
  generalize (lg_sl ([.ref (ad 32), .int (nI zk), .int (nI zj), .int (nI zt)]) ++ List.replicate (4 - (lg_sl ([.ref (ad 32), .int (nI zk), .int (nI zj), .int (nI zt)])).length) Slot.unset).toArray = ls at hl ⊢
  have hl : lv_has ls 4 [(0, .ref (ad 32)), (1, .int (nI zk)), (2, .int (nI zj)), (3, .int (nI zt))] := hl
  refine lv_iload_n hx hb dX3_turnedY_0 rfl (lv_at hl 3 rfl) ?_
  by_cases ht_1 : zt = 1
  · rw [ht_1]
    refine lv_tableIn (off := 27) (tgt := 28) hx hb dX3_turnedY_1 (by decide) (by decide) (by decide) (by decide) ?_
    refine lv_aload_n hx hb dX3_turnedY_28 rfl (lv_at hl 0 rfl) ?_
    refine va_get (D := D) (ci := 3) (v := .ref (ad 35)) (C := RX3) (T := TX3) (N := 12) hx hb hts (inT inX3) hown hK hP 32 ww_32 rfl 3 (by decide) (hts (.fieldLink RX3 18 "BoardMoves$Wiring" "dx" "[J") (List.mem_cons_of_mem _ flX3_18)) (fun _ h9 => h9) rfl dX3_turnedY_29 ?_
    refine lv_iload_n hx hb dX3_turnedY_32 rfl (lv_at hl 1 rfl) ?_
    refine bm_lald (f := wi.2.2.1) hx hb hK hP 35 0 ww_35 rfl (j := zk) (by omega) (by decide) dX3_turnedY_33 ?_
    refine lv_topl (fun t_4 _ => ?_)
    exact bm_lretX (v := t_4) hx hb hr hP hD hK hS ⟨rfl, t_4, rfl⟩ dX3_turnedY_34 hlocks
  · by_cases ht_2 : zt = 2
    · rw [ht_2]
      refine lv_tableIn (off := 34) (tgt := 35) hx hb dX3_turnedY_1 (by decide) (by decide) (by decide) (by decide) ?_
      refine lv_aload_n hx hb dX3_turnedY_35 rfl (lv_at hl 0 rfl) ?_
      refine va_get (D := D) (ci := 3) (v := .ref (ad 1)) (C := RX3) (T := TX3) (N := 12) hx hb hts (inT inX3) hown hK hP 32 ww_32 rfl 0 (by decide) (hts (.fieldLink RX3 48 "BoardMoves$Wiring" "parts" "LBoardMoves$Parts;") (List.mem_cons_of_mem _ flX3_48)) (fun _ h9 => h9) rfl dX3_turnedY_36 ?_
      refine va_get (D := D) (ci := 1) (v := .ref (ad 3)) (C := RX1) (T := TX1) (N := 7) hx hb hts (inT inX1) hown hK hP 1 ww_1 rfl 1 (by decide) (hts (.fieldLink RX3 86 "BoardMoves$Parts" "h" "[J") (List.mem_cons_of_mem _ flX3_86)) (fun _ h9 => h9) rfl dX3_turnedY_39 ?_
      refine lv_iload_n hx hb dX3_turnedY_42 rfl (lv_at hl 2 rfl) ?_
      refine bm_lald (f := pa.2.1) hx hb hK hP 3 0 ww_3 rfl (j := zj) (by omega) (by decide) dX3_turnedY_43 ?_
      refine lv_topl (fun t_5 _ => ?_)
      refine lv_aload_n hx hb dX3_turnedY_44 rfl (lv_at hl 0 rfl) ?_
      refine va_get (D := D) (ci := 3) (v := .ref (ad 36)) (C := RX3) (T := TX3) (N := 12) hx hb hts (inT inX3) hown hK hP 32 ww_32 rfl 4 (by decide) (hts (.fieldLink RX3 22 "BoardMoves$Wiring" "dy" "[J") (List.mem_cons_of_mem _ flX3_22)) (fun _ h9 => h9) rfl dX3_turnedY_45 ?_
      refine lv_iload_n hx hb dX3_turnedY_48 rfl (lv_at hl 1 rfl) ?_
      refine bm_lald (f := wi.2.2.2.1) hx hb hK hP 36 0 ww_36 rfl (j := zk) (by omega) (by decide) dX3_turnedY_49 ?_
      refine lv_topl (fun t_6 _ => ?_)
      refine lv_lsub hx hb dX3_turnedY_50 ?_
      refine lv_topl (fun t_7 _ => ?_)
      exact bm_lretX (v := t_7) hx hb hr hP hD hK hS ⟨rfl, t_7, rfl⟩ dX3_turnedY_51 hlocks
    · by_cases ht_3 : zt = 3
      · rw [ht_3]
        refine lv_tableIn (off := 51) (tgt := 52) hx hb dX3_turnedY_1 (by decide) (by decide) (by decide) (by decide) ?_
        refine lv_aload_n hx hb dX3_turnedY_52 rfl (lv_at hl 0 rfl) ?_
        refine va_get (D := D) (ci := 3) (v := .ref (ad 1)) (C := RX3) (T := TX3) (N := 12) hx hb hts (inT inX3) hown hK hP 32 ww_32 rfl 0 (by decide) (hts (.fieldLink RX3 48 "BoardMoves$Wiring" "parts" "LBoardMoves$Parts;") (List.mem_cons_of_mem _ flX3_48)) (fun _ h9 => h9) rfl dX3_turnedY_53 ?_
        refine va_get (D := D) (ci := 1) (v := .ref (ad 2)) (C := RX1) (T := TX1) (N := 7) hx hb hts (inT inX1) hown hK hP 1 ww_1 rfl 0 (by decide) (hts (.fieldLink RX3 91 "BoardMoves$Parts" "w" "[J") (List.mem_cons_of_mem _ flX3_91)) (fun _ h9 => h9) rfl dX3_turnedY_56 ?_
        refine lv_iload_n hx hb dX3_turnedY_59 rfl (lv_at hl 2 rfl) ?_
        refine bm_lald (f := pa.1) hx hb hK hP 2 0 ww_2 rfl (j := zj) (by omega) (by decide) dX3_turnedY_60 ?_
        refine lv_topl (fun t_8 _ => ?_)
        refine lv_aload_n hx hb dX3_turnedY_61 rfl (lv_at hl 0 rfl) ?_
        refine va_get (D := D) (ci := 3) (v := .ref (ad 35)) (C := RX3) (T := TX3) (N := 12) hx hb hts (inT inX3) hown hK hP 32 ww_32 rfl 3 (by decide) (hts (.fieldLink RX3 18 "BoardMoves$Wiring" "dx" "[J") (List.mem_cons_of_mem _ flX3_18)) (fun _ h9 => h9) rfl dX3_turnedY_62 ?_
        refine lv_iload_n hx hb dX3_turnedY_65 rfl (lv_at hl 1 rfl) ?_
        refine bm_lald (f := wi.2.2.1) hx hb hK hP 35 0 ww_35 rfl (j := zk) (by omega) (by decide) dX3_turnedY_66 ?_
        refine lv_topl (fun t_9 _ => ?_)
        refine lv_lsub hx hb dX3_turnedY_67 ?_
        refine lv_topl (fun t_10 _ => ?_)
        exact bm_lretX (v := t_10) hx hb hr hP hD hK hS ⟨rfl, t_10, rfl⟩ dX3_turnedY_68 hlocks
      · refine lv_tableOut (tgt := 69) hx hb dX3_turnedY_1 (by rw [nI_toInt (by omega)]; omega) (by decide) ?_
        refine lv_aload_n hx hb dX3_turnedY_69 rfl (lv_at hl 0 rfl) ?_
        refine va_get (D := D) (ci := 3) (v := .ref (ad 36)) (C := RX3) (T := TX3) (N := 12) hx hb hts (inT inX3) hown hK hP 32 ww_32 rfl 4 (by decide) (hts (.fieldLink RX3 22 "BoardMoves$Wiring" "dy" "[J") (List.mem_cons_of_mem _ flX3_22)) (fun _ h9 => h9) rfl dX3_turnedY_70 ?_
        refine lv_iload_n hx hb dX3_turnedY_73 rfl (lv_at hl 1 rfl) ?_
        refine bm_lald (f := wi.2.2.2.1) hx hb hK hP 36 0 ww_36 rfl (j := zk) (by omega) (by decide) dX3_turnedY_74 ?_
        refine lv_topl (fun t_11 _ => ?_)
        exact bm_lretX (v := t_11) hx hb hr hP hD hK hS ⟨rfl, t_11, rfl⟩ dX3_turnedY_75 hlocks
