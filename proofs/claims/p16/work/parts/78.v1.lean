set_option maxHeartbeats 16000000 in
set_option maxRecDepth 100000 in
theorem V_5 {p : Program} {l : Launch} {e : Env} {s : State} {m : MethodId} {below : List Frame} {meth : Method} {c : Code} {b L : Nat} {xs : Nat → Int32} (hlt : l.stackTraces = false) (hL : L ≤ 5635) (C0 : lw_At p s m meth c b L xs) (hX : bx_X xW s) (hZ : bx_S RX4 xS s) (hN1 : bx_N "java/lang/IllegalArgumentException" "java/lang/IndexOutOfBoundsException" s) (hN2 : bx_N "java/lang/IllegalStateException" "java/lang/IndexOutOfBoundsException" s) {A : Nat → Prop} (hA : ∀ q : Nat, s.heap.size ≤ q → A q) (hAn : ∀ q : Nat, q < s.heap.size → ¬ A q) {D : va_G} {ad : Nat → Nat} {cJ cI cZ : ClassId} {bm : gBM} {pa : gPA} {p0 p1 p2 : gPL} {li : gLI} {wi : gWI} {mt : Nat} {ms : gMS} {ma : gMA} {mp : gMP} {mk : gMK} {mn : gMN} {ou : Nat → Int64} {i : Nat} (hi : i + 11 ≤ L) (okc : okC bm pa p0 p1 p2 li wi) (okm : okM ms ma mp mk mn) (heq : 0 = 0)  {H : Heap} {locs : List Loc} {cells slots : Nat} (hcs : cells + 1 ≤ room_1.cells ∧ slots + 6 ≤ room_1.slots) (hK : va_K D vwCl [(cJ, .long), (cI, .int), (cZ, .boolean)] s) (hP : va_P D vwCl (WW ad cJ cI cZ bm pa p0 p1 p2 li wi mt ms ma mp mk mn ou) H) (hD : va_D A (WW ad cJ cI cZ bm pa p0 p1 p2 li wi mt ms ma mp mk mn ou)) (hS : va_S A s.heap H locs) {ls : Array Slot} (hl : lv_has ls 8 [(0, .ref b), (1, .ref (ad 0)), (2, .ref (ad 42)), (3, .ref (ad 62)), (4, .int (nI i))]) (kk : ∀ (bm : gBM) (pa : gPA) (p0 p1 p2 : gPL) (li : gLI) (wi : gWI) (mt : Nat) (ms : gMS) (ma : gMA) (mp : gMP) (mk : gMK) (mn : gMN) (ou : Nat → Int64), okC bm pa p0 p1 p2 li wi → okM ms ma mp mk mn → 0 = 0 → ∀ (H : Heap) (locs : List Loc), va_P D vwCl (WW ad cJ cI cZ bm pa p0 p1 p2 li wi mt ms ma mp mk mn ou) H → va_D A (WW ad cJ cI cZ bm pa p0 p1 p2 li wi mt ms ma mp mk mn ou) → va_S A s.heap H locs → ∀ ls : Array Slot, lv_has ls 8 [(0, .ref b), (1, .ref (ad 0)), (2, .ref (ad 42)), (3, .ref (ad 62)), (4, .int (nI i))] → W p l e room_1 s m #[Value.ref b] below meth c H locs (cells + 1) (slots + 6) (lw_Z below #[Value.ref b] s) (F0 m 1326 ls [])) : W p l e room_1 s m #[Value.ref b] below meth c H locs cells slots (lw_Z below #[Value.ref b] s) (F0 m 601 ls []) := by
  obtain ⟨hx, hb, hr, hml, hown, hts, hXs, hbl, hlocks, hgv⟩ := id C0
  have hbA := hAn b hbl
  refine lv_aload_n hx hb dL_law_601 rfl (lv_at hl 1 rfl) ?_
  refine lv_aload_n hx hb dL_law_602 rfl (lv_at hl 0 rfl) ?_
  refine lv_iload hx hb dL_law_603 (lv_at hl 4 rfl) ?_
  refine lv_iconst (v := nI 1) hx hb dL_law_605 (by decide) ?_
  refine bm_nadd hx hb dL_law_606 ?_
  refine bm_sld hx hb hXs hbl hbA hS (j := (i + 1)) (by omega) (by omega) dL_law_607 ?_
  refine lv_aload_n hx hb dL_law_608 rfl (lv_at hl 0 rfl) ?_
  refine lv_iload hx hb dL_law_609 (lv_at hl 4 rfl) ?_
  refine lv_iconst (v := nI 2) hx hb dL_law_611 (by decide) ?_
  refine bm_nadd hx hb dL_law_612 ?_
  refine bm_sld hx hb hXs hbl hbA hS (j := (i + 2)) (by omega) (by omega) dL_law_613 ?_
  refine lv_i2l (v := (xs (i + 2)).toInt64) hx hb dL_law_614 rfl ?_
  refine lv_bipush (v := nI 32) hx hb dL_law_615 (by decide) ?_
  refine lv_lshl (v := ((xs (i + 2)).toInt64) <<< ((nI 32).toInt64 &&& 63)) hx hb dL_law_617 rfl ?_
  refine lv_aload_n hx hb dL_law_618 rfl (lv_at hl 0 rfl) ?_
  refine lv_iload hx hb dL_law_619 (lv_at hl 4 rfl) ?_
  refine lv_iconst (v := nI 3) hx hb dL_law_621 (by decide) ?_
  refine bm_nadd hx hb dL_law_622 ?_
  refine bm_sld hx hb hXs hbl hbA hS (j := (i + 3)) (by omega) (by omega) dL_law_623 ?_
  refine lv_i2l (v := (xs (i + 3)).toInt64) hx hb dL_law_624 rfl ?_
  refine lv_ldc2 (v := 4294967295) hx hb hown (hts (.constantLong RL 75 4294967295) (List.mem_filter.mp clL_75).1) dL_law_625 ?_
  refine lv_land hx hb dL_law_628 ?_
  refine lv_lor hx hb dL_law_629 ?_
  refine lv_aload_n hx hb dL_law_630 rfl (lv_at hl 0 rfl) ?_
  refine lv_iload hx hb dL_law_631 (lv_at hl 4 rfl) ?_
  refine lv_iconst (v := nI 4) hx hb dL_law_633 (by decide) ?_
  refine bm_nadd hx hb dL_law_634 ?_
  refine bm_sld hx hb hXs hbl hbA hS (j := (i + 4)) (by omega) (by omega) dL_law_635 ?_
  refine lv_i2l (v := (xs (i + 4)).toInt64) hx hb dL_law_636 rfl ?_
  refine lv_bipush (v := nI 32) hx hb dL_law_637 (by decide) ?_
  refine lv_lshl (v := ((xs (i + 4)).toInt64) <<< ((nI 32).toInt64 &&& 63)) hx hb dL_law_639 rfl ?_
  refine lv_aload_n hx hb dL_law_640 rfl (lv_at hl 0 rfl) ?_
  refine lv_iload hx hb dL_law_641 (lv_at hl 4 rfl) ?_
  refine lv_iconst (v := nI 5) hx hb dL_law_643 (by decide) ?_
  refine bm_nadd hx hb dL_law_644 ?_
  refine bm_sld hx hb hXs hbl hbA hS (j := (i + 5)) (by omega) (by omega) dL_law_645 ?_
  refine lv_i2l (v := (xs (i + 5)).toInt64) hx hb dL_law_646 rfl ?_
  refine lv_ldc2 (v := 4294967295) hx hb hown (hts (.constantLong RL 75 4294967295) (List.mem_filter.mp clL_75).1) dL_law_647 ?_
  refine lv_land hx hb dL_law_650 ?_
  refine lv_lor hx hb dL_law_651 ?_
  refine lv_aload_n hx hb dL_law_652 rfl (lv_at hl 3 rfl) ?_
  refine bx_xhcallS (n := 5) (As := [.ref (ad 0), .int (xs (i + 1)), .long ((((xs (i + 2)).toInt64) <<< ((nI 32).toInt64 &&& 63)) ||| (((xs (i + 3)).toInt64) &&& 4294967295)), .long ((((xs (i + 4)).toInt64) <<< ((nI 32).toInt64 &&& 63)) ||| (((xs (i + 5)).toInt64) &&& 4294967295)), .ref (ad 62)]) (rest := []) ⟨hx, hb, hml, hown, hts⟩ (H_push hlt  okc H.size) rfl rfl (Nat.le_of_ble_eq_true rfl) (Nat.le_of_ble_eq_true rfl) (gdH (by decide +kernel)) (by decide +kernel) rfl hK hP hD hS hA hX hZ hN1 hN2 hAn rfl hl.1 rfl (Nat.le_of_ble_eq_true rfl) dL_law_653 hcs (fun ws_1 r_2 h_3 H locs hP hD hS => ?_)
  obtain ⟨bmn_4, pan_5, p0n_6, p1n_7, p2n_8, lin_9, win_10, oun_11, okn_12, hnn_13, rfl, v_14, rfl⟩ := h_3
  have hP : va_P D vwCl (WW ad cJ cI cZ bmn_4 pan_5 p0n_6 p1n_7 p2n_8 lin_9 win_10 mt ms ma mp mk mn oun_11) H := hP
  have hD : va_D A (WW ad cJ cI cZ bmn_4 pan_5 p0n_6 p1n_7 p2n_8 lin_9 win_10 mt ms ma mp mk mn oun_11) := hD
  refine lv_istore (lv' := [(5, .int v_14), (0, .ref b), (1, .ref (ad 0)), (2, .ref (ad 42)), (3, .ref (ad 62)), (4, .int (nI i))]) hx hb dL_law_656 hl (by decide) rfl (fun ls hl => ?_)
  refine lv_aload_n hx hb dL_law_658 rfl (lv_at hl 3 rfl) ?_
  refine lv_aload_n hx hb dL_law_659 rfl (lv_at hl 1 rfl) ?_
  refine lv_iload hx hb dL_law_660 (lv_at hl 5 rfl) ?_
  refine lv_iconst (v := nI 1) hx hb dL_law_662 (by decide) ?_
  refine bm_nadd hx hb dL_law_663 ?_
  refine bm_sld hx hb hXs hbl hbA hS (j := (i + 1)) (by omega) (by omega) dL_law_664 ?_
  refine lv_aload_n hx hb dL_law_665 rfl (lv_at hl 1 rfl) ?_
  refine lv_iload hx hb dL_law_666 (lv_at hl 5 rfl) ?_
  refine lv_iconst (v := nI 2) hx hb dL_law_668 (by decide) ?_
  refine bm_nadd hx hb dL_law_669 ?_
  refine bm_sld hx hb hXs hbl hbA hS (j := (i + 2)) (by omega) (by omega) dL_law_670 ?_
  refine lv_i2l (v := (xs (i + 2)).toInt64) hx hb dL_law_671 rfl ?_
  refine lv_bipush (v := nI 32) hx hb dL_law_672 (by decide) ?_
  refine lv_lshl (v := ((xs (i + 2)).toInt64) <<< ((nI 32).toInt64 &&& 63)) hx hb dL_law_674 rfl ?_
  refine lv_aload_n hx hb dL_law_675 rfl (lv_at hl 1 rfl) ?_
  refine lv_iload hx hb dL_law_676 (lv_at hl 5 rfl) ?_
  refine lv_iconst (v := nI 3) hx hb dL_law_678 (by decide) ?_
  refine bm_nadd hx hb dL_law_679 ?_
  refine bm_sld hx hb hXs hbl hbA hS (j := (i + 3)) (by omega) (by omega) dL_law_680 ?_
  refine lv_i2l (v := (xs (i + 3)).toInt64) hx hb dL_law_681 rfl ?_
  refine lv_ldc2 (v := 4294967295) hx hb hown (hts (.constantLong RL 75 4294967295) (List.mem_filter.mp clL_75).1) dL_law_682 ?_
  refine lv_land hx hb dL_law_685 ?_
  refine lv_lor hx hb dL_law_686 ?_
  refine lv_aload_n hx hb dL_law_687 rfl (lv_at hl 1 rfl) ?_
  refine lv_iload hx hb dL_law_688 (lv_at hl 5 rfl) ?_
  refine lv_iconst (v := nI 4) hx hb dL_law_690 (by decide) ?_
  refine bm_nadd hx hb dL_law_691 ?_
  refine bm_sld hx hb hXs hbl hbA hS (j := (i + 4)) (by omega) (by omega) dL_law_692 ?_
  refine lv_i2l (v := (xs (i + 4)).toInt64) hx hb dL_law_693 rfl ?_
  refine lv_bipush (v := nI 32) hx hb dL_law_694 (by decide) ?_
  refine lv_lshl (v := ((xs (i + 4)).toInt64) <<< ((nI 32).toInt64 &&& 63)) hx hb dL_law_696 rfl ?_
  refine lv_aload_n hx hb dL_law_697 rfl (lv_at hl 1 rfl) ?_
  refine lv_iload hx hb dL_law_698 (lv_at hl 5 rfl) ?_
  refine lv_iconst (v := nI 5) hx hb dL_law_700 (by decide) ?_
  refine bm_nadd hx hb dL_law_701 ?_
  refine bm_sld hx hb hXs hbl hbA hS (j := (i + 5)) (by omega) (by omega) dL_law_702 ?_
  refine lv_i2l (v := (xs (i + 5)).toInt64) hx hb dL_law_703 rfl ?_
  refine lv_ldc2 (v := 4294967295) hx hb hown (hts (.constantLong RL 75 4294967295) (List.mem_filter.mp clL_75).1) dL_law_704 ?_
  refine lv_land hx hb dL_law_707 ?_
  refine lv_lor hx hb dL_law_708 ?_
  refine bm_xcallV (As := [.int (xs (i + 1)), .long ((((xs (i + 2)).toInt64) <<< ((nI 32).toInt64 &&& 63)) ||| (((xs (i + 3)).toInt64) &&& 4294967295)), .long ((((xs (i + 4)).toInt64) <<< ((nI 32).toInt64 &&& 63)) ||| (((xs (i + 5)).toInt64) &&& 4294967295))]) (rest := []) ⟨hx, hb, hml, hown, hts⟩ (Y_push   okm ) (cwV 3 hts gvL_101 rfl rfl rfl hvX5_push ⟨Nat.le_of_ble_eq_true rfl, Nat.le_of_ble_eq_true rfl⟩) hK hP hD hS hA 42 5 rfl ww_42 rfl hl.1 rfl (Nat.le_of_ble_eq_true rfl) dL_law_709 hcs (fun ws_15 r_16 h_17 H locs hP hD hS => ?_)
  obtain ⟨mtn_18, msn_19, man_20, mpn_21, mkn_22, mnn_23, okn_24, hnn_25, rfl, v_26, rfl⟩ := h_17
  have hP : va_P D vwCl (WW ad cJ cI cZ bmn_4 pan_5 p0n_6 p1n_7 p2n_8 lin_9 win_10 mtn_18 msn_19 man_20 mpn_21 mkn_22 mnn_23 oun_11) H := hP
  have hD : va_D A (WW ad cJ cI cZ bmn_4 pan_5 p0n_6 p1n_7 p2n_8 lin_9 win_10 mtn_18 msn_19 man_20 mpn_21 mkn_22 mnn_23 oun_11) := hD
  refine lv_istore (lv' := [(6, .int v_26), (5, .int v_14), (0, .ref b), (1, .ref (ad 0)), (2, .ref (ad 42)), (3, .ref (ad 62)), (4, .int (nI i))]) hx hb dL_law_712 hl (by decide) rfl (fun ls hl => ?_)
  refine lv_goto (tgt := 1326) hx hb dL_law_714 (by decide) ?_
  exact kk bmn_4 pan_5 p0n_6 p1n_7 p2n_8 lin_9 win_10 mtn_18 msn_19 man_20 mpn_21 mkn_22 mnn_23 oun_11 okn_12 okn_24 (hnn_13.trans (heq.trans hnn_25.symm)) _ _ hP hD hS _ (lv_sub hl [2, 3, 4, 5, 6] rfl)

set_option maxHeartbeats 16000000 in
set_option maxRecDepth 100000 in
theorem V_6 {p : Program} {l : Launch} {e : Env} {s : State} {m : MethodId} {below : List Frame} {meth : Method} {c : Code} {b L : Nat} {xs : Nat → Int32} (hlt : l.stackTraces = false) (hL : L ≤ 5635) (C0 : lw_At p s m meth c b L xs) (hX : bx_X xW s) (hZ : bx_S RX4 xS s) (hN1 : bx_N "java/lang/IllegalArgumentException" "java/lang/IndexOutOfBoundsException" s) (hN2 : bx_N "java/lang/IllegalStateException" "java/lang/IndexOutOfBoundsException" s) {A : Nat → Prop} (hA : ∀ q : Nat, s.heap.size ≤ q → A q) (hAn : ∀ q : Nat, q < s.heap.size → ¬ A q) {D : va_G} {ad : Nat → Nat} {cJ cI cZ : ClassId} {bm : gBM} {pa : gPA} {p0 p1 p2 : gPL} {li : gLI} {wi : gWI} {mt : Nat} {ms : gMS} {ma : gMA} {mp : gMP} {mk : gMK} {mn : gMN} {ou : Nat → Int64} {i : Nat} (hi : i + 11 ≤ L) (okc : okC bm pa p0 p1 p2 li wi) (okm : okM ms ma mp mk mn) (heq : 0 = 0)  {H : Heap} {locs : List Loc} {cells slots : Nat} (hcs : cells + 1 ≤ room_1.cells ∧ slots + 6 ≤ room_1.slots) (hK : va_K D vwCl [(cJ, .long), (cI, .int), (cZ, .boolean)] s) (hP : va_P D vwCl (WW ad cJ cI cZ bm pa p0 p1 p2 li wi mt ms ma mp mk mn ou) H) (hD : va_D A (WW ad cJ cI cZ bm pa p0 p1 p2 li wi mt ms ma mp mk mn ou)) (hS : va_S A s.heap H locs) {ls : Array Slot} (hl : lv_has ls 8 [(0, .ref b), (1, .ref (ad 0)), (2, .ref (ad 42)), (3, .ref (ad 62)), (4, .int (nI i))]) (kk : ∀ (bm : gBM) (pa : gPA) (p0 p1 p2 : gPL) (li : gLI) (wi : gWI) (mt : Nat) (ms : gMS) (ma : gMA) (mp : gMP) (mk : gMK) (mn : gMN) (ou : Nat → Int64), okC bm pa p0 p1 p2 li wi → okM ms ma mp mk mn → 0 = 0 → ∀ (H : Heap) (locs : List Loc), va_P D vwCl (WW ad cJ cI cZ bm pa p0 p1 p2 li wi mt ms ma mp mk mn ou) H → va_D A (WW ad cJ cI cZ bm pa p0 p1 p2 li wi mt ms ma mp mk mn ou) → va_S A s.heap H locs → ∀ ls : Array Slot, lv_has ls 8 [(0, .ref b), (1, .ref (ad 0)), (2, .ref (ad 42)), (3, .ref (ad 62)), (4, .int (nI i))] → W p l e room_1 s m #[Value.ref b] below meth c H locs (cells + 1) (slots + 6) (lw_Z below #[Value.ref b] s) (F0 m 1326 ls [])) : W p l e room_1 s m #[Value.ref b] below meth c H locs cells slots (lw_Z below #[Value.ref b] s) (F0 m 717 ls []) := by
  obtain ⟨hx, hb, hr, hml, hown, hts, hXs, hbl, hlocks, hgv⟩ := id C0
  have hbA := hAn b hbl
  refine lv_aload_n hx hb dL_law_717 rfl (lv_at hl 1 rfl) ?_
  refine lv_aload_n hx hb dL_law_718 rfl (lv_at hl 0 rfl) ?_
  refine lv_iload hx hb dL_law_719 (lv_at hl 4 rfl) ?_
  refine lv_iconst (v := nI 1) hx hb dL_law_721 (by decide) ?_
  refine bm_nadd hx hb dL_law_722 ?_
  refine bm_sld hx hb hXs hbl hbA hS (j := (i + 1)) (by omega) (by omega) dL_law_723 ?_
  refine lv_aload_n hx hb dL_law_724 rfl (lv_at hl 0 rfl) ?_
  refine lv_iload hx hb dL_law_725 (lv_at hl 4 rfl) ?_
  refine lv_iconst (v := nI 2) hx hb dL_law_727 (by decide) ?_
  refine bm_nadd hx hb dL_law_728 ?_
  refine bm_sld hx hb hXs hbl hbA hS (j := (i + 2)) (by omega) (by omega) dL_law_729 ?_
  refine lv_aload_n hx hb dL_law_730 rfl (lv_at hl 3 rfl) ?_
  refine bx_xhcallS (n := 4) (As := [.ref (ad 0), .int (xs (i + 1)), .int (xs (i + 2)), .ref (ad 62)]) (rest := []) ⟨hx, hb, hml, hown, hts⟩ (H_at hlt  okc H.size) rfl rfl (Nat.le_of_ble_eq_true rfl) (Nat.le_of_ble_eq_true rfl) (gdH (by decide +kernel)) (by decide +kernel) rfl hK hP hD hS hA hX hZ hN1 hN2 hAn rfl hl.1 rfl (Nat.le_of_ble_eq_true rfl) dL_law_731 hcs (fun ws_1 r_2 h_3 H locs hP hD hS => ?_)
  obtain ⟨bmn_4, pan_5, p0n_6, p1n_7, p2n_8, lin_9, win_10, oun_11, okn_12, hnn_13, rfl, v_14, rfl⟩ := h_3
  have hP : va_P D vwCl (WW ad cJ cI cZ bmn_4 pan_5 p0n_6 p1n_7 p2n_8 lin_9 win_10 mt ms ma mp mk mn oun_11) H := hP
  have hD : va_D A (WW ad cJ cI cZ bmn_4 pan_5 p0n_6 p1n_7 p2n_8 lin_9 win_10 mt ms ma mp mk mn oun_11) := hD
  refine lv_istore (lv' := [(5, .int v_14), (0, .ref b), (1, .ref (ad 0)), (2, .ref (ad 42)), (3, .ref (ad 62)), (4, .int (nI i))]) hx hb dL_law_734 hl (by decide) rfl (fun ls hl => ?_)
  refine lv_aload_n hx hb dL_law_736 rfl (lv_at hl 3 rfl) ?_
  refine lv_aload_n hx hb dL_law_737 rfl (lv_at hl 1 rfl) ?_
  refine lv_iload hx hb dL_law_738 (lv_at hl 5 rfl) ?_
  refine lv_iconst (v := nI 1) hx hb dL_law_740 (by decide) ?_
  refine bm_nadd hx hb dL_law_741 ?_
  refine bm_sld hx hb hXs hbl hbA hS (j := (i + 1)) (by omega) (by omega) dL_law_742 ?_
  refine lv_aload_n hx hb dL_law_743 rfl (lv_at hl 1 rfl) ?_
  refine lv_iload hx hb dL_law_744 (lv_at hl 5 rfl) ?_
  refine lv_iconst (v := nI 2) hx hb dL_law_746 (by decide) ?_
  refine bm_nadd hx hb dL_law_747 ?_
  refine bm_sld hx hb hXs hbl hbA hS (j := (i + 2)) (by omega) (by omega) dL_law_748 ?_
  refine bm_xcallV (As := [.int (xs (i + 1)), .int (xs (i + 2))]) (rest := []) ⟨hx, hb, hml, hown, hts⟩ (Y_at   okm ) (cwV 2 hts gvL_105 rfl rfl rfl hvX5_at ⟨Nat.le_of_ble_eq_true rfl, Nat.le_of_ble_eq_true rfl⟩) hK hP hD hS hA 42 5 rfl ww_42 rfl hl.1 rfl (Nat.le_of_ble_eq_true rfl) dL_law_749 hcs (fun ws_15 r_16 h_17 H locs hP hD hS => ?_)
  obtain ⟨mtn_18, msn_19, man_20, mpn_21, mkn_22, mnn_23, okn_24, hnn_25, rfl, v_26, rfl⟩ := h_17
  have hP : va_P D vwCl (WW ad cJ cI cZ bmn_4 pan_5 p0n_6 p1n_7 p2n_8 lin_9 win_10 mtn_18 msn_19 man_20 mpn_21 mkn_22 mnn_23 oun_11) H := hP
  have hD : va_D A (WW ad cJ cI cZ bmn_4 pan_5 p0n_6 p1n_7 p2n_8 lin_9 win_10 mtn_18 msn_19 man_20 mpn_21 mkn_22 mnn_23 oun_11) := hD
  refine lv_lstore (lv' := [(6, .long v_26), (5, .int v_14), (0, .ref b), (1, .ref (ad 0)), (2, .ref (ad 42)), (3, .ref (ad 62)), (4, .int (nI i))]) hx hb dL_law_752 hl (by decide) rfl (fun ls hl => ?_)
  refine lv_goto (tgt := 1326) hx hb dL_law_754 (by decide) ?_
  exact kk bmn_4 pan_5 p0n_6 p1n_7 p2n_8 lin_9 win_10 mtn_18 msn_19 man_20 mpn_21 mkn_22 mnn_23 oun_11 okn_12 okn_24 (hnn_13.trans (heq.trans hnn_25.symm)) _ _ hP hD hS _ (lv_sub hl [2, 3, 4, 5, 6] rfl)

set_option maxHeartbeats 16000000 in
set_option maxRecDepth 100000 in
theorem V_7 {p : Program} {l : Launch} {e : Env} {s : State} {m : MethodId} {below : List Frame} {meth : Method} {c : Code} {b L : Nat} {xs : Nat → Int32} (hlt : l.stackTraces = false) (hL : L ≤ 5635) (C0 : lw_At p s m meth c b L xs) (hX : bx_X xW s) (hZ : bx_S RX4 xS s) (hN1 : bx_N "java/lang/IllegalArgumentException" "java/lang/IndexOutOfBoundsException" s) (hN2 : bx_N "java/lang/IllegalStateException" "java/lang/IndexOutOfBoundsException" s) {A : Nat → Prop} (hA : ∀ q : Nat, s.heap.size ≤ q → A q) (hAn : ∀ q : Nat, q < s.heap.size → ¬ A q) {D : va_G} {ad : Nat → Nat} {cJ cI cZ : ClassId} {bm : gBM} {pa : gPA} {p0 p1 p2 : gPL} {li : gLI} {wi : gWI} {mt : Nat} {ms : gMS} {ma : gMA} {mp : gMP} {mk : gMK} {mn : gMN} {ou : Nat → Int64} {i : Nat} (hi : i + 11 ≤ L) (okc : okC bm pa p0 p1 p2 li wi) (okm : okM ms ma mp mk mn) (heq : 0 = 0)  {H : Heap} {locs : List Loc} {cells slots : Nat} (hcs : cells + 1 ≤ room_1.cells ∧ slots + 6 ≤ room_1.slots) (hK : va_K D vwCl [(cJ, .long), (cI, .int), (cZ, .boolean)] s) (hP : va_P D vwCl (WW ad cJ cI cZ bm pa p0 p1 p2 li wi mt ms ma mp mk mn ou) H) (hD : va_D A (WW ad cJ cI cZ bm pa p0 p1 p2 li wi mt ms ma mp mk mn ou)) (hS : va_S A s.heap H locs) {ls : Array Slot} (hl : lv_has ls 8 [(0, .ref b), (1, .ref (ad 0)), (2, .ref (ad 42)), (3, .ref (ad 62)), (4, .int (nI i))]) (kk : ∀ (bm : gBM) (pa : gPA) (p0 p1 p2 : gPL) (li : gLI) (wi : gWI) (mt : Nat) (ms : gMS) (ma : gMA) (mp : gMP) (mk : gMK) (mn : gMN) (ou : Nat → Int64), okC bm pa p0 p1 p2 li wi → okM ms ma mp mk mn → 0 = 0 → ∀ (H : Heap) (locs : List Loc), va_P D vwCl (WW ad cJ cI cZ bm pa p0 p1 p2 li wi mt ms ma mp mk mn ou) H → va_D A (WW ad cJ cI cZ bm pa p0 p1 p2 li wi mt ms ma mp mk mn ou) → va_S A s.heap H locs → ∀ ls : Array Slot, lv_has ls 8 [(0, .ref b), (1, .ref (ad 0)), (2, .ref (ad 42)), (3, .ref (ad 62)), (4, .int (nI i))] → W p l e room_1 s m #[Value.ref b] below meth c H locs (cells + 1) (slots + 6) (lw_Z below #[Value.ref b] s) (F0 m 1326 ls [])) : W p l e room_1 s m #[Value.ref b] below meth c H locs cells slots (lw_Z below #[Value.ref b] s) (F0 m 757 ls []) := by
  obtain ⟨hx, hb, hr, hml, hown, hts, hXs, hbl, hlocks, hgv⟩ := id C0
  have hbA := hAn b hbl
  refine lv_aload_n hx hb dL_law_757 rfl (lv_at hl 1 rfl) ?_
  refine lv_aload_n hx hb dL_law_758 rfl (lv_at hl 0 rfl) ?_
  refine lv_iload hx hb dL_law_759 (lv_at hl 4 rfl) ?_
  refine lv_iconst (v := nI 1) hx hb dL_law_761 (by decide) ?_
  refine bm_nadd hx hb dL_law_762 ?_
  refine bm_sld hx hb hXs hbl hbA hS (j := (i + 1)) (by omega) (by omega) dL_law_763 ?_
  refine lv_i2l (v := (xs (i + 1)).toInt64) hx hb dL_law_764 rfl ?_
  refine lv_bipush (v := nI 32) hx hb dL_law_765 (by decide) ?_
  refine lv_lshl (v := ((xs (i + 1)).toInt64) <<< ((nI 32).toInt64 &&& 63)) hx hb dL_law_767 rfl ?_
  refine lv_aload_n hx hb dL_law_768 rfl (lv_at hl 0 rfl) ?_
  refine lv_iload hx hb dL_law_769 (lv_at hl 4 rfl) ?_
  refine lv_iconst (v := nI 2) hx hb dL_law_771 (by decide) ?_
  refine bm_nadd hx hb dL_law_772 ?_
  refine bm_sld hx hb hXs hbl hbA hS (j := (i + 2)) (by omega) (by omega) dL_law_773 ?_
  refine lv_i2l (v := (xs (i + 2)).toInt64) hx hb dL_law_774 rfl ?_
  refine lv_ldc2 (v := 4294967295) hx hb hown (hts (.constantLong RL 75 4294967295) (List.mem_filter.mp clL_75).1) dL_law_775 ?_
  refine lv_land hx hb dL_law_778 ?_
  refine lv_lor hx hb dL_law_779 ?_
  refine lv_aload_n hx hb dL_law_780 rfl (lv_at hl 3 rfl) ?_
  refine bx_xhcallS (n := 3) (As := [.ref (ad 0), .long ((((xs (i + 1)).toInt64) <<< ((nI 32).toInt64 &&& 63)) ||| (((xs (i + 2)).toInt64) &&& 4294967295)), .ref (ad 62)]) (rest := []) ⟨hx, hb, hml, hown, hts⟩ (H_run hlt  okc H.size) rfl rfl (Nat.le_of_ble_eq_true rfl) (Nat.le_of_ble_eq_true rfl) (gdH (by decide +kernel)) (by decide +kernel) rfl hK hP hD hS hA hX hZ hN1 hN2 hAn rfl hl.1 rfl (Nat.le_of_ble_eq_true rfl) dL_law_781 hcs (fun ws_1 r_2 h_3 H locs hP hD hS => ?_)
  obtain ⟨bmn_4, pan_5, p0n_6, p1n_7, p2n_8, lin_9, win_10, oun_11, okn_12, hnn_13, rfl, v_14, rfl⟩ := h_3
  have hP : va_P D vwCl (WW ad cJ cI cZ bmn_4 pan_5 p0n_6 p1n_7 p2n_8 lin_9 win_10 mt ms ma mp mk mn oun_11) H := hP
  have hD : va_D A (WW ad cJ cI cZ bmn_4 pan_5 p0n_6 p1n_7 p2n_8 lin_9 win_10 mt ms ma mp mk mn oun_11) := hD
  refine lv_istore (lv' := [(5, .int v_14), (0, .ref b), (1, .ref (ad 0)), (2, .ref (ad 42)), (3, .ref (ad 62)), (4, .int (nI i))]) hx hb dL_law_784 hl (by decide) rfl (fun ls hl => ?_)
  refine lv_aload_n hx hb dL_law_786 rfl (lv_at hl 3 rfl) ?_
  refine lv_aload_n hx hb dL_law_787 rfl (lv_at hl 1 rfl) ?_
  refine lv_iload hx hb dL_law_788 (lv_at hl 5 rfl) ?_
  refine lv_iconst (v := nI 1) hx hb dL_law_790 (by decide) ?_
  refine bm_nadd hx hb dL_law_791 ?_
  refine bm_sld hx hb hXs hbl hbA hS (j := (i + 1)) (by omega) (by omega) dL_law_792 ?_
  refine lv_i2l (v := (xs (i + 1)).toInt64) hx hb dL_law_793 rfl ?_
  refine lv_bipush (v := nI 32) hx hb dL_law_794 (by decide) ?_
  refine lv_lshl (v := ((xs (i + 1)).toInt64) <<< ((nI 32).toInt64 &&& 63)) hx hb dL_law_796 rfl ?_
  refine lv_aload_n hx hb dL_law_797 rfl (lv_at hl 1 rfl) ?_
  refine lv_iload hx hb dL_law_798 (lv_at hl 5 rfl) ?_
  refine lv_iconst (v := nI 2) hx hb dL_law_800 (by decide) ?_
  refine bm_nadd hx hb dL_law_801 ?_
  refine bm_sld hx hb hXs hbl hbA hS (j := (i + 2)) (by omega) (by omega) dL_law_802 ?_
  refine lv_i2l (v := (xs (i + 2)).toInt64) hx hb dL_law_803 rfl ?_
  refine lv_ldc2 (v := 4294967295) hx hb hown (hts (.constantLong RL 75 4294967295) (List.mem_filter.mp clL_75).1) dL_law_804 ?_
  refine lv_land hx hb dL_law_807 ?_
  refine lv_lor hx hb dL_law_808 ?_
  refine bm_xcallV (As := [.long ((((xs (i + 1)).toInt64) <<< ((nI 32).toInt64 &&& 63)) ||| (((xs (i + 2)).toInt64) &&& 4294967295))]) (rest := []) ⟨hx, hb, hml, hown, hts⟩ (Y_run   okm ) (cwV 1 hts gvL_109 rfl rfl rfl hvX5_run ⟨Nat.le_of_ble_eq_true rfl, Nat.le_of_ble_eq_true rfl⟩) hK hP hD hS hA 42 5 rfl ww_42 rfl hl.1 rfl (Nat.le_of_ble_eq_true rfl) dL_law_809 hcs (fun ws_15 r_16 h_17 H locs hP hD hS => ?_)
  obtain ⟨mtn_18, msn_19, man_20, mpn_21, mkn_22, mnn_23, okn_24, hnn_25, rfl, v_26, rfl⟩ := h_17
  have hP : va_P D vwCl (WW ad cJ cI cZ bmn_4 pan_5 p0n_6 p1n_7 p2n_8 lin_9 win_10 mtn_18 msn_19 man_20 mpn_21 mkn_22 mnn_23 oun_11) H := hP
  have hD : va_D A (WW ad cJ cI cZ bmn_4 pan_5 p0n_6 p1n_7 p2n_8 lin_9 win_10 mtn_18 msn_19 man_20 mpn_21 mkn_22 mnn_23 oun_11) := hD
  refine lv_istore (lv' := [(6, .int v_26), (5, .int v_14), (0, .ref b), (1, .ref (ad 0)), (2, .ref (ad 42)), (3, .ref (ad 62)), (4, .int (nI i))]) hx hb dL_law_812 hl (by decide) rfl (fun ls hl => ?_)
  refine lv_goto (tgt := 1326) hx hb dL_law_814 (by decide) ?_
  exact kk bmn_4 pan_5 p0n_6 p1n_7 p2n_8 lin_9 win_10 mtn_18 msn_19 man_20 mpn_21 mkn_22 mnn_23 oun_11 okn_12 okn_24 (hnn_13.trans (heq.trans hnn_25.symm)) _ _ hP hD hS _ (lv_sub hl [2, 3, 4, 5, 6] rfl)

set_option maxHeartbeats 16000000 in
set_option maxRecDepth 100000 in
theorem V_8 {p : Program} {l : Launch} {e : Env} {s : State} {m : MethodId} {below : List Frame} {meth : Method} {c : Code} {b L : Nat} {xs : Nat → Int32} (hlt : l.stackTraces = false) (hL : L ≤ 5635) (C0 : lw_At p s m meth c b L xs) (hX : bx_X xW s) (hZ : bx_S RX4 xS s) (hN1 : bx_N "java/lang/IllegalArgumentException" "java/lang/IndexOutOfBoundsException" s) (hN2 : bx_N "java/lang/IllegalStateException" "java/lang/IndexOutOfBoundsException" s) {A : Nat → Prop} (hA : ∀ q : Nat, s.heap.size ≤ q → A q) (hAn : ∀ q : Nat, q < s.heap.size → ¬ A q) {D : va_G} {ad : Nat → Nat} {cJ cI cZ : ClassId} {bm : gBM} {pa : gPA} {p0 p1 p2 : gPL} {li : gLI} {wi : gWI} {mt : Nat} {ms : gMS} {ma : gMA} {mp : gMP} {mk : gMK} {mn : gMN} {ou : Nat → Int64} {i : Nat} (hi : i + 11 ≤ L) (okc : okC bm pa p0 p1 p2 li wi) (okm : okM ms ma mp mk mn) (heq : 0 = 0)  {H : Heap} {locs : List Loc} {cells slots : Nat} (hcs : cells + 1 ≤ room_1.cells ∧ slots + 6 ≤ room_1.slots) (hK : va_K D vwCl [(cJ, .long), (cI, .int), (cZ, .boolean)] s) (hP : va_P D vwCl (WW ad cJ cI cZ bm pa p0 p1 p2 li wi mt ms ma mp mk mn ou) H) (hD : va_D A (WW ad cJ cI cZ bm pa p0 p1 p2 li wi mt ms ma mp mk mn ou)) (hS : va_S A s.heap H locs) {ls : Array Slot} (hl : lv_has ls 8 [(0, .ref b), (1, .ref (ad 0)), (2, .ref (ad 42)), (3, .ref (ad 62)), (4, .int (nI i))]) (kk : ∀ (bm : gBM) (pa : gPA) (p0 p1 p2 : gPL) (li : gLI) (wi : gWI) (mt : Nat) (ms : gMS) (ma : gMA) (mp : gMP) (mk : gMK) (mn : gMN) (ou : Nat → Int64), okC bm pa p0 p1 p2 li wi → okM ms ma mp mk mn → 0 = 0 → ∀ (H : Heap) (locs : List Loc), va_P D vwCl (WW ad cJ cI cZ bm pa p0 p1 p2 li wi mt ms ma mp mk mn ou) H → va_D A (WW ad cJ cI cZ bm pa p0 p1 p2 li wi mt ms ma mp mk mn ou) → va_S A s.heap H locs → ∀ ls : Array Slot, lv_has ls 8 [(0, .ref b), (1, .ref (ad 0)), (2, .ref (ad 42)), (3, .ref (ad 62)), (4, .int (nI i))] → W p l e room_1 s m #[Value.ref b] below meth c H locs (cells + 1) (slots + 6) (lw_Z below #[Value.ref b] s) (F0 m 1326 ls [])) : W p l e room_1 s m #[Value.ref b] below meth c H locs cells slots (lw_Z below #[Value.ref b] s) (F0 m 817 ls []) := by
  obtain ⟨hx, hb, hr, hml, hown, hts, hXs, hbl, hlocks, hgv⟩ := id C0
  have hbA := hAn b hbl
  refine lv_aload_n hx hb dL_law_817 rfl (lv_at hl 1 rfl) ?_
  refine bm_xcallV (As := []) (rest := []) ⟨hx, hb, hml, hown, hts⟩ (Z_wire   okc ) (cwV 0 hts gvL_110 rfl rfl rfl hvX4_wire ⟨Nat.le_of_ble_eq_true rfl, Nat.le_of_ble_eq_true rfl⟩) hK hP hD hS hA 0 4 rfl ww_0 rfl hl.1 rfl (Nat.le_of_ble_eq_true rfl) dL_law_818 ⟨Nat.le_of_succ_le hcs.1, Nat.le_trans (Nat.le_add_right _ _) hcs.2⟩ (fun ws_1 r_2 h_3 H locs hP hD hS => ?_)
  obtain ⟨bmn_4, pan_5, p0n_6, p1n_7, p2n_8, lin_9, win_10, oun_11, okn_12, hnn_13, rfl, v_14, rfl⟩ := h_3
  have hP : va_P D vwCl (WW ad cJ cI cZ bmn_4 pan_5 p0n_6 p1n_7 p2n_8 lin_9 win_10 mt ms ma mp mk mn oun_11) H := hP
  have hD : va_D A (WW ad cJ cI cZ bmn_4 pan_5 p0n_6 p1n_7 p2n_8 lin_9 win_10 mt ms ma mp mk mn oun_11) := hD
  refine lv_pop2_2 hx hb dL_law_821 rfl ?_
  refine lv_aload_n hx hb dL_law_822 rfl (lv_at hl 2 rfl) ?_
  refine bm_xcallV (As := []) (rest := []) ⟨hx, hb, hml, hown, hts⟩ (Y_wire   okm ) (cwV 0 hts gvL_114 rfl rfl rfl hvX5_wire ⟨Nat.le_of_ble_eq_true rfl, Nat.le_of_ble_eq_true rfl⟩) hK hP hD hS hA 42 5 rfl ww_42 rfl hl.1 rfl (Nat.le_of_ble_eq_true rfl) dL_law_823 ⟨Nat.le_of_succ_le hcs.1, Nat.le_trans (Nat.le_add_right _ _) hcs.2⟩ (fun ws_15 r_16 h_17 H locs hP hD hS => ?_)
  obtain ⟨mtn_18, msn_19, man_20, mpn_21, mkn_22, mnn_23, okn_24, hnn_25, rfl, v_26, rfl⟩ := h_17
  have hP : va_P D vwCl (WW ad cJ cI cZ bmn_4 pan_5 p0n_6 p1n_7 p2n_8 lin_9 win_10 mtn_18 msn_19 man_20 mpn_21 mkn_22 mnn_23 oun_11) H := hP
  have hD : va_D A (WW ad cJ cI cZ bmn_4 pan_5 p0n_6 p1n_7 p2n_8 lin_9 win_10 mtn_18 msn_19 man_20 mpn_21 mkn_22 mnn_23 oun_11) := hD
  refine lv_pop2_2 hx hb dL_law_826 rfl ?_
  refine lv_goto (tgt := 1326) hx hb dL_law_827 (by decide) ?_
  refine W.widen (k := cells + 1) (n := slots + 6) (Nat.le_succ _) (Nat.le_add_right _ _) ?_
  exact kk bmn_4 pan_5 p0n_6 p1n_7 p2n_8 lin_9 win_10 mtn_18 msn_19 man_20 mpn_21 mkn_22 mnn_23 oun_11 okn_12 okn_24 (hnn_13.trans (heq.trans hnn_25.symm)) _ _ hP hD hS _ (lv_sub hl [0, 1, 2, 3, 4] rfl)
