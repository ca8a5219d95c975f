set_option maxHeartbeats 16000000 in
set_option maxRecDepth 100000 in
theorem V_4 {p : Program} {l : Launch} {e : Env} {s : State} {m : MethodId} {below : List Frame} {meth : Method} {c : Code} {b L : Nat} {xs : Nat → Int32} (hlt : l.stackTraces = false) (hL : L ≤ 5635) (C0 : lw_At p s m meth c b L xs) (hX : bx_X xW s) (hZ : bx_S RX4 xS s) (hN1 : bx_N "java/lang/IllegalArgumentException" "java/lang/IndexOutOfBoundsException" s) (hN2 : bx_N "java/lang/IllegalStateException" "java/lang/IndexOutOfBoundsException" s) {A : Nat → Prop} (hA : ∀ q : Nat, s.heap.size ≤ q → A q) (hAn : ∀ q : Nat, q < s.heap.size → ¬ A q) {D : va_G} {ad : Nat → Nat} {cJ cI cZ : ClassId} {bm : gBM} {pa : gPA} {p0 p1 p2 : gPL} {li : gLI} {wi : gWI} {mt : Nat} {ms : gMS} {ma : gMA} {mp : gMP} {mk : gMK} {mn : gMN} {ou : Nat → Int64} {i : Nat} (hi : i + 11 ≤ L) (okc : okC bm pa p0 p1 p2 li wi) (okm : okM ms ma mp mk mn) (heq : wi.2.2.2.2.2.2.2.2.2.1 = ms.2.2.2.2.2.1)  {H : Heap} {locs : List Loc} {cells slots : Nat} (hcs : cells + 1 ≤ room_1.cells ∧ slots + 6 ≤ room_1.slots) (hK : va_K D vwCl [(cJ, .long), (cI, .int), (cZ, .boolean)] s) (hP : va_P D vwCl (WW ad cJ cI cZ bm pa p0 p1 p2 li wi mt ms ma mp mk mn ou) H) (hD : va_D A (WW ad cJ cI cZ bm pa p0 p1 p2 li wi mt ms ma mp mk mn ou)) (hS : va_S A s.heap H locs) {ls : Array Slot} (hl : lv_has ls 8 [(0, .ref b), (1, .ref (ad 0)), (2, .ref (ad 42)), (3, .ref (ad 62)), (4, .int (nI i))]) (kk : ∀ (bm : gBM) (pa : gPA) (p0 p1 p2 : gPL) (li : gLI) (wi : gWI) (mt : Nat) (ms : gMS) (ma : gMA) (mp : gMP) (mk : gMK) (mn : gMN) (ou : Nat → Int64), okC bm pa p0 p1 p2 li wi → okM ms ma mp mk mn → wi.2.2.2.2.2.2.2.2.2.1 = ms.2.2.2.2.2.1 → ∀ (H : Heap) (locs : List Loc), va_P D vwCl (WW ad cJ cI cZ bm pa p0 p1 p2 li wi mt ms ma mp mk mn ou) H → va_D A (WW ad cJ cI cZ bm pa p0 p1 p2 li wi mt ms ma mp mk mn ou) → va_S A s.heap H locs → ∀ ls : Array Slot, lv_has ls 8 [(0, .ref b), (1, .ref (ad 0)), (2, .ref (ad 42)), (3, .ref (ad 62)), (4, .int (nI i))] → W p l e room_1 s m #[Value.ref b] below meth c H locs (cells + 1) (slots + 6) (lw_Z below #[Value.ref b] s) (F0 m 1326 ls [])) : W p l e room_1 s m #[Value.ref b] below meth c H locs cells slots (lw_Z below #[Value.ref b] s) (F0 m 471 ls []) := by
  obtain ⟨hx, hb, hr, hml, hown, hts, hXs, hbl, hlocks, hgv⟩ := id C0
  have hbA := hAn b hbl
  refine lv_aload_n hx hb dL_law_471 rfl (lv_at hl 1 rfl) ?_
  refine lv_aload_n hx hb dL_law_472 rfl (lv_at hl 0 rfl) ?_
  refine lv_iload hx hb dL_law_473 (lv_at hl 4 rfl) ?_
  refine lv_iconst (v := nI 1) hx hb dL_law_475 (by decide) ?_
  refine bm_nadd hx hb dL_law_476 ?_
  refine bm_sld hx hb hXs hbl hbA hS (j := (i + 1)) (by omega) (by omega) dL_law_477 ?_
  refine lv_aload_n hx hb dL_law_478 rfl (lv_at hl 0 rfl) ?_
  refine lv_iload hx hb dL_law_479 (lv_at hl 4 rfl) ?_
  refine lv_iconst (v := nI 2) hx hb dL_law_481 (by decide) ?_
  refine bm_nadd hx hb dL_law_482 ?_
  refine bm_sld hx hb hXs hbl hbA hS (j := (i + 2)) (by omega) (by omega) dL_law_483 ?_
  refine lv_aload_n hx hb dL_law_484 rfl (lv_at hl 0 rfl) ?_
  refine lv_iload hx hb dL_law_485 (lv_at hl 4 rfl) ?_
  refine lv_iconst (v := nI 3) hx hb dL_law_487 (by decide) ?_
  refine bm_nadd hx hb dL_law_488 ?_
  refine bm_sld hx hb hXs hbl hbA hS (j := (i + 3)) (by omega) (by omega) dL_law_489 ?_
  refine lv_i2l (v := (xs (i + 3)).toInt64) hx hb dL_law_490 rfl ?_
  refine lv_bipush (v := nI 32) hx hb dL_law_491 (by decide) ?_
  refine lv_lshl (v := ((xs (i + 3)).toInt64) <<< ((nI 32).toInt64 &&& 63)) hx hb dL_law_493 rfl ?_
  refine lv_aload_n hx hb dL_law_494 rfl (lv_at hl 0 rfl) ?_
  refine lv_iload hx hb dL_law_495 (lv_at hl 4 rfl) ?_
  refine lv_iconst (v := nI 4) hx hb dL_law_497 (by decide) ?_
  refine bm_nadd hx hb dL_law_498 ?_
  refine bm_sld hx hb hXs hbl hbA hS (j := (i + 4)) (by omega) (by omega) dL_law_499 ?_
  refine lv_i2l (v := (xs (i + 4)).toInt64) hx hb dL_law_500 rfl ?_
  refine lv_ldc2 (v := 4294967295) hx hb hown (hts (.constantLong RL 75 4294967295) (by decide +kernel)) dL_law_501 ?_
  refine lv_land hx hb dL_law_504 ?_
  refine lv_lor hx hb dL_law_505 ?_
  refine lv_aload_n hx hb dL_law_506 rfl (lv_at hl 0 rfl) ?_
  refine lv_iload hx hb dL_law_507 (lv_at hl 4 rfl) ?_
  refine lv_iconst (v := nI 5) hx hb dL_law_509 (by decide) ?_
  refine bm_nadd hx hb dL_law_510 ?_
  refine bm_sld hx hb hXs hbl hbA hS (j := (i + 5)) (by omega) (by omega) dL_law_511 ?_
  refine lv_i2l (v := (xs (i + 5)).toInt64) hx hb dL_law_512 rfl ?_
  refine lv_bipush (v := nI 32) hx hb dL_law_513 (by decide) ?_
  refine lv_lshl (v := ((xs (i + 5)).toInt64) <<< ((nI 32).toInt64 &&& 63)) hx hb dL_law_515 rfl ?_
  refine lv_aload_n hx hb dL_law_516 rfl (lv_at hl 0 rfl) ?_
  refine lv_iload hx hb dL_law_517 (lv_at hl 4 rfl) ?_
  refine lv_bipush (v := nI 6) hx hb dL_law_519 (by decide) ?_
  refine bm_nadd hx hb dL_law_521 ?_
  refine bm_sld hx hb hXs hbl hbA hS (j := (i + 6)) (by omega) (by omega) dL_law_522 ?_
  refine lv_i2l (v := (xs (i + 6)).toInt64) hx hb dL_law_523 rfl ?_
  refine lv_ldc2 (v := 4294967295) hx hb hown (hts (.constantLong RL 75 4294967295) (by decide +kernel)) dL_law_524 ?_
  refine lv_land hx hb dL_law_527 ?_
  refine lv_lor hx hb dL_law_528 ?_
  refine lv_aload_n hx hb dL_law_529 rfl (lv_at hl 3 rfl) ?_
  refine bx_xhcallS (n := 6) (As := [.ref (ad 0), .int (xs (i + 1)), .int (xs (i + 2)), .long ((((xs (i + 3)).toInt64) <<< ((nI 32).toInt64 &&& 63)) ||| (((xs (i + 4)).toInt64) &&& 4294967295)), .long ((((xs (i + 5)).toInt64) <<< ((nI 32).toInt64 &&& 63)) ||| (((xs (i + 6)).toInt64) &&& 4294967295)), .ref (ad 62)]) (rest := []) ⟨hx, hb, hml, hown, hts⟩ (H_pin hlt  okc H.size) rfl rfl (Nat.le_of_ble_eq_true rfl) (Nat.le_of_ble_eq_true rfl) (gdH (by decide +kernel)) (by decide +kernel) rfl hK hP hD hS hA hX hZ hN1 hN2 hAn rfl hl.1 rfl (Nat.le_of_ble_eq_true rfl) dL_law_530 hcs (fun ws_1 r_2 h_3 H locs hP hD hS => ?_)
  obtain ⟨bmn_4, pan_5, p0n_6, p1n_7, p2n_8, lin_9, win_10, oun_11, okn_12, hnn_13, rfl, v_14, rfl⟩ := h_3
  have hP : va_P D vwCl (WW ad cJ cI cZ bmn_4 pan_5 p0n_6 p1n_7 p2n_8 lin_9 win_10 mt ms ma mp mk mn oun_11) H := hP
  have hD : va_D A (WW ad cJ cI cZ bmn_4 pan_5 p0n_6 p1n_7 p2n_8 lin_9 win_10 mt ms ma mp mk mn oun_11) := hD
  refine lv_istore (lv' := [(5, .int v_14), (0, .ref b), (1, .ref (ad 0)), (2, .ref (ad 42)), (3, .ref (ad 62)), (4, .int (nI i))]) hx hb dL_law_533 hl (by decide) rfl (fun ls hl => ?_)
  refine lv_aload_n hx hb dL_law_535 rfl (lv_at hl 3 rfl) ?_
  refine lv_aload_n hx hb dL_law_536 rfl (lv_at hl 1 rfl) ?_
  refine lv_iload hx hb dL_law_537 (lv_at hl 5 rfl) ?_
  refine lv_iconst (v := nI 1) hx hb dL_law_539 (by decide) ?_
  refine bm_nadd hx hb dL_law_540 ?_
  refine bm_sld hx hb hXs hbl hbA hS (j := (i + 1)) (by omega) (by omega) dL_law_541 ?_
  refine lv_aload_n hx hb dL_law_542 rfl (lv_at hl 1 rfl) ?_
  refine lv_iload hx hb dL_law_543 (lv_at hl 5 rfl) ?_
  refine lv_iconst (v := nI 2) hx hb dL_law_545 (by decide) ?_
  refine bm_nadd hx hb dL_law_546 ?_
  refine bm_sld hx hb hXs hbl hbA hS (j := (i + 2)) (by omega) (by omega) dL_law_547 ?_
  refine lv_aload_n hx hb dL_law_548 rfl (lv_at hl 1 rfl) ?_
  refine lv_iload hx hb dL_law_549 (lv_at hl 5 rfl) ?_
  refine lv_iconst (v := nI 3) hx hb dL_law_551 (by decide) ?_
  refine bm_nadd hx hb dL_law_552 ?_
  refine bm_sld hx hb hXs hbl hbA hS (j := (i + 3)) (by omega) (by omega) dL_law_553 ?_
  refine lv_i2l (v := (xs (i + 3)).toInt64) hx hb dL_law_554 rfl ?_
  refine lv_bipush (v := nI 32) hx hb dL_law_555 (by decide) ?_
  refine lv_lshl (v := ((xs (i + 3)).toInt64) <<< ((nI 32).toInt64 &&& 63)) hx hb dL_law_557 rfl ?_
  refine lv_aload_n hx hb dL_law_558 rfl (lv_at hl 1 rfl) ?_
  refine lv_iload hx hb dL_law_559 (lv_at hl 5 rfl) ?_
  refine lv_iconst (v := nI 4) hx hb dL_law_561 (by decide) ?_
  refine bm_nadd hx hb dL_law_562 ?_
  refine bm_sld hx hb hXs hbl hbA hS (j := (i + 4)) (by omega) (by omega) dL_law_563 ?_
  refine lv_i2l (v := (xs (i + 4)).toInt64) hx hb dL_law_564 rfl ?_
  refine lv_ldc2 (v := 4294967295) hx hb hown (hts (.constantLong RL 75 4294967295) (by decide +kernel)) dL_law_565 ?_
  refine lv_land hx hb dL_law_568 ?_
  refine lv_lor hx hb dL_law_569 ?_
  refine lv_aload_n hx hb dL_law_570 rfl (lv_at hl 1 rfl) ?_
  refine lv_iload hx hb dL_law_571 (lv_at hl 5 rfl) ?_
  refine lv_iconst (v := nI 5) hx hb dL_law_573 (by decide) ?_
  refine bm_nadd hx hb dL_law_574 ?_
  refine bm_sld hx hb hXs hbl hbA hS (j := (i + 5)) (by omega) (by omega) dL_law_575 ?_
  refine lv_i2l (v := (xs (i + 5)).toInt64) hx hb dL_law_576 rfl ?_
  refine lv_bipush (v := nI 32) hx hb dL_law_577 (by decide) ?_
  refine lv_lshl (v := ((xs (i + 5)).toInt64) <<< ((nI 32).toInt64 &&& 63)) hx hb dL_law_579 rfl ?_
  refine lv_aload_n hx hb dL_law_580 rfl (lv_at hl 1 rfl) ?_
  refine lv_iload hx hb dL_law_581 (lv_at hl 5 rfl) ?_
  refine lv_bipush (v := nI 6) hx hb dL_law_583 (by decide) ?_
  refine bm_nadd hx hb dL_law_585 ?_
  refine bm_sld hx hb hXs hbl hbA hS (j := (i + 6)) (by omega) (by omega) dL_law_586 ?_
  refine lv_i2l (v := (xs (i + 6)).toInt64) hx hb dL_law_587 rfl ?_
  refine lv_ldc2 (v := 4294967295) hx hb hown (hts (.constantLong RL 75 4294967295) (by decide +kernel)) dL_law_588 ?_
  refine lv_land hx hb dL_law_591 ?_
  refine lv_lor hx hb dL_law_592 ?_
  refine bm_xcallV (As := [.int (xs (i + 1)), .int (xs (i + 2)), .long ((((xs (i + 3)).toInt64) <<< ((nI 32).toInt64 &&& 63)) ||| (((xs (i + 4)).toInt64) &&& 4294967295)), .long ((((xs (i + 5)).toInt64) <<< ((nI 32).toInt64 &&& 63)) ||| (((xs (i + 6)).toInt64) &&& 4294967295))]) (rest := []) ⟨hx, hb, hml, hown, hts⟩ (Y_pin   okm ) (cwV 4 hts (gdVL (by decide +kernel) (by decide +kernel) (by decide +kernel) (by decide +kernel) (by decide +kernel)) rfl rfl rfl (by decide +kernel) ⟨Nat.le_of_ble_eq_true rfl, Nat.le_of_ble_eq_true rfl⟩) hK hP hD hS hA 42 5 rfl rfl rfl hl.1 rfl (Nat.le_of_ble_eq_true rfl) dL_law_593 hcs (fun ws_15 r_16 h_17 H locs hP hD hS => ?_)
  obtain ⟨mtn_18, msn_19, man_20, mpn_21, mkn_22, mnn_23, okn_24, hnn_25, rfl, v_26, rfl⟩ := h_17
  have hP : va_P D vwCl (WW ad cJ cI cZ bmn_4 pan_5 p0n_6 p1n_7 p2n_8 lin_9 win_10 mtn_18 msn_19 man_20 mpn_21 mkn_22 mnn_23 oun_11) H := hP
  have hD : va_D A (WW ad cJ cI cZ bmn_4 pan_5 p0n_6 p1n_7 p2n_8 lin_9 win_10 mtn_18 msn_19 man_20 mpn_21 mkn_22 mnn_23 oun_11) := hD
  refine lv_istore (lv' := [(6, .int (bm_b v_26)), (5, .int v_14), (0, .ref b), (1, .ref (ad 0)), (2, .ref (ad 42)), (3, .ref (ad 62)), (4, .int (nI i))]) hx hb dL_law_596 hl (by decide) rfl (fun ls hl => ?_)
  refine lv_goto (tgt := 1326) hx hb dL_law_598 (by decide) ?_
  exact kk bmn_4 pan_5 p0n_6 p1n_7 p2n_8 lin_9 win_10 mtn_18 msn_19 man_20 mpn_21 mkn_22 mnn_23 oun_11 okn_12 okn_24 (hnn_13.trans (heq.trans hnn_25.symm)) _ _ hP hD hS _ (lv_sub hl [2, 3, 4, 5, 6] rfl)

set_option maxHeartbeats 16000000 in
set_option maxRecDepth 100000 in
theorem V_5 {p : Program} {l : Launch} {e : Env} {s : State} {m : MethodId} {below : List Frame} {meth : Method} {c : Code} {b L : Nat} {xs : Nat → Int32} (hlt : l.stackTraces = false) (hL : L ≤ 5635) (C0 : lw_At p s m meth c b L xs) (hX : bx_X xW s) (hZ : bx_S RX4 xS s) (hN1 : bx_N "java/lang/IllegalArgumentException" "java/lang/IndexOutOfBoundsException" s) (hN2 : bx_N "java/lang/IllegalStateException" "java/lang/IndexOutOfBoundsException" s) {A : Nat → Prop} (hA : ∀ q : Nat, s.heap.size ≤ q → A q) (hAn : ∀ q : Nat, q < s.heap.size → ¬ A q) {D : va_G} {ad : Nat → Nat} {cJ cI cZ : ClassId} {bm : gBM} {pa : gPA} {p0 p1 p2 : gPL} {li : gLI} {wi : gWI} {mt : Nat} {ms : gMS} {ma : gMA} {mp : gMP} {mk : gMK} {mn : gMN} {ou : Nat → Int64} {i : Nat} (hi : i + 11 ≤ L) (okc : okC bm pa p0 p1 p2 li wi) (okm : okM ms ma mp mk mn) (heq : wi.2.2.2.2.2.2.2.2.2.1 = ms.2.2.2.2.2.1)  {H : Heap} {locs : List Loc} {cells slots : Nat} (hcs : cells + 1 ≤ room_1.cells ∧ slots + 6 ≤ room_1.slots) (hK : va_K D vwCl [(cJ, .long), (cI, .int), (cZ, .boolean)] s) (hP : va_P D vwCl (WW ad cJ cI cZ bm pa p0 p1 p2 li wi mt ms ma mp mk mn ou) H) (hD : va_D A (WW ad cJ cI cZ bm pa p0 p1 p2 li wi mt ms ma mp mk mn ou)) (hS : va_S A s.heap H locs) {ls : Array Slot} (hl : lv_has ls 8 [(0, .ref b), (1, .ref (ad 0)), (2, .ref (ad 42)), (3, .ref (ad 62)), (4, .int (nI i))]) (kk : ∀ (bm : gBM) (pa : gPA) (p0 p1 p2 : gPL) (li : gLI) (wi : gWI) (mt : Nat) (ms : gMS) (ma : gMA) (mp : gMP) (mk : gMK) (mn : gMN) (ou : Nat → Int64), okC bm pa p0 p1 p2 li wi → okM ms ma mp mk mn → wi.2.2.2.2.2.2.2.2.2.1 = ms.2.2.2.2.2.1 → ∀ (H : Heap) (locs : List Loc), va_P D vwCl (WW ad cJ cI cZ bm pa p0 p1 p2 li wi mt ms ma mp mk mn ou) H → va_D A (WW ad cJ cI cZ bm pa p0 p1 p2 li wi mt ms ma mp mk mn ou) → va_S A s.heap H locs → ∀ ls : Array Slot, lv_has ls 8 [(0, .ref b), (1, .ref (ad 0)), (2, .ref (ad 42)), (3, .ref (ad 62)), (4, .int (nI i))] → W p l e room_1 s m #[Value.ref b] below meth c H locs (cells + 1) (slots + 6) (lw_Z below #[Value.ref b] s) (F0 m 1326 ls [])) : W p l e room_1 s m #[Value.ref b] below meth c H locs cells slots (lw_Z below #[Value.ref b] s) (F0 m 601 ls []) := by
  obtain ⟨hx, hb, hr, hml, hown, hts, hXs, hbl, hlocks, hgv⟩ := id C0
  have hbA := hAn b hbl
  refine lv_aload_n hx hb dL_law_601 rfl (lv_at hl 1 rfl) ?_
  refine lv_aload_n hx hb dL_law_602 rfl (lv_at hl 0 rfl) ?_
  refine lv_iload hx hb dL_law_603 (lv_at hl 4 rfl) ?_
  refine lv_iconst (v := nI 1) hx hb dL_law_605 (by decide) ?_
  refine bm_nadd hx hb dL_law_606 ?_
  refine bm_sld hx hb hXs hbl hbA hS (j := (i + 1)) (by omega) (by omega) dL_law_607 ?_
  refine lv_aload_n hx hb dL_law_608 rfl (lv_at hl 0 rfl) ?_
  refine lv_iload hx hb dL_law_609 (lv_at hl 4 rfl) ?_
  refine lv_iconst (v := nI 2) hx hb dL_law_611 (by decide) ?_
  refine bm_nadd hx hb dL_law_612 ?_
  refine bm_sld hx hb hXs hbl hbA hS (j := (i + 2)) (by omega) (by omega) dL_law_613 ?_
  refine lv_i2l (v := (xs (i + 2)).toInt64) hx hb dL_law_614 rfl ?_
  refine lv_bipush (v := nI 32) hx hb dL_law_615 (by decide) ?_
  refine lv_lshl (v := ((xs (i + 2)).toInt64) <<< ((nI 32).toInt64 &&& 63)) hx hb dL_law_617 rfl ?_
  refine lv_aload_n hx hb dL_law_618 rfl (lv_at hl 0 rfl) ?_
  refine lv_iload hx hb dL_law_619 (lv_at hl 4 rfl) ?_
  refine lv_iconst (v := nI 3) hx hb dL_law_621 (by decide) ?_
  refine bm_nadd hx hb dL_law_622 ?_
  refine bm_sld hx hb hXs hbl hbA hS (j := (i + 3)) (by omega) (by omega) dL_law_623 ?_
  refine lv_i2l (v := (xs (i + 3)).toInt64) hx hb dL_law_624 rfl ?_
  refine lv_ldc2 (v := 4294967295) hx hb hown (hts (.constantLong RL 75 4294967295) (by decide +kernel)) dL_law_625 ?_
  refine lv_land hx hb dL_law_628 ?_
  refine lv_lor hx hb dL_law_629 ?_
  refine lv_aload_n hx hb dL_law_630 rfl (lv_at hl 0 rfl) ?_
  refine lv_iload hx hb dL_law_631 (lv_at hl 4 rfl) ?_
  refine lv_iconst (v := nI 4) hx hb dL_law_633 (by decide) ?_
  refine bm_nadd hx hb dL_law_634 ?_
  refine bm_sld hx hb hXs hbl hbA hS (j := (i + 4)) (by omega) (by omega) dL_law_635 ?_
  refine lv_i2l (v := (xs (i + 4)).toInt64) hx hb dL_law_636 rfl ?_
  refine lv_bipush (v := nI 32) hx hb dL_law_637 (by decide) ?_
  refine lv_lshl (v := ((xs (i + 4)).toInt64) <<< ((nI 32).toInt64 &&& 63)) hx hb dL_law_639 rfl ?_
  refine lv_aload_n hx hb dL_law_640 rfl (lv_at hl 0 rfl) ?_
  refine lv_iload hx hb dL_law_641 (lv_at hl 4 rfl) ?_
  refine lv_iconst (v := nI 5) hx hb dL_law_643 (by decide) ?_
  refine bm_nadd hx hb dL_law_644 ?_
  refine bm_sld hx hb hXs hbl hbA hS (j := (i + 5)) (by omega) (by omega) dL_law_645 ?_
  refine lv_i2l (v := (xs (i + 5)).toInt64) hx hb dL_law_646 rfl ?_
  refine lv_ldc2 (v := 4294967295) hx hb hown (hts (.constantLong RL 75 4294967295) (by decide +kernel)) dL_law_647 ?_
  refine lv_land hx hb dL_law_650 ?_
  refine lv_lor hx hb dL_law_651 ?_
  refine lv_aload_n hx hb dL_law_652 rfl (lv_at hl 3 rfl) ?_
  refine bx_xhcallS (n := 5) (As := [.ref (ad 0), .int (xs (i + 1)), .long ((((xs (i + 2)).toInt64) <<< ((nI 32).toInt64 &&& 63)) ||| (((xs (i + 3)).toInt64) &&& 4294967295)), .long ((((xs (i + 4)).toInt64) <<< ((nI 32).toInt64 &&& 63)) ||| (((xs (i + 5)).toInt64) &&& 4294967295)), .ref (ad 62)]) (rest := []) ⟨hx, hb, hml, hown, hts⟩ (H_push hlt  okc H.size) rfl rfl (Nat.le_of_ble_eq_true rfl) (Nat.le_of_ble_eq_true rfl) (gdH (by decide +kernel)) (by decide +kernel) rfl hK hP hD hS hA hX hZ hN1 hN2 hAn rfl hl.1 rfl (Nat.le_of_ble_eq_true rfl) dL_law_653 hcs (fun ws_1 r_2 h_3 H locs hP hD hS => ?_)
  obtain ⟨bmn_4, pan_5, p0n_6, p1n_7, p2n_8, lin_9, win_10, oun_11, okn_12, hnn_13, rfl, v_14, rfl⟩ := h_3
  have hP : va_P D vwCl (WW ad cJ cI cZ bmn_4 pan_5 p0n_6 p1n_7 p2n_8 lin_9 win_10 mt ms ma mp mk mn oun_11) H := hP
  have hD : va_D A (WW ad cJ cI cZ bmn_4 pan_5 p0n_6 p1n_7 p2n_8 lin_9 win_10 mt ms ma mp mk mn oun_11) := hD
  refine lv_istore (lv' := [(5, .int v_14), (0, .ref b), (1, .ref (ad 0)), (2, .ref (ad 42)), (3, .ref (ad 62)), (4, .int (nI i))]) hx hb dL_law_656 hl (by decide) rfl (fun ls hl => ?_)
  refine lv_aload_n hx hb dL_law_658 rfl (lv_at hl 3 rfl) ?_
  refine lv_aload_n hx hb dL_law_659 rfl (lv_at hl 1 rfl) ?_
  refine lv_iload hx hb dL_law_660 (lv_at hl 5 rfl) ?_
  refine lv_iconst (v := nI 1) hx hb dL_law_662 (by decide) ?_
  refine bm_nadd hx hb dL_law_663 ?_
  refine bm_sld hx hb hXs hbl hbA hS (j := (i + 1)) (by omega) (by omega) dL_law_664 ?_
  refine lv_aload_n hx hb dL_law_665 rfl (lv_at hl 1 rfl) ?_
  refine lv_iload hx hb dL_law_666 (lv_at hl 5 rfl) ?_
  refine lv_iconst (v := nI 2) hx hb dL_law_668 (by decide) ?_
  refine bm_nadd hx hb dL_law_669 ?_
  refine bm_sld hx hb hXs hbl hbA hS (j := (i + 2)) (by omega) (by omega) dL_law_670 ?_
  refine lv_i2l (v := (xs (i + 2)).toInt64) hx hb dL_law_671 rfl ?_
  refine lv_bipush (v := nI 32) hx hb dL_law_672 (by decide) ?_
  refine lv_lshl (v := ((xs (i + 2)).toInt64) <<< ((nI 32).toInt64 &&& 63)) hx hb dL_law_674 rfl ?_
  refine lv_aload_n hx hb dL_law_675 rfl (lv_at hl 1 rfl) ?_
  refine lv_iload hx hb dL_law_676 (lv_at hl 5 rfl) ?_
  refine lv_iconst (v := nI 3) hx hb dL_law_678 (by decide) ?_
  refine bm_nadd hx hb dL_law_679 ?_
  refine bm_sld hx hb hXs hbl hbA hS (j := (i + 3)) (by omega) (by omega) dL_law_680 ?_
  refine lv_i2l (v := (xs (i + 3)).toInt64) hx hb dL_law_681 rfl ?_
  refine lv_ldc2 (v := 4294967295) hx hb hown (hts (.constantLong RL 75 4294967295) (by decide +kernel)) dL_law_682 ?_
  refine lv_land hx hb dL_law_685 ?_
  refine lv_lor hx hb dL_law_686 ?_
  refine lv_aload_n hx hb dL_law_687 rfl (lv_at hl 1 rfl) ?_
  refine lv_iload hx hb dL_law_688 (lv_at hl 5 rfl) ?_
  refine lv_iconst (v := nI 4) hx hb dL_law_690 (by decide) ?_
  refine bm_nadd hx hb dL_law_691 ?_
  refine bm_sld hx hb hXs hbl hbA hS (j := (i + 4)) (by omega) (by omega) dL_law_692 ?_
  refine lv_i2l (v := (xs (i + 4)).toInt64) hx hb dL_law_693 rfl ?_
  refine lv_bipush (v := nI 32) hx hb dL_law_694 (by decide) ?_
  refine lv_lshl (v := ((xs (i + 4)).toInt64) <<< ((nI 32).toInt64 &&& 63)) hx hb dL_law_696 rfl ?_
  refine lv_aload_n hx hb dL_law_697 rfl (lv_at hl 1 rfl) ?_
  refine lv_iload hx hb dL_law_698 (lv_at hl 5 rfl) ?_
  refine lv_iconst (v := nI 5) hx hb dL_law_700 (by decide) ?_
  refine bm_nadd hx hb dL_law_701 ?_
  refine bm_sld hx hb hXs hbl hbA hS (j := (i + 5)) (by omega) (by omega) dL_law_702 ?_
  refine lv_i2l (v := (xs (i + 5)).toInt64) hx hb dL_law_703 rfl ?_
  refine lv_ldc2 (v := 4294967295) hx hb hown (hts (.constantLong RL 75 4294967295) (by decide +kernel)) dL_law_704 ?_
  refine lv_land hx hb dL_law_707 ?_
  refine lv_lor hx hb dL_law_708 ?_
  refine bm_xcallV (As := [.int (xs (i + 1)), .long ((((xs (i + 2)).toInt64) <<< ((nI 32).toInt64 &&& 63)) ||| (((xs (i + 3)).toInt64) &&& 4294967295)), .long ((((xs (i + 4)).toInt64) <<< ((nI 32).toInt64 &&& 63)) ||| (((xs (i + 5)).toInt64) &&& 4294967295))]) (rest := []) ⟨hx, hb, hml, hown, hts⟩ (Y_push   okm ) (cwV 3 hts (gdVL (by decide +kernel) (by decide +kernel) (by decide +kernel) (by decide +kernel) (by decide +kernel)) rfl rfl rfl (by decide +kernel) ⟨Nat.le_of_ble_eq_true rfl, Nat.le_of_ble_eq_true rfl⟩) hK hP hD hS hA 42 5 rfl rfl rfl hl.1 rfl (Nat.le_of_ble_eq_true rfl) dL_law_709 hcs (fun ws_15 r_16 h_17 H locs hP hD hS => ?_)
  obtain ⟨mtn_18, msn_19, man_20, mpn_21, mkn_22, mnn_23, okn_24, hnn_25, rfl, v_26, rfl⟩ := h_17
  have hP : va_P D vwCl (WW ad cJ cI cZ bmn_4 pan_5 p0n_6 p1n_7 p2n_8 lin_9 win_10 mtn_18 msn_19 man_20 mpn_21 mkn_22 mnn_23 oun_11) H := hP
  have hD : va_D A (WW ad cJ cI cZ bmn_4 pan_5 p0n_6 p1n_7 p2n_8 lin_9 win_10 mtn_18 msn_19 man_20 mpn_21 mkn_22 mnn_23 oun_11) := hD
  refine lv_istore (lv' := [(6, .int v_26), (5, .int v_14), (0, .ref b), (1, .ref (ad 0)), (2, .ref (ad 42)), (3, .ref (ad 62)), (4, .int (nI i))]) hx hb dL_law_712 hl (by decide) rfl (fun ls hl => ?_)
  refine lv_goto (tgt := 1326) hx hb dL_law_714 (by decide) ?_
  exact kk bmn_4 pan_5 p0n_6 p1n_7 p2n_8 lin_9 win_10 mtn_18 msn_19 man_20 mpn_21 mkn_22 mnn_23 oun_11 okn_12 okn_24 (hnn_13.trans (heq.trans hnn_25.symm)) _ _ hP hD hS _ (lv_sub hl [2, 3, 4, 5, 6] rfl)

set_option maxHeartbeats 16000000 in
set_option maxRecDepth 100000 in
theorem V_6 {p : Program} {l : Launch} {e : Env} {s : State} {m : MethodId} {below : List Frame} {meth : Method} {c : Code} {b L : Nat} {xs : Nat → Int32} (hlt : l.stackTraces = false) (hL : L ≤ 5635) (C0 : lw_At p s m meth c b L xs) (hX : bx_X xW s) (hZ : bx_S RX4 xS s) (hN1 : bx_N "java/lang/IllegalArgumentException" "java/lang/IndexOutOfBoundsException" s) (hN2 : bx_N "java/lang/IllegalStateException" "java/lang/IndexOutOfBoundsException" s) {A : Nat → Prop} (hA : ∀ q : Nat, s.heap.size ≤ q → A q) (hAn : ∀ q : Nat, q < s.heap.size → ¬ A q) {D : va_G} {ad : Nat → Nat} {cJ cI cZ : ClassId} {bm : gBM} {pa : gPA} {p0 p1 p2 : gPL} {li : gLI} {wi : gWI} {mt : Nat} {ms : gMS} {ma : gMA} {mp : gMP} {mk : gMK} {mn : gMN} {ou : Nat → Int64} {i : Nat} (hi : i + 11 ≤ L) (okc : okC bm pa p0 p1 p2 li wi) (okm : okM ms ma mp mk mn) (heq : wi.2.2.2.2.2.2.2.2.2.1 = ms.2.2.2.2.2.1)  {H : Heap} {locs : List Loc} {cells slots : Nat} (hcs : cells + 1 ≤ room_1.cells ∧ slots + 6 ≤ room_1.slots) (hK : va_K D vwCl [(cJ, .long), (cI, .int), (cZ, .boolean)] s) (hP : va_P D vwCl (WW ad cJ cI cZ bm pa p0 p1 p2 li wi mt ms ma mp mk mn ou) H) (hD : va_D A (WW ad cJ cI cZ bm pa p0 p1 p2 li wi mt ms ma mp mk mn ou)) (hS : va_S A s.heap H locs) {ls : Array Slot} (hl : lv_has ls 8 [(0, .ref b), (1, .ref (ad 0)), (2, .ref (ad 42)), (3, .ref (ad 62)), (4, .int (nI i))]) (kk : ∀ (bm : gBM) (pa : gPA) (p0 p1 p2 : gPL) (li : gLI) (wi : gWI) (mt : Nat) (ms : gMS) (ma : gMA) (mp : gMP) (mk : gMK) (mn : gMN) (ou : Nat → Int64), okC bm pa p0 p1 p2 li wi → okM ms ma mp mk mn → wi.2.2.2.2.2.2.2.2.2.1 = ms.2.2.2.2.2.1 → ∀ (H : Heap) (locs : List Loc), va_P D vwCl (WW ad cJ cI cZ bm pa p0 p1 p2 li wi mt ms ma mp mk mn ou) H → va_D A (WW ad cJ cI cZ bm pa p0 p1 p2 li wi mt ms ma mp mk mn ou) → va_S A s.heap H locs → ∀ ls : Array Slot, lv_has ls 8 [(0, .ref b), (1, .ref (ad 0)), (2, .ref (ad 42)), (3, .ref (ad 62)), (4, .int (nI i))] → W p l e room_1 s m #[Value.ref b] below meth c H locs (cells + 1) (slots + 6) (lw_Z below #[Value.ref b] s) (F0 m 1326 ls [])) : W p l e room_1 s m #[Value.ref b] below meth c H locs cells slots (lw_Z below #[Value.ref b] s) (F0 m 717 ls []) := by
  obtain ⟨hx, hb, hr, hml, hown, hts, hXs, hbl, hlocks, hgv⟩ := id C0
  have hbA := hAn b hbl
  refine lv_aload_n hx hb dL_law_717 rfl (lv_at hl 1 rfl) ?_
  refine lv_aload_n hx hb dL_law_718 rfl (lv_at hl 0 rfl) ?_
  refine lv_iload hx hb dL_law_719 (lv_at hl 4 rfl) ?_
  refine lv_iconst (v := nI 1) hx hb dL_law_721 (by decide) ?_
  refine bm_nadd hx hb dL_law_722 ?_
  refine bm_sld hx hb hXs hbl hbA hS (j := (i + 1)) (by omega) (by omega) dL_law_723 ?_
  refine lv_aload_n hx hb dL_law_724 rfl (lv_at hl 0 rfl) ?_
  refine lv_iload hx hb dL_law_725 (lv_at hl 4 rfl) ?_
  refine lv_iconst (v := nI 2) hx hb dL_law_727 (by decide) ?_
  refine bm_nadd hx hb dL_law_728 ?_
  refine bm_sld hx hb hXs hbl hbA hS (j := (i + 2)) (by omega) (by omega) dL_law_729 ?_
  refine lv_aload_n hx hb dL_law_730 rfl (lv_at hl 3 rfl) ?_
  refine bx_xhcallS (n := 4) (As := [.ref (ad 0), .int (xs (i + 1)), .int (xs (i + 2)), .ref (ad 62)]) (rest := []) ⟨hx, hb, hml, hown, hts⟩ (H_at hlt  okc H.size) rfl rfl (Nat.le_of_ble_eq_true rfl) (Nat.le_of_ble_eq_true rfl) (gdH (by decide +kernel)) (by decide +kernel) rfl hK hP hD hS hA hX hZ hN1 hN2 hAn rfl hl.1 rfl (Nat.le_of_ble_eq_true rfl) dL_law_731 hcs (fun ws_1 r_2 h_3 H locs hP hD hS => ?_)
  obtain ⟨bmn_4, pan_5, p0n_6, p1n_7, p2n_8, lin_9, win_10, oun_11, okn_12, hnn_13, rfl, v_14, rfl⟩ := h_3
  have hP : va_P D vwCl (WW ad cJ cI cZ bmn_4 pan_5 p0n_6 p1n_7 p2n_8 lin_9 win_10 mt ms ma mp mk mn oun_11) H := hP
  have hD : va_D A (WW ad cJ cI cZ bmn_4 pan_5 p0n_6 p1n_7 p2n_8 lin_9 win_10 mt ms ma mp mk mn oun_11) := hD
  refine lv_istore (lv' := [(5, .int v_14), (0, .ref b), (1, .ref (ad 0)), (2, .ref (ad 42)), (3, .ref (ad 62)), (4, .int (nI i))]) hx hb dL_law_734 hl (by decide) rfl (fun ls hl => ?_)
  refine lv_aload_n hx hb dL_law_736 rfl (lv_at hl 3 rfl) ?_
  refine lv_aload_n hx hb dL_law_737 rfl (lv_at hl 1 rfl) ?_
  refine lv_iload hx hb dL_law_738 (lv_at hl 5 rfl) ?_
  refine lv_iconst (v := nI 1) hx hb dL_law_740 (by decide) ?_
  refine bm_nadd hx hb dL_law_741 ?_
  refine bm_sld hx hb hXs hbl hbA hS (j := (i + 1)) (by omega) (by omega) dL_law_742 ?_
  refine lv_aload_n hx hb dL_law_743 rfl (lv_at hl 1 rfl) ?_
  refine lv_iload hx hb dL_law_744 (lv_at hl 5 rfl) ?_
  refine lv_iconst (v := nI 2) hx hb dL_law_746 (by decide) ?_
  refine bm_nadd hx hb dL_law_747 ?_
  refine bm_sld hx hb hXs hbl hbA hS (j := (i + 2)) (by omega) (by omega) dL_law_748 ?_
  refine bm_xcallV (As := [.int (xs (i + 1)), .int (xs (i + 2))]) (rest := []) ⟨hx, hb, hml, hown, hts⟩ (Y_at   okm ) (cwV 2 hts (gdVL (by decide +kernel) (by decide +kernel) (by decide +kernel) (by decide +kernel) (by decide +kernel)) rfl rfl rfl (by decide +kernel) ⟨Nat.le_of_ble_eq_true rfl, Nat.le_of_ble_eq_true rfl⟩) hK hP hD hS hA 42 5 rfl rfl rfl hl.1 rfl (Nat.le_of_ble_eq_true rfl) dL_law_749 hcs (fun ws_15 r_16 h_17 H locs hP hD hS => ?_)
  obtain ⟨mtn_18, msn_19, man_20, mpn_21, mkn_22, mnn_23, okn_24, hnn_25, rfl, v_26, rfl⟩ := h_17
  have hP : va_P D vwCl (WW ad cJ cI cZ bmn_4 pan_5 p0n_6 p1n_7 p2n_8 lin_9 win_10 mtn_18 msn_19 man_20 mpn_21 mkn_22 mnn_23 oun_11) H := hP
  have hD : va_D A (WW ad cJ cI cZ bmn_4 pan_5 p0n_6 p1n_7 p2n_8 lin_9 win_10 mtn_18 msn_19 man_20 mpn_21 mkn_22 mnn_23 oun_11) := hD
  refine lv_lstore (lv' := [(6, .long v_26), (5, .int v_14), (0, .ref b), (1, .ref (ad 0)), (2, .ref (ad 42)), (3, .ref (ad 62)), (4, .int (nI i))]) hx hb dL_law_752 hl (by decide) rfl (fun ls hl => ?_)
  refine lv_goto (tgt := 1326) hx hb dL_law_754 (by decide) ?_
  exact kk bmn_4 pan_5 p0n_6 p1n_7 p2n_8 lin_9 win_10 mtn_18 msn_19 man_20 mpn_21 mkn_22 mnn_23 oun_11 okn_12 okn_24 (hnn_13.trans (heq.trans hnn_25.symm)) _ _ hP hD hS _ (lv_sub hl [2, 3, 4, 5, 6] rfl)

set_option maxHeartbeats 16000000 in
set_option maxRecDepth 100000 in
theorem V_7 {p : Program} {l : Launch} {e : Env} {s : State} {m : MethodId} {below : List Frame} {meth : Method} {c : Code} {b L : Nat} {xs : Nat → Int32} (hlt : l.stackTraces = false) (hL : L ≤ 5635) (C0 : lw_At p s m meth c b L xs) (hX : bx_X xW s) (hZ : bx_S RX4 xS s) (hN1 : bx_N "java/lang/IllegalArgumentException" "java/lang/IndexOutOfBoundsException" s) (hN2 : bx_N "java/lang/IllegalStateException" "java/lang/IndexOutOfBoundsException" s) {A : Nat → Prop} (hA : ∀ q : Nat, s.heap.size ≤ q → A q) (hAn : ∀ q : Nat, q < s.heap.size → ¬ A q) {D : va_G} {ad : Nat → Nat} {cJ cI cZ : ClassId} {bm : gBM} {pa : gPA} {p0 p1 p2 : gPL} {li : gLI} {wi : gWI} {mt : Nat} {ms : gMS} {ma : gMA} {mp : gMP} {mk : gMK} {mn : gMN} {ou : Nat → Int64} {i : Nat} (hi : i + 11 ≤ L) (okc : okC bm pa p0 p1 p2 li wi) (okm : okM ms ma mp mk mn) (heq : wi.2.2.2.2.2.2.2.2.2.1 = ms.2.2.2.2.2.1)  {H : Heap} {locs : List Loc} {cells slots : Nat} (hcs : cells + 1 ≤ room_1.cells ∧ slots + 6 ≤ room_1.slots) (hK : va_K D vwCl [(cJ, .long), (cI, .int), (cZ, .boolean)] s) (hP : va_P D vwCl (WW ad cJ cI cZ bm pa p0 p1 p2 li wi mt ms ma mp mk mn ou) H) (hD : va_D A (WW ad cJ cI cZ bm pa p0 p1 p2 li wi mt ms ma mp mk mn ou)) (hS : va_S A s.heap H locs) {ls : Array Slot} (hl : lv_has ls 8 [(0, .ref b), (1, .ref (ad 0)), (2, .ref (ad 42)), (3, .ref (ad 62)), (4, .int (nI i))]) (kk : ∀ (bm : gBM) (pa : gPA) (p0 p1 p2 : gPL) (li : gLI) (wi : gWI) (mt : Nat) (ms : gMS) (ma : gMA) (mp : gMP) (mk : gMK) (mn : gMN) (ou : Nat → Int64), okC bm pa p0 p1 p2 li wi → okM ms ma mp mk mn → wi.2.2.2.2.2.2.2.2.2.1 = ms.2.2.2.2.2.1 → ∀ (H : Heap) (locs : List Loc), va_P D vwCl (WW ad cJ cI cZ bm pa p0 p1 p2 li wi mt ms ma mp mk mn ou) H → va_D A (WW ad cJ cI cZ bm pa p0 p1 p2 li wi mt ms ma mp mk mn ou) → va_S A s.heap H locs → ∀ ls : Array Slot, lv_has ls 8 [(0, .ref b), (1, .ref (ad 0)), (2, .ref (ad 42)), (3, .ref (ad 62)), (4, .int (nI i))] → W p l e room_1 s m #[Value.ref b] below meth c H locs (cells + 1) (slots + 6) (lw_Z below #[Value.ref b] s) (F0 m 1326 ls [])) : W p l e room_1 s m #[Value.ref b] below meth c H locs cells slots (lw_Z below #[Value.ref b] s) (F0 m 757 ls []) := by
  obtain ⟨hx, hb, hr, hml, hown, hts, hXs, hbl, hlocks, hgv⟩ := id C0
  have hbA := hAn b hbl
  refine lv_aload_n hx hb dL_law_757 rfl (lv_at hl 1 rfl) ?_
  refine lv_aload_n hx hb dL_law_758 rfl (lv_at hl 0 rfl) ?_
  refine lv_iload hx hb dL_law_759 (lv_at hl 4 rfl) ?_
  refine lv_iconst (v := nI 1) hx hb dL_law_761 (by decide) ?_
  refine bm_nadd hx hb dL_law_762 ?_
  refine bm_sld hx hb hXs hbl hbA hS (j := (i + 1)) (by omega) (by omega) dL_law_763 ?_
  refine lv_i2l (v := (xs (i + 1)).toInt64) hx hb dL_law_764 rfl ?_
  refine lv_bipush (v := nI 32) hx hb dL_law_765 (by decide) ?_
  refine lv_lshl (v := ((xs (i + 1)).toInt64) <<< ((nI 32).toInt64 &&& 63)) hx hb dL_law_767 rfl ?_
  refine lv_aload_n hx hb dL_law_768 rfl (lv_at hl 0 rfl) ?_
  refine lv_iload hx hb dL_law_769 (lv_at hl 4 rfl) ?_
  refine lv_iconst (v := nI 2) hx hb dL_law_771 (by decide) ?_
  refine bm_nadd hx hb dL_law_772 ?_
  refine bm_sld hx hb hXs hbl hbA hS (j := (i + 2)) (by omega) (by omega) dL_law_773 ?_
  refine lv_i2l (v := (xs (i + 2)).toInt64) hx hb dL_law_774 rfl ?_
  refine lv_ldc2 (v := 4294967295) hx hb hown (hts (.constantLong RL 75 4294967295) (by decide +kernel)) dL_law_775 ?_
  refine lv_land hx hb dL_law_778 ?_
  refine lv_lor hx hb dL_law_779 ?_
  refine lv_aload_n hx hb dL_law_780 rfl (lv_at hl 3 rfl) ?_
  refine bx_xhcallS (n := 3) (As := [.ref (ad 0), .long ((((xs (i + 1)).toInt64) <<< ((nI 32).toInt64 &&& 63)) ||| (((xs (i + 2)).toInt64) &&& 4294967295)), .ref (ad 62)]) (rest := []) ⟨hx, hb, hml, hown, hts⟩ (H_run hlt  okc H.size) rfl rfl (Nat.le_of_ble_eq_true rfl) (Nat.le_of_ble_eq_true rfl) (gdH (by decide +kernel)) (by decide +kernel) rfl hK hP hD hS hA hX hZ hN1 hN2 hAn rfl hl.1 rfl (Nat.le_of_ble_eq_true rfl) dL_law_781 hcs (fun ws_1 r_2 h_3 H locs hP hD hS => ?_)
  obtain ⟨bmn_4, pan_5, p0n_6, p1n_7, p2n_8, lin_9, win_10, oun_11, okn_12, hnn_13, rfl, v_14, rfl⟩ := h_3
  have hP : va_P D vwCl (WW ad cJ cI cZ bmn_4 pan_5 p0n_6 p1n_7 p2n_8 lin_9 win_10 mt ms ma mp mk mn oun_11) H := hP
  have hD : va_D A (WW ad cJ cI cZ bmn_4 pan_5 p0n_6 p1n_7 p2n_8 lin_9 win_10 mt ms ma mp mk mn oun_11) := hD
  refine lv_istore (lv' := [(5, .int v_14), (0, .ref b), (1, .ref (ad 0)), (2, .ref (ad 42)), (3, .ref (ad 62)), (4, .int (nI i))]) hx hb dL_law_784 hl (by decide) rfl (fun ls hl => ?_)
  refine lv_aload_n hx hb dL_law_786 rfl (lv_at hl 3 rfl) ?_
  refine lv_aload_n hx hb dL_law_787 rfl (lv_at hl 1 rfl) ?_
  refine lv_iload hx hb dL_law_788 (lv_at hl 5 rfl) ?_
  refine lv_iconst (v := nI 1) hx hb dL_law_790 (by decide) ?_
  refine bm_nadd hx hb dL_law_791 ?_
  refine bm_sld hx hb hXs hbl hbA hS (j := (i + 1)) (by omega) (by omega) dL_law_792 ?_
  refine lv_i2l (v := (xs (i + 1)).toInt64) hx hb dL_law_793 rfl ?_
  refine lv_bipush (v := nI 32) hx hb dL_law_794 (by decide) ?_
  refine lv_lshl (v := ((xs (i + 1)).toInt64) <<< ((nI 32).toInt64 &&& 63)) hx hb dL_law_796 rfl ?_
  refine lv_aload_n hx hb dL_law_797 rfl (lv_at hl 1 rfl) ?_
  refine lv_iload hx hb dL_law_798 (lv_at hl 5 rfl) ?_
  refine lv_iconst (v := nI 2) hx hb dL_law_800 (by decide) ?_
  refine bm_nadd hx hb dL_law_801 ?_
  refine bm_sld hx hb hXs hbl hbA hS (j := (i + 2)) (by omega) (by omega) dL_law_802 ?_
  refine lv_i2l (v := (xs (i + 2)).toInt64) hx hb dL_law_803 rfl ?_
  refine lv_ldc2 (v := 4294967295) hx hb hown (hts (.constantLong RL 75 4294967295) (by decide +kernel)) dL_law_804 ?_
  refine lv_land hx hb dL_law_807 ?_
  refine lv_lor hx hb dL_law_808 ?_
  refine bm_xcallV (As := [.long ((((xs (i + 1)).toInt64) <<< ((nI 32).toInt64 &&& 63)) ||| (((xs (i + 2)).toInt64) &&& 4294967295))]) (rest := []) ⟨hx, hb, hml, hown, hts⟩ (Y_run   okm ) (cwV 1 hts (gdVL (by decide +kernel) (by decide +kernel) (by decide +kernel) (by decide +kernel) (by decide +kernel)) rfl rfl rfl (by decide +kernel) ⟨Nat.le_of_ble_eq_true rfl, Nat.le_of_ble_eq_true rfl⟩) hK hP hD hS hA 42 5 rfl rfl rfl hl.1 rfl (Nat.le_of_ble_eq_true rfl) dL_law_809 hcs (fun ws_15 r_16 h_17 H locs hP hD hS => ?_)
  obtain ⟨mtn_18, msn_19, man_20, mpn_21, mkn_22, mnn_23, okn_24, hnn_25, rfl, v_26, rfl⟩ := h_17
  have hP : va_P D vwCl (WW ad cJ cI cZ bmn_4 pan_5 p0n_6 p1n_7 p2n_8 lin_9 win_10 mtn_18 msn_19 man_20 mpn_21 mkn_22 mnn_23 oun_11) H := hP
  have hD : va_D A (WW ad cJ cI cZ bmn_4 pan_5 p0n_6 p1n_7 p2n_8 lin_9 win_10 mtn_18 msn_19 man_20 mpn_21 mkn_22 mnn_23 oun_11) := hD
  refine lv_istore (lv' := [(6, .int v_26), (5, .int v_14), (0, .ref b), (1, .ref (ad 0)), (2, .ref (ad 42)), (3, .ref (ad 62)), (4, .int (nI i))]) hx hb dL_law_812 hl (by decide) rfl (fun ls hl => ?_)
  refine lv_goto (tgt := 1326) hx hb dL_law_814 (by decide) ?_
  exact kk bmn_4 pan_5 p0n_6 p1n_7 p2n_8 lin_9 win_10 mtn_18 msn_19 man_20 mpn_21 mkn_22 mnn_23 oun_11 okn_12 okn_24 (hnn_13.trans (heq.trans hnn_25.symm)) _ _ hP hD hS _ (lv_sub hl [2, 3, 4, 5, 6] rfl)
