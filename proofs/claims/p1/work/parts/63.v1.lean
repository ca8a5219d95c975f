set_option maxHeartbeats 8000000 in
set_option maxRecDepth 100000 in
theorem v_3 {p : Program} {l : Launch} {e : Env} {s : State} {m : MethodId} {below : List Frame} {meth : Method} {c : Code} {b L : Nat} {xs : Nat → Int32} (hlt : l.stackTraces = false) (hL : L = 14) (C0 : lw_At p s m meth c b L xs) (hX : bx_X xW s) (hZ : bx_S RX4 xS s) {A : Nat → Prop} (hA : ∀ q : Nat, s.heap.size ≤ q → A q) (hAn : ∀ q : Nat, q < s.heap.size → ¬ A q) {D : va_G} {ad : Nat → Nat} {cJ cI cZ : ClassId} {bm : gBM} {pa : gPA} {p0 p1 p2 : gPL} {li : gLI} {wi : gWI} {mt : Nat} {ms : gMS} {ma : gMA} {mp : gMP} {mk : gMK} {mn : gMN} {ou : Nat → Int64}  {H : Heap} {locs : List Loc} (hK : va_K D vwCl [(cJ, .long), (cI, .int), (cZ, .boolean)] s) (hP : va_P D vwCl (WW ad cJ cI cZ (bm.1, bm.2.1, bm.2.2.1, 0) (pa.1, pa.2.1, pa.2.2.1, pa.2.2.2.1, pa.2.2.2.2.1, pa.2.2.2.2.2.1, 0) p0 p1 p2 (li.1, li.2.1, li.2.2.1, li.2.2.2.1, li.2.2.2.2.1, li.2.2.2.2.2.1, li.2.2.2.2.2.2.1, li.2.2.2.2.2.2.2.1, 0, 0) (wi.1, wi.2.1, wi.2.2.1, wi.2.2.2.1, wi.2.2.2.2.1, wi.2.2.2.2.2.1, wi.2.2.2.2.2.2.1, wi.2.2.2.2.2.2.2.1, wi.2.2.2.2.2.2.2.2.1, 0, 0) mt (ms.1, ms.2.1, 0, 0, 0, 0, 0, ms.2.2.2.2.2.2.2) ma mp mk mn ou) H) (hD : va_D A (WW ad cJ cI cZ (bm.1, bm.2.1, bm.2.2.1, 0) (pa.1, pa.2.1, pa.2.2.1, pa.2.2.2.1, pa.2.2.2.2.1, pa.2.2.2.2.2.1, 0) p0 p1 p2 (li.1, li.2.1, li.2.2.1, li.2.2.2.1, li.2.2.2.2.1, li.2.2.2.2.2.1, li.2.2.2.2.2.2.1, li.2.2.2.2.2.2.2.1, 0, 0) (wi.1, wi.2.1, wi.2.2.1, wi.2.2.2.1, wi.2.2.2.2.1, wi.2.2.2.2.2.1, wi.2.2.2.2.2.2.1, wi.2.2.2.2.2.2.2.1, wi.2.2.2.2.2.2.2.2.1, 0, 0) mt (ms.1, ms.2.1, 0, 0, 0, 0, 0, ms.2.2.2.2.2.2.2) ma mp mk mn ou)) (hS : va_S A s.heap H locs) {ls : Array Slot} (hl : lv_has ls 8 [(0, .ref b), (1, .ref (ad 0)), (2, .ref (ad 42)), (3, .ref (ad 62)), (4, .int (nI 3))]) : W p l e room_1 s m #[Value.ref b] below meth c H locs 63 2864 (lw_Z below #[Value.ref b] s) (F0 m 556 ls []) := by
  obtain ⟨hx, hb, hr, hml, hown, hts, hXs, hbl, hlocks, hgv⟩ := id C0
  have hbA := hAn b hbl
  refine lv_aload_n hx hb dL_law_556 rfl (lv_at hl 1 rfl) ?_
  refine bm_wcallV (As := []) (rest := []) ⟨hx, hb, hml, hown, hts⟩ (k_net) (cwV 0 hts (gdVL (by decide +kernel) (by decide +kernel) (by decide +kernel) (by decide +kernel) (by decide +kernel)) rfl rfl rfl (by decide +kernel) ⟨Nat.le_of_ble_eq_true rfl, Nat.le_of_ble_eq_true rfl⟩) hK hP hD hS hA 0 4 rfl rfl rfl hl.1 rfl (Nat.le_of_ble_eq_true rfl) dL_law_557 ⟨Nat.le_of_ble_eq_true rfl, Nat.le_of_ble_eq_true rfl⟩ (fun H locs hP hD hS => ?_)
  have hP : va_P D vwCl (WW ad cJ cI cZ (bm.1, bm.2.1, bm.2.2.1, 0) (pa.1, pa.2.1, pa.2.2.1, pa.2.2.2.1, pa.2.2.2.2.1, pa.2.2.2.2.2.1, 0) p0 p1 p2 (li.1, li.2.1, li.2.2.1, li.2.2.2.1, li.2.2.2.2.1, li.2.2.2.2.2.1, li.2.2.2.2.2.2.1, li.2.2.2.2.2.2.2.1, 0, 0) (wi.1, wi.2.1, wi.2.2.1, wi.2.2.2.1, wi.2.2.2.2.1, wi.2.2.2.2.2.1, wi.2.2.2.2.2.2.1, wi.2.2.2.2.2.2.2.1, wi.2.2.2.2.2.2.2.2.1, 0 + 1, 0) mt (ms.1, ms.2.1, 0, 0, 0, 0, 0, ms.2.2.2.2.2.2.2) ma mp mk mn ou) H := hP
  have hD : va_D A (WW ad cJ cI cZ (bm.1, bm.2.1, bm.2.2.1, 0) (pa.1, pa.2.1, pa.2.2.1, pa.2.2.2.1, pa.2.2.2.2.1, pa.2.2.2.2.2.1, 0) p0 p1 p2 (li.1, li.2.1, li.2.2.1, li.2.2.2.1, li.2.2.2.2.1, li.2.2.2.2.2.1, li.2.2.2.2.2.2.1, li.2.2.2.2.2.2.2.1, 0, 0) (wi.1, wi.2.1, wi.2.2.1, wi.2.2.2.1, wi.2.2.2.2.1, wi.2.2.2.2.2.1, wi.2.2.2.2.2.2.1, wi.2.2.2.2.2.2.2.1, wi.2.2.2.2.2.2.2.2.1, 0 + 1, 0) mt (ms.1, ms.2.1, 0, 0, 0, 0, 0, ms.2.2.2.2.2.2.2) ma mp mk mn ou) := hD
  refine lv_aload_n hx hb dL_law_560 rfl (lv_at hl 2 rfl) ?_
  refine bm_wcallV (As := []) (rest := [.int (nI ((0 + 1) - 1))]) ⟨hx, hb, hml, hown, hts⟩ (m_net) (cwV 0 hts (gdVL (by decide +kernel) (by decide +kernel) (by decide +kernel) (by decide +kernel) (by decide +kernel)) rfl rfl rfl (by decide +kernel) ⟨Nat.le_of_ble_eq_true rfl, Nat.le_of_ble_eq_true rfl⟩) hK hP hD hS hA 42 5 rfl rfl rfl hl.1 rfl (Nat.le_of_ble_eq_true rfl) dL_law_561 ⟨Nat.le_of_ble_eq_true rfl, Nat.le_of_ble_eq_true rfl⟩ (fun H locs hP hD hS => ?_)
  have hP : va_P D vwCl (WW ad cJ cI cZ (bm.1, bm.2.1, bm.2.2.1, 0) (pa.1, pa.2.1, pa.2.2.1, pa.2.2.2.1, pa.2.2.2.2.1, pa.2.2.2.2.2.1, 0) p0 p1 p2 (li.1, li.2.1, li.2.2.1, li.2.2.2.1, li.2.2.2.2.1, li.2.2.2.2.2.1, li.2.2.2.2.2.2.1, li.2.2.2.2.2.2.2.1, 0, 0) (wi.1, wi.2.1, wi.2.2.1, wi.2.2.2.1, wi.2.2.2.2.1, wi.2.2.2.2.2.1, wi.2.2.2.2.2.2.1, wi.2.2.2.2.2.2.2.1, wi.2.2.2.2.2.2.2.2.1, 0 + 1, 0) (0) (ms.1, ms.2.1, 0, 0, 0, 0 + 1, 0, ms.2.2.2.2.2.2.2) ma mp mk mn ou) H := hP
  have hD : va_D A (WW ad cJ cI cZ (bm.1, bm.2.1, bm.2.2.1, 0) (pa.1, pa.2.1, pa.2.2.1, pa.2.2.2.1, pa.2.2.2.2.1, pa.2.2.2.2.2.1, 0) p0 p1 p2 (li.1, li.2.1, li.2.2.1, li.2.2.2.1, li.2.2.2.2.1, li.2.2.2.2.2.1, li.2.2.2.2.2.2.1, li.2.2.2.2.2.2.2.1, 0, 0) (wi.1, wi.2.1, wi.2.2.1, wi.2.2.2.1, wi.2.2.2.2.1, wi.2.2.2.2.2.1, wi.2.2.2.2.2.2.1, wi.2.2.2.2.2.2.2.1, wi.2.2.2.2.2.2.2.2.1, 0 + 1, 0) (0) (ms.1, ms.2.1, 0, 0, 0, 0 + 1, 0, ms.2.2.2.2.2.2.2) ma mp mk mn ou) := hD
  refine bm_ni_eq (x := ((0 + 1) - 1)) (y := ((0 + 1) - 1)) (tgt := 1705) hx hb (by omega) (by omega) dL_law_564 (by decide) (fun c_1 => ?_) (fun c_1 => ?_)
  · exact v_end hL C0 hAn (Nat.le_of_ble_eq_true rfl) (Nat.le_of_ble_eq_true rfl) hS (lv_sub hl [4, 0] rfl)
  · exact absurd rfl c_1

set_option maxHeartbeats 8000000 in
set_option maxRecDepth 100000 in
theorem v_4 {p : Program} {l : Launch} {e : Env} {s : State} {m : MethodId} {below : List Frame} {meth : Method} {c : Code} {b L : Nat} {xs : Nat → Int32} (hlt : l.stackTraces = false) (hL : L = 14) (C0 : lw_At p s m meth c b L xs) (hX : bx_X xW s) (hZ : bx_S RX4 xS s) {A : Nat → Prop} (hA : ∀ q : Nat, s.heap.size ≤ q → A q) (hAn : ∀ q : Nat, q < s.heap.size → ¬ A q) {D : va_G} {ad : Nat → Nat} {cJ cI cZ : ClassId} {bm : gBM} {pa : gPA} {p0 p1 p2 : gPL} {li : gLI} {wi : gWI} {mt : Nat} {ms : gMS} {ma : gMA} {mp : gMP} {mk : gMK} {mn : gMN} {ou : Nat → Int64}  {H : Heap} {locs : List Loc} (hK : va_K D vwCl [(cJ, .long), (cI, .int), (cZ, .boolean)] s) (hP : va_P D vwCl (WW ad cJ cI cZ (bm.1, bm.2.1, bm.2.2.1, 0) (pa.1, pa.2.1, pa.2.2.1, pa.2.2.2.1, pa.2.2.2.2.1, pa.2.2.2.2.2.1, 0) p0 p1 p2 (li.1, li.2.1, li.2.2.1, li.2.2.2.1, li.2.2.2.2.1, li.2.2.2.2.2.1, li.2.2.2.2.2.2.1, li.2.2.2.2.2.2.2.1, 0, 0) (wi.1, wi.2.1, wi.2.2.1, wi.2.2.2.1, wi.2.2.2.2.1, wi.2.2.2.2.2.1, wi.2.2.2.2.2.2.1, wi.2.2.2.2.2.2.2.1, wi.2.2.2.2.2.2.2.2.1, 0, 0) mt (ms.1, ms.2.1, 0, 0, 0, 0, 0, ms.2.2.2.2.2.2.2) ma mp mk mn ou) H) (hD : va_D A (WW ad cJ cI cZ (bm.1, bm.2.1, bm.2.2.1, 0) (pa.1, pa.2.1, pa.2.2.1, pa.2.2.2.1, pa.2.2.2.2.1, pa.2.2.2.2.2.1, 0) p0 p1 p2 (li.1, li.2.1, li.2.2.1, li.2.2.2.1, li.2.2.2.2.1, li.2.2.2.2.2.1, li.2.2.2.2.2.2.1, li.2.2.2.2.2.2.2.1, 0, 0) (wi.1, wi.2.1, wi.2.2.1, wi.2.2.2.1, wi.2.2.2.2.1, wi.2.2.2.2.2.1, wi.2.2.2.2.2.2.1, wi.2.2.2.2.2.2.2.1, wi.2.2.2.2.2.2.2.2.1, 0, 0) mt (ms.1, ms.2.1, 0, 0, 0, 0, 0, ms.2.2.2.2.2.2.2) ma mp mk mn ou)) (hS : va_S A s.heap H locs) {ls : Array Slot} (hl : lv_has ls 8 [(0, .ref b), (1, .ref (ad 0)), (2, .ref (ad 42)), (3, .ref (ad 62)), (4, .int (nI 3))]) : W p l e room_1 s m #[Value.ref b] below meth c H locs 63 2864 (lw_Z below #[Value.ref b] s) (F0 m 569 ls []) := by
  obtain ⟨hx, hb, hr, hml, hown, hts, hXs, hbl, hlocks, hgv⟩ := id C0
  have hbA := hAn b hbl
  refine lv_aload_n hx hb dL_law_569 rfl (lv_at hl 1 rfl) ?_
  refine lv_aload_n hx hb dL_law_570 rfl (lv_at hl 0 rfl) ?_
  refine lv_iload hx hb dL_law_571 (lv_at hl 4 rfl) ?_
  refine lv_iconst (v := nI 1) hx hb dL_law_573 (by decide) ?_
  refine bm_nadd hx hb dL_law_574 ?_
  refine bm_sld hx hb hXs hbl hbA hS (j := (3 + 1)) (by omega) (by omega) dL_law_575 ?_
  refine lv_aload_n hx hb dL_law_576 rfl (lv_at hl 0 rfl) ?_
  refine lv_iload hx hb dL_law_577 (lv_at hl 4 rfl) ?_
  refine lv_iconst (v := nI 2) hx hb dL_law_579 (by decide) ?_
  refine bm_nadd hx hb dL_law_580 ?_
  refine bm_sld hx hb hXs hbl hbA hS (j := (3 + 2)) (by omega) (by omega) dL_law_581 ?_
  refine lv_aload_n hx hb dL_law_582 rfl (lv_at hl 0 rfl) ?_
  refine lv_iload hx hb dL_law_583 (lv_at hl 4 rfl) ?_
  refine lv_iconst (v := nI 3) hx hb dL_law_585 (by decide) ?_
  refine bm_nadd hx hb dL_law_586 ?_
  refine bm_sld hx hb hXs hbl hbA hS (j := (3 + 3)) (by omega) (by omega) dL_law_587 ?_
  refine lv_i2l (v := (xs (3 + 3)).toInt64) hx hb dL_law_588 rfl ?_
  refine lv_bipush (v := nI 32) hx hb dL_law_589 (by decide) ?_
  refine lv_lshl (v := ((xs (3 + 3)).toInt64) <<< ((nI 32).toInt64 &&& 63)) hx hb dL_law_591 rfl ?_
  refine lv_aload_n hx hb dL_law_592 rfl (lv_at hl 0 rfl) ?_
  refine lv_iload hx hb dL_law_593 (lv_at hl 4 rfl) ?_
  refine lv_iconst (v := nI 4) hx hb dL_law_595 (by decide) ?_
  refine bm_nadd hx hb dL_law_596 ?_
  refine bm_sld hx hb hXs hbl hbA hS (j := (3 + 4)) (by omega) (by omega) dL_law_597 ?_
  refine lv_i2l (v := (xs (3 + 4)).toInt64) hx hb dL_law_598 rfl ?_
  refine lv_ldc2 (v := 4294967295) hx hb hown (hts (.constantLong RL 75 4294967295) (by decide +kernel)) dL_law_599 ?_
  refine lv_land hx hb dL_law_602 ?_
  refine lv_lor hx hb dL_law_603 ?_
  refine lv_aload_n hx hb dL_law_604 rfl (lv_at hl 0 rfl) ?_
  refine lv_iload hx hb dL_law_605 (lv_at hl 4 rfl) ?_
  refine lv_iconst (v := nI 5) hx hb dL_law_607 (by decide) ?_
  refine bm_nadd hx hb dL_law_608 ?_
  refine bm_sld hx hb hXs hbl hbA hS (j := (3 + 5)) (by omega) (by omega) dL_law_609 ?_
  refine lv_i2l (v := (xs (3 + 5)).toInt64) hx hb dL_law_610 rfl ?_
  refine lv_bipush (v := nI 32) hx hb dL_law_611 (by decide) ?_
  refine lv_lshl (v := ((xs (3 + 5)).toInt64) <<< ((nI 32).toInt64 &&& 63)) hx hb dL_law_613 rfl ?_
  refine lv_aload_n hx hb dL_law_614 rfl (lv_at hl 0 rfl) ?_
  refine lv_iload hx hb dL_law_615 (lv_at hl 4 rfl) ?_
  refine lv_bipush (v := nI 6) hx hb dL_law_617 (by decide) ?_
  refine bm_nadd hx hb dL_law_619 ?_
  refine bm_sld hx hb hXs hbl hbA hS (j := (3 + 6)) (by omega) (by omega) dL_law_620 ?_
  refine lv_i2l (v := (xs (3 + 6)).toInt64) hx hb dL_law_621 rfl ?_
  refine lv_ldc2 (v := 4294967295) hx hb hown (hts (.constantLong RL 75 4294967295) (by decide +kernel)) dL_law_622 ?_
  refine lv_land hx hb dL_law_625 ?_
  refine lv_lor hx hb dL_law_626 ?_
  refine lv_aload_n hx hb dL_law_627 rfl (lv_at hl 3 rfl) ?_
  refine bx_hcallS (n := 6) (As := [.ref (ad 0), .int (xs (3 + 1)), .int (xs (3 + 2)), .long ((((xs (3 + 3)).toInt64) <<< ((nI 32).toInt64 &&& 63)) ||| (((xs (3 + 4)).toInt64) &&& 4294967295)), .long ((((xs (3 + 5)).toInt64) <<< ((nI 32).toInt64 &&& 63)) ||| (((xs (3 + 6)).toInt64) &&& 4294967295)), .ref (ad 62)]) (rest := []) ⟨hx, hb, hml, hown, hts⟩ ((h_pin hlt) H.size) rfl rfl (Nat.le_of_ble_eq_true rfl) (Nat.le_of_ble_eq_true rfl) (gdH (by decide +kernel)) (by decide +kernel) rfl hK hP hD hS hA hX hZ hAn rfl hl.1 rfl (Nat.le_of_ble_eq_true rfl) dL_law_628 ⟨Nat.le_of_ble_eq_true rfl, Nat.le_of_ble_eq_true rfl⟩ (fun H locs hP hD hS => ?_)
  have hP : va_P D vwCl (WW ad cJ cI cZ (bm.1, bm.2.1, bm.2.2.1, 0) (pa.1, pa.2.1, pa.2.2.1, pa.2.2.2.1, pa.2.2.2.2.1, pa.2.2.2.2.2.1, 0) p0 p1 p2 (li.1, li.2.1, li.2.2.1, li.2.2.2.1, li.2.2.2.2.1, li.2.2.2.2.2.1, li.2.2.2.2.2.2.1, li.2.2.2.2.2.2.2.1, 0, 0) (wi.1, wi.2.1, wi.2.2.1, wi.2.2.2.1, wi.2.2.2.2.1, wi.2.2.2.2.2.1, wi.2.2.2.2.2.2.1, wi.2.2.2.2.2.2.2.1, wi.2.2.2.2.2.2.2.2.1, 0, 0) mt (ms.1, ms.2.1, 0, 0, 0, 0, 0, ms.2.2.2.2.2.2.2) ma mp mk mn ou) H := hP
  have hD : va_D A (WW ad cJ cI cZ (bm.1, bm.2.1, bm.2.2.1, 0) (pa.1, pa.2.1, pa.2.2.1, pa.2.2.2.1, pa.2.2.2.2.1, pa.2.2.2.2.2.1, 0) p0 p1 p2 (li.1, li.2.1, li.2.2.1, li.2.2.2.1, li.2.2.2.2.1, li.2.2.2.2.2.1, li.2.2.2.2.2.2.1, li.2.2.2.2.2.2.2.1, 0, 0) (wi.1, wi.2.1, wi.2.2.1, wi.2.2.2.1, wi.2.2.2.2.1, wi.2.2.2.2.2.1, wi.2.2.2.2.2.2.1, wi.2.2.2.2.2.2.2.1, wi.2.2.2.2.2.2.2.2.1, 0, 0) mt (ms.1, ms.2.1, 0, 0, 0, 0, 0, ms.2.2.2.2.2.2.2) ma mp mk mn ou) := hD
  refine lv_istore (lv' := [(5, .int (nI 1)), (0, .ref b), (1, .ref (ad 0)), (2, .ref (ad 42)), (3, .ref (ad 62)), (4, .int (nI 3))]) hx hb dL_law_631 hl (by decide) rfl (fun ls hl => ?_)
  refine lv_aload_n hx hb dL_law_633 rfl (lv_at hl 3 rfl) ?_
  refine lv_aload_n hx hb dL_law_634 rfl (lv_at hl 1 rfl) ?_
  refine lv_iload hx hb dL_law_635 (lv_at hl 5 rfl) ?_
  refine lv_iconst (v := nI 1) hx hb dL_law_637 (by decide) ?_
  refine bm_nadd hx hb dL_law_638 ?_
  refine bm_sld hx hb hXs hbl hbA hS (j := (3 + 1)) (by omega) (by omega) dL_law_639 ?_
  refine lv_aload_n hx hb dL_law_640 rfl (lv_at hl 1 rfl) ?_
  refine lv_iload hx hb dL_law_641 (lv_at hl 5 rfl) ?_
  refine lv_iconst (v := nI 2) hx hb dL_law_643 (by decide) ?_
  refine bm_nadd hx hb dL_law_644 ?_
  refine bm_sld hx hb hXs hbl hbA hS (j := (3 + 2)) (by omega) (by omega) dL_law_645 ?_
  refine lv_aload_n hx hb dL_law_646 rfl (lv_at hl 1 rfl) ?_
  refine lv_iload hx hb dL_law_647 (lv_at hl 5 rfl) ?_
  refine lv_iconst (v := nI 3) hx hb dL_law_649 (by decide) ?_
  refine bm_nadd hx hb dL_law_650 ?_
  refine bm_sld hx hb hXs hbl hbA hS (j := (3 + 3)) (by omega) (by omega) dL_law_651 ?_
  refine lv_i2l (v := (xs (3 + 3)).toInt64) hx hb dL_law_652 rfl ?_
  refine lv_bipush (v := nI 32) hx hb dL_law_653 (by decide) ?_
  refine lv_lshl (v := ((xs (3 + 3)).toInt64) <<< ((nI 32).toInt64 &&& 63)) hx hb dL_law_655 rfl ?_
  refine lv_aload_n hx hb dL_law_656 rfl (lv_at hl 1 rfl) ?_
  refine lv_iload hx hb dL_law_657 (lv_at hl 5 rfl) ?_
  refine lv_iconst (v := nI 4) hx hb dL_law_659 (by decide) ?_
  refine bm_nadd hx hb dL_law_660 ?_
  refine bm_sld hx hb hXs hbl hbA hS (j := (3 + 4)) (by omega) (by omega) dL_law_661 ?_
  refine lv_i2l (v := (xs (3 + 4)).toInt64) hx hb dL_law_662 rfl ?_
  refine lv_ldc2 (v := 4294967295) hx hb hown (hts (.constantLong RL 75 4294967295) (by decide +kernel)) dL_law_663 ?_
  refine lv_land hx hb dL_law_666 ?_
  refine lv_lor hx hb dL_law_667 ?_
  refine lv_aload_n hx hb dL_law_668 rfl (lv_at hl 1 rfl) ?_
  refine lv_iload hx hb dL_law_669 (lv_at hl 5 rfl) ?_
  refine lv_iconst (v := nI 5) hx hb dL_law_671 (by decide) ?_
  refine bm_nadd hx hb dL_law_672 ?_
  refine bm_sld hx hb hXs hbl hbA hS (j := (3 + 5)) (by omega) (by omega) dL_law_673 ?_
  refine lv_i2l (v := (xs (3 + 5)).toInt64) hx hb dL_law_674 rfl ?_
  refine lv_bipush (v := nI 32) hx hb dL_law_675 (by decide) ?_
  refine lv_lshl (v := ((xs (3 + 5)).toInt64) <<< ((nI 32).toInt64 &&& 63)) hx hb dL_law_677 rfl ?_
  refine lv_aload_n hx hb dL_law_678 rfl (lv_at hl 1 rfl) ?_
  refine lv_iload hx hb dL_law_679 (lv_at hl 5 rfl) ?_
  refine lv_bipush (v := nI 6) hx hb dL_law_681 (by decide) ?_
  refine bm_nadd hx hb dL_law_683 ?_
  refine bm_sld hx hb hXs hbl hbA hS (j := (3 + 6)) (by omega) (by omega) dL_law_684 ?_
  refine lv_i2l (v := (xs (3 + 6)).toInt64) hx hb dL_law_685 rfl ?_
  refine lv_ldc2 (v := 4294967295) hx hb hown (hts (.constantLong RL 75 4294967295) (by decide +kernel)) dL_law_686 ?_
  refine lv_land hx hb dL_law_689 ?_
  refine lv_lor hx hb dL_law_690 ?_
  refine bm_wcallV (As := [.int (xs (3 + 1)), .int (xs (3 + 2)), .long ((((xs (3 + 3)).toInt64) <<< ((nI 32).toInt64 &&& 63)) ||| (((xs (3 + 4)).toInt64) &&& 4294967295)), .long ((((xs (3 + 5)).toInt64) <<< ((nI 32).toInt64 &&& 63)) ||| (((xs (3 + 6)).toInt64) &&& 4294967295))]) (rest := []) ⟨hx, hb, hml, hown, hts⟩ (m_pin) (cwV 4 hts (gdVL (by decide +kernel) (by decide +kernel) (by decide +kernel) (by decide +kernel) (by decide +kernel)) rfl rfl rfl (by decide +kernel) ⟨Nat.le_of_ble_eq_true rfl, Nat.le_of_ble_eq_true rfl⟩) hK hP hD hS hA 42 5 rfl rfl rfl hl.1 rfl (Nat.le_of_ble_eq_true rfl) dL_law_691 ⟨Nat.le_of_ble_eq_true rfl, Nat.le_of_ble_eq_true rfl⟩ (fun H locs hP hD hS => ?_)
  have hP : va_P D vwCl (WW ad cJ cI cZ (bm.1, bm.2.1, bm.2.2.1, 0) (pa.1, pa.2.1, pa.2.2.1, pa.2.2.2.1, pa.2.2.2.2.1, pa.2.2.2.2.2.1, 0) p0 p1 p2 (li.1, li.2.1, li.2.2.1, li.2.2.2.1, li.2.2.2.2.1, li.2.2.2.2.2.1, li.2.2.2.2.2.2.1, li.2.2.2.2.2.2.2.1, 0, 0) (wi.1, wi.2.1, wi.2.2.1, wi.2.2.2.1, wi.2.2.2.2.1, wi.2.2.2.2.2.1, wi.2.2.2.2.2.2.1, wi.2.2.2.2.2.2.2.1, wi.2.2.2.2.2.2.2.2.1, 0, 0) (1) (ms.1, ms.2.1, 0, 0, 0, 0, 0, ms.2.2.2.2.2.2.2) ma mp mk mn ou) H := hP
  have hD : va_D A (WW ad cJ cI cZ (bm.1, bm.2.1, bm.2.2.1, 0) (pa.1, pa.2.1, pa.2.2.1, pa.2.2.2.1, pa.2.2.2.2.1, pa.2.2.2.2.2.1, 0) p0 p1 p2 (li.1, li.2.1, li.2.2.1, li.2.2.2.1, li.2.2.2.2.1, li.2.2.2.2.2.1, li.2.2.2.2.2.2.1, li.2.2.2.2.2.2.2.1, 0, 0) (wi.1, wi.2.1, wi.2.2.1, wi.2.2.2.1, wi.2.2.2.2.1, wi.2.2.2.2.2.1, wi.2.2.2.2.2.2.1, wi.2.2.2.2.2.2.2.1, wi.2.2.2.2.2.2.2.2.1, 0, 0) (1) (ms.1, ms.2.1, 0, 0, 0, 0, 0, ms.2.2.2.2.2.2.2) ma mp mk mn ou) := hD
  refine lv_istore (lv' := [(6, .int (bm_b false)), (5, .int (nI 1)), (0, .ref b), (1, .ref (ad 0)), (2, .ref (ad 42)), (3, .ref (ad 62)), (4, .int (nI 3))]) hx hb dL_law_694 hl (by decide) rfl (fun ls hl => ?_)
  refine lv_aload_n hx hb dL_law_696 rfl (lv_at hl 4 rfl) ?_
  refine bm_rcallV (As := []) (rest := []) ⟨hx, hb, hml, hown, hts⟩ (m_thrown) (cwV 0 hts (gdVL (by decide +kernel) (by decide +kernel) (by decide +kernel) (by decide +kernel) (by decide +kernel)) rfl rfl rfl (by decide +kernel) ⟨Nat.le_of_ble_eq_true rfl, Nat.le_of_ble_eq_true rfl⟩) hK hP 42 5 rfl rfl rfl hl.1 rfl (Nat.le_of_ble_eq_true rfl) dL_law_697 ⟨Nat.le_of_ble_eq_true rfl, Nat.le_of_ble_eq_true rfl⟩ ?_
  refine lv_iload hx hb dL_law_700 (lv_at hl 1 rfl) ?_
  refine bm_ni_eq (x := 1) (y := 1) (tgt := 707) hx hb (by decide) (by decide) dL_law_702 (by decide) (fun c_1 => ?_) (fun c_1 => ?_)
  · refine lv_iload hx hb dL_law_707 (lv_at hl 1 rfl) ?_
    refine bm_nz_ne (x := 1) (tgt := 731) hx hb (by decide) dL_law_709 (by decide) (fun c_2 => ?_) (fun c_2 => ?_)
    · refine lv_goto (tgt := 1705) hx hb dL_law_731 (by decide) ?_
      exact v_end hL C0 hAn (Nat.le_of_ble_eq_true rfl) (Nat.le_of_ble_eq_true rfl) hS (lv_sub hl [6, 2] rfl)
    · exact absurd c_2 (by decide)
  · exact absurd c_1 (by decide)

set_option maxHeartbeats 8000000 in
set_option maxRecDepth 100000 in
theorem v_5 {p : Program} {l : Launch} {e : Env} {s : State} {m : MethodId} {below : List Frame} {meth : Method} {c : Code} {b L : Nat} {xs : Nat → Int32} (hlt : l.stackTraces = false) (hL : L = 14) (C0 : lw_At p s m meth c b L xs) (hX : bx_X xW s) (hZ : bx_S RX4 xS s) {A : Nat → Prop} (hA : ∀ q : Nat, s.heap.size ≤ q → A q) (hAn : ∀ q : Nat, q < s.heap.size → ¬ A q) {D : va_G} {ad : Nat → Nat} {cJ cI cZ : ClassId} {bm : gBM} {pa : gPA} {p0 p1 p2 : gPL} {li : gLI} {wi : gWI} {mt : Nat} {ms : gMS} {ma : gMA} {mp : gMP} {mk : gMK} {mn : gMN} {ou : Nat → Int64}  {H : Heap} {locs : List Loc} (hK : va_K D vwCl [(cJ, .long), (cI, .int), (cZ, .boolean)] s) (hP : va_P D vwCl (WW ad cJ cI cZ (bm.1, bm.2.1, bm.2.2.1, 0) (pa.1, pa.2.1, pa.2.2.1, pa.2.2.2.1, pa.2.2.2.2.1, pa.2.2.2.2.2.1, 0) p0 p1 p2 (li.1, li.2.1, li.2.2.1, li.2.2.2.1, li.2.2.2.2.1, li.2.2.2.2.2.1, li.2.2.2.2.2.2.1, li.2.2.2.2.2.2.2.1, 0, 0) (wi.1, wi.2.1, wi.2.2.1, wi.2.2.2.1, wi.2.2.2.2.1, wi.2.2.2.2.2.1, wi.2.2.2.2.2.2.1, wi.2.2.2.2.2.2.2.1, wi.2.2.2.2.2.2.2.2.1, 0, 0) mt (ms.1, ms.2.1, 0, 0, 0, 0, 0, ms.2.2.2.2.2.2.2) ma mp mk mn ou) H) (hD : va_D A (WW ad cJ cI cZ (bm.1, bm.2.1, bm.2.2.1, 0) (pa.1, pa.2.1, pa.2.2.1, pa.2.2.2.1, pa.2.2.2.2.1, pa.2.2.2.2.2.1, 0) p0 p1 p2 (li.1, li.2.1, li.2.2.1, li.2.2.2.1, li.2.2.2.2.1, li.2.2.2.2.2.1, li.2.2.2.2.2.2.1, li.2.2.2.2.2.2.2.1, 0, 0) (wi.1, wi.2.1, wi.2.2.1, wi.2.2.2.1, wi.2.2.2.2.1, wi.2.2.2.2.2.1, wi.2.2.2.2.2.2.1, wi.2.2.2.2.2.2.2.1, wi.2.2.2.2.2.2.2.2.1, 0, 0) mt (ms.1, ms.2.1, 0, 0, 0, 0, 0, ms.2.2.2.2.2.2.2) ma mp mk mn ou)) (hS : va_S A s.heap H locs) {ls : Array Slot} (hl : lv_has ls 8 [(0, .ref b), (1, .ref (ad 0)), (2, .ref (ad 42)), (3, .ref (ad 62)), (4, .int (nI 3))]) : W p l e room_1 s m #[Value.ref b] below meth c H locs 63 2864 (lw_Z below #[Value.ref b] s) (F0 m 734 ls []) := by
  obtain ⟨hx, hb, hr, hml, hown, hts, hXs, hbl, hlocks, hgv⟩ := id C0
  have hbA := hAn b hbl
  refine lv_aload_n hx hb dL_law_734 rfl (lv_at hl 1 rfl) ?_
  refine lv_aload_n hx hb dL_law_735 rfl (lv_at hl 0 rfl) ?_
  refine lv_iload hx hb dL_law_736 (lv_at hl 4 rfl) ?_
  refine lv_iconst (v := nI 1) hx hb dL_law_738 (by decide) ?_
  refine bm_nadd hx hb dL_law_739 ?_
  refine bm_sld hx hb hXs hbl hbA hS (j := (3 + 1)) (by omega) (by omega) dL_law_740 ?_
  refine lv_aload_n hx hb dL_law_741 rfl (lv_at hl 0 rfl) ?_
  refine lv_iload hx hb dL_law_742 (lv_at hl 4 rfl) ?_
  refine lv_iconst (v := nI 2) hx hb dL_law_744 (by decide) ?_
  refine bm_nadd hx hb dL_law_745 ?_
  refine bm_sld hx hb hXs hbl hbA hS (j := (3 + 2)) (by omega) (by omega) dL_law_746 ?_
  refine lv_i2l (v := (xs (3 + 2)).toInt64) hx hb dL_law_747 rfl ?_
  refine lv_bipush (v := nI 32) hx hb dL_law_748 (by decide) ?_
  refine lv_lshl (v := ((xs (3 + 2)).toInt64) <<< ((nI 32).toInt64 &&& 63)) hx hb dL_law_750 rfl ?_
  refine lv_aload_n hx hb dL_law_751 rfl (lv_at hl 0 rfl) ?_
  refine lv_iload hx hb dL_law_752 (lv_at hl 4 rfl) ?_
  refine lv_iconst (v := nI 3) hx hb dL_law_754 (by decide) ?_
  refine bm_nadd hx hb dL_law_755 ?_
  refine bm_sld hx hb hXs hbl hbA hS (j := (3 + 3)) (by omega) (by omega) dL_law_756 ?_
  refine lv_i2l (v := (xs (3 + 3)).toInt64) hx hb dL_law_757 rfl ?_
  refine lv_ldc2 (v := 4294967295) hx hb hown (hts (.constantLong RL 75 4294967295) (by decide +kernel)) dL_law_758 ?_
  refine lv_land hx hb dL_law_761 ?_
  refine lv_lor hx hb dL_law_762 ?_
  refine lv_aload_n hx hb dL_law_763 rfl (lv_at hl 0 rfl) ?_
  refine lv_iload hx hb dL_law_764 (lv_at hl 4 rfl) ?_
  refine lv_iconst (v := nI 4) hx hb dL_law_766 (by decide) ?_
  refine bm_nadd hx hb dL_law_767 ?_
  refine bm_sld hx hb hXs hbl hbA hS (j := (3 + 4)) (by omega) (by omega) dL_law_768 ?_
  refine lv_i2l (v := (xs (3 + 4)).toInt64) hx hb dL_law_769 rfl ?_
  refine lv_bipush (v := nI 32) hx hb dL_law_770 (by decide) ?_
  refine lv_lshl (v := ((xs (3 + 4)).toInt64) <<< ((nI 32).toInt64 &&& 63)) hx hb dL_law_772 rfl ?_
  refine lv_aload_n hx hb dL_law_773 rfl (lv_at hl 0 rfl) ?_
  refine lv_iload hx hb dL_law_774 (lv_at hl 4 rfl) ?_
  refine lv_iconst (v := nI 5) hx hb dL_law_776 (by decide) ?_
  refine bm_nadd hx hb dL_law_777 ?_
  refine bm_sld hx hb hXs hbl hbA hS (j := (3 + 5)) (by omega) (by omega) dL_law_778 ?_
  refine lv_i2l (v := (xs (3 + 5)).toInt64) hx hb dL_law_779 rfl ?_
  refine lv_ldc2 (v := 4294967295) hx hb hown (hts (.constantLong RL 75 4294967295) (by decide +kernel)) dL_law_780 ?_
  refine lv_land hx hb dL_law_783 ?_
  refine lv_lor hx hb dL_law_784 ?_
  refine lv_aload_n hx hb dL_law_785 rfl (lv_at hl 3 rfl) ?_
  refine bx_hcallS (n := 5) (As := [.ref (ad 0), .int (xs (3 + 1)), .long ((((xs (3 + 2)).toInt64) <<< ((nI 32).toInt64 &&& 63)) ||| (((xs (3 + 3)).toInt64) &&& 4294967295)), .long ((((xs (3 + 4)).toInt64) <<< ((nI 32).toInt64 &&& 63)) ||| (((xs (3 + 5)).toInt64) &&& 4294967295)), .ref (ad 62)]) (rest := []) ⟨hx, hb, hml, hown, hts⟩ ((h_push hlt) H.size) rfl rfl (Nat.le_of_ble_eq_true rfl) (Nat.le_of_ble_eq_true rfl) (gdH (by decide +kernel)) (by decide +kernel) rfl hK hP hD hS hA hX hZ hAn rfl hl.1 rfl (Nat.le_of_ble_eq_true rfl) dL_law_786 ⟨Nat.le_of_ble_eq_true rfl, Nat.le_of_ble_eq_true rfl⟩ (fun H locs hP hD hS => ?_)
  have hP : va_P D vwCl (WW ad cJ cI cZ (bm.1, bm.2.1, bm.2.2.1, 0) (pa.1, pa.2.1, pa.2.2.1, pa.2.2.2.1, pa.2.2.2.2.1, pa.2.2.2.2.2.1, 0) p0 p1 p2 (li.1, li.2.1, li.2.2.1, li.2.2.2.1, li.2.2.2.2.1, li.2.2.2.2.2.1, li.2.2.2.2.2.2.1, li.2.2.2.2.2.2.2.1, 0, 0) (wi.1, wi.2.1, wi.2.2.1, wi.2.2.2.1, wi.2.2.2.2.1, wi.2.2.2.2.2.1, wi.2.2.2.2.2.2.1, wi.2.2.2.2.2.2.2.1, wi.2.2.2.2.2.2.2.2.1, 0, 0) mt (ms.1, ms.2.1, 0, 0, 0, 0, 0, ms.2.2.2.2.2.2.2) ma mp mk mn ou) H := hP
  have hD : va_D A (WW ad cJ cI cZ (bm.1, bm.2.1, bm.2.2.1, 0) (pa.1, pa.2.1, pa.2.2.1, pa.2.2.2.1, pa.2.2.2.2.1, pa.2.2.2.2.2.1, 0) p0 p1 p2 (li.1, li.2.1, li.2.2.1, li.2.2.2.1, li.2.2.2.2.1, li.2.2.2.2.2.1, li.2.2.2.2.2.2.1, li.2.2.2.2.2.2.2.1, 0, 0) (wi.1, wi.2.1, wi.2.2.1, wi.2.2.2.1, wi.2.2.2.2.1, wi.2.2.2.2.2.1, wi.2.2.2.2.2.2.1, wi.2.2.2.2.2.2.2.1, wi.2.2.2.2.2.2.2.2.1, 0, 0) mt (ms.1, ms.2.1, 0, 0, 0, 0, 0, ms.2.2.2.2.2.2.2) ma mp mk mn ou) := hD
  refine lv_istore (lv' := [(5, .int (nI 1)), (0, .ref b), (1, .ref (ad 0)), (2, .ref (ad 42)), (3, .ref (ad 62)), (4, .int (nI 3))]) hx hb dL_law_789 hl (by decide) rfl (fun ls hl => ?_)
  refine lv_aload_n hx hb dL_law_791 rfl (lv_at hl 3 rfl) ?_
  refine lv_aload_n hx hb dL_law_792 rfl (lv_at hl 1 rfl) ?_
  refine lv_iload hx hb dL_law_793 (lv_at hl 5 rfl) ?_
  refine lv_iconst (v := nI 1) hx hb dL_law_795 (by decide) ?_
  refine bm_nadd hx hb dL_law_796 ?_
  refine bm_sld hx hb hXs hbl hbA hS (j := (3 + 1)) (by omega) (by omega) dL_law_797 ?_
  refine lv_aload_n hx hb dL_law_798 rfl (lv_at hl 1 rfl) ?_
  refine lv_iload hx hb dL_law_799 (lv_at hl 5 rfl) ?_
  refine lv_iconst (v := nI 2) hx hb dL_law_801 (by decide) ?_
  refine bm_nadd hx hb dL_law_802 ?_
  refine bm_sld hx hb hXs hbl hbA hS (j := (3 + 2)) (by omega) (by omega) dL_law_803 ?_
  refine lv_i2l (v := (xs (3 + 2)).toInt64) hx hb dL_law_804 rfl ?_
  refine lv_bipush (v := nI 32) hx hb dL_law_805 (by decide) ?_
  refine lv_lshl (v := ((xs (3 + 2)).toInt64) <<< ((nI 32).toInt64 &&& 63)) hx hb dL_law_807 rfl ?_
  refine lv_aload_n hx hb dL_law_808 rfl (lv_at hl 1 rfl) ?_
  refine lv_iload hx hb dL_law_809 (lv_at hl 5 rfl) ?_
  refine lv_iconst (v := nI 3) hx hb dL_law_811 (by decide) ?_
  refine bm_nadd hx hb dL_law_812 ?_
  refine bm_sld hx hb hXs hbl hbA hS (j := (3 + 3)) (by omega) (by omega) dL_law_813 ?_
  refine lv_i2l (v := (xs (3 + 3)).toInt64) hx hb dL_law_814 rfl ?_
  refine lv_ldc2 (v := 4294967295) hx hb hown (hts (.constantLong RL 75 4294967295) (by decide +kernel)) dL_law_815 ?_
  refine lv_land hx hb dL_law_818 ?_
  refine lv_lor hx hb dL_law_819 ?_
  refine lv_aload_n hx hb dL_law_820 rfl (lv_at hl 1 rfl) ?_
  refine lv_iload hx hb dL_law_821 (lv_at hl 5 rfl) ?_
  refine lv_iconst (v := nI 4) hx hb dL_law_823 (by decide) ?_
  refine bm_nadd hx hb dL_law_824 ?_
  refine bm_sld hx hb hXs hbl hbA hS (j := (3 + 4)) (by omega) (by omega) dL_law_825 ?_
  refine lv_i2l (v := (xs (3 + 4)).toInt64) hx hb dL_law_826 rfl ?_
  refine lv_bipush (v := nI 32) hx hb dL_law_827 (by decide) ?_
  refine lv_lshl (v := ((xs (3 + 4)).toInt64) <<< ((nI 32).toInt64 &&& 63)) hx hb dL_law_829 rfl ?_
  refine lv_aload_n hx hb dL_law_830 rfl (lv_at hl 1 rfl) ?_
  refine lv_iload hx hb dL_law_831 (lv_at hl 5 rfl) ?_
  refine lv_iconst (v := nI 5) hx hb dL_law_833 (by decide) ?_
  refine bm_nadd hx hb dL_law_834 ?_
  refine bm_sld hx hb hXs hbl hbA hS (j := (3 + 5)) (by omega) (by omega) dL_law_835 ?_
  refine lv_i2l (v := (xs (3 + 5)).toInt64) hx hb dL_law_836 rfl ?_
  refine lv_ldc2 (v := 4294967295) hx hb hown (hts (.constantLong RL 75 4294967295) (by decide +kernel)) dL_law_837 ?_
  refine lv_land hx hb dL_law_840 ?_
  refine lv_lor hx hb dL_law_841 ?_
  refine bm_wcallV (As := [.int (xs (3 + 1)), .long ((((xs (3 + 2)).toInt64) <<< ((nI 32).toInt64 &&& 63)) ||| (((xs (3 + 3)).toInt64) &&& 4294967295)), .long ((((xs (3 + 4)).toInt64) <<< ((nI 32).toInt64 &&& 63)) ||| (((xs (3 + 5)).toInt64) &&& 4294967295))]) (rest := []) ⟨hx, hb, hml, hown, hts⟩ (m_push) (cwV 3 hts (gdVL (by decide +kernel) (by decide +kernel) (by decide +kernel) (by decide +kernel) (by decide +kernel)) rfl rfl rfl (by decide +kernel) ⟨Nat.le_of_ble_eq_true rfl, Nat.le_of_ble_eq_true rfl⟩) hK hP hD hS hA 42 5 rfl rfl rfl hl.1 rfl (Nat.le_of_ble_eq_true rfl) dL_law_842 ⟨Nat.le_of_ble_eq_true rfl, Nat.le_of_ble_eq_true rfl⟩ (fun H locs hP hD hS => ?_)
  have hP : va_P D vwCl (WW ad cJ cI cZ (bm.1, bm.2.1, bm.2.2.1, 0) (pa.1, pa.2.1, pa.2.2.1, pa.2.2.2.1, pa.2.2.2.2.1, pa.2.2.2.2.2.1, 0) p0 p1 p2 (li.1, li.2.1, li.2.2.1, li.2.2.2.1, li.2.2.2.2.1, li.2.2.2.2.2.1, li.2.2.2.2.2.2.1, li.2.2.2.2.2.2.2.1, 0, 0) (wi.1, wi.2.1, wi.2.2.1, wi.2.2.2.1, wi.2.2.2.2.1, wi.2.2.2.2.2.1, wi.2.2.2.2.2.2.1, wi.2.2.2.2.2.2.2.1, wi.2.2.2.2.2.2.2.2.1, 0, 0) (1) (ms.1, ms.2.1, 0, 0, 0, 0, 0, ms.2.2.2.2.2.2.2) ma mp mk mn ou) H := hP
  have hD : va_D A (WW ad cJ cI cZ (bm.1, bm.2.1, bm.2.2.1, 0) (pa.1, pa.2.1, pa.2.2.1, pa.2.2.2.1, pa.2.2.2.2.1, pa.2.2.2.2.2.1, 0) p0 p1 p2 (li.1, li.2.1, li.2.2.1, li.2.2.2.1, li.2.2.2.2.1, li.2.2.2.2.2.1, li.2.2.2.2.2.2.1, li.2.2.2.2.2.2.2.1, 0, 0) (wi.1, wi.2.1, wi.2.2.1, wi.2.2.2.1, wi.2.2.2.2.1, wi.2.2.2.2.2.1, wi.2.2.2.2.2.2.1, wi.2.2.2.2.2.2.2.1, wi.2.2.2.2.2.2.2.2.1, 0, 0) (1) (ms.1, ms.2.1, 0, 0, 0, 0, 0, ms.2.2.2.2.2.2.2) ma mp mk mn ou) := hD
  refine lv_istore (lv' := [(6, .int (nI 0)), (5, .int (nI 1)), (0, .ref b), (1, .ref (ad 0)), (2, .ref (ad 42)), (3, .ref (ad 62)), (4, .int (nI 3))]) hx hb dL_law_845 hl (by decide) rfl (fun ls hl => ?_)
  refine lv_aload_n hx hb dL_law_847 rfl (lv_at hl 4 rfl) ?_
  refine bm_rcallV (As := []) (rest := []) ⟨hx, hb, hml, hown, hts⟩ (m_thrown) (cwV 0 hts (gdVL (by decide +kernel) (by decide +kernel) (by decide +kernel) (by decide +kernel) (by decide +kernel)) rfl rfl rfl (by decide +kernel) ⟨Nat.le_of_ble_eq_true rfl, Nat.le_of_ble_eq_true rfl⟩) hK hP 42 5 rfl rfl rfl hl.1 rfl (Nat.le_of_ble_eq_true rfl) dL_law_848 ⟨Nat.le_of_ble_eq_true rfl, Nat.le_of_ble_eq_true rfl⟩ ?_
  refine lv_iload hx hb dL_law_851 (lv_at hl 1 rfl) ?_
  refine bm_ni_eq (x := 1) (y := 1) (tgt := 858) hx hb (by decide) (by decide) dL_law_853 (by decide) (fun c_1 => ?_) (fun c_1 => ?_)
  · refine lv_iload hx hb dL_law_858 (lv_at hl 1 rfl) ?_
    refine bm_nz_ne (x := 1) (tgt := 875) hx hb (by decide) dL_law_860 (by decide) (fun c_2 => ?_) (fun c_2 => ?_)
    · refine lv_goto (tgt := 1705) hx hb dL_law_875 (by decide) ?_
      exact v_end hL C0 hAn (Nat.le_of_ble_eq_true rfl) (Nat.le_of_ble_eq_true rfl) hS (lv_sub hl [6, 2] rfl)
    · exact absurd c_2 (by decide)
  · exact absurd c_1 (by decide)

set_option maxHeartbeats 8000000 in
set_option maxRecDepth 100000 in
theorem v_6 {p : Program} {l : Launch} {e : Env} {s : State} {m : MethodId} {below : List Frame} {meth : Method} {c : Code} {b L : Nat} {xs : Nat → Int32} (hlt : l.stackTraces = false) (hL : L = 14) (C0 : lw_At p s m meth c b L xs) (hX : bx_X xW s) (hZ : bx_S RX4 xS s) {A : Nat → Prop} (hA : ∀ q : Nat, s.heap.size ≤ q → A q) (hAn : ∀ q : Nat, q < s.heap.size → ¬ A q) {D : va_G} {ad : Nat → Nat} {cJ cI cZ : ClassId} {bm : gBM} {pa : gPA} {p0 p1 p2 : gPL} {li : gLI} {wi : gWI} {mt : Nat} {ms : gMS} {ma : gMA} {mp : gMP} {mk : gMK} {mn : gMN} {ou : Nat → Int64}  {H : Heap} {locs : List Loc} (hK : va_K D vwCl [(cJ, .long), (cI, .int), (cZ, .boolean)] s) (hP : va_P D vwCl (WW ad cJ cI cZ (bm.1, bm.2.1, bm.2.2.1, 0) (pa.1, pa.2.1, pa.2.2.1, pa.2.2.2.1, pa.2.2.2.2.1, pa.2.2.2.2.2.1, 0) p0 p1 p2 (li.1, li.2.1, li.2.2.1, li.2.2.2.1, li.2.2.2.2.1, li.2.2.2.2.2.1, li.2.2.2.2.2.2.1, li.2.2.2.2.2.2.2.1, 0, 0) (wi.1, wi.2.1, wi.2.2.1, wi.2.2.2.1, wi.2.2.2.2.1, wi.2.2.2.2.2.1, wi.2.2.2.2.2.2.1, wi.2.2.2.2.2.2.2.1, wi.2.2.2.2.2.2.2.2.1, 0, 0) mt (ms.1, ms.2.1, 0, 0, 0, 0, 0, ms.2.2.2.2.2.2.2) ma mp mk mn ou) H) (hD : va_D A (WW ad cJ cI cZ (bm.1, bm.2.1, bm.2.2.1, 0) (pa.1, pa.2.1, pa.2.2.1, pa.2.2.2.1, pa.2.2.2.2.1, pa.2.2.2.2.2.1, 0) p0 p1 p2 (li.1, li.2.1, li.2.2.1, li.2.2.2.1, li.2.2.2.2.1, li.2.2.2.2.2.1, li.2.2.2.2.2.2.1, li.2.2.2.2.2.2.2.1, 0, 0) (wi.1, wi.2.1, wi.2.2.1, wi.2.2.2.1, wi.2.2.2.2.1, wi.2.2.2.2.2.1, wi.2.2.2.2.2.2.1, wi.2.2.2.2.2.2.2.1, wi.2.2.2.2.2.2.2.2.1, 0, 0) mt (ms.1, ms.2.1, 0, 0, 0, 0, 0, ms.2.2.2.2.2.2.2) ma mp mk mn ou)) (hS : va_S A s.heap H locs) {ls : Array Slot} (hl : lv_has ls 8 [(0, .ref b), (1, .ref (ad 0)), (2, .ref (ad 42)), (3, .ref (ad 62)), (4, .int (nI 3))]) : W p l e room_1 s m #[Value.ref b] below meth c H locs 63 2864 (lw_Z below #[Value.ref b] s) (F0 m 878 ls []) := by
  obtain ⟨hx, hb, hr, hml, hown, hts, hXs, hbl, hlocks, hgv⟩ := id C0
  have hbA := hAn b hbl
  refine lv_aload_n hx hb dL_law_878 rfl (lv_at hl 1 rfl) ?_
  refine lv_aload_n hx hb dL_law_879 rfl (lv_at hl 0 rfl) ?_
  refine lv_iload hx hb dL_law_880 (lv_at hl 4 rfl) ?_
  refine lv_iconst (v := nI 1) hx hb dL_law_882 (by decide) ?_
  refine bm_nadd hx hb dL_law_883 ?_
  refine bm_sld hx hb hXs hbl hbA hS (j := (3 + 1)) (by omega) (by omega) dL_law_884 ?_
  refine lv_aload_n hx hb dL_law_885 rfl (lv_at hl 0 rfl) ?_
  refine lv_iload hx hb dL_law_886 (lv_at hl 4 rfl) ?_
  refine lv_iconst (v := nI 2) hx hb dL_law_888 (by decide) ?_
  refine bm_nadd hx hb dL_law_889 ?_
  refine bm_sld hx hb hXs hbl hbA hS (j := (3 + 2)) (by omega) (by omega) dL_law_890 ?_
  refine lv_aload_n hx hb dL_law_891 rfl (lv_at hl 3 rfl) ?_
  refine bx_hcallS (n := 4) (As := [.ref (ad 0), .int (xs (3 + 1)), .int (xs (3 + 2)), .ref (ad 62)]) (rest := []) ⟨hx, hb, hml, hown, hts⟩ ((h_at hlt) H.size) rfl rfl (Nat.le_of_ble_eq_true rfl) (Nat.le_of_ble_eq_true rfl) (gdH (by decide +kernel)) (by decide +kernel) rfl hK hP hD hS hA hX hZ hAn rfl hl.1 rfl (Nat.le_of_ble_eq_true rfl) dL_law_892 ⟨Nat.le_of_ble_eq_true rfl, Nat.le_of_ble_eq_true rfl⟩ (fun H locs hP hD hS => ?_)
  have hP : va_P D vwCl (WW ad cJ cI cZ (bm.1, bm.2.1, bm.2.2.1, 0) (pa.1, pa.2.1, pa.2.2.1, pa.2.2.2.1, pa.2.2.2.2.1, pa.2.2.2.2.2.1, 0) p0 p1 p2 (li.1, li.2.1, li.2.2.1, li.2.2.2.1, li.2.2.2.2.1, li.2.2.2.2.2.1, li.2.2.2.2.2.2.1, li.2.2.2.2.2.2.2.1, 0, 0) (wi.1, wi.2.1, wi.2.2.1, wi.2.2.2.1, wi.2.2.2.2.1, wi.2.2.2.2.2.1, wi.2.2.2.2.2.2.1, wi.2.2.2.2.2.2.2.1, wi.2.2.2.2.2.2.2.2.1, 0, 0) mt (ms.1, ms.2.1, 0, 0, 0, 0, 0, ms.2.2.2.2.2.2.2) ma mp mk mn ou) H := hP
  have hD : va_D A (WW ad cJ cI cZ (bm.1, bm.2.1, bm.2.2.1, 0) (pa.1, pa.2.1, pa.2.2.1, pa.2.2.2.1, pa.2.2.2.2.1, pa.2.2.2.2.2.1, 0) p0 p1 p2 (li.1, li.2.1, li.2.2.1, li.2.2.2.1, li.2.2.2.2.1, li.2.2.2.2.2.1, li.2.2.2.2.2.2.1, li.2.2.2.2.2.2.2.1, 0, 0) (wi.1, wi.2.1, wi.2.2.1, wi.2.2.2.1, wi.2.2.2.2.1, wi.2.2.2.2.2.1, wi.2.2.2.2.2.2.1, wi.2.2.2.2.2.2.2.1, wi.2.2.2.2.2.2.2.2.1, 0, 0) mt (ms.1, ms.2.1, 0, 0, 0, 0, 0, ms.2.2.2.2.2.2.2) ma mp mk mn ou) := hD
  refine lv_istore (lv' := [(5, .int (nI 1)), (0, .ref b), (1, .ref (ad 0)), (2, .ref (ad 42)), (3, .ref (ad 62)), (4, .int (nI 3))]) hx hb dL_law_895 hl (by decide) rfl (fun ls hl => ?_)
  refine lv_aload_n hx hb dL_law_897 rfl (lv_at hl 3 rfl) ?_
  refine lv_aload_n hx hb dL_law_898 rfl (lv_at hl 1 rfl) ?_
  refine lv_iload hx hb dL_law_899 (lv_at hl 5 rfl) ?_
  refine lv_iconst (v := nI 1) hx hb dL_law_901 (by decide) ?_
  refine bm_nadd hx hb dL_law_902 ?_
  refine bm_sld hx hb hXs hbl hbA hS (j := (3 + 1)) (by omega) (by omega) dL_law_903 ?_
  refine lv_aload_n hx hb dL_law_904 rfl (lv_at hl 1 rfl) ?_
  refine lv_iload hx hb dL_law_905 (lv_at hl 5 rfl) ?_
  refine lv_iconst (v := nI 2) hx hb dL_law_907 (by decide) ?_
  refine bm_nadd hx hb dL_law_908 ?_
  refine bm_sld hx hb hXs hbl hbA hS (j := (3 + 2)) (by omega) (by omega) dL_law_909 ?_
  refine bm_wcallV (As := [.int (xs (3 + 1)), .int (xs (3 + 2))]) (rest := []) ⟨hx, hb, hml, hown, hts⟩ (m_at) (cwV 2 hts (gdVL (by decide +kernel) (by decide +kernel) (by decide +kernel) (by decide +kernel) (by decide +kernel)) rfl rfl rfl (by decide +kernel) ⟨Nat.le_of_ble_eq_true rfl, Nat.le_of_ble_eq_true rfl⟩) hK hP hD hS hA 42 5 rfl rfl rfl hl.1 rfl (Nat.le_of_ble_eq_true rfl) dL_law_910 ⟨Nat.le_of_ble_eq_true rfl, Nat.le_of_ble_eq_true rfl⟩ (fun H locs hP hD hS => ?_)
  have hP : va_P D vwCl (WW ad cJ cI cZ (bm.1, bm.2.1, bm.2.2.1, 0) (pa.1, pa.2.1, pa.2.2.1, pa.2.2.2.1, pa.2.2.2.2.1, pa.2.2.2.2.2.1, 0) p0 p1 p2 (li.1, li.2.1, li.2.2.1, li.2.2.2.1, li.2.2.2.2.1, li.2.2.2.2.2.1, li.2.2.2.2.2.2.1, li.2.2.2.2.2.2.2.1, 0, 0) (wi.1, wi.2.1, wi.2.2.1, wi.2.2.2.1, wi.2.2.2.2.1, wi.2.2.2.2.2.1, wi.2.2.2.2.2.2.1, wi.2.2.2.2.2.2.2.1, wi.2.2.2.2.2.2.2.2.1, 0, 0) (1) (ms.1, ms.2.1, 0, 0, 0, 0, 0, ms.2.2.2.2.2.2.2) ma mp mk mn ou) H := hP
  have hD : va_D A (WW ad cJ cI cZ (bm.1, bm.2.1, bm.2.2.1, 0) (pa.1, pa.2.1, pa.2.2.1, pa.2.2.2.1, pa.2.2.2.2.1, pa.2.2.2.2.2.1, 0) p0 p1 p2 (li.1, li.2.1, li.2.2.1, li.2.2.2.1, li.2.2.2.2.1, li.2.2.2.2.2.1, li.2.2.2.2.2.2.1, li.2.2.2.2.2.2.2.1, 0, 0) (wi.1, wi.2.1, wi.2.2.1, wi.2.2.2.1, wi.2.2.2.2.1, wi.2.2.2.2.2.1, wi.2.2.2.2.2.2.1, wi.2.2.2.2.2.2.2.1, wi.2.2.2.2.2.2.2.2.1, 0, 0) (1) (ms.1, ms.2.1, 0, 0, 0, 0, 0, ms.2.2.2.2.2.2.2) ma mp mk mn ou) := hD
  refine lv_lstore (lv' := [(6, .long 0), (5, .int (nI 1)), (0, .ref b), (1, .ref (ad 0)), (2, .ref (ad 42)), (3, .ref (ad 62)), (4, .int (nI 3))]) hx hb dL_law_913 hl (by decide) rfl (fun ls hl => ?_)
  refine lv_aload_n hx hb dL_law_915 rfl (lv_at hl 4 rfl) ?_
  refine bm_rcallV (As := []) (rest := []) ⟨hx, hb, hml, hown, hts⟩ (m_thrown) (cwV 0 hts (gdVL (by decide +kernel) (by decide +kernel) (by decide +kernel) (by decide +kernel) (by decide +kernel)) rfl rfl rfl (by decide +kernel) ⟨Nat.le_of_ble_eq_true rfl, Nat.le_of_ble_eq_true rfl⟩) hK hP 42 5 rfl rfl rfl hl.1 rfl (Nat.le_of_ble_eq_true rfl) dL_law_916 ⟨Nat.le_of_ble_eq_true rfl, Nat.le_of_ble_eq_true rfl⟩ ?_
  refine lv_iload hx hb dL_law_919 (lv_at hl 1 rfl) ?_
  refine bm_ni_eq (x := 1) (y := 1) (tgt := 926) hx hb (by decide) (by decide) dL_law_921 (by decide) (fun c_1 => ?_) (fun c_1 => ?_)
  · refine lv_iload hx hb dL_law_926 (lv_at hl 1 rfl) ?_
    refine bm_nz_ne (x := 1) (tgt := 942) hx hb (by decide) dL_law_928 (by decide) (fun c_2 => ?_) (fun c_2 => ?_)
    · refine lv_goto (tgt := 1705) hx hb dL_law_942 (by decide) ?_
      exact v_end hL C0 hAn (Nat.le_of_ble_eq_true rfl) (Nat.le_of_ble_eq_true rfl) hS (lv_sub hl [6, 2] rfl)
    · exact absurd c_2 (by decide)
  · exact absurd c_1 (by decide)
