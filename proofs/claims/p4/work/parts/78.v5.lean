set_option maxHeartbeats 16000000 in
set_option maxRecDepth 100000 in
theorem V_2Ff {p : Program} {l : Launch} {e : Env} {s : State} {m : MethodId} {below : List Frame} {meth : Method} {c : Code} {b L : Nat} {xs : Nat → Int32} (hlt : l.stackTraces = false) (hL : L ≤ 5635) (C0 : lw_At p s m meth c b L xs) (hX : bx_X xW s) (hZ : bx_S RX4 xS s) (hN1 : bx_N "java/lang/IllegalArgumentException" "java/lang/IndexOutOfBoundsException" s) (hN2 : bx_N "java/lang/IllegalStateException" "java/lang/IndexOutOfBoundsException" s) {A : Nat → Prop} (hA : ∀ q : Nat, s.heap.size ≤ q → A q) (hAn : ∀ q : Nat, q < s.heap.size → ¬ A q) {D : va_G} {ad : Nat → Nat} {cJ cI cZ : ClassId} {bm : gBM} {pa : gPA} {p0 p1 p2 : gPL} {li : gLI} {wi : gWI} {mt : Nat} {ms : gMS} {ma : gMA} {mp : gMP} {mk : gMK} {mn : gMN} {ou : Nat → Int64} {i : Nat} (hi : i + 11 ≤ L) (okc : okC bm pa p0 p1 p2 li wi) (okm : okM ms ma mp mk mn) (heq : (pa.2.2.2.2.2.2, pa.2.2.1, pa.2.2.2.2.1) = (ms.2.2.1, ma.2.2.1, ma.2.2.2.2.1)) {k : Nat} (hk_zA : k < pa.2.2.2.2.2.2) (hc : xs (i + 1) = nI k) (hb2 : xs (i + 2) = 0) (hxx : pa.2.2.2.2.1 k = false) {H : Heap} {locs : List Loc} {cells slots : Nat} (hcs : cells + 1 ≤ room_1.cells ∧ slots + 6 ≤ room_1.slots) (hK : va_K D vwCl [(cJ, .long), (cI, .int), (cZ, .boolean)] s) (hP : va_P D vwCl (WW ad cJ cI cZ bm pa p0 p1 p2 li wi mt ms ma mp mk mn ou) H) (hD : va_D A (WW ad cJ cI cZ bm pa p0 p1 p2 li wi mt ms ma mp mk mn ou)) (hS : va_S A s.heap H locs) {ls : Array Slot} (hl : lv_has ls 8 [(0, .ref b), (1, .ref (ad 0)), (2, .ref (ad 42)), (3, .ref (ad 62)), (4, .int (nI i))]) (kk : ∀ (bm : gBM) (pa : gPA) (p0 p1 p2 : gPL) (li : gLI) (wi : gWI) (mt : Nat) (ms : gMS) (ma : gMA) (mp : gMP) (mk : gMK) (mn : gMN) (ou : Nat → Int64), okC bm pa p0 p1 p2 li wi → okM ms ma mp mk mn → (pa.2.2.2.2.2.2, pa.2.2.1, pa.2.2.2.2.1) = (ms.2.2.1, ma.2.2.1, ma.2.2.2.2.1) → ∀ (H : Heap) (locs : List Loc), va_P D vwCl (WW ad cJ cI cZ bm pa p0 p1 p2 li wi mt ms ma mp mk mn ou) H → va_D A (WW ad cJ cI cZ bm pa p0 p1 p2 li wi mt ms ma mp mk mn ou) → va_S A s.heap H locs → ∀ ls : Array Slot, lv_has ls 8 [(0, .ref b), (1, .ref (ad 0)), (2, .ref (ad 42)), (3, .ref (ad 62)), (4, .int (nI i))] → W p l e room_1 s m #[Value.ref b] below meth c H locs (cells + 1) (slots + 6) (lw_Z below #[Value.ref b] s) (F0 m 1361 ls [])) : W p l e room_1 s m #[Value.ref b] below meth c H locs cells slots (lw_Z below #[Value.ref b] s) (F0 m 402 ls []) := by
  obtain ⟨hx, hb, hr, hml, hown, hts, hXs, hbl, hlocks, hgv⟩ := id C0
  have hbA := hAn b hbl
  have hn : pa.2.2.2.2.2.2 = ms.2.2.1 := congrArg (fun q => q.1) heq
  have okn : pa.2.2.2.2.2.2 ≤ 40 := okc.1
  have okp : ms.2.2.1 ≤ 40 := okm.1
  have hlk : pa.2.2.2.2.1 = ma.2.2.2.2.1 := congrArg (fun q => q.2.2) heq
  have hkm : k < ms.2.2.1 := by omega
  have hxm : ma.2.2.2.2.1 k = false := by rw [← hlk]; exact hxx
  refine lv_aload_n hx hb dL_law_402 rfl (lv_at hl 1 rfl) ?_
  refine lv_aload_n hx hb dL_law_403 rfl (lv_at hl 0 rfl) ?_
  refine lv_iload hx hb dL_law_404 (lv_at hl 4 rfl) ?_
  refine lv_iconst (v := nI 1) hx hb dL_law_406 (by decide) ?_
  refine bm_nadd hx hb dL_law_407 ?_
  refine bm_sld hx hb hXs hbl hbA hS (j := (i + 1)) (by omega) (by omega) dL_law_408 ?_
  rw [hc]
  refine lv_aload_n hx hb dL_law_409 rfl (lv_at hl 0 rfl) ?_
  refine lv_iload hx hb dL_law_410 (lv_at hl 4 rfl) ?_
  refine lv_iconst (v := nI 2) hx hb dL_law_412 (by decide) ?_
  refine bm_nadd hx hb dL_law_413 ?_
  refine bm_sld hx hb hXs hbl hbA hS (j := (i + 2)) (by omega) (by omega) dL_law_414 ?_
  refine lv_if_eq (x := (xs (i + 2))) (tgt := 422) hx hb dL_law_415 (by decide) (fun c_1 => ?_) (fun c_1 => ?_)
  · refine lv_iconst (v := bm_b false) hx hb dL_law_422 (by decide) ?_
    refine lv_aload_n hx hb dL_law_423 rfl (lv_at hl 3 rfl) ?_
    refine bx_hcallS (n := 4) (As := [.ref (ad 0), .int (nI k), .int (bm_b false), .ref (ad 62)]) (rest := []) ⟨hx, hb, hml, hown, hts⟩ ((E_lockF hlt okn hk_zA hxx) H.size) rfl rfl (Nat.le_of_ble_eq_true rfl) (Nat.le_of_ble_eq_true rfl) (gdH (by decide +kernel)) (by decide +kernel) rfl hK hP hD hS hA hX hZ hAn rfl hl.1 rfl (Nat.le_of_ble_eq_true rfl) dL_law_424 hcs (fun H locs hP hD hS => ?_)
    have hP : va_P D vwCl (WW ad cJ cI cZ bm (pa.1, pa.2.1, pa.2.2.1, pa.2.2.2.1, va_up pa.2.2.2.2.1 k false, pa.2.2.2.2.2.1, pa.2.2.2.2.2.2) p0 p1 p2 li wi mt ms ma mp mk mn (va_up ou 0 0)) H := hP
    have hD : va_D A (WW ad cJ cI cZ bm (pa.1, pa.2.1, pa.2.2.1, pa.2.2.2.1, va_up pa.2.2.2.2.1 k false, pa.2.2.2.2.2.1, pa.2.2.2.2.2.2) p0 p1 p2 li wi mt ms ma mp mk mn (va_up ou 0 0)) := hD
    refine lv_istore (lv' := [(5, .int (nI 0)), (0, .ref b), (1, .ref (ad 0)), (2, .ref (ad 42)), (3, .ref (ad 62)), (4, .int (nI i))]) hx hb dL_law_427 hl (by decide) rfl (fun ls hl => ?_)
    refine lv_aload_n hx hb dL_law_429 rfl (lv_at hl 3 rfl) ?_
    refine lv_aload_n hx hb dL_law_430 rfl (lv_at hl 1 rfl) ?_
    refine lv_iload hx hb dL_law_431 (lv_at hl 5 rfl) ?_
    refine lv_iconst (v := nI 1) hx hb dL_law_433 (by decide) ?_
    refine bm_nadd hx hb dL_law_434 ?_
    refine bm_sld hx hb hXs hbl hbA hS (j := (i + 1)) (by omega) (by omega) dL_law_435 ?_
    rw [hc]
    refine lv_aload_n hx hb dL_law_436 rfl (lv_at hl 1 rfl) ?_
    refine lv_iload hx hb dL_law_437 (lv_at hl 5 rfl) ?_
    refine lv_iconst (v := nI 2) hx hb dL_law_439 (by decide) ?_
    refine bm_nadd hx hb dL_law_440 ?_
    refine bm_sld hx hb hXs hbl hbA hS (j := (i + 2)) (by omega) (by omega) dL_law_441 ?_
    refine lv_if_eq (x := (xs (i + 2))) (tgt := 449) hx hb dL_law_442 (by decide) (fun c_2 => ?_) (fun c_2 => ?_)
    · refine lv_iconst (v := bm_b false) hx hb dL_law_449 (by decide) ?_
      refine bm_wcallV (As := [.int (nI k), .int (bm_b false)]) (rest := []) ⟨hx, hb, hml, hown, hts⟩ (Y_lockF okp hkm hxm) (cwV 2 hts gvL_88 rfl rfl rfl hvX5_lock ⟨Nat.le_of_ble_eq_true rfl, Nat.le_of_ble_eq_true rfl⟩) hK hP hD hS hA 42 5 rfl ww_42 rfl hl.1 rfl (Nat.le_of_ble_eq_true rfl) dL_law_450 hcs (fun H locs hP hD hS => ?_)
      have hP : va_P D vwCl (WW ad cJ cI cZ bm (pa.1, pa.2.1, pa.2.2.1, pa.2.2.2.1, va_up pa.2.2.2.2.1 k false, pa.2.2.2.2.2.1, pa.2.2.2.2.2.2) p0 p1 p2 li wi (0) ms (ma.1, ma.2.1, ma.2.2.1, ma.2.2.2.1, va_up ma.2.2.2.2.1 k false, ma.2.2.2.2.2.1, ma.2.2.2.2.2.2) mp mk mn (va_up ou 0 0)) H := hP
      have hD : va_D A (WW ad cJ cI cZ bm (pa.1, pa.2.1, pa.2.2.1, pa.2.2.2.1, va_up pa.2.2.2.2.1 k false, pa.2.2.2.2.2.1, pa.2.2.2.2.2.2) p0 p1 p2 li wi (0) ms (ma.1, ma.2.1, ma.2.2.1, ma.2.2.2.1, va_up ma.2.2.2.2.1 k false, ma.2.2.2.2.2.1, ma.2.2.2.2.2.2) mp mk mn (va_up ou 0 0)) := hD
      refine lv_istore (lv' := [(6, .int (bm_b false)), (5, .int (nI 0)), (0, .ref b), (1, .ref (ad 0)), (2, .ref (ad 42)), (3, .ref (ad 62)), (4, .int (nI i))]) hx hb dL_law_453 hl (by decide) rfl (fun ls hl => ?_)
      refine lv_aload_n hx hb dL_law_455 rfl (lv_at hl 4 rfl) ?_
      refine bm_rcallV (As := []) (rest := []) ⟨hx, hb, hml, hown, hts⟩ (m_thrown) (cwV 0 hts gvL_89 rfl rfl rfl hvX5_thrown ⟨Nat.le_of_ble_eq_true rfl, Nat.le_of_ble_eq_true rfl⟩) hK hP 42 5 rfl ww_42 rfl hl.1 rfl (Nat.le_of_ble_eq_true rfl) dL_law_456 hcs ?_
      refine lv_iload hx hb dL_law_459 (lv_at hl 1 rfl) ?_
      refine bm_ni_eq (x := 0) (y := 0) (tgt := 466) hx hb (by decide) (by decide) dL_law_461 (by decide) (fun c_3 => ?_) (fun c_3 => ?_)
      · refine lv_iload hx hb dL_law_466 (lv_at hl 1 rfl) ?_
        refine bm_nz_ne (x := 0) (tgt := 490) hx hb (by decide) dL_law_468 (by decide) (fun c_4 => ?_) (fun c_4 => ?_)
        · exact absurd c_4 (by decide)
        · refine lv_aload_n hx hb dL_law_471 rfl (lv_at hl 5 rfl) ?_
          refine lv_iconst (v := nI 0) hx hb dL_law_472 (by decide) ?_
          refine bm_lald (f := (va_up ou 0 0)) hx hb hK hP 62 0 ww_62 rfl (j := 0) (by omega) (by decide) dL_law_473 ?_
          refine lv_iload hx hb dL_law_474 (lv_at hl 0 rfl) ?_
          refine bm_zb_eq (x := false) (tgt := 483) hx hb dL_law_476 (by decide) (fun c_5 => ?_) (fun c_5 => ?_)
          · refine lv_lconst (v := 0) hx hb dL_law_483 (by decide) ?_
            refine bm_lc_eq (x := ((va_up ou 0 0) 0)) (y := 0) (tgt := 490) hx hb dL_law_484 dL_law_485 (by decide) (fun c_6 => ?_) (fun c_6 => ?_)
            · refine lv_goto (tgt := 1361) hx hb dL_law_490 (by decide) ?_
              exact kk bm (pa.1, pa.2.1, pa.2.2.1, pa.2.2.2.1, va_up pa.2.2.2.2.1 k false, pa.2.2.2.2.2.1, pa.2.2.2.2.2.2) p0 p1 p2 li wi (0) ms (ma.1, ma.2.1, ma.2.2.1, ma.2.2.2.1, va_up ma.2.2.2.2.1 k false, ma.2.2.2.2.2.1, ma.2.2.2.2.2.2) mp mk mn (va_up ou 0 0) okc okm (cfg_lock heq) _ _ hP hD hS _ (lv_sub hl [2, 3, 4, 5, 6] rfl)
            · exact absurd (by simp [va_up]) c_6
          · exact absurd c_5 (by decide)
      · exact absurd c_3 (by decide)
    · exact absurd hb2 c_2
  · exact absurd hb2 c_1

set_option maxHeartbeats 16000000 in
set_option maxRecDepth 100000 in
theorem V_2Nf {p : Program} {l : Launch} {e : Env} {s : State} {m : MethodId} {below : List Frame} {meth : Method} {c : Code} {b L : Nat} {xs : Nat → Int32} (hlt : l.stackTraces = false) (hL : L ≤ 5635) (C0 : lw_At p s m meth c b L xs) (hX : bx_X xW s) (hZ : bx_S RX4 xS s) (hN1 : bx_N "java/lang/IllegalArgumentException" "java/lang/IndexOutOfBoundsException" s) (hN2 : bx_N "java/lang/IllegalStateException" "java/lang/IndexOutOfBoundsException" s) {A : Nat → Prop} (hA : ∀ q : Nat, s.heap.size ≤ q → A q) (hAn : ∀ q : Nat, q < s.heap.size → ¬ A q) {D : va_G} {ad : Nat → Nat} {cJ cI cZ : ClassId} {bm : gBM} {pa : gPA} {p0 p1 p2 : gPL} {li : gLI} {wi : gWI} {mt : Nat} {ms : gMS} {ma : gMA} {mp : gMP} {mk : gMK} {mn : gMN} {ou : Nat → Int64} {i : Nat} (hi : i + 11 ≤ L) (okc : okC bm pa p0 p1 p2 li wi) (okm : okM ms ma mp mk mn) (heq : (pa.2.2.2.2.2.2, pa.2.2.1, pa.2.2.2.2.1) = (ms.2.2.1, ma.2.2.1, ma.2.2.2.2.1)) (hno : ¬ (¬ xs (i + 1) < 0 ∧ xs (i + 1) < nI pa.2.2.2.2.2.2)) (hb2 : xs (i + 2) = 0)  {H : Heap} {locs : List Loc} {cells slots : Nat} (hcs : cells + 1 ≤ room_1.cells ∧ slots + 6 ≤ room_1.slots) (hK : va_K D vwCl [(cJ, .long), (cI, .int), (cZ, .boolean)] s) (hP : va_P D vwCl (WW ad cJ cI cZ bm pa p0 p1 p2 li wi mt ms ma mp mk mn ou) H) (hD : va_D A (WW ad cJ cI cZ bm pa p0 p1 p2 li wi mt ms ma mp mk mn ou)) (hS : va_S A s.heap H locs) {ls : Array Slot} (hl : lv_has ls 8 [(0, .ref b), (1, .ref (ad 0)), (2, .ref (ad 42)), (3, .ref (ad 62)), (4, .int (nI i))]) (kk : ∀ (bm : gBM) (pa : gPA) (p0 p1 p2 : gPL) (li : gLI) (wi : gWI) (mt : Nat) (ms : gMS) (ma : gMA) (mp : gMP) (mk : gMK) (mn : gMN) (ou : Nat → Int64), okC bm pa p0 p1 p2 li wi → okM ms ma mp mk mn → (pa.2.2.2.2.2.2, pa.2.2.1, pa.2.2.2.2.1) = (ms.2.2.1, ma.2.2.1, ma.2.2.2.2.1) → ∀ (H : Heap) (locs : List Loc), va_P D vwCl (WW ad cJ cI cZ bm pa p0 p1 p2 li wi mt ms ma mp mk mn ou) H → va_D A (WW ad cJ cI cZ bm pa p0 p1 p2 li wi mt ms ma mp mk mn ou) → va_S A s.heap H locs → ∀ ls : Array Slot, lv_has ls 8 [(0, .ref b), (1, .ref (ad 0)), (2, .ref (ad 42)), (3, .ref (ad 62)), (4, .int (nI i))] → W p l e room_1 s m #[Value.ref b] below meth c H locs (cells + 1) (slots + 6) (lw_Z below #[Value.ref b] s) (F0 m 1361 ls [])) : W p l e room_1 s m #[Value.ref b] below meth c H locs cells slots (lw_Z below #[Value.ref b] s) (F0 m 402 ls []) := by
  obtain ⟨hx, hb, hr, hml, hown, hts, hXs, hbl, hlocks, hgv⟩ := id C0
  have hbA := hAn b hbl
  have hn : pa.2.2.2.2.2.2 = ms.2.2.1 := congrArg (fun q => q.1) heq
  have okn : pa.2.2.2.2.2.2 ≤ 40 := okc.1
  have okp : ms.2.2.1 ≤ 40 := okm.1
  have hnm : ¬ (¬ xs (i + 1) < 0 ∧ xs (i + 1) < nI ms.2.2.1) := by rw [← hn]; exact hno
  refine lv_aload_n hx hb dL_law_402 rfl (lv_at hl 1 rfl) ?_
  refine lv_aload_n hx hb dL_law_403 rfl (lv_at hl 0 rfl) ?_
  refine lv_iload hx hb dL_law_404 (lv_at hl 4 rfl) ?_
  refine lv_iconst (v := nI 1) hx hb dL_law_406 (by decide) ?_
  refine bm_nadd hx hb dL_law_407 ?_
  refine bm_sld hx hb hXs hbl hbA hS (j := (i + 1)) (by omega) (by omega) dL_law_408 ?_
  refine lv_aload_n hx hb dL_law_409 rfl (lv_at hl 0 rfl) ?_
  refine lv_iload hx hb dL_law_410 (lv_at hl 4 rfl) ?_
  refine lv_iconst (v := nI 2) hx hb dL_law_412 (by decide) ?_
  refine bm_nadd hx hb dL_law_413 ?_
  refine bm_sld hx hb hXs hbl hbA hS (j := (i + 2)) (by omega) (by omega) dL_law_414 ?_
  refine lv_if_eq (x := (xs (i + 2))) (tgt := 422) hx hb dL_law_415 (by decide) (fun c_1 => ?_) (fun c_1 => ?_)
  · refine lv_iconst (v := bm_b false) hx hb dL_law_422 (by decide) ?_
    refine lv_aload_n hx hb dL_law_423 rfl (lv_at hl 3 rfl) ?_
    refine bx_hcallS (n := 4) (As := [.ref (ad 0), .int (xs (i + 1)), .int (bm_b false), .ref (ad 62)]) (rest := []) ⟨hx, hb, hml, hown, hts⟩ ((E_lockN hlt hno) H.size) rfl rfl (Nat.le_of_ble_eq_true rfl) (Nat.le_of_ble_eq_true rfl) (gdH (by decide +kernel)) (by decide +kernel) rfl hK hP hD hS hA hX hZ hAn rfl hl.1 rfl (Nat.le_of_ble_eq_true rfl) dL_law_424 hcs (fun H locs hP hD hS => ?_)
    have hP : va_P D vwCl (WW ad cJ cI cZ bm pa p0 p1 p2 li wi mt ms ma mp mk mn ou) H := hP
    have hD : va_D A (WW ad cJ cI cZ bm pa p0 p1 p2 li wi mt ms ma mp mk mn ou) := hD
    refine lv_istore (lv' := [(5, .int (nI 1)), (0, .ref b), (1, .ref (ad 0)), (2, .ref (ad 42)), (3, .ref (ad 62)), (4, .int (nI i))]) hx hb dL_law_427 hl (by decide) rfl (fun ls hl => ?_)
    refine lv_aload_n hx hb dL_law_429 rfl (lv_at hl 3 rfl) ?_
    refine lv_aload_n hx hb dL_law_430 rfl (lv_at hl 1 rfl) ?_
    refine lv_iload hx hb dL_law_431 (lv_at hl 5 rfl) ?_
    refine lv_iconst (v := nI 1) hx hb dL_law_433 (by decide) ?_
    refine bm_nadd hx hb dL_law_434 ?_
    refine bm_sld hx hb hXs hbl hbA hS (j := (i + 1)) (by omega) (by omega) dL_law_435 ?_
    refine lv_aload_n hx hb dL_law_436 rfl (lv_at hl 1 rfl) ?_
    refine lv_iload hx hb dL_law_437 (lv_at hl 5 rfl) ?_
    refine lv_iconst (v := nI 2) hx hb dL_law_439 (by decide) ?_
    refine bm_nadd hx hb dL_law_440 ?_
    refine bm_sld hx hb hXs hbl hbA hS (j := (i + 2)) (by omega) (by omega) dL_law_441 ?_
    refine lv_if_eq (x := (xs (i + 2))) (tgt := 449) hx hb dL_law_442 (by decide) (fun c_2 => ?_) (fun c_2 => ?_)
    · refine lv_iconst (v := bm_b false) hx hb dL_law_449 (by decide) ?_
      refine bm_wcallV (As := [.int (xs (i + 1)), .int (bm_b false)]) (rest := []) ⟨hx, hb, hml, hown, hts⟩ (Y_lockN hnm) (cwV 2 hts gvL_88 rfl rfl rfl hvX5_lock ⟨Nat.le_of_ble_eq_true rfl, Nat.le_of_ble_eq_true rfl⟩) hK hP hD hS hA 42 5 rfl ww_42 rfl hl.1 rfl (Nat.le_of_ble_eq_true rfl) dL_law_450 hcs (fun H locs hP hD hS => ?_)
      have hP : va_P D vwCl (WW ad cJ cI cZ bm pa p0 p1 p2 li wi (1) ms ma mp mk mn ou) H := hP
      have hD : va_D A (WW ad cJ cI cZ bm pa p0 p1 p2 li wi (1) ms ma mp mk mn ou) := hD
      refine lv_istore (lv' := [(6, .int (bm_b false)), (5, .int (nI 1)), (0, .ref b), (1, .ref (ad 0)), (2, .ref (ad 42)), (3, .ref (ad 62)), (4, .int (nI i))]) hx hb dL_law_453 hl (by decide) rfl (fun ls hl => ?_)
      refine lv_aload_n hx hb dL_law_455 rfl (lv_at hl 4 rfl) ?_
      refine bm_rcallV (As := []) (rest := []) ⟨hx, hb, hml, hown, hts⟩ (m_thrown) (cwV 0 hts gvL_89 rfl rfl rfl hvX5_thrown ⟨Nat.le_of_ble_eq_true rfl, Nat.le_of_ble_eq_true rfl⟩) hK hP 42 5 rfl ww_42 rfl hl.1 rfl (Nat.le_of_ble_eq_true rfl) dL_law_456 hcs ?_
      refine lv_iload hx hb dL_law_459 (lv_at hl 1 rfl) ?_
      refine bm_ni_eq (x := 1) (y := 1) (tgt := 466) hx hb (by decide) (by decide) dL_law_461 (by decide) (fun c_3 => ?_) (fun c_3 => ?_)
      · refine lv_iload hx hb dL_law_466 (lv_at hl 1 rfl) ?_
        refine bm_nz_ne (x := 1) (tgt := 490) hx hb (by decide) dL_law_468 (by decide) (fun c_4 => ?_) (fun c_4 => ?_)
        · refine lv_goto (tgt := 1361) hx hb dL_law_490 (by decide) ?_
          exact kk bm pa p0 p1 p2 li wi (1) ms ma mp mk mn ou okc okm heq _ _ hP hD hS _ (lv_sub hl [2, 3, 4, 5, 6] rfl)
        · exact absurd c_4 (by decide)
      · exact absurd c_3 (by decide)
    · exact absurd hb2 c_2
  · exact absurd hb2 c_1

set_option maxHeartbeats 16000000 in
set_option maxRecDepth 100000 in
theorem V_15A {p : Program} {l : Launch} {e : Env} {s : State} {m : MethodId} {below : List Frame} {meth : Method} {c : Code} {b L : Nat} {xs : Nat → Int32} (hlt : l.stackTraces = false) (hL : L ≤ 5635) (C0 : lw_At p s m meth c b L xs) (hX : bx_X xW s) (hZ : bx_S RX4 xS s) (hN1 : bx_N "java/lang/IllegalArgumentException" "java/lang/IndexOutOfBoundsException" s) (hN2 : bx_N "java/lang/IllegalStateException" "java/lang/IndexOutOfBoundsException" s) {A : Nat → Prop} (hA : ∀ q : Nat, s.heap.size ≤ q → A q) (hAn : ∀ q : Nat, q < s.heap.size → ¬ A q) {D : va_G} {ad : Nat → Nat} {cJ cI cZ : ClassId} {bm : gBM} {pa : gPA} {p0 p1 p2 : gPL} {li : gLI} {wi : gWI} {mt : Nat} {ms : gMS} {ma : gMA} {mp : gMP} {mk : gMK} {mn : gMN} {ou : Nat → Int64} {i : Nat} (hi : i + 11 ≤ L) (okc : okC bm pa p0 p1 p2 li wi) (okm : okM ms ma mp mk mn) (heq : (pa.2.2.2.2.2.2, pa.2.2.1, pa.2.2.2.2.1) = (ms.2.2.1, ma.2.2.1, ma.2.2.2.2.1)) {k : Nat} (hk_zA : k < pa.2.2.2.2.2.2) (hc : xs (i + 1) = nI k)  {H : Heap} {locs : List Loc} {cells slots : Nat} (hcs : cells + 1 ≤ room_1.cells ∧ slots + 6 ≤ room_1.slots) (hK : va_K D vwCl [(cJ, .long), (cI, .int), (cZ, .boolean)] s) (hP : va_P D vwCl (WW ad cJ cI cZ bm pa p0 p1 p2 li wi mt ms ma mp mk mn ou) H) (hD : va_D A (WW ad cJ cI cZ bm pa p0 p1 p2 li wi mt ms ma mp mk mn ou)) (hS : va_S A s.heap H locs) {ls : Array Slot} (hl : lv_has ls 8 [(0, .ref b), (1, .ref (ad 0)), (2, .ref (ad 42)), (3, .ref (ad 62)), (4, .int (nI i))]) (kk : ∀ (bm : gBM) (pa : gPA) (p0 p1 p2 : gPL) (li : gLI) (wi : gWI) (mt : Nat) (ms : gMS) (ma : gMA) (mp : gMP) (mk : gMK) (mn : gMN) (ou : Nat → Int64), okC bm pa p0 p1 p2 li wi → okM ms ma mp mk mn → (pa.2.2.2.2.2.2, pa.2.2.1, pa.2.2.2.2.1) = (ms.2.2.1, ma.2.2.1, ma.2.2.2.2.1) → ∀ (H : Heap) (locs : List Loc), va_P D vwCl (WW ad cJ cI cZ bm pa p0 p1 p2 li wi mt ms ma mp mk mn ou) H → va_D A (WW ad cJ cI cZ bm pa p0 p1 p2 li wi mt ms ma mp mk mn ou) → va_S A s.heap H locs → ∀ ls : Array Slot, lv_has ls 8 [(0, .ref b), (1, .ref (ad 0)), (2, .ref (ad 42)), (3, .ref (ad 62)), (4, .int (nI i))] → W p l e room_1 s m #[Value.ref b] below meth c H locs (cells + 1) (slots + 6) (lw_Z below #[Value.ref b] s) (F0 m 1361 ls [])) : W p l e room_1 s m #[Value.ref b] below meth c H locs cells slots (lw_Z below #[Value.ref b] s) (F0 m 1333 ls []) := by
  obtain ⟨hx, hb, hr, hml, hown, hts, hXs, hbl, hlocks, hgv⟩ := id C0
  have hbA := hAn b hbl
  have hn : pa.2.2.2.2.2.2 = ms.2.2.1 := congrArg (fun q => q.1) heq
  have okn : pa.2.2.2.2.2.2 ≤ 40 := okc.1
  have okp : ms.2.2.1 ≤ 40 := okm.1
  have hkm : k < ms.2.2.1 := by omega
  have hs : pa.2.2.1 = ma.2.2.1 := congrArg (fun q => q.2.1) heq
  refine lv_aload_n hx hb dL_law_1333 rfl (lv_at hl 1 rfl) ?_
  refine lv_aload_n hx hb dL_law_1334 rfl (lv_at hl 0 rfl) ?_
  refine lv_iload hx hb dL_law_1335 (lv_at hl 4 rfl) ?_
  refine lv_iconst (v := nI 1) hx hb dL_law_1337 (by decide) ?_
  refine bm_nadd hx hb dL_law_1338 ?_
  refine bm_sld hx hb hXs hbl hbA hS (j := (i + 1)) (by omega) (by omega) dL_law_1339 ?_
  rw [hc]
  refine lv_aload_n hx hb dL_law_1340 rfl (lv_at hl 3 rfl) ?_
  refine bx_hcallS (n := 3) (As := [.ref (ad 0), .int (nI k), .ref (ad 62)]) (rest := []) ⟨hx, hb, hml, hown, hts⟩ ((E_sideA hlt okn hk_zA) H.size) rfl rfl (Nat.le_of_ble_eq_true rfl) (Nat.le_of_ble_eq_true rfl) (gdH (by decide +kernel)) (by decide +kernel) rfl hK hP hD hS hA hX hZ hAn rfl hl.1 rfl (Nat.le_of_ble_eq_true rfl) dL_law_1341 hcs (fun H locs hP hD hS => ?_)
  have hP : va_P D vwCl (WW ad cJ cI cZ bm pa p0 p1 p2 li wi mt ms ma mp mk mn (va_up ou 0 ((nI (pa.2.2.1 k)).toInt64))) H := hP
  have hD : va_D A (WW ad cJ cI cZ bm pa p0 p1 p2 li wi mt ms ma mp mk mn (va_up ou 0 ((nI (pa.2.2.1 k)).toInt64))) := hD
  refine lv_istore (lv' := [(5, .int (nI 0)), (0, .ref b), (1, .ref (ad 0)), (2, .ref (ad 42)), (3, .ref (ad 62)), (4, .int (nI i))]) hx hb dL_law_1344 hl (by decide) rfl (fun ls hl => ?_)
  refine lv_aload_n hx hb dL_law_1346 rfl (lv_at hl 3 rfl) ?_
  refine lv_aload_n hx hb dL_law_1347 rfl (lv_at hl 1 rfl) ?_
  refine lv_iload hx hb dL_law_1348 (lv_at hl 5 rfl) ?_
  refine lv_iconst (v := nI 1) hx hb dL_law_1350 (by decide) ?_
  refine bm_nadd hx hb dL_law_1351 ?_
  refine bm_sld hx hb hXs hbl hbA hS (j := (i + 1)) (by omega) (by omega) dL_law_1352 ?_
  rw [hc]
  refine bm_wcallV (As := [.int (nI k)]) (rest := []) ⟨hx, hb, hml, hown, hts⟩ (Y_sideA okp hkm) (cwV 1 hts gvL_145 rfl rfl rfl hvX5_side ⟨Nat.le_of_ble_eq_true rfl, Nat.le_of_ble_eq_true rfl⟩) hK hP hD hS hA 42 5 rfl ww_42 rfl hl.1 rfl (Nat.le_of_ble_eq_true rfl) dL_law_1353 hcs (fun H locs hP hD hS => ?_)
  have hP : va_P D vwCl (WW ad cJ cI cZ bm pa p0 p1 p2 li wi (0) ms ma mp mk mn (va_up ou 0 ((nI (pa.2.2.1 k)).toInt64))) H := hP
  have hD : va_D A (WW ad cJ cI cZ bm pa p0 p1 p2 li wi (0) ms ma mp mk mn (va_up ou 0 ((nI (pa.2.2.1 k)).toInt64))) := hD
  refine lv_istore (lv' := [(6, .int (nI (ma.2.2.1 k))), (5, .int (nI 0)), (0, .ref b), (1, .ref (ad 0)), (2, .ref (ad 42)), (3, .ref (ad 62)), (4, .int (nI i))]) hx hb dL_law_1356 hl (by decide) rfl (fun ls hl => ?_)
  refine lv_goto (tgt := 1361) hx hb dL_law_1358 (by decide) ?_
  exact kk bm pa p0 p1 p2 li wi (0) ms ma mp mk mn (va_up ou 0 ((nI (pa.2.2.1 k)).toInt64)) okc okm heq _ _ hP hD hS _ (lv_sub hl [2, 3, 4, 5, 6] rfl)

set_option maxHeartbeats 16000000 in
set_option maxRecDepth 100000 in
theorem V_15N {p : Program} {l : Launch} {e : Env} {s : State} {m : MethodId} {below : List Frame} {meth : Method} {c : Code} {b L : Nat} {xs : Nat → Int32} (hlt : l.stackTraces = false) (hL : L ≤ 5635) (C0 : lw_At p s m meth c b L xs) (hX : bx_X xW s) (hZ : bx_S RX4 xS s) (hN1 : bx_N "java/lang/IllegalArgumentException" "java/lang/IndexOutOfBoundsException" s) (hN2 : bx_N "java/lang/IllegalStateException" "java/lang/IndexOutOfBoundsException" s) {A : Nat → Prop} (hA : ∀ q : Nat, s.heap.size ≤ q → A q) (hAn : ∀ q : Nat, q < s.heap.size → ¬ A q) {D : va_G} {ad : Nat → Nat} {cJ cI cZ : ClassId} {bm : gBM} {pa : gPA} {p0 p1 p2 : gPL} {li : gLI} {wi : gWI} {mt : Nat} {ms : gMS} {ma : gMA} {mp : gMP} {mk : gMK} {mn : gMN} {ou : Nat → Int64} {i : Nat} (hi : i + 11 ≤ L) (okc : okC bm pa p0 p1 p2 li wi) (okm : okM ms ma mp mk mn) (heq : (pa.2.2.2.2.2.2, pa.2.2.1, pa.2.2.2.2.1) = (ms.2.2.1, ma.2.2.1, ma.2.2.2.2.1)) (hno : ¬ (¬ xs (i + 1) < 0 ∧ xs (i + 1) < nI pa.2.2.2.2.2.2))  {H : Heap} {locs : List Loc} {cells slots : Nat} (hcs : cells + 1 ≤ room_1.cells ∧ slots + 6 ≤ room_1.slots) (hK : va_K D vwCl [(cJ, .long), (cI, .int), (cZ, .boolean)] s) (hP : va_P D vwCl (WW ad cJ cI cZ bm pa p0 p1 p2 li wi mt ms ma mp mk mn ou) H) (hD : va_D A (WW ad cJ cI cZ bm pa p0 p1 p2 li wi mt ms ma mp mk mn ou)) (hS : va_S A s.heap H locs) {ls : Array Slot} (hl : lv_has ls 8 [(0, .ref b), (1, .ref (ad 0)), (2, .ref (ad 42)), (3, .ref (ad 62)), (4, .int (nI i))]) (kk : ∀ (bm : gBM) (pa : gPA) (p0 p1 p2 : gPL) (li : gLI) (wi : gWI) (mt : Nat) (ms : gMS) (ma : gMA) (mp : gMP) (mk : gMK) (mn : gMN) (ou : Nat → Int64), okC bm pa p0 p1 p2 li wi → okM ms ma mp mk mn → (pa.2.2.2.2.2.2, pa.2.2.1, pa.2.2.2.2.1) = (ms.2.2.1, ma.2.2.1, ma.2.2.2.2.1) → ∀ (H : Heap) (locs : List Loc), va_P D vwCl (WW ad cJ cI cZ bm pa p0 p1 p2 li wi mt ms ma mp mk mn ou) H → va_D A (WW ad cJ cI cZ bm pa p0 p1 p2 li wi mt ms ma mp mk mn ou) → va_S A s.heap H locs → ∀ ls : Array Slot, lv_has ls 8 [(0, .ref b), (1, .ref (ad 0)), (2, .ref (ad 42)), (3, .ref (ad 62)), (4, .int (nI i))] → W p l e room_1 s m #[Value.ref b] below meth c H locs (cells + 1) (slots + 6) (lw_Z below #[Value.ref b] s) (F0 m 1361 ls [])) : W p l e room_1 s m #[Value.ref b] below meth c H locs cells slots (lw_Z below #[Value.ref b] s) (F0 m 1333 ls []) := by
  obtain ⟨hx, hb, hr, hml, hown, hts, hXs, hbl, hlocks, hgv⟩ := id C0
  have hbA := hAn b hbl
  have hn : pa.2.2.2.2.2.2 = ms.2.2.1 := congrArg (fun q => q.1) heq
  have okn : pa.2.2.2.2.2.2 ≤ 40 := okc.1
  have okp : ms.2.2.1 ≤ 40 := okm.1
  have hnm : ¬ (¬ xs (i + 1) < 0 ∧ xs (i + 1) < nI ms.2.2.1) := by rw [← hn]; exact hno
  refine lv_aload_n hx hb dL_law_1333 rfl (lv_at hl 1 rfl) ?_
  refine lv_aload_n hx hb dL_law_1334 rfl (lv_at hl 0 rfl) ?_
  refine lv_iload hx hb dL_law_1335 (lv_at hl 4 rfl) ?_
  refine lv_iconst (v := nI 1) hx hb dL_law_1337 (by decide) ?_
  refine bm_nadd hx hb dL_law_1338 ?_
  refine bm_sld hx hb hXs hbl hbA hS (j := (i + 1)) (by omega) (by omega) dL_law_1339 ?_
  refine lv_aload_n hx hb dL_law_1340 rfl (lv_at hl 3 rfl) ?_
  refine bx_hcallS (n := 3) (As := [.ref (ad 0), .int (xs (i + 1)), .ref (ad 62)]) (rest := []) ⟨hx, hb, hml, hown, hts⟩ ((E_sideN hlt hno) H.size) rfl rfl (Nat.le_of_ble_eq_true rfl) (Nat.le_of_ble_eq_true rfl) (gdH (by decide +kernel)) (by decide +kernel) rfl hK hP hD hS hA hX hZ hAn rfl hl.1 rfl (Nat.le_of_ble_eq_true rfl) dL_law_1341 hcs (fun H locs hP hD hS => ?_)
  have hP : va_P D vwCl (WW ad cJ cI cZ bm pa p0 p1 p2 li wi mt ms ma mp mk mn ou) H := hP
  have hD : va_D A (WW ad cJ cI cZ bm pa p0 p1 p2 li wi mt ms ma mp mk mn ou) := hD
  refine lv_istore (lv' := [(5, .int (nI 1)), (0, .ref b), (1, .ref (ad 0)), (2, .ref (ad 42)), (3, .ref (ad 62)), (4, .int (nI i))]) hx hb dL_law_1344 hl (by decide) rfl (fun ls hl => ?_)
  refine lv_aload_n hx hb dL_law_1346 rfl (lv_at hl 3 rfl) ?_
  refine lv_aload_n hx hb dL_law_1347 rfl (lv_at hl 1 rfl) ?_
  refine lv_iload hx hb dL_law_1348 (lv_at hl 5 rfl) ?_
  refine lv_iconst (v := nI 1) hx hb dL_law_1350 (by decide) ?_
  refine bm_nadd hx hb dL_law_1351 ?_
  refine bm_sld hx hb hXs hbl hbA hS (j := (i + 1)) (by omega) (by omega) dL_law_1352 ?_
  refine bm_wcallV (As := [.int (xs (i + 1))]) (rest := []) ⟨hx, hb, hml, hown, hts⟩ (Y_sideN hnm) (cwV 1 hts gvL_145 rfl rfl rfl hvX5_side ⟨Nat.le_of_ble_eq_true rfl, Nat.le_of_ble_eq_true rfl⟩) hK hP hD hS hA 42 5 rfl ww_42 rfl hl.1 rfl (Nat.le_of_ble_eq_true rfl) dL_law_1353 hcs (fun H locs hP hD hS => ?_)
  have hP : va_P D vwCl (WW ad cJ cI cZ bm pa p0 p1 p2 li wi (1) ms ma mp mk mn ou) H := hP
  have hD : va_D A (WW ad cJ cI cZ bm pa p0 p1 p2 li wi (1) ms ma mp mk mn ou) := hD
  refine lv_istore (lv' := [(6, .int (nI 0)), (5, .int (nI 1)), (0, .ref b), (1, .ref (ad 0)), (2, .ref (ad 42)), (3, .ref (ad 62)), (4, .int (nI i))]) hx hb dL_law_1356 hl (by decide) rfl (fun ls hl => ?_)
  refine lv_goto (tgt := 1361) hx hb dL_law_1358 (by decide) ?_
  exact kk bm pa p0 p1 p2 li wi (1) ms ma mp mk mn ou okc okm heq _ _ hP hD hS _ (lv_sub hl [2, 3, 4, 5, 6] rfl)
