set_option maxHeartbeats 16000000 in
set_option maxRecDepth 100000 in
theorem V_1 {p : Program} {l : Launch} {e : Env} {s : State} {m : MethodId} {below : List Frame} {meth : Method} {c : Code} {b L : Nat} {xs : Nat → Int32} (hlt : l.stackTraces = false) (hL : L ≤ 5635) (C0 : lw_At p s m meth c b L xs) (hX : bx_X xW s) (hZ : bx_S RX4 xS s) (hN1 : bx_N "java/lang/IllegalArgumentException" "java/lang/IndexOutOfBoundsException" s) (hN2 : bx_N "java/lang/IllegalStateException" "java/lang/IndexOutOfBoundsException" s) {A : Nat → Prop} (hA : ∀ q : Nat, s.heap.size ≤ q → A q) (hAn : ∀ q : Nat, q < s.heap.size → ¬ A q) {D : va_G} {ad : Nat → Nat} {cJ cI cZ : ClassId} {bm : gBM} {pa : gPA} {p0 p1 p2 : gPL} {li : gLI} {wi : gWI} {mt : Nat} {ms : gMS} {ma : gMA} {mp : gMP} {mk : gMK} {mn : gMN} {ou : Nat → Int64} {i : Nat} (hi : i + 11 ≤ L) (okc : okC bm pa p0 p1 p2 li wi) (okm : okM ms ma mp mk mn) (heq : 0 = 0)  {H : Heap} {locs : List Loc} {cells slots : Nat} (hcs : cells + 1 ≤ room_1.cells ∧ slots + 6 ≤ room_1.slots) (hK : va_K D vwCl [(cJ, .long), (cI, .int), (cZ, .boolean)] s) (hP : va_P D vwCl (WW ad cJ cI cZ bm pa p0 p1 p2 li wi mt ms ma mp mk mn ou) H) (hD : va_D A (WW ad cJ cI cZ bm pa p0 p1 p2 li wi mt ms ma mp mk mn ou)) (hS : va_S A s.heap H locs) {ls : Array Slot} (hl : lv_has ls 8 [(0, .ref b), (1, .ref (ad 0)), (2, .ref (ad 42)), (3, .ref (ad 62)), (4, .int (nI i))]) (kk : ∀ (bm : gBM) (pa : gPA) (p0 p1 p2 : gPL) (li : gLI) (wi : gWI) (mt : Nat) (ms : gMS) (ma : gMA) (mp : gMP) (mk : gMK) (mn : gMN) (ou : Nat → Int64), okC bm pa p0 p1 p2 li wi → okM ms ma mp mk mn → 0 = 0 → ∀ (H : Heap) (locs : List Loc), va_P D vwCl (WW ad cJ cI cZ bm pa p0 p1 p2 li wi mt ms ma mp mk mn ou) H → va_D A (WW ad cJ cI cZ bm pa p0 p1 p2 li wi mt ms ma mp mk mn ou) → va_S A s.heap H locs → ∀ ls : Array Slot, lv_has ls 8 [(0, .ref b), (1, .ref (ad 0)), (2, .ref (ad 42)), (3, .ref (ad 62)), (4, .int (nI i))] → W p l e room_1 s m #[Value.ref b] below meth c H locs (cells + 1) (slots + 6) (lw_Z below #[Value.ref b] s) (F0 m 1326 ls [])) : W p l e room_1 s m #[Value.ref b] below meth c H locs cells slots (lw_Z below #[Value.ref b] s) (F0 m 272 ls []) := by
  obtain ⟨hx, hb, hr, hml, hown, hts, hXs, hbl, hlocks, hgv⟩ := id C0
  have hbA := hAn b hbl
  refine lv_aload_n hx hb dL_law_272 rfl (lv_at hl 1 rfl) ?_
  refine lv_aload_n hx hb dL_law_273 rfl (lv_at hl 0 rfl) ?_
  refine lv_iload hx hb dL_law_274 (lv_at hl 4 rfl) ?_
  refine lv_iconst (v := nI 1) hx hb dL_law_276 (by decide) ?_
  refine bm_nadd hx hb dL_law_277 ?_
  refine bm_sld hx hb hXs hbl hbA hS (j := (i + 1)) (by omega) (by omega) dL_law_278 ?_
  refine lv_aload_n hx hb dL_law_279 rfl (lv_at hl 0 rfl) ?_
  refine lv_iload hx hb dL_law_280 (lv_at hl 4 rfl) ?_
  refine lv_iconst (v := nI 2) hx hb dL_law_282 (by decide) ?_
  refine bm_nadd hx hb dL_law_283 ?_
  refine bm_sld hx hb hXs hbl hbA hS (j := (i + 2)) (by omega) (by omega) dL_law_284 ?_
  refine lv_i2l (v := (xs (i + 2)).toInt64) hx hb dL_law_285 rfl ?_
  refine lv_bipush (v := nI 32) hx hb dL_law_286 (by decide) ?_
  refine lv_lshl (v := ((xs (i + 2)).toInt64) <<< ((nI 32).toInt64 &&& 63)) hx hb dL_law_288 rfl ?_
  refine lv_aload_n hx hb dL_law_289 rfl (lv_at hl 0 rfl) ?_
  refine lv_iload hx hb dL_law_290 (lv_at hl 4 rfl) ?_
  refine lv_iconst (v := nI 3) hx hb dL_law_292 (by decide) ?_
  refine bm_nadd hx hb dL_law_293 ?_
  refine bm_sld hx hb hXs hbl hbA hS (j := (i + 3)) (by omega) (by omega) dL_law_294 ?_
  refine lv_i2l (v := (xs (i + 3)).toInt64) hx hb dL_law_295 rfl ?_
  refine lv_ldc2 (v := 4294967295) hx hb hown (hts (.constantLong RL 75 4294967295) (List.mem_filter.mp clL_75).1) dL_law_296 ?_
  refine lv_land hx hb dL_law_299 ?_
  refine lv_lor hx hb dL_law_300 ?_
  refine lv_aload_n hx hb dL_law_301 rfl (lv_at hl 0 rfl) ?_
  refine lv_iload hx hb dL_law_302 (lv_at hl 4 rfl) ?_
  refine lv_iconst (v := nI 4) hx hb dL_law_304 (by decide) ?_
  refine bm_nadd hx hb dL_law_305 ?_
  refine bm_sld hx hb hXs hbl hbA hS (j := (i + 4)) (by omega) (by omega) dL_law_306 ?_
  refine lv_i2l (v := (xs (i + 4)).toInt64) hx hb dL_law_307 rfl ?_
  refine lv_bipush (v := nI 32) hx hb dL_law_308 (by decide) ?_
  refine lv_lshl (v := ((xs (i + 4)).toInt64) <<< ((nI 32).toInt64 &&& 63)) hx hb dL_law_310 rfl ?_
  refine lv_aload_n hx hb dL_law_311 rfl (lv_at hl 0 rfl) ?_
  refine lv_iload hx hb dL_law_312 (lv_at hl 4 rfl) ?_
  refine lv_iconst (v := nI 5) hx hb dL_law_314 (by decide) ?_
  refine bm_nadd hx hb dL_law_315 ?_
  refine bm_sld hx hb hXs hbl hbA hS (j := (i + 5)) (by omega) (by omega) dL_law_316 ?_
  refine lv_i2l (v := (xs (i + 5)).toInt64) hx hb dL_law_317 rfl ?_
  refine lv_ldc2 (v := 4294967295) hx hb hown (hts (.constantLong RL 75 4294967295) (List.mem_filter.mp clL_75).1) dL_law_318 ?_
  refine lv_land hx hb dL_law_321 ?_
  refine lv_lor hx hb dL_law_322 ?_
  refine lv_aload_n hx hb dL_law_323 rfl (lv_at hl 0 rfl) ?_
  refine lv_iload hx hb dL_law_324 (lv_at hl 4 rfl) ?_
  refine lv_bipush (v := nI 6) hx hb dL_law_326 (by decide) ?_
  refine bm_nadd hx hb dL_law_328 ?_
  refine bm_sld hx hb hXs hbl hbA hS (j := (i + 6)) (by omega) (by omega) dL_law_329 ?_
  refine lv_aload_n hx hb dL_law_330 rfl (lv_at hl 3 rfl) ?_
  refine bx_xhcallS (n := 6) (As := [.ref (ad 0), .int (xs (i + 1)), .long ((((xs (i + 2)).toInt64) <<< ((nI 32).toInt64 &&& 63)) ||| (((xs (i + 3)).toInt64) &&& 4294967295)), .long ((((xs (i + 4)).toInt64) <<< ((nI 32).toInt64 &&& 63)) ||| (((xs (i + 5)).toInt64) &&& 4294967295)), .int (xs (i + 6)), .ref (ad 62)]) (rest := []) ⟨hx, hb, hml, hown, hts⟩ (H_put hlt  okc H.size) rfl rfl (Nat.le_of_ble_eq_true rfl) (Nat.le_of_ble_eq_true rfl) (gdH (by decide +kernel)) (by decide +kernel) rfl hK hP hD hS hA hX hZ hN1 hN2 hAn rfl hl.1 rfl (Nat.le_of_ble_eq_true rfl) dL_law_331 hcs (fun ws_1 r_2 h_3 H locs hP hD hS => ?_)
  obtain ⟨bmn_4, pan_5, p0n_6, p1n_7, p2n_8, lin_9, win_10, oun_11, okn_12, hnn_13, rfl, v_14, rfl⟩ := h_3
  have hP : va_P D vwCl (WW ad cJ cI cZ bmn_4 pan_5 p0n_6 p1n_7 p2n_8 lin_9 win_10 mt ms ma mp mk mn oun_11) H := hP
  have hD : va_D A (WW ad cJ cI cZ bmn_4 pan_5 p0n_6 p1n_7 p2n_8 lin_9 win_10 mt ms ma mp mk mn oun_11) := hD
  refine lv_istore (lv' := [(5, .int v_14), (0, .ref b), (1, .ref (ad 0)), (2, .ref (ad 42)), (3, .ref (ad 62)), (4, .int (nI i))]) hx hb dL_law_334 hl (by decide) rfl (fun ls hl => ?_)
  refine lv_aload_n hx hb dL_law_336 rfl (lv_at hl 3 rfl) ?_
  refine lv_aload_n hx hb dL_law_337 rfl (lv_at hl 1 rfl) ?_
  refine lv_iload hx hb dL_law_338 (lv_at hl 5 rfl) ?_
  refine lv_iconst (v := nI 1) hx hb dL_law_340 (by decide) ?_
  refine bm_nadd hx hb dL_law_341 ?_
  refine bm_sld hx hb hXs hbl hbA hS (j := (i + 1)) (by omega) (by omega) dL_law_342 ?_
  refine lv_aload_n hx hb dL_law_343 rfl (lv_at hl 1 rfl) ?_
  refine lv_iload hx hb dL_law_344 (lv_at hl 5 rfl) ?_
  refine lv_iconst (v := nI 2) hx hb dL_law_346 (by decide) ?_
  refine bm_nadd hx hb dL_law_347 ?_
  refine bm_sld hx hb hXs hbl hbA hS (j := (i + 2)) (by omega) (by omega) dL_law_348 ?_
  refine lv_i2l (v := (xs (i + 2)).toInt64) hx hb dL_law_349 rfl ?_
  refine lv_bipush (v := nI 32) hx hb dL_law_350 (by decide) ?_
  refine lv_lshl (v := ((xs (i + 2)).toInt64) <<< ((nI 32).toInt64 &&& 63)) hx hb dL_law_352 rfl ?_
  refine lv_aload_n hx hb dL_law_353 rfl (lv_at hl 1 rfl) ?_
  refine lv_iload hx hb dL_law_354 (lv_at hl 5 rfl) ?_
  refine lv_iconst (v := nI 3) hx hb dL_law_356 (by decide) ?_
  refine bm_nadd hx hb dL_law_357 ?_
  refine bm_sld hx hb hXs hbl hbA hS (j := (i + 3)) (by omega) (by omega) dL_law_358 ?_
  refine lv_i2l (v := (xs (i + 3)).toInt64) hx hb dL_law_359 rfl ?_
  refine lv_ldc2 (v := 4294967295) hx hb hown (hts (.constantLong RL 75 4294967295) (List.mem_filter.mp clL_75).1) dL_law_360 ?_
  refine lv_land hx hb dL_law_363 ?_
  refine lv_lor hx hb dL_law_364 ?_
  refine lv_aload_n hx hb dL_law_365 rfl (lv_at hl 1 rfl) ?_
  refine lv_iload hx hb dL_law_366 (lv_at hl 5 rfl) ?_
  refine lv_iconst (v := nI 4) hx hb dL_law_368 (by decide) ?_
  refine bm_nadd hx hb dL_law_369 ?_
  refine bm_sld hx hb hXs hbl hbA hS (j := (i + 4)) (by omega) (by omega) dL_law_370 ?_
  refine lv_i2l (v := (xs (i + 4)).toInt64) hx hb dL_law_371 rfl ?_
  refine lv_bipush (v := nI 32) hx hb dL_law_372 (by decide) ?_
  refine lv_lshl (v := ((xs (i + 4)).toInt64) <<< ((nI 32).toInt64 &&& 63)) hx hb dL_law_374 rfl ?_
  refine lv_aload_n hx hb dL_law_375 rfl (lv_at hl 1 rfl) ?_
  refine lv_iload hx hb dL_law_376 (lv_at hl 5 rfl) ?_
  refine lv_iconst (v := nI 5) hx hb dL_law_378 (by decide) ?_
  refine bm_nadd hx hb dL_law_379 ?_
  refine bm_sld hx hb hXs hbl hbA hS (j := (i + 5)) (by omega) (by omega) dL_law_380 ?_
  refine lv_i2l (v := (xs (i + 5)).toInt64) hx hb dL_law_381 rfl ?_
  refine lv_ldc2 (v := 4294967295) hx hb hown (hts (.constantLong RL 75 4294967295) (List.mem_filter.mp clL_75).1) dL_law_382 ?_
  refine lv_land hx hb dL_law_385 ?_
  refine lv_lor hx hb dL_law_386 ?_
  refine lv_aload_n hx hb dL_law_387 rfl (lv_at hl 1 rfl) ?_
  refine lv_iload hx hb dL_law_388 (lv_at hl 5 rfl) ?_
  refine lv_bipush (v := nI 6) hx hb dL_law_390 (by decide) ?_
  refine bm_nadd hx hb dL_law_392 ?_
  refine bm_sld hx hb hXs hbl hbA hS (j := (i + 6)) (by omega) (by omega) dL_law_393 ?_
  refine bm_xcallV (As := [.int (xs (i + 1)), .long ((((xs (i + 2)).toInt64) <<< ((nI 32).toInt64 &&& 63)) ||| (((xs (i + 3)).toInt64) &&& 4294967295)), .long ((((xs (i + 4)).toInt64) <<< ((nI 32).toInt64 &&& 63)) ||| (((xs (i + 5)).toInt64) &&& 4294967295)), .int (xs (i + 6))]) (rest := []) ⟨hx, hb, hml, hown, hts⟩ (Y_put   okm ) (cwV 4 hts gvL_84 rfl rfl rfl hvX5_put ⟨Nat.le_of_ble_eq_true rfl, Nat.le_of_ble_eq_true rfl⟩) hK hP hD hS hA 42 5 rfl ww_42 rfl hl.1 rfl (Nat.le_of_ble_eq_true rfl) dL_law_394 hcs (fun ws_15 r_16 h_17 H locs hP hD hS => ?_)
  obtain ⟨mtn_18, msn_19, man_20, mpn_21, mkn_22, mnn_23, okn_24, hnn_25, rfl, v_26, rfl⟩ := h_17
  have hP : va_P D vwCl (WW ad cJ cI cZ bmn_4 pan_5 p0n_6 p1n_7 p2n_8 lin_9 win_10 mtn_18 msn_19 man_20 mpn_21 mkn_22 mnn_23 oun_11) H := hP
  have hD : va_D A (WW ad cJ cI cZ bmn_4 pan_5 p0n_6 p1n_7 p2n_8 lin_9 win_10 mtn_18 msn_19 man_20 mpn_21 mkn_22 mnn_23 oun_11) := hD
  refine lv_istore (lv' := [(6, .int (bm_b v_26)), (5, .int v_14), (0, .ref b), (1, .ref (ad 0)), (2, .ref (ad 42)), (3, .ref (ad 62)), (4, .int (nI i))]) hx hb dL_law_397 hl (by decide) rfl (fun ls hl => ?_)
  refine lv_goto (tgt := 1326) hx hb dL_law_399 (by decide) ?_
  exact kk bmn_4 pan_5 p0n_6 p1n_7 p2n_8 lin_9 win_10 mtn_18 msn_19 man_20 mpn_21 mkn_22 mnn_23 oun_11 okn_12 okn_24 (hnn_13.trans (heq.trans hnn_25.symm)) _ _ hP hD hS _ (lv_sub hl [2, 3, 4, 5, 6] rfl)

set_option maxHeartbeats 16000000 in
set_option maxRecDepth 100000 in
theorem V_2 {p : Program} {l : Launch} {e : Env} {s : State} {m : MethodId} {below : List Frame} {meth : Method} {c : Code} {b L : Nat} {xs : Nat → Int32} (hlt : l.stackTraces = false) (hL : L ≤ 5635) (C0 : lw_At p s m meth c b L xs) (hX : bx_X xW s) (hZ : bx_S RX4 xS s) (hN1 : bx_N "java/lang/IllegalArgumentException" "java/lang/IndexOutOfBoundsException" s) (hN2 : bx_N "java/lang/IllegalStateException" "java/lang/IndexOutOfBoundsException" s) {A : Nat → Prop} (hA : ∀ q : Nat, s.heap.size ≤ q → A q) (hAn : ∀ q : Nat, q < s.heap.size → ¬ A q) {D : va_G} {ad : Nat → Nat} {cJ cI cZ : ClassId} {bm : gBM} {pa : gPA} {p0 p1 p2 : gPL} {li : gLI} {wi : gWI} {mt : Nat} {ms : gMS} {ma : gMA} {mp : gMP} {mk : gMK} {mn : gMN} {ou : Nat → Int64} {i : Nat} (hi : i + 11 ≤ L) (okc : okC bm pa p0 p1 p2 li wi) (okm : okM ms ma mp mk mn) (heq : 0 = 0)  {H : Heap} {locs : List Loc} {cells slots : Nat} (hcs : cells + 1 ≤ room_1.cells ∧ slots + 6 ≤ room_1.slots) (hK : va_K D vwCl [(cJ, .long), (cI, .int), (cZ, .boolean)] s) (hP : va_P D vwCl (WW ad cJ cI cZ bm pa p0 p1 p2 li wi mt ms ma mp mk mn ou) H) (hD : va_D A (WW ad cJ cI cZ bm pa p0 p1 p2 li wi mt ms ma mp mk mn ou)) (hS : va_S A s.heap H locs) {ls : Array Slot} (hl : lv_has ls 8 [(0, .ref b), (1, .ref (ad 0)), (2, .ref (ad 42)), (3, .ref (ad 62)), (4, .int (nI i))]) (kk : ∀ (bm : gBM) (pa : gPA) (p0 p1 p2 : gPL) (li : gLI) (wi : gWI) (mt : Nat) (ms : gMS) (ma : gMA) (mp : gMP) (mk : gMK) (mn : gMN) (ou : Nat → Int64), okC bm pa p0 p1 p2 li wi → okM ms ma mp mk mn → 0 = 0 → ∀ (H : Heap) (locs : List Loc), va_P D vwCl (WW ad cJ cI cZ bm pa p0 p1 p2 li wi mt ms ma mp mk mn ou) H → va_D A (WW ad cJ cI cZ bm pa p0 p1 p2 li wi mt ms ma mp mk mn ou) → va_S A s.heap H locs → ∀ ls : Array Slot, lv_has ls 8 [(0, .ref b), (1, .ref (ad 0)), (2, .ref (ad 42)), (3, .ref (ad 62)), (4, .int (nI i))] → W p l e room_1 s m #[Value.ref b] below meth c H locs (cells + 1) (slots + 6) (lw_Z below #[Value.ref b] s) (F0 m 1326 ls [])) : W p l e room_1 s m #[Value.ref b] below meth c H locs cells slots (lw_Z below #[Value.ref b] s) (F0 m 402 ls []) := by
  obtain ⟨hx, hb, hr, hml, hown, hts, hXs, hbl, hlocks, hgv⟩ := id C0
  have hbA := hAn b hbl
  refine lv_aload_n hx hb dL_law_402 rfl (lv_at hl 1 rfl) ?_
  refine lv_aload_n hx hb dL_law_403 rfl (lv_at hl 0 rfl) ?_
  refine lv_iload hx hb dL_law_404 (lv_at hl 4 rfl) ?_
  refine lv_iconst (v := nI 1) hx hb dL_law_406 (by decide) ?_
  refine bm_nadd hx hb dL_law_407 ?_
  refine bm_sld hx hb hXs hbl hbA hS (j := (i + 1)) (by omega) (by omega) dL_law_408 ?_
  refine lv_aload_n hx hb dL_law_409 rfl (lv_at hl 0 rfl) ?_
  refine lv_iload hx hb dL_law_410 (lv_at hl 4 rfl) ?_
  refine lv_iconst (v := nI 2) hx hb dL_law_412 (by decide) ?_
  refine bm_nadd hx hb dL_law_413 ?_
  refine bm_sld hx hb hXs hbl hbA hS (j := (i + 2)) (by omega) (by omega) dL_law_414 ?_
  refine lv_if_eq (x := (xs (i + 2))) (tgt := 422) hx hb dL_law_415 (by decide) (fun c_1 => ?_) (fun c_1 => ?_)
  · refine lv_iconst (v := bm_b false) hx hb dL_law_422 (by decide) ?_
    refine lv_aload_n hx hb dL_law_423 rfl (lv_at hl 3 rfl) ?_
    refine bx_xhcallS (n := 4) (As := [.ref (ad 0), .int (xs (i + 1)), .int (bm_b false), .ref (ad 62)]) (rest := []) ⟨hx, hb, hml, hown, hts⟩ (H_lock hlt  okc H.size) rfl rfl (Nat.le_of_ble_eq_true rfl) (Nat.le_of_ble_eq_true rfl) (gdH (by decide +kernel)) (by decide +kernel) rfl hK hP hD hS hA hX hZ hN1 hN2 hAn rfl hl.1 rfl (Nat.le_of_ble_eq_true rfl) dL_law_424 hcs (fun ws_2 r_3 h_4 H locs hP hD hS => ?_)
    obtain ⟨bmn_5, pan_6, p0n_7, p1n_8, p2n_9, lin_10, win_11, oun_12, okn_13, hnn_14, rfl, v_15, rfl⟩ := h_4
    have hP : va_P D vwCl (WW ad cJ cI cZ bmn_5 pan_6 p0n_7 p1n_8 p2n_9 lin_10 win_11 mt ms ma mp mk mn oun_12) H := hP
    have hD : va_D A (WW ad cJ cI cZ bmn_5 pan_6 p0n_7 p1n_8 p2n_9 lin_10 win_11 mt ms ma mp mk mn oun_12) := hD
    refine lv_istore (lv' := [(5, .int v_15), (0, .ref b), (1, .ref (ad 0)), (2, .ref (ad 42)), (3, .ref (ad 62)), (4, .int (nI i))]) hx hb dL_law_427 hl (by decide) rfl (fun ls hl => ?_)
    refine lv_aload_n hx hb dL_law_429 rfl (lv_at hl 3 rfl) ?_
    refine lv_aload_n hx hb dL_law_430 rfl (lv_at hl 1 rfl) ?_
    refine lv_iload hx hb dL_law_431 (lv_at hl 5 rfl) ?_
    refine lv_iconst (v := nI 1) hx hb dL_law_433 (by decide) ?_
    refine bm_nadd hx hb dL_law_434 ?_
    refine bm_sld hx hb hXs hbl hbA hS (j := (i + 1)) (by omega) (by omega) dL_law_435 ?_
    refine lv_aload_n hx hb dL_law_436 rfl (lv_at hl 1 rfl) ?_
    refine lv_iload hx hb dL_law_437 (lv_at hl 5 rfl) ?_
    refine lv_iconst (v := nI 2) hx hb dL_law_439 (by decide) ?_
    refine bm_nadd hx hb dL_law_440 ?_
    refine bm_sld hx hb hXs hbl hbA hS (j := (i + 2)) (by omega) (by omega) dL_law_441 ?_
    refine lv_if_eq (x := (xs (i + 2))) (tgt := 449) hx hb dL_law_442 (by decide) (fun c_16 => ?_) (fun c_16 => ?_)
    · refine lv_iconst (v := bm_b false) hx hb dL_law_449 (by decide) ?_
      refine bm_xcallV (As := [.int (xs (i + 1)), .int (bm_b false)]) (rest := []) ⟨hx, hb, hml, hown, hts⟩ (Y_lock   okm ) (cwV 2 hts gvL_88 rfl rfl rfl hvX5_lock ⟨Nat.le_of_ble_eq_true rfl, Nat.le_of_ble_eq_true rfl⟩) hK hP hD hS hA 42 5 rfl ww_42 rfl hl.1 rfl (Nat.le_of_ble_eq_true rfl) dL_law_450 hcs (fun ws_17 r_18 h_19 H locs hP hD hS => ?_)
      obtain ⟨mtn_20, msn_21, man_22, mpn_23, mkn_24, mnn_25, okn_26, hnn_27, rfl, v_28, rfl⟩ := h_19
      have hP : va_P D vwCl (WW ad cJ cI cZ bmn_5 pan_6 p0n_7 p1n_8 p2n_9 lin_10 win_11 mtn_20 msn_21 man_22 mpn_23 mkn_24 mnn_25 oun_12) H := hP
      have hD : va_D A (WW ad cJ cI cZ bmn_5 pan_6 p0n_7 p1n_8 p2n_9 lin_10 win_11 mtn_20 msn_21 man_22 mpn_23 mkn_24 mnn_25 oun_12) := hD
      refine lv_istore (lv' := [(6, .int (bm_b v_28)), (5, .int v_15), (0, .ref b), (1, .ref (ad 0)), (2, .ref (ad 42)), (3, .ref (ad 62)), (4, .int (nI i))]) hx hb dL_law_453 hl (by decide) rfl (fun ls hl => ?_)
      refine lv_goto (tgt := 1326) hx hb dL_law_455 (by decide) ?_
      exact kk bmn_5 pan_6 p0n_7 p1n_8 p2n_9 lin_10 win_11 mtn_20 msn_21 man_22 mpn_23 mkn_24 mnn_25 oun_12 okn_13 okn_26 (hnn_14.trans (heq.trans hnn_27.symm)) _ _ hP hD hS _ (lv_sub hl [2, 3, 4, 5, 6] rfl)
    · refine lv_iconst (v := bm_b true) hx hb dL_law_445 (by decide) ?_
      refine lv_goto (tgt := 450) hx hb dL_law_446 (by decide) ?_
      refine bm_xcallV (As := [.int (xs (i + 1)), .int (bm_b true)]) (rest := []) ⟨hx, hb, hml, hown, hts⟩ (Y_lock   okm ) (cwV 2 hts gvL_88 rfl rfl rfl hvX5_lock ⟨Nat.le_of_ble_eq_true rfl, Nat.le_of_ble_eq_true rfl⟩) hK hP hD hS hA 42 5 rfl ww_42 rfl hl.1 rfl (Nat.le_of_ble_eq_true rfl) dL_law_450 hcs (fun ws_29 r_30 h_31 H locs hP hD hS => ?_)
      obtain ⟨mtn_32, msn_33, man_34, mpn_35, mkn_36, mnn_37, okn_38, hnn_39, rfl, v_40, rfl⟩ := h_31
      have hP : va_P D vwCl (WW ad cJ cI cZ bmn_5 pan_6 p0n_7 p1n_8 p2n_9 lin_10 win_11 mtn_32 msn_33 man_34 mpn_35 mkn_36 mnn_37 oun_12) H := hP
      have hD : va_D A (WW ad cJ cI cZ bmn_5 pan_6 p0n_7 p1n_8 p2n_9 lin_10 win_11 mtn_32 msn_33 man_34 mpn_35 mkn_36 mnn_37 oun_12) := hD
      refine lv_istore (lv' := [(6, .int (bm_b v_40)), (5, .int v_15), (0, .ref b), (1, .ref (ad 0)), (2, .ref (ad 42)), (3, .ref (ad 62)), (4, .int (nI i))]) hx hb dL_law_453 hl (by decide) rfl (fun ls hl => ?_)
      refine lv_goto (tgt := 1326) hx hb dL_law_455 (by decide) ?_
      exact kk bmn_5 pan_6 p0n_7 p1n_8 p2n_9 lin_10 win_11 mtn_32 msn_33 man_34 mpn_35 mkn_36 mnn_37 oun_12 okn_13 okn_38 (hnn_14.trans (heq.trans hnn_39.symm)) _ _ hP hD hS _ (lv_sub hl [2, 3, 4, 5, 6] rfl)
  · refine lv_iconst (v := bm_b true) hx hb dL_law_418 (by decide) ?_
    refine lv_goto (tgt := 423) hx hb dL_law_419 (by decide) ?_
    refine lv_aload_n hx hb dL_law_423 rfl (lv_at hl 3 rfl) ?_
    refine bx_xhcallS (n := 4) (As := [.ref (ad 0), .int (xs (i + 1)), .int (bm_b true), .ref (ad 62)]) (rest := []) ⟨hx, hb, hml, hown, hts⟩ (H_lock hlt  okc H.size) rfl rfl (Nat.le_of_ble_eq_true rfl) (Nat.le_of_ble_eq_true rfl) (gdH (by decide +kernel)) (by decide +kernel) rfl hK hP hD hS hA hX hZ hN1 hN2 hAn rfl hl.1 rfl (Nat.le_of_ble_eq_true rfl) dL_law_424 hcs (fun ws_41 r_42 h_43 H locs hP hD hS => ?_)
    obtain ⟨bmn_44, pan_45, p0n_46, p1n_47, p2n_48, lin_49, win_50, oun_51, okn_52, hnn_53, rfl, v_54, rfl⟩ := h_43
    have hP : va_P D vwCl (WW ad cJ cI cZ bmn_44 pan_45 p0n_46 p1n_47 p2n_48 lin_49 win_50 mt ms ma mp mk mn oun_51) H := hP
    have hD : va_D A (WW ad cJ cI cZ bmn_44 pan_45 p0n_46 p1n_47 p2n_48 lin_49 win_50 mt ms ma mp mk mn oun_51) := hD
    refine lv_istore (lv' := [(5, .int v_54), (0, .ref b), (1, .ref (ad 0)), (2, .ref (ad 42)), (3, .ref (ad 62)), (4, .int (nI i))]) hx hb dL_law_427 hl (by decide) rfl (fun ls hl => ?_)
    refine lv_aload_n hx hb dL_law_429 rfl (lv_at hl 3 rfl) ?_
    refine lv_aload_n hx hb dL_law_430 rfl (lv_at hl 1 rfl) ?_
    refine lv_iload hx hb dL_law_431 (lv_at hl 5 rfl) ?_
    refine lv_iconst (v := nI 1) hx hb dL_law_433 (by decide) ?_
    refine bm_nadd hx hb dL_law_434 ?_
    refine bm_sld hx hb hXs hbl hbA hS (j := (i + 1)) (by omega) (by omega) dL_law_435 ?_
    refine lv_aload_n hx hb dL_law_436 rfl (lv_at hl 1 rfl) ?_
    refine lv_iload hx hb dL_law_437 (lv_at hl 5 rfl) ?_
    refine lv_iconst (v := nI 2) hx hb dL_law_439 (by decide) ?_
    refine bm_nadd hx hb dL_law_440 ?_
    refine bm_sld hx hb hXs hbl hbA hS (j := (i + 2)) (by omega) (by omega) dL_law_441 ?_
    refine lv_if_eq (x := (xs (i + 2))) (tgt := 449) hx hb dL_law_442 (by decide) (fun c_55 => ?_) (fun c_55 => ?_)
    · refine lv_iconst (v := bm_b false) hx hb dL_law_449 (by decide) ?_
      refine bm_xcallV (As := [.int (xs (i + 1)), .int (bm_b false)]) (rest := []) ⟨hx, hb, hml, hown, hts⟩ (Y_lock   okm ) (cwV 2 hts gvL_88 rfl rfl rfl hvX5_lock ⟨Nat.le_of_ble_eq_true rfl, Nat.le_of_ble_eq_true rfl⟩) hK hP hD hS hA 42 5 rfl ww_42 rfl hl.1 rfl (Nat.le_of_ble_eq_true rfl) dL_law_450 hcs (fun ws_56 r_57 h_58 H locs hP hD hS => ?_)
      obtain ⟨mtn_59, msn_60, man_61, mpn_62, mkn_63, mnn_64, okn_65, hnn_66, rfl, v_67, rfl⟩ := h_58
      have hP : va_P D vwCl (WW ad cJ cI cZ bmn_44 pan_45 p0n_46 p1n_47 p2n_48 lin_49 win_50 mtn_59 msn_60 man_61 mpn_62 mkn_63 mnn_64 oun_51) H := hP
      have hD : va_D A (WW ad cJ cI cZ bmn_44 pan_45 p0n_46 p1n_47 p2n_48 lin_49 win_50 mtn_59 msn_60 man_61 mpn_62 mkn_63 mnn_64 oun_51) := hD
      refine lv_istore (lv' := [(6, .int (bm_b v_67)), (5, .int v_54), (0, .ref b), (1, .ref (ad 0)), (2, .ref (ad 42)), (3, .ref (ad 62)), (4, .int (nI i))]) hx hb dL_law_453 hl (by decide) rfl (fun ls hl => ?_)
      refine lv_goto (tgt := 1326) hx hb dL_law_455 (by decide) ?_
      exact kk bmn_44 pan_45 p0n_46 p1n_47 p2n_48 lin_49 win_50 mtn_59 msn_60 man_61 mpn_62 mkn_63 mnn_64 oun_51 okn_52 okn_65 (hnn_53.trans (heq.trans hnn_66.symm)) _ _ hP hD hS _ (lv_sub hl [2, 3, 4, 5, 6] rfl)
    · refine lv_iconst (v := bm_b true) hx hb dL_law_445 (by decide) ?_
      refine lv_goto (tgt := 450) hx hb dL_law_446 (by decide) ?_
      refine bm_xcallV (As := [.int (xs (i + 1)), .int (bm_b true)]) (rest := []) ⟨hx, hb, hml, hown, hts⟩ (Y_lock   okm ) (cwV 2 hts gvL_88 rfl rfl rfl hvX5_lock ⟨Nat.le_of_ble_eq_true rfl, Nat.le_of_ble_eq_true rfl⟩) hK hP hD hS hA 42 5 rfl ww_42 rfl hl.1 rfl (Nat.le_of_ble_eq_true rfl) dL_law_450 hcs (fun ws_68 r_69 h_70 H locs hP hD hS => ?_)
      obtain ⟨mtn_71, msn_72, man_73, mpn_74, mkn_75, mnn_76, okn_77, hnn_78, rfl, v_79, rfl⟩ := h_70
      have hP : va_P D vwCl (WW ad cJ cI cZ bmn_44 pan_45 p0n_46 p1n_47 p2n_48 lin_49 win_50 mtn_71 msn_72 man_73 mpn_74 mkn_75 mnn_76 oun_51) H := hP
      have hD : va_D A (WW ad cJ cI cZ bmn_44 pan_45 p0n_46 p1n_47 p2n_48 lin_49 win_50 mtn_71 msn_72 man_73 mpn_74 mkn_75 mnn_76 oun_51) := hD
      refine lv_istore (lv' := [(6, .int (bm_b v_79)), (5, .int v_54), (0, .ref b), (1, .ref (ad 0)), (2, .ref (ad 42)), (3, .ref (ad 62)), (4, .int (nI i))]) hx hb dL_law_453 hl (by decide) rfl (fun ls hl => ?_)
      refine lv_goto (tgt := 1326) hx hb dL_law_455 (by decide) ?_
      exact kk bmn_44 pan_45 p0n_46 p1n_47 p2n_48 lin_49 win_50 mtn_71 msn_72 man_73 mpn_74 mkn_75 mnn_76 oun_51 okn_52 okn_77 (hnn_53.trans (heq.trans hnn_78.symm)) _ _ hP hD hS _ (lv_sub hl [2, 3, 4, 5, 6] rfl)

set_option maxHeartbeats 16000000 in
set_option maxRecDepth 100000 in
theorem V_3 {p : Program} {l : Launch} {e : Env} {s : State} {m : MethodId} {below : List Frame} {meth : Method} {c : Code} {b L : Nat} {xs : Nat → Int32} (hlt : l.stackTraces = false) (hL : L ≤ 5635) (C0 : lw_At p s m meth c b L xs) (hX : bx_X xW s) (hZ : bx_S RX4 xS s) (hN1 : bx_N "java/lang/IllegalArgumentException" "java/lang/IndexOutOfBoundsException" s) (hN2 : bx_N "java/lang/IllegalStateException" "java/lang/IndexOutOfBoundsException" s) {A : Nat → Prop} (hA : ∀ q : Nat, s.heap.size ≤ q → A q) (hAn : ∀ q : Nat, q < s.heap.size → ¬ A q) {D : va_G} {ad : Nat → Nat} {cJ cI cZ : ClassId} {bm : gBM} {pa : gPA} {p0 p1 p2 : gPL} {li : gLI} {wi : gWI} {mt : Nat} {ms : gMS} {ma : gMA} {mp : gMP} {mk : gMK} {mn : gMN} {ou : Nat → Int64} {i : Nat} (hi : i + 11 ≤ L) (okc : okC bm pa p0 p1 p2 li wi) (okm : okM ms ma mp mk mn) (heq : 0 = 0)  {H : Heap} {locs : List Loc} {cells slots : Nat} (hcs : cells + 1 ≤ room_1.cells ∧ slots + 6 ≤ room_1.slots) (hK : va_K D vwCl [(cJ, .long), (cI, .int), (cZ, .boolean)] s) (hP : va_P D vwCl (WW ad cJ cI cZ bm pa p0 p1 p2 li wi mt ms ma mp mk mn ou) H) (hD : va_D A (WW ad cJ cI cZ bm pa p0 p1 p2 li wi mt ms ma mp mk mn ou)) (hS : va_S A s.heap H locs) {ls : Array Slot} (hl : lv_has ls 8 [(0, .ref b), (1, .ref (ad 0)), (2, .ref (ad 42)), (3, .ref (ad 62)), (4, .int (nI i))]) (kk : ∀ (bm : gBM) (pa : gPA) (p0 p1 p2 : gPL) (li : gLI) (wi : gWI) (mt : Nat) (ms : gMS) (ma : gMA) (mp : gMP) (mk : gMK) (mn : gMN) (ou : Nat → Int64), okC bm pa p0 p1 p2 li wi → okM ms ma mp mk mn → 0 = 0 → ∀ (H : Heap) (locs : List Loc), va_P D vwCl (WW ad cJ cI cZ bm pa p0 p1 p2 li wi mt ms ma mp mk mn ou) H → va_D A (WW ad cJ cI cZ bm pa p0 p1 p2 li wi mt ms ma mp mk mn ou) → va_S A s.heap H locs → ∀ ls : Array Slot, lv_has ls 8 [(0, .ref b), (1, .ref (ad 0)), (2, .ref (ad 42)), (3, .ref (ad 62)), (4, .int (nI i))] → W p l e room_1 s m #[Value.ref b] below meth c H locs (cells + 1) (slots + 6) (lw_Z below #[Value.ref b] s) (F0 m 1326 ls [])) : W p l e room_1 s m #[Value.ref b] below meth c H locs cells slots (lw_Z below #[Value.ref b] s) (F0 m 458 ls []) := by
  obtain ⟨hx, hb, hr, hml, hown, hts, hXs, hbl, hlocks, hgv⟩ := id C0
  have hbA := hAn b hbl
  refine lv_aload_n hx hb dL_law_458 rfl (lv_at hl 1 rfl) ?_
  refine bm_xcallV (As := []) (rest := []) ⟨hx, hb, hml, hown, hts⟩ (Z_net   okc ) (cwV 0 hts gvL_89 rfl rfl rfl hvX4_net ⟨Nat.le_of_ble_eq_true rfl, Nat.le_of_ble_eq_true rfl⟩) hK hP hD hS hA 0 4 rfl ww_0 rfl hl.1 rfl (Nat.le_of_ble_eq_true rfl) dL_law_459 ⟨Nat.le_of_succ_le hcs.1, Nat.le_trans (Nat.le_add_right _ _) hcs.2⟩ (fun ws_1 r_2 h_3 H locs hP hD hS => ?_)
  obtain ⟨bmn_4, pan_5, p0n_6, p1n_7, p2n_8, lin_9, win_10, oun_11, okn_12, hnn_13, rfl, v_14, rfl⟩ := h_3
  have hP : va_P D vwCl (WW ad cJ cI cZ bmn_4 pan_5 p0n_6 p1n_7 p2n_8 lin_9 win_10 mt ms ma mp mk mn oun_11) H := hP
  have hD : va_D A (WW ad cJ cI cZ bmn_4 pan_5 p0n_6 p1n_7 p2n_8 lin_9 win_10 mt ms ma mp mk mn oun_11) := hD
  refine lv_pop hx hb dL_law_462 rfl ?_
  refine lv_aload_n hx hb dL_law_463 rfl (lv_at hl 2 rfl) ?_
  refine bm_xcallV (As := []) (rest := []) ⟨hx, hb, hml, hown, hts⟩ (Y_net   okm ) (cwV 0 hts gvL_93 rfl rfl rfl hvX5_net ⟨Nat.le_of_ble_eq_true rfl, Nat.le_of_ble_eq_true rfl⟩) hK hP hD hS hA 42 5 rfl ww_42 rfl hl.1 rfl (Nat.le_of_ble_eq_true rfl) dL_law_464 ⟨Nat.le_of_succ_le hcs.1, Nat.le_trans (Nat.le_add_right _ _) hcs.2⟩ (fun ws_15 r_16 h_17 H locs hP hD hS => ?_)
  obtain ⟨mtn_18, msn_19, man_20, mpn_21, mkn_22, mnn_23, okn_24, hnn_25, rfl, v_26, rfl⟩ := h_17
  have hP : va_P D vwCl (WW ad cJ cI cZ bmn_4 pan_5 p0n_6 p1n_7 p2n_8 lin_9 win_10 mtn_18 msn_19 man_20 mpn_21 mkn_22 mnn_23 oun_11) H := hP
  have hD : va_D A (WW ad cJ cI cZ bmn_4 pan_5 p0n_6 p1n_7 p2n_8 lin_9 win_10 mtn_18 msn_19 man_20 mpn_21 mkn_22 mnn_23 oun_11) := hD
  refine lv_pop hx hb dL_law_467 rfl ?_
  refine lv_goto (tgt := 1326) hx hb dL_law_468 (by decide) ?_
  refine W.widen (k := cells + 1) (n := slots + 6) (Nat.le_succ _) (Nat.le_add_right _ _) ?_
  exact kk bmn_4 pan_5 p0n_6 p1n_7 p2n_8 lin_9 win_10 mtn_18 msn_19 man_20 mpn_21 mkn_22 mnn_23 oun_11 okn_12 okn_24 (hnn_13.trans (heq.trans hnn_25.symm)) _ _ hP hD hS _ (lv_sub hl [0, 1, 2, 3, 4] rfl)

set_option maxHeartbeats 16000000 in
set_option maxRecDepth 100000 in
theorem V_4 {p : Program} {l : Launch} {e : Env} {s : State} {m : MethodId} {below : List Frame} {meth : Method} {c : Code} {b L : Nat} {xs : Nat → Int32} (hlt : l.stackTraces = false) (hL : L ≤ 5635) (C0 : lw_At p s m meth c b L xs) (hX : bx_X xW s) (hZ : bx_S RX4 xS s) (hN1 : bx_N "java/lang/IllegalArgumentException" "java/lang/IndexOutOfBoundsException" s) (hN2 : bx_N "java/lang/IllegalStateException" "java/lang/IndexOutOfBoundsException" s) {A : Nat → Prop} (hA : ∀ q : Nat, s.heap.size ≤ q → A q) (hAn : ∀ q : Nat, q < s.heap.size → ¬ A q) {D : va_G} {ad : Nat → Nat} {cJ cI cZ : ClassId} {bm : gBM} {pa : gPA} {p0 p1 p2 : gPL} {li : gLI} {wi : gWI} {mt : Nat} {ms : gMS} {ma : gMA} {mp : gMP} {mk : gMK} {mn : gMN} {ou : Nat → Int64} {i : Nat} (hi : i + 11 ≤ L) (okc : okC bm pa p0 p1 p2 li wi) (okm : okM ms ma mp mk mn) (heq : 0 = 0)  {H : Heap} {locs : List Loc} {cells slots : Nat} (hcs : cells + 1 ≤ room_1.cells ∧ slots + 6 ≤ room_1.slots) (hK : va_K D vwCl [(cJ, .long), (cI, .int), (cZ, .boolean)] s) (hP : va_P D vwCl (WW ad cJ cI cZ bm pa p0 p1 p2 li wi mt ms ma mp mk mn ou) H) (hD : va_D A (WW ad cJ cI cZ bm pa p0 p1 p2 li wi mt ms ma mp mk mn ou)) (hS : va_S A s.heap H locs) {ls : Array Slot} (hl : lv_has ls 8 [(0, .ref b), (1, .ref (ad 0)), (2, .ref (ad 42)), (3, .ref (ad 62)), (4, .int (nI i))]) (kk : ∀ (bm : gBM) (pa : gPA) (p0 p1 p2 : gPL) (li : gLI) (wi : gWI) (mt : Nat) (ms : gMS) (ma : gMA) (mp : gMP) (mk : gMK) (mn : gMN) (ou : Nat → Int64), okC bm pa p0 p1 p2 li wi → okM ms ma mp mk mn → 0 = 0 → ∀ (H : Heap) (locs : List Loc), va_P D vwCl (WW ad cJ cI cZ bm pa p0 p1 p2 li wi mt ms ma mp mk mn ou) H → va_D A (WW ad cJ cI cZ bm pa p0 p1 p2 li wi mt ms ma mp mk mn ou) → va_S A s.heap H locs → ∀ ls : Array Slot, lv_has ls 8 [(0, .ref b), (1, .ref (ad 0)), (2, .ref (ad 42)), (3, .ref (ad 62)), (4, .int (nI i))] → W p l e room_1 s m #[Value.ref b] below meth c H locs (cells + 1) (slots + 6) (lw_Z below #[Value.ref b] s) (F0 m 1326 ls [])) : W p l e room_1 s m #[Value.ref b] below meth c H locs cells slots (lw_Z below #[Value.ref b] s) (F0 m 471 ls []) := by
  obtain ⟨hx, hb, hr, hml, hown, hts, hXs, hbl, hlocks, hgv⟩ := id C0
  have hbA := hAn b hbl
  refine lv_aload_n hx hb dL_law_471 rfl (lv_at hl 1 rfl) ?_
  refine lv_aload_n hx hb dL_law_472 rfl (lv_at hl 0 rfl) ?_
  refine lv_iload hx hb dL_law_473 (lv_at hl 4 rfl) ?_
  refine lv_iconst (v := nI 1) hx hb dL_law_475 (by decide) ?_
  refine bm_nadd hx hb dL_law_476 ?_
  refine bm_sld hx hb hXs hbl hbA hS (j := (i + 1)) (by omega) (by omega) dL_law_477 ?_
  refine lv_aload_n hx hb dL_law_478 rfl (lv_at hl 0 rfl) ?_
  refine lv_iload hx hb dL_law_479 (lv_at hl 4 rfl) ?_
  refine lv_iconst (v := nI 2) hx hb dL_law_481 (by decide) ?_
  refine bm_nadd hx hb dL_law_482 ?_
  refine bm_sld hx hb hXs hbl hbA hS (j := (i + 2)) (by omega) (by omega) dL_law_483 ?_
  refine lv_aload_n hx hb dL_law_484 rfl (lv_at hl 0 rfl) ?_
  refine lv_iload hx hb dL_law_485 (lv_at hl 4 rfl) ?_
  refine lv_iconst (v := nI 3) hx hb dL_law_487 (by decide) ?_
  refine bm_nadd hx hb dL_law_488 ?_
  refine bm_sld hx hb hXs hbl hbA hS (j := (i + 3)) (by omega) (by omega) dL_law_489 ?_
  refine lv_i2l (v := (xs (i + 3)).toInt64) hx hb dL_law_490 rfl ?_
  refine lv_bipush (v := nI 32) hx hb dL_law_491 (by decide) ?_
  refine lv_lshl (v := ((xs (i + 3)).toInt64) <<< ((nI 32).toInt64 &&& 63)) hx hb dL_law_493 rfl ?_
  refine lv_aload_n hx hb dL_law_494 rfl (lv_at hl 0 rfl) ?_
  refine lv_iload hx hb dL_law_495 (lv_at hl 4 rfl) ?_
  refine lv_iconst (v := nI 4) hx hb dL_law_497 (by decide) ?_
  refine bm_nadd hx hb dL_law_498 ?_
  refine bm_sld hx hb hXs hbl hbA hS (j := (i + 4)) (by omega) (by omega) dL_law_499 ?_
  refine lv_i2l (v := (xs (i + 4)).toInt64) hx hb dL_law_500 rfl ?_
  refine lv_ldc2 (v := 4294967295) hx hb hown (hts (.constantLong RL 75 4294967295) (List.mem_filter.mp clL_75).1) dL_law_501 ?_
  refine lv_land hx hb dL_law_504 ?_
  refine lv_lor hx hb dL_law_505 ?_
  refine lv_aload_n hx hb dL_law_506 rfl (lv_at hl 0 rfl) ?_
  refine lv_iload hx hb dL_law_507 (lv_at hl 4 rfl) ?_
  refine lv_iconst (v := nI 5) hx hb dL_law_509 (by decide) ?_
  refine bm_nadd hx hb dL_law_510 ?_
  refine bm_sld hx hb hXs hbl hbA hS (j := (i + 5)) (by omega) (by omega) dL_law_511 ?_
  refine lv_i2l (v := (xs (i + 5)).toInt64) hx hb dL_law_512 rfl ?_
  refine lv_bipush (v := nI 32) hx hb dL_law_513 (by decide) ?_
  refine lv_lshl (v := ((xs (i + 5)).toInt64) <<< ((nI 32).toInt64 &&& 63)) hx hb dL_law_515 rfl ?_
  refine lv_aload_n hx hb dL_law_516 rfl (lv_at hl 0 rfl) ?_
  refine lv_iload hx hb dL_law_517 (lv_at hl 4 rfl) ?_
  refine lv_bipush (v := nI 6) hx hb dL_law_519 (by decide) ?_
  refine bm_nadd hx hb dL_law_521 ?_
  refine bm_sld hx hb hXs hbl hbA hS (j := (i + 6)) (by omega) (by omega) dL_law_522 ?_
  refine lv_i2l (v := (xs (i + 6)).toInt64) hx hb dL_law_523 rfl ?_
  refine lv_ldc2 (v := 4294967295) hx hb hown (hts (.constantLong RL 75 4294967295) (List.mem_filter.mp clL_75).1) dL_law_524 ?_
  refine lv_land hx hb dL_law_527 ?_
  refine lv_lor hx hb dL_law_528 ?_
  refine lv_aload_n hx hb dL_law_529 rfl (lv_at hl 3 rfl) ?_
  refine bx_xhcallS (n := 6) (As := [.ref (ad 0), .int (xs (i + 1)), .int (xs (i + 2)), .long ((((xs (i + 3)).toInt64) <<< ((nI 32).toInt64 &&& 63)) ||| (((xs (i + 4)).toInt64) &&& 4294967295)), .long ((((xs (i + 5)).toInt64) <<< ((nI 32).toInt64 &&& 63)) ||| (((xs (i + 6)).toInt64) &&& 4294967295)), .ref (ad 62)]) (rest := []) ⟨hx, hb, hml, hown, hts⟩ (H_pin hlt  okc H.size) rfl rfl (Nat.le_of_ble_eq_true rfl) (Nat.le_of_ble_eq_true rfl) (gdH (by decide +kernel)) (by decide +kernel) rfl hK hP hD hS hA hX hZ hN1 hN2 hAn rfl hl.1 rfl (Nat.le_of_ble_eq_true rfl) dL_law_530 hcs (fun ws_1 r_2 h_3 H locs hP hD hS => ?_)
  obtain ⟨bmn_4, pan_5, p0n_6, p1n_7, p2n_8, lin_9, win_10, oun_11, okn_12, hnn_13, rfl, v_14, rfl⟩ := h_3
  have hP : va_P D vwCl (WW ad cJ cI cZ bmn_4 pan_5 p0n_6 p1n_7 p2n_8 lin_9 win_10 mt ms ma mp mk mn oun_11) H := hP
  have hD : va_D A (WW ad cJ cI cZ bmn_4 pan_5 p0n_6 p1n_7 p2n_8 lin_9 win_10 mt ms ma mp mk mn oun_11) := hD
  refine lv_istore (lv' := [(5, .int v_14), (0, .ref b), (1, .ref (ad 0)), (2, .ref (ad 42)), (3, .ref (ad 62)), (4, .int (nI i))]) hx hb dL_law_533 hl (by decide) rfl (fun ls hl => ?_)
  refine lv_aload_n hx hb dL_law_535 rfl (lv_at hl 3 rfl) ?_
  refine lv_aload_n hx hb dL_law_536 rfl (lv_at hl 1 rfl) ?_
  refine lv_iload hx hb dL_law_537 (lv_at hl 5 rfl) ?_
  refine lv_iconst (v := nI 1) hx hb dL_law_539 (by decide) ?_
  refine bm_nadd hx hb dL_law_540 ?_
  refine bm_sld hx hb hXs hbl hbA hS (j := (i + 1)) (by omega) (by omega) dL_law_541 ?_
  refine lv_aload_n hx hb dL_law_542 rfl (lv_at hl 1 rfl) ?_
  refine lv_iload hx hb dL_law_543 (lv_at hl 5 rfl) ?_
  refine lv_iconst (v := nI 2) hx hb dL_law_545 (by decide) ?_
  refine bm_nadd hx hb dL_law_546 ?_
  refine bm_sld hx hb hXs hbl hbA hS (j := (i + 2)) (by omega) (by omega) dL_law_547 ?_
  refine lv_aload_n hx hb dL_law_548 rfl (lv_at hl 1 rfl) ?_
  refine lv_iload hx hb dL_law_549 (lv_at hl 5 rfl) ?_
  refine lv_iconst (v := nI 3) hx hb dL_law_551 (by decide) ?_
  refine bm_nadd hx hb dL_law_552 ?_
  refine bm_sld hx hb hXs hbl hbA hS (j := (i + 3)) (by omega) (by omega) dL_law_553 ?_
  refine lv_i2l (v := (xs (i + 3)).toInt64) hx hb dL_law_554 rfl ?_
  refine lv_bipush (v := nI 32) hx hb dL_law_555 (by decide) ?_
  refine lv_lshl (v := ((xs (i + 3)).toInt64) <<< ((nI 32).toInt64 &&& 63)) hx hb dL_law_557 rfl ?_
  refine lv_aload_n hx hb dL_law_558 rfl (lv_at hl 1 rfl) ?_
  refine lv_iload hx hb dL_law_559 (lv_at hl 5 rfl) ?_
  refine lv_iconst (v := nI 4) hx hb dL_law_561 (by decide) ?_
  refine bm_nadd hx hb dL_law_562 ?_
  refine bm_sld hx hb hXs hbl hbA hS (j := (i + 4)) (by omega) (by omega) dL_law_563 ?_
  refine lv_i2l (v := (xs (i + 4)).toInt64) hx hb dL_law_564 rfl ?_
  refine lv_ldc2 (v := 4294967295) hx hb hown (hts (.constantLong RL 75 4294967295) (List.mem_filter.mp clL_75).1) dL_law_565 ?_
  refine lv_land hx hb dL_law_568 ?_
  refine lv_lor hx hb dL_law_569 ?_
  refine lv_aload_n hx hb dL_law_570 rfl (lv_at hl 1 rfl) ?_
  refine lv_iload hx hb dL_law_571 (lv_at hl 5 rfl) ?_
  refine lv_iconst (v := nI 5) hx hb dL_law_573 (by decide) ?_
  refine bm_nadd hx hb dL_law_574 ?_
  refine bm_sld hx hb hXs hbl hbA hS (j := (i + 5)) (by omega) (by omega) dL_law_575 ?_
  refine lv_i2l (v := (xs (i + 5)).toInt64) hx hb dL_law_576 rfl ?_
  refine lv_bipush (v := nI 32) hx hb dL_law_577 (by decide) ?_
  refine lv_lshl (v := ((xs (i + 5)).toInt64) <<< ((nI 32).toInt64 &&& 63)) hx hb dL_law_579 rfl ?_
  refine lv_aload_n hx hb dL_law_580 rfl (lv_at hl 1 rfl) ?_
  refine lv_iload hx hb dL_law_581 (lv_at hl 5 rfl) ?_
  refine lv_bipush (v := nI 6) hx hb dL_law_583 (by decide) ?_
  refine bm_nadd hx hb dL_law_585 ?_
  refine bm_sld hx hb hXs hbl hbA hS (j := (i + 6)) (by omega) (by omega) dL_law_586 ?_
  refine lv_i2l (v := (xs (i + 6)).toInt64) hx hb dL_law_587 rfl ?_
  refine lv_ldc2 (v := 4294967295) hx hb hown (hts (.constantLong RL 75 4294967295) (List.mem_filter.mp clL_75).1) dL_law_588 ?_
  refine lv_land hx hb dL_law_591 ?_
  refine lv_lor hx hb dL_law_592 ?_
  refine bm_xcallV (As := [.int (xs (i + 1)), .int (xs (i + 2)), .long ((((xs (i + 3)).toInt64) <<< ((nI 32).toInt64 &&& 63)) ||| (((xs (i + 4)).toInt64) &&& 4294967295)), .long ((((xs (i + 5)).toInt64) <<< ((nI 32).toInt64 &&& 63)) ||| (((xs (i + 6)).toInt64) &&& 4294967295))]) (rest := []) ⟨hx, hb, hml, hown, hts⟩ (Y_pin   okm ) (cwV 4 hts gvL_97 rfl rfl rfl hvX5_pin ⟨Nat.le_of_ble_eq_true rfl, Nat.le_of_ble_eq_true rfl⟩) hK hP hD hS hA 42 5 rfl ww_42 rfl hl.1 rfl (Nat.le_of_ble_eq_true rfl) dL_law_593 hcs (fun ws_15 r_16 h_17 H locs hP hD hS => ?_)
  obtain ⟨mtn_18, msn_19, man_20, mpn_21, mkn_22, mnn_23, okn_24, hnn_25, rfl, v_26, rfl⟩ := h_17
  have hP : va_P D vwCl (WW ad cJ cI cZ bmn_4 pan_5 p0n_6 p1n_7 p2n_8 lin_9 win_10 mtn_18 msn_19 man_20 mpn_21 mkn_22 mnn_23 oun_11) H := hP
  have hD : va_D A (WW ad cJ cI cZ bmn_4 pan_5 p0n_6 p1n_7 p2n_8 lin_9 win_10 mtn_18 msn_19 man_20 mpn_21 mkn_22 mnn_23 oun_11) := hD
  refine lv_istore (lv' := [(6, .int (bm_b v_26)), (5, .int v_14), (0, .ref b), (1, .ref (ad 0)), (2, .ref (ad 42)), (3, .ref (ad 62)), (4, .int (nI i))]) hx hb dL_law_596 hl (by decide) rfl (fun ls hl => ?_)
  refine lv_goto (tgt := 1326) hx hb dL_law_598 (by decide) ?_
  exact kk bmn_4 pan_5 p0n_6 p1n_7 p2n_8 lin_9 win_10 mtn_18 msn_19 man_20 mpn_21 mkn_22 mnn_23 oun_11 okn_12 okn_24 (hnn_13.trans (heq.trans hnn_25.symm)) _ _ hP hD hS _ (lv_sub hl [2, 3, 4, 5, 6] rfl)
