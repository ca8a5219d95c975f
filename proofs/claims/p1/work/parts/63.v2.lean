set_option maxHeartbeats 8000000 in
set_option maxRecDepth 100000 in
theorem v_7ok {p : Program} {l : Launch} {e : Env} {s : State} {m : MethodId} {below : List Frame} {meth : Method} {c : Code} {b L : Nat} {xs : Nat → Int32} (hlt : l.stackTraces = false) (hL : L = 14) (C0 : lw_At p s m meth c b L xs) (hX : bx_X xW s) (hZ : bx_S RX4 xS s) {A : Nat → Prop} (hA : ∀ q : Nat, s.heap.size ≤ q → A q) (hAn : ∀ q : Nat, q < s.heap.size → ¬ A q) {D : va_G} {ad : Nat → Nat} {cJ cI cZ : ClassId} {bm : gBM} {pa : gPA} {p0 p1 p2 : gPL} {li : gLI} {wi : gWI} {mt : Nat} {ms : gMS} {ma : gMA} {mp : gMP} {mk : gMK} {mn : gMN} {ou : Nat → Int64} (hv : q_rn (((xs (3 + 1)).toInt64 <<< ((nI 32).toInt64 &&& 63)) ||| ((xs (3 + 2)).toInt64 &&& 4294967295)) = true) {H : Heap} {locs : List Loc} (hK : va_K D vwCl [(cJ, .long), (cI, .int), (cZ, .boolean)] s) (hP : va_P D vwCl (WW ad cJ cI cZ (bm.1, bm.2.1, bm.2.2.1, 0) (pa.1, pa.2.1, pa.2.2.1, pa.2.2.2.1, pa.2.2.2.2.1, pa.2.2.2.2.2.1, 0) p0 p1 p2 (li.1, li.2.1, li.2.2.1, li.2.2.2.1, li.2.2.2.2.1, li.2.2.2.2.2.1, li.2.2.2.2.2.2.1, li.2.2.2.2.2.2.2.1, 0, 0) (wi.1, wi.2.1, wi.2.2.1, wi.2.2.2.1, wi.2.2.2.2.1, wi.2.2.2.2.2.1, wi.2.2.2.2.2.2.1, wi.2.2.2.2.2.2.2.1, wi.2.2.2.2.2.2.2.2.1, 0, 0) mt (ms.1, ms.2.1, 0, 0, 0, 0, 0, ms.2.2.2.2.2.2.2) ma mp mk mn ou) H) (hD : va_D A (WW ad cJ cI cZ (bm.1, bm.2.1, bm.2.2.1, 0) (pa.1, pa.2.1, pa.2.2.1, pa.2.2.2.1, pa.2.2.2.2.1, pa.2.2.2.2.2.1, 0) p0 p1 p2 (li.1, li.2.1, li.2.2.1, li.2.2.2.1, li.2.2.2.2.1, li.2.2.2.2.2.1, li.2.2.2.2.2.2.1, li.2.2.2.2.2.2.2.1, 0, 0) (wi.1, wi.2.1, wi.2.2.1, wi.2.2.2.1, wi.2.2.2.2.1, wi.2.2.2.2.2.1, wi.2.2.2.2.2.2.1, wi.2.2.2.2.2.2.2.1, wi.2.2.2.2.2.2.2.2.1, 0, 0) mt (ms.1, ms.2.1, 0, 0, 0, 0, 0, ms.2.2.2.2.2.2.2) ma mp mk mn ou)) (hS : va_S A s.heap H locs) {ls : Array Slot} (hl : lv_has ls 8 [(0, .ref b), (1, .ref (ad 0)), (2, .ref (ad 42)), (3, .ref (ad 62)), (4, .int (nI 3))]) : W p l e room_1 s m #[Value.ref b] below meth c H locs 63 2864 (lw_Z below #[Value.ref b] s) (F0 m 945 ls []) := by
  obtain ⟨hx, hb, hr, hml, hown, hts, hXs, hbl, hlocks, hgv⟩ := id C0
  have hbA := hAn b hbl
  refine lv_aload_n hx hb dL_law_945 rfl (lv_at hl 1 rfl) ?_
  refine lv_aload_n hx hb dL_law_946 rfl (lv_at hl 0 rfl) ?_
  refine lv_iload hx hb dL_law_947 (lv_at hl 4 rfl) ?_
  refine lv_iconst (v := nI 1) hx hb dL_law_949 (by decide) ?_
  refine bm_nadd hx hb dL_law_950 ?_
  refine bm_sld hx hb hXs hbl hbA hS (j := (3 + 1)) (by omega) (by omega) dL_law_951 ?_
  refine lv_i2l (v := (xs (3 + 1)).toInt64) hx hb dL_law_952 rfl ?_
  refine lv_bipush (v := nI 32) hx hb dL_law_953 (by decide) ?_
  refine lv_lshl (v := ((xs (3 + 1)).toInt64) <<< ((nI 32).toInt64 &&& 63)) hx hb dL_law_955 rfl ?_
  refine lv_aload_n hx hb dL_law_956 rfl (lv_at hl 0 rfl) ?_
  refine lv_iload hx hb dL_law_957 (lv_at hl 4 rfl) ?_
  refine lv_iconst (v := nI 2) hx hb dL_law_959 (by decide) ?_
  refine bm_nadd hx hb dL_law_960 ?_
  refine bm_sld hx hb hXs hbl hbA hS (j := (3 + 2)) (by omega) (by omega) dL_law_961 ?_
  refine lv_i2l (v := (xs (3 + 2)).toInt64) hx hb dL_law_962 rfl ?_
  refine lv_ldc2 (v := 4294967295) hx hb hown (hts (.constantLong RL 75 4294967295) (by decide +kernel)) dL_law_963 ?_
  refine lv_land hx hb dL_law_966 ?_
  refine lv_lor hx hb dL_law_967 ?_
  refine lv_aload_n hx hb dL_law_968 rfl (lv_at hl 3 rfl) ?_
  refine bx_hcallS (n := 3) (As := [.ref (ad 0), .long ((((xs (3 + 1)).toInt64) <<< ((nI 32).toInt64 &&& 63)) ||| (((xs (3 + 2)).toInt64) &&& 4294967295)), .ref (ad 62)]) (rest := []) ⟨hx, hb, hml, hown, hts⟩ ((h_run hlt hv) H.size) rfl rfl (Nat.le_of_ble_eq_true rfl) (Nat.le_of_ble_eq_true rfl) (gdH (by decide +kernel)) (by decide +kernel) rfl hK hP hD hS hA hX hZ hAn rfl hl.1 rfl (Nat.le_of_ble_eq_true rfl) dL_law_969 ⟨Nat.le_of_ble_eq_true rfl, Nat.le_of_ble_eq_true rfl⟩ (fun H locs hP hD hS => ?_)
  have hP : va_P D vwCl (WW ad cJ cI cZ (bm.1, bm.2.1, bm.2.2.1, 0) (pa.1, pa.2.1, pa.2.2.1, pa.2.2.2.1, pa.2.2.2.2.1, pa.2.2.2.2.2.1, 0) p0 p1 p2 (li.1, li.2.1, li.2.2.1, li.2.2.2.1, li.2.2.2.2.1, li.2.2.2.2.2.1, li.2.2.2.2.2.2.1, li.2.2.2.2.2.2.2.1, 0, 0) (wi.1, wi.2.1, wi.2.2.1, wi.2.2.2.1, wi.2.2.2.2.1, wi.2.2.2.2.2.1, wi.2.2.2.2.2.2.1, wi.2.2.2.2.2.2.2.1, wi.2.2.2.2.2.2.2.2.1, 0, 0) mt (ms.1, ms.2.1, 0, 0, 0, 0, 0, ms.2.2.2.2.2.2.2) ma mp mk mn (va_up ou 0 ((nI 0).toInt64))) H := hP
  have hD : va_D A (WW ad cJ cI cZ (bm.1, bm.2.1, bm.2.2.1, 0) (pa.1, pa.2.1, pa.2.2.1, pa.2.2.2.1, pa.2.2.2.2.1, pa.2.2.2.2.2.1, 0) p0 p1 p2 (li.1, li.2.1, li.2.2.1, li.2.2.2.1, li.2.2.2.2.1, li.2.2.2.2.2.1, li.2.2.2.2.2.2.1, li.2.2.2.2.2.2.2.1, 0, 0) (wi.1, wi.2.1, wi.2.2.1, wi.2.2.2.1, wi.2.2.2.2.1, wi.2.2.2.2.2.1, wi.2.2.2.2.2.2.1, wi.2.2.2.2.2.2.2.1, wi.2.2.2.2.2.2.2.2.1, 0, 0) mt (ms.1, ms.2.1, 0, 0, 0, 0, 0, ms.2.2.2.2.2.2.2) ma mp mk mn (va_up ou 0 ((nI 0).toInt64))) := hD
  refine lv_istore (lv' := [(5, .int (nI 0)), (0, .ref b), (1, .ref (ad 0)), (2, .ref (ad 42)), (3, .ref (ad 62)), (4, .int (nI 3))]) hx hb dL_law_972 hl (by decide) rfl (fun ls hl => ?_)
  refine lv_aload_n hx hb dL_law_974 rfl (lv_at hl 3 rfl) ?_
  refine lv_aload_n hx hb dL_law_975 rfl (lv_at hl 1 rfl) ?_
  refine lv_iload hx hb dL_law_976 (lv_at hl 5 rfl) ?_
  refine lv_iconst (v := nI 1) hx hb dL_law_978 (by decide) ?_
  refine bm_nadd hx hb dL_law_979 ?_
  refine bm_sld hx hb hXs hbl hbA hS (j := (3 + 1)) (by omega) (by omega) dL_law_980 ?_
  refine lv_i2l (v := (xs (3 + 1)).toInt64) hx hb dL_law_981 rfl ?_
  refine lv_bipush (v := nI 32) hx hb dL_law_982 (by decide) ?_
  refine lv_lshl (v := ((xs (3 + 1)).toInt64) <<< ((nI 32).toInt64 &&& 63)) hx hb dL_law_984 rfl ?_
  refine lv_aload_n hx hb dL_law_985 rfl (lv_at hl 1 rfl) ?_
  refine lv_iload hx hb dL_law_986 (lv_at hl 5 rfl) ?_
  refine lv_iconst (v := nI 2) hx hb dL_law_988 (by decide) ?_
  refine bm_nadd hx hb dL_law_989 ?_
  refine bm_sld hx hb hXs hbl hbA hS (j := (3 + 2)) (by omega) (by omega) dL_law_990 ?_
  refine lv_i2l (v := (xs (3 + 2)).toInt64) hx hb dL_law_991 rfl ?_
  refine lv_ldc2 (v := 4294967295) hx hb hown (hts (.constantLong RL 75 4294967295) (by decide +kernel)) dL_law_992 ?_
  refine lv_land hx hb dL_law_995 ?_
  refine lv_lor hx hb dL_law_996 ?_
  refine bm_wcallV (As := [.long ((((xs (3 + 1)).toInt64) <<< ((nI 32).toInt64 &&& 63)) ||| (((xs (3 + 2)).toInt64) &&& 4294967295))]) (rest := []) ⟨hx, hb, hml, hown, hts⟩ (m_run hv) (cwV 1 hts (gdVL (by decide +kernel) (by decide +kernel) (by decide +kernel) (by decide +kernel) (by decide +kernel)) rfl rfl rfl (by decide +kernel) ⟨Nat.le_of_ble_eq_true rfl, Nat.le_of_ble_eq_true rfl⟩) hK hP hD hS hA 42 5 rfl rfl rfl hl.1 rfl (Nat.le_of_ble_eq_true rfl) dL_law_997 ⟨Nat.le_of_ble_eq_true rfl, Nat.le_of_ble_eq_true rfl⟩ (fun H locs hP hD hS => ?_)
  have hP : va_P D vwCl (WW ad cJ cI cZ (bm.1, bm.2.1, bm.2.2.1, 0) (pa.1, pa.2.1, pa.2.2.1, pa.2.2.2.1, pa.2.2.2.2.1, pa.2.2.2.2.2.1, 0) p0 p1 p2 (li.1, li.2.1, li.2.2.1, li.2.2.2.1, li.2.2.2.2.1, li.2.2.2.2.2.1, li.2.2.2.2.2.2.1, li.2.2.2.2.2.2.2.1, 0, 0) (wi.1, wi.2.1, wi.2.2.1, wi.2.2.2.1, wi.2.2.2.2.1, wi.2.2.2.2.2.1, wi.2.2.2.2.2.2.1, wi.2.2.2.2.2.2.2.1, wi.2.2.2.2.2.2.2.2.1, 0, 0) (0) (ms.1, ms.2.1, 0, 0, 0, 0, 0, ms.2.2.2.2.2.2.2) ma mp mk mn (va_up ou 0 ((nI 0).toInt64))) H := hP
  have hD : va_D A (WW ad cJ cI cZ (bm.1, bm.2.1, bm.2.2.1, 0) (pa.1, pa.2.1, pa.2.2.1, pa.2.2.2.1, pa.2.2.2.2.1, pa.2.2.2.2.2.1, 0) p0 p1 p2 (li.1, li.2.1, li.2.2.1, li.2.2.2.1, li.2.2.2.2.1, li.2.2.2.2.2.1, li.2.2.2.2.2.2.1, li.2.2.2.2.2.2.2.1, 0, 0) (wi.1, wi.2.1, wi.2.2.1, wi.2.2.2.1, wi.2.2.2.2.1, wi.2.2.2.2.2.1, wi.2.2.2.2.2.2.1, wi.2.2.2.2.2.2.2.1, wi.2.2.2.2.2.2.2.2.1, 0, 0) (0) (ms.1, ms.2.1, 0, 0, 0, 0, 0, ms.2.2.2.2.2.2.2) ma mp mk mn (va_up ou 0 ((nI 0).toInt64))) := hD
  refine lv_istore (lv' := [(6, .int (nI 0)), (5, .int (nI 0)), (0, .ref b), (1, .ref (ad 0)), (2, .ref (ad 42)), (3, .ref (ad 62)), (4, .int (nI 3))]) hx hb dL_law_1000 hl (by decide) rfl (fun ls hl => ?_)
  refine lv_aload_n hx hb dL_law_1002 rfl (lv_at hl 4 rfl) ?_
  refine bm_rcallV (As := []) (rest := []) ⟨hx, hb, hml, hown, hts⟩ (m_thrown) (cwV 0 hts (gdVL (by decide +kernel) (by decide +kernel) (by decide +kernel) (by decide +kernel) (by decide +kernel)) rfl rfl rfl (by decide +kernel) ⟨Nat.le_of_ble_eq_true rfl, Nat.le_of_ble_eq_true rfl⟩) hK hP 42 5 rfl rfl rfl hl.1 rfl (Nat.le_of_ble_eq_true rfl) dL_law_1003 ⟨Nat.le_of_ble_eq_true rfl, Nat.le_of_ble_eq_true rfl⟩ ?_
  refine lv_iload hx hb dL_law_1006 (lv_at hl 1 rfl) ?_
  refine bm_ni_eq (x := 0) (y := 0) (tgt := 1013) hx hb (by decide) (by decide) dL_law_1008 (by decide) (fun c_1 => ?_) (fun c_1 => ?_)
  · refine lv_iload hx hb dL_law_1013 (lv_at hl 1 rfl) ?_
    refine bm_nz_ne (x := 0) (tgt := 1030) hx hb (by decide) dL_law_1015 (by decide) (fun c_2 => ?_) (fun c_2 => ?_)
    · exact absurd c_2 (by decide)
    · refine lv_aload_n hx hb dL_law_1018 rfl (lv_at hl 5 rfl) ?_
      refine lv_iconst (v := nI 0) hx hb dL_law_1019 (by decide) ?_
      refine bm_lald (f := (va_up ou 0 ((nI 0).toInt64))) hx hb hK hP 62 0 rfl rfl (j := 0) (by omega) (by decide) dL_law_1020 ?_
      refine lv_iload hx hb dL_law_1021 (lv_at hl 0 rfl) ?_
      refine lv_i2l (v := (nI 0).toInt64) hx hb dL_law_1023 rfl ?_
      refine bm_lc_eq (x := ((va_up ou 0 ((nI 0).toInt64)) 0)) (y := ((nI 0).toInt64)) (tgt := 1030) hx hb dL_law_1024 dL_law_1025 (by decide) (fun c_3 => ?_) (fun c_3 => ?_)
      · refine lv_goto (tgt := 1705) hx hb dL_law_1030 (by decide) ?_
        exact v_end hL C0 hAn (Nat.le_of_ble_eq_true rfl) (Nat.le_of_ble_eq_true rfl) hS (lv_sub hl [6, 2] rfl)
      · exact absurd (by simp [va_up]) c_3
  · exact absurd c_1 (by decide)

set_option maxHeartbeats 8000000 in
set_option maxRecDepth 100000 in
theorem v_7no {p : Program} {l : Launch} {e : Env} {s : State} {m : MethodId} {below : List Frame} {meth : Method} {c : Code} {b L : Nat} {xs : Nat → Int32} (hlt : l.stackTraces = false) (hL : L = 14) (C0 : lw_At p s m meth c b L xs) (hX : bx_X xW s) (hZ : bx_S RX4 xS s) {A : Nat → Prop} (hA : ∀ q : Nat, s.heap.size ≤ q → A q) (hAn : ∀ q : Nat, q < s.heap.size → ¬ A q) {D : va_G} {ad : Nat → Nat} {cJ cI cZ : ClassId} {bm : gBM} {pa : gPA} {p0 p1 p2 : gPL} {li : gLI} {wi : gWI} {mt : Nat} {ms : gMS} {ma : gMA} {mp : gMP} {mk : gMK} {mn : gMN} {ou : Nat → Int64} (hv : q_rn (((xs (3 + 1)).toInt64 <<< ((nI 32).toInt64 &&& 63)) ||| ((xs (3 + 2)).toInt64 &&& 4294967295)) = false) {H : Heap} {locs : List Loc} (hK : va_K D vwCl [(cJ, .long), (cI, .int), (cZ, .boolean)] s) (hP : va_P D vwCl (WW ad cJ cI cZ (bm.1, bm.2.1, bm.2.2.1, 0) (pa.1, pa.2.1, pa.2.2.1, pa.2.2.2.1, pa.2.2.2.2.1, pa.2.2.2.2.2.1, 0) p0 p1 p2 (li.1, li.2.1, li.2.2.1, li.2.2.2.1, li.2.2.2.2.1, li.2.2.2.2.2.1, li.2.2.2.2.2.2.1, li.2.2.2.2.2.2.2.1, 0, 0) (wi.1, wi.2.1, wi.2.2.1, wi.2.2.2.1, wi.2.2.2.2.1, wi.2.2.2.2.2.1, wi.2.2.2.2.2.2.1, wi.2.2.2.2.2.2.2.1, wi.2.2.2.2.2.2.2.2.1, 0, 0) mt (ms.1, ms.2.1, 0, 0, 0, 0, 0, ms.2.2.2.2.2.2.2) ma mp mk mn ou) H) (hD : va_D A (WW ad cJ cI cZ (bm.1, bm.2.1, bm.2.2.1, 0) (pa.1, pa.2.1, pa.2.2.1, pa.2.2.2.1, pa.2.2.2.2.1, pa.2.2.2.2.2.1, 0) p0 p1 p2 (li.1, li.2.1, li.2.2.1, li.2.2.2.1, li.2.2.2.2.1, li.2.2.2.2.2.1, li.2.2.2.2.2.2.1, li.2.2.2.2.2.2.2.1, 0, 0) (wi.1, wi.2.1, wi.2.2.1, wi.2.2.2.1, wi.2.2.2.2.1, wi.2.2.2.2.2.1, wi.2.2.2.2.2.2.1, wi.2.2.2.2.2.2.2.1, wi.2.2.2.2.2.2.2.2.1, 0, 0) mt (ms.1, ms.2.1, 0, 0, 0, 0, 0, ms.2.2.2.2.2.2.2) ma mp mk mn ou)) (hS : va_S A s.heap H locs) {ls : Array Slot} (hl : lv_has ls 8 [(0, .ref b), (1, .ref (ad 0)), (2, .ref (ad 42)), (3, .ref (ad 62)), (4, .int (nI 3))]) : W p l e room_1 s m #[Value.ref b] below meth c H locs 63 2864 (lw_Z below #[Value.ref b] s) (F0 m 945 ls []) := by
  obtain ⟨hx, hb, hr, hml, hown, hts, hXs, hbl, hlocks, hgv⟩ := id C0
  have hbA := hAn b hbl
  refine lv_aload_n hx hb dL_law_945 rfl (lv_at hl 1 rfl) ?_
  refine lv_aload_n hx hb dL_law_946 rfl (lv_at hl 0 rfl) ?_
  refine lv_iload hx hb dL_law_947 (lv_at hl 4 rfl) ?_
  refine lv_iconst (v := nI 1) hx hb dL_law_949 (by decide) ?_
  refine bm_nadd hx hb dL_law_950 ?_
  refine bm_sld hx hb hXs hbl hbA hS (j := (3 + 1)) (by omega) (by omega) dL_law_951 ?_
  refine lv_i2l (v := (xs (3 + 1)).toInt64) hx hb dL_law_952 rfl ?_
  refine lv_bipush (v := nI 32) hx hb dL_law_953 (by decide) ?_
  refine lv_lshl (v := ((xs (3 + 1)).toInt64) <<< ((nI 32).toInt64 &&& 63)) hx hb dL_law_955 rfl ?_
  refine lv_aload_n hx hb dL_law_956 rfl (lv_at hl 0 rfl) ?_
  refine lv_iload hx hb dL_law_957 (lv_at hl 4 rfl) ?_
  refine lv_iconst (v := nI 2) hx hb dL_law_959 (by decide) ?_
  refine bm_nadd hx hb dL_law_960 ?_
  refine bm_sld hx hb hXs hbl hbA hS (j := (3 + 2)) (by omega) (by omega) dL_law_961 ?_
  refine lv_i2l (v := (xs (3 + 2)).toInt64) hx hb dL_law_962 rfl ?_
  refine lv_ldc2 (v := 4294967295) hx hb hown (hts (.constantLong RL 75 4294967295) (by decide +kernel)) dL_law_963 ?_
  refine lv_land hx hb dL_law_966 ?_
  refine lv_lor hx hb dL_law_967 ?_
  refine lv_aload_n hx hb dL_law_968 rfl (lv_at hl 3 rfl) ?_
  refine bx_hcallS (n := 3) (As := [.ref (ad 0), .long ((((xs (3 + 1)).toInt64) <<< ((nI 32).toInt64 &&& 63)) ||| (((xs (3 + 2)).toInt64) &&& 4294967295)), .ref (ad 62)]) (rest := []) ⟨hx, hb, hml, hown, hts⟩ ((h_runX hlt hv) H.size) rfl rfl (Nat.le_of_ble_eq_true rfl) (Nat.le_of_ble_eq_true rfl) (gdH (by decide +kernel)) (by decide +kernel) rfl hK hP hD hS hA hX hZ hAn rfl hl.1 rfl (Nat.le_of_ble_eq_true rfl) dL_law_969 ⟨Nat.le_of_ble_eq_true rfl, Nat.le_of_ble_eq_true rfl⟩ (fun H locs hP hD hS => ?_)
  have hP : va_P D vwCl (WW ad cJ cI cZ (bm.1, bm.2.1, bm.2.2.1, 0) (pa.1, pa.2.1, pa.2.2.1, pa.2.2.2.1, pa.2.2.2.2.1, pa.2.2.2.2.2.1, 0) p0 p1 p2 (li.1, li.2.1, li.2.2.1, li.2.2.2.1, li.2.2.2.2.1, li.2.2.2.2.2.1, li.2.2.2.2.2.2.1, li.2.2.2.2.2.2.2.1, 0, 0) (wi.1, wi.2.1, wi.2.2.1, wi.2.2.2.1, wi.2.2.2.2.1, wi.2.2.2.2.2.1, wi.2.2.2.2.2.2.1, wi.2.2.2.2.2.2.2.1, wi.2.2.2.2.2.2.2.2.1, 0, 0) mt (ms.1, ms.2.1, 0, 0, 0, 0, 0, ms.2.2.2.2.2.2.2) ma mp mk mn ou) H := hP
  have hD : va_D A (WW ad cJ cI cZ (bm.1, bm.2.1, bm.2.2.1, 0) (pa.1, pa.2.1, pa.2.2.1, pa.2.2.2.1, pa.2.2.2.2.1, pa.2.2.2.2.2.1, 0) p0 p1 p2 (li.1, li.2.1, li.2.2.1, li.2.2.2.1, li.2.2.2.2.1, li.2.2.2.2.2.1, li.2.2.2.2.2.2.1, li.2.2.2.2.2.2.2.1, 0, 0) (wi.1, wi.2.1, wi.2.2.1, wi.2.2.2.1, wi.2.2.2.2.1, wi.2.2.2.2.2.1, wi.2.2.2.2.2.2.1, wi.2.2.2.2.2.2.2.1, wi.2.2.2.2.2.2.2.2.1, 0, 0) mt (ms.1, ms.2.1, 0, 0, 0, 0, 0, ms.2.2.2.2.2.2.2) ma mp mk mn ou) := hD
  refine lv_istore (lv' := [(5, .int (nI 1)), (0, .ref b), (1, .ref (ad 0)), (2, .ref (ad 42)), (3, .ref (ad 62)), (4, .int (nI 3))]) hx hb dL_law_972 hl (by decide) rfl (fun ls hl => ?_)
  refine lv_aload_n hx hb dL_law_974 rfl (lv_at hl 3 rfl) ?_
  refine lv_aload_n hx hb dL_law_975 rfl (lv_at hl 1 rfl) ?_
  refine lv_iload hx hb dL_law_976 (lv_at hl 5 rfl) ?_
  refine lv_iconst (v := nI 1) hx hb dL_law_978 (by decide) ?_
  refine bm_nadd hx hb dL_law_979 ?_
  refine bm_sld hx hb hXs hbl hbA hS (j := (3 + 1)) (by omega) (by omega) dL_law_980 ?_
  refine lv_i2l (v := (xs (3 + 1)).toInt64) hx hb dL_law_981 rfl ?_
  refine lv_bipush (v := nI 32) hx hb dL_law_982 (by decide) ?_
  refine lv_lshl (v := ((xs (3 + 1)).toInt64) <<< ((nI 32).toInt64 &&& 63)) hx hb dL_law_984 rfl ?_
  refine lv_aload_n hx hb dL_law_985 rfl (lv_at hl 1 rfl) ?_
  refine lv_iload hx hb dL_law_986 (lv_at hl 5 rfl) ?_
  refine lv_iconst (v := nI 2) hx hb dL_law_988 (by decide) ?_
  refine bm_nadd hx hb dL_law_989 ?_
  refine bm_sld hx hb hXs hbl hbA hS (j := (3 + 2)) (by omega) (by omega) dL_law_990 ?_
  refine lv_i2l (v := (xs (3 + 2)).toInt64) hx hb dL_law_991 rfl ?_
  refine lv_ldc2 (v := 4294967295) hx hb hown (hts (.constantLong RL 75 4294967295) (by decide +kernel)) dL_law_992 ?_
  refine lv_land hx hb dL_law_995 ?_
  refine lv_lor hx hb dL_law_996 ?_
  refine bm_wcallV (As := [.long ((((xs (3 + 1)).toInt64) <<< ((nI 32).toInt64 &&& 63)) ||| (((xs (3 + 2)).toInt64) &&& 4294967295))]) (rest := []) ⟨hx, hb, hml, hown, hts⟩ (m_runX hv) (cwV 1 hts (gdVL (by decide +kernel) (by decide +kernel) (by decide +kernel) (by decide +kernel) (by decide +kernel)) rfl rfl rfl (by decide +kernel) ⟨Nat.le_of_ble_eq_true rfl, Nat.le_of_ble_eq_true rfl⟩) hK hP hD hS hA 42 5 rfl rfl rfl hl.1 rfl (Nat.le_of_ble_eq_true rfl) dL_law_997 ⟨Nat.le_of_ble_eq_true rfl, Nat.le_of_ble_eq_true rfl⟩ (fun H locs hP hD hS => ?_)
  have hP : va_P D vwCl (WW ad cJ cI cZ (bm.1, bm.2.1, bm.2.2.1, 0) (pa.1, pa.2.1, pa.2.2.1, pa.2.2.2.1, pa.2.2.2.2.1, pa.2.2.2.2.2.1, 0) p0 p1 p2 (li.1, li.2.1, li.2.2.1, li.2.2.2.1, li.2.2.2.2.1, li.2.2.2.2.2.1, li.2.2.2.2.2.2.1, li.2.2.2.2.2.2.2.1, 0, 0) (wi.1, wi.2.1, wi.2.2.1, wi.2.2.2.1, wi.2.2.2.2.1, wi.2.2.2.2.2.1, wi.2.2.2.2.2.2.1, wi.2.2.2.2.2.2.2.1, wi.2.2.2.2.2.2.2.2.1, 0, 0) (1) (ms.1, ms.2.1, 0, 0, 0, 0, 0, ms.2.2.2.2.2.2.2) ma mp mk mn ou) H := hP
  have hD : va_D A (WW ad cJ cI cZ (bm.1, bm.2.1, bm.2.2.1, 0) (pa.1, pa.2.1, pa.2.2.1, pa.2.2.2.1, pa.2.2.2.2.1, pa.2.2.2.2.2.1, 0) p0 p1 p2 (li.1, li.2.1, li.2.2.1, li.2.2.2.1, li.2.2.2.2.1, li.2.2.2.2.2.1, li.2.2.2.2.2.2.1, li.2.2.2.2.2.2.2.1, 0, 0) (wi.1, wi.2.1, wi.2.2.1, wi.2.2.2.1, wi.2.2.2.2.1, wi.2.2.2.2.2.1, wi.2.2.2.2.2.2.1, wi.2.2.2.2.2.2.2.1, wi.2.2.2.2.2.2.2.2.1, 0, 0) (1) (ms.1, ms.2.1, 0, 0, 0, 0, 0, ms.2.2.2.2.2.2.2) ma mp mk mn ou) := hD
  refine lv_istore (lv' := [(6, .int (nI 0)), (5, .int (nI 1)), (0, .ref b), (1, .ref (ad 0)), (2, .ref (ad 42)), (3, .ref (ad 62)), (4, .int (nI 3))]) hx hb dL_law_1000 hl (by decide) rfl (fun ls hl => ?_)
  refine lv_aload_n hx hb dL_law_1002 rfl (lv_at hl 4 rfl) ?_
  refine bm_rcallV (As := []) (rest := []) ⟨hx, hb, hml, hown, hts⟩ (m_thrown) (cwV 0 hts (gdVL (by decide +kernel) (by decide +kernel) (by decide +kernel) (by decide +kernel) (by decide +kernel)) rfl rfl rfl (by decide +kernel) ⟨Nat.le_of_ble_eq_true rfl, Nat.le_of_ble_eq_true rfl⟩) hK hP 42 5 rfl rfl rfl hl.1 rfl (Nat.le_of_ble_eq_true rfl) dL_law_1003 ⟨Nat.le_of_ble_eq_true rfl, Nat.le_of_ble_eq_true rfl⟩ ?_
  refine lv_iload hx hb dL_law_1006 (lv_at hl 1 rfl) ?_
  refine bm_ni_eq (x := 1) (y := 1) (tgt := 1013) hx hb (by decide) (by decide) dL_law_1008 (by decide) (fun c_1 => ?_) (fun c_1 => ?_)
  · refine lv_iload hx hb dL_law_1013 (lv_at hl 1 rfl) ?_
    refine bm_nz_ne (x := 1) (tgt := 1030) hx hb (by decide) dL_law_1015 (by decide) (fun c_2 => ?_) (fun c_2 => ?_)
    · refine lv_goto (tgt := 1705) hx hb dL_law_1030 (by decide) ?_
      exact v_end hL C0 hAn (Nat.le_of_ble_eq_true rfl) (Nat.le_of_ble_eq_true rfl) hS (lv_sub hl [6, 2] rfl)
    · exact absurd c_2 (by decide)
  · exact absurd c_1 (by decide)

set_option maxHeartbeats 8000000 in
set_option maxRecDepth 100000 in
theorem v_8 {p : Program} {l : Launch} {e : Env} {s : State} {m : MethodId} {below : List Frame} {meth : Method} {c : Code} {b L : Nat} {xs : Nat → Int32} (hlt : l.stackTraces = false) (hL : L = 14) (C0 : lw_At p s m meth c b L xs) (hX : bx_X xW s) (hZ : bx_S RX4 xS s) {A : Nat → Prop} (hA : ∀ q : Nat, s.heap.size ≤ q → A q) (hAn : ∀ q : Nat, q < s.heap.size → ¬ A q) {D : va_G} {ad : Nat → Nat} {cJ cI cZ : ClassId} {bm : gBM} {pa : gPA} {p0 p1 p2 : gPL} {li : gLI} {wi : gWI} {mt : Nat} {ms : gMS} {ma : gMA} {mp : gMP} {mk : gMK} {mn : gMN} {ou : Nat → Int64}  {H : Heap} {locs : List Loc} (hK : va_K D vwCl [(cJ, .long), (cI, .int), (cZ, .boolean)] s) (hP : va_P D vwCl (WW ad cJ cI cZ (bm.1, bm.2.1, bm.2.2.1, 0) (pa.1, pa.2.1, pa.2.2.1, pa.2.2.2.1, pa.2.2.2.2.1, pa.2.2.2.2.2.1, 0) p0 p1 p2 (li.1, li.2.1, li.2.2.1, li.2.2.2.1, li.2.2.2.2.1, li.2.2.2.2.2.1, li.2.2.2.2.2.2.1, li.2.2.2.2.2.2.2.1, 0, 0) (wi.1, wi.2.1, wi.2.2.1, wi.2.2.2.1, wi.2.2.2.2.1, wi.2.2.2.2.2.1, wi.2.2.2.2.2.2.1, wi.2.2.2.2.2.2.2.1, wi.2.2.2.2.2.2.2.2.1, 0, 0) mt (ms.1, ms.2.1, 0, 0, 0, 0, 0, ms.2.2.2.2.2.2.2) ma mp mk mn ou) H) (hD : va_D A (WW ad cJ cI cZ (bm.1, bm.2.1, bm.2.2.1, 0) (pa.1, pa.2.1, pa.2.2.1, pa.2.2.2.1, pa.2.2.2.2.1, pa.2.2.2.2.2.1, 0) p0 p1 p2 (li.1, li.2.1, li.2.2.1, li.2.2.2.1, li.2.2.2.2.1, li.2.2.2.2.2.1, li.2.2.2.2.2.2.1, li.2.2.2.2.2.2.2.1, 0, 0) (wi.1, wi.2.1, wi.2.2.1, wi.2.2.2.1, wi.2.2.2.2.1, wi.2.2.2.2.2.1, wi.2.2.2.2.2.2.1, wi.2.2.2.2.2.2.2.1, wi.2.2.2.2.2.2.2.2.1, 0, 0) mt (ms.1, ms.2.1, 0, 0, 0, 0, 0, ms.2.2.2.2.2.2.2) ma mp mk mn ou)) (hS : va_S A s.heap H locs) {ls : Array Slot} (hl : lv_has ls 8 [(0, .ref b), (1, .ref (ad 0)), (2, .ref (ad 42)), (3, .ref (ad 62)), (4, .int (nI 3))]) : W p l e room_1 s m #[Value.ref b] below meth c H locs 63 2864 (lw_Z below #[Value.ref b] s) (F0 m 1033 ls []) := by
  obtain ⟨hx, hb, hr, hml, hown, hts, hXs, hbl, hlocks, hgv⟩ := id C0
  have hbA := hAn b hbl
  refine lv_aload_n hx hb dL_law_1033 rfl (lv_at hl 1 rfl) ?_
  refine bm_rcallV (As := []) (rest := []) ⟨hx, hb, hml, hown, hts⟩ (k_wire) (cwV 0 hts (gdVL (by decide +kernel) (by decide +kernel) (by decide +kernel) (by decide +kernel) (by decide +kernel)) rfl rfl rfl (by decide +kernel) ⟨Nat.le_of_ble_eq_true rfl, Nat.le_of_ble_eq_true rfl⟩) hK hP 0 4 rfl rfl rfl hl.1 rfl (Nat.le_of_ble_eq_true rfl) dL_law_1034 ⟨Nat.le_of_ble_eq_true rfl, Nat.le_of_ble_eq_true rfl⟩ ?_
  refine lv_aload_n hx hb dL_law_1037 rfl (lv_at hl 2 rfl) ?_
  refine bm_wcallV (As := []) (rest := [.long 0]) ⟨hx, hb, hml, hown, hts⟩ (m_wire) (cwV 0 hts (gdVL (by decide +kernel) (by decide +kernel) (by decide +kernel) (by decide +kernel) (by decide +kernel)) rfl rfl rfl (by decide +kernel) ⟨Nat.le_of_ble_eq_true rfl, Nat.le_of_ble_eq_true rfl⟩) hK hP hD hS hA 42 5 rfl rfl rfl hl.1 rfl (Nat.le_of_ble_eq_true rfl) dL_law_1038 ⟨Nat.le_of_ble_eq_true rfl, Nat.le_of_ble_eq_true rfl⟩ (fun H locs hP hD hS => ?_)
  have hP : va_P D vwCl (WW ad cJ cI cZ (bm.1, bm.2.1, bm.2.2.1, 0) (pa.1, pa.2.1, pa.2.2.1, pa.2.2.2.1, pa.2.2.2.2.1, pa.2.2.2.2.2.1, 0) p0 p1 p2 (li.1, li.2.1, li.2.2.1, li.2.2.2.1, li.2.2.2.2.1, li.2.2.2.2.2.1, li.2.2.2.2.2.2.1, li.2.2.2.2.2.2.2.1, 0, 0) (wi.1, wi.2.1, wi.2.2.1, wi.2.2.2.1, wi.2.2.2.2.1, wi.2.2.2.2.2.1, wi.2.2.2.2.2.2.1, wi.2.2.2.2.2.2.2.1, wi.2.2.2.2.2.2.2.2.1, 0, 0) (0) (ms.1, ms.2.1, 0, 0, 0, 0, 0, ms.2.2.2.2.2.2.2) ma mp mk mn ou) H := hP
  have hD : va_D A (WW ad cJ cI cZ (bm.1, bm.2.1, bm.2.2.1, 0) (pa.1, pa.2.1, pa.2.2.1, pa.2.2.2.1, pa.2.2.2.2.1, pa.2.2.2.2.2.1, 0) p0 p1 p2 (li.1, li.2.1, li.2.2.1, li.2.2.2.1, li.2.2.2.2.1, li.2.2.2.2.2.1, li.2.2.2.2.2.2.1, li.2.2.2.2.2.2.2.1, 0, 0) (wi.1, wi.2.1, wi.2.2.1, wi.2.2.2.1, wi.2.2.2.2.1, wi.2.2.2.2.2.1, wi.2.2.2.2.2.2.1, wi.2.2.2.2.2.2.2.1, wi.2.2.2.2.2.2.2.2.1, 0, 0) (0) (ms.1, ms.2.1, 0, 0, 0, 0, 0, ms.2.2.2.2.2.2.2) ma mp mk mn ou) := hD
  refine bm_lc_eq (x := 0) (y := 0) (tgt := 1705) hx hb dL_law_1041 dL_law_1042 (by decide) (fun c_1 => ?_) (fun c_1 => ?_)
  · exact v_end hL C0 hAn (Nat.le_of_ble_eq_true rfl) (Nat.le_of_ble_eq_true rfl) hS (lv_sub hl [4, 0] rfl)
  · exact absurd c_1 (by decide)

set_option maxHeartbeats 8000000 in
set_option maxRecDepth 100000 in
theorem v_9 {p : Program} {l : Launch} {e : Env} {s : State} {m : MethodId} {below : List Frame} {meth : Method} {c : Code} {b L : Nat} {xs : Nat → Int32} (hlt : l.stackTraces = false) (hL : L = 14) (C0 : lw_At p s m meth c b L xs) (hX : bx_X xW s) (hZ : bx_S RX4 xS s) {A : Nat → Prop} (hA : ∀ q : Nat, s.heap.size ≤ q → A q) (hAn : ∀ q : Nat, q < s.heap.size → ¬ A q) {D : va_G} {ad : Nat → Nat} {cJ cI cZ : ClassId} {bm : gBM} {pa : gPA} {p0 p1 p2 : gPL} {li : gLI} {wi : gWI} {mt : Nat} {ms : gMS} {ma : gMA} {mp : gMP} {mk : gMK} {mn : gMN} {ou : Nat → Int64}  {H : Heap} {locs : List Loc} (hK : va_K D vwCl [(cJ, .long), (cI, .int), (cZ, .boolean)] s) (hP : va_P D vwCl (WW ad cJ cI cZ (bm.1, bm.2.1, bm.2.2.1, 0) (pa.1, pa.2.1, pa.2.2.1, pa.2.2.2.1, pa.2.2.2.2.1, pa.2.2.2.2.2.1, 0) p0 p1 p2 (li.1, li.2.1, li.2.2.1, li.2.2.2.1, li.2.2.2.2.1, li.2.2.2.2.2.1, li.2.2.2.2.2.2.1, li.2.2.2.2.2.2.2.1, 0, 0) (wi.1, wi.2.1, wi.2.2.1, wi.2.2.2.1, wi.2.2.2.2.1, wi.2.2.2.2.2.1, wi.2.2.2.2.2.2.1, wi.2.2.2.2.2.2.2.1, wi.2.2.2.2.2.2.2.2.1, 0, 0) mt (ms.1, ms.2.1, 0, 0, 0, 0, 0, ms.2.2.2.2.2.2.2) ma mp mk mn ou) H) (hD : va_D A (WW ad cJ cI cZ (bm.1, bm.2.1, bm.2.2.1, 0) (pa.1, pa.2.1, pa.2.2.1, pa.2.2.2.1, pa.2.2.2.2.1, pa.2.2.2.2.2.1, 0) p0 p1 p2 (li.1, li.2.1, li.2.2.1, li.2.2.2.1, li.2.2.2.2.1, li.2.2.2.2.2.1, li.2.2.2.2.2.2.1, li.2.2.2.2.2.2.2.1, 0, 0) (wi.1, wi.2.1, wi.2.2.1, wi.2.2.2.1, wi.2.2.2.2.1, wi.2.2.2.2.2.1, wi.2.2.2.2.2.2.1, wi.2.2.2.2.2.2.2.1, wi.2.2.2.2.2.2.2.2.1, 0, 0) mt (ms.1, ms.2.1, 0, 0, 0, 0, 0, ms.2.2.2.2.2.2.2) ma mp mk mn ou)) (hS : va_S A s.heap H locs) {ls : Array Slot} (hl : lv_has ls 8 [(0, .ref b), (1, .ref (ad 0)), (2, .ref (ad 42)), (3, .ref (ad 62)), (4, .int (nI 3))]) : W p l e room_1 s m #[Value.ref b] below meth c H locs 63 2864 (lw_Z below #[Value.ref b] s) (F0 m 1047 ls []) := by
  obtain ⟨hx, hb, hr, hml, hown, hts, hXs, hbl, hlocks, hgv⟩ := id C0
  have hbA := hAn b hbl
  refine lv_aload_n hx hb dL_law_1047 rfl (lv_at hl 1 rfl) ?_
  refine bm_rcallV (As := []) (rest := []) ⟨hx, hb, hml, hown, hts⟩ (k_full) (cwV 0 hts (gdVL (by decide +kernel) (by decide +kernel) (by decide +kernel) (by decide +kernel) (by decide +kernel)) rfl rfl rfl (by decide +kernel) ⟨Nat.le_of_ble_eq_true rfl, Nat.le_of_ble_eq_true rfl⟩) hK hP 0 4 rfl rfl rfl hl.1 rfl (Nat.le_of_ble_eq_true rfl) dL_law_1048 ⟨Nat.le_of_ble_eq_true rfl, Nat.le_of_ble_eq_true rfl⟩ ?_
  refine lv_aload_n hx hb dL_law_1051 rfl (lv_at hl 2 rfl) ?_
  refine bm_wcallV (As := []) (rest := [.long 0]) ⟨hx, hb, hml, hown, hts⟩ (m_full) (cwV 0 hts (gdVL (by decide +kernel) (by decide +kernel) (by decide +kernel) (by decide +kernel) (by decide +kernel)) rfl rfl rfl (by decide +kernel) ⟨Nat.le_of_ble_eq_true rfl, Nat.le_of_ble_eq_true rfl⟩) hK hP hD hS hA 42 5 rfl rfl rfl hl.1 rfl (Nat.le_of_ble_eq_true rfl) dL_law_1052 ⟨Nat.le_of_ble_eq_true rfl, Nat.le_of_ble_eq_true rfl⟩ (fun H locs hP hD hS => ?_)
  have hP : va_P D vwCl (WW ad cJ cI cZ (bm.1, bm.2.1, bm.2.2.1, 0) (pa.1, pa.2.1, pa.2.2.1, pa.2.2.2.1, pa.2.2.2.2.1, pa.2.2.2.2.2.1, 0) p0 p1 p2 (li.1, li.2.1, li.2.2.1, li.2.2.2.1, li.2.2.2.2.1, li.2.2.2.2.2.1, li.2.2.2.2.2.2.1, li.2.2.2.2.2.2.2.1, 0, 0) (wi.1, wi.2.1, wi.2.2.1, wi.2.2.2.1, wi.2.2.2.2.1, wi.2.2.2.2.2.1, wi.2.2.2.2.2.2.1, wi.2.2.2.2.2.2.2.1, wi.2.2.2.2.2.2.2.2.1, 0, 0) (0) (ms.1, ms.2.1, 0, 0, 0, 0, 0, ms.2.2.2.2.2.2.2) ma mp mk mn ou) H := hP
  have hD : va_D A (WW ad cJ cI cZ (bm.1, bm.2.1, bm.2.2.1, 0) (pa.1, pa.2.1, pa.2.2.1, pa.2.2.2.1, pa.2.2.2.2.1, pa.2.2.2.2.2.1, 0) p0 p1 p2 (li.1, li.2.1, li.2.2.1, li.2.2.2.1, li.2.2.2.2.1, li.2.2.2.2.2.1, li.2.2.2.2.2.2.1, li.2.2.2.2.2.2.2.1, 0, 0) (wi.1, wi.2.1, wi.2.2.1, wi.2.2.2.1, wi.2.2.2.2.1, wi.2.2.2.2.2.1, wi.2.2.2.2.2.2.1, wi.2.2.2.2.2.2.2.1, wi.2.2.2.2.2.2.2.2.1, 0, 0) (0) (ms.1, ms.2.1, 0, 0, 0, 0, 0, ms.2.2.2.2.2.2.2) ma mp mk mn ou) := hD
  refine bm_lc_eq (x := 0) (y := 0) (tgt := 1705) hx hb dL_law_1055 dL_law_1056 (by decide) (fun c_1 => ?_) (fun c_1 => ?_)
  · exact v_end hL C0 hAn (Nat.le_of_ble_eq_true rfl) (Nat.le_of_ble_eq_true rfl) hS (lv_sub hl [4, 0] rfl)
  · exact absurd c_1 (by decide)
