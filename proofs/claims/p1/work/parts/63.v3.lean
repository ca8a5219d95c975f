set_option maxHeartbeats 8000000 in
set_option maxRecDepth 100000 in
theorem v_10 {p : Program} {l : Launch} {e : Env} {s : State} {m : MethodId} {below : List Frame} {meth : Method} {c : Code} {b L : Nat} {xs : Nat → Int32} (hlt : l.stackTraces = false) (hL : L = 14) (C0 : lw_At p s m meth c b L xs) (hX : bx_X xW s) (hZ : bx_S RX4 xS s) {A : Nat → Prop} (hA : ∀ q : Nat, s.heap.size ≤ q → A q) (hAn : ∀ q : Nat, q < s.heap.size → ¬ A q) {D : va_G} {ad : Nat → Nat} {cJ cI cZ : ClassId} {bm : gBM} {pa : gPA} {p0 p1 p2 : gPL} {li : gLI} {wi : gWI} {mt : Nat} {ms : gMS} {ma : gMA} {mp : gMP} {mk : gMK} {mn : gMN} {ou : Nat → Int64}  {H : Heap} {locs : List Loc} (hK : va_K D vwCl [(cJ, .long), (cI, .int), (cZ, .boolean)] s) (hP : va_P D vwCl (WW ad cJ cI cZ (bm.1, bm.2.1, bm.2.2.1, 0) (pa.1, pa.2.1, pa.2.2.1, pa.2.2.2.1, pa.2.2.2.2.1, pa.2.2.2.2.2.1, 0) p0 p1 p2 (li.1, li.2.1, li.2.2.1, li.2.2.2.1, li.2.2.2.2.1, li.2.2.2.2.2.1, li.2.2.2.2.2.2.1, li.2.2.2.2.2.2.2.1, 0, 0) (wi.1, wi.2.1, wi.2.2.1, wi.2.2.2.1, wi.2.2.2.2.1, wi.2.2.2.2.2.1, wi.2.2.2.2.2.2.1, wi.2.2.2.2.2.2.2.1, wi.2.2.2.2.2.2.2.2.1, 0, 0) mt (ms.1, ms.2.1, 0, 0, 0, 0, 0, ms.2.2.2.2.2.2.2) ma mp mk mn ou) H) (hD : va_D A (WW ad cJ cI cZ (bm.1, bm.2.1, bm.2.2.1, 0) (pa.1, pa.2.1, pa.2.2.1, pa.2.2.2.1, pa.2.2.2.2.1, pa.2.2.2.2.2.1, 0) p0 p1 p2 (li.1, li.2.1, li.2.2.1, li.2.2.2.1, li.2.2.2.2.1, li.2.2.2.2.2.1, li.2.2.2.2.2.2.1, li.2.2.2.2.2.2.2.1, 0, 0) (wi.1, wi.2.1, wi.2.2.1, wi.2.2.2.1, wi.2.2.2.2.1, wi.2.2.2.2.2.1, wi.2.2.2.2.2.2.1, wi.2.2.2.2.2.2.2.1, wi.2.2.2.2.2.2.2.2.1, 0, 0) mt (ms.1, ms.2.1, 0, 0, 0, 0, 0, ms.2.2.2.2.2.2.2) ma mp mk mn ou)) (hS : va_S A s.heap H locs) {ls : Array Slot} (hl : lv_has ls 8 [(0, .ref b), (1, .ref (ad 0)), (2, .ref (ad 42)), (3, .ref (ad 62)), (4, .int (nI 3))]) : W p l e room_1 s m #[Value.ref b] below meth c H locs 63 2864 (lw_Z below #[Value.ref b] s) (F0 m 1061 ls []) := by
  obtain ⟨hx, hb, hr, hml, hown, hts, hXs, hbl, hlocks, hgv⟩ := id C0
  have hbA := hAn b hbl
  refine lv_aload_n hx hb dL_law_1061 rfl (lv_at hl 1 rfl) ?_
  refine lv_aload_n hx hb dL_law_1062 rfl (lv_at hl 0 rfl) ?_
  refine lv_iload hx hb dL_law_1063 (lv_at hl 4 rfl) ?_
  refine lv_iconst (v := nI 1) hx hb dL_law_1065 (by decide) ?_
  refine bm_nadd hx hb dL_law_1066 ?_
  refine bm_sld hx hb hXs hbl hbA hS (j := (3 + 1)) (by omega) (by omega) dL_law_1067 ?_
  refine lv_aload_n hx hb dL_law_1068 rfl (lv_at hl 0 rfl) ?_
  refine lv_iload hx hb dL_law_1069 (lv_at hl 4 rfl) ?_
  refine lv_iconst (v := nI 2) hx hb dL_law_1071 (by decide) ?_
  refine bm_nadd hx hb dL_law_1072 ?_
  refine bm_sld hx hb hXs hbl hbA hS (j := (3 + 2)) (by omega) (by omega) dL_law_1073 ?_
  refine lv_aload_n hx hb dL_law_1074 rfl (lv_at hl 0 rfl) ?_
  refine lv_iload hx hb dL_law_1075 (lv_at hl 4 rfl) ?_
  refine lv_iconst (v := nI 3) hx hb dL_law_1077 (by decide) ?_
  refine bm_nadd hx hb dL_law_1078 ?_
  refine bm_sld hx hb hXs hbl hbA hS (j := (3 + 3)) (by omega) (by omega) dL_law_1079 ?_
  refine lv_i2l (v := (xs (3 + 3)).toInt64) hx hb dL_law_1080 rfl ?_
  refine lv_bipush (v := nI 32) hx hb dL_law_1081 (by decide) ?_
  refine lv_lshl (v := ((xs (3 + 3)).toInt64) <<< ((nI 32).toInt64 &&& 63)) hx hb dL_law_1083 rfl ?_
  refine lv_aload_n hx hb dL_law_1084 rfl (lv_at hl 0 rfl) ?_
  refine lv_iload hx hb dL_law_1085 (lv_at hl 4 rfl) ?_
  refine lv_iconst (v := nI 4) hx hb dL_law_1087 (by decide) ?_
  refine bm_nadd hx hb dL_law_1088 ?_
  refine bm_sld hx hb hXs hbl hbA hS (j := (3 + 4)) (by omega) (by omega) dL_law_1089 ?_
  refine lv_i2l (v := (xs (3 + 4)).toInt64) hx hb dL_law_1090 rfl ?_
  refine lv_ldc2 (v := 4294967295) hx hb hown (hts (.constantLong RL 75 4294967295) (by decide +kernel)) dL_law_1091 ?_
  refine lv_land hx hb dL_law_1094 ?_
  refine lv_lor hx hb dL_law_1095 ?_
  refine lv_aload_n hx hb dL_law_1096 rfl (lv_at hl 3 rfl) ?_
  refine bx_hcallS (n := 5) (As := [.ref (ad 0), .int (xs (3 + 1)), .int (xs (3 + 2)), .long ((((xs (3 + 3)).toInt64) <<< ((nI 32).toInt64 &&& 63)) ||| (((xs (3 + 4)).toInt64) &&& 4294967295)), .ref (ad 62)]) (rest := []) ⟨hx, hb, hml, hown, hts⟩ ((h_near hlt) H.size) rfl rfl (Nat.le_of_ble_eq_true rfl) (Nat.le_of_ble_eq_true rfl) (gdH (by decide +kernel)) (by decide +kernel) rfl hK hP hD hS hA hX hZ hAn rfl hl.1 rfl (Nat.le_of_ble_eq_true rfl) dL_law_1097 ⟨Nat.le_of_ble_eq_true rfl, Nat.le_of_ble_eq_true rfl⟩ (fun H locs hP hD hS => ?_)
  have hP : va_P D vwCl (WW ad cJ cI cZ (bm.1, bm.2.1, bm.2.2.1, 0) (pa.1, pa.2.1, pa.2.2.1, pa.2.2.2.1, pa.2.2.2.2.1, pa.2.2.2.2.2.1, 0) p0 p1 p2 (li.1, li.2.1, li.2.2.1, li.2.2.2.1, li.2.2.2.2.1, li.2.2.2.2.2.1, li.2.2.2.2.2.2.1, li.2.2.2.2.2.2.2.1, 0, 0) (wi.1, wi.2.1, wi.2.2.1, wi.2.2.2.1, wi.2.2.2.2.1, wi.2.2.2.2.2.1, wi.2.2.2.2.2.2.1, wi.2.2.2.2.2.2.2.1, wi.2.2.2.2.2.2.2.2.1, 0, 0) mt (ms.1, ms.2.1, 0, 0, 0, 0, 0, ms.2.2.2.2.2.2.2) ma mp mk mn ou) H := hP
  have hD : va_D A (WW ad cJ cI cZ (bm.1, bm.2.1, bm.2.2.1, 0) (pa.1, pa.2.1, pa.2.2.1, pa.2.2.2.1, pa.2.2.2.2.1, pa.2.2.2.2.2.1, 0) p0 p1 p2 (li.1, li.2.1, li.2.2.1, li.2.2.2.1, li.2.2.2.2.1, li.2.2.2.2.2.1, li.2.2.2.2.2.2.1, li.2.2.2.2.2.2.2.1, 0, 0) (wi.1, wi.2.1, wi.2.2.1, wi.2.2.2.1, wi.2.2.2.2.1, wi.2.2.2.2.2.1, wi.2.2.2.2.2.2.1, wi.2.2.2.2.2.2.2.1, wi.2.2.2.2.2.2.2.2.1, 0, 0) mt (ms.1, ms.2.1, 0, 0, 0, 0, 0, ms.2.2.2.2.2.2.2) ma mp mk mn ou) := hD
  refine lv_istore (lv' := [(5, .int (nI 1)), (0, .ref b), (1, .ref (ad 0)), (2, .ref (ad 42)), (3, .ref (ad 62)), (4, .int (nI 3))]) hx hb dL_law_1100 hl (by decide) rfl (fun ls hl => ?_)
  refine lv_aload_n hx hb dL_law_1102 rfl (lv_at hl 3 rfl) ?_
  refine lv_aload_n hx hb dL_law_1103 rfl (lv_at hl 1 rfl) ?_
  refine lv_iload hx hb dL_law_1104 (lv_at hl 5 rfl) ?_
  refine lv_iconst (v := nI 1) hx hb dL_law_1106 (by decide) ?_
  refine bm_nadd hx hb dL_law_1107 ?_
  refine bm_sld hx hb hXs hbl hbA hS (j := (3 + 1)) (by omega) (by omega) dL_law_1108 ?_
  refine lv_aload_n hx hb dL_law_1109 rfl (lv_at hl 1 rfl) ?_
  refine lv_iload hx hb dL_law_1110 (lv_at hl 5 rfl) ?_
  refine lv_iconst (v := nI 2) hx hb dL_law_1112 (by decide) ?_
  refine bm_nadd hx hb dL_law_1113 ?_
  refine bm_sld hx hb hXs hbl hbA hS (j := (3 + 2)) (by omega) (by omega) dL_law_1114 ?_
  refine lv_aload_n hx hb dL_law_1115 rfl (lv_at hl 1 rfl) ?_
  refine lv_iload hx hb dL_law_1116 (lv_at hl 5 rfl) ?_
  refine lv_iconst (v := nI 3) hx hb dL_law_1118 (by decide) ?_
  refine bm_nadd hx hb dL_law_1119 ?_
  refine bm_sld hx hb hXs hbl hbA hS (j := (3 + 3)) (by omega) (by omega) dL_law_1120 ?_
  refine lv_i2l (v := (xs (3 + 3)).toInt64) hx hb dL_law_1121 rfl ?_
  refine lv_bipush (v := nI 32) hx hb dL_law_1122 (by decide) ?_
  refine lv_lshl (v := ((xs (3 + 3)).toInt64) <<< ((nI 32).toInt64 &&& 63)) hx hb dL_law_1124 rfl ?_
  refine lv_aload_n hx hb dL_law_1125 rfl (lv_at hl 1 rfl) ?_
  refine lv_iload hx hb dL_law_1126 (lv_at hl 5 rfl) ?_
  refine lv_iconst (v := nI 4) hx hb dL_law_1128 (by decide) ?_
  refine bm_nadd hx hb dL_law_1129 ?_
  refine bm_sld hx hb hXs hbl hbA hS (j := (3 + 4)) (by omega) (by omega) dL_law_1130 ?_
  refine lv_i2l (v := (xs (3 + 4)).toInt64) hx hb dL_law_1131 rfl ?_
  refine lv_ldc2 (v := 4294967295) hx hb hown (hts (.constantLong RL 75 4294967295) (by decide +kernel)) dL_law_1132 ?_
  refine lv_land hx hb dL_law_1135 ?_
  refine lv_lor hx hb dL_law_1136 ?_
  refine bm_wcallV (As := [.int (xs (3 + 1)), .int (xs (3 + 2)), .long ((((xs (3 + 3)).toInt64) <<< ((nI 32).toInt64 &&& 63)) ||| (((xs (3 + 4)).toInt64) &&& 4294967295))]) (rest := []) ⟨hx, hb, hml, hown, hts⟩ (m_near) (cwV 3 hts (gdVL (by decide +kernel) (by decide +kernel) (by decide +kernel) (by decide +kernel) (by decide +kernel)) rfl rfl rfl (by decide +kernel) ⟨Nat.le_of_ble_eq_true rfl, Nat.le_of_ble_eq_true rfl⟩) hK hP hD hS hA 42 5 rfl rfl rfl hl.1 rfl (Nat.le_of_ble_eq_true rfl) dL_law_1137 ⟨Nat.le_of_ble_eq_true rfl, Nat.le_of_ble_eq_true rfl⟩ (fun H locs hP hD hS => ?_)
  have hP : va_P D vwCl (WW ad cJ cI cZ (bm.1, bm.2.1, bm.2.2.1, 0) (pa.1, pa.2.1, pa.2.2.1, pa.2.2.2.1, pa.2.2.2.2.1, pa.2.2.2.2.2.1, 0) p0 p1 p2 (li.1, li.2.1, li.2.2.1, li.2.2.2.1, li.2.2.2.2.1, li.2.2.2.2.2.1, li.2.2.2.2.2.2.1, li.2.2.2.2.2.2.2.1, 0, 0) (wi.1, wi.2.1, wi.2.2.1, wi.2.2.2.1, wi.2.2.2.2.1, wi.2.2.2.2.2.1, wi.2.2.2.2.2.2.1, wi.2.2.2.2.2.2.2.1, wi.2.2.2.2.2.2.2.2.1, 0, 0) (1) (ms.1, ms.2.1, 0, 0, 0, 0, 0, ms.2.2.2.2.2.2.2) ma mp mk mn ou) H := hP
  have hD : va_D A (WW ad cJ cI cZ (bm.1, bm.2.1, bm.2.2.1, 0) (pa.1, pa.2.1, pa.2.2.1, pa.2.2.2.1, pa.2.2.2.2.1, pa.2.2.2.2.2.1, 0) p0 p1 p2 (li.1, li.2.1, li.2.2.1, li.2.2.2.1, li.2.2.2.2.1, li.2.2.2.2.2.1, li.2.2.2.2.2.2.1, li.2.2.2.2.2.2.2.1, 0, 0) (wi.1, wi.2.1, wi.2.2.1, wi.2.2.2.1, wi.2.2.2.2.1, wi.2.2.2.2.2.1, wi.2.2.2.2.2.2.1, wi.2.2.2.2.2.2.2.1, wi.2.2.2.2.2.2.2.2.1, 0, 0) (1) (ms.1, ms.2.1, 0, 0, 0, 0, 0, ms.2.2.2.2.2.2.2) ma mp mk mn ou) := hD
  refine lv_istore (lv' := [(6, .int (bm_b false)), (5, .int (nI 1)), (0, .ref b), (1, .ref (ad 0)), (2, .ref (ad 42)), (3, .ref (ad 62)), (4, .int (nI 3))]) hx hb dL_law_1140 hl (by decide) rfl (fun ls hl => ?_)
  refine lv_aload_n hx hb dL_law_1142 rfl (lv_at hl 4 rfl) ?_
  refine bm_rcallV (As := []) (rest := []) ⟨hx, hb, hml, hown, hts⟩ (m_thrown) (cwV 0 hts (gdVL (by decide +kernel) (by decide +kernel) (by decide +kernel) (by decide +kernel) (by decide +kernel)) rfl rfl rfl (by decide +kernel) ⟨Nat.le_of_ble_eq_true rfl, Nat.le_of_ble_eq_true rfl⟩) hK hP 42 5 rfl rfl rfl hl.1 rfl (Nat.le_of_ble_eq_true rfl) dL_law_1143 ⟨Nat.le_of_ble_eq_true rfl, Nat.le_of_ble_eq_true rfl⟩ ?_
  refine lv_iload hx hb dL_law_1146 (lv_at hl 1 rfl) ?_
  refine bm_ni_eq (x := 1) (y := 1) (tgt := 1153) hx hb (by decide) (by decide) dL_law_1148 (by decide) (fun c_1 => ?_) (fun c_1 => ?_)
  · refine lv_iload hx hb dL_law_1153 (lv_at hl 1 rfl) ?_
    refine bm_nz_ne (x := 1) (tgt := 1177) hx hb (by decide) dL_law_1155 (by decide) (fun c_2 => ?_) (fun c_2 => ?_)
    · refine lv_goto (tgt := 1705) hx hb dL_law_1177 (by decide) ?_
      exact v_end hL C0 hAn (Nat.le_of_ble_eq_true rfl) (Nat.le_of_ble_eq_true rfl) hS (lv_sub hl [6, 2] rfl)
    · exact absurd c_2 (by decide)
  · exact absurd c_1 (by decide)

set_option maxHeartbeats 8000000 in
set_option maxRecDepth 100000 in
theorem v_11 {p : Program} {l : Launch} {e : Env} {s : State} {m : MethodId} {below : List Frame} {meth : Method} {c : Code} {b L : Nat} {xs : Nat → Int32} (hlt : l.stackTraces = false) (hL : L = 14) (C0 : lw_At p s m meth c b L xs) (hX : bx_X xW s) (hZ : bx_S RX4 xS s) {A : Nat → Prop} (hA : ∀ q : Nat, s.heap.size ≤ q → A q) (hAn : ∀ q : Nat, q < s.heap.size → ¬ A q) {D : va_G} {ad : Nat → Nat} {cJ cI cZ : ClassId} {bm : gBM} {pa : gPA} {p0 p1 p2 : gPL} {li : gLI} {wi : gWI} {mt : Nat} {ms : gMS} {ma : gMA} {mp : gMP} {mk : gMK} {mn : gMN} {ou : Nat → Int64}  {H : Heap} {locs : List Loc} (hK : va_K D vwCl [(cJ, .long), (cI, .int), (cZ, .boolean)] s) (hP : va_P D vwCl (WW ad cJ cI cZ (bm.1, bm.2.1, bm.2.2.1, 0) (pa.1, pa.2.1, pa.2.2.1, pa.2.2.2.1, pa.2.2.2.2.1, pa.2.2.2.2.2.1, 0) p0 p1 p2 (li.1, li.2.1, li.2.2.1, li.2.2.2.1, li.2.2.2.2.1, li.2.2.2.2.2.1, li.2.2.2.2.2.2.1, li.2.2.2.2.2.2.2.1, 0, 0) (wi.1, wi.2.1, wi.2.2.1, wi.2.2.2.1, wi.2.2.2.2.1, wi.2.2.2.2.2.1, wi.2.2.2.2.2.2.1, wi.2.2.2.2.2.2.2.1, wi.2.2.2.2.2.2.2.2.1, 0, 0) mt (ms.1, ms.2.1, 0, 0, 0, 0, 0, ms.2.2.2.2.2.2.2) ma mp mk mn ou) H) (hD : va_D A (WW ad cJ cI cZ (bm.1, bm.2.1, bm.2.2.1, 0) (pa.1, pa.2.1, pa.2.2.1, pa.2.2.2.1, pa.2.2.2.2.1, pa.2.2.2.2.2.1, 0) p0 p1 p2 (li.1, li.2.1, li.2.2.1, li.2.2.2.1, li.2.2.2.2.1, li.2.2.2.2.2.1, li.2.2.2.2.2.2.1, li.2.2.2.2.2.2.2.1, 0, 0) (wi.1, wi.2.1, wi.2.2.1, wi.2.2.2.1, wi.2.2.2.2.1, wi.2.2.2.2.2.1, wi.2.2.2.2.2.2.1, wi.2.2.2.2.2.2.2.1, wi.2.2.2.2.2.2.2.2.1, 0, 0) mt (ms.1, ms.2.1, 0, 0, 0, 0, 0, ms.2.2.2.2.2.2.2) ma mp mk mn ou)) (hS : va_S A s.heap H locs) {ls : Array Slot} (hl : lv_has ls 8 [(0, .ref b), (1, .ref (ad 0)), (2, .ref (ad 42)), (3, .ref (ad 62)), (4, .int (nI 3))]) : W p l e room_1 s m #[Value.ref b] below meth c H locs 63 2864 (lw_Z below #[Value.ref b] s) (F0 m 1180 ls []) := by
  obtain ⟨hx, hb, hr, hml, hown, hts, hXs, hbl, hlocks, hgv⟩ := id C0
  have hbA := hAn b hbl
  refine lv_aload_n hx hb dL_law_1180 rfl (lv_at hl 1 rfl) ?_
  refine lv_aload_n hx hb dL_law_1181 rfl (lv_at hl 0 rfl) ?_
  refine lv_iload hx hb dL_law_1182 (lv_at hl 4 rfl) ?_
  refine lv_iconst (v := nI 1) hx hb dL_law_1184 (by decide) ?_
  refine bm_nadd hx hb dL_law_1185 ?_
  refine bm_sld hx hb hXs hbl hbA hS (j := (3 + 1)) (by omega) (by omega) dL_law_1186 ?_
  refine lv_aload_n hx hb dL_law_1187 rfl (lv_at hl 0 rfl) ?_
  refine lv_iload hx hb dL_law_1188 (lv_at hl 4 rfl) ?_
  refine lv_iconst (v := nI 2) hx hb dL_law_1190 (by decide) ?_
  refine bm_nadd hx hb dL_law_1191 ?_
  refine bm_sld hx hb hXs hbl hbA hS (j := (3 + 2)) (by omega) (by omega) dL_law_1192 ?_
  refine lv_aload_n hx hb dL_law_1193 rfl (lv_at hl 3 rfl) ?_
  refine bx_hcallS (n := 4) (As := [.ref (ad 0), .int (xs (3 + 1)), .int (xs (3 + 2)), .ref (ad 62)]) (rest := []) ⟨hx, hb, hml, hown, hts⟩ ((h_group hlt) H.size) rfl rfl (Nat.le_of_ble_eq_true rfl) (Nat.le_of_ble_eq_true rfl) (gdH (by decide +kernel)) (by decide +kernel) rfl hK hP hD hS hA hX hZ hAn rfl hl.1 rfl (Nat.le_of_ble_eq_true rfl) dL_law_1194 ⟨Nat.le_of_ble_eq_true rfl, Nat.le_of_ble_eq_true rfl⟩ (fun H locs hP hD hS => ?_)
  have hP : va_P D vwCl (WW ad cJ cI cZ (bm.1, bm.2.1, bm.2.2.1, 0) (pa.1, pa.2.1, pa.2.2.1, pa.2.2.2.1, pa.2.2.2.2.1, pa.2.2.2.2.2.1, 0) p0 p1 p2 (li.1, li.2.1, li.2.2.1, li.2.2.2.1, li.2.2.2.2.1, li.2.2.2.2.2.1, li.2.2.2.2.2.2.1, li.2.2.2.2.2.2.2.1, 0, 0) (wi.1, wi.2.1, wi.2.2.1, wi.2.2.2.1, wi.2.2.2.2.1, wi.2.2.2.2.2.1, wi.2.2.2.2.2.2.1, wi.2.2.2.2.2.2.2.1, wi.2.2.2.2.2.2.2.2.1, 0, 0) mt (ms.1, ms.2.1, 0, 0, 0, 0, 0, ms.2.2.2.2.2.2.2) ma mp mk mn ou) H := hP
  have hD : va_D A (WW ad cJ cI cZ (bm.1, bm.2.1, bm.2.2.1, 0) (pa.1, pa.2.1, pa.2.2.1, pa.2.2.2.1, pa.2.2.2.2.1, pa.2.2.2.2.2.1, 0) p0 p1 p2 (li.1, li.2.1, li.2.2.1, li.2.2.2.1, li.2.2.2.2.1, li.2.2.2.2.2.1, li.2.2.2.2.2.2.1, li.2.2.2.2.2.2.2.1, 0, 0) (wi.1, wi.2.1, wi.2.2.1, wi.2.2.2.1, wi.2.2.2.2.1, wi.2.2.2.2.2.1, wi.2.2.2.2.2.2.1, wi.2.2.2.2.2.2.2.1, wi.2.2.2.2.2.2.2.2.1, 0, 0) mt (ms.1, ms.2.1, 0, 0, 0, 0, 0, ms.2.2.2.2.2.2.2) ma mp mk mn ou) := hD
  refine lv_istore (lv' := [(5, .int (nI 1)), (0, .ref b), (1, .ref (ad 0)), (2, .ref (ad 42)), (3, .ref (ad 62)), (4, .int (nI 3))]) hx hb dL_law_1197 hl (by decide) rfl (fun ls hl => ?_)
  refine lv_aload_n hx hb dL_law_1199 rfl (lv_at hl 3 rfl) ?_
  refine lv_aload_n hx hb dL_law_1200 rfl (lv_at hl 1 rfl) ?_
  refine lv_iload hx hb dL_law_1201 (lv_at hl 5 rfl) ?_
  refine lv_iconst (v := nI 1) hx hb dL_law_1203 (by decide) ?_
  refine bm_nadd hx hb dL_law_1204 ?_
  refine bm_sld hx hb hXs hbl hbA hS (j := (3 + 1)) (by omega) (by omega) dL_law_1205 ?_
  refine lv_aload_n hx hb dL_law_1206 rfl (lv_at hl 1 rfl) ?_
  refine lv_iload hx hb dL_law_1207 (lv_at hl 5 rfl) ?_
  refine lv_iconst (v := nI 2) hx hb dL_law_1209 (by decide) ?_
  refine bm_nadd hx hb dL_law_1210 ?_
  refine bm_sld hx hb hXs hbl hbA hS (j := (3 + 2)) (by omega) (by omega) dL_law_1211 ?_
  refine bm_wcallV (As := [.int (xs (3 + 1)), .int (xs (3 + 2))]) (rest := []) ⟨hx, hb, hml, hown, hts⟩ (m_group) (cwV 2 hts (gdVL (by decide +kernel) (by decide +kernel) (by decide +kernel) (by decide +kernel) (by decide +kernel)) rfl rfl rfl (by decide +kernel) ⟨Nat.le_of_ble_eq_true rfl, Nat.le_of_ble_eq_true rfl⟩) hK hP hD hS hA 42 5 rfl rfl rfl hl.1 rfl (Nat.le_of_ble_eq_true rfl) dL_law_1212 ⟨Nat.le_of_ble_eq_true rfl, Nat.le_of_ble_eq_true rfl⟩ (fun H locs hP hD hS => ?_)
  have hP : va_P D vwCl (WW ad cJ cI cZ (bm.1, bm.2.1, bm.2.2.1, 0) (pa.1, pa.2.1, pa.2.2.1, pa.2.2.2.1, pa.2.2.2.2.1, pa.2.2.2.2.2.1, 0) p0 p1 p2 (li.1, li.2.1, li.2.2.1, li.2.2.2.1, li.2.2.2.2.1, li.2.2.2.2.2.1, li.2.2.2.2.2.2.1, li.2.2.2.2.2.2.2.1, 0, 0) (wi.1, wi.2.1, wi.2.2.1, wi.2.2.2.1, wi.2.2.2.2.1, wi.2.2.2.2.2.1, wi.2.2.2.2.2.2.1, wi.2.2.2.2.2.2.2.1, wi.2.2.2.2.2.2.2.2.1, 0, 0) (1) (ms.1, ms.2.1, 0, 0, 0, 0, 0, ms.2.2.2.2.2.2.2) ma mp mk mn ou) H := hP
  have hD : va_D A (WW ad cJ cI cZ (bm.1, bm.2.1, bm.2.2.1, 0) (pa.1, pa.2.1, pa.2.2.1, pa.2.2.2.1, pa.2.2.2.2.1, pa.2.2.2.2.2.1, 0) p0 p1 p2 (li.1, li.2.1, li.2.2.1, li.2.2.2.1, li.2.2.2.2.1, li.2.2.2.2.2.1, li.2.2.2.2.2.2.1, li.2.2.2.2.2.2.2.1, 0, 0) (wi.1, wi.2.1, wi.2.2.1, wi.2.2.2.1, wi.2.2.2.2.1, wi.2.2.2.2.2.1, wi.2.2.2.2.2.2.1, wi.2.2.2.2.2.2.2.1, wi.2.2.2.2.2.2.2.2.1, 0, 0) (1) (ms.1, ms.2.1, 0, 0, 0, 0, 0, ms.2.2.2.2.2.2.2) ma mp mk mn ou) := hD
  refine lv_istore (lv' := [(6, .int (nI 0)), (5, .int (nI 1)), (0, .ref b), (1, .ref (ad 0)), (2, .ref (ad 42)), (3, .ref (ad 62)), (4, .int (nI 3))]) hx hb dL_law_1215 hl (by decide) rfl (fun ls hl => ?_)
  refine lv_aload_n hx hb dL_law_1217 rfl (lv_at hl 4 rfl) ?_
  refine bm_rcallV (As := []) (rest := []) ⟨hx, hb, hml, hown, hts⟩ (m_thrown) (cwV 0 hts (gdVL (by decide +kernel) (by decide +kernel) (by decide +kernel) (by decide +kernel) (by decide +kernel)) rfl rfl rfl (by decide +kernel) ⟨Nat.le_of_ble_eq_true rfl, Nat.le_of_ble_eq_true rfl⟩) hK hP 42 5 rfl rfl rfl hl.1 rfl (Nat.le_of_ble_eq_true rfl) dL_law_1218 ⟨Nat.le_of_ble_eq_true rfl, Nat.le_of_ble_eq_true rfl⟩ ?_
  refine lv_iload hx hb dL_law_1221 (lv_at hl 1 rfl) ?_
  refine bm_ni_eq (x := 1) (y := 1) (tgt := 1228) hx hb (by decide) (by decide) dL_law_1223 (by decide) (fun c_1 => ?_) (fun c_1 => ?_)
  · refine lv_iload hx hb dL_law_1228 (lv_at hl 1 rfl) ?_
    refine bm_nz_ne (x := 1) (tgt := 1245) hx hb (by decide) dL_law_1230 (by decide) (fun c_2 => ?_) (fun c_2 => ?_)
    · refine lv_goto (tgt := 1705) hx hb dL_law_1245 (by decide) ?_
      exact v_end hL C0 hAn (Nat.le_of_ble_eq_true rfl) (Nat.le_of_ble_eq_true rfl) hS (lv_sub hl [6, 2] rfl)
    · exact absurd c_2 (by decide)
  · exact absurd c_1 (by decide)

set_option maxHeartbeats 8000000 in
set_option maxRecDepth 100000 in
theorem v_12 {p : Program} {l : Launch} {e : Env} {s : State} {m : MethodId} {below : List Frame} {meth : Method} {c : Code} {b L : Nat} {xs : Nat → Int32} (hlt : l.stackTraces = false) (hL : L = 14) (C0 : lw_At p s m meth c b L xs) (hX : bx_X xW s) (hZ : bx_S RX4 xS s) {A : Nat → Prop} (hA : ∀ q : Nat, s.heap.size ≤ q → A q) (hAn : ∀ q : Nat, q < s.heap.size → ¬ A q) {D : va_G} {ad : Nat → Nat} {cJ cI cZ : ClassId} {bm : gBM} {pa : gPA} {p0 p1 p2 : gPL} {li : gLI} {wi : gWI} {mt : Nat} {ms : gMS} {ma : gMA} {mp : gMP} {mk : gMK} {mn : gMN} {ou : Nat → Int64}  {H : Heap} {locs : List Loc} (hK : va_K D vwCl [(cJ, .long), (cI, .int), (cZ, .boolean)] s) (hP : va_P D vwCl (WW ad cJ cI cZ (bm.1, bm.2.1, bm.2.2.1, 0) (pa.1, pa.2.1, pa.2.2.1, pa.2.2.2.1, pa.2.2.2.2.1, pa.2.2.2.2.2.1, 0) p0 p1 p2 (li.1, li.2.1, li.2.2.1, li.2.2.2.1, li.2.2.2.2.1, li.2.2.2.2.2.1, li.2.2.2.2.2.2.1, li.2.2.2.2.2.2.2.1, 0, 0) (wi.1, wi.2.1, wi.2.2.1, wi.2.2.2.1, wi.2.2.2.2.1, wi.2.2.2.2.2.1, wi.2.2.2.2.2.2.1, wi.2.2.2.2.2.2.2.1, wi.2.2.2.2.2.2.2.2.1, 0, 0) mt (ms.1, ms.2.1, 0, 0, 0, 0, 0, ms.2.2.2.2.2.2.2) ma mp mk mn ou) H) (hD : va_D A (WW ad cJ cI cZ (bm.1, bm.2.1, bm.2.2.1, 0) (pa.1, pa.2.1, pa.2.2.1, pa.2.2.2.1, pa.2.2.2.2.1, pa.2.2.2.2.2.1, 0) p0 p1 p2 (li.1, li.2.1, li.2.2.1, li.2.2.2.1, li.2.2.2.2.1, li.2.2.2.2.2.1, li.2.2.2.2.2.2.1, li.2.2.2.2.2.2.2.1, 0, 0) (wi.1, wi.2.1, wi.2.2.1, wi.2.2.2.1, wi.2.2.2.2.1, wi.2.2.2.2.2.1, wi.2.2.2.2.2.2.1, wi.2.2.2.2.2.2.2.1, wi.2.2.2.2.2.2.2.2.1, 0, 0) mt (ms.1, ms.2.1, 0, 0, 0, 0, 0, ms.2.2.2.2.2.2.2) ma mp mk mn ou)) (hS : va_S A s.heap H locs) {ls : Array Slot} (hl : lv_has ls 8 [(0, .ref b), (1, .ref (ad 0)), (2, .ref (ad 42)), (3, .ref (ad 62)), (4, .int (nI 3))]) : W p l e room_1 s m #[Value.ref b] below meth c H locs 63 2864 (lw_Z below #[Value.ref b] s) (F0 m 1248 ls []) := by
  obtain ⟨hx, hb, hr, hml, hown, hts, hXs, hbl, hlocks, hgv⟩ := id C0
  have hbA := hAn b hbl
  refine lv_aload_n hx hb dL_law_1248 rfl (lv_at hl 1 rfl) ?_
  refine lv_aload_n hx hb dL_law_1249 rfl (lv_at hl 0 rfl) ?_
  refine lv_iload hx hb dL_law_1250 (lv_at hl 4 rfl) ?_
  refine lv_iconst (v := nI 1) hx hb dL_law_1252 (by decide) ?_
  refine bm_nadd hx hb dL_law_1253 ?_
  refine bm_sld hx hb hXs hbl hbA hS (j := (3 + 1)) (by omega) (by omega) dL_law_1254 ?_
  refine lv_aload_n hx hb dL_law_1255 rfl (lv_at hl 0 rfl) ?_
  refine lv_iload hx hb dL_law_1256 (lv_at hl 4 rfl) ?_
  refine lv_iconst (v := nI 2) hx hb dL_law_1258 (by decide) ?_
  refine bm_nadd hx hb dL_law_1259 ?_
  refine bm_sld hx hb hXs hbl hbA hS (j := (3 + 2)) (by omega) (by omega) dL_law_1260 ?_
  refine lv_i2l (v := (xs (3 + 2)).toInt64) hx hb dL_law_1261 rfl ?_
  refine lv_bipush (v := nI 32) hx hb dL_law_1262 (by decide) ?_
  refine lv_lshl (v := ((xs (3 + 2)).toInt64) <<< ((nI 32).toInt64 &&& 63)) hx hb dL_law_1264 rfl ?_
  refine lv_aload_n hx hb dL_law_1265 rfl (lv_at hl 0 rfl) ?_
  refine lv_iload hx hb dL_law_1266 (lv_at hl 4 rfl) ?_
  refine lv_iconst (v := nI 3) hx hb dL_law_1268 (by decide) ?_
  refine bm_nadd hx hb dL_law_1269 ?_
  refine bm_sld hx hb hXs hbl hbA hS (j := (3 + 3)) (by omega) (by omega) dL_law_1270 ?_
  refine lv_i2l (v := (xs (3 + 3)).toInt64) hx hb dL_law_1271 rfl ?_
  refine lv_ldc2 (v := 4294967295) hx hb hown (hts (.constantLong RL 75 4294967295) (by decide +kernel)) dL_law_1272 ?_
  refine lv_land hx hb dL_law_1275 ?_
  refine lv_lor hx hb dL_law_1276 ?_
  refine lv_aload_n hx hb dL_law_1277 rfl (lv_at hl 3 rfl) ?_
  refine bx_hcallS (n := 4) (As := [.ref (ad 0), .int (xs (3 + 1)), .long ((((xs (3 + 2)).toInt64) <<< ((nI 32).toInt64 &&& 63)) ||| (((xs (3 + 3)).toInt64) &&& 4294967295)), .ref (ad 62)]) (rest := []) ⟨hx, hb, hml, hown, hts⟩ ((h_height hlt) H.size) rfl rfl (Nat.le_of_ble_eq_true rfl) (Nat.le_of_ble_eq_true rfl) (gdH (by decide +kernel)) (by decide +kernel) rfl hK hP hD hS hA hX hZ hAn rfl hl.1 rfl (Nat.le_of_ble_eq_true rfl) dL_law_1278 ⟨Nat.le_of_ble_eq_true rfl, Nat.le_of_ble_eq_true rfl⟩ (fun H locs hP hD hS => ?_)
  have hP : va_P D vwCl (WW ad cJ cI cZ (bm.1, bm.2.1, bm.2.2.1, 0) (pa.1, pa.2.1, pa.2.2.1, pa.2.2.2.1, pa.2.2.2.2.1, pa.2.2.2.2.2.1, 0) p0 p1 p2 (li.1, li.2.1, li.2.2.1, li.2.2.2.1, li.2.2.2.2.1, li.2.2.2.2.2.1, li.2.2.2.2.2.2.1, li.2.2.2.2.2.2.2.1, 0, 0) (wi.1, wi.2.1, wi.2.2.1, wi.2.2.2.1, wi.2.2.2.2.1, wi.2.2.2.2.2.1, wi.2.2.2.2.2.2.1, wi.2.2.2.2.2.2.2.1, wi.2.2.2.2.2.2.2.2.1, 0, 0) mt (ms.1, ms.2.1, 0, 0, 0, 0, 0, ms.2.2.2.2.2.2.2) ma mp mk mn ou) H := hP
  have hD : va_D A (WW ad cJ cI cZ (bm.1, bm.2.1, bm.2.2.1, 0) (pa.1, pa.2.1, pa.2.2.1, pa.2.2.2.1, pa.2.2.2.2.1, pa.2.2.2.2.2.1, 0) p0 p1 p2 (li.1, li.2.1, li.2.2.1, li.2.2.2.1, li.2.2.2.2.1, li.2.2.2.2.2.1, li.2.2.2.2.2.2.1, li.2.2.2.2.2.2.2.1, 0, 0) (wi.1, wi.2.1, wi.2.2.1, wi.2.2.2.1, wi.2.2.2.2.1, wi.2.2.2.2.2.1, wi.2.2.2.2.2.2.1, wi.2.2.2.2.2.2.2.1, wi.2.2.2.2.2.2.2.2.1, 0, 0) mt (ms.1, ms.2.1, 0, 0, 0, 0, 0, ms.2.2.2.2.2.2.2) ma mp mk mn ou) := hD
  refine lv_istore (lv' := [(5, .int (nI 1)), (0, .ref b), (1, .ref (ad 0)), (2, .ref (ad 42)), (3, .ref (ad 62)), (4, .int (nI 3))]) hx hb dL_law_1281 hl (by decide) rfl (fun ls hl => ?_)
  refine lv_aload_n hx hb dL_law_1283 rfl (lv_at hl 3 rfl) ?_
  refine lv_aload_n hx hb dL_law_1284 rfl (lv_at hl 1 rfl) ?_
  refine lv_iload hx hb dL_law_1285 (lv_at hl 5 rfl) ?_
  refine lv_iconst (v := nI 1) hx hb dL_law_1287 (by decide) ?_
  refine bm_nadd hx hb dL_law_1288 ?_
  refine bm_sld hx hb hXs hbl hbA hS (j := (3 + 1)) (by omega) (by omega) dL_law_1289 ?_
  refine lv_aload_n hx hb dL_law_1290 rfl (lv_at hl 1 rfl) ?_
  refine lv_iload hx hb dL_law_1291 (lv_at hl 5 rfl) ?_
  refine lv_iconst (v := nI 2) hx hb dL_law_1293 (by decide) ?_
  refine bm_nadd hx hb dL_law_1294 ?_
  refine bm_sld hx hb hXs hbl hbA hS (j := (3 + 2)) (by omega) (by omega) dL_law_1295 ?_
  refine lv_i2l (v := (xs (3 + 2)).toInt64) hx hb dL_law_1296 rfl ?_
  refine lv_bipush (v := nI 32) hx hb dL_law_1297 (by decide) ?_
  refine lv_lshl (v := ((xs (3 + 2)).toInt64) <<< ((nI 32).toInt64 &&& 63)) hx hb dL_law_1299 rfl ?_
  refine lv_aload_n hx hb dL_law_1300 rfl (lv_at hl 1 rfl) ?_
  refine lv_iload hx hb dL_law_1301 (lv_at hl 5 rfl) ?_
  refine lv_iconst (v := nI 3) hx hb dL_law_1303 (by decide) ?_
  refine bm_nadd hx hb dL_law_1304 ?_
  refine bm_sld hx hb hXs hbl hbA hS (j := (3 + 3)) (by omega) (by omega) dL_law_1305 ?_
  refine lv_i2l (v := (xs (3 + 3)).toInt64) hx hb dL_law_1306 rfl ?_
  refine lv_ldc2 (v := 4294967295) hx hb hown (hts (.constantLong RL 75 4294967295) (by decide +kernel)) dL_law_1307 ?_
  refine lv_land hx hb dL_law_1310 ?_
  refine lv_lor hx hb dL_law_1311 ?_
  refine bm_wcallV (As := [.int (xs (3 + 1)), .long ((((xs (3 + 2)).toInt64) <<< ((nI 32).toInt64 &&& 63)) ||| (((xs (3 + 3)).toInt64) &&& 4294967295))]) (rest := []) ⟨hx, hb, hml, hown, hts⟩ (m_height) (cwV 2 hts (gdVL (by decide +kernel) (by decide +kernel) (by decide +kernel) (by decide +kernel) (by decide +kernel)) rfl rfl rfl (by decide +kernel) ⟨Nat.le_of_ble_eq_true rfl, Nat.le_of_ble_eq_true rfl⟩) hK hP hD hS hA 42 5 rfl rfl rfl hl.1 rfl (Nat.le_of_ble_eq_true rfl) dL_law_1312 ⟨Nat.le_of_ble_eq_true rfl, Nat.le_of_ble_eq_true rfl⟩ (fun H locs hP hD hS => ?_)
  have hP : va_P D vwCl (WW ad cJ cI cZ (bm.1, bm.2.1, bm.2.2.1, 0) (pa.1, pa.2.1, pa.2.2.1, pa.2.2.2.1, pa.2.2.2.2.1, pa.2.2.2.2.2.1, 0) p0 p1 p2 (li.1, li.2.1, li.2.2.1, li.2.2.2.1, li.2.2.2.2.1, li.2.2.2.2.2.1, li.2.2.2.2.2.2.1, li.2.2.2.2.2.2.2.1, 0, 0) (wi.1, wi.2.1, wi.2.2.1, wi.2.2.2.1, wi.2.2.2.2.1, wi.2.2.2.2.2.1, wi.2.2.2.2.2.2.1, wi.2.2.2.2.2.2.2.1, wi.2.2.2.2.2.2.2.2.1, 0, 0) (1) (ms.1, ms.2.1, 0, 0, 0, 0, 0, ms.2.2.2.2.2.2.2) ma mp mk mn ou) H := hP
  have hD : va_D A (WW ad cJ cI cZ (bm.1, bm.2.1, bm.2.2.1, 0) (pa.1, pa.2.1, pa.2.2.1, pa.2.2.2.1, pa.2.2.2.2.1, pa.2.2.2.2.2.1, 0) p0 p1 p2 (li.1, li.2.1, li.2.2.1, li.2.2.2.1, li.2.2.2.2.1, li.2.2.2.2.2.1, li.2.2.2.2.2.2.1, li.2.2.2.2.2.2.2.1, 0, 0) (wi.1, wi.2.1, wi.2.2.1, wi.2.2.2.1, wi.2.2.2.2.1, wi.2.2.2.2.2.1, wi.2.2.2.2.2.2.1, wi.2.2.2.2.2.2.2.1, wi.2.2.2.2.2.2.2.2.1, 0, 0) (1) (ms.1, ms.2.1, 0, 0, 0, 0, 0, ms.2.2.2.2.2.2.2) ma mp mk mn ou) := hD
  refine lv_istore (lv' := [(6, .int (bm_b false)), (5, .int (nI 1)), (0, .ref b), (1, .ref (ad 0)), (2, .ref (ad 42)), (3, .ref (ad 62)), (4, .int (nI 3))]) hx hb dL_law_1315 hl (by decide) rfl (fun ls hl => ?_)
  refine lv_aload_n hx hb dL_law_1317 rfl (lv_at hl 4 rfl) ?_
  refine bm_rcallV (As := []) (rest := []) ⟨hx, hb, hml, hown, hts⟩ (m_thrown) (cwV 0 hts (gdVL (by decide +kernel) (by decide +kernel) (by decide +kernel) (by decide +kernel) (by decide +kernel)) rfl rfl rfl (by decide +kernel) ⟨Nat.le_of_ble_eq_true rfl, Nat.le_of_ble_eq_true rfl⟩) hK hP 42 5 rfl rfl rfl hl.1 rfl (Nat.le_of_ble_eq_true rfl) dL_law_1318 ⟨Nat.le_of_ble_eq_true rfl, Nat.le_of_ble_eq_true rfl⟩ ?_
  refine lv_iload hx hb dL_law_1321 (lv_at hl 1 rfl) ?_
  refine bm_ni_eq (x := 1) (y := 1) (tgt := 1328) hx hb (by decide) (by decide) dL_law_1323 (by decide) (fun c_1 => ?_) (fun c_1 => ?_)
  · refine lv_iload hx hb dL_law_1328 (lv_at hl 1 rfl) ?_
    refine bm_nz_ne (x := 1) (tgt := 1352) hx hb (by decide) dL_law_1330 (by decide) (fun c_2 => ?_) (fun c_2 => ?_)
    · refine lv_goto (tgt := 1705) hx hb dL_law_1352 (by decide) ?_
      exact v_end hL C0 hAn (Nat.le_of_ble_eq_true rfl) (Nat.le_of_ble_eq_true rfl) hS (lv_sub hl [6, 2] rfl)
    · exact absurd c_2 (by decide)
  · exact absurd c_1 (by decide)

set_option maxHeartbeats 8000000 in
set_option maxRecDepth 100000 in
theorem v_13x {p : Program} {l : Launch} {e : Env} {s : State} {m : MethodId} {below : List Frame} {meth : Method} {c : Code} {b L : Nat} {xs : Nat → Int32} (hlt : l.stackTraces = false) (hL : L = 14) (C0 : lw_At p s m meth c b L xs) (hX : bx_X xW s) (hZ : bx_S RX4 xS s) {A : Nat → Prop} (hA : ∀ q : Nat, s.heap.size ≤ q → A q) (hAn : ∀ q : Nat, q < s.heap.size → ¬ A q) {D : va_G} {ad : Nat → Nat} {cJ cI cZ : ClassId} {bm : gBM} {pa : gPA} {p0 p1 p2 : gPL} {li : gLI} {wi : gWI} {mt : Nat} {ms : gMS} {ma : gMA} {mp : gMP} {mk : gMK} {mn : gMN} {ou : Nat → Int64} (hv : (((xs (3 + 9)).toInt64 <<< ((nI 32).toInt64 &&& 63)) ||| ((xs (3 + 10)).toInt64 &&& 4294967295)) < 0) {H : Heap} {locs : List Loc} (hK : va_K D vwCl [(cJ, .long), (cI, .int), (cZ, .boolean)] s) (hP : va_P D vwCl (WW ad cJ cI cZ (bm.1, bm.2.1, bm.2.2.1, 0) (pa.1, pa.2.1, pa.2.2.1, pa.2.2.2.1, pa.2.2.2.2.1, pa.2.2.2.2.2.1, 0) p0 p1 p2 (li.1, li.2.1, li.2.2.1, li.2.2.2.1, li.2.2.2.2.1, li.2.2.2.2.2.1, li.2.2.2.2.2.2.1, li.2.2.2.2.2.2.2.1, 0, 0) (wi.1, wi.2.1, wi.2.2.1, wi.2.2.2.1, wi.2.2.2.2.1, wi.2.2.2.2.2.1, wi.2.2.2.2.2.2.1, wi.2.2.2.2.2.2.2.1, wi.2.2.2.2.2.2.2.2.1, 0, 0) mt (ms.1, ms.2.1, 0, 0, 0, 0, 0, ms.2.2.2.2.2.2.2) ma mp mk mn ou) H) (hD : va_D A (WW ad cJ cI cZ (bm.1, bm.2.1, bm.2.2.1, 0) (pa.1, pa.2.1, pa.2.2.1, pa.2.2.2.1, pa.2.2.2.2.1, pa.2.2.2.2.2.1, 0) p0 p1 p2 (li.1, li.2.1, li.2.2.1, li.2.2.2.1, li.2.2.2.2.1, li.2.2.2.2.2.1, li.2.2.2.2.2.2.1, li.2.2.2.2.2.2.2.1, 0, 0) (wi.1, wi.2.1, wi.2.2.1, wi.2.2.2.1, wi.2.2.2.2.1, wi.2.2.2.2.2.1, wi.2.2.2.2.2.2.1, wi.2.2.2.2.2.2.2.1, wi.2.2.2.2.2.2.2.2.1, 0, 0) mt (ms.1, ms.2.1, 0, 0, 0, 0, 0, ms.2.2.2.2.2.2.2) ma mp mk mn ou)) (hS : va_S A s.heap H locs) {ls : Array Slot} (hl : lv_has ls 8 [(0, .ref b), (1, .ref (ad 0)), (2, .ref (ad 42)), (3, .ref (ad 62)), (4, .int (nI 3))]) : W p l e room_1 s m #[Value.ref b] below meth c H locs 63 2864 (lw_Z below #[Value.ref b] s) (F0 m 1355 ls []) := by
  obtain ⟨hx, hb, hr, hml, hown, hts, hXs, hbl, hlocks, hgv⟩ := id C0
  have hbA := hAn b hbl
  refine lv_aload_n hx hb dL_law_1355 rfl (lv_at hl 1 rfl) ?_
  refine lv_aload_n hx hb dL_law_1356 rfl (lv_at hl 0 rfl) ?_
  refine lv_iload hx hb dL_law_1357 (lv_at hl 4 rfl) ?_
  refine lv_iconst (v := nI 1) hx hb dL_law_1359 (by decide) ?_
  refine bm_nadd hx hb dL_law_1360 ?_
  refine bm_sld hx hb hXs hbl hbA hS (j := (3 + 1)) (by omega) (by omega) dL_law_1361 ?_
  refine lv_i2l (v := (xs (3 + 1)).toInt64) hx hb dL_law_1362 rfl ?_
  refine lv_bipush (v := nI 32) hx hb dL_law_1363 (by decide) ?_
  refine lv_lshl (v := ((xs (3 + 1)).toInt64) <<< ((nI 32).toInt64 &&& 63)) hx hb dL_law_1365 rfl ?_
  refine lv_aload_n hx hb dL_law_1366 rfl (lv_at hl 0 rfl) ?_
  refine lv_iload hx hb dL_law_1367 (lv_at hl 4 rfl) ?_
  refine lv_iconst (v := nI 2) hx hb dL_law_1369 (by decide) ?_
  refine bm_nadd hx hb dL_law_1370 ?_
  refine bm_sld hx hb hXs hbl hbA hS (j := (3 + 2)) (by omega) (by omega) dL_law_1371 ?_
  refine lv_i2l (v := (xs (3 + 2)).toInt64) hx hb dL_law_1372 rfl ?_
  refine lv_ldc2 (v := 4294967295) hx hb hown (hts (.constantLong RL 75 4294967295) (by decide +kernel)) dL_law_1373 ?_
  refine lv_land hx hb dL_law_1376 ?_
  refine lv_lor hx hb dL_law_1377 ?_
  refine lv_aload_n hx hb dL_law_1378 rfl (lv_at hl 0 rfl) ?_
  refine lv_iload hx hb dL_law_1379 (lv_at hl 4 rfl) ?_
  refine lv_iconst (v := nI 3) hx hb dL_law_1381 (by decide) ?_
  refine bm_nadd hx hb dL_law_1382 ?_
  refine bm_sld hx hb hXs hbl hbA hS (j := (3 + 3)) (by omega) (by omega) dL_law_1383 ?_
  refine lv_i2l (v := (xs (3 + 3)).toInt64) hx hb dL_law_1384 rfl ?_
  refine lv_bipush (v := nI 32) hx hb dL_law_1385 (by decide) ?_
  refine lv_lshl (v := ((xs (3 + 3)).toInt64) <<< ((nI 32).toInt64 &&& 63)) hx hb dL_law_1387 rfl ?_
  refine lv_aload_n hx hb dL_law_1388 rfl (lv_at hl 0 rfl) ?_
  refine lv_iload hx hb dL_law_1389 (lv_at hl 4 rfl) ?_
  refine lv_iconst (v := nI 4) hx hb dL_law_1391 (by decide) ?_
  refine bm_nadd hx hb dL_law_1392 ?_
  refine bm_sld hx hb hXs hbl hbA hS (j := (3 + 4)) (by omega) (by omega) dL_law_1393 ?_
  refine lv_i2l (v := (xs (3 + 4)).toInt64) hx hb dL_law_1394 rfl ?_
  refine lv_ldc2 (v := 4294967295) hx hb hown (hts (.constantLong RL 75 4294967295) (by decide +kernel)) dL_law_1395 ?_
  refine lv_land hx hb dL_law_1398 ?_
  refine lv_lor hx hb dL_law_1399 ?_
  refine lv_aload_n hx hb dL_law_1400 rfl (lv_at hl 0 rfl) ?_
  refine lv_iload hx hb dL_law_1401 (lv_at hl 4 rfl) ?_
  refine lv_iconst (v := nI 5) hx hb dL_law_1403 (by decide) ?_
  refine bm_nadd hx hb dL_law_1404 ?_
  refine bm_sld hx hb hXs hbl hbA hS (j := (3 + 5)) (by omega) (by omega) dL_law_1405 ?_
  refine lv_i2l (v := (xs (3 + 5)).toInt64) hx hb dL_law_1406 rfl ?_
  refine lv_bipush (v := nI 32) hx hb dL_law_1407 (by decide) ?_
  refine lv_lshl (v := ((xs (3 + 5)).toInt64) <<< ((nI 32).toInt64 &&& 63)) hx hb dL_law_1409 rfl ?_
  refine lv_aload_n hx hb dL_law_1410 rfl (lv_at hl 0 rfl) ?_
  refine lv_iload hx hb dL_law_1411 (lv_at hl 4 rfl) ?_
  refine lv_bipush (v := nI 6) hx hb dL_law_1413 (by decide) ?_
  refine bm_nadd hx hb dL_law_1415 ?_
  refine bm_sld hx hb hXs hbl hbA hS (j := (3 + 6)) (by omega) (by omega) dL_law_1416 ?_
  refine lv_i2l (v := (xs (3 + 6)).toInt64) hx hb dL_law_1417 rfl ?_
  refine lv_ldc2 (v := 4294967295) hx hb hown (hts (.constantLong RL 75 4294967295) (by decide +kernel)) dL_law_1418 ?_
  refine lv_land hx hb dL_law_1421 ?_
  refine lv_lor hx hb dL_law_1422 ?_
  refine lv_aload_n hx hb dL_law_1423 rfl (lv_at hl 0 rfl) ?_
  refine lv_iload hx hb dL_law_1424 (lv_at hl 4 rfl) ?_
  refine lv_bipush (v := nI 7) hx hb dL_law_1426 (by decide) ?_
  refine bm_nadd hx hb dL_law_1428 ?_
  refine bm_sld hx hb hXs hbl hbA hS (j := (3 + 7)) (by omega) (by omega) dL_law_1429 ?_
  refine lv_i2l (v := (xs (3 + 7)).toInt64) hx hb dL_law_1430 rfl ?_
  refine lv_bipush (v := nI 32) hx hb dL_law_1431 (by decide) ?_
  refine lv_lshl (v := ((xs (3 + 7)).toInt64) <<< ((nI 32).toInt64 &&& 63)) hx hb dL_law_1433 rfl ?_
  refine lv_aload_n hx hb dL_law_1434 rfl (lv_at hl 0 rfl) ?_
  refine lv_iload hx hb dL_law_1435 (lv_at hl 4 rfl) ?_
  refine lv_bipush (v := nI 8) hx hb dL_law_1437 (by decide) ?_
  refine bm_nadd hx hb dL_law_1439 ?_
  refine bm_sld hx hb hXs hbl hbA hS (j := (3 + 8)) (by omega) (by omega) dL_law_1440 ?_
  refine lv_i2l (v := (xs (3 + 8)).toInt64) hx hb dL_law_1441 rfl ?_
  refine lv_ldc2 (v := 4294967295) hx hb hown (hts (.constantLong RL 75 4294967295) (by decide +kernel)) dL_law_1442 ?_
  refine lv_land hx hb dL_law_1445 ?_
  refine lv_lor hx hb dL_law_1446 ?_
  refine lv_aload_n hx hb dL_law_1447 rfl (lv_at hl 0 rfl) ?_
  refine lv_iload hx hb dL_law_1448 (lv_at hl 4 rfl) ?_
  refine lv_bipush (v := nI 9) hx hb dL_law_1450 (by decide) ?_
  refine bm_nadd hx hb dL_law_1452 ?_
  refine bm_sld hx hb hXs hbl hbA hS (j := (3 + 9)) (by omega) (by omega) dL_law_1453 ?_
  refine lv_i2l (v := (xs (3 + 9)).toInt64) hx hb dL_law_1454 rfl ?_
  refine lv_bipush (v := nI 32) hx hb dL_law_1455 (by decide) ?_
  refine lv_lshl (v := ((xs (3 + 9)).toInt64) <<< ((nI 32).toInt64 &&& 63)) hx hb dL_law_1457 rfl ?_
  refine lv_aload_n hx hb dL_law_1458 rfl (lv_at hl 0 rfl) ?_
  refine lv_iload hx hb dL_law_1459 (lv_at hl 4 rfl) ?_
  refine lv_bipush (v := nI 10) hx hb dL_law_1461 (by decide) ?_
  refine bm_nadd hx hb dL_law_1463 ?_
  refine bm_sld hx hb hXs hbl hbA hS (j := (3 + 10)) (by omega) (by omega) dL_law_1464 ?_
  refine lv_i2l (v := (xs (3 + 10)).toInt64) hx hb dL_law_1465 rfl ?_
  refine lv_ldc2 (v := 4294967295) hx hb hown (hts (.constantLong RL 75 4294967295) (by decide +kernel)) dL_law_1466 ?_
  refine lv_land hx hb dL_law_1469 ?_
  refine lv_lor hx hb dL_law_1470 ?_
  refine lv_aload_n hx hb dL_law_1471 rfl (lv_at hl 3 rfl) ?_
  refine bx_hcallS (n := 7) (As := [.ref (ad 0), .long ((((xs (3 + 1)).toInt64) <<< ((nI 32).toInt64 &&& 63)) ||| (((xs (3 + 2)).toInt64) &&& 4294967295)), .long ((((xs (3 + 3)).toInt64) <<< ((nI 32).toInt64 &&& 63)) ||| (((xs (3 + 4)).toInt64) &&& 4294967295)), .long ((((xs (3 + 5)).toInt64) <<< ((nI 32).toInt64 &&& 63)) ||| (((xs (3 + 6)).toInt64) &&& 4294967295)), .long ((((xs (3 + 7)).toInt64) <<< ((nI 32).toInt64 &&& 63)) ||| (((xs (3 + 8)).toInt64) &&& 4294967295)), .long ((((xs (3 + 9)).toInt64) <<< ((nI 32).toInt64 &&& 63)) ||| (((xs (3 + 10)).toInt64) &&& 4294967295)), .ref (ad 62)]) (rest := []) ⟨hx, hb, hml, hown, hts⟩ ((h_koX hlt hv) H.size) rfl rfl (Nat.le_of_ble_eq_true rfl) (Nat.le_of_ble_eq_true rfl) (gdH (by decide +kernel)) (by decide +kernel) rfl hK hP hD hS hA hX hZ hAn rfl hl.1 rfl (Nat.le_of_ble_eq_true rfl) dL_law_1472 ⟨Nat.le_of_ble_eq_true rfl, Nat.le_of_ble_eq_true rfl⟩ (fun H locs hP hD hS => ?_)
  have hP : va_P D vwCl (WW ad cJ cI cZ (bm.1, bm.2.1, bm.2.2.1, 0) (pa.1, pa.2.1, pa.2.2.1, pa.2.2.2.1, pa.2.2.2.2.1, pa.2.2.2.2.2.1, 0) p0 p1 p2 (li.1, li.2.1, li.2.2.1, li.2.2.2.1, li.2.2.2.2.1, li.2.2.2.2.2.1, li.2.2.2.2.2.2.1, li.2.2.2.2.2.2.2.1, 0, 0) (wi.1, wi.2.1, wi.2.2.1, wi.2.2.2.1, wi.2.2.2.2.1, wi.2.2.2.2.2.1, wi.2.2.2.2.2.2.1, wi.2.2.2.2.2.2.2.1, wi.2.2.2.2.2.2.2.2.1, 0, 0) mt (ms.1, ms.2.1, 0, 0, 0, 0, 0, ms.2.2.2.2.2.2.2) ma mp mk mn ou) H := hP
  have hD : va_D A (WW ad cJ cI cZ (bm.1, bm.2.1, bm.2.2.1, 0) (pa.1, pa.2.1, pa.2.2.1, pa.2.2.2.1, pa.2.2.2.2.1, pa.2.2.2.2.2.1, 0) p0 p1 p2 (li.1, li.2.1, li.2.2.1, li.2.2.2.1, li.2.2.2.2.1, li.2.2.2.2.2.1, li.2.2.2.2.2.2.1, li.2.2.2.2.2.2.2.1, 0, 0) (wi.1, wi.2.1, wi.2.2.1, wi.2.2.2.1, wi.2.2.2.2.1, wi.2.2.2.2.2.1, wi.2.2.2.2.2.2.1, wi.2.2.2.2.2.2.2.1, wi.2.2.2.2.2.2.2.2.1, 0, 0) mt (ms.1, ms.2.1, 0, 0, 0, 0, 0, ms.2.2.2.2.2.2.2) ma mp mk mn ou) := hD
  refine lv_istore (lv' := [(5, .int (nI 1)), (0, .ref b), (1, .ref (ad 0)), (2, .ref (ad 42)), (3, .ref (ad 62)), (4, .int (nI 3))]) hx hb dL_law_1475 hl (by decide) rfl (fun ls hl => ?_)
  refine lv_aload_n hx hb dL_law_1477 rfl (lv_at hl 3 rfl) ?_
  refine lv_aload_n hx hb dL_law_1478 rfl (lv_at hl 1 rfl) ?_
  refine lv_iload hx hb dL_law_1479 (lv_at hl 5 rfl) ?_
  refine lv_iconst (v := nI 1) hx hb dL_law_1481 (by decide) ?_
  refine bm_nadd hx hb dL_law_1482 ?_
  refine bm_sld hx hb hXs hbl hbA hS (j := (3 + 1)) (by omega) (by omega) dL_law_1483 ?_
  refine lv_i2l (v := (xs (3 + 1)).toInt64) hx hb dL_law_1484 rfl ?_
  refine lv_bipush (v := nI 32) hx hb dL_law_1485 (by decide) ?_
  refine lv_lshl (v := ((xs (3 + 1)).toInt64) <<< ((nI 32).toInt64 &&& 63)) hx hb dL_law_1487 rfl ?_
  refine lv_aload_n hx hb dL_law_1488 rfl (lv_at hl 1 rfl) ?_
  refine lv_iload hx hb dL_law_1489 (lv_at hl 5 rfl) ?_
  refine lv_iconst (v := nI 2) hx hb dL_law_1491 (by decide) ?_
  refine bm_nadd hx hb dL_law_1492 ?_
  refine bm_sld hx hb hXs hbl hbA hS (j := (3 + 2)) (by omega) (by omega) dL_law_1493 ?_
  refine lv_i2l (v := (xs (3 + 2)).toInt64) hx hb dL_law_1494 rfl ?_
  refine lv_ldc2 (v := 4294967295) hx hb hown (hts (.constantLong RL 75 4294967295) (by decide +kernel)) dL_law_1495 ?_
  refine lv_land hx hb dL_law_1498 ?_
  refine lv_lor hx hb dL_law_1499 ?_
  refine lv_aload_n hx hb dL_law_1500 rfl (lv_at hl 1 rfl) ?_
  refine lv_iload hx hb dL_law_1501 (lv_at hl 5 rfl) ?_
  refine lv_iconst (v := nI 3) hx hb dL_law_1503 (by decide) ?_
  refine bm_nadd hx hb dL_law_1504 ?_
  refine bm_sld hx hb hXs hbl hbA hS (j := (3 + 3)) (by omega) (by omega) dL_law_1505 ?_
  refine lv_i2l (v := (xs (3 + 3)).toInt64) hx hb dL_law_1506 rfl ?_
  refine lv_bipush (v := nI 32) hx hb dL_law_1507 (by decide) ?_
  refine lv_lshl (v := ((xs (3 + 3)).toInt64) <<< ((nI 32).toInt64 &&& 63)) hx hb dL_law_1509 rfl ?_
  refine lv_aload_n hx hb dL_law_1510 rfl (lv_at hl 1 rfl) ?_
  refine lv_iload hx hb dL_law_1511 (lv_at hl 5 rfl) ?_
  refine lv_iconst (v := nI 4) hx hb dL_law_1513 (by decide) ?_
  refine bm_nadd hx hb dL_law_1514 ?_
  refine bm_sld hx hb hXs hbl hbA hS (j := (3 + 4)) (by omega) (by omega) dL_law_1515 ?_
  refine lv_i2l (v := (xs (3 + 4)).toInt64) hx hb dL_law_1516 rfl ?_
  refine lv_ldc2 (v := 4294967295) hx hb hown (hts (.constantLong RL 75 4294967295) (by decide +kernel)) dL_law_1517 ?_
  refine lv_land hx hb dL_law_1520 ?_
  refine lv_lor hx hb dL_law_1521 ?_
  refine lv_aload_n hx hb dL_law_1522 rfl (lv_at hl 1 rfl) ?_
  refine lv_iload hx hb dL_law_1523 (lv_at hl 5 rfl) ?_
  refine lv_iconst (v := nI 5) hx hb dL_law_1525 (by decide) ?_
  refine bm_nadd hx hb dL_law_1526 ?_
  refine bm_sld hx hb hXs hbl hbA hS (j := (3 + 5)) (by omega) (by omega) dL_law_1527 ?_
  refine lv_i2l (v := (xs (3 + 5)).toInt64) hx hb dL_law_1528 rfl ?_
  refine lv_bipush (v := nI 32) hx hb dL_law_1529 (by decide) ?_
  refine lv_lshl (v := ((xs (3 + 5)).toInt64) <<< ((nI 32).toInt64 &&& 63)) hx hb dL_law_1531 rfl ?_
  refine lv_aload_n hx hb dL_law_1532 rfl (lv_at hl 1 rfl) ?_
  refine lv_iload hx hb dL_law_1533 (lv_at hl 5 rfl) ?_
  refine lv_bipush (v := nI 6) hx hb dL_law_1535 (by decide) ?_
  refine bm_nadd hx hb dL_law_1537 ?_
  refine bm_sld hx hb hXs hbl hbA hS (j := (3 + 6)) (by omega) (by omega) dL_law_1538 ?_
  refine lv_i2l (v := (xs (3 + 6)).toInt64) hx hb dL_law_1539 rfl ?_
  refine lv_ldc2 (v := 4294967295) hx hb hown (hts (.constantLong RL 75 4294967295) (by decide +kernel)) dL_law_1540 ?_
  refine lv_land hx hb dL_law_1543 ?_
  refine lv_lor hx hb dL_law_1544 ?_
  refine lv_aload_n hx hb dL_law_1545 rfl (lv_at hl 1 rfl) ?_
  refine lv_iload hx hb dL_law_1546 (lv_at hl 5 rfl) ?_
  refine lv_bipush (v := nI 7) hx hb dL_law_1548 (by decide) ?_
  refine bm_nadd hx hb dL_law_1550 ?_
  refine bm_sld hx hb hXs hbl hbA hS (j := (3 + 7)) (by omega) (by omega) dL_law_1551 ?_
  refine lv_i2l (v := (xs (3 + 7)).toInt64) hx hb dL_law_1552 rfl ?_
  refine lv_bipush (v := nI 32) hx hb dL_law_1553 (by decide) ?_
  refine lv_lshl (v := ((xs (3 + 7)).toInt64) <<< ((nI 32).toInt64 &&& 63)) hx hb dL_law_1555 rfl ?_
  refine lv_aload_n hx hb dL_law_1556 rfl (lv_at hl 1 rfl) ?_
  refine lv_iload hx hb dL_law_1557 (lv_at hl 5 rfl) ?_
  refine lv_bipush (v := nI 8) hx hb dL_law_1559 (by decide) ?_
  refine bm_nadd hx hb dL_law_1561 ?_
  refine bm_sld hx hb hXs hbl hbA hS (j := (3 + 8)) (by omega) (by omega) dL_law_1562 ?_
  refine lv_i2l (v := (xs (3 + 8)).toInt64) hx hb dL_law_1563 rfl ?_
  refine lv_ldc2 (v := 4294967295) hx hb hown (hts (.constantLong RL 75 4294967295) (by decide +kernel)) dL_law_1564 ?_
  refine lv_land hx hb dL_law_1567 ?_
  refine lv_lor hx hb dL_law_1568 ?_
  refine lv_aload_n hx hb dL_law_1569 rfl (lv_at hl 1 rfl) ?_
  refine lv_iload hx hb dL_law_1570 (lv_at hl 5 rfl) ?_
  refine lv_bipush (v := nI 9) hx hb dL_law_1572 (by decide) ?_
  refine bm_nadd hx hb dL_law_1574 ?_
  refine bm_sld hx hb hXs hbl hbA hS (j := (3 + 9)) (by omega) (by omega) dL_law_1575 ?_
  refine lv_i2l (v := (xs (3 + 9)).toInt64) hx hb dL_law_1576 rfl ?_
  refine lv_bipush (v := nI 32) hx hb dL_law_1577 (by decide) ?_
  refine lv_lshl (v := ((xs (3 + 9)).toInt64) <<< ((nI 32).toInt64 &&& 63)) hx hb dL_law_1579 rfl ?_
  refine lv_aload_n hx hb dL_law_1580 rfl (lv_at hl 1 rfl) ?_
  refine lv_iload hx hb dL_law_1581 (lv_at hl 5 rfl) ?_
  refine lv_bipush (v := nI 10) hx hb dL_law_1583 (by decide) ?_
  refine bm_nadd hx hb dL_law_1585 ?_
  refine bm_sld hx hb hXs hbl hbA hS (j := (3 + 10)) (by omega) (by omega) dL_law_1586 ?_
  refine lv_i2l (v := (xs (3 + 10)).toInt64) hx hb dL_law_1587 rfl ?_
  refine lv_ldc2 (v := 4294967295) hx hb hown (hts (.constantLong RL 75 4294967295) (by decide +kernel)) dL_law_1588 ?_
  refine lv_land hx hb dL_law_1591 ?_
  refine lv_lor hx hb dL_law_1592 ?_
  refine bm_wcallV (As := [.long ((((xs (3 + 1)).toInt64) <<< ((nI 32).toInt64 &&& 63)) ||| (((xs (3 + 2)).toInt64) &&& 4294967295)), .long ((((xs (3 + 3)).toInt64) <<< ((nI 32).toInt64 &&& 63)) ||| (((xs (3 + 4)).toInt64) &&& 4294967295)), .long ((((xs (3 + 5)).toInt64) <<< ((nI 32).toInt64 &&& 63)) ||| (((xs (3 + 6)).toInt64) &&& 4294967295)), .long ((((xs (3 + 7)).toInt64) <<< ((nI 32).toInt64 &&& 63)) ||| (((xs (3 + 8)).toInt64) &&& 4294967295)), .long ((((xs (3 + 9)).toInt64) <<< ((nI 32).toInt64 &&& 63)) ||| (((xs (3 + 10)).toInt64) &&& 4294967295))]) (rest := []) ⟨hx, hb, hml, hown, hts⟩ (m_koX hv) (cwV 5 hts (gdVL (by decide +kernel) (by decide +kernel) (by decide +kernel) (by decide +kernel) (by decide +kernel)) rfl rfl rfl (by decide +kernel) ⟨Nat.le_of_ble_eq_true rfl, Nat.le_of_ble_eq_true rfl⟩) hK hP hD hS hA 42 5 rfl rfl rfl hl.1 rfl (Nat.le_of_ble_eq_true rfl) dL_law_1593 ⟨Nat.le_of_ble_eq_true rfl, Nat.le_of_ble_eq_true rfl⟩ (fun H locs hP hD hS => ?_)
  have hP : va_P D vwCl (WW ad cJ cI cZ (bm.1, bm.2.1, bm.2.2.1, 0) (pa.1, pa.2.1, pa.2.2.1, pa.2.2.2.1, pa.2.2.2.2.1, pa.2.2.2.2.2.1, 0) p0 p1 p2 (li.1, li.2.1, li.2.2.1, li.2.2.2.1, li.2.2.2.2.1, li.2.2.2.2.2.1, li.2.2.2.2.2.2.1, li.2.2.2.2.2.2.2.1, 0, 0) (wi.1, wi.2.1, wi.2.2.1, wi.2.2.2.1, wi.2.2.2.2.1, wi.2.2.2.2.2.1, wi.2.2.2.2.2.2.1, wi.2.2.2.2.2.2.2.1, wi.2.2.2.2.2.2.2.2.1, 0, 0) (1) (ms.1, ms.2.1, 0, 0, 0, 0, 0, ms.2.2.2.2.2.2.2) ma mp mk mn ou) H := hP
  have hD : va_D A (WW ad cJ cI cZ (bm.1, bm.2.1, bm.2.2.1, 0) (pa.1, pa.2.1, pa.2.2.1, pa.2.2.2.1, pa.2.2.2.2.1, pa.2.2.2.2.2.1, 0) p0 p1 p2 (li.1, li.2.1, li.2.2.1, li.2.2.2.1, li.2.2.2.2.1, li.2.2.2.2.2.1, li.2.2.2.2.2.2.1, li.2.2.2.2.2.2.2.1, 0, 0) (wi.1, wi.2.1, wi.2.2.1, wi.2.2.2.1, wi.2.2.2.2.1, wi.2.2.2.2.2.1, wi.2.2.2.2.2.2.1, wi.2.2.2.2.2.2.2.1, wi.2.2.2.2.2.2.2.2.1, 0, 0) (1) (ms.1, ms.2.1, 0, 0, 0, 0, 0, ms.2.2.2.2.2.2.2) ma mp mk mn ou) := hD
  refine lv_istore (lv' := [(6, .int (bm_b false)), (5, .int (nI 1)), (0, .ref b), (1, .ref (ad 0)), (2, .ref (ad 42)), (3, .ref (ad 62)), (4, .int (nI 3))]) hx hb dL_law_1596 hl (by decide) rfl (fun ls hl => ?_)
  refine lv_aload_n hx hb dL_law_1598 rfl (lv_at hl 4 rfl) ?_
  refine bm_rcallV (As := []) (rest := []) ⟨hx, hb, hml, hown, hts⟩ (m_thrown) (cwV 0 hts (gdVL (by decide +kernel) (by decide +kernel) (by decide +kernel) (by decide +kernel) (by decide +kernel)) rfl rfl rfl (by decide +kernel) ⟨Nat.le_of_ble_eq_true rfl, Nat.le_of_ble_eq_true rfl⟩) hK hP 42 5 rfl rfl rfl hl.1 rfl (Nat.le_of_ble_eq_true rfl) dL_law_1599 ⟨Nat.le_of_ble_eq_true rfl, Nat.le_of_ble_eq_true rfl⟩ ?_
  refine lv_iload hx hb dL_law_1602 (lv_at hl 1 rfl) ?_
  refine bm_ni_eq (x := 1) (y := 1) (tgt := 1609) hx hb (by decide) (by decide) dL_law_1604 (by decide) (fun c_1 => ?_) (fun c_1 => ?_)
  · refine lv_iload hx hb dL_law_1609 (lv_at hl 1 rfl) ?_
    refine bm_nz_ne (x := 1) (tgt := 1633) hx hb (by decide) dL_law_1611 (by decide) (fun c_2 => ?_) (fun c_2 => ?_)
    · refine lv_goto (tgt := 1705) hx hb dL_law_1633 (by decide) ?_
      exact v_end hL C0 hAn (Nat.le_of_ble_eq_true rfl) (Nat.le_of_ble_eq_true rfl) hS (lv_sub hl [6, 2] rfl)
    · exact absurd c_2 (by decide)
  · exact absurd c_1 (by decide)
