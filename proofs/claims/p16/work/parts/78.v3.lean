set_option maxHeartbeats 16000000 in
set_option maxRecDepth 100000 in
theorem V_13 {p : Program} {l : Launch} {e : Env} {s : State} {m : MethodId} {below : List Frame} {meth : Method} {c : Code} {b L : Nat} {xs : Nat → Int32} (hlt : l.stackTraces = false) (hL : L ≤ 5635) (C0 : lw_At p s m meth c b L xs) (hX : bx_X xW s) (hZ : bx_S RX4 xS s) (hN1 : bx_N "java/lang/IllegalArgumentException" "java/lang/IndexOutOfBoundsException" s) (hN2 : bx_N "java/lang/IllegalStateException" "java/lang/IndexOutOfBoundsException" s) {A : Nat → Prop} (hA : ∀ q : Nat, s.heap.size ≤ q → A q) (hAn : ∀ q : Nat, q < s.heap.size → ¬ A q) {D : va_G} {ad : Nat → Nat} {cJ cI cZ : ClassId} {bm : gBM} {pa : gPA} {p0 p1 p2 : gPL} {li : gLI} {wi : gWI} {mt : Nat} {ms : gMS} {ma : gMA} {mp : gMP} {mk : gMK} {mn : gMN} {ou : Nat → Int64} {i : Nat} (hi : i + 11 ≤ L) (okc : okC bm pa p0 p1 p2 li wi) (okm : okM ms ma mp mk mn) (heq : 0 = 0)  {H : Heap} {locs : List Loc} {cells slots : Nat} (hcs : cells + 1 ≤ room_1.cells ∧ slots + 6 ≤ room_1.slots) (hK : va_K D vwCl [(cJ, .long), (cI, .int), (cZ, .boolean)] s) (hP : va_P D vwCl (WW ad cJ cI cZ bm pa p0 p1 p2 li wi mt ms ma mp mk mn ou) H) (hD : va_D A (WW ad cJ cI cZ bm pa p0 p1 p2 li wi mt ms ma mp mk mn ou)) (hS : va_S A s.heap H locs) {ls : Array Slot} (hl : lv_has ls 8 [(0, .ref b), (1, .ref (ad 0)), (2, .ref (ad 42)), (3, .ref (ad 62)), (4, .int (nI i))]) (kk : ∀ (bm : gBM) (pa : gPA) (p0 p1 p2 : gPL) (li : gLI) (wi : gWI) (mt : Nat) (ms : gMS) (ma : gMA) (mp : gMP) (mk : gMK) (mn : gMN) (ou : Nat → Int64), okC bm pa p0 p1 p2 li wi → okM ms ma mp mk mn → 0 = 0 → ∀ (H : Heap) (locs : List Loc), va_P D vwCl (WW ad cJ cI cZ bm pa p0 p1 p2 li wi mt ms ma mp mk mn ou) H → va_D A (WW ad cJ cI cZ bm pa p0 p1 p2 li wi mt ms ma mp mk mn ou) → va_S A s.heap H locs → ∀ ls : Array Slot, lv_has ls 8 [(0, .ref b), (1, .ref (ad 0)), (2, .ref (ad 42)), (3, .ref (ad 62)), (4, .int (nI i))] → W p l e room_1 s m #[Value.ref b] below meth c H locs (cells + 1) (slots + 6) (lw_Z below #[Value.ref b] s) (F0 m 1326 ls [])) : W p l e room_1 s m #[Value.ref b] below meth c H locs cells slots (lw_Z below #[Value.ref b] s) (F0 m 1039 ls []) := by
  obtain ⟨hx, hb, hr, hml, hown, hts, hXs, hbl, hlocks, hgv⟩ := id C0
  have hbA := hAn b hbl
  refine lv_aload_n hx hb dL_law_1039 rfl (lv_at hl 1 rfl) ?_
  refine lv_aload_n hx hb dL_law_1040 rfl (lv_at hl 0 rfl) ?_
  refine lv_iload hx hb dL_law_1041 (lv_at hl 4 rfl) ?_
  refine lv_iconst (v := nI 1) hx hb dL_law_1043 (by decide) ?_
  refine bm_nadd hx hb dL_law_1044 ?_
  refine bm_sld hx hb hXs hbl hbA hS (j := (i + 1)) (by omega) (by omega) dL_law_1045 ?_
  refine lv_i2l (v := (xs (i + 1)).toInt64) hx hb dL_law_1046 rfl ?_
  refine lv_bipush (v := nI 32) hx hb dL_law_1047 (by decide) ?_
  refine lv_lshl (v := ((xs (i + 1)).toInt64) <<< ((nI 32).toInt64 &&& 63)) hx hb dL_law_1049 rfl ?_
  refine lv_aload_n hx hb dL_law_1050 rfl (lv_at hl 0 rfl) ?_
  refine lv_iload hx hb dL_law_1051 (lv_at hl 4 rfl) ?_
  refine lv_iconst (v := nI 2) hx hb dL_law_1053 (by decide) ?_
  refine bm_nadd hx hb dL_law_1054 ?_
  refine bm_sld hx hb hXs hbl hbA hS (j := (i + 2)) (by omega) (by omega) dL_law_1055 ?_
  refine lv_i2l (v := (xs (i + 2)).toInt64) hx hb dL_law_1056 rfl ?_
  refine lv_ldc2 (v := 4294967295) hx hb hown (hts (.constantLong RL 75 4294967295) (List.mem_filter.mp clL_75).1) dL_law_1057 ?_
  refine lv_land hx hb dL_law_1060 ?_
  refine lv_lor hx hb dL_law_1061 ?_
  refine lv_aload_n hx hb dL_law_1062 rfl (lv_at hl 0 rfl) ?_
  refine lv_iload hx hb dL_law_1063 (lv_at hl 4 rfl) ?_
  refine lv_iconst (v := nI 3) hx hb dL_law_1065 (by decide) ?_
  refine bm_nadd hx hb dL_law_1066 ?_
  refine bm_sld hx hb hXs hbl hbA hS (j := (i + 3)) (by omega) (by omega) dL_law_1067 ?_
  refine lv_i2l (v := (xs (i + 3)).toInt64) hx hb dL_law_1068 rfl ?_
  refine lv_bipush (v := nI 32) hx hb dL_law_1069 (by decide) ?_
  refine lv_lshl (v := ((xs (i + 3)).toInt64) <<< ((nI 32).toInt64 &&& 63)) hx hb dL_law_1071 rfl ?_
  refine lv_aload_n hx hb dL_law_1072 rfl (lv_at hl 0 rfl) ?_
  refine lv_iload hx hb dL_law_1073 (lv_at hl 4 rfl) ?_
  refine lv_iconst (v := nI 4) hx hb dL_law_1075 (by decide) ?_
  refine bm_nadd hx hb dL_law_1076 ?_
  refine bm_sld hx hb hXs hbl hbA hS (j := (i + 4)) (by omega) (by omega) dL_law_1077 ?_
  refine lv_i2l (v := (xs (i + 4)).toInt64) hx hb dL_law_1078 rfl ?_
  refine lv_ldc2 (v := 4294967295) hx hb hown (hts (.constantLong RL 75 4294967295) (List.mem_filter.mp clL_75).1) dL_law_1079 ?_
  refine lv_land hx hb dL_law_1082 ?_
  refine lv_lor hx hb dL_law_1083 ?_
  refine lv_aload_n hx hb dL_law_1084 rfl (lv_at hl 0 rfl) ?_
  refine lv_iload hx hb dL_law_1085 (lv_at hl 4 rfl) ?_
  refine lv_iconst (v := nI 5) hx hb dL_law_1087 (by decide) ?_
  refine bm_nadd hx hb dL_law_1088 ?_
  refine bm_sld hx hb hXs hbl hbA hS (j := (i + 5)) (by omega) (by omega) dL_law_1089 ?_
  refine lv_i2l (v := (xs (i + 5)).toInt64) hx hb dL_law_1090 rfl ?_
  refine lv_bipush (v := nI 32) hx hb dL_law_1091 (by decide) ?_
  refine lv_lshl (v := ((xs (i + 5)).toInt64) <<< ((nI 32).toInt64 &&& 63)) hx hb dL_law_1093 rfl ?_
  refine lv_aload_n hx hb dL_law_1094 rfl (lv_at hl 0 rfl) ?_
  refine lv_iload hx hb dL_law_1095 (lv_at hl 4 rfl) ?_
  refine lv_bipush (v := nI 6) hx hb dL_law_1097 (by decide) ?_
  refine bm_nadd hx hb dL_law_1099 ?_
  refine bm_sld hx hb hXs hbl hbA hS (j := (i + 6)) (by omega) (by omega) dL_law_1100 ?_
  refine lv_i2l (v := (xs (i + 6)).toInt64) hx hb dL_law_1101 rfl ?_
  refine lv_ldc2 (v := 4294967295) hx hb hown (hts (.constantLong RL 75 4294967295) (List.mem_filter.mp clL_75).1) dL_law_1102 ?_
  refine lv_land hx hb dL_law_1105 ?_
  refine lv_lor hx hb dL_law_1106 ?_
  refine lv_aload_n hx hb dL_law_1107 rfl (lv_at hl 0 rfl) ?_
  refine lv_iload hx hb dL_law_1108 (lv_at hl 4 rfl) ?_
  refine lv_bipush (v := nI 7) hx hb dL_law_1110 (by decide) ?_
  refine bm_nadd hx hb dL_law_1112 ?_
  refine bm_sld hx hb hXs hbl hbA hS (j := (i + 7)) (by omega) (by omega) dL_law_1113 ?_
  refine lv_i2l (v := (xs (i + 7)).toInt64) hx hb dL_law_1114 rfl ?_
  refine lv_bipush (v := nI 32) hx hb dL_law_1115 (by decide) ?_
  refine lv_lshl (v := ((xs (i + 7)).toInt64) <<< ((nI 32).toInt64 &&& 63)) hx hb dL_law_1117 rfl ?_
  refine lv_aload_n hx hb dL_law_1118 rfl (lv_at hl 0 rfl) ?_
  refine lv_iload hx hb dL_law_1119 (lv_at hl 4 rfl) ?_
  refine lv_bipush (v := nI 8) hx hb dL_law_1121 (by decide) ?_
  refine bm_nadd hx hb dL_law_1123 ?_
  refine bm_sld hx hb hXs hbl hbA hS (j := (i + 8)) (by omega) (by omega) dL_law_1124 ?_
  refine lv_i2l (v := (xs (i + 8)).toInt64) hx hb dL_law_1125 rfl ?_
  refine lv_ldc2 (v := 4294967295) hx hb hown (hts (.constantLong RL 75 4294967295) (List.mem_filter.mp clL_75).1) dL_law_1126 ?_
  refine lv_land hx hb dL_law_1129 ?_
  refine lv_lor hx hb dL_law_1130 ?_
  refine lv_aload_n hx hb dL_law_1131 rfl (lv_at hl 0 rfl) ?_
  refine lv_iload hx hb dL_law_1132 (lv_at hl 4 rfl) ?_
  refine lv_bipush (v := nI 9) hx hb dL_law_1134 (by decide) ?_
  refine bm_nadd hx hb dL_law_1136 ?_
  refine bm_sld hx hb hXs hbl hbA hS (j := (i + 9)) (by omega) (by omega) dL_law_1137 ?_
  refine lv_i2l (v := (xs (i + 9)).toInt64) hx hb dL_law_1138 rfl ?_
  refine lv_bipush (v := nI 32) hx hb dL_law_1139 (by decide) ?_
  refine lv_lshl (v := ((xs (i + 9)).toInt64) <<< ((nI 32).toInt64 &&& 63)) hx hb dL_law_1141 rfl ?_
  refine lv_aload_n hx hb dL_law_1142 rfl (lv_at hl 0 rfl) ?_
  refine lv_iload hx hb dL_law_1143 (lv_at hl 4 rfl) ?_
  refine lv_bipush (v := nI 10) hx hb dL_law_1145 (by decide) ?_
  refine bm_nadd hx hb dL_law_1147 ?_
  refine bm_sld hx hb hXs hbl hbA hS (j := (i + 10)) (by omega) (by omega) dL_law_1148 ?_
  refine lv_i2l (v := (xs (i + 10)).toInt64) hx hb dL_law_1149 rfl ?_
  refine lv_ldc2 (v := 4294967295) hx hb hown (hts (.constantLong RL 75 4294967295) (List.mem_filter.mp clL_75).1) dL_law_1150 ?_
  refine lv_land hx hb dL_law_1153 ?_
  refine lv_lor hx hb dL_law_1154 ?_
  refine lv_aload_n hx hb dL_law_1155 rfl (lv_at hl 3 rfl) ?_
  refine bx_xhcallS (n := 7) (As := [.ref (ad 0), .long ((((xs (i + 1)).toInt64) <<< ((nI 32).toInt64 &&& 63)) ||| (((xs (i + 2)).toInt64) &&& 4294967295)), .long ((((xs (i + 3)).toInt64) <<< ((nI 32).toInt64 &&& 63)) ||| (((xs (i + 4)).toInt64) &&& 4294967295)), .long ((((xs (i + 5)).toInt64) <<< ((nI 32).toInt64 &&& 63)) ||| (((xs (i + 6)).toInt64) &&& 4294967295)), .long ((((xs (i + 7)).toInt64) <<< ((nI 32).toInt64 &&& 63)) ||| (((xs (i + 8)).toInt64) &&& 4294967295)), .long ((((xs (i + 9)).toInt64) <<< ((nI 32).toInt64 &&& 63)) ||| (((xs (i + 10)).toInt64) &&& 4294967295)), .ref (ad 62)]) (rest := []) ⟨hx, hb, hml, hown, hts⟩ (H_keepOut hlt  okc H.size) rfl rfl (Nat.le_of_ble_eq_true rfl) (Nat.le_of_ble_eq_true rfl) (gdH (by decide +kernel)) (by decide +kernel) rfl hK hP hD hS hA hX hZ hN1 hN2 hAn rfl hl.1 rfl (Nat.le_of_ble_eq_true rfl) dL_law_1156 hcs (fun ws_1 r_2 h_3 H locs hP hD hS => ?_)
  obtain ⟨bmn_4, pan_5, p0n_6, p1n_7, p2n_8, lin_9, win_10, oun_11, okn_12, hnn_13, rfl, v_14, rfl⟩ := h_3
  have hP : va_P D vwCl (WW ad cJ cI cZ bmn_4 pan_5 p0n_6 p1n_7 p2n_8 lin_9 win_10 mt ms ma mp mk mn oun_11) H := hP
  have hD : va_D A (WW ad cJ cI cZ bmn_4 pan_5 p0n_6 p1n_7 p2n_8 lin_9 win_10 mt ms ma mp mk mn oun_11) := hD
  refine lv_istore (lv' := [(5, .int v_14), (0, .ref b), (1, .ref (ad 0)), (2, .ref (ad 42)), (3, .ref (ad 62)), (4, .int (nI i))]) hx hb dL_law_1159 hl (by decide) rfl (fun ls hl => ?_)
  refine lv_aload_n hx hb dL_law_1161 rfl (lv_at hl 3 rfl) ?_
  refine lv_aload_n hx hb dL_law_1162 rfl (lv_at hl 1 rfl) ?_
  refine lv_iload hx hb dL_law_1163 (lv_at hl 5 rfl) ?_
  refine lv_iconst (v := nI 1) hx hb dL_law_1165 (by decide) ?_
  refine bm_nadd hx hb dL_law_1166 ?_
  refine bm_sld hx hb hXs hbl hbA hS (j := (i + 1)) (by omega) (by omega) dL_law_1167 ?_
  refine lv_i2l (v := (xs (i + 1)).toInt64) hx hb dL_law_1168 rfl ?_
  refine lv_bipush (v := nI 32) hx hb dL_law_1169 (by decide) ?_
  refine lv_lshl (v := ((xs (i + 1)).toInt64) <<< ((nI 32).toInt64 &&& 63)) hx hb dL_law_1171 rfl ?_
  refine lv_aload_n hx hb dL_law_1172 rfl (lv_at hl 1 rfl) ?_
  refine lv_iload hx hb dL_law_1173 (lv_at hl 5 rfl) ?_
  refine lv_iconst (v := nI 2) hx hb dL_law_1175 (by decide) ?_
  refine bm_nadd hx hb dL_law_1176 ?_
  refine bm_sld hx hb hXs hbl hbA hS (j := (i + 2)) (by omega) (by omega) dL_law_1177 ?_
  refine lv_i2l (v := (xs (i + 2)).toInt64) hx hb dL_law_1178 rfl ?_
  refine lv_ldc2 (v := 4294967295) hx hb hown (hts (.constantLong RL 75 4294967295) (List.mem_filter.mp clL_75).1) dL_law_1179 ?_
  refine lv_land hx hb dL_law_1182 ?_
  refine lv_lor hx hb dL_law_1183 ?_
  refine lv_aload_n hx hb dL_law_1184 rfl (lv_at hl 1 rfl) ?_
  refine lv_iload hx hb dL_law_1185 (lv_at hl 5 rfl) ?_
  refine lv_iconst (v := nI 3) hx hb dL_law_1187 (by decide) ?_
  refine bm_nadd hx hb dL_law_1188 ?_
  refine bm_sld hx hb hXs hbl hbA hS (j := (i + 3)) (by omega) (by omega) dL_law_1189 ?_
  refine lv_i2l (v := (xs (i + 3)).toInt64) hx hb dL_law_1190 rfl ?_
  refine lv_bipush (v := nI 32) hx hb dL_law_1191 (by decide) ?_
  refine lv_lshl (v := ((xs (i + 3)).toInt64) <<< ((nI 32).toInt64 &&& 63)) hx hb dL_law_1193 rfl ?_
  refine lv_aload_n hx hb dL_law_1194 rfl (lv_at hl 1 rfl) ?_
  refine lv_iload hx hb dL_law_1195 (lv_at hl 5 rfl) ?_
  refine lv_iconst (v := nI 4) hx hb dL_law_1197 (by decide) ?_
  refine bm_nadd hx hb dL_law_1198 ?_
  refine bm_sld hx hb hXs hbl hbA hS (j := (i + 4)) (by omega) (by omega) dL_law_1199 ?_
  refine lv_i2l (v := (xs (i + 4)).toInt64) hx hb dL_law_1200 rfl ?_
  refine lv_ldc2 (v := 4294967295) hx hb hown (hts (.constantLong RL 75 4294967295) (List.mem_filter.mp clL_75).1) dL_law_1201 ?_
  refine lv_land hx hb dL_law_1204 ?_
  refine lv_lor hx hb dL_law_1205 ?_
  refine lv_aload_n hx hb dL_law_1206 rfl (lv_at hl 1 rfl) ?_
  refine lv_iload hx hb dL_law_1207 (lv_at hl 5 rfl) ?_
  refine lv_iconst (v := nI 5) hx hb dL_law_1209 (by decide) ?_
  refine bm_nadd hx hb dL_law_1210 ?_
  refine bm_sld hx hb hXs hbl hbA hS (j := (i + 5)) (by omega) (by omega) dL_law_1211 ?_
  refine lv_i2l (v := (xs (i + 5)).toInt64) hx hb dL_law_1212 rfl ?_
  refine lv_bipush (v := nI 32) hx hb dL_law_1213 (by decide) ?_
  refine lv_lshl (v := ((xs (i + 5)).toInt64) <<< ((nI 32).toInt64 &&& 63)) hx hb dL_law_1215 rfl ?_
  refine lv_aload_n hx hb dL_law_1216 rfl (lv_at hl 1 rfl) ?_
  refine lv_iload hx hb dL_law_1217 (lv_at hl 5 rfl) ?_
  refine lv_bipush (v := nI 6) hx hb dL_law_1219 (by decide) ?_
  refine bm_nadd hx hb dL_law_1221 ?_
  refine bm_sld hx hb hXs hbl hbA hS (j := (i + 6)) (by omega) (by omega) dL_law_1222 ?_
  refine lv_i2l (v := (xs (i + 6)).toInt64) hx hb dL_law_1223 rfl ?_
  refine lv_ldc2 (v := 4294967295) hx hb hown (hts (.constantLong RL 75 4294967295) (List.mem_filter.mp clL_75).1) dL_law_1224 ?_
  refine lv_land hx hb dL_law_1227 ?_
  refine lv_lor hx hb dL_law_1228 ?_
  refine lv_aload_n hx hb dL_law_1229 rfl (lv_at hl 1 rfl) ?_
  refine lv_iload hx hb dL_law_1230 (lv_at hl 5 rfl) ?_
  refine lv_bipush (v := nI 7) hx hb dL_law_1232 (by decide) ?_
  refine bm_nadd hx hb dL_law_1234 ?_
  refine bm_sld hx hb hXs hbl hbA hS (j := (i + 7)) (by omega) (by omega) dL_law_1235 ?_
  refine lv_i2l (v := (xs (i + 7)).toInt64) hx hb dL_law_1236 rfl ?_
  refine lv_bipush (v := nI 32) hx hb dL_law_1237 (by decide) ?_
  refine lv_lshl (v := ((xs (i + 7)).toInt64) <<< ((nI 32).toInt64 &&& 63)) hx hb dL_law_1239 rfl ?_
  refine lv_aload_n hx hb dL_law_1240 rfl (lv_at hl 1 rfl) ?_
  refine lv_iload hx hb dL_law_1241 (lv_at hl 5 rfl) ?_
  refine lv_bipush (v := nI 8) hx hb dL_law_1243 (by decide) ?_
  refine bm_nadd hx hb dL_law_1245 ?_
  refine bm_sld hx hb hXs hbl hbA hS (j := (i + 8)) (by omega) (by omega) dL_law_1246 ?_
  refine lv_i2l (v := (xs (i + 8)).toInt64) hx hb dL_law_1247 rfl ?_
  refine lv_ldc2 (v := 4294967295) hx hb hown (hts (.constantLong RL 75 4294967295) (List.mem_filter.mp clL_75).1) dL_law_1248 ?_
  refine lv_land hx hb dL_law_1251 ?_
  refine lv_lor hx hb dL_law_1252 ?_
  refine lv_aload_n hx hb dL_law_1253 rfl (lv_at hl 1 rfl) ?_
  refine lv_iload hx hb dL_law_1254 (lv_at hl 5 rfl) ?_
  refine lv_bipush (v := nI 9) hx hb dL_law_1256 (by decide) ?_
  refine bm_nadd hx hb dL_law_1258 ?_
  refine bm_sld hx hb hXs hbl hbA hS (j := (i + 9)) (by omega) (by omega) dL_law_1259 ?_
  refine lv_i2l (v := (xs (i + 9)).toInt64) hx hb dL_law_1260 rfl ?_
  refine lv_bipush (v := nI 32) hx hb dL_law_1261 (by decide) ?_
  refine lv_lshl (v := ((xs (i + 9)).toInt64) <<< ((nI 32).toInt64 &&& 63)) hx hb dL_law_1263 rfl ?_
  refine lv_aload_n hx hb dL_law_1264 rfl (lv_at hl 1 rfl) ?_
  refine lv_iload hx hb dL_law_1265 (lv_at hl 5 rfl) ?_
  refine lv_bipush (v := nI 10) hx hb dL_law_1267 (by decide) ?_
  refine bm_nadd hx hb dL_law_1269 ?_
  refine bm_sld hx hb hXs hbl hbA hS (j := (i + 10)) (by omega) (by omega) dL_law_1270 ?_
  refine lv_i2l (v := (xs (i + 10)).toInt64) hx hb dL_law_1271 rfl ?_
  refine lv_ldc2 (v := 4294967295) hx hb hown (hts (.constantLong RL 75 4294967295) (List.mem_filter.mp clL_75).1) dL_law_1272 ?_
  refine lv_land hx hb dL_law_1275 ?_
  refine lv_lor hx hb dL_law_1276 ?_
  refine bm_xcallV (As := [.long ((((xs (i + 1)).toInt64) <<< ((nI 32).toInt64 &&& 63)) ||| (((xs (i + 2)).toInt64) &&& 4294967295)), .long ((((xs (i + 3)).toInt64) <<< ((nI 32).toInt64 &&& 63)) ||| (((xs (i + 4)).toInt64) &&& 4294967295)), .long ((((xs (i + 5)).toInt64) <<< ((nI 32).toInt64 &&& 63)) ||| (((xs (i + 6)).toInt64) &&& 4294967295)), .long ((((xs (i + 7)).toInt64) <<< ((nI 32).toInt64 &&& 63)) ||| (((xs (i + 8)).toInt64) &&& 4294967295)), .long ((((xs (i + 9)).toInt64) <<< ((nI 32).toInt64 &&& 63)) ||| (((xs (i + 10)).toInt64) &&& 4294967295))]) (rest := []) ⟨hx, hb, hml, hown, hts⟩ (Y_keepOut   okm ) (cwV 5 hts gvL_133 rfl rfl rfl hvX5_keepOut ⟨Nat.le_of_ble_eq_true rfl, Nat.le_of_ble_eq_true rfl⟩) hK hP hD hS hA 42 5 rfl ww_42 rfl hl.1 rfl (Nat.le_of_ble_eq_true rfl) dL_law_1277 hcs (fun ws_15 r_16 h_17 H locs hP hD hS => ?_)
  obtain ⟨mtn_18, msn_19, man_20, mpn_21, mkn_22, mnn_23, okn_24, hnn_25, rfl, v_26, rfl⟩ := h_17
  have hP : va_P D vwCl (WW ad cJ cI cZ bmn_4 pan_5 p0n_6 p1n_7 p2n_8 lin_9 win_10 mtn_18 msn_19 man_20 mpn_21 mkn_22 mnn_23 oun_11) H := hP
  have hD : va_D A (WW ad cJ cI cZ bmn_4 pan_5 p0n_6 p1n_7 p2n_8 lin_9 win_10 mtn_18 msn_19 man_20 mpn_21 mkn_22 mnn_23 oun_11) := hD
  refine lv_istore (lv' := [(6, .int (bm_b v_26)), (5, .int v_14), (0, .ref b), (1, .ref (ad 0)), (2, .ref (ad 42)), (3, .ref (ad 62)), (4, .int (nI i))]) hx hb dL_law_1280 hl (by decide) rfl (fun ls hl => ?_)
  refine lv_goto (tgt := 1326) hx hb dL_law_1282 (by decide) ?_
  exact kk bmn_4 pan_5 p0n_6 p1n_7 p2n_8 lin_9 win_10 mtn_18 msn_19 man_20 mpn_21 mkn_22 mnn_23 oun_11 okn_12 okn_24 (hnn_13.trans (heq.trans hnn_25.symm)) _ _ hP hD hS _ (lv_sub hl [2, 3, 4, 5, 6] rfl)

set_option maxHeartbeats 16000000 in
set_option maxRecDepth 100000 in
theorem V_15 {p : Program} {l : Launch} {e : Env} {s : State} {m : MethodId} {below : List Frame} {meth : Method} {c : Code} {b L : Nat} {xs : Nat → Int32} (hlt : l.stackTraces = false) (hL : L ≤ 5635) (C0 : lw_At p s m meth c b L xs) (hX : bx_X xW s) (hZ : bx_S RX4 xS s) (hN1 : bx_N "java/lang/IllegalArgumentException" "java/lang/IndexOutOfBoundsException" s) (hN2 : bx_N "java/lang/IllegalStateException" "java/lang/IndexOutOfBoundsException" s) {A : Nat → Prop} (hA : ∀ q : Nat, s.heap.size ≤ q → A q) (hAn : ∀ q : Nat, q < s.heap.size → ¬ A q) {D : va_G} {ad : Nat → Nat} {cJ cI cZ : ClassId} {bm : gBM} {pa : gPA} {p0 p1 p2 : gPL} {li : gLI} {wi : gWI} {mt : Nat} {ms : gMS} {ma : gMA} {mp : gMP} {mk : gMK} {mn : gMN} {ou : Nat → Int64} {i : Nat} (hi : i + 11 ≤ L) (okc : okC bm pa p0 p1 p2 li wi) (okm : okM ms ma mp mk mn) (heq : 0 = 0)  {H : Heap} {locs : List Loc} {cells slots : Nat} (hcs : cells + 1 ≤ room_1.cells ∧ slots + 6 ≤ room_1.slots) (hK : va_K D vwCl [(cJ, .long), (cI, .int), (cZ, .boolean)] s) (hP : va_P D vwCl (WW ad cJ cI cZ bm pa p0 p1 p2 li wi mt ms ma mp mk mn ou) H) (hD : va_D A (WW ad cJ cI cZ bm pa p0 p1 p2 li wi mt ms ma mp mk mn ou)) (hS : va_S A s.heap H locs) {ls : Array Slot} (hl : lv_has ls 8 [(0, .ref b), (1, .ref (ad 0)), (2, .ref (ad 42)), (3, .ref (ad 62)), (4, .int (nI i))]) (kk : ∀ (bm : gBM) (pa : gPA) (p0 p1 p2 : gPL) (li : gLI) (wi : gWI) (mt : Nat) (ms : gMS) (ma : gMA) (mp : gMP) (mk : gMK) (mn : gMN) (ou : Nat → Int64), okC bm pa p0 p1 p2 li wi → okM ms ma mp mk mn → 0 = 0 → ∀ (H : Heap) (locs : List Loc), va_P D vwCl (WW ad cJ cI cZ bm pa p0 p1 p2 li wi mt ms ma mp mk mn ou) H → va_D A (WW ad cJ cI cZ bm pa p0 p1 p2 li wi mt ms ma mp mk mn ou) → va_S A s.heap H locs → ∀ ls : Array Slot, lv_has ls 8 [(0, .ref b), (1, .ref (ad 0)), (2, .ref (ad 42)), (3, .ref (ad 62)), (4, .int (nI i))] → W p l e room_1 s m #[Value.ref b] below meth c H locs (cells + 1) (slots + 6) (lw_Z below #[Value.ref b] s) (F0 m 1326 ls [])) : W p l e room_1 s m #[Value.ref b] below meth c H locs cells slots (lw_Z below #[Value.ref b] s) (F0 m 1298 ls []) := by
  obtain ⟨hx, hb, hr, hml, hown, hts, hXs, hbl, hlocks, hgv⟩ := id C0
  have hbA := hAn b hbl
  refine lv_aload_n hx hb dL_law_1298 rfl (lv_at hl 1 rfl) ?_
  refine lv_aload_n hx hb dL_law_1299 rfl (lv_at hl 0 rfl) ?_
  refine lv_iload hx hb dL_law_1300 (lv_at hl 4 rfl) ?_
  refine lv_iconst (v := nI 1) hx hb dL_law_1302 (by decide) ?_
  refine bm_nadd hx hb dL_law_1303 ?_
  refine bm_sld hx hb hXs hbl hbA hS (j := (i + 1)) (by omega) (by omega) dL_law_1304 ?_
  refine lv_aload_n hx hb dL_law_1305 rfl (lv_at hl 3 rfl) ?_
  refine bx_xhcallS (n := 3) (As := [.ref (ad 0), .int (xs (i + 1)), .ref (ad 62)]) (rest := []) ⟨hx, hb, hml, hown, hts⟩ (H_side hlt  okc H.size) rfl rfl (Nat.le_of_ble_eq_true rfl) (Nat.le_of_ble_eq_true rfl) (gdH (by decide +kernel)) (by decide +kernel) rfl hK hP hD hS hA hX hZ hN1 hN2 hAn rfl hl.1 rfl (Nat.le_of_ble_eq_true rfl) dL_law_1306 hcs (fun ws_1 r_2 h_3 H locs hP hD hS => ?_)
  obtain ⟨bmn_4, pan_5, p0n_6, p1n_7, p2n_8, lin_9, win_10, oun_11, okn_12, hnn_13, rfl, v_14, rfl⟩ := h_3
  have hP : va_P D vwCl (WW ad cJ cI cZ bmn_4 pan_5 p0n_6 p1n_7 p2n_8 lin_9 win_10 mt ms ma mp mk mn oun_11) H := hP
  have hD : va_D A (WW ad cJ cI cZ bmn_4 pan_5 p0n_6 p1n_7 p2n_8 lin_9 win_10 mt ms ma mp mk mn oun_11) := hD
  refine lv_istore (lv' := [(5, .int v_14), (0, .ref b), (1, .ref (ad 0)), (2, .ref (ad 42)), (3, .ref (ad 62)), (4, .int (nI i))]) hx hb dL_law_1309 hl (by decide) rfl (fun ls hl => ?_)
  refine lv_aload_n hx hb dL_law_1311 rfl (lv_at hl 3 rfl) ?_
  refine lv_aload_n hx hb dL_law_1312 rfl (lv_at hl 1 rfl) ?_
  refine lv_iload hx hb dL_law_1313 (lv_at hl 5 rfl) ?_
  refine lv_iconst (v := nI 1) hx hb dL_law_1315 (by decide) ?_
  refine bm_nadd hx hb dL_law_1316 ?_
  refine bm_sld hx hb hXs hbl hbA hS (j := (i + 1)) (by omega) (by omega) dL_law_1317 ?_
  refine bm_xcallV (As := [.int (xs (i + 1))]) (rest := []) ⟨hx, hb, hml, hown, hts⟩ (Y_side   okm ) (cwV 1 hts gvL_142 rfl rfl rfl hvX5_side ⟨Nat.le_of_ble_eq_true rfl, Nat.le_of_ble_eq_true rfl⟩) hK hP hD hS hA 42 5 rfl ww_42 rfl hl.1 rfl (Nat.le_of_ble_eq_true rfl) dL_law_1318 hcs (fun ws_15 r_16 h_17 H locs hP hD hS => ?_)
  obtain ⟨mtn_18, msn_19, man_20, mpn_21, mkn_22, mnn_23, okn_24, hnn_25, rfl, v_26, rfl⟩ := h_17
  have hP : va_P D vwCl (WW ad cJ cI cZ bmn_4 pan_5 p0n_6 p1n_7 p2n_8 lin_9 win_10 mtn_18 msn_19 man_20 mpn_21 mkn_22 mnn_23 oun_11) H := hP
  have hD : va_D A (WW ad cJ cI cZ bmn_4 pan_5 p0n_6 p1n_7 p2n_8 lin_9 win_10 mtn_18 msn_19 man_20 mpn_21 mkn_22 mnn_23 oun_11) := hD
  refine lv_istore (lv' := [(6, .int v_26), (5, .int v_14), (0, .ref b), (1, .ref (ad 0)), (2, .ref (ad 42)), (3, .ref (ad 62)), (4, .int (nI i))]) hx hb dL_law_1321 hl (by decide) rfl (fun ls hl => ?_)
  refine lv_goto (tgt := 1326) hx hb dL_law_1323 (by decide) ?_
  exact kk bmn_4 pan_5 p0n_6 p1n_7 p2n_8 lin_9 win_10 mtn_18 msn_19 man_20 mpn_21 mkn_22 mnn_23 oun_11 okn_12 okn_24 (hnn_13.trans (heq.trans hnn_25.symm)) _ _ hP hD hS _ (lv_sub hl [2, 3, 4, 5, 6] rfl)

set_option maxHeartbeats 16000000 in
set_option maxRecDepth 100000 in
theorem V_01 {p : Program} {l : Launch} {e : Env} {s : State} {m : MethodId} {below : List Frame} {meth : Method} {c : Code} {b L : Nat} {xs : Nat → Int32} (hlt : l.stackTraces = false) (hL : L ≤ 5635) (C0 : lw_At p s m meth c b L xs) (hX : bx_X xW s) (hZ : bx_S RX4 xS s) (hN1 : bx_N "java/lang/IllegalArgumentException" "java/lang/IndexOutOfBoundsException" s) (hN2 : bx_N "java/lang/IllegalStateException" "java/lang/IndexOutOfBoundsException" s) {A : Nat → Prop} (hA : ∀ q : Nat, s.heap.size ≤ q → A q) (hAn : ∀ q : Nat, q < s.heap.size → ¬ A q) {D : va_G} {ad : Nat → Nat} {cJ cI cZ : ClassId} {bm : gBM} {pa : gPA} {p0 p1 p2 : gPL} {li : gLI} {wi : gWI} {mt : Nat} {ms : gMS} {ma : gMA} {mp : gMP} {mk : gMK} {mn : gMN} {ou : Nat → Int64} {i : Nat} (hi : i + 11 ≤ L) (okc : okC bm pa p0 p1 p2 li wi) (okm : okM ms ma mp mk mn) (heq : 0 = 0) {zC : Nat} (h1 : q_len (((xs (i + 1)).toInt64 <<< ((nI 32).toInt64 &&& 63)) ||| ((xs (i + 2)).toInt64 &&& 4294967295)) = true) (h2 : q_len (((xs (i + 3)).toInt64 <<< ((nI 32).toInt64 &&& 63)) ||| ((xs (i + 4)).toInt64 &&& 4294967295)) = true) (h3 : zC < 2) (hc : xs (i + 5) = nI zC) (hq : pa.2.2.2.2.2.2 < 40) {H : Heap} {locs : List Loc} {cells slots : Nat} (hcs : cells + 1 ≤ room_1.cells ∧ slots + 6 ≤ room_1.slots) (hK : va_K D vwCl [(cJ, .long), (cI, .int), (cZ, .boolean)] s) (hP : va_P D vwCl (WW ad cJ cI cZ bm pa p0 p1 p2 li wi mt ms ma mp mk mn ou) H) (hD : va_D A (WW ad cJ cI cZ bm pa p0 p1 p2 li wi mt ms ma mp mk mn ou)) (hS : va_S A s.heap H locs) {ls : Array Slot} (hl : lv_has ls 8 [(0, .ref b), (1, .ref (ad 0)), (2, .ref (ad 42)), (3, .ref (ad 62)), (4, .int (nI i))]) (kk : ∀ (bm : gBM) (pa : gPA) (p0 p1 p2 : gPL) (li : gLI) (wi : gWI) (mt : Nat) (ms : gMS) (ma : gMA) (mp : gMP) (mk : gMK) (mn : gMN) (ou : Nat → Int64), okC bm pa p0 p1 p2 li wi → okM ms ma mp mk mn → 0 = 0 → ∀ (H : Heap) (locs : List Loc), va_P D vwCl (WW ad cJ cI cZ bm pa p0 p1 p2 li wi mt ms ma mp mk mn ou) H → va_D A (WW ad cJ cI cZ bm pa p0 p1 p2 li wi mt ms ma mp mk mn ou) → va_S A s.heap H locs → ∀ ls : Array Slot, lv_has ls 8 [(0, .ref b), (1, .ref (ad 0)), (2, .ref (ad 42)), (3, .ref (ad 62)), (4, .int (nI i))] → W p l e room_1 s m #[Value.ref b] below meth c H locs (cells + 1) (slots + 6) (lw_Z below #[Value.ref b] s) (F0 m 1326 ls [])) : W p l e room_1 s m #[Value.ref b] below meth c H locs cells slots (lw_Z below #[Value.ref b] s) (F0 m 156 ls []) := by
  obtain ⟨hx, hb, hr, hml, hown, hts, hXs, hbl, hlocks, hgv⟩ := id C0
  have hbA := hAn b hbl
  refine lv_aload_n hx hb dL_law_156 rfl (lv_at hl 1 rfl) ?_
  refine lv_aload_n hx hb dL_law_157 rfl (lv_at hl 0 rfl) ?_
  refine lv_iload hx hb dL_law_158 (lv_at hl 4 rfl) ?_
  refine lv_iconst (v := nI 1) hx hb dL_law_160 (by decide) ?_
  refine bm_nadd hx hb dL_law_161 ?_
  refine bm_sld hx hb hXs hbl hbA hS (j := (i + 1)) (by omega) (by omega) dL_law_162 ?_
  refine lv_i2l (v := (xs (i + 1)).toInt64) hx hb dL_law_163 rfl ?_
  refine lv_bipush (v := nI 32) hx hb dL_law_164 (by decide) ?_
  refine lv_lshl (v := ((xs (i + 1)).toInt64) <<< ((nI 32).toInt64 &&& 63)) hx hb dL_law_166 rfl ?_
  refine lv_aload_n hx hb dL_law_167 rfl (lv_at hl 0 rfl) ?_
  refine lv_iload hx hb dL_law_168 (lv_at hl 4 rfl) ?_
  refine lv_iconst (v := nI 2) hx hb dL_law_170 (by decide) ?_
  refine bm_nadd hx hb dL_law_171 ?_
  refine bm_sld hx hb hXs hbl hbA hS (j := (i + 2)) (by omega) (by omega) dL_law_172 ?_
  refine lv_i2l (v := (xs (i + 2)).toInt64) hx hb dL_law_173 rfl ?_
  refine lv_ldc2 (v := 4294967295) hx hb hown (hts (.constantLong RL 75 4294967295) (List.mem_filter.mp clL_75).1) dL_law_174 ?_
  refine lv_land hx hb dL_law_177 ?_
  refine lv_lor hx hb dL_law_178 ?_
  refine lv_aload_n hx hb dL_law_179 rfl (lv_at hl 0 rfl) ?_
  refine lv_iload hx hb dL_law_180 (lv_at hl 4 rfl) ?_
  refine lv_iconst (v := nI 3) hx hb dL_law_182 (by decide) ?_
  refine bm_nadd hx hb dL_law_183 ?_
  refine bm_sld hx hb hXs hbl hbA hS (j := (i + 3)) (by omega) (by omega) dL_law_184 ?_
  refine lv_i2l (v := (xs (i + 3)).toInt64) hx hb dL_law_185 rfl ?_
  refine lv_bipush (v := nI 32) hx hb dL_law_186 (by decide) ?_
  refine lv_lshl (v := ((xs (i + 3)).toInt64) <<< ((nI 32).toInt64 &&& 63)) hx hb dL_law_188 rfl ?_
  refine lv_aload_n hx hb dL_law_189 rfl (lv_at hl 0 rfl) ?_
  refine lv_iload hx hb dL_law_190 (lv_at hl 4 rfl) ?_
  refine lv_iconst (v := nI 4) hx hb dL_law_192 (by decide) ?_
  refine bm_nadd hx hb dL_law_193 ?_
  refine bm_sld hx hb hXs hbl hbA hS (j := (i + 4)) (by omega) (by omega) dL_law_194 ?_
  refine lv_i2l (v := (xs (i + 4)).toInt64) hx hb dL_law_195 rfl ?_
  refine lv_ldc2 (v := 4294967295) hx hb hown (hts (.constantLong RL 75 4294967295) (List.mem_filter.mp clL_75).1) dL_law_196 ?_
  refine lv_land hx hb dL_law_199 ?_
  refine lv_lor hx hb dL_law_200 ?_
  refine lv_aload_n hx hb dL_law_201 rfl (lv_at hl 0 rfl) ?_
  refine lv_iload hx hb dL_law_202 (lv_at hl 4 rfl) ?_
  refine lv_iconst (v := nI 5) hx hb dL_law_204 (by decide) ?_
  refine bm_nadd hx hb dL_law_205 ?_
  refine bm_sld hx hb hXs hbl hbA hS (j := (i + 5)) (by omega) (by omega) dL_law_206 ?_
  rw [hc]
  refine lv_aload_n hx hb dL_law_207 rfl (lv_at hl 3 rfl) ?_
  refine bx_hcallS (n := 5) (As := [.ref (ad 0), .long ((((xs (i + 1)).toInt64) <<< ((nI 32).toInt64 &&& 63)) ||| (((xs (i + 2)).toInt64) &&& 4294967295)), .long ((((xs (i + 3)).toInt64) <<< ((nI 32).toInt64 &&& 63)) ||| (((xs (i + 4)).toInt64) &&& 4294967295)), .int (nI zC), .ref (ad 62)]) (rest := []) ⟨hx, hb, hml, hown, hts⟩ ((E_part1 hlt h1 h2 h3 hq) H.size) rfl rfl (Nat.le_of_ble_eq_true rfl) (Nat.le_of_ble_eq_true rfl) (gdH (by decide +kernel)) (by decide +kernel) rfl hK hP hD hS hA hX hZ hAn rfl hl.1 rfl (Nat.le_of_ble_eq_true rfl) dL_law_208 hcs (fun H locs hP hD hS => ?_)
  have hP : va_P D vwCl (WW ad cJ cI cZ bm (va_up pa.1 pa.2.2.2.2.2.2 ((((xs (i + 1)).toInt64) <<< ((nI 32).toInt64 &&& 63)) ||| (((xs (i + 2)).toInt64) &&& 4294967295)), va_up pa.2.1 pa.2.2.2.2.2.2 ((((xs (i + 3)).toInt64) <<< ((nI 32).toInt64 &&& 63)) ||| (((xs (i + 4)).toInt64) &&& 4294967295)), va_up pa.2.2.1 pa.2.2.2.2.2.2 zC, pa.2.2.2.1, pa.2.2.2.2.1, va_up pa.2.2.2.2.2.1 pa.2.2.2.2.2.2 pa.2.2.2.2.2.2, pa.2.2.2.2.2.2 + 1) p0 p1 p2 li wi mt ms ma mp mk mn (va_up ou 0 ((nI ((pa.2.2.2.2.2.2 + 1) - 1)).toInt64))) H := hP
  have hD : va_D A (WW ad cJ cI cZ bm (va_up pa.1 pa.2.2.2.2.2.2 ((((xs (i + 1)).toInt64) <<< ((nI 32).toInt64 &&& 63)) ||| (((xs (i + 2)).toInt64) &&& 4294967295)), va_up pa.2.1 pa.2.2.2.2.2.2 ((((xs (i + 3)).toInt64) <<< ((nI 32).toInt64 &&& 63)) ||| (((xs (i + 4)).toInt64) &&& 4294967295)), va_up pa.2.2.1 pa.2.2.2.2.2.2 zC, pa.2.2.2.1, pa.2.2.2.2.1, va_up pa.2.2.2.2.2.1 pa.2.2.2.2.2.2 pa.2.2.2.2.2.2, pa.2.2.2.2.2.2 + 1) p0 p1 p2 li wi mt ms ma mp mk mn (va_up ou 0 ((nI ((pa.2.2.2.2.2.2 + 1) - 1)).toInt64))) := hD
  refine lv_istore (lv' := [(5, .int (nI 0)), (0, .ref b), (1, .ref (ad 0)), (2, .ref (ad 42)), (3, .ref (ad 62)), (4, .int (nI i))]) hx hb dL_law_211 hl (by decide) rfl (fun ls hl => ?_)
  refine lv_aload_n hx hb dL_law_213 rfl (lv_at hl 3 rfl) ?_
  refine lv_aload_n hx hb dL_law_214 rfl (lv_at hl 1 rfl) ?_
  refine lv_iload hx hb dL_law_215 (lv_at hl 5 rfl) ?_
  refine lv_iconst (v := nI 1) hx hb dL_law_217 (by decide) ?_
  refine bm_nadd hx hb dL_law_218 ?_
  refine bm_sld hx hb hXs hbl hbA hS (j := (i + 1)) (by omega) (by omega) dL_law_219 ?_
  refine lv_i2l (v := (xs (i + 1)).toInt64) hx hb dL_law_220 rfl ?_
  refine lv_bipush (v := nI 32) hx hb dL_law_221 (by decide) ?_
  refine lv_lshl (v := ((xs (i + 1)).toInt64) <<< ((nI 32).toInt64 &&& 63)) hx hb dL_law_223 rfl ?_
  refine lv_aload_n hx hb dL_law_224 rfl (lv_at hl 1 rfl) ?_
  refine lv_iload hx hb dL_law_225 (lv_at hl 5 rfl) ?_
  refine lv_iconst (v := nI 2) hx hb dL_law_227 (by decide) ?_
  refine bm_nadd hx hb dL_law_228 ?_
  refine bm_sld hx hb hXs hbl hbA hS (j := (i + 2)) (by omega) (by omega) dL_law_229 ?_
  refine lv_i2l (v := (xs (i + 2)).toInt64) hx hb dL_law_230 rfl ?_
  refine lv_ldc2 (v := 4294967295) hx hb hown (hts (.constantLong RL 75 4294967295) (List.mem_filter.mp clL_75).1) dL_law_231 ?_
  refine lv_land hx hb dL_law_234 ?_
  refine lv_lor hx hb dL_law_235 ?_
  refine lv_aload_n hx hb dL_law_236 rfl (lv_at hl 1 rfl) ?_
  refine lv_iload hx hb dL_law_237 (lv_at hl 5 rfl) ?_
  refine lv_iconst (v := nI 3) hx hb dL_law_239 (by decide) ?_
  refine bm_nadd hx hb dL_law_240 ?_
  refine bm_sld hx hb hXs hbl hbA hS (j := (i + 3)) (by omega) (by omega) dL_law_241 ?_
  refine lv_i2l (v := (xs (i + 3)).toInt64) hx hb dL_law_242 rfl ?_
  refine lv_bipush (v := nI 32) hx hb dL_law_243 (by decide) ?_
  refine lv_lshl (v := ((xs (i + 3)).toInt64) <<< ((nI 32).toInt64 &&& 63)) hx hb dL_law_245 rfl ?_
  refine lv_aload_n hx hb dL_law_246 rfl (lv_at hl 1 rfl) ?_
  refine lv_iload hx hb dL_law_247 (lv_at hl 5 rfl) ?_
  refine lv_iconst (v := nI 4) hx hb dL_law_249 (by decide) ?_
  refine bm_nadd hx hb dL_law_250 ?_
  refine bm_sld hx hb hXs hbl hbA hS (j := (i + 4)) (by omega) (by omega) dL_law_251 ?_
  refine lv_i2l (v := (xs (i + 4)).toInt64) hx hb dL_law_252 rfl ?_
  refine lv_ldc2 (v := 4294967295) hx hb hown (hts (.constantLong RL 75 4294967295) (List.mem_filter.mp clL_75).1) dL_law_253 ?_
  refine lv_land hx hb dL_law_256 ?_
  refine lv_lor hx hb dL_law_257 ?_
  refine lv_aload_n hx hb dL_law_258 rfl (lv_at hl 1 rfl) ?_
  refine lv_iload hx hb dL_law_259 (lv_at hl 5 rfl) ?_
  refine lv_iconst (v := nI 5) hx hb dL_law_261 (by decide) ?_
  refine bm_nadd hx hb dL_law_262 ?_
  refine bm_sld hx hb hXs hbl hbA hS (j := (i + 5)) (by omega) (by omega) dL_law_263 ?_
  rw [hc]
  refine bm_xcallV (As := [.long ((((xs (i + 1)).toInt64) <<< ((nI 32).toInt64 &&& 63)) ||| (((xs (i + 2)).toInt64) &&& 4294967295)), .long ((((xs (i + 3)).toInt64) <<< ((nI 32).toInt64 &&& 63)) ||| (((xs (i + 4)).toInt64) &&& 4294967295)), .int (nI zC)]) (rest := []) ⟨hx, hb, hml, hown, hts⟩ (Y_part (pa := (va_up pa.1 pa.2.2.2.2.2.2 ((((xs (i + 1)).toInt64) <<< ((nI 32).toInt64 &&& 63)) ||| (((xs (i + 2)).toInt64) &&& 4294967295)), va_up pa.2.1 pa.2.2.2.2.2.2 ((((xs (i + 3)).toInt64) <<< ((nI 32).toInt64 &&& 63)) ||| (((xs (i + 4)).toInt64) &&& 4294967295)), va_up pa.2.2.1 pa.2.2.2.2.2.2 zC, pa.2.2.2.1, pa.2.2.2.2.1, va_up pa.2.2.2.2.2.1 pa.2.2.2.2.2.2 pa.2.2.2.2.2.2, pa.2.2.2.2.2.2 + 1)) (ou := (va_up ou 0 ((nI ((pa.2.2.2.2.2.2 + 1) - 1)).toInt64)))  okm ) (cwV 3 hts gvL_80 rfl rfl rfl hvX5_part ⟨Nat.le_of_ble_eq_true rfl, Nat.le_of_ble_eq_true rfl⟩) hK hP hD hS hA 42 5 rfl ww_42 rfl hl.1 rfl (Nat.le_of_ble_eq_true rfl) dL_law_264 hcs (fun ws_1 r_2 h_3 H locs hP hD hS => ?_)
  obtain ⟨mtn_4, msn_5, man_6, mpn_7, mkn_8, mnn_9, okn_10, hnn_11, rfl, v_12, rfl⟩ := h_3
  have hP : va_P D vwCl (WW ad cJ cI cZ bm (va_up pa.1 pa.2.2.2.2.2.2 ((((xs (i + 1)).toInt64) <<< ((nI 32).toInt64 &&& 63)) ||| (((xs (i + 2)).toInt64) &&& 4294967295)), va_up pa.2.1 pa.2.2.2.2.2.2 ((((xs (i + 3)).toInt64) <<< ((nI 32).toInt64 &&& 63)) ||| (((xs (i + 4)).toInt64) &&& 4294967295)), va_up pa.2.2.1 pa.2.2.2.2.2.2 zC, pa.2.2.2.1, pa.2.2.2.2.1, va_up pa.2.2.2.2.2.1 pa.2.2.2.2.2.2 pa.2.2.2.2.2.2, pa.2.2.2.2.2.2 + 1) p0 p1 p2 li wi mtn_4 msn_5 man_6 mpn_7 mkn_8 mnn_9 (va_up ou 0 ((nI ((pa.2.2.2.2.2.2 + 1) - 1)).toInt64))) H := hP
  have hD : va_D A (WW ad cJ cI cZ bm (va_up pa.1 pa.2.2.2.2.2.2 ((((xs (i + 1)).toInt64) <<< ((nI 32).toInt64 &&& 63)) ||| (((xs (i + 2)).toInt64) &&& 4294967295)), va_up pa.2.1 pa.2.2.2.2.2.2 ((((xs (i + 3)).toInt64) <<< ((nI 32).toInt64 &&& 63)) ||| (((xs (i + 4)).toInt64) &&& 4294967295)), va_up pa.2.2.1 pa.2.2.2.2.2.2 zC, pa.2.2.2.1, pa.2.2.2.2.1, va_up pa.2.2.2.2.2.1 pa.2.2.2.2.2.2 pa.2.2.2.2.2.2, pa.2.2.2.2.2.2 + 1) p0 p1 p2 li wi mtn_4 msn_5 man_6 mpn_7 mkn_8 mnn_9 (va_up ou 0 ((nI ((pa.2.2.2.2.2.2 + 1) - 1)).toInt64))) := hD
  refine lv_istore (lv' := [(6, .int v_12), (5, .int (nI 0)), (0, .ref b), (1, .ref (ad 0)), (2, .ref (ad 42)), (3, .ref (ad 62)), (4, .int (nI i))]) hx hb dL_law_267 hl (by decide) rfl (fun ls hl => ?_)
  refine lv_goto (tgt := 1326) hx hb dL_law_269 (by decide) ?_
  exact kk bm (va_up pa.1 pa.2.2.2.2.2.2 ((((xs (i + 1)).toInt64) <<< ((nI 32).toInt64 &&& 63)) ||| (((xs (i + 2)).toInt64) &&& 4294967295)), va_up pa.2.1 pa.2.2.2.2.2.2 ((((xs (i + 3)).toInt64) <<< ((nI 32).toInt64 &&& 63)) ||| (((xs (i + 4)).toInt64) &&& 4294967295)), va_up pa.2.2.1 pa.2.2.2.2.2.2 zC, pa.2.2.2.1, pa.2.2.2.2.1, va_up pa.2.2.2.2.2.1 pa.2.2.2.2.2.2 pa.2.2.2.2.2.2, pa.2.2.2.2.2.2 + 1) p0 p1 p2 li wi mtn_4 msn_5 man_6 mpn_7 mkn_8 mnn_9 (va_up ou 0 ((nI ((pa.2.2.2.2.2.2 + 1) - 1)).toInt64)) (okC_part okc hq h3) okn_10 (heq.trans hnn_11.symm) _ _ hP hD hS _ (lv_sub hl [2, 3, 4, 5, 6] rfl)

set_option maxHeartbeats 16000000 in
set_option maxRecDepth 100000 in
theorem V_02 {p : Program} {l : Launch} {e : Env} {s : State} {m : MethodId} {below : List Frame} {meth : Method} {c : Code} {b L : Nat} {xs : Nat → Int32} (hlt : l.stackTraces = false) (hL : L ≤ 5635) (C0 : lw_At p s m meth c b L xs) (hX : bx_X xW s) (hZ : bx_S RX4 xS s) (hN1 : bx_N "java/lang/IllegalArgumentException" "java/lang/IndexOutOfBoundsException" s) (hN2 : bx_N "java/lang/IllegalStateException" "java/lang/IndexOutOfBoundsException" s) {A : Nat → Prop} (hA : ∀ q : Nat, s.heap.size ≤ q → A q) (hAn : ∀ q : Nat, q < s.heap.size → ¬ A q) {D : va_G} {ad : Nat → Nat} {cJ cI cZ : ClassId} {bm : gBM} {pa : gPA} {p0 p1 p2 : gPL} {li : gLI} {wi : gWI} {mt : Nat} {ms : gMS} {ma : gMA} {mp : gMP} {mk : gMK} {mn : gMN} {ou : Nat → Int64} {i : Nat} (hi : i + 11 ≤ L) (okc : okC bm pa p0 p1 p2 li wi) (okm : okM ms ma mp mk mn) (heq : 0 = 0) {zC : Nat} (h1 : q_len (((xs (i + 1)).toInt64 <<< ((nI 32).toInt64 &&& 63)) ||| ((xs (i + 2)).toInt64 &&& 4294967295)) = true) (h2 : q_len (((xs (i + 3)).toInt64 <<< ((nI 32).toInt64 &&& 63)) ||| ((xs (i + 4)).toInt64 &&& 4294967295)) = true) (h3 : zC < 2) (hc : xs (i + 5) = nI zC) (hq : pa.2.2.2.2.2.2 = 40) {H : Heap} {locs : List Loc} {cells slots : Nat} (hcs : cells + 1 ≤ room_1.cells ∧ slots + 6 ≤ room_1.slots) (hK : va_K D vwCl [(cJ, .long), (cI, .int), (cZ, .boolean)] s) (hP : va_P D vwCl (WW ad cJ cI cZ bm pa p0 p1 p2 li wi mt ms ma mp mk mn ou) H) (hD : va_D A (WW ad cJ cI cZ bm pa p0 p1 p2 li wi mt ms ma mp mk mn ou)) (hS : va_S A s.heap H locs) {ls : Array Slot} (hl : lv_has ls 8 [(0, .ref b), (1, .ref (ad 0)), (2, .ref (ad 42)), (3, .ref (ad 62)), (4, .int (nI i))]) (kk : ∀ (bm : gBM) (pa : gPA) (p0 p1 p2 : gPL) (li : gLI) (wi : gWI) (mt : Nat) (ms : gMS) (ma : gMA) (mp : gMP) (mk : gMK) (mn : gMN) (ou : Nat → Int64), okC bm pa p0 p1 p2 li wi → okM ms ma mp mk mn → 0 = 0 → ∀ (H : Heap) (locs : List Loc), va_P D vwCl (WW ad cJ cI cZ bm pa p0 p1 p2 li wi mt ms ma mp mk mn ou) H → va_D A (WW ad cJ cI cZ bm pa p0 p1 p2 li wi mt ms ma mp mk mn ou) → va_S A s.heap H locs → ∀ ls : Array Slot, lv_has ls 8 [(0, .ref b), (1, .ref (ad 0)), (2, .ref (ad 42)), (3, .ref (ad 62)), (4, .int (nI i))] → W p l e room_1 s m #[Value.ref b] below meth c H locs (cells + 1) (slots + 6) (lw_Z below #[Value.ref b] s) (F0 m 1326 ls [])) : W p l e room_1 s m #[Value.ref b] below meth c H locs cells slots (lw_Z below #[Value.ref b] s) (F0 m 156 ls []) := by
  obtain ⟨hx, hb, hr, hml, hown, hts, hXs, hbl, hlocks, hgv⟩ := id C0
  have hbA := hAn b hbl
  refine lv_aload_n hx hb dL_law_156 rfl (lv_at hl 1 rfl) ?_
  refine lv_aload_n hx hb dL_law_157 rfl (lv_at hl 0 rfl) ?_
  refine lv_iload hx hb dL_law_158 (lv_at hl 4 rfl) ?_
  refine lv_iconst (v := nI 1) hx hb dL_law_160 (by decide) ?_
  refine bm_nadd hx hb dL_law_161 ?_
  refine bm_sld hx hb hXs hbl hbA hS (j := (i + 1)) (by omega) (by omega) dL_law_162 ?_
  refine lv_i2l (v := (xs (i + 1)).toInt64) hx hb dL_law_163 rfl ?_
  refine lv_bipush (v := nI 32) hx hb dL_law_164 (by decide) ?_
  refine lv_lshl (v := ((xs (i + 1)).toInt64) <<< ((nI 32).toInt64 &&& 63)) hx hb dL_law_166 rfl ?_
  refine lv_aload_n hx hb dL_law_167 rfl (lv_at hl 0 rfl) ?_
  refine lv_iload hx hb dL_law_168 (lv_at hl 4 rfl) ?_
  refine lv_iconst (v := nI 2) hx hb dL_law_170 (by decide) ?_
  refine bm_nadd hx hb dL_law_171 ?_
  refine bm_sld hx hb hXs hbl hbA hS (j := (i + 2)) (by omega) (by omega) dL_law_172 ?_
  refine lv_i2l (v := (xs (i + 2)).toInt64) hx hb dL_law_173 rfl ?_
  refine lv_ldc2 (v := 4294967295) hx hb hown (hts (.constantLong RL 75 4294967295) (List.mem_filter.mp clL_75).1) dL_law_174 ?_
  refine lv_land hx hb dL_law_177 ?_
  refine lv_lor hx hb dL_law_178 ?_
  refine lv_aload_n hx hb dL_law_179 rfl (lv_at hl 0 rfl) ?_
  refine lv_iload hx hb dL_law_180 (lv_at hl 4 rfl) ?_
  refine lv_iconst (v := nI 3) hx hb dL_law_182 (by decide) ?_
  refine bm_nadd hx hb dL_law_183 ?_
  refine bm_sld hx hb hXs hbl hbA hS (j := (i + 3)) (by omega) (by omega) dL_law_184 ?_
  refine lv_i2l (v := (xs (i + 3)).toInt64) hx hb dL_law_185 rfl ?_
  refine lv_bipush (v := nI 32) hx hb dL_law_186 (by decide) ?_
  refine lv_lshl (v := ((xs (i + 3)).toInt64) <<< ((nI 32).toInt64 &&& 63)) hx hb dL_law_188 rfl ?_
  refine lv_aload_n hx hb dL_law_189 rfl (lv_at hl 0 rfl) ?_
  refine lv_iload hx hb dL_law_190 (lv_at hl 4 rfl) ?_
  refine lv_iconst (v := nI 4) hx hb dL_law_192 (by decide) ?_
  refine bm_nadd hx hb dL_law_193 ?_
  refine bm_sld hx hb hXs hbl hbA hS (j := (i + 4)) (by omega) (by omega) dL_law_194 ?_
  refine lv_i2l (v := (xs (i + 4)).toInt64) hx hb dL_law_195 rfl ?_
  refine lv_ldc2 (v := 4294967295) hx hb hown (hts (.constantLong RL 75 4294967295) (List.mem_filter.mp clL_75).1) dL_law_196 ?_
  refine lv_land hx hb dL_law_199 ?_
  refine lv_lor hx hb dL_law_200 ?_
  refine lv_aload_n hx hb dL_law_201 rfl (lv_at hl 0 rfl) ?_
  refine lv_iload hx hb dL_law_202 (lv_at hl 4 rfl) ?_
  refine lv_iconst (v := nI 5) hx hb dL_law_204 (by decide) ?_
  refine bm_nadd hx hb dL_law_205 ?_
  refine bm_sld hx hb hXs hbl hbA hS (j := (i + 5)) (by omega) (by omega) dL_law_206 ?_
  rw [hc]
  refine lv_aload_n hx hb dL_law_207 rfl (lv_at hl 3 rfl) ?_
  refine bx_hcallS (n := 5) (As := [.ref (ad 0), .long ((((xs (i + 1)).toInt64) <<< ((nI 32).toInt64 &&& 63)) ||| (((xs (i + 2)).toInt64) &&& 4294967295)), .long ((((xs (i + 3)).toInt64) <<< ((nI 32).toInt64 &&& 63)) ||| (((xs (i + 4)).toInt64) &&& 4294967295)), .int (nI zC), .ref (ad 62)]) (rest := []) ⟨hx, hb, hml, hown, hts⟩ ((E_part2 hlt h1 h2 h3 hq) H.size) rfl rfl (Nat.le_of_ble_eq_true rfl) (Nat.le_of_ble_eq_true rfl) (gdH (by decide +kernel)) (by decide +kernel) rfl hK hP hD hS hA hX hZ hAn rfl hl.1 rfl (Nat.le_of_ble_eq_true rfl) dL_law_208 hcs (fun H locs hP hD hS => ?_)
  have hP : va_P D vwCl (WW ad cJ cI cZ bm pa p0 p1 p2 li wi mt ms ma mp mk mn (va_up ou 0 ((-1).toInt64))) H := hP
  have hD : va_D A (WW ad cJ cI cZ bm pa p0 p1 p2 li wi mt ms ma mp mk mn (va_up ou 0 ((-1).toInt64))) := hD
  refine lv_istore (lv' := [(5, .int (nI 0)), (0, .ref b), (1, .ref (ad 0)), (2, .ref (ad 42)), (3, .ref (ad 62)), (4, .int (nI i))]) hx hb dL_law_211 hl (by decide) rfl (fun ls hl => ?_)
  refine lv_aload_n hx hb dL_law_213 rfl (lv_at hl 3 rfl) ?_
  refine lv_aload_n hx hb dL_law_214 rfl (lv_at hl 1 rfl) ?_
  refine lv_iload hx hb dL_law_215 (lv_at hl 5 rfl) ?_
  refine lv_iconst (v := nI 1) hx hb dL_law_217 (by decide) ?_
  refine bm_nadd hx hb dL_law_218 ?_
  refine bm_sld hx hb hXs hbl hbA hS (j := (i + 1)) (by omega) (by omega) dL_law_219 ?_
  refine lv_i2l (v := (xs (i + 1)).toInt64) hx hb dL_law_220 rfl ?_
  refine lv_bipush (v := nI 32) hx hb dL_law_221 (by decide) ?_
  refine lv_lshl (v := ((xs (i + 1)).toInt64) <<< ((nI 32).toInt64 &&& 63)) hx hb dL_law_223 rfl ?_
  refine lv_aload_n hx hb dL_law_224 rfl (lv_at hl 1 rfl) ?_
  refine lv_iload hx hb dL_law_225 (lv_at hl 5 rfl) ?_
  refine lv_iconst (v := nI 2) hx hb dL_law_227 (by decide) ?_
  refine bm_nadd hx hb dL_law_228 ?_
  refine bm_sld hx hb hXs hbl hbA hS (j := (i + 2)) (by omega) (by omega) dL_law_229 ?_
  refine lv_i2l (v := (xs (i + 2)).toInt64) hx hb dL_law_230 rfl ?_
  refine lv_ldc2 (v := 4294967295) hx hb hown (hts (.constantLong RL 75 4294967295) (List.mem_filter.mp clL_75).1) dL_law_231 ?_
  refine lv_land hx hb dL_law_234 ?_
  refine lv_lor hx hb dL_law_235 ?_
  refine lv_aload_n hx hb dL_law_236 rfl (lv_at hl 1 rfl) ?_
  refine lv_iload hx hb dL_law_237 (lv_at hl 5 rfl) ?_
  refine lv_iconst (v := nI 3) hx hb dL_law_239 (by decide) ?_
  refine bm_nadd hx hb dL_law_240 ?_
  refine bm_sld hx hb hXs hbl hbA hS (j := (i + 3)) (by omega) (by omega) dL_law_241 ?_
  refine lv_i2l (v := (xs (i + 3)).toInt64) hx hb dL_law_242 rfl ?_
  refine lv_bipush (v := nI 32) hx hb dL_law_243 (by decide) ?_
  refine lv_lshl (v := ((xs (i + 3)).toInt64) <<< ((nI 32).toInt64 &&& 63)) hx hb dL_law_245 rfl ?_
  refine lv_aload_n hx hb dL_law_246 rfl (lv_at hl 1 rfl) ?_
  refine lv_iload hx hb dL_law_247 (lv_at hl 5 rfl) ?_
  refine lv_iconst (v := nI 4) hx hb dL_law_249 (by decide) ?_
  refine bm_nadd hx hb dL_law_250 ?_
  refine bm_sld hx hb hXs hbl hbA hS (j := (i + 4)) (by omega) (by omega) dL_law_251 ?_
  refine lv_i2l (v := (xs (i + 4)).toInt64) hx hb dL_law_252 rfl ?_
  refine lv_ldc2 (v := 4294967295) hx hb hown (hts (.constantLong RL 75 4294967295) (List.mem_filter.mp clL_75).1) dL_law_253 ?_
  refine lv_land hx hb dL_law_256 ?_
  refine lv_lor hx hb dL_law_257 ?_
  refine lv_aload_n hx hb dL_law_258 rfl (lv_at hl 1 rfl) ?_
  refine lv_iload hx hb dL_law_259 (lv_at hl 5 rfl) ?_
  refine lv_iconst (v := nI 5) hx hb dL_law_261 (by decide) ?_
  refine bm_nadd hx hb dL_law_262 ?_
  refine bm_sld hx hb hXs hbl hbA hS (j := (i + 5)) (by omega) (by omega) dL_law_263 ?_
  rw [hc]
  refine bm_xcallV (As := [.long ((((xs (i + 1)).toInt64) <<< ((nI 32).toInt64 &&& 63)) ||| (((xs (i + 2)).toInt64) &&& 4294967295)), .long ((((xs (i + 3)).toInt64) <<< ((nI 32).toInt64 &&& 63)) ||| (((xs (i + 4)).toInt64) &&& 4294967295)), .int (nI zC)]) (rest := []) ⟨hx, hb, hml, hown, hts⟩ (Y_part (ou := (va_up ou 0 ((-1).toInt64)))  okm ) (cwV 3 hts gvL_80 rfl rfl rfl hvX5_part ⟨Nat.le_of_ble_eq_true rfl, Nat.le_of_ble_eq_true rfl⟩) hK hP hD hS hA 42 5 rfl ww_42 rfl hl.1 rfl (Nat.le_of_ble_eq_true rfl) dL_law_264 hcs (fun ws_1 r_2 h_3 H locs hP hD hS => ?_)
  obtain ⟨mtn_4, msn_5, man_6, mpn_7, mkn_8, mnn_9, okn_10, hnn_11, rfl, v_12, rfl⟩ := h_3
  have hP : va_P D vwCl (WW ad cJ cI cZ bm pa p0 p1 p2 li wi mtn_4 msn_5 man_6 mpn_7 mkn_8 mnn_9 (va_up ou 0 ((-1).toInt64))) H := hP
  have hD : va_D A (WW ad cJ cI cZ bm pa p0 p1 p2 li wi mtn_4 msn_5 man_6 mpn_7 mkn_8 mnn_9 (va_up ou 0 ((-1).toInt64))) := hD
  refine lv_istore (lv' := [(6, .int v_12), (5, .int (nI 0)), (0, .ref b), (1, .ref (ad 0)), (2, .ref (ad 42)), (3, .ref (ad 62)), (4, .int (nI i))]) hx hb dL_law_267 hl (by decide) rfl (fun ls hl => ?_)
  refine lv_goto (tgt := 1326) hx hb dL_law_269 (by decide) ?_
  exact kk bm pa p0 p1 p2 li wi mtn_4 msn_5 man_6 mpn_7 mkn_8 mnn_9 (va_up ou 0 ((-1).toInt64)) okc okn_10 (heq.trans hnn_11.symm) _ _ hP hD hS _ (lv_sub hl [2, 3, 4, 5, 6] rfl)
