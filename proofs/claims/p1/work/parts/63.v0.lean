set_option maxHeartbeats 8000000 in
set_option maxRecDepth 100000 in
theorem v_0ok {p : Program} {l : Launch} {e : Env} {s : State} {m : MethodId} {below : List Frame} {meth : Method} {c : Code} {b L : Nat} {xs : Nat → Int32} (hlt : l.stackTraces = false) (hL : L = 14) (C0 : lw_At p s m meth c b L xs) (hX : bx_X xW s) (hZ : bx_S RX4 xS s) {A : Nat → Prop} (hA : ∀ q : Nat, s.heap.size ≤ q → A q) (hAn : ∀ q : Nat, q < s.heap.size → ¬ A q) {D : va_G} {ad : Nat → Nat} {cJ cI cZ : ClassId} {bm : gBM} {pa : gPA} {p0 p1 p2 : gPL} {li : gLI} {wi : gWI} {mt : Nat} {ms : gMS} {ma : gMA} {mp : gMP} {mk : gMK} {mn : gMN} {ou : Nat → Int64} {zC : Nat} (h1 : q_len (((xs (3 + 1)).toInt64 <<< ((nI 32).toInt64 &&& 63)) ||| ((xs (3 + 2)).toInt64 &&& 4294967295)) = true) (h2 : q_len (((xs (3 + 3)).toInt64 <<< ((nI 32).toInt64 &&& 63)) ||| ((xs (3 + 4)).toInt64 &&& 4294967295)) = true) (h3 : zC < 2) (hc : xs (3 + 5) = nI zC) {H : Heap} {locs : List Loc} (hK : va_K D vwCl [(cJ, .long), (cI, .int), (cZ, .boolean)] s) (hP : va_P D vwCl (WW ad cJ cI cZ (bm.1, bm.2.1, bm.2.2.1, 0) (pa.1, pa.2.1, pa.2.2.1, pa.2.2.2.1, pa.2.2.2.2.1, pa.2.2.2.2.2.1, 0) p0 p1 p2 (li.1, li.2.1, li.2.2.1, li.2.2.2.1, li.2.2.2.2.1, li.2.2.2.2.2.1, li.2.2.2.2.2.2.1, li.2.2.2.2.2.2.2.1, 0, 0) (wi.1, wi.2.1, wi.2.2.1, wi.2.2.2.1, wi.2.2.2.2.1, wi.2.2.2.2.2.1, wi.2.2.2.2.2.2.1, wi.2.2.2.2.2.2.2.1, wi.2.2.2.2.2.2.2.2.1, 0, 0) mt (ms.1, ms.2.1, 0, 0, 0, 0, 0, ms.2.2.2.2.2.2.2) ma mp mk mn ou) H) (hD : va_D A (WW ad cJ cI cZ (bm.1, bm.2.1, bm.2.2.1, 0) (pa.1, pa.2.1, pa.2.2.1, pa.2.2.2.1, pa.2.2.2.2.1, pa.2.2.2.2.2.1, 0) p0 p1 p2 (li.1, li.2.1, li.2.2.1, li.2.2.2.1, li.2.2.2.2.1, li.2.2.2.2.2.1, li.2.2.2.2.2.2.1, li.2.2.2.2.2.2.2.1, 0, 0) (wi.1, wi.2.1, wi.2.2.1, wi.2.2.2.1, wi.2.2.2.2.1, wi.2.2.2.2.2.1, wi.2.2.2.2.2.2.1, wi.2.2.2.2.2.2.2.1, wi.2.2.2.2.2.2.2.2.1, 0, 0) mt (ms.1, ms.2.1, 0, 0, 0, 0, 0, ms.2.2.2.2.2.2.2) ma mp mk mn ou)) (hS : va_S A s.heap H locs) {ls : Array Slot} (hl : lv_has ls 8 [(0, .ref b), (1, .ref (ad 0)), (2, .ref (ad 42)), (3, .ref (ad 62)), (4, .int (nI 3))]) : W p l e room_1 s m #[Value.ref b] below meth c H locs 63 2864 (lw_Z below #[Value.ref b] s) (F0 m 156 ls []) := by
  obtain ⟨hx, hb, hr, hml, hown, hts, hXs, hbl, hlocks, hgv⟩ := id C0
  have hbA := hAn b hbl
  refine lv_aload_n hx hb dL_law_156 rfl (lv_at hl 1 rfl) ?_
  refine lv_aload_n hx hb dL_law_157 rfl (lv_at hl 0 rfl) ?_
  refine lv_iload hx hb dL_law_158 (lv_at hl 4 rfl) ?_
  refine lv_iconst (v := nI 1) hx hb dL_law_160 (by decide) ?_
  refine bm_nadd hx hb dL_law_161 ?_
  refine bm_sld hx hb hXs hbl hbA hS (j := (3 + 1)) (by omega) (by omega) dL_law_162 ?_
  refine lv_i2l (v := (xs (3 + 1)).toInt64) hx hb dL_law_163 rfl ?_
  refine lv_bipush (v := nI 32) hx hb dL_law_164 (by decide) ?_
  refine lv_lshl (v := ((xs (3 + 1)).toInt64) <<< ((nI 32).toInt64 &&& 63)) hx hb dL_law_166 rfl ?_
  refine lv_aload_n hx hb dL_law_167 rfl (lv_at hl 0 rfl) ?_
  refine lv_iload hx hb dL_law_168 (lv_at hl 4 rfl) ?_
  refine lv_iconst (v := nI 2) hx hb dL_law_170 (by decide) ?_
  refine bm_nadd hx hb dL_law_171 ?_
  refine bm_sld hx hb hXs hbl hbA hS (j := (3 + 2)) (by omega) (by omega) dL_law_172 ?_
  refine lv_i2l (v := (xs (3 + 2)).toInt64) hx hb dL_law_173 rfl ?_
  refine lv_ldc2 (v := 4294967295) hx hb hown (hts (.constantLong RL 75 4294967295) (by decide +kernel)) dL_law_174 ?_
  refine lv_land hx hb dL_law_177 ?_
  refine lv_lor hx hb dL_law_178 ?_
  refine lv_aload_n hx hb dL_law_179 rfl (lv_at hl 0 rfl) ?_
  refine lv_iload hx hb dL_law_180 (lv_at hl 4 rfl) ?_
  refine lv_iconst (v := nI 3) hx hb dL_law_182 (by decide) ?_
  refine bm_nadd hx hb dL_law_183 ?_
  refine bm_sld hx hb hXs hbl hbA hS (j := (3 + 3)) (by omega) (by omega) dL_law_184 ?_
  refine lv_i2l (v := (xs (3 + 3)).toInt64) hx hb dL_law_185 rfl ?_
  refine lv_bipush (v := nI 32) hx hb dL_law_186 (by decide) ?_
  refine lv_lshl (v := ((xs (3 + 3)).toInt64) <<< ((nI 32).toInt64 &&& 63)) hx hb dL_law_188 rfl ?_
  refine lv_aload_n hx hb dL_law_189 rfl (lv_at hl 0 rfl) ?_
  refine lv_iload hx hb dL_law_190 (lv_at hl 4 rfl) ?_
  refine lv_iconst (v := nI 4) hx hb dL_law_192 (by decide) ?_
  refine bm_nadd hx hb dL_law_193 ?_
  refine bm_sld hx hb hXs hbl hbA hS (j := (3 + 4)) (by omega) (by omega) dL_law_194 ?_
  refine lv_i2l (v := (xs (3 + 4)).toInt64) hx hb dL_law_195 rfl ?_
  refine lv_ldc2 (v := 4294967295) hx hb hown (hts (.constantLong RL 75 4294967295) (by decide +kernel)) dL_law_196 ?_
  refine lv_land hx hb dL_law_199 ?_
  refine lv_lor hx hb dL_law_200 ?_
  refine lv_aload_n hx hb dL_law_201 rfl (lv_at hl 0 rfl) ?_
  refine lv_iload hx hb dL_law_202 (lv_at hl 4 rfl) ?_
  refine lv_iconst (v := nI 5) hx hb dL_law_204 (by decide) ?_
  refine bm_nadd hx hb dL_law_205 ?_
  refine bm_sld hx hb hXs hbl hbA hS (j := (3 + 5)) (by omega) (by omega) dL_law_206 ?_
  rw [hc]
  refine lv_aload_n hx hb dL_law_207 rfl (lv_at hl 3 rfl) ?_
  refine bx_hcallS (n := 5) (As := [.ref (ad 0), .long ((((xs (3 + 1)).toInt64) <<< ((nI 32).toInt64 &&& 63)) ||| (((xs (3 + 2)).toInt64) &&& 4294967295)), .long ((((xs (3 + 3)).toInt64) <<< ((nI 32).toInt64 &&& 63)) ||| (((xs (3 + 4)).toInt64) &&& 4294967295)), .int (nI zC), .ref (ad 62)]) (rest := []) ⟨hx, hb, hml, hown, hts⟩ ((h_part hlt h1 h2 h3) H.size) rfl rfl (Nat.le_of_ble_eq_true rfl) (Nat.le_of_ble_eq_true rfl) (gdH (by decide +kernel)) (by decide +kernel) rfl hK hP hD hS hA hX hZ hAn rfl hl.1 rfl (Nat.le_of_ble_eq_true rfl) dL_law_208 ⟨Nat.le_of_ble_eq_true rfl, Nat.le_of_ble_eq_true rfl⟩ (fun H locs hP hD hS => ?_)
  have hP : va_P D vwCl (WW ad cJ cI cZ (bm.1, bm.2.1, bm.2.2.1, 0) (va_up pa.1 0 ((((xs (3 + 1)).toInt64) <<< ((nI 32).toInt64 &&& 63)) ||| (((xs (3 + 2)).toInt64) &&& 4294967295)), va_up pa.2.1 0 ((((xs (3 + 3)).toInt64) <<< ((nI 32).toInt64 &&& 63)) ||| (((xs (3 + 4)).toInt64) &&& 4294967295)), va_up pa.2.2.1 0 zC, pa.2.2.2.1, pa.2.2.2.2.1, va_up pa.2.2.2.2.2.1 0 0, 0 + 1) p0 p1 p2 (li.1, li.2.1, li.2.2.1, li.2.2.2.1, li.2.2.2.2.1, li.2.2.2.2.2.1, li.2.2.2.2.2.2.1, li.2.2.2.2.2.2.2.1, 0, 0) (wi.1, wi.2.1, wi.2.2.1, wi.2.2.2.1, wi.2.2.2.2.1, wi.2.2.2.2.2.1, wi.2.2.2.2.2.2.1, wi.2.2.2.2.2.2.2.1, wi.2.2.2.2.2.2.2.2.1, 0, 0) mt (ms.1, ms.2.1, 0, 0, 0, 0, 0, ms.2.2.2.2.2.2.2) ma mp mk mn (va_up ou 0 ((nI ((0 + 1) - 1)).toInt64))) H := hP
  have hD : va_D A (WW ad cJ cI cZ (bm.1, bm.2.1, bm.2.2.1, 0) (va_up pa.1 0 ((((xs (3 + 1)).toInt64) <<< ((nI 32).toInt64 &&& 63)) ||| (((xs (3 + 2)).toInt64) &&& 4294967295)), va_up pa.2.1 0 ((((xs (3 + 3)).toInt64) <<< ((nI 32).toInt64 &&& 63)) ||| (((xs (3 + 4)).toInt64) &&& 4294967295)), va_up pa.2.2.1 0 zC, pa.2.2.2.1, pa.2.2.2.2.1, va_up pa.2.2.2.2.2.1 0 0, 0 + 1) p0 p1 p2 (li.1, li.2.1, li.2.2.1, li.2.2.2.1, li.2.2.2.2.1, li.2.2.2.2.2.1, li.2.2.2.2.2.2.1, li.2.2.2.2.2.2.2.1, 0, 0) (wi.1, wi.2.1, wi.2.2.1, wi.2.2.2.1, wi.2.2.2.2.1, wi.2.2.2.2.2.1, wi.2.2.2.2.2.2.1, wi.2.2.2.2.2.2.2.1, wi.2.2.2.2.2.2.2.2.1, 0, 0) mt (ms.1, ms.2.1, 0, 0, 0, 0, 0, ms.2.2.2.2.2.2.2) ma mp mk mn (va_up ou 0 ((nI ((0 + 1) - 1)).toInt64))) := hD
  refine lv_istore (lv' := [(5, .int (nI 0)), (0, .ref b), (1, .ref (ad 0)), (2, .ref (ad 42)), (3, .ref (ad 62)), (4, .int (nI 3))]) hx hb dL_law_211 hl (by decide) rfl (fun ls hl => ?_)
  refine lv_aload_n hx hb dL_law_213 rfl (lv_at hl 3 rfl) ?_
  refine lv_aload_n hx hb dL_law_214 rfl (lv_at hl 1 rfl) ?_
  refine lv_iload hx hb dL_law_215 (lv_at hl 5 rfl) ?_
  refine lv_iconst (v := nI 1) hx hb dL_law_217 (by decide) ?_
  refine bm_nadd hx hb dL_law_218 ?_
  refine bm_sld hx hb hXs hbl hbA hS (j := (3 + 1)) (by omega) (by omega) dL_law_219 ?_
  refine lv_i2l (v := (xs (3 + 1)).toInt64) hx hb dL_law_220 rfl ?_
  refine lv_bipush (v := nI 32) hx hb dL_law_221 (by decide) ?_
  refine lv_lshl (v := ((xs (3 + 1)).toInt64) <<< ((nI 32).toInt64 &&& 63)) hx hb dL_law_223 rfl ?_
  refine lv_aload_n hx hb dL_law_224 rfl (lv_at hl 1 rfl) ?_
  refine lv_iload hx hb dL_law_225 (lv_at hl 5 rfl) ?_
  refine lv_iconst (v := nI 2) hx hb dL_law_227 (by decide) ?_
  refine bm_nadd hx hb dL_law_228 ?_
  refine bm_sld hx hb hXs hbl hbA hS (j := (3 + 2)) (by omega) (by omega) dL_law_229 ?_
  refine lv_i2l (v := (xs (3 + 2)).toInt64) hx hb dL_law_230 rfl ?_
  refine lv_ldc2 (v := 4294967295) hx hb hown (hts (.constantLong RL 75 4294967295) (by decide +kernel)) dL_law_231 ?_
  refine lv_land hx hb dL_law_234 ?_
  refine lv_lor hx hb dL_law_235 ?_
  refine lv_aload_n hx hb dL_law_236 rfl (lv_at hl 1 rfl) ?_
  refine lv_iload hx hb dL_law_237 (lv_at hl 5 rfl) ?_
  refine lv_iconst (v := nI 3) hx hb dL_law_239 (by decide) ?_
  refine bm_nadd hx hb dL_law_240 ?_
  refine bm_sld hx hb hXs hbl hbA hS (j := (3 + 3)) (by omega) (by omega) dL_law_241 ?_
  refine lv_i2l (v := (xs (3 + 3)).toInt64) hx hb dL_law_242 rfl ?_
  refine lv_bipush (v := nI 32) hx hb dL_law_243 (by decide) ?_
  refine lv_lshl (v := ((xs (3 + 3)).toInt64) <<< ((nI 32).toInt64 &&& 63)) hx hb dL_law_245 rfl ?_
  refine lv_aload_n hx hb dL_law_246 rfl (lv_at hl 1 rfl) ?_
  refine lv_iload hx hb dL_law_247 (lv_at hl 5 rfl) ?_
  refine lv_iconst (v := nI 4) hx hb dL_law_249 (by decide) ?_
  refine bm_nadd hx hb dL_law_250 ?_
  refine bm_sld hx hb hXs hbl hbA hS (j := (3 + 4)) (by omega) (by omega) dL_law_251 ?_
  refine lv_i2l (v := (xs (3 + 4)).toInt64) hx hb dL_law_252 rfl ?_
  refine lv_ldc2 (v := 4294967295) hx hb hown (hts (.constantLong RL 75 4294967295) (by decide +kernel)) dL_law_253 ?_
  refine lv_land hx hb dL_law_256 ?_
  refine lv_lor hx hb dL_law_257 ?_
  refine lv_aload_n hx hb dL_law_258 rfl (lv_at hl 1 rfl) ?_
  refine lv_iload hx hb dL_law_259 (lv_at hl 5 rfl) ?_
  refine lv_iconst (v := nI 5) hx hb dL_law_261 (by decide) ?_
  refine bm_nadd hx hb dL_law_262 ?_
  refine bm_sld hx hb hXs hbl hbA hS (j := (3 + 5)) (by omega) (by omega) dL_law_263 ?_
  rw [hc]
  refine bm_wcallV (As := [.long ((((xs (3 + 1)).toInt64) <<< ((nI 32).toInt64 &&& 63)) ||| (((xs (3 + 2)).toInt64) &&& 4294967295)), .long ((((xs (3 + 3)).toInt64) <<< ((nI 32).toInt64 &&& 63)) ||| (((xs (3 + 4)).toInt64) &&& 4294967295)), .int (nI zC)]) (rest := []) ⟨hx, hb, hml, hown, hts⟩ (m_part h1 h2 h3) (cwV 3 hts (gdVL (by decide +kernel) (by decide +kernel) (by decide +kernel) (by decide +kernel) (by decide +kernel)) rfl rfl rfl (by decide +kernel) ⟨Nat.le_of_ble_eq_true rfl, Nat.le_of_ble_eq_true rfl⟩) hK hP hD hS hA 42 5 rfl rfl rfl hl.1 rfl (Nat.le_of_ble_eq_true rfl) dL_law_264 ⟨Nat.le_of_ble_eq_true rfl, Nat.le_of_ble_eq_true rfl⟩ (fun H locs hP hD hS => ?_)
  have hP : va_P D vwCl (WW ad cJ cI cZ (bm.1, bm.2.1, bm.2.2.1, 0) (va_up pa.1 0 ((((xs (3 + 1)).toInt64) <<< ((nI 32).toInt64 &&& 63)) ||| (((xs (3 + 2)).toInt64) &&& 4294967295)), va_up pa.2.1 0 ((((xs (3 + 3)).toInt64) <<< ((nI 32).toInt64 &&& 63)) ||| (((xs (3 + 4)).toInt64) &&& 4294967295)), va_up pa.2.2.1 0 zC, pa.2.2.2.1, pa.2.2.2.2.1, va_up pa.2.2.2.2.2.1 0 0, 0 + 1) p0 p1 p2 (li.1, li.2.1, li.2.2.1, li.2.2.2.1, li.2.2.2.2.1, li.2.2.2.2.2.1, li.2.2.2.2.2.2.1, li.2.2.2.2.2.2.2.1, 0, 0) (wi.1, wi.2.1, wi.2.2.1, wi.2.2.2.1, wi.2.2.2.2.1, wi.2.2.2.2.2.1, wi.2.2.2.2.2.2.1, wi.2.2.2.2.2.2.2.1, wi.2.2.2.2.2.2.2.2.1, 0, 0) (0) (ms.1, ms.2.1, 0 + 1, 0, 0, 0, 0, ms.2.2.2.2.2.2.2) (va_up ma.1 0 ((((xs (3 + 1)).toInt64) <<< ((nI 32).toInt64 &&& 63)) ||| (((xs (3 + 2)).toInt64) &&& 4294967295)), va_up ma.2.1 0 ((((xs (3 + 3)).toInt64) <<< ((nI 32).toInt64 &&& 63)) ||| (((xs (3 + 4)).toInt64) &&& 4294967295)), va_up ma.2.2.1 0 zC, ma.2.2.2.1, ma.2.2.2.2.1, va_up ma.2.2.2.2.2.1 0 0, ma.2.2.2.2.2.2) mp mk mn (va_up ou 0 ((nI ((0 + 1) - 1)).toInt64))) H := hP
  have hD : va_D A (WW ad cJ cI cZ (bm.1, bm.2.1, bm.2.2.1, 0) (va_up pa.1 0 ((((xs (3 + 1)).toInt64) <<< ((nI 32).toInt64 &&& 63)) ||| (((xs (3 + 2)).toInt64) &&& 4294967295)), va_up pa.2.1 0 ((((xs (3 + 3)).toInt64) <<< ((nI 32).toInt64 &&& 63)) ||| (((xs (3 + 4)).toInt64) &&& 4294967295)), va_up pa.2.2.1 0 zC, pa.2.2.2.1, pa.2.2.2.2.1, va_up pa.2.2.2.2.2.1 0 0, 0 + 1) p0 p1 p2 (li.1, li.2.1, li.2.2.1, li.2.2.2.1, li.2.2.2.2.1, li.2.2.2.2.2.1, li.2.2.2.2.2.2.1, li.2.2.2.2.2.2.2.1, 0, 0) (wi.1, wi.2.1, wi.2.2.1, wi.2.2.2.1, wi.2.2.2.2.1, wi.2.2.2.2.2.1, wi.2.2.2.2.2.2.1, wi.2.2.2.2.2.2.2.1, wi.2.2.2.2.2.2.2.2.1, 0, 0) (0) (ms.1, ms.2.1, 0 + 1, 0, 0, 0, 0, ms.2.2.2.2.2.2.2) (va_up ma.1 0 ((((xs (3 + 1)).toInt64) <<< ((nI 32).toInt64 &&& 63)) ||| (((xs (3 + 2)).toInt64) &&& 4294967295)), va_up ma.2.1 0 ((((xs (3 + 3)).toInt64) <<< ((nI 32).toInt64 &&& 63)) ||| (((xs (3 + 4)).toInt64) &&& 4294967295)), va_up ma.2.2.1 0 zC, ma.2.2.2.1, ma.2.2.2.2.1, va_up ma.2.2.2.2.2.1 0 0, ma.2.2.2.2.2.2) mp mk mn (va_up ou 0 ((nI ((0 + 1) - 1)).toInt64))) := hD
  refine lv_istore (lv' := [(6, .int (nI ((0 + 1) - 1))), (5, .int (nI 0)), (0, .ref b), (1, .ref (ad 0)), (2, .ref (ad 42)), (3, .ref (ad 62)), (4, .int (nI 3))]) hx hb dL_law_267 hl (by decide) rfl (fun ls hl => ?_)
  refine lv_aload_n hx hb dL_law_269 rfl (lv_at hl 4 rfl) ?_
  refine bm_rcallV (As := []) (rest := []) ⟨hx, hb, hml, hown, hts⟩ (m_thrown) (cwV 0 hts (gdVL (by decide +kernel) (by decide +kernel) (by decide +kernel) (by decide +kernel) (by decide +kernel)) rfl rfl rfl (by decide +kernel) ⟨Nat.le_of_ble_eq_true rfl, Nat.le_of_ble_eq_true rfl⟩) hK hP 42 5 rfl rfl rfl hl.1 rfl (Nat.le_of_ble_eq_true rfl) dL_law_270 ⟨Nat.le_of_ble_eq_true rfl, Nat.le_of_ble_eq_true rfl⟩ ?_
  refine lv_iload hx hb dL_law_273 (lv_at hl 1 rfl) ?_
  refine bm_ni_eq (x := 0) (y := 0) (tgt := 280) hx hb (by decide) (by decide) dL_law_275 (by decide) (fun c_1 => ?_) (fun c_1 => ?_)
  · refine lv_iload hx hb dL_law_280 (lv_at hl 1 rfl) ?_
    refine bm_nz_ne (x := 0) (tgt := 297) hx hb (by decide) dL_law_282 (by decide) (fun c_2 => ?_) (fun c_2 => ?_)
    · exact absurd c_2 (by decide)
    · refine lv_aload_n hx hb dL_law_285 rfl (lv_at hl 5 rfl) ?_
      refine lv_iconst (v := nI 0) hx hb dL_law_286 (by decide) ?_
      refine bm_lald (f := (va_up ou 0 ((nI ((0 + 1) - 1)).toInt64))) hx hb hK hP 62 0 rfl rfl (j := 0) (by omega) (by decide) dL_law_287 ?_
      refine lv_iload hx hb dL_law_288 (lv_at hl 0 rfl) ?_
      refine lv_i2l (v := (nI ((0 + 1) - 1)).toInt64) hx hb dL_law_290 rfl ?_
      refine bm_lc_eq (x := ((va_up ou 0 ((nI ((0 + 1) - 1)).toInt64)) 0)) (y := ((nI ((0 + 1) - 1)).toInt64)) (tgt := 297) hx hb dL_law_291 dL_law_292 (by decide) (fun c_3 => ?_) (fun c_3 => ?_)
      · refine lv_goto (tgt := 1705) hx hb dL_law_297 (by decide) ?_
        exact v_end hL C0 hAn (Nat.le_of_ble_eq_true rfl) (Nat.le_of_ble_eq_true rfl) hS (lv_sub hl [6, 2] rfl)
      · exact absurd (by simp [va_up]) c_3
  · exact absurd c_1 (by decide)

set_option maxHeartbeats 8000000 in
set_option maxRecDepth 100000 in
theorem v_0no {p : Program} {l : Launch} {e : Env} {s : State} {m : MethodId} {below : List Frame} {meth : Method} {c : Code} {b L : Nat} {xs : Nat → Int32} (hlt : l.stackTraces = false) (hL : L = 14) (C0 : lw_At p s m meth c b L xs) (hX : bx_X xW s) (hZ : bx_S RX4 xS s) {A : Nat → Prop} (hA : ∀ q : Nat, s.heap.size ≤ q → A q) (hAn : ∀ q : Nat, q < s.heap.size → ¬ A q) {D : va_G} {ad : Nat → Nat} {cJ cI cZ : ClassId} {bm : gBM} {pa : gPA} {p0 p1 p2 : gPL} {li : gLI} {wi : gWI} {mt : Nat} {ms : gMS} {ma : gMA} {mp : gMP} {mk : gMK} {mn : gMN} {ou : Nat → Int64} (hv : q_pv (((xs (3 + 1)).toInt64 <<< ((nI 32).toInt64 &&& 63)) ||| ((xs (3 + 2)).toInt64 &&& 4294967295)) (((xs (3 + 3)).toInt64 <<< ((nI 32).toInt64 &&& 63)) ||| ((xs (3 + 4)).toInt64 &&& 4294967295)) (xs (3 + 5)) = false) {H : Heap} {locs : List Loc} (hK : va_K D vwCl [(cJ, .long), (cI, .int), (cZ, .boolean)] s) (hP : va_P D vwCl (WW ad cJ cI cZ (bm.1, bm.2.1, bm.2.2.1, 0) (pa.1, pa.2.1, pa.2.2.1, pa.2.2.2.1, pa.2.2.2.2.1, pa.2.2.2.2.2.1, 0) p0 p1 p2 (li.1, li.2.1, li.2.2.1, li.2.2.2.1, li.2.2.2.2.1, li.2.2.2.2.2.1, li.2.2.2.2.2.2.1, li.2.2.2.2.2.2.2.1, 0, 0) (wi.1, wi.2.1, wi.2.2.1, wi.2.2.2.1, wi.2.2.2.2.1, wi.2.2.2.2.2.1, wi.2.2.2.2.2.2.1, wi.2.2.2.2.2.2.2.1, wi.2.2.2.2.2.2.2.2.1, 0, 0) mt (ms.1, ms.2.1, 0, 0, 0, 0, 0, ms.2.2.2.2.2.2.2) ma mp mk mn ou) H) (hD : va_D A (WW ad cJ cI cZ (bm.1, bm.2.1, bm.2.2.1, 0) (pa.1, pa.2.1, pa.2.2.1, pa.2.2.2.1, pa.2.2.2.2.1, pa.2.2.2.2.2.1, 0) p0 p1 p2 (li.1, li.2.1, li.2.2.1, li.2.2.2.1, li.2.2.2.2.1, li.2.2.2.2.2.1, li.2.2.2.2.2.2.1, li.2.2.2.2.2.2.2.1, 0, 0) (wi.1, wi.2.1, wi.2.2.1, wi.2.2.2.1, wi.2.2.2.2.1, wi.2.2.2.2.2.1, wi.2.2.2.2.2.2.1, wi.2.2.2.2.2.2.2.1, wi.2.2.2.2.2.2.2.2.1, 0, 0) mt (ms.1, ms.2.1, 0, 0, 0, 0, 0, ms.2.2.2.2.2.2.2) ma mp mk mn ou)) (hS : va_S A s.heap H locs) {ls : Array Slot} (hl : lv_has ls 8 [(0, .ref b), (1, .ref (ad 0)), (2, .ref (ad 42)), (3, .ref (ad 62)), (4, .int (nI 3))]) : W p l e room_1 s m #[Value.ref b] below meth c H locs 63 2864 (lw_Z below #[Value.ref b] s) (F0 m 156 ls []) := by
  obtain ⟨hx, hb, hr, hml, hown, hts, hXs, hbl, hlocks, hgv⟩ := id C0
  have hbA := hAn b hbl
  refine lv_aload_n hx hb dL_law_156 rfl (lv_at hl 1 rfl) ?_
  refine lv_aload_n hx hb dL_law_157 rfl (lv_at hl 0 rfl) ?_
  refine lv_iload hx hb dL_law_158 (lv_at hl 4 rfl) ?_
  refine lv_iconst (v := nI 1) hx hb dL_law_160 (by decide) ?_
  refine bm_nadd hx hb dL_law_161 ?_
  refine bm_sld hx hb hXs hbl hbA hS (j := (3 + 1)) (by omega) (by omega) dL_law_162 ?_
  refine lv_i2l (v := (xs (3 + 1)).toInt64) hx hb dL_law_163 rfl ?_
  refine lv_bipush (v := nI 32) hx hb dL_law_164 (by decide) ?_
  refine lv_lshl (v := ((xs (3 + 1)).toInt64) <<< ((nI 32).toInt64 &&& 63)) hx hb dL_law_166 rfl ?_
  refine lv_aload_n hx hb dL_law_167 rfl (lv_at hl 0 rfl) ?_
  refine lv_iload hx hb dL_law_168 (lv_at hl 4 rfl) ?_
  refine lv_iconst (v := nI 2) hx hb dL_law_170 (by decide) ?_
  refine bm_nadd hx hb dL_law_171 ?_
  refine bm_sld hx hb hXs hbl hbA hS (j := (3 + 2)) (by omega) (by omega) dL_law_172 ?_
  refine lv_i2l (v := (xs (3 + 2)).toInt64) hx hb dL_law_173 rfl ?_
  refine lv_ldc2 (v := 4294967295) hx hb hown (hts (.constantLong RL 75 4294967295) (by decide +kernel)) dL_law_174 ?_
  refine lv_land hx hb dL_law_177 ?_
  refine lv_lor hx hb dL_law_178 ?_
  refine lv_aload_n hx hb dL_law_179 rfl (lv_at hl 0 rfl) ?_
  refine lv_iload hx hb dL_law_180 (lv_at hl 4 rfl) ?_
  refine lv_iconst (v := nI 3) hx hb dL_law_182 (by decide) ?_
  refine bm_nadd hx hb dL_law_183 ?_
  refine bm_sld hx hb hXs hbl hbA hS (j := (3 + 3)) (by omega) (by omega) dL_law_184 ?_
  refine lv_i2l (v := (xs (3 + 3)).toInt64) hx hb dL_law_185 rfl ?_
  refine lv_bipush (v := nI 32) hx hb dL_law_186 (by decide) ?_
  refine lv_lshl (v := ((xs (3 + 3)).toInt64) <<< ((nI 32).toInt64 &&& 63)) hx hb dL_law_188 rfl ?_
  refine lv_aload_n hx hb dL_law_189 rfl (lv_at hl 0 rfl) ?_
  refine lv_iload hx hb dL_law_190 (lv_at hl 4 rfl) ?_
  refine lv_iconst (v := nI 4) hx hb dL_law_192 (by decide) ?_
  refine bm_nadd hx hb dL_law_193 ?_
  refine bm_sld hx hb hXs hbl hbA hS (j := (3 + 4)) (by omega) (by omega) dL_law_194 ?_
  refine lv_i2l (v := (xs (3 + 4)).toInt64) hx hb dL_law_195 rfl ?_
  refine lv_ldc2 (v := 4294967295) hx hb hown (hts (.constantLong RL 75 4294967295) (by decide +kernel)) dL_law_196 ?_
  refine lv_land hx hb dL_law_199 ?_
  refine lv_lor hx hb dL_law_200 ?_
  refine lv_aload_n hx hb dL_law_201 rfl (lv_at hl 0 rfl) ?_
  refine lv_iload hx hb dL_law_202 (lv_at hl 4 rfl) ?_
  refine lv_iconst (v := nI 5) hx hb dL_law_204 (by decide) ?_
  refine bm_nadd hx hb dL_law_205 ?_
  refine bm_sld hx hb hXs hbl hbA hS (j := (3 + 5)) (by omega) (by omega) dL_law_206 ?_
  refine lv_aload_n hx hb dL_law_207 rfl (lv_at hl 3 rfl) ?_
  refine bx_hcallS (n := 5) (As := [.ref (ad 0), .long ((((xs (3 + 1)).toInt64) <<< ((nI 32).toInt64 &&& 63)) ||| (((xs (3 + 2)).toInt64) &&& 4294967295)), .long ((((xs (3 + 3)).toInt64) <<< ((nI 32).toInt64 &&& 63)) ||| (((xs (3 + 4)).toInt64) &&& 4294967295)), .int (xs (3 + 5)), .ref (ad 62)]) (rest := []) ⟨hx, hb, hml, hown, hts⟩ ((h_partX hlt hv) H.size) rfl rfl (Nat.le_of_ble_eq_true rfl) (Nat.le_of_ble_eq_true rfl) (gdH (by decide +kernel)) (by decide +kernel) rfl hK hP hD hS hA hX hZ hAn rfl hl.1 rfl (Nat.le_of_ble_eq_true rfl) dL_law_208 ⟨Nat.le_of_ble_eq_true rfl, Nat.le_of_ble_eq_true rfl⟩ (fun H locs hP hD hS => ?_)
  have hP : va_P D vwCl (WW ad cJ cI cZ (bm.1, bm.2.1, bm.2.2.1, 0) (pa.1, pa.2.1, pa.2.2.1, pa.2.2.2.1, pa.2.2.2.2.1, pa.2.2.2.2.2.1, 0) p0 p1 p2 (li.1, li.2.1, li.2.2.1, li.2.2.2.1, li.2.2.2.2.1, li.2.2.2.2.2.1, li.2.2.2.2.2.2.1, li.2.2.2.2.2.2.2.1, 0, 0) (wi.1, wi.2.1, wi.2.2.1, wi.2.2.2.1, wi.2.2.2.2.1, wi.2.2.2.2.2.1, wi.2.2.2.2.2.2.1, wi.2.2.2.2.2.2.2.1, wi.2.2.2.2.2.2.2.2.1, 0, 0) mt (ms.1, ms.2.1, 0, 0, 0, 0, 0, ms.2.2.2.2.2.2.2) ma mp mk mn ou) H := hP
  have hD : va_D A (WW ad cJ cI cZ (bm.1, bm.2.1, bm.2.2.1, 0) (pa.1, pa.2.1, pa.2.2.1, pa.2.2.2.1, pa.2.2.2.2.1, pa.2.2.2.2.2.1, 0) p0 p1 p2 (li.1, li.2.1, li.2.2.1, li.2.2.2.1, li.2.2.2.2.1, li.2.2.2.2.2.1, li.2.2.2.2.2.2.1, li.2.2.2.2.2.2.2.1, 0, 0) (wi.1, wi.2.1, wi.2.2.1, wi.2.2.2.1, wi.2.2.2.2.1, wi.2.2.2.2.2.1, wi.2.2.2.2.2.2.1, wi.2.2.2.2.2.2.2.1, wi.2.2.2.2.2.2.2.2.1, 0, 0) mt (ms.1, ms.2.1, 0, 0, 0, 0, 0, ms.2.2.2.2.2.2.2) ma mp mk mn ou) := hD
  refine lv_istore (lv' := [(5, .int (nI 1)), (0, .ref b), (1, .ref (ad 0)), (2, .ref (ad 42)), (3, .ref (ad 62)), (4, .int (nI 3))]) hx hb dL_law_211 hl (by decide) rfl (fun ls hl => ?_)
  refine lv_aload_n hx hb dL_law_213 rfl (lv_at hl 3 rfl) ?_
  refine lv_aload_n hx hb dL_law_214 rfl (lv_at hl 1 rfl) ?_
  refine lv_iload hx hb dL_law_215 (lv_at hl 5 rfl) ?_
  refine lv_iconst (v := nI 1) hx hb dL_law_217 (by decide) ?_
  refine bm_nadd hx hb dL_law_218 ?_
  refine bm_sld hx hb hXs hbl hbA hS (j := (3 + 1)) (by omega) (by omega) dL_law_219 ?_
  refine lv_i2l (v := (xs (3 + 1)).toInt64) hx hb dL_law_220 rfl ?_
  refine lv_bipush (v := nI 32) hx hb dL_law_221 (by decide) ?_
  refine lv_lshl (v := ((xs (3 + 1)).toInt64) <<< ((nI 32).toInt64 &&& 63)) hx hb dL_law_223 rfl ?_
  refine lv_aload_n hx hb dL_law_224 rfl (lv_at hl 1 rfl) ?_
  refine lv_iload hx hb dL_law_225 (lv_at hl 5 rfl) ?_
  refine lv_iconst (v := nI 2) hx hb dL_law_227 (by decide) ?_
  refine bm_nadd hx hb dL_law_228 ?_
  refine bm_sld hx hb hXs hbl hbA hS (j := (3 + 2)) (by omega) (by omega) dL_law_229 ?_
  refine lv_i2l (v := (xs (3 + 2)).toInt64) hx hb dL_law_230 rfl ?_
  refine lv_ldc2 (v := 4294967295) hx hb hown (hts (.constantLong RL 75 4294967295) (by decide +kernel)) dL_law_231 ?_
  refine lv_land hx hb dL_law_234 ?_
  refine lv_lor hx hb dL_law_235 ?_
  refine lv_aload_n hx hb dL_law_236 rfl (lv_at hl 1 rfl) ?_
  refine lv_iload hx hb dL_law_237 (lv_at hl 5 rfl) ?_
  refine lv_iconst (v := nI 3) hx hb dL_law_239 (by decide) ?_
  refine bm_nadd hx hb dL_law_240 ?_
  refine bm_sld hx hb hXs hbl hbA hS (j := (3 + 3)) (by omega) (by omega) dL_law_241 ?_
  refine lv_i2l (v := (xs (3 + 3)).toInt64) hx hb dL_law_242 rfl ?_
  refine lv_bipush (v := nI 32) hx hb dL_law_243 (by decide) ?_
  refine lv_lshl (v := ((xs (3 + 3)).toInt64) <<< ((nI 32).toInt64 &&& 63)) hx hb dL_law_245 rfl ?_
  refine lv_aload_n hx hb dL_law_246 rfl (lv_at hl 1 rfl) ?_
  refine lv_iload hx hb dL_law_247 (lv_at hl 5 rfl) ?_
  refine lv_iconst (v := nI 4) hx hb dL_law_249 (by decide) ?_
  refine bm_nadd hx hb dL_law_250 ?_
  refine bm_sld hx hb hXs hbl hbA hS (j := (3 + 4)) (by omega) (by omega) dL_law_251 ?_
  refine lv_i2l (v := (xs (3 + 4)).toInt64) hx hb dL_law_252 rfl ?_
  refine lv_ldc2 (v := 4294967295) hx hb hown (hts (.constantLong RL 75 4294967295) (by decide +kernel)) dL_law_253 ?_
  refine lv_land hx hb dL_law_256 ?_
  refine lv_lor hx hb dL_law_257 ?_
  refine lv_aload_n hx hb dL_law_258 rfl (lv_at hl 1 rfl) ?_
  refine lv_iload hx hb dL_law_259 (lv_at hl 5 rfl) ?_
  refine lv_iconst (v := nI 5) hx hb dL_law_261 (by decide) ?_
  refine bm_nadd hx hb dL_law_262 ?_
  refine bm_sld hx hb hXs hbl hbA hS (j := (3 + 5)) (by omega) (by omega) dL_law_263 ?_
  refine bm_wcallV (As := [.long ((((xs (3 + 1)).toInt64) <<< ((nI 32).toInt64 &&& 63)) ||| (((xs (3 + 2)).toInt64) &&& 4294967295)), .long ((((xs (3 + 3)).toInt64) <<< ((nI 32).toInt64 &&& 63)) ||| (((xs (3 + 4)).toInt64) &&& 4294967295)), .int (xs (3 + 5))]) (rest := []) ⟨hx, hb, hml, hown, hts⟩ (m_partX hv) (cwV 3 hts (gdVL (by decide +kernel) (by decide +kernel) (by decide +kernel) (by decide +kernel) (by decide +kernel)) rfl rfl rfl (by decide +kernel) ⟨Nat.le_of_ble_eq_true rfl, Nat.le_of_ble_eq_true rfl⟩) hK hP hD hS hA 42 5 rfl rfl rfl hl.1 rfl (Nat.le_of_ble_eq_true rfl) dL_law_264 ⟨Nat.le_of_ble_eq_true rfl, Nat.le_of_ble_eq_true rfl⟩ (fun H locs hP hD hS => ?_)
  have hP : va_P D vwCl (WW ad cJ cI cZ (bm.1, bm.2.1, bm.2.2.1, 0) (pa.1, pa.2.1, pa.2.2.1, pa.2.2.2.1, pa.2.2.2.2.1, pa.2.2.2.2.2.1, 0) p0 p1 p2 (li.1, li.2.1, li.2.2.1, li.2.2.2.1, li.2.2.2.2.1, li.2.2.2.2.2.1, li.2.2.2.2.2.2.1, li.2.2.2.2.2.2.2.1, 0, 0) (wi.1, wi.2.1, wi.2.2.1, wi.2.2.2.1, wi.2.2.2.2.1, wi.2.2.2.2.2.1, wi.2.2.2.2.2.2.1, wi.2.2.2.2.2.2.2.1, wi.2.2.2.2.2.2.2.2.1, 0, 0) (1) (ms.1, ms.2.1, 0, 0, 0, 0, 0, ms.2.2.2.2.2.2.2) ma mp mk mn ou) H := hP
  have hD : va_D A (WW ad cJ cI cZ (bm.1, bm.2.1, bm.2.2.1, 0) (pa.1, pa.2.1, pa.2.2.1, pa.2.2.2.1, pa.2.2.2.2.1, pa.2.2.2.2.2.1, 0) p0 p1 p2 (li.1, li.2.1, li.2.2.1, li.2.2.2.1, li.2.2.2.2.1, li.2.2.2.2.2.1, li.2.2.2.2.2.2.1, li.2.2.2.2.2.2.2.1, 0, 0) (wi.1, wi.2.1, wi.2.2.1, wi.2.2.2.1, wi.2.2.2.2.1, wi.2.2.2.2.2.1, wi.2.2.2.2.2.2.1, wi.2.2.2.2.2.2.2.1, wi.2.2.2.2.2.2.2.2.1, 0, 0) (1) (ms.1, ms.2.1, 0, 0, 0, 0, 0, ms.2.2.2.2.2.2.2) ma mp mk mn ou) := hD
  refine lv_istore (lv' := [(6, .int (nI 0)), (5, .int (nI 1)), (0, .ref b), (1, .ref (ad 0)), (2, .ref (ad 42)), (3, .ref (ad 62)), (4, .int (nI 3))]) hx hb dL_law_267 hl (by decide) rfl (fun ls hl => ?_)
  refine lv_aload_n hx hb dL_law_269 rfl (lv_at hl 4 rfl) ?_
  refine bm_rcallV (As := []) (rest := []) ⟨hx, hb, hml, hown, hts⟩ (m_thrown) (cwV 0 hts (gdVL (by decide +kernel) (by decide +kernel) (by decide +kernel) (by decide +kernel) (by decide +kernel)) rfl rfl rfl (by decide +kernel) ⟨Nat.le_of_ble_eq_true rfl, Nat.le_of_ble_eq_true rfl⟩) hK hP 42 5 rfl rfl rfl hl.1 rfl (Nat.le_of_ble_eq_true rfl) dL_law_270 ⟨Nat.le_of_ble_eq_true rfl, Nat.le_of_ble_eq_true rfl⟩ ?_
  refine lv_iload hx hb dL_law_273 (lv_at hl 1 rfl) ?_
  refine bm_ni_eq (x := 1) (y := 1) (tgt := 280) hx hb (by decide) (by decide) dL_law_275 (by decide) (fun c_1 => ?_) (fun c_1 => ?_)
  · refine lv_iload hx hb dL_law_280 (lv_at hl 1 rfl) ?_
    refine bm_nz_ne (x := 1) (tgt := 297) hx hb (by decide) dL_law_282 (by decide) (fun c_2 => ?_) (fun c_2 => ?_)
    · refine lv_goto (tgt := 1705) hx hb dL_law_297 (by decide) ?_
      exact v_end hL C0 hAn (Nat.le_of_ble_eq_true rfl) (Nat.le_of_ble_eq_true rfl) hS (lv_sub hl [6, 2] rfl)
    · exact absurd c_2 (by decide)
  · exact absurd c_1 (by decide)

set_option maxHeartbeats 8000000 in
set_option maxRecDepth 100000 in
theorem v_1 {p : Program} {l : Launch} {e : Env} {s : State} {m : MethodId} {below : List Frame} {meth : Method} {c : Code} {b L : Nat} {xs : Nat → Int32} (hlt : l.stackTraces = false) (hL : L = 14) (C0 : lw_At p s m meth c b L xs) (hX : bx_X xW s) (hZ : bx_S RX4 xS s) {A : Nat → Prop} (hA : ∀ q : Nat, s.heap.size ≤ q → A q) (hAn : ∀ q : Nat, q < s.heap.size → ¬ A q) {D : va_G} {ad : Nat → Nat} {cJ cI cZ : ClassId} {bm : gBM} {pa : gPA} {p0 p1 p2 : gPL} {li : gLI} {wi : gWI} {mt : Nat} {ms : gMS} {ma : gMA} {mp : gMP} {mk : gMK} {mn : gMN} {ou : Nat → Int64}  {H : Heap} {locs : List Loc} (hK : va_K D vwCl [(cJ, .long), (cI, .int), (cZ, .boolean)] s) (hP : va_P D vwCl (WW ad cJ cI cZ (bm.1, bm.2.1, bm.2.2.1, 0) (pa.1, pa.2.1, pa.2.2.1, pa.2.2.2.1, pa.2.2.2.2.1, pa.2.2.2.2.2.1, 0) p0 p1 p2 (li.1, li.2.1, li.2.2.1, li.2.2.2.1, li.2.2.2.2.1, li.2.2.2.2.2.1, li.2.2.2.2.2.2.1, li.2.2.2.2.2.2.2.1, 0, 0) (wi.1, wi.2.1, wi.2.2.1, wi.2.2.2.1, wi.2.2.2.2.1, wi.2.2.2.2.2.1, wi.2.2.2.2.2.2.1, wi.2.2.2.2.2.2.2.1, wi.2.2.2.2.2.2.2.2.1, 0, 0) mt (ms.1, ms.2.1, 0, 0, 0, 0, 0, ms.2.2.2.2.2.2.2) ma mp mk mn ou) H) (hD : va_D A (WW ad cJ cI cZ (bm.1, bm.2.1, bm.2.2.1, 0) (pa.1, pa.2.1, pa.2.2.1, pa.2.2.2.1, pa.2.2.2.2.1, pa.2.2.2.2.2.1, 0) p0 p1 p2 (li.1, li.2.1, li.2.2.1, li.2.2.2.1, li.2.2.2.2.1, li.2.2.2.2.2.1, li.2.2.2.2.2.2.1, li.2.2.2.2.2.2.2.1, 0, 0) (wi.1, wi.2.1, wi.2.2.1, wi.2.2.2.1, wi.2.2.2.2.1, wi.2.2.2.2.2.1, wi.2.2.2.2.2.2.1, wi.2.2.2.2.2.2.2.1, wi.2.2.2.2.2.2.2.2.1, 0, 0) mt (ms.1, ms.2.1, 0, 0, 0, 0, 0, ms.2.2.2.2.2.2.2) ma mp mk mn ou)) (hS : va_S A s.heap H locs) {ls : Array Slot} (hl : lv_has ls 8 [(0, .ref b), (1, .ref (ad 0)), (2, .ref (ad 42)), (3, .ref (ad 62)), (4, .int (nI 3))]) : W p l e room_1 s m #[Value.ref b] below meth c H locs 63 2864 (lw_Z below #[Value.ref b] s) (F0 m 300 ls []) := by
  obtain ⟨hx, hb, hr, hml, hown, hts, hXs, hbl, hlocks, hgv⟩ := id C0
  have hbA := hAn b hbl
  refine lv_aload_n hx hb dL_law_300 rfl (lv_at hl 1 rfl) ?_
  refine lv_aload_n hx hb dL_law_301 rfl (lv_at hl 0 rfl) ?_
  refine lv_iload hx hb dL_law_302 (lv_at hl 4 rfl) ?_
  refine lv_iconst (v := nI 1) hx hb dL_law_304 (by decide) ?_
  refine bm_nadd hx hb dL_law_305 ?_
  refine bm_sld hx hb hXs hbl hbA hS (j := (3 + 1)) (by omega) (by omega) dL_law_306 ?_
  refine lv_aload_n hx hb dL_law_307 rfl (lv_at hl 0 rfl) ?_
  refine lv_iload hx hb dL_law_308 (lv_at hl 4 rfl) ?_
  refine lv_iconst (v := nI 2) hx hb dL_law_310 (by decide) ?_
  refine bm_nadd hx hb dL_law_311 ?_
  refine bm_sld hx hb hXs hbl hbA hS (j := (3 + 2)) (by omega) (by omega) dL_law_312 ?_
  refine lv_i2l (v := (xs (3 + 2)).toInt64) hx hb dL_law_313 rfl ?_
  refine lv_bipush (v := nI 32) hx hb dL_law_314 (by decide) ?_
  refine lv_lshl (v := ((xs (3 + 2)).toInt64) <<< ((nI 32).toInt64 &&& 63)) hx hb dL_law_316 rfl ?_
  refine lv_aload_n hx hb dL_law_317 rfl (lv_at hl 0 rfl) ?_
  refine lv_iload hx hb dL_law_318 (lv_at hl 4 rfl) ?_
  refine lv_iconst (v := nI 3) hx hb dL_law_320 (by decide) ?_
  refine bm_nadd hx hb dL_law_321 ?_
  refine bm_sld hx hb hXs hbl hbA hS (j := (3 + 3)) (by omega) (by omega) dL_law_322 ?_
  refine lv_i2l (v := (xs (3 + 3)).toInt64) hx hb dL_law_323 rfl ?_
  refine lv_ldc2 (v := 4294967295) hx hb hown (hts (.constantLong RL 75 4294967295) (by decide +kernel)) dL_law_324 ?_
  refine lv_land hx hb dL_law_327 ?_
  refine lv_lor hx hb dL_law_328 ?_
  refine lv_aload_n hx hb dL_law_329 rfl (lv_at hl 0 rfl) ?_
  refine lv_iload hx hb dL_law_330 (lv_at hl 4 rfl) ?_
  refine lv_iconst (v := nI 4) hx hb dL_law_332 (by decide) ?_
  refine bm_nadd hx hb dL_law_333 ?_
  refine bm_sld hx hb hXs hbl hbA hS (j := (3 + 4)) (by omega) (by omega) dL_law_334 ?_
  refine lv_i2l (v := (xs (3 + 4)).toInt64) hx hb dL_law_335 rfl ?_
  refine lv_bipush (v := nI 32) hx hb dL_law_336 (by decide) ?_
  refine lv_lshl (v := ((xs (3 + 4)).toInt64) <<< ((nI 32).toInt64 &&& 63)) hx hb dL_law_338 rfl ?_
  refine lv_aload_n hx hb dL_law_339 rfl (lv_at hl 0 rfl) ?_
  refine lv_iload hx hb dL_law_340 (lv_at hl 4 rfl) ?_
  refine lv_iconst (v := nI 5) hx hb dL_law_342 (by decide) ?_
  refine bm_nadd hx hb dL_law_343 ?_
  refine bm_sld hx hb hXs hbl hbA hS (j := (3 + 5)) (by omega) (by omega) dL_law_344 ?_
  refine lv_i2l (v := (xs (3 + 5)).toInt64) hx hb dL_law_345 rfl ?_
  refine lv_ldc2 (v := 4294967295) hx hb hown (hts (.constantLong RL 75 4294967295) (by decide +kernel)) dL_law_346 ?_
  refine lv_land hx hb dL_law_349 ?_
  refine lv_lor hx hb dL_law_350 ?_
  refine lv_aload_n hx hb dL_law_351 rfl (lv_at hl 0 rfl) ?_
  refine lv_iload hx hb dL_law_352 (lv_at hl 4 rfl) ?_
  refine lv_bipush (v := nI 6) hx hb dL_law_354 (by decide) ?_
  refine bm_nadd hx hb dL_law_356 ?_
  refine bm_sld hx hb hXs hbl hbA hS (j := (3 + 6)) (by omega) (by omega) dL_law_357 ?_
  refine lv_aload_n hx hb dL_law_358 rfl (lv_at hl 3 rfl) ?_
  refine bx_hcallS (n := 6) (As := [.ref (ad 0), .int (xs (3 + 1)), .long ((((xs (3 + 2)).toInt64) <<< ((nI 32).toInt64 &&& 63)) ||| (((xs (3 + 3)).toInt64) &&& 4294967295)), .long ((((xs (3 + 4)).toInt64) <<< ((nI 32).toInt64 &&& 63)) ||| (((xs (3 + 5)).toInt64) &&& 4294967295)), .int (xs (3 + 6)), .ref (ad 62)]) (rest := []) ⟨hx, hb, hml, hown, hts⟩ ((h_put hlt) H.size) rfl rfl (Nat.le_of_ble_eq_true rfl) (Nat.le_of_ble_eq_true rfl) (gdH (by decide +kernel)) (by decide +kernel) rfl hK hP hD hS hA hX hZ hAn rfl hl.1 rfl (Nat.le_of_ble_eq_true rfl) dL_law_359 ⟨Nat.le_of_ble_eq_true rfl, Nat.le_of_ble_eq_true rfl⟩ (fun H locs hP hD hS => ?_)
  have hP : va_P D vwCl (WW ad cJ cI cZ (bm.1, bm.2.1, bm.2.2.1, 0) (pa.1, pa.2.1, pa.2.2.1, pa.2.2.2.1, pa.2.2.2.2.1, pa.2.2.2.2.2.1, 0) p0 p1 p2 (li.1, li.2.1, li.2.2.1, li.2.2.2.1, li.2.2.2.2.1, li.2.2.2.2.2.1, li.2.2.2.2.2.2.1, li.2.2.2.2.2.2.2.1, 0, 0) (wi.1, wi.2.1, wi.2.2.1, wi.2.2.2.1, wi.2.2.2.2.1, wi.2.2.2.2.2.1, wi.2.2.2.2.2.2.1, wi.2.2.2.2.2.2.2.1, wi.2.2.2.2.2.2.2.2.1, 0, 0) mt (ms.1, ms.2.1, 0, 0, 0, 0, 0, ms.2.2.2.2.2.2.2) ma mp mk mn ou) H := hP
  have hD : va_D A (WW ad cJ cI cZ (bm.1, bm.2.1, bm.2.2.1, 0) (pa.1, pa.2.1, pa.2.2.1, pa.2.2.2.1, pa.2.2.2.2.1, pa.2.2.2.2.2.1, 0) p0 p1 p2 (li.1, li.2.1, li.2.2.1, li.2.2.2.1, li.2.2.2.2.1, li.2.2.2.2.2.1, li.2.2.2.2.2.2.1, li.2.2.2.2.2.2.2.1, 0, 0) (wi.1, wi.2.1, wi.2.2.1, wi.2.2.2.1, wi.2.2.2.2.1, wi.2.2.2.2.2.1, wi.2.2.2.2.2.2.1, wi.2.2.2.2.2.2.2.1, wi.2.2.2.2.2.2.2.2.1, 0, 0) mt (ms.1, ms.2.1, 0, 0, 0, 0, 0, ms.2.2.2.2.2.2.2) ma mp mk mn ou) := hD
  refine lv_istore (lv' := [(5, .int (nI 1)), (0, .ref b), (1, .ref (ad 0)), (2, .ref (ad 42)), (3, .ref (ad 62)), (4, .int (nI 3))]) hx hb dL_law_362 hl (by decide) rfl (fun ls hl => ?_)
  refine lv_aload_n hx hb dL_law_364 rfl (lv_at hl 3 rfl) ?_
  refine lv_aload_n hx hb dL_law_365 rfl (lv_at hl 1 rfl) ?_
  refine lv_iload hx hb dL_law_366 (lv_at hl 5 rfl) ?_
  refine lv_iconst (v := nI 1) hx hb dL_law_368 (by decide) ?_
  refine bm_nadd hx hb dL_law_369 ?_
  refine bm_sld hx hb hXs hbl hbA hS (j := (3 + 1)) (by omega) (by omega) dL_law_370 ?_
  refine lv_aload_n hx hb dL_law_371 rfl (lv_at hl 1 rfl) ?_
  refine lv_iload hx hb dL_law_372 (lv_at hl 5 rfl) ?_
  refine lv_iconst (v := nI 2) hx hb dL_law_374 (by decide) ?_
  refine bm_nadd hx hb dL_law_375 ?_
  refine bm_sld hx hb hXs hbl hbA hS (j := (3 + 2)) (by omega) (by omega) dL_law_376 ?_
  refine lv_i2l (v := (xs (3 + 2)).toInt64) hx hb dL_law_377 rfl ?_
  refine lv_bipush (v := nI 32) hx hb dL_law_378 (by decide) ?_
  refine lv_lshl (v := ((xs (3 + 2)).toInt64) <<< ((nI 32).toInt64 &&& 63)) hx hb dL_law_380 rfl ?_
  refine lv_aload_n hx hb dL_law_381 rfl (lv_at hl 1 rfl) ?_
  refine lv_iload hx hb dL_law_382 (lv_at hl 5 rfl) ?_
  refine lv_iconst (v := nI 3) hx hb dL_law_384 (by decide) ?_
  refine bm_nadd hx hb dL_law_385 ?_
  refine bm_sld hx hb hXs hbl hbA hS (j := (3 + 3)) (by omega) (by omega) dL_law_386 ?_
  refine lv_i2l (v := (xs (3 + 3)).toInt64) hx hb dL_law_387 rfl ?_
  refine lv_ldc2 (v := 4294967295) hx hb hown (hts (.constantLong RL 75 4294967295) (by decide +kernel)) dL_law_388 ?_
  refine lv_land hx hb dL_law_391 ?_
  refine lv_lor hx hb dL_law_392 ?_
  refine lv_aload_n hx hb dL_law_393 rfl (lv_at hl 1 rfl) ?_
  refine lv_iload hx hb dL_law_394 (lv_at hl 5 rfl) ?_
  refine lv_iconst (v := nI 4) hx hb dL_law_396 (by decide) ?_
  refine bm_nadd hx hb dL_law_397 ?_
  refine bm_sld hx hb hXs hbl hbA hS (j := (3 + 4)) (by omega) (by omega) dL_law_398 ?_
  refine lv_i2l (v := (xs (3 + 4)).toInt64) hx hb dL_law_399 rfl ?_
  refine lv_bipush (v := nI 32) hx hb dL_law_400 (by decide) ?_
  refine lv_lshl (v := ((xs (3 + 4)).toInt64) <<< ((nI 32).toInt64 &&& 63)) hx hb dL_law_402 rfl ?_
  refine lv_aload_n hx hb dL_law_403 rfl (lv_at hl 1 rfl) ?_
  refine lv_iload hx hb dL_law_404 (lv_at hl 5 rfl) ?_
  refine lv_iconst (v := nI 5) hx hb dL_law_406 (by decide) ?_
  refine bm_nadd hx hb dL_law_407 ?_
  refine bm_sld hx hb hXs hbl hbA hS (j := (3 + 5)) (by omega) (by omega) dL_law_408 ?_
  refine lv_i2l (v := (xs (3 + 5)).toInt64) hx hb dL_law_409 rfl ?_
  refine lv_ldc2 (v := 4294967295) hx hb hown (hts (.constantLong RL 75 4294967295) (by decide +kernel)) dL_law_410 ?_
  refine lv_land hx hb dL_law_413 ?_
  refine lv_lor hx hb dL_law_414 ?_
  refine lv_aload_n hx hb dL_law_415 rfl (lv_at hl 1 rfl) ?_
  refine lv_iload hx hb dL_law_416 (lv_at hl 5 rfl) ?_
  refine lv_bipush (v := nI 6) hx hb dL_law_418 (by decide) ?_
  refine bm_nadd hx hb dL_law_420 ?_
  refine bm_sld hx hb hXs hbl hbA hS (j := (3 + 6)) (by omega) (by omega) dL_law_421 ?_
  refine bm_wcallV (As := [.int (xs (3 + 1)), .long ((((xs (3 + 2)).toInt64) <<< ((nI 32).toInt64 &&& 63)) ||| (((xs (3 + 3)).toInt64) &&& 4294967295)), .long ((((xs (3 + 4)).toInt64) <<< ((nI 32).toInt64 &&& 63)) ||| (((xs (3 + 5)).toInt64) &&& 4294967295)), .int (xs (3 + 6))]) (rest := []) ⟨hx, hb, hml, hown, hts⟩ (m_put) (cwV 4 hts (gdVL (by decide +kernel) (by decide +kernel) (by decide +kernel) (by decide +kernel) (by decide +kernel)) rfl rfl rfl (by decide +kernel) ⟨Nat.le_of_ble_eq_true rfl, Nat.le_of_ble_eq_true rfl⟩) hK hP hD hS hA 42 5 rfl rfl rfl hl.1 rfl (Nat.le_of_ble_eq_true rfl) dL_law_422 ⟨Nat.le_of_ble_eq_true rfl, Nat.le_of_ble_eq_true rfl⟩ (fun H locs hP hD hS => ?_)
  have hP : va_P D vwCl (WW ad cJ cI cZ (bm.1, bm.2.1, bm.2.2.1, 0) (pa.1, pa.2.1, pa.2.2.1, pa.2.2.2.1, pa.2.2.2.2.1, pa.2.2.2.2.2.1, 0) p0 p1 p2 (li.1, li.2.1, li.2.2.1, li.2.2.2.1, li.2.2.2.2.1, li.2.2.2.2.2.1, li.2.2.2.2.2.2.1, li.2.2.2.2.2.2.2.1, 0, 0) (wi.1, wi.2.1, wi.2.2.1, wi.2.2.2.1, wi.2.2.2.2.1, wi.2.2.2.2.2.1, wi.2.2.2.2.2.2.1, wi.2.2.2.2.2.2.2.1, wi.2.2.2.2.2.2.2.2.1, 0, 0) (1) (ms.1, ms.2.1, 0, 0, 0, 0, 0, ms.2.2.2.2.2.2.2) ma mp mk mn ou) H := hP
  have hD : va_D A (WW ad cJ cI cZ (bm.1, bm.2.1, bm.2.2.1, 0) (pa.1, pa.2.1, pa.2.2.1, pa.2.2.2.1, pa.2.2.2.2.1, pa.2.2.2.2.2.1, 0) p0 p1 p2 (li.1, li.2.1, li.2.2.1, li.2.2.2.1, li.2.2.2.2.1, li.2.2.2.2.2.1, li.2.2.2.2.2.2.1, li.2.2.2.2.2.2.2.1, 0, 0) (wi.1, wi.2.1, wi.2.2.1, wi.2.2.2.1, wi.2.2.2.2.1, wi.2.2.2.2.2.1, wi.2.2.2.2.2.2.1, wi.2.2.2.2.2.2.2.1, wi.2.2.2.2.2.2.2.2.1, 0, 0) (1) (ms.1, ms.2.1, 0, 0, 0, 0, 0, ms.2.2.2.2.2.2.2) ma mp mk mn ou) := hD
  refine lv_istore (lv' := [(6, .int (bm_b false)), (5, .int (nI 1)), (0, .ref b), (1, .ref (ad 0)), (2, .ref (ad 42)), (3, .ref (ad 62)), (4, .int (nI 3))]) hx hb dL_law_425 hl (by decide) rfl (fun ls hl => ?_)
  refine lv_aload_n hx hb dL_law_427 rfl (lv_at hl 4 rfl) ?_
  refine bm_rcallV (As := []) (rest := []) ⟨hx, hb, hml, hown, hts⟩ (m_thrown) (cwV 0 hts (gdVL (by decide +kernel) (by decide +kernel) (by decide +kernel) (by decide +kernel) (by decide +kernel)) rfl rfl rfl (by decide +kernel) ⟨Nat.le_of_ble_eq_true rfl, Nat.le_of_ble_eq_true rfl⟩) hK hP 42 5 rfl rfl rfl hl.1 rfl (Nat.le_of_ble_eq_true rfl) dL_law_428 ⟨Nat.le_of_ble_eq_true rfl, Nat.le_of_ble_eq_true rfl⟩ ?_
  refine lv_iload hx hb dL_law_431 (lv_at hl 1 rfl) ?_
  refine bm_ni_eq (x := 1) (y := 1) (tgt := 438) hx hb (by decide) (by decide) dL_law_433 (by decide) (fun c_1 => ?_) (fun c_1 => ?_)
  · refine lv_iload hx hb dL_law_438 (lv_at hl 1 rfl) ?_
    refine bm_nz_ne (x := 1) (tgt := 462) hx hb (by decide) dL_law_440 (by decide) (fun c_2 => ?_) (fun c_2 => ?_)
    · refine lv_goto (tgt := 1705) hx hb dL_law_462 (by decide) ?_
      exact v_end hL C0 hAn (Nat.le_of_ble_eq_true rfl) (Nat.le_of_ble_eq_true rfl) hS (lv_sub hl [6, 2] rfl)
    · exact absurd c_2 (by decide)
  · exact absurd c_1 (by decide)

set_option maxHeartbeats 8000000 in
set_option maxRecDepth 100000 in
theorem v_2 {p : Program} {l : Launch} {e : Env} {s : State} {m : MethodId} {below : List Frame} {meth : Method} {c : Code} {b L : Nat} {xs : Nat → Int32} (hlt : l.stackTraces = false) (hL : L = 14) (C0 : lw_At p s m meth c b L xs) (hX : bx_X xW s) (hZ : bx_S RX4 xS s) {A : Nat → Prop} (hA : ∀ q : Nat, s.heap.size ≤ q → A q) (hAn : ∀ q : Nat, q < s.heap.size → ¬ A q) {D : va_G} {ad : Nat → Nat} {cJ cI cZ : ClassId} {bm : gBM} {pa : gPA} {p0 p1 p2 : gPL} {li : gLI} {wi : gWI} {mt : Nat} {ms : gMS} {ma : gMA} {mp : gMP} {mk : gMK} {mn : gMN} {ou : Nat → Int64}  {H : Heap} {locs : List Loc} (hK : va_K D vwCl [(cJ, .long), (cI, .int), (cZ, .boolean)] s) (hP : va_P D vwCl (WW ad cJ cI cZ (bm.1, bm.2.1, bm.2.2.1, 0) (pa.1, pa.2.1, pa.2.2.1, pa.2.2.2.1, pa.2.2.2.2.1, pa.2.2.2.2.2.1, 0) p0 p1 p2 (li.1, li.2.1, li.2.2.1, li.2.2.2.1, li.2.2.2.2.1, li.2.2.2.2.2.1, li.2.2.2.2.2.2.1, li.2.2.2.2.2.2.2.1, 0, 0) (wi.1, wi.2.1, wi.2.2.1, wi.2.2.2.1, wi.2.2.2.2.1, wi.2.2.2.2.2.1, wi.2.2.2.2.2.2.1, wi.2.2.2.2.2.2.2.1, wi.2.2.2.2.2.2.2.2.1, 0, 0) mt (ms.1, ms.2.1, 0, 0, 0, 0, 0, ms.2.2.2.2.2.2.2) ma mp mk mn ou) H) (hD : va_D A (WW ad cJ cI cZ (bm.1, bm.2.1, bm.2.2.1, 0) (pa.1, pa.2.1, pa.2.2.1, pa.2.2.2.1, pa.2.2.2.2.1, pa.2.2.2.2.2.1, 0) p0 p1 p2 (li.1, li.2.1, li.2.2.1, li.2.2.2.1, li.2.2.2.2.1, li.2.2.2.2.2.1, li.2.2.2.2.2.2.1, li.2.2.2.2.2.2.2.1, 0, 0) (wi.1, wi.2.1, wi.2.2.1, wi.2.2.2.1, wi.2.2.2.2.1, wi.2.2.2.2.2.1, wi.2.2.2.2.2.2.1, wi.2.2.2.2.2.2.2.1, wi.2.2.2.2.2.2.2.2.1, 0, 0) mt (ms.1, ms.2.1, 0, 0, 0, 0, 0, ms.2.2.2.2.2.2.2) ma mp mk mn ou)) (hS : va_S A s.heap H locs) {ls : Array Slot} (hl : lv_has ls 8 [(0, .ref b), (1, .ref (ad 0)), (2, .ref (ad 42)), (3, .ref (ad 62)), (4, .int (nI 3))]) : W p l e room_1 s m #[Value.ref b] below meth c H locs 63 2864 (lw_Z below #[Value.ref b] s) (F0 m 465 ls []) := by
  obtain ⟨hx, hb, hr, hml, hown, hts, hXs, hbl, hlocks, hgv⟩ := id C0
  have hbA := hAn b hbl
  refine lv_aload_n hx hb dL_law_465 rfl (lv_at hl 1 rfl) ?_
  refine lv_aload_n hx hb dL_law_466 rfl (lv_at hl 0 rfl) ?_
  refine lv_iload hx hb dL_law_467 (lv_at hl 4 rfl) ?_
  refine lv_iconst (v := nI 1) hx hb dL_law_469 (by decide) ?_
  refine bm_nadd hx hb dL_law_470 ?_
  refine bm_sld hx hb hXs hbl hbA hS (j := (3 + 1)) (by omega) (by omega) dL_law_471 ?_
  refine lv_aload_n hx hb dL_law_472 rfl (lv_at hl 0 rfl) ?_
  refine lv_iload hx hb dL_law_473 (lv_at hl 4 rfl) ?_
  refine lv_iconst (v := nI 2) hx hb dL_law_475 (by decide) ?_
  refine bm_nadd hx hb dL_law_476 ?_
  refine bm_sld hx hb hXs hbl hbA hS (j := (3 + 2)) (by omega) (by omega) dL_law_477 ?_
  refine lv_if_eq (x := (xs (3 + 2))) (tgt := 485) hx hb dL_law_478 (by decide) (fun c_1 => ?_) (fun c_1 => ?_)
  · refine lv_iconst (v := nI 0) hx hb dL_law_485 (by decide) ?_
    refine lv_aload_n hx hb dL_law_486 rfl (lv_at hl 3 rfl) ?_
    refine bx_hcallS (n := 4) (As := [.ref (ad 0), .int (xs (3 + 1)), .int (nI 0), .ref (ad 62)]) (rest := []) ⟨hx, hb, hml, hown, hts⟩ ((h_lock hlt) H.size) rfl rfl (Nat.le_of_ble_eq_true rfl) (Nat.le_of_ble_eq_true rfl) (gdH (by decide +kernel)) (by decide +kernel) rfl hK hP hD hS hA hX hZ hAn rfl hl.1 rfl (Nat.le_of_ble_eq_true rfl) dL_law_487 ⟨Nat.le_of_ble_eq_true rfl, Nat.le_of_ble_eq_true rfl⟩ (fun H locs hP hD hS => ?_)
    have hP : va_P D vwCl (WW ad cJ cI cZ (bm.1, bm.2.1, bm.2.2.1, 0) (pa.1, pa.2.1, pa.2.2.1, pa.2.2.2.1, pa.2.2.2.2.1, pa.2.2.2.2.2.1, 0) p0 p1 p2 (li.1, li.2.1, li.2.2.1, li.2.2.2.1, li.2.2.2.2.1, li.2.2.2.2.2.1, li.2.2.2.2.2.2.1, li.2.2.2.2.2.2.2.1, 0, 0) (wi.1, wi.2.1, wi.2.2.1, wi.2.2.2.1, wi.2.2.2.2.1, wi.2.2.2.2.2.1, wi.2.2.2.2.2.2.1, wi.2.2.2.2.2.2.2.1, wi.2.2.2.2.2.2.2.2.1, 0, 0) mt (ms.1, ms.2.1, 0, 0, 0, 0, 0, ms.2.2.2.2.2.2.2) ma mp mk mn ou) H := hP
    have hD : va_D A (WW ad cJ cI cZ (bm.1, bm.2.1, bm.2.2.1, 0) (pa.1, pa.2.1, pa.2.2.1, pa.2.2.2.1, pa.2.2.2.2.1, pa.2.2.2.2.2.1, 0) p0 p1 p2 (li.1, li.2.1, li.2.2.1, li.2.2.2.1, li.2.2.2.2.1, li.2.2.2.2.2.1, li.2.2.2.2.2.2.1, li.2.2.2.2.2.2.2.1, 0, 0) (wi.1, wi.2.1, wi.2.2.1, wi.2.2.2.1, wi.2.2.2.2.1, wi.2.2.2.2.2.1, wi.2.2.2.2.2.2.1, wi.2.2.2.2.2.2.2.1, wi.2.2.2.2.2.2.2.2.1, 0, 0) mt (ms.1, ms.2.1, 0, 0, 0, 0, 0, ms.2.2.2.2.2.2.2) ma mp mk mn ou) := hD
    refine lv_istore (lv' := [(5, .int (nI 1)), (0, .ref b), (1, .ref (ad 0)), (2, .ref (ad 42)), (3, .ref (ad 62)), (4, .int (nI 3))]) hx hb dL_law_490 hl (by decide) rfl (fun ls hl => ?_)
    refine lv_aload_n hx hb dL_law_492 rfl (lv_at hl 3 rfl) ?_
    refine lv_aload_n hx hb dL_law_493 rfl (lv_at hl 1 rfl) ?_
    refine lv_iload hx hb dL_law_494 (lv_at hl 5 rfl) ?_
    refine lv_iconst (v := nI 1) hx hb dL_law_496 (by decide) ?_
    refine bm_nadd hx hb dL_law_497 ?_
    refine bm_sld hx hb hXs hbl hbA hS (j := (3 + 1)) (by omega) (by omega) dL_law_498 ?_
    refine lv_aload_n hx hb dL_law_499 rfl (lv_at hl 1 rfl) ?_
    refine lv_iload hx hb dL_law_500 (lv_at hl 5 rfl) ?_
    refine lv_iconst (v := nI 2) hx hb dL_law_502 (by decide) ?_
    refine bm_nadd hx hb dL_law_503 ?_
    refine bm_sld hx hb hXs hbl hbA hS (j := (3 + 2)) (by omega) (by omega) dL_law_504 ?_
    refine lv_if_eq (x := (xs (3 + 2))) (tgt := 512) hx hb dL_law_505 (by decide) (fun c_2 => ?_) (fun c_2 => ?_)
    · refine lv_iconst (v := nI 0) hx hb dL_law_512 (by decide) ?_
      refine bm_wcallV (As := [.int (xs (3 + 1)), .int (nI 0)]) (rest := []) ⟨hx, hb, hml, hown, hts⟩ (m_lock) (cwV 2 hts (gdVL (by decide +kernel) (by decide +kernel) (by decide +kernel) (by decide +kernel) (by decide +kernel)) rfl rfl rfl (by decide +kernel) ⟨Nat.le_of_ble_eq_true rfl, Nat.le_of_ble_eq_true rfl⟩) hK hP hD hS hA 42 5 rfl rfl rfl hl.1 rfl (Nat.le_of_ble_eq_true rfl) dL_law_513 ⟨Nat.le_of_ble_eq_true rfl, Nat.le_of_ble_eq_true rfl⟩ (fun H locs hP hD hS => ?_)
      have hP : va_P D vwCl (WW ad cJ cI cZ (bm.1, bm.2.1, bm.2.2.1, 0) (pa.1, pa.2.1, pa.2.2.1, pa.2.2.2.1, pa.2.2.2.2.1, pa.2.2.2.2.2.1, 0) p0 p1 p2 (li.1, li.2.1, li.2.2.1, li.2.2.2.1, li.2.2.2.2.1, li.2.2.2.2.2.1, li.2.2.2.2.2.2.1, li.2.2.2.2.2.2.2.1, 0, 0) (wi.1, wi.2.1, wi.2.2.1, wi.2.2.2.1, wi.2.2.2.2.1, wi.2.2.2.2.2.1, wi.2.2.2.2.2.2.1, wi.2.2.2.2.2.2.2.1, wi.2.2.2.2.2.2.2.2.1, 0, 0) (1) (ms.1, ms.2.1, 0, 0, 0, 0, 0, ms.2.2.2.2.2.2.2) ma mp mk mn ou) H := hP
      have hD : va_D A (WW ad cJ cI cZ (bm.1, bm.2.1, bm.2.2.1, 0) (pa.1, pa.2.1, pa.2.2.1, pa.2.2.2.1, pa.2.2.2.2.1, pa.2.2.2.2.2.1, 0) p0 p1 p2 (li.1, li.2.1, li.2.2.1, li.2.2.2.1, li.2.2.2.2.1, li.2.2.2.2.2.1, li.2.2.2.2.2.2.1, li.2.2.2.2.2.2.2.1, 0, 0) (wi.1, wi.2.1, wi.2.2.1, wi.2.2.2.1, wi.2.2.2.2.1, wi.2.2.2.2.2.1, wi.2.2.2.2.2.2.1, wi.2.2.2.2.2.2.2.1, wi.2.2.2.2.2.2.2.2.1, 0, 0) (1) (ms.1, ms.2.1, 0, 0, 0, 0, 0, ms.2.2.2.2.2.2.2) ma mp mk mn ou) := hD
      refine lv_istore (lv' := [(6, .int (bm_b false)), (5, .int (nI 1)), (0, .ref b), (1, .ref (ad 0)), (2, .ref (ad 42)), (3, .ref (ad 62)), (4, .int (nI 3))]) hx hb dL_law_516 hl (by decide) rfl (fun ls hl => ?_)
      refine lv_aload_n hx hb dL_law_518 rfl (lv_at hl 4 rfl) ?_
      refine bm_rcallV (As := []) (rest := []) ⟨hx, hb, hml, hown, hts⟩ (m_thrown) (cwV 0 hts (gdVL (by decide +kernel) (by decide +kernel) (by decide +kernel) (by decide +kernel) (by decide +kernel)) rfl rfl rfl (by decide +kernel) ⟨Nat.le_of_ble_eq_true rfl, Nat.le_of_ble_eq_true rfl⟩) hK hP 42 5 rfl rfl rfl hl.1 rfl (Nat.le_of_ble_eq_true rfl) dL_law_519 ⟨Nat.le_of_ble_eq_true rfl, Nat.le_of_ble_eq_true rfl⟩ ?_
      refine lv_iload hx hb dL_law_522 (lv_at hl 1 rfl) ?_
      refine bm_ni_eq (x := 1) (y := 1) (tgt := 529) hx hb (by decide) (by decide) dL_law_524 (by decide) (fun c_3 => ?_) (fun c_3 => ?_)
      · refine lv_iload hx hb dL_law_529 (lv_at hl 1 rfl) ?_
        refine bm_nz_ne (x := 1) (tgt := 553) hx hb (by decide) dL_law_531 (by decide) (fun c_4 => ?_) (fun c_4 => ?_)
        · refine lv_goto (tgt := 1705) hx hb dL_law_553 (by decide) ?_
          exact v_end hL C0 hAn (Nat.le_of_ble_eq_true rfl) (Nat.le_of_ble_eq_true rfl) hS (lv_sub hl [6, 2] rfl)
        · exact absurd c_4 (by decide)
      · exact absurd c_3 (by decide)
    · refine lv_iconst (v := nI 1) hx hb dL_law_508 (by decide) ?_
      refine lv_goto (tgt := 513) hx hb dL_law_509 (by decide) ?_
      refine bm_wcallV (As := [.int (xs (3 + 1)), .int (nI 1)]) (rest := []) ⟨hx, hb, hml, hown, hts⟩ (m_lock) (cwV 2 hts (gdVL (by decide +kernel) (by decide +kernel) (by decide +kernel) (by decide +kernel) (by decide +kernel)) rfl rfl rfl (by decide +kernel) ⟨Nat.le_of_ble_eq_true rfl, Nat.le_of_ble_eq_true rfl⟩) hK hP hD hS hA 42 5 rfl rfl rfl hl.1 rfl (Nat.le_of_ble_eq_true rfl) dL_law_513 ⟨Nat.le_of_ble_eq_true rfl, Nat.le_of_ble_eq_true rfl⟩ (fun H locs hP hD hS => ?_)
      have hP : va_P D vwCl (WW ad cJ cI cZ (bm.1, bm.2.1, bm.2.2.1, 0) (pa.1, pa.2.1, pa.2.2.1, pa.2.2.2.1, pa.2.2.2.2.1, pa.2.2.2.2.2.1, 0) p0 p1 p2 (li.1, li.2.1, li.2.2.1, li.2.2.2.1, li.2.2.2.2.1, li.2.2.2.2.2.1, li.2.2.2.2.2.2.1, li.2.2.2.2.2.2.2.1, 0, 0) (wi.1, wi.2.1, wi.2.2.1, wi.2.2.2.1, wi.2.2.2.2.1, wi.2.2.2.2.2.1, wi.2.2.2.2.2.2.1, wi.2.2.2.2.2.2.2.1, wi.2.2.2.2.2.2.2.2.1, 0, 0) (1) (ms.1, ms.2.1, 0, 0, 0, 0, 0, ms.2.2.2.2.2.2.2) ma mp mk mn ou) H := hP
      have hD : va_D A (WW ad cJ cI cZ (bm.1, bm.2.1, bm.2.2.1, 0) (pa.1, pa.2.1, pa.2.2.1, pa.2.2.2.1, pa.2.2.2.2.1, pa.2.2.2.2.2.1, 0) p0 p1 p2 (li.1, li.2.1, li.2.2.1, li.2.2.2.1, li.2.2.2.2.1, li.2.2.2.2.2.1, li.2.2.2.2.2.2.1, li.2.2.2.2.2.2.2.1, 0, 0) (wi.1, wi.2.1, wi.2.2.1, wi.2.2.2.1, wi.2.2.2.2.1, wi.2.2.2.2.2.1, wi.2.2.2.2.2.2.1, wi.2.2.2.2.2.2.2.1, wi.2.2.2.2.2.2.2.2.1, 0, 0) (1) (ms.1, ms.2.1, 0, 0, 0, 0, 0, ms.2.2.2.2.2.2.2) ma mp mk mn ou) := hD
      refine lv_istore (lv' := [(6, .int (bm_b false)), (5, .int (nI 1)), (0, .ref b), (1, .ref (ad 0)), (2, .ref (ad 42)), (3, .ref (ad 62)), (4, .int (nI 3))]) hx hb dL_law_516 hl (by decide) rfl (fun ls hl => ?_)
      refine lv_aload_n hx hb dL_law_518 rfl (lv_at hl 4 rfl) ?_
      refine bm_rcallV (As := []) (rest := []) ⟨hx, hb, hml, hown, hts⟩ (m_thrown) (cwV 0 hts (gdVL (by decide +kernel) (by decide +kernel) (by decide +kernel) (by decide +kernel) (by decide +kernel)) rfl rfl rfl (by decide +kernel) ⟨Nat.le_of_ble_eq_true rfl, Nat.le_of_ble_eq_true rfl⟩) hK hP 42 5 rfl rfl rfl hl.1 rfl (Nat.le_of_ble_eq_true rfl) dL_law_519 ⟨Nat.le_of_ble_eq_true rfl, Nat.le_of_ble_eq_true rfl⟩ ?_
      refine lv_iload hx hb dL_law_522 (lv_at hl 1 rfl) ?_
      refine bm_ni_eq (x := 1) (y := 1) (tgt := 529) hx hb (by decide) (by decide) dL_law_524 (by decide) (fun c_5 => ?_) (fun c_5 => ?_)
      · refine lv_iload hx hb dL_law_529 (lv_at hl 1 rfl) ?_
        refine bm_nz_ne (x := 1) (tgt := 553) hx hb (by decide) dL_law_531 (by decide) (fun c_6 => ?_) (fun c_6 => ?_)
        · refine lv_goto (tgt := 1705) hx hb dL_law_553 (by decide) ?_
          exact v_end hL C0 hAn (Nat.le_of_ble_eq_true rfl) (Nat.le_of_ble_eq_true rfl) hS (lv_sub hl [6, 2] rfl)
        · exact absurd c_6 (by decide)
      · exact absurd c_5 (by decide)
  · refine lv_iconst (v := nI 1) hx hb dL_law_481 (by decide) ?_
    refine lv_goto (tgt := 486) hx hb dL_law_482 (by decide) ?_
    refine lv_aload_n hx hb dL_law_486 rfl (lv_at hl 3 rfl) ?_
    refine bx_hcallS (n := 4) (As := [.ref (ad 0), .int (xs (3 + 1)), .int (nI 1), .ref (ad 62)]) (rest := []) ⟨hx, hb, hml, hown, hts⟩ ((h_lock hlt) H.size) rfl rfl (Nat.le_of_ble_eq_true rfl) (Nat.le_of_ble_eq_true rfl) (gdH (by decide +kernel)) (by decide +kernel) rfl hK hP hD hS hA hX hZ hAn rfl hl.1 rfl (Nat.le_of_ble_eq_true rfl) dL_law_487 ⟨Nat.le_of_ble_eq_true rfl, Nat.le_of_ble_eq_true rfl⟩ (fun H locs hP hD hS => ?_)
    have hP : va_P D vwCl (WW ad cJ cI cZ (bm.1, bm.2.1, bm.2.2.1, 0) (pa.1, pa.2.1, pa.2.2.1, pa.2.2.2.1, pa.2.2.2.2.1, pa.2.2.2.2.2.1, 0) p0 p1 p2 (li.1, li.2.1, li.2.2.1, li.2.2.2.1, li.2.2.2.2.1, li.2.2.2.2.2.1, li.2.2.2.2.2.2.1, li.2.2.2.2.2.2.2.1, 0, 0) (wi.1, wi.2.1, wi.2.2.1, wi.2.2.2.1, wi.2.2.2.2.1, wi.2.2.2.2.2.1, wi.2.2.2.2.2.2.1, wi.2.2.2.2.2.2.2.1, wi.2.2.2.2.2.2.2.2.1, 0, 0) mt (ms.1, ms.2.1, 0, 0, 0, 0, 0, ms.2.2.2.2.2.2.2) ma mp mk mn ou) H := hP
    have hD : va_D A (WW ad cJ cI cZ (bm.1, bm.2.1, bm.2.2.1, 0) (pa.1, pa.2.1, pa.2.2.1, pa.2.2.2.1, pa.2.2.2.2.1, pa.2.2.2.2.2.1, 0) p0 p1 p2 (li.1, li.2.1, li.2.2.1, li.2.2.2.1, li.2.2.2.2.1, li.2.2.2.2.2.1, li.2.2.2.2.2.2.1, li.2.2.2.2.2.2.2.1, 0, 0) (wi.1, wi.2.1, wi.2.2.1, wi.2.2.2.1, wi.2.2.2.2.1, wi.2.2.2.2.2.1, wi.2.2.2.2.2.2.1, wi.2.2.2.2.2.2.2.1, wi.2.2.2.2.2.2.2.2.1, 0, 0) mt (ms.1, ms.2.1, 0, 0, 0, 0, 0, ms.2.2.2.2.2.2.2) ma mp mk mn ou) := hD
    refine lv_istore (lv' := [(5, .int (nI 1)), (0, .ref b), (1, .ref (ad 0)), (2, .ref (ad 42)), (3, .ref (ad 62)), (4, .int (nI 3))]) hx hb dL_law_490 hl (by decide) rfl (fun ls hl => ?_)
    refine lv_aload_n hx hb dL_law_492 rfl (lv_at hl 3 rfl) ?_
    refine lv_aload_n hx hb dL_law_493 rfl (lv_at hl 1 rfl) ?_
    refine lv_iload hx hb dL_law_494 (lv_at hl 5 rfl) ?_
    refine lv_iconst (v := nI 1) hx hb dL_law_496 (by decide) ?_
    refine bm_nadd hx hb dL_law_497 ?_
    refine bm_sld hx hb hXs hbl hbA hS (j := (3 + 1)) (by omega) (by omega) dL_law_498 ?_
    refine lv_aload_n hx hb dL_law_499 rfl (lv_at hl 1 rfl) ?_
    refine lv_iload hx hb dL_law_500 (lv_at hl 5 rfl) ?_
    refine lv_iconst (v := nI 2) hx hb dL_law_502 (by decide) ?_
    refine bm_nadd hx hb dL_law_503 ?_
    refine bm_sld hx hb hXs hbl hbA hS (j := (3 + 2)) (by omega) (by omega) dL_law_504 ?_
    refine lv_if_eq (x := (xs (3 + 2))) (tgt := 512) hx hb dL_law_505 (by decide) (fun c_7 => ?_) (fun c_7 => ?_)
    · refine lv_iconst (v := nI 0) hx hb dL_law_512 (by decide) ?_
      refine bm_wcallV (As := [.int (xs (3 + 1)), .int (nI 0)]) (rest := []) ⟨hx, hb, hml, hown, hts⟩ (m_lock) (cwV 2 hts (gdVL (by decide +kernel) (by decide +kernel) (by decide +kernel) (by decide +kernel) (by decide +kernel)) rfl rfl rfl (by decide +kernel) ⟨Nat.le_of_ble_eq_true rfl, Nat.le_of_ble_eq_true rfl⟩) hK hP hD hS hA 42 5 rfl rfl rfl hl.1 rfl (Nat.le_of_ble_eq_true rfl) dL_law_513 ⟨Nat.le_of_ble_eq_true rfl, Nat.le_of_ble_eq_true rfl⟩ (fun H locs hP hD hS => ?_)
      have hP : va_P D vwCl (WW ad cJ cI cZ (bm.1, bm.2.1, bm.2.2.1, 0) (pa.1, pa.2.1, pa.2.2.1, pa.2.2.2.1, pa.2.2.2.2.1, pa.2.2.2.2.2.1, 0) p0 p1 p2 (li.1, li.2.1, li.2.2.1, li.2.2.2.1, li.2.2.2.2.1, li.2.2.2.2.2.1, li.2.2.2.2.2.2.1, li.2.2.2.2.2.2.2.1, 0, 0) (wi.1, wi.2.1, wi.2.2.1, wi.2.2.2.1, wi.2.2.2.2.1, wi.2.2.2.2.2.1, wi.2.2.2.2.2.2.1, wi.2.2.2.2.2.2.2.1, wi.2.2.2.2.2.2.2.2.1, 0, 0) (1) (ms.1, ms.2.1, 0, 0, 0, 0, 0, ms.2.2.2.2.2.2.2) ma mp mk mn ou) H := hP
      have hD : va_D A (WW ad cJ cI cZ (bm.1, bm.2.1, bm.2.2.1, 0) (pa.1, pa.2.1, pa.2.2.1, pa.2.2.2.1, pa.2.2.2.2.1, pa.2.2.2.2.2.1, 0) p0 p1 p2 (li.1, li.2.1, li.2.2.1, li.2.2.2.1, li.2.2.2.2.1, li.2.2.2.2.2.1, li.2.2.2.2.2.2.1, li.2.2.2.2.2.2.2.1, 0, 0) (wi.1, wi.2.1, wi.2.2.1, wi.2.2.2.1, wi.2.2.2.2.1, wi.2.2.2.2.2.1, wi.2.2.2.2.2.2.1, wi.2.2.2.2.2.2.2.1, wi.2.2.2.2.2.2.2.2.1, 0, 0) (1) (ms.1, ms.2.1, 0, 0, 0, 0, 0, ms.2.2.2.2.2.2.2) ma mp mk mn ou) := hD
      refine lv_istore (lv' := [(6, .int (bm_b false)), (5, .int (nI 1)), (0, .ref b), (1, .ref (ad 0)), (2, .ref (ad 42)), (3, .ref (ad 62)), (4, .int (nI 3))]) hx hb dL_law_516 hl (by decide) rfl (fun ls hl => ?_)
      refine lv_aload_n hx hb dL_law_518 rfl (lv_at hl 4 rfl) ?_
      refine bm_rcallV (As := []) (rest := []) ⟨hx, hb, hml, hown, hts⟩ (m_thrown) (cwV 0 hts (gdVL (by decide +kernel) (by decide +kernel) (by decide +kernel) (by decide +kernel) (by decide +kernel)) rfl rfl rfl (by decide +kernel) ⟨Nat.le_of_ble_eq_true rfl, Nat.le_of_ble_eq_true rfl⟩) hK hP 42 5 rfl rfl rfl hl.1 rfl (Nat.le_of_ble_eq_true rfl) dL_law_519 ⟨Nat.le_of_ble_eq_true rfl, Nat.le_of_ble_eq_true rfl⟩ ?_
      refine lv_iload hx hb dL_law_522 (lv_at hl 1 rfl) ?_
      refine bm_ni_eq (x := 1) (y := 1) (tgt := 529) hx hb (by decide) (by decide) dL_law_524 (by decide) (fun c_8 => ?_) (fun c_8 => ?_)
      · refine lv_iload hx hb dL_law_529 (lv_at hl 1 rfl) ?_
        refine bm_nz_ne (x := 1) (tgt := 553) hx hb (by decide) dL_law_531 (by decide) (fun c_9 => ?_) (fun c_9 => ?_)
        · refine lv_goto (tgt := 1705) hx hb dL_law_553 (by decide) ?_
          exact v_end hL C0 hAn (Nat.le_of_ble_eq_true rfl) (Nat.le_of_ble_eq_true rfl) hS (lv_sub hl [6, 2] rfl)
        · exact absurd c_9 (by decide)
      · exact absurd c_8 (by decide)
    · refine lv_iconst (v := nI 1) hx hb dL_law_508 (by decide) ?_
      refine lv_goto (tgt := 513) hx hb dL_law_509 (by decide) ?_
      refine bm_wcallV (As := [.int (xs (3 + 1)), .int (nI 1)]) (rest := []) ⟨hx, hb, hml, hown, hts⟩ (m_lock) (cwV 2 hts (gdVL (by decide +kernel) (by decide +kernel) (by decide +kernel) (by decide +kernel) (by decide +kernel)) rfl rfl rfl (by decide +kernel) ⟨Nat.le_of_ble_eq_true rfl, Nat.le_of_ble_eq_true rfl⟩) hK hP hD hS hA 42 5 rfl rfl rfl hl.1 rfl (Nat.le_of_ble_eq_true rfl) dL_law_513 ⟨Nat.le_of_ble_eq_true rfl, Nat.le_of_ble_eq_true rfl⟩ (fun H locs hP hD hS => ?_)
      have hP : va_P D vwCl (WW ad cJ cI cZ (bm.1, bm.2.1, bm.2.2.1, 0) (pa.1, pa.2.1, pa.2.2.1, pa.2.2.2.1, pa.2.2.2.2.1, pa.2.2.2.2.2.1, 0) p0 p1 p2 (li.1, li.2.1, li.2.2.1, li.2.2.2.1, li.2.2.2.2.1, li.2.2.2.2.2.1, li.2.2.2.2.2.2.1, li.2.2.2.2.2.2.2.1, 0, 0) (wi.1, wi.2.1, wi.2.2.1, wi.2.2.2.1, wi.2.2.2.2.1, wi.2.2.2.2.2.1, wi.2.2.2.2.2.2.1, wi.2.2.2.2.2.2.2.1, wi.2.2.2.2.2.2.2.2.1, 0, 0) (1) (ms.1, ms.2.1, 0, 0, 0, 0, 0, ms.2.2.2.2.2.2.2) ma mp mk mn ou) H := hP
      have hD : va_D A (WW ad cJ cI cZ (bm.1, bm.2.1, bm.2.2.1, 0) (pa.1, pa.2.1, pa.2.2.1, pa.2.2.2.1, pa.2.2.2.2.1, pa.2.2.2.2.2.1, 0) p0 p1 p2 (li.1, li.2.1, li.2.2.1, li.2.2.2.1, li.2.2.2.2.1, li.2.2.2.2.2.1, li.2.2.2.2.2.2.1, li.2.2.2.2.2.2.2.1, 0, 0) (wi.1, wi.2.1, wi.2.2.1, wi.2.2.2.1, wi.2.2.2.2.1, wi.2.2.2.2.2.1, wi.2.2.2.2.2.2.1, wi.2.2.2.2.2.2.2.1, wi.2.2.2.2.2.2.2.2.1, 0, 0) (1) (ms.1, ms.2.1, 0, 0, 0, 0, 0, ms.2.2.2.2.2.2.2) ma mp mk mn ou) := hD
      refine lv_istore (lv' := [(6, .int (bm_b false)), (5, .int (nI 1)), (0, .ref b), (1, .ref (ad 0)), (2, .ref (ad 42)), (3, .ref (ad 62)), (4, .int (nI 3))]) hx hb dL_law_516 hl (by decide) rfl (fun ls hl => ?_)
      refine lv_aload_n hx hb dL_law_518 rfl (lv_at hl 4 rfl) ?_
      refine bm_rcallV (As := []) (rest := []) ⟨hx, hb, hml, hown, hts⟩ (m_thrown) (cwV 0 hts (gdVL (by decide +kernel) (by decide +kernel) (by decide +kernel) (by decide +kernel) (by decide +kernel)) rfl rfl rfl (by decide +kernel) ⟨Nat.le_of_ble_eq_true rfl, Nat.le_of_ble_eq_true rfl⟩) hK hP 42 5 rfl rfl rfl hl.1 rfl (Nat.le_of_ble_eq_true rfl) dL_law_519 ⟨Nat.le_of_ble_eq_true rfl, Nat.le_of_ble_eq_true rfl⟩ ?_
      refine lv_iload hx hb dL_law_522 (lv_at hl 1 rfl) ?_
      refine bm_ni_eq (x := 1) (y := 1) (tgt := 529) hx hb (by decide) (by decide) dL_law_524 (by decide) (fun c_10 => ?_) (fun c_10 => ?_)
      · refine lv_iload hx hb dL_law_529 (lv_at hl 1 rfl) ?_
        refine bm_nz_ne (x := 1) (tgt := 553) hx hb (by decide) dL_law_531 (by decide) (fun c_11 => ?_) (fun c_11 => ?_)
        · refine lv_goto (tgt := 1705) hx hb dL_law_553 (by decide) ?_
          exact v_end hL C0 hAn (Nat.le_of_ble_eq_true rfl) (Nat.le_of_ble_eq_true rfl) hS (lv_sub hl [6, 2] rfl)
        · exact absurd c_11 (by decide)
      · exact absurd c_10 (by decide)
