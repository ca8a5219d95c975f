set_option maxHeartbeats 16000000 in
set_option maxRecDepth 100000 in
theorem V_9 {p : Program} {l : Launch} {e : Env} {s : State} {m : MethodId} {below : List Frame} {meth : Method} {c : Code} {b L : Nat} {xs : Nat → Int32} (hlt : l.stackTraces = false) (hL : L ≤ 5635) (C0 : lw_At p s m meth c b L xs) (hX : bx_X xW s) (hZ : bx_S RX4 xS s) (hN1 : bx_N "java/lang/IllegalArgumentException" "java/lang/IndexOutOfBoundsException" s) (hN2 : bx_N "java/lang/IllegalStateException" "java/lang/IndexOutOfBoundsException" s) {A : Nat → Prop} (hA : ∀ q : Nat, s.heap.size ≤ q → A q) (hAn : ∀ q : Nat, q < s.heap.size → ¬ A q) {D : va_G} {ad : Nat → Nat} {cJ cI cZ : ClassId} {bm : gBM} {pa : gPA} {p0 p1 p2 : gPL} {li : gLI} {wi : gWI} {mt : Nat} {ms : gMS} {ma : gMA} {mp : gMP} {mk : gMK} {mn : gMN} {ou : Nat → Int64} {i : Nat} (hi : i + 11 ≤ L) (okc : okC bm pa p0 p1 p2 li wi) (okm : okM ms ma mp mk mn) (heq : (pa.2.2.2.2.2.2, pa.2.2.2.2.2.1) = (ms.2.2.1, ma.2.2.2.2.2.1))  {H : Heap} {locs : List Loc} {cells slots : Nat} (hcs : cells + 1 ≤ room_1.cells ∧ slots + 6 ≤ room_1.slots) (hK : va_K D vwCl [(cJ, .long), (cI, .int), (cZ, .boolean)] s) (hP : va_P D vwCl (WW ad cJ cI cZ bm pa p0 p1 p2 li wi mt ms ma mp mk mn ou) H) (hD : va_D A (WW ad cJ cI cZ bm pa p0 p1 p2 li wi mt ms ma mp mk mn ou)) (hS : va_S A s.heap H locs) {ls : Array Slot} (hl : lv_has ls 8 [(0, .ref b), (1, .ref (ad 0)), (2, .ref (ad 42)), (3, .ref (ad 62)), (4, .int (nI i))]) (kk : ∀ (bm : gBM) (pa : gPA) (p0 p1 p2 : gPL) (li : gLI) (wi : gWI) (mt : Nat) (ms : gMS) (ma : gMA) (mp : gMP) (mk : gMK) (mn : gMN) (ou : Nat → Int64), okC bm pa p0 p1 p2 li wi → okM ms ma mp mk mn → (pa.2.2.2.2.2.2, pa.2.2.2.2.2.1) = (ms.2.2.1, ma.2.2.2.2.2.1) → ∀ (H : Heap) (locs : List Loc), va_P D vwCl (WW ad cJ cI cZ bm pa p0 p1 p2 li wi mt ms ma mp mk mn ou) H → va_D A (WW ad cJ cI cZ bm pa p0 p1 p2 li wi mt ms ma mp mk mn ou) → va_S A s.heap H locs → ∀ ls : Array Slot, lv_has ls 8 [(0, .ref b), (1, .ref (ad 0)), (2, .ref (ad 42)), (3, .ref (ad 62)), (4, .int (nI i))] → W p l e room_1 s m #[Value.ref b] below meth c H locs (cells + 1) (slots + 6) (lw_Z below #[Value.ref b] s) (F0 m 1354 ls [])) : W p l e room_1 s m #[Value.ref b] below meth c H locs cells slots (lw_Z below #[Value.ref b] s) (F0 m 830 ls []) := by
  obtain ⟨hx, hb, hr, hml, hown, hts, hXs, hbl, hlocks, hgv⟩ := id C0
  have hbA := hAn b hbl
  refine lv_aload_n hx hb dL_law_830 rfl (lv_at hl 1 rfl) ?_
  refine bm_xcallV (As := []) (rest := []) ⟨hx, hb, hml, hown, hts⟩ (Z_full   okc ) (cwV 0 hts gvL_115 rfl rfl rfl hvX4_full ⟨Nat.le_of_ble_eq_true rfl, Nat.le_of_ble_eq_true rfl⟩) hK hP hD hS hA 0 4 rfl ww_0 rfl hl.1 rfl (Nat.le_of_ble_eq_true rfl) dL_law_831 ⟨Nat.le_of_succ_le hcs.1, Nat.le_trans (Nat.le_add_right _ _) hcs.2⟩ (fun ws_1 r_2 h_3 H locs hP hD hS => ?_)
  obtain ⟨bmn_4, pan_5, p0n_6, p1n_7, p2n_8, lin_9, win_10, oun_11, okn_12, hnn_13, rfl, v_14, rfl⟩ := h_3
  have hP : va_P D vwCl (WW ad cJ cI cZ bmn_4 pan_5 p0n_6 p1n_7 p2n_8 lin_9 win_10 mt ms ma mp mk mn oun_11) H := hP
  have hD : va_D A (WW ad cJ cI cZ bmn_4 pan_5 p0n_6 p1n_7 p2n_8 lin_9 win_10 mt ms ma mp mk mn oun_11) := hD
  refine lv_pop2_2 hx hb dL_law_834 rfl ?_
  refine lv_aload_n hx hb dL_law_835 rfl (lv_at hl 2 rfl) ?_
  refine bm_xcallV (As := []) (rest := []) ⟨hx, hb, hml, hown, hts⟩ (Y_full   okm ) (cwV 0 hts gvL_118 rfl rfl rfl hvX5_full ⟨Nat.le_of_ble_eq_true rfl, Nat.le_of_ble_eq_true rfl⟩) hK hP hD hS hA 42 5 rfl ww_42 rfl hl.1 rfl (Nat.le_of_ble_eq_true rfl) dL_law_836 ⟨Nat.le_of_succ_le hcs.1, Nat.le_trans (Nat.le_add_right _ _) hcs.2⟩ (fun ws_15 r_16 h_17 H locs hP hD hS => ?_)
  obtain ⟨mtn_18, msn_19, man_20, mpn_21, mkn_22, mnn_23, okn_24, hnn_25, rfl, v_26, rfl⟩ := h_17
  have hP : va_P D vwCl (WW ad cJ cI cZ bmn_4 pan_5 p0n_6 p1n_7 p2n_8 lin_9 win_10 mtn_18 msn_19 man_20 mpn_21 mkn_22 mnn_23 oun_11) H := hP
  have hD : va_D A (WW ad cJ cI cZ bmn_4 pan_5 p0n_6 p1n_7 p2n_8 lin_9 win_10 mtn_18 msn_19 man_20 mpn_21 mkn_22 mnn_23 oun_11) := hD
  refine lv_pop2_2 hx hb dL_law_839 rfl ?_
  refine lv_goto (tgt := 1354) hx hb dL_law_840 (by decide) ?_
  refine W.widen (k := cells + 1) (n := slots + 6) (Nat.le_succ _) (Nat.le_add_right _ _) ?_
  exact kk bmn_4 pan_5 p0n_6 p1n_7 p2n_8 lin_9 win_10 mtn_18 msn_19 man_20 mpn_21 mkn_22 mnn_23 oun_11 okn_12 okn_24 (hnn_13.trans (heq.trans hnn_25.symm)) _ _ hP hD hS _ (lv_sub hl [0, 1, 2, 3, 4] rfl)

set_option maxHeartbeats 16000000 in
set_option maxRecDepth 100000 in
theorem V_10 {p : Program} {l : Launch} {e : Env} {s : State} {m : MethodId} {below : List Frame} {meth : Method} {c : Code} {b L : Nat} {xs : Nat → Int32} (hlt : l.stackTraces = false) (hL : L ≤ 5635) (C0 : lw_At p s m meth c b L xs) (hX : bx_X xW s) (hZ : bx_S RX4 xS s) (hN1 : bx_N "java/lang/IllegalArgumentException" "java/lang/IndexOutOfBoundsException" s) (hN2 : bx_N "java/lang/IllegalStateException" "java/lang/IndexOutOfBoundsException" s) {A : Nat → Prop} (hA : ∀ q : Nat, s.heap.size ≤ q → A q) (hAn : ∀ q : Nat, q < s.heap.size → ¬ A q) {D : va_G} {ad : Nat → Nat} {cJ cI cZ : ClassId} {bm : gBM} {pa : gPA} {p0 p1 p2 : gPL} {li : gLI} {wi : gWI} {mt : Nat} {ms : gMS} {ma : gMA} {mp : gMP} {mk : gMK} {mn : gMN} {ou : Nat → Int64} {i : Nat} (hi : i + 11 ≤ L) (okc : okC bm pa p0 p1 p2 li wi) (okm : okM ms ma mp mk mn) (heq : (pa.2.2.2.2.2.2, pa.2.2.2.2.2.1) = (ms.2.2.1, ma.2.2.2.2.2.1))  {H : Heap} {locs : List Loc} {cells slots : Nat} (hcs : cells + 1 ≤ room_1.cells ∧ slots + 6 ≤ room_1.slots) (hK : va_K D vwCl [(cJ, .long), (cI, .int), (cZ, .boolean)] s) (hP : va_P D vwCl (WW ad cJ cI cZ bm pa p0 p1 p2 li wi mt ms ma mp mk mn ou) H) (hD : va_D A (WW ad cJ cI cZ bm pa p0 p1 p2 li wi mt ms ma mp mk mn ou)) (hS : va_S A s.heap H locs) {ls : Array Slot} (hl : lv_has ls 8 [(0, .ref b), (1, .ref (ad 0)), (2, .ref (ad 42)), (3, .ref (ad 62)), (4, .int (nI i))]) (kk : ∀ (bm : gBM) (pa : gPA) (p0 p1 p2 : gPL) (li : gLI) (wi : gWI) (mt : Nat) (ms : gMS) (ma : gMA) (mp : gMP) (mk : gMK) (mn : gMN) (ou : Nat → Int64), okC bm pa p0 p1 p2 li wi → okM ms ma mp mk mn → (pa.2.2.2.2.2.2, pa.2.2.2.2.2.1) = (ms.2.2.1, ma.2.2.2.2.2.1) → ∀ (H : Heap) (locs : List Loc), va_P D vwCl (WW ad cJ cI cZ bm pa p0 p1 p2 li wi mt ms ma mp mk mn ou) H → va_D A (WW ad cJ cI cZ bm pa p0 p1 p2 li wi mt ms ma mp mk mn ou) → va_S A s.heap H locs → ∀ ls : Array Slot, lv_has ls 8 [(0, .ref b), (1, .ref (ad 0)), (2, .ref (ad 42)), (3, .ref (ad 62)), (4, .int (nI i))] → W p l e room_1 s m #[Value.ref b] below meth c H locs (cells + 1) (slots + 6) (lw_Z below #[Value.ref b] s) (F0 m 1354 ls [])) : W p l e room_1 s m #[Value.ref b] below meth c H locs cells slots (lw_Z below #[Value.ref b] s) (F0 m 843 ls []) := by
  obtain ⟨hx, hb, hr, hml, hown, hts, hXs, hbl, hlocks, hgv⟩ := id C0
  have hbA := hAn b hbl
  refine lv_aload_n hx hb dL_law_843 rfl (lv_at hl 1 rfl) ?_
  refine lv_aload_n hx hb dL_law_844 rfl (lv_at hl 0 rfl) ?_
  refine lv_iload hx hb dL_law_845 (lv_at hl 4 rfl) ?_
  refine lv_iconst (v := nI 1) hx hb dL_law_847 (by decide) ?_
  refine bm_nadd hx hb dL_law_848 ?_
  refine bm_sld hx hb hXs hbl hbA hS (j := (i + 1)) (by omega) (by omega) dL_law_849 ?_
  refine lv_aload_n hx hb dL_law_850 rfl (lv_at hl 0 rfl) ?_
  refine lv_iload hx hb dL_law_851 (lv_at hl 4 rfl) ?_
  refine lv_iconst (v := nI 2) hx hb dL_law_853 (by decide) ?_
  refine bm_nadd hx hb dL_law_854 ?_
  refine bm_sld hx hb hXs hbl hbA hS (j := (i + 2)) (by omega) (by omega) dL_law_855 ?_
  refine lv_aload_n hx hb dL_law_856 rfl (lv_at hl 0 rfl) ?_
  refine lv_iload hx hb dL_law_857 (lv_at hl 4 rfl) ?_
  refine lv_iconst (v := nI 3) hx hb dL_law_859 (by decide) ?_
  refine bm_nadd hx hb dL_law_860 ?_
  refine bm_sld hx hb hXs hbl hbA hS (j := (i + 3)) (by omega) (by omega) dL_law_861 ?_
  refine lv_i2l (v := (xs (i + 3)).toInt64) hx hb dL_law_862 rfl ?_
  refine lv_bipush (v := nI 32) hx hb dL_law_863 (by decide) ?_
  refine lv_lshl (v := ((xs (i + 3)).toInt64) <<< ((nI 32).toInt64 &&& 63)) hx hb dL_law_865 rfl ?_
  refine lv_aload_n hx hb dL_law_866 rfl (lv_at hl 0 rfl) ?_
  refine lv_iload hx hb dL_law_867 (lv_at hl 4 rfl) ?_
  refine lv_iconst (v := nI 4) hx hb dL_law_869 (by decide) ?_
  refine bm_nadd hx hb dL_law_870 ?_
  refine bm_sld hx hb hXs hbl hbA hS (j := (i + 4)) (by omega) (by omega) dL_law_871 ?_
  refine lv_i2l (v := (xs (i + 4)).toInt64) hx hb dL_law_872 rfl ?_
  refine lv_ldc2 (v := 4294967295) hx hb hown (hts (.constantLong RL 75 4294967295) (List.mem_filter.mp clL_75).1) dL_law_873 ?_
  refine lv_land hx hb dL_law_876 ?_
  refine lv_lor hx hb dL_law_877 ?_
  refine lv_aload_n hx hb dL_law_878 rfl (lv_at hl 3 rfl) ?_
  refine bx_xhcallS (n := 5) (As := [.ref (ad 0), .int (xs (i + 1)), .int (xs (i + 2)), .long ((((xs (i + 3)).toInt64) <<< ((nI 32).toInt64 &&& 63)) ||| (((xs (i + 4)).toInt64) &&& 4294967295)), .ref (ad 62)]) (rest := []) ⟨hx, hb, hml, hown, hts⟩ (H_near hlt  okc H.size) rfl rfl (Nat.le_of_ble_eq_true rfl) (Nat.le_of_ble_eq_true rfl) (gdH (by decide +kernel)) (by decide +kernel) rfl hK hP hD hS hA hX hZ hN1 hN2 hAn rfl hl.1 rfl (Nat.le_of_ble_eq_true rfl) dL_law_879 hcs (fun ws_1 r_2 h_3 H locs hP hD hS => ?_)
  obtain ⟨bmn_4, pan_5, p0n_6, p1n_7, p2n_8, lin_9, win_10, oun_11, okn_12, hnn_13, rfl, v_14, rfl⟩ := h_3
  have hP : va_P D vwCl (WW ad cJ cI cZ bmn_4 pan_5 p0n_6 p1n_7 p2n_8 lin_9 win_10 mt ms ma mp mk mn oun_11) H := hP
  have hD : va_D A (WW ad cJ cI cZ bmn_4 pan_5 p0n_6 p1n_7 p2n_8 lin_9 win_10 mt ms ma mp mk mn oun_11) := hD
  refine lv_istore (lv' := [(5, .int v_14), (0, .ref b), (1, .ref (ad 0)), (2, .ref (ad 42)), (3, .ref (ad 62)), (4, .int (nI i))]) hx hb dL_law_882 hl (by decide) rfl (fun ls hl => ?_)
  refine lv_aload_n hx hb dL_law_884 rfl (lv_at hl 3 rfl) ?_
  refine lv_aload_n hx hb dL_law_885 rfl (lv_at hl 1 rfl) ?_
  refine lv_iload hx hb dL_law_886 (lv_at hl 5 rfl) ?_
  refine lv_iconst (v := nI 1) hx hb dL_law_888 (by decide) ?_
  refine bm_nadd hx hb dL_law_889 ?_
  refine bm_sld hx hb hXs hbl hbA hS (j := (i + 1)) (by omega) (by omega) dL_law_890 ?_
  refine lv_aload_n hx hb dL_law_891 rfl (lv_at hl 1 rfl) ?_
  refine lv_iload hx hb dL_law_892 (lv_at hl 5 rfl) ?_
  refine lv_iconst (v := nI 2) hx hb dL_law_894 (by decide) ?_
  refine bm_nadd hx hb dL_law_895 ?_
  refine bm_sld hx hb hXs hbl hbA hS (j := (i + 2)) (by omega) (by omega) dL_law_896 ?_
  refine lv_aload_n hx hb dL_law_897 rfl (lv_at hl 1 rfl) ?_
  refine lv_iload hx hb dL_law_898 (lv_at hl 5 rfl) ?_
  refine lv_iconst (v := nI 3) hx hb dL_law_900 (by decide) ?_
  refine bm_nadd hx hb dL_law_901 ?_
  refine bm_sld hx hb hXs hbl hbA hS (j := (i + 3)) (by omega) (by omega) dL_law_902 ?_
  refine lv_i2l (v := (xs (i + 3)).toInt64) hx hb dL_law_903 rfl ?_
  refine lv_bipush (v := nI 32) hx hb dL_law_904 (by decide) ?_
  refine lv_lshl (v := ((xs (i + 3)).toInt64) <<< ((nI 32).toInt64 &&& 63)) hx hb dL_law_906 rfl ?_
  refine lv_aload_n hx hb dL_law_907 rfl (lv_at hl 1 rfl) ?_
  refine lv_iload hx hb dL_law_908 (lv_at hl 5 rfl) ?_
  refine lv_iconst (v := nI 4) hx hb dL_law_910 (by decide) ?_
  refine bm_nadd hx hb dL_law_911 ?_
  refine bm_sld hx hb hXs hbl hbA hS (j := (i + 4)) (by omega) (by omega) dL_law_912 ?_
  refine lv_i2l (v := (xs (i + 4)).toInt64) hx hb dL_law_913 rfl ?_
  refine lv_ldc2 (v := 4294967295) hx hb hown (hts (.constantLong RL 75 4294967295) (List.mem_filter.mp clL_75).1) dL_law_914 ?_
  refine lv_land hx hb dL_law_917 ?_
  refine lv_lor hx hb dL_law_918 ?_
  refine bm_xcallV (As := [.int (xs (i + 1)), .int (xs (i + 2)), .long ((((xs (i + 3)).toInt64) <<< ((nI 32).toInt64 &&& 63)) ||| (((xs (i + 4)).toInt64) &&& 4294967295))]) (rest := []) ⟨hx, hb, hml, hown, hts⟩ (Y_near   okm ) (cwV 3 hts gvL_122 rfl rfl rfl hvX5_near ⟨Nat.le_of_ble_eq_true rfl, Nat.le_of_ble_eq_true rfl⟩) hK hP hD hS hA 42 5 rfl ww_42 rfl hl.1 rfl (Nat.le_of_ble_eq_true rfl) dL_law_919 hcs (fun ws_15 r_16 h_17 H locs hP hD hS => ?_)
  obtain ⟨mtn_18, msn_19, man_20, mpn_21, mkn_22, mnn_23, okn_24, hnn_25, rfl, v_26, rfl⟩ := h_17
  have hP : va_P D vwCl (WW ad cJ cI cZ bmn_4 pan_5 p0n_6 p1n_7 p2n_8 lin_9 win_10 mtn_18 msn_19 man_20 mpn_21 mkn_22 mnn_23 oun_11) H := hP
  have hD : va_D A (WW ad cJ cI cZ bmn_4 pan_5 p0n_6 p1n_7 p2n_8 lin_9 win_10 mtn_18 msn_19 man_20 mpn_21 mkn_22 mnn_23 oun_11) := hD
  refine lv_istore (lv' := [(6, .int (bm_b v_26)), (5, .int v_14), (0, .ref b), (1, .ref (ad 0)), (2, .ref (ad 42)), (3, .ref (ad 62)), (4, .int (nI i))]) hx hb dL_law_922 hl (by decide) rfl (fun ls hl => ?_)
  refine lv_goto (tgt := 1354) hx hb dL_law_924 (by decide) ?_
  exact kk bmn_4 pan_5 p0n_6 p1n_7 p2n_8 lin_9 win_10 mtn_18 msn_19 man_20 mpn_21 mkn_22 mnn_23 oun_11 okn_12 okn_24 (hnn_13.trans (heq.trans hnn_25.symm)) _ _ hP hD hS _ (lv_sub hl [2, 3, 4, 5, 6] rfl)

set_option maxHeartbeats 16000000 in
set_option maxRecDepth 100000 in
theorem V_12 {p : Program} {l : Launch} {e : Env} {s : State} {m : MethodId} {below : List Frame} {meth : Method} {c : Code} {b L : Nat} {xs : Nat → Int32} (hlt : l.stackTraces = false) (hL : L ≤ 5635) (C0 : lw_At p s m meth c b L xs) (hX : bx_X xW s) (hZ : bx_S RX4 xS s) (hN1 : bx_N "java/lang/IllegalArgumentException" "java/lang/IndexOutOfBoundsException" s) (hN2 : bx_N "java/lang/IllegalStateException" "java/lang/IndexOutOfBoundsException" s) {A : Nat → Prop} (hA : ∀ q : Nat, s.heap.size ≤ q → A q) (hAn : ∀ q : Nat, q < s.heap.size → ¬ A q) {D : va_G} {ad : Nat → Nat} {cJ cI cZ : ClassId} {bm : gBM} {pa : gPA} {p0 p1 p2 : gPL} {li : gLI} {wi : gWI} {mt : Nat} {ms : gMS} {ma : gMA} {mp : gMP} {mk : gMK} {mn : gMN} {ou : Nat → Int64} {i : Nat} (hi : i + 11 ≤ L) (okc : okC bm pa p0 p1 p2 li wi) (okm : okM ms ma mp mk mn) (heq : (pa.2.2.2.2.2.2, pa.2.2.2.2.2.1) = (ms.2.2.1, ma.2.2.2.2.2.1))  {H : Heap} {locs : List Loc} {cells slots : Nat} (hcs : cells + 1 ≤ room_1.cells ∧ slots + 6 ≤ room_1.slots) (hK : va_K D vwCl [(cJ, .long), (cI, .int), (cZ, .boolean)] s) (hP : va_P D vwCl (WW ad cJ cI cZ bm pa p0 p1 p2 li wi mt ms ma mp mk mn ou) H) (hD : va_D A (WW ad cJ cI cZ bm pa p0 p1 p2 li wi mt ms ma mp mk mn ou)) (hS : va_S A s.heap H locs) {ls : Array Slot} (hl : lv_has ls 8 [(0, .ref b), (1, .ref (ad 0)), (2, .ref (ad 42)), (3, .ref (ad 62)), (4, .int (nI i))]) (kk : ∀ (bm : gBM) (pa : gPA) (p0 p1 p2 : gPL) (li : gLI) (wi : gWI) (mt : Nat) (ms : gMS) (ma : gMA) (mp : gMP) (mk : gMK) (mn : gMN) (ou : Nat → Int64), okC bm pa p0 p1 p2 li wi → okM ms ma mp mk mn → (pa.2.2.2.2.2.2, pa.2.2.2.2.2.1) = (ms.2.2.1, ma.2.2.2.2.2.1) → ∀ (H : Heap) (locs : List Loc), va_P D vwCl (WW ad cJ cI cZ bm pa p0 p1 p2 li wi mt ms ma mp mk mn ou) H → va_D A (WW ad cJ cI cZ bm pa p0 p1 p2 li wi mt ms ma mp mk mn ou) → va_S A s.heap H locs → ∀ ls : Array Slot, lv_has ls 8 [(0, .ref b), (1, .ref (ad 0)), (2, .ref (ad 42)), (3, .ref (ad 62)), (4, .int (nI i))] → W p l e room_1 s m #[Value.ref b] below meth c H locs (cells + 1) (slots + 6) (lw_Z below #[Value.ref b] s) (F0 m 1354 ls [])) : W p l e room_1 s m #[Value.ref b] below meth c H locs cells slots (lw_Z below #[Value.ref b] s) (F0 m 995 ls []) := by
  obtain ⟨hx, hb, hr, hml, hown, hts, hXs, hbl, hlocks, hgv⟩ := id C0
  have hbA := hAn b hbl
  refine lv_aload_n hx hb dL_law_995 rfl (lv_at hl 1 rfl) ?_
  refine lv_aload_n hx hb dL_law_996 rfl (lv_at hl 0 rfl) ?_
  refine lv_iload hx hb dL_law_997 (lv_at hl 4 rfl) ?_
  refine lv_iconst (v := nI 1) hx hb dL_law_999 (by decide) ?_
  refine bm_nadd hx hb dL_law_1000 ?_
  refine bm_sld hx hb hXs hbl hbA hS (j := (i + 1)) (by omega) (by omega) dL_law_1001 ?_
  refine lv_aload_n hx hb dL_law_1002 rfl (lv_at hl 0 rfl) ?_
  refine lv_iload hx hb dL_law_1003 (lv_at hl 4 rfl) ?_
  refine lv_iconst (v := nI 2) hx hb dL_law_1005 (by decide) ?_
  refine bm_nadd hx hb dL_law_1006 ?_
  refine bm_sld hx hb hXs hbl hbA hS (j := (i + 2)) (by omega) (by omega) dL_law_1007 ?_
  refine lv_i2l (v := (xs (i + 2)).toInt64) hx hb dL_law_1008 rfl ?_
  refine lv_bipush (v := nI 32) hx hb dL_law_1009 (by decide) ?_
  refine lv_lshl (v := ((xs (i + 2)).toInt64) <<< ((nI 32).toInt64 &&& 63)) hx hb dL_law_1011 rfl ?_
  refine lv_aload_n hx hb dL_law_1012 rfl (lv_at hl 0 rfl) ?_
  refine lv_iload hx hb dL_law_1013 (lv_at hl 4 rfl) ?_
  refine lv_iconst (v := nI 3) hx hb dL_law_1015 (by decide) ?_
  refine bm_nadd hx hb dL_law_1016 ?_
  refine bm_sld hx hb hXs hbl hbA hS (j := (i + 3)) (by omega) (by omega) dL_law_1017 ?_
  refine lv_i2l (v := (xs (i + 3)).toInt64) hx hb dL_law_1018 rfl ?_
  refine lv_ldc2 (v := 4294967295) hx hb hown (hts (.constantLong RL 75 4294967295) (List.mem_filter.mp clL_75).1) dL_law_1019 ?_
  refine lv_land hx hb dL_law_1022 ?_
  refine lv_lor hx hb dL_law_1023 ?_
  refine lv_aload_n hx hb dL_law_1024 rfl (lv_at hl 3 rfl) ?_
  refine bx_xhcallS (n := 4) (As := [.ref (ad 0), .int (xs (i + 1)), .long ((((xs (i + 2)).toInt64) <<< ((nI 32).toInt64 &&& 63)) ||| (((xs (i + 3)).toInt64) &&& 4294967295)), .ref (ad 62)]) (rest := []) ⟨hx, hb, hml, hown, hts⟩ (H_height hlt  okc H.size) rfl rfl (Nat.le_of_ble_eq_true rfl) (Nat.le_of_ble_eq_true rfl) (gdH (by decide +kernel)) (by decide +kernel) rfl hK hP hD hS hA hX hZ hN1 hN2 hAn rfl hl.1 rfl (Nat.le_of_ble_eq_true rfl) dL_law_1025 hcs (fun ws_1 r_2 h_3 H locs hP hD hS => ?_)
  obtain ⟨bmn_4, pan_5, p0n_6, p1n_7, p2n_8, lin_9, win_10, oun_11, okn_12, hnn_13, rfl, v_14, rfl⟩ := h_3
  have hP : va_P D vwCl (WW ad cJ cI cZ bmn_4 pan_5 p0n_6 p1n_7 p2n_8 lin_9 win_10 mt ms ma mp mk mn oun_11) H := hP
  have hD : va_D A (WW ad cJ cI cZ bmn_4 pan_5 p0n_6 p1n_7 p2n_8 lin_9 win_10 mt ms ma mp mk mn oun_11) := hD
  refine lv_istore (lv' := [(5, .int v_14), (0, .ref b), (1, .ref (ad 0)), (2, .ref (ad 42)), (3, .ref (ad 62)), (4, .int (nI i))]) hx hb dL_law_1028 hl (by decide) rfl (fun ls hl => ?_)
  refine lv_aload_n hx hb dL_law_1030 rfl (lv_at hl 3 rfl) ?_
  refine lv_aload_n hx hb dL_law_1031 rfl (lv_at hl 1 rfl) ?_
  refine lv_iload hx hb dL_law_1032 (lv_at hl 5 rfl) ?_
  refine lv_iconst (v := nI 1) hx hb dL_law_1034 (by decide) ?_
  refine bm_nadd hx hb dL_law_1035 ?_
  refine bm_sld hx hb hXs hbl hbA hS (j := (i + 1)) (by omega) (by omega) dL_law_1036 ?_
  refine lv_aload_n hx hb dL_law_1037 rfl (lv_at hl 1 rfl) ?_
  refine lv_iload hx hb dL_law_1038 (lv_at hl 5 rfl) ?_
  refine lv_iconst (v := nI 2) hx hb dL_law_1040 (by decide) ?_
  refine bm_nadd hx hb dL_law_1041 ?_
  refine bm_sld hx hb hXs hbl hbA hS (j := (i + 2)) (by omega) (by omega) dL_law_1042 ?_
  refine lv_i2l (v := (xs (i + 2)).toInt64) hx hb dL_law_1043 rfl ?_
  refine lv_bipush (v := nI 32) hx hb dL_law_1044 (by decide) ?_
  refine lv_lshl (v := ((xs (i + 2)).toInt64) <<< ((nI 32).toInt64 &&& 63)) hx hb dL_law_1046 rfl ?_
  refine lv_aload_n hx hb dL_law_1047 rfl (lv_at hl 1 rfl) ?_
  refine lv_iload hx hb dL_law_1048 (lv_at hl 5 rfl) ?_
  refine lv_iconst (v := nI 3) hx hb dL_law_1050 (by decide) ?_
  refine bm_nadd hx hb dL_law_1051 ?_
  refine bm_sld hx hb hXs hbl hbA hS (j := (i + 3)) (by omega) (by omega) dL_law_1052 ?_
  refine lv_i2l (v := (xs (i + 3)).toInt64) hx hb dL_law_1053 rfl ?_
  refine lv_ldc2 (v := 4294967295) hx hb hown (hts (.constantLong RL 75 4294967295) (List.mem_filter.mp clL_75).1) dL_law_1054 ?_
  refine lv_land hx hb dL_law_1057 ?_
  refine lv_lor hx hb dL_law_1058 ?_
  refine bm_xcallV (As := [.int (xs (i + 1)), .long ((((xs (i + 2)).toInt64) <<< ((nI 32).toInt64 &&& 63)) ||| (((xs (i + 3)).toInt64) &&& 4294967295))]) (rest := []) ⟨hx, hb, hml, hown, hts⟩ (Y_height   okm ) (cwV 2 hts gvL_132 rfl rfl rfl hvX5_height ⟨Nat.le_of_ble_eq_true rfl, Nat.le_of_ble_eq_true rfl⟩) hK hP hD hS hA 42 5 rfl ww_42 rfl hl.1 rfl (Nat.le_of_ble_eq_true rfl) dL_law_1059 hcs (fun ws_15 r_16 h_17 H locs hP hD hS => ?_)
  obtain ⟨mtn_18, msn_19, man_20, mpn_21, mkn_22, mnn_23, okn_24, hnn_25, rfl, v_26, rfl⟩ := h_17
  have hP : va_P D vwCl (WW ad cJ cI cZ bmn_4 pan_5 p0n_6 p1n_7 p2n_8 lin_9 win_10 mtn_18 msn_19 man_20 mpn_21 mkn_22 mnn_23 oun_11) H := hP
  have hD : va_D A (WW ad cJ cI cZ bmn_4 pan_5 p0n_6 p1n_7 p2n_8 lin_9 win_10 mtn_18 msn_19 man_20 mpn_21 mkn_22 mnn_23 oun_11) := hD
  refine lv_istore (lv' := [(6, .int (bm_b v_26)), (5, .int v_14), (0, .ref b), (1, .ref (ad 0)), (2, .ref (ad 42)), (3, .ref (ad 62)), (4, .int (nI i))]) hx hb dL_law_1062 hl (by decide) rfl (fun ls hl => ?_)
  refine lv_goto (tgt := 1354) hx hb dL_law_1064 (by decide) ?_
  exact kk bmn_4 pan_5 p0n_6 p1n_7 p2n_8 lin_9 win_10 mtn_18 msn_19 man_20 mpn_21 mkn_22 mnn_23 oun_11 okn_12 okn_24 (hnn_13.trans (heq.trans hnn_25.symm)) _ _ hP hD hS _ (lv_sub hl [2, 3, 4, 5, 6] rfl)

set_option maxHeartbeats 16000000 in
set_option maxRecDepth 100000 in
theorem V_13 {p : Program} {l : Launch} {e : Env} {s : State} {m : MethodId} {below : List Frame} {meth : Method} {c : Code} {b L : Nat} {xs : Nat → Int32} (hlt : l.stackTraces = false) (hL : L ≤ 5635) (C0 : lw_At p s m meth c b L xs) (hX : bx_X xW s) (hZ : bx_S RX4 xS s) (hN1 : bx_N "java/lang/IllegalArgumentException" "java/lang/IndexOutOfBoundsException" s) (hN2 : bx_N "java/lang/IllegalStateException" "java/lang/IndexOutOfBoundsException" s) {A : Nat → Prop} (hA : ∀ q : Nat, s.heap.size ≤ q → A q) (hAn : ∀ q : Nat, q < s.heap.size → ¬ A q) {D : va_G} {ad : Nat → Nat} {cJ cI cZ : ClassId} {bm : gBM} {pa : gPA} {p0 p1 p2 : gPL} {li : gLI} {wi : gWI} {mt : Nat} {ms : gMS} {ma : gMA} {mp : gMP} {mk : gMK} {mn : gMN} {ou : Nat → Int64} {i : Nat} (hi : i + 11 ≤ L) (okc : okC bm pa p0 p1 p2 li wi) (okm : okM ms ma mp mk mn) (heq : (pa.2.2.2.2.2.2, pa.2.2.2.2.2.1) = (ms.2.2.1, ma.2.2.2.2.2.1))  {H : Heap} {locs : List Loc} {cells slots : Nat} (hcs : cells + 1 ≤ room_1.cells ∧ slots + 6 ≤ room_1.slots) (hK : va_K D vwCl [(cJ, .long), (cI, .int), (cZ, .boolean)] s) (hP : va_P D vwCl (WW ad cJ cI cZ bm pa p0 p1 p2 li wi mt ms ma mp mk mn ou) H) (hD : va_D A (WW ad cJ cI cZ bm pa p0 p1 p2 li wi mt ms ma mp mk mn ou)) (hS : va_S A s.heap H locs) {ls : Array Slot} (hl : lv_has ls 8 [(0, .ref b), (1, .ref (ad 0)), (2, .ref (ad 42)), (3, .ref (ad 62)), (4, .int (nI i))]) (kk : ∀ (bm : gBM) (pa : gPA) (p0 p1 p2 : gPL) (li : gLI) (wi : gWI) (mt : Nat) (ms : gMS) (ma : gMA) (mp : gMP) (mk : gMK) (mn : gMN) (ou : Nat → Int64), okC bm pa p0 p1 p2 li wi → okM ms ma mp mk mn → (pa.2.2.2.2.2.2, pa.2.2.2.2.2.1) = (ms.2.2.1, ma.2.2.2.2.2.1) → ∀ (H : Heap) (locs : List Loc), va_P D vwCl (WW ad cJ cI cZ bm pa p0 p1 p2 li wi mt ms ma mp mk mn ou) H → va_D A (WW ad cJ cI cZ bm pa p0 p1 p2 li wi mt ms ma mp mk mn ou) → va_S A s.heap H locs → ∀ ls : Array Slot, lv_has ls 8 [(0, .ref b), (1, .ref (ad 0)), (2, .ref (ad 42)), (3, .ref (ad 62)), (4, .int (nI i))] → W p l e room_1 s m #[Value.ref b] below meth c H locs (cells + 1) (slots + 6) (lw_Z below #[Value.ref b] s) (F0 m 1354 ls [])) : W p l e room_1 s m #[Value.ref b] below meth c H locs cells slots (lw_Z below #[Value.ref b] s) (F0 m 1067 ls []) := by
  obtain ⟨hx, hb, hr, hml, hown, hts, hXs, hbl, hlocks, hgv⟩ := id C0
  have hbA := hAn b hbl
  refine lv_aload_n hx hb dL_law_1067 rfl (lv_at hl 1 rfl) ?_
  refine lv_aload_n hx hb dL_law_1068 rfl (lv_at hl 0 rfl) ?_
  refine lv_iload hx hb dL_law_1069 (lv_at hl 4 rfl) ?_
  refine lv_iconst (v := nI 1) hx hb dL_law_1071 (by decide) ?_
  refine bm_nadd hx hb dL_law_1072 ?_
  refine bm_sld hx hb hXs hbl hbA hS (j := (i + 1)) (by omega) (by omega) dL_law_1073 ?_
  refine lv_i2l (v := (xs (i + 1)).toInt64) hx hb dL_law_1074 rfl ?_
  refine lv_bipush (v := nI 32) hx hb dL_law_1075 (by decide) ?_
  refine lv_lshl (v := ((xs (i + 1)).toInt64) <<< ((nI 32).toInt64 &&& 63)) hx hb dL_law_1077 rfl ?_
  refine lv_aload_n hx hb dL_law_1078 rfl (lv_at hl 0 rfl) ?_
  refine lv_iload hx hb dL_law_1079 (lv_at hl 4 rfl) ?_
  refine lv_iconst (v := nI 2) hx hb dL_law_1081 (by decide) ?_
  refine bm_nadd hx hb dL_law_1082 ?_
  refine bm_sld hx hb hXs hbl hbA hS (j := (i + 2)) (by omega) (by omega) dL_law_1083 ?_
  refine lv_i2l (v := (xs (i + 2)).toInt64) hx hb dL_law_1084 rfl ?_
  refine lv_ldc2 (v := 4294967295) hx hb hown (hts (.constantLong RL 75 4294967295) (List.mem_filter.mp clL_75).1) dL_law_1085 ?_
  refine lv_land hx hb dL_law_1088 ?_
  refine lv_lor hx hb dL_law_1089 ?_
  refine lv_aload_n hx hb dL_law_1090 rfl (lv_at hl 0 rfl) ?_
  refine lv_iload hx hb dL_law_1091 (lv_at hl 4 rfl) ?_
  refine lv_iconst (v := nI 3) hx hb dL_law_1093 (by decide) ?_
  refine bm_nadd hx hb dL_law_1094 ?_
  refine bm_sld hx hb hXs hbl hbA hS (j := (i + 3)) (by omega) (by omega) dL_law_1095 ?_
  refine lv_i2l (v := (xs (i + 3)).toInt64) hx hb dL_law_1096 rfl ?_
  refine lv_bipush (v := nI 32) hx hb dL_law_1097 (by decide) ?_
  refine lv_lshl (v := ((xs (i + 3)).toInt64) <<< ((nI 32).toInt64 &&& 63)) hx hb dL_law_1099 rfl ?_
  refine lv_aload_n hx hb dL_law_1100 rfl (lv_at hl 0 rfl) ?_
  refine lv_iload hx hb dL_law_1101 (lv_at hl 4 rfl) ?_
  refine lv_iconst (v := nI 4) hx hb dL_law_1103 (by decide) ?_
  refine bm_nadd hx hb dL_law_1104 ?_
  refine bm_sld hx hb hXs hbl hbA hS (j := (i + 4)) (by omega) (by omega) dL_law_1105 ?_
  refine lv_i2l (v := (xs (i + 4)).toInt64) hx hb dL_law_1106 rfl ?_
  refine lv_ldc2 (v := 4294967295) hx hb hown (hts (.constantLong RL 75 4294967295) (List.mem_filter.mp clL_75).1) dL_law_1107 ?_
  refine lv_land hx hb dL_law_1110 ?_
  refine lv_lor hx hb dL_law_1111 ?_
  refine lv_aload_n hx hb dL_law_1112 rfl (lv_at hl 0 rfl) ?_
  refine lv_iload hx hb dL_law_1113 (lv_at hl 4 rfl) ?_
  refine lv_iconst (v := nI 5) hx hb dL_law_1115 (by decide) ?_
  refine bm_nadd hx hb dL_law_1116 ?_
  refine bm_sld hx hb hXs hbl hbA hS (j := (i + 5)) (by omega) (by omega) dL_law_1117 ?_
  refine lv_i2l (v := (xs (i + 5)).toInt64) hx hb dL_law_1118 rfl ?_
  refine lv_bipush (v := nI 32) hx hb dL_law_1119 (by decide) ?_
  refine lv_lshl (v := ((xs (i + 5)).toInt64) <<< ((nI 32).toInt64 &&& 63)) hx hb dL_law_1121 rfl ?_
  refine lv_aload_n hx hb dL_law_1122 rfl (lv_at hl 0 rfl) ?_
  refine lv_iload hx hb dL_law_1123 (lv_at hl 4 rfl) ?_
  refine lv_bipush (v := nI 6) hx hb dL_law_1125 (by decide) ?_
  refine bm_nadd hx hb dL_law_1127 ?_
  refine bm_sld hx hb hXs hbl hbA hS (j := (i + 6)) (by omega) (by omega) dL_law_1128 ?_
  refine lv_i2l (v := (xs (i + 6)).toInt64) hx hb dL_law_1129 rfl ?_
  refine lv_ldc2 (v := 4294967295) hx hb hown (hts (.constantLong RL 75 4294967295) (List.mem_filter.mp clL_75).1) dL_law_1130 ?_
  refine lv_land hx hb dL_law_1133 ?_
  refine lv_lor hx hb dL_law_1134 ?_
  refine lv_aload_n hx hb dL_law_1135 rfl (lv_at hl 0 rfl) ?_
  refine lv_iload hx hb dL_law_1136 (lv_at hl 4 rfl) ?_
  refine lv_bipush (v := nI 7) hx hb dL_law_1138 (by decide) ?_
  refine bm_nadd hx hb dL_law_1140 ?_
  refine bm_sld hx hb hXs hbl hbA hS (j := (i + 7)) (by omega) (by omega) dL_law_1141 ?_
  refine lv_i2l (v := (xs (i + 7)).toInt64) hx hb dL_law_1142 rfl ?_
  refine lv_bipush (v := nI 32) hx hb dL_law_1143 (by decide) ?_
  refine lv_lshl (v := ((xs (i + 7)).toInt64) <<< ((nI 32).toInt64 &&& 63)) hx hb dL_law_1145 rfl ?_
  refine lv_aload_n hx hb dL_law_1146 rfl (lv_at hl 0 rfl) ?_
  refine lv_iload hx hb dL_law_1147 (lv_at hl 4 rfl) ?_
  refine lv_bipush (v := nI 8) hx hb dL_law_1149 (by decide) ?_
  refine bm_nadd hx hb dL_law_1151 ?_
  refine bm_sld hx hb hXs hbl hbA hS (j := (i + 8)) (by omega) (by omega) dL_law_1152 ?_
  refine lv_i2l (v := (xs (i + 8)).toInt64) hx hb dL_law_1153 rfl ?_
  refine lv_ldc2 (v := 4294967295) hx hb hown (hts (.constantLong RL 75 4294967295) (List.mem_filter.mp clL_75).1) dL_law_1154 ?_
  refine lv_land hx hb dL_law_1157 ?_
  refine lv_lor hx hb dL_law_1158 ?_
  refine lv_aload_n hx hb dL_law_1159 rfl (lv_at hl 0 rfl) ?_
  refine lv_iload hx hb dL_law_1160 (lv_at hl 4 rfl) ?_
  refine lv_bipush (v := nI 9) hx hb dL_law_1162 (by decide) ?_
  refine bm_nadd hx hb dL_law_1164 ?_
  refine bm_sld hx hb hXs hbl hbA hS (j := (i + 9)) (by omega) (by omega) dL_law_1165 ?_
  refine lv_i2l (v := (xs (i + 9)).toInt64) hx hb dL_law_1166 rfl ?_
  refine lv_bipush (v := nI 32) hx hb dL_law_1167 (by decide) ?_
  refine lv_lshl (v := ((xs (i + 9)).toInt64) <<< ((nI 32).toInt64 &&& 63)) hx hb dL_law_1169 rfl ?_
  refine lv_aload_n hx hb dL_law_1170 rfl (lv_at hl 0 rfl) ?_
  refine lv_iload hx hb dL_law_1171 (lv_at hl 4 rfl) ?_
  refine lv_bipush (v := nI 10) hx hb dL_law_1173 (by decide) ?_
  refine bm_nadd hx hb dL_law_1175 ?_
  refine bm_sld hx hb hXs hbl hbA hS (j := (i + 10)) (by omega) (by omega) dL_law_1176 ?_
  refine lv_i2l (v := (xs (i + 10)).toInt64) hx hb dL_law_1177 rfl ?_
  refine lv_ldc2 (v := 4294967295) hx hb hown (hts (.constantLong RL 75 4294967295) (List.mem_filter.mp clL_75).1) dL_law_1178 ?_
  refine lv_land hx hb dL_law_1181 ?_
  refine lv_lor hx hb dL_law_1182 ?_
  refine lv_aload_n hx hb dL_law_1183 rfl (lv_at hl 3 rfl) ?_
  refine bx_xhcallS (n := 7) (As := [.ref (ad 0), .long ((((xs (i + 1)).toInt64) <<< ((nI 32).toInt64 &&& 63)) ||| (((xs (i + 2)).toInt64) &&& 4294967295)), .long ((((xs (i + 3)).toInt64) <<< ((nI 32).toInt64 &&& 63)) ||| (((xs (i + 4)).toInt64) &&& 4294967295)), .long ((((xs (i + 5)).toInt64) <<< ((nI 32).toInt64 &&& 63)) ||| (((xs (i + 6)).toInt64) &&& 4294967295)), .long ((((xs (i + 7)).toInt64) <<< ((nI 32).toInt64 &&& 63)) ||| (((xs (i + 8)).toInt64) &&& 4294967295)), .long ((((xs (i + 9)).toInt64) <<< ((nI 32).toInt64 &&& 63)) ||| (((xs (i + 10)).toInt64) &&& 4294967295)), .ref (ad 62)]) (rest := []) ⟨hx, hb, hml, hown, hts⟩ (H_keepOut hlt  okc H.size) rfl rfl (Nat.le_of_ble_eq_true rfl) (Nat.le_of_ble_eq_true rfl) (gdH (by decide +kernel)) (by decide +kernel) rfl hK hP hD hS hA hX hZ hN1 hN2 hAn rfl hl.1 rfl (Nat.le_of_ble_eq_true rfl) dL_law_1184 hcs (fun ws_1 r_2 h_3 H locs hP hD hS => ?_)
  obtain ⟨bmn_4, pan_5, p0n_6, p1n_7, p2n_8, lin_9, win_10, oun_11, okn_12, hnn_13, rfl, v_14, rfl⟩ := h_3
  have hP : va_P D vwCl (WW ad cJ cI cZ bmn_4 pan_5 p0n_6 p1n_7 p2n_8 lin_9 win_10 mt ms ma mp mk mn oun_11) H := hP
  have hD : va_D A (WW ad cJ cI cZ bmn_4 pan_5 p0n_6 p1n_7 p2n_8 lin_9 win_10 mt ms ma mp mk mn oun_11) := hD
  refine lv_istore (lv' := [(5, .int v_14), (0, .ref b), (1, .ref (ad 0)), (2, .ref (ad 42)), (3, .ref (ad 62)), (4, .int (nI i))]) hx hb dL_law_1187 hl (by decide) rfl (fun ls hl => ?_)
  refine lv_aload_n hx hb dL_law_1189 rfl (lv_at hl 3 rfl) ?_
  refine lv_aload_n hx hb dL_law_1190 rfl (lv_at hl 1 rfl) ?_
  refine lv_iload hx hb dL_law_1191 (lv_at hl 5 rfl) ?_
  refine lv_iconst (v := nI 1) hx hb dL_law_1193 (by decide) ?_
  refine bm_nadd hx hb dL_law_1194 ?_
  refine bm_sld hx hb hXs hbl hbA hS (j := (i + 1)) (by omega) (by omega) dL_law_1195 ?_
  refine lv_i2l (v := (xs (i + 1)).toInt64) hx hb dL_law_1196 rfl ?_
  refine lv_bipush (v := nI 32) hx hb dL_law_1197 (by decide) ?_
  refine lv_lshl (v := ((xs (i + 1)).toInt64) <<< ((nI 32).toInt64 &&& 63)) hx hb dL_law_1199 rfl ?_
  refine lv_aload_n hx hb dL_law_1200 rfl (lv_at hl 1 rfl) ?_
  refine lv_iload hx hb dL_law_1201 (lv_at hl 5 rfl) ?_
  refine lv_iconst (v := nI 2) hx hb dL_law_1203 (by decide) ?_
  refine bm_nadd hx hb dL_law_1204 ?_
  refine bm_sld hx hb hXs hbl hbA hS (j := (i + 2)) (by omega) (by omega) dL_law_1205 ?_
  refine lv_i2l (v := (xs (i + 2)).toInt64) hx hb dL_law_1206 rfl ?_
  refine lv_ldc2 (v := 4294967295) hx hb hown (hts (.constantLong RL 75 4294967295) (List.mem_filter.mp clL_75).1) dL_law_1207 ?_
  refine lv_land hx hb dL_law_1210 ?_
  refine lv_lor hx hb dL_law_1211 ?_
  refine lv_aload_n hx hb dL_law_1212 rfl (lv_at hl 1 rfl) ?_
  refine lv_iload hx hb dL_law_1213 (lv_at hl 5 rfl) ?_
  refine lv_iconst (v := nI 3) hx hb dL_law_1215 (by decide) ?_
  refine bm_nadd hx hb dL_law_1216 ?_
  refine bm_sld hx hb hXs hbl hbA hS (j := (i + 3)) (by omega) (by omega) dL_law_1217 ?_
  refine lv_i2l (v := (xs (i + 3)).toInt64) hx hb dL_law_1218 rfl ?_
  refine lv_bipush (v := nI 32) hx hb dL_law_1219 (by decide) ?_
  refine lv_lshl (v := ((xs (i + 3)).toInt64) <<< ((nI 32).toInt64 &&& 63)) hx hb dL_law_1221 rfl ?_
  refine lv_aload_n hx hb dL_law_1222 rfl (lv_at hl 1 rfl) ?_
  refine lv_iload hx hb dL_law_1223 (lv_at hl 5 rfl) ?_
  refine lv_iconst (v := nI 4) hx hb dL_law_1225 (by decide) ?_
  refine bm_nadd hx hb dL_law_1226 ?_
  refine bm_sld hx hb hXs hbl hbA hS (j := (i + 4)) (by omega) (by omega) dL_law_1227 ?_
  refine lv_i2l (v := (xs (i + 4)).toInt64) hx hb dL_law_1228 rfl ?_
  refine lv_ldc2 (v := 4294967295) hx hb hown (hts (.constantLong RL 75 4294967295) (List.mem_filter.mp clL_75).1) dL_law_1229 ?_
  refine lv_land hx hb dL_law_1232 ?_
  refine lv_lor hx hb dL_law_1233 ?_
  refine lv_aload_n hx hb dL_law_1234 rfl (lv_at hl 1 rfl) ?_
  refine lv_iload hx hb dL_law_1235 (lv_at hl 5 rfl) ?_
  refine lv_iconst (v := nI 5) hx hb dL_law_1237 (by decide) ?_
  refine bm_nadd hx hb dL_law_1238 ?_
  refine bm_sld hx hb hXs hbl hbA hS (j := (i + 5)) (by omega) (by omega) dL_law_1239 ?_
  refine lv_i2l (v := (xs (i + 5)).toInt64) hx hb dL_law_1240 rfl ?_
  refine lv_bipush (v := nI 32) hx hb dL_law_1241 (by decide) ?_
  refine lv_lshl (v := ((xs (i + 5)).toInt64) <<< ((nI 32).toInt64 &&& 63)) hx hb dL_law_1243 rfl ?_
  refine lv_aload_n hx hb dL_law_1244 rfl (lv_at hl 1 rfl) ?_
  refine lv_iload hx hb dL_law_1245 (lv_at hl 5 rfl) ?_
  refine lv_bipush (v := nI 6) hx hb dL_law_1247 (by decide) ?_
  refine bm_nadd hx hb dL_law_1249 ?_
  refine bm_sld hx hb hXs hbl hbA hS (j := (i + 6)) (by omega) (by omega) dL_law_1250 ?_
  refine lv_i2l (v := (xs (i + 6)).toInt64) hx hb dL_law_1251 rfl ?_
  refine lv_ldc2 (v := 4294967295) hx hb hown (hts (.constantLong RL 75 4294967295) (List.mem_filter.mp clL_75).1) dL_law_1252 ?_
  refine lv_land hx hb dL_law_1255 ?_
  refine lv_lor hx hb dL_law_1256 ?_
  refine lv_aload_n hx hb dL_law_1257 rfl (lv_at hl 1 rfl) ?_
  refine lv_iload hx hb dL_law_1258 (lv_at hl 5 rfl) ?_
  refine lv_bipush (v := nI 7) hx hb dL_law_1260 (by decide) ?_
  refine bm_nadd hx hb dL_law_1262 ?_
  refine bm_sld hx hb hXs hbl hbA hS (j := (i + 7)) (by omega) (by omega) dL_law_1263 ?_
  refine lv_i2l (v := (xs (i + 7)).toInt64) hx hb dL_law_1264 rfl ?_
  refine lv_bipush (v := nI 32) hx hb dL_law_1265 (by decide) ?_
  refine lv_lshl (v := ((xs (i + 7)).toInt64) <<< ((nI 32).toInt64 &&& 63)) hx hb dL_law_1267 rfl ?_
  refine lv_aload_n hx hb dL_law_1268 rfl (lv_at hl 1 rfl) ?_
  refine lv_iload hx hb dL_law_1269 (lv_at hl 5 rfl) ?_
  refine lv_bipush (v := nI 8) hx hb dL_law_1271 (by decide) ?_
  refine bm_nadd hx hb dL_law_1273 ?_
  refine bm_sld hx hb hXs hbl hbA hS (j := (i + 8)) (by omega) (by omega) dL_law_1274 ?_
  refine lv_i2l (v := (xs (i + 8)).toInt64) hx hb dL_law_1275 rfl ?_
  refine lv_ldc2 (v := 4294967295) hx hb hown (hts (.constantLong RL 75 4294967295) (List.mem_filter.mp clL_75).1) dL_law_1276 ?_
  refine lv_land hx hb dL_law_1279 ?_
  refine lv_lor hx hb dL_law_1280 ?_
  refine lv_aload_n hx hb dL_law_1281 rfl (lv_at hl 1 rfl) ?_
  refine lv_iload hx hb dL_law_1282 (lv_at hl 5 rfl) ?_
  refine lv_bipush (v := nI 9) hx hb dL_law_1284 (by decide) ?_
  refine bm_nadd hx hb dL_law_1286 ?_
  refine bm_sld hx hb hXs hbl hbA hS (j := (i + 9)) (by omega) (by omega) dL_law_1287 ?_
  refine lv_i2l (v := (xs (i + 9)).toInt64) hx hb dL_law_1288 rfl ?_
  refine lv_bipush (v := nI 32) hx hb dL_law_1289 (by decide) ?_
  refine lv_lshl (v := ((xs (i + 9)).toInt64) <<< ((nI 32).toInt64 &&& 63)) hx hb dL_law_1291 rfl ?_
  refine lv_aload_n hx hb dL_law_1292 rfl (lv_at hl 1 rfl) ?_
  refine lv_iload hx hb dL_law_1293 (lv_at hl 5 rfl) ?_
  refine lv_bipush (v := nI 10) hx hb dL_law_1295 (by decide) ?_
  refine bm_nadd hx hb dL_law_1297 ?_
  refine bm_sld hx hb hXs hbl hbA hS (j := (i + 10)) (by omega) (by omega) dL_law_1298 ?_
  refine lv_i2l (v := (xs (i + 10)).toInt64) hx hb dL_law_1299 rfl ?_
  refine lv_ldc2 (v := 4294967295) hx hb hown (hts (.constantLong RL 75 4294967295) (List.mem_filter.mp clL_75).1) dL_law_1300 ?_
  refine lv_land hx hb dL_law_1303 ?_
  refine lv_lor hx hb dL_law_1304 ?_
  refine bm_xcallV (As := [.long ((((xs (i + 1)).toInt64) <<< ((nI 32).toInt64 &&& 63)) ||| (((xs (i + 2)).toInt64) &&& 4294967295)), .long ((((xs (i + 3)).toInt64) <<< ((nI 32).toInt64 &&& 63)) ||| (((xs (i + 4)).toInt64) &&& 4294967295)), .long ((((xs (i + 5)).toInt64) <<< ((nI 32).toInt64 &&& 63)) ||| (((xs (i + 6)).toInt64) &&& 4294967295)), .long ((((xs (i + 7)).toInt64) <<< ((nI 32).toInt64 &&& 63)) ||| (((xs (i + 8)).toInt64) &&& 4294967295)), .long ((((xs (i + 9)).toInt64) <<< ((nI 32).toInt64 &&& 63)) ||| (((xs (i + 10)).toInt64) &&& 4294967295))]) (rest := []) ⟨hx, hb, hml, hown, hts⟩ (Y_keepOut   okm ) (cwV 5 hts gvL_136 rfl rfl rfl hvX5_keepOut ⟨Nat.le_of_ble_eq_true rfl, Nat.le_of_ble_eq_true rfl⟩) hK hP hD hS hA 42 5 rfl ww_42 rfl hl.1 rfl (Nat.le_of_ble_eq_true rfl) dL_law_1305 hcs (fun ws_15 r_16 h_17 H locs hP hD hS => ?_)
  obtain ⟨mtn_18, msn_19, man_20, mpn_21, mkn_22, mnn_23, okn_24, hnn_25, rfl, v_26, rfl⟩ := h_17
  have hP : va_P D vwCl (WW ad cJ cI cZ bmn_4 pan_5 p0n_6 p1n_7 p2n_8 lin_9 win_10 mtn_18 msn_19 man_20 mpn_21 mkn_22 mnn_23 oun_11) H := hP
  have hD : va_D A (WW ad cJ cI cZ bmn_4 pan_5 p0n_6 p1n_7 p2n_8 lin_9 win_10 mtn_18 msn_19 man_20 mpn_21 mkn_22 mnn_23 oun_11) := hD
  refine lv_istore (lv' := [(6, .int (bm_b v_26)), (5, .int v_14), (0, .ref b), (1, .ref (ad 0)), (2, .ref (ad 42)), (3, .ref (ad 62)), (4, .int (nI i))]) hx hb dL_law_1308 hl (by decide) rfl (fun ls hl => ?_)
  refine lv_goto (tgt := 1354) hx hb dL_law_1310 (by decide) ?_
  exact kk bmn_4 pan_5 p0n_6 p1n_7 p2n_8 lin_9 win_10 mtn_18 msn_19 man_20 mpn_21 mkn_22 mnn_23 oun_11 okn_12 okn_24 (hnn_13.trans (heq.trans hnn_25.symm)) _ _ hP hD hS _ (lv_sub hl [2, 3, 4, 5, 6] rfl)
