set_option maxHeartbeats 16000000 in
set_option maxRecDepth 100000 in
theorem V_9 {p : Program} {l : Launch} {e : Env} {s : State} {m : MethodId} {below : List Frame} {meth : Method} {c : Code} {b L : Nat} {xs : Nat → Int32} (hlt : l.stackTraces = false) (hL : L ≤ 5635) (C0 : lw_At p s m meth c b L xs) (hX : bx_X xW s) (hZ : bx_S RX4 xS s) (hN1 : bx_N "java/lang/IllegalArgumentException" "java/lang/IndexOutOfBoundsException" s) (hN2 : bx_N "java/lang/IllegalStateException" "java/lang/IndexOutOfBoundsException" s) {A : Nat → Prop} (hA : ∀ q : Nat, s.heap.size ≤ q → A q) (hAn : ∀ q : Nat, q < s.heap.size → ¬ A q) {D : va_G} {ad : Nat → Nat} {cJ cI cZ : ClassId} {bm : gBM} {pa : gPA} {p0 p1 p2 : gPL} {li : gLI} {wi : gWI} {mt : Nat} {ms : gMS} {ma : gMA} {mp : gMP} {mk : gMK} {mn : gMN} {ou : Nat → Int64} {i : Nat} (hi : i + 11 ≤ L) (okc : okC bm pa p0 p1 p2 li wi) (okm : okM ms ma mp mk mn) (heq : 0 = 0)  {H : Heap} {locs : List Loc} {cells slots : Nat} (hcs : cells + 1 ≤ room_1.cells ∧ slots + 6 ≤ room_1.slots) (hK : va_K D vwCl [(cJ, .long), (cI, .int), (cZ, .boolean)] s) (hP : va_P D vwCl (WW ad cJ cI cZ bm pa p0 p1 p2 li wi mt ms ma mp mk mn ou) H) (hD : va_D A (WW ad cJ cI cZ bm pa p0 p1 p2 li wi mt ms ma mp mk mn ou)) (hS : va_S A s.heap H locs) {ls : Array Slot} (hl : lv_has ls 8 [(0, .ref b), (1, .ref (ad 0)), (2, .ref (ad 42)), (3, .ref (ad 62)), (4, .int (nI i))]) (kk : ∀ (bm : gBM) (pa : gPA) (p0 p1 p2 : gPL) (li : gLI) (wi : gWI) (mt : Nat) (ms : gMS) (ma : gMA) (mp : gMP) (mk : gMK) (mn : gMN) (ou : Nat → Int64), okC bm pa p0 p1 p2 li wi → okM ms ma mp mk mn → 0 = 0 → ∀ (H : Heap) (locs : List Loc), va_P D vwCl (WW ad cJ cI cZ bm pa p0 p1 p2 li wi mt ms ma mp mk mn ou) H → va_D A (WW ad cJ cI cZ bm pa p0 p1 p2 li wi mt ms ma mp mk mn ou) → va_S A s.heap H locs → ∀ ls : Array Slot, lv_has ls 8 [(0, .ref b), (1, .ref (ad 0)), (2, .ref (ad 42)), (3, .ref (ad 62)), (4, .int (nI i))] → W p l e room_1 s m #[Value.ref b] below meth c H locs (cells + 1) (slots + 6) (lw_Z below #[Value.ref b] s) (F0 m 1326 ls [])) : W p l e room_1 s m #[Value.ref b] below meth c H locs cells slots (lw_Z below #[Value.ref b] s) (F0 m 830 ls []) := by
  obtain ⟨hx, hb, hr, hml, hown, hts, hXs, hbl, hlocks, hgv⟩ := id C0
  have hbA := hAn b hbl
  refine lv_aload_n hx hb dL_law_830 rfl (lv_at hl 1 rfl) ?_
  refine bm_xcallV (As := []) (rest := []) ⟨hx, hb, hml, hown, hts⟩ (Z_full   okc ) (cwV 0 hts gvL_115 rfl rfl rfl hvX4_full ⟨Nat.le_of_ble_eq_true rfl, Nat.le_of_ble_eq_true rfl⟩) hK hP hD hS hA 0 4 rfl ww_0 rfl hl.1 rfl (Nat.le_of_ble_eq_true rfl) dL_law_831 ⟨Nat.le_of_succ_le hcs.1, Nat.le_trans (Nat.le_add_right _ _) hcs.2⟩ (fun ws_1 r_2 h_3 H locs hP hD hS => ?_)
  obtain ⟨bmn_4, pan_5, p0n_6, p1n_7, p2n_8, lin_9, win_10, oun_11, okn_12, hnn_13, rfl, v_14, rfl⟩ := h_3
  have hP : va_P D vwCl (WW ad cJ cI cZ bmn_4 pan_5 p0n_6 p1n_7 p2n_8 lin_9 win_10 mt ms ma mp mk mn oun_11) H := hP
  have hD : va_D A (WW ad cJ cI cZ bmn_4 pan_5 p0n_6 p1n_7 p2n_8 lin_9 win_10 mt ms ma mp mk mn oun_11) := hD
  refine lv_pop2_2 hx hb dL_law_834 rfl ?_
  refine lv_aload_n hx hb dL_law_835 rfl (lv_at hl 2 rfl) ?_
  refine bm_xcallV (As := []) (rest := []) ⟨hx, hb, hml, hown, hts⟩ (Y_full   okm ) (cwV 0 hts gvL_118 rfl rfl rfl hvX5_full ⟨Nat.le_of_ble_eq_true rfl, Nat.le_of_ble_eq_true rfl⟩) hK hP hD hS hA 42 5 rfl ww_42 rfl hl.1 rfl (Nat.le_of_ble_eq_true rfl) dL_law_836 ⟨Nat.le_of_succ_le hcs.1, Nat.le_trans (Nat.le_add_right _ _) hcs.2⟩ (fun ws_15 r_16 h_17 H locs hP hD hS => ?_)
  obtain ⟨mtn_18, msn_19, man_20, mpn_21, mkn_22, mnn_23, okn_24, hnn_25, rfl, v_26, rfl⟩ := h_17
  have hP : va_P D vwCl (WW ad cJ cI cZ bmn_4 pan_5 p0n_6 p1n_7 p2n_8 lin_9 win_10 mtn_18 msn_19 man_20 mpn_21 mkn_22 mnn_23 oun_11) H := hP
  have hD : va_D A (WW ad cJ cI cZ bmn_4 pan_5 p0n_6 p1n_7 p2n_8 lin_9 win_10 mtn_18 msn_19 man_20 mpn_21 mkn_22 mnn_23 oun_11) := hD
  refine lv_pop2_2 hx hb dL_law_839 rfl ?_
  refine lv_goto (tgt := 1326) hx hb dL_law_840 (by decide) ?_
  refine W.widen (k := cells + 1) (n := slots + 6) (Nat.le_succ _) (Nat.le_add_right _ _) ?_
  exact kk bmn_4 pan_5 p0n_6 p1n_7 p2n_8 lin_9 win_10 mtn_18 msn_19 man_20 mpn_21 mkn_22 mnn_23 oun_11 okn_12 okn_24 (hnn_13.trans (heq.trans hnn_25.symm)) _ _ hP hD hS _ (lv_sub hl [0, 1, 2, 3, 4] rfl)

set_option maxHeartbeats 16000000 in
set_option maxRecDepth 100000 in
theorem V_10 {p : Program} {l : Launch} {e : Env} {s : State} {m : MethodId} {below : List Frame} {meth : Method} {c : Code} {b L : Nat} {xs : Nat → Int32} (hlt : l.stackTraces = false) (hL : L ≤ 5635) (C0 : lw_At p s m meth c b L xs) (hX : bx_X xW s) (hZ : bx_S RX4 xS s) (hN1 : bx_N "java/lang/IllegalArgumentException" "java/lang/IndexOutOfBoundsException" s) (hN2 : bx_N "java/lang/IllegalStateException" "java/lang/IndexOutOfBoundsException" s) {A : Nat → Prop} (hA : ∀ q : Nat, s.heap.size ≤ q → A q) (hAn : ∀ q : Nat, q < s.heap.size → ¬ A q) {D : va_G} {ad : Nat → Nat} {cJ cI cZ : ClassId} {bm : gBM} {pa : gPA} {p0 p1 p2 : gPL} {li : gLI} {wi : gWI} {mt : Nat} {ms : gMS} {ma : gMA} {mp : gMP} {mk : gMK} {mn : gMN} {ou : Nat → Int64} {i : Nat} (hi : i + 11 ≤ L) (okc : okC bm pa p0 p1 p2 li wi) (okm : okM ms ma mp mk mn) (heq : 0 = 0)  {H : Heap} {locs : List Loc} {cells slots : Nat} (hcs : cells + 1 ≤ room_1.cells ∧ slots + 6 ≤ room_1.slots) (hK : va_K D vwCl [(cJ, .long), (cI, .int), (cZ, .boolean)] s) (hP : va_P D vwCl (WW ad cJ cI cZ bm pa p0 p1 p2 li wi mt ms ma mp mk mn ou) H) (hD : va_D A (WW ad cJ cI cZ bm pa p0 p1 p2 li wi mt ms ma mp mk mn ou)) (hS : va_S A s.heap H locs) {ls : Array Slot} (hl : lv_has ls 8 [(0, .ref b), (1, .ref (ad 0)), (2, .ref (ad 42)), (3, .ref (ad 62)), (4, .int (nI i))]) (kk : ∀ (bm : gBM) (pa : gPA) (p0 p1 p2 : gPL) (li : gLI) (wi : gWI) (mt : Nat) (ms : gMS) (ma : gMA) (mp : gMP) (mk : gMK) (mn : gMN) (ou : Nat → Int64), okC bm pa p0 p1 p2 li wi → okM ms ma mp mk mn → 0 = 0 → ∀ (H : Heap) (locs : List Loc), va_P D vwCl (WW ad cJ cI cZ bm pa p0 p1 p2 li wi mt ms ma mp mk mn ou) H → va_D A (WW ad cJ cI cZ bm pa p0 p1 p2 li wi mt ms ma mp mk mn ou) → va_S A s.heap H locs → ∀ ls : Array Slot, lv_has ls 8 [(0, .ref b), (1, .ref (ad 0)), (2, .ref (ad 42)), (3, .ref (ad 62)), (4, .int (nI i))] → W p l e room_1 s m #[Value.ref b] below meth c H locs (cells + 1) (slots + 6) (lw_Z below #[Value.ref b] s) (F0 m 1326 ls [])) : W p l e room_1 s m #[Value.ref b] below meth c H locs cells slots (lw_Z below #[Value.ref b] s) (F0 m 843 ls []) := by
  obtain ⟨hx, hb, hr, hml, hown, hts, hXs, hbl, hlocks, hgv⟩ := id C0
  have hbA := hAn b hbl
  refine lv_aload_n hx hb dL_law_843 rfl (lv_at hl 1 rfl) ?_
  refine lv_aload_n hx hb dL_law_844 rfl (lv_at hl 0 rfl) ?_
  refine lv_iload hx hb dL_law_845 (lv_at hl 4 rfl) ?_
  refine lv_iconst (v := nI 1) hx hb dL_law_847 (by decide) ?_
  refine bm_nadd hx hb dL_law_848 ?_
  refine bm_sld hx hb hXs hbl hbA hS (j := (i + 1)) (by omega) (by omega) dL_law_849 ?_
  refine lv_aload_n hx hb dL_law_850 rfl (lv_at hl 0 rfl) ?_
  refine lv_iload hx hb dL_law_851 (lv_at hl 4 rfl) ?_
  refine lv_iconst (v := nI 2) hx hb dL_law_853 (by decide) ?_
  refine bm_nadd hx hb dL_law_854 ?_
  refine bm_sld hx hb hXs hbl hbA hS (j := (i + 2)) (by omega) (by omega) dL_law_855 ?_
  refine lv_aload_n hx hb dL_law_856 rfl (lv_at hl 0 rfl) ?_
  refine lv_iload hx hb dL_law_857 (lv_at hl 4 rfl) ?_
  refine lv_iconst (v := nI 3) hx hb dL_law_859 (by decide) ?_
  refine bm_nadd hx hb dL_law_860 ?_
  refine bm_sld hx hb hXs hbl hbA hS (j := (i + 3)) (by omega) (by omega) dL_law_861 ?_
  refine lv_i2l (v := (xs (i + 3)).toInt64) hx hb dL_law_862 rfl ?_
  refine lv_bipush (v := nI 32) hx hb dL_law_863 (by decide) ?_
  refine lv_lshl (v := ((xs (i + 3)).toInt64) <<< ((nI 32).toInt64 &&& 63)) hx hb dL_law_865 rfl ?_
  refine lv_aload_n hx hb dL_law_866 rfl (lv_at hl 0 rfl) ?_
  refine lv_iload hx hb dL_law_867 (lv_at hl 4 rfl) ?_
  refine lv_iconst (v := nI 4) hx hb dL_law_869 (by decide) ?_
  refine bm_nadd hx hb dL_law_870 ?_
  refine bm_sld hx hb hXs hbl hbA hS (j := (i + 4)) (by omega) (by omega) dL_law_871 ?_
  refine lv_i2l (v := (xs (i + 4)).toInt64) hx hb dL_law_872 rfl ?_
  refine lv_ldc2 (v := 4294967295) hx hb hown (hts (.constantLong RL 75 4294967295) (List.mem_filter.mp clL_75).1) dL_law_873 ?_
  refine lv_land hx hb dL_law_876 ?_
  refine lv_lor hx hb dL_law_877 ?_
  refine lv_aload_n hx hb dL_law_878 rfl (lv_at hl 3 rfl) ?_
  refine bx_xhcallS (n := 5) (As := [.ref (ad 0), .int (xs (i + 1)), .int (xs (i + 2)), .long ((((xs (i + 3)).toInt64) <<< ((nI 32).toInt64 &&& 63)) ||| (((xs (i + 4)).toInt64) &&& 4294967295)), .ref (ad 62)]) (rest := []) ⟨hx, hb, hml, hown, hts⟩ (H_near hlt  okc H.size) rfl rfl (Nat.le_of_ble_eq_true rfl) (Nat.le_of_ble_eq_true rfl) (gdH (by decide +kernel)) (by decide +kernel) rfl hK hP hD hS hA hX hZ hN1 hN2 hAn rfl hl.1 rfl (Nat.le_of_ble_eq_true rfl) dL_law_879 hcs (fun ws_1 r_2 h_3 H locs hP hD hS => ?_)
  obtain ⟨bmn_4, pan_5, p0n_6, p1n_7, p2n_8, lin_9, win_10, oun_11, okn_12, hnn_13, rfl, v_14, rfl⟩ := h_3
  have hP : va_P D vwCl (WW ad cJ cI cZ bmn_4 pan_5 p0n_6 p1n_7 p2n_8 lin_9 win_10 mt ms ma mp mk mn oun_11) H := hP
  have hD : va_D A (WW ad cJ cI cZ bmn_4 pan_5 p0n_6 p1n_7 p2n_8 lin_9 win_10 mt ms ma mp mk mn oun_11) := hD
  refine lv_istore (lv' := [(5, .int v_14), (0, .ref b), (1, .ref (ad 0)), (2, .ref (ad 42)), (3, .ref (ad 62)), (4, .int (nI i))]) hx hb dL_law_882 hl (by decide) rfl (fun ls hl => ?_)
  refine lv_aload_n hx hb dL_law_884 rfl (lv_at hl 3 rfl) ?_
  refine lv_aload_n hx hb dL_law_885 rfl (lv_at hl 1 rfl) ?_
  refine lv_iload hx hb dL_law_886 (lv_at hl 5 rfl) ?_
  refine lv_iconst (v := nI 1) hx hb dL_law_888 (by decide) ?_
  refine bm_nadd hx hb dL_law_889 ?_
  refine bm_sld hx hb hXs hbl hbA hS (j := (i + 1)) (by omega) (by omega) dL_law_890 ?_
  refine lv_aload_n hx hb dL_law_891 rfl (lv_at hl 1 rfl) ?_
  refine lv_iload hx hb dL_law_892 (lv_at hl 5 rfl) ?_
  refine lv_iconst (v := nI 2) hx hb dL_law_894 (by decide) ?_
  refine bm_nadd hx hb dL_law_895 ?_
  refine bm_sld hx hb hXs hbl hbA hS (j := (i + 2)) (by omega) (by omega) dL_law_896 ?_
  refine lv_aload_n hx hb dL_law_897 rfl (lv_at hl 1 rfl) ?_
  refine lv_iload hx hb dL_law_898 (lv_at hl 5 rfl) ?_
  refine lv_iconst (v := nI 3) hx hb dL_law_900 (by decide) ?_
  refine bm_nadd hx hb dL_law_901 ?_
  refine bm_sld hx hb hXs hbl hbA hS (j := (i + 3)) (by omega) (by omega) dL_law_902 ?_
  refine lv_i2l (v := (xs (i + 3)).toInt64) hx hb dL_law_903 rfl ?_
  refine lv_bipush (v := nI 32) hx hb dL_law_904 (by decide) ?_
  refine lv_lshl (v := ((xs (i + 3)).toInt64) <<< ((nI 32).toInt64 &&& 63)) hx hb dL_law_906 rfl ?_
  refine lv_aload_n hx hb dL_law_907 rfl (lv_at hl 1 rfl) ?_
  refine lv_iload hx hb dL_law_908 (lv_at hl 5 rfl) ?_
  refine lv_iconst (v := nI 4) hx hb dL_law_910 (by decide) ?_
  refine bm_nadd hx hb dL_law_911 ?_
  refine bm_sld hx hb hXs hbl hbA hS (j := (i + 4)) (by omega) (by omega) dL_law_912 ?_
  refine lv_i2l (v := (xs (i + 4)).toInt64) hx hb dL_law_913 rfl ?_
  refine lv_ldc2 (v := 4294967295) hx hb hown (hts (.constantLong RL 75 4294967295) (List.mem_filter.mp clL_75).1) dL_law_914 ?_
  refine lv_land hx hb dL_law_917 ?_
  refine lv_lor hx hb dL_law_918 ?_
  refine bm_xcallV (As := [.int (xs (i + 1)), .int (xs (i + 2)), .long ((((xs (i + 3)).toInt64) <<< ((nI 32).toInt64 &&& 63)) ||| (((xs (i + 4)).toInt64) &&& 4294967295))]) (rest := []) ⟨hx, hb, hml, hown, hts⟩ (Y_near   okm ) (cwV 3 hts gvL_122 rfl rfl rfl hvX5_near ⟨Nat.le_of_ble_eq_true rfl, Nat.le_of_ble_eq_true rfl⟩) hK hP hD hS hA 42 5 rfl ww_42 rfl hl.1 rfl (Nat.le_of_ble_eq_true rfl) dL_law_919 hcs (fun ws_15 r_16 h_17 H locs hP hD hS => ?_)
  obtain ⟨mtn_18, msn_19, man_20, mpn_21, mkn_22, mnn_23, okn_24, hnn_25, rfl, v_26, rfl⟩ := h_17
  have hP : va_P D vwCl (WW ad cJ cI cZ bmn_4 pan_5 p0n_6 p1n_7 p2n_8 lin_9 win_10 mtn_18 msn_19 man_20 mpn_21 mkn_22 mnn_23 oun_11) H := hP
  have hD : va_D A (WW ad cJ cI cZ bmn_4 pan_5 p0n_6 p1n_7 p2n_8 lin_9 win_10 mtn_18 msn_19 man_20 mpn_21 mkn_22 mnn_23 oun_11) := hD
  refine lv_istore (lv' := [(6, .int (bm_b v_26)), (5, .int v_14), (0, .ref b), (1, .ref (ad 0)), (2, .ref (ad 42)), (3, .ref (ad 62)), (4, .int (nI i))]) hx hb dL_law_922 hl (by decide) rfl (fun ls hl => ?_)
  refine lv_goto (tgt := 1326) hx hb dL_law_924 (by decide) ?_
  exact kk bmn_4 pan_5 p0n_6 p1n_7 p2n_8 lin_9 win_10 mtn_18 msn_19 man_20 mpn_21 mkn_22 mnn_23 oun_11 okn_12 okn_24 (hnn_13.trans (heq.trans hnn_25.symm)) _ _ hP hD hS _ (lv_sub hl [2, 3, 4, 5, 6] rfl)

set_option maxHeartbeats 16000000 in
set_option maxRecDepth 100000 in
theorem V_11 {p : Program} {l : Launch} {e : Env} {s : State} {m : MethodId} {below : List Frame} {meth : Method} {c : Code} {b L : Nat} {xs : Nat → Int32} (hlt : l.stackTraces = false) (hL : L ≤ 5635) (C0 : lw_At p s m meth c b L xs) (hX : bx_X xW s) (hZ : bx_S RX4 xS s) (hN1 : bx_N "java/lang/IllegalArgumentException" "java/lang/IndexOutOfBoundsException" s) (hN2 : bx_N "java/lang/IllegalStateException" "java/lang/IndexOutOfBoundsException" s) {A : Nat → Prop} (hA : ∀ q : Nat, s.heap.size ≤ q → A q) (hAn : ∀ q : Nat, q < s.heap.size → ¬ A q) {D : va_G} {ad : Nat → Nat} {cJ cI cZ : ClassId} {bm : gBM} {pa : gPA} {p0 p1 p2 : gPL} {li : gLI} {wi : gWI} {mt : Nat} {ms : gMS} {ma : gMA} {mp : gMP} {mk : gMK} {mn : gMN} {ou : Nat → Int64} {i : Nat} (hi : i + 11 ≤ L) (okc : okC bm pa p0 p1 p2 li wi) (okm : okM ms ma mp mk mn) (heq : 0 = 0)  {H : Heap} {locs : List Loc} {cells slots : Nat} (hcs : cells + 1 ≤ room_1.cells ∧ slots + 6 ≤ room_1.slots) (hK : va_K D vwCl [(cJ, .long), (cI, .int), (cZ, .boolean)] s) (hP : va_P D vwCl (WW ad cJ cI cZ bm pa p0 p1 p2 li wi mt ms ma mp mk mn ou) H) (hD : va_D A (WW ad cJ cI cZ bm pa p0 p1 p2 li wi mt ms ma mp mk mn ou)) (hS : va_S A s.heap H locs) {ls : Array Slot} (hl : lv_has ls 8 [(0, .ref b), (1, .ref (ad 0)), (2, .ref (ad 42)), (3, .ref (ad 62)), (4, .int (nI i))]) (kk : ∀ (bm : gBM) (pa : gPA) (p0 p1 p2 : gPL) (li : gLI) (wi : gWI) (mt : Nat) (ms : gMS) (ma : gMA) (mp : gMP) (mk : gMK) (mn : gMN) (ou : Nat → Int64), okC bm pa p0 p1 p2 li wi → okM ms ma mp mk mn → 0 = 0 → ∀ (H : Heap) (locs : List Loc), va_P D vwCl (WW ad cJ cI cZ bm pa p0 p1 p2 li wi mt ms ma mp mk mn ou) H → va_D A (WW ad cJ cI cZ bm pa p0 p1 p2 li wi mt ms ma mp mk mn ou) → va_S A s.heap H locs → ∀ ls : Array Slot, lv_has ls 8 [(0, .ref b), (1, .ref (ad 0)), (2, .ref (ad 42)), (3, .ref (ad 62)), (4, .int (nI i))] → W p l e room_1 s m #[Value.ref b] below meth c H locs (cells + 1) (slots + 6) (lw_Z below #[Value.ref b] s) (F0 m 1326 ls [])) : W p l e room_1 s m #[Value.ref b] below meth c H locs cells slots (lw_Z below #[Value.ref b] s) (F0 m 927 ls []) := by
  obtain ⟨hx, hb, hr, hml, hown, hts, hXs, hbl, hlocks, hgv⟩ := id C0
  have hbA := hAn b hbl
  refine lv_aload_n hx hb dL_law_927 rfl (lv_at hl 1 rfl) ?_
  refine lv_aload_n hx hb dL_law_928 rfl (lv_at hl 0 rfl) ?_
  refine lv_iload hx hb dL_law_929 (lv_at hl 4 rfl) ?_
  refine lv_iconst (v := nI 1) hx hb dL_law_931 (by decide) ?_
  refine bm_nadd hx hb dL_law_932 ?_
  refine bm_sld hx hb hXs hbl hbA hS (j := (i + 1)) (by omega) (by omega) dL_law_933 ?_
  refine lv_aload_n hx hb dL_law_934 rfl (lv_at hl 0 rfl) ?_
  refine lv_iload hx hb dL_law_935 (lv_at hl 4 rfl) ?_
  refine lv_iconst (v := nI 2) hx hb dL_law_937 (by decide) ?_
  refine bm_nadd hx hb dL_law_938 ?_
  refine bm_sld hx hb hXs hbl hbA hS (j := (i + 2)) (by omega) (by omega) dL_law_939 ?_
  refine lv_aload_n hx hb dL_law_940 rfl (lv_at hl 3 rfl) ?_
  refine bx_xhcallS (n := 4) (As := [.ref (ad 0), .int (xs (i + 1)), .int (xs (i + 2)), .ref (ad 62)]) (rest := []) ⟨hx, hb, hml, hown, hts⟩ (H_group hlt  okc H.size) rfl rfl (Nat.le_of_ble_eq_true rfl) (Nat.le_of_ble_eq_true rfl) (gdH (by decide +kernel)) (by decide +kernel) rfl hK hP hD hS hA hX hZ hN1 hN2 hAn rfl hl.1 rfl (Nat.le_of_ble_eq_true rfl) dL_law_941 hcs (fun ws_1 r_2 h_3 H locs hP hD hS => ?_)
  obtain ⟨bmn_4, pan_5, p0n_6, p1n_7, p2n_8, lin_9, win_10, oun_11, okn_12, hnn_13, rfl, v_14, rfl⟩ := h_3
  have hP : va_P D vwCl (WW ad cJ cI cZ bmn_4 pan_5 p0n_6 p1n_7 p2n_8 lin_9 win_10 mt ms ma mp mk mn oun_11) H := hP
  have hD : va_D A (WW ad cJ cI cZ bmn_4 pan_5 p0n_6 p1n_7 p2n_8 lin_9 win_10 mt ms ma mp mk mn oun_11) := hD
  refine lv_istore (lv' := [(5, .int v_14), (0, .ref b), (1, .ref (ad 0)), (2, .ref (ad 42)), (3, .ref (ad 62)), (4, .int (nI i))]) hx hb dL_law_944 hl (by decide) rfl (fun ls hl => ?_)
  refine lv_aload_n hx hb dL_law_946 rfl (lv_at hl 3 rfl) ?_
  refine lv_aload_n hx hb dL_law_947 rfl (lv_at hl 1 rfl) ?_
  refine lv_iload hx hb dL_law_948 (lv_at hl 5 rfl) ?_
  refine lv_iconst (v := nI 1) hx hb dL_law_950 (by decide) ?_
  refine bm_nadd hx hb dL_law_951 ?_
  refine bm_sld hx hb hXs hbl hbA hS (j := (i + 1)) (by omega) (by omega) dL_law_952 ?_
  refine lv_aload_n hx hb dL_law_953 rfl (lv_at hl 1 rfl) ?_
  refine lv_iload hx hb dL_law_954 (lv_at hl 5 rfl) ?_
  refine lv_iconst (v := nI 2) hx hb dL_law_956 (by decide) ?_
  refine bm_nadd hx hb dL_law_957 ?_
  refine bm_sld hx hb hXs hbl hbA hS (j := (i + 2)) (by omega) (by omega) dL_law_958 ?_
  refine bm_xcallV (As := [.int (xs (i + 1)), .int (xs (i + 2))]) (rest := []) ⟨hx, hb, hml, hown, hts⟩ (Y_group   okm ) (cwV 2 hts gvL_125 rfl rfl rfl hvX5_group ⟨Nat.le_of_ble_eq_true rfl, Nat.le_of_ble_eq_true rfl⟩) hK hP hD hS hA 42 5 rfl ww_42 rfl hl.1 rfl (Nat.le_of_ble_eq_true rfl) dL_law_959 hcs (fun ws_15 r_16 h_17 H locs hP hD hS => ?_)
  obtain ⟨mtn_18, msn_19, man_20, mpn_21, mkn_22, mnn_23, okn_24, hnn_25, rfl, v_26, rfl⟩ := h_17
  have hP : va_P D vwCl (WW ad cJ cI cZ bmn_4 pan_5 p0n_6 p1n_7 p2n_8 lin_9 win_10 mtn_18 msn_19 man_20 mpn_21 mkn_22 mnn_23 oun_11) H := hP
  have hD : va_D A (WW ad cJ cI cZ bmn_4 pan_5 p0n_6 p1n_7 p2n_8 lin_9 win_10 mtn_18 msn_19 man_20 mpn_21 mkn_22 mnn_23 oun_11) := hD
  refine lv_istore (lv' := [(6, .int v_26), (5, .int v_14), (0, .ref b), (1, .ref (ad 0)), (2, .ref (ad 42)), (3, .ref (ad 62)), (4, .int (nI i))]) hx hb dL_law_962 hl (by decide) rfl (fun ls hl => ?_)
  refine lv_goto (tgt := 1326) hx hb dL_law_964 (by decide) ?_
  exact kk bmn_4 pan_5 p0n_6 p1n_7 p2n_8 lin_9 win_10 mtn_18 msn_19 man_20 mpn_21 mkn_22 mnn_23 oun_11 okn_12 okn_24 (hnn_13.trans (heq.trans hnn_25.symm)) _ _ hP hD hS _ (lv_sub hl [2, 3, 4, 5, 6] rfl)

set_option maxHeartbeats 16000000 in
set_option maxRecDepth 100000 in
theorem V_12 {p : Program} {l : Launch} {e : Env} {s : State} {m : MethodId} {below : List Frame} {meth : Method} {c : Code} {b L : Nat} {xs : Nat → Int32} (hlt : l.stackTraces = false) (hL : L ≤ 5635) (C0 : lw_At p s m meth c b L xs) (hX : bx_X xW s) (hZ : bx_S RX4 xS s) (hN1 : bx_N "java/lang/IllegalArgumentException" "java/lang/IndexOutOfBoundsException" s) (hN2 : bx_N "java/lang/IllegalStateException" "java/lang/IndexOutOfBoundsException" s) {A : Nat → Prop} (hA : ∀ q : Nat, s.heap.size ≤ q → A q) (hAn : ∀ q : Nat, q < s.heap.size → ¬ A q) {D : va_G} {ad : Nat → Nat} {cJ cI cZ : ClassId} {bm : gBM} {pa : gPA} {p0 p1 p2 : gPL} {li : gLI} {wi : gWI} {mt : Nat} {ms : gMS} {ma : gMA} {mp : gMP} {mk : gMK} {mn : gMN} {ou : Nat → Int64} {i : Nat} (hi : i + 11 ≤ L) (okc : okC bm pa p0 p1 p2 li wi) (okm : okM ms ma mp mk mn) (heq : 0 = 0)  {H : Heap} {locs : List Loc} {cells slots : Nat} (hcs : cells + 1 ≤ room_1.cells ∧ slots + 6 ≤ room_1.slots) (hK : va_K D vwCl [(cJ, .long), (cI, .int), (cZ, .boolean)] s) (hP : va_P D vwCl (WW ad cJ cI cZ bm pa p0 p1 p2 li wi mt ms ma mp mk mn ou) H) (hD : va_D A (WW ad cJ cI cZ bm pa p0 p1 p2 li wi mt ms ma mp mk mn ou)) (hS : va_S A s.heap H locs) {ls : Array Slot} (hl : lv_has ls 8 [(0, .ref b), (1, .ref (ad 0)), (2, .ref (ad 42)), (3, .ref (ad 62)), (4, .int (nI i))]) (kk : ∀ (bm : gBM) (pa : gPA) (p0 p1 p2 : gPL) (li : gLI) (wi : gWI) (mt : Nat) (ms : gMS) (ma : gMA) (mp : gMP) (mk : gMK) (mn : gMN) (ou : Nat → Int64), okC bm pa p0 p1 p2 li wi → okM ms ma mp mk mn → 0 = 0 → ∀ (H : Heap) (locs : List Loc), va_P D vwCl (WW ad cJ cI cZ bm pa p0 p1 p2 li wi mt ms ma mp mk mn ou) H → va_D A (WW ad cJ cI cZ bm pa p0 p1 p2 li wi mt ms ma mp mk mn ou) → va_S A s.heap H locs → ∀ ls : Array Slot, lv_has ls 8 [(0, .ref b), (1, .ref (ad 0)), (2, .ref (ad 42)), (3, .ref (ad 62)), (4, .int (nI i))] → W p l e room_1 s m #[Value.ref b] below meth c H locs (cells + 1) (slots + 6) (lw_Z below #[Value.ref b] s) (F0 m 1326 ls [])) : W p l e room_1 s m #[Value.ref b] below meth c H locs cells slots (lw_Z below #[Value.ref b] s) (F0 m 967 ls []) := by
  obtain ⟨hx, hb, hr, hml, hown, hts, hXs, hbl, hlocks, hgv⟩ := id C0
  have hbA := hAn b hbl
  refine lv_aload_n hx hb dL_law_967 rfl (lv_at hl 1 rfl) ?_
  refine lv_aload_n hx hb dL_law_968 rfl (lv_at hl 0 rfl) ?_
  refine lv_iload hx hb dL_law_969 (lv_at hl 4 rfl) ?_
  refine lv_iconst (v := nI 1) hx hb dL_law_971 (by decide) ?_
  refine bm_nadd hx hb dL_law_972 ?_
  refine bm_sld hx hb hXs hbl hbA hS (j := (i + 1)) (by omega) (by omega) dL_law_973 ?_
  refine lv_aload_n hx hb dL_law_974 rfl (lv_at hl 0 rfl) ?_
  refine lv_iload hx hb dL_law_975 (lv_at hl 4 rfl) ?_
  refine lv_iconst (v := nI 2) hx hb dL_law_977 (by decide) ?_
  refine bm_nadd hx hb dL_law_978 ?_
  refine bm_sld hx hb hXs hbl hbA hS (j := (i + 2)) (by omega) (by omega) dL_law_979 ?_
  refine lv_i2l (v := (xs (i + 2)).toInt64) hx hb dL_law_980 rfl ?_
  refine lv_bipush (v := nI 32) hx hb dL_law_981 (by decide) ?_
  refine lv_lshl (v := ((xs (i + 2)).toInt64) <<< ((nI 32).toInt64 &&& 63)) hx hb dL_law_983 rfl ?_
  refine lv_aload_n hx hb dL_law_984 rfl (lv_at hl 0 rfl) ?_
  refine lv_iload hx hb dL_law_985 (lv_at hl 4 rfl) ?_
  refine lv_iconst (v := nI 3) hx hb dL_law_987 (by decide) ?_
  refine bm_nadd hx hb dL_law_988 ?_
  refine bm_sld hx hb hXs hbl hbA hS (j := (i + 3)) (by omega) (by omega) dL_law_989 ?_
  refine lv_i2l (v := (xs (i + 3)).toInt64) hx hb dL_law_990 rfl ?_
  refine lv_ldc2 (v := 4294967295) hx hb hown (hts (.constantLong RL 75 4294967295) (List.mem_filter.mp clL_75).1) dL_law_991 ?_
  refine lv_land hx hb dL_law_994 ?_
  refine lv_lor hx hb dL_law_995 ?_
  refine lv_aload_n hx hb dL_law_996 rfl (lv_at hl 3 rfl) ?_
  refine bx_xhcallS (n := 4) (As := [.ref (ad 0), .int (xs (i + 1)), .long ((((xs (i + 2)).toInt64) <<< ((nI 32).toInt64 &&& 63)) ||| (((xs (i + 3)).toInt64) &&& 4294967295)), .ref (ad 62)]) (rest := []) ⟨hx, hb, hml, hown, hts⟩ (H_height hlt  okc H.size) rfl rfl (Nat.le_of_ble_eq_true rfl) (Nat.le_of_ble_eq_true rfl) (gdH (by decide +kernel)) (by decide +kernel) rfl hK hP hD hS hA hX hZ hN1 hN2 hAn rfl hl.1 rfl (Nat.le_of_ble_eq_true rfl) dL_law_997 hcs (fun ws_1 r_2 h_3 H locs hP hD hS => ?_)
  obtain ⟨bmn_4, pan_5, p0n_6, p1n_7, p2n_8, lin_9, win_10, oun_11, okn_12, hnn_13, rfl, v_14, rfl⟩ := h_3
  have hP : va_P D vwCl (WW ad cJ cI cZ bmn_4 pan_5 p0n_6 p1n_7 p2n_8 lin_9 win_10 mt ms ma mp mk mn oun_11) H := hP
  have hD : va_D A (WW ad cJ cI cZ bmn_4 pan_5 p0n_6 p1n_7 p2n_8 lin_9 win_10 mt ms ma mp mk mn oun_11) := hD
  refine lv_istore (lv' := [(5, .int v_14), (0, .ref b), (1, .ref (ad 0)), (2, .ref (ad 42)), (3, .ref (ad 62)), (4, .int (nI i))]) hx hb dL_law_1000 hl (by decide) rfl (fun ls hl => ?_)
  refine lv_aload_n hx hb dL_law_1002 rfl (lv_at hl 3 rfl) ?_
  refine lv_aload_n hx hb dL_law_1003 rfl (lv_at hl 1 rfl) ?_
  refine lv_iload hx hb dL_law_1004 (lv_at hl 5 rfl) ?_
  refine lv_iconst (v := nI 1) hx hb dL_law_1006 (by decide) ?_
  refine bm_nadd hx hb dL_law_1007 ?_
  refine bm_sld hx hb hXs hbl hbA hS (j := (i + 1)) (by omega) (by omega) dL_law_1008 ?_
  refine lv_aload_n hx hb dL_law_1009 rfl (lv_at hl 1 rfl) ?_
  refine lv_iload hx hb dL_law_1010 (lv_at hl 5 rfl) ?_
  refine lv_iconst (v := nI 2) hx hb dL_law_1012 (by decide) ?_
  refine bm_nadd hx hb dL_law_1013 ?_
  refine bm_sld hx hb hXs hbl hbA hS (j := (i + 2)) (by omega) (by omega) dL_law_1014 ?_
  refine lv_i2l (v := (xs (i + 2)).toInt64) hx hb dL_law_1015 rfl ?_
  refine lv_bipush (v := nI 32) hx hb dL_law_1016 (by decide) ?_
  refine lv_lshl (v := ((xs (i + 2)).toInt64) <<< ((nI 32).toInt64 &&& 63)) hx hb dL_law_1018 rfl ?_
  refine lv_aload_n hx hb dL_law_1019 rfl (lv_at hl 1 rfl) ?_
  refine lv_iload hx hb dL_law_1020 (lv_at hl 5 rfl) ?_
  refine lv_iconst (v := nI 3) hx hb dL_law_1022 (by decide) ?_
  refine bm_nadd hx hb dL_law_1023 ?_
  refine bm_sld hx hb hXs hbl hbA hS (j := (i + 3)) (by omega) (by omega) dL_law_1024 ?_
  refine lv_i2l (v := (xs (i + 3)).toInt64) hx hb dL_law_1025 rfl ?_
  refine lv_ldc2 (v := 4294967295) hx hb hown (hts (.constantLong RL 75 4294967295) (List.mem_filter.mp clL_75).1) dL_law_1026 ?_
  refine lv_land hx hb dL_law_1029 ?_
  refine lv_lor hx hb dL_law_1030 ?_
  refine bm_xcallV (As := [.int (xs (i + 1)), .long ((((xs (i + 2)).toInt64) <<< ((nI 32).toInt64 &&& 63)) ||| (((xs (i + 3)).toInt64) &&& 4294967295))]) (rest := []) ⟨hx, hb, hml, hown, hts⟩ (Y_height   okm ) (cwV 2 hts gvL_129 rfl rfl rfl hvX5_height ⟨Nat.le_of_ble_eq_true rfl, Nat.le_of_ble_eq_true rfl⟩) hK hP hD hS hA 42 5 rfl ww_42 rfl hl.1 rfl (Nat.le_of_ble_eq_true rfl) dL_law_1031 hcs (fun ws_15 r_16 h_17 H locs hP hD hS => ?_)
  obtain ⟨mtn_18, msn_19, man_20, mpn_21, mkn_22, mnn_23, okn_24, hnn_25, rfl, v_26, rfl⟩ := h_17
  have hP : va_P D vwCl (WW ad cJ cI cZ bmn_4 pan_5 p0n_6 p1n_7 p2n_8 lin_9 win_10 mtn_18 msn_19 man_20 mpn_21 mkn_22 mnn_23 oun_11) H := hP
  have hD : va_D A (WW ad cJ cI cZ bmn_4 pan_5 p0n_6 p1n_7 p2n_8 lin_9 win_10 mtn_18 msn_19 man_20 mpn_21 mkn_22 mnn_23 oun_11) := hD
  refine lv_istore (lv' := [(6, .int (bm_b v_26)), (5, .int v_14), (0, .ref b), (1, .ref (ad 0)), (2, .ref (ad 42)), (3, .ref (ad 62)), (4, .int (nI i))]) hx hb dL_law_1034 hl (by decide) rfl (fun ls hl => ?_)
  refine lv_goto (tgt := 1326) hx hb dL_law_1036 (by decide) ?_
  exact kk bmn_4 pan_5 p0n_6 p1n_7 p2n_8 lin_9 win_10 mtn_18 msn_19 man_20 mpn_21 mkn_22 mnn_23 oun_11 okn_12 okn_24 (hnn_13.trans (heq.trans hnn_25.symm)) _ _ hP hD hS _ (lv_sub hl [2, 3, 4, 5, 6] rfl)
