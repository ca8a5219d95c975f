set_option maxHeartbeats 16000000 in
set_option maxRecDepth 100000 in
theorem v_out {p : Program} {l : Launch} {e : Env} {s : State} {m : MethodId} {below : List Frame} {meth : Method} {c : Code} {b L : Nat} {xs : Nat → Int32} (C0 : lw_At p s m meth c b L xs) {A : Nat → Prop} (hAn : ∀ q : Nat, q < s.heap.size → ¬ A q) {i : Nat} (hi : Int32.ofNat L - nI 11 < nI i) {H : Heap} {locs : List Loc} {cells slots : Nat} (hc : cells ≤ 1098) (hs : slots ≤ 11122) (hS : va_S A s.heap H locs) {ls : Array Slot} (hl : lv_has ls 8 [(4, .int (nI i)), (0, .ref b)]) : W p l e room_1 s m #[Value.ref b] below meth c H locs cells slots (lw_Z below #[Value.ref b] s) (F0 m 59 ls []) := by
  obtain ⟨hx, hb, hr, hml, hown, hts, hXs, hbl, hlocks, hgv⟩ := id C0
  have hbA := hAn b hbl
  refine lv_iload hx hb dL_law_59 (lv_at hl 0 rfl) ?_
  refine lv_aload_n hx hb dL_law_61 rfl (lv_at hl 1 rfl) ?_
  refine va_slen hx hb hXs hbl hbA hS dL_law_62 ?_
  refine lv_bipush (v := nI 11) hx hb dL_law_63 (by decide) ?_
  refine lv_isub hx hb dL_law_65 ?_
  refine lv_icmp_gt (tgt := 1332) hx hb dL_law_66 (by decide) (fun c_1 => ?_) (fun c_1 => ?_)
  · refine lv_iconst (v := 1) hx hb dL_law_1332 (by decide) ?_
    refine va_forget (fun q hq => Nat.le_of_not_lt (fun h => hAn _ h (hS.2.2 q hq))) ?_
    refine W.widen (k := 1098) (n := 11122) hc hs ?_
    exact lw_ret hx hb hr hlocks dL_law_1333
  · exact absurd hi c_1

set_option maxHeartbeats 4000000 in
theorem v_fin {p : Program} {l : Launch} {e : Env} {s : State} {m : MethodId} {below : List Frame} {meth : Method} {c : Code} {b L : Nat} {xs : Nat → Int32} (hL : L ≤ 5635) (C0 : lw_At p s m meth c b L xs) {A : Nat → Prop} (hAn : ∀ q : Nat, q < s.heap.size → ¬ A q) {i j : Nat} (hi : L < i + 11) (hij : i = 3 + 11 * j) {H : Heap} {locs : List Loc} {cells slots : Nat} (hc : cells ≤ 63 + j) (hs : slots ≤ 2864 + 6 * j) (hj : i ≤ L + 3) (hS : va_S A s.heap H locs) {ls : Array Slot} (hl : lv_has ls 8 [(4, .int (nI i)), (0, .ref b)]) : W p l e room_1 s m #[Value.ref b] below meth c H locs cells slots (lw_Z below #[Value.ref b] s) (F0 m 59 ls []) :=
  v_out C0 hAn ((bx_gt hL (by omega)).mpr hi) (by omega) (by omega) hS hl

set_option maxHeartbeats 16000000 in
set_option maxRecDepth 100000 in
theorem v_loop {p : Program} {l : Launch} {e : Env} {s : State} {m : MethodId} {below : List Frame} {meth : Method} {c : Code} {b L : Nat} {xs : Nat → Int32} (hlt : l.stackTraces = false) (hL : L ≤ 5635) (C0 : lw_At p s m meth c b L xs) (hX : bx_X xW s) (hZ : bx_S RX4 xS s) (hN1 : bx_N "java/lang/IllegalArgumentException" "java/lang/IndexOutOfBoundsException" s) (hN2 : bx_N "java/lang/IllegalStateException" "java/lang/IndexOutOfBoundsException" s) {A : Nat → Prop} (hA : ∀ q : Nat, s.heap.size ≤ q → A q) (hAn : ∀ q : Nat, q < s.heap.size → ¬ A q) {D : va_G} {ad : Nat → Nat} {cJ cI cZ : ClassId} (hK : va_K D vwCl [(cJ, .long), (cI, .int), (cZ, .boolean)] s) : ∀ (n j i cells slots : Nat), i = 3 + 11 * j → i ≤ L + 3 → L < i + 11 * n + 11 → cells ≤ 63 + j → slots ≤ 2864 + 6 * j → ∀ (bm : gBM) (pa : gPA) (p0 p1 p2 : gPL) (li : gLI) (wi : gWI) (mt : Nat) (ms : gMS) (ma : gMA) (mp : gMP) (mk : gMK) (mn : gMN) (ou : Nat → Int64), okC bm pa p0 p1 p2 li wi → okM ms ma mp mk mn → 0 = 0 → ∀ (H : Heap) (locs : List Loc), va_P D vwCl (WW ad cJ cI cZ bm pa p0 p1 p2 li wi mt ms ma mp mk mn ou) H → va_D A (WW ad cJ cI cZ bm pa p0 p1 p2 li wi mt ms ma mp mk mn ou) → va_S A s.heap H locs → ∀ ls : Array Slot, lv_has ls 8 [(0, .ref b), (1, .ref (ad 0)), (2, .ref (ad 42)), (3, .ref (ad 62)), (4, .int (nI i))] → W p l e room_1 s m #[Value.ref b] below meth c H locs cells slots (lw_Z below #[Value.ref b] s) (F0 m 59 ls []) := by
  intro n
  induction n with
  | zero =>
    intro j i cells slots hij hil hn hc hs bm pa p0 p1 p2 li wi mt ms ma mp mk mn ou okc okm heq H locs hP hD hS ls hl
    by_cases hi : i + 11 ≤ L
    · exfalso; omega
    exact v_fin hL C0 hAn (Nat.not_le.mp hi) hij hc hs hil hS (lv_sub hl [4, 0] rfl)
  | succ n ih =>
    intro j i cells slots hij hil hn hc hs bm pa p0 p1 p2 li wi mt ms ma mp mk mn ou okc okm heq H locs hP hD hS ls hl
    by_cases hi : i + 11 ≤ L
    case neg => exact v_fin hL C0 hAn (Nat.not_le.mp hi) hij hc hs hil hS (lv_sub hl [4, 0] rfl)
    have hcs : cells + 1 ≤ room_1.cells ∧ slots + 6 ≤ room_1.slots := ⟨(by show cells + 1 ≤ 1098; omega), (by show slots + 6 ≤ 11122; omega)⟩
    obtain ⟨hx, hb, hr, hml, hown, hts, hXs, hbl, hlocks, hgv⟩ := id C0
    have hbA := hAn b hbl
    have kk : ∀ (bm : gBM) (pa : gPA) (p0 p1 p2 : gPL) (li : gLI) (wi : gWI) (mt : Nat) (ms : gMS) (ma : gMA) (mp : gMP) (mk : gMK) (mn : gMN) (ou : Nat → Int64), okC bm pa p0 p1 p2 li wi → okM ms ma mp mk mn → 0 = 0 → ∀ (H : Heap) (locs : List Loc), va_P D vwCl (WW ad cJ cI cZ bm pa p0 p1 p2 li wi mt ms ma mp mk mn ou) H → va_D A (WW ad cJ cI cZ bm pa p0 p1 p2 li wi mt ms ma mp mk mn ou) → va_S A s.heap H locs → ∀ ls : Array Slot, lv_has ls 8 [(0, .ref b), (1, .ref (ad 0)), (2, .ref (ad 42)), (3, .ref (ad 62)), (4, .int (nI i))] → W p l e room_1 s m #[Value.ref b] below meth c H locs (cells + 1) (slots + 6) (lw_Z below #[Value.ref b] s) (F0 m 1326 ls []) := by
      intro bm pa p0 p1 p2 li wi mt ms ma mp mk mn ou okc okm heq H locs hP hD hS ls hl
      refine lv_iinc (v := nI (i + 11)) (lv' := [(4, .int (nI (i + 11))), (0, .ref b), (1, .ref (ad 0)), (2, .ref (ad 42)), (3, .ref (ad 62))]) hx hb dL_law_1326 hl (k := 4) rfl (nI_add i 11) (by decide) rfl (fun ls hl => ?_)
      refine lv_goto (tgt := 59) hx hb dL_law_1329 (by decide) ?_
      exact ih (j + 1) (i + 11) (cells + 1) (slots + 6) (by omega) (by omega) (by omega) (by omega) (by omega) bm pa p0 p1 p2 li wi mt ms ma mp mk mn ou okc okm heq _ _ hP hD hS _ (lv_sub hl [1, 2, 3, 4, 0] rfl)
    refine lv_iload hx hb dL_law_59 (lv_at hl 4 rfl) ?_
    refine lv_aload_n hx hb dL_law_61 rfl (lv_at hl 0 rfl) ?_
    refine va_slen hx hb hXs hbl hbA hS dL_law_62 ?_
    refine lv_bipush (v := nI 11) hx hb dL_law_63 (by decide) ?_
    refine lv_isub hx hb dL_law_65 ?_
    refine lv_icmp_gt (tgt := 1332) hx hb dL_law_66 (by decide) (fun c_1 => absurd ((bx_gt hL (by omega)).mp c_1) (by omega)) (fun _ => ?_)
    refine lv_aload_n hx hb dL_law_69 rfl (lv_at hl 0 rfl) ?_
    refine lv_iload hx hb dL_law_70 (lv_at hl 4 rfl) ?_
    refine bm_sld hx hb hXs hbl hbA hS (j := i) (by omega) (by omega) dL_law_72 ?_
    refine lv_bipush (v := nI 15) hx hb dL_law_73 (by decide) ?_
    refine lv_iand hx hb dL_law_75 ?_
    obtain ⟨k, hk, ek⟩ := pk_andE (xs i) (m := nI 15) 4 (by decide)
    rw [ek]
    rcases (show k = 0 ∨ k = 1 ∨ k = 2 ∨ k = 3 ∨ k = 4 ∨ k = 5 ∨ k = 6 ∨ k = 7 ∨ k = 8 ∨ k = 9 ∨ k = 10 ∨ k = 11 ∨ k = 12 ∨ k = 13 ∨ k = 14 ∨ k = 15 by omega) with rfl | rfl | rfl | rfl | rfl | rfl | rfl | rfl | rfl | rfl | rfl | rfl | rfl | rfl | rfl | rfl
    · refine lv_tableIn (off := 80) (tgt := 156) hx hb dL_law_76 (by decide) (by decide) (by decide) (by decide) ?_
      rcases bx_pv (((xs (i + 1)).toInt64 <<< ((nI 32).toInt64 &&& 63)) ||| ((xs (i + 2)).toInt64 &&& 4294967295)) (((xs (i + 3)).toInt64 <<< ((nI 32).toInt64 &&& 63)) ||| ((xs (i + 4)).toInt64 &&& 4294967295)) (xs (i + 5)) with ⟨zC, h3, h1, h2, hc⟩ | hv
      · rcases Nat.lt_or_eq_of_le okc.1 with hq | hq
        · exact V_01 hlt hL C0 hX hZ hN1 hN2 hA hAn hi okc okm heq h1 h2 h3 hc hq hcs hK hP hD hS hl kk
        · exact V_02 hlt hL C0 hX hZ hN1 hN2 hA hAn hi okc okm heq h1 h2 h3 hc hq hcs hK hP hD hS hl kk
      · exact V_0X hlt hL C0 hX hZ hN1 hN2 hA hAn hi okc okm heq hv hcs hK hP hD hS hl kk
    · refine lv_tableIn (off := 196) (tgt := 272) hx hb dL_law_76 (by decide) (by decide) (by decide) (by decide) ?_
      exact V_1 hlt hL C0 hX hZ hN1 hN2 hA hAn hi okc okm heq hcs hK hP hD hS hl kk
    · refine lv_tableIn (off := 326) (tgt := 402) hx hb dL_law_76 (by decide) (by decide) (by decide) (by decide) ?_
      exact V_2 hlt hL C0 hX hZ hN1 hN2 hA hAn hi okc okm heq hcs hK hP hD hS hl kk
    · refine lv_tableIn (off := 382) (tgt := 458) hx hb dL_law_76 (by decide) (by decide) (by decide) (by decide) ?_
      exact V_3 hlt hL C0 hX hZ hN1 hN2 hA hAn hi okc okm heq hcs hK hP hD hS hl kk
    · refine lv_tableIn (off := 395) (tgt := 471) hx hb dL_law_76 (by decide) (by decide) (by decide) (by decide) ?_
      exact V_4 hlt hL C0 hX hZ hN1 hN2 hA hAn hi okc okm heq hcs hK hP hD hS hl kk
    · refine lv_tableIn (off := 525) (tgt := 601) hx hb dL_law_76 (by decide) (by decide) (by decide) (by decide) ?_
      exact V_5 hlt hL C0 hX hZ hN1 hN2 hA hAn hi okc okm heq hcs hK hP hD hS hl kk
    · refine lv_tableIn (off := 641) (tgt := 717) hx hb dL_law_76 (by decide) (by decide) (by decide) (by decide) ?_
      exact V_6 hlt hL C0 hX hZ hN1 hN2 hA hAn hi okc okm heq hcs hK hP hD hS hl kk
    · refine lv_tableIn (off := 681) (tgt := 757) hx hb dL_law_76 (by decide) (by decide) (by decide) (by decide) ?_
      exact V_7 hlt hL C0 hX hZ hN1 hN2 hA hAn hi okc okm heq hcs hK hP hD hS hl kk
    · refine lv_tableIn (off := 741) (tgt := 817) hx hb dL_law_76 (by decide) (by decide) (by decide) (by decide) ?_
      exact V_8 hlt hL C0 hX hZ hN1 hN2 hA hAn hi okc okm heq hcs hK hP hD hS hl kk
    · refine lv_tableIn (off := 754) (tgt := 830) hx hb dL_law_76 (by decide) (by decide) (by decide) (by decide) ?_
      exact V_9 hlt hL C0 hX hZ hN1 hN2 hA hAn hi okc okm heq hcs hK hP hD hS hl kk
    · refine lv_tableIn (off := 767) (tgt := 843) hx hb dL_law_76 (by decide) (by decide) (by decide) (by decide) ?_
      exact V_10 hlt hL C0 hX hZ hN1 hN2 hA hAn hi okc okm heq hcs hK hP hD hS hl kk
    · refine lv_tableIn (off := 851) (tgt := 927) hx hb dL_law_76 (by decide) (by decide) (by decide) (by decide) ?_
      exact V_11 hlt hL C0 hX hZ hN1 hN2 hA hAn hi okc okm heq hcs hK hP hD hS hl kk
    · refine lv_tableIn (off := 891) (tgt := 967) hx hb dL_law_76 (by decide) (by decide) (by decide) (by decide) ?_
      exact V_12 hlt hL C0 hX hZ hN1 hN2 hA hAn hi okc okm heq hcs hK hP hD hS hl kk
    · refine lv_tableIn (off := 963) (tgt := 1039) hx hb dL_law_76 (by decide) (by decide) (by decide) (by decide) ?_
      exact V_13 hlt hL C0 hX hZ hN1 hN2 hA hAn hi okc okm heq hcs hK hP hD hS hl kk
    · refine lv_tableIn (off := 1209) (tgt := 1285) hx hb dL_law_76 (by decide) (by decide) (by decide) (by decide) ?_
      exact V_14 hlt hL C0 hX hZ hN1 hN2 hA hAn hi okc okm heq hcs hK hP hD hS hl kk
    · refine lv_tableIn (off := 1222) (tgt := 1298) hx hb dL_law_76 (by decide) (by decide) (by decide) (by decide) ?_
      exact V_15 hlt hL C0 hX hZ hN1 hN2 hA hAn hi okc okm heq hcs hK hP hD hS hl kk
