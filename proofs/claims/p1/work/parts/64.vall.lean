set_option maxHeartbeats 8000000 in
set_option maxRecDepth 100000 in
theorem v_all {p : Program} {l : Launch} {e : Env} {s : State} {m : MethodId} {below : List Frame} {meth : Method} {c : Code} {b L : Nat} {xs : Nat → Int32} (hlt : l.stackTraces = false) (hL : L ≤ 14) (C0 : lw_At p s m meth c b L xs) (hX : bx_X xW s) (hZ : bx_S RX4 xS s) {A : Nat → Prop} (hA : ∀ q : Nat, s.heap.size ≤ q → A q) (hAn : ∀ q : Nat, q < s.heap.size → ¬ A q) {D : va_G} {ad : Nat → Nat} {cJ cI cZ : ClassId} {bm : gBM} {pa : gPA} {p0 p1 p2 : gPL} {li : gLI} {wi : gWI} {mt : Nat} {ms : gMS} {ma : gMA} {mp : gMP} {mk : gMK} {mn : gMN} {ou : Nat → Int64} {H : Heap} {locs : List Loc} (hK : va_K D vwCl [(cJ, .long), (cI, .int), (cZ, .boolean)] s) (hP : va_P D vwCl (WW ad cJ cI cZ (bm.1, bm.2.1, bm.2.2.1, 0) (pa.1, pa.2.1, pa.2.2.1, pa.2.2.2.1, pa.2.2.2.2.1, pa.2.2.2.2.2.1, 0) p0 p1 p2 (li.1, li.2.1, li.2.2.1, li.2.2.2.1, li.2.2.2.2.1, li.2.2.2.2.2.1, li.2.2.2.2.2.2.1, li.2.2.2.2.2.2.2.1, 0, 0) (wi.1, wi.2.1, wi.2.2.1, wi.2.2.2.1, wi.2.2.2.2.1, wi.2.2.2.2.2.1, wi.2.2.2.2.2.2.1, wi.2.2.2.2.2.2.2.1, wi.2.2.2.2.2.2.2.2.1, 0, 0) mt (ms.1, ms.2.1, 0, 0, 0, 0, 0, ms.2.2.2.2.2.2.2) ma mp mk mn ou) H) (hD : va_D A (WW ad cJ cI cZ (bm.1, bm.2.1, bm.2.2.1, 0) (pa.1, pa.2.1, pa.2.2.1, pa.2.2.2.1, pa.2.2.2.2.1, pa.2.2.2.2.2.1, 0) p0 p1 p2 (li.1, li.2.1, li.2.2.1, li.2.2.2.1, li.2.2.2.2.1, li.2.2.2.2.2.1, li.2.2.2.2.2.2.1, li.2.2.2.2.2.2.2.1, 0, 0) (wi.1, wi.2.1, wi.2.2.1, wi.2.2.2.1, wi.2.2.2.2.1, wi.2.2.2.2.2.1, wi.2.2.2.2.2.2.1, wi.2.2.2.2.2.2.2.1, wi.2.2.2.2.2.2.2.2.1, 0, 0) mt (ms.1, ms.2.1, 0, 0, 0, 0, 0, ms.2.2.2.2.2.2.2) ma mp mk mn ou)) (hS : va_S A s.heap H locs) {ls : Array Slot} (hl : lv_has ls 8 [(0, .ref b), (1, .ref (ad 0)), (2, .ref (ad 42)), (3, .ref (ad 62)), (4, .int (nI 3))]) : W p l e room_1 s m #[Value.ref b] below meth c H locs 63 2864 (lw_Z below #[Value.ref b] s) (F0 m 59 ls []) := by
  rcases Nat.lt_or_ge L 14 with hlt14 | hge
  · exact v_out C0 hAn (i := 3) ((by decide : ∀ L, L < 14 → Int32.ofNat L - nI 11 < nI 3) L hlt14) (Nat.le_of_ble_eq_true rfl) (Nat.le_of_ble_eq_true rfl) hS (lv_sub hl [4, 0] rfl)
  have hE : L = 14 := Nat.le_antisymm hL hge
  obtain ⟨hx, hb, hr, hml, hown, hts, hXs, hbl, hlocks, hgv⟩ := id C0
  have hbA := hAn b hbl
  refine lv_iload hx hb dL_law_59 (lv_at hl 4 rfl) ?_
  refine lv_aload_n hx hb dL_law_61 rfl (lv_at hl 0 rfl) ?_
  refine va_slen hx hb hXs hbl hbA hS dL_law_62 ?_
  refine lv_bipush (v := nI 11) hx hb dL_law_63 (by decide) ?_
  refine lv_isub hx hb dL_law_65 ?_
  refine lv_icmp_gt (tgt := 1711) hx hb dL_law_66 (by decide) (fun c_1 => absurd c_1 (by subst hE; decide)) (fun _ => ?_)
  refine lv_aload_n hx hb dL_law_69 rfl (lv_at hl 0 rfl) ?_
  refine lv_iload hx hb dL_law_70 (lv_at hl 4 rfl) ?_
  refine bm_sld hx hb hXs hbl hbA hS (j := 3) (by omega) (by omega) dL_law_72 ?_
  refine lv_bipush (v := nI 15) hx hb dL_law_73 (by decide) ?_
  refine lv_iand hx hb dL_law_75 ?_
  obtain ⟨k, hk, ek⟩ := pk_andE (xs 3) (m := nI 15) 4 (by decide)
  rw [ek]
  rcases (show k = 0 ∨ k = 1 ∨ k = 2 ∨ k = 3 ∨ k = 4 ∨ k = 5 ∨ k = 6 ∨ k = 7 ∨ k = 8 ∨ k = 9 ∨ k = 10 ∨ k = 11 ∨ k = 12 ∨ k = 13 ∨ k = 14 ∨ k = 15 by omega) with rfl | rfl | rfl | rfl | rfl | rfl | rfl | rfl | rfl | rfl | rfl | rfl | rfl | rfl | rfl | rfl
  · refine lv_tableIn (off := 80) (tgt := 156) hx hb dL_law_76 (by decide) (by decide) (by decide) (by decide) ?_
    cases hv : q_pv (((xs (3 + 1)).toInt64 <<< ((nI 32).toInt64 &&& 63)) ||| ((xs (3 + 2)).toInt64 &&& 4294967295)) (((xs (3 + 3)).toInt64 <<< ((nI 32).toInt64 &&& 63)) ||| ((xs (3 + 4)).toInt64 &&& 4294967295)) (xs (3 + 5)) with
    | false => exact v_0no hlt hE C0 hX hZ hA hAn hv hK hP hD hS hl
    | true =>
      simp only [q_pv, Bool.and_eq_true, Bool.or_eq_true, decide_eq_true_eq] at hv
      obtain ⟨⟨h1, h2⟩, h3⟩ := hv
      rcases h3 with h3 | h3
      · exact v_0ok hlt hE C0 hX hZ hA hAn (zC := 0) h1 h2 (by decide) h3 hK hP hD hS hl
      · exact v_0ok hlt hE C0 hX hZ hA hAn (zC := 1) h1 h2 (by decide) h3 hK hP hD hS hl
  · refine lv_tableIn (off := 224) (tgt := 300) hx hb dL_law_76 (by decide) (by decide) (by decide) (by decide) ?_
    exact v_1 hlt hE C0 hX hZ hA hAn hK hP hD hS hl
  · refine lv_tableIn (off := 389) (tgt := 465) hx hb dL_law_76 (by decide) (by decide) (by decide) (by decide) ?_
    exact v_2 hlt hE C0 hX hZ hA hAn hK hP hD hS hl
  · refine lv_tableIn (off := 480) (tgt := 556) hx hb dL_law_76 (by decide) (by decide) (by decide) (by decide) ?_
    exact v_3 hlt hE C0 hX hZ hA hAn hK hP hD hS hl
  · refine lv_tableIn (off := 493) (tgt := 569) hx hb dL_law_76 (by decide) (by decide) (by decide) (by decide) ?_
    exact v_4 hlt hE C0 hX hZ hA hAn hK hP hD hS hl
  · refine lv_tableIn (off := 658) (tgt := 734) hx hb dL_law_76 (by decide) (by decide) (by decide) (by decide) ?_
    exact v_5 hlt hE C0 hX hZ hA hAn hK hP hD hS hl
  · refine lv_tableIn (off := 802) (tgt := 878) hx hb dL_law_76 (by decide) (by decide) (by decide) (by decide) ?_
    exact v_6 hlt hE C0 hX hZ hA hAn hK hP hD hS hl
  · refine lv_tableIn (off := 869) (tgt := 945) hx hb dL_law_76 (by decide) (by decide) (by decide) (by decide) ?_
    cases hv : q_rn (((xs (3 + 1)).toInt64 <<< ((nI 32).toInt64 &&& 63)) ||| ((xs (3 + 2)).toInt64 &&& 4294967295)) with
    | false => exact v_7no hlt hE C0 hX hZ hA hAn hv hK hP hD hS hl
    | true => exact v_7ok hlt hE C0 hX hZ hA hAn hv hK hP hD hS hl
  · refine lv_tableIn (off := 957) (tgt := 1033) hx hb dL_law_76 (by decide) (by decide) (by decide) (by decide) ?_
    exact v_8 hlt hE C0 hX hZ hA hAn hK hP hD hS hl
  · refine lv_tableIn (off := 971) (tgt := 1047) hx hb dL_law_76 (by decide) (by decide) (by decide) (by decide) ?_
    exact v_9 hlt hE C0 hX hZ hA hAn hK hP hD hS hl
  · refine lv_tableIn (off := 985) (tgt := 1061) hx hb dL_law_76 (by decide) (by decide) (by decide) (by decide) ?_
    exact v_10 hlt hE C0 hX hZ hA hAn hK hP hD hS hl
  · refine lv_tableIn (off := 1104) (tgt := 1180) hx hb dL_law_76 (by decide) (by decide) (by decide) (by decide) ?_
    exact v_11 hlt hE C0 hX hZ hA hAn hK hP hD hS hl
  · refine lv_tableIn (off := 1172) (tgt := 1248) hx hb dL_law_76 (by decide) (by decide) (by decide) (by decide) ?_
    exact v_12 hlt hE C0 hX hZ hA hAn hK hP hD hS hl
  · refine lv_tableIn (off := 1279) (tgt := 1355) hx hb dL_law_76 (by decide) (by decide) (by decide) (by decide) ?_
    by_cases hv : (((xs (3 + 9)).toInt64 <<< ((nI 32).toInt64 &&& 63)) ||| ((xs (3 + 10)).toInt64 &&& 4294967295)) < 0
    · exact v_13x hlt hE C0 hX hZ hA hAn hv hK hP hD hS hl
    · cases h1 : q_tr (((xs (3 + 1)).toInt64 <<< ((nI 32).toInt64 &&& 63)) ||| ((xs (3 + 2)).toInt64 &&& 4294967295)) (((xs (3 + 3)).toInt64 <<< ((nI 32).toInt64 &&& 63)) ||| ((xs (3 + 4)).toInt64 &&& 4294967295)) (((xs (3 + 5)).toInt64 <<< ((nI 32).toInt64 &&& 63)) ||| ((xs (3 + 6)).toInt64 &&& 4294967295)) (((xs (3 + 7)).toInt64 <<< ((nI 32).toInt64 &&& 63)) ||| ((xs (3 + 8)).toInt64 &&& 4294967295)) with
      | false => exact v_13y hlt hE C0 hX hZ hA hAn hv h1 hK hP hD hS hl
      | true => exact v_13n hlt hE C0 hX hZ hA hAn hv h1 hK hP hD hS hl
  · refine lv_tableIn (off := 1560) (tgt := 1636) hx hb dL_law_76 (by decide) (by decide) (by decide) (by decide) ?_
    exact v_14 hlt hE C0 hX hZ hA hAn hK hP hD hS hl
  · refine lv_tableIn (off := 1573) (tgt := 1649) hx hb dL_law_76 (by decide) (by decide) (by decide) (by decide) ?_
    exact v_15 hlt hE C0 hX hZ hA hAn hK hP hD hS hl
