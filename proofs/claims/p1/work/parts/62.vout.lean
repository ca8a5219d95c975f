set_option maxHeartbeats 4000000 in
set_option maxRecDepth 100000 in
theorem v_out {p : Program} {l : Launch} {e : Env} {s : State} {m : MethodId} {below : List Frame} {meth : Method} {c : Code} {b L : Nat} {xs : Nat → Int32} (C0 : lw_At p s m meth c b L xs) {A : Nat → Prop} (hAn : ∀ q : Nat, q < s.heap.size → ¬ A q) {i : Nat} (hi : Int32.ofNat L - nI 11 < nI i) {H : Heap} {locs : List Loc} {cells slots : Nat} (hc : cells ≤ 76) (hs : slots ≤ 2946) (hS : va_S A s.heap H locs) {ls : Array Slot} (hl : lv_has ls 8 [(4, .int (nI i)), (0, .ref b)]) : W p l e room_1 s m #[Value.ref b] below meth c H locs cells slots (lw_Z below #[Value.ref b] s) (F0 m 59 ls []) := by
  obtain ⟨hx, hb, hr, hml, hown, hts, hXs, hbl, hlocks, hgv⟩ := id C0
  have hbA := hAn b hbl
  refine lv_iload hx hb dL_law_59 (lv_at hl 0 rfl) ?_
  refine lv_aload_n hx hb dL_law_61 rfl (lv_at hl 1 rfl) ?_
  refine va_slen hx hb hXs hbl hbA hS dL_law_62 ?_
  refine lv_bipush (v := nI 11) hx hb dL_law_63 (by decide) ?_
  refine lv_isub hx hb dL_law_65 ?_
  refine lv_icmp_gt (tgt := 1711) hx hb dL_law_66 (by decide) (fun c_1 => ?_) (fun c_1 => ?_)
  · refine lv_iconst (v := 1) hx hb dL_law_1711 (by decide) ?_
    refine va_forget (fun q hq => Nat.le_of_not_lt (fun h => hAn _ h (hS.2.2 q hq))) ?_
    refine W.widen (k := 76) (n := 2946) hc hs ?_
    exact lw_ret hx hb hr hlocks dL_law_1712
  · exact absurd hi c_1
set_option maxHeartbeats 4000000 in
set_option maxRecDepth 100000 in
theorem v_end {p : Program} {l : Launch} {e : Env} {s : State} {m : MethodId} {below : List Frame} {meth : Method} {c : Code} {b L : Nat} {xs : Nat → Int32} (hL : L = 14) (C0 : lw_At p s m meth c b L xs) {A : Nat → Prop} (hAn : ∀ q : Nat, q < s.heap.size → ¬ A q) {H : Heap} {locs : List Loc} {cells slots : Nat} (hc : cells ≤ 76) (hs : slots ≤ 2946) (hS : va_S A s.heap H locs) {ls : Array Slot} (hl : lv_has ls 8 [(4, .int (nI 3)), (0, .ref b)]) : W p l e room_1 s m #[Value.ref b] below meth c H locs cells slots (lw_Z below #[Value.ref b] s) (F0 m 1705 ls []) := by
  obtain ⟨hx, hb, hr, hml, hown, hts, hXs, hbl, hlocks, hgv⟩ := id C0
  refine lv_iinc (v := nI 14) (lv' := [(4, .int (nI 14)), (0, .ref b)]) hx hb dL_law_1705 hl (k := 0) rfl (by decide) (by decide) rfl (fun ls hl => ?_)
  refine lv_goto (tgt := 59) hx hb dL_law_1708 (by decide) ?_
  exact v_out C0 hAn (i := 14) (by subst hL; decide) hc hs hS hl
