set_option maxHeartbeats 4000000 in
set_option maxRecDepth 100000 in
theorem w_addKO {l : Launch} {D : va_G} {ad : Nat → Nat} {cJ cI cZ : ClassId} {bm : gBM} {pa : gPA} {p0 p1 p2 : gPL} {li : gLI} {wi : gWI} (hoI : q_okI li) {xa ya xb yb hh : Int64} : bm_Wr l yX0_addKeepOut wsX0_addKeepOut ({ frames := 0, cells := 0, slots := 0, locals := 0 }) D vwCl [(cJ, .long), (cI, .int), (cZ, .boolean)] (Wd ad cJ cI cZ bm pa p0 p1 p2 li wi) [.ref (ad 23), .long xa, .long ya, .long xb, .long yb, .long hh] (Wd ad cJ cI cZ bm pa p0 p1 p2 (if li.2.2.2.2.2.2.2.2.1 < 10 then (va_up li.1 li.2.2.2.2.2.2.2.2.1 xa, va_up li.2.1 li.2.2.2.2.2.2.2.2.1 ya, va_up li.2.2.1 li.2.2.2.2.2.2.2.2.1 xb, va_up li.2.2.2.1 li.2.2.2.2.2.2.2.2.1 yb, va_up li.2.2.2.2.1 li.2.2.2.2.2.2.2.2.1 hh, li.2.2.2.2.2.1, li.2.2.2.2.2.2.1, li.2.2.2.2.2.2.2.1, li.2.2.2.2.2.2.2.2.1 + 1, li.2.2.2.2.2.2.2.2.2) else li) wi) (some (.int (bm_b (decide (li.2.2.2.2.2.2.2.2.1 < 10))))) := by
  obtain ⟨hon, hot, hko, hne⟩ := hoI
  intro sz
  refine Met.ofW (cc := cX0_addKeepOut) (maxL := 11) (ret := (some .boolean)) (by decide) rfl ?_
  intro p e s m args below meth c s₁ B hml hv
  obtain ⟨ha, hsz, hP, hK, hD0⟩ := hv
  have hx := B.exec
  have hb := B.bytes
  have hr := B.returns
  have hts := atoms_spec (ws := wsX0_addKeepOut) B.pre
  have hown : s.vm.findClass RX0 = some m.cls := findClass_of_methodNamed B.named
  have hlocks := B.notSynchronized
  subst hsz
  have hD := hD0.self (sz := s.heap.size)
  generalize hAe : va_A (Wd ad cJ cI cZ bm pa p0 p1 p2 li wi) s.heap.size = A at hD ⊢
  have hA : ∀ q : Nat, s.heap.size ≤ q → A q := fun q h => by rw [← hAe]; exact Or.inr h
  have hS : va_S A s.heap s.heap [] := va_S.rf
  have hl := lv_entry ([.ref (ad 23), .long xa, .long ya, .long xb, .long yb, .long hh]) (n := 11) (Nat.le_of_ble_eq_true rfl)
  refine W.eq (g2 := entryFrame m ([.ref (ad 23), .long xa, .long ya, .long xb, .long yb, .long hh] : List Value).toArray 11) (by rw [ha]) ?_
  rw [lg_entry_eq]
  generalize (lg_sl ([.ref (ad 23), .long xa, .long ya, .long xb, .long yb, .long hh]) ++ List.replicate (11 - (lg_sl ([.ref (ad 23), .long xa, .long ya, .long xb, .long yb, .long hh])).length) Slot.unset).toArray = ls at hl ⊢
  have hl : lv_has ls 11 [(0, .ref (ad 23)), (1, .long xa), (3, .long ya), (5, .long xb), (7, .long yb), (9, .long hh)] := hl
  refine lv_aload_n hx hb dX0_addKeepOut_0 rfl (lv_at hl 0 rfl) ?_
  refine va_get (D := D) (ci := 0) (v := .int (nI li.2.2.2.2.2.2.2.2.1)) (C := RX0) (T := TX0) (N := 11) hx hb hts (inT inX0) hown hK hP 23 rfl rfl 9 (by decide) (hts (.fieldLink RX0 37 "BoardMoves$Limits" "keepOuts" "I") (by decide +kernel)) (fun _ h9 => h9) rfl dX0_addKeepOut_1 ?_
  refine lv_bipush (v := nI 10) hx hb dX0_addKeepOut_4 (by decide) ?_
  refine bm_ni_lt (x := li.2.2.2.2.2.2.2.2.1) (y := 10) (tgt := 11) hx hb (by omega) (by omega) dX0_addKeepOut_6 (by decide) (fun c_1 => ?_) (fun c_1 => ?_)
  · refine lv_aload_n hx hb dX0_addKeepOut_11 rfl (lv_at hl 0 rfl) ?_
    refine va_get (D := D) (ci := 0) (v := .ref (ad 24)) (C := RX0) (T := TX0) (N := 11) hx hb hts (inT inX0) hown hK hP 23 rfl rfl 1 (by decide) (hts (.fieldLink RX0 9 "BoardMoves$Limits" "x0" "[J") (by decide +kernel)) (fun _ h9 => h9) rfl dX0_addKeepOut_12 ?_
    refine lv_aload_n hx hb dX0_addKeepOut_15 rfl (lv_at hl 0 rfl) ?_
    refine va_get (D := D) (ci := 0) (v := .int (nI li.2.2.2.2.2.2.2.2.1)) (C := RX0) (T := TX0) (N := 11) hx hb hts (inT inX0) hown hK hP 23 rfl rfl 9 (by decide) (hts (.fieldLink RX0 37 "BoardMoves$Limits" "keepOuts" "I") (by decide +kernel)) (fun _ h9 => h9) rfl dX0_addKeepOut_16 ?_
    refine lv_lload_n hx hb dX0_addKeepOut_19 rfl (lv_at hl 1 rfl) ?_
    refine bm_last (f := li.1) hx hb hK hP hD hS 24 0 rfl rfl (j := li.2.2.2.2.2.2.2.2.1) (x := xa) (by omega) (by decide) dX0_addKeepOut_20 (fun H locs hP hD hS => ?_)
    have hP : va_P D vwCl (Wd ad cJ cI cZ bm pa p0 p1 p2 (va_up li.1 li.2.2.2.2.2.2.2.2.1 xa, li.2.1, li.2.2.1, li.2.2.2.1, li.2.2.2.2.1, li.2.2.2.2.2.1, li.2.2.2.2.2.2.1, li.2.2.2.2.2.2.2.1, li.2.2.2.2.2.2.2.2.1, li.2.2.2.2.2.2.2.2.2) wi) H := hP
    have hD : va_D A (Wd ad cJ cI cZ bm pa p0 p1 p2 (va_up li.1 li.2.2.2.2.2.2.2.2.1 xa, li.2.1, li.2.2.1, li.2.2.2.1, li.2.2.2.2.1, li.2.2.2.2.2.1, li.2.2.2.2.2.2.1, li.2.2.2.2.2.2.2.1, li.2.2.2.2.2.2.2.2.1, li.2.2.2.2.2.2.2.2.2) wi) := hD
    refine lv_aload_n hx hb dX0_addKeepOut_21 rfl (lv_at hl 0 rfl) ?_
    refine va_get (D := D) (ci := 0) (v := .ref (ad 25)) (C := RX0) (T := TX0) (N := 11) hx hb hts (inT inX0) hown hK hP 23 rfl rfl 2 (by decide) (hts (.fieldLink RX0 15 "BoardMoves$Limits" "y0" "[J") (by decide +kernel)) (fun _ h9 => h9) rfl dX0_addKeepOut_22 ?_
    refine lv_aload_n hx hb dX0_addKeepOut_25 rfl (lv_at hl 0 rfl) ?_
    refine va_get (D := D) (ci := 0) (v := .int (nI li.2.2.2.2.2.2.2.2.1)) (C := RX0) (T := TX0) (N := 11) hx hb hts (inT inX0) hown hK hP 23 rfl rfl 9 (by decide) (hts (.fieldLink RX0 37 "BoardMoves$Limits" "keepOuts" "I") (by decide +kernel)) (fun _ h9 => h9) rfl dX0_addKeepOut_26 ?_
    refine lv_lload_n hx hb dX0_addKeepOut_29 rfl (lv_at hl 2 rfl) ?_
    refine bm_last (f := li.2.1) hx hb hK hP hD hS 25 0 rfl rfl (j := li.2.2.2.2.2.2.2.2.1) (x := ya) (by omega) (by decide) dX0_addKeepOut_30 (fun H locs hP hD hS => ?_)
    have hP : va_P D vwCl (Wd ad cJ cI cZ bm pa p0 p1 p2 (va_up li.1 li.2.2.2.2.2.2.2.2.1 xa, va_up li.2.1 li.2.2.2.2.2.2.2.2.1 ya, li.2.2.1, li.2.2.2.1, li.2.2.2.2.1, li.2.2.2.2.2.1, li.2.2.2.2.2.2.1, li.2.2.2.2.2.2.2.1, li.2.2.2.2.2.2.2.2.1, li.2.2.2.2.2.2.2.2.2) wi) H := hP
    have hD : va_D A (Wd ad cJ cI cZ bm pa p0 p1 p2 (va_up li.1 li.2.2.2.2.2.2.2.2.1 xa, va_up li.2.1 li.2.2.2.2.2.2.2.2.1 ya, li.2.2.1, li.2.2.2.1, li.2.2.2.2.1, li.2.2.2.2.2.1, li.2.2.2.2.2.2.1, li.2.2.2.2.2.2.2.1, li.2.2.2.2.2.2.2.2.1, li.2.2.2.2.2.2.2.2.2) wi) := hD
    refine lv_aload_n hx hb dX0_addKeepOut_31 rfl (lv_at hl 0 rfl) ?_
    refine va_get (D := D) (ci := 0) (v := .ref (ad 26)) (C := RX0) (T := TX0) (N := 11) hx hb hts (inT inX0) hown hK hP 23 rfl rfl 3 (by decide) (hts (.fieldLink RX0 18 "BoardMoves$Limits" "x1" "[J") (by decide +kernel)) (fun _ h9 => h9) rfl dX0_addKeepOut_32 ?_
    refine lv_aload_n hx hb dX0_addKeepOut_35 rfl (lv_at hl 0 rfl) ?_
    refine va_get (D := D) (ci := 0) (v := .int (nI li.2.2.2.2.2.2.2.2.1)) (C := RX0) (T := TX0) (N := 11) hx hb hts (inT inX0) hown hK hP 23 rfl rfl 9 (by decide) (hts (.fieldLink RX0 37 "BoardMoves$Limits" "keepOuts" "I") (by decide +kernel)) (fun _ h9 => h9) rfl dX0_addKeepOut_36 ?_
    refine lv_lload hx hb dX0_addKeepOut_39 (lv_at hl 3 rfl) ?_
    refine bm_last (f := li.2.2.1) hx hb hK hP hD hS 26 0 rfl rfl (j := li.2.2.2.2.2.2.2.2.1) (x := xb) (by omega) (by decide) dX0_addKeepOut_41 (fun H locs hP hD hS => ?_)
    have hP : va_P D vwCl (Wd ad cJ cI cZ bm pa p0 p1 p2 (va_up li.1 li.2.2.2.2.2.2.2.2.1 xa, va_up li.2.1 li.2.2.2.2.2.2.2.2.1 ya, va_up li.2.2.1 li.2.2.2.2.2.2.2.2.1 xb, li.2.2.2.1, li.2.2.2.2.1, li.2.2.2.2.2.1, li.2.2.2.2.2.2.1, li.2.2.2.2.2.2.2.1, li.2.2.2.2.2.2.2.2.1, li.2.2.2.2.2.2.2.2.2) wi) H := hP
    have hD : va_D A (Wd ad cJ cI cZ bm pa p0 p1 p2 (va_up li.1 li.2.2.2.2.2.2.2.2.1 xa, va_up li.2.1 li.2.2.2.2.2.2.2.2.1 ya, va_up li.2.2.1 li.2.2.2.2.2.2.2.2.1 xb, li.2.2.2.1, li.2.2.2.2.1, li.2.2.2.2.2.1, li.2.2.2.2.2.2.1, li.2.2.2.2.2.2.2.1, li.2.2.2.2.2.2.2.2.1, li.2.2.2.2.2.2.2.2.2) wi) := hD
    refine lv_aload_n hx hb dX0_addKeepOut_42 rfl (lv_at hl 0 rfl) ?_
    refine va_get (D := D) (ci := 0) (v := .ref (ad 27)) (C := RX0) (T := TX0) (N := 11) hx hb hts (inT inX0) hown hK hP 23 rfl rfl 4 (by decide) (hts (.fieldLink RX0 21 "BoardMoves$Limits" "y1" "[J") (by decide +kernel)) (fun _ h9 => h9) rfl dX0_addKeepOut_43 ?_
    refine lv_aload_n hx hb dX0_addKeepOut_46 rfl (lv_at hl 0 rfl) ?_
    refine va_get (D := D) (ci := 0) (v := .int (nI li.2.2.2.2.2.2.2.2.1)) (C := RX0) (T := TX0) (N := 11) hx hb hts (inT inX0) hown hK hP 23 rfl rfl 9 (by decide) (hts (.fieldLink RX0 37 "BoardMoves$Limits" "keepOuts" "I") (by decide +kernel)) (fun _ h9 => h9) rfl dX0_addKeepOut_47 ?_
    refine lv_lload hx hb dX0_addKeepOut_50 (lv_at hl 4 rfl) ?_
    refine bm_last (f := li.2.2.2.1) hx hb hK hP hD hS 27 0 rfl rfl (j := li.2.2.2.2.2.2.2.2.1) (x := yb) (by omega) (by decide) dX0_addKeepOut_52 (fun H locs hP hD hS => ?_)
    have hP : va_P D vwCl (Wd ad cJ cI cZ bm pa p0 p1 p2 (va_up li.1 li.2.2.2.2.2.2.2.2.1 xa, va_up li.2.1 li.2.2.2.2.2.2.2.2.1 ya, va_up li.2.2.1 li.2.2.2.2.2.2.2.2.1 xb, va_up li.2.2.2.1 li.2.2.2.2.2.2.2.2.1 yb, li.2.2.2.2.1, li.2.2.2.2.2.1, li.2.2.2.2.2.2.1, li.2.2.2.2.2.2.2.1, li.2.2.2.2.2.2.2.2.1, li.2.2.2.2.2.2.2.2.2) wi) H := hP
    have hD : va_D A (Wd ad cJ cI cZ bm pa p0 p1 p2 (va_up li.1 li.2.2.2.2.2.2.2.2.1 xa, va_up li.2.1 li.2.2.2.2.2.2.2.2.1 ya, va_up li.2.2.1 li.2.2.2.2.2.2.2.2.1 xb, va_up li.2.2.2.1 li.2.2.2.2.2.2.2.2.1 yb, li.2.2.2.2.1, li.2.2.2.2.2.1, li.2.2.2.2.2.2.1, li.2.2.2.2.2.2.2.1, li.2.2.2.2.2.2.2.2.1, li.2.2.2.2.2.2.2.2.2) wi) := hD
    refine lv_aload_n hx hb dX0_addKeepOut_53 rfl (lv_at hl 0 rfl) ?_
    refine va_get (D := D) (ci := 0) (v := .ref (ad 28)) (C := RX0) (T := TX0) (N := 11) hx hb hts (inT inX0) hown hK hP 23 rfl rfl 5 (by decide) (hts (.fieldLink RX0 24 "BoardMoves$Limits" "tallest" "[J") (by decide +kernel)) (fun _ h9 => h9) rfl dX0_addKeepOut_54 ?_
    refine lv_aload_n hx hb dX0_addKeepOut_57 rfl (lv_at hl 0 rfl) ?_
    refine va_get (D := D) (ci := 0) (v := .int (nI li.2.2.2.2.2.2.2.2.1)) (C := RX0) (T := TX0) (N := 11) hx hb hts (inT inX0) hown hK hP 23 rfl rfl 9 (by decide) (hts (.fieldLink RX0 37 "BoardMoves$Limits" "keepOuts" "I") (by decide +kernel)) (fun _ h9 => h9) rfl dX0_addKeepOut_58 ?_
    refine lv_lload hx hb dX0_addKeepOut_61 (lv_at hl 5 rfl) ?_
    refine bm_last (f := li.2.2.2.2.1) hx hb hK hP hD hS 28 0 rfl rfl (j := li.2.2.2.2.2.2.2.2.1) (x := hh) (by omega) (by decide) dX0_addKeepOut_63 (fun H locs hP hD hS => ?_)
    have hP : va_P D vwCl (Wd ad cJ cI cZ bm pa p0 p1 p2 (va_up li.1 li.2.2.2.2.2.2.2.2.1 xa, va_up li.2.1 li.2.2.2.2.2.2.2.2.1 ya, va_up li.2.2.1 li.2.2.2.2.2.2.2.2.1 xb, va_up li.2.2.2.1 li.2.2.2.2.2.2.2.2.1 yb, va_up li.2.2.2.2.1 li.2.2.2.2.2.2.2.2.1 hh, li.2.2.2.2.2.1, li.2.2.2.2.2.2.1, li.2.2.2.2.2.2.2.1, li.2.2.2.2.2.2.2.2.1, li.2.2.2.2.2.2.2.2.2) wi) H := hP
    have hD : va_D A (Wd ad cJ cI cZ bm pa p0 p1 p2 (va_up li.1 li.2.2.2.2.2.2.2.2.1 xa, va_up li.2.1 li.2.2.2.2.2.2.2.2.1 ya, va_up li.2.2.1 li.2.2.2.2.2.2.2.2.1 xb, va_up li.2.2.2.1 li.2.2.2.2.2.2.2.2.1 yb, va_up li.2.2.2.2.1 li.2.2.2.2.2.2.2.2.1 hh, li.2.2.2.2.2.1, li.2.2.2.2.2.2.1, li.2.2.2.2.2.2.2.1, li.2.2.2.2.2.2.2.2.1, li.2.2.2.2.2.2.2.2.2) wi) := hD
    refine lv_aload_n hx hb dX0_addKeepOut_64 rfl (lv_at hl 0 rfl) ?_
    refine lv_dup hx hb dX0_addKeepOut_65 rfl ?_
    refine va_get (D := D) (ci := 0) (v := .int (nI li.2.2.2.2.2.2.2.2.1)) (C := RX0) (T := TX0) (N := 11) hx hb hts (inT inX0) hown hK hP 23 rfl rfl 9 (by decide) (hts (.fieldLink RX0 37 "BoardMoves$Limits" "keepOuts" "I") (by decide +kernel)) (fun _ h9 => h9) rfl dX0_addKeepOut_66 ?_
    refine lv_iconst (v := nI 1) hx hb dX0_addKeepOut_69 (by decide) ?_
    refine bm_nadd hx hb dX0_addKeepOut_70 ?_
    refine va_put (D := D) (ci := 0) (v := .int (nI (li.2.2.2.2.2.2.2.2.1 + 1))) (ty := .int) (C := RX0) (T := TX0) (N := 11) hx hb hts (inT inX0) tyX0 tyX0_ok nmX0 hown hK hP hD hS 23 rfl rfl 9 (by decide) (hts (.fieldLink RX0 37 "BoardMoves$Limits" "keepOuts" "I") (by decide +kernel)) (fun _ h9 => h9) rfl (by decide +kernel) rfl rfl (Nat.le_of_ble_eq_true rfl) dX0_addKeepOut_71 (fun H locs hP hD hS => ?_)
    have hP : va_P D vwCl (Wd ad cJ cI cZ bm pa p0 p1 p2 (va_up li.1 li.2.2.2.2.2.2.2.2.1 xa, va_up li.2.1 li.2.2.2.2.2.2.2.2.1 ya, va_up li.2.2.1 li.2.2.2.2.2.2.2.2.1 xb, va_up li.2.2.2.1 li.2.2.2.2.2.2.2.2.1 yb, va_up li.2.2.2.2.1 li.2.2.2.2.2.2.2.2.1 hh, li.2.2.2.2.2.1, li.2.2.2.2.2.2.1, li.2.2.2.2.2.2.2.1, li.2.2.2.2.2.2.2.2.1 + 1, li.2.2.2.2.2.2.2.2.2) wi) H := hP
    have hD : va_D A (Wd ad cJ cI cZ bm pa p0 p1 p2 (va_up li.1 li.2.2.2.2.2.2.2.2.1 xa, va_up li.2.1 li.2.2.2.2.2.2.2.2.1 ya, va_up li.2.2.1 li.2.2.2.2.2.2.2.2.1 xb, va_up li.2.2.2.1 li.2.2.2.2.2.2.2.2.1 yb, va_up li.2.2.2.2.1 li.2.2.2.2.2.2.2.2.1 hh, li.2.2.2.2.2.1, li.2.2.2.2.2.2.1, li.2.2.2.2.2.2.2.1, li.2.2.2.2.2.2.2.2.1 + 1, li.2.2.2.2.2.2.2.2.2) wi) := hD
    refine lv_iconst (v := bm_b true) hx hb dX0_addKeepOut_74 (by decide) ?_
    exact bm_zretW (v := true) hx hb hr hP hD hK hS ⟨by simp [c_1], by simp [c_1]⟩ dX0_addKeepOut_75 hlocks
  · refine lv_iconst (v := bm_b false) hx hb dX0_addKeepOut_9 (by decide) ?_
    exact bm_zretW (v := false) hx hb hr hP hD hK hS ⟨by simp [c_1], by simp [c_1]⟩ dX0_addKeepOut_10 hlocks
