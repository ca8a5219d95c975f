set_option maxHeartbeats 4000000 in
set_option maxRecDepth 100000 in
theorem w_addNear {l : Launch} {D : va_G} {ad : Nat → Nat} {cJ cI cZ : ClassId} {bm : gBM} {pa : gPA} {p0 p1 p2 : gPL} {li : gLI} {wi : gWI} (hoI : q_okI li) {a b : Nat} {h : Int64} : bm_Wr l yX0_addNear wsX0_addNear ({ frames := 0, cells := 0, slots := 0, locals := 0 }) D vwCl [(cJ, .long), (cI, .int), (cZ, .boolean)] (Wd ad cJ cI cZ bm pa p0 p1 p2 li wi) [.ref (ad 23), .int (nI a), .int (nI b), .long h] (Wd ad cJ cI cZ bm pa p0 p1 p2 (if li.2.2.2.2.2.2.2.2.2 < 20 then (li.1, li.2.1, li.2.2.1, li.2.2.2.1, li.2.2.2.2.1, va_up li.2.2.2.2.2.1 li.2.2.2.2.2.2.2.2.2 a, va_up li.2.2.2.2.2.2.1 li.2.2.2.2.2.2.2.2.2 b, va_up li.2.2.2.2.2.2.2.1 li.2.2.2.2.2.2.2.2.2 h, li.2.2.2.2.2.2.2.2.1, li.2.2.2.2.2.2.2.2.2 + 1) else li) wi) (some (.int (bm_b (decide (li.2.2.2.2.2.2.2.2.2 < 20))))) := by
  obtain ⟨hon, hot, hko, hne⟩ := hoI
  intro sz
  refine Met.ofW (cc := cX0_addNear) (maxL := 5) (ret := (some .boolean)) (by decide) rfl ?_
  intro p e s m args below meth c s₁ B hml hv
  obtain ⟨ha, hsz, hP, hK, hD0⟩ := hv
  have hx := B.exec
  have hb := B.bytes
  have hr := B.returns
  have hts := atoms_spec (ws := wsX0_addNear) B.pre
  have hown : s.vm.findClass RX0 = some m.cls := findClass_of_methodNamed B.named
  have hlocks := B.notSynchronized
  subst hsz
  have hD := hD0.self (sz := s.heap.size)
  generalize hAe : va_A (Wd ad cJ cI cZ bm pa p0 p1 p2 li wi) s.heap.size = A at hD ⊢
  have hA : ∀ q : Nat, s.heap.size ≤ q → A q := fun q h => by rw [← hAe]; exact Or.inr h
  have hS : va_S A s.heap s.heap [] := va_S.rf
  have hl := lv_entry ([.ref (ad 23), .int (nI a), .int (nI b), .long h]) (n := 5) (Nat.le_of_ble_eq_true rfl)
  refine W.eq (g2 := entryFrame m ([.ref (ad 23), .int (nI a), .int (nI b), .long h] : List Value).toArray 5) (by rw [ha]) ?_
  rw [lg_entry_eq]
  generalize (lg_sl ([.ref (ad 23), .int (nI a), .int (nI b), .long h]) ++ List.replicate (5 - (lg_sl ([.ref (ad 23), .int (nI a), .int (nI b), .long h])).length) Slot.unset).toArray = ls at hl ⊢
  have hl : lv_has ls 5 [(0, .ref (ad 23)), (1, .int (nI a)), (2, .int (nI b)), (3, .long h)] := hl
  refine lv_aload_n hx hb dX0_addNear_0 rfl (lv_at hl 0 rfl) ?_
  refine va_get (D := D) (ci := 0) (v := .int (nI li.2.2.2.2.2.2.2.2.2)) (C := RX0) (T := TX0) (N := 11) hx hb hts (inT inX0) hown hK hP 23 rfl rfl 10 (by decide) (hts (.fieldLink RX0 41 "BoardMoves$Limits" "nears" "I") (by decide +kernel)) (fun _ h9 => h9) rfl dX0_addNear_1 ?_
  refine lv_bipush (v := nI 20) hx hb dX0_addNear_4 (by decide) ?_
  refine bm_ni_lt (x := li.2.2.2.2.2.2.2.2.2) (y := 20) (tgt := 11) hx hb (by omega) (by omega) dX0_addNear_6 (by decide) (fun c_1 => ?_) (fun c_1 => ?_)
  · refine lv_aload_n hx hb dX0_addNear_11 rfl (lv_at hl 0 rfl) ?_
    refine va_get (D := D) (ci := 0) (v := .ref (ad 29)) (C := RX0) (T := TX0) (N := 11) hx hb hts (inT inX0) hown hK hP 23 rfl rfl 6 (by decide) (hts (.fieldLink RX0 27 "BoardMoves$Limits" "one" "[I") (by decide +kernel)) (fun _ h9 => h9) rfl dX0_addNear_12 ?_
    refine lv_aload_n hx hb dX0_addNear_15 rfl (lv_at hl 0 rfl) ?_
    refine va_get (D := D) (ci := 0) (v := .int (nI li.2.2.2.2.2.2.2.2.2)) (C := RX0) (T := TX0) (N := 11) hx hb hts (inT inX0) hown hK hP 23 rfl rfl 10 (by decide) (hts (.fieldLink RX0 41 "BoardMoves$Limits" "nears" "I") (by decide +kernel)) (fun _ h9 => h9) rfl dX0_addNear_16 ?_
    refine lv_iload_n hx hb dX0_addNear_19 rfl (lv_at hl 1 rfl) ?_
    refine bm_nast (f := li.2.2.2.2.2.1) hx hb hK hP hD hS 29 1 rfl rfl (j := li.2.2.2.2.2.2.2.2.2) (x := a) (by omega) (by decide) dX0_addNear_20 (fun H locs hP hD hS => ?_)
    have hP : va_P D vwCl (Wd ad cJ cI cZ bm pa p0 p1 p2 (li.1, li.2.1, li.2.2.1, li.2.2.2.1, li.2.2.2.2.1, va_up li.2.2.2.2.2.1 li.2.2.2.2.2.2.2.2.2 a, li.2.2.2.2.2.2.1, li.2.2.2.2.2.2.2.1, li.2.2.2.2.2.2.2.2.1, li.2.2.2.2.2.2.2.2.2) wi) H := hP
    have hD : va_D A (Wd ad cJ cI cZ bm pa p0 p1 p2 (li.1, li.2.1, li.2.2.1, li.2.2.2.1, li.2.2.2.2.1, va_up li.2.2.2.2.2.1 li.2.2.2.2.2.2.2.2.2 a, li.2.2.2.2.2.2.1, li.2.2.2.2.2.2.2.1, li.2.2.2.2.2.2.2.2.1, li.2.2.2.2.2.2.2.2.2) wi) := hD
    refine lv_aload_n hx hb dX0_addNear_21 rfl (lv_at hl 0 rfl) ?_
    refine va_get (D := D) (ci := 0) (v := .ref (ad 30)) (C := RX0) (T := TX0) (N := 11) hx hb hts (inT inX0) hown hK hP 23 rfl rfl 7 (by decide) (hts (.fieldLink RX0 31 "BoardMoves$Limits" "other" "[I") (by decide +kernel)) (fun _ h9 => h9) rfl dX0_addNear_22 ?_
    refine lv_aload_n hx hb dX0_addNear_25 rfl (lv_at hl 0 rfl) ?_
    refine va_get (D := D) (ci := 0) (v := .int (nI li.2.2.2.2.2.2.2.2.2)) (C := RX0) (T := TX0) (N := 11) hx hb hts (inT inX0) hown hK hP 23 rfl rfl 10 (by decide) (hts (.fieldLink RX0 41 "BoardMoves$Limits" "nears" "I") (by decide +kernel)) (fun _ h9 => h9) rfl dX0_addNear_26 ?_
    refine lv_iload_n hx hb dX0_addNear_29 rfl (lv_at hl 2 rfl) ?_
    refine bm_nast (f := li.2.2.2.2.2.2.1) hx hb hK hP hD hS 30 1 rfl rfl (j := li.2.2.2.2.2.2.2.2.2) (x := b) (by omega) (by decide) dX0_addNear_30 (fun H locs hP hD hS => ?_)
    have hP : va_P D vwCl (Wd ad cJ cI cZ bm pa p0 p1 p2 (li.1, li.2.1, li.2.2.1, li.2.2.2.1, li.2.2.2.2.1, va_up li.2.2.2.2.2.1 li.2.2.2.2.2.2.2.2.2 a, va_up li.2.2.2.2.2.2.1 li.2.2.2.2.2.2.2.2.2 b, li.2.2.2.2.2.2.2.1, li.2.2.2.2.2.2.2.2.1, li.2.2.2.2.2.2.2.2.2) wi) H := hP
    have hD : va_D A (Wd ad cJ cI cZ bm pa p0 p1 p2 (li.1, li.2.1, li.2.2.1, li.2.2.2.1, li.2.2.2.2.1, va_up li.2.2.2.2.2.1 li.2.2.2.2.2.2.2.2.2 a, va_up li.2.2.2.2.2.2.1 li.2.2.2.2.2.2.2.2.2 b, li.2.2.2.2.2.2.2.1, li.2.2.2.2.2.2.2.2.1, li.2.2.2.2.2.2.2.2.2) wi) := hD
    refine lv_aload_n hx hb dX0_addNear_31 rfl (lv_at hl 0 rfl) ?_
    refine va_get (D := D) (ci := 0) (v := .ref (ad 31)) (C := RX0) (T := TX0) (N := 11) hx hb hts (inT inX0) hown hK hP 23 rfl rfl 8 (by decide) (hts (.fieldLink RX0 34 "BoardMoves$Limits" "most" "[J") (by decide +kernel)) (fun _ h9 => h9) rfl dX0_addNear_32 ?_
    refine lv_aload_n hx hb dX0_addNear_35 rfl (lv_at hl 0 rfl) ?_
    refine va_get (D := D) (ci := 0) (v := .int (nI li.2.2.2.2.2.2.2.2.2)) (C := RX0) (T := TX0) (N := 11) hx hb hts (inT inX0) hown hK hP 23 rfl rfl 10 (by decide) (hts (.fieldLink RX0 41 "BoardMoves$Limits" "nears" "I") (by decide +kernel)) (fun _ h9 => h9) rfl dX0_addNear_36 ?_
    refine lv_lload_n hx hb dX0_addNear_39 rfl (lv_at hl 3 rfl) ?_
    refine bm_last (f := li.2.2.2.2.2.2.2.1) hx hb hK hP hD hS 31 0 rfl rfl (j := li.2.2.2.2.2.2.2.2.2) (x := h) (by omega) (by decide) dX0_addNear_40 (fun H locs hP hD hS => ?_)
    have hP : va_P D vwCl (Wd ad cJ cI cZ bm pa p0 p1 p2 (li.1, li.2.1, li.2.2.1, li.2.2.2.1, li.2.2.2.2.1, va_up li.2.2.2.2.2.1 li.2.2.2.2.2.2.2.2.2 a, va_up li.2.2.2.2.2.2.1 li.2.2.2.2.2.2.2.2.2 b, va_up li.2.2.2.2.2.2.2.1 li.2.2.2.2.2.2.2.2.2 h, li.2.2.2.2.2.2.2.2.1, li.2.2.2.2.2.2.2.2.2) wi) H := hP
    have hD : va_D A (Wd ad cJ cI cZ bm pa p0 p1 p2 (li.1, li.2.1, li.2.2.1, li.2.2.2.1, li.2.2.2.2.1, va_up li.2.2.2.2.2.1 li.2.2.2.2.2.2.2.2.2 a, va_up li.2.2.2.2.2.2.1 li.2.2.2.2.2.2.2.2.2 b, va_up li.2.2.2.2.2.2.2.1 li.2.2.2.2.2.2.2.2.2 h, li.2.2.2.2.2.2.2.2.1, li.2.2.2.2.2.2.2.2.2) wi) := hD
    refine lv_aload_n hx hb dX0_addNear_41 rfl (lv_at hl 0 rfl) ?_
    refine lv_dup hx hb dX0_addNear_42 rfl ?_
    refine va_get (D := D) (ci := 0) (v := .int (nI li.2.2.2.2.2.2.2.2.2)) (C := RX0) (T := TX0) (N := 11) hx hb hts (inT inX0) hown hK hP 23 rfl rfl 10 (by decide) (hts (.fieldLink RX0 41 "BoardMoves$Limits" "nears" "I") (by decide +kernel)) (fun _ h9 => h9) rfl dX0_addNear_43 ?_
    refine lv_iconst (v := nI 1) hx hb dX0_addNear_46 (by decide) ?_
    refine bm_nadd hx hb dX0_addNear_47 ?_
    refine va_put (D := D) (ci := 0) (v := .int (nI (li.2.2.2.2.2.2.2.2.2 + 1))) (ty := .int) (C := RX0) (T := TX0) (N := 11) hx hb hts (inT inX0) tyX0 tyX0_ok nmX0 hown hK hP hD hS 23 rfl rfl 10 (by decide) (hts (.fieldLink RX0 41 "BoardMoves$Limits" "nears" "I") (by decide +kernel)) (fun _ h9 => h9) rfl (by decide +kernel) rfl rfl (Nat.le_of_ble_eq_true rfl) dX0_addNear_48 (fun H locs hP hD hS => ?_)
    have hP : va_P D vwCl (Wd ad cJ cI cZ bm pa p0 p1 p2 (li.1, li.2.1, li.2.2.1, li.2.2.2.1, li.2.2.2.2.1, va_up li.2.2.2.2.2.1 li.2.2.2.2.2.2.2.2.2 a, va_up li.2.2.2.2.2.2.1 li.2.2.2.2.2.2.2.2.2 b, va_up li.2.2.2.2.2.2.2.1 li.2.2.2.2.2.2.2.2.2 h, li.2.2.2.2.2.2.2.2.1, li.2.2.2.2.2.2.2.2.2 + 1) wi) H := hP
    have hD : va_D A (Wd ad cJ cI cZ bm pa p0 p1 p2 (li.1, li.2.1, li.2.2.1, li.2.2.2.1, li.2.2.2.2.1, va_up li.2.2.2.2.2.1 li.2.2.2.2.2.2.2.2.2 a, va_up li.2.2.2.2.2.2.1 li.2.2.2.2.2.2.2.2.2 b, va_up li.2.2.2.2.2.2.2.1 li.2.2.2.2.2.2.2.2.2 h, li.2.2.2.2.2.2.2.2.1, li.2.2.2.2.2.2.2.2.2 + 1) wi) := hD
    refine lv_iconst (v := bm_b true) hx hb dX0_addNear_51 (by decide) ?_
    exact bm_zretW (v := true) hx hb hr hP hD hK hS ⟨by simp [c_1], by simp [c_1]⟩ dX0_addNear_52 hlocks
  · refine lv_iconst (v := bm_b false) hx hb dX0_addNear_9 (by decide) ?_
    exact bm_zretW (v := false) hx hb hr hP hD hK hS ⟨by simp [c_1], by simp [c_1]⟩ dX0_addNear_10 hlocks
