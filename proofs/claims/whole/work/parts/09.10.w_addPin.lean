set_option maxHeartbeats 4000000 in
set_option maxRecDepth 100000 in
theorem w_addPin {l : Launch} {D : va_G} {ad : Nat → Nat} {cJ cI cZ : ClassId} {bm : gBM} {pa : gPA} {p0 p1 p2 : gPL} {li : gLI} {wi : gWI} (hoW : q_okW wi) {a b : Nat} {x y : Int64} : bm_Wr l yX3_addPin wsX3_addPin ({ frames := 0, cells := 0, slots := 0, locals := 0 }) D vwCl [(cJ, .long), (cI, .int), (cZ, .boolean)] (Wd ad cJ cI cZ bm pa p0 p1 p2 li wi) [.ref (ad 32), .int (nI a), .int (nI b), .long x, .long y] (Wd ad cJ cI cZ bm pa p0 p1 p2 li (if wi.2.2.2.2.2.2.2.2.2.2 < 120 then (va_up wi.1 wi.2.2.2.2.2.2.2.2.2.2 a, va_up wi.2.1 wi.2.2.2.2.2.2.2.2.2.2 b, va_up wi.2.2.1 wi.2.2.2.2.2.2.2.2.2.2 x, va_up wi.2.2.2.1 wi.2.2.2.2.2.2.2.2.2.2 y, wi.2.2.2.2.1, wi.2.2.2.2.2.1, wi.2.2.2.2.2.2.1, wi.2.2.2.2.2.2.2.1, wi.2.2.2.2.2.2.2.2.1, wi.2.2.2.2.2.2.2.2.2.1, wi.2.2.2.2.2.2.2.2.2.2 + 1) else wi)) (some (.int (bm_b (decide (wi.2.2.2.2.2.2.2.2.2.2 < 120))))) := by
  obtain ⟨hwn, hwp, hnn, hpn⟩ := hoW
  intro sz
  refine Met.ofW (cc := cX3_addPin) (maxL := 7) (ret := (some .boolean)) (by decide) rfl ?_
  intro p e s m args below meth c s₁ B hml hv
  obtain ⟨ha, hsz, hP, hK, hD0⟩ := hv
  have hx := B.exec
  have hb := B.bytes
  have hr := B.returns
  have hts := atoms_spec (ws := wsX3_addPin) B.pre
  have hown : s.vm.findClass RX3 = some m.cls := findClass_of_methodNamed B.named
  have hlocks := B.notSynchronized
  subst hsz
  have hD := hD0.self (sz := s.heap.size)
  generalize hAe : va_A (Wd ad cJ cI cZ bm pa p0 p1 p2 li wi) s.heap.size = A at hD ⊢
  have hA : ∀ q : Nat, s.heap.size ≤ q → A q := fun q h => by rw [← hAe]; exact Or.inr h
  have hS : va_S A s.heap s.heap [] := va_S.rf
  have hl := lv_entry ([.ref (ad 32), .int (nI a), .int (nI b), .long x, .long y]) (n := 7) (Nat.le_of_ble_eq_true rfl)
  refine W.eq (g2 := entryFrame m ([.ref (ad 32), .int (nI a), .int (nI b), .long x, .long y] : List Value).toArray 7) (by rw [ha]) ?_
  rw [lg_entry_eq]
  generalize (lg_sl ([.ref (ad 32), .int (nI a), .int (nI b), .long x, .long y]) ++ List.replicate (7 - (lg_sl ([.ref (ad 32), .int (nI a), .int (nI b), .long x, .long y])).length) Slot.unset).toArray = ls at hl ⊢
  have hl : lv_has ls 7 [(0, .ref (ad 32)), (1, .int (nI a)), (2, .int (nI b)), (3, .long x), (5, .long y)] := hl
  refine lv_aload_n hx hb dX3_addPin_0 rfl (lv_at hl 0 rfl) ?_
  refine va_get (D := D) (ci := 3) (v := .int (nI wi.2.2.2.2.2.2.2.2.2.2)) (C := RX3) (T := TX3) (N := 12) hx hb hts (inT inX3) hown hK hP 32 rfl rfl 11 (by decide) (hts (.fieldLink RX3 45 "BoardMoves$Wiring" "pins" "I") (by decide +kernel)) (fun _ h9 => h9) rfl dX3_addPin_1 ?_
  refine lv_bipush (v := nI 120) hx hb dX3_addPin_4 (by decide) ?_
  refine bm_ni_lt (x := wi.2.2.2.2.2.2.2.2.2.2) (y := 120) (tgt := 11) hx hb (by omega) (by omega) dX3_addPin_6 (by decide) (fun c_1 => ?_) (fun c_1 => ?_)
  · refine lv_aload_n hx hb dX3_addPin_11 rfl (lv_at hl 0 rfl) ?_
    refine va_get (D := D) (ci := 3) (v := .ref (ad 33)) (C := RX3) (T := TX3) (N := 12) hx hb hts (inT inX3) hown hK hP 32 rfl rfl 1 (by decide) (hts (.fieldLink RX3 9 "BoardMoves$Wiring" "netOf" "[I") (by decide +kernel)) (fun _ h9 => h9) rfl dX3_addPin_12 ?_
    refine lv_aload_n hx hb dX3_addPin_15 rfl (lv_at hl 0 rfl) ?_
    refine va_get (D := D) (ci := 3) (v := .int (nI wi.2.2.2.2.2.2.2.2.2.2)) (C := RX3) (T := TX3) (N := 12) hx hb hts (inT inX3) hown hK hP 32 rfl rfl 11 (by decide) (hts (.fieldLink RX3 45 "BoardMoves$Wiring" "pins" "I") (by decide +kernel)) (fun _ h9 => h9) rfl dX3_addPin_16 ?_
    refine lv_iload_n hx hb dX3_addPin_19 rfl (lv_at hl 1 rfl) ?_
    refine bm_nast (f := wi.1) hx hb hK hP hD hS 33 1 rfl rfl (j := wi.2.2.2.2.2.2.2.2.2.2) (x := a) (by omega) (by decide) dX3_addPin_20 (fun H locs hP hD hS => ?_)
    have hP : va_P D vwCl (Wd ad cJ cI cZ bm pa p0 p1 p2 li (va_up wi.1 wi.2.2.2.2.2.2.2.2.2.2 a, wi.2.1, wi.2.2.1, wi.2.2.2.1, wi.2.2.2.2.1, wi.2.2.2.2.2.1, wi.2.2.2.2.2.2.1, wi.2.2.2.2.2.2.2.1, wi.2.2.2.2.2.2.2.2.1, wi.2.2.2.2.2.2.2.2.2.1, wi.2.2.2.2.2.2.2.2.2.2)) H := hP
    have hD : va_D A (Wd ad cJ cI cZ bm pa p0 p1 p2 li (va_up wi.1 wi.2.2.2.2.2.2.2.2.2.2 a, wi.2.1, wi.2.2.1, wi.2.2.2.1, wi.2.2.2.2.1, wi.2.2.2.2.2.1, wi.2.2.2.2.2.2.1, wi.2.2.2.2.2.2.2.1, wi.2.2.2.2.2.2.2.2.1, wi.2.2.2.2.2.2.2.2.2.1, wi.2.2.2.2.2.2.2.2.2.2)) := hD
    refine lv_aload_n hx hb dX3_addPin_21 rfl (lv_at hl 0 rfl) ?_
    refine va_get (D := D) (ci := 3) (v := .ref (ad 34)) (C := RX3) (T := TX3) (N := 12) hx hb hts (inT inX3) hown hK hP 32 rfl rfl 2 (by decide) (hts (.fieldLink RX3 15 "BoardMoves$Wiring" "partOf" "[I") (by decide +kernel)) (fun _ h9 => h9) rfl dX3_addPin_22 ?_
    refine lv_aload_n hx hb dX3_addPin_25 rfl (lv_at hl 0 rfl) ?_
    refine va_get (D := D) (ci := 3) (v := .int (nI wi.2.2.2.2.2.2.2.2.2.2)) (C := RX3) (T := TX3) (N := 12) hx hb hts (inT inX3) hown hK hP 32 rfl rfl 11 (by decide) (hts (.fieldLink RX3 45 "BoardMoves$Wiring" "pins" "I") (by decide +kernel)) (fun _ h9 => h9) rfl dX3_addPin_26 ?_
    refine lv_iload_n hx hb dX3_addPin_29 rfl (lv_at hl 2 rfl) ?_
    refine bm_nast (f := wi.2.1) hx hb hK hP hD hS 34 1 rfl rfl (j := wi.2.2.2.2.2.2.2.2.2.2) (x := b) (by omega) (by decide) dX3_addPin_30 (fun H locs hP hD hS => ?_)
    have hP : va_P D vwCl (Wd ad cJ cI cZ bm pa p0 p1 p2 li (va_up wi.1 wi.2.2.2.2.2.2.2.2.2.2 a, va_up wi.2.1 wi.2.2.2.2.2.2.2.2.2.2 b, wi.2.2.1, wi.2.2.2.1, wi.2.2.2.2.1, wi.2.2.2.2.2.1, wi.2.2.2.2.2.2.1, wi.2.2.2.2.2.2.2.1, wi.2.2.2.2.2.2.2.2.1, wi.2.2.2.2.2.2.2.2.2.1, wi.2.2.2.2.2.2.2.2.2.2)) H := hP
    have hD : va_D A (Wd ad cJ cI cZ bm pa p0 p1 p2 li (va_up wi.1 wi.2.2.2.2.2.2.2.2.2.2 a, va_up wi.2.1 wi.2.2.2.2.2.2.2.2.2.2 b, wi.2.2.1, wi.2.2.2.1, wi.2.2.2.2.1, wi.2.2.2.2.2.1, wi.2.2.2.2.2.2.1, wi.2.2.2.2.2.2.2.1, wi.2.2.2.2.2.2.2.2.1, wi.2.2.2.2.2.2.2.2.2.1, wi.2.2.2.2.2.2.2.2.2.2)) := hD
    refine lv_aload_n hx hb dX3_addPin_31 rfl (lv_at hl 0 rfl) ?_
    refine va_get (D := D) (ci := 3) (v := .ref (ad 35)) (C := RX3) (T := TX3) (N := 12) hx hb hts (inT inX3) hown hK hP 32 rfl rfl 3 (by decide) (hts (.fieldLink RX3 18 "BoardMoves$Wiring" "dx" "[J") (by decide +kernel)) (fun _ h9 => h9) rfl dX3_addPin_32 ?_
    refine lv_aload_n hx hb dX3_addPin_35 rfl (lv_at hl 0 rfl) ?_
    refine va_get (D := D) (ci := 3) (v := .int (nI wi.2.2.2.2.2.2.2.2.2.2)) (C := RX3) (T := TX3) (N := 12) hx hb hts (inT inX3) hown hK hP 32 rfl rfl 11 (by decide) (hts (.fieldLink RX3 45 "BoardMoves$Wiring" "pins" "I") (by decide +kernel)) (fun _ h9 => h9) rfl dX3_addPin_36 ?_
    refine lv_lload_n hx hb dX3_addPin_39 rfl (lv_at hl 3 rfl) ?_
    refine bm_last (f := wi.2.2.1) hx hb hK hP hD hS 35 0 rfl rfl (j := wi.2.2.2.2.2.2.2.2.2.2) (x := x) (by omega) (by decide) dX3_addPin_40 (fun H locs hP hD hS => ?_)
    have hP : va_P D vwCl (Wd ad cJ cI cZ bm pa p0 p1 p2 li (va_up wi.1 wi.2.2.2.2.2.2.2.2.2.2 a, va_up wi.2.1 wi.2.2.2.2.2.2.2.2.2.2 b, va_up wi.2.2.1 wi.2.2.2.2.2.2.2.2.2.2 x, wi.2.2.2.1, wi.2.2.2.2.1, wi.2.2.2.2.2.1, wi.2.2.2.2.2.2.1, wi.2.2.2.2.2.2.2.1, wi.2.2.2.2.2.2.2.2.1, wi.2.2.2.2.2.2.2.2.2.1, wi.2.2.2.2.2.2.2.2.2.2)) H := hP
    have hD : va_D A (Wd ad cJ cI cZ bm pa p0 p1 p2 li (va_up wi.1 wi.2.2.2.2.2.2.2.2.2.2 a, va_up wi.2.1 wi.2.2.2.2.2.2.2.2.2.2 b, va_up wi.2.2.1 wi.2.2.2.2.2.2.2.2.2.2 x, wi.2.2.2.1, wi.2.2.2.2.1, wi.2.2.2.2.2.1, wi.2.2.2.2.2.2.1, wi.2.2.2.2.2.2.2.1, wi.2.2.2.2.2.2.2.2.1, wi.2.2.2.2.2.2.2.2.2.1, wi.2.2.2.2.2.2.2.2.2.2)) := hD
    refine lv_aload_n hx hb dX3_addPin_41 rfl (lv_at hl 0 rfl) ?_
    refine va_get (D := D) (ci := 3) (v := .ref (ad 36)) (C := RX3) (T := TX3) (N := 12) hx hb hts (inT inX3) hown hK hP 32 rfl rfl 4 (by decide) (hts (.fieldLink RX3 22 "BoardMoves$Wiring" "dy" "[J") (by decide +kernel)) (fun _ h9 => h9) rfl dX3_addPin_42 ?_
    refine lv_aload_n hx hb dX3_addPin_45 rfl (lv_at hl 0 rfl) ?_
    refine va_get (D := D) (ci := 3) (v := .int (nI wi.2.2.2.2.2.2.2.2.2.2)) (C := RX3) (T := TX3) (N := 12) hx hb hts (inT inX3) hown hK hP 32 rfl rfl 11 (by decide) (hts (.fieldLink RX3 45 "BoardMoves$Wiring" "pins" "I") (by decide +kernel)) (fun _ h9 => h9) rfl dX3_addPin_46 ?_
    refine lv_lload hx hb dX3_addPin_49 (lv_at hl 4 rfl) ?_
    refine bm_last (f := wi.2.2.2.1) hx hb hK hP hD hS 36 0 rfl rfl (j := wi.2.2.2.2.2.2.2.2.2.2) (x := y) (by omega) (by decide) dX3_addPin_51 (fun H locs hP hD hS => ?_)
    have hP : va_P D vwCl (Wd ad cJ cI cZ bm pa p0 p1 p2 li (va_up wi.1 wi.2.2.2.2.2.2.2.2.2.2 a, va_up wi.2.1 wi.2.2.2.2.2.2.2.2.2.2 b, va_up wi.2.2.1 wi.2.2.2.2.2.2.2.2.2.2 x, va_up wi.2.2.2.1 wi.2.2.2.2.2.2.2.2.2.2 y, wi.2.2.2.2.1, wi.2.2.2.2.2.1, wi.2.2.2.2.2.2.1, wi.2.2.2.2.2.2.2.1, wi.2.2.2.2.2.2.2.2.1, wi.2.2.2.2.2.2.2.2.2.1, wi.2.2.2.2.2.2.2.2.2.2)) H := hP
    have hD : va_D A (Wd ad cJ cI cZ bm pa p0 p1 p2 li (va_up wi.1 wi.2.2.2.2.2.2.2.2.2.2 a, va_up wi.2.1 wi.2.2.2.2.2.2.2.2.2.2 b, va_up wi.2.2.1 wi.2.2.2.2.2.2.2.2.2.2 x, va_up wi.2.2.2.1 wi.2.2.2.2.2.2.2.2.2.2 y, wi.2.2.2.2.1, wi.2.2.2.2.2.1, wi.2.2.2.2.2.2.1, wi.2.2.2.2.2.2.2.1, wi.2.2.2.2.2.2.2.2.1, wi.2.2.2.2.2.2.2.2.2.1, wi.2.2.2.2.2.2.2.2.2.2)) := hD
    refine lv_aload_n hx hb dX3_addPin_52 rfl (lv_at hl 0 rfl) ?_
    refine lv_dup hx hb dX3_addPin_53 rfl ?_
    refine va_get (D := D) (ci := 3) (v := .int (nI wi.2.2.2.2.2.2.2.2.2.2)) (C := RX3) (T := TX3) (N := 12) hx hb hts (inT inX3) hown hK hP 32 rfl rfl 11 (by decide) (hts (.fieldLink RX3 45 "BoardMoves$Wiring" "pins" "I") (by decide +kernel)) (fun _ h9 => h9) rfl dX3_addPin_54 ?_
    refine lv_iconst (v := nI 1) hx hb dX3_addPin_57 (by decide) ?_
    refine bm_nadd hx hb dX3_addPin_58 ?_
    refine va_put (D := D) (ci := 3) (v := .int (nI (wi.2.2.2.2.2.2.2.2.2.2 + 1))) (ty := .int) (C := RX3) (T := TX3) (N := 12) hx hb hts (inT inX3) tyX3 tyX3_ok nmX3 hown hK hP hD hS 32 rfl rfl 11 (by decide) (hts (.fieldLink RX3 45 "BoardMoves$Wiring" "pins" "I") (by decide +kernel)) (fun _ h9 => h9) rfl (by decide +kernel) rfl rfl (Nat.le_of_ble_eq_true rfl) dX3_addPin_59 (fun H locs hP hD hS => ?_)
    have hP : va_P D vwCl (Wd ad cJ cI cZ bm pa p0 p1 p2 li (va_up wi.1 wi.2.2.2.2.2.2.2.2.2.2 a, va_up wi.2.1 wi.2.2.2.2.2.2.2.2.2.2 b, va_up wi.2.2.1 wi.2.2.2.2.2.2.2.2.2.2 x, va_up wi.2.2.2.1 wi.2.2.2.2.2.2.2.2.2.2 y, wi.2.2.2.2.1, wi.2.2.2.2.2.1, wi.2.2.2.2.2.2.1, wi.2.2.2.2.2.2.2.1, wi.2.2.2.2.2.2.2.2.1, wi.2.2.2.2.2.2.2.2.2.1, wi.2.2.2.2.2.2.2.2.2.2 + 1)) H := hP
    have hD : va_D A (Wd ad cJ cI cZ bm pa p0 p1 p2 li (va_up wi.1 wi.2.2.2.2.2.2.2.2.2.2 a, va_up wi.2.1 wi.2.2.2.2.2.2.2.2.2.2 b, va_up wi.2.2.1 wi.2.2.2.2.2.2.2.2.2.2 x, va_up wi.2.2.2.1 wi.2.2.2.2.2.2.2.2.2.2 y, wi.2.2.2.2.1, wi.2.2.2.2.2.1, wi.2.2.2.2.2.2.1, wi.2.2.2.2.2.2.2.1, wi.2.2.2.2.2.2.2.2.1, wi.2.2.2.2.2.2.2.2.2.1, wi.2.2.2.2.2.2.2.2.2.2 + 1)) := hD
    refine lv_iconst (v := bm_b true) hx hb dX3_addPin_62 (by decide) ?_
    exact bm_zretW (v := true) hx hb hr hP hD hK hS ⟨by simp [c_1], by simp [c_1]⟩ dX3_addPin_63 hlocks
  · refine lv_iconst (v := bm_b false) hx hb dX3_addPin_9 (by decide) ?_
    exact bm_zretW (v := false) hx hb hr hP hD hK hS ⟨by simp [c_1], by simp [c_1]⟩ dX3_addPin_10 hlocks
