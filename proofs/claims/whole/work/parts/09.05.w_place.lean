set_option maxHeartbeats 4000000 in
set_option maxRecDepth 100000 in
theorem w_place {l : Launch} {D : va_G} {ad : Nat → Nat} {cJ cI cZ : ClassId} {bm : gBM} {pa : gPA} {p0 p1 p2 : gPL} {li : gLI} {wi : gWI} {j t : Nat} (h1 : j < 40) {x y : Int64} : bm_Wr l yX2_place wsX2_place ({ frames := 0, cells := 0, slots := 0, locals := 0 }) D vwCl [(cJ, .long), (cI, .int), (cZ, .boolean)] (Wd ad cJ cI cZ bm pa p0 p1 p2 li wi) [.ref (ad 8), .int (nI j), .long x, .long y, .int (nI t)] (Wd ad cJ cI cZ bm pa (va_up p0.1 j x, va_up p0.2.1 j y, va_up p0.2.2.1 j t, va_up p0.2.2.2 j true) p1 p2 li wi) (none) := by
  intro sz
  refine Met.ofW (cc := cX2_place) (maxL := 7) (ret := none) (by decide) rfl ?_
  intro p e s m args below meth c s₁ B hml hv
  obtain ⟨ha, hsz, hP, hK, hD0⟩ := hv
  have hx := B.exec
  have hb := B.bytes
  have hr := B.returns
  have hts := atoms_spec (ws := wsX2_place) B.pre
  have hown : s.vm.findClass RX2 = some m.cls := findClass_of_methodNamed B.named
  have hlocks := B.notSynchronized
  subst hsz
  have hD := hD0.self (sz := s.heap.size)
  generalize hAe : va_A (Wd ad cJ cI cZ bm pa p0 p1 p2 li wi) s.heap.size = A at hD ⊢
  have hA : ∀ q : Nat, s.heap.size ≤ q → A q := fun q h => by rw [← hAe]; exact Or.inr h
  have hS : va_S A s.heap s.heap [] := va_S.rf
  have hl := lv_entry ([.ref (ad 8), .int (nI j), .long x, .long y, .int (nI t)]) (n := 7) (Nat.le_of_ble_eq_true rfl)
  refine W.eq (g2 := entryFrame m ([.ref (ad 8), .int (nI j), .long x, .long y, .int (nI t)] : List Value).toArray 7) (by rw [ha]) ?_
  rw [lg_entry_eq]
  generalize (lg_sl ([.ref (ad 8), .int (nI j), .long x, .long y, .int (nI t)]) ++ List.replicate (7 - (lg_sl ([.ref (ad 8), .int (nI j), .long x, .long y, .int (nI t)])).length) Slot.unset).toArray = ls at hl ⊢
  have hl : lv_has ls 7 [(0, .ref (ad 8)), (1, .int (nI j)), (2, .long x), (4, .long y), (6, .int (nI t))] := hl
  refine lv_aload_n hx hb dX2_place_0 rfl (lv_at hl 0 rfl) ?_
  refine va_get (D := D) (ci := 2) (v := .ref (ad 9)) (C := RX2) (T := TX2) (N := 5) hx hb hts (inT inX2) hown hK hP 8 rfl rfl 1 (by decide) (hts (.fieldLink RX2 9 "BoardMoves$Placement" "x" "[J") (by decide +kernel)) (fun _ h9 => h9) rfl dX2_place_1 ?_
  refine lv_iload_n hx hb dX2_place_4 rfl (lv_at hl 1 rfl) ?_
  refine lv_lload_n hx hb dX2_place_5 rfl (lv_at hl 2 rfl) ?_
  refine bm_last (f := p0.1) hx hb hK hP hD hS 9 0 rfl rfl (j := j) (x := x) (by omega) (by decide) dX2_place_6 (fun H locs hP hD hS => ?_)
  have hP : va_P D vwCl (Wd ad cJ cI cZ bm pa (va_up p0.1 j x, p0.2.1, p0.2.2.1, p0.2.2.2) p1 p2 li wi) H := hP
  have hD : va_D A (Wd ad cJ cI cZ bm pa (va_up p0.1 j x, p0.2.1, p0.2.2.1, p0.2.2.2) p1 p2 li wi) := hD
  refine lv_aload_n hx hb dX2_place_7 rfl (lv_at hl 0 rfl) ?_
  refine va_get (D := D) (ci := 2) (v := .ref (ad 10)) (C := RX2) (T := TX2) (N := 5) hx hb hts (inT inX2) hown hK hP 8 rfl rfl 2 (by decide) (hts (.fieldLink RX2 15 "BoardMoves$Placement" "y" "[J") (by decide +kernel)) (fun _ h9 => h9) rfl dX2_place_8 ?_
  refine lv_iload_n hx hb dX2_place_11 rfl (lv_at hl 1 rfl) ?_
  refine lv_lload hx hb dX2_place_12 (lv_at hl 3 rfl) ?_
  refine bm_last (f := p0.2.1) hx hb hK hP hD hS 10 0 rfl rfl (j := j) (x := y) (by omega) (by decide) dX2_place_14 (fun H locs hP hD hS => ?_)
  have hP : va_P D vwCl (Wd ad cJ cI cZ bm pa (va_up p0.1 j x, va_up p0.2.1 j y, p0.2.2.1, p0.2.2.2) p1 p2 li wi) H := hP
  have hD : va_D A (Wd ad cJ cI cZ bm pa (va_up p0.1 j x, va_up p0.2.1 j y, p0.2.2.1, p0.2.2.2) p1 p2 li wi) := hD
  refine lv_aload_n hx hb dX2_place_15 rfl (lv_at hl 0 rfl) ?_
  refine va_get (D := D) (ci := 2) (v := .ref (ad 11)) (C := RX2) (T := TX2) (N := 5) hx hb hts (inT inX2) hown hK hP 8 rfl rfl 3 (by decide) (hts (.fieldLink RX2 18 "BoardMoves$Placement" "turn" "[I") (by decide +kernel)) (fun _ h9 => h9) rfl dX2_place_16 ?_
  refine lv_iload_n hx hb dX2_place_19 rfl (lv_at hl 1 rfl) ?_
  refine lv_iload hx hb dX2_place_20 (lv_at hl 4 rfl) ?_
  refine bm_nast (f := p0.2.2.1) hx hb hK hP hD hS 11 1 rfl rfl (j := j) (x := t) (by omega) (by decide) dX2_place_22 (fun H locs hP hD hS => ?_)
  have hP : va_P D vwCl (Wd ad cJ cI cZ bm pa (va_up p0.1 j x, va_up p0.2.1 j y, va_up p0.2.2.1 j t, p0.2.2.2) p1 p2 li wi) H := hP
  have hD : va_D A (Wd ad cJ cI cZ bm pa (va_up p0.1 j x, va_up p0.2.1 j y, va_up p0.2.2.1 j t, p0.2.2.2) p1 p2 li wi) := hD
  refine lv_aload_n hx hb dX2_place_23 rfl (lv_at hl 0 rfl) ?_
  refine va_get (D := D) (ci := 2) (v := .ref (ad 12)) (C := RX2) (T := TX2) (N := 5) hx hb hts (inT inX2) hown hK hP 8 rfl rfl 4 (by decide) (hts (.fieldLink RX2 22 "BoardMoves$Placement" "placed" "[Z") (by decide +kernel)) (fun _ h9 => h9) rfl dX2_place_24 ?_
  refine lv_iload_n hx hb dX2_place_27 rfl (lv_at hl 1 rfl) ?_
  refine lv_iconst (v := bm_b true) hx hb dX2_place_28 (by decide) ?_
  refine bm_zast (f := p0.2.2.2) hx hb hK hP hD hS 12 2 rfl rfl (j := j) (x := true) (by omega) (by decide) dX2_place_29 (fun H locs hP hD hS => ?_)
  have hP : va_P D vwCl (Wd ad cJ cI cZ bm pa (va_up p0.1 j x, va_up p0.2.1 j y, va_up p0.2.2.1 j t, va_up p0.2.2.2 j true) p1 p2 li wi) H := hP
  have hD : va_D A (Wd ad cJ cI cZ bm pa (va_up p0.1 j x, va_up p0.2.1 j y, va_up p0.2.2.1 j t, va_up p0.2.2.2 j true) p1 p2 li wi) := hD
  exact bm_vretW hx hb hr hP hD hK hS rfl dX2_place_30 hlocks
