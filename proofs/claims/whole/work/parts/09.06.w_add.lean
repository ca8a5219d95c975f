set_option maxHeartbeats 4000000 in
set_option maxRecDepth 100000 in
theorem w_add {l : Launch} {D : va_G} {ad : Nat → Nat} {cJ cI cZ : ClassId} {bm : gBM} {pa : gPA} {p0 p1 p2 : gPL} {li : gLI} {wi : gWI} (hoA : q_okA pa) {a b : Int64} {sd : Nat} : bm_Wr l yX1_add wsX1_add ({ frames := 0, cells := 0, slots := 0, locals := 0 }) D vwCl [(cJ, .long), (cI, .int), (cZ, .boolean)] (Wd ad cJ cI cZ bm pa p0 p1 p2 li wi) [.ref (ad 1), .long a, .long b, .int (nI sd)] (Wd ad cJ cI cZ bm (if pa.2.2.2.2.2.2 < 40 then (va_up pa.1 pa.2.2.2.2.2.2 a, va_up pa.2.1 pa.2.2.2.2.2.2 b, va_up pa.2.2.1 pa.2.2.2.2.2.2 sd, pa.2.2.2.1, pa.2.2.2.2.1, va_up pa.2.2.2.2.2.1 pa.2.2.2.2.2.2 pa.2.2.2.2.2.2, pa.2.2.2.2.2.2 + 1) else pa) p0 p1 p2 li wi) (some (.int (if pa.2.2.2.2.2.2 < 40 then nI pa.2.2.2.2.2.2 else -1))) := by
  obtain ⟨hn, hsd, hlw⟩ := hoA
  intro sz
  refine Met.ofW (cc := cX1_add) (maxL := 6) (ret := (some .int)) (by decide) rfl ?_
  intro p e s m args below meth c s₁ B hml hv
  obtain ⟨ha, hsz, hP, hK, hD0⟩ := hv
  have hx := B.exec
  have hb := B.bytes
  have hr := B.returns
  have hts := atoms_spec (ws := wsX1_add) B.pre
  have hown : s.vm.findClass RX1 = some m.cls := findClass_of_methodNamed B.named
  have hlocks := B.notSynchronized
  subst hsz
  have hD := hD0.self (sz := s.heap.size)
  generalize hAe : va_A (Wd ad cJ cI cZ bm pa p0 p1 p2 li wi) s.heap.size = A at hD ⊢
  have hA : ∀ q : Nat, s.heap.size ≤ q → A q := fun q h => by rw [← hAe]; exact Or.inr h
  have hS : va_S A s.heap s.heap [] := va_S.rf
  have hl := lv_entry ([.ref (ad 1), .long a, .long b, .int (nI sd)]) (n := 6) (Nat.le_of_ble_eq_true rfl)
  refine W.eq (g2 := entryFrame m ([.ref (ad 1), .long a, .long b, .int (nI sd)] : List Value).toArray 6) (by rw [ha]) ?_
  rw [lg_entry_eq]
  generalize (lg_sl ([.ref (ad 1), .long a, .long b, .int (nI sd)]) ++ List.replicate (6 - (lg_sl ([.ref (ad 1), .long a, .long b, .int (nI sd)])).length) Slot.unset).toArray = ls at hl ⊢
  have hl : lv_has ls 6 [(0, .ref (ad 1)), (1, .long a), (3, .long b), (5, .int (nI sd))] := hl
  refine lv_aload_n hx hb dX1_add_0 rfl (lv_at hl 0 rfl) ?_
  refine va_get (D := D) (ci := 1) (v := .int (nI pa.2.2.2.2.2.2)) (C := RX1) (T := TX1) (N := 7) hx hb hts (inT inX1) hown hK hP 1 rfl rfl 6 (by decide) (hts (.fieldLink RX1 32 "BoardMoves$Parts" "count" "I") (by decide +kernel)) (fun _ h9 => h9) rfl dX1_add_1 ?_
  refine lv_bipush (v := nI 40) hx hb dX1_add_4 (by decide) ?_
  refine bm_ni_lt (x := pa.2.2.2.2.2.2) (y := 40) (tgt := 11) hx hb (by omega) (by omega) dX1_add_6 (by decide) (fun c_1 => ?_) (fun c_1 => ?_)
  · refine lv_aload_n hx hb dX1_add_11 rfl (lv_at hl 0 rfl) ?_
    refine va_get (D := D) (ci := 1) (v := .ref (ad 2)) (C := RX1) (T := TX1) (N := 7) hx hb hts (inT inX1) hown hK hP 1 rfl rfl 0 (by decide) (hts (.fieldLink RX1 9 "BoardMoves$Parts" "w" "[J") (by decide +kernel)) (fun _ h9 => h9) rfl dX1_add_12 ?_
    refine lv_aload_n hx hb dX1_add_15 rfl (lv_at hl 0 rfl) ?_
    refine va_get (D := D) (ci := 1) (v := .int (nI pa.2.2.2.2.2.2)) (C := RX1) (T := TX1) (N := 7) hx hb hts (inT inX1) hown hK hP 1 rfl rfl 6 (by decide) (hts (.fieldLink RX1 32 "BoardMoves$Parts" "count" "I") (by decide +kernel)) (fun _ h9 => h9) rfl dX1_add_16 ?_
    refine lv_lload_n hx hb dX1_add_19 rfl (lv_at hl 1 rfl) ?_
    refine bm_last (f := pa.1) hx hb hK hP hD hS 2 0 rfl rfl (j := pa.2.2.2.2.2.2) (x := a) (by omega) (by decide) dX1_add_20 (fun H locs hP hD hS => ?_)
    have hP : va_P D vwCl (Wd ad cJ cI cZ bm (va_up pa.1 pa.2.2.2.2.2.2 a, pa.2.1, pa.2.2.1, pa.2.2.2.1, pa.2.2.2.2.1, pa.2.2.2.2.2.1, pa.2.2.2.2.2.2) p0 p1 p2 li wi) H := hP
    have hD : va_D A (Wd ad cJ cI cZ bm (va_up pa.1 pa.2.2.2.2.2.2 a, pa.2.1, pa.2.2.1, pa.2.2.2.1, pa.2.2.2.2.1, pa.2.2.2.2.2.1, pa.2.2.2.2.2.2) p0 p1 p2 li wi) := hD
    refine lv_aload_n hx hb dX1_add_21 rfl (lv_at hl 0 rfl) ?_
    refine va_get (D := D) (ci := 1) (v := .ref (ad 3)) (C := RX1) (T := TX1) (N := 7) hx hb hts (inT inX1) hown hK hP 1 rfl rfl 1 (by decide) (hts (.fieldLink RX1 15 "BoardMoves$Parts" "h" "[J") (by decide +kernel)) (fun _ h9 => h9) rfl dX1_add_22 ?_
    refine lv_aload_n hx hb dX1_add_25 rfl (lv_at hl 0 rfl) ?_
    refine va_get (D := D) (ci := 1) (v := .int (nI pa.2.2.2.2.2.2)) (C := RX1) (T := TX1) (N := 7) hx hb hts (inT inX1) hown hK hP 1 rfl rfl 6 (by decide) (hts (.fieldLink RX1 32 "BoardMoves$Parts" "count" "I") (by decide +kernel)) (fun _ h9 => h9) rfl dX1_add_26 ?_
    refine lv_lload_n hx hb dX1_add_29 rfl (lv_at hl 2 rfl) ?_
    refine bm_last (f := pa.2.1) hx hb hK hP hD hS 3 0 rfl rfl (j := pa.2.2.2.2.2.2) (x := b) (by omega) (by decide) dX1_add_30 (fun H locs hP hD hS => ?_)
    have hP : va_P D vwCl (Wd ad cJ cI cZ bm (va_up pa.1 pa.2.2.2.2.2.2 a, va_up pa.2.1 pa.2.2.2.2.2.2 b, pa.2.2.1, pa.2.2.2.1, pa.2.2.2.2.1, pa.2.2.2.2.2.1, pa.2.2.2.2.2.2) p0 p1 p2 li wi) H := hP
    have hD : va_D A (Wd ad cJ cI cZ bm (va_up pa.1 pa.2.2.2.2.2.2 a, va_up pa.2.1 pa.2.2.2.2.2.2 b, pa.2.2.1, pa.2.2.2.1, pa.2.2.2.2.1, pa.2.2.2.2.2.1, pa.2.2.2.2.2.2) p0 p1 p2 li wi) := hD
    refine lv_aload_n hx hb dX1_add_31 rfl (lv_at hl 0 rfl) ?_
    refine va_get (D := D) (ci := 1) (v := .ref (ad 4)) (C := RX1) (T := TX1) (N := 7) hx hb hts (inT inX1) hown hK hP 1 rfl rfl 2 (by decide) (hts (.fieldLink RX1 18 "BoardMoves$Parts" "side" "[I") (by decide +kernel)) (fun _ h9 => h9) rfl dX1_add_32 ?_
    refine lv_aload_n hx hb dX1_add_35 rfl (lv_at hl 0 rfl) ?_
    refine va_get (D := D) (ci := 1) (v := .int (nI pa.2.2.2.2.2.2)) (C := RX1) (T := TX1) (N := 7) hx hb hts (inT inX1) hown hK hP 1 rfl rfl 6 (by decide) (hts (.fieldLink RX1 32 "BoardMoves$Parts" "count" "I") (by decide +kernel)) (fun _ h9 => h9) rfl dX1_add_36 ?_
    refine lv_iload hx hb dX1_add_39 (lv_at hl 3 rfl) ?_
    refine bm_nast (f := pa.2.2.1) hx hb hK hP hD hS 4 1 rfl rfl (j := pa.2.2.2.2.2.2) (x := sd) (by omega) (by decide) dX1_add_41 (fun H locs hP hD hS => ?_)
    have hP : va_P D vwCl (Wd ad cJ cI cZ bm (va_up pa.1 pa.2.2.2.2.2.2 a, va_up pa.2.1 pa.2.2.2.2.2.2 b, va_up pa.2.2.1 pa.2.2.2.2.2.2 sd, pa.2.2.2.1, pa.2.2.2.2.1, pa.2.2.2.2.2.1, pa.2.2.2.2.2.2) p0 p1 p2 li wi) H := hP
    have hD : va_D A (Wd ad cJ cI cZ bm (va_up pa.1 pa.2.2.2.2.2.2 a, va_up pa.2.1 pa.2.2.2.2.2.2 b, va_up pa.2.2.1 pa.2.2.2.2.2.2 sd, pa.2.2.2.1, pa.2.2.2.2.1, pa.2.2.2.2.2.1, pa.2.2.2.2.2.2) p0 p1 p2 li wi) := hD
    refine lv_aload_n hx hb dX1_add_42 rfl (lv_at hl 0 rfl) ?_
    refine va_get (D := D) (ci := 1) (v := .ref (ad 7)) (C := RX1) (T := TX1) (N := 7) hx hb hts (inT inX1) hown hK hP 1 rfl rfl 5 (by decide) (hts (.fieldLink RX1 29 "BoardMoves$Parts" "lowest" "[I") (by decide +kernel)) (fun _ h9 => h9) rfl dX1_add_43 ?_
    refine lv_aload_n hx hb dX1_add_46 rfl (lv_at hl 0 rfl) ?_
    refine va_get (D := D) (ci := 1) (v := .int (nI pa.2.2.2.2.2.2)) (C := RX1) (T := TX1) (N := 7) hx hb hts (inT inX1) hown hK hP 1 rfl rfl 6 (by decide) (hts (.fieldLink RX1 32 "BoardMoves$Parts" "count" "I") (by decide +kernel)) (fun _ h9 => h9) rfl dX1_add_47 ?_
    refine lv_aload_n hx hb dX1_add_50 rfl (lv_at hl 0 rfl) ?_
    refine va_get (D := D) (ci := 1) (v := .int (nI pa.2.2.2.2.2.2)) (C := RX1) (T := TX1) (N := 7) hx hb hts (inT inX1) hown hK hP 1 rfl rfl 6 (by decide) (hts (.fieldLink RX1 32 "BoardMoves$Parts" "count" "I") (by decide +kernel)) (fun _ h9 => h9) rfl dX1_add_51 ?_
    refine bm_nast (f := pa.2.2.2.2.2.1) hx hb hK hP hD hS 7 1 rfl rfl (j := pa.2.2.2.2.2.2) (x := pa.2.2.2.2.2.2) (by omega) (by decide) dX1_add_54 (fun H locs hP hD hS => ?_)
    have hP : va_P D vwCl (Wd ad cJ cI cZ bm (va_up pa.1 pa.2.2.2.2.2.2 a, va_up pa.2.1 pa.2.2.2.2.2.2 b, va_up pa.2.2.1 pa.2.2.2.2.2.2 sd, pa.2.2.2.1, pa.2.2.2.2.1, va_up pa.2.2.2.2.2.1 pa.2.2.2.2.2.2 pa.2.2.2.2.2.2, pa.2.2.2.2.2.2) p0 p1 p2 li wi) H := hP
    have hD : va_D A (Wd ad cJ cI cZ bm (va_up pa.1 pa.2.2.2.2.2.2 a, va_up pa.2.1 pa.2.2.2.2.2.2 b, va_up pa.2.2.1 pa.2.2.2.2.2.2 sd, pa.2.2.2.1, pa.2.2.2.2.1, va_up pa.2.2.2.2.2.1 pa.2.2.2.2.2.2 pa.2.2.2.2.2.2, pa.2.2.2.2.2.2) p0 p1 p2 li wi) := hD
    refine lv_aload_n hx hb dX1_add_55 rfl (lv_at hl 0 rfl) ?_
    refine lv_dup hx hb dX1_add_56 rfl ?_
    refine va_get (D := D) (ci := 1) (v := .int (nI pa.2.2.2.2.2.2)) (C := RX1) (T := TX1) (N := 7) hx hb hts (inT inX1) hown hK hP 1 rfl rfl 6 (by decide) (hts (.fieldLink RX1 32 "BoardMoves$Parts" "count" "I") (by decide +kernel)) (fun _ h9 => h9) rfl dX1_add_57 ?_
    refine lv_iconst (v := nI 1) hx hb dX1_add_60 (by decide) ?_
    refine bm_nadd hx hb dX1_add_61 ?_
    refine va_put (D := D) (ci := 1) (v := .int (nI (pa.2.2.2.2.2.2 + 1))) (ty := .int) (C := RX1) (T := TX1) (N := 7) hx hb hts (inT inX1) tyX1 tyX1_ok nmX1 hown hK hP hD hS 1 rfl rfl 6 (by decide) (hts (.fieldLink RX1 32 "BoardMoves$Parts" "count" "I") (by decide +kernel)) (fun _ h9 => h9) rfl (by decide +kernel) rfl rfl (Nat.le_of_ble_eq_true rfl) dX1_add_62 (fun H locs hP hD hS => ?_)
    have hP : va_P D vwCl (Wd ad cJ cI cZ bm (va_up pa.1 pa.2.2.2.2.2.2 a, va_up pa.2.1 pa.2.2.2.2.2.2 b, va_up pa.2.2.1 pa.2.2.2.2.2.2 sd, pa.2.2.2.1, pa.2.2.2.2.1, va_up pa.2.2.2.2.2.1 pa.2.2.2.2.2.2 pa.2.2.2.2.2.2, pa.2.2.2.2.2.2 + 1) p0 p1 p2 li wi) H := hP
    have hD : va_D A (Wd ad cJ cI cZ bm (va_up pa.1 pa.2.2.2.2.2.2 a, va_up pa.2.1 pa.2.2.2.2.2.2 b, va_up pa.2.2.1 pa.2.2.2.2.2.2 sd, pa.2.2.2.1, pa.2.2.2.2.1, va_up pa.2.2.2.2.2.1 pa.2.2.2.2.2.2 pa.2.2.2.2.2.2, pa.2.2.2.2.2.2 + 1) p0 p1 p2 li wi) := hD
    refine lv_aload_n hx hb dX1_add_65 rfl (lv_at hl 0 rfl) ?_
    refine va_get (D := D) (ci := 1) (v := .int (nI (pa.2.2.2.2.2.2 + 1))) (C := RX1) (T := TX1) (N := 7) hx hb hts (inT inX1) hown hK hP 1 rfl rfl 6 (by decide) (hts (.fieldLink RX1 32 "BoardMoves$Parts" "count" "I") (by decide +kernel)) (fun _ h9 => h9) rfl dX1_add_66 ?_
    refine lv_iconst (v := nI 1) hx hb dX1_add_69 (by decide) ?_
    refine bm_nsub hx hb (by omega) dX1_add_70 ?_
    exact bm_iretW (v := (nI ((pa.2.2.2.2.2.2 + 1) - 1))) hx hb hr hP hD hK hS ⟨by simp [c_1], by simp [c_1]⟩ dX1_add_71 hlocks
  · refine lv_iconst (v := -1) hx hb dX1_add_9 (by decide) ?_
    exact bm_iretW (v := (-1)) hx hb hr hP hD hK hS ⟨by simp [c_1], by simp [c_1]⟩ dX1_add_10 hlocks
