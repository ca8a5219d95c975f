set_option maxHeartbeats 4000000 in
set_option maxRecDepth 100000 in
theorem w_copyp0p1 {l : Launch} {D : va_G} {ad : Nat → Nat} {cJ cI cZ : ClassId} {bm : gBM} {pa : gPA} {p0 p1 p2 : gPL} {li : gLI} {wi : gWI} (hoA : q_okA pa) : bm_Wr l yX2_copyFrom wsX2_copyFrom ({ frames := 0, cells := 0, slots := 0, locals := 0 }) D vwCl [(cJ, .long), (cI, .int), (cZ, .boolean)] (Wd ad cJ cI cZ bm pa p0 p1 p2 li wi) [.ref (ad 8), .ref (ad 13)] (Wd ad cJ cI cZ bm pa (q_copyU p1 p0 pa.2.2.2.2.2.2) p1 p2 li wi) (none) := by
  obtain ⟨hn, hsd, hlw⟩ := hoA
  intro sz
  refine Met.ofW (cc := cX2_copyFrom) (maxL := 3) (ret := none) (by decide) rfl ?_
  intro p e s m args below meth c s₁ B hml hv
  obtain ⟨ha, hsz, hP, hK, hD0⟩ := hv
  have hx := B.exec
  have hb := B.bytes
  have hr := B.returns
  have hts := atoms_spec (ws := wsX2_copyFrom) B.pre
  have hown : s.vm.findClass RX2 = some m.cls := findClass_of_methodNamed B.named
  have hlocks := B.notSynchronized
  subst hsz
  have hD := hD0.self (sz := s.heap.size)
  generalize hAe : va_A (Wd ad cJ cI cZ bm pa p0 p1 p2 li wi) s.heap.size = A at hD ⊢
  have hA : ∀ q : Nat, s.heap.size ≤ q → A q := fun q h => by rw [← hAe]; exact Or.inr h
  have hS : va_S A s.heap s.heap [] := va_S.rf
  have lp : ∀ (k : Nat) (i : Nat), i ≤ pa.2.2.2.2.2.2 → pa.2.2.2.2.2.2 < i + k → ∀ (H : Heap) (locs : List Loc), va_P D vwCl (Wd ad cJ cI cZ bm pa (q_copyU p1 p0 i) p1 p2 li wi) H → va_D A (Wd ad cJ cI cZ bm pa (q_copyU p1 p0 i) p1 p2 li wi) → va_S A s.heap H locs → ∀ (ls : Array Slot), lv_has ls 3 [(0, .ref (ad 8)), (1, .ref (ad 13)), (2, .int (nI i))] → W p l e (headSpec wsX2_copyFrom ({ frames := 0, cells := 0, slots := 0, locals := 0 })).room s m args below meth c H locs 0 0 (MQ below (bm_Wq D vwCl [(cJ, .long), (cI, .int), (cZ, .boolean)] (Wd ad cJ cI cZ bm pa (q_copyU p1 p0 pa.2.2.2.2.2.2) p1 p2 li wi) (none) A) args s 0 0 A) (F0 m 2 ls []) := by
    intro k
    induction k with
    | zero => intro i hi hk; exfalso; omega
    | succ k ih =>
      intro i hi hk H locs hP hD hS ls hl
      refine lv_iload_n hx hb dX2_copyFrom_2 rfl (lv_at hl 2 rfl) ?_
      refine lv_aload_n hx hb dX2_copyFrom_3 rfl (lv_at hl 0 rfl) ?_
      refine va_get (D := D) (ci := 2) (v := .ref (ad 1)) (C := RX2) (T := TX2) (N := 5) hx hb hts (inT inX2) hown hK hP 8 rfl rfl 0 (by decide) (hts (.fieldLink RX2 26 "BoardMoves$Placement" "parts" "LBoardMoves$Parts;") (by decide +kernel)) (fun _ h9 => h9) rfl dX2_copyFrom_4 ?_
      refine va_get (D := D) (ci := 1) (v := .int (nI pa.2.2.2.2.2.2)) (C := RX1) (T := TX1) (N := 7) hx hb hts (inT inX1) hown hK hP 1 rfl rfl 6 (by decide) (hts (.fieldLink RX2 30 "BoardMoves$Parts" "count" "I") (by decide +kernel)) (fun _ h9 => h9) rfl dX2_copyFrom_7 ?_
      refine bm_ni_ge (x := i) (y := pa.2.2.2.2.2.2) (tgt := 67) hx hb (by omega) (by omega) dX2_copyFrom_10 (by decide) (fun c_1 => ?_) (fun c_1 => ?_)
      · exact bm_vretW hx hb hr hP hD hK hS (by rw [show i = pa.2.2.2.2.2.2 from by omega]) dX2_copyFrom_67 hlocks
      · refine lv_aload_n hx hb dX2_copyFrom_13 rfl (lv_at hl 0 rfl) ?_
        refine va_get (D := D) (ci := 2) (v := .ref (ad 9)) (C := RX2) (T := TX2) (N := 5) hx hb hts (inT inX2) hown hK hP 8 rfl rfl 1 (by decide) (hts (.fieldLink RX2 9 "BoardMoves$Placement" "x" "[J") (by decide +kernel)) (fun _ h9 => h9) rfl dX2_copyFrom_14 ?_
        refine lv_iload_n hx hb dX2_copyFrom_17 rfl (lv_at hl 2 rfl) ?_
        refine lv_aload_n hx hb dX2_copyFrom_18 rfl (lv_at hl 1 rfl) ?_
        refine va_get (D := D) (ci := 2) (v := .ref (ad 14)) (C := RX2) (T := TX2) (N := 5) hx hb hts (inT inX2) hown hK hP 13 rfl rfl 1 (by decide) (hts (.fieldLink RX2 9 "BoardMoves$Placement" "x" "[J") (by decide +kernel)) (fun _ h9 => h9) rfl dX2_copyFrom_19 ?_
        refine lv_iload_n hx hb dX2_copyFrom_22 rfl (lv_at hl 2 rfl) ?_
        refine bm_lald (f := p1.1) hx hb hK hP 14 0 rfl rfl (j := i) (by omega) (by decide) dX2_copyFrom_23 ?_
        refine bm_last (f := ((q_copyU p1 p0 i).1)) hx hb hK hP hD hS 9 0 rfl rfl (j := i) (x := (p1.1 i)) (by omega) (by decide) dX2_copyFrom_24 (fun H locs hP hD hS => ?_)
        have hP : va_P D vwCl (Wd ad cJ cI cZ bm pa (va_up ((q_copyU p1 p0 i).1) i (p1.1 i), (q_copyU p1 p0 i).2.1, (q_copyU p1 p0 i).2.2.1, (q_copyU p1 p0 i).2.2.2) p1 p2 li wi) H := hP
        have hD : va_D A (Wd ad cJ cI cZ bm pa (va_up ((q_copyU p1 p0 i).1) i (p1.1 i), (q_copyU p1 p0 i).2.1, (q_copyU p1 p0 i).2.2.1, (q_copyU p1 p0 i).2.2.2) p1 p2 li wi) := hD
        refine lv_aload_n hx hb dX2_copyFrom_25 rfl (lv_at hl 0 rfl) ?_
        refine va_get (D := D) (ci := 2) (v := .ref (ad 10)) (C := RX2) (T := TX2) (N := 5) hx hb hts (inT inX2) hown hK hP 8 rfl rfl 2 (by decide) (hts (.fieldLink RX2 15 "BoardMoves$Placement" "y" "[J") (by decide +kernel)) (fun _ h9 => h9) rfl dX2_copyFrom_26 ?_
        refine lv_iload_n hx hb dX2_copyFrom_29 rfl (lv_at hl 2 rfl) ?_
        refine lv_aload_n hx hb dX2_copyFrom_30 rfl (lv_at hl 1 rfl) ?_
        refine va_get (D := D) (ci := 2) (v := .ref (ad 15)) (C := RX2) (T := TX2) (N := 5) hx hb hts (inT inX2) hown hK hP 13 rfl rfl 2 (by decide) (hts (.fieldLink RX2 15 "BoardMoves$Placement" "y" "[J") (by decide +kernel)) (fun _ h9 => h9) rfl dX2_copyFrom_31 ?_
        refine lv_iload_n hx hb dX2_copyFrom_34 rfl (lv_at hl 2 rfl) ?_
        refine bm_lald (f := p1.2.1) hx hb hK hP 15 0 rfl rfl (j := i) (by omega) (by decide) dX2_copyFrom_35 ?_
        refine bm_last (f := ((q_copyU p1 p0 i).2.1)) hx hb hK hP hD hS 10 0 rfl rfl (j := i) (x := (p1.2.1 i)) (by omega) (by decide) dX2_copyFrom_36 (fun H locs hP hD hS => ?_)
        have hP : va_P D vwCl (Wd ad cJ cI cZ bm pa (va_up ((q_copyU p1 p0 i).1) i (p1.1 i), va_up ((q_copyU p1 p0 i).2.1) i (p1.2.1 i), (q_copyU p1 p0 i).2.2.1, (q_copyU p1 p0 i).2.2.2) p1 p2 li wi) H := hP
        have hD : va_D A (Wd ad cJ cI cZ bm pa (va_up ((q_copyU p1 p0 i).1) i (p1.1 i), va_up ((q_copyU p1 p0 i).2.1) i (p1.2.1 i), (q_copyU p1 p0 i).2.2.1, (q_copyU p1 p0 i).2.2.2) p1 p2 li wi) := hD
        refine lv_aload_n hx hb dX2_copyFrom_37 rfl (lv_at hl 0 rfl) ?_
        refine va_get (D := D) (ci := 2) (v := .ref (ad 11)) (C := RX2) (T := TX2) (N := 5) hx hb hts (inT inX2) hown hK hP 8 rfl rfl 3 (by decide) (hts (.fieldLink RX2 18 "BoardMoves$Placement" "turn" "[I") (by decide +kernel)) (fun _ h9 => h9) rfl dX2_copyFrom_38 ?_
        refine lv_iload_n hx hb dX2_copyFrom_41 rfl (lv_at hl 2 rfl) ?_
        refine lv_aload_n hx hb dX2_copyFrom_42 rfl (lv_at hl 1 rfl) ?_
        refine va_get (D := D) (ci := 2) (v := .ref (ad 16)) (C := RX2) (T := TX2) (N := 5) hx hb hts (inT inX2) hown hK hP 13 rfl rfl 3 (by decide) (hts (.fieldLink RX2 18 "BoardMoves$Placement" "turn" "[I") (by decide +kernel)) (fun _ h9 => h9) rfl dX2_copyFrom_43 ?_
        refine lv_iload_n hx hb dX2_copyFrom_46 rfl (lv_at hl 2 rfl) ?_
        refine bm_nald (f := p1.2.2.1) hx hb hK hP 16 1 rfl rfl (j := i) (by omega) (by decide) dX2_copyFrom_47 ?_
        refine bm_nast (f := ((q_copyU p1 p0 i).2.2.1)) hx hb hK hP hD hS 11 1 rfl rfl (j := i) (x := (p1.2.2.1 i)) (by omega) (by decide) dX2_copyFrom_48 (fun H locs hP hD hS => ?_)
        have hP : va_P D vwCl (Wd ad cJ cI cZ bm pa (va_up ((q_copyU p1 p0 i).1) i (p1.1 i), va_up ((q_copyU p1 p0 i).2.1) i (p1.2.1 i), va_up ((q_copyU p1 p0 i).2.2.1) i (p1.2.2.1 i), (q_copyU p1 p0 i).2.2.2) p1 p2 li wi) H := hP
        have hD : va_D A (Wd ad cJ cI cZ bm pa (va_up ((q_copyU p1 p0 i).1) i (p1.1 i), va_up ((q_copyU p1 p0 i).2.1) i (p1.2.1 i), va_up ((q_copyU p1 p0 i).2.2.1) i (p1.2.2.1 i), (q_copyU p1 p0 i).2.2.2) p1 p2 li wi) := hD
        refine lv_aload_n hx hb dX2_copyFrom_49 rfl (lv_at hl 0 rfl) ?_
        refine va_get (D := D) (ci := 2) (v := .ref (ad 12)) (C := RX2) (T := TX2) (N := 5) hx hb hts (inT inX2) hown hK hP 8 rfl rfl 4 (by decide) (hts (.fieldLink RX2 22 "BoardMoves$Placement" "placed" "[Z") (by decide +kernel)) (fun _ h9 => h9) rfl dX2_copyFrom_50 ?_
        refine lv_iload_n hx hb dX2_copyFrom_53 rfl (lv_at hl 2 rfl) ?_
        refine lv_aload_n hx hb dX2_copyFrom_54 rfl (lv_at hl 1 rfl) ?_
        refine va_get (D := D) (ci := 2) (v := .ref (ad 17)) (C := RX2) (T := TX2) (N := 5) hx hb hts (inT inX2) hown hK hP 13 rfl rfl 4 (by decide) (hts (.fieldLink RX2 22 "BoardMoves$Placement" "placed" "[Z") (by decide +kernel)) (fun _ h9 => h9) rfl dX2_copyFrom_55 ?_
        refine lv_iload_n hx hb dX2_copyFrom_58 rfl (lv_at hl 2 rfl) ?_
        refine bm_zald (f := p1.2.2.2) hx hb hK hP 17 2 rfl rfl (j := i) (by omega) (by decide) dX2_copyFrom_59 ?_
        refine bm_zast (f := ((q_copyU p1 p0 i).2.2.2)) hx hb hK hP hD hS 12 2 rfl rfl (j := i) (x := (p1.2.2.2 i)) (by omega) (by decide) dX2_copyFrom_60 (fun H locs hP hD hS => ?_)
        have hP : va_P D vwCl (Wd ad cJ cI cZ bm pa (va_up ((q_copyU p1 p0 i).1) i (p1.1 i), va_up ((q_copyU p1 p0 i).2.1) i (p1.2.1 i), va_up ((q_copyU p1 p0 i).2.2.1) i (p1.2.2.1 i), va_up ((q_copyU p1 p0 i).2.2.2) i (p1.2.2.2 i)) p1 p2 li wi) H := hP
        have hD : va_D A (Wd ad cJ cI cZ bm pa (va_up ((q_copyU p1 p0 i).1) i (p1.1 i), va_up ((q_copyU p1 p0 i).2.1) i (p1.2.1 i), va_up ((q_copyU p1 p0 i).2.2.1) i (p1.2.2.1 i), va_up ((q_copyU p1 p0 i).2.2.2) i (p1.2.2.2 i)) p1 p2 li wi) := hD
        refine lv_iinc (v := (nI (i + 1))) (lv' := [(2, .int (nI (i + 1))), (0, .ref (ad 8)), (1, .ref (ad 13))]) hx hb dX2_copyFrom_61 hl (k := 2) rfl (nI_1 i) (by decide) rfl (fun ls hl => ?_)
        refine lv_goto (tgt := 2) hx hb dX2_copyFrom_64 (by decide) ?_
        have e0 : (va_up ((q_copyU p1 p0 i).1) i (p1.1 i), va_up ((q_copyU p1 p0 i).2.1) i (p1.2.1 i), va_up ((q_copyU p1 p0 i).2.2.1) i (p1.2.2.1 i), va_up ((q_copyU p1 p0 i).2.2.2) i (p1.2.2.2 i)) = q_copyU p1 p0 (i + 1) := q_copy_s p1 p0 i
        rw [e0] at hP hD
        exact ih (i + 1) (by omega) (by omega) _ _ hP hD hS _ (lv_sub hl [1, 2, 0] rfl)
  have hl := lv_entry ([.ref (ad 8), .ref (ad 13)]) (n := 3) (Nat.le_of_ble_eq_true rfl)
  refine W.eq (g2 := entryFrame m ([.ref (ad 8), .ref (ad 13)] : List Value).toArray 3) (by rw [ha]) ?_
  rw [lg_entry_eq]
  generalize (lg_sl ([.ref (ad 8), .ref (ad 13)]) ++ List.replicate (3 - (lg_sl ([.ref (ad 8), .ref (ad 13)])).length) Slot.unset).toArray = ls at hl ⊢
  have hl : lv_has ls 3 [(0, .ref (ad 8)), (1, .ref (ad 13))] := hl
  refine lv_iconst (v := nI 0) hx hb dX2_copyFrom_0 (by decide) ?_
  refine lv_istore_n (lv' := [(2, .int (nI 0)), (0, .ref (ad 8)), (1, .ref (ad 13))]) hx hb dX2_copyFrom_1 rfl hl (by decide) rfl (fun ls hl => ?_)
  have e0 := q_copy_0 p1 p0
  have hP : va_P D vwCl (Wd ad cJ cI cZ bm pa (q_copyU p1 p0 0) p1 p2 li wi) s.heap := by rw [← e0]; exact hP
  have hD : va_D A (Wd ad cJ cI cZ bm pa (q_copyU p1 p0 0) p1 p2 li wi) := by rw [← e0]; exact hD
  exact lp (pa.2.2.2.2.2.2 + 1) 0 (by omega) (by omega) _ _ hP hD hS _ (lv_sub hl [1, 2, 0] rfl)
