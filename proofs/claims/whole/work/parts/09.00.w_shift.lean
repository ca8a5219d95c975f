set_option maxHeartbeats 4000000 in
set_option maxRecDepth 100000 in
theorem w_shift {l : Launch} {D : va_G} {ad : Nat → Nat} {cJ cI cZ : ClassId} {bm : gBM} {pa : gPA} {p0 p1 p2 : gPL} {li : gLI} {wi : gWI} (hoA : q_okA pa) {j : Nat} (h1 : j < 40) {dx dy : Int64} : bm_Wr l yX2_shiftGroup wsX2_shiftGroup ({ frames := 1, cells := 0, slots := 0, locals := 22 }) D vwCl [(cJ, .long), (cI, .int), (cZ, .boolean)] (Wd ad cJ cI cZ bm pa p0 p1 p2 li wi) [.ref (ad 8), .int (nI j), .long dx, .long dy] (Wd ad cJ cI cZ bm pa (q_shift pa p0 j dx dy) p1 p2 li wi) (none) := by
  obtain ⟨hn, hsd, hlw⟩ := hoA
  intro sz
  refine Met.ofW (cc := cX2_shiftGroup) (maxL := 7) (ret := none) (by decide) rfl ?_
  intro p e s m args below meth c s₁ B hml hv
  obtain ⟨ha, hsz, hP, hK, hD0⟩ := hv
  have hx := B.exec
  have hb := B.bytes
  have hr := B.returns
  have hts := atoms_spec (ws := wsX2_shiftGroup) B.pre
  have hown : s.vm.findClass RX2 = some m.cls := findClass_of_methodNamed B.named
  have hlocks := B.notSynchronized
  subst hsz
  have hD := hD0.self (sz := s.heap.size)
  generalize hAe : va_A (Wd ad cJ cI cZ bm pa p0 p1 p2 li wi) s.heap.size = A at hD ⊢
  have hA : ∀ q : Nat, s.heap.size ≤ q → A q := fun q h => by rw [← hAe]; exact Or.inr h
  have hS : va_S A s.heap s.heap [] := va_S.rf
  have lp : ∀ (k : Nat) (i : Nat), i ≤ pa.2.2.2.2.2.2 → pa.2.2.2.2.2.2 < i + k → ∀ (H : Heap) (locs : List Loc), va_P D vwCl (Wd ad cJ cI cZ bm pa (q_shiftU pa p0 j dx dy i) p1 p2 li wi) H → va_D A (Wd ad cJ cI cZ bm pa (q_shiftU pa p0 j dx dy i) p1 p2 li wi) → va_S A s.heap H locs → ∀ (ls : Array Slot), lv_has ls 7 [(0, .ref (ad 8)), (1, .int (nI j)), (2, .long dx), (4, .long dy), (6, .int (nI i))] → W p l e (headSpec wsX2_shiftGroup ({ frames := 1, cells := 0, slots := 0, locals := 22 })).room s m args below meth c H locs 0 0 (MQ below (bm_Wq D vwCl [(cJ, .long), (cI, .int), (cZ, .boolean)] (Wd ad cJ cI cZ bm pa (q_shift pa p0 j dx dy) p1 p2 li wi) (none) A) args s 0 0 A) (F0 m 3 ls []) := by
    intro k
    induction k with
    | zero => intro i hi hk; exfalso; omega
    | succ k ih =>
      intro i hi hk H locs hP hD hS ls hl
      refine lv_iload hx hb dX2_shiftGroup_3 (lv_at hl 4 rfl) ?_
      refine lv_aload_n hx hb dX2_shiftGroup_5 rfl (lv_at hl 0 rfl) ?_
      refine va_get (D := D) (ci := 2) (v := .ref (ad 1)) (C := RX2) (T := TX2) (N := 5) hx hb hts (inT inX2) hown hK hP 8 rfl rfl 0 (by decide) (hts (.fieldLink RX2 26 "BoardMoves$Placement" "parts" "LBoardMoves$Parts;") (by decide +kernel)) (fun _ h9 => h9) rfl dX2_shiftGroup_6 ?_
      refine va_get (D := D) (ci := 1) (v := .int (nI pa.2.2.2.2.2.2)) (C := RX1) (T := TX1) (N := 7) hx hb hts (inT inX1) hown hK hP 1 rfl rfl 6 (by decide) (hts (.fieldLink RX2 30 "BoardMoves$Parts" "count" "I") (by decide +kernel)) (fun _ h9 => h9) rfl dX2_shiftGroup_9 ?_
      refine bm_ni_ge (x := i) (y := pa.2.2.2.2.2.2) (tgt := 67) hx hb (by omega) (by omega) dX2_shiftGroup_12 (by decide) (fun c_1 => ?_) (fun c_1 => ?_)
      · exact bm_vretW hx hb hr hP hD hK hS (by rw [show i = pa.2.2.2.2.2.2 from by omega]) dX2_shiftGroup_67 hlocks
      · refine lv_aload_n hx hb dX2_shiftGroup_15 rfl (lv_at hl 0 rfl) ?_
        refine va_get (D := D) (ci := 2) (v := .ref (ad 12)) (C := RX2) (T := TX2) (N := 5) hx hb hts (inT inX2) hown hK hP 8 rfl rfl 4 (by decide) (hts (.fieldLink RX2 22 "BoardMoves$Placement" "placed" "[Z") (by decide +kernel)) (fun _ h9 => h9) rfl dX2_shiftGroup_16 ?_
        refine lv_iload hx hb dX2_shiftGroup_19 (lv_at hl 4 rfl) ?_
        refine bm_zald (f := ((q_shiftU pa p0 j dx dy i).2.2.2)) hx hb hK hP 12 2 rfl rfl (j := i) (by omega) (by decide) dX2_shiftGroup_21 ?_
        refine bm_zb_eq (x := (((q_shiftU pa p0 j dx dy i).2.2.2) i)) (tgt := 61) hx hb dX2_shiftGroup_22 (by decide) (fun c_2 => ?_) (fun c_2 => ?_)
        · refine lv_iinc (v := (nI (i + 1))) (lv' := [(6, .int (nI (i + 1))), (0, .ref (ad 8)), (1, .int (nI j)), (2, .long dx), (4, .long dy)]) hx hb dX2_shiftGroup_61 hl (k := 4) rfl (nI_1 i) (by decide) rfl (fun ls hl => ?_)
          refine lv_goto (tgt := 3) hx hb dX2_shiftGroup_64 (by decide) ?_
          have e0 : (q_shiftU pa p0 j dx dy i) = q_shiftU pa p0 j dx dy (i + 1) := q_shift_miss (fun q => by have h9 : p0.2.2.2 i = false := c_2; rw [h9] at q; exact absurd q.1 (by decide))
          rw [e0] at hP hD
          exact ih (i + 1) (by omega) (by omega) _ _ hP hD hS _ (lv_sub hl [1, 2, 3, 4, 0] rfl)
        · refine lv_aload_n hx hb dX2_shiftGroup_25 rfl (lv_at hl 0 rfl) ?_
          refine va_get (D := D) (ci := 2) (v := .ref (ad 1)) (C := RX2) (T := TX2) (N := 5) hx hb hts (inT inX2) hown hK hP 8 rfl rfl 0 (by decide) (hts (.fieldLink RX2 26 "BoardMoves$Placement" "parts" "LBoardMoves$Parts;") (by decide +kernel)) (fun _ h9 => h9) rfl dX2_shiftGroup_26 ?_
          refine lv_iload hx hb dX2_shiftGroup_29 (lv_at hl 4 rfl) ?_
          refine lv_iload_n hx hb dX2_shiftGroup_31 rfl (lv_at hl 1 rfl) ?_
          refine bm_rcallV (As := [.int (nI i), .int (nI j)]) (rest := []) ⟨hx, hb, hml, hown, hts⟩ (r_mates (a := i) (b := j) ⟨hn, hsd, hlw⟩ (by omega) (by omega)) (cwV 2 hts (gdV (by decide +kernel) (by decide +kernel) (by decide +kernel) (by decide +kernel) (by decide +kernel)) rfl rfl rfl (by decide +kernel) ⟨Nat.le_of_ble_eq_true rfl, Nat.le_of_ble_eq_true rfl⟩) hK hP 1 1 rfl rfl rfl hl.1 rfl (Nat.le_of_ble_eq_true rfl) dX2_shiftGroup_32 ⟨Nat.le_of_ble_eq_true rfl, Nat.le_of_ble_eq_true rfl⟩ ?_
          refine bm_zb_eq (x := (q_mates pa i j)) (tgt := 61) hx hb dX2_shiftGroup_35 (by decide) (fun c_3 => ?_) (fun c_3 => ?_)
          · refine lv_iinc (v := (nI (i + 1))) (lv' := [(6, .int (nI (i + 1))), (0, .ref (ad 8)), (1, .int (nI j)), (2, .long dx), (4, .long dy)]) hx hb dX2_shiftGroup_61 hl (k := 4) rfl (nI_1 i) (by decide) rfl (fun ls hl => ?_)
            refine lv_goto (tgt := 3) hx hb dX2_shiftGroup_64 (by decide) ?_
            have e0 : (q_shiftU pa p0 j dx dy i) = q_shiftU pa p0 j dx dy (i + 1) := q_shift_miss (fun q => by rw [c_3] at q; exact absurd q.2 (by decide))
            rw [e0] at hP hD
            exact ih (i + 1) (by omega) (by omega) _ _ hP hD hS _ (lv_sub hl [1, 2, 3, 4, 0] rfl)
          · refine lv_aload_n hx hb dX2_shiftGroup_38 rfl (lv_at hl 0 rfl) ?_
            refine va_get (D := D) (ci := 2) (v := .ref (ad 9)) (C := RX2) (T := TX2) (N := 5) hx hb hts (inT inX2) hown hK hP 8 rfl rfl 1 (by decide) (hts (.fieldLink RX2 9 "BoardMoves$Placement" "x" "[J") (by decide +kernel)) (fun _ h9 => h9) rfl dX2_shiftGroup_39 ?_
            refine lv_iload hx hb dX2_shiftGroup_42 (lv_at hl 4 rfl) ?_
            refine lv_dup2_11 hx hb dX2_shiftGroup_44 rfl rfl ?_
            refine bm_lald (f := ((q_shiftU pa p0 j dx dy i).1)) hx hb hK hP 9 0 rfl rfl (j := i) (by omega) (by decide) dX2_shiftGroup_45 ?_
            refine lv_lload_n hx hb dX2_shiftGroup_46 rfl (lv_at hl 2 rfl) ?_
            refine lv_ladd hx hb dX2_shiftGroup_47 ?_
            refine bm_last (f := ((q_shiftU pa p0 j dx dy i).1)) hx hb hK hP hD hS 9 0 rfl rfl (j := i) (x := ((((q_shiftU pa p0 j dx dy i).1) i) + dx)) (by omega) (by decide) dX2_shiftGroup_48 (fun H locs hP hD hS => ?_)
            have hP : va_P D vwCl (Wd ad cJ cI cZ bm pa (va_up ((q_shiftU pa p0 j dx dy i).1) i ((((q_shiftU pa p0 j dx dy i).1) i) + dx), (q_shiftU pa p0 j dx dy i).2.1, (q_shiftU pa p0 j dx dy i).2.2.1, (q_shiftU pa p0 j dx dy i).2.2.2) p1 p2 li wi) H := hP
            have hD : va_D A (Wd ad cJ cI cZ bm pa (va_up ((q_shiftU pa p0 j dx dy i).1) i ((((q_shiftU pa p0 j dx dy i).1) i) + dx), (q_shiftU pa p0 j dx dy i).2.1, (q_shiftU pa p0 j dx dy i).2.2.1, (q_shiftU pa p0 j dx dy i).2.2.2) p1 p2 li wi) := hD
            refine lv_aload_n hx hb dX2_shiftGroup_49 rfl (lv_at hl 0 rfl) ?_
            refine va_get (D := D) (ci := 2) (v := .ref (ad 10)) (C := RX2) (T := TX2) (N := 5) hx hb hts (inT inX2) hown hK hP 8 rfl rfl 2 (by decide) (hts (.fieldLink RX2 15 "BoardMoves$Placement" "y" "[J") (by decide +kernel)) (fun _ h9 => h9) rfl dX2_shiftGroup_50 ?_
            refine lv_iload hx hb dX2_shiftGroup_53 (lv_at hl 4 rfl) ?_
            refine lv_dup2_11 hx hb dX2_shiftGroup_55 rfl rfl ?_
            refine bm_lald (f := ((q_shiftU pa p0 j dx dy i).2.1)) hx hb hK hP 10 0 rfl rfl (j := i) (by omega) (by decide) dX2_shiftGroup_56 ?_
            refine lv_lload hx hb dX2_shiftGroup_57 (lv_at hl 3 rfl) ?_
            refine lv_ladd hx hb dX2_shiftGroup_59 ?_
            refine bm_last (f := ((q_shiftU pa p0 j dx dy i).2.1)) hx hb hK hP hD hS 10 0 rfl rfl (j := i) (x := ((((q_shiftU pa p0 j dx dy i).2.1) i) + dy)) (by omega) (by decide) dX2_shiftGroup_60 (fun H locs hP hD hS => ?_)
            have hP : va_P D vwCl (Wd ad cJ cI cZ bm pa (va_up ((q_shiftU pa p0 j dx dy i).1) i ((((q_shiftU pa p0 j dx dy i).1) i) + dx), va_up ((q_shiftU pa p0 j dx dy i).2.1) i ((((q_shiftU pa p0 j dx dy i).2.1) i) + dy), (q_shiftU pa p0 j dx dy i).2.2.1, (q_shiftU pa p0 j dx dy i).2.2.2) p1 p2 li wi) H := hP
            have hD : va_D A (Wd ad cJ cI cZ bm pa (va_up ((q_shiftU pa p0 j dx dy i).1) i ((((q_shiftU pa p0 j dx dy i).1) i) + dx), va_up ((q_shiftU pa p0 j dx dy i).2.1) i ((((q_shiftU pa p0 j dx dy i).2.1) i) + dy), (q_shiftU pa p0 j dx dy i).2.2.1, (q_shiftU pa p0 j dx dy i).2.2.2) p1 p2 li wi) := hD
            refine lv_iinc (v := (nI (i + 1))) (lv' := [(6, .int (nI (i + 1))), (0, .ref (ad 8)), (1, .int (nI j)), (2, .long dx), (4, .long dy)]) hx hb dX2_shiftGroup_61 hl (k := 4) rfl (nI_1 i) (by decide) rfl (fun ls hl => ?_)
            refine lv_goto (tgt := 3) hx hb dX2_shiftGroup_64 (by decide) ?_
            have e0 : (va_up ((q_shiftU pa p0 j dx dy i).1) i ((((q_shiftU pa p0 j dx dy i).1) i) + dx), va_up ((q_shiftU pa p0 j dx dy i).2.1) i ((((q_shiftU pa p0 j dx dy i).2.1) i) + dy), (q_shiftU pa p0 j dx dy i).2.2.1, (q_shiftU pa p0 j dx dy i).2.2.2) = q_shiftU pa p0 j dx dy (i + 1) := q_shift_hit c_2 c_3
            rw [e0] at hP hD
            exact ih (i + 1) (by omega) (by omega) _ _ hP hD hS _ (lv_sub hl [1, 2, 3, 4, 0] rfl)
  have hl := lv_entry ([.ref (ad 8), .int (nI j), .long dx, .long dy]) (n := 7) (Nat.le_of_ble_eq_true rfl)
  refine W.eq (g2 := entryFrame m ([.ref (ad 8), .int (nI j), .long dx, .long dy] : List Value).toArray 7) (by rw [ha]) ?_
  rw [lg_entry_eq]
  generalize (lg_sl ([.ref (ad 8), .int (nI j), .long dx, .long dy]) ++ List.replicate (7 - (lg_sl ([.ref (ad 8), .int (nI j), .long dx, .long dy])).length) Slot.unset).toArray = ls at hl ⊢
  have hl : lv_has ls 7 [(0, .ref (ad 8)), (1, .int (nI j)), (2, .long dx), (4, .long dy)] := hl
  refine lv_iconst (v := nI 0) hx hb dX2_shiftGroup_0 (by decide) ?_
  refine lv_istore (lv' := [(6, .int (nI 0)), (0, .ref (ad 8)), (1, .int (nI j)), (2, .long dx), (4, .long dy)]) hx hb dX2_shiftGroup_1 hl (by decide) rfl (fun ls hl => ?_)
  have e0 := q_shift_0 pa p0 j dx dy
  have hP : va_P D vwCl (Wd ad cJ cI cZ bm pa (q_shiftU pa p0 j dx dy 0) p1 p2 li wi) s.heap := by rw [← e0]; exact hP
  have hD : va_D A (Wd ad cJ cI cZ bm pa (q_shiftU pa p0 j dx dy 0) p1 p2 li wi) := by rw [← e0]; exact hD
  exact lp (pa.2.2.2.2.2.2 + 1) 0 (by omega) (by omega) _ _ hP hD hS _ (lv_sub hl [1, 2, 3, 4, 0] rfl)
