set_option maxHeartbeats 4000000 in
set_option maxRecDepth 100000 in
theorem w_copyp1p0 {l : Launch} {D : va_G} {ad : Nat → Nat} {cJ cI cZ : ClassId} {bm : gBM} {pa : gPA} {p0 p1 p2 : gPL} {li : gLI} {wi : gWI} {mt : Nat} {ms : gMS} {ma : gMA} {mp : gMP} {mk : gMK} {mn : gMN} {ou : Nat → Int64} (hoA : q_okA pa) : bm_Wr l yX2_copyFrom wsX2_copyFrom ({ frames := 0, cells := 0, slots := 0, locals := 0 }) D vwCl [(cJ, .long), (cI, .int), (cZ, .boolean)] (WW ad cJ cI cZ bm pa p0 p1 p2 li wi mt ms ma mp mk mn ou) [.ref (ad 13), .ref (ad 8)] (WW ad cJ cI cZ bm pa p0 (q_copyU p0 p1 pa.2.2.2.2.2.2) p2 li wi mt ms ma mp mk mn ou) (none) := by
  obtain ⟨hn, hsd, hlw⟩ := hoA
  intro sz
  refine Met.ofW (cc := cX2_copyFrom) (maxL := 3) (ret := none) (by decide) rfl ?_
  intro p e s m args below meth c s₁ B hml hv
  obtain ⟨ha, hsz, hP, hK, hD0⟩ := hv
  have hx := B.exec
  have hb := B.bytes
  have hr := B.returns
  have hts := atoms_spec (ws := wsX2_copyFrom) B.pre
  have hown : s.vm.findClass RX2 = some m.cls := findClass_of_methodNamed B.named
  have hlocks := B.notSynchronized
  subst hsz
  have hD := hD0.self (sz := s.heap.size)
  generalize hAe : va_A (WW ad cJ cI cZ bm pa p0 p1 p2 li wi mt ms ma mp mk mn ou) s.heap.size = A at hD ⊢
  have hA : ∀ q : Nat, s.heap.size ≤ q → A q := fun q h => by rw [← hAe]; exact Or.inr h
  have hS : va_S A s.heap s.heap [] := va_S.rf
  have lp : ∀ (k : Nat) (i : Nat), i ≤ pa.2.2.2.2.2.2 → pa.2.2.2.2.2.2 < i + k → ∀ (H : Heap) (locs : List Loc), va_P D vwCl (WW ad cJ cI cZ bm pa p0 (q_copyU p0 p1 i) p2 li wi mt ms ma mp mk mn ou) H → va_D A (WW ad cJ cI cZ bm pa p0 (q_copyU p0 p1 i) p2 li wi mt ms ma mp mk mn ou) → va_S A s.heap H locs → ∀ (ls : Array Slot), lv_has ls 3 [(0, .ref (ad 13)), (1, .ref (ad 8)), (2, .int (nI i))] → W p l e (headSpec wsX2_copyFrom ({ frames := 0, cells := 0, slots := 0, locals := 0 })).room s m args below meth c H locs 0 0 (MQ below (bm_Wq D vwCl [(cJ, .long), (cI, .int), (cZ, .boolean)] (WW ad cJ cI cZ bm pa p0 (q_copyU p0 p1 pa.2.2.2.2.2.2) p2 li wi mt ms ma mp mk mn ou) (none) A) args s 0 0 A) (F0 m 2 ls []) := by
    intro k
    induction k with
    | zero => intro i hi hk; exfalso; omega
    | succ k ih =>
      intro i hi hk H locs hP hD hS ls hl
      refine lv_iload_n hx hb dX2_copyFrom_2 rfl (lv_at hl 2 rfl) ?_
      refine lv_aload_n hx hb dX2_copyFrom_3 rfl (lv_at hl 0 rfl) ?_
      refine va_get (D := D) (ci := 2) (v := .ref (ad 1)) (C := RX2) (T := TX2) (N := 5) hx hb hts (inT inX2) hown hK hP 13 ww_13 rfl 0 (by decide) (hts (.fieldLink RX2 26 "BoardMoves$Placement" "parts" "LBoardMoves$Parts;") (List.mem_cons_of_mem _ flX2_26)) (fun _ h9 => h9) rfl dX2_copyFrom_4 ?_
      refine va_get (D := D) (ci := 1) (v := .int (nI pa.2.2.2.2.2.2)) (C := RX1) (T := TX1) (N := 7) hx hb hts (inT inX1) hown hK hP 1 ww_1 rfl 6 (by decide) (hts (.fieldLink RX2 30 "BoardMoves$Parts" "count" "I") (List.mem_cons_of_mem _ flX2_30)) (fun _ h9 => h9) rfl dX2_copyFrom_7 ?_
      refine bm_ni_ge (x := i) (y := pa.2.2.2.2.2.2) (tgt := 67) hx hb (by omega) (by omega) dX2_copyFrom_10 (by decide) (fun c_1 => ?_) (fun c_1 => ?_)
      · exact bm_vretW hx hb hr hP hD hK hS (by rw [show i = pa.2.2.2.2.2.2 from by omega]) dX2_copyFrom_67 hlocks
      · refine lv_aload_n hx hb dX2_copyFrom_13 rfl (lv_at hl 0 rfl) ?_
        refine va_get (D := D) (ci := 2) (v := .ref (ad 14)) (C := RX2) (T := TX2) (N := 5) hx hb hts (inT inX2) hown hK hP 13 ww_13 rfl 1 (by decide) (hts (.fieldLink RX2 9 "BoardMoves$Placement" "x" "[J") (List.mem_cons_of_mem _ flX2_9)) (fun _ h9 => h9) rfl dX2_copyFrom_14 ?_
        refine lv_iload_n hx hb dX2_copyFrom_17 rfl (lv_at hl 2 rfl) ?_
        refine lv_aload_n hx hb dX2_copyFrom_18 rfl (lv_at hl 1 rfl) ?_
        refine va_get (D := D) (ci := 2) (v := .ref (ad 9)) (C := RX2) (T := TX2) (N := 5) hx hb hts (inT inX2) hown hK hP 8 ww_8 rfl 1 (by decide) (hts (.fieldLink RX2 9 "BoardMoves$Placement" "x" "[J") (List.mem_cons_of_mem _ flX2_9)) (fun _ h9 => h9) rfl dX2_copyFrom_19 ?_
        refine lv_iload_n hx hb dX2_copyFrom_22 rfl (lv_at hl 2 rfl) ?_
        refine bm_lald (f := p0.1) hx hb hK hP 9 0 ww_9 rfl (j := i) (by omega) (by decide) dX2_copyFrom_23 ?_
        refine bm_last (f := ((q_copyU p0 p1 i).1)) hx hb hK hP hD hS 14 0 ww_14 rfl (j := i) (x := (p0.1 i)) (by omega) (by decide) dX2_copyFrom_24 (fun H locs hP hD hS => ?_)
        have hP : va_P D vwCl (WW ad cJ cI cZ bm pa p0 (va_up ((q_copyU p0 p1 i).1) i (p0.1 i), (q_copyU p0 p1 i).2.1, (q_copyU p0 p1 i).2.2.1, (q_copyU p0 p1 i).2.2.2) p2 li wi mt ms ma mp mk mn ou) H := hP
        have hD : va_D A (WW ad cJ cI cZ bm pa p0 (va_up ((q_copyU p0 p1 i).1) i (p0.1 i), (q_copyU p0 p1 i).2.1, (q_copyU p0 p1 i).2.2.1, (q_copyU p0 p1 i).2.2.2) p2 li wi mt ms ma mp mk mn ou) := hD
        refine lv_aload_n hx hb dX2_copyFrom_25 rfl (lv_at hl 0 rfl) ?_
        refine va_get (D := D) (ci := 2) (v := .ref (ad 15)) (C := RX2) (T := TX2) (N := 5) hx hb hts (inT inX2) hown hK hP 13 ww_13 rfl 2 (by decide) (hts (.fieldLink RX2 15 "BoardMoves$Placement" "y" "[J") (List.mem_cons_of_mem _ flX2_15)) (fun _ h9 => h9) rfl dX2_copyFrom_26 ?_
        refine lv_iload_n hx hb dX2_copyFrom_29 rfl (lv_at hl 2 rfl) ?_
        refine lv_aload_n hx hb dX2_copyFrom_30 rfl (lv_at hl 1 rfl) ?_
        refine va_get (D := D) (ci := 2) (v := .ref (ad 10)) (C := RX2) (T := TX2) (N := 5) hx hb hts (inT inX2) hown hK hP 8 ww_8 rfl 2 (by decide) (hts (.fieldLink RX2 15 "BoardMoves$Placement" "y" "[J") (List.mem_cons_of_mem _ flX2_15)) (fun _ h9 => h9) rfl dX2_copyFrom_31 ?_
        refine lv_iload_n hx hb dX2_copyFrom_34 rfl (lv_at hl 2 rfl) ?_
        refine bm_lald (f := p0.2.1) hx hb hK hP 10 0 ww_10 rfl (j := i) (by omega) (by decide) dX2_copyFrom_35 ?_
        refine bm_last (f := ((q_copyU p0 p1 i).2.1)) hx hb hK hP hD hS 15 0 ww_15 rfl (j := i) (x := (p0.2.1 i)) (by omega) (by decide) dX2_copyFrom_36 (fun H locs hP hD hS => ?_)
        have hP : va_P D vwCl (WW ad cJ cI cZ bm pa p0 (va_up ((q_copyU p0 p1 i).1) i (p0.1 i), va_up ((q_copyU p0 p1 i).2.1) i (p0.2.1 i), (q_copyU p0 p1 i).2.2.1, (q_copyU p0 p1 i).2.2.2) p2 li wi mt ms ma mp mk mn ou) H := hP
        have hD : va_D A (WW ad cJ cI cZ bm pa p0 (va_up ((q_copyU p0 p1 i).1) i (p0.1 i), va_up ((q_copyU p0 p1 i).2.1) i (p0.2.1 i), (q_copyU p0 p1 i).2.2.1, (q_copyU p0 p1 i).2.2.2) p2 li wi mt ms ma mp mk mn ou) := hD
        refine lv_aload_n hx hb dX2_copyFrom_37 rfl (lv_at hl 0 rfl) ?_
        refine va_get (D := D) (ci := 2) (v := .ref (ad 16)) (C := RX2) (T := TX2) (N := 5) hx hb hts (inT inX2) hown hK hP 13 ww_13 rfl 3 (by decide) (hts (.fieldLink RX2 18 "BoardMoves$Placement" "turn" "[I") (List.mem_cons_of_mem _ flX2_18)) (fun _ h9 => h9) rfl dX2_copyFrom_38 ?_
        refine lv_iload_n hx hb dX2_copyFrom_41 rfl (lv_at hl 2 rfl) ?_
        refine lv_aload_n hx hb dX2_copyFrom_42 rfl (lv_at hl 1 rfl) ?_
        refine va_get (D := D) (ci := 2) (v := .ref (ad 11)) (C := RX2) (T := TX2) (N := 5) hx hb hts (inT inX2) hown hK hP 8 ww_8 rfl 3 (by decide) (hts (.fieldLink RX2 18 "BoardMoves$Placement" "turn" "[I") (List.mem_cons_of_mem _ flX2_18)) (fun _ h9 => h9) rfl dX2_copyFrom_43 ?_
        refine lv_iload_n hx hb dX2_copyFrom_46 rfl (lv_at hl 2 rfl) ?_
        refine bm_nald (f := p0.2.2.1) hx hb hK hP 11 1 ww_11 rfl (j := i) (by omega) (by decide) dX2_copyFrom_47 ?_
        refine bm_nast (f := ((q_copyU p0 p1 i).2.2.1)) hx hb hK hP hD hS 16 1 ww_16 rfl (j := i) (x := (p0.2.2.1 i)) (by omega) (by decide) dX2_copyFrom_48 (fun H locs hP hD hS => ?_)
        have hP : va_P D vwCl (WW ad cJ cI cZ bm pa p0 (va_up ((q_copyU p0 p1 i).1) i (p0.1 i), va_up ((q_copyU p0 p1 i).2.1) i (p0.2.1 i), va_up ((q_copyU p0 p1 i).2.2.1) i (p0.2.2.1 i), (q_copyU p0 p1 i).2.2.2) p2 li wi mt ms ma mp mk mn ou) H := hP
        have hD : va_D A (WW ad cJ cI cZ bm pa p0 (va_up ((q_copyU p0 p1 i).1) i (p0.1 i), va_up ((q_copyU p0 p1 i).2.1) i (p0.2.1 i), va_up ((q_copyU p0 p1 i).2.2.1) i (p0.2.2.1 i), (q_copyU p0 p1 i).2.2.2) p2 li wi mt ms ma mp mk mn ou) := hD
        refine lv_aload_n hx hb dX2_copyFrom_49 rfl (lv_at hl 0 rfl) ?_
        refine va_get (D := D) (ci := 2) (v := .ref (ad 17)) (C := RX2) (T := TX2) (N := 5) hx hb hts (inT inX2) hown hK hP 13 ww_13 rfl 4 (by decide) (hts (.fieldLink RX2 22 "BoardMoves$Placement" "placed" "[Z") (List.mem_cons_of_mem _ flX2_22)) (fun _ h9 => h9) rfl dX2_copyFrom_50 ?_
        refine lv_iload_n hx hb dX2_copyFrom_53 rfl (lv_at hl 2 rfl) ?_
        refine lv_aload_n hx hb dX2_copyFrom_54 rfl (lv_at hl 1 rfl) ?_
        refine va_get (D := D) (ci := 2) (v := .ref (ad 12)) (C := RX2) (T := TX2) (N := 5) hx hb hts (inT inX2) hown hK hP 8 ww_8 rfl 4 (by decide) (hts (.fieldLink RX2 22 "BoardMoves$Placement" "placed" "[Z") (List.mem_cons_of_mem _ flX2_22)) (fun _ h9 => h9) rfl dX2_copyFrom_55 ?_
        refine lv_iload_n hx hb dX2_copyFrom_58 rfl (lv_at hl 2 rfl) ?_
        refine bm_zald (f := p0.2.2.2) hx hb hK hP 12 2 ww_12 rfl (j := i) (by omega) (by decide) dX2_copyFrom_59 ?_
        refine bm_zast (f := ((q_copyU p0 p1 i).2.2.2)) hx hb hK hP hD hS 17 2 ww_17 rfl (j := i) (x := (p0.2.2.2 i)) (by omega) (by decide) dX2_copyFrom_60 (fun H locs hP hD hS => ?_)
        have hP : va_P D vwCl (WW ad cJ cI cZ bm pa p0 (va_up ((q_copyU p0 p1 i).1) i (p0.1 i), va_up ((q_copyU p0 p1 i).2.1) i (p0.2.1 i), va_up ((q_copyU p0 p1 i).2.2.1) i (p0.2.2.1 i), va_up ((q_copyU p0 p1 i).2.2.2) i (p0.2.2.2 i)) p2 li wi mt ms ma mp mk mn ou) H := hP
        have hD : va_D A (WW ad cJ cI cZ bm pa p0 (va_up ((q_copyU p0 p1 i).1) i (p0.1 i), va_up ((q_copyU p0 p1 i).2.1) i (p0.2.1 i), va_up ((q_copyU p0 p1 i).2.2.1) i (p0.2.2.1 i), va_up ((q_copyU p0 p1 i).2.2.2) i (p0.2.2.2 i)) p2 li wi mt ms ma mp mk mn ou) := hD
        refine lv_iinc (v := (nI (i + 1))) (lv' := [(2, .int (nI (i + 1))), (0, .ref (ad 13)), (1, .ref (ad 8))]) hx hb dX2_copyFrom_61 hl (k := 2) rfl (nI_1 i) (by decide) rfl (fun ls hl => ?_)
        refine lv_goto (tgt := 2) hx hb dX2_copyFrom_64 (by decide) ?_
        have e0 : (va_up ((q_copyU p0 p1 i).1) i (p0.1 i), va_up ((q_copyU p0 p1 i).2.1) i (p0.2.1 i), va_up ((q_copyU p0 p1 i).2.2.1) i (p0.2.2.1 i), va_up ((q_copyU p0 p1 i).2.2.2) i (p0.2.2.2 i)) = q_copyU p0 p1 (i + 1) := q_copy_s p0 p1 i
        rw [e0] at hP hD
        exact ih (i + 1) (by omega) (by omega) _ _ hP hD hS _ (lv_sub hl [1, 2, 0] rfl)
  have hl := lv_entry ([.ref (ad 13), .ref (ad 8)]) (n := 3) (Nat.le_of_ble_eq_true rfl)
  refine W.eq (g2 := entryFrame m ([.ref (ad 13), .ref (ad 8)] : List Value).toArray 3) (by rw [ha]) ?_
  rw [lg_entry_eq]
  generalize (lg_sl ([.ref (ad 13), .ref (ad 8)]) ++ List.replicate (3 - (lg_sl ([.ref (ad 13), .ref (ad 8)])).length) Slot.unset).toArray = ls at hl ⊢
  have hl : lv_has ls 3 [(0, .ref (ad 13)), (1, .ref (ad 8))] := hl
  refine lv_iconst (v := nI 0) hx hb dX2_copyFrom_0 (by decide) ?_
  refine lv_istore_n (lv' := [(2, .int (nI 0)), (0, .ref (ad 13)), (1, .ref (ad 8))]) hx hb dX2_copyFrom_1 rfl hl (by decide) rfl (fun ls hl => ?_)
  have e0 := q_copy_0 p0 p1
  have hP : va_P D vwCl (WW ad cJ cI cZ bm pa p0 (q_copyU p0 p1 0) p2 li wi mt ms ma mp mk mn ou) s.heap := by rw [← e0]; exact hP
  have hD : va_D A (WW ad cJ cI cZ bm pa p0 (q_copyU p0 p1 0) p2 li wi mt ms ma mp mk mn ou) := by rw [← e0]; exact hD
  exact lp (pa.2.2.2.2.2.2 + 1) 0 (by omega) (by omega) _ _ hP hD hS _ (lv_sub hl [1, 2, 0] rfl)

set_option maxHeartbeats 4000000 in
set_option maxRecDepth 100000 in
theorem w_copyp2p0 {l : Launch} {D : va_G} {ad : Nat → Nat} {cJ cI cZ : ClassId} {bm : gBM} {pa : gPA} {p0 p1 p2 : gPL} {li : gLI} {wi : gWI} {mt : Nat} {ms : gMS} {ma : gMA} {mp : gMP} {mk : gMK} {mn : gMN} {ou : Nat → Int64} (hoA : q_okA pa) : bm_Wr l yX2_copyFrom wsX2_copyFrom ({ frames := 0, cells := 0, slots := 0, locals := 0 }) D vwCl [(cJ, .long), (cI, .int), (cZ, .boolean)] (WW ad cJ cI cZ bm pa p0 p1 p2 li wi mt ms ma mp mk mn ou) [.ref (ad 18), .ref (ad 8)] (WW ad cJ cI cZ bm pa p0 p1 (q_copyU p0 p2 pa.2.2.2.2.2.2) li wi mt ms ma mp mk mn ou) (none) := by
  obtain ⟨hn, hsd, hlw⟩ := hoA
  intro sz
  refine Met.ofW (cc := cX2_copyFrom) (maxL := 3) (ret := none) (by decide) rfl ?_
  intro p e s m args below meth c s₁ B hml hv
  obtain ⟨ha, hsz, hP, hK, hD0⟩ := hv
  have hx := B.exec
  have hb := B.bytes
  have hr := B.returns
  have hts := atoms_spec (ws := wsX2_copyFrom) B.pre
  have hown : s.vm.findClass RX2 = some m.cls := findClass_of_methodNamed B.named
  have hlocks := B.notSynchronized
  subst hsz
  have hD := hD0.self (sz := s.heap.size)
  generalize hAe : va_A (WW ad cJ cI cZ bm pa p0 p1 p2 li wi mt ms ma mp mk mn ou) s.heap.size = A at hD ⊢
  have hA : ∀ q : Nat, s.heap.size ≤ q → A q := fun q h => by rw [← hAe]; exact Or.inr h
  have hS : va_S A s.heap s.heap [] := va_S.rf
  have lp : ∀ (k : Nat) (i : Nat), i ≤ pa.2.2.2.2.2.2 → pa.2.2.2.2.2.2 < i + k → ∀ (H : Heap) (locs : List Loc), va_P D vwCl (WW ad cJ cI cZ bm pa p0 p1 (q_copyU p0 p2 i) li wi mt ms ma mp mk mn ou) H → va_D A (WW ad cJ cI cZ bm pa p0 p1 (q_copyU p0 p2 i) li wi mt ms ma mp mk mn ou) → va_S A s.heap H locs → ∀ (ls : Array Slot), lv_has ls 3 [(0, .ref (ad 18)), (1, .ref (ad 8)), (2, .int (nI i))] → W p l e (headSpec wsX2_copyFrom ({ frames := 0, cells := 0, slots := 0, locals := 0 })).room s m args below meth c H locs 0 0 (MQ below (bm_Wq D vwCl [(cJ, .long), (cI, .int), (cZ, .boolean)] (WW ad cJ cI cZ bm pa p0 p1 (q_copyU p0 p2 pa.2.2.2.2.2.2) li wi mt ms ma mp mk mn ou) (none) A) args s 0 0 A) (F0 m 2 ls []) := by
    intro k
    induction k with
    | zero => intro i hi hk; exfalso; omega
    | succ k ih =>
      intro i hi hk H locs hP hD hS ls hl
      refine lv_iload_n hx hb dX2_copyFrom_2 rfl (lv_at hl 2 rfl) ?_
      refine lv_aload_n hx hb dX2_copyFrom_3 rfl (lv_at hl 0 rfl) ?_
      refine va_get (D := D) (ci := 2) (v := .ref (ad 1)) (C := RX2) (T := TX2) (N := 5) hx hb hts (inT inX2) hown hK hP 18 ww_18 rfl 0 (by decide) (hts (.fieldLink RX2 26 "BoardMoves$Placement" "parts" "LBoardMoves$Parts;") (List.mem_cons_of_mem _ flX2_26)) (fun _ h9 => h9) rfl dX2_copyFrom_4 ?_
      refine va_get (D := D) (ci := 1) (v := .int (nI pa.2.2.2.2.2.2)) (C := RX1) (T := TX1) (N := 7) hx hb hts (inT inX1) hown hK hP 1 ww_1 rfl 6 (by decide) (hts (.fieldLink RX2 30 "BoardMoves$Parts" "count" "I") (List.mem_cons_of_mem _ flX2_30)) (fun _ h9 => h9) rfl dX2_copyFrom_7 ?_
      refine bm_ni_ge (x := i) (y := pa.2.2.2.2.2.2) (tgt := 67) hx hb (by omega) (by omega) dX2_copyFrom_10 (by decide) (fun c_1 => ?_) (fun c_1 => ?_)
      · exact bm_vretW hx hb hr hP hD hK hS (by rw [show i = pa.2.2.2.2.2.2 from by omega]) dX2_copyFrom_67 hlocks
      · refine lv_aload_n hx hb dX2_copyFrom_13 rfl (lv_at hl 0 rfl) ?_
        refine va_get (D := D) (ci := 2) (v := .ref (ad 19)) (C := RX2) (T := TX2) (N := 5) hx hb hts (inT inX2) hown hK hP 18 ww_18 rfl 1 (by decide) (hts (.fieldLink RX2 9 "BoardMoves$Placement" "x" "[J") (List.mem_cons_of_mem _ flX2_9)) (fun _ h9 => h9) rfl dX2_copyFrom_14 ?_
        refine lv_iload_n hx hb dX2_copyFrom_17 rfl (lv_at hl 2 rfl) ?_
        refine lv_aload_n hx hb dX2_copyFrom_18 rfl (lv_at hl 1 rfl) ?_
        refine va_get (D := D) (ci := 2) (v := .ref (ad 9)) (C := RX2) (T := TX2) (N := 5) hx hb hts (inT inX2) hown hK hP 8 ww_8 rfl 1 (by decide) (hts (.fieldLink RX2 9 "BoardMoves$Placement" "x" "[J") (List.mem_cons_of_mem _ flX2_9)) (fun _ h9 => h9) rfl dX2_copyFrom_19 ?_
        refine lv_iload_n hx hb dX2_copyFrom_22 rfl (lv_at hl 2 rfl) ?_
        refine bm_lald (f := p0.1) hx hb hK hP 9 0 ww_9 rfl (j := i) (by omega) (by decide) dX2_copyFrom_23 ?_
        refine bm_last (f := ((q_copyU p0 p2 i).1)) hx hb hK hP hD hS 19 0 ww_19 rfl (j := i) (x := (p0.1 i)) (by omega) (by decide) dX2_copyFrom_24 (fun H locs hP hD hS => ?_)
        have hP : va_P D vwCl (WW ad cJ cI cZ bm pa p0 p1 (va_up ((q_copyU p0 p2 i).1) i (p0.1 i), (q_copyU p0 p2 i).2.1, (q_copyU p0 p2 i).2.2.1, (q_copyU p0 p2 i).2.2.2) li wi mt ms ma mp mk mn ou) H := hP
        have hD : va_D A (WW ad cJ cI cZ bm pa p0 p1 (va_up ((q_copyU p0 p2 i).1) i (p0.1 i), (q_copyU p0 p2 i).2.1, (q_copyU p0 p2 i).2.2.1, (q_copyU p0 p2 i).2.2.2) li wi mt ms ma mp mk mn ou) := hD
        refine lv_aload_n hx hb dX2_copyFrom_25 rfl (lv_at hl 0 rfl) ?_
        refine va_get (D := D) (ci := 2) (v := .ref (ad 20)) (C := RX2) (T := TX2) (N := 5) hx hb hts (inT inX2) hown hK hP 18 ww_18 rfl 2 (by decide) (hts (.fieldLink RX2 15 "BoardMoves$Placement" "y" "[J") (List.mem_cons_of_mem _ flX2_15)) (fun _ h9 => h9) rfl dX2_copyFrom_26 ?_
        refine lv_iload_n hx hb dX2_copyFrom_29 rfl (lv_at hl 2 rfl) ?_
        refine lv_aload_n hx hb dX2_copyFrom_30 rfl (lv_at hl 1 rfl) ?_
        refine va_get (D := D) (ci := 2) (v := .ref (ad 10)) (C := RX2) (T := TX2) (N := 5) hx hb hts (inT inX2) hown hK hP 8 ww_8 rfl 2 (by decide) (hts (.fieldLink RX2 15 "BoardMoves$Placement" "y" "[J") (List.mem_cons_of_mem _ flX2_15)) (fun _ h9 => h9) rfl dX2_copyFrom_31 ?_
        refine lv_iload_n hx hb dX2_copyFrom_34 rfl (lv_at hl 2 rfl) ?_
        refine bm_lald (f := p0.2.1) hx hb hK hP 10 0 ww_10 rfl (j := i) (by omega) (by decide) dX2_copyFrom_35 ?_
        refine bm_last (f := ((q_copyU p0 p2 i).2.1)) hx hb hK hP hD hS 20 0 ww_20 rfl (j := i) (x := (p0.2.1 i)) (by omega) (by decide) dX2_copyFrom_36 (fun H locs hP hD hS => ?_)
        have hP : va_P D vwCl (WW ad cJ cI cZ bm pa p0 p1 (va_up ((q_copyU p0 p2 i).1) i (p0.1 i), va_up ((q_copyU p0 p2 i).2.1) i (p0.2.1 i), (q_copyU p0 p2 i).2.2.1, (q_copyU p0 p2 i).2.2.2) li wi mt ms ma mp mk mn ou) H := hP
        have hD : va_D A (WW ad cJ cI cZ bm pa p0 p1 (va_up ((q_copyU p0 p2 i).1) i (p0.1 i), va_up ((q_copyU p0 p2 i).2.1) i (p0.2.1 i), (q_copyU p0 p2 i).2.2.1, (q_copyU p0 p2 i).2.2.2) li wi mt ms ma mp mk mn ou) := hD
        refine lv_aload_n hx hb dX2_copyFrom_37 rfl (lv_at hl 0 rfl) ?_
        refine va_get (D := D) (ci := 2) (v := .ref (ad 21)) (C := RX2) (T := TX2) (N := 5) hx hb hts (inT inX2) hown hK hP 18 ww_18 rfl 3 (by decide) (hts (.fieldLink RX2 18 "BoardMoves$Placement" "turn" "[I") (List.mem_cons_of_mem _ flX2_18)) (fun _ h9 => h9) rfl dX2_copyFrom_38 ?_
        refine lv_iload_n hx hb dX2_copyFrom_41 rfl (lv_at hl 2 rfl) ?_
        refine lv_aload_n hx hb dX2_copyFrom_42 rfl (lv_at hl 1 rfl) ?_
        refine va_get (D := D) (ci := 2) (v := .ref (ad 11)) (C := RX2) (T := TX2) (N := 5) hx hb hts (inT inX2) hown hK hP 8 ww_8 rfl 3 (by decide) (hts (.fieldLink RX2 18 "BoardMoves$Placement" "turn" "[I") (List.mem_cons_of_mem _ flX2_18)) (fun _ h9 => h9) rfl dX2_copyFrom_43 ?_
        refine lv_iload_n hx hb dX2_copyFrom_46 rfl (lv_at hl 2 rfl) ?_
        refine bm_nald (f := p0.2.2.1) hx hb hK hP 11 1 ww_11 rfl (j := i) (by omega) (by decide) dX2_copyFrom_47 ?_
        refine bm_nast (f := ((q_copyU p0 p2 i).2.2.1)) hx hb hK hP hD hS 21 1 ww_21 rfl (j := i) (x := (p0.2.2.1 i)) (by omega) (by decide) dX2_copyFrom_48 (fun H locs hP hD hS => ?_)
        have hP : va_P D vwCl (WW ad cJ cI cZ bm pa p0 p1 (va_up ((q_copyU p0 p2 i).1) i (p0.1 i), va_up ((q_copyU p0 p2 i).2.1) i (p0.2.1 i), va_up ((q_copyU p0 p2 i).2.2.1) i (p0.2.2.1 i), (q_copyU p0 p2 i).2.2.2) li wi mt ms ma mp mk mn ou) H := hP
        have hD : va_D A (WW ad cJ cI cZ bm pa p0 p1 (va_up ((q_copyU p0 p2 i).1) i (p0.1 i), va_up ((q_copyU p0 p2 i).2.1) i (p0.2.1 i), va_up ((q_copyU p0 p2 i).2.2.1) i (p0.2.2.1 i), (q_copyU p0 p2 i).2.2.2) li wi mt ms ma mp mk mn ou) := hD
        refine lv_aload_n hx hb dX2_copyFrom_49 rfl (lv_at hl 0 rfl) ?_
        refine va_get (D := D) (ci := 2) (v := .ref (ad 22)) (C := RX2) (T := TX2) (N := 5) hx hb hts (inT inX2) hown hK hP 18 ww_18 rfl 4 (by decide) (hts (.fieldLink RX2 22 "BoardMoves$Placement" "placed" "[Z") (List.mem_cons_of_mem _ flX2_22)) (fun _ h9 => h9) rfl dX2_copyFrom_50 ?_
        refine lv_iload_n hx hb dX2_copyFrom_53 rfl (lv_at hl 2 rfl) ?_
        refine lv_aload_n hx hb dX2_copyFrom_54 rfl (lv_at hl 1 rfl) ?_
        refine va_get (D := D) (ci := 2) (v := .ref (ad 12)) (C := RX2) (T := TX2) (N := 5) hx hb hts (inT inX2) hown hK hP 8 ww_8 rfl 4 (by decide) (hts (.fieldLink RX2 22 "BoardMoves$Placement" "placed" "[Z") (List.mem_cons_of_mem _ flX2_22)) (fun _ h9 => h9) rfl dX2_copyFrom_55 ?_
        refine lv_iload_n hx hb dX2_copyFrom_58 rfl (lv_at hl 2 rfl) ?_
        refine bm_zald (f := p0.2.2.2) hx hb hK hP 12 2 ww_12 rfl (j := i) (by omega) (by decide) dX2_copyFrom_59 ?_
        refine bm_zast (f := ((q_copyU p0 p2 i).2.2.2)) hx hb hK hP hD hS 22 2 ww_22 rfl (j := i) (x := (p0.2.2.2 i)) (by omega) (by decide) dX2_copyFrom_60 (fun H locs hP hD hS => ?_)
        have hP : va_P D vwCl (WW ad cJ cI cZ bm pa p0 p1 (va_up ((q_copyU p0 p2 i).1) i (p0.1 i), va_up ((q_copyU p0 p2 i).2.1) i (p0.2.1 i), va_up ((q_copyU p0 p2 i).2.2.1) i (p0.2.2.1 i), va_up ((q_copyU p0 p2 i).2.2.2) i (p0.2.2.2 i)) li wi mt ms ma mp mk mn ou) H := hP
        have hD : va_D A (WW ad cJ cI cZ bm pa p0 p1 (va_up ((q_copyU p0 p2 i).1) i (p0.1 i), va_up ((q_copyU p0 p2 i).2.1) i (p0.2.1 i), va_up ((q_copyU p0 p2 i).2.2.1) i (p0.2.2.1 i), va_up ((q_copyU p0 p2 i).2.2.2) i (p0.2.2.2 i)) li wi mt ms ma mp mk mn ou) := hD
        refine lv_iinc (v := (nI (i + 1))) (lv' := [(2, .int (nI (i + 1))), (0, .ref (ad 18)), (1, .ref (ad 8))]) hx hb dX2_copyFrom_61 hl (k := 2) rfl (nI_1 i) (by decide) rfl (fun ls hl => ?_)
        refine lv_goto (tgt := 2) hx hb dX2_copyFrom_64 (by decide) ?_
        have e0 : (va_up ((q_copyU p0 p2 i).1) i (p0.1 i), va_up ((q_copyU p0 p2 i).2.1) i (p0.2.1 i), va_up ((q_copyU p0 p2 i).2.2.1) i (p0.2.2.1 i), va_up ((q_copyU p0 p2 i).2.2.2) i (p0.2.2.2 i)) = q_copyU p0 p2 (i + 1) := q_copy_s p0 p2 i
        rw [e0] at hP hD
        exact ih (i + 1) (by omega) (by omega) _ _ hP hD hS _ (lv_sub hl [1, 2, 0] rfl)
  have hl := lv_entry ([.ref (ad 18), .ref (ad 8)]) (n := 3) (Nat.le_of_ble_eq_true rfl)
  refine W.eq (g2 := entryFrame m ([.ref (ad 18), .ref (ad 8)] : List Value).toArray 3) (by rw [ha]) ?_
  rw [lg_entry_eq]
  generalize (lg_sl ([.ref (ad 18), .ref (ad 8)]) ++ List.replicate (3 - (lg_sl ([.ref (ad 18), .ref (ad 8)])).length) Slot.unset).toArray = ls at hl ⊢
  have hl : lv_has ls 3 [(0, .ref (ad 18)), (1, .ref (ad 8))] := hl
  refine lv_iconst (v := nI 0) hx hb dX2_copyFrom_0 (by decide) ?_
  refine lv_istore_n (lv' := [(2, .int (nI 0)), (0, .ref (ad 18)), (1, .ref (ad 8))]) hx hb dX2_copyFrom_1 rfl hl (by decide) rfl (fun ls hl => ?_)
  have e0 := q_copy_0 p0 p2
  have hP : va_P D vwCl (WW ad cJ cI cZ bm pa p0 p1 (q_copyU p0 p2 0) li wi mt ms ma mp mk mn ou) s.heap := by rw [← e0]; exact hP
  have hD : va_D A (WW ad cJ cI cZ bm pa p0 p1 (q_copyU p0 p2 0) li wi mt ms ma mp mk mn ou) := by rw [← e0]; exact hD
  exact lp (pa.2.2.2.2.2.2 + 1) 0 (by omega) (by omega) _ _ hP hD hS _ (lv_sub hl [1, 2, 0] rfl)

set_option maxHeartbeats 4000000 in
set_option maxRecDepth 100000 in
theorem w_copyp0p1 {l : Launch} {D : va_G} {ad : Nat → Nat} {cJ cI cZ : ClassId} {bm : gBM} {pa : gPA} {p0 p1 p2 : gPL} {li : gLI} {wi : gWI} {mt : Nat} {ms : gMS} {ma : gMA} {mp : gMP} {mk : gMK} {mn : gMN} {ou : Nat → Int64} (hoA : q_okA pa) : bm_Wr l yX2_copyFrom wsX2_copyFrom ({ frames := 0, cells := 0, slots := 0, locals := 0 }) D vwCl [(cJ, .long), (cI, .int), (cZ, .boolean)] (WW ad cJ cI cZ bm pa p0 p1 p2 li wi mt ms ma mp mk mn ou) [.ref (ad 8), .ref (ad 13)] (WW ad cJ cI cZ bm pa (q_copyU p1 p0 pa.2.2.2.2.2.2) p1 p2 li wi mt ms ma mp mk mn ou) (none) := by
  obtain ⟨hn, hsd, hlw⟩ := hoA
  intro sz
  refine Met.ofW (cc := cX2_copyFrom) (maxL := 3) (ret := none) (by decide) rfl ?_
  intro p e s m args below meth c s₁ B hml hv
  obtain ⟨ha, hsz, hP, hK, hD0⟩ := hv
  have hx := B.exec
  have hb := B.bytes
  have hr := B.returns
  have hts := atoms_spec (ws := wsX2_copyFrom) B.pre
  have hown : s.vm.findClass RX2 = some m.cls := findClass_of_methodNamed B.named
  have hlocks := B.notSynchronized
  subst hsz
  have hD := hD0.self (sz := s.heap.size)
  generalize hAe : va_A (WW ad cJ cI cZ bm pa p0 p1 p2 li wi mt ms ma mp mk mn ou) s.heap.size = A at hD ⊢
  have hA : ∀ q : Nat, s.heap.size ≤ q → A q := fun q h => by rw [← hAe]; exact Or.inr h
  have hS : va_S A s.heap s.heap [] := va_S.rf
  have lp : ∀ (k : Nat) (i : Nat), i ≤ pa.2.2.2.2.2.2 → pa.2.2.2.2.2.2 < i + k → ∀ (H : Heap) (locs : List Loc), va_P D vwCl (WW ad cJ cI cZ bm pa (q_copyU p1 p0 i) p1 p2 li wi mt ms ma mp mk mn ou) H → va_D A (WW ad cJ cI cZ bm pa (q_copyU p1 p0 i) p1 p2 li wi mt ms ma mp mk mn ou) → va_S A s.heap H locs → ∀ (ls : Array Slot), lv_has ls 3 [(0, .ref (ad 8)), (1, .ref (ad 13)), (2, .int (nI i))] → W p l e (headSpec wsX2_copyFrom ({ frames := 0, cells := 0, slots := 0, locals := 0 })).room s m args below meth c H locs 0 0 (MQ below (bm_Wq D vwCl [(cJ, .long), (cI, .int), (cZ, .boolean)] (WW ad cJ cI cZ bm pa (q_copyU p1 p0 pa.2.2.2.2.2.2) p1 p2 li wi mt ms ma mp mk mn ou) (none) A) args s 0 0 A) (F0 m 2 ls []) := by
    intro k
    induction k with
    | zero => intro i hi hk; exfalso; omega
    | succ k ih =>
      intro i hi hk H locs hP hD hS ls hl
      refine lv_iload_n hx hb dX2_copyFrom_2 rfl (lv_at hl 2 rfl) ?_
      refine lv_aload_n hx hb dX2_copyFrom_3 rfl (lv_at hl 0 rfl) ?_
      refine va_get (D := D) (ci := 2) (v := .ref (ad 1)) (C := RX2) (T := TX2) (N := 5) hx hb hts (inT inX2) hown hK hP 8 ww_8 rfl 0 (by decide) (hts (.fieldLink RX2 26 "BoardMoves$Placement" "parts" "LBoardMoves$Parts;") (List.mem_cons_of_mem _ flX2_26)) (fun _ h9 => h9) rfl dX2_copyFrom_4 ?_
      refine va_get (D := D) (ci := 1) (v := .int (nI pa.2.2.2.2.2.2)) (C := RX1) (T := TX1) (N := 7) hx hb hts (inT inX1) hown hK hP 1 ww_1 rfl 6 (by decide) (hts (.fieldLink RX2 30 "BoardMoves$Parts" "count" "I") (List.mem_cons_of_mem _ flX2_30)) (fun _ h9 => h9) rfl dX2_copyFrom_7 ?_
      refine bm_ni_ge (x := i) (y := pa.2.2.2.2.2.2) (tgt := 67) hx hb (by omega) (by omega) dX2_copyFrom_10 (by decide) (fun c_1 => ?_) (fun c_1 => ?_)
      · exact bm_vretW hx hb hr hP hD hK hS (by rw [show i = pa.2.2.2.2.2.2 from by omega]) dX2_copyFrom_67 hlocks
      · refine lv_aload_n hx hb dX2_copyFrom_13 rfl (lv_at hl 0 rfl) ?_
        refine va_get (D := D) (ci := 2) (v := .ref (ad 9)) (C := RX2) (T := TX2) (N := 5) hx hb hts (inT inX2) hown hK hP 8 ww_8 rfl 1 (by decide) (hts (.fieldLink RX2 9 "BoardMoves$Placement" "x" "[J") (List.mem_cons_of_mem _ flX2_9)) (fun _ h9 => h9) rfl dX2_copyFrom_14 ?_
        refine lv_iload_n hx hb dX2_copyFrom_17 rfl (lv_at hl 2 rfl) ?_
        refine lv_aload_n hx hb dX2_copyFrom_18 rfl (lv_at hl 1 rfl) ?_
        refine va_get (D := D) (ci := 2) (v := .ref (ad 14)) (C := RX2) (T := TX2) (N := 5) hx hb hts (inT inX2) hown hK hP 13 ww_13 rfl 1 (by decide) (hts (.fieldLink RX2 9 "BoardMoves$Placement" "x" "[J") (List.mem_cons_of_mem _ flX2_9)) (fun _ h9 => h9) rfl dX2_copyFrom_19 ?_
        refine lv_iload_n hx hb dX2_copyFrom_22 rfl (lv_at hl 2 rfl) ?_
        refine bm_lald (f := p1.1) hx hb hK hP 14 0 ww_14 rfl (j := i) (by omega) (by decide) dX2_copyFrom_23 ?_
        refine bm_last (f := ((q_copyU p1 p0 i).1)) hx hb hK hP hD hS 9 0 ww_9 rfl (j := i) (x := (p1.1 i)) (by omega) (by decide) dX2_copyFrom_24 (fun H locs hP hD hS => ?_)
        have hP : va_P D vwCl (WW ad cJ cI cZ bm pa (va_up ((q_copyU p1 p0 i).1) i (p1.1 i), (q_copyU p1 p0 i).2.1, (q_copyU p1 p0 i).2.2.1, (q_copyU p1 p0 i).2.2.2) p1 p2 li wi mt ms ma mp mk mn ou) H := hP
        have hD : va_D A (WW ad cJ cI cZ bm pa (va_up ((q_copyU p1 p0 i).1) i (p1.1 i), (q_copyU p1 p0 i).2.1, (q_copyU p1 p0 i).2.2.1, (q_copyU p1 p0 i).2.2.2) p1 p2 li wi mt ms ma mp mk mn ou) := hD
        refine lv_aload_n hx hb dX2_copyFrom_25 rfl (lv_at hl 0 rfl) ?_
        refine va_get (D := D) (ci := 2) (v := .ref (ad 10)) (C := RX2) (T := TX2) (N := 5) hx hb hts (inT inX2) hown hK hP 8 ww_8 rfl 2 (by decide) (hts (.fieldLink RX2 15 "BoardMoves$Placement" "y" "[J") (List.mem_cons_of_mem _ flX2_15)) (fun _ h9 => h9) rfl dX2_copyFrom_26 ?_
        refine lv_iload_n hx hb dX2_copyFrom_29 rfl (lv_at hl 2 rfl) ?_
        refine lv_aload_n hx hb dX2_copyFrom_30 rfl (lv_at hl 1 rfl) ?_
        refine va_get (D := D) (ci := 2) (v := .ref (ad 15)) (C := RX2) (T := TX2) (N := 5) hx hb hts (inT inX2) hown hK hP 13 ww_13 rfl 2 (by decide) (hts (.fieldLink RX2 15 "BoardMoves$Placement" "y" "[J") (List.mem_cons_of_mem _ flX2_15)) (fun _ h9 => h9) rfl dX2_copyFrom_31 ?_
        refine lv_iload_n hx hb dX2_copyFrom_34 rfl (lv_at hl 2 rfl) ?_
        refine bm_lald (f := p1.2.1) hx hb hK hP 15 0 ww_15 rfl (j := i) (by omega) (by decide) dX2_copyFrom_35 ?_
        refine bm_last (f := ((q_copyU p1 p0 i).2.1)) hx hb hK hP hD hS 10 0 ww_10 rfl (j := i) (x := (p1.2.1 i)) (by omega) (by decide) dX2_copyFrom_36 (fun H locs hP hD hS => ?_)
        have hP : va_P D vwCl (WW ad cJ cI cZ bm pa (va_up ((q_copyU p1 p0 i).1) i (p1.1 i), va_up ((q_copyU p1 p0 i).2.1) i (p1.2.1 i), (q_copyU p1 p0 i).2.2.1, (q_copyU p1 p0 i).2.2.2) p1 p2 li wi mt ms ma mp mk mn ou) H := hP
        have hD : va_D A (WW ad cJ cI cZ bm pa (va_up ((q_copyU p1 p0 i).1) i (p1.1 i), va_up ((q_copyU p1 p0 i).2.1) i (p1.2.1 i), (q_copyU p1 p0 i).2.2.1, (q_copyU p1 p0 i).2.2.2) p1 p2 li wi mt ms ma mp mk mn ou) := hD
        refine lv_aload_n hx hb dX2_copyFrom_37 rfl (lv_at hl 0 rfl) ?_
        refine va_get (D := D) (ci := 2) (v := .ref (ad 11)) (C := RX2) (T := TX2) (N := 5) hx hb hts (inT inX2) hown hK hP 8 ww_8 rfl 3 (by decide) (hts (.fieldLink RX2 18 "BoardMoves$Placement" "turn" "[I") (List.mem_cons_of_mem _ flX2_18)) (fun _ h9 => h9) rfl dX2_copyFrom_38 ?_
        refine lv_iload_n hx hb dX2_copyFrom_41 rfl (lv_at hl 2 rfl) ?_
        refine lv_aload_n hx hb dX2_copyFrom_42 rfl (lv_at hl 1 rfl) ?_
        refine va_get (D := D) (ci := 2) (v := .ref (ad 16)) (C := RX2) (T := TX2) (N := 5) hx hb hts (inT inX2) hown hK hP 13 ww_13 rfl 3 (by decide) (hts (.fieldLink RX2 18 "BoardMoves$Placement" "turn" "[I") (List.mem_cons_of_mem _ flX2_18)) (fun _ h9 => h9) rfl dX2_copyFrom_43 ?_
        refine lv_iload_n hx hb dX2_copyFrom_46 rfl (lv_at hl 2 rfl) ?_
        refine bm_nald (f := p1.2.2.1) hx hb hK hP 16 1 ww_16 rfl (j := i) (by omega) (by decide) dX2_copyFrom_47 ?_
        refine bm_nast (f := ((q_copyU p1 p0 i).2.2.1)) hx hb hK hP hD hS 11 1 ww_11 rfl (j := i) (x := (p1.2.2.1 i)) (by omega) (by decide) dX2_copyFrom_48 (fun H locs hP hD hS => ?_)
        have hP : va_P D vwCl (WW ad cJ cI cZ bm pa (va_up ((q_copyU p1 p0 i).1) i (p1.1 i), va_up ((q_copyU p1 p0 i).2.1) i (p1.2.1 i), va_up ((q_copyU p1 p0 i).2.2.1) i (p1.2.2.1 i), (q_copyU p1 p0 i).2.2.2) p1 p2 li wi mt ms ma mp mk mn ou) H := hP
        have hD : va_D A (WW ad cJ cI cZ bm pa (va_up ((q_copyU p1 p0 i).1) i (p1.1 i), va_up ((q_copyU p1 p0 i).2.1) i (p1.2.1 i), va_up ((q_copyU p1 p0 i).2.2.1) i (p1.2.2.1 i), (q_copyU p1 p0 i).2.2.2) p1 p2 li wi mt ms ma mp mk mn ou) := hD
        refine lv_aload_n hx hb dX2_copyFrom_49 rfl (lv_at hl 0 rfl) ?_
        refine va_get (D := D) (ci := 2) (v := .ref (ad 12)) (C := RX2) (T := TX2) (N := 5) hx hb hts (inT inX2) hown hK hP 8 ww_8 rfl 4 (by decide) (hts (.fieldLink RX2 22 "BoardMoves$Placement" "placed" "[Z") (List.mem_cons_of_mem _ flX2_22)) (fun _ h9 => h9) rfl dX2_copyFrom_50 ?_
        refine lv_iload_n hx hb dX2_copyFrom_53 rfl (lv_at hl 2 rfl) ?_
        refine lv_aload_n hx hb dX2_copyFrom_54 rfl (lv_at hl 1 rfl) ?_
        refine va_get (D := D) (ci := 2) (v := .ref (ad 17)) (C := RX2) (T := TX2) (N := 5) hx hb hts (inT inX2) hown hK hP 13 ww_13 rfl 4 (by decide) (hts (.fieldLink RX2 22 "BoardMoves$Placement" "placed" "[Z") (List.mem_cons_of_mem _ flX2_22)) (fun _ h9 => h9) rfl dX2_copyFrom_55 ?_
        refine lv_iload_n hx hb dX2_copyFrom_58 rfl (lv_at hl 2 rfl) ?_
        refine bm_zald (f := p1.2.2.2) hx hb hK hP 17 2 ww_17 rfl (j := i) (by omega) (by decide) dX2_copyFrom_59 ?_
        refine bm_zast (f := ((q_copyU p1 p0 i).2.2.2)) hx hb hK hP hD hS 12 2 ww_12 rfl (j := i) (x := (p1.2.2.2 i)) (by omega) (by decide) dX2_copyFrom_60 (fun H locs hP hD hS => ?_)
        have hP : va_P D vwCl (WW ad cJ cI cZ bm pa (va_up ((q_copyU p1 p0 i).1) i (p1.1 i), va_up ((q_copyU p1 p0 i).2.1) i (p1.2.1 i), va_up ((q_copyU p1 p0 i).2.2.1) i (p1.2.2.1 i), va_up ((q_copyU p1 p0 i).2.2.2) i (p1.2.2.2 i)) p1 p2 li wi mt ms ma mp mk mn ou) H := hP
        have hD : va_D A (WW ad cJ cI cZ bm pa (va_up ((q_copyU p1 p0 i).1) i (p1.1 i), va_up ((q_copyU p1 p0 i).2.1) i (p1.2.1 i), va_up ((q_copyU p1 p0 i).2.2.1) i (p1.2.2.1 i), va_up ((q_copyU p1 p0 i).2.2.2) i (p1.2.2.2 i)) p1 p2 li wi mt ms ma mp mk mn ou) := hD
        refine lv_iinc (v := (nI (i + 1))) (lv' := [(2, .int (nI (i + 1))), (0, .ref (ad 8)), (1, .ref (ad 13))]) hx hb dX2_copyFrom_61 hl (k := 2) rfl (nI_1 i) (by decide) rfl (fun ls hl => ?_)
        refine lv_goto (tgt := 2) hx hb dX2_copyFrom_64 (by decide) ?_
        have e0 : (va_up ((q_copyU p1 p0 i).1) i (p1.1 i), va_up ((q_copyU p1 p0 i).2.1) i (p1.2.1 i), va_up ((q_copyU p1 p0 i).2.2.1) i (p1.2.2.1 i), va_up ((q_copyU p1 p0 i).2.2.2) i (p1.2.2.2 i)) = q_copyU p1 p0 (i + 1) := q_copy_s p1 p0 i
        rw [e0] at hP hD
        exact ih (i + 1) (by omega) (by omega) _ _ hP hD hS _ (lv_sub hl [1, 2, 0] rfl)
  have hl := lv_entry ([.ref (ad 8), .ref (ad 13)]) (n := 3) (Nat.le_of_ble_eq_true rfl)
  refine W.eq (g2 := entryFrame m ([.ref (ad 8), .ref (ad 13)] : List Value).toArray 3) (by rw [ha]) ?_
  rw [lg_entry_eq]
  generalize (lg_sl ([.ref (ad 8), .ref (ad 13)]) ++ List.replicate (3 - (lg_sl ([.ref (ad 8), .ref (ad 13)])).length) Slot.unset).toArray = ls at hl ⊢
  have hl : lv_has ls 3 [(0, .ref (ad 8)), (1, .ref (ad 13))] := hl
  refine lv_iconst (v := nI 0) hx hb dX2_copyFrom_0 (by decide) ?_
  refine lv_istore_n (lv' := [(2, .int (nI 0)), (0, .ref (ad 8)), (1, .ref (ad 13))]) hx hb dX2_copyFrom_1 rfl hl (by decide) rfl (fun ls hl => ?_)
  have e0 := q_copy_0 p1 p0
  have hP : va_P D vwCl (WW ad cJ cI cZ bm pa (q_copyU p1 p0 0) p1 p2 li wi mt ms ma mp mk mn ou) s.heap := by rw [← e0]; exact hP
  have hD : va_D A (WW ad cJ cI cZ bm pa (q_copyU p1 p0 0) p1 p2 li wi mt ms ma mp mk mn ou) := by rw [← e0]; exact hD
  exact lp (pa.2.2.2.2.2.2 + 1) 0 (by omega) (by omega) _ _ hP hD hS _ (lv_sub hl [1, 2, 0] rfl)

set_option maxHeartbeats 4000000 in
set_option maxRecDepth 100000 in
theorem w_copyp0p2 {l : Launch} {D : va_G} {ad : Nat → Nat} {cJ cI cZ : ClassId} {bm : gBM} {pa : gPA} {p0 p1 p2 : gPL} {li : gLI} {wi : gWI} {mt : Nat} {ms : gMS} {ma : gMA} {mp : gMP} {mk : gMK} {mn : gMN} {ou : Nat → Int64} (hoA : q_okA pa) : bm_Wr l yX2_copyFrom wsX2_copyFrom ({ frames := 0, cells := 0, slots := 0, locals := 0 }) D vwCl [(cJ, .long), (cI, .int), (cZ, .boolean)] (WW ad cJ cI cZ bm pa p0 p1 p2 li wi mt ms ma mp mk mn ou) [.ref (ad 8), .ref (ad 18)] (WW ad cJ cI cZ bm pa (q_copyU p2 p0 pa.2.2.2.2.2.2) p1 p2 li wi mt ms ma mp mk mn ou) (none) := by
  obtain ⟨hn, hsd, hlw⟩ := hoA
  intro sz
  refine Met.ofW (cc := cX2_copyFrom) (maxL := 3) (ret := none) (by decide) rfl ?_
  intro p e s m args below meth c s₁ B hml hv
  obtain ⟨ha, hsz, hP, hK, hD0⟩ := hv
  have hx := B.exec
  have hb := B.bytes
  have hr := B.returns
  have hts := atoms_spec (ws := wsX2_copyFrom) B.pre
  have hown : s.vm.findClass RX2 = some m.cls := findClass_of_methodNamed B.named
  have hlocks := B.notSynchronized
  subst hsz
  have hD := hD0.self (sz := s.heap.size)
  generalize hAe : va_A (WW ad cJ cI cZ bm pa p0 p1 p2 li wi mt ms ma mp mk mn ou) s.heap.size = A at hD ⊢
  have hA : ∀ q : Nat, s.heap.size ≤ q → A q := fun q h => by rw [← hAe]; exact Or.inr h
  have hS : va_S A s.heap s.heap [] := va_S.rf
  have lp : ∀ (k : Nat) (i : Nat), i ≤ pa.2.2.2.2.2.2 → pa.2.2.2.2.2.2 < i + k → ∀ (H : Heap) (locs : List Loc), va_P D vwCl (WW ad cJ cI cZ bm pa (q_copyU p2 p0 i) p1 p2 li wi mt ms ma mp mk mn ou) H → va_D A (WW ad cJ cI cZ bm pa (q_copyU p2 p0 i) p1 p2 li wi mt ms ma mp mk mn ou) → va_S A s.heap H locs → ∀ (ls : Array Slot), lv_has ls 3 [(0, .ref (ad 8)), (1, .ref (ad 18)), (2, .int (nI i))] → W p l e (headSpec wsX2_copyFrom ({ frames := 0, cells := 0, slots := 0, locals := 0 })).room s m args below meth c H locs 0 0 (MQ below (bm_Wq D vwCl [(cJ, .long), (cI, .int), (cZ, .boolean)] (WW ad cJ cI cZ bm pa (q_copyU p2 p0 pa.2.2.2.2.2.2) p1 p2 li wi mt ms ma mp mk mn ou) (none) A) args s 0 0 A) (F0 m 2 ls []) := by
    intro k
    induction k with
    | zero => intro i hi hk; exfalso; omega
    | succ k ih =>
      intro i hi hk H locs hP hD hS ls hl
      refine lv_iload_n hx hb dX2_copyFrom_2 rfl (lv_at hl 2 rfl) ?_
      refine lv_aload_n hx hb dX2_copyFrom_3 rfl (lv_at hl 0 rfl) ?_
      refine va_get (D := D) (ci := 2) (v := .ref (ad 1)) (C := RX2) (T := TX2) (N := 5) hx hb hts (inT inX2) hown hK hP 8 ww_8 rfl 0 (by decide) (hts (.fieldLink RX2 26 "BoardMoves$Placement" "parts" "LBoardMoves$Parts;") (List.mem_cons_of_mem _ flX2_26)) (fun _ h9 => h9) rfl dX2_copyFrom_4 ?_
      refine va_get (D := D) (ci := 1) (v := .int (nI pa.2.2.2.2.2.2)) (C := RX1) (T := TX1) (N := 7) hx hb hts (inT inX1) hown hK hP 1 ww_1 rfl 6 (by decide) (hts (.fieldLink RX2 30 "BoardMoves$Parts" "count" "I") (List.mem_cons_of_mem _ flX2_30)) (fun _ h9 => h9) rfl dX2_copyFrom_7 ?_
      refine bm_ni_ge (x := i) (y := pa.2.2.2.2.2.2) (tgt := 67) hx hb (by omega) (by omega) dX2_copyFrom_10 (by decide) (fun c_1 => ?_) (fun c_1 => ?_)
      · exact bm_vretW hx hb hr hP hD hK hS (by rw [show i = pa.2.2.2.2.2.2 from by omega]) dX2_copyFrom_67 hlocks
      · refine lv_aload_n hx hb dX2_copyFrom_13 rfl (lv_at hl 0 rfl) ?_
        refine va_get (D := D) (ci := 2) (v := .ref (ad 9)) (C := RX2) (T := TX2) (N := 5) hx hb hts (inT inX2) hown hK hP 8 ww_8 rfl 1 (by decide) (hts (.fieldLink RX2 9 "BoardMoves$Placement" "x" "[J") (List.mem_cons_of_mem _ flX2_9)) (fun _ h9 => h9) rfl dX2_copyFrom_14 ?_
        refine lv_iload_n hx hb dX2_copyFrom_17 rfl (lv_at hl 2 rfl) ?_
        refine lv_aload_n hx hb dX2_copyFrom_18 rfl (lv_at hl 1 rfl) ?_
        refine va_get (D := D) (ci := 2) (v := .ref (ad 19)) (C := RX2) (T := TX2) (N := 5) hx hb hts (inT inX2) hown hK hP 18 ww_18 rfl 1 (by decide) (hts (.fieldLink RX2 9 "BoardMoves$Placement" "x" "[J") (List.mem_cons_of_mem _ flX2_9)) (fun _ h9 => h9) rfl dX2_copyFrom_19 ?_
        refine lv_iload_n hx hb dX2_copyFrom_22 rfl (lv_at hl 2 rfl) ?_
        refine bm_lald (f := p2.1) hx hb hK hP 19 0 ww_19 rfl (j := i) (by omega) (by decide) dX2_copyFrom_23 ?_
        refine bm_last (f := ((q_copyU p2 p0 i).1)) hx hb hK hP hD hS 9 0 ww_9 rfl (j := i) (x := (p2.1 i)) (by omega) (by decide) dX2_copyFrom_24 (fun H locs hP hD hS => ?_)
        have hP : va_P D vwCl (WW ad cJ cI cZ bm pa (va_up ((q_copyU p2 p0 i).1) i (p2.1 i), (q_copyU p2 p0 i).2.1, (q_copyU p2 p0 i).2.2.1, (q_copyU p2 p0 i).2.2.2) p1 p2 li wi mt ms ma mp mk mn ou) H := hP
        have hD : va_D A (WW ad cJ cI cZ bm pa (va_up ((q_copyU p2 p0 i).1) i (p2.1 i), (q_copyU p2 p0 i).2.1, (q_copyU p2 p0 i).2.2.1, (q_copyU p2 p0 i).2.2.2) p1 p2 li wi mt ms ma mp mk mn ou) := hD
        refine lv_aload_n hx hb dX2_copyFrom_25 rfl (lv_at hl 0 rfl) ?_
        refine va_get (D := D) (ci := 2) (v := .ref (ad 10)) (C := RX2) (T := TX2) (N := 5) hx hb hts (inT inX2) hown hK hP 8 ww_8 rfl 2 (by decide) (hts (.fieldLink RX2 15 "BoardMoves$Placement" "y" "[J") (List.mem_cons_of_mem _ flX2_15)) (fun _ h9 => h9) rfl dX2_copyFrom_26 ?_
        refine lv_iload_n hx hb dX2_copyFrom_29 rfl (lv_at hl 2 rfl) ?_
        refine lv_aload_n hx hb dX2_copyFrom_30 rfl (lv_at hl 1 rfl) ?_
        refine va_get (D := D) (ci := 2) (v := .ref (ad 20)) (C := RX2) (T := TX2) (N := 5) hx hb hts (inT inX2) hown hK hP 18 ww_18 rfl 2 (by decide) (hts (.fieldLink RX2 15 "BoardMoves$Placement" "y" "[J") (List.mem_cons_of_mem _ flX2_15)) (fun _ h9 => h9) rfl dX2_copyFrom_31 ?_
        refine lv_iload_n hx hb dX2_copyFrom_34 rfl (lv_at hl 2 rfl) ?_
        refine bm_lald (f := p2.2.1) hx hb hK hP 20 0 ww_20 rfl (j := i) (by omega) (by decide) dX2_copyFrom_35 ?_
        refine bm_last (f := ((q_copyU p2 p0 i).2.1)) hx hb hK hP hD hS 10 0 ww_10 rfl (j := i) (x := (p2.2.1 i)) (by omega) (by decide) dX2_copyFrom_36 (fun H locs hP hD hS => ?_)
        have hP : va_P D vwCl (WW ad cJ cI cZ bm pa (va_up ((q_copyU p2 p0 i).1) i (p2.1 i), va_up ((q_copyU p2 p0 i).2.1) i (p2.2.1 i), (q_copyU p2 p0 i).2.2.1, (q_copyU p2 p0 i).2.2.2) p1 p2 li wi mt ms ma mp mk mn ou) H := hP
        have hD : va_D A (WW ad cJ cI cZ bm pa (va_up ((q_copyU p2 p0 i).1) i (p2.1 i), va_up ((q_copyU p2 p0 i).2.1) i (p2.2.1 i), (q_copyU p2 p0 i).2.2.1, (q_copyU p2 p0 i).2.2.2) p1 p2 li wi mt ms ma mp mk mn ou) := hD
        refine lv_aload_n hx hb dX2_copyFrom_37 rfl (lv_at hl 0 rfl) ?_
        refine va_get (D := D) (ci := 2) (v := .ref (ad 11)) (C := RX2) (T := TX2) (N := 5) hx hb hts (inT inX2) hown hK hP 8 ww_8 rfl 3 (by decide) (hts (.fieldLink RX2 18 "BoardMoves$Placement" "turn" "[I") (List.mem_cons_of_mem _ flX2_18)) (fun _ h9 => h9) rfl dX2_copyFrom_38 ?_
        refine lv_iload_n hx hb dX2_copyFrom_41 rfl (lv_at hl 2 rfl) ?_
        refine lv_aload_n hx hb dX2_copyFrom_42 rfl (lv_at hl 1 rfl) ?_
        refine va_get (D := D) (ci := 2) (v := .ref (ad 21)) (C := RX2) (T := TX2) (N := 5) hx hb hts (inT inX2) hown hK hP 18 ww_18 rfl 3 (by decide) (hts (.fieldLink RX2 18 "BoardMoves$Placement" "turn" "[I") (List.mem_cons_of_mem _ flX2_18)) (fun _ h9 => h9) rfl dX2_copyFrom_43 ?_
        refine lv_iload_n hx hb dX2_copyFrom_46 rfl (lv_at hl 2 rfl) ?_
        refine bm_nald (f := p2.2.2.1) hx hb hK hP 21 1 ww_21 rfl (j := i) (by omega) (by decide) dX2_copyFrom_47 ?_
        refine bm_nast (f := ((q_copyU p2 p0 i).2.2.1)) hx hb hK hP hD hS 11 1 ww_11 rfl (j := i) (x := (p2.2.2.1 i)) (by omega) (by decide) dX2_copyFrom_48 (fun H locs hP hD hS => ?_)
        have hP : va_P D vwCl (WW ad cJ cI cZ bm pa (va_up ((q_copyU p2 p0 i).1) i (p2.1 i), va_up ((q_copyU p2 p0 i).2.1) i (p2.2.1 i), va_up ((q_copyU p2 p0 i).2.2.1) i (p2.2.2.1 i), (q_copyU p2 p0 i).2.2.2) p1 p2 li wi mt ms ma mp mk mn ou) H := hP
        have hD : va_D A (WW ad cJ cI cZ bm pa (va_up ((q_copyU p2 p0 i).1) i (p2.1 i), va_up ((q_copyU p2 p0 i).2.1) i (p2.2.1 i), va_up ((q_copyU p2 p0 i).2.2.1) i (p2.2.2.1 i), (q_copyU p2 p0 i).2.2.2) p1 p2 li wi mt ms ma mp mk mn ou) := hD
        refine lv_aload_n hx hb dX2_copyFrom_49 rfl (lv_at hl 0 rfl) ?_
        refine va_get (D := D) (ci := 2) (v := .ref (ad 12)) (C := RX2) (T := TX2) (N := 5) hx hb hts (inT inX2) hown hK hP 8 ww_8 rfl 4 (by decide) (hts (.fieldLink RX2 22 "BoardMoves$Placement" "placed" "[Z") (List.mem_cons_of_mem _ flX2_22)) (fun _ h9 => h9) rfl dX2_copyFrom_50 ?_
        refine lv_iload_n hx hb dX2_copyFrom_53 rfl (lv_at hl 2 rfl) ?_
        refine lv_aload_n hx hb dX2_copyFrom_54 rfl (lv_at hl 1 rfl) ?_
        refine va_get (D := D) (ci := 2) (v := .ref (ad 22)) (C := RX2) (T := TX2) (N := 5) hx hb hts (inT inX2) hown hK hP 18 ww_18 rfl 4 (by decide) (hts (.fieldLink RX2 22 "BoardMoves$Placement" "placed" "[Z") (List.mem_cons_of_mem _ flX2_22)) (fun _ h9 => h9) rfl dX2_copyFrom_55 ?_
        refine lv_iload_n hx hb dX2_copyFrom_58 rfl (lv_at hl 2 rfl) ?_
        refine bm_zald (f := p2.2.2.2) hx hb hK hP 22 2 ww_22 rfl (j := i) (by omega) (by decide) dX2_copyFrom_59 ?_
        refine bm_zast (f := ((q_copyU p2 p0 i).2.2.2)) hx hb hK hP hD hS 12 2 ww_12 rfl (j := i) (x := (p2.2.2.2 i)) (by omega) (by decide) dX2_copyFrom_60 (fun H locs hP hD hS => ?_)
        have hP : va_P D vwCl (WW ad cJ cI cZ bm pa (va_up ((q_copyU p2 p0 i).1) i (p2.1 i), va_up ((q_copyU p2 p0 i).2.1) i (p2.2.1 i), va_up ((q_copyU p2 p0 i).2.2.1) i (p2.2.2.1 i), va_up ((q_copyU p2 p0 i).2.2.2) i (p2.2.2.2 i)) p1 p2 li wi mt ms ma mp mk mn ou) H := hP
        have hD : va_D A (WW ad cJ cI cZ bm pa (va_up ((q_copyU p2 p0 i).1) i (p2.1 i), va_up ((q_copyU p2 p0 i).2.1) i (p2.2.1 i), va_up ((q_copyU p2 p0 i).2.2.1) i (p2.2.2.1 i), va_up ((q_copyU p2 p0 i).2.2.2) i (p2.2.2.2 i)) p1 p2 li wi mt ms ma mp mk mn ou) := hD
        refine lv_iinc (v := (nI (i + 1))) (lv' := [(2, .int (nI (i + 1))), (0, .ref (ad 8)), (1, .ref (ad 18))]) hx hb dX2_copyFrom_61 hl (k := 2) rfl (nI_1 i) (by decide) rfl (fun ls hl => ?_)
        refine lv_goto (tgt := 2) hx hb dX2_copyFrom_64 (by decide) ?_
        have e0 : (va_up ((q_copyU p2 p0 i).1) i (p2.1 i), va_up ((q_copyU p2 p0 i).2.1) i (p2.2.1 i), va_up ((q_copyU p2 p0 i).2.2.1) i (p2.2.2.1 i), va_up ((q_copyU p2 p0 i).2.2.2) i (p2.2.2.2 i)) = q_copyU p2 p0 (i + 1) := q_copy_s p2 p0 i
        rw [e0] at hP hD
        exact ih (i + 1) (by omega) (by omega) _ _ hP hD hS _ (lv_sub hl [1, 2, 0] rfl)
  have hl := lv_entry ([.ref (ad 8), .ref (ad 18)]) (n := 3) (Nat.le_of_ble_eq_true rfl)
  refine W.eq (g2 := entryFrame m ([.ref (ad 8), .ref (ad 18)] : List Value).toArray 3) (by rw [ha]) ?_
  rw [lg_entry_eq]
  generalize (lg_sl ([.ref (ad 8), .ref (ad 18)]) ++ List.replicate (3 - (lg_sl ([.ref (ad 8), .ref (ad 18)])).length) Slot.unset).toArray = ls at hl ⊢
  have hl : lv_has ls 3 [(0, .ref (ad 8)), (1, .ref (ad 18))] := hl
  refine lv_iconst (v := nI 0) hx hb dX2_copyFrom_0 (by decide) ?_
  refine lv_istore_n (lv' := [(2, .int (nI 0)), (0, .ref (ad 8)), (1, .ref (ad 18))]) hx hb dX2_copyFrom_1 rfl hl (by decide) rfl (fun ls hl => ?_)
  have e0 := q_copy_0 p2 p0
  have hP : va_P D vwCl (WW ad cJ cI cZ bm pa (q_copyU p2 p0 0) p1 p2 li wi mt ms ma mp mk mn ou) s.heap := by rw [← e0]; exact hP
  have hD : va_D A (WW ad cJ cI cZ bm pa (q_copyU p2 p0 0) p1 p2 li wi mt ms ma mp mk mn ou) := by rw [← e0]; exact hD
  exact lp (pa.2.2.2.2.2.2 + 1) 0 (by omega) (by omega) _ _ hP hD hS _ (lv_sub hl [1, 2, 0] rfl)
