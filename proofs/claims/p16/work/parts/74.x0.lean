set_option maxHeartbeats 4000000 in
set_option maxRecDepth 100000 in
theorem X_add1 {l : Launch} {D : va_G} {ad : Nat → Nat} {cJ cI cZ : ClassId} {bm : gBM} {pa : gPA} {p0 p1 p2 : gPL} {li : gLI} {wi : gWI} {mt : Nat} {ms : gMS} {ma : gMA} {mp : gMP} {mk : gMK} {mn : gMN} {ou : Nat → Int64} {zA zB : Int64} {zC : Nat} (hq : pa.2.2.2.2.2.2 < 40) : bm_Wr l yX1_add wsX1_add ({ frames := 0, cells := 0, slots := 0, locals := 0 }) D vwCl [(cJ, .long), (cI, .int), (cZ, .boolean)] (WW ad cJ cI cZ bm pa p0 p1 p2 li wi mt ms ma mp mk mn ou) [.ref (ad 1), .long zA, .long zB, .int (nI zC)] (WW ad cJ cI cZ bm (va_up pa.1 pa.2.2.2.2.2.2 zA, va_up pa.2.1 pa.2.2.2.2.2.2 zB, va_up pa.2.2.1 pa.2.2.2.2.2.2 zC, pa.2.2.2.1, pa.2.2.2.2.1, va_up pa.2.2.2.2.2.1 pa.2.2.2.2.2.2 pa.2.2.2.2.2.2, pa.2.2.2.2.2.2 + 1) p0 p1 p2 li wi mt ms ma mp mk mn ou) (some (.int (nI ((pa.2.2.2.2.2.2 + 1) - 1)))) := by
  intro sz
  refine Met.ofW (cc := cX1_add) (maxL := 6) (ret := (some .int)) (by decide) rfl ?_
  intro p e s m args below meth c s₁ B hml hv
  obtain ⟨ha, hsz, hP, hK, hD0⟩ := hv
  have hx := B.exec
  have hb := B.bytes
  have hr := B.returns
  have hts := atoms_spec (ws := wsX1_add) B.pre
  have hown : s.vm.findClass RX1 = some m.cls := findClass_of_methodNamed B.named
  have hlocks := B.notSynchronized
  subst hsz
  have hD := hD0.self (sz := s.heap.size)
  generalize hAe : va_A (WW ad cJ cI cZ bm pa p0 p1 p2 li wi mt ms ma mp mk mn ou) s.heap.size = A at hD ⊢
  have hA : ∀ q : Nat, s.heap.size ≤ q → A q := fun q h => by rw [← hAe]; exact Or.inr h
  have hS : va_S A s.heap s.heap [] := va_S.rf
  have hl := lv_entry ([.ref (ad 1), .long zA, .long zB, .int (nI zC)]) (n := 6) (Nat.le_of_ble_eq_true rfl)
  refine W.eq (g2 := entryFrame m ([.ref (ad 1), .long zA, .long zB, .int (nI zC)] : List Value).toArray 6) (by rw [ha]) ?_
  rw [lg_entry_eq]
  generalize (lg_sl ([.ref (ad 1), .long zA, .long zB, .int (nI zC)]) ++ List.replicate (6 - (lg_sl ([.ref (ad 1), .long zA, .long zB, .int (nI zC)])).length) Slot.unset).toArray = ls at hl ⊢
  have hl : lv_has ls 6 [(0, .ref (ad 1)), (1, .long zA), (3, .long zB), (5, .int (nI zC))] := hl
  refine lv_aload_n hx hb dX1_add_0 rfl (lv_at hl 0 rfl) ?_
  refine va_get (D := D) (ci := 1) (v := .int (nI pa.2.2.2.2.2.2)) (C := RX1) (T := TX1) (N := 7) hx hb hts (inT inX1) hown hK hP 1 ww_1 rfl 6 (by decide) (hts (.fieldLink RX1 32 "BoardMoves$Parts" "count" "I") (List.mem_cons_of_mem _ flX1_32)) (fun _ h9 => h9) rfl dX1_add_1 ?_
  refine lv_bipush (v := nI 40) hx hb dX1_add_4 (by decide) ?_
  refine bm_ni_lt (x := pa.2.2.2.2.2.2) (y := 40) (tgt := 11) hx hb (by omega) (by omega) dX1_add_6 (by decide) (fun c_1 => ?_) (fun c_1 => ?_)
  · refine lv_aload_n hx hb dX1_add_11 rfl (lv_at hl 0 rfl) ?_
    refine va_get (D := D) (ci := 1) (v := .ref (ad 2)) (C := RX1) (T := TX1) (N := 7) hx hb hts (inT inX1) hown hK hP 1 ww_1 rfl 0 (by decide) (hts (.fieldLink RX1 9 "BoardMoves$Parts" "w" "[J") (List.mem_cons_of_mem _ flX1_9)) (fun _ h9 => h9) rfl dX1_add_12 ?_
    refine lv_aload_n hx hb dX1_add_15 rfl (lv_at hl 0 rfl) ?_
    refine va_get (D := D) (ci := 1) (v := .int (nI pa.2.2.2.2.2.2)) (C := RX1) (T := TX1) (N := 7) hx hb hts (inT inX1) hown hK hP 1 ww_1 rfl 6 (by decide) (hts (.fieldLink RX1 32 "BoardMoves$Parts" "count" "I") (List.mem_cons_of_mem _ flX1_32)) (fun _ h9 => h9) rfl dX1_add_16 ?_
    refine lv_lload_n hx hb dX1_add_19 rfl (lv_at hl 1 rfl) ?_
    refine bm_last (f := pa.1) hx hb hK hP hD hS 2 0 ww_2 rfl (j := pa.2.2.2.2.2.2) (x := zA) (by omega) (by decide) dX1_add_20 (fun H locs hP hD hS => ?_)
    have hP : va_P D vwCl (WW ad cJ cI cZ bm (va_up pa.1 pa.2.2.2.2.2.2 zA, pa.2.1, pa.2.2.1, pa.2.2.2.1, pa.2.2.2.2.1, pa.2.2.2.2.2.1, pa.2.2.2.2.2.2) p0 p1 p2 li wi mt ms ma mp mk mn ou) H := hP
    have hD : va_D A (WW ad cJ cI cZ bm (va_up pa.1 pa.2.2.2.2.2.2 zA, pa.2.1, pa.2.2.1, pa.2.2.2.1, pa.2.2.2.2.1, pa.2.2.2.2.2.1, pa.2.2.2.2.2.2) p0 p1 p2 li wi mt ms ma mp mk mn ou) := hD
    refine lv_aload_n hx hb dX1_add_21 rfl (lv_at hl 0 rfl) ?_
    refine va_get (D := D) (ci := 1) (v := .ref (ad 3)) (C := RX1) (T := TX1) (N := 7) hx hb hts (inT inX1) hown hK hP 1 ww_1 rfl 1 (by decide) (hts (.fieldLink RX1 15 "BoardMoves$Parts" "h" "[J") (List.mem_cons_of_mem _ flX1_15)) (fun _ h9 => h9) rfl dX1_add_22 ?_
    refine lv_aload_n hx hb dX1_add_25 rfl (lv_at hl 0 rfl) ?_
    refine va_get (D := D) (ci := 1) (v := .int (nI pa.2.2.2.2.2.2)) (C := RX1) (T := TX1) (N := 7) hx hb hts (inT inX1) hown hK hP 1 ww_1 rfl 6 (by decide) (hts (.fieldLink RX1 32 "BoardMoves$Parts" "count" "I") (List.mem_cons_of_mem _ flX1_32)) (fun _ h9 => h9) rfl dX1_add_26 ?_
    refine lv_lload_n hx hb dX1_add_29 rfl (lv_at hl 2 rfl) ?_
    refine bm_last (f := pa.2.1) hx hb hK hP hD hS 3 0 ww_3 rfl (j := pa.2.2.2.2.2.2) (x := zB) (by omega) (by decide) dX1_add_30 (fun H locs hP hD hS => ?_)
    have hP : va_P D vwCl (WW ad cJ cI cZ bm (va_up pa.1 pa.2.2.2.2.2.2 zA, va_up pa.2.1 pa.2.2.2.2.2.2 zB, pa.2.2.1, pa.2.2.2.1, pa.2.2.2.2.1, pa.2.2.2.2.2.1, pa.2.2.2.2.2.2) p0 p1 p2 li wi mt ms ma mp mk mn ou) H := hP
    have hD : va_D A (WW ad cJ cI cZ bm (va_up pa.1 pa.2.2.2.2.2.2 zA, va_up pa.2.1 pa.2.2.2.2.2.2 zB, pa.2.2.1, pa.2.2.2.1, pa.2.2.2.2.1, pa.2.2.2.2.2.1, pa.2.2.2.2.2.2) p0 p1 p2 li wi mt ms ma mp mk mn ou) := hD
    refine lv_aload_n hx hb dX1_add_31 rfl (lv_at hl 0 rfl) ?_
    refine va_get (D := D) (ci := 1) (v := .ref (ad 4)) (C := RX1) (T := TX1) (N := 7) hx hb hts (inT inX1) hown hK hP 1 ww_1 rfl 2 (by decide) (hts (.fieldLink RX1 18 "BoardMoves$Parts" "side" "[I") (List.mem_cons_of_mem _ flX1_18)) (fun _ h9 => h9) rfl dX1_add_32 ?_
    refine lv_aload_n hx hb dX1_add_35 rfl (lv_at hl 0 rfl) ?_
    refine va_get (D := D) (ci := 1) (v := .int (nI pa.2.2.2.2.2.2)) (C := RX1) (T := TX1) (N := 7) hx hb hts (inT inX1) hown hK hP 1 ww_1 rfl 6 (by decide) (hts (.fieldLink RX1 32 "BoardMoves$Parts" "count" "I") (List.mem_cons_of_mem _ flX1_32)) (fun _ h9 => h9) rfl dX1_add_36 ?_
    refine lv_iload hx hb dX1_add_39 (lv_at hl 3 rfl) ?_
    refine bm_nast (f := pa.2.2.1) hx hb hK hP hD hS 4 1 ww_4 rfl (j := pa.2.2.2.2.2.2) (x := zC) (by omega) (by decide) dX1_add_41 (fun H locs hP hD hS => ?_)
    have hP : va_P D vwCl (WW ad cJ cI cZ bm (va_up pa.1 pa.2.2.2.2.2.2 zA, va_up pa.2.1 pa.2.2.2.2.2.2 zB, va_up pa.2.2.1 pa.2.2.2.2.2.2 zC, pa.2.2.2.1, pa.2.2.2.2.1, pa.2.2.2.2.2.1, pa.2.2.2.2.2.2) p0 p1 p2 li wi mt ms ma mp mk mn ou) H := hP
    have hD : va_D A (WW ad cJ cI cZ bm (va_up pa.1 pa.2.2.2.2.2.2 zA, va_up pa.2.1 pa.2.2.2.2.2.2 zB, va_up pa.2.2.1 pa.2.2.2.2.2.2 zC, pa.2.2.2.1, pa.2.2.2.2.1, pa.2.2.2.2.2.1, pa.2.2.2.2.2.2) p0 p1 p2 li wi mt ms ma mp mk mn ou) := hD
    refine lv_aload_n hx hb dX1_add_42 rfl (lv_at hl 0 rfl) ?_
    refine va_get (D := D) (ci := 1) (v := .ref (ad 7)) (C := RX1) (T := TX1) (N := 7) hx hb hts (inT inX1) hown hK hP 1 ww_1 rfl 5 (by decide) (hts (.fieldLink RX1 29 "BoardMoves$Parts" "lowest" "[I") (List.mem_cons_of_mem _ flX1_29)) (fun _ h9 => h9) rfl dX1_add_43 ?_
    refine lv_aload_n hx hb dX1_add_46 rfl (lv_at hl 0 rfl) ?_
    refine va_get (D := D) (ci := 1) (v := .int (nI pa.2.2.2.2.2.2)) (C := RX1) (T := TX1) (N := 7) hx hb hts (inT inX1) hown hK hP 1 ww_1 rfl 6 (by decide) (hts (.fieldLink RX1 32 "BoardMoves$Parts" "count" "I") (List.mem_cons_of_mem _ flX1_32)) (fun _ h9 => h9) rfl dX1_add_47 ?_
    refine lv_aload_n hx hb dX1_add_50 rfl (lv_at hl 0 rfl) ?_
    refine va_get (D := D) (ci := 1) (v := .int (nI pa.2.2.2.2.2.2)) (C := RX1) (T := TX1) (N := 7) hx hb hts (inT inX1) hown hK hP 1 ww_1 rfl 6 (by decide) (hts (.fieldLink RX1 32 "BoardMoves$Parts" "count" "I") (List.mem_cons_of_mem _ flX1_32)) (fun _ h9 => h9) rfl dX1_add_51 ?_
    refine bm_nast (f := pa.2.2.2.2.2.1) hx hb hK hP hD hS 7 1 ww_7 rfl (j := pa.2.2.2.2.2.2) (x := pa.2.2.2.2.2.2) (by omega) (by decide) dX1_add_54 (fun H locs hP hD hS => ?_)
    have hP : va_P D vwCl (WW ad cJ cI cZ bm (va_up pa.1 pa.2.2.2.2.2.2 zA, va_up pa.2.1 pa.2.2.2.2.2.2 zB, va_up pa.2.2.1 pa.2.2.2.2.2.2 zC, pa.2.2.2.1, pa.2.2.2.2.1, va_up pa.2.2.2.2.2.1 pa.2.2.2.2.2.2 pa.2.2.2.2.2.2, pa.2.2.2.2.2.2) p0 p1 p2 li wi mt ms ma mp mk mn ou) H := hP
    have hD : va_D A (WW ad cJ cI cZ bm (va_up pa.1 pa.2.2.2.2.2.2 zA, va_up pa.2.1 pa.2.2.2.2.2.2 zB, va_up pa.2.2.1 pa.2.2.2.2.2.2 zC, pa.2.2.2.1, pa.2.2.2.2.1, va_up pa.2.2.2.2.2.1 pa.2.2.2.2.2.2 pa.2.2.2.2.2.2, pa.2.2.2.2.2.2) p0 p1 p2 li wi mt ms ma mp mk mn ou) := hD
    refine lv_aload_n hx hb dX1_add_55 rfl (lv_at hl 0 rfl) ?_
    refine lv_dup hx hb dX1_add_56 rfl ?_
    refine va_get (D := D) (ci := 1) (v := .int (nI pa.2.2.2.2.2.2)) (C := RX1) (T := TX1) (N := 7) hx hb hts (inT inX1) hown hK hP 1 ww_1 rfl 6 (by decide) (hts (.fieldLink RX1 32 "BoardMoves$Parts" "count" "I") (List.mem_cons_of_mem _ flX1_32)) (fun _ h9 => h9) rfl dX1_add_57 ?_
    refine lv_iconst (v := nI 1) hx hb dX1_add_60 (by decide) ?_
    refine bm_nadd hx hb dX1_add_61 ?_
    refine va_put (D := D) (ci := 1) (v := .int (nI (pa.2.2.2.2.2.2 + 1))) (ty := .int) (C := RX1) (T := TX1) (N := 7) hx hb hts (inT inX1) tyX1 tyX1_ok nmX1 hown hK hP hD hS 1 ww_1 rfl 6 (by decide) (hts (.fieldLink RX1 32 "BoardMoves$Parts" "count" "I") (List.mem_cons_of_mem _ flX1_32)) (fun _ h9 => h9) rfl (by decide +kernel) rfl rfl (Nat.le_of_ble_eq_true rfl) dX1_add_62 (fun H locs hP hD hS => ?_)
    have hP : va_P D vwCl (WW ad cJ cI cZ bm (va_up pa.1 pa.2.2.2.2.2.2 zA, va_up pa.2.1 pa.2.2.2.2.2.2 zB, va_up pa.2.2.1 pa.2.2.2.2.2.2 zC, pa.2.2.2.1, pa.2.2.2.2.1, va_up pa.2.2.2.2.2.1 pa.2.2.2.2.2.2 pa.2.2.2.2.2.2, pa.2.2.2.2.2.2 + 1) p0 p1 p2 li wi mt ms ma mp mk mn ou) H := hP
    have hD : va_D A (WW ad cJ cI cZ bm (va_up pa.1 pa.2.2.2.2.2.2 zA, va_up pa.2.1 pa.2.2.2.2.2.2 zB, va_up pa.2.2.1 pa.2.2.2.2.2.2 zC, pa.2.2.2.1, pa.2.2.2.2.1, va_up pa.2.2.2.2.2.1 pa.2.2.2.2.2.2 pa.2.2.2.2.2.2, pa.2.2.2.2.2.2 + 1) p0 p1 p2 li wi mt ms ma mp mk mn ou) := hD
    refine lv_aload_n hx hb dX1_add_65 rfl (lv_at hl 0 rfl) ?_
    refine va_get (D := D) (ci := 1) (v := .int (nI (pa.2.2.2.2.2.2 + 1))) (C := RX1) (T := TX1) (N := 7) hx hb hts (inT inX1) hown hK hP 1 ww_1 rfl 6 (by decide) (hts (.fieldLink RX1 32 "BoardMoves$Parts" "count" "I") (List.mem_cons_of_mem _ flX1_32)) (fun _ h9 => h9) rfl dX1_add_66 ?_
    refine lv_iconst (v := nI 1) hx hb dX1_add_69 (by decide) ?_
    refine bm_nsub hx hb (by omega) dX1_add_70 ?_
    exact bm_iretW (v := (nI ((pa.2.2.2.2.2.2 + 1) - 1))) hx hb hr hP hD hK hS ⟨rfl, rfl⟩ dX1_add_71 hlocks
  · exfalso; omega

set_option maxHeartbeats 4000000 in
set_option maxRecDepth 100000 in
theorem X_part1 {l : Launch} {D : va_G} {ad : Nat → Nat} {cJ cI cZ : ClassId} {bm : gBM} {pa : gPA} {p0 p1 p2 : gPL} {li : gLI} {wi : gWI} {mt : Nat} {ms : gMS} {ma : gMA} {mp : gMP} {mk : gMK} {mn : gMN} {ou : Nat → Int64} {zA zB : Int64} {zC : Nat} (h1 : q_len zA = true) (h2 : q_len zB = true) (h3 : zC < 2) (hq : pa.2.2.2.2.2.2 < 40) : bm_Wr l yX4_part wsX4_part ({ frames := 1, cells := 0, slots := 0, locals := 25 }) D vwCl [(cJ, .long), (cI, .int), (cZ, .boolean)] (WW ad cJ cI cZ bm pa p0 p1 p2 li wi mt ms ma mp mk mn ou) [.ref (ad 0), .long zA, .long zB, .int (nI zC)] (WW ad cJ cI cZ bm (va_up pa.1 pa.2.2.2.2.2.2 zA, va_up pa.2.1 pa.2.2.2.2.2.2 zB, va_up pa.2.2.1 pa.2.2.2.2.2.2 zC, pa.2.2.2.1, pa.2.2.2.2.1, va_up pa.2.2.2.2.2.1 pa.2.2.2.2.2.2 pa.2.2.2.2.2.2, pa.2.2.2.2.2.2 + 1) p0 p1 p2 li wi mt ms ma mp mk mn ou) (some (.int (nI ((pa.2.2.2.2.2.2 + 1) - 1)))) := by
  intro sz
  refine Met.ofW (cc := cX4_part) (maxL := 6) (ret := (some .int)) (by decide) rfl ?_
  intro p e s m args below meth c s₁ B hml hv
  obtain ⟨ha, hsz, hP, hK, hD0⟩ := hv
  have hx := B.exec
  have hb := B.bytes
  have hr := B.returns
  have hts := atoms_spec (ws := wsX4_part) B.pre
  have hown : s.vm.findClass RX4 = some m.cls := findClass_of_methodNamed B.named
  have hlocks := B.notSynchronized
  subst hsz
  have hD := hD0.self (sz := s.heap.size)
  generalize hAe : va_A (WW ad cJ cI cZ bm pa p0 p1 p2 li wi mt ms ma mp mk mn ou) s.heap.size = A at hD ⊢
  have hA : ∀ q : Nat, s.heap.size ≤ q → A q := fun q h => by rw [← hAe]; exact Or.inr h
  have hS : va_S A s.heap s.heap [] := va_S.rf
  have hl := lv_entry ([.ref (ad 0), .long zA, .long zB, .int (nI zC)]) (n := 6) (Nat.le_of_ble_eq_true rfl)
  refine W.eq (g2 := entryFrame m ([.ref (ad 0), .long zA, .long zB, .int (nI zC)] : List Value).toArray 6) (by rw [ha]) ?_
  rw [lg_entry_eq]
  generalize (lg_sl ([.ref (ad 0), .long zA, .long zB, .int (nI zC)]) ++ List.replicate (6 - (lg_sl ([.ref (ad 0), .long zA, .long zB, .int (nI zC)])).length) Slot.unset).toArray = ls at hl ⊢
  have hl : lv_has ls 6 [(0, .ref (ad 0)), (1, .long zA), (3, .long zB), (5, .int (nI zC))] := hl
  refine lv_lload_n hx hb dX4_part_0 rfl (lv_at hl 1 rfl) ?_
  refine bm_rcallS (As := [.long zA]) (rest := []) ⟨hx, hb, hml, hown, hts⟩ (k_len) (cwS 1 hts gsX4_71 rfl rfl rfl hsX4_isLength ⟨Nat.le_of_ble_eq_true rfl, Nat.le_of_ble_eq_true rfl⟩) hK hP rfl hl.1 rfl (Nat.le_of_ble_eq_true rfl) dX4_part_1 ⟨Nat.le_of_ble_eq_true rfl, Nat.le_of_ble_eq_true rfl⟩ ?_
  refine bm_zb_eq (x := (q_len zA)) (tgt := 25) hx hb dX4_part_4 (by decide) (fun c_1 => ?_) (fun c_1 => ?_)
  · exact absurd (h1.symm.trans c_1) (by decide)
  · refine lv_lload_n hx hb dX4_part_7 rfl (lv_at hl 2 rfl) ?_
    refine bm_rcallS (As := [.long zB]) (rest := []) ⟨hx, hb, hml, hown, hts⟩ (k_len) (cwS 1 hts gsX4_71 rfl rfl rfl hsX4_isLength ⟨Nat.le_of_ble_eq_true rfl, Nat.le_of_ble_eq_true rfl⟩) hK hP rfl hl.1 rfl (Nat.le_of_ble_eq_true rfl) dX4_part_8 ⟨Nat.le_of_ble_eq_true rfl, Nat.le_of_ble_eq_true rfl⟩ ?_
    refine bm_zb_eq (x := (q_len zB)) (tgt := 25) hx hb dX4_part_11 (by decide) (fun c_2 => ?_) (fun c_2 => ?_)
    · exact absurd (h2.symm.trans c_2) (by decide)
    · refine lv_iload hx hb dX4_part_14 (lv_at hl 3 rfl) ?_
      refine lv_if_lt (x := (nI zC)) (tgt := 25) hx hb dX4_part_16 (by decide) (fun c_3 => ?_) (fun c_3 => ?_)
      · exact absurd c_3 (bx_nlt0 h3)
      · refine lv_iload hx hb dX4_part_19 (lv_at hl 3 rfl) ?_
        refine lv_iconst (v := nI 1) hx hb dX4_part_21 (by decide) ?_
        refine lv_icmp_le (x := (nI zC)) (y := (nI 1)) (tgt := 35) hx hb dX4_part_22 (by decide) (fun c_4 => ?_) (fun c_4 => ?_)
        · refine lv_aload_n hx hb dX4_part_35 rfl (lv_at hl 0 rfl) ?_
          refine va_get (D := D) (ci := 4) (v := .ref (ad 1)) (C := RX4) (T := TX4) (N := 10) hx hb hts (inT inX4) hown hK hP 0 ww_0 rfl 2 (by decide) (hts (.fieldLink RX4 12 "BoardMoves" "parts" "LBoardMoves$Parts;") (List.mem_cons_of_mem _ flX4_12)) (fun _ h9 => h9) rfl dX4_part_36 ?_
          refine lv_lload_n hx hb dX4_part_39 rfl (lv_at hl 1 rfl) ?_
          refine lv_lload_n hx hb dX4_part_40 rfl (lv_at hl 2 rfl) ?_
          refine lv_iload hx hb dX4_part_41 (lv_at hl 3 rfl) ?_
          refine bm_wcallV (As := [.long zA, .long zB, .int (nI zC)]) (rest := []) ⟨hx, hb, hml, hown, hts⟩ (X_add1 hq) (cwV 3 hts gvX4_82 rfl rfl rfl hvX1_add ⟨Nat.le_of_ble_eq_true rfl, Nat.le_of_ble_eq_true rfl⟩) hK hP hD hS hA 1 1 rfl ww_1 rfl hl.1 rfl (Nat.le_of_ble_eq_true rfl) dX4_part_43 ⟨Nat.le_of_ble_eq_true rfl, Nat.le_of_ble_eq_true rfl⟩ (fun H locs hP hD hS => ?_)
          have hP : va_P D vwCl (WW ad cJ cI cZ bm (va_up pa.1 pa.2.2.2.2.2.2 zA, va_up pa.2.1 pa.2.2.2.2.2.2 zB, va_up pa.2.2.1 pa.2.2.2.2.2.2 zC, pa.2.2.2.1, pa.2.2.2.2.1, va_up pa.2.2.2.2.2.1 pa.2.2.2.2.2.2 pa.2.2.2.2.2.2, pa.2.2.2.2.2.2 + 1) p0 p1 p2 li wi mt ms ma mp mk mn ou) H := hP
          have hD : va_D A (WW ad cJ cI cZ bm (va_up pa.1 pa.2.2.2.2.2.2 zA, va_up pa.2.1 pa.2.2.2.2.2.2 zB, va_up pa.2.2.1 pa.2.2.2.2.2.2 zC, pa.2.2.2.1, pa.2.2.2.2.1, va_up pa.2.2.2.2.2.1 pa.2.2.2.2.2.2 pa.2.2.2.2.2.2, pa.2.2.2.2.2.2 + 1) p0 p1 p2 li wi mt ms ma mp mk mn ou) := hD
          exact bm_iretW (v := (nI ((pa.2.2.2.2.2.2 + 1) - 1))) hx hb hr hP hD hK hS ⟨rfl, rfl⟩ dX4_part_46 hlocks
        · exact absurd (bx_le1 h3) c_4

set_option maxHeartbeats 4000000 in
set_option maxRecDepth 100000 in
theorem E_part1 {l : Launch} (hlt : l.stackTraces = false) {D : va_G} {ad : Nat → Nat} {cJ cI cZ : ClassId} {bm : gBM} {pa : gPA} {p0 p1 p2 : gPL} {li : gLI} {wi : gWI} {mt : Nat} {ms : gMS} {ma : gMA} {mp : gMP} {mk : gMK} {mn : gMN} {ou : Nat → Int64} {zA zB : Int64} {zC : Nat} (h1 : q_len zA = true) (h2 : q_len zB = true) (h3 : zC < 2) (hq : pa.2.2.2.2.2.2 < 40) (sz : Nat) : Met l yL_part wsL_part ({ frames := 2, cells := 1, slots := 6, locals := 50 }) (bx_Hp D vwCl [(cJ, .long), (cI, .int), (cZ, .boolean)] (WW ad cJ cI cZ bm pa p0 p1 p2 li wi mt ms ma mp mk mn ou) [.ref (ad 0), .long zA, .long zB, .int (nI zC), .ref (ad 62)] sz) (bm_Wq D vwCl [(cJ, .long), (cI, .int), (cZ, .boolean)] (WW ad cJ cI cZ bm (va_up pa.1 pa.2.2.2.2.2.2 zA, va_up pa.2.1 pa.2.2.2.2.2.2 zB, va_up pa.2.2.1 pa.2.2.2.2.2.2 zC, pa.2.2.2.1, pa.2.2.2.2.1, va_up pa.2.2.2.2.2.1 pa.2.2.2.2.2.2 pa.2.2.2.2.2.2, pa.2.2.2.2.2.2 + 1) p0 p1 p2 li wi mt ms ma mp mk mn (va_up ou 0 ((nI ((pa.2.2.2.2.2.2 + 1) - 1)).toInt64))) (some (.int (nI 0))) (va_A (WW ad cJ cI cZ bm pa p0 p1 p2 li wi mt ms ma mp mk mn ou) sz)) 1 6 (va_A (WW ad cJ cI cZ bm pa p0 p1 p2 li wi mt ms ma mp mk mn ou) sz) := by
  refine bx_ofWH (cc := cL_part) (maxL := 8) (ret := (some .int)) (hs := [(0, 13, 16, 13)]) (by decide) rfl ?_
  intro p e s m args below meth c s₁ B hml htab hv
  obtain ⟨ha, hsz, hP, hK, hD0, hX, hZ⟩ := hv
  have hx := B.exec
  have hb := B.bytes
  have hr := B.returns
  have hts := atoms_spec (ws := wsL_part) B.pre
  have hown : s.vm.findClass RL = some m.cls := findClass_of_methodNamed B.named
  have hlocks := B.notSynchronized
  subst hsz
  have hD := hD0.self (sz := s.heap.size)
  generalize hAe : va_A (WW ad cJ cI cZ bm pa p0 p1 p2 li wi mt ms ma mp mk mn ou) s.heap.size = A at hD ⊢
  have hA : ∀ q : Nat, s.heap.size ≤ q → A q := fun q h => by rw [← hAe]; exact Or.inr h
  have hS : va_S A s.heap s.heap [] := va_S.rf
  have hl := lv_entry ([.ref (ad 0), .long zA, .long zB, .int (nI zC), .ref (ad 62)]) (n := 8) (Nat.le_of_ble_eq_true rfl)
  refine W.eq (g2 := entryFrame m ([.ref (ad 0), .long zA, .long zB, .int (nI zC), .ref (ad 62)] : List Value).toArray 8) (by rw [ha]) ?_
  rw [lg_entry_eq]
  generalize (lg_sl ([.ref (ad 0), .long zA, .long zB, .int (nI zC), .ref (ad 62)]) ++ List.replicate (8 - (lg_sl ([.ref (ad 0), .long zA, .long zB, .int (nI zC), .ref (ad 62)])).length) Slot.unset).toArray = ls at hl ⊢
  have hl : lv_has ls 8 [(0, .ref (ad 0)), (1, .long zA), (3, .long zB), (5, .int (nI zC)), (6, .ref (ad 62))] := hl
  refine lv_aload hx hb dL_part_0 (lv_at hl 4 rfl) ?_
  refine lv_iconst (v := nI 0) hx hb dL_part_2 (by decide) ?_
  refine lv_aload_n hx hb dL_part_3 rfl (lv_at hl 0 rfl) ?_
  refine lv_lload_n hx hb dL_part_4 rfl (lv_at hl 1 rfl) ?_
  refine lv_lload_n hx hb dL_part_5 rfl (lv_at hl 2 rfl) ?_
  refine lv_iload hx hb dL_part_6 (lv_at hl 3 rfl) ?_
  refine bm_wcallV (As := [.long zA, .long zB, .int (nI zC)]) (rest := [.int (nI 0), .ref (ad 62)]) ⟨hx, hb, hml, hown, hts⟩ (X_part1 h1 h2 h3 hq) (cwV 3 hts gwL_7 rfl rfl rfl hvX4_part ⟨Nat.le_of_ble_eq_true rfl, Nat.le_of_ble_eq_true rfl⟩) hK hP hD hS hA 0 4 rfl ww_0 rfl hl.1 rfl (Nat.le_of_ble_eq_true rfl) dL_part_8 ⟨Nat.le_of_ble_eq_true rfl, Nat.le_of_ble_eq_true rfl⟩ (fun H locs hP hD hS => ?_)
  have hP : va_P D vwCl (WW ad cJ cI cZ bm (va_up pa.1 pa.2.2.2.2.2.2 zA, va_up pa.2.1 pa.2.2.2.2.2.2 zB, va_up pa.2.2.1 pa.2.2.2.2.2.2 zC, pa.2.2.2.1, pa.2.2.2.2.1, va_up pa.2.2.2.2.2.1 pa.2.2.2.2.2.2 pa.2.2.2.2.2.2, pa.2.2.2.2.2.2 + 1) p0 p1 p2 li wi mt ms ma mp mk mn ou) H := hP
  have hD : va_D A (WW ad cJ cI cZ bm (va_up pa.1 pa.2.2.2.2.2.2 zA, va_up pa.2.1 pa.2.2.2.2.2.2 zB, va_up pa.2.2.1 pa.2.2.2.2.2.2 zC, pa.2.2.2.1, pa.2.2.2.2.1, va_up pa.2.2.2.2.2.1 pa.2.2.2.2.2.2 pa.2.2.2.2.2.2, pa.2.2.2.2.2.2 + 1) p0 p1 p2 li wi mt ms ma mp mk mn ou) := hD
  refine lv_i2l (v := (nI ((pa.2.2.2.2.2.2 + 1) - 1)).toInt64) hx hb dL_part_11 rfl ?_
  refine bm_last (f := ou) hx hb hK hP hD hS 62 0 ww_62 rfl (j := 0) (x := ((nI ((pa.2.2.2.2.2.2 + 1) - 1)).toInt64)) (by omega) (by decide) dL_part_12 (fun H locs hP hD hS => ?_)
  have hP : va_P D vwCl (WW ad cJ cI cZ bm (va_up pa.1 pa.2.2.2.2.2.2 zA, va_up pa.2.1 pa.2.2.2.2.2.2 zB, va_up pa.2.2.1 pa.2.2.2.2.2.2 zC, pa.2.2.2.1, pa.2.2.2.2.1, va_up pa.2.2.2.2.2.1 pa.2.2.2.2.2.2 pa.2.2.2.2.2.2, pa.2.2.2.2.2.2 + 1) p0 p1 p2 li wi mt ms ma mp mk mn (va_up ou 0 ((nI ((pa.2.2.2.2.2.2 + 1) - 1)).toInt64))) H := hP
  have hD : va_D A (WW ad cJ cI cZ bm (va_up pa.1 pa.2.2.2.2.2.2 zA, va_up pa.2.1 pa.2.2.2.2.2.2 zB, va_up pa.2.2.1 pa.2.2.2.2.2.2 zC, pa.2.2.2.1, pa.2.2.2.2.1, va_up pa.2.2.2.2.2.1 pa.2.2.2.2.2.2 pa.2.2.2.2.2.2, pa.2.2.2.2.2.2 + 1) p0 p1 p2 li wi mt ms ma mp mk mn (va_up ou 0 ((nI ((pa.2.2.2.2.2.2 + 1) - 1)).toInt64))) := hD
  refine lv_goto (tgt := 20) hx hb dL_part_13 (by decide) ?_
  refine lv_iconst (v := nI 0) hx hb dL_part_20 (by decide) ?_
  refine W.widen (k := 1) (n := 6) (by decide) (by decide) ?_
  exact bm_iretW (v := (nI 0)) hx hb hr hP hD hK hS ⟨rfl, rfl⟩ dL_part_21 hlocks

set_option maxHeartbeats 4000000 in
set_option maxRecDepth 100000 in
theorem X_add2 {l : Launch} {D : va_G} {ad : Nat → Nat} {cJ cI cZ : ClassId} {bm : gBM} {pa : gPA} {p0 p1 p2 : gPL} {li : gLI} {wi : gWI} {mt : Nat} {ms : gMS} {ma : gMA} {mp : gMP} {mk : gMK} {mn : gMN} {ou : Nat → Int64} {zA zB : Int64} {zC : Nat} (hq : pa.2.2.2.2.2.2 = 40) : bm_Wr l yX1_add wsX1_add ({ frames := 0, cells := 0, slots := 0, locals := 0 }) D vwCl [(cJ, .long), (cI, .int), (cZ, .boolean)] (WW ad cJ cI cZ bm pa p0 p1 p2 li wi mt ms ma mp mk mn ou) [.ref (ad 1), .long zA, .long zB, .int (nI zC)] (WW ad cJ cI cZ bm pa p0 p1 p2 li wi mt ms ma mp mk mn ou) (some (.int (-1))) := by
  intro sz
  refine Met.ofW (cc := cX1_add) (maxL := 6) (ret := (some .int)) (by decide) rfl ?_
  intro p e s m args below meth c s₁ B hml hv
  obtain ⟨ha, hsz, hP, hK, hD0⟩ := hv
  have hx := B.exec
  have hb := B.bytes
  have hr := B.returns
  have hts := atoms_spec (ws := wsX1_add) B.pre
  have hown : s.vm.findClass RX1 = some m.cls := findClass_of_methodNamed B.named
  have hlocks := B.notSynchronized
  subst hsz
  have hD := hD0.self (sz := s.heap.size)
  generalize hAe : va_A (WW ad cJ cI cZ bm pa p0 p1 p2 li wi mt ms ma mp mk mn ou) s.heap.size = A at hD ⊢
  have hA : ∀ q : Nat, s.heap.size ≤ q → A q := fun q h => by rw [← hAe]; exact Or.inr h
  have hS : va_S A s.heap s.heap [] := va_S.rf
  have hl := lv_entry ([.ref (ad 1), .long zA, .long zB, .int (nI zC)]) (n := 6) (Nat.le_of_ble_eq_true rfl)
  refine W.eq (g2 := entryFrame m ([.ref (ad 1), .long zA, .long zB, .int (nI zC)] : List Value).toArray 6) (by rw [ha]) ?_
  rw [lg_entry_eq]
  generalize (lg_sl ([.ref (ad 1), .long zA, .long zB, .int (nI zC)]) ++ List.replicate (6 - (lg_sl ([.ref (ad 1), .long zA, .long zB, .int (nI zC)])).length) Slot.unset).toArray = ls at hl ⊢
  have hl : lv_has ls 6 [(0, .ref (ad 1)), (1, .long zA), (3, .long zB), (5, .int (nI zC))] := hl
  refine lv_aload_n hx hb dX1_add_0 rfl (lv_at hl 0 rfl) ?_
  refine va_get (D := D) (ci := 1) (v := .int (nI pa.2.2.2.2.2.2)) (C := RX1) (T := TX1) (N := 7) hx hb hts (inT inX1) hown hK hP 1 ww_1 rfl 6 (by decide) (hts (.fieldLink RX1 32 "BoardMoves$Parts" "count" "I") (List.mem_cons_of_mem _ flX1_32)) (fun _ h9 => h9) rfl dX1_add_1 ?_
  refine lv_bipush (v := nI 40) hx hb dX1_add_4 (by decide) ?_
  refine bm_ni_lt (x := pa.2.2.2.2.2.2) (y := 40) (tgt := 11) hx hb (by omega) (by omega) dX1_add_6 (by decide) (fun c_1 => ?_) (fun c_1 => ?_)
  · exfalso; omega
  · refine lv_iconst (v := -1) hx hb dX1_add_9 (by decide) ?_
    exact bm_iretW (v := (-1)) hx hb hr hP hD hK hS ⟨rfl, rfl⟩ dX1_add_10 hlocks

set_option maxHeartbeats 4000000 in
set_option maxRecDepth 100000 in
theorem X_part2 {l : Launch} {D : va_G} {ad : Nat → Nat} {cJ cI cZ : ClassId} {bm : gBM} {pa : gPA} {p0 p1 p2 : gPL} {li : gLI} {wi : gWI} {mt : Nat} {ms : gMS} {ma : gMA} {mp : gMP} {mk : gMK} {mn : gMN} {ou : Nat → Int64} {zA zB : Int64} {zC : Nat} (h1 : q_len zA = true) (h2 : q_len zB = true) (h3 : zC < 2) (hq : pa.2.2.2.2.2.2 = 40) : bm_Wr l yX4_part wsX4_part ({ frames := 1, cells := 0, slots := 0, locals := 25 }) D vwCl [(cJ, .long), (cI, .int), (cZ, .boolean)] (WW ad cJ cI cZ bm pa p0 p1 p2 li wi mt ms ma mp mk mn ou) [.ref (ad 0), .long zA, .long zB, .int (nI zC)] (WW ad cJ cI cZ bm pa p0 p1 p2 li wi mt ms ma mp mk mn ou) (some (.int (-1))) := by
  intro sz
  refine Met.ofW (cc := cX4_part) (maxL := 6) (ret := (some .int)) (by decide) rfl ?_
  intro p e s m args below meth c s₁ B hml hv
  obtain ⟨ha, hsz, hP, hK, hD0⟩ := hv
  have hx := B.exec
  have hb := B.bytes
  have hr := B.returns
  have hts := atoms_spec (ws := wsX4_part) B.pre
  have hown : s.vm.findClass RX4 = some m.cls := findClass_of_methodNamed B.named
  have hlocks := B.notSynchronized
  subst hsz
  have hD := hD0.self (sz := s.heap.size)
  generalize hAe : va_A (WW ad cJ cI cZ bm pa p0 p1 p2 li wi mt ms ma mp mk mn ou) s.heap.size = A at hD ⊢
  have hA : ∀ q : Nat, s.heap.size ≤ q → A q := fun q h => by rw [← hAe]; exact Or.inr h
  have hS : va_S A s.heap s.heap [] := va_S.rf
  have hl := lv_entry ([.ref (ad 0), .long zA, .long zB, .int (nI zC)]) (n := 6) (Nat.le_of_ble_eq_true rfl)
  refine W.eq (g2 := entryFrame m ([.ref (ad 0), .long zA, .long zB, .int (nI zC)] : List Value).toArray 6) (by rw [ha]) ?_
  rw [lg_entry_eq]
  generalize (lg_sl ([.ref (ad 0), .long zA, .long zB, .int (nI zC)]) ++ List.replicate (6 - (lg_sl ([.ref (ad 0), .long zA, .long zB, .int (nI zC)])).length) Slot.unset).toArray = ls at hl ⊢
  have hl : lv_has ls 6 [(0, .ref (ad 0)), (1, .long zA), (3, .long zB), (5, .int (nI zC))] := hl
  refine lv_lload_n hx hb dX4_part_0 rfl (lv_at hl 1 rfl) ?_
  refine bm_rcallS (As := [.long zA]) (rest := []) ⟨hx, hb, hml, hown, hts⟩ (k_len) (cwS 1 hts gsX4_71 rfl rfl rfl hsX4_isLength ⟨Nat.le_of_ble_eq_true rfl, Nat.le_of_ble_eq_true rfl⟩) hK hP rfl hl.1 rfl (Nat.le_of_ble_eq_true rfl) dX4_part_1 ⟨Nat.le_of_ble_eq_true rfl, Nat.le_of_ble_eq_true rfl⟩ ?_
  refine bm_zb_eq (x := (q_len zA)) (tgt := 25) hx hb dX4_part_4 (by decide) (fun c_1 => ?_) (fun c_1 => ?_)
  · exact absurd (h1.symm.trans c_1) (by decide)
  · refine lv_lload_n hx hb dX4_part_7 rfl (lv_at hl 2 rfl) ?_
    refine bm_rcallS (As := [.long zB]) (rest := []) ⟨hx, hb, hml, hown, hts⟩ (k_len) (cwS 1 hts gsX4_71 rfl rfl rfl hsX4_isLength ⟨Nat.le_of_ble_eq_true rfl, Nat.le_of_ble_eq_true rfl⟩) hK hP rfl hl.1 rfl (Nat.le_of_ble_eq_true rfl) dX4_part_8 ⟨Nat.le_of_ble_eq_true rfl, Nat.le_of_ble_eq_true rfl⟩ ?_
    refine bm_zb_eq (x := (q_len zB)) (tgt := 25) hx hb dX4_part_11 (by decide) (fun c_2 => ?_) (fun c_2 => ?_)
    · exact absurd (h2.symm.trans c_2) (by decide)
    · refine lv_iload hx hb dX4_part_14 (lv_at hl 3 rfl) ?_
      refine lv_if_lt (x := (nI zC)) (tgt := 25) hx hb dX4_part_16 (by decide) (fun c_3 => ?_) (fun c_3 => ?_)
      · exact absurd c_3 (bx_nlt0 h3)
      · refine lv_iload hx hb dX4_part_19 (lv_at hl 3 rfl) ?_
        refine lv_iconst (v := nI 1) hx hb dX4_part_21 (by decide) ?_
        refine lv_icmp_le (x := (nI zC)) (y := (nI 1)) (tgt := 35) hx hb dX4_part_22 (by decide) (fun c_4 => ?_) (fun c_4 => ?_)
        · refine lv_aload_n hx hb dX4_part_35 rfl (lv_at hl 0 rfl) ?_
          refine va_get (D := D) (ci := 4) (v := .ref (ad 1)) (C := RX4) (T := TX4) (N := 10) hx hb hts (inT inX4) hown hK hP 0 ww_0 rfl 2 (by decide) (hts (.fieldLink RX4 12 "BoardMoves" "parts" "LBoardMoves$Parts;") (List.mem_cons_of_mem _ flX4_12)) (fun _ h9 => h9) rfl dX4_part_36 ?_
          refine lv_lload_n hx hb dX4_part_39 rfl (lv_at hl 1 rfl) ?_
          refine lv_lload_n hx hb dX4_part_40 rfl (lv_at hl 2 rfl) ?_
          refine lv_iload hx hb dX4_part_41 (lv_at hl 3 rfl) ?_
          refine bm_wcallV (As := [.long zA, .long zB, .int (nI zC)]) (rest := []) ⟨hx, hb, hml, hown, hts⟩ (X_add2 hq) (cwV 3 hts gvX4_82 rfl rfl rfl hvX1_add ⟨Nat.le_of_ble_eq_true rfl, Nat.le_of_ble_eq_true rfl⟩) hK hP hD hS hA 1 1 rfl ww_1 rfl hl.1 rfl (Nat.le_of_ble_eq_true rfl) dX4_part_43 ⟨Nat.le_of_ble_eq_true rfl, Nat.le_of_ble_eq_true rfl⟩ (fun H locs hP hD hS => ?_)
          have hP : va_P D vwCl (WW ad cJ cI cZ bm pa p0 p1 p2 li wi mt ms ma mp mk mn ou) H := hP
          have hD : va_D A (WW ad cJ cI cZ bm pa p0 p1 p2 li wi mt ms ma mp mk mn ou) := hD
          exact bm_iretW (v := (-1)) hx hb hr hP hD hK hS ⟨rfl, rfl⟩ dX4_part_46 hlocks
        · exact absurd (bx_le1 h3) c_4

set_option maxHeartbeats 4000000 in
set_option maxRecDepth 100000 in
theorem E_part2 {l : Launch} (hlt : l.stackTraces = false) {D : va_G} {ad : Nat → Nat} {cJ cI cZ : ClassId} {bm : gBM} {pa : gPA} {p0 p1 p2 : gPL} {li : gLI} {wi : gWI} {mt : Nat} {ms : gMS} {ma : gMA} {mp : gMP} {mk : gMK} {mn : gMN} {ou : Nat → Int64} {zA zB : Int64} {zC : Nat} (h1 : q_len zA = true) (h2 : q_len zB = true) (h3 : zC < 2) (hq : pa.2.2.2.2.2.2 = 40) (sz : Nat) : Met l yL_part wsL_part ({ frames := 2, cells := 1, slots := 6, locals := 50 }) (bx_Hp D vwCl [(cJ, .long), (cI, .int), (cZ, .boolean)] (WW ad cJ cI cZ bm pa p0 p1 p2 li wi mt ms ma mp mk mn ou) [.ref (ad 0), .long zA, .long zB, .int (nI zC), .ref (ad 62)] sz) (bm_Wq D vwCl [(cJ, .long), (cI, .int), (cZ, .boolean)] (WW ad cJ cI cZ bm pa p0 p1 p2 li wi mt ms ma mp mk mn (va_up ou 0 ((-1).toInt64))) (some (.int (nI 0))) (va_A (WW ad cJ cI cZ bm pa p0 p1 p2 li wi mt ms ma mp mk mn ou) sz)) 1 6 (va_A (WW ad cJ cI cZ bm pa p0 p1 p2 li wi mt ms ma mp mk mn ou) sz) := by
  refine bx_ofWH (cc := cL_part) (maxL := 8) (ret := (some .int)) (hs := [(0, 13, 16, 13)]) (by decide) rfl ?_
  intro p e s m args below meth c s₁ B hml htab hv
  obtain ⟨ha, hsz, hP, hK, hD0, hX, hZ⟩ := hv
  have hx := B.exec
  have hb := B.bytes
  have hr := B.returns
  have hts := atoms_spec (ws := wsL_part) B.pre
  have hown : s.vm.findClass RL = some m.cls := findClass_of_methodNamed B.named
  have hlocks := B.notSynchronized
  subst hsz
  have hD := hD0.self (sz := s.heap.size)
  generalize hAe : va_A (WW ad cJ cI cZ bm pa p0 p1 p2 li wi mt ms ma mp mk mn ou) s.heap.size = A at hD ⊢
  have hA : ∀ q : Nat, s.heap.size ≤ q → A q := fun q h => by rw [← hAe]; exact Or.inr h
  have hS : va_S A s.heap s.heap [] := va_S.rf
  have hl := lv_entry ([.ref (ad 0), .long zA, .long zB, .int (nI zC), .ref (ad 62)]) (n := 8) (Nat.le_of_ble_eq_true rfl)
  refine W.eq (g2 := entryFrame m ([.ref (ad 0), .long zA, .long zB, .int (nI zC), .ref (ad 62)] : List Value).toArray 8) (by rw [ha]) ?_
  rw [lg_entry_eq]
  generalize (lg_sl ([.ref (ad 0), .long zA, .long zB, .int (nI zC), .ref (ad 62)]) ++ List.replicate (8 - (lg_sl ([.ref (ad 0), .long zA, .long zB, .int (nI zC), .ref (ad 62)])).length) Slot.unset).toArray = ls at hl ⊢
  have hl : lv_has ls 8 [(0, .ref (ad 0)), (1, .long zA), (3, .long zB), (5, .int (nI zC)), (6, .ref (ad 62))] := hl
  refine lv_aload hx hb dL_part_0 (lv_at hl 4 rfl) ?_
  refine lv_iconst (v := nI 0) hx hb dL_part_2 (by decide) ?_
  refine lv_aload_n hx hb dL_part_3 rfl (lv_at hl 0 rfl) ?_
  refine lv_lload_n hx hb dL_part_4 rfl (lv_at hl 1 rfl) ?_
  refine lv_lload_n hx hb dL_part_5 rfl (lv_at hl 2 rfl) ?_
  refine lv_iload hx hb dL_part_6 (lv_at hl 3 rfl) ?_
  refine bm_wcallV (As := [.long zA, .long zB, .int (nI zC)]) (rest := [.int (nI 0), .ref (ad 62)]) ⟨hx, hb, hml, hown, hts⟩ (X_part2 h1 h2 h3 hq) (cwV 3 hts gwL_7 rfl rfl rfl hvX4_part ⟨Nat.le_of_ble_eq_true rfl, Nat.le_of_ble_eq_true rfl⟩) hK hP hD hS hA 0 4 rfl ww_0 rfl hl.1 rfl (Nat.le_of_ble_eq_true rfl) dL_part_8 ⟨Nat.le_of_ble_eq_true rfl, Nat.le_of_ble_eq_true rfl⟩ (fun H locs hP hD hS => ?_)
  have hP : va_P D vwCl (WW ad cJ cI cZ bm pa p0 p1 p2 li wi mt ms ma mp mk mn ou) H := hP
  have hD : va_D A (WW ad cJ cI cZ bm pa p0 p1 p2 li wi mt ms ma mp mk mn ou) := hD
  refine lv_i2l (v := (-1).toInt64) hx hb dL_part_11 rfl ?_
  refine bm_last (f := ou) hx hb hK hP hD hS 62 0 ww_62 rfl (j := 0) (x := ((-1).toInt64)) (by omega) (by decide) dL_part_12 (fun H locs hP hD hS => ?_)
  have hP : va_P D vwCl (WW ad cJ cI cZ bm pa p0 p1 p2 li wi mt ms ma mp mk mn (va_up ou 0 ((-1).toInt64))) H := hP
  have hD : va_D A (WW ad cJ cI cZ bm pa p0 p1 p2 li wi mt ms ma mp mk mn (va_up ou 0 ((-1).toInt64))) := hD
  refine lv_goto (tgt := 20) hx hb dL_part_13 (by decide) ?_
  refine lv_iconst (v := nI 0) hx hb dL_part_20 (by decide) ?_
  refine W.widen (k := 1) (n := 6) (by decide) (by decide) ?_
  exact bm_iretW (v := (nI 0)) hx hb hr hP hD hK hS ⟨rfl, rfl⟩ dL_part_21 hlocks
