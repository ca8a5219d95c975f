set_option maxHeartbeats 4000000 in
set_option maxRecDepth 100000 in
theorem w_turnA {l : Launch} {D : va_G} {ad : Nat → Nat} {cJ cI cZ : ClassId} {bm : gBM} {pa : gPA} {p0 p1 p2 : gPL} {li : gLI} {wi : gWI} (hoA : q_okA pa) (hoL : q_okL p0) {a q : Nat} (h1 : a < 40) (h2 : q < 40) : bm_Wr l yX4_turnAlone wsX4_turnAlone ({ frames := 2, cells := 0, slots := 0, locals := 44 }) D vwCl [(cJ, .long), (cI, .int), (cZ, .boolean)] (Wd ad cJ cI cZ bm pa p0 p1 p2 li wi) [.ref (ad 0), .int (nI a), .int (nI q)] (Wd ad cJ cI cZ bm pa (q_turnA pa p0 a q) p1 p2 li wi) (none) := by
  obtain ⟨hn, hsd, hlw⟩ := hoA
  intro sz
  refine Met.ofW (cc := cX4_turnAlone) (maxL := 3) (ret := none) (by decide) rfl ?_
  intro p e s m args below meth c s₁ B hml hv
  obtain ⟨ha, hsz, hP, hK, hD0⟩ := hv
  have hx := B.exec
  have hb := B.bytes
  have hr := B.returns
  have hts := atoms_spec (ws := wsX4_turnAlone) B.pre
  have hown : s.vm.findClass RX4 = some m.cls := findClass_of_methodNamed B.named
  have hlocks := B.notSynchronized
  subst hsz
  have hD := hD0.self (sz := s.heap.size)
  generalize hAe : va_A (Wd ad cJ cI cZ bm pa p0 p1 p2 li wi) s.heap.size = A at hD ⊢
  have hA : ∀ q : Nat, s.heap.size ≤ q → A q := fun q h => by rw [← hAe]; exact Or.inr h
  have hS : va_S A s.heap s.heap [] := va_S.rf
  have hl := lv_entry ([.ref (ad 0), .int (nI a), .int (nI q)]) (n := 3) (Nat.le_of_ble_eq_true rfl)
  refine W.eq (g2 := entryFrame m ([.ref (ad 0), .int (nI a), .int (nI q)] : List Value).toArray 3) (by rw [ha]) ?_
  rw [lg_entry_eq]
  generalize (lg_sl ([.ref (ad 0), .int (nI a), .int (nI q)]) ++ List.replicate (3 - (lg_sl ([.ref (ad 0), .int (nI a), .int (nI q)])).length) Slot.unset).toArray = ls at hl ⊢
  have hl : lv_has ls 3 [(0, .ref (ad 0)), (1, .int (nI a)), (2, .int (nI q))] := hl
  refine lv_aload_n hx hb dX4_turnAlone_0 rfl (lv_at hl 0 rfl) ?_
  refine va_get (D := D) (ci := 4) (v := .ref (ad 8)) (C := RX4) (T := TX4) (N := 10) hx hb hts (inT inX4) hown hK hP 0 rfl rfl 5 (by decide) (hts (.fieldLink RX4 37 "BoardMoves" "now" "LBoardMoves$Placement;") (by decide +kernel)) (fun _ h9 => h9) rfl dX4_turnAlone_1 ?_
  refine lv_iload_n hx hb dX4_turnAlone_4 rfl (lv_at hl 1 rfl) ?_
  refine bm_rcallV (As := [.int (nI a)]) (rest := []) ⟨hx, hb, hml, hown, hts⟩ (r_hasMate (j := a) ⟨hn, hsd, hlw⟩ (by omega)) (cwV 1 hts (gdV (by decide +kernel) (by decide +kernel) (by decide +kernel) (by decide +kernel) (by decide +kernel)) rfl rfl rfl (by decide +kernel) ⟨Nat.le_of_ble_eq_true rfl, Nat.le_of_ble_eq_true rfl⟩) hK hP 8 2 rfl rfl rfl hl.1 rfl (Nat.le_of_ble_eq_true rfl) dX4_turnAlone_5 ⟨Nat.le_of_ble_eq_true rfl, Nat.le_of_ble_eq_true rfl⟩ ?_
  refine bm_zb_ne (x := (q_hasMate pa p0 a)) (tgt := 33) hx hb dX4_turnAlone_8 (by decide) (fun c_1 => ?_) (fun c_1 => ?_)
  · exact bm_vretW hx hb hr hP hD hK hS (by simp [q_turnA, c_1]) dX4_turnAlone_33 hlocks
  · refine lv_aload_n hx hb dX4_turnAlone_11 rfl (lv_at hl 0 rfl) ?_
    refine va_get (D := D) (ci := 4) (v := .ref (ad 8)) (C := RX4) (T := TX4) (N := 10) hx hb hts (inT inX4) hown hK hP 0 rfl rfl 5 (by decide) (hts (.fieldLink RX4 37 "BoardMoves" "now" "LBoardMoves$Placement;") (by decide +kernel)) (fun _ h9 => h9) rfl dX4_turnAlone_12 ?_
    refine va_get (D := D) (ci := 2) (v := .ref (ad 11)) (C := RX2) (T := TX2) (N := 5) hx hb hts (inT inX2) hown hK hP 8 rfl rfl 3 (by decide) (hts (.fieldLink RX4 100 "BoardMoves$Placement" "turn" "[I") (by decide +kernel)) (fun _ h9 => h9) rfl dX4_turnAlone_15 ?_
    refine lv_iload_n hx hb dX4_turnAlone_18 rfl (lv_at hl 1 rfl) ?_
    refine lv_aload_n hx hb dX4_turnAlone_19 rfl (lv_at hl 0 rfl) ?_
    refine va_get (D := D) (ci := 4) (v := .ref (ad 8)) (C := RX4) (T := TX4) (N := 10) hx hb hts (inT inX4) hown hK hP 0 rfl rfl 5 (by decide) (hts (.fieldLink RX4 37 "BoardMoves" "now" "LBoardMoves$Placement;") (by decide +kernel)) (fun _ h9 => h9) rfl dX4_turnAlone_20 ?_
    refine va_get (D := D) (ci := 2) (v := .ref (ad 11)) (C := RX2) (T := TX2) (N := 5) hx hb hts (inT inX2) hown hK hP 8 rfl rfl 3 (by decide) (hts (.fieldLink RX4 100 "BoardMoves$Placement" "turn" "[I") (by decide +kernel)) (fun _ h9 => h9) rfl dX4_turnAlone_23 ?_
    refine lv_iload_n hx hb dX4_turnAlone_26 rfl (lv_at hl 1 rfl) ?_
    refine bm_nald (f := p0.2.2.1) hx hb hK hP 11 1 rfl rfl (j := a) (by omega) (by decide) dX4_turnAlone_27 ?_
    refine lv_iload_n hx hb dX4_turnAlone_28 rfl (lv_at hl 2 rfl) ?_
    refine bm_nadd hx hb dX4_turnAlone_29 ?_
    refine lv_iconst (v := nI 4) hx hb dX4_turnAlone_30 (by decide) ?_
    refine bm_nrem hx hb (by have := hoL a; omega) (by decide) (by decide) dX4_turnAlone_31 ?_
    refine bm_nast (f := p0.2.2.1) hx hb hK hP hD hS 11 1 rfl rfl (j := a) (x := (((p0.2.2.1 a) + q) % 4)) (by omega) (by decide) dX4_turnAlone_32 (fun H locs hP hD hS => ?_)
    have hP : va_P D vwCl (Wd ad cJ cI cZ bm pa (p0.1, p0.2.1, va_up p0.2.2.1 a (((p0.2.2.1 a) + q) % 4), p0.2.2.2) p1 p2 li wi) H := hP
    have hD : va_D A (Wd ad cJ cI cZ bm pa (p0.1, p0.2.1, va_up p0.2.2.1 a (((p0.2.2.1 a) + q) % 4), p0.2.2.2) p1 p2 li wi) := hD
    exact bm_vretW hx hb hr hP hD hK hS (by simp [q_turnA, c_1]) dX4_turnAlone_33 hlocks
