set_option maxHeartbeats 4000000 in
set_option maxRecDepth 100000 in
theorem w_swap {l : Launch} {D : va_G} {ad : Nat → Nat} {cJ cI cZ : ClassId} {bm : gBM} {pa : gPA} {p0 p1 p2 : gPL} {li : gLI} {wi : gWI} (hoA : q_okA pa) {a b : Nat} (h1 : a < 40) (h2 : b < 40) : bm_Wr l yX4_swapPlaces wsX4_swapPlaces ({ frames := 2, cells := 0, slots := 0, locals := 48 }) D vwCl [(cJ, .long), (cI, .int), (cZ, .boolean)] (Wd ad cJ cI cZ bm pa p0 p1 p2 li wi) [.ref (ad 0), .int (nI a), .int (nI b)] (Wd ad cJ cI cZ bm pa (q_swap pa p0 a b) p1 p2 li wi) (none) := by
  obtain ⟨hn, hsd, hlw⟩ := hoA
  intro sz
  refine Met.ofW (cc := cX4_swapPlaces) (maxL := 7) (ret := none) (by decide) rfl ?_
  intro p e s m args below meth c s₁ B hml hv
  obtain ⟨ha, hsz, hP, hK, hD0⟩ := hv
  have hx := B.exec
  have hb := B.bytes
  have hr := B.returns
  have hts := atoms_spec (ws := wsX4_swapPlaces) B.pre
  have hown : s.vm.findClass RX4 = some m.cls := findClass_of_methodNamed B.named
  have hlocks := B.notSynchronized
  subst hsz
  have hD := hD0.self (sz := s.heap.size)
  generalize hAe : va_A (Wd ad cJ cI cZ bm pa p0 p1 p2 li wi) s.heap.size = A at hD ⊢
  have hA : ∀ q : Nat, s.heap.size ≤ q → A q := fun q h => by rw [← hAe]; exact Or.inr h
  have hS : va_S A s.heap s.heap [] := va_S.rf
  have hl := lv_entry ([.ref (ad 0), .int (nI a), .int (nI b)]) (n := 7) (Nat.le_of_ble_eq_true rfl)
  refine W.eq (g2 := entryFrame m ([.ref (ad 0), .int (nI a), .int (nI b)] : List Value).toArray 7) (by rw [ha]) ?_
  rw [lg_entry_eq]
  generalize (lg_sl ([.ref (ad 0), .int (nI a), .int (nI b)]) ++ List.replicate (7 - (lg_sl ([.ref (ad 0), .int (nI a), .int (nI b)])).length) Slot.unset).toArray = ls at hl ⊢
  have hl : lv_has ls 7 [(0, .ref (ad 0)), (1, .int (nI a)), (2, .int (nI b))] := hl
  refine lv_aload_n hx hb dX4_swapPlaces_0 rfl (lv_at hl 0 rfl) ?_
  refine va_get (D := D) (ci := 4) (v := .ref (ad 8)) (C := RX4) (T := TX4) (N := 10) hx hb hts (inT inX4) hown hK hP 0 rfl rfl 5 (by decide) (hts (.fieldLink RX4 37 "BoardMoves" "now" "LBoardMoves$Placement;") (by decide +kernel)) (fun _ h9 => h9) rfl dX4_swapPlaces_1 ?_
  refine va_get (D := D) (ci := 2) (v := .ref (ad 12)) (C := RX2) (T := TX2) (N := 5) hx hb hts (inT inX2) hown hK hP 8 rfl rfl 4 (by decide) (hts (.fieldLink RX4 96 "BoardMoves$Placement" "placed" "[Z") (by decide +kernel)) (fun _ h9 => h9) rfl dX4_swapPlaces_4 ?_
  refine lv_iload_n hx hb dX4_swapPlaces_7 rfl (lv_at hl 2 rfl) ?_
  refine bm_zald (f := p0.2.2.2) hx hb hK hP 12 2 rfl rfl (j := b) (by omega) (by decide) dX4_swapPlaces_8 ?_
  refine bm_zb_eq (x := (p0.2.2.2 b)) (tgt := 24) hx hb dX4_swapPlaces_9 (by decide) (fun c_1 => ?_) (fun c_1 => ?_)
  · exact bm_vretW hx hb hr hP hD hK hS (by simp [q_swap, c_1]) dX4_swapPlaces_24 hlocks
  · refine lv_aload_n hx hb dX4_swapPlaces_12 rfl (lv_at hl 0 rfl) ?_
    refine va_get (D := D) (ci := 4) (v := .ref (ad 1)) (C := RX4) (T := TX4) (N := 10) hx hb hts (inT inX4) hown hK hP 0 rfl rfl 2 (by decide) (hts (.fieldLink RX4 12 "BoardMoves" "parts" "LBoardMoves$Parts;") (by decide +kernel)) (fun _ h9 => h9) rfl dX4_swapPlaces_13 ?_
    refine lv_iload_n hx hb dX4_swapPlaces_16 rfl (lv_at hl 1 rfl) ?_
    refine lv_iload_n hx hb dX4_swapPlaces_17 rfl (lv_at hl 2 rfl) ?_
    refine bm_rcallV (As := [.int (nI a), .int (nI b)]) (rest := []) ⟨hx, hb, hml, hown, hts⟩ (r_mates (a := a) (b := b) ⟨hn, hsd, hlw⟩ (by omega) (by omega)) (cwV 2 hts (gdV (by decide +kernel) (by decide +kernel) (by decide +kernel) (by decide +kernel) (by decide +kernel)) rfl rfl rfl (by decide +kernel) ⟨Nat.le_of_ble_eq_true rfl, Nat.le_of_ble_eq_true rfl⟩) hK hP 1 1 rfl rfl rfl hl.1 rfl (Nat.le_of_ble_eq_true rfl) dX4_swapPlaces_18 ⟨Nat.le_of_ble_eq_true rfl, Nat.le_of_ble_eq_true rfl⟩ ?_
    refine bm_zb_eq (x := (q_mates pa a b)) (tgt := 25) hx hb dX4_swapPlaces_21 (by decide) (fun c_2 => ?_) (fun c_2 => ?_)
    · refine lv_aload_n hx hb dX4_swapPlaces_25 rfl (lv_at hl 0 rfl) ?_
      refine va_get (D := D) (ci := 4) (v := .ref (ad 8)) (C := RX4) (T := TX4) (N := 10) hx hb hts (inT inX4) hown hK hP 0 rfl rfl 5 (by decide) (hts (.fieldLink RX4 37 "BoardMoves" "now" "LBoardMoves$Placement;") (by decide +kernel)) (fun _ h9 => h9) rfl dX4_swapPlaces_26 ?_
      refine va_get (D := D) (ci := 2) (v := .ref (ad 9)) (C := RX2) (T := TX2) (N := 5) hx hb hts (inT inX2) hown hK hP 8 rfl rfl 1 (by decide) (hts (.fieldLink RX4 112 "BoardMoves$Placement" "x" "[J") (by decide +kernel)) (fun _ h9 => h9) rfl dX4_swapPlaces_29 ?_
      refine lv_iload_n hx hb dX4_swapPlaces_32 rfl (lv_at hl 2 rfl) ?_
      refine bm_lald (f := p0.1) hx hb hK hP 9 0 rfl rfl (j := b) (by omega) (by decide) dX4_swapPlaces_33 ?_
      refine lv_aload_n hx hb dX4_swapPlaces_34 rfl (lv_at hl 0 rfl) ?_
      refine va_get (D := D) (ci := 4) (v := .ref (ad 8)) (C := RX4) (T := TX4) (N := 10) hx hb hts (inT inX4) hown hK hP 0 rfl rfl 5 (by decide) (hts (.fieldLink RX4 37 "BoardMoves" "now" "LBoardMoves$Placement;") (by decide +kernel)) (fun _ h9 => h9) rfl dX4_swapPlaces_35 ?_
      refine va_get (D := D) (ci := 2) (v := .ref (ad 9)) (C := RX2) (T := TX2) (N := 5) hx hb hts (inT inX2) hown hK hP 8 rfl rfl 1 (by decide) (hts (.fieldLink RX4 112 "BoardMoves$Placement" "x" "[J") (by decide +kernel)) (fun _ h9 => h9) rfl dX4_swapPlaces_38 ?_
      refine lv_iload_n hx hb dX4_swapPlaces_41 rfl (lv_at hl 1 rfl) ?_
      refine bm_lald (f := p0.1) hx hb hK hP 9 0 rfl rfl (j := a) (by omega) (by decide) dX4_swapPlaces_42 ?_
      refine lv_lsub hx hb dX4_swapPlaces_43 ?_
      refine lv_lstore_n (lv' := [(3, .long ((p0.1 b) - (p0.1 a))), (0, .ref (ad 0)), (1, .int (nI a)), (2, .int (nI b))]) hx hb dX4_swapPlaces_44 rfl hl (by decide) rfl (fun ls hl => ?_)
      refine lv_aload_n hx hb dX4_swapPlaces_45 rfl (lv_at hl 1 rfl) ?_
      refine va_get (D := D) (ci := 4) (v := .ref (ad 8)) (C := RX4) (T := TX4) (N := 10) hx hb hts (inT inX4) hown hK hP 0 rfl rfl 5 (by decide) (hts (.fieldLink RX4 37 "BoardMoves" "now" "LBoardMoves$Placement;") (by decide +kernel)) (fun _ h9 => h9) rfl dX4_swapPlaces_46 ?_
      refine va_get (D := D) (ci := 2) (v := .ref (ad 10)) (C := RX2) (T := TX2) (N := 5) hx hb hts (inT inX2) hown hK hP 8 rfl rfl 2 (by decide) (hts (.fieldLink RX4 116 "BoardMoves$Placement" "y" "[J") (by decide +kernel)) (fun _ h9 => h9) rfl dX4_swapPlaces_49 ?_
      refine lv_iload_n hx hb dX4_swapPlaces_52 rfl (lv_at hl 3 rfl) ?_
      refine bm_lald (f := p0.2.1) hx hb hK hP 10 0 rfl rfl (j := b) (by omega) (by decide) dX4_swapPlaces_53 ?_
      refine lv_aload_n hx hb dX4_swapPlaces_54 rfl (lv_at hl 1 rfl) ?_
      refine va_get (D := D) (ci := 4) (v := .ref (ad 8)) (C := RX4) (T := TX4) (N := 10) hx hb hts (inT inX4) hown hK hP 0 rfl rfl 5 (by decide) (hts (.fieldLink RX4 37 "BoardMoves" "now" "LBoardMoves$Placement;") (by decide +kernel)) (fun _ h9 => h9) rfl dX4_swapPlaces_55 ?_
      refine va_get (D := D) (ci := 2) (v := .ref (ad 10)) (C := RX2) (T := TX2) (N := 5) hx hb hts (inT inX2) hown hK hP 8 rfl rfl 2 (by decide) (hts (.fieldLink RX4 116 "BoardMoves$Placement" "y" "[J") (by decide +kernel)) (fun _ h9 => h9) rfl dX4_swapPlaces_58 ?_
      refine lv_iload_n hx hb dX4_swapPlaces_61 rfl (lv_at hl 2 rfl) ?_
      refine bm_lald (f := p0.2.1) hx hb hK hP 10 0 rfl rfl (j := a) (by omega) (by decide) dX4_swapPlaces_62 ?_
      refine lv_lsub hx hb dX4_swapPlaces_63 ?_
      refine lv_lstore (lv' := [(5, .long ((p0.2.1 b) - (p0.2.1 a))), (3, .long ((p0.1 b) - (p0.1 a))), (0, .ref (ad 0)), (1, .int (nI a)), (2, .int (nI b))]) hx hb dX4_swapPlaces_64 hl (by decide) rfl (fun ls hl => ?_)
      refine lv_aload_n hx hb dX4_swapPlaces_66 rfl (lv_at hl 2 rfl) ?_
      refine va_get (D := D) (ci := 4) (v := .ref (ad 8)) (C := RX4) (T := TX4) (N := 10) hx hb hts (inT inX4) hown hK hP 0 rfl rfl 5 (by decide) (hts (.fieldLink RX4 37 "BoardMoves" "now" "LBoardMoves$Placement;") (by decide +kernel)) (fun _ h9 => h9) rfl dX4_swapPlaces_67 ?_
      refine lv_iload_n hx hb dX4_swapPlaces_70 rfl (lv_at hl 3 rfl) ?_
      refine lv_lload_n hx hb dX4_swapPlaces_71 rfl (lv_at hl 1 rfl) ?_
      refine lv_lload hx hb dX4_swapPlaces_72 (lv_at hl 0 rfl) ?_
      refine bm_wcallV (As := [.int (nI a), .long ((p0.1 b) - (p0.1 a)), .long ((p0.2.1 b) - (p0.2.1 a))]) (rest := []) ⟨hx, hb, hml, hown, hts⟩ (w_shift (j := a) ⟨hn, hsd, hlw⟩ (by omega)) (cwV 3 hts (gdV (by decide +kernel) (by decide +kernel) (by decide +kernel) (by decide +kernel) (by decide +kernel)) rfl rfl rfl (by decide +kernel) ⟨Nat.le_of_ble_eq_true rfl, Nat.le_of_ble_eq_true rfl⟩) hK hP hD hS hA 8 2 rfl rfl rfl hl.1 rfl (Nat.le_of_ble_eq_true rfl) dX4_swapPlaces_74 ⟨Nat.le_of_ble_eq_true rfl, Nat.le_of_ble_eq_true rfl⟩ (fun H locs hP hD hS => ?_)
      have hP : va_P D vwCl (Wd ad cJ cI cZ bm pa (q_shift pa p0 a ((p0.1 b) - (p0.1 a)) ((p0.2.1 b) - (p0.2.1 a))) p1 p2 li wi) H := hP
      have hD : va_D A (Wd ad cJ cI cZ bm pa (q_shift pa p0 a ((p0.1 b) - (p0.1 a)) ((p0.2.1 b) - (p0.2.1 a))) p1 p2 li wi) := hD
      refine lv_aload_n hx hb dX4_swapPlaces_77 rfl (lv_at hl 2 rfl) ?_
      refine va_get (D := D) (ci := 4) (v := .ref (ad 8)) (C := RX4) (T := TX4) (N := 10) hx hb hts (inT inX4) hown hK hP 0 rfl rfl 5 (by decide) (hts (.fieldLink RX4 37 "BoardMoves" "now" "LBoardMoves$Placement;") (by decide +kernel)) (fun _ h9 => h9) rfl dX4_swapPlaces_78 ?_
      refine lv_iload_n hx hb dX4_swapPlaces_81 rfl (lv_at hl 4 rfl) ?_
      refine lv_lload_n hx hb dX4_swapPlaces_82 rfl (lv_at hl 1 rfl) ?_
      refine lv_lneg hx hb dX4_swapPlaces_83 ?_
      refine lv_lload hx hb dX4_swapPlaces_84 (lv_at hl 0 rfl) ?_
      refine lv_lneg hx hb dX4_swapPlaces_86 ?_
      refine bm_wcallV (As := [.int (nI b), .long (-((p0.1 b) - (p0.1 a))), .long (-((p0.2.1 b) - (p0.2.1 a)))]) (rest := []) ⟨hx, hb, hml, hown, hts⟩ (w_shift (j := b) ⟨hn, hsd, hlw⟩ (by omega)) (cwV 3 hts (gdV (by decide +kernel) (by decide +kernel) (by decide +kernel) (by decide +kernel) (by decide +kernel)) rfl rfl rfl (by decide +kernel) ⟨Nat.le_of_ble_eq_true rfl, Nat.le_of_ble_eq_true rfl⟩) hK hP hD hS hA 8 2 rfl rfl rfl hl.1 rfl (Nat.le_of_ble_eq_true rfl) dX4_swapPlaces_87 ⟨Nat.le_of_ble_eq_true rfl, Nat.le_of_ble_eq_true rfl⟩ (fun H locs hP hD hS => ?_)
      have hP : va_P D vwCl (Wd ad cJ cI cZ bm pa (q_shift pa (q_shift pa p0 a ((p0.1 b) - (p0.1 a)) ((p0.2.1 b) - (p0.2.1 a))) b (-((p0.1 b) - (p0.1 a))) (-((p0.2.1 b) - (p0.2.1 a)))) p1 p2 li wi) H := hP
      have hD : va_D A (Wd ad cJ cI cZ bm pa (q_shift pa (q_shift pa p0 a ((p0.1 b) - (p0.1 a)) ((p0.2.1 b) - (p0.2.1 a))) b (-((p0.1 b) - (p0.1 a))) (-((p0.2.1 b) - (p0.2.1 a)))) p1 p2 li wi) := hD
      exact bm_vretW hx hb hr hP hD hK hS (by simp [q_swap, c_1, c_2]) dX4_swapPlaces_90 hlocks
    · exact bm_vretW hx hb hr hP hD hK hS (by simp [q_swap, c_1, c_2]) dX4_swapPlaces_24 hlocks
