set_option maxHeartbeats 4000000 in
set_option maxRecDepth 100000 in
theorem r_way {l : Launch} {D : va_G} {ad : Nat → Nat} {cJ cI cZ : ClassId} {bm : gBM} {pa : gPA} {p0 p1 p2 : gPL} {li : gLI} {wi : gWI} (hoL : q_okL p0) {g t : Nat} (h1 : g < 40) (h2 : t < 40) {ax up : Bool} : bm_Rd l yX2_wayToBorder wsX2_wayToBorder ({ frames := 1, cells := 0, slots := 0, locals := 21 }) D vwCl [(cJ, .long), (cI, .int), (cZ, .boolean)] (Wd ad cJ cI cZ bm pa p0 p1 p2 li wi) [.ref (ad 8), .int (nI g), .int (nI t), .int (bm_b ax), .int (bm_b up)] (.long (q_way pa p0 g t ax up)) := by
  refine Met.ofW (cc := cX2_wayToBorder) (maxL := 5) (ret := (some .long)) (by decide) rfl ?_
  intro p e s m args below meth c s₁ B hml hv
  obtain ⟨ha, hP, hK⟩ := hv
  have hx := B.exec
  have hb := B.bytes
  have hr := B.returns
  have hts := atoms_spec (ws := wsX2_wayToBorder) B.pre
  have hown : s.vm.findClass RX2 = some m.cls := findClass_of_methodNamed B.named
  have hlocks := B.notSynchronized
  have hl := lv_entry ([.ref (ad 8), .int (nI g), .int (nI t), .int (bm_b ax), .int (bm_b up)]) (n := 5) (Nat.le_of_ble_eq_true rfl)
  refine W.eq (g2 := entryFrame m ([.ref (ad 8), .int (nI g), .int (nI t), .int (bm_b ax), .int (bm_b up)] : List Value).toArray 5) (by rw [ha]) ?_
  rw [lg_entry_eq]
  generalize (lg_sl ([.ref (ad 8), .int (nI g), .int (nI t), .int (bm_b ax), .int (bm_b up)]) ++ List.replicate (5 - (lg_sl ([.ref (ad 8), .int (nI g), .int (nI t), .int (bm_b ax), .int (bm_b up)])).length) Slot.unset).toArray = ls at hl ⊢
  have hl : lv_has ls 5 [(0, .ref (ad 8)), (1, .int (nI g)), (2, .int (nI t)), (3, .int (bm_b ax)), (4, .int (bm_b up))] := hl
  refine lv_iload_n hx hb dX2_wayToBorder_0 rfl (lv_at hl 3 rfl) ?_
  refine bm_zb_eq (x := ax) (tgt := 37) hx hb dX2_wayToBorder_1 (by decide) (fun c_1 => ?_) (fun c_1 => ?_)
  · refine lv_iload hx hb dX2_wayToBorder_37 (lv_at hl 4 rfl) ?_
    refine bm_zb_eq (x := up) (tgt := 57) hx hb dX2_wayToBorder_39 (by decide) (fun c_2 => ?_) (fun c_2 => ?_)
    · refine lv_aload_n hx hb dX2_wayToBorder_57 rfl (lv_at hl 0 rfl) ?_
      refine va_get (D := D) (ci := 2) (v := .ref (ad 10)) (C := RX2) (T := TX2) (N := 5) hx hb hts (inT inX2) hown hK hP 8 rfl rfl 2 (by decide) (hts (.fieldLink RX2 15 "BoardMoves$Placement" "y" "[J") (by decide +kernel)) (fun _ h9 => h9) rfl dX2_wayToBorder_58 ?_
      refine lv_iload_n hx hb dX2_wayToBorder_61 rfl (lv_at hl 2 rfl) ?_
      refine bm_lald (f := p0.2.1) hx hb hK hP 10 0 rfl rfl (j := t) (by omega) (by decide) dX2_wayToBorder_62 ?_
      refine lv_aload_n hx hb dX2_wayToBorder_63 rfl (lv_at hl 0 rfl) ?_
      refine lv_iload_n hx hb dX2_wayToBorder_64 rfl (lv_at hl 1 rfl) ?_
      refine bm_rcallV (As := [.int (nI g)]) (rest := [.long (p0.2.1 t)]) ⟨hx, hb, hml, hown, hts⟩ (r_endY (j := g) hoL (by omega)) (cwV 1 hts (gdV (by decide +kernel) (by decide +kernel) (by decide +kernel) (by decide +kernel) (by decide +kernel)) rfl rfl rfl (by decide +kernel) ⟨Nat.le_of_ble_eq_true rfl, Nat.le_of_ble_eq_true rfl⟩) hK hP 8 2 rfl rfl rfl hl.1 rfl (Nat.le_of_ble_eq_true rfl) dX2_wayToBorder_65 ⟨Nat.le_of_ble_eq_true rfl, Nat.le_of_ble_eq_true rfl⟩ ?_
      refine lv_lsub hx hb dX2_wayToBorder_68 ?_
      exact bm_lretR (v := ((p0.2.1 t) - (q_endY pa p0 g))) hx hb hr (by simp [q_way, c_1, c_2]) dX2_wayToBorder_69 hlocks
    · refine lv_aload_n hx hb dX2_wayToBorder_42 rfl (lv_at hl 0 rfl) ?_
      refine lv_iload_n hx hb dX2_wayToBorder_43 rfl (lv_at hl 2 rfl) ?_
      refine bm_rcallV (As := [.int (nI t)]) (rest := []) ⟨hx, hb, hml, hown, hts⟩ (r_endY (j := t) hoL (by omega)) (cwV 1 hts (gdV (by decide +kernel) (by decide +kernel) (by decide +kernel) (by decide +kernel) (by decide +kernel)) rfl rfl rfl (by decide +kernel) ⟨Nat.le_of_ble_eq_true rfl, Nat.le_of_ble_eq_true rfl⟩) hK hP 8 2 rfl rfl rfl hl.1 rfl (Nat.le_of_ble_eq_true rfl) dX2_wayToBorder_44 ⟨Nat.le_of_ble_eq_true rfl, Nat.le_of_ble_eq_true rfl⟩ ?_
      refine lv_aload_n hx hb dX2_wayToBorder_47 rfl (lv_at hl 0 rfl) ?_
      refine va_get (D := D) (ci := 2) (v := .ref (ad 10)) (C := RX2) (T := TX2) (N := 5) hx hb hts (inT inX2) hown hK hP 8 rfl rfl 2 (by decide) (hts (.fieldLink RX2 15 "BoardMoves$Placement" "y" "[J") (by decide +kernel)) (fun _ h9 => h9) rfl dX2_wayToBorder_48 ?_
      refine lv_iload_n hx hb dX2_wayToBorder_51 rfl (lv_at hl 1 rfl) ?_
      refine bm_lald (f := p0.2.1) hx hb hK hP 10 0 rfl rfl (j := g) (by omega) (by decide) dX2_wayToBorder_52 ?_
      refine lv_lsub hx hb dX2_wayToBorder_53 ?_
      refine lv_goto (tgt := 69) hx hb dX2_wayToBorder_54 (by decide) ?_
      exact bm_lretR (v := ((q_endY pa p0 t) - (p0.2.1 g))) hx hb hr (by simp [q_way, c_1, c_2]) dX2_wayToBorder_69 hlocks
  · refine lv_iload hx hb dX2_wayToBorder_4 (lv_at hl 4 rfl) ?_
    refine bm_zb_eq (x := up) (tgt := 24) hx hb dX2_wayToBorder_6 (by decide) (fun c_3 => ?_) (fun c_3 => ?_)
    · refine lv_aload_n hx hb dX2_wayToBorder_24 rfl (lv_at hl 0 rfl) ?_
      refine va_get (D := D) (ci := 2) (v := .ref (ad 9)) (C := RX2) (T := TX2) (N := 5) hx hb hts (inT inX2) hown hK hP 8 rfl rfl 1 (by decide) (hts (.fieldLink RX2 9 "BoardMoves$Placement" "x" "[J") (by decide +kernel)) (fun _ h9 => h9) rfl dX2_wayToBorder_25 ?_
      refine lv_iload_n hx hb dX2_wayToBorder_28 rfl (lv_at hl 2 rfl) ?_
      refine bm_lald (f := p0.1) hx hb hK hP 9 0 rfl rfl (j := t) (by omega) (by decide) dX2_wayToBorder_29 ?_
      refine lv_aload_n hx hb dX2_wayToBorder_30 rfl (lv_at hl 0 rfl) ?_
      refine lv_iload_n hx hb dX2_wayToBorder_31 rfl (lv_at hl 1 rfl) ?_
      refine bm_rcallV (As := [.int (nI g)]) (rest := [.long (p0.1 t)]) ⟨hx, hb, hml, hown, hts⟩ (r_endX (j := g) hoL (by omega)) (cwV 1 hts (gdV (by decide +kernel) (by decide +kernel) (by decide +kernel) (by decide +kernel) (by decide +kernel)) rfl rfl rfl (by decide +kernel) ⟨Nat.le_of_ble_eq_true rfl, Nat.le_of_ble_eq_true rfl⟩) hK hP 8 2 rfl rfl rfl hl.1 rfl (Nat.le_of_ble_eq_true rfl) dX2_wayToBorder_32 ⟨Nat.le_of_ble_eq_true rfl, Nat.le_of_ble_eq_true rfl⟩ ?_
      refine lv_lsub hx hb dX2_wayToBorder_35 ?_
      exact bm_lretR (v := ((p0.1 t) - (q_endX pa p0 g))) hx hb hr (by simp [q_way, c_1, c_3]) dX2_wayToBorder_36 hlocks
    · refine lv_aload_n hx hb dX2_wayToBorder_9 rfl (lv_at hl 0 rfl) ?_
      refine lv_iload_n hx hb dX2_wayToBorder_10 rfl (lv_at hl 2 rfl) ?_
      refine bm_rcallV (As := [.int (nI t)]) (rest := []) ⟨hx, hb, hml, hown, hts⟩ (r_endX (j := t) hoL (by omega)) (cwV 1 hts (gdV (by decide +kernel) (by decide +kernel) (by decide +kernel) (by decide +kernel) (by decide +kernel)) rfl rfl rfl (by decide +kernel) ⟨Nat.le_of_ble_eq_true rfl, Nat.le_of_ble_eq_true rfl⟩) hK hP 8 2 rfl rfl rfl hl.1 rfl (Nat.le_of_ble_eq_true rfl) dX2_wayToBorder_11 ⟨Nat.le_of_ble_eq_true rfl, Nat.le_of_ble_eq_true rfl⟩ ?_
      refine lv_aload_n hx hb dX2_wayToBorder_14 rfl (lv_at hl 0 rfl) ?_
      refine va_get (D := D) (ci := 2) (v := .ref (ad 9)) (C := RX2) (T := TX2) (N := 5) hx hb hts (inT inX2) hown hK hP 8 rfl rfl 1 (by decide) (hts (.fieldLink RX2 9 "BoardMoves$Placement" "x" "[J") (by decide +kernel)) (fun _ h9 => h9) rfl dX2_wayToBorder_15 ?_
      refine lv_iload_n hx hb dX2_wayToBorder_18 rfl (lv_at hl 1 rfl) ?_
      refine bm_lald (f := p0.1) hx hb hK hP 9 0 rfl rfl (j := g) (by omega) (by decide) dX2_wayToBorder_19 ?_
      refine lv_lsub hx hb dX2_wayToBorder_20 ?_
      refine lv_goto (tgt := 36) hx hb dX2_wayToBorder_21 (by decide) ?_
      exact bm_lretR (v := ((q_endX pa p0 t) - (p0.1 g))) hx hb hr (by simp [q_way, c_1, c_3]) dX2_wayToBorder_36 hlocks
