set_option maxHeartbeats 4000000 in
set_option maxRecDepth 100000 in
theorem r_near {l : Launch} {D : va_G} {ad : Nat → Nat} {cJ cI cZ : ClassId} {bm : gBM} {pa : gPA} {p0 p1 p2 : gPL} {li : gLI} {wi : gWI} (hoL : q_okL p0) {a b : Nat} (h1 : a < 40) (h2 : b < 40) {q : Int64} : bm_Rd l yX2_isNear wsX2_isNear ({ frames := 1, cells := 0, slots := 0, locals := 24 }) D vwCl [(cJ, .long), (cI, .int), (cZ, .boolean)] (Wd ad cJ cI cZ bm pa p0 p1 p2 li wi) [.ref (ad 8), .int (nI a), .int (nI b), .long q] (.int (bm_b (q_near pa p0 a b q))) := by
  refine Met.ofW (cc := cX2_isNear) (maxL := 9) (ret := (some .boolean)) (by decide) rfl ?_
  intro p e s m args below meth c s₁ B hml hv
  obtain ⟨ha, hP, hK⟩ := hv
  have hx := B.exec
  have hb := B.bytes
  have hr := B.returns
  have hts := atoms_spec (ws := wsX2_isNear) B.pre
  have hown : s.vm.findClass RX2 = some m.cls := findClass_of_methodNamed B.named
  have hlocks := B.notSynchronized
  have hl := lv_entry ([.ref (ad 8), .int (nI a), .int (nI b), .long q]) (n := 9) (Nat.le_of_ble_eq_true rfl)
  refine W.eq (g2 := entryFrame m ([.ref (ad 8), .int (nI a), .int (nI b), .long q] : List Value).toArray 9) (by rw [ha]) ?_
  rw [lg_entry_eq]
  generalize (lg_sl ([.ref (ad 8), .int (nI a), .int (nI b), .long q]) ++ List.replicate (9 - (lg_sl ([.ref (ad 8), .int (nI a), .int (nI b), .long q])).length) Slot.unset).toArray = ls at hl ⊢
  have hl : lv_has ls 9 [(0, .ref (ad 8)), (1, .int (nI a)), (2, .int (nI b)), (3, .long q)] := hl
  refine lv_aload_n hx hb dX2_isNear_0 rfl (lv_at hl 0 rfl) ?_
  refine va_get (D := D) (ci := 2) (v := .ref (ad 12)) (C := RX2) (T := TX2) (N := 5) hx hb hts (inT inX2) hown hK hP 8 rfl rfl 4 (by decide) (hts (.fieldLink RX2 22 "BoardMoves$Placement" "placed" "[Z") (by decide +kernel)) (fun _ h9 => h9) rfl dX2_isNear_1 ?_
  refine lv_iload_n hx hb dX2_isNear_4 rfl (lv_at hl 1 rfl) ?_
  refine bm_zald (f := p0.2.2.2) hx hb hK hP 12 2 rfl rfl (j := a) (by omega) (by decide) dX2_isNear_5 ?_
  refine bm_zb_eq (x := (p0.2.2.2 a)) (tgt := 18) hx hb dX2_isNear_6 (by decide) (fun c_1 => ?_) (fun c_1 => ?_)
  · refine lv_iconst (v := bm_b true) hx hb dX2_isNear_18 (by decide) ?_
    exact bm_zretR (v := true) hx hb hr (by simp [q_near, c_1]) dX2_isNear_19 hlocks
  · refine lv_aload_n hx hb dX2_isNear_9 rfl (lv_at hl 0 rfl) ?_
    refine va_get (D := D) (ci := 2) (v := .ref (ad 12)) (C := RX2) (T := TX2) (N := 5) hx hb hts (inT inX2) hown hK hP 8 rfl rfl 4 (by decide) (hts (.fieldLink RX2 22 "BoardMoves$Placement" "placed" "[Z") (by decide +kernel)) (fun _ h9 => h9) rfl dX2_isNear_10 ?_
    refine lv_iload_n hx hb dX2_isNear_13 rfl (lv_at hl 2 rfl) ?_
    refine bm_zald (f := p0.2.2.2) hx hb hK hP 12 2 rfl rfl (j := b) (by omega) (by decide) dX2_isNear_14 ?_
    refine bm_zb_ne (x := (p0.2.2.2 b)) (tgt := 20) hx hb dX2_isNear_15 (by decide) (fun c_2 => ?_) (fun c_2 => ?_)
    · refine lv_aload_n hx hb dX2_isNear_20 rfl (lv_at hl 0 rfl) ?_
      refine va_get (D := D) (ci := 2) (v := .ref (ad 9)) (C := RX2) (T := TX2) (N := 5) hx hb hts (inT inX2) hown hK hP 8 rfl rfl 1 (by decide) (hts (.fieldLink RX2 9 "BoardMoves$Placement" "x" "[J") (by decide +kernel)) (fun _ h9 => h9) rfl dX2_isNear_21 ?_
      refine lv_iload_n hx hb dX2_isNear_24 rfl (lv_at hl 1 rfl) ?_
      refine bm_lald (f := p0.1) hx hb hK hP 9 0 rfl rfl (j := a) (by omega) (by decide) dX2_isNear_25 ?_
      refine lv_aload_n hx hb dX2_isNear_26 rfl (lv_at hl 0 rfl) ?_
      refine va_get (D := D) (ci := 2) (v := .ref (ad 9)) (C := RX2) (T := TX2) (N := 5) hx hb hts (inT inX2) hown hK hP 8 rfl rfl 1 (by decide) (hts (.fieldLink RX2 9 "BoardMoves$Placement" "x" "[J") (by decide +kernel)) (fun _ h9 => h9) rfl dX2_isNear_27 ?_
      refine lv_iload_n hx hb dX2_isNear_30 rfl (lv_at hl 2 rfl) ?_
      refine bm_lald (f := p0.1) hx hb hK hP 9 0 rfl rfl (j := b) (by omega) (by decide) dX2_isNear_31 ?_
      refine bm_mmaxl hx hb (hml.trans hl.1.symm) hown (hts (.methodLink RX2 64 Lib.MathLoose.max_long.x) (by decide +kernel)) (hts (.static Lib.MathLoose.max_long.x) (by decide +kernel)) (hts (.initialized "java/lang/Math") (by decide +kernel)) (hts (.code Lib.MathLoose.max_long.x Lib.MathLoose.max_long.code 4 (some .long)) (by decide +kernel)) (Nat.le_of_ble_eq_true rfl) (Nat.le_of_ble_eq_true rfl) (Nat.zero_le _) (Nat.zero_le _) dX2_isNear_32 ?_
      refine lv_aload_n hx hb dX2_isNear_35 rfl (lv_at hl 0 rfl) ?_
      refine lv_iload_n hx hb dX2_isNear_36 rfl (lv_at hl 1 rfl) ?_
      refine bm_rcallV (As := [.int (nI a)]) (rest := [.long (q_max (p0.1 a) (p0.1 b))]) ⟨hx, hb, hml, hown, hts⟩ (r_endX (j := a) hoL (by omega)) (cwV 1 hts (gdV (by decide +kernel) (by decide +kernel) (by decide +kernel) (by decide +kernel) (by decide +kernel)) rfl rfl rfl (by decide +kernel) ⟨Nat.le_of_ble_eq_true rfl, Nat.le_of_ble_eq_true rfl⟩) hK hP 8 2 rfl rfl rfl hl.1 rfl (Nat.le_of_ble_eq_true rfl) dX2_isNear_37 ⟨Nat.le_of_ble_eq_true rfl, Nat.le_of_ble_eq_true rfl⟩ ?_
      refine lv_aload_n hx hb dX2_isNear_40 rfl (lv_at hl 0 rfl) ?_
      refine lv_iload_n hx hb dX2_isNear_41 rfl (lv_at hl 2 rfl) ?_
      refine bm_rcallV (As := [.int (nI b)]) (rest := [.long (q_endX pa p0 a), .long (q_max (p0.1 a) (p0.1 b))]) ⟨hx, hb, hml, hown, hts⟩ (r_endX (j := b) hoL (by omega)) (cwV 1 hts (gdV (by decide +kernel) (by decide +kernel) (by decide +kernel) (by decide +kernel) (by decide +kernel)) rfl rfl rfl (by decide +kernel) ⟨Nat.le_of_ble_eq_true rfl, Nat.le_of_ble_eq_true rfl⟩) hK hP 8 2 rfl rfl rfl hl.1 rfl (Nat.le_of_ble_eq_true rfl) dX2_isNear_42 ⟨Nat.le_of_ble_eq_true rfl, Nat.le_of_ble_eq_true rfl⟩ ?_
      refine bm_mminl hx hb (hml.trans hl.1.symm) hown (hts (.methodLink RX2 70 Lib.MathLoose.min_long.x) (by decide +kernel)) (hts (.static Lib.MathLoose.min_long.x) (by decide +kernel)) (hts (.initialized "java/lang/Math") (by decide +kernel)) (hts (.code Lib.MathLoose.min_long.x Lib.MathLoose.min_long.code 4 (some .long)) (by decide +kernel)) (Nat.le_of_ble_eq_true rfl) (Nat.le_of_ble_eq_true rfl) (Nat.zero_le _) (Nat.zero_le _) dX2_isNear_45 ?_
      refine lv_lsub hx hb dX2_isNear_48 ?_
      refine lv_lstore (lv' := [(5, .long ((q_max (p0.1 a) (p0.1 b)) - (q_min (q_endX pa p0 a) (q_endX pa p0 b)))), (0, .ref (ad 8)), (1, .int (nI a)), (2, .int (nI b)), (3, .long q)]) hx hb dX2_isNear_49 hl (by decide) rfl (fun ls hl => ?_)
      refine lv_aload_n hx hb dX2_isNear_51 rfl (lv_at hl 1 rfl) ?_
      refine va_get (D := D) (ci := 2) (v := .ref (ad 10)) (C := RX2) (T := TX2) (N := 5) hx hb hts (inT inX2) hown hK hP 8 rfl rfl 2 (by decide) (hts (.fieldLink RX2 15 "BoardMoves$Placement" "y" "[J") (by decide +kernel)) (fun _ h9 => h9) rfl dX2_isNear_52 ?_
      refine lv_iload_n hx hb dX2_isNear_55 rfl (lv_at hl 2 rfl) ?_
      refine bm_lald (f := p0.2.1) hx hb hK hP 10 0 rfl rfl (j := a) (by omega) (by decide) dX2_isNear_56 ?_
      refine lv_aload_n hx hb dX2_isNear_57 rfl (lv_at hl 1 rfl) ?_
      refine va_get (D := D) (ci := 2) (v := .ref (ad 10)) (C := RX2) (T := TX2) (N := 5) hx hb hts (inT inX2) hown hK hP 8 rfl rfl 2 (by decide) (hts (.fieldLink RX2 15 "BoardMoves$Placement" "y" "[J") (by decide +kernel)) (fun _ h9 => h9) rfl dX2_isNear_58 ?_
      refine lv_iload_n hx hb dX2_isNear_61 rfl (lv_at hl 3 rfl) ?_
      refine bm_lald (f := p0.2.1) hx hb hK hP 10 0 rfl rfl (j := b) (by omega) (by decide) dX2_isNear_62 ?_
      refine bm_mmaxl hx hb (hml.trans hl.1.symm) hown (hts (.methodLink RX2 64 Lib.MathLoose.max_long.x) (by decide +kernel)) (hts (.static Lib.MathLoose.max_long.x) (by decide +kernel)) (hts (.initialized "java/lang/Math") (by decide +kernel)) (hts (.code Lib.MathLoose.max_long.x Lib.MathLoose.max_long.code 4 (some .long)) (by decide +kernel)) (Nat.le_of_ble_eq_true rfl) (Nat.le_of_ble_eq_true rfl) (Nat.zero_le _) (Nat.zero_le _) dX2_isNear_63 ?_
      refine lv_aload_n hx hb dX2_isNear_66 rfl (lv_at hl 1 rfl) ?_
      refine lv_iload_n hx hb dX2_isNear_67 rfl (lv_at hl 2 rfl) ?_
      refine bm_rcallV (As := [.int (nI a)]) (rest := [.long (q_max (p0.2.1 a) (p0.2.1 b))]) ⟨hx, hb, hml, hown, hts⟩ (r_endY (j := a) hoL (by omega)) (cwV 1 hts (gdV (by decide +kernel) (by decide +kernel) (by decide +kernel) (by decide +kernel) (by decide +kernel)) rfl rfl rfl (by decide +kernel) ⟨Nat.le_of_ble_eq_true rfl, Nat.le_of_ble_eq_true rfl⟩) hK hP 8 2 rfl rfl rfl hl.1 rfl (Nat.le_of_ble_eq_true rfl) dX2_isNear_68 ⟨Nat.le_of_ble_eq_true rfl, Nat.le_of_ble_eq_true rfl⟩ ?_
      refine lv_aload_n hx hb dX2_isNear_71 rfl (lv_at hl 1 rfl) ?_
      refine lv_iload_n hx hb dX2_isNear_72 rfl (lv_at hl 3 rfl) ?_
      refine bm_rcallV (As := [.int (nI b)]) (rest := [.long (q_endY pa p0 a), .long (q_max (p0.2.1 a) (p0.2.1 b))]) ⟨hx, hb, hml, hown, hts⟩ (r_endY (j := b) hoL (by omega)) (cwV 1 hts (gdV (by decide +kernel) (by decide +kernel) (by decide +kernel) (by decide +kernel) (by decide +kernel)) rfl rfl rfl (by decide +kernel) ⟨Nat.le_of_ble_eq_true rfl, Nat.le_of_ble_eq_true rfl⟩) hK hP 8 2 rfl rfl rfl hl.1 rfl (Nat.le_of_ble_eq_true rfl) dX2_isNear_73 ⟨Nat.le_of_ble_eq_true rfl, Nat.le_of_ble_eq_true rfl⟩ ?_
      refine bm_mminl hx hb (hml.trans hl.1.symm) hown (hts (.methodLink RX2 70 Lib.MathLoose.min_long.x) (by decide +kernel)) (hts (.static Lib.MathLoose.min_long.x) (by decide +kernel)) (hts (.initialized "java/lang/Math") (by decide +kernel)) (hts (.code Lib.MathLoose.min_long.x Lib.MathLoose.min_long.code 4 (some .long)) (by decide +kernel)) (Nat.le_of_ble_eq_true rfl) (Nat.le_of_ble_eq_true rfl) (Nat.zero_le _) (Nat.zero_le _) dX2_isNear_76 ?_
      refine lv_lsub hx hb dX2_isNear_79 ?_
      refine lv_lstore (lv' := [(7, .long ((q_max (p0.2.1 a) (p0.2.1 b)) - (q_min (q_endY pa p0 a) (q_endY pa p0 b)))), (5, .long ((q_max (p0.1 a) (p0.1 b)) - (q_min (q_endX pa p0 a) (q_endX pa p0 b)))), (0, .ref (ad 8)), (1, .int (nI a)), (2, .int (nI b)), (3, .long q)]) hx hb dX2_isNear_80 hl (by decide) rfl (fun ls hl => ?_)
      refine lv_lconst (v := 0) hx hb dX2_isNear_82 (by decide) ?_
      refine lv_lload hx hb dX2_isNear_83 (lv_at hl 1 rfl) ?_
      refine bm_mmaxl hx hb (hml.trans hl.1.symm) hown (hts (.methodLink RX2 64 Lib.MathLoose.max_long.x) (by decide +kernel)) (hts (.static Lib.MathLoose.max_long.x) (by decide +kernel)) (hts (.initialized "java/lang/Math") (by decide +kernel)) (hts (.code Lib.MathLoose.max_long.x Lib.MathLoose.max_long.code 4 (some .long)) (by decide +kernel)) (Nat.le_of_ble_eq_true rfl) (Nat.le_of_ble_eq_true rfl) (Nat.zero_le _) (Nat.zero_le _) dX2_isNear_85 ?_
      refine lv_lconst (v := 0) hx hb dX2_isNear_88 (by decide) ?_
      refine lv_lload hx hb dX2_isNear_89 (lv_at hl 0 rfl) ?_
      refine bm_mmaxl hx hb (hml.trans hl.1.symm) hown (hts (.methodLink RX2 64 Lib.MathLoose.max_long.x) (by decide +kernel)) (hts (.static Lib.MathLoose.max_long.x) (by decide +kernel)) (hts (.initialized "java/lang/Math") (by decide +kernel)) (hts (.code Lib.MathLoose.max_long.x Lib.MathLoose.max_long.code 4 (some .long)) (by decide +kernel)) (Nat.le_of_ble_eq_true rfl) (Nat.le_of_ble_eq_true rfl) (Nat.zero_le _) (Nat.zero_le _) dX2_isNear_91 ?_
      refine lv_ladd hx hb dX2_isNear_94 ?_
      refine lv_lload_n hx hb dX2_isNear_95 rfl (lv_at hl 5 rfl) ?_
      refine bm_lc_gt (x := ((q_max 0 ((q_max (p0.1 a) (p0.1 b)) - (q_min (q_endX pa p0 a) (q_endX pa p0 b)))) + (q_max 0 ((q_max (p0.2.1 a) (p0.2.1 b)) - (q_min (q_endY pa p0 a) (q_endY pa p0 b)))))) (y := q) (tgt := 104) hx hb dX2_isNear_96 dX2_isNear_97 (by decide) (fun c_3 => ?_) (fun c_3 => ?_)
      · refine lv_iconst (v := bm_b false) hx hb dX2_isNear_104 (by decide) ?_
        exact bm_zretR (v := false) hx hb hr (by simp [q_near, c_1, c_2, c_3]) dX2_isNear_105 hlocks
      · refine lv_iconst (v := bm_b true) hx hb dX2_isNear_100 (by decide) ?_
        refine lv_goto (tgt := 105) hx hb dX2_isNear_101 (by decide) ?_
        exact bm_zretR (v := true) hx hb hr (by simp [q_near, c_1, c_2, c_3]) dX2_isNear_105 hlocks
    · refine lv_iconst (v := bm_b true) hx hb dX2_isNear_18 (by decide) ?_
      exact bm_zretR (v := true) hx hb hr (by simp [q_near, c_1, c_2]) dX2_isNear_19 hlocks
