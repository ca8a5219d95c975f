set_option maxHeartbeats 4000000 in
set_option maxRecDepth 100000 in
theorem r_low {l : Launch} {D : va_G} {ad : Nat → Nat} {cJ cI cZ : ClassId} {bm : gBM} {pa : gPA} {p0 p1 p2 : gPL} {li : gLI} {wi : gWI} (hoL : q_okL p0) (hoI : q_okI li) {j : Nat} (h1 : j < 40) : bm_Rd l yX0_isLowEnough wsX0_isLowEnough ({ frames := 2, cells := 0, slots := 0, locals := 50 }) D vwCl [(cJ, .long), (cI, .int), (cZ, .boolean)] (Wd ad cJ cI cZ bm pa p0 p1 p2 li wi) [.ref (ad 23), .ref (ad 8), .int (nI j)] (.int (bm_b (q_low pa p0 li j))) := by
  obtain ⟨hon, hot, hko, hne⟩ := hoI
  refine Met.ofW (cc := cX0_isLowEnough) (maxL := 4) (ret := (some .boolean)) (by decide) rfl ?_
  intro p e s m args below meth c s₁ B hml hv
  obtain ⟨ha, hP, hK⟩ := hv
  have hx := B.exec
  have hb := B.bytes
  have hr := B.returns
  have hts := atoms_spec (ws := wsX0_isLowEnough) B.pre
  have hown : s.vm.findClass RX0 = some m.cls := findClass_of_methodNamed B.named
  have hlocks := B.notSynchronized
  have lp : ∀ (k : Nat) (i : Nat), i ≤ 10 → 10 + 1 < i + k → q_find (q_tooTall pa p0 li j) (li.2.2.2.2.2.2.2.2.1 - i) i = q_find (q_tooTall pa p0 li j) (li.2.2.2.2.2.2.2.2.1 - 0) 0 → ∀ (ls : Array Slot), lv_has ls 4 [(0, .ref (ad 23)), (1, .ref (ad 8)), (2, .int (nI j)), (3, .int (nI i))] → W p l e (headSpec wsX0_isLowEnough ({ frames := 2, cells := 0, slots := 0, locals := 50 })).room s m args below meth c s.heap [] 0 0 (MQ below (k2_QcV (.int (bm_b (q_low pa p0 li j)))) args s 0 0 (fun _ => False)) (F0 m 2 ls []) := by
    intro k
    induction k with
    | zero => intro i hi hk he; exfalso; omega
    | succ k ih =>
      intro i hi hk he ls hl
      refine lv_iload_n hx hb dX0_isLowEnough_2 rfl (lv_at hl 3 rfl) ?_
      refine lv_aload_n hx hb dX0_isLowEnough_3 rfl (lv_at hl 0 rfl) ?_
      refine va_get (D := D) (ci := 0) (v := .int (nI li.2.2.2.2.2.2.2.2.1)) (C := RX0) (T := TX0) (N := 11) hx hb hts (inT inX0) hown hK hP 23 rfl rfl 9 (by decide) (hts (.fieldLink RX0 37 "BoardMoves$Limits" "keepOuts" "I") (by decide +kernel)) (fun _ h9 => h9) rfl dX0_isLowEnough_4 ?_
      refine bm_ni_ge (x := i) (y := li.2.2.2.2.2.2.2.2.1) (tgt := 69) hx hb (by omega) (by omega) dX0_isLowEnough_7 (by decide) (fun c_1 => ?_) (fun c_1 => ?_)
      · refine lv_iconst (v := bm_b true) hx hb dX0_isLowEnough_69 (by decide) ?_
        exact bm_zretR (v := true) hx hb hr (by rw [q_low, ← he, q_find_end (by assumption)]; rfl) dX0_isLowEnough_70 hlocks
      · refine lv_aload_n hx hb dX0_isLowEnough_10 rfl (lv_at hl 0 rfl) ?_
        refine va_get (D := D) (ci := 0) (v := .ref (ad 1)) (C := RX0) (T := TX0) (N := 11) hx hb hts (inT inX0) hown hK hP 23 rfl rfl 0 (by decide) (hts (.fieldLink RX0 44 "BoardMoves$Limits" "parts" "LBoardMoves$Parts;") (by decide +kernel)) (fun _ h9 => h9) rfl dX0_isLowEnough_11 ?_
        refine va_get (D := D) (ci := 1) (v := .ref (ad 5)) (C := RX1) (T := TX1) (N := 7) hx hb hts (inT inX1) hown hK hP 1 rfl rfl 3 (by decide) (hts (.fieldLink RX0 48 "BoardMoves$Parts" "tall" "[J") (by decide +kernel)) (fun _ h9 => h9) rfl dX0_isLowEnough_14 ?_
        refine lv_iload_n hx hb dX0_isLowEnough_17 rfl (lv_at hl 2 rfl) ?_
        refine bm_lald (f := pa.2.2.2.1) hx hb hK hP 5 0 rfl rfl (j := j) (by omega) (by decide) dX0_isLowEnough_18 ?_
        refine lv_aload_n hx hb dX0_isLowEnough_19 rfl (lv_at hl 0 rfl) ?_
        refine va_get (D := D) (ci := 0) (v := .ref (ad 28)) (C := RX0) (T := TX0) (N := 11) hx hb hts (inT inX0) hown hK hP 23 rfl rfl 5 (by decide) (hts (.fieldLink RX0 24 "BoardMoves$Limits" "tallest" "[J") (by decide +kernel)) (fun _ h9 => h9) rfl dX0_isLowEnough_20 ?_
        refine lv_iload_n hx hb dX0_isLowEnough_23 rfl (lv_at hl 3 rfl) ?_
        refine bm_lald (f := li.2.2.2.2.1) hx hb hK hP 28 0 rfl rfl (j := i) (by omega) (by decide) dX0_isLowEnough_24 ?_
        refine bm_lc_le (x := (pa.2.2.2.1 j)) (y := (li.2.2.2.2.1 i)) (tgt := 63) hx hb dX0_isLowEnough_25 dX0_isLowEnough_26 (by decide) (fun c_2 => ?_) (fun c_2 => ?_)
        · refine lv_iinc (v := (nI (i + 1))) (lv' := [(3, .int (nI (i + 1))), (0, .ref (ad 23)), (1, .ref (ad 8)), (2, .int (nI j))]) hx hb dX0_isLowEnough_63 hl (k := 3) rfl (nI_1 i) (by decide) rfl (fun ls hl => ?_)
          refine lv_goto (tgt := 2) hx hb dX0_isLowEnough_66 (by decide) ?_
          exact ih (i + 1) (by omega) (by omega) (by rw [← he]; exact q_find_go (by assumption) (by simp [q_tooTall, c_2]; done)) _ (lv_sub hl [1, 2, 3, 0] rfl)
        · refine lv_aload_n hx hb dX0_isLowEnough_29 rfl (lv_at hl 1 rfl) ?_
          refine lv_iload_n hx hb dX0_isLowEnough_30 rfl (lv_at hl 2 rfl) ?_
          refine lv_aload_n hx hb dX0_isLowEnough_31 rfl (lv_at hl 0 rfl) ?_
          refine va_get (D := D) (ci := 0) (v := .ref (ad 24)) (C := RX0) (T := TX0) (N := 11) hx hb hts (inT inX0) hown hK hP 23 rfl rfl 1 (by decide) (hts (.fieldLink RX0 9 "BoardMoves$Limits" "x0" "[J") (by decide +kernel)) (fun _ h9 => h9) rfl dX0_isLowEnough_32 ?_
          refine lv_iload_n hx hb dX0_isLowEnough_35 rfl (lv_at hl 3 rfl) ?_
          refine bm_lald (f := li.1) hx hb hK hP 24 0 rfl rfl (j := i) (by omega) (by decide) dX0_isLowEnough_36 ?_
          refine lv_aload_n hx hb dX0_isLowEnough_37 rfl (lv_at hl 0 rfl) ?_
          refine va_get (D := D) (ci := 0) (v := .ref (ad 25)) (C := RX0) (T := TX0) (N := 11) hx hb hts (inT inX0) hown hK hP 23 rfl rfl 2 (by decide) (hts (.fieldLink RX0 15 "BoardMoves$Limits" "y0" "[J") (by decide +kernel)) (fun _ h9 => h9) rfl dX0_isLowEnough_38 ?_
          refine lv_iload_n hx hb dX0_isLowEnough_41 rfl (lv_at hl 3 rfl) ?_
          refine bm_lald (f := li.2.1) hx hb hK hP 25 0 rfl rfl (j := i) (by omega) (by decide) dX0_isLowEnough_42 ?_
          refine lv_aload_n hx hb dX0_isLowEnough_43 rfl (lv_at hl 0 rfl) ?_
          refine va_get (D := D) (ci := 0) (v := .ref (ad 26)) (C := RX0) (T := TX0) (N := 11) hx hb hts (inT inX0) hown hK hP 23 rfl rfl 3 (by decide) (hts (.fieldLink RX0 18 "BoardMoves$Limits" "x1" "[J") (by decide +kernel)) (fun _ h9 => h9) rfl dX0_isLowEnough_44 ?_
          refine lv_iload_n hx hb dX0_isLowEnough_47 rfl (lv_at hl 3 rfl) ?_
          refine bm_lald (f := li.2.2.1) hx hb hK hP 26 0 rfl rfl (j := i) (by omega) (by decide) dX0_isLowEnough_48 ?_
          refine lv_aload_n hx hb dX0_isLowEnough_49 rfl (lv_at hl 0 rfl) ?_
          refine va_get (D := D) (ci := 0) (v := .ref (ad 27)) (C := RX0) (T := TX0) (N := 11) hx hb hts (inT inX0) hown hK hP 23 rfl rfl 4 (by decide) (hts (.fieldLink RX0 21 "BoardMoves$Limits" "y1" "[J") (by decide +kernel)) (fun _ h9 => h9) rfl dX0_isLowEnough_50 ?_
          refine lv_iload_n hx hb dX0_isLowEnough_53 rfl (lv_at hl 3 rfl) ?_
          refine bm_lald (f := li.2.2.2.1) hx hb hK hP 27 0 rfl rfl (j := i) (by omega) (by decide) dX0_isLowEnough_54 ?_
          refine bm_rcallV (As := [.int (nI j), .long (li.1 i), .long (li.2.1 i), .long (li.2.2.1 i), .long (li.2.2.2.1 i)]) (rest := []) ⟨hx, hb, hml, hown, hts⟩ (r_meets (j := j) hoL (by omega)) (cwV 5 hts (gdV (by decide +kernel) (by decide +kernel) (by decide +kernel) (by decide +kernel) (by decide +kernel)) rfl rfl rfl (by decide +kernel) ⟨Nat.le_of_ble_eq_true rfl, Nat.le_of_ble_eq_true rfl⟩) hK hP 8 2 rfl rfl rfl hl.1 rfl (Nat.le_of_ble_eq_true rfl) dX0_isLowEnough_55 ⟨Nat.le_of_ble_eq_true rfl, Nat.le_of_ble_eq_true rfl⟩ ?_
          refine bm_zb_eq (x := (q_meets pa p0 j (li.1 i) (li.2.1 i) (li.2.2.1 i) (li.2.2.2.1 i))) (tgt := 63) hx hb dX0_isLowEnough_58 (by decide) (fun c_3 => ?_) (fun c_3 => ?_)
          · refine lv_iinc (v := (nI (i + 1))) (lv' := [(3, .int (nI (i + 1))), (0, .ref (ad 23)), (1, .ref (ad 8)), (2, .int (nI j))]) hx hb dX0_isLowEnough_63 hl (k := 3) rfl (nI_1 i) (by decide) rfl (fun ls hl => ?_)
            refine lv_goto (tgt := 2) hx hb dX0_isLowEnough_66 (by decide) ?_
            exact ih (i + 1) (by omega) (by omega) (by rw [← he]; exact q_find_go (by assumption) (by first | (simp [q_tooTall, c_2, c_3]; done) | (simp only [q_tooTall]; rw [c_3]; simp [c_2]; done))) _ (lv_sub hl [1, 2, 3, 0] rfl)
          · refine lv_iconst (v := bm_b false) hx hb dX0_isLowEnough_61 (by decide) ?_
            exact bm_zretR (v := false) hx hb hr (by rw [q_low, ← he, q_find_hit (by assumption) (by first | (simp [q_tooTall, c_2, c_3]; done) | (simp only [q_tooTall]; rw [c_3]; simp [c_2]; done))]; rfl) dX0_isLowEnough_62 hlocks
  have hl := lv_entry ([.ref (ad 23), .ref (ad 8), .int (nI j)]) (n := 4) (Nat.le_of_ble_eq_true rfl)
  refine W.eq (g2 := entryFrame m ([.ref (ad 23), .ref (ad 8), .int (nI j)] : List Value).toArray 4) (by rw [ha]) ?_
  rw [lg_entry_eq]
  generalize (lg_sl ([.ref (ad 23), .ref (ad 8), .int (nI j)]) ++ List.replicate (4 - (lg_sl ([.ref (ad 23), .ref (ad 8), .int (nI j)])).length) Slot.unset).toArray = ls at hl ⊢
  have hl : lv_has ls 4 [(0, .ref (ad 23)), (1, .ref (ad 8)), (2, .int (nI j))] := hl
  refine lv_iconst (v := nI 0) hx hb dX0_isLowEnough_0 (by decide) ?_
  refine lv_istore_n (lv' := [(3, .int (nI 0)), (0, .ref (ad 23)), (1, .ref (ad 8)), (2, .int (nI j))]) hx hb dX0_isLowEnough_1 rfl hl (by decide) rfl (fun ls hl => ?_)
  exact lp 12 0 (by omega) (by omega) rfl _ (lv_sub hl [1, 2, 3, 0] rfl)
