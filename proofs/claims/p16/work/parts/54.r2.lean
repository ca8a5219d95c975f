set_option maxHeartbeats 4000000 in
set_option maxRecDepth 100000 in
theorem r_low {l : Launch} {D : va_G} {ad : Nat → Nat} {cJ cI cZ : ClassId} {bm : gBM} {pa : gPA} {p0 p1 p2 : gPL} {li : gLI} {wi : gWI} {mt : Nat} {ms : gMS} {ma : gMA} {mp : gMP} {mk : gMK} {mn : gMN} {ou : Nat → Int64} (hoL : q_okL p0) (hoI : q_okI li) {j : Nat} (h1 : j < 40) : bm_Rd l yX0_isLowEnough wsX0_isLowEnough ({ frames := 2, cells := 0, slots := 0, locals := 50 }) D vwCl [(cJ, .long), (cI, .int), (cZ, .boolean)] (WW ad cJ cI cZ bm pa p0 p1 p2 li wi mt ms ma mp mk mn ou) [.ref (ad 23), .ref (ad 8), .int (nI j)] (.int (bm_b (q_low pa p0 li j))) := by
  obtain ⟨hon, hot, hko, hne⟩ := hoI
  refine Met.ofW (cc := cX0_isLowEnough) (maxL := 4) (ret := (some .boolean)) (by decide) rfl ?_
  intro p e s m args below meth c s₁ B hml hv
  obtain ⟨ha, hP, hK⟩ := hv
  have hx := B.exec
  have hb := B.bytes
  have hr := B.returns
  have hts := atoms_spec (ws := wsX0_isLowEnough) B.pre
  have hown : s.vm.findClass RX0 = some m.cls := findClass_of_methodNamed B.named
  have hlocks := B.notSynchronized
  have lp : ∀ (k : Nat) (i : Nat), i ≤ 10 → 10 + 1 < i + k → q_find (q_tooTall pa p0 li j) (li.2.2.2.2.2.2.2.2.1 - i) i = q_find (q_tooTall pa p0 li j) (li.2.2.2.2.2.2.2.2.1 - 0) 0 → ∀ (ls : Array Slot), lv_has ls 4 [(0, .ref (ad 23)), (1, .ref (ad 8)), (2, .int (nI j)), (3, .int (nI i))] → W p l e (headSpec wsX0_isLowEnough ({ frames := 2, cells := 0, slots := 0, locals := 50 })).room s m args below meth c s.heap [] 0 0 (MQ below (k2_QcV (.int (bm_b (q_low pa p0 li j)))) args s 0 0 (fun _ => False)) (F0 m 2 ls []) := by
    intro k
    induction k with
    | zero => intro i hi hk he; exfalso; omega
    | succ k ih =>
      intro i hi hk he ls hl
      refine lv_iload_n hx hb dX0_isLowEnough_2 rfl (lv_at hl 3 rfl) ?_
      refine lv_aload_n hx hb dX0_isLowEnough_3 rfl (lv_at hl 0 rfl) ?_
      refine va_get (D := D) (ci := 0) (v := .int (nI li.2.2.2.2.2.2.2.2.1)) (C := RX0) (T := TX0) (N := 11) hx hb hts (inT inX0) hown hK hP 23 ww_23 rfl 9 (by decide) (hts (.fieldLink RX0 37 "BoardMoves$Limits" "keepOuts" "I") (List.mem_cons_of_mem _ flX0_37)) (fun _ h9 => h9) rfl dX0_isLowEnough_4 ?_
      refine bm_ni_ge (x := i) (y := li.2.2.2.2.2.2.2.2.1) (tgt := 69) hx hb (by omega) (by omega) dX0_isLowEnough_7 (by decide) (fun c_1 => ?_) (fun c_1 => ?_)
      · refine lv_iconst (v := bm_b true) hx hb dX0_isLowEnough_69 (by decide) ?_
        exact bm_zretR (v := true) hx hb hr (by rw [q_low, ← he, q_find_end (by assumption)]; rfl) dX0_isLowEnough_70 hlocks
      · refine lv_aload_n hx hb dX0_isLowEnough_10 rfl (lv_at hl 0 rfl) ?_
        refine va_get (D := D) (ci := 0) (v := .ref (ad 1)) (C := RX0) (T := TX0) (N := 11) hx hb hts (inT inX0) hown hK hP 23 ww_23 rfl 0 (by decide) (hts (.fieldLink RX0 44 "BoardMoves$Limits" "parts" "LBoardMoves$Parts;") (List.mem_cons_of_mem _ flX0_44)) (fun _ h9 => h9) rfl dX0_isLowEnough_11 ?_
        refine va_get (D := D) (ci := 1) (v := .ref (ad 5)) (C := RX1) (T := TX1) (N := 7) hx hb hts (inT inX1) hown hK hP 1 ww_1 rfl 3 (by decide) (hts (.fieldLink RX0 48 "BoardMoves$Parts" "tall" "[J") (List.mem_cons_of_mem _ flX0_48)) (fun _ h9 => h9) rfl dX0_isLowEnough_14 ?_
        refine lv_iload_n hx hb dX0_isLowEnough_17 rfl (lv_at hl 2 rfl) ?_
        refine bm_lald (f := pa.2.2.2.1) hx hb hK hP 5 0 ww_5 rfl (j := j) (by omega) (by decide) dX0_isLowEnough_18 ?_
        refine lv_aload_n hx hb dX0_isLowEnough_19 rfl (lv_at hl 0 rfl) ?_
        refine va_get (D := D) (ci := 0) (v := .ref (ad 28)) (C := RX0) (T := TX0) (N := 11) hx hb hts (inT inX0) hown hK hP 23 ww_23 rfl 5 (by decide) (hts (.fieldLink RX0 24 "BoardMoves$Limits" "tallest" "[J") (List.mem_cons_of_mem _ flX0_24)) (fun _ h9 => h9) rfl dX0_isLowEnough_20 ?_
        refine lv_iload_n hx hb dX0_isLowEnough_23 rfl (lv_at hl 3 rfl) ?_
        refine bm_lald (f := li.2.2.2.2.1) hx hb hK hP 28 0 ww_28 rfl (j := i) (by omega) (by decide) dX0_isLowEnough_24 ?_
        refine bm_lc_le (x := (pa.2.2.2.1 j)) (y := (li.2.2.2.2.1 i)) (tgt := 63) hx hb dX0_isLowEnough_25 dX0_isLowEnough_26 (by decide) (fun c_2 => ?_) (fun c_2 => ?_)
        · refine lv_iinc (v := (nI (i + 1))) (lv' := [(3, .int (nI (i + 1))), (0, .ref (ad 23)), (1, .ref (ad 8)), (2, .int (nI j))]) hx hb dX0_isLowEnough_63 hl (k := 3) rfl (nI_1 i) (by decide) rfl (fun ls hl => ?_)
          refine lv_goto (tgt := 2) hx hb dX0_isLowEnough_66 (by decide) ?_
          exact ih (i + 1) (by omega) (by omega) (by rw [← he]; exact q_find_go (by assumption) (by simp [q_tooTall, c_2]; done)) _ (lv_sub hl [1, 2, 3, 0] rfl)
        · refine lv_aload_n hx hb dX0_isLowEnough_29 rfl (lv_at hl 1 rfl) ?_
          refine lv_iload_n hx hb dX0_isLowEnough_30 rfl (lv_at hl 2 rfl) ?_
          refine lv_aload_n hx hb dX0_isLowEnough_31 rfl (lv_at hl 0 rfl) ?_
          refine va_get (D := D) (ci := 0) (v := .ref (ad 24)) (C := RX0) (T := TX0) (N := 11) hx hb hts (inT inX0) hown hK hP 23 ww_23 rfl 1 (by decide) (hts (.fieldLink RX0 9 "BoardMoves$Limits" "x0" "[J") (List.mem_cons_of_mem _ flX0_9)) (fun _ h9 => h9) rfl dX0_isLowEnough_32 ?_
          refine lv_iload_n hx hb dX0_isLowEnough_35 rfl (lv_at hl 3 rfl) ?_
          refine bm_lald (f := li.1) hx hb hK hP 24 0 ww_24 rfl (j := i) (by omega) (by decide) dX0_isLowEnough_36 ?_
          refine lv_aload_n hx hb dX0_isLowEnough_37 rfl (lv_at hl 0 rfl) ?_
          refine va_get (D := D) (ci := 0) (v := .ref (ad 25)) (C := RX0) (T := TX0) (N := 11) hx hb hts (inT inX0) hown hK hP 23 ww_23 rfl 2 (by decide) (hts (.fieldLink RX0 15 "BoardMoves$Limits" "y0" "[J") (List.mem_cons_of_mem _ flX0_15)) (fun _ h9 => h9) rfl dX0_isLowEnough_38 ?_
          refine lv_iload_n hx hb dX0_isLowEnough_41 rfl (lv_at hl 3 rfl) ?_
          refine bm_lald (f := li.2.1) hx hb hK hP 25 0 ww_25 rfl (j := i) (by omega) (by decide) dX0_isLowEnough_42 ?_
          refine lv_aload_n hx hb dX0_isLowEnough_43 rfl (lv_at hl 0 rfl) ?_
          refine va_get (D := D) (ci := 0) (v := .ref (ad 26)) (C := RX0) (T := TX0) (N := 11) hx hb hts (inT inX0) hown hK hP 23 ww_23 rfl 3 (by decide) (hts (.fieldLink RX0 18 "BoardMoves$Limits" "x1" "[J") (List.mem_cons_of_mem _ flX0_18)) (fun _ h9 => h9) rfl dX0_isLowEnough_44 ?_
          refine lv_iload_n hx hb dX0_isLowEnough_47 rfl (lv_at hl 3 rfl) ?_
          refine bm_lald (f := li.2.2.1) hx hb hK hP 26 0 ww_26 rfl (j := i) (by omega) (by decide) dX0_isLowEnough_48 ?_
          refine lv_aload_n hx hb dX0_isLowEnough_49 rfl (lv_at hl 0 rfl) ?_
          refine va_get (D := D) (ci := 0) (v := .ref (ad 27)) (C := RX0) (T := TX0) (N := 11) hx hb hts (inT inX0) hown hK hP 23 ww_23 rfl 4 (by decide) (hts (.fieldLink RX0 21 "BoardMoves$Limits" "y1" "[J") (List.mem_cons_of_mem _ flX0_21)) (fun _ h9 => h9) rfl dX0_isLowEnough_50 ?_
          refine lv_iload_n hx hb dX0_isLowEnough_53 rfl (lv_at hl 3 rfl) ?_
          refine bm_lald (f := li.2.2.2.1) hx hb hK hP 27 0 ww_27 rfl (j := i) (by omega) (by decide) dX0_isLowEnough_54 ?_
          refine bm_rcallV (As := [.int (nI j), .long (li.1 i), .long (li.2.1 i), .long (li.2.2.1 i), .long (li.2.2.2.1 i)]) (rest := []) ⟨hx, hb, hml, hown, hts⟩ (r_meets (j := j) hoL (by omega)) (cwV 5 hts gvX0_53 rfl rfl rfl hvX2_meetsArea ⟨Nat.le_of_ble_eq_true rfl, Nat.le_of_ble_eq_true rfl⟩) hK hP 8 2 rfl ww_8 rfl hl.1 rfl (Nat.le_of_ble_eq_true rfl) dX0_isLowEnough_55 ⟨Nat.le_of_ble_eq_true rfl, Nat.le_of_ble_eq_true rfl⟩ ?_
          refine bm_zb_eq (x := (q_meets pa p0 j (li.1 i) (li.2.1 i) (li.2.2.1 i) (li.2.2.2.1 i))) (tgt := 63) hx hb dX0_isLowEnough_58 (by decide) (fun c_3 => ?_) (fun c_3 => ?_)
          · refine lv_iinc (v := (nI (i + 1))) (lv' := [(3, .int (nI (i + 1))), (0, .ref (ad 23)), (1, .ref (ad 8)), (2, .int (nI j))]) hx hb dX0_isLowEnough_63 hl (k := 3) rfl (nI_1 i) (by decide) rfl (fun ls hl => ?_)
            refine lv_goto (tgt := 2) hx hb dX0_isLowEnough_66 (by decide) ?_
            exact ih (i + 1) (by omega) (by omega) (by rw [← he]; exact q_find_go (by assumption) (by first | (simp [q_tooTall, c_2, c_3]; done) | (simp only [q_tooTall]; rw [c_3]; simp [c_2]; done))) _ (lv_sub hl [1, 2, 3, 0] rfl)
          · refine lv_iconst (v := bm_b false) hx hb dX0_isLowEnough_61 (by decide) ?_
            exact bm_zretR (v := false) hx hb hr (by rw [q_low, ← he, q_find_hit (by assumption) (by first | (simp [q_tooTall, c_2, c_3]; done) | (simp only [q_tooTall]; rw [c_3]; simp [c_2]; done))]; rfl) dX0_isLowEnough_62 hlocks
  have hl := lv_entry ([.ref (ad 23), .ref (ad 8), .int (nI j)]) (n := 4) (Nat.le_of_ble_eq_true rfl)
  refine W.eq (g2 := entryFrame m ([.ref (ad 23), .ref (ad 8), .int (nI j)] : List Value).toArray 4) (by rw [ha]) ?_
  rw [lg_entry_eq]
  generalize (lg_sl ([.ref (ad 23), .ref (ad 8), .int (nI j)]) ++ List.replicate (4 - (lg_sl ([.ref (ad 23), .ref (ad 8), .int (nI j)])).length) Slot.unset).toArray = ls at hl ⊢
  have hl : lv_has ls 4 [(0, .ref (ad 23)), (1, .ref (ad 8)), (2, .int (nI j))] := hl
  refine lv_iconst (v := nI 0) hx hb dX0_isLowEnough_0 (by decide) ?_
  refine lv_istore_n (lv' := [(3, .int (nI 0)), (0, .ref (ad 23)), (1, .ref (ad 8)), (2, .int (nI j))]) hx hb dX0_isLowEnough_1 rfl hl (by decide) rfl (fun ls hl => ?_)
  exact lp 12 0 (by omega) (by omega) rfl _ (lv_sub hl [1, 2, 3, 0] rfl)

set_option maxHeartbeats 4000000 in
set_option maxRecDepth 100000 in
theorem r_nears {l : Launch} {D : va_G} {ad : Nat → Nat} {cJ cI cZ : ClassId} {bm : gBM} {pa : gPA} {p0 p1 p2 : gPL} {li : gLI} {wi : gWI} {mt : Nat} {ms : gMS} {ma : gMA} {mp : gMP} {mk : gMK} {mn : gMN} {ou : Nat → Int64} (hoL : q_okL p0) (hoI : q_okI li) {j : Nat} (h1 : j < 40) : bm_Rd l yX0_isNearEnough wsX0_isNearEnough ({ frames := 2, cells := 0, slots := 0, locals := 52 }) D vwCl [(cJ, .long), (cI, .int), (cZ, .boolean)] (WW ad cJ cI cZ bm pa p0 p1 p2 li wi mt ms ma mp mk mn ou) [.ref (ad 23), .ref (ad 8), .int (nI j)] (.int (bm_b (q_nears pa p0 li j))) := by
  obtain ⟨hon, hot, hko, hne⟩ := hoI
  refine Met.ofW (cc := cX0_isNearEnough) (maxL := 5) (ret := (some .boolean)) (by decide) rfl ?_
  intro p e s m args below meth c s₁ B hml hv
  obtain ⟨ha, hP, hK⟩ := hv
  have hx := B.exec
  have hb := B.bytes
  have hr := B.returns
  have hts := atoms_spec (ws := wsX0_isNearEnough) B.pre
  have hown : s.vm.findClass RX0 = some m.cls := findClass_of_methodNamed B.named
  have hlocks := B.notSynchronized
  have lp : ∀ (k : Nat) (i : Nat), i ≤ 20 → 20 + 1 < i + k → q_find (q_tooFar pa p0 li j) (li.2.2.2.2.2.2.2.2.2 - i) i = q_find (q_tooFar pa p0 li j) (li.2.2.2.2.2.2.2.2.2 - 0) 0 → ∀ (ls : Array Slot), lv_has ls 5 [(0, .ref (ad 23)), (1, .ref (ad 8)), (2, .int (nI j)), (3, .int (nI i))] → W p l e (headSpec wsX0_isNearEnough ({ frames := 2, cells := 0, slots := 0, locals := 52 })).room s m args below meth c s.heap [] 0 0 (MQ below (k2_QcV (.int (bm_b (q_nears pa p0 li j)))) args s 0 0 (fun _ => False)) (F0 m 2 ls []) := by
    intro k
    induction k with
    | zero => intro i hi hk he; exfalso; omega
    | succ k ih =>
      intro i hi hk he ls hl
      refine lv_iload_n hx hb dX0_isNearEnough_2 rfl (lv_at hl 3 rfl) ?_
      refine lv_aload_n hx hb dX0_isNearEnough_3 rfl (lv_at hl 0 rfl) ?_
      refine va_get (D := D) (ci := 0) (v := .int (nI li.2.2.2.2.2.2.2.2.2)) (C := RX0) (T := TX0) (N := 11) hx hb hts (inT inX0) hown hK hP 23 ww_23 rfl 10 (by decide) (hts (.fieldLink RX0 41 "BoardMoves$Limits" "nears" "I") (List.mem_cons_of_mem _ flX0_41)) (fun _ h9 => h9) rfl dX0_isNearEnough_4 ?_
      refine bm_ni_ge (x := i) (y := li.2.2.2.2.2.2.2.2.2) (tgt := 75) hx hb (by omega) (by omega) dX0_isNearEnough_7 (by decide) (fun c_1 => ?_) (fun c_1 => ?_)
      · refine lv_iconst (v := bm_b true) hx hb dX0_isNearEnough_75 (by decide) ?_
        exact bm_zretR (v := true) hx hb hr (by rw [q_nears, ← he, q_find_end (by assumption)]; rfl) dX0_isNearEnough_76 hlocks
      · refine lv_aload_n hx hb dX0_isNearEnough_10 rfl (lv_at hl 0 rfl) ?_
        refine va_get (D := D) (ci := 0) (v := .ref (ad 29)) (C := RX0) (T := TX0) (N := 11) hx hb hts (inT inX0) hown hK hP 23 ww_23 rfl 6 (by decide) (hts (.fieldLink RX0 27 "BoardMoves$Limits" "one" "[I") (List.mem_cons_of_mem _ flX0_27)) (fun _ h9 => h9) rfl dX0_isNearEnough_11 ?_
        refine lv_iload_n hx hb dX0_isNearEnough_14 rfl (lv_at hl 3 rfl) ?_
        refine bm_nald (f := li.2.2.2.2.2.1) hx hb hK hP 29 1 ww_29 rfl (j := i) (by omega) (by decide) dX0_isNearEnough_15 ?_
        refine lv_iload_n hx hb dX0_isNearEnough_16 rfl (lv_at hl 2 rfl) ?_
        refine bm_ni_eq (x := (li.2.2.2.2.2.1 i)) (y := j) (tgt := 30) hx hb (bm40 (hon _)) (by omega) dX0_isNearEnough_17 (by decide) (fun c_2 => ?_) (fun c_2 => ?_)
        · refine lv_iconst (v := bm_b true) hx hb dX0_isNearEnough_30 (by decide) ?_
          refine lv_goto (tgt := 35) hx hb dX0_isNearEnough_31 (by decide) ?_
          refine lv_istore (lv' := [(4, .int (bm_b true)), (0, .ref (ad 23)), (1, .ref (ad 8)), (2, .int (nI j)), (3, .int (nI i))]) hx hb dX0_isNearEnough_35 hl (by decide) rfl (fun ls hl => ?_)
          refine lv_iload hx hb dX0_isNearEnough_37 (lv_at hl 0 rfl) ?_
          refine bm_zb_eq (x := true) (tgt := 69) hx hb dX0_isNearEnough_39 (by decide) (fun c_3 => ?_) (fun c_3 => ?_)
          · exact absurd c_3 (by decide)
          · refine lv_aload_n hx hb dX0_isNearEnough_42 rfl (lv_at hl 2 rfl) ?_
            refine lv_aload_n hx hb dX0_isNearEnough_43 rfl (lv_at hl 1 rfl) ?_
            refine va_get (D := D) (ci := 0) (v := .ref (ad 29)) (C := RX0) (T := TX0) (N := 11) hx hb hts (inT inX0) hown hK hP 23 ww_23 rfl 6 (by decide) (hts (.fieldLink RX0 27 "BoardMoves$Limits" "one" "[I") (List.mem_cons_of_mem _ flX0_27)) (fun _ h9 => h9) rfl dX0_isNearEnough_44 ?_
            refine lv_iload_n hx hb dX0_isNearEnough_47 rfl (lv_at hl 4 rfl) ?_
            refine bm_nald (f := li.2.2.2.2.2.1) hx hb hK hP 29 1 ww_29 rfl (j := i) (by omega) (by decide) dX0_isNearEnough_48 ?_
            refine lv_aload_n hx hb dX0_isNearEnough_49 rfl (lv_at hl 1 rfl) ?_
            refine va_get (D := D) (ci := 0) (v := .ref (ad 30)) (C := RX0) (T := TX0) (N := 11) hx hb hts (inT inX0) hown hK hP 23 ww_23 rfl 7 (by decide) (hts (.fieldLink RX0 31 "BoardMoves$Limits" "other" "[I") (List.mem_cons_of_mem _ flX0_31)) (fun _ h9 => h9) rfl dX0_isNearEnough_50 ?_
            refine lv_iload_n hx hb dX0_isNearEnough_53 rfl (lv_at hl 4 rfl) ?_
            refine bm_nald (f := li.2.2.2.2.2.2.1) hx hb hK hP 30 1 ww_30 rfl (j := i) (by omega) (by decide) dX0_isNearEnough_54 ?_
            refine lv_aload_n hx hb dX0_isNearEnough_55 rfl (lv_at hl 1 rfl) ?_
            refine va_get (D := D) (ci := 0) (v := .ref (ad 31)) (C := RX0) (T := TX0) (N := 11) hx hb hts (inT inX0) hown hK hP 23 ww_23 rfl 8 (by decide) (hts (.fieldLink RX0 34 "BoardMoves$Limits" "most" "[J") (List.mem_cons_of_mem _ flX0_34)) (fun _ h9 => h9) rfl dX0_isNearEnough_56 ?_
            refine lv_iload_n hx hb dX0_isNearEnough_59 rfl (lv_at hl 4 rfl) ?_
            refine bm_lald (f := li.2.2.2.2.2.2.2.1) hx hb hK hP 31 0 ww_31 rfl (j := i) (by omega) (by decide) dX0_isNearEnough_60 ?_
            refine bm_rcallV (As := [.int (nI (li.2.2.2.2.2.1 i)), .int (nI (li.2.2.2.2.2.2.1 i)), .long (li.2.2.2.2.2.2.2.1 i)]) (rest := []) ⟨hx, hb, hml, hown, hts⟩ (r_near (a := (li.2.2.2.2.2.1 i)) (b := (li.2.2.2.2.2.2.1 i)) hoL (hon _) (hot _)) (cwV 3 hts gvX0_59 rfl rfl rfl hvX2_isNear ⟨Nat.le_of_ble_eq_true rfl, Nat.le_of_ble_eq_true rfl⟩) hK hP 8 2 rfl ww_8 rfl hl.1 rfl (Nat.le_of_ble_eq_true rfl) dX0_isNearEnough_61 ⟨Nat.le_of_ble_eq_true rfl, Nat.le_of_ble_eq_true rfl⟩ ?_
            refine bm_zb_ne (x := (q_near pa p0 (li.2.2.2.2.2.1 i) (li.2.2.2.2.2.2.1 i) (li.2.2.2.2.2.2.2.1 i))) (tgt := 69) hx hb dX0_isNearEnough_64 (by decide) (fun c_4 => ?_) (fun c_4 => ?_)
            · refine lv_iinc (v := (nI (i + 1))) (lv' := [(3, .int (nI (i + 1))), (4, .int (bm_b true)), (0, .ref (ad 23)), (1, .ref (ad 8)), (2, .int (nI j))]) hx hb dX0_isNearEnough_69 hl (k := 4) rfl (nI_1 i) (by decide) rfl (fun ls hl => ?_)
              refine lv_goto (tgt := 2) hx hb dX0_isNearEnough_72 (by decide) ?_
              exact ih (i + 1) (by omega) (by omega) (by rw [← he]; exact q_find_go (by assumption) (by first | (simp [q_tooFar, c_2, c_4]; done) | (simp only [q_tooFar]; rw [c_4]; simp [c_2]; done))) _ (lv_sub hl [2, 3, 4, 0] rfl)
            · refine lv_iconst (v := bm_b false) hx hb dX0_isNearEnough_67 (by decide) ?_
              exact bm_zretR (v := false) hx hb hr (by rw [q_nears, ← he, q_find_hit (by assumption) (by first | (simp [q_tooFar, c_2, c_4]; done) | (simp only [q_tooFar]; rw [c_4]; simp [c_2]; done))]; rfl) dX0_isNearEnough_68 hlocks
        · refine lv_aload_n hx hb dX0_isNearEnough_20 rfl (lv_at hl 0 rfl) ?_
          refine va_get (D := D) (ci := 0) (v := .ref (ad 30)) (C := RX0) (T := TX0) (N := 11) hx hb hts (inT inX0) hown hK hP 23 ww_23 rfl 7 (by decide) (hts (.fieldLink RX0 31 "BoardMoves$Limits" "other" "[I") (List.mem_cons_of_mem _ flX0_31)) (fun _ h9 => h9) rfl dX0_isNearEnough_21 ?_
          refine lv_iload_n hx hb dX0_isNearEnough_24 rfl (lv_at hl 3 rfl) ?_
          refine bm_nald (f := li.2.2.2.2.2.2.1) hx hb hK hP 30 1 ww_30 rfl (j := i) (by omega) (by decide) dX0_isNearEnough_25 ?_
          refine lv_iload_n hx hb dX0_isNearEnough_26 rfl (lv_at hl 2 rfl) ?_
          refine bm_ni_ne (x := (li.2.2.2.2.2.2.1 i)) (y := j) (tgt := 34) hx hb (bm40 (hot _)) (by omega) dX0_isNearEnough_27 (by decide) (fun c_5 => ?_) (fun c_5 => ?_)
          · refine lv_iconst (v := bm_b false) hx hb dX0_isNearEnough_34 (by decide) ?_
            refine lv_istore (lv' := [(4, .int (bm_b false)), (0, .ref (ad 23)), (1, .ref (ad 8)), (2, .int (nI j)), (3, .int (nI i))]) hx hb dX0_isNearEnough_35 hl (by decide) rfl (fun ls hl => ?_)
            refine lv_iload hx hb dX0_isNearEnough_37 (lv_at hl 0 rfl) ?_
            refine bm_zb_eq (x := false) (tgt := 69) hx hb dX0_isNearEnough_39 (by decide) (fun c_6 => ?_) (fun c_6 => ?_)
            · refine lv_iinc (v := (nI (i + 1))) (lv' := [(3, .int (nI (i + 1))), (4, .int (bm_b false)), (0, .ref (ad 23)), (1, .ref (ad 8)), (2, .int (nI j))]) hx hb dX0_isNearEnough_69 hl (k := 4) rfl (nI_1 i) (by decide) rfl (fun ls hl => ?_)
              refine lv_goto (tgt := 2) hx hb dX0_isNearEnough_72 (by decide) ?_
              exact ih (i + 1) (by omega) (by omega) (by rw [← he]; exact q_find_go (by assumption) (by first | (simp [q_tooFar, c_2, c_5]; done) | (simp only [q_tooFar]; rw [c_5]; simp [c_2]; done))) _ (lv_sub hl [2, 3, 4, 0] rfl)
            · exact absurd c_6 (by decide)
          · refine lv_iconst (v := bm_b true) hx hb dX0_isNearEnough_30 (by decide) ?_
            refine lv_goto (tgt := 35) hx hb dX0_isNearEnough_31 (by decide) ?_
            refine lv_istore (lv' := [(4, .int (bm_b true)), (0, .ref (ad 23)), (1, .ref (ad 8)), (2, .int (nI j)), (3, .int (nI i))]) hx hb dX0_isNearEnough_35 hl (by decide) rfl (fun ls hl => ?_)
            refine lv_iload hx hb dX0_isNearEnough_37 (lv_at hl 0 rfl) ?_
            refine bm_zb_eq (x := true) (tgt := 69) hx hb dX0_isNearEnough_39 (by decide) (fun c_7 => ?_) (fun c_7 => ?_)
            · exact absurd c_7 (by decide)
            · refine lv_aload_n hx hb dX0_isNearEnough_42 rfl (lv_at hl 2 rfl) ?_
              refine lv_aload_n hx hb dX0_isNearEnough_43 rfl (lv_at hl 1 rfl) ?_
              refine va_get (D := D) (ci := 0) (v := .ref (ad 29)) (C := RX0) (T := TX0) (N := 11) hx hb hts (inT inX0) hown hK hP 23 ww_23 rfl 6 (by decide) (hts (.fieldLink RX0 27 "BoardMoves$Limits" "one" "[I") (List.mem_cons_of_mem _ flX0_27)) (fun _ h9 => h9) rfl dX0_isNearEnough_44 ?_
              refine lv_iload_n hx hb dX0_isNearEnough_47 rfl (lv_at hl 4 rfl) ?_
              refine bm_nald (f := li.2.2.2.2.2.1) hx hb hK hP 29 1 ww_29 rfl (j := i) (by omega) (by decide) dX0_isNearEnough_48 ?_
              refine lv_aload_n hx hb dX0_isNearEnough_49 rfl (lv_at hl 1 rfl) ?_
              refine va_get (D := D) (ci := 0) (v := .ref (ad 30)) (C := RX0) (T := TX0) (N := 11) hx hb hts (inT inX0) hown hK hP 23 ww_23 rfl 7 (by decide) (hts (.fieldLink RX0 31 "BoardMoves$Limits" "other" "[I") (List.mem_cons_of_mem _ flX0_31)) (fun _ h9 => h9) rfl dX0_isNearEnough_50 ?_
              refine lv_iload_n hx hb dX0_isNearEnough_53 rfl (lv_at hl 4 rfl) ?_
              refine bm_nald (f := li.2.2.2.2.2.2.1) hx hb hK hP 30 1 ww_30 rfl (j := i) (by omega) (by decide) dX0_isNearEnough_54 ?_
              refine lv_aload_n hx hb dX0_isNearEnough_55 rfl (lv_at hl 1 rfl) ?_
              refine va_get (D := D) (ci := 0) (v := .ref (ad 31)) (C := RX0) (T := TX0) (N := 11) hx hb hts (inT inX0) hown hK hP 23 ww_23 rfl 8 (by decide) (hts (.fieldLink RX0 34 "BoardMoves$Limits" "most" "[J") (List.mem_cons_of_mem _ flX0_34)) (fun _ h9 => h9) rfl dX0_isNearEnough_56 ?_
              refine lv_iload_n hx hb dX0_isNearEnough_59 rfl (lv_at hl 4 rfl) ?_
              refine bm_lald (f := li.2.2.2.2.2.2.2.1) hx hb hK hP 31 0 ww_31 rfl (j := i) (by omega) (by decide) dX0_isNearEnough_60 ?_
              refine bm_rcallV (As := [.int (nI (li.2.2.2.2.2.1 i)), .int (nI (li.2.2.2.2.2.2.1 i)), .long (li.2.2.2.2.2.2.2.1 i)]) (rest := []) ⟨hx, hb, hml, hown, hts⟩ (r_near (a := (li.2.2.2.2.2.1 i)) (b := (li.2.2.2.2.2.2.1 i)) hoL (hon _) (hot _)) (cwV 3 hts gvX0_59 rfl rfl rfl hvX2_isNear ⟨Nat.le_of_ble_eq_true rfl, Nat.le_of_ble_eq_true rfl⟩) hK hP 8 2 rfl ww_8 rfl hl.1 rfl (Nat.le_of_ble_eq_true rfl) dX0_isNearEnough_61 ⟨Nat.le_of_ble_eq_true rfl, Nat.le_of_ble_eq_true rfl⟩ ?_
              refine bm_zb_ne (x := (q_near pa p0 (li.2.2.2.2.2.1 i) (li.2.2.2.2.2.2.1 i) (li.2.2.2.2.2.2.2.1 i))) (tgt := 69) hx hb dX0_isNearEnough_64 (by decide) (fun c_8 => ?_) (fun c_8 => ?_)
              · refine lv_iinc (v := (nI (i + 1))) (lv' := [(3, .int (nI (i + 1))), (4, .int (bm_b true)), (0, .ref (ad 23)), (1, .ref (ad 8)), (2, .int (nI j))]) hx hb dX0_isNearEnough_69 hl (k := 4) rfl (nI_1 i) (by decide) rfl (fun ls hl => ?_)
                refine lv_goto (tgt := 2) hx hb dX0_isNearEnough_72 (by decide) ?_
                exact ih (i + 1) (by omega) (by omega) (by rw [← he]; exact q_find_go (by assumption) (by first | (simp [q_tooFar, c_2, c_5, c_8]; done) | (simp only [q_tooFar]; rw [c_8]; simp [c_2, c_5]; done))) _ (lv_sub hl [2, 3, 4, 0] rfl)
              · refine lv_iconst (v := bm_b false) hx hb dX0_isNearEnough_67 (by decide) ?_
                exact bm_zretR (v := false) hx hb hr (by rw [q_nears, ← he, q_find_hit (by assumption) (by first | (simp [q_tooFar, c_2, c_5, c_8]; done) | (simp only [q_tooFar]; rw [c_8]; simp [c_2, c_5]; done))]; rfl) dX0_isNearEnough_68 hlocks
  have hl := lv_entry ([.ref (ad 23), .ref (ad 8), .int (nI j)]) (n := 5) (Nat.le_of_ble_eq_true rfl)
  refine W.eq (g2 := entryFrame m ([.ref (ad 23), .ref (ad 8), .int (nI j)] : List Value).toArray 5) (by rw [ha]) ?_
  rw [lg_entry_eq]
  generalize (lg_sl ([.ref (ad 23), .ref (ad 8), .int (nI j)]) ++ List.replicate (5 - (lg_sl ([.ref (ad 23), .ref (ad 8), .int (nI j)])).length) Slot.unset).toArray = ls at hl ⊢
  have hl : lv_has ls 5 [(0, .ref (ad 23)), (1, .ref (ad 8)), (2, .int (nI j))] := hl
  refine lv_iconst (v := nI 0) hx hb dX0_isNearEnough_0 (by decide) ?_
  refine lv_istore_n (lv' := [(3, .int (nI 0)), (0, .ref (ad 23)), (1, .ref (ad 8)), (2, .int (nI j))]) hx hb dX0_isNearEnough_1 rfl hl (by decide) rfl (fun ls hl => ?_)
  exact lp 22 0 (by omega) (by omega) rfl _ (lv_sub hl [1, 2, 3, 0] rfl)

set_option maxHeartbeats 4000000 in
set_option maxRecDepth 100000 in
theorem r_fits {l : Launch} {D : va_G} {ad : Nat → Nat} {cJ cI cZ : ClassId} {bm : gBM} {pa : gPA} {p0 p1 p2 : gPL} {li : gLI} {wi : gWI} {mt : Nat} {ms : gMS} {ma : gMA} {mp : gMP} {mk : gMK} {mn : gMN} {ou : Nat → Int64} {j t : Nat} (h1 : j < 40) (h2 : t < 2 ^ 31) {x y : Int64} : bm_Rd l yX4_fitsBoard wsX4_fitsBoard ({ frames := 0, cells := 0, slots := 0, locals := 0 }) D vwCl [(cJ, .long), (cI, .int), (cZ, .boolean)] (WW ad cJ cI cZ bm pa p0 p1 p2 li wi mt ms ma mp mk mn ou) [.ref (ad 0), .int (nI j), .long x, .long y, .int (nI t)] (.int (bm_b (q_fits bm pa j x y t))) := by
  refine Met.ofW (cc := cX4_fitsBoard) (maxL := 12) (ret := (some .boolean)) (by decide) rfl ?_
  intro p e s m args below meth c s₁ B hml hv
  obtain ⟨ha, hP, hK⟩ := hv
  have hx := B.exec
  have hb := B.bytes
  have hr := B.returns
  have hts := atoms_spec (ws := wsX4_fitsBoard) B.pre
  have hown : s.vm.findClass RX4 = some m.cls := findClass_of_methodNamed B.named
  have hlocks := B.notSynchronized
  have hl := lv_entry ([.ref (ad 0), .int (nI j), .long x, .long y, .int (nI t)]) (n := 12) (Nat.le_of_ble_eq_true rfl)
  refine W.eq (g2 := entryFrame m ([.ref (ad 0), .int (nI j), .long x, .long y, .int (nI t)] : List Value).toArray 12) (by rw [ha]) ?_
  rw [lg_entry_eq]
  generalize (lg_sl ([.ref (ad 0), .int (nI j), .long x, .long y, .int (nI t)]) ++ List.replicate (12 - (lg_sl ([.ref (ad 0), .int (nI j), .long x, .long y, .int (nI t)])).length) Slot.unset).toArray = ls at hl ⊢
  have hl : lv_has ls 12 [(0, .ref (ad 0)), (1, .int (nI j)), (2, .long x), (4, .long y), (6, .int (nI t))] := hl
  refine lv_iload hx hb dX4_fitsBoard_0 (lv_at hl 4 rfl) ?_
  refine lv_iconst (v := nI 2) hx hb dX4_fitsBoard_2 (by decide) ?_
  refine bm_nrem hx hb (by omega) (by decide) (by decide) dX4_fitsBoard_3 ?_
  refine bm_nz_ne (x := (t % 2)) (tgt := 11) hx hb (by omega) dX4_fitsBoard_4 (by decide) (fun c_1 => ?_) (fun c_1 => ?_)
  · refine lv_iconst (v := bm_b false) hx hb dX4_fitsBoard_11 (by decide) ?_
    refine lv_istore (lv' := [(7, .int (bm_b false)), (0, .ref (ad 0)), (1, .int (nI j)), (2, .long x), (4, .long y), (6, .int (nI t))]) hx hb dX4_fitsBoard_12 hl (by decide) rfl (fun ls hl => ?_)
    refine lv_iload hx hb dX4_fitsBoard_14 (lv_at hl 0 rfl) ?_
    refine bm_zb_eq (x := false) (tgt := 31) hx hb dX4_fitsBoard_16 (by decide) (fun c_2 => ?_) (fun c_2 => ?_)
    · refine lv_aload_n hx hb dX4_fitsBoard_31 rfl (lv_at hl 1 rfl) ?_
      refine va_get (D := D) (ci := 4) (v := .ref (ad 1)) (C := RX4) (T := TX4) (N := 10) hx hb hts (inT inX4) hown hK hP 0 ww_0 rfl 2 (by decide) (hts (.fieldLink RX4 12 "BoardMoves" "parts" "LBoardMoves$Parts;") (List.mem_cons_of_mem _ flX4_12)) (fun _ h9 => h9) rfl dX4_fitsBoard_32 ?_
      refine va_get (D := D) (ci := 1) (v := .ref (ad 3)) (C := RX1) (T := TX1) (N := 7) hx hb hts (inT inX1) hown hK hP 1 ww_1 rfl 1 (by decide) (hts (.fieldLink RX4 151 "BoardMoves$Parts" "h" "[J") (List.mem_cons_of_mem _ flX4_151)) (fun _ h9 => h9) rfl dX4_fitsBoard_35 ?_
      refine lv_iload_n hx hb dX4_fitsBoard_38 rfl (lv_at hl 2 rfl) ?_
      refine bm_lald (f := pa.2.1) hx hb hK hP 3 0 ww_3 rfl (j := j) (by omega) (by decide) dX4_fitsBoard_39 ?_
      refine lv_lstore (lv' := [(8, .long (pa.2.1 j)), (7, .int (bm_b false)), (0, .ref (ad 0)), (1, .int (nI j)), (2, .long x), (4, .long y), (6, .int (nI t))]) hx hb dX4_fitsBoard_40 hl (by decide) rfl (fun ls hl => ?_)
      refine lv_iload hx hb dX4_fitsBoard_42 (lv_at hl 1 rfl) ?_
      refine bm_zb_eq (x := false) (tgt := 59) hx hb dX4_fitsBoard_44 (by decide) (fun c_3 => ?_) (fun c_3 => ?_)
      · refine lv_aload_n hx hb dX4_fitsBoard_59 rfl (lv_at hl 2 rfl) ?_
        refine va_get (D := D) (ci := 4) (v := .ref (ad 1)) (C := RX4) (T := TX4) (N := 10) hx hb hts (inT inX4) hown hK hP 0 ww_0 rfl 2 (by decide) (hts (.fieldLink RX4 12 "BoardMoves" "parts" "LBoardMoves$Parts;") (List.mem_cons_of_mem _ flX4_12)) (fun _ h9 => h9) rfl dX4_fitsBoard_60 ?_
        refine va_get (D := D) (ci := 1) (v := .ref (ad 2)) (C := RX1) (T := TX1) (N := 7) hx hb hts (inT inX1) hown hK hP 1 ww_1 rfl 0 (by decide) (hts (.fieldLink RX4 148 "BoardMoves$Parts" "w" "[J") (List.mem_cons_of_mem _ flX4_148)) (fun _ h9 => h9) rfl dX4_fitsBoard_63 ?_
        refine lv_iload_n hx hb dX4_fitsBoard_66 rfl (lv_at hl 3 rfl) ?_
        refine bm_lald (f := pa.1) hx hb hK hP 2 0 ww_2 rfl (j := j) (by omega) (by decide) dX4_fitsBoard_67 ?_
        refine lv_lstore (lv' := [(10, .long (pa.1 j)), (8, .long (pa.2.1 j)), (7, .int (bm_b false)), (0, .ref (ad 0)), (1, .int (nI j)), (2, .long x), (4, .long y), (6, .int (nI t))]) hx hb dX4_fitsBoard_68 hl (by decide) rfl (fun ls hl => ?_)
        refine lv_lload_n hx hb dX4_fitsBoard_70 rfl (lv_at hl 5 rfl) ?_
        refine lv_lconst (v := 0) hx hb dX4_fitsBoard_71 (by decide) ?_
        refine bm_lc_lt (x := x) (y := 0) (tgt := 112) hx hb dX4_fitsBoard_72 dX4_fitsBoard_73 (by decide) (fun c_4 => ?_) (fun c_4 => ?_)
        · refine lv_iconst (v := bm_b false) hx hb dX4_fitsBoard_112 (by decide) ?_
          exact bm_zretR (v := false) hx hb hr (by simp [q_fits, c_1, c_4]) dX4_fitsBoard_113 hlocks
        · refine lv_lload_n hx hb dX4_fitsBoard_76 rfl (lv_at hl 5 rfl) ?_
          refine lv_aload_n hx hb dX4_fitsBoard_77 rfl (lv_at hl 3 rfl) ?_
          refine va_get (D := D) (ci := 4) (v := .long bm.1) (C := RX4) (T := TX4) (N := 10) hx hb hts (inT inX4) hown hK hP 0 ww_0 rfl 0 (by decide) (hts (.fieldLink RX4 62 "BoardMoves" "boardWide" "J") (List.mem_cons_of_mem _ flX4_62)) (fun _ h9 => h9) rfl dX4_fitsBoard_78 ?_
          refine lv_lload hx hb dX4_fitsBoard_81 (lv_at hl 1 rfl) ?_
          refine lv_lsub hx hb dX4_fitsBoard_83 ?_
          refine bm_lc_gt (x := x) (y := (bm.1 - (pa.2.1 j))) (tgt := 112) hx hb dX4_fitsBoard_84 dX4_fitsBoard_85 (by decide) (fun c_5 => ?_) (fun c_5 => ?_)
          · refine lv_iconst (v := bm_b false) hx hb dX4_fitsBoard_112 (by decide) ?_
            exact bm_zretR (v := false) hx hb hr (by simp [q_fits, c_1, c_4, c_5]) dX4_fitsBoard_113 hlocks
          · refine lv_lload hx hb dX4_fitsBoard_88 (lv_at hl 6 rfl) ?_
            refine lv_lconst (v := 0) hx hb dX4_fitsBoard_90 (by decide) ?_
            refine bm_lc_lt (x := y) (y := 0) (tgt := 112) hx hb dX4_fitsBoard_91 dX4_fitsBoard_92 (by decide) (fun c_6 => ?_) (fun c_6 => ?_)
            · refine lv_iconst (v := bm_b false) hx hb dX4_fitsBoard_112 (by decide) ?_
              exact bm_zretR (v := false) hx hb hr (by simp [q_fits, c_1, c_4, c_5, c_6]) dX4_fitsBoard_113 hlocks
            · refine lv_lload hx hb dX4_fitsBoard_95 (lv_at hl 6 rfl) ?_
              refine lv_aload_n hx hb dX4_fitsBoard_97 rfl (lv_at hl 3 rfl) ?_
              refine va_get (D := D) (ci := 4) (v := .long bm.2.1) (C := RX4) (T := TX4) (N := 10) hx hb hts (inT inX4) hown hK hP 0 ww_0 rfl 1 (by decide) (hts (.fieldLink RX4 65 "BoardMoves" "boardHigh" "J") (List.mem_cons_of_mem _ flX4_65)) (fun _ h9 => h9) rfl dX4_fitsBoard_98 ?_
              refine lv_lload hx hb dX4_fitsBoard_101 (lv_at hl 0 rfl) ?_
              refine lv_lsub hx hb dX4_fitsBoard_103 ?_
              refine bm_lc_gt (x := y) (y := (bm.2.1 - (pa.1 j))) (tgt := 112) hx hb dX4_fitsBoard_104 dX4_fitsBoard_105 (by decide) (fun c_7 => ?_) (fun c_7 => ?_)
              · refine lv_iconst (v := bm_b false) hx hb dX4_fitsBoard_112 (by decide) ?_
                exact bm_zretR (v := false) hx hb hr (by simp [q_fits, c_1, c_4, c_5, c_6, c_7]) dX4_fitsBoard_113 hlocks
              · refine lv_iconst (v := bm_b true) hx hb dX4_fitsBoard_108 (by decide) ?_
                refine lv_goto (tgt := 113) hx hb dX4_fitsBoard_109 (by decide) ?_
                exact bm_zretR (v := true) hx hb hr (by simp [q_fits, c_1, c_4, c_5, c_6, c_7]) dX4_fitsBoard_113 hlocks
      · exact absurd c_3 (by decide)
    · exact absurd c_2 (by decide)
  · refine lv_iconst (v := bm_b true) hx hb dX4_fitsBoard_7 (by decide) ?_
    refine lv_goto (tgt := 12) hx hb dX4_fitsBoard_8 (by decide) ?_
    refine lv_istore (lv' := [(7, .int (bm_b true)), (0, .ref (ad 0)), (1, .int (nI j)), (2, .long x), (4, .long y), (6, .int (nI t))]) hx hb dX4_fitsBoard_12 hl (by decide) rfl (fun ls hl => ?_)
    refine lv_iload hx hb dX4_fitsBoard_14 (lv_at hl 0 rfl) ?_
    refine bm_zb_eq (x := true) (tgt := 31) hx hb dX4_fitsBoard_16 (by decide) (fun c_8 => ?_) (fun c_8 => ?_)
    · exact absurd c_8 (by decide)
    · refine lv_aload_n hx hb dX4_fitsBoard_19 rfl (lv_at hl 1 rfl) ?_
      refine va_get (D := D) (ci := 4) (v := .ref (ad 1)) (C := RX4) (T := TX4) (N := 10) hx hb hts (inT inX4) hown hK hP 0 ww_0 rfl 2 (by decide) (hts (.fieldLink RX4 12 "BoardMoves" "parts" "LBoardMoves$Parts;") (List.mem_cons_of_mem _ flX4_12)) (fun _ h9 => h9) rfl dX4_fitsBoard_20 ?_
      refine va_get (D := D) (ci := 1) (v := .ref (ad 2)) (C := RX1) (T := TX1) (N := 7) hx hb hts (inT inX1) hown hK hP 1 ww_1 rfl 0 (by decide) (hts (.fieldLink RX4 148 "BoardMoves$Parts" "w" "[J") (List.mem_cons_of_mem _ flX4_148)) (fun _ h9 => h9) rfl dX4_fitsBoard_23 ?_
      refine lv_iload_n hx hb dX4_fitsBoard_26 rfl (lv_at hl 2 rfl) ?_
      refine bm_lald (f := pa.1) hx hb hK hP 2 0 ww_2 rfl (j := j) (by omega) (by decide) dX4_fitsBoard_27 ?_
      refine lv_goto (tgt := 40) hx hb dX4_fitsBoard_28 (by decide) ?_
      refine lv_lstore (lv' := [(8, .long (pa.1 j)), (7, .int (bm_b true)), (0, .ref (ad 0)), (1, .int (nI j)), (2, .long x), (4, .long y), (6, .int (nI t))]) hx hb dX4_fitsBoard_40 hl (by decide) rfl (fun ls hl => ?_)
      refine lv_iload hx hb dX4_fitsBoard_42 (lv_at hl 1 rfl) ?_
      refine bm_zb_eq (x := true) (tgt := 59) hx hb dX4_fitsBoard_44 (by decide) (fun c_9 => ?_) (fun c_9 => ?_)
      · exact absurd c_9 (by decide)
      · refine lv_aload_n hx hb dX4_fitsBoard_47 rfl (lv_at hl 2 rfl) ?_
        refine va_get (D := D) (ci := 4) (v := .ref (ad 1)) (C := RX4) (T := TX4) (N := 10) hx hb hts (inT inX4) hown hK hP 0 ww_0 rfl 2 (by decide) (hts (.fieldLink RX4 12 "BoardMoves" "parts" "LBoardMoves$Parts;") (List.mem_cons_of_mem _ flX4_12)) (fun _ h9 => h9) rfl dX4_fitsBoard_48 ?_
        refine va_get (D := D) (ci := 1) (v := .ref (ad 3)) (C := RX1) (T := TX1) (N := 7) hx hb hts (inT inX1) hown hK hP 1 ww_1 rfl 1 (by decide) (hts (.fieldLink RX4 151 "BoardMoves$Parts" "h" "[J") (List.mem_cons_of_mem _ flX4_151)) (fun _ h9 => h9) rfl dX4_fitsBoard_51 ?_
        refine lv_iload_n hx hb dX4_fitsBoard_54 rfl (lv_at hl 3 rfl) ?_
        refine bm_lald (f := pa.2.1) hx hb hK hP 3 0 ww_3 rfl (j := j) (by omega) (by decide) dX4_fitsBoard_55 ?_
        refine lv_goto (tgt := 68) hx hb dX4_fitsBoard_56 (by decide) ?_
        refine lv_lstore (lv' := [(10, .long (pa.2.1 j)), (8, .long (pa.1 j)), (7, .int (bm_b true)), (0, .ref (ad 0)), (1, .int (nI j)), (2, .long x), (4, .long y), (6, .int (nI t))]) hx hb dX4_fitsBoard_68 hl (by decide) rfl (fun ls hl => ?_)
        refine lv_lload_n hx hb dX4_fitsBoard_70 rfl (lv_at hl 5 rfl) ?_
        refine lv_lconst (v := 0) hx hb dX4_fitsBoard_71 (by decide) ?_
        refine bm_lc_lt (x := x) (y := 0) (tgt := 112) hx hb dX4_fitsBoard_72 dX4_fitsBoard_73 (by decide) (fun c_10 => ?_) (fun c_10 => ?_)
        · refine lv_iconst (v := bm_b false) hx hb dX4_fitsBoard_112 (by decide) ?_
          exact bm_zretR (v := false) hx hb hr (by simp [q_fits, c_1, c_10]) dX4_fitsBoard_113 hlocks
        · refine lv_lload_n hx hb dX4_fitsBoard_76 rfl (lv_at hl 5 rfl) ?_
          refine lv_aload_n hx hb dX4_fitsBoard_77 rfl (lv_at hl 3 rfl) ?_
          refine va_get (D := D) (ci := 4) (v := .long bm.1) (C := RX4) (T := TX4) (N := 10) hx hb hts (inT inX4) hown hK hP 0 ww_0 rfl 0 (by decide) (hts (.fieldLink RX4 62 "BoardMoves" "boardWide" "J") (List.mem_cons_of_mem _ flX4_62)) (fun _ h9 => h9) rfl dX4_fitsBoard_78 ?_
          refine lv_lload hx hb dX4_fitsBoard_81 (lv_at hl 1 rfl) ?_
          refine lv_lsub hx hb dX4_fitsBoard_83 ?_
          refine bm_lc_gt (x := x) (y := (bm.1 - (pa.1 j))) (tgt := 112) hx hb dX4_fitsBoard_84 dX4_fitsBoard_85 (by decide) (fun c_11 => ?_) (fun c_11 => ?_)
          · refine lv_iconst (v := bm_b false) hx hb dX4_fitsBoard_112 (by decide) ?_
            exact bm_zretR (v := false) hx hb hr (by simp [q_fits, c_1, c_10, c_11]) dX4_fitsBoard_113 hlocks
          · refine lv_lload hx hb dX4_fitsBoard_88 (lv_at hl 6 rfl) ?_
            refine lv_lconst (v := 0) hx hb dX4_fitsBoard_90 (by decide) ?_
            refine bm_lc_lt (x := y) (y := 0) (tgt := 112) hx hb dX4_fitsBoard_91 dX4_fitsBoard_92 (by decide) (fun c_12 => ?_) (fun c_12 => ?_)
            · refine lv_iconst (v := bm_b false) hx hb dX4_fitsBoard_112 (by decide) ?_
              exact bm_zretR (v := false) hx hb hr (by simp [q_fits, c_1, c_10, c_11, c_12]) dX4_fitsBoard_113 hlocks
            · refine lv_lload hx hb dX4_fitsBoard_95 (lv_at hl 6 rfl) ?_
              refine lv_aload_n hx hb dX4_fitsBoard_97 rfl (lv_at hl 3 rfl) ?_
              refine va_get (D := D) (ci := 4) (v := .long bm.2.1) (C := RX4) (T := TX4) (N := 10) hx hb hts (inT inX4) hown hK hP 0 ww_0 rfl 1 (by decide) (hts (.fieldLink RX4 65 "BoardMoves" "boardHigh" "J") (List.mem_cons_of_mem _ flX4_65)) (fun _ h9 => h9) rfl dX4_fitsBoard_98 ?_
              refine lv_lload hx hb dX4_fitsBoard_101 (lv_at hl 0 rfl) ?_
              refine lv_lsub hx hb dX4_fitsBoard_103 ?_
              refine bm_lc_gt (x := y) (y := (bm.2.1 - (pa.2.1 j))) (tgt := 112) hx hb dX4_fitsBoard_104 dX4_fitsBoard_105 (by decide) (fun c_13 => ?_) (fun c_13 => ?_)
              · refine lv_iconst (v := bm_b false) hx hb dX4_fitsBoard_112 (by decide) ?_
                exact bm_zretR (v := false) hx hb hr (by simp [q_fits, c_1, c_10, c_11, c_12, c_13]) dX4_fitsBoard_113 hlocks
              · refine lv_iconst (v := bm_b true) hx hb dX4_fitsBoard_108 (by decide) ?_
                refine lv_goto (tgt := 113) hx hb dX4_fitsBoard_109 (by decide) ?_
                exact bm_zretR (v := true) hx hb hr (by simp [q_fits, c_1, c_10, c_11, c_12, c_13]) dX4_fitsBoard_113 hlocks

set_option maxHeartbeats 4000000 in
set_option maxRecDepth 100000 in
theorem r_well {l : Launch} {D : va_G} {ad : Nat → Nat} {cJ cI cZ : ClassId} {bm : gBM} {pa : gPA} {p0 p1 p2 : gPL} {li : gLI} {wi : gWI} {mt : Nat} {ms : gMS} {ma : gMA} {mp : gMP} {mk : gMK} {mn : gMN} {ou : Nat → Int64} (hoA : q_okA pa) (hoL : q_okL p0) (hoI : q_okI li) {j : Nat} (h1 : j < 40) : bm_Rd l yX4_standsWell wsX4_standsWell ({ frames := 3, cells := 0, slots := 0, locals := 77 }) D vwCl [(cJ, .long), (cI, .int), (cZ, .boolean)] (WW ad cJ cI cZ bm pa p0 p1 p2 li wi mt ms ma mp mk mn ou) [.ref (ad 0), .int (nI j)] (.int (bm_b (q_well bm pa p0 li j))) := by
  obtain ⟨hn, hsd, hlw⟩ := hoA
  refine Met.ofW (cc := cX4_standsWell) (maxL := 2) (ret := (some .boolean)) (by decide) rfl ?_
  intro p e s m args below meth c s₁ B hml hv
  obtain ⟨ha, hP, hK⟩ := hv
  have hx := B.exec
  have hb := B.bytes
  have hr := B.returns
  have hts := atoms_spec (ws := wsX4_standsWell) B.pre
  have hown : s.vm.findClass RX4 = some m.cls := findClass_of_methodNamed B.named
  have hlocks := B.notSynchronized
  have hl := lv_entry ([.ref (ad 0), .int (nI j)]) (n := 2) (Nat.le_of_ble_eq_true rfl)
  refine W.eq (g2 := entryFrame m ([.ref (ad 0), .int (nI j)] : List Value).toArray 2) (by rw [ha]) ?_
  rw [lg_entry_eq]
  generalize (lg_sl ([.ref (ad 0), .int (nI j)]) ++ List.replicate (2 - (lg_sl ([.ref (ad 0), .int (nI j)])).length) Slot.unset).toArray = ls at hl ⊢
  have hl : lv_has ls 2 [(0, .ref (ad 0)), (1, .int (nI j))] := hl
  refine lv_aload_n hx hb dX4_standsWell_0 rfl (lv_at hl 0 rfl) ?_
  refine va_get (D := D) (ci := 4) (v := .ref (ad 8)) (C := RX4) (T := TX4) (N := 10) hx hb hts (inT inX4) hown hK hP 0 ww_0 rfl 5 (by decide) (hts (.fieldLink RX4 37 "BoardMoves" "now" "LBoardMoves$Placement;") (List.mem_cons_of_mem _ flX4_37)) (fun _ h9 => h9) rfl dX4_standsWell_1 ?_
  refine va_get (D := D) (ci := 2) (v := .ref (ad 12)) (C := RX2) (T := TX2) (N := 5) hx hb hts (inT inX2) hown hK hP 8 ww_8 rfl 4 (by decide) (hts (.fieldLink RX4 96 "BoardMoves$Placement" "placed" "[Z") (List.mem_cons_of_mem _ flX4_96)) (fun _ h9 => h9) rfl dX4_standsWell_4 ?_
  refine lv_iload_n hx hb dX4_standsWell_7 rfl (lv_at hl 1 rfl) ?_
  refine bm_zald (f := p0.2.2.2) hx hb hK hP 12 2 ww_12 rfl (j := j) (by omega) (by decide) dX4_standsWell_8 ?_
  refine bm_zb_ne (x := (p0.2.2.2 j)) (tgt := 14) hx hb dX4_standsWell_9 (by decide) (fun c_1 => ?_) (fun c_1 => ?_)
  · refine lv_aload_n hx hb dX4_standsWell_14 rfl (lv_at hl 0 rfl) ?_
    refine lv_iload_n hx hb dX4_standsWell_15 rfl (lv_at hl 1 rfl) ?_
    refine lv_aload_n hx hb dX4_standsWell_16 rfl (lv_at hl 0 rfl) ?_
    refine va_get (D := D) (ci := 4) (v := .ref (ad 8)) (C := RX4) (T := TX4) (N := 10) hx hb hts (inT inX4) hown hK hP 0 ww_0 rfl 5 (by decide) (hts (.fieldLink RX4 37 "BoardMoves" "now" "LBoardMoves$Placement;") (List.mem_cons_of_mem _ flX4_37)) (fun _ h9 => h9) rfl dX4_standsWell_17 ?_
    refine va_get (D := D) (ci := 2) (v := .ref (ad 9)) (C := RX2) (T := TX2) (N := 5) hx hb hts (inT inX2) hown hK hP 8 ww_8 rfl 1 (by decide) (hts (.fieldLink RX4 112 "BoardMoves$Placement" "x" "[J") (List.mem_cons_of_mem _ flX4_112)) (fun _ h9 => h9) rfl dX4_standsWell_20 ?_
    refine lv_iload_n hx hb dX4_standsWell_23 rfl (lv_at hl 1 rfl) ?_
    refine bm_lald (f := p0.1) hx hb hK hP 9 0 ww_9 rfl (j := j) (by omega) (by decide) dX4_standsWell_24 ?_
    refine lv_aload_n hx hb dX4_standsWell_25 rfl (lv_at hl 0 rfl) ?_
    refine va_get (D := D) (ci := 4) (v := .ref (ad 8)) (C := RX4) (T := TX4) (N := 10) hx hb hts (inT inX4) hown hK hP 0 ww_0 rfl 5 (by decide) (hts (.fieldLink RX4 37 "BoardMoves" "now" "LBoardMoves$Placement;") (List.mem_cons_of_mem _ flX4_37)) (fun _ h9 => h9) rfl dX4_standsWell_26 ?_
    refine va_get (D := D) (ci := 2) (v := .ref (ad 10)) (C := RX2) (T := TX2) (N := 5) hx hb hts (inT inX2) hown hK hP 8 ww_8 rfl 2 (by decide) (hts (.fieldLink RX4 116 "BoardMoves$Placement" "y" "[J") (List.mem_cons_of_mem _ flX4_116)) (fun _ h9 => h9) rfl dX4_standsWell_29 ?_
    refine lv_iload_n hx hb dX4_standsWell_32 rfl (lv_at hl 1 rfl) ?_
    refine bm_lald (f := p0.2.1) hx hb hK hP 10 0 ww_10 rfl (j := j) (by omega) (by decide) dX4_standsWell_33 ?_
    refine lv_aload_n hx hb dX4_standsWell_34 rfl (lv_at hl 0 rfl) ?_
    refine va_get (D := D) (ci := 4) (v := .ref (ad 8)) (C := RX4) (T := TX4) (N := 10) hx hb hts (inT inX4) hown hK hP 0 ww_0 rfl 5 (by decide) (hts (.fieldLink RX4 37 "BoardMoves" "now" "LBoardMoves$Placement;") (List.mem_cons_of_mem _ flX4_37)) (fun _ h9 => h9) rfl dX4_standsWell_35 ?_
    refine va_get (D := D) (ci := 2) (v := .ref (ad 11)) (C := RX2) (T := TX2) (N := 5) hx hb hts (inT inX2) hown hK hP 8 ww_8 rfl 3 (by decide) (hts (.fieldLink RX4 100 "BoardMoves$Placement" "turn" "[I") (List.mem_cons_of_mem _ flX4_100)) (fun _ h9 => h9) rfl dX4_standsWell_38 ?_
    refine lv_iload_n hx hb dX4_standsWell_41 rfl (lv_at hl 1 rfl) ?_
    refine bm_nald (f := p0.2.2.1) hx hb hK hP 11 1 ww_11 rfl (j := j) (by omega) (by decide) dX4_standsWell_42 ?_
    refine bm_rcallV (As := [.int (nI j), .long (p0.1 j), .long (p0.2.1 j), .int (nI (p0.2.2.1 j))]) (rest := []) ⟨hx, hb, hml, hown, hts⟩ (r_fits (j := j) (t := (p0.2.2.1 j)) (by omega) (bm40 (hoL _))) (cwV 4 hts gvX4_92 rfl rfl rfl hvX4_fitsBoard ⟨Nat.le_of_ble_eq_true rfl, Nat.le_of_ble_eq_true rfl⟩) hK hP 0 4 rfl ww_0 rfl hl.1 rfl (Nat.le_of_ble_eq_true rfl) dX4_standsWell_43 ⟨Nat.le_of_ble_eq_true rfl, Nat.le_of_ble_eq_true rfl⟩ ?_
    refine bm_zb_eq (x := (q_fits bm pa j (p0.1 j) (p0.2.1 j) (p0.2.2.1 j))) (tgt := 96) hx hb dX4_standsWell_46 (by decide) (fun c_2 => ?_) (fun c_2 => ?_)
    · refine lv_iconst (v := bm_b false) hx hb dX4_standsWell_96 (by decide) ?_
      exact bm_zretR (v := false) hx hb hr (by simp [q_well, c_1, c_2]) dX4_standsWell_97 hlocks
    · refine lv_aload_n hx hb dX4_standsWell_49 rfl (lv_at hl 0 rfl) ?_
      refine va_get (D := D) (ci := 4) (v := .ref (ad 8)) (C := RX4) (T := TX4) (N := 10) hx hb hts (inT inX4) hown hK hP 0 ww_0 rfl 5 (by decide) (hts (.fieldLink RX4 37 "BoardMoves" "now" "LBoardMoves$Placement;") (List.mem_cons_of_mem _ flX4_37)) (fun _ h9 => h9) rfl dX4_standsWell_50 ?_
      refine lv_iload_n hx hb dX4_standsWell_53 rfl (lv_at hl 1 rfl) ?_
      refine lv_iconst (v := nI 0) hx hb dX4_standsWell_54 (by decide) ?_
      refine bm_rcallV (As := [.int (nI j), .int (nI 0)]) (rest := []) ⟨hx, hb, hml, hown, hts⟩ (r_over (j := j) (f := 0) ⟨hn, hsd, hlw⟩ hoL (by omega) (by omega)) (cwV 2 hts gvX4_240 rfl rfl rfl hvX2_overlapped ⟨Nat.le_of_ble_eq_true rfl, Nat.le_of_ble_eq_true rfl⟩) hK hP 8 2 rfl ww_8 rfl hl.1 rfl (Nat.le_of_ble_eq_true rfl) dX4_standsWell_55 ⟨Nat.le_of_ble_eq_true rfl, Nat.le_of_ble_eq_true rfl⟩ ?_
      rcases hO_4 : q_over pa p0 j 0 with _ | o_3
      · refine lv_iconst (v := -1) hx hb dX4_standsWell_58 (by decide) ?_
        refine lv_icmp_ne (x := (-1)) (y := -1) (tgt := 96) hx hb dX4_standsWell_59 (by decide) (fun c_5 => ?_) (fun c_5 => ?_)
        · exact absurd rfl c_5
        · refine lv_aload_n hx hb dX4_standsWell_62 rfl (lv_at hl 0 rfl) ?_
          refine va_get (D := D) (ci := 4) (v := .ref (ad 23)) (C := RX4) (T := TX4) (N := 10) hx hb hts (inT inX4) hown hK hP 0 ww_0 rfl 3 (by decide) (hts (.fieldLink RX4 23 "BoardMoves" "limits" "LBoardMoves$Limits;") (List.mem_cons_of_mem _ flX4_23)) (fun _ h9 => h9) rfl dX4_standsWell_63 ?_
          refine lv_aload_n hx hb dX4_standsWell_66 rfl (lv_at hl 0 rfl) ?_
          refine va_get (D := D) (ci := 4) (v := .ref (ad 8)) (C := RX4) (T := TX4) (N := 10) hx hb hts (inT inX4) hown hK hP 0 ww_0 rfl 5 (by decide) (hts (.fieldLink RX4 37 "BoardMoves" "now" "LBoardMoves$Placement;") (List.mem_cons_of_mem _ flX4_37)) (fun _ h9 => h9) rfl dX4_standsWell_67 ?_
          refine lv_iload_n hx hb dX4_standsWell_70 rfl (lv_at hl 1 rfl) ?_
          refine bm_rcallV (As := [.ref (ad 8), .int (nI j)]) (rest := []) ⟨hx, hb, hml, hown, hts⟩ (r_low (j := j) hoL hoI (by omega)) (cwV 2 hts gvX4_243 rfl rfl rfl hvX0_isLowEnough ⟨Nat.le_of_ble_eq_true rfl, Nat.le_of_ble_eq_true rfl⟩) hK hP 23 0 rfl ww_23 rfl hl.1 rfl (Nat.le_of_ble_eq_true rfl) dX4_standsWell_71 ⟨Nat.le_of_ble_eq_true rfl, Nat.le_of_ble_eq_true rfl⟩ ?_
          refine bm_zb_eq (x := (q_low pa p0 li j)) (tgt := 96) hx hb dX4_standsWell_74 (by decide) (fun c_6 => ?_) (fun c_6 => ?_)
          · refine lv_iconst (v := bm_b false) hx hb dX4_standsWell_96 (by decide) ?_
            exact bm_zretR (v := false) hx hb hr (by simp [q_well, c_1, c_2, hO_4, c_6]) dX4_standsWell_97 hlocks
          · refine lv_aload_n hx hb dX4_standsWell_77 rfl (lv_at hl 0 rfl) ?_
            refine va_get (D := D) (ci := 4) (v := .ref (ad 23)) (C := RX4) (T := TX4) (N := 10) hx hb hts (inT inX4) hown hK hP 0 ww_0 rfl 3 (by decide) (hts (.fieldLink RX4 23 "BoardMoves" "limits" "LBoardMoves$Limits;") (List.mem_cons_of_mem _ flX4_23)) (fun _ h9 => h9) rfl dX4_standsWell_78 ?_
            refine lv_aload_n hx hb dX4_standsWell_81 rfl (lv_at hl 0 rfl) ?_
            refine va_get (D := D) (ci := 4) (v := .ref (ad 8)) (C := RX4) (T := TX4) (N := 10) hx hb hts (inT inX4) hown hK hP 0 ww_0 rfl 5 (by decide) (hts (.fieldLink RX4 37 "BoardMoves" "now" "LBoardMoves$Placement;") (List.mem_cons_of_mem _ flX4_37)) (fun _ h9 => h9) rfl dX4_standsWell_82 ?_
            refine lv_iload_n hx hb dX4_standsWell_85 rfl (lv_at hl 1 rfl) ?_
            refine bm_rcallV (As := [.ref (ad 8), .int (nI j)]) (rest := []) ⟨hx, hb, hml, hown, hts⟩ (r_nears (j := j) hoL hoI (by omega)) (cwV 2 hts gvX4_247 rfl rfl rfl hvX0_isNearEnough ⟨Nat.le_of_ble_eq_true rfl, Nat.le_of_ble_eq_true rfl⟩) hK hP 23 0 rfl ww_23 rfl hl.1 rfl (Nat.le_of_ble_eq_true rfl) dX4_standsWell_86 ⟨Nat.le_of_ble_eq_true rfl, Nat.le_of_ble_eq_true rfl⟩ ?_
            refine bm_zb_eq (x := (q_nears pa p0 li j)) (tgt := 96) hx hb dX4_standsWell_89 (by decide) (fun c_7 => ?_) (fun c_7 => ?_)
            · refine lv_iconst (v := bm_b false) hx hb dX4_standsWell_96 (by decide) ?_
              exact bm_zretR (v := false) hx hb hr (by simp [q_well, c_1, c_2, hO_4, c_6, c_7]) dX4_standsWell_97 hlocks
            · refine lv_iconst (v := bm_b true) hx hb dX4_standsWell_92 (by decide) ?_
              refine lv_goto (tgt := 97) hx hb dX4_standsWell_93 (by decide) ?_
              exact bm_zretR (v := true) hx hb hr (by simp [q_well, c_1, c_2, hO_4, c_6, c_7]) dX4_standsWell_97 hlocks
      · have hB_hO_4 := q_over_lt hO_4
        refine lv_iconst (v := -1) hx hb dX4_standsWell_58 (by decide) ?_
        refine lv_icmp_ne (x := (nI o_3)) (y := -1) (tgt := 96) hx hb dX4_standsWell_59 (by decide) (fun c_8 => ?_) (fun c_8 => ?_)
        · refine lv_iconst (v := bm_b false) hx hb dX4_standsWell_96 (by decide) ?_
          exact bm_zretR (v := false) hx hb hr (by simp [q_well, c_1, c_2, hO_4]) dX4_standsWell_97 hlocks
        · exact absurd c_8 (bm_nm1 (by omega))
  · refine lv_iconst (v := bm_b true) hx hb dX4_standsWell_12 (by decide) ?_
    exact bm_zretR (v := true) hx hb hr (by simp [q_well, c_1]) dX4_standsWell_13 hlocks

set_option maxHeartbeats 4000000 in
set_option maxRecDepth 100000 in
theorem r_all {l : Launch} {D : va_G} {ad : Nat → Nat} {cJ cI cZ : ClassId} {bm : gBM} {pa : gPA} {p0 p1 p2 : gPL} {li : gLI} {wi : gWI} {mt : Nat} {ms : gMS} {ma : gMA} {mp : gMP} {mk : gMK} {mn : gMN} {ou : Nat → Int64} (hoA : q_okA pa) (hoL : q_okL p0) (hoI : q_okI li) : bm_Rd l yX4_allStandWell wsX4_allStandWell ({ frames := 4, cells := 0, slots := 0, locals := 98 }) D vwCl [(cJ, .long), (cI, .int), (cZ, .boolean)] (WW ad cJ cI cZ bm pa p0 p1 p2 li wi mt ms ma mp mk mn ou) [.ref (ad 0)] (.int (bm_b (q_allWell bm pa p0 li))) := by
  obtain ⟨hn, hsd, hlw⟩ := hoA
  refine Met.ofW (cc := cX4_allStandWell) (maxL := 2) (ret := (some .boolean)) (by decide) rfl ?_
  intro p e s m args below meth c s₁ B hml hv
  obtain ⟨ha, hP, hK⟩ := hv
  have hx := B.exec
  have hb := B.bytes
  have hr := B.returns
  have hts := atoms_spec (ws := wsX4_allStandWell) B.pre
  have hown : s.vm.findClass RX4 = some m.cls := findClass_of_methodNamed B.named
  have hlocks := B.notSynchronized
  have lp : ∀ (k : Nat) (i : Nat), i ≤ 40 → 40 + 1 < i + k → q_find (fun i => !q_well bm pa p0 li i) (pa.2.2.2.2.2.2 - i) i = q_find (fun i => !q_well bm pa p0 li i) (pa.2.2.2.2.2.2 - 0) 0 → ∀ (ls : Array Slot), lv_has ls 2 [(0, .ref (ad 0)), (1, .int (nI i))] → W p l e (headSpec wsX4_allStandWell ({ frames := 4, cells := 0, slots := 0, locals := 98 })).room s m args below meth c s.heap [] 0 0 (MQ below (k2_QcV (.int (bm_b (q_allWell bm pa p0 li)))) args s 0 0 (fun _ => False)) (F0 m 2 ls []) := by
    intro k
    induction k with
    | zero => intro i hi hk he; exfalso; omega
    | succ k ih =>
      intro i hi hk he ls hl
      refine lv_iload_n hx hb dX4_allStandWell_2 rfl (lv_at hl 1 rfl) ?_
      refine lv_aload_n hx hb dX4_allStandWell_3 rfl (lv_at hl 0 rfl) ?_
      refine va_get (D := D) (ci := 4) (v := .ref (ad 1)) (C := RX4) (T := TX4) (N := 10) hx hb hts (inT inX4) hown hK hP 0 ww_0 rfl 2 (by decide) (hts (.fieldLink RX4 12 "BoardMoves" "parts" "LBoardMoves$Parts;") (List.mem_cons_of_mem _ flX4_12)) (fun _ h9 => h9) rfl dX4_allStandWell_4 ?_
      refine va_get (D := D) (ci := 1) (v := .int (nI pa.2.2.2.2.2.2)) (C := RX1) (T := TX1) (N := 7) hx hb hts (inT inX1) hown hK hP 1 ww_1 rfl 6 (by decide) (hts (.fieldLink RX4 197 "BoardMoves$Parts" "count" "I") (List.mem_cons_of_mem _ flX4_197)) (fun _ h9 => h9) rfl dX4_allStandWell_7 ?_
      refine bm_ni_ge (x := i) (y := pa.2.2.2.2.2.2) (tgt := 29) hx hb (by omega) (by omega) dX4_allStandWell_10 (by decide) (fun c_1 => ?_) (fun c_1 => ?_)
      · refine lv_iconst (v := bm_b true) hx hb dX4_allStandWell_29 (by decide) ?_
        exact bm_zretR (v := true) hx hb hr (by rw [q_allWell, ← he, q_find_end (by assumption)]; rfl) dX4_allStandWell_30 hlocks
      · refine lv_aload_n hx hb dX4_allStandWell_13 rfl (lv_at hl 0 rfl) ?_
        refine lv_iload_n hx hb dX4_allStandWell_14 rfl (lv_at hl 1 rfl) ?_
        refine bm_rcallV (As := [.int (nI i)]) (rest := []) ⟨hx, hb, hml, hown, hts⟩ (r_well (j := i) ⟨hn, hsd, hlw⟩ hoL hoI (by omega)) (cwV 1 hts gvX4_220 rfl rfl rfl hvX4_standsWell ⟨Nat.le_of_ble_eq_true rfl, Nat.le_of_ble_eq_true rfl⟩) hK hP 0 4 rfl ww_0 rfl hl.1 rfl (Nat.le_of_ble_eq_true rfl) dX4_allStandWell_15 ⟨Nat.le_of_ble_eq_true rfl, Nat.le_of_ble_eq_true rfl⟩ ?_
        refine bm_zb_ne (x := (q_well bm pa p0 li i)) (tgt := 23) hx hb dX4_allStandWell_18 (by decide) (fun c_2 => ?_) (fun c_2 => ?_)
        · refine lv_iinc (v := (nI (i + 1))) (lv' := [(1, .int (nI (i + 1))), (0, .ref (ad 0))]) hx hb dX4_allStandWell_23 hl (k := 1) rfl (nI_1 i) (by decide) rfl (fun ls hl => ?_)
          refine lv_goto (tgt := 2) hx hb dX4_allStandWell_26 (by decide) ?_
          exact ih (i + 1) (by omega) (by omega) (by rw [← he]; exact q_find_go (by assumption) (by simp [c_2]; done)) _ (lv_sub hl [1, 0] rfl)
        · refine lv_iconst (v := bm_b false) hx hb dX4_allStandWell_21 (by decide) ?_
          exact bm_zretR (v := false) hx hb hr (by rw [q_allWell, ← he, q_find_hit (by assumption) (by simp [c_2]; done)]; rfl) dX4_allStandWell_22 hlocks
  have hl := lv_entry ([.ref (ad 0)]) (n := 2) (Nat.le_of_ble_eq_true rfl)
  refine W.eq (g2 := entryFrame m ([.ref (ad 0)] : List Value).toArray 2) (by rw [ha]) ?_
  rw [lg_entry_eq]
  generalize (lg_sl ([.ref (ad 0)]) ++ List.replicate (2 - (lg_sl ([.ref (ad 0)])).length) Slot.unset).toArray = ls at hl ⊢
  have hl : lv_has ls 2 [(0, .ref (ad 0))] := hl
  refine lv_iconst (v := nI 0) hx hb dX4_allStandWell_0 (by decide) ?_
  refine lv_istore_n (lv' := [(1, .int (nI 0)), (0, .ref (ad 0))]) hx hb dX4_allStandWell_1 rfl hl (by decide) rfl (fun ls hl => ?_)
  exact lp 42 0 (by omega) (by omega) rfl _ (lv_sub hl [1, 0] rfl)

set_option maxHeartbeats 4000000 in
set_option maxRecDepth 100000 in
theorem r_changed {l : Launch} {D : va_G} {ad : Nat → Nat} {cJ cI cZ : ClassId} {bm : gBM} {pa : gPA} {p0 p1 p2 : gPL} {li : gLI} {wi : gWI} {mt : Nat} {ms : gMS} {ma : gMA} {mp : gMP} {mk : gMK} {mn : gMN} {ou : Nat → Int64} (hoA : q_okA pa) (hoL : q_okL p0) (hoL1 : q_okL p1) {x : Int32} : bm_Rd l yX4_countChanged wsX4_countChanged ({ frames := 1, cells := 0, slots := 0, locals := 22 }) D vwCl [(cJ, .long), (cI, .int), (cZ, .boolean)] (WW ad cJ cI cZ bm pa p0 p1 p2 li wi mt ms ma mp mk mn ou) [.ref (ad 0), .int x] (.int (nI (q_count (q_changed p0 p1 x) pa.2.2.2.2.2.2))) := by
  obtain ⟨hn, hsd, hlw⟩ := hoA
  refine Met.ofW (cc := cX4_countChanged) (maxL := 4) (ret := (some .int)) (by decide) rfl ?_
  intro p e s m args below meth c s₁ B hml hv
  obtain ⟨ha, hP, hK⟩ := hv
  have hx := B.exec
  have hb := B.bytes
  have hr := B.returns
  have hts := atoms_spec (ws := wsX4_countChanged) B.pre
  have hown : s.vm.findClass RX4 = some m.cls := findClass_of_methodNamed B.named
  have hlocks := B.notSynchronized
  have lp : ∀ (k : Nat) (i : Nat), i ≤ pa.2.2.2.2.2.2 → pa.2.2.2.2.2.2 < i + k → ∀ (ls : Array Slot), lv_has ls 4 [(0, .ref (ad 0)), (1, .int x), (2, .int (nI (q_count (q_changed p0 p1 x) i))), (3, .int (nI i))] → W p l e (headSpec wsX4_countChanged ({ frames := 1, cells := 0, slots := 0, locals := 22 })).room s m args below meth c s.heap [] 0 0 (MQ below (k2_QcV (.int (nI (q_count (q_changed p0 p1 x) pa.2.2.2.2.2.2)))) args s 0 0 (fun _ => False)) (F0 m 4 ls []) := by
    intro k
    induction k with
    | zero => intro i hi hk; exfalso; omega
    | succ k ih =>
      intro i hi hk ls hl
      refine lv_iload_n hx hb dX4_countChanged_4 rfl (lv_at hl 3 rfl) ?_
      refine lv_aload_n hx hb dX4_countChanged_5 rfl (lv_at hl 0 rfl) ?_
      refine va_get (D := D) (ci := 4) (v := .ref (ad 1)) (C := RX4) (T := TX4) (N := 10) hx hb hts (inT inX4) hown hK hP 0 ww_0 rfl 2 (by decide) (hts (.fieldLink RX4 12 "BoardMoves" "parts" "LBoardMoves$Parts;") (List.mem_cons_of_mem _ flX4_12)) (fun _ h9 => h9) rfl dX4_countChanged_6 ?_
      refine va_get (D := D) (ci := 1) (v := .int (nI pa.2.2.2.2.2.2)) (C := RX1) (T := TX1) (N := 7) hx hb hts (inT inX1) hown hK hP 1 ww_1 rfl 6 (by decide) (hts (.fieldLink RX4 197 "BoardMoves$Parts" "count" "I") (List.mem_cons_of_mem _ flX4_197)) (fun _ h9 => h9) rfl dX4_countChanged_9 ?_
      refine bm_ni_ge (x := i) (y := pa.2.2.2.2.2.2) (tgt := 44) hx hb (by omega) (by omega) dX4_countChanged_12 (by decide) (fun c_1 => ?_) (fun c_1 => ?_)
      · refine lv_iload_n hx hb dX4_countChanged_44 rfl (lv_at hl 2 rfl) ?_
        exact bm_iretR (v := (nI (q_count (q_changed p0 p1 x) i))) hx hb hr (by rw [show i = pa.2.2.2.2.2.2 from by omega]) dX4_countChanged_45 hlocks
      · refine lv_iload_n hx hb dX4_countChanged_15 rfl (lv_at hl 3 rfl) ?_
        refine lv_iload_n hx hb dX4_countChanged_16 rfl (lv_at hl 1 rfl) ?_
        refine lv_icmp_eq (x := (nI i)) (y := x) (tgt := 38) hx hb dX4_countChanged_17 (by decide) (fun c_2 => ?_) (fun c_2 => ?_)
        · refine lv_iinc (v := (nI (i + 1))) (lv' := [(3, .int (nI (i + 1))), (0, .ref (ad 0)), (1, .int x), (2, .int (nI (q_count (q_changed p0 p1 x) i)))]) hx hb dX4_countChanged_38 hl (k := 3) rfl (nI_1 i) (by decide) rfl (fun ls hl => ?_)
          refine lv_goto (tgt := 4) hx hb dX4_countChanged_41 (by decide) ?_
          rw [show q_count (q_changed p0 p1 x) i = q_count (q_changed p0 p1 x) (i + 1) from by simp [q_count, q_changed, c_2]] at hl
          exact ih (i + 1) (by omega) (by omega) _ (lv_sub hl [1, 2, 3, 0] rfl)
        · refine lv_aload_n hx hb dX4_countChanged_20 rfl (lv_at hl 0 rfl) ?_
          refine va_get (D := D) (ci := 4) (v := .ref (ad 8)) (C := RX4) (T := TX4) (N := 10) hx hb hts (inT inX4) hown hK hP 0 ww_0 rfl 5 (by decide) (hts (.fieldLink RX4 37 "BoardMoves" "now" "LBoardMoves$Placement;") (List.mem_cons_of_mem _ flX4_37)) (fun _ h9 => h9) rfl dX4_countChanged_21 ?_
          refine lv_aload_n hx hb dX4_countChanged_24 rfl (lv_at hl 0 rfl) ?_
          refine va_get (D := D) (ci := 4) (v := .ref (ad 13)) (C := RX4) (T := TX4) (N := 10) hx hb hts (inT inX4) hown hK hP 0 ww_0 rfl 6 (by decide) (hts (.fieldLink RX4 41 "BoardMoves" "before" "LBoardMoves$Placement;") (List.mem_cons_of_mem _ flX4_41)) (fun _ h9 => h9) rfl dX4_countChanged_25 ?_
          refine lv_iload_n hx hb dX4_countChanged_28 rfl (lv_at hl 3 rfl) ?_
          refine bm_rcallV (As := [.ref (ad 13), .int (nI i)]) (rest := []) ⟨hx, hb, hml, hown, hts⟩ (r_differs (j := i) hoL hoL1 (by omega)) (cwV 2 hts gvX4_250 rfl rfl rfl hvX2_differs ⟨Nat.le_of_ble_eq_true rfl, Nat.le_of_ble_eq_true rfl⟩) hK hP 8 2 rfl ww_8 rfl hl.1 rfl (Nat.le_of_ble_eq_true rfl) dX4_countChanged_29 ⟨Nat.le_of_ble_eq_true rfl, Nat.le_of_ble_eq_true rfl⟩ ?_
          refine bm_zb_eq (x := (q_differs p0 p1 i)) (tgt := 38) hx hb dX4_countChanged_32 (by decide) (fun c_3 => ?_) (fun c_3 => ?_)
          · refine lv_iinc (v := (nI (i + 1))) (lv' := [(3, .int (nI (i + 1))), (0, .ref (ad 0)), (1, .int x), (2, .int (nI (q_count (q_changed p0 p1 x) i)))]) hx hb dX4_countChanged_38 hl (k := 3) rfl (nI_1 i) (by decide) rfl (fun ls hl => ?_)
            refine lv_goto (tgt := 4) hx hb dX4_countChanged_41 (by decide) ?_
            rw [show q_count (q_changed p0 p1 x) i = q_count (q_changed p0 p1 x) (i + 1) from by simp [q_count, q_changed, c_2, c_3]] at hl
            exact ih (i + 1) (by omega) (by omega) _ (lv_sub hl [1, 2, 3, 0] rfl)
          · refine lv_iinc (v := (nI ((q_count (q_changed p0 p1 x) i) + 1))) (lv' := [(2, .int (nI ((q_count (q_changed p0 p1 x) i) + 1))), (0, .ref (ad 0)), (1, .int x), (3, .int (nI i))]) hx hb dX4_countChanged_35 hl (k := 2) rfl (nI_1 (q_count (q_changed p0 p1 x) i)) (by decide) rfl (fun ls hl => ?_)
            refine lv_iinc (v := (nI (i + 1))) (lv' := [(3, .int (nI (i + 1))), (2, .int (nI ((q_count (q_changed p0 p1 x) i) + 1))), (0, .ref (ad 0)), (1, .int x)]) hx hb dX4_countChanged_38 hl (k := 3) rfl (nI_1 i) (by decide) rfl (fun ls hl => ?_)
            refine lv_goto (tgt := 4) hx hb dX4_countChanged_41 (by decide) ?_
            rw [show (q_count (q_changed p0 p1 x) i) + 1 = q_count (q_changed p0 p1 x) (i + 1) from by simp [q_count, q_changed, c_2, c_3]] at hl
            exact ih (i + 1) (by omega) (by omega) _ (lv_sub hl [2, 3, 1, 0] rfl)
  have hl := lv_entry ([.ref (ad 0), .int x]) (n := 4) (Nat.le_of_ble_eq_true rfl)
  refine W.eq (g2 := entryFrame m ([.ref (ad 0), .int x] : List Value).toArray 4) (by rw [ha]) ?_
  rw [lg_entry_eq]
  generalize (lg_sl ([.ref (ad 0), .int x]) ++ List.replicate (4 - (lg_sl ([.ref (ad 0), .int x])).length) Slot.unset).toArray = ls at hl ⊢
  have hl : lv_has ls 4 [(0, .ref (ad 0)), (1, .int x)] := hl
  refine lv_iconst (v := nI 0) hx hb dX4_countChanged_0 (by decide) ?_
  refine lv_istore_n (lv' := [(2, .int (nI 0)), (0, .ref (ad 0)), (1, .int x)]) hx hb dX4_countChanged_1 rfl hl (by decide) rfl (fun ls hl => ?_)
  refine lv_iconst (v := nI 0) hx hb dX4_countChanged_2 (by decide) ?_
  refine lv_istore_n (lv' := [(3, .int (nI 0)), (2, .int (nI 0)), (0, .ref (ad 0)), (1, .int x)]) hx hb dX4_countChanged_3 rfl hl (by decide) rfl (fun ls hl => ?_)
  exact lp (pa.2.2.2.2.2.2 + 1) 0 (by omega) (by omega) _ (lv_sub hl [2, 3, 1, 0] rfl)
