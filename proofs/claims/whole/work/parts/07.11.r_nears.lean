set_option maxHeartbeats 4000000 in
set_option maxRecDepth 100000 in
theorem r_nears {l : Launch} {D : va_G} {ad : Nat → Nat} {cJ cI cZ : ClassId} {bm : gBM} {pa : gPA} {p0 p1 p2 : gPL} {li : gLI} {wi : gWI} (hoL : q_okL p0) (hoI : q_okI li) {j : Nat} (h1 : j < 40) : bm_Rd l yX0_isNearEnough wsX0_isNearEnough ({ frames := 2, cells := 0, slots := 0, locals := 52 }) D vwCl [(cJ, .long), (cI, .int), (cZ, .boolean)] (Wd ad cJ cI cZ bm pa p0 p1 p2 li wi) [.ref (ad 23), .ref (ad 8), .int (nI j)] (.int (bm_b (q_nears pa p0 li j))) := by
  obtain ⟨hon, hot, hko, hne⟩ := hoI
  refine Met.ofW (cc := cX0_isNearEnough) (maxL := 5) (ret := (some .boolean)) (by decide) rfl ?_
  intro p e s m args below meth c s₁ B hml hv
  obtain ⟨ha, hP, hK⟩ := hv
  have hx := B.exec
  have hb := B.bytes
  have hr := B.returns
  have hts := atoms_spec (ws := wsX0_isNearEnough) B.pre
  have hown : s.vm.findClass RX0 = some m.cls := findClass_of_methodNamed B.named
  have hlocks := B.notSynchronized
  have lp : ∀ (k : Nat) (i : Nat), i ≤ 20 → 20 + 1 < i + k → q_find (q_tooFar pa p0 li j) (li.2.2.2.2.2.2.2.2.2 - i) i = q_find (q_tooFar pa p0 li j) (li.2.2.2.2.2.2.2.2.2 - 0) 0 → ∀ (ls : Array Slot), lv_has ls 5 [(0, .ref (ad 23)), (1, .ref (ad 8)), (2, .int (nI j)), (3, .int (nI i))] → W p l e (headSpec wsX0_isNearEnough ({ frames := 2, cells := 0, slots := 0, locals := 52 })).room s m args below meth c s.heap [] 0 0 (MQ below (k2_QcV (.int (bm_b (q_nears pa p0 li j)))) args s 0 0 (fun _ => False)) (F0 m 2 ls []) := by
    intro k
    induction k with
    | zero => intro i hi hk he; exfalso; omega
    | succ k ih =>
      intro i hi hk he ls hl
      refine lv_iload_n hx hb dX0_isNearEnough_2 rfl (lv_at hl 3 rfl) ?_
      refine lv_aload_n hx hb dX0_isNearEnough_3 rfl (lv_at hl 0 rfl) ?_
      refine va_get (D := D) (ci := 0) (v := .int (nI li.2.2.2.2.2.2.2.2.2)) (C := RX0) (T := TX0) (N := 11) hx hb hts (inT inX0) hown hK hP 23 rfl rfl 10 (by decide) (hts (.fieldLink RX0 41 "BoardMoves$Limits" "nears" "I") (by decide +kernel)) (fun _ h9 => h9) rfl dX0_isNearEnough_4 ?_
      refine bm_ni_ge (x := i) (y := li.2.2.2.2.2.2.2.2.2) (tgt := 75) hx hb (by omega) (by omega) dX0_isNearEnough_7 (by decide) (fun c_1 => ?_) (fun c_1 => ?_)
      · refine lv_iconst (v := bm_b true) hx hb dX0_isNearEnough_75 (by decide) ?_
        exact bm_zretR (v := true) hx hb hr (by rw [q_nears, ← he, q_find_end (by assumption)]; rfl) dX0_isNearEnough_76 hlocks
      · refine lv_aload_n hx hb dX0_isNearEnough_10 rfl (lv_at hl 0 rfl) ?_
        refine va_get (D := D) (ci := 0) (v := .ref (ad 29)) (C := RX0) (T := TX0) (N := 11) hx hb hts (inT inX0) hown hK hP 23 rfl rfl 6 (by decide) (hts (.fieldLink RX0 27 "BoardMoves$Limits" "one" "[I") (by decide +kernel)) (fun _ h9 => h9) rfl dX0_isNearEnough_11 ?_
        refine lv_iload_n hx hb dX0_isNearEnough_14 rfl (lv_at hl 3 rfl) ?_
        refine bm_nald (f := li.2.2.2.2.2.1) hx hb hK hP 29 1 rfl rfl (j := i) (by omega) (by decide) dX0_isNearEnough_15 ?_
        refine lv_iload_n hx hb dX0_isNearEnough_16 rfl (lv_at hl 2 rfl) ?_
        refine bm_ni_eq (x := (li.2.2.2.2.2.1 i)) (y := j) (tgt := 30) hx hb (bm40 (hon _)) (by omega) dX0_isNearEnough_17 (by decide) (fun c_2 => ?_) (fun c_2 => ?_)
        · refine lv_iconst (v := bm_b true) hx hb dX0_isNearEnough_30 (by decide) ?_
          refine lv_goto (tgt := 35) hx hb dX0_isNearEnough_31 (by decide) ?_
          refine lv_istore (lv' := [(4, .int (bm_b true)), (0, .ref (ad 23)), (1, .ref (ad 8)), (2, .int (nI j)), (3, .int (nI i))]) hx hb dX0_isNearEnough_35 hl (by decide) rfl (fun ls hl => ?_)
          refine lv_iload hx hb dX0_isNearEnough_37 (lv_at hl 0 rfl) ?_
          refine bm_zb_eq (x := true) (tgt := 69) hx hb dX0_isNearEnough_39 (by decide) (fun c_3 => ?_) (fun c_3 => ?_)
          · exact absurd c_3 (by decide)
          · refine lv_aload_n hx hb dX0_isNearEnough_42 rfl (lv_at hl 2 rfl) ?_
            refine lv_aload_n hx hb dX0_isNearEnough_43 rfl (lv_at hl 1 rfl) ?_
            refine va_get (D := D) (ci := 0) (v := .ref (ad 29)) (C := RX0) (T := TX0) (N := 11) hx hb hts (inT inX0) hown hK hP 23 rfl rfl 6 (by decide) (hts (.fieldLink RX0 27 "BoardMoves$Limits" "one" "[I") (by decide +kernel)) (fun _ h9 => h9) rfl dX0_isNearEnough_44 ?_
            refine lv_iload_n hx hb dX0_isNearEnough_47 rfl (lv_at hl 4 rfl) ?_
            refine bm_nald (f := li.2.2.2.2.2.1) hx hb hK hP 29 1 rfl rfl (j := i) (by omega) (by decide) dX0_isNearEnough_48 ?_
            refine lv_aload_n hx hb dX0_isNearEnough_49 rfl (lv_at hl 1 rfl) ?_
            refine va_get (D := D) (ci := 0) (v := .ref (ad 30)) (C := RX0) (T := TX0) (N := 11) hx hb hts (inT inX0) hown hK hP 23 rfl rfl 7 (by decide) (hts (.fieldLink RX0 31 "BoardMoves$Limits" "other" "[I") (by decide +kernel)) (fun _ h9 => h9) rfl dX0_isNearEnough_50 ?_
            refine lv_iload_n hx hb dX0_isNearEnough_53 rfl (lv_at hl 4 rfl) ?_
            refine bm_nald (f := li.2.2.2.2.2.2.1) hx hb hK hP 30 1 rfl rfl (j := i) (by omega) (by decide) dX0_isNearEnough_54 ?_
            refine lv_aload_n hx hb dX0_isNearEnough_55 rfl (lv_at hl 1 rfl) ?_
            refine va_get (D := D) (ci := 0) (v := .ref (ad 31)) (C := RX0) (T := TX0) (N := 11) hx hb hts (inT inX0) hown hK hP 23 rfl rfl 8 (by decide) (hts (.fieldLink RX0 34 "BoardMoves$Limits" "most" "[J") (by decide +kernel)) (fun _ h9 => h9) rfl dX0_isNearEnough_56 ?_
            refine lv_iload_n hx hb dX0_isNearEnough_59 rfl (lv_at hl 4 rfl) ?_
            refine bm_lald (f := li.2.2.2.2.2.2.2.1) hx hb hK hP 31 0 rfl rfl (j := i) (by omega) (by decide) dX0_isNearEnough_60 ?_
            refine bm_rcallV (As := [.int (nI (li.2.2.2.2.2.1 i)), .int (nI (li.2.2.2.2.2.2.1 i)), .long (li.2.2.2.2.2.2.2.1 i)]) (rest := []) ⟨hx, hb, hml, hown, hts⟩ (r_near (a := (li.2.2.2.2.2.1 i)) (b := (li.2.2.2.2.2.2.1 i)) hoL (hon _) (hot _)) (cwV 3 hts (gdV (by decide +kernel) (by decide +kernel) (by decide +kernel) (by decide +kernel) (by decide +kernel)) rfl rfl rfl (by decide +kernel) ⟨Nat.le_of_ble_eq_true rfl, Nat.le_of_ble_eq_true rfl⟩) hK hP 8 2 rfl rfl rfl hl.1 rfl (Nat.le_of_ble_eq_true rfl) dX0_isNearEnough_61 ⟨Nat.le_of_ble_eq_true rfl, Nat.le_of_ble_eq_true rfl⟩ ?_
            refine bm_zb_ne (x := (q_near pa p0 (li.2.2.2.2.2.1 i) (li.2.2.2.2.2.2.1 i) (li.2.2.2.2.2.2.2.1 i))) (tgt := 69) hx hb dX0_isNearEnough_64 (by decide) (fun c_4 => ?_) (fun c_4 => ?_)
            · refine lv_iinc (v := (nI (i + 1))) (lv' := [(3, .int (nI (i + 1))), (4, .int (bm_b true)), (0, .ref (ad 23)), (1, .ref (ad 8)), (2, .int (nI j))]) hx hb dX0_isNearEnough_69 hl (k := 4) rfl (nI_1 i) (by decide) rfl (fun ls hl => ?_)
              refine lv_goto (tgt := 2) hx hb dX0_isNearEnough_72 (by decide) ?_
              exact ih (i + 1) (by omega) (by omega) (by rw [← he]; exact q_find_go (by assumption) (by first | (simp [q_tooFar, c_2, c_4]; done) | (simp only [q_tooFar]; rw [c_4]; simp [c_2]; done))) _ (lv_sub hl [2, 3, 4, 0] rfl)
            · refine lv_iconst (v := bm_b false) hx hb dX0_isNearEnough_67 (by decide) ?_
              exact bm_zretR (v := false) hx hb hr (by rw [q_nears, ← he, q_find_hit (by assumption) (by first | (simp [q_tooFar, c_2, c_4]; done) | (simp only [q_tooFar]; rw [c_4]; simp [c_2]; done))]; rfl) dX0_isNearEnough_68 hlocks
        · refine lv_aload_n hx hb dX0_isNearEnough_20 rfl (lv_at hl 0 rfl) ?_
          refine va_get (D := D) (ci := 0) (v := .ref (ad 30)) (C := RX0) (T := TX0) (N := 11) hx hb hts (inT inX0) hown hK hP 23 rfl rfl 7 (by decide) (hts (.fieldLink RX0 31 "BoardMoves$Limits" "other" "[I") (by decide +kernel)) (fun _ h9 => h9) rfl dX0_isNearEnough_21 ?_
          refine lv_iload_n hx hb dX0_isNearEnough_24 rfl (lv_at hl 3 rfl) ?_
          refine bm_nald (f := li.2.2.2.2.2.2.1) hx hb hK hP 30 1 rfl rfl (j := i) (by omega) (by decide) dX0_isNearEnough_25 ?_
          refine lv_iload_n hx hb dX0_isNearEnough_26 rfl (lv_at hl 2 rfl) ?_
          refine bm_ni_ne (x := (li.2.2.2.2.2.2.1 i)) (y := j) (tgt := 34) hx hb (bm40 (hot _)) (by omega) dX0_isNearEnough_27 (by decide) (fun c_5 => ?_) (fun c_5 => ?_)
          · refine lv_iconst (v := bm_b false) hx hb dX0_isNearEnough_34 (by decide) ?_
            refine lv_istore (lv' := [(4, .int (bm_b false)), (0, .ref (ad 23)), (1, .ref (ad 8)), (2, .int (nI j)), (3, .int (nI i))]) hx hb dX0_isNearEnough_35 hl (by decide) rfl (fun ls hl => ?_)
            refine lv_iload hx hb dX0_isNearEnough_37 (lv_at hl 0 rfl) ?_
            refine bm_zb_eq (x := false) (tgt := 69) hx hb dX0_isNearEnough_39 (by decide) (fun c_6 => ?_) (fun c_6 => ?_)
            · refine lv_iinc (v := (nI (i + 1))) (lv' := [(3, .int (nI (i + 1))), (4, .int (bm_b false)), (0, .ref (ad 23)), (1, .ref (ad 8)), (2, .int (nI j))]) hx hb dX0_isNearEnough_69 hl (k := 4) rfl (nI_1 i) (by decide) rfl (fun ls hl => ?_)
              refine lv_goto (tgt := 2) hx hb dX0_isNearEnough_72 (by decide) ?_
              exact ih (i + 1) (by omega) (by omega) (by rw [← he]; exact q_find_go (by assumption) (by first | (simp [q_tooFar, c_2, c_5]; done) | (simp only [q_tooFar]; rw [c_5]; simp [c_2]; done))) _ (lv_sub hl [2, 3, 4, 0] rfl)
            · exact absurd c_6 (by decide)
          · refine lv_iconst (v := bm_b true) hx hb dX0_isNearEnough_30 (by decide) ?_
            refine lv_goto (tgt := 35) hx hb dX0_isNearEnough_31 (by decide) ?_
            refine lv_istore (lv' := [(4, .int (bm_b true)), (0, .ref (ad 23)), (1, .ref (ad 8)), (2, .int (nI j)), (3, .int (nI i))]) hx hb dX0_isNearEnough_35 hl (by decide) rfl (fun ls hl => ?_)
            refine lv_iload hx hb dX0_isNearEnough_37 (lv_at hl 0 rfl) ?_
            refine bm_zb_eq (x := true) (tgt := 69) hx hb dX0_isNearEnough_39 (by decide) (fun c_7 => ?_) (fun c_7 => ?_)
            · exact absurd c_7 (by decide)
            · refine lv_aload_n hx hb dX0_isNearEnough_42 rfl (lv_at hl 2 rfl) ?_
              refine lv_aload_n hx hb dX0_isNearEnough_43 rfl (lv_at hl 1 rfl) ?_
              refine va_get (D := D) (ci := 0) (v := .ref (ad 29)) (C := RX0) (T := TX0) (N := 11) hx hb hts (inT inX0) hown hK hP 23 rfl rfl 6 (by decide) (hts (.fieldLink RX0 27 "BoardMoves$Limits" "one" "[I") (by decide +kernel)) (fun _ h9 => h9) rfl dX0_isNearEnough_44 ?_
              refine lv_iload_n hx hb dX0_isNearEnough_47 rfl (lv_at hl 4 rfl) ?_
              refine bm_nald (f := li.2.2.2.2.2.1) hx hb hK hP 29 1 rfl rfl (j := i) (by omega) (by decide) dX0_isNearEnough_48 ?_
              refine lv_aload_n hx hb dX0_isNearEnough_49 rfl (lv_at hl 1 rfl) ?_
              refine va_get (D := D) (ci := 0) (v := .ref (ad 30)) (C := RX0) (T := TX0) (N := 11) hx hb hts (inT inX0) hown hK hP 23 rfl rfl 7 (by decide) (hts (.fieldLink RX0 31 "BoardMoves$Limits" "other" "[I") (by decide +kernel)) (fun _ h9 => h9) rfl dX0_isNearEnough_50 ?_
              refine lv_iload_n hx hb dX0_isNearEnough_53 rfl (lv_at hl 4 rfl) ?_
              refine bm_nald (f := li.2.2.2.2.2.2.1) hx hb hK hP 30 1 rfl rfl (j := i) (by omega) (by decide) dX0_isNearEnough_54 ?_
              refine lv_aload_n hx hb dX0_isNearEnough_55 rfl (lv_at hl 1 rfl) ?_
              refine va_get (D := D) (ci := 0) (v := .ref (ad 31)) (C := RX0) (T := TX0) (N := 11) hx hb hts (inT inX0) hown hK hP 23 rfl rfl 8 (by decide) (hts (.fieldLink RX0 34 "BoardMoves$Limits" "most" "[J") (by decide +kernel)) (fun _ h9 => h9) rfl dX0_isNearEnough_56 ?_
              refine lv_iload_n hx hb dX0_isNearEnough_59 rfl (lv_at hl 4 rfl) ?_
              refine bm_lald (f := li.2.2.2.2.2.2.2.1) hx hb hK hP 31 0 rfl rfl (j := i) (by omega) (by decide) dX0_isNearEnough_60 ?_
              refine bm_rcallV (As := [.int (nI (li.2.2.2.2.2.1 i)), .int (nI (li.2.2.2.2.2.2.1 i)), .long (li.2.2.2.2.2.2.2.1 i)]) (rest := []) ⟨hx, hb, hml, hown, hts⟩ (r_near (a := (li.2.2.2.2.2.1 i)) (b := (li.2.2.2.2.2.2.1 i)) hoL (hon _) (hot _)) (cwV 3 hts (gdV (by decide +kernel) (by decide +kernel) (by decide +kernel) (by decide +kernel) (by decide +kernel)) rfl rfl rfl (by decide +kernel) ⟨Nat.le_of_ble_eq_true rfl, Nat.le_of_ble_eq_true rfl⟩) hK hP 8 2 rfl rfl rfl hl.1 rfl (Nat.le_of_ble_eq_true rfl) dX0_isNearEnough_61 ⟨Nat.le_of_ble_eq_true rfl, Nat.le_of_ble_eq_true rfl⟩ ?_
              refine bm_zb_ne (x := (q_near pa p0 (li.2.2.2.2.2.1 i) (li.2.2.2.2.2.2.1 i) (li.2.2.2.2.2.2.2.1 i))) (tgt := 69) hx hb dX0_isNearEnough_64 (by decide) (fun c_8 => ?_) (fun c_8 => ?_)
              · refine lv_iinc (v := (nI (i + 1))) (lv' := [(3, .int (nI (i + 1))), (4, .int (bm_b true)), (0, .ref (ad 23)), (1, .ref (ad 8)), (2, .int (nI j))]) hx hb dX0_isNearEnough_69 hl (k := 4) rfl (nI_1 i) (by decide) rfl (fun ls hl => ?_)
                refine lv_goto (tgt := 2) hx hb dX0_isNearEnough_72 (by decide) ?_
                exact ih (i + 1) (by omega) (by omega) (by rw [← he]; exact q_find_go (by assumption) (by first | (simp [q_tooFar, c_2, c_5, c_8]; done) | (simp only [q_tooFar]; rw [c_8]; simp [c_2, c_5]; done))) _ (lv_sub hl [2, 3, 4, 0] rfl)
              · refine lv_iconst (v := bm_b false) hx hb dX0_isNearEnough_67 (by decide) ?_
                exact bm_zretR (v := false) hx hb hr (by rw [q_nears, ← he, q_find_hit (by assumption) (by first | (simp [q_tooFar, c_2, c_5, c_8]; done) | (simp only [q_tooFar]; rw [c_8]; simp [c_2, c_5]; done))]; rfl) dX0_isNearEnough_68 hlocks
  have hl := lv_entry ([.ref (ad 23), .ref (ad 8), .int (nI j)]) (n := 5) (Nat.le_of_ble_eq_true rfl)
  refine W.eq (g2 := entryFrame m ([.ref (ad 23), .ref (ad 8), .int (nI j)] : List Value).toArray 5) (by rw [ha]) ?_
  rw [lg_entry_eq]
  generalize (lg_sl ([.ref (ad 23), .ref (ad 8), .int (nI j)]) ++ List.replicate (5 - (lg_sl ([.ref (ad 23), .ref (ad 8), .int (nI j)])).length) Slot.unset).toArray = ls at hl ⊢
  have hl : lv_has ls 5 [(0, .ref (ad 23)), (1, .ref (ad 8)), (2, .int (nI j))] := hl
  refine lv_iconst (v := nI 0) hx hb dX0_isNearEnough_0 (by decide) ?_
  refine lv_istore_n (lv' := [(3, .int (nI 0)), (0, .ref (ad 23)), (1, .ref (ad 8)), (2, .int (nI j))]) hx hb dX0_isNearEnough_1 rfl hl (by decide) rfl (fun ls hl => ?_)
  exact lp 22 0 (by omega) (by omega) rfl _ (lv_sub hl [1, 2, 3, 0] rfl)
