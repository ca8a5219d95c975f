set_option maxHeartbeats 4000000 in
set_option maxRecDepth 100000 in
theorem r_over {l : Launch} {D : va_G} {ad : Nat → Nat} {cJ cI cZ : ClassId} {bm : gBM} {pa : gPA} {p0 p1 p2 : gPL} {li : gLI} {wi : gWI} (hoA : q_okA pa) (hoL : q_okL p0) {j f : Nat} (h1 : j < 40) (h2 : f ≤ 40) : bm_Rd l yX2_overlapped wsX2_overlapped ({ frames := 2, cells := 0, slots := 0, locals := 50 }) D vwCl [(cJ, .long), (cI, .int), (cZ, .boolean)] (Wd ad cJ cI cZ bm pa p0 p1 p2 li wi) [.ref (ad 8), .int (nI j), .int (nI f)] (.int (q_opt (q_over pa p0 j f))) := by
  obtain ⟨hn, hsd, hlw⟩ := hoA
  refine Met.ofW (cc := cX2_overlapped) (maxL := 8) (ret := (some .int)) (by decide) rfl ?_
  intro p e s m args below meth c s₁ B hml hv
  obtain ⟨ha, hP, hK⟩ := hv
  have hx := B.exec
  have hb := B.bytes
  have hr := B.returns
  have hts := atoms_spec (ws := wsX2_overlapped) B.pre
  have hown : s.vm.findClass RX2 = some m.cls := findClass_of_methodNamed B.named
  have hlocks := B.notSynchronized
  have lp : ∀ (k : Nat) (i : Nat), i ≤ 40 → 41 < i + k → q_find (q_ov pa p0 j) (pa.2.2.2.2.2.2 - i) i = q_over pa p0 j f → ∀ (ls : Array Slot), lv_has ls 8 [(0, .ref (ad 8)), (1, .int (nI j)), (3, .long (q_endX pa p0 j)), (5, .long (q_endY pa p0 j)), (7, .int (nI i))] → W p l e (headSpec wsX2_overlapped ({ frames := 2, cells := 0, slots := 0, locals := 50 })).room s m args below meth c s.heap [] 0 0 (MQ below (k2_QcV (.int (q_opt (q_over pa p0 j f)))) args s 0 0 (fun _ => False)) (F0 m 16 ls []) := by
    intro k
    induction k with
    | zero => intro i hi hk he; exfalso; omega
    | succ k ih =>
      intro i hi hk he ls hl
      refine lv_iload hx hb dX2_overlapped_16 (lv_at hl 4 rfl) ?_
      refine lv_aload_n hx hb dX2_overlapped_18 rfl (lv_at hl 0 rfl) ?_
      refine va_get (D := D) (ci := 2) (v := .ref (ad 1)) (C := RX2) (T := TX2) (N := 5) hx hb hts (inT inX2) hown hK hP 8 rfl rfl 0 (by decide) (hts (.fieldLink RX2 26 "BoardMoves$Placement" "parts" "LBoardMoves$Parts;") (by decide +kernel)) (fun _ h9 => h9) rfl dX2_overlapped_19 ?_
      refine va_get (D := D) (ci := 1) (v := .int (nI pa.2.2.2.2.2.2)) (C := RX1) (T := TX1) (N := 7) hx hb hts (inT inX1) hown hK hP 1 rfl rfl 6 (by decide) (hts (.fieldLink RX2 30 "BoardMoves$Parts" "count" "I") (by decide +kernel)) (fun _ h9 => h9) rfl dX2_overlapped_22 ?_
      refine bm_ni_ge (x := i) (y := pa.2.2.2.2.2.2) (tgt := 89) hx hb (by omega) (by omega) dX2_overlapped_25 (by decide) (fun c_1 => ?_) (fun c_1 => ?_)
      · refine lv_iconst (v := -1) hx hb dX2_overlapped_89 (by decide) ?_
        exact bm_iretR (v := (-1)) hx hb hr (by rw [← he, q_find_end (by assumption)]; rfl) dX2_overlapped_90 hlocks
      · refine lv_iload hx hb dX2_overlapped_28 (lv_at hl 4 rfl) ?_
        refine lv_iload_n hx hb dX2_overlapped_30 rfl (lv_at hl 1 rfl) ?_
        refine bm_ni_eq (x := i) (y := j) (tgt := 83) hx hb (by omega) (by omega) dX2_overlapped_31 (by decide) (fun c_2 => ?_) (fun c_2 => ?_)
        · refine lv_iinc (v := (nI (i + 1))) (lv' := [(7, .int (nI (i + 1))), (0, .ref (ad 8)), (1, .int (nI j)), (3, .long (q_endX pa p0 j)), (5, .long (q_endY pa p0 j))]) hx hb dX2_overlapped_83 hl (k := 4) rfl (nI_1 i) (by decide) rfl (fun ls hl => ?_)
          refine lv_goto (tgt := 16) hx hb dX2_overlapped_86 (by decide) ?_
          exact ih (i + 1) (by omega) (by omega) (by rw [← he]; exact q_find_go (by assumption) (by simp [q_ov, c_2])) _ (lv_sub hl [1, 2, 3, 4, 0] rfl)
        · refine lv_aload_n hx hb dX2_overlapped_34 rfl (lv_at hl 0 rfl) ?_
          refine va_get (D := D) (ci := 2) (v := .ref (ad 1)) (C := RX2) (T := TX2) (N := 5) hx hb hts (inT inX2) hown hK hP 8 rfl rfl 0 (by decide) (hts (.fieldLink RX2 26 "BoardMoves$Placement" "parts" "LBoardMoves$Parts;") (by decide +kernel)) (fun _ h9 => h9) rfl dX2_overlapped_35 ?_
          refine va_get (D := D) (ci := 1) (v := .ref (ad 4)) (C := RX1) (T := TX1) (N := 7) hx hb hts (inT inX1) hown hK hP 1 rfl rfl 2 (by decide) (hts (.fieldLink RX2 53 "BoardMoves$Parts" "side" "[I") (by decide +kernel)) (fun _ h9 => h9) rfl dX2_overlapped_38 ?_
          refine lv_iload hx hb dX2_overlapped_41 (lv_at hl 4 rfl) ?_
          refine bm_nald (f := pa.2.2.1) hx hb hK hP 4 1 rfl rfl (j := i) (by omega) (by decide) dX2_overlapped_43 ?_
          refine lv_aload_n hx hb dX2_overlapped_44 rfl (lv_at hl 0 rfl) ?_
          refine va_get (D := D) (ci := 2) (v := .ref (ad 1)) (C := RX2) (T := TX2) (N := 5) hx hb hts (inT inX2) hown hK hP 8 rfl rfl 0 (by decide) (hts (.fieldLink RX2 26 "BoardMoves$Placement" "parts" "LBoardMoves$Parts;") (by decide +kernel)) (fun _ h9 => h9) rfl dX2_overlapped_45 ?_
          refine va_get (D := D) (ci := 1) (v := .ref (ad 4)) (C := RX1) (T := TX1) (N := 7) hx hb hts (inT inX1) hown hK hP 1 rfl rfl 2 (by decide) (hts (.fieldLink RX2 53 "BoardMoves$Parts" "side" "[I") (by decide +kernel)) (fun _ h9 => h9) rfl dX2_overlapped_48 ?_
          refine lv_iload_n hx hb dX2_overlapped_51 rfl (lv_at hl 1 rfl) ?_
          refine bm_nald (f := pa.2.2.1) hx hb hK hP 4 1 rfl rfl (j := j) (by omega) (by decide) dX2_overlapped_52 ?_
          refine bm_ni_ne (x := (pa.2.2.1 i)) (y := (pa.2.2.1 j)) (tgt := 83) hx hb (bm40 (hsd _)) (bm40 (hsd _)) dX2_overlapped_53 (by decide) (fun c_3 => ?_) (fun c_3 => ?_)
          · refine lv_iinc (v := (nI (i + 1))) (lv' := [(7, .int (nI (i + 1))), (0, .ref (ad 8)), (1, .int (nI j)), (3, .long (q_endX pa p0 j)), (5, .long (q_endY pa p0 j))]) hx hb dX2_overlapped_83 hl (k := 4) rfl (nI_1 i) (by decide) rfl (fun ls hl => ?_)
            refine lv_goto (tgt := 16) hx hb dX2_overlapped_86 (by decide) ?_
            exact ih (i + 1) (by omega) (by omega) (by rw [← he]; exact q_find_go (by assumption) (by simp [q_ov, c_2, c_3])) _ (lv_sub hl [1, 2, 3, 4, 0] rfl)
          · refine lv_aload_n hx hb dX2_overlapped_56 rfl (lv_at hl 0 rfl) ?_
            refine lv_iload hx hb dX2_overlapped_57 (lv_at hl 4 rfl) ?_
            refine lv_aload_n hx hb dX2_overlapped_59 rfl (lv_at hl 0 rfl) ?_
            refine va_get (D := D) (ci := 2) (v := .ref (ad 9)) (C := RX2) (T := TX2) (N := 5) hx hb hts (inT inX2) hown hK hP 8 rfl rfl 1 (by decide) (hts (.fieldLink RX2 9 "BoardMoves$Placement" "x" "[J") (by decide +kernel)) (fun _ h9 => h9) rfl dX2_overlapped_60 ?_
            refine lv_iload_n hx hb dX2_overlapped_63 rfl (lv_at hl 1 rfl) ?_
            refine bm_lald (f := p0.1) hx hb hK hP 9 0 rfl rfl (j := j) (by omega) (by decide) dX2_overlapped_64 ?_
            refine lv_aload_n hx hb dX2_overlapped_65 rfl (lv_at hl 0 rfl) ?_
            refine va_get (D := D) (ci := 2) (v := .ref (ad 10)) (C := RX2) (T := TX2) (N := 5) hx hb hts (inT inX2) hown hK hP 8 rfl rfl 2 (by decide) (hts (.fieldLink RX2 15 "BoardMoves$Placement" "y" "[J") (by decide +kernel)) (fun _ h9 => h9) rfl dX2_overlapped_66 ?_
            refine lv_iload_n hx hb dX2_overlapped_69 rfl (lv_at hl 1 rfl) ?_
            refine bm_lald (f := p0.2.1) hx hb hK hP 10 0 rfl rfl (j := j) (by omega) (by decide) dX2_overlapped_70 ?_
            refine lv_lload_n hx hb dX2_overlapped_71 rfl (lv_at hl 2 rfl) ?_
            refine lv_lload hx hb dX2_overlapped_72 (lv_at hl 3 rfl) ?_
            refine bm_rcallV (As := [.int (nI i), .long (p0.1 j), .long (p0.2.1 j), .long (q_endX pa p0 j), .long (q_endY pa p0 j)]) (rest := []) ⟨hx, hb, hml, hown, hts⟩ (r_meets (j := i) hoL (by omega)) (cwV 5 hts (gdV (by decide +kernel) (by decide +kernel) (by decide +kernel) (by decide +kernel) (by decide +kernel)) rfl rfl rfl (by decide +kernel) ⟨Nat.le_of_ble_eq_true rfl, Nat.le_of_ble_eq_true rfl⟩) hK hP 8 2 rfl rfl rfl hl.1 rfl (Nat.le_of_ble_eq_true rfl) dX2_overlapped_74 ⟨Nat.le_of_ble_eq_true rfl, Nat.le_of_ble_eq_true rfl⟩ ?_
            refine bm_zb_eq (x := (q_meets pa p0 i (p0.1 j) (p0.2.1 j) (q_endX pa p0 j) (q_endY pa p0 j))) (tgt := 83) hx hb dX2_overlapped_77 (by decide) (fun c_4 => ?_) (fun c_4 => ?_)
            · refine lv_iinc (v := (nI (i + 1))) (lv' := [(7, .int (nI (i + 1))), (0, .ref (ad 8)), (1, .int (nI j)), (3, .long (q_endX pa p0 j)), (5, .long (q_endY pa p0 j))]) hx hb dX2_overlapped_83 hl (k := 4) rfl (nI_1 i) (by decide) rfl (fun ls hl => ?_)
              refine lv_goto (tgt := 16) hx hb dX2_overlapped_86 (by decide) ?_
              exact ih (i + 1) (by omega) (by omega) (by rw [← he]; exact q_find_go (by assumption) (by simp [q_ov, c_2, c_3, c_4])) _ (lv_sub hl [1, 2, 3, 4, 0] rfl)
            · refine lv_iload hx hb dX2_overlapped_80 (lv_at hl 4 rfl) ?_
              exact bm_iretR (v := (nI i)) hx hb hr (by rw [← he, q_find_hit (by assumption) (by simp [q_ov, c_2, c_3, c_4])]; rfl) dX2_overlapped_82 hlocks
  have hl := lv_entry ([.ref (ad 8), .int (nI j), .int (nI f)]) (n := 8) (Nat.le_of_ble_eq_true rfl)
  refine W.eq (g2 := entryFrame m ([.ref (ad 8), .int (nI j), .int (nI f)] : List Value).toArray 8) (by rw [ha]) ?_
  rw [lg_entry_eq]
  generalize (lg_sl ([.ref (ad 8), .int (nI j), .int (nI f)]) ++ List.replicate (8 - (lg_sl ([.ref (ad 8), .int (nI j), .int (nI f)])).length) Slot.unset).toArray = ls at hl ⊢
  have hl : lv_has ls 8 [(0, .ref (ad 8)), (1, .int (nI j)), (2, .int (nI f))] := hl
  refine lv_aload_n hx hb dX2_overlapped_0 rfl (lv_at hl 0 rfl) ?_
  refine lv_iload_n hx hb dX2_overlapped_1 rfl (lv_at hl 1 rfl) ?_
  refine bm_rcallV (As := [.int (nI j)]) (rest := []) ⟨hx, hb, hml, hown, hts⟩ (r_endX (j := j) hoL (by omega)) (cwV 1 hts (gdV (by decide +kernel) (by decide +kernel) (by decide +kernel) (by decide +kernel) (by decide +kernel)) rfl rfl rfl (by decide +kernel) ⟨Nat.le_of_ble_eq_true rfl, Nat.le_of_ble_eq_true rfl⟩) hK hP 8 2 rfl rfl rfl hl.1 rfl (Nat.le_of_ble_eq_true rfl) dX2_overlapped_2 ⟨Nat.le_of_ble_eq_true rfl, Nat.le_of_ble_eq_true rfl⟩ ?_
  refine lv_lstore_n (lv' := [(3, .long (q_endX pa p0 j)), (0, .ref (ad 8)), (1, .int (nI j)), (2, .int (nI f))]) hx hb dX2_overlapped_5 rfl hl (by decide) rfl (fun ls hl => ?_)
  refine lv_aload_n hx hb dX2_overlapped_6 rfl (lv_at hl 1 rfl) ?_
  refine lv_iload_n hx hb dX2_overlapped_7 rfl (lv_at hl 2 rfl) ?_
  refine bm_rcallV (As := [.int (nI j)]) (rest := []) ⟨hx, hb, hml, hown, hts⟩ (r_endY (j := j) hoL (by omega)) (cwV 1 hts (gdV (by decide +kernel) (by decide +kernel) (by decide +kernel) (by decide +kernel) (by decide +kernel)) rfl rfl rfl (by decide +kernel) ⟨Nat.le_of_ble_eq_true rfl, Nat.le_of_ble_eq_true rfl⟩) hK hP 8 2 rfl rfl rfl hl.1 rfl (Nat.le_of_ble_eq_true rfl) dX2_overlapped_8 ⟨Nat.le_of_ble_eq_true rfl, Nat.le_of_ble_eq_true rfl⟩ ?_
  refine lv_lstore (lv' := [(5, .long (q_endY pa p0 j)), (3, .long (q_endX pa p0 j)), (0, .ref (ad 8)), (1, .int (nI j)), (2, .int (nI f))]) hx hb dX2_overlapped_11 hl (by decide) rfl (fun ls hl => ?_)
  refine lv_iload_n hx hb dX2_overlapped_13 rfl (lv_at hl 4 rfl) ?_
  refine lv_istore (lv' := [(7, .int (nI f)), (5, .long (q_endY pa p0 j)), (3, .long (q_endX pa p0 j)), (0, .ref (ad 8)), (1, .int (nI j)), (2, .int (nI f))]) hx hb dX2_overlapped_14 hl (by decide) rfl (fun ls hl => ?_)
  exact lp (42 - f) f (by omega) (by omega) rfl _ (lv_sub hl [3, 4, 2, 1, 0] rfl)
