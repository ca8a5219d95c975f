set_option maxHeartbeats 4000000 in
set_option maxRecDepth 100000 in
theorem r_hasMate {l : Launch} {D : va_G} {ad : Nat → Nat} {cJ cI cZ : ClassId} {bm : gBM} {pa : gPA} {p0 p1 p2 : gPL} {li : gLI} {wi : gWI} (hoA : q_okA pa) {j : Nat} (h1 : j < 40) : bm_Rd l yX2_hasPlacedMate wsX2_hasPlacedMate ({ frames := 1, cells := 0, slots := 0, locals := 22 }) D vwCl [(cJ, .long), (cI, .int), (cZ, .boolean)] (Wd ad cJ cI cZ bm pa p0 p1 p2 li wi) [.ref (ad 8), .int (nI j)] (.int (bm_b (q_hasMate pa p0 j))) := by
  obtain ⟨hn, hsd, hlw⟩ := hoA
  refine Met.ofW (cc := cX2_hasPlacedMate) (maxL := 3) (ret := (some .boolean)) (by decide) rfl ?_
  intro p e s m args below meth c s₁ B hml hv
  obtain ⟨ha, hP, hK⟩ := hv
  have hx := B.exec
  have hb := B.bytes
  have hr := B.returns
  have hts := atoms_spec (ws := wsX2_hasPlacedMate) B.pre
  have hown : s.vm.findClass RX2 = some m.cls := findClass_of_methodNamed B.named
  have hlocks := B.notSynchronized
  have lp : ∀ (k : Nat) (i : Nat), i ≤ 40 → 40 + 1 < i + k → q_find (q_mateP pa p0 j) (pa.2.2.2.2.2.2 - i) i = q_find (q_mateP pa p0 j) (pa.2.2.2.2.2.2 - 0) 0 → ∀ (ls : Array Slot), lv_has ls 3 [(0, .ref (ad 8)), (1, .int (nI j)), (2, .int (nI i))] → W p l e (headSpec wsX2_hasPlacedMate ({ frames := 1, cells := 0, slots := 0, locals := 22 })).room s m args below meth c s.heap [] 0 0 (MQ below (k2_QcV (.int (bm_b (q_hasMate pa p0 j)))) args s 0 0 (fun _ => False)) (F0 m 2 ls []) := by
    intro k
    induction k with
    | zero => intro i hi hk he; exfalso; omega
    | succ k ih =>
      intro i hi hk he ls hl
      refine lv_iload_n hx hb dX2_hasPlacedMate_2 rfl (lv_at hl 2 rfl) ?_
      refine lv_aload_n hx hb dX2_hasPlacedMate_3 rfl (lv_at hl 0 rfl) ?_
      refine va_get (D := D) (ci := 2) (v := .ref (ad 1)) (C := RX2) (T := TX2) (N := 5) hx hb hts (inT inX2) hown hK hP 8 rfl rfl 0 (by decide) (hts (.fieldLink RX2 26 "BoardMoves$Placement" "parts" "LBoardMoves$Parts;") (by decide +kernel)) (fun _ h9 => h9) rfl dX2_hasPlacedMate_4 ?_
      refine va_get (D := D) (ci := 1) (v := .int (nI pa.2.2.2.2.2.2)) (C := RX1) (T := TX1) (N := 7) hx hb hts (inT inX1) hown hK hP 1 rfl rfl 6 (by decide) (hts (.fieldLink RX2 30 "BoardMoves$Parts" "count" "I") (by decide +kernel)) (fun _ h9 => h9) rfl dX2_hasPlacedMate_7 ?_
      refine bm_ni_ge (x := i) (y := pa.2.2.2.2.2.2) (tgt := 47) hx hb (by omega) (by omega) dX2_hasPlacedMate_10 (by decide) (fun c_1 => ?_) (fun c_1 => ?_)
      · refine lv_iconst (v := bm_b false) hx hb dX2_hasPlacedMate_47 (by decide) ?_
        exact bm_zretR (v := false) hx hb hr (by rw [q_hasMate, ← he, q_find_end (by assumption)]; rfl) dX2_hasPlacedMate_48 hlocks
      · refine lv_iload_n hx hb dX2_hasPlacedMate_13 rfl (lv_at hl 2 rfl) ?_
        refine lv_iload_n hx hb dX2_hasPlacedMate_14 rfl (lv_at hl 1 rfl) ?_
        refine bm_ni_eq (x := i) (y := j) (tgt := 41) hx hb (by omega) (by omega) dX2_hasPlacedMate_15 (by decide) (fun c_2 => ?_) (fun c_2 => ?_)
        · refine lv_iinc (v := (nI (i + 1))) (lv' := [(2, .int (nI (i + 1))), (0, .ref (ad 8)), (1, .int (nI j))]) hx hb dX2_hasPlacedMate_41 hl (k := 2) rfl (nI_1 i) (by decide) rfl (fun ls hl => ?_)
          refine lv_goto (tgt := 2) hx hb dX2_hasPlacedMate_44 (by decide) ?_
          exact ih (i + 1) (by omega) (by omega) (by rw [← he]; exact q_find_go (by assumption) (by simp [q_mateP, c_2]; done)) _ (lv_sub hl [1, 2, 0] rfl)
        · refine lv_aload_n hx hb dX2_hasPlacedMate_18 rfl (lv_at hl 0 rfl) ?_
          refine va_get (D := D) (ci := 2) (v := .ref (ad 12)) (C := RX2) (T := TX2) (N := 5) hx hb hts (inT inX2) hown hK hP 8 rfl rfl 4 (by decide) (hts (.fieldLink RX2 22 "BoardMoves$Placement" "placed" "[Z") (by decide +kernel)) (fun _ h9 => h9) rfl dX2_hasPlacedMate_19 ?_
          refine lv_iload_n hx hb dX2_hasPlacedMate_22 rfl (lv_at hl 2 rfl) ?_
          refine bm_zald (f := p0.2.2.2) hx hb hK hP 12 2 rfl rfl (j := i) (by omega) (by decide) dX2_hasPlacedMate_23 ?_
          refine bm_zb_eq (x := (p0.2.2.2 i)) (tgt := 41) hx hb dX2_hasPlacedMate_24 (by decide) (fun c_3 => ?_) (fun c_3 => ?_)
          · refine lv_iinc (v := (nI (i + 1))) (lv' := [(2, .int (nI (i + 1))), (0, .ref (ad 8)), (1, .int (nI j))]) hx hb dX2_hasPlacedMate_41 hl (k := 2) rfl (nI_1 i) (by decide) rfl (fun ls hl => ?_)
            refine lv_goto (tgt := 2) hx hb dX2_hasPlacedMate_44 (by decide) ?_
            exact ih (i + 1) (by omega) (by omega) (by rw [← he]; exact q_find_go (by assumption) (by first | (simp [q_mateP, c_2, c_3]; done) | (simp only [q_mateP]; rw [c_3]; simp [c_2]; done))) _ (lv_sub hl [1, 2, 0] rfl)
          · refine lv_aload_n hx hb dX2_hasPlacedMate_27 rfl (lv_at hl 0 rfl) ?_
            refine va_get (D := D) (ci := 2) (v := .ref (ad 1)) (C := RX2) (T := TX2) (N := 5) hx hb hts (inT inX2) hown hK hP 8 rfl rfl 0 (by decide) (hts (.fieldLink RX2 26 "BoardMoves$Placement" "parts" "LBoardMoves$Parts;") (by decide +kernel)) (fun _ h9 => h9) rfl dX2_hasPlacedMate_28 ?_
            refine lv_iload_n hx hb dX2_hasPlacedMate_31 rfl (lv_at hl 2 rfl) ?_
            refine lv_iload_n hx hb dX2_hasPlacedMate_32 rfl (lv_at hl 1 rfl) ?_
            refine bm_rcallV (As := [.int (nI i), .int (nI j)]) (rest := []) ⟨hx, hb, hml, hown, hts⟩ (r_mates (a := i) (b := j) ⟨hn, hsd, hlw⟩ (by omega) (by omega)) (cwV 2 hts (gdV (by decide +kernel) (by decide +kernel) (by decide +kernel) (by decide +kernel) (by decide +kernel)) rfl rfl rfl (by decide +kernel) ⟨Nat.le_of_ble_eq_true rfl, Nat.le_of_ble_eq_true rfl⟩) hK hP 1 1 rfl rfl rfl hl.1 rfl (Nat.le_of_ble_eq_true rfl) dX2_hasPlacedMate_33 ⟨Nat.le_of_ble_eq_true rfl, Nat.le_of_ble_eq_true rfl⟩ ?_
            refine bm_zb_eq (x := (q_mates pa i j)) (tgt := 41) hx hb dX2_hasPlacedMate_36 (by decide) (fun c_4 => ?_) (fun c_4 => ?_)
            · refine lv_iinc (v := (nI (i + 1))) (lv' := [(2, .int (nI (i + 1))), (0, .ref (ad 8)), (1, .int (nI j))]) hx hb dX2_hasPlacedMate_41 hl (k := 2) rfl (nI_1 i) (by decide) rfl (fun ls hl => ?_)
              refine lv_goto (tgt := 2) hx hb dX2_hasPlacedMate_44 (by decide) ?_
              exact ih (i + 1) (by omega) (by omega) (by rw [← he]; exact q_find_go (by assumption) (by first | (simp [q_mateP, c_2, c_3, c_4]; done) | (simp only [q_mateP]; rw [c_4]; simp [c_2, c_3]; done))) _ (lv_sub hl [1, 2, 0] rfl)
            · refine lv_iconst (v := bm_b true) hx hb dX2_hasPlacedMate_39 (by decide) ?_
              exact bm_zretR (v := true) hx hb hr (by rw [q_hasMate, ← he, q_find_hit (by assumption) (by first | (simp [q_mateP, c_2, c_3, c_4]; done) | (simp only [q_mateP]; rw [c_4]; simp [c_2, c_3]; done))]; rfl) dX2_hasPlacedMate_40 hlocks
  have hl := lv_entry ([.ref (ad 8), .int (nI j)]) (n := 3) (Nat.le_of_ble_eq_true rfl)
  refine W.eq (g2 := entryFrame m ([.ref (ad 8), .int (nI j)] : List Value).toArray 3) (by rw [ha]) ?_
  rw [lg_entry_eq]
  generalize (lg_sl ([.ref (ad 8), .int (nI j)]) ++ List.replicate (3 - (lg_sl ([.ref (ad 8), .int (nI j)])).length) Slot.unset).toArray = ls at hl ⊢
  have hl : lv_has ls 3 [(0, .ref (ad 8)), (1, .int (nI j))] := hl
  refine lv_iconst (v := nI 0) hx hb dX2_hasPlacedMate_0 (by decide) ?_
  refine lv_istore_n (lv' := [(2, .int (nI 0)), (0, .ref (ad 8)), (1, .int (nI j))]) hx hb dX2_hasPlacedMate_1 rfl hl (by decide) rfl (fun ls hl => ?_)
  exact lp 42 0 (by omega) (by omega) rfl _ (lv_sub hl [1, 2, 0] rfl)
