set_option maxHeartbeats 4000000 in
set_option maxRecDepth 100000 in
theorem w_keep {l : Launch} {D : va_G} {ad : Nat → Nat} {cJ cI cZ : ClassId} {bm : gBM} {pa : gPA} {p0 p1 p2 : gPL} {li : gLI} {wi : gWI} (hoA : q_okA pa) (hoL : q_okL p0) (hoL1 : q_okL p1) (hoI : q_okI li) (hoW : q_okW wi) {more : Int64} : bm_Wr l yX4_keepChange wsX4_keepChange ({ frames := 4, cells := 0, slots := 0, locals := 98 }) D vwCl [(cJ, .long), (cI, .int), (cZ, .boolean)] (Wd ad cJ cI cZ bm pa p0 p1 p2 li wi) [.ref (ad 0), .long more] (Wd ad cJ cI cZ (q_keepB bm pa p0 p1 li wi more) pa (q_keepP bm pa p0 p1 li wi more) p1 p2 li (q_keepW bm pa p0 p1 li wi)) (some (.int (bm_b (q_keep bm pa p0 p1 li wi more)))) := by
  obtain ⟨hn, hsd, hlw⟩ := hoA
  intro sz
  refine Met.ofW (cc := cX4_keepChange) (maxL := 5) (ret := (some .boolean)) (by decide) rfl ?_
  intro p e s m args below meth c s₁ B hml hv
  obtain ⟨ha, hsz, hP, hK, hD0⟩ := hv
  have hx := B.exec
  have hb := B.bytes
  have hr := B.returns
  have hts := atoms_spec (ws := wsX4_keepChange) B.pre
  have hown : s.vm.findClass RX4 = some m.cls := findClass_of_methodNamed B.named
  have hlocks := B.notSynchronized
  subst hsz
  have hD := hD0.self (sz := s.heap.size)
  generalize hAe : va_A (Wd ad cJ cI cZ bm pa p0 p1 p2 li wi) s.heap.size = A at hD ⊢
  have hA : ∀ q : Nat, s.heap.size ≤ q → A q := fun q h => by rw [← hAe]; exact Or.inr h
  have hS : va_S A s.heap s.heap [] := va_S.rf
  have lp : ∀ (k : Nat) (i : Nat), i ≤ 40 → 41 < i + k → q_find (q_bad bm pa p0 p1 li) (pa.2.2.2.2.2.2 - i) i = q_bads bm pa p0 p1 li → ∀ (H : Heap) (locs : List Loc), va_P D vwCl (Wd ad cJ cI cZ bm pa p0 p1 p2 li wi) H → va_D A (Wd ad cJ cI cZ bm pa p0 p1 p2 li wi) → va_S A s.heap H locs → ∀ (ls : Array Slot), lv_has ls 5 [(0, .ref (ad 0)), (1, .long more), (3, .int (nI i))] → W p l e (headSpec wsX4_keepChange ({ frames := 4, cells := 0, slots := 0, locals := 98 })).room s m args below meth c H locs 0 0 (MQ below (bm_Wq D vwCl [(cJ, .long), (cI, .int), (cZ, .boolean)] (Wd ad cJ cI cZ (q_keepB bm pa p0 p1 li wi more) pa (q_keepP bm pa p0 p1 li wi more) p1 p2 li (q_keepW bm pa p0 p1 li wi)) (some (.int (bm_b (q_keep bm pa p0 p1 li wi more)))) A) args s 0 0 A) (F0 m 2 ls []) := by
    intro k
    induction k with
    | zero => intro i hi hk he; exfalso; omega
    | succ k ih =>
      intro i hi hk he H locs hP hD hS ls hl
      refine lv_iload_n hx hb dX4_keepChange_2 rfl (lv_at hl 2 rfl) ?_
      refine lv_aload_n hx hb dX4_keepChange_3 rfl (lv_at hl 0 rfl) ?_
      refine va_get (D := D) (ci := 4) (v := .ref (ad 1)) (C := RX4) (T := TX4) (N := 10) hx hb hts (inT inX4) hown hK hP 0 rfl rfl 2 (by decide) (hts (.fieldLink RX4 12 "BoardMoves" "parts" "LBoardMoves$Parts;") (by decide +kernel)) (fun _ h9 => h9) rfl dX4_keepChange_4 ?_
      refine va_get (D := D) (ci := 1) (v := .int (nI pa.2.2.2.2.2.2)) (C := RX1) (T := TX1) (N := 7) hx hb hts (inT inX1) hown hK hP 1 rfl rfl 6 (by decide) (hts (.fieldLink RX4 197 "BoardMoves$Parts" "count" "I") (by decide +kernel)) (fun _ h9 => h9) rfl dX4_keepChange_7 ?_
      refine bm_ni_ge (x := i) (y := pa.2.2.2.2.2.2) (tgt := 83) hx hb (by omega) (by omega) dX4_keepChange_10 (by decide) (fun c_1 => ?_) (fun c_1 => ?_)
      · refine lv_aload_n hx hb dX4_keepChange_83 rfl (lv_at hl 0 rfl) ?_
        refine va_get (D := D) (ci := 4) (v := .ref (ad 32)) (C := RX4) (T := TX4) (N := 10) hx hb hts (inT inX4) hown hK hP 0 rfl rfl 4 (by decide) (hts (.fieldLink RX4 30 "BoardMoves" "wiring" "LBoardMoves$Wiring;") (by decide +kernel)) (fun _ h9 => h9) rfl dX4_keepChange_84 ?_
        refine lv_aload_n hx hb dX4_keepChange_87 rfl (lv_at hl 0 rfl) ?_
        refine va_get (D := D) (ci := 4) (v := .ref (ad 8)) (C := RX4) (T := TX4) (N := 10) hx hb hts (inT inX4) hown hK hP 0 rfl rfl 5 (by decide) (hts (.fieldLink RX4 37 "BoardMoves" "now" "LBoardMoves$Placement;") (by decide +kernel)) (fun _ h9 => h9) rfl dX4_keepChange_88 ?_
        refine bm_wcallV (As := [.ref (ad 8)]) (rest := []) ⟨hx, hb, hml, hown, hts⟩ (w_meas hoL hoW) (cwV 1 hts (gdV (by decide +kernel) (by decide +kernel) (by decide +kernel) (by decide +kernel) (by decide +kernel)) rfl rfl rfl (by decide +kernel) ⟨Nat.le_of_ble_eq_true rfl, Nat.le_of_ble_eq_true rfl⟩) hK hP hD hS hA 32 3 rfl rfl rfl hl.1 rfl (Nat.le_of_ble_eq_true rfl) dX4_keepChange_91 ⟨Nat.le_of_ble_eq_true rfl, Nat.le_of_ble_eq_true rfl⟩ (fun H locs hP hD hS => ?_)
        have hP : va_P D vwCl (Wd ad cJ cI cZ bm pa p0 p1 p2 li (q_measW pa p0 wi)) H := hP
        have hD : va_D A (Wd ad cJ cI cZ bm pa p0 p1 p2 li (q_measW pa p0 wi)) := hD
        refine lv_lstore_n (lv' := [(3, .long (q_meas pa p0 wi)), (0, .ref (ad 0)), (1, .long more)]) hx hb dX4_keepChange_94 rfl hl (by decide) rfl (fun ls hl => ?_)
        refine lv_lload_n hx hb dX4_keepChange_95 rfl (lv_at hl 0 rfl) ?_
        refine lv_aload_n hx hb dX4_keepChange_96 rfl (lv_at hl 1 rfl) ?_
        refine va_get (D := D) (ci := 4) (v := .long bm.2.2.2) (C := RX4) (T := TX4) (N := 10) hx hb hts (inT inX4) hown hK hP 0 rfl rfl 9 (by decide) (hts (.fieldLink RX4 47 "BoardMoves" "keptWire" "J") (by decide +kernel)) (fun _ h9 => h9) rfl dX4_keepChange_97 ?_
        refine lv_lsub hx hb dX4_keepChange_100 ?_
        refine lv_lload_n hx hb dX4_keepChange_101 rfl (lv_at hl 2 rfl) ?_
        refine bm_lc_le (x := ((q_meas pa p0 wi) - bm.2.2.2)) (y := more) (tgt := 111) hx hb dX4_keepChange_102 dX4_keepChange_103 (by decide) (fun c_2 => ?_) (fun c_2 => ?_)
        · refine lv_aload_n hx hb dX4_keepChange_111 rfl (lv_at hl 1 rfl) ?_
          refine lv_lload_n hx hb dX4_keepChange_112 rfl (lv_at hl 0 rfl) ?_
          refine va_put (D := D) (ci := 4) (v := .long (q_meas pa p0 wi)) (ty := .long) (C := RX4) (T := TX4) (N := 10) hx hb hts (inT inX4) tyX4 tyX4_ok nmX4 hown hK hP hD hS 0 rfl rfl 9 (by decide) (hts (.fieldLink RX4 47 "BoardMoves" "keptWire" "J") (by decide +kernel)) (fun _ h9 => h9) rfl (by decide +kernel) rfl rfl (Nat.le_of_ble_eq_true rfl) dX4_keepChange_113 (fun H locs hP hD hS => ?_)
          have hP : va_P D vwCl (Wd ad cJ cI cZ (bm.1, bm.2.1, bm.2.2.1, q_meas pa p0 wi) pa p0 p1 p2 li (q_measW pa p0 wi)) H := hP
          have hD : va_D A (Wd ad cJ cI cZ (bm.1, bm.2.1, bm.2.2.1, q_meas pa p0 wi) pa p0 p1 p2 li (q_measW pa p0 wi)) := hD
          refine lv_iconst (v := bm_b true) hx hb dX4_keepChange_116 (by decide) ?_
          exact bm_zretW (v := true) hx hb hr hP hD hK hS ⟨by
              have hf : q_bads bm pa p0 p1 li = none := by rw [← he]; exact q_find_end (by assumption)
              simp [q_keep, hf, c_2], by
              have hf : q_bads bm pa p0 p1 li = none := by rw [← he]; exact q_find_end (by assumption)
              simp [q_keepP, q_keepW, q_keepB, q_keep, hf, c_2]⟩ dX4_keepChange_117 hlocks
        · refine lv_aload_n hx hb dX4_keepChange_106 rfl (lv_at hl 1 rfl) ?_
          refine bm_wcallV (As := []) (rest := []) ⟨hx, hb, hml, hown, hts⟩ (w_back ⟨hn, hsd, hlw⟩) (cwV 0 hts (gdV (by decide +kernel) (by decide +kernel) (by decide +kernel) (by decide +kernel) (by decide +kernel)) rfl rfl rfl (by decide +kernel) ⟨Nat.le_of_ble_eq_true rfl, Nat.le_of_ble_eq_true rfl⟩) hK hP hD hS hA 0 4 rfl rfl rfl hl.1 rfl (Nat.le_of_ble_eq_true rfl) dX4_keepChange_107 ⟨Nat.le_of_ble_eq_true rfl, Nat.le_of_ble_eq_true rfl⟩ (fun H locs hP hD hS => ?_)
          have hP : va_P D vwCl (Wd ad cJ cI cZ bm pa (q_copyU p1 p0 pa.2.2.2.2.2.2) p1 p2 li (q_measW pa p0 wi)) H := hP
          have hD : va_D A (Wd ad cJ cI cZ bm pa (q_copyU p1 p0 pa.2.2.2.2.2.2) p1 p2 li (q_measW pa p0 wi)) := hD
          exact bm_zretW (v := false) hx hb hr hP hD hK hS ⟨by
              have hf : q_bads bm pa p0 p1 li = none := by rw [← he]; exact q_find_end (by assumption)
              simp [q_keep, hf, c_2], by
              have hf : q_bads bm pa p0 p1 li = none := by rw [← he]; exact q_find_end (by assumption)
              simp [q_keepP, q_keepW, q_keepB, q_keep, hf, c_2]⟩ dX4_keepChange_110 hlocks
      · refine lv_aload_n hx hb dX4_keepChange_13 rfl (lv_at hl 0 rfl) ?_
        refine va_get (D := D) (ci := 4) (v := .ref (ad 8)) (C := RX4) (T := TX4) (N := 10) hx hb hts (inT inX4) hown hK hP 0 rfl rfl 5 (by decide) (hts (.fieldLink RX4 37 "BoardMoves" "now" "LBoardMoves$Placement;") (by decide +kernel)) (fun _ h9 => h9) rfl dX4_keepChange_14 ?_
        refine lv_aload_n hx hb dX4_keepChange_17 rfl (lv_at hl 0 rfl) ?_
        refine va_get (D := D) (ci := 4) (v := .ref (ad 13)) (C := RX4) (T := TX4) (N := 10) hx hb hts (inT inX4) hown hK hP 0 rfl rfl 6 (by decide) (hts (.fieldLink RX4 41 "BoardMoves" "before" "LBoardMoves$Placement;") (by decide +kernel)) (fun _ h9 => h9) rfl dX4_keepChange_18 ?_
        refine lv_iload_n hx hb dX4_keepChange_21 rfl (lv_at hl 2 rfl) ?_
        refine bm_rcallV (As := [.ref (ad 13), .int (nI i)]) (rest := []) ⟨hx, hb, hml, hown, hts⟩ (r_differs (j := i) hoL hoL1 (by omega)) (cwV 2 hts (gdV (by decide +kernel) (by decide +kernel) (by decide +kernel) (by decide +kernel) (by decide +kernel)) rfl rfl rfl (by decide +kernel) ⟨Nat.le_of_ble_eq_true rfl, Nat.le_of_ble_eq_true rfl⟩) hK hP 8 2 rfl rfl rfl hl.1 rfl (Nat.le_of_ble_eq_true rfl) dX4_keepChange_22 ⟨Nat.le_of_ble_eq_true rfl, Nat.le_of_ble_eq_true rfl⟩ ?_
        refine bm_zb_eq (x := (q_differs p0 p1 i)) (tgt := 77) hx hb dX4_keepChange_25 (by decide) (fun c_3 => ?_) (fun c_3 => ?_)
        · refine lv_iinc (v := (nI (i + 1))) (lv' := [(3, .int (nI (i + 1))), (0, .ref (ad 0)), (1, .long more)]) hx hb dX4_keepChange_77 hl (k := 2) rfl (nI_1 i) (by decide) rfl (fun ls hl => ?_)
          refine lv_goto (tgt := 2) hx hb dX4_keepChange_80 (by decide) ?_
          exact ih (i + 1) (by omega) (by omega) (by rw [← he]; exact q_find_go (by assumption) (by simp [q_bad, c_3])) _ _ hP hD hS _ (lv_sub hl [1, 2, 0] rfl)
        · refine lv_aload_n hx hb dX4_keepChange_28 rfl (lv_at hl 0 rfl) ?_
          refine va_get (D := D) (ci := 4) (v := .ref (ad 1)) (C := RX4) (T := TX4) (N := 10) hx hb hts (inT inX4) hown hK hP 0 rfl rfl 2 (by decide) (hts (.fieldLink RX4 12 "BoardMoves" "parts" "LBoardMoves$Parts;") (by decide +kernel)) (fun _ h9 => h9) rfl dX4_keepChange_29 ?_
          refine va_get (D := D) (ci := 1) (v := .ref (ad 6)) (C := RX1) (T := TX1) (N := 7) hx hb hts (inT inX1) hown hK hP 1 rfl rfl 4 (by decide) (hts (.fieldLink RX4 132 "BoardMoves$Parts" "locked" "[Z") (by decide +kernel)) (fun _ h9 => h9) rfl dX4_keepChange_32 ?_
          refine lv_iload_n hx hb dX4_keepChange_35 rfl (lv_at hl 2 rfl) ?_
          refine bm_zald (f := pa.2.2.2.2.1) hx hb hK hP 6 2 rfl rfl (j := i) (by omega) (by decide) dX4_keepChange_36 ?_
          refine bm_zb_eq (x := (pa.2.2.2.2.1 i)) (tgt := 56) hx hb dX4_keepChange_37 (by decide) (fun c_4 => ?_) (fun c_4 => ?_)
          · refine lv_iconst (v := bm_b false) hx hb dX4_keepChange_56 (by decide) ?_
            refine lv_istore (lv' := [(4, .int (bm_b false)), (0, .ref (ad 0)), (1, .long more), (3, .int (nI i))]) hx hb dX4_keepChange_57 hl (by decide) rfl (fun ls hl => ?_)
            refine lv_iload hx hb dX4_keepChange_59 (lv_at hl 0 rfl) ?_
            refine bm_zb_ne (x := false) (tgt := 72) hx hb dX4_keepChange_61 (by decide) (fun c_5 => ?_) (fun c_5 => ?_)
            · exact absurd c_5 (by decide)
            · refine lv_aload_n hx hb dX4_keepChange_64 rfl (lv_at hl 1 rfl) ?_
              refine lv_iload_n hx hb dX4_keepChange_65 rfl (lv_at hl 3 rfl) ?_
              refine bm_rcallV (As := [.int (nI i)]) (rest := []) ⟨hx, hb, hml, hown, hts⟩ (r_well (j := i) ⟨hn, hsd, hlw⟩ hoL hoI (by omega)) (cwV 1 hts (gdV (by decide +kernel) (by decide +kernel) (by decide +kernel) (by decide +kernel) (by decide +kernel)) rfl rfl rfl (by decide +kernel) ⟨Nat.le_of_ble_eq_true rfl, Nat.le_of_ble_eq_true rfl⟩) hK hP 0 4 rfl rfl rfl hl.1 rfl (Nat.le_of_ble_eq_true rfl) dX4_keepChange_66 ⟨Nat.le_of_ble_eq_true rfl, Nat.le_of_ble_eq_true rfl⟩ ?_
              refine bm_zb_ne (x := (q_well bm pa p0 li i)) (tgt := 77) hx hb dX4_keepChange_69 (by decide) (fun c_6 => ?_) (fun c_6 => ?_)
              · refine lv_iinc (v := (nI (i + 1))) (lv' := [(3, .int (nI (i + 1))), (4, .int (bm_b false)), (0, .ref (ad 0)), (1, .long more)]) hx hb dX4_keepChange_77 hl (k := 3) rfl (nI_1 i) (by decide) rfl (fun ls hl => ?_)
                refine lv_goto (tgt := 2) hx hb dX4_keepChange_80 (by decide) ?_
                exact ih (i + 1) (by omega) (by omega) (by rw [← he]; exact q_find_go (by assumption) (by simp [q_bad, c_3, c_4, c_6])) _ _ hP hD hS _ (lv_sub hl [2, 3, 0] rfl)
              · refine lv_aload_n hx hb dX4_keepChange_72 rfl (lv_at hl 1 rfl) ?_
                refine bm_wcallV (As := []) (rest := []) ⟨hx, hb, hml, hown, hts⟩ (w_back ⟨hn, hsd, hlw⟩) (cwV 0 hts (gdV (by decide +kernel) (by decide +kernel) (by decide +kernel) (by decide +kernel) (by decide +kernel)) rfl rfl rfl (by decide +kernel) ⟨Nat.le_of_ble_eq_true rfl, Nat.le_of_ble_eq_true rfl⟩) hK hP hD hS hA 0 4 rfl rfl rfl hl.1 rfl (Nat.le_of_ble_eq_true rfl) dX4_keepChange_73 ⟨Nat.le_of_ble_eq_true rfl, Nat.le_of_ble_eq_true rfl⟩ (fun H locs hP hD hS => ?_)
                have hP : va_P D vwCl (Wd ad cJ cI cZ bm pa (q_copyU p1 p0 pa.2.2.2.2.2.2) p1 p2 li wi) H := hP
                have hD : va_D A (Wd ad cJ cI cZ bm pa (q_copyU p1 p0 pa.2.2.2.2.2.2) p1 p2 li wi) := hD
                exact bm_zretW (v := false) hx hb hr hP hD hK hS ⟨by
                    have hf : q_bads bm pa p0 p1 li = some i := by rw [← he]; exact q_find_hit (by assumption) (by simp [q_bad, c_3, c_4, c_6])
                    simp [q_keep, hf], by
                    have hf : q_bads bm pa p0 p1 li = some i := by rw [← he]; exact q_find_hit (by assumption) (by simp [q_bad, c_3, c_4, c_6])
                    simp [q_keepP, q_keepW, q_keepB, q_keep, hf]⟩ dX4_keepChange_76 hlocks
          · refine lv_aload_n hx hb dX4_keepChange_40 rfl (lv_at hl 0 rfl) ?_
            refine va_get (D := D) (ci := 4) (v := .ref (ad 13)) (C := RX4) (T := TX4) (N := 10) hx hb hts (inT inX4) hown hK hP 0 rfl rfl 6 (by decide) (hts (.fieldLink RX4 41 "BoardMoves" "before" "LBoardMoves$Placement;") (by decide +kernel)) (fun _ h9 => h9) rfl dX4_keepChange_41 ?_
            refine va_get (D := D) (ci := 2) (v := .ref (ad 17)) (C := RX2) (T := TX2) (N := 5) hx hb hts (inT inX2) hown hK hP 13 rfl rfl 4 (by decide) (hts (.fieldLink RX4 96 "BoardMoves$Placement" "placed" "[Z") (by decide +kernel)) (fun _ h9 => h9) rfl dX4_keepChange_44 ?_
            refine lv_iload_n hx hb dX4_keepChange_47 rfl (lv_at hl 2 rfl) ?_
            refine bm_zald (f := p1.2.2.2) hx hb hK hP 17 2 rfl rfl (j := i) (by omega) (by decide) dX4_keepChange_48 ?_
            refine bm_zb_eq (x := (p1.2.2.2 i)) (tgt := 56) hx hb dX4_keepChange_49 (by decide) (fun c_7 => ?_) (fun c_7 => ?_)
            · refine lv_iconst (v := bm_b false) hx hb dX4_keepChange_56 (by decide) ?_
              refine lv_istore (lv' := [(4, .int (bm_b false)), (0, .ref (ad 0)), (1, .long more), (3, .int (nI i))]) hx hb dX4_keepChange_57 hl (by decide) rfl (fun ls hl => ?_)
              refine lv_iload hx hb dX4_keepChange_59 (lv_at hl 0 rfl) ?_
              refine bm_zb_ne (x := false) (tgt := 72) hx hb dX4_keepChange_61 (by decide) (fun c_8 => ?_) (fun c_8 => ?_)
              · exact absurd c_8 (by decide)
              · refine lv_aload_n hx hb dX4_keepChange_64 rfl (lv_at hl 1 rfl) ?_
                refine lv_iload_n hx hb dX4_keepChange_65 rfl (lv_at hl 3 rfl) ?_
                refine bm_rcallV (As := [.int (nI i)]) (rest := []) ⟨hx, hb, hml, hown, hts⟩ (r_well (j := i) ⟨hn, hsd, hlw⟩ hoL hoI (by omega)) (cwV 1 hts (gdV (by decide +kernel) (by decide +kernel) (by decide +kernel) (by decide +kernel) (by decide +kernel)) rfl rfl rfl (by decide +kernel) ⟨Nat.le_of_ble_eq_true rfl, Nat.le_of_ble_eq_true rfl⟩) hK hP 0 4 rfl rfl rfl hl.1 rfl (Nat.le_of_ble_eq_true rfl) dX4_keepChange_66 ⟨Nat.le_of_ble_eq_true rfl, Nat.le_of_ble_eq_true rfl⟩ ?_
                refine bm_zb_ne (x := (q_well bm pa p0 li i)) (tgt := 77) hx hb dX4_keepChange_69 (by decide) (fun c_9 => ?_) (fun c_9 => ?_)
                · refine lv_iinc (v := (nI (i + 1))) (lv' := [(3, .int (nI (i + 1))), (4, .int (bm_b false)), (0, .ref (ad 0)), (1, .long more)]) hx hb dX4_keepChange_77 hl (k := 3) rfl (nI_1 i) (by decide) rfl (fun ls hl => ?_)
                  refine lv_goto (tgt := 2) hx hb dX4_keepChange_80 (by decide) ?_
                  exact ih (i + 1) (by omega) (by omega) (by rw [← he]; exact q_find_go (by assumption) (by simp [q_bad, c_3, c_4, c_7, c_9])) _ _ hP hD hS _ (lv_sub hl [2, 3, 0] rfl)
                · refine lv_aload_n hx hb dX4_keepChange_72 rfl (lv_at hl 1 rfl) ?_
                  refine bm_wcallV (As := []) (rest := []) ⟨hx, hb, hml, hown, hts⟩ (w_back ⟨hn, hsd, hlw⟩) (cwV 0 hts (gdV (by decide +kernel) (by decide +kernel) (by decide +kernel) (by decide +kernel) (by decide +kernel)) rfl rfl rfl (by decide +kernel) ⟨Nat.le_of_ble_eq_true rfl, Nat.le_of_ble_eq_true rfl⟩) hK hP hD hS hA 0 4 rfl rfl rfl hl.1 rfl (Nat.le_of_ble_eq_true rfl) dX4_keepChange_73 ⟨Nat.le_of_ble_eq_true rfl, Nat.le_of_ble_eq_true rfl⟩ (fun H locs hP hD hS => ?_)
                  have hP : va_P D vwCl (Wd ad cJ cI cZ bm pa (q_copyU p1 p0 pa.2.2.2.2.2.2) p1 p2 li wi) H := hP
                  have hD : va_D A (Wd ad cJ cI cZ bm pa (q_copyU p1 p0 pa.2.2.2.2.2.2) p1 p2 li wi) := hD
                  exact bm_zretW (v := false) hx hb hr hP hD hK hS ⟨by
                      have hf : q_bads bm pa p0 p1 li = some i := by rw [← he]; exact q_find_hit (by assumption) (by simp [q_bad, c_3, c_4, c_7, c_9])
                      simp [q_keep, hf], by
                      have hf : q_bads bm pa p0 p1 li = some i := by rw [← he]; exact q_find_hit (by assumption) (by simp [q_bad, c_3, c_4, c_7, c_9])
                      simp [q_keepP, q_keepW, q_keepB, q_keep, hf]⟩ dX4_keepChange_76 hlocks
            · refine lv_iconst (v := bm_b true) hx hb dX4_keepChange_52 (by decide) ?_
              refine lv_goto (tgt := 57) hx hb dX4_keepChange_53 (by decide) ?_
              refine lv_istore (lv' := [(4, .int (bm_b true)), (0, .ref (ad 0)), (1, .long more), (3, .int (nI i))]) hx hb dX4_keepChange_57 hl (by decide) rfl (fun ls hl => ?_)
              refine lv_iload hx hb dX4_keepChange_59 (lv_at hl 0 rfl) ?_
              refine bm_zb_ne (x := true) (tgt := 72) hx hb dX4_keepChange_61 (by decide) (fun c_10 => ?_) (fun c_10 => ?_)
              · refine lv_aload_n hx hb dX4_keepChange_72 rfl (lv_at hl 1 rfl) ?_
                refine bm_wcallV (As := []) (rest := []) ⟨hx, hb, hml, hown, hts⟩ (w_back ⟨hn, hsd, hlw⟩) (cwV 0 hts (gdV (by decide +kernel) (by decide +kernel) (by decide +kernel) (by decide +kernel) (by decide +kernel)) rfl rfl rfl (by decide +kernel) ⟨Nat.le_of_ble_eq_true rfl, Nat.le_of_ble_eq_true rfl⟩) hK hP hD hS hA 0 4 rfl rfl rfl hl.1 rfl (Nat.le_of_ble_eq_true rfl) dX4_keepChange_73 ⟨Nat.le_of_ble_eq_true rfl, Nat.le_of_ble_eq_true rfl⟩ (fun H locs hP hD hS => ?_)
                have hP : va_P D vwCl (Wd ad cJ cI cZ bm pa (q_copyU p1 p0 pa.2.2.2.2.2.2) p1 p2 li wi) H := hP
                have hD : va_D A (Wd ad cJ cI cZ bm pa (q_copyU p1 p0 pa.2.2.2.2.2.2) p1 p2 li wi) := hD
                exact bm_zretW (v := false) hx hb hr hP hD hK hS ⟨by
                    have hf : q_bads bm pa p0 p1 li = some i := by rw [← he]; exact q_find_hit (by assumption) (by simp [q_bad, c_3, c_4, c_7])
                    simp [q_keep, hf], by
                    have hf : q_bads bm pa p0 p1 li = some i := by rw [← he]; exact q_find_hit (by assumption) (by simp [q_bad, c_3, c_4, c_7])
                    simp [q_keepP, q_keepW, q_keepB, q_keep, hf]⟩ dX4_keepChange_76 hlocks
              · exact absurd c_10 (by decide)
  have hl := lv_entry ([.ref (ad 0), .long more]) (n := 5) (Nat.le_of_ble_eq_true rfl)
  refine W.eq (g2 := entryFrame m ([.ref (ad 0), .long more] : List Value).toArray 5) (by rw [ha]) ?_
  rw [lg_entry_eq]
  generalize (lg_sl ([.ref (ad 0), .long more]) ++ List.replicate (5 - (lg_sl ([.ref (ad 0), .long more])).length) Slot.unset).toArray = ls at hl ⊢
  have hl : lv_has ls 5 [(0, .ref (ad 0)), (1, .long more)] := hl
  refine lv_iconst (v := nI 0) hx hb dX4_keepChange_0 (by decide) ?_
  refine lv_istore_n (lv' := [(3, .int (nI 0)), (0, .ref (ad 0)), (1, .long more)]) hx hb dX4_keepChange_1 rfl hl (by decide) rfl (fun ls hl => ?_)
  exact lp 42 0 (by omega) (by omega) rfl _ _ hP hD hS _ (lv_sub hl [1, 2, 0] rfl)
