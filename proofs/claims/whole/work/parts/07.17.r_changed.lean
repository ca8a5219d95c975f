set_option maxHeartbeats 4000000 in
set_option maxRecDepth 100000 in
theorem r_changed {l : Launch} {D : va_G} {ad : Nat → Nat} {cJ cI cZ : ClassId} {bm : gBM} {pa : gPA} {p0 p1 p2 : gPL} {li : gLI} {wi : gWI} (hoA : q_okA pa) (hoL : q_okL p0) (hoL1 : q_okL p1) {x : Int32} : bm_Rd l yX4_countChanged wsX4_countChanged ({ frames := 1, cells := 0, slots := 0, locals := 22 }) D vwCl [(cJ, .long), (cI, .int), (cZ, .boolean)] (Wd ad cJ cI cZ bm pa p0 p1 p2 li wi) [.ref (ad 0), .int x] (.int (nI (q_count (q_changed p0 p1 x) pa.2.2.2.2.2.2))) := by
  obtain ⟨hn, hsd, hlw⟩ := hoA
  refine Met.ofW (cc := cX4_countChanged) (maxL := 4) (ret := (some .int)) (by decide) rfl ?_
  intro p e s m args below meth c s₁ B hml hv
  obtain ⟨ha, hP, hK⟩ := hv
  have hx := B.exec
  have hb := B.bytes
  have hr := B.returns
  have hts := atoms_spec (ws := wsX4_countChanged) B.pre
  have hown : s.vm.findClass RX4 = some m.cls := findClass_of_methodNamed B.named
  have hlocks := B.notSynchronized
  have lp : ∀ (k : Nat) (i : Nat), i ≤ pa.2.2.2.2.2.2 → pa.2.2.2.2.2.2 < i + k → ∀ (ls : Array Slot), lv_has ls 4 [(0, .ref (ad 0)), (1, .int x), (2, .int (nI (q_count (q_changed p0 p1 x) i))), (3, .int (nI i))] → W p l e (headSpec wsX4_countChanged ({ frames := 1, cells := 0, slots := 0, locals := 22 })).room s m args below meth c s.heap [] 0 0 (MQ below (k2_QcV (.int (nI (q_count (q_changed p0 p1 x) pa.2.2.2.2.2.2)))) args s 0 0 (fun _ => False)) (F0 m 4 ls []) := by
    intro k
    induction k with
    | zero => intro i hi hk; exfalso; omega
    | succ k ih =>
      intro i hi hk ls hl
      refine lv_iload_n hx hb dX4_countChanged_4 rfl (lv_at hl 3 rfl) ?_
      refine lv_aload_n hx hb dX4_countChanged_5 rfl (lv_at hl 0 rfl) ?_
      refine va_get (D := D) (ci := 4) (v := .ref (ad 1)) (C := RX4) (T := TX4) (N := 10) hx hb hts (inT inX4) hown hK hP 0 rfl rfl 2 (by decide) (hts (.fieldLink RX4 12 "BoardMoves" "parts" "LBoardMoves$Parts;") (by decide +kernel)) (fun _ h9 => h9) rfl dX4_countChanged_6 ?_
      refine va_get (D := D) (ci := 1) (v := .int (nI pa.2.2.2.2.2.2)) (C := RX1) (T := TX1) (N := 7) hx hb hts (inT inX1) hown hK hP 1 rfl rfl 6 (by decide) (hts (.fieldLink RX4 197 "BoardMoves$Parts" "count" "I") (by decide +kernel)) (fun _ h9 => h9) rfl dX4_countChanged_9 ?_
      refine bm_ni_ge (x := i) (y := pa.2.2.2.2.2.2) (tgt := 44) hx hb (by omega) (by omega) dX4_countChanged_12 (by decide) (fun c_1 => ?_) (fun c_1 => ?_)
      · refine lv_iload_n hx hb dX4_countChanged_44 rfl (lv_at hl 2 rfl) ?_
        exact bm_iretR (v := (nI (q_count (q_changed p0 p1 x) i))) hx hb hr (by rw [show i = pa.2.2.2.2.2.2 from by omega]) dX4_countChanged_45 hlocks
      · refine lv_iload_n hx hb dX4_countChanged_15 rfl (lv_at hl 3 rfl) ?_
        refine lv_iload_n hx hb dX4_countChanged_16 rfl (lv_at hl 1 rfl) ?_
        refine lv_icmp_eq (x := (nI i)) (y := x) (tgt := 38) hx hb dX4_countChanged_17 (by decide) (fun c_2 => ?_) (fun c_2 => ?_)
        · refine lv_iinc (v := (nI (i + 1))) (lv' := [(3, .int (nI (i + 1))), (0, .ref (ad 0)), (1, .int x), (2, .int (nI (q_count (q_changed p0 p1 x) i)))]) hx hb dX4_countChanged_38 hl (k := 3) rfl (nI_1 i) (by decide) rfl (fun ls hl => ?_)
          refine lv_goto (tgt := 4) hx hb dX4_countChanged_41 (by decide) ?_
          rw [show q_count (q_changed p0 p1 x) i = q_count (q_changed p0 p1 x) (i + 1) from by simp [q_count, q_changed, c_2]] at hl
          exact ih (i + 1) (by omega) (by omega) _ (lv_sub hl [1, 2, 3, 0] rfl)
        · refine lv_aload_n hx hb dX4_countChanged_20 rfl (lv_at hl 0 rfl) ?_
          refine va_get (D := D) (ci := 4) (v := .ref (ad 8)) (C := RX4) (T := TX4) (N := 10) hx hb hts (inT inX4) hown hK hP 0 rfl rfl 5 (by decide) (hts (.fieldLink RX4 37 "BoardMoves" "now" "LBoardMoves$Placement;") (by decide +kernel)) (fun _ h9 => h9) rfl dX4_countChanged_21 ?_
          refine lv_aload_n hx hb dX4_countChanged_24 rfl (lv_at hl 0 rfl) ?_
          refine va_get (D := D) (ci := 4) (v := .ref (ad 13)) (C := RX4) (T := TX4) (N := 10) hx hb hts (inT inX4) hown hK hP 0 rfl rfl 6 (by decide) (hts (.fieldLink RX4 41 "BoardMoves" "before" "LBoardMoves$Placement;") (by decide +kernel)) (fun _ h9 => h9) rfl dX4_countChanged_25 ?_
          refine lv_iload_n hx hb dX4_countChanged_28 rfl (lv_at hl 3 rfl) ?_
          refine bm_rcallV (As := [.ref (ad 13), .int (nI i)]) (rest := []) ⟨hx, hb, hml, hown, hts⟩ (r_differs (j := i) hoL hoL1 (by omega)) (cwV 2 hts (gdV (by decide +kernel) (by decide +kernel) (by decide +kernel) (by decide +kernel) (by decide +kernel)) rfl rfl rfl (by decide +kernel) ⟨Nat.le_of_ble_eq_true rfl, Nat.le_of_ble_eq_true rfl⟩) hK hP 8 2 rfl rfl rfl hl.1 rfl (Nat.le_of_ble_eq_true rfl) dX4_countChanged_29 ⟨Nat.le_of_ble_eq_true rfl, Nat.le_of_ble_eq_true rfl⟩ ?_
          refine bm_zb_eq (x := (q_differs p0 p1 i)) (tgt := 38) hx hb dX4_countChanged_32 (by decide) (fun c_3 => ?_) (fun c_3 => ?_)
          · refine lv_iinc (v := (nI (i + 1))) (lv' := [(3, .int (nI (i + 1))), (0, .ref (ad 0)), (1, .int x), (2, .int (nI (q_count (q_changed p0 p1 x) i)))]) hx hb dX4_countChanged_38 hl (k := 3) rfl (nI_1 i) (by decide) rfl (fun ls hl => ?_)
            refine lv_goto (tgt := 4) hx hb dX4_countChanged_41 (by decide) ?_
            rw [show q_count (q_changed p0 p1 x) i = q_count (q_changed p0 p1 x) (i + 1) from by simp [q_count, q_changed, c_2, c_3]] at hl
            exact ih (i + 1) (by omega) (by omega) _ (lv_sub hl [1, 2, 3, 0] rfl)
          · refine lv_iinc (v := (nI ((q_count (q_changed p0 p1 x) i) + 1))) (lv' := [(2, .int (nI ((q_count (q_changed p0 p1 x) i) + 1))), (0, .ref (ad 0)), (1, .int x), (3, .int (nI i))]) hx hb dX4_countChanged_35 hl (k := 2) rfl (nI_1 (q_count (q_changed p0 p1 x) i)) (by decide) rfl (fun ls hl => ?_)
            refine lv_iinc (v := (nI (i + 1))) (lv' := [(3, .int (nI (i + 1))), (2, .int (nI ((q_count (q_changed p0 p1 x) i) + 1))), (0, .ref (ad 0)), (1, .int x)]) hx hb dX4_countChanged_38 hl (k := 3) rfl (nI_1 i) (by decide) rfl (fun ls hl => ?_)
            refine lv_goto (tgt := 4) hx hb dX4_countChanged_41 (by decide) ?_
            rw [show (q_count (q_changed p0 p1 x) i) + 1 = q_count (q_changed p0 p1 x) (i + 1) from by simp [q_count, q_changed, c_2, c_3]] at hl
            exact ih (i + 1) (by omega) (by omega) _ (lv_sub hl [2, 3, 1, 0] rfl)
  have hl := lv_entry ([.ref (ad 0), .int x]) (n := 4) (Nat.le_of_ble_eq_true rfl)
  refine W.eq (g2 := entryFrame m ([.ref (ad 0), .int x] : List Value).toArray 4) (by rw [ha]) ?_
  rw [lg_entry_eq]
  generalize (lg_sl ([.ref (ad 0), .int x]) ++ List.replicate (4 - (lg_sl ([.ref (ad 0), .int x])).length) Slot.unset).toArray = ls at hl ⊢
  have hl : lv_has ls 4 [(0, .ref (ad 0)), (1, .int x)] := hl
  refine lv_iconst (v := nI 0) hx hb dX4_countChanged_0 (by decide) ?_
  refine lv_istore_n (lv' := [(2, .int (nI 0)), (0, .ref (ad 0)), (1, .int x)]) hx hb dX4_countChanged_1 rfl hl (by decide) rfl (fun ls hl => ?_)
  refine lv_iconst (v := nI 0) hx hb dX4_countChanged_2 (by decide) ?_
  refine lv_istore_n (lv' := [(3, .int (nI 0)), (2, .int (nI 0)), (0, .ref (ad 0)), (1, .int x)]) hx hb dX4_countChanged_3 rfl hl (by decide) rfl (fun ls hl => ?_)
  exact lp (pa.2.2.2.2.2.2 + 1) 0 (by omega) (by omega) _ (lv_sub hl [2, 3, 1, 0] rfl)
