set_option maxHeartbeats 4000000 in
set_option maxRecDepth 100000 in
theorem r_first {l : Launch} {D : va_G} {ad : Nat → Nat} {cJ cI cZ : ClassId} {bm : gBM} {pa : gPA} {p0 p1 p2 : gPL} {li : gLI} {wi : gWI} (hoA : q_okA pa) (hoL : q_okL p0) : bm_Rd l yX2_firstOverlapping wsX2_firstOverlapping ({ frames := 3, cells := 0, slots := 0, locals := 77 }) D vwCl [(cJ, .long), (cI, .int), (cZ, .boolean)] (Wd ad cJ cI cZ bm pa p0 p1 p2 li wi) [.ref (ad 8)] (.int (q_opt (q_first pa p0))) := by
  obtain ⟨hn, hsd, hlw⟩ := hoA
  refine Met.ofW (cc := cX2_firstOverlapping) (maxL := 2) (ret := (some .int)) (by decide) rfl ?_
  intro p e s m args below meth c s₁ B hml hv
  obtain ⟨ha, hP, hK⟩ := hv
  have hx := B.exec
  have hb := B.bytes
  have hr := B.returns
  have hts := atoms_spec (ws := wsX2_firstOverlapping) B.pre
  have hown : s.vm.findClass RX2 = some m.cls := findClass_of_methodNamed B.named
  have hlocks := B.notSynchronized
  have lp : ∀ (k : Nat) (i : Nat), i ≤ 40 → 40 + 1 < i + k → q_find (fun i => p0.2.2.2 i && (q_over pa p0 i (i + 1)).isSome) (pa.2.2.2.2.2.2 - i) i = q_first pa p0 → ∀ (ls : Array Slot), lv_has ls 2 [(0, .ref (ad 8)), (1, .int (nI i))] → W p l e (headSpec wsX2_firstOverlapping ({ frames := 3, cells := 0, slots := 0, locals := 77 })).room s m args below meth c s.heap [] 0 0 (MQ below (k2_QcV (.int (q_opt (q_first pa p0)))) args s 0 0 (fun _ => False)) (F0 m 2 ls []) := by
    intro k
    induction k with
    | zero => intro i hi hk he; exfalso; omega
    | succ k ih =>
      intro i hi hk he ls hl
      refine lv_iload_n hx hb dX2_firstOverlapping_2 rfl (lv_at hl 1 rfl) ?_
      refine lv_aload_n hx hb dX2_firstOverlapping_3 rfl (lv_at hl 0 rfl) ?_
      refine va_get (D := D) (ci := 2) (v := .ref (ad 1)) (C := RX2) (T := TX2) (N := 5) hx hb hts (inT inX2) hown hK hP 8 rfl rfl 0 (by decide) (hts (.fieldLink RX2 26 "BoardMoves$Placement" "parts" "LBoardMoves$Parts;") (by decide +kernel)) (fun _ h9 => h9) rfl dX2_firstOverlapping_4 ?_
      refine va_get (D := D) (ci := 1) (v := .int (nI pa.2.2.2.2.2.2)) (C := RX1) (T := TX1) (N := 7) hx hb hts (inT inX1) hown hK hP 1 rfl rfl 6 (by decide) (hts (.fieldLink RX2 30 "BoardMoves$Parts" "count" "I") (by decide +kernel)) (fun _ h9 => h9) rfl dX2_firstOverlapping_7 ?_
      refine bm_ni_ge (x := i) (y := pa.2.2.2.2.2.2) (tgt := 42) hx hb (by omega) (by omega) dX2_firstOverlapping_10 (by decide) (fun c_1 => ?_) (fun c_1 => ?_)
      · refine lv_iconst (v := -1) hx hb dX2_firstOverlapping_42 (by decide) ?_
        exact bm_iretR (v := (-1)) hx hb hr (by rw [← he, q_find_end (by assumption)]; rfl) dX2_firstOverlapping_43 hlocks
      · refine lv_aload_n hx hb dX2_firstOverlapping_13 rfl (lv_at hl 0 rfl) ?_
        refine va_get (D := D) (ci := 2) (v := .ref (ad 12)) (C := RX2) (T := TX2) (N := 5) hx hb hts (inT inX2) hown hK hP 8 rfl rfl 4 (by decide) (hts (.fieldLink RX2 22 "BoardMoves$Placement" "placed" "[Z") (by decide +kernel)) (fun _ h9 => h9) rfl dX2_firstOverlapping_14 ?_
        refine lv_iload_n hx hb dX2_firstOverlapping_17 rfl (lv_at hl 1 rfl) ?_
        refine bm_zald (f := p0.2.2.2) hx hb hK hP 12 2 rfl rfl (j := i) (by omega) (by decide) dX2_firstOverlapping_18 ?_
        refine bm_zb_eq (x := (p0.2.2.2 i)) (tgt := 36) hx hb dX2_firstOverlapping_19 (by decide) (fun c_2 => ?_) (fun c_2 => ?_)
        · refine lv_iinc (v := (nI (i + 1))) (lv' := [(1, .int (nI (i + 1))), (0, .ref (ad 8))]) hx hb dX2_firstOverlapping_36 hl (k := 1) rfl (nI_1 i) (by decide) rfl (fun ls hl => ?_)
          refine lv_goto (tgt := 2) hx hb dX2_firstOverlapping_39 (by decide) ?_
          exact ih (i + 1) (by omega) (by omega) (by rw [← he]; exact q_find_go (by assumption) (by simp [c_2]; done)) _ (lv_sub hl [1, 0] rfl)
        · refine lv_aload_n hx hb dX2_firstOverlapping_22 rfl (lv_at hl 0 rfl) ?_
          refine lv_iload_n hx hb dX2_firstOverlapping_23 rfl (lv_at hl 1 rfl) ?_
          refine lv_iload_n hx hb dX2_firstOverlapping_24 rfl (lv_at hl 1 rfl) ?_
          refine lv_iconst (v := nI 1) hx hb dX2_firstOverlapping_25 (by decide) ?_
          refine bm_nadd hx hb dX2_firstOverlapping_26 ?_
          refine bm_rcallV (As := [.int (nI i), .int (nI (i + 1))]) (rest := []) ⟨hx, hb, hml, hown, hts⟩ (r_over (j := i) (f := (i + 1)) ⟨hn, hsd, hlw⟩ hoL (by omega) (by omega)) (cwV 2 hts (gdV (by decide +kernel) (by decide +kernel) (by decide +kernel) (by decide +kernel) (by decide +kernel)) rfl rfl rfl (by decide +kernel) ⟨Nat.le_of_ble_eq_true rfl, Nat.le_of_ble_eq_true rfl⟩) hK hP 8 2 rfl rfl rfl hl.1 rfl (Nat.le_of_ble_eq_true rfl) dX2_firstOverlapping_27 ⟨Nat.le_of_ble_eq_true rfl, Nat.le_of_ble_eq_true rfl⟩ ?_
          rcases hO_4 : q_over pa p0 i (i + 1) with _ | o_3
          · refine lv_iconst (v := -1) hx hb dX2_firstOverlapping_30 (by decide) ?_
            refine lv_icmp_eq (x := (-1)) (y := -1) (tgt := 36) hx hb dX2_firstOverlapping_31 (by decide) (fun c_5 => ?_) (fun c_5 => ?_)
            · refine lv_iinc (v := (nI (i + 1))) (lv' := [(1, .int (nI (i + 1))), (0, .ref (ad 8))]) hx hb dX2_firstOverlapping_36 hl (k := 1) rfl (nI_1 i) (by decide) rfl (fun ls hl => ?_)
              refine lv_goto (tgt := 2) hx hb dX2_firstOverlapping_39 (by decide) ?_
              exact ih (i + 1) (by omega) (by omega) (by rw [← he]; exact q_find_go (by assumption) (by simp [c_2, hO_4]; done)) _ (lv_sub hl [1, 0] rfl)
            · exact absurd rfl c_5
          · have hB_hO_4 := q_over_lt hO_4
            refine lv_iconst (v := -1) hx hb dX2_firstOverlapping_30 (by decide) ?_
            refine lv_icmp_eq (x := (nI o_3)) (y := -1) (tgt := 36) hx hb dX2_firstOverlapping_31 (by decide) (fun c_6 => ?_) (fun c_6 => ?_)
            · exact absurd c_6 (bm_nm1 (by omega))
            · refine lv_iload_n hx hb dX2_firstOverlapping_34 rfl (lv_at hl 1 rfl) ?_
              exact bm_iretR (v := (nI i)) hx hb hr (by rw [← he, q_find_hit (by assumption) (by simp [c_2, hO_4])]; rfl) dX2_firstOverlapping_35 hlocks
  have hl := lv_entry ([.ref (ad 8)]) (n := 2) (Nat.le_of_ble_eq_true rfl)
  refine W.eq (g2 := entryFrame m ([.ref (ad 8)] : List Value).toArray 2) (by rw [ha]) ?_
  rw [lg_entry_eq]
  generalize (lg_sl ([.ref (ad 8)]) ++ List.replicate (2 - (lg_sl ([.ref (ad 8)])).length) Slot.unset).toArray = ls at hl ⊢
  have hl : lv_has ls 2 [(0, .ref (ad 8))] := hl
  refine lv_iconst (v := nI 0) hx hb dX2_firstOverlapping_0 (by decide) ?_
  refine lv_istore_n (lv' := [(1, .int (nI 0)), (0, .ref (ad 8))]) hx hb dX2_firstOverlapping_1 rfl hl (by decide) rfl (fun ls hl => ?_)
  exact lp 42 0 (by omega) (by omega) rfl _ (lv_sub hl [1, 0] rfl)
