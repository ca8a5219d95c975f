set_option maxHeartbeats 4000000 in
set_option maxRecDepth 100000 in
theorem r_mates {l : Launch} {D : va_G} {ad : Nat → Nat} {cJ cI cZ : ClassId} {bm : gBM} {pa : gPA} {p0 p1 p2 : gPL} {li : gLI} {wi : gWI} (hoA : q_okA pa) {a b : Nat} (h1 : a < 40) (h2 : b < 40) : bm_Rd l yX1_areMates wsX1_areMates ({ frames := 0, cells := 0, slots := 0, locals := 0 }) D vwCl [(cJ, .long), (cI, .int), (cZ, .boolean)] (Wd ad cJ cI cZ bm pa p0 p1 p2 li wi) [.ref (ad 1), .int (nI a), .int (nI b)] (.int (bm_b (q_mates pa a b))) := by
  obtain ⟨hn, hsd, hlw⟩ := hoA
  refine Met.ofW (cc := cX1_areMates) (maxL := 3) (ret := (some .boolean)) (by decide) rfl ?_
  intro p e s m args below meth c s₁ B hml hv
  obtain ⟨ha, hP, hK⟩ := hv
  have hx := B.exec
  have hb := B.bytes
  have hr := B.returns
  have hts := atoms_spec (ws := wsX1_areMates) B.pre
  have hown : s.vm.findClass RX1 = some m.cls := findClass_of_methodNamed B.named
  have hlocks := B.notSynchronized
  have hl := lv_entry ([.ref (ad 1), .int (nI a), .int (nI b)]) (n := 3) (Nat.le_of_ble_eq_true rfl)
  refine W.eq (g2 := entryFrame m ([.ref (ad 1), .int (nI a), .int (nI b)] : List Value).toArray 3) (by rw [ha]) ?_
  rw [lg_entry_eq]
  generalize (lg_sl ([.ref (ad 1), .int (nI a), .int (nI b)]) ++ List.replicate (3 - (lg_sl ([.ref (ad 1), .int (nI a), .int (nI b)])).length) Slot.unset).toArray = ls at hl ⊢
  have hl : lv_has ls 3 [(0, .ref (ad 1)), (1, .int (nI a)), (2, .int (nI b))] := hl
  refine lv_aload_n hx hb dX1_areMates_0 rfl (lv_at hl 0 rfl) ?_
  refine va_get (D := D) (ci := 1) (v := .ref (ad 7)) (C := RX1) (T := TX1) (N := 7) hx hb hts (inT inX1) hown hK hP 1 rfl rfl 5 (by decide) (hts (.fieldLink RX1 29 "BoardMoves$Parts" "lowest" "[I") (by decide +kernel)) (fun _ h9 => h9) rfl dX1_areMates_1 ?_
  refine lv_iload_n hx hb dX1_areMates_4 rfl (lv_at hl 1 rfl) ?_
  refine bm_nald (f := pa.2.2.2.2.2.1) hx hb hK hP 7 1 rfl rfl (j := a) (by omega) (by decide) dX1_areMates_5 ?_
  refine lv_aload_n hx hb dX1_areMates_6 rfl (lv_at hl 0 rfl) ?_
  refine va_get (D := D) (ci := 1) (v := .ref (ad 7)) (C := RX1) (T := TX1) (N := 7) hx hb hts (inT inX1) hown hK hP 1 rfl rfl 5 (by decide) (hts (.fieldLink RX1 29 "BoardMoves$Parts" "lowest" "[I") (by decide +kernel)) (fun _ h9 => h9) rfl dX1_areMates_7 ?_
  refine lv_iload_n hx hb dX1_areMates_10 rfl (lv_at hl 2 rfl) ?_
  refine bm_nald (f := pa.2.2.2.2.2.1) hx hb hK hP 7 1 rfl rfl (j := b) (by omega) (by decide) dX1_areMates_11 ?_
  refine bm_ni_ne (x := (pa.2.2.2.2.2.1 a)) (y := (pa.2.2.2.2.2.1 b)) (tgt := 19) hx hb (bm40 (hlw _)) (bm40 (hlw _)) dX1_areMates_12 (by decide) (fun c_1 => ?_) (fun c_1 => ?_)
  · refine lv_iconst (v := bm_b false) hx hb dX1_areMates_19 (by decide) ?_
    exact bm_zretR (v := false) hx hb hr (by simp [q_mates, c_1]) dX1_areMates_20 hlocks
  · refine lv_iconst (v := bm_b true) hx hb dX1_areMates_15 (by decide) ?_
    refine lv_goto (tgt := 20) hx hb dX1_areMates_16 (by decide) ?_
    exact bm_zretR (v := true) hx hb hr (by simp [q_mates, c_1]) dX1_areMates_20 hlocks
