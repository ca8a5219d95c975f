set_option maxHeartbeats 4000000 in
set_option maxRecDepth 100000 in
theorem k_pin {l : Launch} (hlt : l.stackTraces = false) {D : va_G} {ad : Nat → Nat} {cJ cI cZ : ClassId} {bm : gBM} {pa : gPA} {p0 p1 p2 : gPL} {li : gLI} {wi : gWI} {mt : Nat} {ms : gMS} {ma : gMA} {mp : gMP} {mk : gMK} {mn : gMN} {ou : Nat → Int64} {zA zB : Int32} {zC zD : Int64} : bx_T l yX4_pin wsX4_pin ({ frames := 6, cells := 1, slots := 6, locals := 101 }) (bx_Tp D vwCl [(cJ, .long), (cI, .int), (cZ, .boolean)] (WW ad cJ cI cZ (bm.1, bm.2.1, bm.2.2.1, 0) (pa.1, pa.2.1, pa.2.2.1, pa.2.2.2.1, pa.2.2.2.2.1, pa.2.2.2.2.2.1, 0) p0 p1 p2 (li.1, li.2.1, li.2.2.1, li.2.2.2.1, li.2.2.2.2.1, li.2.2.2.2.2.1, li.2.2.2.2.2.2.1, li.2.2.2.2.2.2.2.1, 0, 0) (wi.1, wi.2.1, wi.2.2.1, wi.2.2.2.1, wi.2.2.2.2.1, wi.2.2.2.2.2.1, wi.2.2.2.2.2.2.1, wi.2.2.2.2.2.2.2.1, wi.2.2.2.2.2.2.2.2.1, 0, 0) mt ms ma mp mk mn ou) [.ref (ad 0), .int zA, .int zB, .long zC, .long zD]) "java/lang/IndexOutOfBoundsException" := by
  refine bx_ofW (cc := cX4_pin) (maxL := 7) (ret := (some .boolean)) (by decide) rfl ?_
  intro p e s m args below meth c s₁ B hml hout hv
  obtain ⟨ha, hP, hK, hX, hZ⟩ := hv
  have hx := B.exec
  have hb := B.bytes
  have hr := B.returns
  have hts := atoms_spec (ws := wsX4_pin) B.pre
  have hown : s.vm.findClass RX4 = some m.cls := findClass_of_methodNamed B.named
  have hlocks := B.notSynchronized
  have hl := lv_entry ([.ref (ad 0), .int zA, .int zB, .long zC, .long zD]) (n := 7) (Nat.le_of_ble_eq_true rfl)
  refine W.eq (g2 := entryFrame m ([.ref (ad 0), .int zA, .int zB, .long zC, .long zD] : List Value).toArray 7) (by rw [ha]) ?_
  rw [lg_entry_eq]
  generalize (lg_sl ([.ref (ad 0), .int zA, .int zB, .long zC, .long zD]) ++ List.replicate (7 - (lg_sl ([.ref (ad 0), .int zA, .int zB, .long zC, .long zD])).length) Slot.unset).toArray = ls at hl ⊢
  have hl : lv_has ls 7 [(0, .ref (ad 0)), (1, .int zA), (2, .int zB), (3, .long zC), (5, .long zD)] := hl
  refine lv_iload_n hx hb dX4_pin_0 rfl (lv_at hl 1 rfl) ?_
  refine lv_if_lt (x := zA) (tgt := 15) hx hb dX4_pin_1 (by decide) (fun c_1 => ?_) (fun c_1 => ?_)
  · obtain ⟨sa, hsa⟩ := hZ (145, "no such net") (by decide +kernel)
    exact bx_throw (rest := []) (own := RX4) (cls := "java/lang/IndexOutOfBoundsException") (text := "no such net") (names := bxUp) (ik := 143) (is := 145) (ic := 147) hx hb hlt hown (by decide +kernel) (by decide +kernel) (hts (.classLink RX4 143 "java/lang/IndexOutOfBoundsException") (by decide +kernel)) (hts (.initialized "java/lang/IndexOutOfBoundsException") (by decide +kernel)) hsa (fun w hw => hX w (bx_in_147 w hw) _) (hl.1.trans hml.symm) dX4_pin_15 dX4_pin_18 dX4_pin_19 dX4_pin_21 dX4_pin_24 hout (Nat.le_of_ble_eq_true rfl) (Nat.le_of_ble_eq_true rfl) (Nat.le_of_ble_eq_true rfl) (Nat.le_of_ble_eq_true rfl) hlocks
  · refine lv_iload_n hx hb dX4_pin_4 rfl (lv_at hl 1 rfl) ?_
    refine lv_aload_n hx hb dX4_pin_5 rfl (lv_at hl 0 rfl) ?_
    refine va_get (D := D) (ci := 4) (v := .ref (ad 32)) (C := RX4) (T := TX4) (N := 10) hx hb hts (inT inX4) hown hK hP 0 rfl rfl 4 (by decide) (hts (.fieldLink RX4 30 "BoardMoves" "wiring" "LBoardMoves$Wiring;") (by decide +kernel)) (fun _ h9 => h9) rfl dX4_pin_6 ?_
    refine va_get (D := D) (ci := 3) (v := .int (nI 0)) (C := RX3) (T := TX3) (N := 12) hx hb hts (inT inX3) hown hK hP 32 rfl rfl 10 (by decide) (hts (.fieldLink RX4 139 "BoardMoves$Wiring" "nets" "I") (by decide +kernel)) (fun _ h9 => h9) rfl dX4_pin_9 ?_
    refine lv_icmp_lt (x := zA) (y := (nI 0)) (tgt := 25) hx hb dX4_pin_12 (by decide) (fun c_2 => ?_) (fun c_2 => ?_)
    · exact absurd (show zA < 0 from c_2) c_1
    · obtain ⟨sa, hsa⟩ := hZ (145, "no such net") (by decide +kernel)
      exact bx_throw (rest := []) (own := RX4) (cls := "java/lang/IndexOutOfBoundsException") (text := "no such net") (names := bxUp) (ik := 143) (is := 145) (ic := 147) hx hb hlt hown (by decide +kernel) (by decide +kernel) (hts (.classLink RX4 143 "java/lang/IndexOutOfBoundsException") (by decide +kernel)) (hts (.initialized "java/lang/IndexOutOfBoundsException") (by decide +kernel)) hsa (fun w hw => hX w (bx_in_147 w hw) _) (hl.1.trans hml.symm) dX4_pin_15 dX4_pin_18 dX4_pin_19 dX4_pin_21 dX4_pin_24 hout (Nat.le_of_ble_eq_true rfl) (Nat.le_of_ble_eq_true rfl) (Nat.le_of_ble_eq_true rfl) (Nat.le_of_ble_eq_true rfl) hlocks

set_option maxHeartbeats 4000000 in
set_option maxRecDepth 100000 in
theorem k_run {l : Launch} {D : va_G} {ad : Nat → Nat} {cJ cI cZ : ClassId} {bm : gBM} {pa : gPA} {p0 p1 p2 : gPL} {li : gLI} {wi : gWI} {mt : Nat} {ms : gMS} {ma : gMA} {mp : gMP} {mk : gMK} {mn : gMN} {ou : Nat → Int64} {zA : Int64} (hv : q_rn zA = true) : bm_Rd l yX4_run wsX4_run ({ frames := 0, cells := 0, slots := 0, locals := 0 }) D vwCl [(cJ, .long), (cI, .int), (cZ, .boolean)] (WW ad cJ cI cZ (bm.1, bm.2.1, bm.2.2.1, 0) (pa.1, pa.2.1, pa.2.2.1, pa.2.2.2.1, pa.2.2.2.2.1, pa.2.2.2.2.2.1, 0) p0 p1 p2 (li.1, li.2.1, li.2.2.1, li.2.2.2.1, li.2.2.2.2.1, li.2.2.2.2.2.1, li.2.2.2.2.2.2.1, li.2.2.2.2.2.2.2.1, 0, 0) (wi.1, wi.2.1, wi.2.2.1, wi.2.2.2.1, wi.2.2.2.2.1, wi.2.2.2.2.2.1, wi.2.2.2.2.2.2.1, wi.2.2.2.2.2.2.2.1, wi.2.2.2.2.2.2.2.2.1, 0, 0) mt ms ma mp mk mn ou) [.ref (ad 0), .long zA] (.int (nI 0)) := by
  refine Met.ofW (cc := cX4_run) (maxL := 10) (ret := (some .int)) (by decide) rfl ?_
  intro p e s m args below meth c s₁ B hml hv
  obtain ⟨ha, hP, hK⟩ := hv
  have hx := B.exec
  have hb := B.bytes
  have hr := B.returns
  have hts := atoms_spec (ws := wsX4_run) B.pre
  have hown : s.vm.findClass RX4 = some m.cls := findClass_of_methodNamed B.named
  have hlocks := B.notSynchronized
  have hl := lv_entry ([.ref (ad 0), .long zA]) (n := 10) (Nat.le_of_ble_eq_true rfl)
  refine W.eq (g2 := entryFrame m ([.ref (ad 0), .long zA] : List Value).toArray 10) (by rw [ha]) ?_
  rw [lg_entry_eq]
  generalize (lg_sl ([.ref (ad 0), .long zA]) ++ List.replicate (10 - (lg_sl ([.ref (ad 0), .long zA])).length) Slot.unset).toArray = ls at hl ⊢
  have hl : lv_has ls 10 [(0, .ref (ad 0)), (1, .long zA)] := hl
  refine lv_lload_n hx hb dX4_run_0 rfl (lv_at hl 1 rfl) ?_
  refine lv_lconst (v := 0) hx hb dX4_run_1 (by decide) ?_
  refine bm_lc_lt (x := zA) (y := 0) (tgt := 14) hx hb dX4_run_2 dX4_run_3 (by decide) (fun c_1 => ?_) (fun c_1 => ?_)
  · exact absurd hv (by simp [q_rn, c_1])
  · refine lv_lload_n hx hb dX4_run_6 rfl (lv_at hl 1 rfl) ?_
    refine lv_ldc2 (v := 2000) hx hb hown (hts (.constantLong RX4 193 2000) (by decide +kernel)) dX4_run_7 ?_
    refine bm_lc_le (x := zA) (y := 2000) (tgt := 24) hx hb dX4_run_10 dX4_run_11 (by decide) (fun c_2 => ?_) (fun c_2 => ?_)
    · refine lv_aload_n hx hb dX4_run_24 rfl (lv_at hl 0 rfl) ?_
      refine va_get (D := D) (ci := 4) (v := .ref (ad 1)) (C := RX4) (T := TX4) (N := 10) hx hb hts (inT inX4) hown hK hP 0 rfl rfl 2 (by decide) (hts (.fieldLink RX4 12 "BoardMoves" "parts" "LBoardMoves$Parts;") (by decide +kernel)) (fun _ h9 => h9) rfl dX4_run_25 ?_
      refine va_get (D := D) (ci := 1) (v := .int (nI 0)) (C := RX1) (T := TX1) (N := 7) hx hb hts (inT inX1) hown hK hP 1 rfl rfl 6 (by decide) (hts (.fieldLink RX4 197 "BoardMoves$Parts" "count" "I") (by decide +kernel)) (fun _ h9 => h9) rfl dX4_run_28 ?_
      refine bm_nz_eq (x := 0) (tgt := 40) hx hb (by decide) dX4_run_31 (by decide) (fun c_3 => ?_) (fun c_3 => ?_)
      · refine lv_iconst (v := nI 0) hx hb dX4_run_40 (by decide) ?_
        exact bm_iretR (v := (nI 0)) hx hb hr rfl dX4_run_41 hlocks
      · exact absurd c_3 (by decide)
    · exact absurd hv (by simp [q_rn, c_2])

set_option maxHeartbeats 4000000 in
set_option maxRecDepth 100000 in
theorem k_runX {l : Launch} (hlt : l.stackTraces = false) {D : va_G} {ad : Nat → Nat} {cJ cI cZ : ClassId} {bm : gBM} {pa : gPA} {p0 p1 p2 : gPL} {li : gLI} {wi : gWI} {mt : Nat} {ms : gMS} {ma : gMA} {mp : gMP} {mk : gMK} {mn : gMN} {ou : Nat → Int64} {zA : Int64} (hv : q_rn zA = false) : bx_T l yX4_run wsX4_run ({ frames := 6, cells := 1, slots := 6, locals := 101 }) (bx_Tp D vwCl [(cJ, .long), (cI, .int), (cZ, .boolean)] (WW ad cJ cI cZ (bm.1, bm.2.1, bm.2.2.1, 0) (pa.1, pa.2.1, pa.2.2.1, pa.2.2.2.1, pa.2.2.2.2.1, pa.2.2.2.2.2.1, 0) p0 p1 p2 (li.1, li.2.1, li.2.2.1, li.2.2.2.1, li.2.2.2.2.1, li.2.2.2.2.2.1, li.2.2.2.2.2.2.1, li.2.2.2.2.2.2.2.1, 0, 0) (wi.1, wi.2.1, wi.2.2.1, wi.2.2.2.1, wi.2.2.2.2.1, wi.2.2.2.2.2.1, wi.2.2.2.2.2.2.1, wi.2.2.2.2.2.2.2.1, wi.2.2.2.2.2.2.2.2.1, 0, 0) mt ms ma mp mk mn ou) [.ref (ad 0), .long zA]) "java/lang/IllegalArgumentException" := by
  refine bx_ofW (cc := cX4_run) (maxL := 10) (ret := (some .int)) (by decide) rfl ?_
  intro p e s m args below meth c s₁ B hml hout hv
  obtain ⟨ha, hP, hK, hX, hZ⟩ := hv
  have hx := B.exec
  have hb := B.bytes
  have hr := B.returns
  have hts := atoms_spec (ws := wsX4_run) B.pre
  have hown : s.vm.findClass RX4 = some m.cls := findClass_of_methodNamed B.named
  have hlocks := B.notSynchronized
  have hl := lv_entry ([.ref (ad 0), .long zA]) (n := 10) (Nat.le_of_ble_eq_true rfl)
  refine W.eq (g2 := entryFrame m ([.ref (ad 0), .long zA] : List Value).toArray 10) (by rw [ha]) ?_
  rw [lg_entry_eq]
  generalize (lg_sl ([.ref (ad 0), .long zA]) ++ List.replicate (10 - (lg_sl ([.ref (ad 0), .long zA])).length) Slot.unset).toArray = ls at hl ⊢
  have hl : lv_has ls 10 [(0, .ref (ad 0)), (1, .long zA)] := hl
  refine lv_lload_n hx hb dX4_run_0 rfl (lv_at hl 1 rfl) ?_
  refine lv_lconst (v := 0) hx hb dX4_run_1 (by decide) ?_
  refine bm_lc_lt (x := zA) (y := 0) (tgt := 14) hx hb dX4_run_2 dX4_run_3 (by decide) (fun c_1 => ?_) (fun c_1 => ?_)
  · obtain ⟨sa, hsa⟩ := hZ (195, "steps are 0 .. 2,000") (by decide +kernel)
    exact bx_throw (rest := []) (own := RX4) (cls := "java/lang/IllegalArgumentException") (text := "steps are 0 .. 2,000") (names := bxUp) (ik := 75) (is := 195) (ic := 79) hx hb hlt hown (by decide +kernel) (by decide +kernel) (hts (.classLink RX4 75 "java/lang/IllegalArgumentException") (by decide +kernel)) (hts (.initialized "java/lang/IllegalArgumentException") (by decide +kernel)) hsa (fun w hw => hX w (bx_in_79 w hw) _) (hl.1.trans hml.symm) dX4_run_14 dX4_run_17 dX4_run_18 dX4_run_20 dX4_run_23 hout (Nat.le_of_ble_eq_true rfl) (Nat.le_of_ble_eq_true rfl) (Nat.le_of_ble_eq_true rfl) (Nat.le_of_ble_eq_true rfl) hlocks
  · refine lv_lload_n hx hb dX4_run_6 rfl (lv_at hl 1 rfl) ?_
    refine lv_ldc2 (v := 2000) hx hb hown (hts (.constantLong RX4 193 2000) (by decide +kernel)) dX4_run_7 ?_
    refine bm_lc_le (x := zA) (y := 2000) (tgt := 24) hx hb dX4_run_10 dX4_run_11 (by decide) (fun c_2 => ?_) (fun c_2 => ?_)
    · exact absurd hv (by simp [q_rn, c_1, c_2])
    · obtain ⟨sa, hsa⟩ := hZ (195, "steps are 0 .. 2,000") (by decide +kernel)
      exact bx_throw (rest := []) (own := RX4) (cls := "java/lang/IllegalArgumentException") (text := "steps are 0 .. 2,000") (names := bxUp) (ik := 75) (is := 195) (ic := 79) hx hb hlt hown (by decide +kernel) (by decide +kernel) (hts (.classLink RX4 75 "java/lang/IllegalArgumentException") (by decide +kernel)) (hts (.initialized "java/lang/IllegalArgumentException") (by decide +kernel)) hsa (fun w hw => hX w (bx_in_79 w hw) _) (hl.1.trans hml.symm) dX4_run_14 dX4_run_17 dX4_run_18 dX4_run_20 dX4_run_23 hout (Nat.le_of_ble_eq_true rfl) (Nat.le_of_ble_eq_true rfl) (Nat.le_of_ble_eq_true rfl) (Nat.le_of_ble_eq_true rfl) hlocks

set_option maxHeartbeats 4000000 in
set_option maxRecDepth 100000 in
theorem k_all {l : Launch} {D : va_G} {ad : Nat → Nat} {cJ cI cZ : ClassId} {bm : gBM} {pa : gPA} {p0 p1 p2 : gPL} {li : gLI} {wi : gWI} {mt : Nat} {ms : gMS} {ma : gMA} {mp : gMP} {mk : gMK} {mn : gMN} {ou : Nat → Int64}  : bm_Rd l yX4_allStandWell wsX4_allStandWell ({ frames := 0, cells := 0, slots := 0, locals := 0 }) D vwCl [(cJ, .long), (cI, .int), (cZ, .boolean)] (WW ad cJ cI cZ bm (pa.1, pa.2.1, pa.2.2.1, pa.2.2.2.1, pa.2.2.2.2.1, pa.2.2.2.2.2.1, 0) p0 p1 p2 li wi mt ms ma mp mk mn ou) [.ref (ad 0)] (.int (bm_b true)) := by
  refine Met.ofW (cc := cX4_allStandWell) (maxL := 2) (ret := (some .boolean)) (by decide) rfl ?_
  intro p e s m args below meth c s₁ B hml hv
  obtain ⟨ha, hP, hK⟩ := hv
  have hx := B.exec
  have hb := B.bytes
  have hr := B.returns
  have hts := atoms_spec (ws := wsX4_allStandWell) B.pre
  have hown : s.vm.findClass RX4 = some m.cls := findClass_of_methodNamed B.named
  have hlocks := B.notSynchronized
  have hl := lv_entry ([.ref (ad 0)]) (n := 2) (Nat.le_of_ble_eq_true rfl)
  refine W.eq (g2 := entryFrame m ([.ref (ad 0)] : List Value).toArray 2) (by rw [ha]) ?_
  rw [lg_entry_eq]
  generalize (lg_sl ([.ref (ad 0)]) ++ List.replicate (2 - (lg_sl ([.ref (ad 0)])).length) Slot.unset).toArray = ls at hl ⊢
  have hl : lv_has ls 2 [(0, .ref (ad 0))] := hl
  refine lv_iconst (v := nI 0) hx hb dX4_allStandWell_0 (by decide) ?_
  refine lv_istore_n (lv' := [(1, .int (nI 0)), (0, .ref (ad 0))]) hx hb dX4_allStandWell_1 rfl hl (by decide) rfl (fun ls hl => ?_)
  refine lv_iload_n hx hb dX4_allStandWell_2 rfl (lv_at hl 0 rfl) ?_
  refine lv_aload_n hx hb dX4_allStandWell_3 rfl (lv_at hl 1 rfl) ?_
  refine va_get (D := D) (ci := 4) (v := .ref (ad 1)) (C := RX4) (T := TX4) (N := 10) hx hb hts (inT inX4) hown hK hP 0 rfl rfl 2 (by decide) (hts (.fieldLink RX4 12 "BoardMoves" "parts" "LBoardMoves$Parts;") (by decide +kernel)) (fun _ h9 => h9) rfl dX4_allStandWell_4 ?_
  refine va_get (D := D) (ci := 1) (v := .int (nI 0)) (C := RX1) (T := TX1) (N := 7) hx hb hts (inT inX1) hown hK hP 1 rfl rfl 6 (by decide) (hts (.fieldLink RX4 197 "BoardMoves$Parts" "count" "I") (by decide +kernel)) (fun _ h9 => h9) rfl dX4_allStandWell_7 ?_
  refine bm_ni_ge (x := 0) (y := 0) (tgt := 29) hx hb (by decide) (by decide) dX4_allStandWell_10 (by decide) (fun c_1 => ?_) (fun c_1 => ?_)
  · refine lv_iconst (v := bm_b true) hx hb dX4_allStandWell_29 (by decide) ?_
    exact bm_zretR (v := true) hx hb hr rfl dX4_allStandWell_30 hlocks
  · exact absurd c_1 (by decide)

set_option maxHeartbeats 4000000 in
set_option maxRecDepth 100000 in
theorem k_clear {l : Launch} {D : va_G} {ad : Nat → Nat} {cJ cI cZ : ClassId} {bm : gBM} {pa : gPA} {p0 p1 p2 : gPL} {li : gLI} {wi : gWI} {mt : Nat} {ms : gMS} {ma : gMA} {mp : gMP} {mk : gMK} {mn : gMN} {ou : Nat → Int64}  : bm_Rd l yX4_clear2 wsX4_clear2 ({ frames := 1, cells := 0, slots := 0, locals := 21 }) D vwCl [(cJ, .long), (cI, .int), (cZ, .boolean)] (WW ad cJ cI cZ (bm.1, bm.2.1, bm.2.2.1, 0) (pa.1, pa.2.1, pa.2.2.1, pa.2.2.2.1, pa.2.2.2.2.1, pa.2.2.2.2.2.1, 0) p0 p1 p2 (li.1, li.2.1, li.2.2.1, li.2.2.2.1, li.2.2.2.2.1, li.2.2.2.2.2.1, li.2.2.2.2.2.2.1, li.2.2.2.2.2.2.2.1, 0, 0) (wi.1, wi.2.1, wi.2.2.1, wi.2.2.2.1, wi.2.2.2.2.1, wi.2.2.2.2.2.1, wi.2.2.2.2.2.2.1, wi.2.2.2.2.2.2.2.1, wi.2.2.2.2.2.2.2.2.1, 0, 0) mt ms ma mp mk mn ou) [.ref (ad 0)] (.int (bm_b true)) := by
  refine Met.ofW (cc := cX4_clear2) (maxL := 1) (ret := (some .boolean)) (by decide) rfl ?_
  intro p e s m args below meth c s₁ B hml hv
  obtain ⟨ha, hP, hK⟩ := hv
  have hx := B.exec
  have hb := B.bytes
  have hr := B.returns
  have hts := atoms_spec (ws := wsX4_clear2) B.pre
  have hown : s.vm.findClass RX4 = some m.cls := findClass_of_methodNamed B.named
  have hlocks := B.notSynchronized
  have hl := lv_entry ([.ref (ad 0)]) (n := 1) (Nat.le_of_ble_eq_true rfl)
  refine W.eq (g2 := entryFrame m ([.ref (ad 0)] : List Value).toArray 1) (by rw [ha]) ?_
  rw [lg_entry_eq]
  generalize (lg_sl ([.ref (ad 0)]) ++ List.replicate (1 - (lg_sl ([.ref (ad 0)])).length) Slot.unset).toArray = ls at hl ⊢
  have hl : lv_has ls 1 [(0, .ref (ad 0))] := hl
  refine lv_aload_n hx hb dX4_clear2_0 rfl (lv_at hl 0 rfl) ?_
  refine bm_rcallV (As := []) (rest := []) ⟨hx, hb, hml, hown, hts⟩ (k_all) (cwV 0 hts (gdV (by decide +kernel) (by decide +kernel) (by decide +kernel) (by decide +kernel) (by decide +kernel)) rfl rfl rfl (by decide +kernel) ⟨Nat.le_of_ble_eq_true rfl, Nat.le_of_ble_eq_true rfl⟩) hK hP 0 4 rfl rfl rfl hl.1 rfl (Nat.le_of_ble_eq_true rfl) dX4_clear2_1 ⟨Nat.le_of_ble_eq_true rfl, Nat.le_of_ble_eq_true rfl⟩ ?_
  exact bm_zretR (v := true) hx hb hr rfl dX4_clear2_4 hlocks
