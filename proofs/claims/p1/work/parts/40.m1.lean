set_option maxHeartbeats 4000000 in
set_option maxRecDepth 100000 in
theorem m_thrown {l : Launch} {D : va_G} {ad : Nat → Nat} {cJ cI cZ : ClassId} {bm : gBM} {pa : gPA} {p0 p1 p2 : gPL} {li : gLI} {wi : gWI} {mt : Nat} {ms : gMS} {ma : gMA} {mp : gMP} {mk : gMK} {mn : gMN} {ou : Nat → Int64}  : bm_Rd l yX5_thrown wsX5_thrown ({ frames := 0, cells := 0, slots := 0, locals := 0 }) D vwCl [(cJ, .long), (cI, .int), (cZ, .boolean)] (WW ad cJ cI cZ bm pa p0 p1 p2 li wi mt ms ma mp mk mn ou) [.ref (ad 42)] (.int (nI mt)) := by
  refine Met.ofW (cc := cX5_thrown) (maxL := 1) (ret := (some .int)) (by decide) rfl ?_
  intro p e s m args below meth c s₁ B hml hv
  obtain ⟨ha, hP, hK⟩ := hv
  have hx := B.exec
  have hb := B.bytes
  have hr := B.returns
  have hts := atoms_spec (ws := wsX5_thrown) B.pre
  have hown : s.vm.findClass RX5 = some m.cls := findClass_of_methodNamed B.named
  have hlocks := B.notSynchronized
  have hl := lv_entry ([.ref (ad 42)]) (n := 1) (Nat.le_of_ble_eq_true rfl)
  refine W.eq (g2 := entryFrame m ([.ref (ad 42)] : List Value).toArray 1) (by rw [ha]) ?_
  rw [lg_entry_eq]
  generalize (lg_sl ([.ref (ad 42)]) ++ List.replicate (1 - (lg_sl ([.ref (ad 42)])).length) Slot.unset).toArray = ls at hl ⊢
  have hl : lv_has ls 1 [(0, .ref (ad 42))] := hl
  refine lv_aload_n hx hb dX5_thrown_0 rfl (lv_at hl 0 rfl) ?_
  refine va_get (D := D) (ci := 5) (v := .int (nI mt)) (C := RX5) (T := TX5) (N := 28) hx hb hts (inT inX5) hown hK hP 42 rfl rfl 0 (by decide) (hts (.fieldLink RX5 81 "BoardMovesModel" "thrown" "I") (by decide +kernel)) (fun _ h9 => h9) rfl dX5_thrown_1 ?_
  exact bm_iretR (v := (nI mt)) hx hb hr rfl dX5_thrown_4 hlocks

set_option maxHeartbeats 4000000 in
set_option maxRecDepth 100000 in
theorem m_size {l : Launch} {D : va_G} {ad : Nat → Nat} {cJ cI cZ : ClassId} {bm : gBM} {pa : gPA} {p0 p1 p2 : gPL} {li : gLI} {wi : gWI} {mt : Nat} {ms : gMS} {ma : gMA} {mp : gMP} {mk : gMK} {mn : gMN} {ou : Nat → Int64} {zA : Int64} : bm_Rd l yX5_isSize wsX5_isSize ({ frames := 0, cells := 0, slots := 0, locals := 0 }) D vwCl [(cJ, .long), (cI, .int), (cZ, .boolean)] (WW ad cJ cI cZ bm pa p0 p1 p2 li wi mt ms ma mp mk mn ou) [.long zA] (.int (bm_b (q_len zA))) := by
  refine Met.ofW (cc := cX5_isSize) (maxL := 2) (ret := (some .boolean)) (by decide) rfl ?_
  intro p e s m args below meth c s₁ B hml hv
  obtain ⟨ha, hP, hK⟩ := hv
  have hx := B.exec
  have hb := B.bytes
  have hr := B.returns
  have hts := atoms_spec (ws := wsX5_isSize) B.pre
  have hown : s.vm.findClass RX5 = some m.cls := findClass_of_methodNamed B.named
  have hlocks := B.notSynchronized
  have hl := lv_entry ([.long zA]) (n := 2) (Nat.le_of_ble_eq_true rfl)
  refine W.eq (g2 := entryFrame m ([.long zA] : List Value).toArray 2) (by rw [ha]) ?_
  rw [lg_entry_eq]
  generalize (lg_sl ([.long zA]) ++ List.replicate (2 - (lg_sl ([.long zA])).length) Slot.unset).toArray = ls at hl ⊢
  have hl : lv_has ls 2 [(0, .long zA)] := hl
  refine lv_lload_n hx hb dX5_isSize_0 rfl (lv_at hl 0 rfl) ?_
  refine lv_lconst (v := 1) hx hb dX5_isSize_1 (by decide) ?_
  refine bm_lc_lt (x := zA) (y := 1) (tgt := 18) hx hb dX5_isSize_2 dX5_isSize_3 (by decide) (fun c_1 => ?_) (fun c_1 => ?_)
  · refine lv_iconst (v := bm_b false) hx hb dX5_isSize_18 (by decide) ?_
    exact bm_zretR (v := false) hx hb hr (by simp [q_len, c_1]) dX5_isSize_19 hlocks
  · refine lv_lload_n hx hb dX5_isSize_6 rfl (lv_at hl 0 rfl) ?_
    refine lv_ldc2 (v := 65536) hx hb hown (hts (.constantLong RX5 69 65536) (by decide +kernel)) dX5_isSize_7 ?_
    refine bm_lc_gt (x := zA) (y := 65536) (tgt := 18) hx hb dX5_isSize_10 dX5_isSize_11 (by decide) (fun c_2 => ?_) (fun c_2 => ?_)
    · refine lv_iconst (v := bm_b false) hx hb dX5_isSize_18 (by decide) ?_
      exact bm_zretR (v := false) hx hb hr (by simp [q_len, c_1, c_2]) dX5_isSize_19 hlocks
    · refine lv_iconst (v := bm_b true) hx hb dX5_isSize_14 (by decide) ?_
      refine lv_goto (tgt := 19) hx hb dX5_isSize_15 (by decide) ?_
      exact bm_zretR (v := true) hx hb hr (by simp [q_len, c_1, c_2]) dX5_isSize_19 hlocks

set_option maxHeartbeats 4000000 in
set_option maxRecDepth 100000 in
theorem m_isPart {l : Launch} {D : va_G} {ad : Nat → Nat} {cJ cI cZ : ClassId} {bm : gBM} {pa : gPA} {p0 p1 p2 : gPL} {li : gLI} {wi : gWI} {mt : Nat} {ms : gMS} {ma : gMA} {mp : gMP} {mk : gMK} {mn : gMN} {ou : Nat → Int64} {zA : Int32} : bm_Rd l yX5_isPart wsX5_isPart ({ frames := 0, cells := 0, slots := 0, locals := 0 }) D vwCl [(cJ, .long), (cI, .int), (cZ, .boolean)] (WW ad cJ cI cZ bm pa p0 p1 p2 li wi mt (ms.1, ms.2.1, 0, 0, 0, 0, 0, ms.2.2.2.2.2.2.2) ma mp mk mn ou) [.ref (ad 42), .int zA] (.int (bm_b false)) := by
  refine Met.ofW (cc := cX5_isPart) (maxL := 2) (ret := (some .boolean)) (by decide) rfl ?_
  intro p e s m args below meth c s₁ B hml hv
  obtain ⟨ha, hP, hK⟩ := hv
  have hx := B.exec
  have hb := B.bytes
  have hr := B.returns
  have hts := atoms_spec (ws := wsX5_isPart) B.pre
  have hown : s.vm.findClass RX5 = some m.cls := findClass_of_methodNamed B.named
  have hlocks := B.notSynchronized
  have hl := lv_entry ([.ref (ad 42), .int zA]) (n := 2) (Nat.le_of_ble_eq_true rfl)
  refine W.eq (g2 := entryFrame m ([.ref (ad 42), .int zA] : List Value).toArray 2) (by rw [ha]) ?_
  rw [lg_entry_eq]
  generalize (lg_sl ([.ref (ad 42), .int zA]) ++ List.replicate (2 - (lg_sl ([.ref (ad 42), .int zA])).length) Slot.unset).toArray = ls at hl ⊢
  have hl : lv_has ls 2 [(0, .ref (ad 42)), (1, .int zA)] := hl
  refine lv_iload_n hx hb dX5_isPart_0 rfl (lv_at hl 1 rfl) ?_
  refine lv_if_lt (x := zA) (tgt := 16) hx hb dX5_isPart_1 (by decide) (fun c_1 => ?_) (fun c_1 => ?_)
  · refine lv_iconst (v := bm_b false) hx hb dX5_isPart_16 (by decide) ?_
    exact bm_zretR (v := false) hx hb hr rfl dX5_isPart_17 hlocks
  · refine lv_iload_n hx hb dX5_isPart_4 rfl (lv_at hl 1 rfl) ?_
    refine lv_aload_n hx hb dX5_isPart_5 rfl (lv_at hl 0 rfl) ?_
    refine va_get (D := D) (ci := 5) (v := .int (nI 0)) (C := RX5) (T := TX5) (N := 28) hx hb hts (inT inX5) hown hK hP 42 rfl rfl 3 (by decide) (hts (.fieldLink RX5 85 "BoardMovesModel" "parts" "I") (by decide +kernel)) (fun _ h9 => h9) rfl dX5_isPart_6 ?_
    refine lv_icmp_ge (x := zA) (y := (nI 0)) (tgt := 16) hx hb dX5_isPart_9 (by decide) (fun c_2 => ?_) (fun c_2 => ?_)
    · refine lv_iconst (v := bm_b false) hx hb dX5_isPart_16 (by decide) ?_
      exact bm_zretR (v := false) hx hb hr rfl dX5_isPart_17 hlocks
    · exact absurd (Int32.not_lt.mp c_1) (show ¬ (0 : Int32) ≤ zA from c_2)

set_option maxHeartbeats 4000000 in
set_option maxRecDepth 100000 in
theorem m_part {l : Launch} {D : va_G} {ad : Nat → Nat} {cJ cI cZ : ClassId} {bm : gBM} {pa : gPA} {p0 p1 p2 : gPL} {li : gLI} {wi : gWI} {mt : Nat} {ms : gMS} {ma : gMA} {mp : gMP} {mk : gMK} {mn : gMN} {ou : Nat → Int64} {zA zB : Int64} {zC : Nat} (h1 : q_len zA = true) (h2 : q_len zB = true) (h3 : zC < 2) : bm_Wr l yX5_part wsX5_part ({ frames := 1, cells := 0, slots := 0, locals := 21 }) D vwCl [(cJ, .long), (cI, .int), (cZ, .boolean)] (WW ad cJ cI cZ bm pa p0 p1 p2 li wi mt (ms.1, ms.2.1, 0, 0, 0, 0, 0, ms.2.2.2.2.2.2.2) ma mp mk mn ou) [.ref (ad 42), .long zA, .long zB, .int (nI zC)] (WW ad cJ cI cZ bm pa p0 p1 p2 li wi (0) (ms.1, ms.2.1, 0 + 1, 0, 0, 0, 0, ms.2.2.2.2.2.2.2) (va_up ma.1 0 zA, va_up ma.2.1 0 zB, va_up ma.2.2.1 0 zC, ma.2.2.2.1, ma.2.2.2.2.1, va_up ma.2.2.2.2.2.1 0 0, ma.2.2.2.2.2.2) mp mk mn ou) (some (.int (nI ((0 + 1) - 1)))) := by
  intro sz
  refine Met.ofW (cc := cX5_part) (maxL := 6) (ret := (some .int)) (by decide) rfl ?_
  intro p e s m args below meth c s₁ B hml hv
  obtain ⟨ha, hsz, hP, hK, hD0⟩ := hv
  have hx := B.exec
  have hb := B.bytes
  have hr := B.returns
  have hts := atoms_spec (ws := wsX5_part) B.pre
  have hown : s.vm.findClass RX5 = some m.cls := findClass_of_methodNamed B.named
  have hlocks := B.notSynchronized
  subst hsz
  have hD := hD0.self (sz := s.heap.size)
  generalize hAe : va_A (WW ad cJ cI cZ bm pa p0 p1 p2 li wi mt (ms.1, ms.2.1, 0, 0, 0, 0, 0, ms.2.2.2.2.2.2.2) ma mp mk mn ou) s.heap.size = A at hD ⊢
  have hA : ∀ q : Nat, s.heap.size ≤ q → A q := fun q h => by rw [← hAe]; exact Or.inr h
  have hS : va_S A s.heap s.heap [] := va_S.rf
  have hl := lv_entry ([.ref (ad 42), .long zA, .long zB, .int (nI zC)]) (n := 6) (Nat.le_of_ble_eq_true rfl)
  refine W.eq (g2 := entryFrame m ([.ref (ad 42), .long zA, .long zB, .int (nI zC)] : List Value).toArray 6) (by rw [ha]) ?_
  rw [lg_entry_eq]
  generalize (lg_sl ([.ref (ad 42), .long zA, .long zB, .int (nI zC)]) ++ List.replicate (6 - (lg_sl ([.ref (ad 42), .long zA, .long zB, .int (nI zC)])).length) Slot.unset).toArray = ls at hl ⊢
  have hl : lv_has ls 6 [(0, .ref (ad 42)), (1, .long zA), (3, .long zB), (5, .int (nI zC))] := hl
  refine lv_aload_n hx hb dX5_part_0 rfl (lv_at hl 0 rfl) ?_
  refine lv_lload_n hx hb dX5_part_1 rfl (lv_at hl 1 rfl) ?_
  refine bm_rcallS (As := [.long zA]) (rest := [.ref (ad 42)]) ⟨hx, hb, hml, hown, hts⟩ (m_size) (cwS 1 hts (gdS (by decide +kernel) (by decide +kernel) (by decide +kernel) (by decide +kernel)) rfl rfl rfl (by decide +kernel) ⟨Nat.le_of_ble_eq_true rfl, Nat.le_of_ble_eq_true rfl⟩) hK hP rfl hl.1 rfl (Nat.le_of_ble_eq_true rfl) dX5_part_2 ⟨Nat.le_of_ble_eq_true rfl, Nat.le_of_ble_eq_true rfl⟩ ?_
  refine bm_zb_eq (x := (q_len zA)) (tgt := 30) hx hb dX5_part_5 (by decide) (fun c_1 => ?_) (fun c_1 => ?_)
  · exact absurd (h1.symm.trans c_1) (by decide)
  · refine lv_lload_n hx hb dX5_part_8 rfl (lv_at hl 2 rfl) ?_
    refine bm_rcallS (As := [.long zB]) (rest := [.ref (ad 42)]) ⟨hx, hb, hml, hown, hts⟩ (m_size) (cwS 1 hts (gdS (by decide +kernel) (by decide +kernel) (by decide +kernel) (by decide +kernel)) rfl rfl rfl (by decide +kernel) ⟨Nat.le_of_ble_eq_true rfl, Nat.le_of_ble_eq_true rfl⟩) hK hP rfl hl.1 rfl (Nat.le_of_ble_eq_true rfl) dX5_part_9 ⟨Nat.le_of_ble_eq_true rfl, Nat.le_of_ble_eq_true rfl⟩ ?_
    refine bm_zb_eq (x := (q_len zB)) (tgt := 30) hx hb dX5_part_12 (by decide) (fun c_2 => ?_) (fun c_2 => ?_)
    · exact absurd (h2.symm.trans c_2) (by decide)
    · refine lv_iload hx hb dX5_part_15 (lv_at hl 3 rfl) ?_
      refine bm_nz_eq (x := zC) (tgt := 26) hx hb (by omega) dX5_part_17 (by decide) (fun c_3 => ?_) (fun c_3 => ?_)
      · refine lv_iconst (v := nI 0) hx hb dX5_part_26 (by decide) ?_
        refine lv_goto (tgt := 31) hx hb dX5_part_27 (by decide) ?_
        refine va_put (D := D) (ci := 5) (v := .int (nI 0)) (ty := .int) (C := RX5) (T := TX5) (N := 28) hx hb hts (inT inX5) tyX5 tyX5_ok nmX5 hown hK hP hD hS 42 rfl rfl 0 (by decide) (hts (.fieldLink RX5 81 "BoardMovesModel" "thrown" "I") (by decide +kernel)) (fun _ h9 => h9) rfl (by decide +kernel) rfl rfl (Nat.le_of_ble_eq_true rfl) dX5_part_31 (fun H locs hP hD hS => ?_)
        have hP : va_P D vwCl (WW ad cJ cI cZ bm pa p0 p1 p2 li wi (0) (ms.1, ms.2.1, 0, 0, 0, 0, 0, ms.2.2.2.2.2.2.2) ma mp mk mn ou) H := hP
        have hD : va_D A (WW ad cJ cI cZ bm pa p0 p1 p2 li wi (0) (ms.1, ms.2.1, 0, 0, 0, 0, 0, ms.2.2.2.2.2.2.2) ma mp mk mn ou) := hD
        refine lv_aload_n hx hb dX5_part_34 rfl (lv_at hl 0 rfl) ?_
        refine va_get (D := D) (ci := 5) (v := .int (nI 0)) (C := RX5) (T := TX5) (N := 28) hx hb hts (inT inX5) hown hK hP 42 rfl rfl 0 (by decide) (hts (.fieldLink RX5 81 "BoardMovesModel" "thrown" "I") (by decide +kernel)) (fun _ h9 => h9) rfl dX5_part_35 ?_
        refine bm_nz_eq (x := 0) (tgt := 43) hx hb (by decide) dX5_part_38 (by decide) (fun c_4 => ?_) (fun c_4 => ?_)
        · refine lv_aload_n hx hb dX5_part_43 rfl (lv_at hl 0 rfl) ?_
          refine va_get (D := D) (ci := 5) (v := .int (nI 0)) (C := RX5) (T := TX5) (N := 28) hx hb hts (inT inX5) hown hK hP 42 rfl rfl 3 (by decide) (hts (.fieldLink RX5 85 "BoardMovesModel" "parts" "I") (by decide +kernel)) (fun _ h9 => h9) rfl dX5_part_44 ?_
          refine lv_bipush (v := nI 40) hx hb dX5_part_47 (by decide) ?_
          refine bm_ni_ne (x := 0) (y := 40) (tgt := 54) hx hb (by decide) (by decide) dX5_part_49 (by decide) (fun c_5 => ?_) (fun c_5 => ?_)
          · refine lv_aload_n hx hb dX5_part_54 rfl (lv_at hl 0 rfl) ?_
            refine va_get (D := D) (ci := 5) (v := .ref (ad 43)) (C := RX5) (T := TX5) (N := 28) hx hb hts (inT inX5) hown hK hP 42 rfl rfl 4 (by decide) (hts (.fieldLink RX5 7 "BoardMovesModel" "wide" "[J") (by decide +kernel)) (fun _ h9 => h9) rfl dX5_part_55 ?_
            refine lv_aload_n hx hb dX5_part_58 rfl (lv_at hl 0 rfl) ?_
            refine va_get (D := D) (ci := 5) (v := .int (nI 0)) (C := RX5) (T := TX5) (N := 28) hx hb hts (inT inX5) hown hK hP 42 rfl rfl 3 (by decide) (hts (.fieldLink RX5 85 "BoardMovesModel" "parts" "I") (by decide +kernel)) (fun _ h9 => h9) rfl dX5_part_59 ?_
            refine lv_lload_n hx hb dX5_part_62 rfl (lv_at hl 1 rfl) ?_
            refine bm_last (f := ma.1) hx hb hK hP hD hS 43 0 rfl rfl (j := 0) (x := zA) (by omega) (by decide) dX5_part_63 (fun H locs hP hD hS => ?_)
            have hP : va_P D vwCl (WW ad cJ cI cZ bm pa p0 p1 p2 li wi (0) (ms.1, ms.2.1, 0, 0, 0, 0, 0, ms.2.2.2.2.2.2.2) (va_up ma.1 0 zA, ma.2.1, ma.2.2.1, ma.2.2.2.1, ma.2.2.2.2.1, ma.2.2.2.2.2.1, ma.2.2.2.2.2.2) mp mk mn ou) H := hP
            have hD : va_D A (WW ad cJ cI cZ bm pa p0 p1 p2 li wi (0) (ms.1, ms.2.1, 0, 0, 0, 0, 0, ms.2.2.2.2.2.2.2) (va_up ma.1 0 zA, ma.2.1, ma.2.2.1, ma.2.2.2.1, ma.2.2.2.2.1, ma.2.2.2.2.2.1, ma.2.2.2.2.2.2) mp mk mn ou) := hD
            refine lv_aload_n hx hb dX5_part_64 rfl (lv_at hl 0 rfl) ?_
            refine va_get (D := D) (ci := 5) (v := .ref (ad 44)) (C := RX5) (T := TX5) (N := 28) hx hb hts (inT inX5) hown hK hP 42 rfl rfl 5 (by decide) (hts (.fieldLink RX5 13 "BoardMovesModel" "high" "[J") (by decide +kernel)) (fun _ h9 => h9) rfl dX5_part_65 ?_
            refine lv_aload_n hx hb dX5_part_68 rfl (lv_at hl 0 rfl) ?_
            refine va_get (D := D) (ci := 5) (v := .int (nI 0)) (C := RX5) (T := TX5) (N := 28) hx hb hts (inT inX5) hown hK hP 42 rfl rfl 3 (by decide) (hts (.fieldLink RX5 85 "BoardMovesModel" "parts" "I") (by decide +kernel)) (fun _ h9 => h9) rfl dX5_part_69 ?_
            refine lv_lload_n hx hb dX5_part_72 rfl (lv_at hl 2 rfl) ?_
            refine bm_last (f := ma.2.1) hx hb hK hP hD hS 44 0 rfl rfl (j := 0) (x := zB) (by omega) (by decide) dX5_part_73 (fun H locs hP hD hS => ?_)
            have hP : va_P D vwCl (WW ad cJ cI cZ bm pa p0 p1 p2 li wi (0) (ms.1, ms.2.1, 0, 0, 0, 0, 0, ms.2.2.2.2.2.2.2) (va_up ma.1 0 zA, va_up ma.2.1 0 zB, ma.2.2.1, ma.2.2.2.1, ma.2.2.2.2.1, ma.2.2.2.2.2.1, ma.2.2.2.2.2.2) mp mk mn ou) H := hP
            have hD : va_D A (WW ad cJ cI cZ bm pa p0 p1 p2 li wi (0) (ms.1, ms.2.1, 0, 0, 0, 0, 0, ms.2.2.2.2.2.2.2) (va_up ma.1 0 zA, va_up ma.2.1 0 zB, ma.2.2.1, ma.2.2.2.1, ma.2.2.2.2.1, ma.2.2.2.2.2.1, ma.2.2.2.2.2.2) mp mk mn ou) := hD
            refine lv_aload_n hx hb dX5_part_74 rfl (lv_at hl 0 rfl) ?_
            refine va_get (D := D) (ci := 5) (v := .ref (ad 45)) (C := RX5) (T := TX5) (N := 28) hx hb hts (inT inX5) hown hK hP 42 rfl rfl 6 (by decide) (hts (.fieldLink RX5 16 "BoardMovesModel" "sides" "[I") (by decide +kernel)) (fun _ h9 => h9) rfl dX5_part_75 ?_
            refine lv_aload_n hx hb dX5_part_78 rfl (lv_at hl 0 rfl) ?_
            refine va_get (D := D) (ci := 5) (v := .int (nI 0)) (C := RX5) (T := TX5) (N := 28) hx hb hts (inT inX5) hown hK hP 42 rfl rfl 3 (by decide) (hts (.fieldLink RX5 85 "BoardMovesModel" "parts" "I") (by decide +kernel)) (fun _ h9 => h9) rfl dX5_part_79 ?_
            refine lv_iload hx hb dX5_part_82 (lv_at hl 3 rfl) ?_
            refine bm_nast (f := ma.2.2.1) hx hb hK hP hD hS 45 1 rfl rfl (j := 0) (x := zC) (by omega) (by decide) dX5_part_84 (fun H locs hP hD hS => ?_)
            have hP : va_P D vwCl (WW ad cJ cI cZ bm pa p0 p1 p2 li wi (0) (ms.1, ms.2.1, 0, 0, 0, 0, 0, ms.2.2.2.2.2.2.2) (va_up ma.1 0 zA, va_up ma.2.1 0 zB, va_up ma.2.2.1 0 zC, ma.2.2.2.1, ma.2.2.2.2.1, ma.2.2.2.2.2.1, ma.2.2.2.2.2.2) mp mk mn ou) H := hP
            have hD : va_D A (WW ad cJ cI cZ bm pa p0 p1 p2 li wi (0) (ms.1, ms.2.1, 0, 0, 0, 0, 0, ms.2.2.2.2.2.2.2) (va_up ma.1 0 zA, va_up ma.2.1 0 zB, va_up ma.2.2.1 0 zC, ma.2.2.2.1, ma.2.2.2.2.1, ma.2.2.2.2.2.1, ma.2.2.2.2.2.2) mp mk mn ou) := hD
            refine lv_aload_n hx hb dX5_part_85 rfl (lv_at hl 0 rfl) ?_
            refine va_get (D := D) (ci := 5) (v := .ref (ad 48)) (C := RX5) (T := TX5) (N := 28) hx hb hts (inT inX5) hown hK hP 42 rfl rfl 9 (by decide) (hts (.fieldLink RX5 27 "BoardMovesModel" "groups" "[I") (by decide +kernel)) (fun _ h9 => h9) rfl dX5_part_86 ?_
            refine lv_aload_n hx hb dX5_part_89 rfl (lv_at hl 0 rfl) ?_
            refine va_get (D := D) (ci := 5) (v := .int (nI 0)) (C := RX5) (T := TX5) (N := 28) hx hb hts (inT inX5) hown hK hP 42 rfl rfl 3 (by decide) (hts (.fieldLink RX5 85 "BoardMovesModel" "parts" "I") (by decide +kernel)) (fun _ h9 => h9) rfl dX5_part_90 ?_
            refine lv_aload_n hx hb dX5_part_93 rfl (lv_at hl 0 rfl) ?_
            refine va_get (D := D) (ci := 5) (v := .int (nI 0)) (C := RX5) (T := TX5) (N := 28) hx hb hts (inT inX5) hown hK hP 42 rfl rfl 3 (by decide) (hts (.fieldLink RX5 85 "BoardMovesModel" "parts" "I") (by decide +kernel)) (fun _ h9 => h9) rfl dX5_part_94 ?_
            refine bm_nast (f := ma.2.2.2.2.2.1) hx hb hK hP hD hS 48 1 rfl rfl (j := 0) (x := 0) (by omega) (by decide) dX5_part_97 (fun H locs hP hD hS => ?_)
            have hP : va_P D vwCl (WW ad cJ cI cZ bm pa p0 p1 p2 li wi (0) (ms.1, ms.2.1, 0, 0, 0, 0, 0, ms.2.2.2.2.2.2.2) (va_up ma.1 0 zA, va_up ma.2.1 0 zB, va_up ma.2.2.1 0 zC, ma.2.2.2.1, ma.2.2.2.2.1, va_up ma.2.2.2.2.2.1 0 0, ma.2.2.2.2.2.2) mp mk mn ou) H := hP
            have hD : va_D A (WW ad cJ cI cZ bm pa p0 p1 p2 li wi (0) (ms.1, ms.2.1, 0, 0, 0, 0, 0, ms.2.2.2.2.2.2.2) (va_up ma.1 0 zA, va_up ma.2.1 0 zB, va_up ma.2.2.1 0 zC, ma.2.2.2.1, ma.2.2.2.2.1, va_up ma.2.2.2.2.2.1 0 0, ma.2.2.2.2.2.2) mp mk mn ou) := hD
            refine lv_aload_n hx hb dX5_part_98 rfl (lv_at hl 0 rfl) ?_
            refine lv_dup hx hb dX5_part_99 rfl ?_
            refine va_get (D := D) (ci := 5) (v := .int (nI 0)) (C := RX5) (T := TX5) (N := 28) hx hb hts (inT inX5) hown hK hP 42 rfl rfl 3 (by decide) (hts (.fieldLink RX5 85 "BoardMovesModel" "parts" "I") (by decide +kernel)) (fun _ h9 => h9) rfl dX5_part_100 ?_
            refine lv_iconst (v := nI 1) hx hb dX5_part_103 (by decide) ?_
            refine bm_nadd hx hb dX5_part_104 ?_
            refine va_put (D := D) (ci := 5) (v := .int (nI (0 + 1))) (ty := .int) (C := RX5) (T := TX5) (N := 28) hx hb hts (inT inX5) tyX5 tyX5_ok nmX5 hown hK hP hD hS 42 rfl rfl 3 (by decide) (hts (.fieldLink RX5 85 "BoardMovesModel" "parts" "I") (by decide +kernel)) (fun _ h9 => h9) rfl (by decide +kernel) rfl rfl (Nat.le_of_ble_eq_true rfl) dX5_part_105 (fun H locs hP hD hS => ?_)
            have hP : va_P D vwCl (WW ad cJ cI cZ bm pa p0 p1 p2 li wi (0) (ms.1, ms.2.1, 0 + 1, 0, 0, 0, 0, ms.2.2.2.2.2.2.2) (va_up ma.1 0 zA, va_up ma.2.1 0 zB, va_up ma.2.2.1 0 zC, ma.2.2.2.1, ma.2.2.2.2.1, va_up ma.2.2.2.2.2.1 0 0, ma.2.2.2.2.2.2) mp mk mn ou) H := hP
            have hD : va_D A (WW ad cJ cI cZ bm pa p0 p1 p2 li wi (0) (ms.1, ms.2.1, 0 + 1, 0, 0, 0, 0, ms.2.2.2.2.2.2.2) (va_up ma.1 0 zA, va_up ma.2.1 0 zB, va_up ma.2.2.1 0 zC, ma.2.2.2.1, ma.2.2.2.2.1, va_up ma.2.2.2.2.2.1 0 0, ma.2.2.2.2.2.2) mp mk mn ou) := hD
            refine lv_aload_n hx hb dX5_part_108 rfl (lv_at hl 0 rfl) ?_
            refine va_get (D := D) (ci := 5) (v := .int (nI (0 + 1))) (C := RX5) (T := TX5) (N := 28) hx hb hts (inT inX5) hown hK hP 42 rfl rfl 3 (by decide) (hts (.fieldLink RX5 85 "BoardMovesModel" "parts" "I") (by decide +kernel)) (fun _ h9 => h9) rfl dX5_part_109 ?_
            refine lv_iconst (v := nI 1) hx hb dX5_part_112 (by decide) ?_
            refine bm_nsub hx hb (by omega) dX5_part_113 ?_
            exact bm_iretW (v := (nI ((0 + 1) - 1))) hx hb hr hP hD hK hS ⟨rfl, rfl⟩ dX5_part_114 hlocks
          · exact absurd c_5 (by decide)
        · exact absurd c_4 (by decide)
      · refine lv_iload hx hb dX5_part_20 (lv_at hl 3 rfl) ?_
        refine lv_iconst (v := nI 1) hx hb dX5_part_22 (by decide) ?_
        refine bm_ni_ne (x := zC) (y := 1) (tgt := 30) hx hb (by omega) (by omega) dX5_part_23 (by decide) (fun c_6 => ?_) (fun c_6 => ?_)
        · exact absurd (show zC = 1 by omega) c_6
        · refine lv_iconst (v := nI 0) hx hb dX5_part_26 (by decide) ?_
          refine lv_goto (tgt := 31) hx hb dX5_part_27 (by decide) ?_
          refine va_put (D := D) (ci := 5) (v := .int (nI 0)) (ty := .int) (C := RX5) (T := TX5) (N := 28) hx hb hts (inT inX5) tyX5 tyX5_ok nmX5 hown hK hP hD hS 42 rfl rfl 0 (by decide) (hts (.fieldLink RX5 81 "BoardMovesModel" "thrown" "I") (by decide +kernel)) (fun _ h9 => h9) rfl (by decide +kernel) rfl rfl (Nat.le_of_ble_eq_true rfl) dX5_part_31 (fun H locs hP hD hS => ?_)
          have hP : va_P D vwCl (WW ad cJ cI cZ bm pa p0 p1 p2 li wi (0) (ms.1, ms.2.1, 0, 0, 0, 0, 0, ms.2.2.2.2.2.2.2) ma mp mk mn ou) H := hP
          have hD : va_D A (WW ad cJ cI cZ bm pa p0 p1 p2 li wi (0) (ms.1, ms.2.1, 0, 0, 0, 0, 0, ms.2.2.2.2.2.2.2) ma mp mk mn ou) := hD
          refine lv_aload_n hx hb dX5_part_34 rfl (lv_at hl 0 rfl) ?_
          refine va_get (D := D) (ci := 5) (v := .int (nI 0)) (C := RX5) (T := TX5) (N := 28) hx hb hts (inT inX5) hown hK hP 42 rfl rfl 0 (by decide) (hts (.fieldLink RX5 81 "BoardMovesModel" "thrown" "I") (by decide +kernel)) (fun _ h9 => h9) rfl dX5_part_35 ?_
          refine bm_nz_eq (x := 0) (tgt := 43) hx hb (by decide) dX5_part_38 (by decide) (fun c_7 => ?_) (fun c_7 => ?_)
          · refine lv_aload_n hx hb dX5_part_43 rfl (lv_at hl 0 rfl) ?_
            refine va_get (D := D) (ci := 5) (v := .int (nI 0)) (C := RX5) (T := TX5) (N := 28) hx hb hts (inT inX5) hown hK hP 42 rfl rfl 3 (by decide) (hts (.fieldLink RX5 85 "BoardMovesModel" "parts" "I") (by decide +kernel)) (fun _ h9 => h9) rfl dX5_part_44 ?_
            refine lv_bipush (v := nI 40) hx hb dX5_part_47 (by decide) ?_
            refine bm_ni_ne (x := 0) (y := 40) (tgt := 54) hx hb (by decide) (by decide) dX5_part_49 (by decide) (fun c_8 => ?_) (fun c_8 => ?_)
            · refine lv_aload_n hx hb dX5_part_54 rfl (lv_at hl 0 rfl) ?_
              refine va_get (D := D) (ci := 5) (v := .ref (ad 43)) (C := RX5) (T := TX5) (N := 28) hx hb hts (inT inX5) hown hK hP 42 rfl rfl 4 (by decide) (hts (.fieldLink RX5 7 "BoardMovesModel" "wide" "[J") (by decide +kernel)) (fun _ h9 => h9) rfl dX5_part_55 ?_
              refine lv_aload_n hx hb dX5_part_58 rfl (lv_at hl 0 rfl) ?_
              refine va_get (D := D) (ci := 5) (v := .int (nI 0)) (C := RX5) (T := TX5) (N := 28) hx hb hts (inT inX5) hown hK hP 42 rfl rfl 3 (by decide) (hts (.fieldLink RX5 85 "BoardMovesModel" "parts" "I") (by decide +kernel)) (fun _ h9 => h9) rfl dX5_part_59 ?_
              refine lv_lload_n hx hb dX5_part_62 rfl (lv_at hl 1 rfl) ?_
              refine bm_last (f := ma.1) hx hb hK hP hD hS 43 0 rfl rfl (j := 0) (x := zA) (by omega) (by decide) dX5_part_63 (fun H locs hP hD hS => ?_)
              have hP : va_P D vwCl (WW ad cJ cI cZ bm pa p0 p1 p2 li wi (0) (ms.1, ms.2.1, 0, 0, 0, 0, 0, ms.2.2.2.2.2.2.2) (va_up ma.1 0 zA, ma.2.1, ma.2.2.1, ma.2.2.2.1, ma.2.2.2.2.1, ma.2.2.2.2.2.1, ma.2.2.2.2.2.2) mp mk mn ou) H := hP
              have hD : va_D A (WW ad cJ cI cZ bm pa p0 p1 p2 li wi (0) (ms.1, ms.2.1, 0, 0, 0, 0, 0, ms.2.2.2.2.2.2.2) (va_up ma.1 0 zA, ma.2.1, ma.2.2.1, ma.2.2.2.1, ma.2.2.2.2.1, ma.2.2.2.2.2.1, ma.2.2.2.2.2.2) mp mk mn ou) := hD
              refine lv_aload_n hx hb dX5_part_64 rfl (lv_at hl 0 rfl) ?_
              refine va_get (D := D) (ci := 5) (v := .ref (ad 44)) (C := RX5) (T := TX5) (N := 28) hx hb hts (inT inX5) hown hK hP 42 rfl rfl 5 (by decide) (hts (.fieldLink RX5 13 "BoardMovesModel" "high" "[J") (by decide +kernel)) (fun _ h9 => h9) rfl dX5_part_65 ?_
              refine lv_aload_n hx hb dX5_part_68 rfl (lv_at hl 0 rfl) ?_
              refine va_get (D := D) (ci := 5) (v := .int (nI 0)) (C := RX5) (T := TX5) (N := 28) hx hb hts (inT inX5) hown hK hP 42 rfl rfl 3 (by decide) (hts (.fieldLink RX5 85 "BoardMovesModel" "parts" "I") (by decide +kernel)) (fun _ h9 => h9) rfl dX5_part_69 ?_
              refine lv_lload_n hx hb dX5_part_72 rfl (lv_at hl 2 rfl) ?_
              refine bm_last (f := ma.2.1) hx hb hK hP hD hS 44 0 rfl rfl (j := 0) (x := zB) (by omega) (by decide) dX5_part_73 (fun H locs hP hD hS => ?_)
              have hP : va_P D vwCl (WW ad cJ cI cZ bm pa p0 p1 p2 li wi (0) (ms.1, ms.2.1, 0, 0, 0, 0, 0, ms.2.2.2.2.2.2.2) (va_up ma.1 0 zA, va_up ma.2.1 0 zB, ma.2.2.1, ma.2.2.2.1, ma.2.2.2.2.1, ma.2.2.2.2.2.1, ma.2.2.2.2.2.2) mp mk mn ou) H := hP
              have hD : va_D A (WW ad cJ cI cZ bm pa p0 p1 p2 li wi (0) (ms.1, ms.2.1, 0, 0, 0, 0, 0, ms.2.2.2.2.2.2.2) (va_up ma.1 0 zA, va_up ma.2.1 0 zB, ma.2.2.1, ma.2.2.2.1, ma.2.2.2.2.1, ma.2.2.2.2.2.1, ma.2.2.2.2.2.2) mp mk mn ou) := hD
              refine lv_aload_n hx hb dX5_part_74 rfl (lv_at hl 0 rfl) ?_
              refine va_get (D := D) (ci := 5) (v := .ref (ad 45)) (C := RX5) (T := TX5) (N := 28) hx hb hts (inT inX5) hown hK hP 42 rfl rfl 6 (by decide) (hts (.fieldLink RX5 16 "BoardMovesModel" "sides" "[I") (by decide +kernel)) (fun _ h9 => h9) rfl dX5_part_75 ?_
              refine lv_aload_n hx hb dX5_part_78 rfl (lv_at hl 0 rfl) ?_
              refine va_get (D := D) (ci := 5) (v := .int (nI 0)) (C := RX5) (T := TX5) (N := 28) hx hb hts (inT inX5) hown hK hP 42 rfl rfl 3 (by decide) (hts (.fieldLink RX5 85 "BoardMovesModel" "parts" "I") (by decide +kernel)) (fun _ h9 => h9) rfl dX5_part_79 ?_
              refine lv_iload hx hb dX5_part_82 (lv_at hl 3 rfl) ?_
              refine bm_nast (f := ma.2.2.1) hx hb hK hP hD hS 45 1 rfl rfl (j := 0) (x := zC) (by omega) (by decide) dX5_part_84 (fun H locs hP hD hS => ?_)
              have hP : va_P D vwCl (WW ad cJ cI cZ bm pa p0 p1 p2 li wi (0) (ms.1, ms.2.1, 0, 0, 0, 0, 0, ms.2.2.2.2.2.2.2) (va_up ma.1 0 zA, va_up ma.2.1 0 zB, va_up ma.2.2.1 0 zC, ma.2.2.2.1, ma.2.2.2.2.1, ma.2.2.2.2.2.1, ma.2.2.2.2.2.2) mp mk mn ou) H := hP
              have hD : va_D A (WW ad cJ cI cZ bm pa p0 p1 p2 li wi (0) (ms.1, ms.2.1, 0, 0, 0, 0, 0, ms.2.2.2.2.2.2.2) (va_up ma.1 0 zA, va_up ma.2.1 0 zB, va_up ma.2.2.1 0 zC, ma.2.2.2.1, ma.2.2.2.2.1, ma.2.2.2.2.2.1, ma.2.2.2.2.2.2) mp mk mn ou) := hD
              refine lv_aload_n hx hb dX5_part_85 rfl (lv_at hl 0 rfl) ?_
              refine va_get (D := D) (ci := 5) (v := .ref (ad 48)) (C := RX5) (T := TX5) (N := 28) hx hb hts (inT inX5) hown hK hP 42 rfl rfl 9 (by decide) (hts (.fieldLink RX5 27 "BoardMovesModel" "groups" "[I") (by decide +kernel)) (fun _ h9 => h9) rfl dX5_part_86 ?_
              refine lv_aload_n hx hb dX5_part_89 rfl (lv_at hl 0 rfl) ?_
              refine va_get (D := D) (ci := 5) (v := .int (nI 0)) (C := RX5) (T := TX5) (N := 28) hx hb hts (inT inX5) hown hK hP 42 rfl rfl 3 (by decide) (hts (.fieldLink RX5 85 "BoardMovesModel" "parts" "I") (by decide +kernel)) (fun _ h9 => h9) rfl dX5_part_90 ?_
              refine lv_aload_n hx hb dX5_part_93 rfl (lv_at hl 0 rfl) ?_
              refine va_get (D := D) (ci := 5) (v := .int (nI 0)) (C := RX5) (T := TX5) (N := 28) hx hb hts (inT inX5) hown hK hP 42 rfl rfl 3 (by decide) (hts (.fieldLink RX5 85 "BoardMovesModel" "parts" "I") (by decide +kernel)) (fun _ h9 => h9) rfl dX5_part_94 ?_
              refine bm_nast (f := ma.2.2.2.2.2.1) hx hb hK hP hD hS 48 1 rfl rfl (j := 0) (x := 0) (by omega) (by decide) dX5_part_97 (fun H locs hP hD hS => ?_)
              have hP : va_P D vwCl (WW ad cJ cI cZ bm pa p0 p1 p2 li wi (0) (ms.1, ms.2.1, 0, 0, 0, 0, 0, ms.2.2.2.2.2.2.2) (va_up ma.1 0 zA, va_up ma.2.1 0 zB, va_up ma.2.2.1 0 zC, ma.2.2.2.1, ma.2.2.2.2.1, va_up ma.2.2.2.2.2.1 0 0, ma.2.2.2.2.2.2) mp mk mn ou) H := hP
              have hD : va_D A (WW ad cJ cI cZ bm pa p0 p1 p2 li wi (0) (ms.1, ms.2.1, 0, 0, 0, 0, 0, ms.2.2.2.2.2.2.2) (va_up ma.1 0 zA, va_up ma.2.1 0 zB, va_up ma.2.2.1 0 zC, ma.2.2.2.1, ma.2.2.2.2.1, va_up ma.2.2.2.2.2.1 0 0, ma.2.2.2.2.2.2) mp mk mn ou) := hD
              refine lv_aload_n hx hb dX5_part_98 rfl (lv_at hl 0 rfl) ?_
              refine lv_dup hx hb dX5_part_99 rfl ?_
              refine va_get (D := D) (ci := 5) (v := .int (nI 0)) (C := RX5) (T := TX5) (N := 28) hx hb hts (inT inX5) hown hK hP 42 rfl rfl 3 (by decide) (hts (.fieldLink RX5 85 "BoardMovesModel" "parts" "I") (by decide +kernel)) (fun _ h9 => h9) rfl dX5_part_100 ?_
              refine lv_iconst (v := nI 1) hx hb dX5_part_103 (by decide) ?_
              refine bm_nadd hx hb dX5_part_104 ?_
              refine va_put (D := D) (ci := 5) (v := .int (nI (0 + 1))) (ty := .int) (C := RX5) (T := TX5) (N := 28) hx hb hts (inT inX5) tyX5 tyX5_ok nmX5 hown hK hP hD hS 42 rfl rfl 3 (by decide) (hts (.fieldLink RX5 85 "BoardMovesModel" "parts" "I") (by decide +kernel)) (fun _ h9 => h9) rfl (by decide +kernel) rfl rfl (Nat.le_of_ble_eq_true rfl) dX5_part_105 (fun H locs hP hD hS => ?_)
              have hP : va_P D vwCl (WW ad cJ cI cZ bm pa p0 p1 p2 li wi (0) (ms.1, ms.2.1, 0 + 1, 0, 0, 0, 0, ms.2.2.2.2.2.2.2) (va_up ma.1 0 zA, va_up ma.2.1 0 zB, va_up ma.2.2.1 0 zC, ma.2.2.2.1, ma.2.2.2.2.1, va_up ma.2.2.2.2.2.1 0 0, ma.2.2.2.2.2.2) mp mk mn ou) H := hP
              have hD : va_D A (WW ad cJ cI cZ bm pa p0 p1 p2 li wi (0) (ms.1, ms.2.1, 0 + 1, 0, 0, 0, 0, ms.2.2.2.2.2.2.2) (va_up ma.1 0 zA, va_up ma.2.1 0 zB, va_up ma.2.2.1 0 zC, ma.2.2.2.1, ma.2.2.2.2.1, va_up ma.2.2.2.2.2.1 0 0, ma.2.2.2.2.2.2) mp mk mn ou) := hD
              refine lv_aload_n hx hb dX5_part_108 rfl (lv_at hl 0 rfl) ?_
              refine va_get (D := D) (ci := 5) (v := .int (nI (0 + 1))) (C := RX5) (T := TX5) (N := 28) hx hb hts (inT inX5) hown hK hP 42 rfl rfl 3 (by decide) (hts (.fieldLink RX5 85 "BoardMovesModel" "parts" "I") (by decide +kernel)) (fun _ h9 => h9) rfl dX5_part_109 ?_
              refine lv_iconst (v := nI 1) hx hb dX5_part_112 (by decide) ?_
              refine bm_nsub hx hb (by omega) dX5_part_113 ?_
              exact bm_iretW (v := (nI ((0 + 1) - 1))) hx hb hr hP hD hK hS ⟨rfl, rfl⟩ dX5_part_114 hlocks
            · exact absurd c_8 (by decide)
          · exact absurd c_7 (by decide)

set_option maxHeartbeats 4000000 in
set_option maxRecDepth 100000 in
theorem m_partX {l : Launch} {D : va_G} {ad : Nat → Nat} {cJ cI cZ : ClassId} {bm : gBM} {pa : gPA} {p0 p1 p2 : gPL} {li : gLI} {wi : gWI} {mt : Nat} {ms : gMS} {ma : gMA} {mp : gMP} {mk : gMK} {mn : gMN} {ou : Nat → Int64} {zA zB : Int64} {zC : Int32} (hv : q_pv zA zB zC = false) : bm_Wr l yX5_part wsX5_part ({ frames := 1, cells := 0, slots := 0, locals := 21 }) D vwCl [(cJ, .long), (cI, .int), (cZ, .boolean)] (WW ad cJ cI cZ bm pa p0 p1 p2 li wi mt (ms.1, ms.2.1, 0, 0, 0, 0, 0, ms.2.2.2.2.2.2.2) ma mp mk mn ou) [.ref (ad 42), .long zA, .long zB, .int zC] (WW ad cJ cI cZ bm pa p0 p1 p2 li wi (1) (ms.1, ms.2.1, 0, 0, 0, 0, 0, ms.2.2.2.2.2.2.2) ma mp mk mn ou) (some (.int (nI 0))) := by
  intro sz
  refine Met.ofW (cc := cX5_part) (maxL := 6) (ret := (some .int)) (by decide) rfl ?_
  intro p e s m args below meth c s₁ B hml hv
  obtain ⟨ha, hsz, hP, hK, hD0⟩ := hv
  have hx := B.exec
  have hb := B.bytes
  have hr := B.returns
  have hts := atoms_spec (ws := wsX5_part) B.pre
  have hown : s.vm.findClass RX5 = some m.cls := findClass_of_methodNamed B.named
  have hlocks := B.notSynchronized
  subst hsz
  have hD := hD0.self (sz := s.heap.size)
  generalize hAe : va_A (WW ad cJ cI cZ bm pa p0 p1 p2 li wi mt (ms.1, ms.2.1, 0, 0, 0, 0, 0, ms.2.2.2.2.2.2.2) ma mp mk mn ou) s.heap.size = A at hD ⊢
  have hA : ∀ q : Nat, s.heap.size ≤ q → A q := fun q h => by rw [← hAe]; exact Or.inr h
  have hS : va_S A s.heap s.heap [] := va_S.rf
  have hl := lv_entry ([.ref (ad 42), .long zA, .long zB, .int zC]) (n := 6) (Nat.le_of_ble_eq_true rfl)
  refine W.eq (g2 := entryFrame m ([.ref (ad 42), .long zA, .long zB, .int zC] : List Value).toArray 6) (by rw [ha]) ?_
  rw [lg_entry_eq]
  generalize (lg_sl ([.ref (ad 42), .long zA, .long zB, .int zC]) ++ List.replicate (6 - (lg_sl ([.ref (ad 42), .long zA, .long zB, .int zC])).length) Slot.unset).toArray = ls at hl ⊢
  have hl : lv_has ls 6 [(0, .ref (ad 42)), (1, .long zA), (3, .long zB), (5, .int zC)] := hl
  refine lv_aload_n hx hb dX5_part_0 rfl (lv_at hl 0 rfl) ?_
  refine lv_lload_n hx hb dX5_part_1 rfl (lv_at hl 1 rfl) ?_
  refine bm_rcallS (As := [.long zA]) (rest := [.ref (ad 42)]) ⟨hx, hb, hml, hown, hts⟩ (m_size) (cwS 1 hts (gdS (by decide +kernel) (by decide +kernel) (by decide +kernel) (by decide +kernel)) rfl rfl rfl (by decide +kernel) ⟨Nat.le_of_ble_eq_true rfl, Nat.le_of_ble_eq_true rfl⟩) hK hP rfl hl.1 rfl (Nat.le_of_ble_eq_true rfl) dX5_part_2 ⟨Nat.le_of_ble_eq_true rfl, Nat.le_of_ble_eq_true rfl⟩ ?_
  refine bm_zb_eq (x := (q_len zA)) (tgt := 30) hx hb dX5_part_5 (by decide) (fun c_1 => ?_) (fun c_1 => ?_)
  · refine lv_iconst (v := nI 1) hx hb dX5_part_30 (by decide) ?_
    refine va_put (D := D) (ci := 5) (v := .int (nI 1)) (ty := .int) (C := RX5) (T := TX5) (N := 28) hx hb hts (inT inX5) tyX5 tyX5_ok nmX5 hown hK hP hD hS 42 rfl rfl 0 (by decide) (hts (.fieldLink RX5 81 "BoardMovesModel" "thrown" "I") (by decide +kernel)) (fun _ h9 => h9) rfl (by decide +kernel) rfl rfl (Nat.le_of_ble_eq_true rfl) dX5_part_31 (fun H locs hP hD hS => ?_)
    have hP : va_P D vwCl (WW ad cJ cI cZ bm pa p0 p1 p2 li wi (1) (ms.1, ms.2.1, 0, 0, 0, 0, 0, ms.2.2.2.2.2.2.2) ma mp mk mn ou) H := hP
    have hD : va_D A (WW ad cJ cI cZ bm pa p0 p1 p2 li wi (1) (ms.1, ms.2.1, 0, 0, 0, 0, 0, ms.2.2.2.2.2.2.2) ma mp mk mn ou) := hD
    refine lv_aload_n hx hb dX5_part_34 rfl (lv_at hl 0 rfl) ?_
    refine va_get (D := D) (ci := 5) (v := .int (nI 1)) (C := RX5) (T := TX5) (N := 28) hx hb hts (inT inX5) hown hK hP 42 rfl rfl 0 (by decide) (hts (.fieldLink RX5 81 "BoardMovesModel" "thrown" "I") (by decide +kernel)) (fun _ h9 => h9) rfl dX5_part_35 ?_
    refine bm_nz_eq (x := 1) (tgt := 43) hx hb (by decide) dX5_part_38 (by decide) (fun c_2 => ?_) (fun c_2 => ?_)
    · exact absurd c_2 (by decide)
    · refine lv_iconst (v := nI 0) hx hb dX5_part_41 (by decide) ?_
      exact bm_iretW (v := (nI 0)) hx hb hr hP hD hK hS ⟨rfl, rfl⟩ dX5_part_42 hlocks
  · refine lv_lload_n hx hb dX5_part_8 rfl (lv_at hl 2 rfl) ?_
    refine bm_rcallS (As := [.long zB]) (rest := [.ref (ad 42)]) ⟨hx, hb, hml, hown, hts⟩ (m_size) (cwS 1 hts (gdS (by decide +kernel) (by decide +kernel) (by decide +kernel) (by decide +kernel)) rfl rfl rfl (by decide +kernel) ⟨Nat.le_of_ble_eq_true rfl, Nat.le_of_ble_eq_true rfl⟩) hK hP rfl hl.1 rfl (Nat.le_of_ble_eq_true rfl) dX5_part_9 ⟨Nat.le_of_ble_eq_true rfl, Nat.le_of_ble_eq_true rfl⟩ ?_
    refine bm_zb_eq (x := (q_len zB)) (tgt := 30) hx hb dX5_part_12 (by decide) (fun c_3 => ?_) (fun c_3 => ?_)
    · refine lv_iconst (v := nI 1) hx hb dX5_part_30 (by decide) ?_
      refine va_put (D := D) (ci := 5) (v := .int (nI 1)) (ty := .int) (C := RX5) (T := TX5) (N := 28) hx hb hts (inT inX5) tyX5 tyX5_ok nmX5 hown hK hP hD hS 42 rfl rfl 0 (by decide) (hts (.fieldLink RX5 81 "BoardMovesModel" "thrown" "I") (by decide +kernel)) (fun _ h9 => h9) rfl (by decide +kernel) rfl rfl (Nat.le_of_ble_eq_true rfl) dX5_part_31 (fun H locs hP hD hS => ?_)
      have hP : va_P D vwCl (WW ad cJ cI cZ bm pa p0 p1 p2 li wi (1) (ms.1, ms.2.1, 0, 0, 0, 0, 0, ms.2.2.2.2.2.2.2) ma mp mk mn ou) H := hP
      have hD : va_D A (WW ad cJ cI cZ bm pa p0 p1 p2 li wi (1) (ms.1, ms.2.1, 0, 0, 0, 0, 0, ms.2.2.2.2.2.2.2) ma mp mk mn ou) := hD
      refine lv_aload_n hx hb dX5_part_34 rfl (lv_at hl 0 rfl) ?_
      refine va_get (D := D) (ci := 5) (v := .int (nI 1)) (C := RX5) (T := TX5) (N := 28) hx hb hts (inT inX5) hown hK hP 42 rfl rfl 0 (by decide) (hts (.fieldLink RX5 81 "BoardMovesModel" "thrown" "I") (by decide +kernel)) (fun _ h9 => h9) rfl dX5_part_35 ?_
      refine bm_nz_eq (x := 1) (tgt := 43) hx hb (by decide) dX5_part_38 (by decide) (fun c_4 => ?_) (fun c_4 => ?_)
      · exact absurd c_4 (by decide)
      · refine lv_iconst (v := nI 0) hx hb dX5_part_41 (by decide) ?_
        exact bm_iretW (v := (nI 0)) hx hb hr hP hD hK hS ⟨rfl, rfl⟩ dX5_part_42 hlocks
    · refine lv_iload hx hb dX5_part_15 (lv_at hl 3 rfl) ?_
      refine lv_if_eq (x := zC) (tgt := 26) hx hb dX5_part_17 (by decide) (fun c_5 => ?_) (fun c_5 => ?_)
      · exact absurd hv (by simp [q_pv, c_1, c_3, c_5])
      · refine lv_iload hx hb dX5_part_20 (lv_at hl 3 rfl) ?_
        refine lv_iconst (v := 1) hx hb dX5_part_22 (by decide) ?_
        refine lv_icmp_ne (x := zC) (y := 1) (tgt := 30) hx hb dX5_part_23 (by decide) (fun c_6 => ?_) (fun c_6 => ?_)
        · refine lv_iconst (v := nI 1) hx hb dX5_part_30 (by decide) ?_
          refine va_put (D := D) (ci := 5) (v := .int (nI 1)) (ty := .int) (C := RX5) (T := TX5) (N := 28) hx hb hts (inT inX5) tyX5 tyX5_ok nmX5 hown hK hP hD hS 42 rfl rfl 0 (by decide) (hts (.fieldLink RX5 81 "BoardMovesModel" "thrown" "I") (by decide +kernel)) (fun _ h9 => h9) rfl (by decide +kernel) rfl rfl (Nat.le_of_ble_eq_true rfl) dX5_part_31 (fun H locs hP hD hS => ?_)
          have hP : va_P D vwCl (WW ad cJ cI cZ bm pa p0 p1 p2 li wi (1) (ms.1, ms.2.1, 0, 0, 0, 0, 0, ms.2.2.2.2.2.2.2) ma mp mk mn ou) H := hP
          have hD : va_D A (WW ad cJ cI cZ bm pa p0 p1 p2 li wi (1) (ms.1, ms.2.1, 0, 0, 0, 0, 0, ms.2.2.2.2.2.2.2) ma mp mk mn ou) := hD
          refine lv_aload_n hx hb dX5_part_34 rfl (lv_at hl 0 rfl) ?_
          refine va_get (D := D) (ci := 5) (v := .int (nI 1)) (C := RX5) (T := TX5) (N := 28) hx hb hts (inT inX5) hown hK hP 42 rfl rfl 0 (by decide) (hts (.fieldLink RX5 81 "BoardMovesModel" "thrown" "I") (by decide +kernel)) (fun _ h9 => h9) rfl dX5_part_35 ?_
          refine bm_nz_eq (x := 1) (tgt := 43) hx hb (by decide) dX5_part_38 (by decide) (fun c_7 => ?_) (fun c_7 => ?_)
          · exact absurd c_7 (by decide)
          · refine lv_iconst (v := nI 0) hx hb dX5_part_41 (by decide) ?_
            exact bm_iretW (v := (nI 0)) hx hb hr hP hD hK hS ⟨rfl, rfl⟩ dX5_part_42 hlocks
        · exact absurd hv (by simp [q_pv, c_1, c_3, c_5, c_6])
