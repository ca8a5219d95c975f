set_option maxHeartbeats 4000000 in
set_option maxRecDepth 100000 in
theorem m_isWell {l : Launch} {D : va_G} {ad : Nat → Nat} {cJ cI cZ : ClassId} {bm : gBM} {pa : gPA} {p0 p1 p2 : gPL} {li : gLI} {wi : gWI} {mt : Nat} {ms : gMS} {ma : gMA} {mp : gMP} {mk : gMK} {mn : gMN} {ou : Nat → Int64}  : bm_Rd l yX5_isWell wsX5_isWell ({ frames := 0, cells := 0, slots := 0, locals := 0 }) D vwCl [(cJ, .long), (cI, .int), (cZ, .boolean)] (WW ad cJ cI cZ bm pa p0 p1 p2 li wi mt (ms.1, ms.2.1, 0, 0 + 1, 0, 0, 0, ms.2.2.2.2.2.2.2) ma mp mk mn ou) [.ref (ad 42), .int (nI 0)] (.int (bm_b true)) := by
  refine Met.ofW (cc := cX5_isWell) (maxL := 4) (ret := (some .boolean)) (by decide) rfl ?_
  intro p e s m args below meth c s₁ B hml hv
  obtain ⟨ha, hP, hK⟩ := hv
  have hx := B.exec
  have hb := B.bytes
  have hr := B.returns
  have hts := atoms_spec (ws := wsX5_isWell) B.pre
  have hown : s.vm.findClass RX5 = some m.cls := findClass_of_methodNamed B.named
  have hlocks := B.notSynchronized
  have hl := lv_entry ([.ref (ad 42), .int (nI 0)]) (n := 4) (Nat.le_of_ble_eq_true rfl)
  refine W.eq (g2 := entryFrame m ([.ref (ad 42), .int (nI 0)] : List Value).toArray 4) (by rw [ha]) ?_
  rw [lg_entry_eq]
  generalize (lg_sl ([.ref (ad 42), .int (nI 0)]) ++ List.replicate (4 - (lg_sl ([.ref (ad 42), .int (nI 0)])).length) Slot.unset).toArray = ls at hl ⊢
  have hl : lv_has ls 4 [(0, .ref (ad 42)), (1, .int (nI 0))] := hl
  refine lv_iconst (v := nI 0) hx hb dX5_isWell_0 (by decide) ?_
  refine lv_istore_n (lv' := [(2, .int (nI 0)), (0, .ref (ad 42)), (1, .int (nI 0))]) hx hb dX5_isWell_1 rfl hl (by decide) rfl (fun ls hl => ?_)
  refine lv_iload_n hx hb dX5_isWell_2 rfl (lv_at hl 0 rfl) ?_
  refine lv_aload_n hx hb dX5_isWell_3 rfl (lv_at hl 1 rfl) ?_
  refine va_get (D := D) (ci := 5) (v := .int (nI 0)) (C := RX5) (T := TX5) (N := 28) hx hb hts (inT inX5) hown hK hP 42 rfl rfl 3 (by decide) (hts (.fieldLink RX5 85 "BoardMovesModel" "parts" "I") (by decide +kernel)) (fun _ h9 => h9) rfl dX5_isWell_4 ?_
  refine bm_ni_ge (x := 0) (y := 0) (tgt := 97) hx hb (by decide) (by decide) dX5_isWell_7 (by decide) (fun c_1 => ?_) (fun c_1 => ?_)
  · refine lv_iconst (v := bm_b true) hx hb dX5_isWell_97 (by decide) ?_
    refine lv_istore_n (lv' := [(2, .int (bm_b true)), (0, .ref (ad 42)), (1, .int (nI 0))]) hx hb dX5_isWell_98 rfl hl (by decide) rfl (fun ls hl => ?_)
    refine lv_iconst (v := nI 0) hx hb dX5_isWell_99 (by decide) ?_
    refine lv_istore_n (lv' := [(3, .int (nI 0)), (2, .int (bm_b true)), (0, .ref (ad 42)), (1, .int (nI 0))]) hx hb dX5_isWell_100 rfl hl (by decide) rfl (fun ls hl => ?_)
    refine lv_iload_n hx hb dX5_isWell_101 rfl (lv_at hl 0 rfl) ?_
    refine lv_aload_n hx hb dX5_isWell_102 rfl (lv_at hl 2 rfl) ?_
    refine va_get (D := D) (ci := 5) (v := .int (nI 0)) (C := RX5) (T := TX5) (N := 28) hx hb hts (inT inX5) hown hK hP 42 rfl rfl 16 (by decide) (hts (.fieldLink RX5 126 "BoardMovesModel" "nears" "I") (by decide +kernel)) (fun _ h9 => h9) rfl dX5_isWell_103 ?_
    refine bm_ni_ge (x := 0) (y := 0) (tgt := 134) hx hb (by decide) (by decide) dX5_isWell_106 (by decide) (fun c_2 => ?_) (fun c_2 => ?_)
    · refine lv_iload_n hx hb dX5_isWell_134 rfl (lv_at hl 1 rfl) ?_
      exact bm_zretR (v := true) hx hb hr rfl dX5_isWell_135 hlocks
    · exact absurd c_2 (by decide)
  · exact absurd c_1 (by decide)

set_option maxHeartbeats 4000000 in
set_option maxRecDepth 100000 in
theorem m_koX {l : Launch} {D : va_G} {ad : Nat → Nat} {cJ cI cZ : ClassId} {bm : gBM} {pa : gPA} {p0 p1 p2 : gPL} {li : gLI} {wi : gWI} {mt : Nat} {ms : gMS} {ma : gMA} {mp : gMP} {mk : gMK} {mn : gMN} {ou : Nat → Int64} {zA zB zC zD zE : Int64} (hv : zE < 0) : bm_Wr l yX5_keepOut wsX5_keepOut ({ frames := 0, cells := 0, slots := 0, locals := 0 }) D vwCl [(cJ, .long), (cI, .int), (cZ, .boolean)] (WW ad cJ cI cZ bm pa p0 p1 p2 li wi mt (ms.1, ms.2.1, 0, 0, 0, 0, 0, ms.2.2.2.2.2.2.2) ma mp mk mn ou) [.ref (ad 42), .long zA, .long zB, .long zC, .long zD, .long zE] (WW ad cJ cI cZ bm pa p0 p1 p2 li wi (1) (ms.1, ms.2.1, 0, 0, 0, 0, 0, ms.2.2.2.2.2.2.2) ma mp mk mn ou) (some (.int (bm_b false))) := by
  intro sz
  refine Met.ofW (cc := cX5_keepOut) (maxL := 12) (ret := (some .boolean)) (by decide) rfl ?_
  intro p e s m args below meth c s₁ B hml hv
  obtain ⟨ha, hsz, hP, hK, hD0⟩ := hv
  have hx := B.exec
  have hb := B.bytes
  have hr := B.returns
  have hts := atoms_spec (ws := wsX5_keepOut) B.pre
  have hown : s.vm.findClass RX5 = some m.cls := findClass_of_methodNamed B.named
  have hlocks := B.notSynchronized
  subst hsz
  have hD := hD0.self (sz := s.heap.size)
  generalize hAe : va_A (WW ad cJ cI cZ bm pa p0 p1 p2 li wi mt (ms.1, ms.2.1, 0, 0, 0, 0, 0, ms.2.2.2.2.2.2.2) ma mp mk mn ou) s.heap.size = A at hD ⊢
  have hA : ∀ q : Nat, s.heap.size ≤ q → A q := fun q h => by rw [← hAe]; exact Or.inr h
  have hS : va_S A s.heap s.heap [] := va_S.rf
  have hl := lv_entry ([.ref (ad 42), .long zA, .long zB, .long zC, .long zD, .long zE]) (n := 12) (Nat.le_of_ble_eq_true rfl)
  refine W.eq (g2 := entryFrame m ([.ref (ad 42), .long zA, .long zB, .long zC, .long zD, .long zE] : List Value).toArray 12) (by rw [ha]) ?_
  rw [lg_entry_eq]
  generalize (lg_sl ([.ref (ad 42), .long zA, .long zB, .long zC, .long zD, .long zE]) ++ List.replicate (12 - (lg_sl ([.ref (ad 42), .long zA, .long zB, .long zC, .long zD, .long zE])).length) Slot.unset).toArray = ls at hl ⊢
  have hl : lv_has ls 12 [(0, .ref (ad 42)), (1, .long zA), (3, .long zB), (5, .long zC), (7, .long zD), (9, .long zE)] := hl
  refine lv_aload_n hx hb dX5_keepOut_0 rfl (lv_at hl 0 rfl) ?_
  refine lv_lload hx hb dX5_keepOut_1 (lv_at hl 5 rfl) ?_
  refine lv_lconst (v := 0) hx hb dX5_keepOut_3 (by decide) ?_
  refine bm_lc_ge (x := zE) (y := 0) (tgt := 12) hx hb dX5_keepOut_4 dX5_keepOut_5 (by decide) (fun c_1 => ?_) (fun c_1 => ?_)
  · exact absurd hv c_1
  · refine lv_iconst (v := nI 1) hx hb dX5_keepOut_8 (by decide) ?_
    refine lv_goto (tgt := 13) hx hb dX5_keepOut_9 (by decide) ?_
    refine va_put (D := D) (ci := 5) (v := .int (nI 1)) (ty := .int) (C := RX5) (T := TX5) (N := 28) hx hb hts (inT inX5) tyX5 tyX5_ok nmX5 hown hK hP hD hS 42 rfl rfl 0 (by decide) (hts (.fieldLink RX5 81 "BoardMovesModel" "thrown" "I") (by decide +kernel)) (fun _ h9 => h9) rfl (by decide +kernel) rfl rfl (Nat.le_of_ble_eq_true rfl) dX5_keepOut_13 (fun H locs hP hD hS => ?_)
    have hP : va_P D vwCl (WW ad cJ cI cZ bm pa p0 p1 p2 li wi (1) (ms.1, ms.2.1, 0, 0, 0, 0, 0, ms.2.2.2.2.2.2.2) ma mp mk mn ou) H := hP
    have hD : va_D A (WW ad cJ cI cZ bm pa p0 p1 p2 li wi (1) (ms.1, ms.2.1, 0, 0, 0, 0, 0, ms.2.2.2.2.2.2.2) ma mp mk mn ou) := hD
    refine lv_aload_n hx hb dX5_keepOut_16 rfl (lv_at hl 0 rfl) ?_
    refine va_get (D := D) (ci := 5) (v := .int (nI 1)) (C := RX5) (T := TX5) (N := 28) hx hb hts (inT inX5) hown hK hP 42 rfl rfl 0 (by decide) (hts (.fieldLink RX5 81 "BoardMovesModel" "thrown" "I") (by decide +kernel)) (fun _ h9 => h9) rfl dX5_keepOut_17 ?_
    refine bm_nz_ne (x := 1) (tgt := 46) hx hb (by decide) dX5_keepOut_20 (by decide) (fun c_2 => ?_) (fun c_2 => ?_)
    · refine lv_iconst (v := bm_b false) hx hb dX5_keepOut_46 (by decide) ?_
      exact bm_zretW (v := false) hx hb hr hP hD hK hS ⟨rfl, rfl⟩ dX5_keepOut_47 hlocks
    · exact absurd c_2 (by decide)

set_option maxHeartbeats 4000000 in
set_option maxRecDepth 100000 in
theorem m_koN {l : Launch} {D : va_G} {ad : Nat → Nat} {cJ cI cZ : ClassId} {bm : gBM} {pa : gPA} {p0 p1 p2 : gPL} {li : gLI} {wi : gWI} {mt : Nat} {ms : gMS} {ma : gMA} {mp : gMP} {mk : gMK} {mn : gMN} {ou : Nat → Int64} {zA zB zC zD zE : Int64} (hv : ¬ zE < 0) (h1 : q_tr zA zB zC zD = true) : bm_Wr l yX5_keepOut wsX5_keepOut ({ frames := 0, cells := 0, slots := 0, locals := 0 }) D vwCl [(cJ, .long), (cI, .int), (cZ, .boolean)] (WW ad cJ cI cZ bm pa p0 p1 p2 li wi mt (ms.1, ms.2.1, 0, 0, 0, 0, 0, ms.2.2.2.2.2.2.2) ma mp mk mn ou) [.ref (ad 42), .long zA, .long zB, .long zC, .long zD, .long zE] (WW ad cJ cI cZ bm pa p0 p1 p2 li wi (0) (ms.1, ms.2.1, 0, 0, 0, 0, 0, ms.2.2.2.2.2.2.2) ma mp mk mn ou) (some (.int (bm_b false))) := by
  intro sz
  refine Met.ofW (cc := cX5_keepOut) (maxL := 12) (ret := (some .boolean)) (by decide) rfl ?_
  intro p e s m args below meth c s₁ B hml hv
  obtain ⟨ha, hsz, hP, hK, hD0⟩ := hv
  have hx := B.exec
  have hb := B.bytes
  have hr := B.returns
  have hts := atoms_spec (ws := wsX5_keepOut) B.pre
  have hown : s.vm.findClass RX5 = some m.cls := findClass_of_methodNamed B.named
  have hlocks := B.notSynchronized
  subst hsz
  have hD := hD0.self (sz := s.heap.size)
  generalize hAe : va_A (WW ad cJ cI cZ bm pa p0 p1 p2 li wi mt (ms.1, ms.2.1, 0, 0, 0, 0, 0, ms.2.2.2.2.2.2.2) ma mp mk mn ou) s.heap.size = A at hD ⊢
  have hA : ∀ q : Nat, s.heap.size ≤ q → A q := fun q h => by rw [← hAe]; exact Or.inr h
  have hS : va_S A s.heap s.heap [] := va_S.rf
  have hl := lv_entry ([.ref (ad 42), .long zA, .long zB, .long zC, .long zD, .long zE]) (n := 12) (Nat.le_of_ble_eq_true rfl)
  refine W.eq (g2 := entryFrame m ([.ref (ad 42), .long zA, .long zB, .long zC, .long zD, .long zE] : List Value).toArray 12) (by rw [ha]) ?_
  rw [lg_entry_eq]
  generalize (lg_sl ([.ref (ad 42), .long zA, .long zB, .long zC, .long zD, .long zE]) ++ List.replicate (12 - (lg_sl ([.ref (ad 42), .long zA, .long zB, .long zC, .long zD, .long zE])).length) Slot.unset).toArray = ls at hl ⊢
  have hl : lv_has ls 12 [(0, .ref (ad 42)), (1, .long zA), (3, .long zB), (5, .long zC), (7, .long zD), (9, .long zE)] := hl
  refine lv_aload_n hx hb dX5_keepOut_0 rfl (lv_at hl 0 rfl) ?_
  refine lv_lload hx hb dX5_keepOut_1 (lv_at hl 5 rfl) ?_
  refine lv_lconst (v := 0) hx hb dX5_keepOut_3 (by decide) ?_
  refine bm_lc_ge (x := zE) (y := 0) (tgt := 12) hx hb dX5_keepOut_4 dX5_keepOut_5 (by decide) (fun c_1 => ?_) (fun c_1 => ?_)
  · refine lv_iconst (v := nI 0) hx hb dX5_keepOut_12 (by decide) ?_
    refine va_put (D := D) (ci := 5) (v := .int (nI 0)) (ty := .int) (C := RX5) (T := TX5) (N := 28) hx hb hts (inT inX5) tyX5 tyX5_ok nmX5 hown hK hP hD hS 42 rfl rfl 0 (by decide) (hts (.fieldLink RX5 81 "BoardMovesModel" "thrown" "I") (by decide +kernel)) (fun _ h9 => h9) rfl (by decide +kernel) rfl rfl (Nat.le_of_ble_eq_true rfl) dX5_keepOut_13 (fun H locs hP hD hS => ?_)
    have hP : va_P D vwCl (WW ad cJ cI cZ bm pa p0 p1 p2 li wi (0) (ms.1, ms.2.1, 0, 0, 0, 0, 0, ms.2.2.2.2.2.2.2) ma mp mk mn ou) H := hP
    have hD : va_D A (WW ad cJ cI cZ bm pa p0 p1 p2 li wi (0) (ms.1, ms.2.1, 0, 0, 0, 0, 0, ms.2.2.2.2.2.2.2) ma mp mk mn ou) := hD
    refine lv_aload_n hx hb dX5_keepOut_16 rfl (lv_at hl 0 rfl) ?_
    refine va_get (D := D) (ci := 5) (v := .int (nI 0)) (C := RX5) (T := TX5) (N := 28) hx hb hts (inT inX5) hown hK hP 42 rfl rfl 0 (by decide) (hts (.fieldLink RX5 81 "BoardMovesModel" "thrown" "I") (by decide +kernel)) (fun _ h9 => h9) rfl dX5_keepOut_17 ?_
    refine bm_nz_ne (x := 0) (tgt := 46) hx hb (by decide) dX5_keepOut_20 (by decide) (fun c_2 => ?_) (fun c_2 => ?_)
    · exact absurd c_2 (by decide)
    · refine lv_aload_n hx hb dX5_keepOut_23 rfl (lv_at hl 0 rfl) ?_
      refine va_get (D := D) (ci := 5) (v := .int (nI 0)) (C := RX5) (T := TX5) (N := 28) hx hb hts (inT inX5) hown hK hP 42 rfl rfl 14 (by decide) (hts (.fieldLink RX5 109 "BoardMovesModel" "outs" "I") (by decide +kernel)) (fun _ h9 => h9) rfl dX5_keepOut_24 ?_
      refine lv_bipush (v := nI 10) hx hb dX5_keepOut_27 (by decide) ?_
      refine bm_ni_eq (x := 0) (y := 10) (tgt := 46) hx hb (by decide) (by decide) dX5_keepOut_29 (by decide) (fun c_3 => ?_) (fun c_3 => ?_)
      · exact absurd c_3 (by decide)
      · refine lv_lload_n hx hb dX5_keepOut_32 rfl (lv_at hl 1 rfl) ?_
        refine lv_lload hx hb dX5_keepOut_33 (lv_at hl 3 rfl) ?_
        refine bm_lc_ge (x := zA) (y := zC) (tgt := 46) hx hb dX5_keepOut_35 dX5_keepOut_36 (by decide) (fun c_4 => ?_) (fun c_4 => ?_)
        · refine lv_iconst (v := bm_b false) hx hb dX5_keepOut_46 (by decide) ?_
          exact bm_zretW (v := false) hx hb hr hP hD hK hS ⟨rfl, rfl⟩ dX5_keepOut_47 hlocks
        · refine lv_lload_n hx hb dX5_keepOut_39 rfl (lv_at hl 2 rfl) ?_
          refine lv_lload hx hb dX5_keepOut_40 (lv_at hl 4 rfl) ?_
          refine bm_lc_lt (x := zB) (y := zD) (tgt := 48) hx hb dX5_keepOut_42 dX5_keepOut_43 (by decide) (fun c_5 => ?_) (fun c_5 => ?_)
          · exact absurd h1 (by simp [q_tr, c_4, c_5])
          · refine lv_iconst (v := bm_b false) hx hb dX5_keepOut_46 (by decide) ?_
            exact bm_zretW (v := false) hx hb hr hP hD hK hS ⟨rfl, rfl⟩ dX5_keepOut_47 hlocks
  · exact absurd c_1 hv

set_option maxHeartbeats 4000000 in
set_option maxRecDepth 100000 in
theorem m_koY {l : Launch} {D : va_G} {ad : Nat → Nat} {cJ cI cZ : ClassId} {bm : gBM} {pa : gPA} {p0 p1 p2 : gPL} {li : gLI} {wi : gWI} {mt : Nat} {ms : gMS} {ma : gMA} {mp : gMP} {mk : gMK} {mn : gMN} {ou : Nat → Int64} {zA zB zC zD zE : Int64} (hv : ¬ zE < 0) (h1 : q_tr zA zB zC zD = false) : bm_Wr l yX5_keepOut wsX5_keepOut ({ frames := 1, cells := 0, slots := 0, locals := 23 }) D vwCl [(cJ, .long), (cI, .int), (cZ, .boolean)] (WW ad cJ cI cZ bm pa p0 p1 p2 li wi mt (ms.1, ms.2.1, 0, 0, 0, 0, 0, ms.2.2.2.2.2.2.2) ma mp mk mn ou) [.ref (ad 42), .long zA, .long zB, .long zC, .long zD, .long zE] (WW ad cJ cI cZ bm pa p0 p1 p2 li wi (0) (ms.1, ms.2.1, 0, 0 + 1, 0, 0, 0, ms.2.2.2.2.2.2.2) ma mp (va_up (va_up (va_up (va_up (va_up mk.1 (5 * 0) zA) ((5 * 0) + 1) zB) ((5 * 0) + 2) zC) ((5 * 0) + 3) zD) ((5 * 0) + 4) zE, mk.2.1, mk.2.2.1, mk.2.2.2) mn ou) (some (.int (bm_b true))) := by
  intro sz
  refine Met.ofW (cc := cX5_keepOut) (maxL := 12) (ret := (some .boolean)) (by decide) rfl ?_
  intro p e s m args below meth c s₁ B hml hv
  obtain ⟨ha, hsz, hP, hK, hD0⟩ := hv
  have hx := B.exec
  have hb := B.bytes
  have hr := B.returns
  have hts := atoms_spec (ws := wsX5_keepOut) B.pre
  have hown : s.vm.findClass RX5 = some m.cls := findClass_of_methodNamed B.named
  have hlocks := B.notSynchronized
  subst hsz
  have hD := hD0.self (sz := s.heap.size)
  generalize hAe : va_A (WW ad cJ cI cZ bm pa p0 p1 p2 li wi mt (ms.1, ms.2.1, 0, 0, 0, 0, 0, ms.2.2.2.2.2.2.2) ma mp mk mn ou) s.heap.size = A at hD ⊢
  have hA : ∀ q : Nat, s.heap.size ≤ q → A q := fun q h => by rw [← hAe]; exact Or.inr h
  have hS : va_S A s.heap s.heap [] := va_S.rf
  have hl := lv_entry ([.ref (ad 42), .long zA, .long zB, .long zC, .long zD, .long zE]) (n := 12) (Nat.le_of_ble_eq_true rfl)
  refine W.eq (g2 := entryFrame m ([.ref (ad 42), .long zA, .long zB, .long zC, .long zD, .long zE] : List Value).toArray 12) (by rw [ha]) ?_
  rw [lg_entry_eq]
  generalize (lg_sl ([.ref (ad 42), .long zA, .long zB, .long zC, .long zD, .long zE]) ++ List.replicate (12 - (lg_sl ([.ref (ad 42), .long zA, .long zB, .long zC, .long zD, .long zE])).length) Slot.unset).toArray = ls at hl ⊢
  have hl : lv_has ls 12 [(0, .ref (ad 42)), (1, .long zA), (3, .long zB), (5, .long zC), (7, .long zD), (9, .long zE)] := hl
  refine lv_aload_n hx hb dX5_keepOut_0 rfl (lv_at hl 0 rfl) ?_
  refine lv_lload hx hb dX5_keepOut_1 (lv_at hl 5 rfl) ?_
  refine lv_lconst (v := 0) hx hb dX5_keepOut_3 (by decide) ?_
  refine bm_lc_ge (x := zE) (y := 0) (tgt := 12) hx hb dX5_keepOut_4 dX5_keepOut_5 (by decide) (fun c_1 => ?_) (fun c_1 => ?_)
  · refine lv_iconst (v := nI 0) hx hb dX5_keepOut_12 (by decide) ?_
    refine va_put (D := D) (ci := 5) (v := .int (nI 0)) (ty := .int) (C := RX5) (T := TX5) (N := 28) hx hb hts (inT inX5) tyX5 tyX5_ok nmX5 hown hK hP hD hS 42 rfl rfl 0 (by decide) (hts (.fieldLink RX5 81 "BoardMovesModel" "thrown" "I") (by decide +kernel)) (fun _ h9 => h9) rfl (by decide +kernel) rfl rfl (Nat.le_of_ble_eq_true rfl) dX5_keepOut_13 (fun H locs hP hD hS => ?_)
    have hP : va_P D vwCl (WW ad cJ cI cZ bm pa p0 p1 p2 li wi (0) (ms.1, ms.2.1, 0, 0, 0, 0, 0, ms.2.2.2.2.2.2.2) ma mp mk mn ou) H := hP
    have hD : va_D A (WW ad cJ cI cZ bm pa p0 p1 p2 li wi (0) (ms.1, ms.2.1, 0, 0, 0, 0, 0, ms.2.2.2.2.2.2.2) ma mp mk mn ou) := hD
    refine lv_aload_n hx hb dX5_keepOut_16 rfl (lv_at hl 0 rfl) ?_
    refine va_get (D := D) (ci := 5) (v := .int (nI 0)) (C := RX5) (T := TX5) (N := 28) hx hb hts (inT inX5) hown hK hP 42 rfl rfl 0 (by decide) (hts (.fieldLink RX5 81 "BoardMovesModel" "thrown" "I") (by decide +kernel)) (fun _ h9 => h9) rfl dX5_keepOut_17 ?_
    refine bm_nz_ne (x := 0) (tgt := 46) hx hb (by decide) dX5_keepOut_20 (by decide) (fun c_2 => ?_) (fun c_2 => ?_)
    · exact absurd c_2 (by decide)
    · refine lv_aload_n hx hb dX5_keepOut_23 rfl (lv_at hl 0 rfl) ?_
      refine va_get (D := D) (ci := 5) (v := .int (nI 0)) (C := RX5) (T := TX5) (N := 28) hx hb hts (inT inX5) hown hK hP 42 rfl rfl 14 (by decide) (hts (.fieldLink RX5 109 "BoardMovesModel" "outs" "I") (by decide +kernel)) (fun _ h9 => h9) rfl dX5_keepOut_24 ?_
      refine lv_bipush (v := nI 10) hx hb dX5_keepOut_27 (by decide) ?_
      refine bm_ni_eq (x := 0) (y := 10) (tgt := 46) hx hb (by decide) (by decide) dX5_keepOut_29 (by decide) (fun c_3 => ?_) (fun c_3 => ?_)
      · exact absurd c_3 (by decide)
      · refine lv_lload_n hx hb dX5_keepOut_32 rfl (lv_at hl 1 rfl) ?_
        refine lv_lload hx hb dX5_keepOut_33 (lv_at hl 3 rfl) ?_
        refine bm_lc_ge (x := zA) (y := zC) (tgt := 46) hx hb dX5_keepOut_35 dX5_keepOut_36 (by decide) (fun c_4 => ?_) (fun c_4 => ?_)
        · exact absurd h1 (by simp [q_tr, c_4])
        · refine lv_lload_n hx hb dX5_keepOut_39 rfl (lv_at hl 2 rfl) ?_
          refine lv_lload hx hb dX5_keepOut_40 (lv_at hl 4 rfl) ?_
          refine bm_lc_lt (x := zB) (y := zD) (tgt := 48) hx hb dX5_keepOut_42 dX5_keepOut_43 (by decide) (fun c_5 => ?_) (fun c_5 => ?_)
          · refine lv_iconst (v := nI 5) hx hb dX5_keepOut_48 (by decide) ?_
            refine lv_aload_n hx hb dX5_keepOut_49 rfl (lv_at hl 0 rfl) ?_
            refine va_get (D := D) (ci := 5) (v := .int (nI 0)) (C := RX5) (T := TX5) (N := 28) hx hb hts (inT inX5) hown hK hP 42 rfl rfl 14 (by decide) (hts (.fieldLink RX5 109 "BoardMovesModel" "outs" "I") (by decide +kernel)) (fun _ h9 => h9) rfl dX5_keepOut_50 ?_
            refine bm_nmul hx hb dX5_keepOut_53 ?_
            refine lv_istore (lv' := [(11, .int (nI (5 * 0))), (0, .ref (ad 42)), (1, .long zA), (3, .long zB), (5, .long zC), (7, .long zD), (9, .long zE)]) hx hb dX5_keepOut_54 hl (by decide) rfl (fun ls hl => ?_)
            refine lv_aload_n hx hb dX5_keepOut_56 rfl (lv_at hl 1 rfl) ?_
            refine va_get (D := D) (ci := 5) (v := .ref (ad 53)) (C := RX5) (T := TX5) (N := 28) hx hb hts (inT inX5) hown hK hP 42 rfl rfl 15 (by decide) (hts (.fieldLink RX5 42 "BoardMovesModel" "out" "[J") (by decide +kernel)) (fun _ h9 => h9) rfl dX5_keepOut_57 ?_
            refine lv_iload hx hb dX5_keepOut_60 (lv_at hl 0 rfl) ?_
            refine lv_lload_n hx hb dX5_keepOut_62 rfl (lv_at hl 2 rfl) ?_
            refine bm_last (f := mk.1) hx hb hK hP hD hS 53 0 rfl rfl (j := (5 * 0)) (x := zA) (by omega) (by decide) dX5_keepOut_63 (fun H locs hP hD hS => ?_)
            have hP : va_P D vwCl (WW ad cJ cI cZ bm pa p0 p1 p2 li wi (0) (ms.1, ms.2.1, 0, 0, 0, 0, 0, ms.2.2.2.2.2.2.2) ma mp (va_up mk.1 (5 * 0) zA, mk.2.1, mk.2.2.1, mk.2.2.2) mn ou) H := hP
            have hD : va_D A (WW ad cJ cI cZ bm pa p0 p1 p2 li wi (0) (ms.1, ms.2.1, 0, 0, 0, 0, 0, ms.2.2.2.2.2.2.2) ma mp (va_up mk.1 (5 * 0) zA, mk.2.1, mk.2.2.1, mk.2.2.2) mn ou) := hD
            refine lv_aload_n hx hb dX5_keepOut_64 rfl (lv_at hl 1 rfl) ?_
            refine va_get (D := D) (ci := 5) (v := .ref (ad 53)) (C := RX5) (T := TX5) (N := 28) hx hb hts (inT inX5) hown hK hP 42 rfl rfl 15 (by decide) (hts (.fieldLink RX5 42 "BoardMovesModel" "out" "[J") (by decide +kernel)) (fun _ h9 => h9) rfl dX5_keepOut_65 ?_
            refine lv_iload hx hb dX5_keepOut_68 (lv_at hl 0 rfl) ?_
            refine lv_iconst (v := nI 1) hx hb dX5_keepOut_70 (by decide) ?_
            refine bm_nadd hx hb dX5_keepOut_71 ?_
            refine lv_lload_n hx hb dX5_keepOut_72 rfl (lv_at hl 3 rfl) ?_
            refine bm_last (f := (va_up mk.1 (5 * 0) zA)) hx hb hK hP hD hS 53 0 rfl rfl (j := ((5 * 0) + 1)) (x := zB) (by omega) (by decide) dX5_keepOut_73 (fun H locs hP hD hS => ?_)
            have hP : va_P D vwCl (WW ad cJ cI cZ bm pa p0 p1 p2 li wi (0) (ms.1, ms.2.1, 0, 0, 0, 0, 0, ms.2.2.2.2.2.2.2) ma mp (va_up (va_up mk.1 (5 * 0) zA) ((5 * 0) + 1) zB, mk.2.1, mk.2.2.1, mk.2.2.2) mn ou) H := hP
            have hD : va_D A (WW ad cJ cI cZ bm pa p0 p1 p2 li wi (0) (ms.1, ms.2.1, 0, 0, 0, 0, 0, ms.2.2.2.2.2.2.2) ma mp (va_up (va_up mk.1 (5 * 0) zA) ((5 * 0) + 1) zB, mk.2.1, mk.2.2.1, mk.2.2.2) mn ou) := hD
            refine lv_aload_n hx hb dX5_keepOut_74 rfl (lv_at hl 1 rfl) ?_
            refine va_get (D := D) (ci := 5) (v := .ref (ad 53)) (C := RX5) (T := TX5) (N := 28) hx hb hts (inT inX5) hown hK hP 42 rfl rfl 15 (by decide) (hts (.fieldLink RX5 42 "BoardMovesModel" "out" "[J") (by decide +kernel)) (fun _ h9 => h9) rfl dX5_keepOut_75 ?_
            refine lv_iload hx hb dX5_keepOut_78 (lv_at hl 0 rfl) ?_
            refine lv_iconst (v := nI 2) hx hb dX5_keepOut_80 (by decide) ?_
            refine bm_nadd hx hb dX5_keepOut_81 ?_
            refine lv_lload hx hb dX5_keepOut_82 (lv_at hl 4 rfl) ?_
            refine bm_last (f := (va_up (va_up mk.1 (5 * 0) zA) ((5 * 0) + 1) zB)) hx hb hK hP hD hS 53 0 rfl rfl (j := ((5 * 0) + 2)) (x := zC) (by omega) (by decide) dX5_keepOut_84 (fun H locs hP hD hS => ?_)
            have hP : va_P D vwCl (WW ad cJ cI cZ bm pa p0 p1 p2 li wi (0) (ms.1, ms.2.1, 0, 0, 0, 0, 0, ms.2.2.2.2.2.2.2) ma mp (va_up (va_up (va_up mk.1 (5 * 0) zA) ((5 * 0) + 1) zB) ((5 * 0) + 2) zC, mk.2.1, mk.2.2.1, mk.2.2.2) mn ou) H := hP
            have hD : va_D A (WW ad cJ cI cZ bm pa p0 p1 p2 li wi (0) (ms.1, ms.2.1, 0, 0, 0, 0, 0, ms.2.2.2.2.2.2.2) ma mp (va_up (va_up (va_up mk.1 (5 * 0) zA) ((5 * 0) + 1) zB) ((5 * 0) + 2) zC, mk.2.1, mk.2.2.1, mk.2.2.2) mn ou) := hD
            refine lv_aload_n hx hb dX5_keepOut_85 rfl (lv_at hl 1 rfl) ?_
            refine va_get (D := D) (ci := 5) (v := .ref (ad 53)) (C := RX5) (T := TX5) (N := 28) hx hb hts (inT inX5) hown hK hP 42 rfl rfl 15 (by decide) (hts (.fieldLink RX5 42 "BoardMovesModel" "out" "[J") (by decide +kernel)) (fun _ h9 => h9) rfl dX5_keepOut_86 ?_
            refine lv_iload hx hb dX5_keepOut_89 (lv_at hl 0 rfl) ?_
            refine lv_iconst (v := nI 3) hx hb dX5_keepOut_91 (by decide) ?_
            refine bm_nadd hx hb dX5_keepOut_92 ?_
            refine lv_lload hx hb dX5_keepOut_93 (lv_at hl 5 rfl) ?_
            refine bm_last (f := (va_up (va_up (va_up mk.1 (5 * 0) zA) ((5 * 0) + 1) zB) ((5 * 0) + 2) zC)) hx hb hK hP hD hS 53 0 rfl rfl (j := ((5 * 0) + 3)) (x := zD) (by omega) (by decide) dX5_keepOut_95 (fun H locs hP hD hS => ?_)
            have hP : va_P D vwCl (WW ad cJ cI cZ bm pa p0 p1 p2 li wi (0) (ms.1, ms.2.1, 0, 0, 0, 0, 0, ms.2.2.2.2.2.2.2) ma mp (va_up (va_up (va_up (va_up mk.1 (5 * 0) zA) ((5 * 0) + 1) zB) ((5 * 0) + 2) zC) ((5 * 0) + 3) zD, mk.2.1, mk.2.2.1, mk.2.2.2) mn ou) H := hP
            have hD : va_D A (WW ad cJ cI cZ bm pa p0 p1 p2 li wi (0) (ms.1, ms.2.1, 0, 0, 0, 0, 0, ms.2.2.2.2.2.2.2) ma mp (va_up (va_up (va_up (va_up mk.1 (5 * 0) zA) ((5 * 0) + 1) zB) ((5 * 0) + 2) zC) ((5 * 0) + 3) zD, mk.2.1, mk.2.2.1, mk.2.2.2) mn ou) := hD
            refine lv_aload_n hx hb dX5_keepOut_96 rfl (lv_at hl 1 rfl) ?_
            refine va_get (D := D) (ci := 5) (v := .ref (ad 53)) (C := RX5) (T := TX5) (N := 28) hx hb hts (inT inX5) hown hK hP 42 rfl rfl 15 (by decide) (hts (.fieldLink RX5 42 "BoardMovesModel" "out" "[J") (by decide +kernel)) (fun _ h9 => h9) rfl dX5_keepOut_97 ?_
            refine lv_iload hx hb dX5_keepOut_100 (lv_at hl 0 rfl) ?_
            refine lv_iconst (v := nI 4) hx hb dX5_keepOut_102 (by decide) ?_
            refine bm_nadd hx hb dX5_keepOut_103 ?_
            refine lv_lload hx hb dX5_keepOut_104 (lv_at hl 6 rfl) ?_
            refine bm_last (f := (va_up (va_up (va_up (va_up mk.1 (5 * 0) zA) ((5 * 0) + 1) zB) ((5 * 0) + 2) zC) ((5 * 0) + 3) zD)) hx hb hK hP hD hS 53 0 rfl rfl (j := ((5 * 0) + 4)) (x := zE) (by omega) (by decide) dX5_keepOut_106 (fun H locs hP hD hS => ?_)
            have hP : va_P D vwCl (WW ad cJ cI cZ bm pa p0 p1 p2 li wi (0) (ms.1, ms.2.1, 0, 0, 0, 0, 0, ms.2.2.2.2.2.2.2) ma mp (va_up (va_up (va_up (va_up (va_up mk.1 (5 * 0) zA) ((5 * 0) + 1) zB) ((5 * 0) + 2) zC) ((5 * 0) + 3) zD) ((5 * 0) + 4) zE, mk.2.1, mk.2.2.1, mk.2.2.2) mn ou) H := hP
            have hD : va_D A (WW ad cJ cI cZ bm pa p0 p1 p2 li wi (0) (ms.1, ms.2.1, 0, 0, 0, 0, 0, ms.2.2.2.2.2.2.2) ma mp (va_up (va_up (va_up (va_up (va_up mk.1 (5 * 0) zA) ((5 * 0) + 1) zB) ((5 * 0) + 2) zC) ((5 * 0) + 3) zD) ((5 * 0) + 4) zE, mk.2.1, mk.2.2.1, mk.2.2.2) mn ou) := hD
            refine lv_aload_n hx hb dX5_keepOut_107 rfl (lv_at hl 1 rfl) ?_
            refine lv_dup hx hb dX5_keepOut_108 rfl ?_
            refine va_get (D := D) (ci := 5) (v := .int (nI 0)) (C := RX5) (T := TX5) (N := 28) hx hb hts (inT inX5) hown hK hP 42 rfl rfl 14 (by decide) (hts (.fieldLink RX5 109 "BoardMovesModel" "outs" "I") (by decide +kernel)) (fun _ h9 => h9) rfl dX5_keepOut_109 ?_
            refine lv_iconst (v := nI 1) hx hb dX5_keepOut_112 (by decide) ?_
            refine bm_nadd hx hb dX5_keepOut_113 ?_
            refine va_put (D := D) (ci := 5) (v := .int (nI (0 + 1))) (ty := .int) (C := RX5) (T := TX5) (N := 28) hx hb hts (inT inX5) tyX5 tyX5_ok nmX5 hown hK hP hD hS 42 rfl rfl 14 (by decide) (hts (.fieldLink RX5 109 "BoardMovesModel" "outs" "I") (by decide +kernel)) (fun _ h9 => h9) rfl (by decide +kernel) rfl rfl (Nat.le_of_ble_eq_true rfl) dX5_keepOut_114 (fun H locs hP hD hS => ?_)
            have hP : va_P D vwCl (WW ad cJ cI cZ bm pa p0 p1 p2 li wi (0) (ms.1, ms.2.1, 0, 0 + 1, 0, 0, 0, ms.2.2.2.2.2.2.2) ma mp (va_up (va_up (va_up (va_up (va_up mk.1 (5 * 0) zA) ((5 * 0) + 1) zB) ((5 * 0) + 2) zC) ((5 * 0) + 3) zD) ((5 * 0) + 4) zE, mk.2.1, mk.2.2.1, mk.2.2.2) mn ou) H := hP
            have hD : va_D A (WW ad cJ cI cZ bm pa p0 p1 p2 li wi (0) (ms.1, ms.2.1, 0, 0 + 1, 0, 0, 0, ms.2.2.2.2.2.2.2) ma mp (va_up (va_up (va_up (va_up (va_up mk.1 (5 * 0) zA) ((5 * 0) + 1) zB) ((5 * 0) + 2) zC) ((5 * 0) + 3) zD) ((5 * 0) + 4) zE, mk.2.1, mk.2.2.1, mk.2.2.2) mn ou) := hD
            refine lv_aload_n hx hb dX5_keepOut_117 rfl (lv_at hl 1 rfl) ?_
            refine lv_iconst (v := nI 0) hx hb dX5_keepOut_118 (by decide) ?_
            refine bm_rcallV (As := [.int (nI 0)]) (rest := []) ⟨hx, hb, hml, hown, hts⟩ (m_isWell) (cwV 1 hts (gdV (by decide +kernel) (by decide +kernel) (by decide +kernel) (by decide +kernel) (by decide +kernel)) rfl rfl rfl (by decide +kernel) ⟨Nat.le_of_ble_eq_true rfl, Nat.le_of_ble_eq_true rfl⟩) hK hP 42 5 rfl rfl rfl hl.1 rfl (Nat.le_of_ble_eq_true rfl) dX5_keepOut_119 ⟨Nat.le_of_ble_eq_true rfl, Nat.le_of_ble_eq_true rfl⟩ ?_
            refine bm_zb_eq (x := true) (tgt := 127) hx hb dX5_keepOut_122 (by decide) (fun c_6 => ?_) (fun c_6 => ?_)
            · exact absurd c_6 (by decide)
            · refine lv_iconst (v := bm_b true) hx hb dX5_keepOut_125 (by decide) ?_
              exact bm_zretW (v := true) hx hb hr hP hD hK hS ⟨rfl, rfl⟩ dX5_keepOut_126 hlocks
          · exact absurd h1 (by simp [q_tr, c_5])
  · exact absurd c_1 hv
