set_option maxHeartbeats 4000000 in
set_option maxRecDepth 100000 in
theorem m_put {l : Launch} {D : va_G} {ad : Nat → Nat} {cJ cI cZ : ClassId} {bm : gBM} {pa : gPA} {p0 p1 p2 : gPL} {li : gLI} {wi : gWI} {mt : Nat} {ms : gMS} {ma : gMA} {mp : gMP} {mk : gMK} {mn : gMN} {ou : Nat → Int64} {zA zD : Int32} {zB zC : Int64} : bm_Wr l yX5_put wsX5_put ({ frames := 1, cells := 0, slots := 0, locals := 21 }) D vwCl [(cJ, .long), (cI, .int), (cZ, .boolean)] (WW ad cJ cI cZ bm pa p0 p1 p2 li wi mt (ms.1, ms.2.1, 0, 0, 0, 0, 0, ms.2.2.2.2.2.2.2) ma mp mk mn ou) [.ref (ad 42), .int zA, .long zB, .long zC, .int zD] (WW ad cJ cI cZ bm pa p0 p1 p2 li wi (1) (ms.1, ms.2.1, 0, 0, 0, 0, 0, ms.2.2.2.2.2.2.2) ma mp mk mn ou) (some (.int (bm_b false))) := by
  intro sz
  refine Met.ofW (cc := cX5_put) (maxL := 8) (ret := (some .boolean)) (by decide) rfl ?_
  intro p e s m args below meth c s₁ B hml hv
  obtain ⟨ha, hsz, hP, hK, hD0⟩ := hv
  have hx := B.exec
  have hb := B.bytes
  have hr := B.returns
  have hts := atoms_spec (ws := wsX5_put) B.pre
  have hown : s.vm.findClass RX5 = some m.cls := findClass_of_methodNamed B.named
  have hlocks := B.notSynchronized
  subst hsz
  have hD := hD0.self (sz := s.heap.size)
  generalize hAe : va_A (WW ad cJ cI cZ bm pa p0 p1 p2 li wi mt (ms.1, ms.2.1, 0, 0, 0, 0, 0, ms.2.2.2.2.2.2.2) ma mp mk mn ou) s.heap.size = A at hD ⊢
  have hA : ∀ q : Nat, s.heap.size ≤ q → A q := fun q h => by rw [← hAe]; exact Or.inr h
  have hS : va_S A s.heap s.heap [] := va_S.rf
  have hl := lv_entry ([.ref (ad 42), .int zA, .long zB, .long zC, .int zD]) (n := 8) (Nat.le_of_ble_eq_true rfl)
  refine W.eq (g2 := entryFrame m ([.ref (ad 42), .int zA, .long zB, .long zC, .int zD] : List Value).toArray 8) (by rw [ha]) ?_
  rw [lg_entry_eq]
  generalize (lg_sl ([.ref (ad 42), .int zA, .long zB, .long zC, .int zD]) ++ List.replicate (8 - (lg_sl ([.ref (ad 42), .int zA, .long zB, .long zC, .int zD])).length) Slot.unset).toArray = ls at hl ⊢
  have hl : lv_has ls 8 [(0, .ref (ad 42)), (1, .int zA), (2, .long zB), (4, .long zC), (6, .int zD)] := hl
  refine lv_aload_n hx hb dX5_put_0 rfl (lv_at hl 0 rfl) ?_
  refine lv_aload_n hx hb dX5_put_1 rfl (lv_at hl 0 rfl) ?_
  refine lv_iload_n hx hb dX5_put_2 rfl (lv_at hl 1 rfl) ?_
  refine bm_rcallV (As := [.int zA]) (rest := [.ref (ad 42)]) ⟨hx, hb, hml, hown, hts⟩ (m_isPart) (cwV 1 hts (gdV (by decide +kernel) (by decide +kernel) (by decide +kernel) (by decide +kernel) (by decide +kernel)) rfl rfl rfl (by decide +kernel) ⟨Nat.le_of_ble_eq_true rfl, Nat.le_of_ble_eq_true rfl⟩) hK hP 42 5 rfl rfl rfl hl.1 rfl (Nat.le_of_ble_eq_true rfl) dX5_put_3 ⟨Nat.le_of_ble_eq_true rfl, Nat.le_of_ble_eq_true rfl⟩ ?_
  refine bm_zb_ne (x := false) (tgt := 13) hx hb dX5_put_6 (by decide) (fun c_1 => ?_) (fun c_1 => ?_)
  · exact absurd c_1 (by decide)
  · refine lv_iconst (v := nI 1) hx hb dX5_put_9 (by decide) ?_
    refine lv_goto (tgt := 29) hx hb dX5_put_10 (by decide) ?_
    refine va_put (D := D) (ci := 5) (v := .int (nI 1)) (ty := .int) (C := RX5) (T := TX5) (N := 28) hx hb hts (inT inX5) tyX5 tyX5_ok nmX5 hown hK hP hD hS 42 rfl rfl 0 (by decide) (hts (.fieldLink RX5 81 "BoardMovesModel" "thrown" "I") (by decide +kernel)) (fun _ h9 => h9) rfl (by decide +kernel) rfl rfl (Nat.le_of_ble_eq_true rfl) dX5_put_29 (fun H locs hP hD hS => ?_)
    have hP : va_P D vwCl (WW ad cJ cI cZ bm pa p0 p1 p2 li wi (1) (ms.1, ms.2.1, 0, 0, 0, 0, 0, ms.2.2.2.2.2.2.2) ma mp mk mn ou) H := hP
    have hD : va_D A (WW ad cJ cI cZ bm pa p0 p1 p2 li wi (1) (ms.1, ms.2.1, 0, 0, 0, 0, 0, ms.2.2.2.2.2.2.2) ma mp mk mn ou) := hD
    refine lv_aload_n hx hb dX5_put_32 rfl (lv_at hl 0 rfl) ?_
    refine va_get (D := D) (ci := 5) (v := .int (nI 1)) (C := RX5) (T := TX5) (N := 28) hx hb hts (inT inX5) hown hK hP 42 rfl rfl 0 (by decide) (hts (.fieldLink RX5 81 "BoardMovesModel" "thrown" "I") (by decide +kernel)) (fun _ h9 => h9) rfl dX5_put_33 ?_
    refine bm_nz_eq (x := 1) (tgt := 41) hx hb (by decide) dX5_put_36 (by decide) (fun c_2 => ?_) (fun c_2 => ?_)
    · exact absurd c_2 (by decide)
    · refine lv_iconst (v := bm_b false) hx hb dX5_put_39 (by decide) ?_
      exact bm_zretW (v := false) hx hb hr hP hD hK hS ⟨rfl, rfl⟩ dX5_put_40 hlocks

set_option maxHeartbeats 4000000 in
set_option maxRecDepth 100000 in
theorem m_lock {l : Launch} {D : va_G} {ad : Nat → Nat} {cJ cI cZ : ClassId} {bm : gBM} {pa : gPA} {p0 p1 p2 : gPL} {li : gLI} {wi : gWI} {mt : Nat} {ms : gMS} {ma : gMA} {mp : gMP} {mk : gMK} {mn : gMN} {ou : Nat → Int64} {zA zB : Int32} : bm_Wr l yX5_lock wsX5_lock ({ frames := 1, cells := 0, slots := 0, locals := 21 }) D vwCl [(cJ, .long), (cI, .int), (cZ, .boolean)] (WW ad cJ cI cZ bm pa p0 p1 p2 li wi mt (ms.1, ms.2.1, 0, 0, 0, 0, 0, ms.2.2.2.2.2.2.2) ma mp mk mn ou) [.ref (ad 42), .int zA, .int zB] (WW ad cJ cI cZ bm pa p0 p1 p2 li wi (1) (ms.1, ms.2.1, 0, 0, 0, 0, 0, ms.2.2.2.2.2.2.2) ma mp mk mn ou) (some (.int (bm_b false))) := by
  intro sz
  refine Met.ofW (cc := cX5_lock) (maxL := 4) (ret := (some .boolean)) (by decide) rfl ?_
  intro p e s m args below meth c s₁ B hml hv
  obtain ⟨ha, hsz, hP, hK, hD0⟩ := hv
  have hx := B.exec
  have hb := B.bytes
  have hr := B.returns
  have hts := atoms_spec (ws := wsX5_lock) B.pre
  have hown : s.vm.findClass RX5 = some m.cls := findClass_of_methodNamed B.named
  have hlocks := B.notSynchronized
  subst hsz
  have hD := hD0.self (sz := s.heap.size)
  generalize hAe : va_A (WW ad cJ cI cZ bm pa p0 p1 p2 li wi mt (ms.1, ms.2.1, 0, 0, 0, 0, 0, ms.2.2.2.2.2.2.2) ma mp mk mn ou) s.heap.size = A at hD ⊢
  have hA : ∀ q : Nat, s.heap.size ≤ q → A q := fun q h => by rw [← hAe]; exact Or.inr h
  have hS : va_S A s.heap s.heap [] := va_S.rf
  have hl := lv_entry ([.ref (ad 42), .int zA, .int zB]) (n := 4) (Nat.le_of_ble_eq_true rfl)
  refine W.eq (g2 := entryFrame m ([.ref (ad 42), .int zA, .int zB] : List Value).toArray 4) (by rw [ha]) ?_
  rw [lg_entry_eq]
  generalize (lg_sl ([.ref (ad 42), .int zA, .int zB]) ++ List.replicate (4 - (lg_sl ([.ref (ad 42), .int zA, .int zB])).length) Slot.unset).toArray = ls at hl ⊢
  have hl : lv_has ls 4 [(0, .ref (ad 42)), (1, .int zA), (2, .int zB)] := hl
  refine lv_aload_n hx hb dX5_lock_0 rfl (lv_at hl 0 rfl) ?_
  refine lv_aload_n hx hb dX5_lock_1 rfl (lv_at hl 0 rfl) ?_
  refine lv_iload_n hx hb dX5_lock_2 rfl (lv_at hl 1 rfl) ?_
  refine bm_rcallV (As := [.int zA]) (rest := [.ref (ad 42)]) ⟨hx, hb, hml, hown, hts⟩ (m_isPart) (cwV 1 hts (gdV (by decide +kernel) (by decide +kernel) (by decide +kernel) (by decide +kernel) (by decide +kernel)) rfl rfl rfl (by decide +kernel) ⟨Nat.le_of_ble_eq_true rfl, Nat.le_of_ble_eq_true rfl⟩) hK hP 42 5 rfl rfl rfl hl.1 rfl (Nat.le_of_ble_eq_true rfl) dX5_lock_3 ⟨Nat.le_of_ble_eq_true rfl, Nat.le_of_ble_eq_true rfl⟩ ?_
  refine bm_zb_eq (x := false) (tgt := 13) hx hb dX5_lock_6 (by decide) (fun c_1 => ?_) (fun c_1 => ?_)
  · refine lv_iconst (v := nI 1) hx hb dX5_lock_13 (by decide) ?_
    refine va_put (D := D) (ci := 5) (v := .int (nI 1)) (ty := .int) (C := RX5) (T := TX5) (N := 28) hx hb hts (inT inX5) tyX5 tyX5_ok nmX5 hown hK hP hD hS 42 rfl rfl 0 (by decide) (hts (.fieldLink RX5 81 "BoardMovesModel" "thrown" "I") (by decide +kernel)) (fun _ h9 => h9) rfl (by decide +kernel) rfl rfl (Nat.le_of_ble_eq_true rfl) dX5_lock_14 (fun H locs hP hD hS => ?_)
    have hP : va_P D vwCl (WW ad cJ cI cZ bm pa p0 p1 p2 li wi (1) (ms.1, ms.2.1, 0, 0, 0, 0, 0, ms.2.2.2.2.2.2.2) ma mp mk mn ou) H := hP
    have hD : va_D A (WW ad cJ cI cZ bm pa p0 p1 p2 li wi (1) (ms.1, ms.2.1, 0, 0, 0, 0, 0, ms.2.2.2.2.2.2.2) ma mp mk mn ou) := hD
    refine lv_aload_n hx hb dX5_lock_17 rfl (lv_at hl 0 rfl) ?_
    refine va_get (D := D) (ci := 5) (v := .int (nI 1)) (C := RX5) (T := TX5) (N := 28) hx hb hts (inT inX5) hown hK hP 42 rfl rfl 0 (by decide) (hts (.fieldLink RX5 81 "BoardMovesModel" "thrown" "I") (by decide +kernel)) (fun _ h9 => h9) rfl dX5_lock_18 ?_
    refine bm_nz_eq (x := 1) (tgt := 26) hx hb (by decide) dX5_lock_21 (by decide) (fun c_2 => ?_) (fun c_2 => ?_)
    · exact absurd c_2 (by decide)
    · refine lv_iconst (v := bm_b false) hx hb dX5_lock_24 (by decide) ?_
      exact bm_zretW (v := false) hx hb hr hP hD hK hS ⟨rfl, rfl⟩ dX5_lock_25 hlocks
  · exact absurd c_1 (by decide)

set_option maxHeartbeats 4000000 in
set_option maxRecDepth 100000 in
theorem m_push {l : Launch} {D : va_G} {ad : Nat → Nat} {cJ cI cZ : ClassId} {bm : gBM} {pa : gPA} {p0 p1 p2 : gPL} {li : gLI} {wi : gWI} {mt : Nat} {ms : gMS} {ma : gMA} {mp : gMP} {mk : gMK} {mn : gMN} {ou : Nat → Int64} {zA : Int32} {zB zC : Int64} : bm_Wr l yX5_push wsX5_push ({ frames := 1, cells := 0, slots := 0, locals := 21 }) D vwCl [(cJ, .long), (cI, .int), (cZ, .boolean)] (WW ad cJ cI cZ bm pa p0 p1 p2 li wi mt (ms.1, ms.2.1, 0, 0, 0, 0, 0, ms.2.2.2.2.2.2.2) ma mp mk mn ou) [.ref (ad 42), .int zA, .long zB, .long zC] (WW ad cJ cI cZ bm pa p0 p1 p2 li wi (1) (ms.1, ms.2.1, 0, 0, 0, 0, 0, ms.2.2.2.2.2.2.2) ma mp mk mn ou) (some (.int (nI 0))) := by
  intro sz
  refine Met.ofW (cc := cX5_push) (maxL := 13) (ret := (some .int)) (by decide) rfl ?_
  intro p e s m args below meth c s₁ B hml hv
  obtain ⟨ha, hsz, hP, hK, hD0⟩ := hv
  have hx := B.exec
  have hb := B.bytes
  have hr := B.returns
  have hts := atoms_spec (ws := wsX5_push) B.pre
  have hown : s.vm.findClass RX5 = some m.cls := findClass_of_methodNamed B.named
  have hlocks := B.notSynchronized
  subst hsz
  have hD := hD0.self (sz := s.heap.size)
  generalize hAe : va_A (WW ad cJ cI cZ bm pa p0 p1 p2 li wi mt (ms.1, ms.2.1, 0, 0, 0, 0, 0, ms.2.2.2.2.2.2.2) ma mp mk mn ou) s.heap.size = A at hD ⊢
  have hA : ∀ q : Nat, s.heap.size ≤ q → A q := fun q h => by rw [← hAe]; exact Or.inr h
  have hS : va_S A s.heap s.heap [] := va_S.rf
  have hl := lv_entry ([.ref (ad 42), .int zA, .long zB, .long zC]) (n := 13) (Nat.le_of_ble_eq_true rfl)
  refine W.eq (g2 := entryFrame m ([.ref (ad 42), .int zA, .long zB, .long zC] : List Value).toArray 13) (by rw [ha]) ?_
  rw [lg_entry_eq]
  generalize (lg_sl ([.ref (ad 42), .int zA, .long zB, .long zC]) ++ List.replicate (13 - (lg_sl ([.ref (ad 42), .int zA, .long zB, .long zC])).length) Slot.unset).toArray = ls at hl ⊢
  have hl : lv_has ls 13 [(0, .ref (ad 42)), (1, .int zA), (2, .long zB), (4, .long zC)] := hl
  refine lv_aload_n hx hb dX5_push_0 rfl (lv_at hl 0 rfl) ?_
  refine lv_aload_n hx hb dX5_push_1 rfl (lv_at hl 0 rfl) ?_
  refine lv_iload_n hx hb dX5_push_2 rfl (lv_at hl 1 rfl) ?_
  refine bm_rcallV (As := [.int zA]) (rest := [.ref (ad 42)]) ⟨hx, hb, hml, hown, hts⟩ (m_isPart) (cwV 1 hts (gdV (by decide +kernel) (by decide +kernel) (by decide +kernel) (by decide +kernel) (by decide +kernel)) rfl rfl rfl (by decide +kernel) ⟨Nat.le_of_ble_eq_true rfl, Nat.le_of_ble_eq_true rfl⟩) hK hP 42 5 rfl rfl rfl hl.1 rfl (Nat.le_of_ble_eq_true rfl) dX5_push_3 ⟨Nat.le_of_ble_eq_true rfl, Nat.le_of_ble_eq_true rfl⟩ ?_
  refine bm_zb_ne (x := false) (tgt := 13) hx hb dX5_push_6 (by decide) (fun c_1 => ?_) (fun c_1 => ?_)
  · exact absurd c_1 (by decide)
  · refine lv_iconst (v := nI 1) hx hb dX5_push_9 (by decide) ?_
    refine lv_goto (tgt := 27) hx hb dX5_push_10 (by decide) ?_
    refine va_put (D := D) (ci := 5) (v := .int (nI 1)) (ty := .int) (C := RX5) (T := TX5) (N := 28) hx hb hts (inT inX5) tyX5 tyX5_ok nmX5 hown hK hP hD hS 42 rfl rfl 0 (by decide) (hts (.fieldLink RX5 81 "BoardMovesModel" "thrown" "I") (by decide +kernel)) (fun _ h9 => h9) rfl (by decide +kernel) rfl rfl (Nat.le_of_ble_eq_true rfl) dX5_push_27 (fun H locs hP hD hS => ?_)
    have hP : va_P D vwCl (WW ad cJ cI cZ bm pa p0 p1 p2 li wi (1) (ms.1, ms.2.1, 0, 0, 0, 0, 0, ms.2.2.2.2.2.2.2) ma mp mk mn ou) H := hP
    have hD : va_D A (WW ad cJ cI cZ bm pa p0 p1 p2 li wi (1) (ms.1, ms.2.1, 0, 0, 0, 0, 0, ms.2.2.2.2.2.2.2) ma mp mk mn ou) := hD
    refine lv_aload_n hx hb dX5_push_30 rfl (lv_at hl 0 rfl) ?_
    refine va_get (D := D) (ci := 5) (v := .int (nI 1)) (C := RX5) (T := TX5) (N := 28) hx hb hts (inT inX5) hown hK hP 42 rfl rfl 0 (by decide) (hts (.fieldLink RX5 81 "BoardMovesModel" "thrown" "I") (by decide +kernel)) (fun _ h9 => h9) rfl dX5_push_31 ?_
    refine bm_nz_eq (x := 1) (tgt := 39) hx hb (by decide) dX5_push_34 (by decide) (fun c_2 => ?_) (fun c_2 => ?_)
    · exact absurd c_2 (by decide)
    · refine lv_iconst (v := nI 0) hx hb dX5_push_37 (by decide) ?_
      exact bm_iretW (v := (nI 0)) hx hb hr hP hD hK hS ⟨rfl, rfl⟩ dX5_push_38 hlocks

set_option maxHeartbeats 4000000 in
set_option maxRecDepth 100000 in
theorem m_at {l : Launch} {D : va_G} {ad : Nat → Nat} {cJ cI cZ : ClassId} {bm : gBM} {pa : gPA} {p0 p1 p2 : gPL} {li : gLI} {wi : gWI} {mt : Nat} {ms : gMS} {ma : gMA} {mp : gMP} {mk : gMK} {mn : gMN} {ou : Nat → Int64} {zA zB : Int32} : bm_Wr l yX5_at wsX5_at ({ frames := 1, cells := 0, slots := 0, locals := 21 }) D vwCl [(cJ, .long), (cI, .int), (cZ, .boolean)] (WW ad cJ cI cZ bm pa p0 p1 p2 li wi mt (ms.1, ms.2.1, 0, 0, 0, 0, 0, ms.2.2.2.2.2.2.2) ma mp mk mn ou) [.ref (ad 42), .int zA, .int zB] (WW ad cJ cI cZ bm pa p0 p1 p2 li wi (1) (ms.1, ms.2.1, 0, 0, 0, 0, 0, ms.2.2.2.2.2.2.2) ma mp mk mn ou) (some (.long 0)) := by
  intro sz
  refine Met.ofW (cc := cX5_at) (maxL := 3) (ret := (some .long)) (by decide) rfl ?_
  intro p e s m args below meth c s₁ B hml hv
  obtain ⟨ha, hsz, hP, hK, hD0⟩ := hv
  have hx := B.exec
  have hb := B.bytes
  have hr := B.returns
  have hts := atoms_spec (ws := wsX5_at) B.pre
  have hown : s.vm.findClass RX5 = some m.cls := findClass_of_methodNamed B.named
  have hlocks := B.notSynchronized
  subst hsz
  have hD := hD0.self (sz := s.heap.size)
  generalize hAe : va_A (WW ad cJ cI cZ bm pa p0 p1 p2 li wi mt (ms.1, ms.2.1, 0, 0, 0, 0, 0, ms.2.2.2.2.2.2.2) ma mp mk mn ou) s.heap.size = A at hD ⊢
  have hA : ∀ q : Nat, s.heap.size ≤ q → A q := fun q h => by rw [← hAe]; exact Or.inr h
  have hS : va_S A s.heap s.heap [] := va_S.rf
  have hl := lv_entry ([.ref (ad 42), .int zA, .int zB]) (n := 3) (Nat.le_of_ble_eq_true rfl)
  refine W.eq (g2 := entryFrame m ([.ref (ad 42), .int zA, .int zB] : List Value).toArray 3) (by rw [ha]) ?_
  rw [lg_entry_eq]
  generalize (lg_sl ([.ref (ad 42), .int zA, .int zB]) ++ List.replicate (3 - (lg_sl ([.ref (ad 42), .int zA, .int zB])).length) Slot.unset).toArray = ls at hl ⊢
  have hl : lv_has ls 3 [(0, .ref (ad 42)), (1, .int zA), (2, .int zB)] := hl
  refine lv_aload_n hx hb dX5_at_0 rfl (lv_at hl 0 rfl) ?_
  refine lv_aload_n hx hb dX5_at_1 rfl (lv_at hl 0 rfl) ?_
  refine lv_iload_n hx hb dX5_at_2 rfl (lv_at hl 1 rfl) ?_
  refine bm_rcallV (As := [.int zA]) (rest := [.ref (ad 42)]) ⟨hx, hb, hml, hown, hts⟩ (m_isPart) (cwV 1 hts (gdV (by decide +kernel) (by decide +kernel) (by decide +kernel) (by decide +kernel) (by decide +kernel)) rfl rfl rfl (by decide +kernel) ⟨Nat.le_of_ble_eq_true rfl, Nat.le_of_ble_eq_true rfl⟩) hK hP 42 5 rfl rfl rfl hl.1 rfl (Nat.le_of_ble_eq_true rfl) dX5_at_3 ⟨Nat.le_of_ble_eq_true rfl, Nat.le_of_ble_eq_true rfl⟩ ?_
  refine bm_zb_eq (x := false) (tgt := 23) hx hb dX5_at_6 (by decide) (fun c_1 => ?_) (fun c_1 => ?_)
  · refine lv_iconst (v := nI 1) hx hb dX5_at_23 (by decide) ?_
    refine va_put (D := D) (ci := 5) (v := .int (nI 1)) (ty := .int) (C := RX5) (T := TX5) (N := 28) hx hb hts (inT inX5) tyX5 tyX5_ok nmX5 hown hK hP hD hS 42 rfl rfl 0 (by decide) (hts (.fieldLink RX5 81 "BoardMovesModel" "thrown" "I") (by decide +kernel)) (fun _ h9 => h9) rfl (by decide +kernel) rfl rfl (Nat.le_of_ble_eq_true rfl) dX5_at_24 (fun H locs hP hD hS => ?_)
    have hP : va_P D vwCl (WW ad cJ cI cZ bm pa p0 p1 p2 li wi (1) (ms.1, ms.2.1, 0, 0, 0, 0, 0, ms.2.2.2.2.2.2.2) ma mp mk mn ou) H := hP
    have hD : va_D A (WW ad cJ cI cZ bm pa p0 p1 p2 li wi (1) (ms.1, ms.2.1, 0, 0, 0, 0, 0, ms.2.2.2.2.2.2.2) ma mp mk mn ou) := hD
    refine lv_aload_n hx hb dX5_at_27 rfl (lv_at hl 0 rfl) ?_
    refine va_get (D := D) (ci := 5) (v := .int (nI 1)) (C := RX5) (T := TX5) (N := 28) hx hb hts (inT inX5) hown hK hP 42 rfl rfl 0 (by decide) (hts (.fieldLink RX5 81 "BoardMovesModel" "thrown" "I") (by decide +kernel)) (fun _ h9 => h9) rfl dX5_at_28 ?_
    refine bm_nz_eq (x := 1) (tgt := 36) hx hb (by decide) dX5_at_31 (by decide) (fun c_2 => ?_) (fun c_2 => ?_)
    · exact absurd c_2 (by decide)
    · refine lv_lconst (v := 0) hx hb dX5_at_34 (by decide) ?_
      exact bm_lretW (v := 0) hx hb hr hP hD hK hS ⟨rfl, rfl⟩ dX5_at_35 hlocks
  · exact absurd c_1 (by decide)

set_option maxHeartbeats 4000000 in
set_option maxRecDepth 100000 in
theorem m_near {l : Launch} {D : va_G} {ad : Nat → Nat} {cJ cI cZ : ClassId} {bm : gBM} {pa : gPA} {p0 p1 p2 : gPL} {li : gLI} {wi : gWI} {mt : Nat} {ms : gMS} {ma : gMA} {mp : gMP} {mk : gMK} {mn : gMN} {ou : Nat → Int64} {zA zB : Int32} {zC : Int64} : bm_Wr l yX5_near wsX5_near ({ frames := 1, cells := 0, slots := 0, locals := 21 }) D vwCl [(cJ, .long), (cI, .int), (cZ, .boolean)] (WW ad cJ cI cZ bm pa p0 p1 p2 li wi mt (ms.1, ms.2.1, 0, 0, 0, 0, 0, ms.2.2.2.2.2.2.2) ma mp mk mn ou) [.ref (ad 42), .int zA, .int zB, .long zC] (WW ad cJ cI cZ bm pa p0 p1 p2 li wi (1) (ms.1, ms.2.1, 0, 0, 0, 0, 0, ms.2.2.2.2.2.2.2) ma mp mk mn ou) (some (.int (bm_b false))) := by
  intro sz
  refine Met.ofW (cc := cX5_near) (maxL := 5) (ret := (some .boolean)) (by decide) rfl ?_
  intro p e s m args below meth c s₁ B hml hv
  obtain ⟨ha, hsz, hP, hK, hD0⟩ := hv
  have hx := B.exec
  have hb := B.bytes
  have hr := B.returns
  have hts := atoms_spec (ws := wsX5_near) B.pre
  have hown : s.vm.findClass RX5 = some m.cls := findClass_of_methodNamed B.named
  have hlocks := B.notSynchronized
  subst hsz
  have hD := hD0.self (sz := s.heap.size)
  generalize hAe : va_A (WW ad cJ cI cZ bm pa p0 p1 p2 li wi mt (ms.1, ms.2.1, 0, 0, 0, 0, 0, ms.2.2.2.2.2.2.2) ma mp mk mn ou) s.heap.size = A at hD ⊢
  have hA : ∀ q : Nat, s.heap.size ≤ q → A q := fun q h => by rw [← hAe]; exact Or.inr h
  have hS : va_S A s.heap s.heap [] := va_S.rf
  have hl := lv_entry ([.ref (ad 42), .int zA, .int zB, .long zC]) (n := 5) (Nat.le_of_ble_eq_true rfl)
  refine W.eq (g2 := entryFrame m ([.ref (ad 42), .int zA, .int zB, .long zC] : List Value).toArray 5) (by rw [ha]) ?_
  rw [lg_entry_eq]
  generalize (lg_sl ([.ref (ad 42), .int zA, .int zB, .long zC]) ++ List.replicate (5 - (lg_sl ([.ref (ad 42), .int zA, .int zB, .long zC])).length) Slot.unset).toArray = ls at hl ⊢
  have hl : lv_has ls 5 [(0, .ref (ad 42)), (1, .int zA), (2, .int zB), (3, .long zC)] := hl
  refine lv_aload_n hx hb dX5_near_0 rfl (lv_at hl 0 rfl) ?_
  refine lv_aload_n hx hb dX5_near_1 rfl (lv_at hl 0 rfl) ?_
  refine lv_iload_n hx hb dX5_near_2 rfl (lv_at hl 1 rfl) ?_
  refine bm_rcallV (As := [.int zA]) (rest := [.ref (ad 42)]) ⟨hx, hb, hml, hown, hts⟩ (m_isPart) (cwV 1 hts (gdV (by decide +kernel) (by decide +kernel) (by decide +kernel) (by decide +kernel) (by decide +kernel)) rfl rfl rfl (by decide +kernel) ⟨Nat.le_of_ble_eq_true rfl, Nat.le_of_ble_eq_true rfl⟩) hK hP 42 5 rfl rfl rfl hl.1 rfl (Nat.le_of_ble_eq_true rfl) dX5_near_3 ⟨Nat.le_of_ble_eq_true rfl, Nat.le_of_ble_eq_true rfl⟩ ?_
  refine bm_zb_eq (x := false) (tgt := 17) hx hb dX5_near_6 (by decide) (fun c_1 => ?_) (fun c_1 => ?_)
  · refine lv_iconst (v := nI 1) hx hb dX5_near_17 (by decide) ?_
    refine lv_goto (tgt := 32) hx hb dX5_near_18 (by decide) ?_
    refine va_put (D := D) (ci := 5) (v := .int (nI 1)) (ty := .int) (C := RX5) (T := TX5) (N := 28) hx hb hts (inT inX5) tyX5 tyX5_ok nmX5 hown hK hP hD hS 42 rfl rfl 0 (by decide) (hts (.fieldLink RX5 81 "BoardMovesModel" "thrown" "I") (by decide +kernel)) (fun _ h9 => h9) rfl (by decide +kernel) rfl rfl (Nat.le_of_ble_eq_true rfl) dX5_near_32 (fun H locs hP hD hS => ?_)
    have hP : va_P D vwCl (WW ad cJ cI cZ bm pa p0 p1 p2 li wi (1) (ms.1, ms.2.1, 0, 0, 0, 0, 0, ms.2.2.2.2.2.2.2) ma mp mk mn ou) H := hP
    have hD : va_D A (WW ad cJ cI cZ bm pa p0 p1 p2 li wi (1) (ms.1, ms.2.1, 0, 0, 0, 0, 0, ms.2.2.2.2.2.2.2) ma mp mk mn ou) := hD
    refine lv_aload_n hx hb dX5_near_35 rfl (lv_at hl 0 rfl) ?_
    refine va_get (D := D) (ci := 5) (v := .int (nI 1)) (C := RX5) (T := TX5) (N := 28) hx hb hts (inT inX5) hown hK hP 42 rfl rfl 0 (by decide) (hts (.fieldLink RX5 81 "BoardMovesModel" "thrown" "I") (by decide +kernel)) (fun _ h9 => h9) rfl dX5_near_36 ?_
    refine bm_nz_ne (x := 1) (tgt := 56) hx hb (by decide) dX5_near_39 (by decide) (fun c_2 => ?_) (fun c_2 => ?_)
    · refine lv_iconst (v := bm_b false) hx hb dX5_near_56 (by decide) ?_
      exact bm_zretW (v := false) hx hb hr hP hD hK hS ⟨rfl, rfl⟩ dX5_near_57 hlocks
    · exact absurd c_2 (by decide)
  · exact absurd c_1 (by decide)

set_option maxHeartbeats 4000000 in
set_option maxRecDepth 100000 in
theorem m_group {l : Launch} {D : va_G} {ad : Nat → Nat} {cJ cI cZ : ClassId} {bm : gBM} {pa : gPA} {p0 p1 p2 : gPL} {li : gLI} {wi : gWI} {mt : Nat} {ms : gMS} {ma : gMA} {mp : gMP} {mk : gMK} {mn : gMN} {ou : Nat → Int64} {zA zB : Int32} : bm_Wr l yX5_group wsX5_group ({ frames := 1, cells := 0, slots := 0, locals := 21 }) D vwCl [(cJ, .long), (cI, .int), (cZ, .boolean)] (WW ad cJ cI cZ bm pa p0 p1 p2 li wi mt (ms.1, ms.2.1, 0, 0, 0, 0, 0, ms.2.2.2.2.2.2.2) ma mp mk mn ou) [.ref (ad 42), .int zA, .int zB] (WW ad cJ cI cZ bm pa p0 p1 p2 li wi (1) (ms.1, ms.2.1, 0, 0, 0, 0, 0, ms.2.2.2.2.2.2.2) ma mp mk mn ou) (some (.int (nI 0))) := by
  intro sz
  refine Met.ofW (cc := cX5_group) (maxL := 7) (ret := (some .int)) (by decide) rfl ?_
  intro p e s m args below meth c s₁ B hml hv
  obtain ⟨ha, hsz, hP, hK, hD0⟩ := hv
  have hx := B.exec
  have hb := B.bytes
  have hr := B.returns
  have hts := atoms_spec (ws := wsX5_group) B.pre
  have hown : s.vm.findClass RX5 = some m.cls := findClass_of_methodNamed B.named
  have hlocks := B.notSynchronized
  subst hsz
  have hD := hD0.self (sz := s.heap.size)
  generalize hAe : va_A (WW ad cJ cI cZ bm pa p0 p1 p2 li wi mt (ms.1, ms.2.1, 0, 0, 0, 0, 0, ms.2.2.2.2.2.2.2) ma mp mk mn ou) s.heap.size = A at hD ⊢
  have hA : ∀ q : Nat, s.heap.size ≤ q → A q := fun q h => by rw [← hAe]; exact Or.inr h
  have hS : va_S A s.heap s.heap [] := va_S.rf
  have hl := lv_entry ([.ref (ad 42), .int zA, .int zB]) (n := 7) (Nat.le_of_ble_eq_true rfl)
  refine W.eq (g2 := entryFrame m ([.ref (ad 42), .int zA, .int zB] : List Value).toArray 7) (by rw [ha]) ?_
  rw [lg_entry_eq]
  generalize (lg_sl ([.ref (ad 42), .int zA, .int zB]) ++ List.replicate (7 - (lg_sl ([.ref (ad 42), .int zA, .int zB])).length) Slot.unset).toArray = ls at hl ⊢
  have hl : lv_has ls 7 [(0, .ref (ad 42)), (1, .int zA), (2, .int zB)] := hl
  refine lv_aload_n hx hb dX5_group_0 rfl (lv_at hl 0 rfl) ?_
  refine lv_aload_n hx hb dX5_group_1 rfl (lv_at hl 0 rfl) ?_
  refine lv_iload_n hx hb dX5_group_2 rfl (lv_at hl 1 rfl) ?_
  refine bm_rcallV (As := [.int zA]) (rest := [.ref (ad 42)]) ⟨hx, hb, hml, hown, hts⟩ (m_isPart) (cwV 1 hts (gdV (by decide +kernel) (by decide +kernel) (by decide +kernel) (by decide +kernel) (by decide +kernel)) rfl rfl rfl (by decide +kernel) ⟨Nat.le_of_ble_eq_true rfl, Nat.le_of_ble_eq_true rfl⟩) hK hP 42 5 rfl rfl rfl hl.1 rfl (Nat.le_of_ble_eq_true rfl) dX5_group_3 ⟨Nat.le_of_ble_eq_true rfl, Nat.le_of_ble_eq_true rfl⟩ ?_
  refine bm_zb_eq (x := false) (tgt := 21) hx hb dX5_group_6 (by decide) (fun c_1 => ?_) (fun c_1 => ?_)
  · refine lv_iconst (v := nI 1) hx hb dX5_group_21 (by decide) ?_
    refine va_put (D := D) (ci := 5) (v := .int (nI 1)) (ty := .int) (C := RX5) (T := TX5) (N := 28) hx hb hts (inT inX5) tyX5 tyX5_ok nmX5 hown hK hP hD hS 42 rfl rfl 0 (by decide) (hts (.fieldLink RX5 81 "BoardMovesModel" "thrown" "I") (by decide +kernel)) (fun _ h9 => h9) rfl (by decide +kernel) rfl rfl (Nat.le_of_ble_eq_true rfl) dX5_group_22 (fun H locs hP hD hS => ?_)
    have hP : va_P D vwCl (WW ad cJ cI cZ bm pa p0 p1 p2 li wi (1) (ms.1, ms.2.1, 0, 0, 0, 0, 0, ms.2.2.2.2.2.2.2) ma mp mk mn ou) H := hP
    have hD : va_D A (WW ad cJ cI cZ bm pa p0 p1 p2 li wi (1) (ms.1, ms.2.1, 0, 0, 0, 0, 0, ms.2.2.2.2.2.2.2) ma mp mk mn ou) := hD
    refine lv_aload_n hx hb dX5_group_25 rfl (lv_at hl 0 rfl) ?_
    refine va_get (D := D) (ci := 5) (v := .int (nI 1)) (C := RX5) (T := TX5) (N := 28) hx hb hts (inT inX5) hown hK hP 42 rfl rfl 0 (by decide) (hts (.fieldLink RX5 81 "BoardMovesModel" "thrown" "I") (by decide +kernel)) (fun _ h9 => h9) rfl dX5_group_26 ?_
    refine bm_nz_eq (x := 1) (tgt := 34) hx hb (by decide) dX5_group_29 (by decide) (fun c_2 => ?_) (fun c_2 => ?_)
    · exact absurd c_2 (by decide)
    · refine lv_iconst (v := nI 0) hx hb dX5_group_32 (by decide) ?_
      exact bm_iretW (v := (nI 0)) hx hb hr hP hD hK hS ⟨rfl, rfl⟩ dX5_group_33 hlocks
  · exact absurd c_1 (by decide)

set_option maxHeartbeats 4000000 in
set_option maxRecDepth 100000 in
theorem m_height {l : Launch} {D : va_G} {ad : Nat → Nat} {cJ cI cZ : ClassId} {bm : gBM} {pa : gPA} {p0 p1 p2 : gPL} {li : gLI} {wi : gWI} {mt : Nat} {ms : gMS} {ma : gMA} {mp : gMP} {mk : gMK} {mn : gMN} {ou : Nat → Int64} {zA : Int32} {zB : Int64} : bm_Wr l yX5_height wsX5_height ({ frames := 1, cells := 0, slots := 0, locals := 21 }) D vwCl [(cJ, .long), (cI, .int), (cZ, .boolean)] (WW ad cJ cI cZ bm pa p0 p1 p2 li wi mt (ms.1, ms.2.1, 0, 0, 0, 0, 0, ms.2.2.2.2.2.2.2) ma mp mk mn ou) [.ref (ad 42), .int zA, .long zB] (WW ad cJ cI cZ bm pa p0 p1 p2 li wi (1) (ms.1, ms.2.1, 0, 0, 0, 0, 0, ms.2.2.2.2.2.2.2) ma mp mk mn ou) (some (.int (bm_b false))) := by
  intro sz
  refine Met.ofW (cc := cX5_height) (maxL := 6) (ret := (some .boolean)) (by decide) rfl ?_
  intro p e s m args below meth c s₁ B hml hv
  obtain ⟨ha, hsz, hP, hK, hD0⟩ := hv
  have hx := B.exec
  have hb := B.bytes
  have hr := B.returns
  have hts := atoms_spec (ws := wsX5_height) B.pre
  have hown : s.vm.findClass RX5 = some m.cls := findClass_of_methodNamed B.named
  have hlocks := B.notSynchronized
  subst hsz
  have hD := hD0.self (sz := s.heap.size)
  generalize hAe : va_A (WW ad cJ cI cZ bm pa p0 p1 p2 li wi mt (ms.1, ms.2.1, 0, 0, 0, 0, 0, ms.2.2.2.2.2.2.2) ma mp mk mn ou) s.heap.size = A at hD ⊢
  have hA : ∀ q : Nat, s.heap.size ≤ q → A q := fun q h => by rw [← hAe]; exact Or.inr h
  have hS : va_S A s.heap s.heap [] := va_S.rf
  have hl := lv_entry ([.ref (ad 42), .int zA, .long zB]) (n := 6) (Nat.le_of_ble_eq_true rfl)
  refine W.eq (g2 := entryFrame m ([.ref (ad 42), .int zA, .long zB] : List Value).toArray 6) (by rw [ha]) ?_
  rw [lg_entry_eq]
  generalize (lg_sl ([.ref (ad 42), .int zA, .long zB]) ++ List.replicate (6 - (lg_sl ([.ref (ad 42), .int zA, .long zB])).length) Slot.unset).toArray = ls at hl ⊢
  have hl : lv_has ls 6 [(0, .ref (ad 42)), (1, .int zA), (2, .long zB)] := hl
  refine lv_aload_n hx hb dX5_height_0 rfl (lv_at hl 0 rfl) ?_
  refine lv_aload_n hx hb dX5_height_1 rfl (lv_at hl 0 rfl) ?_
  refine lv_iload_n hx hb dX5_height_2 rfl (lv_at hl 1 rfl) ?_
  refine bm_rcallV (As := [.int zA]) (rest := [.ref (ad 42)]) ⟨hx, hb, hml, hown, hts⟩ (m_isPart) (cwV 1 hts (gdV (by decide +kernel) (by decide +kernel) (by decide +kernel) (by decide +kernel) (by decide +kernel)) rfl rfl rfl (by decide +kernel) ⟨Nat.le_of_ble_eq_true rfl, Nat.le_of_ble_eq_true rfl⟩) hK hP 42 5 rfl rfl rfl hl.1 rfl (Nat.le_of_ble_eq_true rfl) dX5_height_3 ⟨Nat.le_of_ble_eq_true rfl, Nat.le_of_ble_eq_true rfl⟩ ?_
  refine bm_zb_ne (x := false) (tgt := 13) hx hb dX5_height_6 (by decide) (fun c_1 => ?_) (fun c_1 => ?_)
  · exact absurd c_1 (by decide)
  · refine lv_iconst (v := nI 1) hx hb dX5_height_9 (by decide) ?_
    refine lv_goto (tgt := 32) hx hb dX5_height_10 (by decide) ?_
    refine va_put (D := D) (ci := 5) (v := .int (nI 1)) (ty := .int) (C := RX5) (T := TX5) (N := 28) hx hb hts (inT inX5) tyX5 tyX5_ok nmX5 hown hK hP hD hS 42 rfl rfl 0 (by decide) (hts (.fieldLink RX5 81 "BoardMovesModel" "thrown" "I") (by decide +kernel)) (fun _ h9 => h9) rfl (by decide +kernel) rfl rfl (Nat.le_of_ble_eq_true rfl) dX5_height_32 (fun H locs hP hD hS => ?_)
    have hP : va_P D vwCl (WW ad cJ cI cZ bm pa p0 p1 p2 li wi (1) (ms.1, ms.2.1, 0, 0, 0, 0, 0, ms.2.2.2.2.2.2.2) ma mp mk mn ou) H := hP
    have hD : va_D A (WW ad cJ cI cZ bm pa p0 p1 p2 li wi (1) (ms.1, ms.2.1, 0, 0, 0, 0, 0, ms.2.2.2.2.2.2.2) ma mp mk mn ou) := hD
    refine lv_aload_n hx hb dX5_height_35 rfl (lv_at hl 0 rfl) ?_
    refine va_get (D := D) (ci := 5) (v := .int (nI 1)) (C := RX5) (T := TX5) (N := 28) hx hb hts (inT inX5) hown hK hP 42 rfl rfl 0 (by decide) (hts (.fieldLink RX5 81 "BoardMovesModel" "thrown" "I") (by decide +kernel)) (fun _ h9 => h9) rfl dX5_height_36 ?_
    refine bm_nz_eq (x := 1) (tgt := 44) hx hb (by decide) dX5_height_39 (by decide) (fun c_2 => ?_) (fun c_2 => ?_)
    · exact absurd c_2 (by decide)
    · refine lv_iconst (v := bm_b false) hx hb dX5_height_42 (by decide) ?_
      exact bm_zretW (v := false) hx hb hr hP hD hK hS ⟨rfl, rfl⟩ dX5_height_43 hlocks

set_option maxHeartbeats 4000000 in
set_option maxRecDepth 100000 in
theorem m_side {l : Launch} {D : va_G} {ad : Nat → Nat} {cJ cI cZ : ClassId} {bm : gBM} {pa : gPA} {p0 p1 p2 : gPL} {li : gLI} {wi : gWI} {mt : Nat} {ms : gMS} {ma : gMA} {mp : gMP} {mk : gMK} {mn : gMN} {ou : Nat → Int64} {zA : Int32} : bm_Wr l yX5_side wsX5_side ({ frames := 1, cells := 0, slots := 0, locals := 21 }) D vwCl [(cJ, .long), (cI, .int), (cZ, .boolean)] (WW ad cJ cI cZ bm pa p0 p1 p2 li wi mt (ms.1, ms.2.1, 0, 0, 0, 0, 0, ms.2.2.2.2.2.2.2) ma mp mk mn ou) [.ref (ad 42), .int zA] (WW ad cJ cI cZ bm pa p0 p1 p2 li wi (1) (ms.1, ms.2.1, 0, 0, 0, 0, 0, ms.2.2.2.2.2.2.2) ma mp mk mn ou) (some (.int (nI 0))) := by
  intro sz
  refine Met.ofW (cc := cX5_side) (maxL := 2) (ret := (some .int)) (by decide) rfl ?_
  intro p e s m args below meth c s₁ B hml hv
  obtain ⟨ha, hsz, hP, hK, hD0⟩ := hv
  have hx := B.exec
  have hb := B.bytes
  have hr := B.returns
  have hts := atoms_spec (ws := wsX5_side) B.pre
  have hown : s.vm.findClass RX5 = some m.cls := findClass_of_methodNamed B.named
  have hlocks := B.notSynchronized
  subst hsz
  have hD := hD0.self (sz := s.heap.size)
  generalize hAe : va_A (WW ad cJ cI cZ bm pa p0 p1 p2 li wi mt (ms.1, ms.2.1, 0, 0, 0, 0, 0, ms.2.2.2.2.2.2.2) ma mp mk mn ou) s.heap.size = A at hD ⊢
  have hA : ∀ q : Nat, s.heap.size ≤ q → A q := fun q h => by rw [← hAe]; exact Or.inr h
  have hS : va_S A s.heap s.heap [] := va_S.rf
  have hl := lv_entry ([.ref (ad 42), .int zA]) (n := 2) (Nat.le_of_ble_eq_true rfl)
  refine W.eq (g2 := entryFrame m ([.ref (ad 42), .int zA] : List Value).toArray 2) (by rw [ha]) ?_
  rw [lg_entry_eq]
  generalize (lg_sl ([.ref (ad 42), .int zA]) ++ List.replicate (2 - (lg_sl ([.ref (ad 42), .int zA])).length) Slot.unset).toArray = ls at hl ⊢
  have hl : lv_has ls 2 [(0, .ref (ad 42)), (1, .int zA)] := hl
  refine lv_aload_n hx hb dX5_side_0 rfl (lv_at hl 0 rfl) ?_
  refine lv_aload_n hx hb dX5_side_1 rfl (lv_at hl 0 rfl) ?_
  refine lv_iload_n hx hb dX5_side_2 rfl (lv_at hl 1 rfl) ?_
  refine bm_rcallV (As := [.int zA]) (rest := [.ref (ad 42)]) ⟨hx, hb, hml, hown, hts⟩ (m_isPart) (cwV 1 hts (gdV (by decide +kernel) (by decide +kernel) (by decide +kernel) (by decide +kernel) (by decide +kernel)) rfl rfl rfl (by decide +kernel) ⟨Nat.le_of_ble_eq_true rfl, Nat.le_of_ble_eq_true rfl⟩) hK hP 42 5 rfl rfl rfl hl.1 rfl (Nat.le_of_ble_eq_true rfl) dX5_side_3 ⟨Nat.le_of_ble_eq_true rfl, Nat.le_of_ble_eq_true rfl⟩ ?_
  refine bm_zb_eq (x := false) (tgt := 13) hx hb dX5_side_6 (by decide) (fun c_1 => ?_) (fun c_1 => ?_)
  · refine lv_iconst (v := nI 1) hx hb dX5_side_13 (by decide) ?_
    refine va_put (D := D) (ci := 5) (v := .int (nI 1)) (ty := .int) (C := RX5) (T := TX5) (N := 28) hx hb hts (inT inX5) tyX5 tyX5_ok nmX5 hown hK hP hD hS 42 rfl rfl 0 (by decide) (hts (.fieldLink RX5 81 "BoardMovesModel" "thrown" "I") (by decide +kernel)) (fun _ h9 => h9) rfl (by decide +kernel) rfl rfl (Nat.le_of_ble_eq_true rfl) dX5_side_14 (fun H locs hP hD hS => ?_)
    have hP : va_P D vwCl (WW ad cJ cI cZ bm pa p0 p1 p2 li wi (1) (ms.1, ms.2.1, 0, 0, 0, 0, 0, ms.2.2.2.2.2.2.2) ma mp mk mn ou) H := hP
    have hD : va_D A (WW ad cJ cI cZ bm pa p0 p1 p2 li wi (1) (ms.1, ms.2.1, 0, 0, 0, 0, 0, ms.2.2.2.2.2.2.2) ma mp mk mn ou) := hD
    refine lv_aload_n hx hb dX5_side_17 rfl (lv_at hl 0 rfl) ?_
    refine va_get (D := D) (ci := 5) (v := .int (nI 1)) (C := RX5) (T := TX5) (N := 28) hx hb hts (inT inX5) hown hK hP 42 rfl rfl 0 (by decide) (hts (.fieldLink RX5 81 "BoardMovesModel" "thrown" "I") (by decide +kernel)) (fun _ h9 => h9) rfl dX5_side_18 ?_
    refine bm_nz_ne (x := 1) (tgt := 33) hx hb (by decide) dX5_side_21 (by decide) (fun c_2 => ?_) (fun c_2 => ?_)
    · refine lv_iconst (v := nI 0) hx hb dX5_side_33 (by decide) ?_
      exact bm_iretW (v := (nI 0)) hx hb hr hP hD hK hS ⟨rfl, rfl⟩ dX5_side_34 hlocks
    · exact absurd c_2 (by decide)
  · exact absurd c_1 (by decide)
