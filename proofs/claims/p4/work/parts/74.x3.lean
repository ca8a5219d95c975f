set_option maxHeartbeats 4000000 in
set_option maxRecDepth 100000 in
theorem Y_lockN {l : Launch} {D : va_G} {ad : Nat → Nat} {cJ cI cZ : ClassId} {bm : gBM} {pa : gPA} {p0 p1 p2 : gPL} {li : gLI} {wi : gWI} {mt : Nat} {ms : gMS} {ma : gMA} {mp : gMP} {mk : gMK} {mn : gMN} {ou : Nat → Int64} {zA : Int32} (hno_zA : ¬ (¬ zA < 0 ∧ zA < nI ms.2.2.1)) {zB : Bool} : bm_Wr l yX5_lock wsX5_lock ({ frames := 1, cells := 0, slots := 0, locals := 21 }) D vwCl [(cJ, .long), (cI, .int), (cZ, .boolean)] (WW ad cJ cI cZ bm pa p0 p1 p2 li wi mt ms ma mp mk mn ou) [.ref (ad 42), .int zA, .int (bm_b zB)] (WW ad cJ cI cZ bm pa p0 p1 p2 li wi (1) ms ma mp mk mn ou) (some (.int (bm_b false))) := by
  intro sz
  refine Met.ofW (cc := cX5_lock) (maxL := 4) (ret := (some .boolean)) (by decide) rfl ?_
  intro p e s m args below meth c s₁ B hml hv
  obtain ⟨ha, hsz, hP, hK, hD0⟩ := hv
  have hx := B.exec
  have hb := B.bytes
  have hr := B.returns
  have hts := atoms_spec (ws := wsX5_lock) B.pre
  have hown : s.vm.findClass RX5 = some m.cls := findClass_of_methodNamed B.named
  have hlocks := B.notSynchronized
  subst hsz
  have hD := hD0.self (sz := s.heap.size)
  generalize hAe : va_A (WW ad cJ cI cZ bm pa p0 p1 p2 li wi mt ms ma mp mk mn ou) s.heap.size = A at hD ⊢
  have hA : ∀ q : Nat, s.heap.size ≤ q → A q := fun q h => by rw [← hAe]; exact Or.inr h
  have hS : va_S A s.heap s.heap [] := va_S.rf
  have hl := lv_entry ([.ref (ad 42), .int zA, .int (bm_b zB)]) (n := 4) (Nat.le_of_ble_eq_true rfl)
  refine W.eq (g2 := entryFrame m ([.ref (ad 42), .int zA, .int (bm_b zB)] : List Value).toArray 4) (by rw [ha]) ?_
  rw [lg_entry_eq]
  generalize (lg_sl ([.ref (ad 42), .int zA, .int (bm_b zB)]) ++ List.replicate (4 - (lg_sl ([.ref (ad 42), .int zA, .int (bm_b zB)])).length) Slot.unset).toArray = ls at hl ⊢
  have hl : lv_has ls 4 [(0, .ref (ad 42)), (1, .int zA), (2, .int (bm_b zB))] := hl
  refine lv_aload_n hx hb dX5_lock_0 rfl (lv_at hl 0 rfl) ?_
  refine lv_aload_n hx hb dX5_lock_1 rfl (lv_at hl 0 rfl) ?_
  refine lv_iload_n hx hb dX5_lock_2 rfl (lv_at hl 1 rfl) ?_
  refine bm_rcallV (As := [.int zA]) (rest := [.ref (ad 42)]) ⟨hx, hb, hml, hown, hts⟩ (Y_isPartN hno_zA) (cwV 1 hts gvX5_139 rfl rfl rfl hvX5_isPart ⟨Nat.le_of_ble_eq_true rfl, Nat.le_of_ble_eq_true rfl⟩) hK hP 42 5 rfl ww_42 rfl hl.1 rfl (Nat.le_of_ble_eq_true rfl) dX5_lock_3 ⟨Nat.le_of_ble_eq_true rfl, Nat.le_of_ble_eq_true rfl⟩ ?_
  refine bm_zb_eq (x := false) (tgt := 13) hx hb dX5_lock_6 (by decide) (fun c_1 => ?_) (fun c_1 => ?_)
  · refine lv_iconst (v := nI 1) hx hb dX5_lock_13 (by decide) ?_
    refine va_put (D := D) (ci := 5) (v := .int (nI 1)) (ty := .int) (C := RX5) (T := TX5) (N := 28) hx hb hts (inT inX5) tyX5 tyX5_ok nmX5 hown hK hP hD hS 42 ww_42 rfl 0 (by decide) (hts (.fieldLink RX5 81 "BoardMovesModel" "thrown" "I") (List.mem_cons_of_mem _ flX5_81)) (fun _ h9 => h9) rfl (by decide +kernel) rfl rfl (Nat.le_of_ble_eq_true rfl) dX5_lock_14 (fun H locs hP hD hS => ?_)
    have hP : va_P D vwCl (WW ad cJ cI cZ bm pa p0 p1 p2 li wi (1) ms ma mp mk mn ou) H := hP
    have hD : va_D A (WW ad cJ cI cZ bm pa p0 p1 p2 li wi (1) ms ma mp mk mn ou) := hD
    refine lv_aload_n hx hb dX5_lock_17 rfl (lv_at hl 0 rfl) ?_
    refine va_get (D := D) (ci := 5) (v := .int (nI 1)) (C := RX5) (T := TX5) (N := 28) hx hb hts (inT inX5) hown hK hP 42 ww_42 rfl 0 (by decide) (hts (.fieldLink RX5 81 "BoardMovesModel" "thrown" "I") (List.mem_cons_of_mem _ flX5_81)) (fun _ h9 => h9) rfl dX5_lock_18 ?_
    refine bm_nz_eq (x := 1) (tgt := 26) hx hb (by decide) dX5_lock_21 (by decide) (fun c_2 => ?_) (fun c_2 => ?_)
    · exact absurd c_2 (by decide)
    · refine lv_iconst (v := bm_b false) hx hb dX5_lock_24 (by decide) ?_
      exact bm_zretW (v := false) hx hb hr hP hD hK hS ⟨rfl, rfl⟩ dX5_lock_25 hlocks
  · exact absurd c_1 (by decide)

set_option maxHeartbeats 4000000 in
set_option maxRecDepth 100000 in
theorem X_sideA {l : Launch} {D : va_G} {ad : Nat → Nat} {cJ cI cZ : ClassId} {bm : gBM} {pa : gPA} {p0 p1 p2 : gPL} {li : gLI} {wi : gWI} {mt : Nat} {ms : gMS} {ma : gMA} {mp : gMP} {mk : gMK} {mn : gMN} {ou : Nat → Int64} (okn : pa.2.2.2.2.2.2 ≤ 40) {zA : Nat} (hk_zA : zA < pa.2.2.2.2.2.2)  : bm_Rd l yX4_side wsX4_side ({ frames := 1, cells := 0, slots := 0, locals := 21 }) D vwCl [(cJ, .long), (cI, .int), (cZ, .boolean)] (WW ad cJ cI cZ bm pa p0 p1 p2 li wi mt ms ma mp mk mn ou) [.ref (ad 0), .int (nI zA)] (.int (nI (pa.2.2.1 zA))) := by
  refine Met.ofW (cc := cX4_side) (maxL := 2) (ret := (some .int)) (by decide) rfl ?_
  intro p e s m args below meth c s₁ B hml hv
  obtain ⟨ha, hP, hK⟩ := hv
  have hx := B.exec
  have hb := B.bytes
  have hr := B.returns
  have hts := atoms_spec (ws := wsX4_side) B.pre
  have hown : s.vm.findClass RX4 = some m.cls := findClass_of_methodNamed B.named
  have hlocks := B.notSynchronized
  have hl := lv_entry ([.ref (ad 0), .int (nI zA)]) (n := 2) (Nat.le_of_ble_eq_true rfl)
  refine W.eq (g2 := entryFrame m ([.ref (ad 0), .int (nI zA)] : List Value).toArray 2) (by rw [ha]) ?_
  rw [lg_entry_eq]
  generalize (lg_sl ([.ref (ad 0), .int (nI zA)]) ++ List.replicate (2 - (lg_sl ([.ref (ad 0), .int (nI zA)])).length) Slot.unset).toArray = ls at hl ⊢
  have hl : lv_has ls 2 [(0, .ref (ad 0)), (1, .int (nI zA))] := hl
  refine lv_aload_n hx hb dX4_side_0 rfl (lv_at hl 0 rfl) ?_
  refine lv_iload_n hx hb dX4_side_1 rfl (lv_at hl 1 rfl) ?_
  refine bm_vcallV (As := [.int (nI zA)]) (rest := []) ⟨hx, hb, hml, hown, hts⟩ (X_needY  (zp := zA) okn (by omega)) (cwV 1 hts gvX4_86 rfl rfl rfl hvX4_needPart ⟨Nat.le_of_ble_eq_true rfl, Nat.le_of_ble_eq_true rfl⟩) hK hP 0 4 rfl ww_0 rfl hl.1 rfl (Nat.le_of_ble_eq_true rfl) dX4_side_2 ⟨Nat.le_of_ble_eq_true rfl, Nat.le_of_ble_eq_true rfl⟩ ?_
  refine lv_aload_n hx hb dX4_side_5 rfl (lv_at hl 0 rfl) ?_
  refine va_get (D := D) (ci := 4) (v := .ref (ad 1)) (C := RX4) (T := TX4) (N := 10) hx hb hts (inT inX4) hown hK hP 0 ww_0 rfl 2 (by decide) (hts (.fieldLink RX4 12 "BoardMoves" "parts" "LBoardMoves$Parts;") (List.mem_cons_of_mem _ flX4_12)) (fun _ h9 => h9) rfl dX4_side_6 ?_
  refine va_get (D := D) (ci := 1) (v := .ref (ad 4)) (C := RX1) (T := TX1) (N := 7) hx hb hts (inT inX1) hown hK hP 1 ww_1 rfl 2 (by decide) (hts (.fieldLink RX4 235 "BoardMoves$Parts" "side" "[I") (List.mem_cons_of_mem _ flX4_235)) (fun _ h9 => h9) rfl dX4_side_9 ?_
  refine lv_iload_n hx hb dX4_side_12 rfl (lv_at hl 1 rfl) ?_
  refine bm_nald (f := pa.2.2.1) hx hb hK hP 4 1 ww_4 rfl (j := zA) (by omega) (by decide) dX4_side_13 ?_
  exact bm_iretR (v := (nI (pa.2.2.1 zA))) hx hb hr rfl dX4_side_14 hlocks

set_option maxHeartbeats 4000000 in
set_option maxRecDepth 100000 in
theorem E_sideA {l : Launch} (hlt : l.stackTraces = false) {D : va_G} {ad : Nat → Nat} {cJ cI cZ : ClassId} {bm : gBM} {pa : gPA} {p0 p1 p2 : gPL} {li : gLI} {wi : gWI} {mt : Nat} {ms : gMS} {ma : gMA} {mp : gMP} {mk : gMK} {mn : gMN} {ou : Nat → Int64} (okn : pa.2.2.2.2.2.2 ≤ 40) {zA : Nat} (hk_zA : zA < pa.2.2.2.2.2.2)  (sz : Nat) : Met l yL_side wsL_side ({ frames := 2, cells := 1, slots := 6, locals := 42 }) (bx_Hp D vwCl [(cJ, .long), (cI, .int), (cZ, .boolean)] (WW ad cJ cI cZ bm pa p0 p1 p2 li wi mt ms ma mp mk mn ou) [.ref (ad 0), .int (nI zA), .ref (ad 62)] sz) (bm_Wq D vwCl [(cJ, .long), (cI, .int), (cZ, .boolean)] (WW ad cJ cI cZ bm pa p0 p1 p2 li wi mt ms ma mp mk mn (va_up ou 0 ((nI (pa.2.2.1 zA)).toInt64))) (some (.int (nI 0))) (va_A (WW ad cJ cI cZ bm pa p0 p1 p2 li wi mt ms ma mp mk mn ou) sz)) 1 6 (va_A (WW ad cJ cI cZ bm pa p0 p1 p2 li wi mt ms ma mp mk mn ou) sz) := by
  refine bx_ofWH (cc := cL_side) (maxL := 4) (ret := (some .int)) (hs := [(0, 9, 12, 19)]) (by decide) rfl ?_
  intro p e s m args below meth c s₁ B hml htab hv
  obtain ⟨ha, hsz, hP, hK, hD0, hX, hZ⟩ := hv
  have hx := B.exec
  have hb := B.bytes
  have hr := B.returns
  have hts := atoms_spec (ws := wsL_side) B.pre
  have hown : s.vm.findClass RL = some m.cls := findClass_of_methodNamed B.named
  have hlocks := B.notSynchronized
  subst hsz
  have hD := hD0.self (sz := s.heap.size)
  generalize hAe : va_A (WW ad cJ cI cZ bm pa p0 p1 p2 li wi mt ms ma mp mk mn ou) s.heap.size = A at hD ⊢
  have hA : ∀ q : Nat, s.heap.size ≤ q → A q := fun q h => by rw [← hAe]; exact Or.inr h
  have hS : va_S A s.heap s.heap [] := va_S.rf
  have hl := lv_entry ([.ref (ad 0), .int (nI zA), .ref (ad 62)]) (n := 4) (Nat.le_of_ble_eq_true rfl)
  refine W.eq (g2 := entryFrame m ([.ref (ad 0), .int (nI zA), .ref (ad 62)] : List Value).toArray 4) (by rw [ha]) ?_
  rw [lg_entry_eq]
  generalize (lg_sl ([.ref (ad 0), .int (nI zA), .ref (ad 62)]) ++ List.replicate (4 - (lg_sl ([.ref (ad 0), .int (nI zA), .ref (ad 62)])).length) Slot.unset).toArray = ls at hl ⊢
  have hl : lv_has ls 4 [(0, .ref (ad 0)), (1, .int (nI zA)), (2, .ref (ad 62))] := hl
  refine lv_aload_n hx hb dL_side_0 rfl (lv_at hl 2 rfl) ?_
  refine lv_iconst (v := nI 0) hx hb dL_side_1 (by decide) ?_
  refine lv_aload_n hx hb dL_side_2 rfl (lv_at hl 0 rfl) ?_
  refine lv_iload_n hx hb dL_side_3 rfl (lv_at hl 1 rfl) ?_
  refine bm_rcallV (As := [.int (nI zA)]) (rest := [.int (nI 0), .ref (ad 62)]) ⟨hx, hb, hml, hown, hts⟩ (X_sideA okn hk_zA) (cwV 1 hts gwL_59 rfl rfl rfl hvX4_side ⟨Nat.le_of_ble_eq_true rfl, Nat.le_of_ble_eq_true rfl⟩) hK hP 0 4 rfl ww_0 rfl hl.1 rfl (Nat.le_of_ble_eq_true rfl) dL_side_4 ⟨Nat.le_of_ble_eq_true rfl, Nat.le_of_ble_eq_true rfl⟩ ?_
  refine lv_i2l (v := (nI (pa.2.2.1 zA)).toInt64) hx hb dL_side_7 rfl ?_
  refine bm_last (f := ou) hx hb hK hP hD hS 62 0 ww_62 rfl (j := 0) (x := ((nI (pa.2.2.1 zA)).toInt64)) (by omega) (by decide) dL_side_8 (fun H locs hP hD hS => ?_)
  have hP : va_P D vwCl (WW ad cJ cI cZ bm pa p0 p1 p2 li wi mt ms ma mp mk mn (va_up ou 0 ((nI (pa.2.2.1 zA)).toInt64))) H := hP
  have hD : va_D A (WW ad cJ cI cZ bm pa p0 p1 p2 li wi mt ms ma mp mk mn (va_up ou 0 ((nI (pa.2.2.1 zA)).toInt64))) := hD
  refine lv_goto (tgt := 15) hx hb dL_side_9 (by decide) ?_
  refine lv_iconst (v := nI 0) hx hb dL_side_15 (by decide) ?_
  refine W.widen (k := 1) (n := 6) (by decide) (by decide) ?_
  exact bm_iretW (v := (nI 0)) hx hb hr hP hD hK hS ⟨rfl, rfl⟩ dL_side_16 hlocks

set_option maxHeartbeats 4000000 in
set_option maxRecDepth 100000 in
theorem E_sideN {l : Launch} (hlt : l.stackTraces = false) {D : va_G} {ad : Nat → Nat} {cJ cI cZ : ClassId} {bm : gBM} {pa : gPA} {p0 p1 p2 : gPL} {li : gLI} {wi : gWI} {mt : Nat} {ms : gMS} {ma : gMA} {mp : gMP} {mk : gMK} {mn : gMN} {ou : Nat → Int64} {zA : Int32} (hno_zA : ¬ (¬ zA < 0 ∧ zA < nI pa.2.2.2.2.2.2))  (sz : Nat) : Met l yL_side wsL_side ({ frames := 8, cells := 1, slots := 6, locals := 143 }) (bx_Hp D vwCl [(cJ, .long), (cI, .int), (cZ, .boolean)] (WW ad cJ cI cZ bm pa p0 p1 p2 li wi mt ms ma mp mk mn ou) [.ref (ad 0), .int zA, .ref (ad 62)] sz) (bm_Wq D vwCl [(cJ, .long), (cI, .int), (cZ, .boolean)] (WW ad cJ cI cZ bm pa p0 p1 p2 li wi mt ms ma mp mk mn ou) (some (.int (nI 1))) (va_A (WW ad cJ cI cZ bm pa p0 p1 p2 li wi mt ms ma mp mk mn ou) sz)) 1 6 (va_A (WW ad cJ cI cZ bm pa p0 p1 p2 li wi mt ms ma mp mk mn ou) sz) := by
  refine bx_ofWH (cc := cL_side) (maxL := 4) (ret := (some .int)) (hs := [(0, 9, 12, 19)]) (by decide) rfl ?_
  intro p e s m args below meth c s₁ B hml htab hv
  obtain ⟨ha, hsz, hP, hK, hD0, hX, hZ⟩ := hv
  have hx := B.exec
  have hb := B.bytes
  have hr := B.returns
  have hts := atoms_spec (ws := wsL_side) B.pre
  have hown : s.vm.findClass RL = some m.cls := findClass_of_methodNamed B.named
  have hlocks := B.notSynchronized
  subst hsz
  have hD := hD0.self (sz := s.heap.size)
  generalize hAe : va_A (WW ad cJ cI cZ bm pa p0 p1 p2 li wi mt ms ma mp mk mn ou) s.heap.size = A at hD ⊢
  have hA : ∀ q : Nat, s.heap.size ≤ q → A q := fun q h => by rw [← hAe]; exact Or.inr h
  have hS : va_S A s.heap s.heap [] := va_S.rf
  have hl := lv_entry ([.ref (ad 0), .int zA, .ref (ad 62)]) (n := 4) (Nat.le_of_ble_eq_true rfl)
  refine W.eq (g2 := entryFrame m ([.ref (ad 0), .int zA, .ref (ad 62)] : List Value).toArray 4) (by rw [ha]) ?_
  rw [lg_entry_eq]
  generalize (lg_sl ([.ref (ad 0), .int zA, .ref (ad 62)]) ++ List.replicate (4 - (lg_sl ([.ref (ad 0), .int zA, .ref (ad 62)])).length) Slot.unset).toArray = ls at hl ⊢
  have hl : lv_has ls 4 [(0, .ref (ad 0)), (1, .int zA), (2, .ref (ad 62))] := hl
  refine lv_aload_n hx hb dL_side_0 rfl (lv_at hl 2 rfl) ?_
  refine lv_iconst (v := nI 0) hx hb dL_side_1 (by decide) ?_
  refine lv_aload_n hx hb dL_side_2 rfl (lv_at hl 0 rfl) ?_
  refine lv_iload_n hx hb dL_side_3 rfl (lv_at hl 1 rfl) ?_
  refine bx_catch (name := "java/lang/IndexOutOfBoundsException") (bx_tcallV (As := [.int zA]) (rest := [.int (nI 0), .ref (ad 62)]) ⟨hx, hb, hml, hown, hts⟩ (X_side1 hlt hno_zA) (cwV 1 hts gwL_59 rfl rfl rfl hvX4_side ⟨Nat.le_of_ble_eq_true rfl, Nat.le_of_ble_eq_true rfl⟩) hK hP hX hZ 0 4 rfl ww_0 rfl hl.1 rfl (Nat.le_of_ble_eq_true rfl) dL_side_4 ⟨Nat.le_of_ble_eq_true rfl, Nat.le_of_ble_eq_true rfl⟩) hown htab (by decide) (by decide) (hts (.classLink RL 19 "java/lang/IndexOutOfBoundsException") (by decide +kernel)) (hX (.castable "java/lang/IndexOutOfBoundsException" "java/lang/IndexOutOfBoundsException") (by decide +kernel) _) (fun q9 H hz hh => ?_)
  have hP := bx_keepP hP hh
  have hS := bx_keepS hS hz hh
  refine lv_astore_n (lv' := [(3, .ref q9), (0, .ref (ad 0)), (1, .int zA), (2, .ref (ad 62))]) hx hb dL_side_12 rfl hl (by decide) rfl (fun ls hl => ?_)
  refine lv_iconst (v := nI 1) hx hb dL_side_13 (by decide) ?_
  exact bm_iretW (v := (nI 1)) hx hb hr hP hD hK hS ⟨rfl, rfl⟩ dL_side_14 hlocks

set_option maxHeartbeats 4000000 in
set_option maxRecDepth 100000 in
theorem Y_sideA {l : Launch} {D : va_G} {ad : Nat → Nat} {cJ cI cZ : ClassId} {bm : gBM} {pa : gPA} {p0 p1 p2 : gPL} {li : gLI} {wi : gWI} {mt : Nat} {ms : gMS} {ma : gMA} {mp : gMP} {mk : gMK} {mn : gMN} {ou : Nat → Int64} (okp : ms.2.2.1 ≤ 40) {zA : Nat} (hk_zA : zA < ms.2.2.1)  : bm_Wr l yX5_side wsX5_side ({ frames := 1, cells := 0, slots := 0, locals := 21 }) D vwCl [(cJ, .long), (cI, .int), (cZ, .boolean)] (WW ad cJ cI cZ bm pa p0 p1 p2 li wi mt ms ma mp mk mn ou) [.ref (ad 42), .int (nI zA)] (WW ad cJ cI cZ bm pa p0 p1 p2 li wi (0) ms ma mp mk mn ou) (some (.int (nI (ma.2.2.1 zA)))) := by
  intro sz
  refine Met.ofW (cc := cX5_side) (maxL := 2) (ret := (some .int)) (by decide) rfl ?_
  intro p e s m args below meth c s₁ B hml hv
  obtain ⟨ha, hsz, hP, hK, hD0⟩ := hv
  have hx := B.exec
  have hb := B.bytes
  have hr := B.returns
  have hts := atoms_spec (ws := wsX5_side) B.pre
  have hown : s.vm.findClass RX5 = some m.cls := findClass_of_methodNamed B.named
  have hlocks := B.notSynchronized
  subst hsz
  have hD := hD0.self (sz := s.heap.size)
  generalize hAe : va_A (WW ad cJ cI cZ bm pa p0 p1 p2 li wi mt ms ma mp mk mn ou) s.heap.size = A at hD ⊢
  have hA : ∀ q : Nat, s.heap.size ≤ q → A q := fun q h => by rw [← hAe]; exact Or.inr h
  have hS : va_S A s.heap s.heap [] := va_S.rf
  have hl := lv_entry ([.ref (ad 42), .int (nI zA)]) (n := 2) (Nat.le_of_ble_eq_true rfl)
  refine W.eq (g2 := entryFrame m ([.ref (ad 42), .int (nI zA)] : List Value).toArray 2) (by rw [ha]) ?_
  rw [lg_entry_eq]
  generalize (lg_sl ([.ref (ad 42), .int (nI zA)]) ++ List.replicate (2 - (lg_sl ([.ref (ad 42), .int (nI zA)])).length) Slot.unset).toArray = ls at hl ⊢
  have hl : lv_has ls 2 [(0, .ref (ad 42)), (1, .int (nI zA))] := hl
  refine lv_aload_n hx hb dX5_side_0 rfl (lv_at hl 0 rfl) ?_
  refine lv_aload_n hx hb dX5_side_1 rfl (lv_at hl 0 rfl) ?_
  refine lv_iload_n hx hb dX5_side_2 rfl (lv_at hl 1 rfl) ?_
  refine bm_rcallV (As := [.int (nI zA)]) (rest := [.ref (ad 42)]) ⟨hx, hb, hml, hown, hts⟩ (Y_isPartY okp (by omega)) (cwV 1 hts gvX5_139 rfl rfl rfl hvX5_isPart ⟨Nat.le_of_ble_eq_true rfl, Nat.le_of_ble_eq_true rfl⟩) hK hP 42 5 rfl ww_42 rfl hl.1 rfl (Nat.le_of_ble_eq_true rfl) dX5_side_3 ⟨Nat.le_of_ble_eq_true rfl, Nat.le_of_ble_eq_true rfl⟩ ?_
  refine bm_zb_eq (x := true) (tgt := 13) hx hb dX5_side_6 (by decide) (fun c_1 => ?_) (fun c_1 => ?_)
  · exact absurd c_1 (by decide)
  · refine lv_iconst (v := nI 0) hx hb dX5_side_9 (by decide) ?_
    refine lv_goto (tgt := 14) hx hb dX5_side_10 (by decide) ?_
    refine va_put (D := D) (ci := 5) (v := .int (nI 0)) (ty := .int) (C := RX5) (T := TX5) (N := 28) hx hb hts (inT inX5) tyX5 tyX5_ok nmX5 hown hK hP hD hS 42 ww_42 rfl 0 (by decide) (hts (.fieldLink RX5 81 "BoardMovesModel" "thrown" "I") (List.mem_cons_of_mem _ flX5_81)) (fun _ h9 => h9) rfl (by decide +kernel) rfl rfl (Nat.le_of_ble_eq_true rfl) dX5_side_14 (fun H locs hP hD hS => ?_)
    have hP : va_P D vwCl (WW ad cJ cI cZ bm pa p0 p1 p2 li wi (0) ms ma mp mk mn ou) H := hP
    have hD : va_D A (WW ad cJ cI cZ bm pa p0 p1 p2 li wi (0) ms ma mp mk mn ou) := hD
    refine lv_aload_n hx hb dX5_side_17 rfl (lv_at hl 0 rfl) ?_
    refine va_get (D := D) (ci := 5) (v := .int (nI 0)) (C := RX5) (T := TX5) (N := 28) hx hb hts (inT inX5) hown hK hP 42 ww_42 rfl 0 (by decide) (hts (.fieldLink RX5 81 "BoardMovesModel" "thrown" "I") (List.mem_cons_of_mem _ flX5_81)) (fun _ h9 => h9) rfl dX5_side_18 ?_
    refine bm_nz_ne (x := 0) (tgt := 33) hx hb (by decide) dX5_side_21 (by decide) (fun c_2 => ?_) (fun c_2 => ?_)
    · exact absurd c_2 (by decide)
    · refine lv_aload_n hx hb dX5_side_24 rfl (lv_at hl 0 rfl) ?_
      refine va_get (D := D) (ci := 5) (v := .ref (ad 45)) (C := RX5) (T := TX5) (N := 28) hx hb hts (inT inX5) hown hK hP 42 ww_42 rfl 6 (by decide) (hts (.fieldLink RX5 16 "BoardMovesModel" "sides" "[I") (List.mem_cons_of_mem _ flX5_16)) (fun _ h9 => h9) rfl dX5_side_25 ?_
      refine lv_iload_n hx hb dX5_side_28 rfl (lv_at hl 1 rfl) ?_
      refine bm_nald (f := ma.2.2.1) hx hb hK hP 45 1 ww_45 rfl (j := zA) (by omega) (by decide) dX5_side_29 ?_
      refine lv_goto (tgt := 34) hx hb dX5_side_30 (by decide) ?_
      exact bm_iretW (v := (nI (ma.2.2.1 zA))) hx hb hr hP hD hK hS ⟨rfl, rfl⟩ dX5_side_34 hlocks

set_option maxHeartbeats 4000000 in
set_option maxRecDepth 100000 in
theorem Y_sideN {l : Launch} {D : va_G} {ad : Nat → Nat} {cJ cI cZ : ClassId} {bm : gBM} {pa : gPA} {p0 p1 p2 : gPL} {li : gLI} {wi : gWI} {mt : Nat} {ms : gMS} {ma : gMA} {mp : gMP} {mk : gMK} {mn : gMN} {ou : Nat → Int64} {zA : Int32} (hno_zA : ¬ (¬ zA < 0 ∧ zA < nI ms.2.2.1))  : bm_Wr l yX5_side wsX5_side ({ frames := 1, cells := 0, slots := 0, locals := 21 }) D vwCl [(cJ, .long), (cI, .int), (cZ, .boolean)] (WW ad cJ cI cZ bm pa p0 p1 p2 li wi mt ms ma mp mk mn ou) [.ref (ad 42), .int zA] (WW ad cJ cI cZ bm pa p0 p1 p2 li wi (1) ms ma mp mk mn ou) (some (.int (nI 0))) := by
  intro sz
  refine Met.ofW (cc := cX5_side) (maxL := 2) (ret := (some .int)) (by decide) rfl ?_
  intro p e s m args below meth c s₁ B hml hv
  obtain ⟨ha, hsz, hP, hK, hD0⟩ := hv
  have hx := B.exec
  have hb := B.bytes
  have hr := B.returns
  have hts := atoms_spec (ws := wsX5_side) B.pre
  have hown : s.vm.findClass RX5 = some m.cls := findClass_of_methodNamed B.named
  have hlocks := B.notSynchronized
  subst hsz
  have hD := hD0.self (sz := s.heap.size)
  generalize hAe : va_A (WW ad cJ cI cZ bm pa p0 p1 p2 li wi mt ms ma mp mk mn ou) s.heap.size = A at hD ⊢
  have hA : ∀ q : Nat, s.heap.size ≤ q → A q := fun q h => by rw [← hAe]; exact Or.inr h
  have hS : va_S A s.heap s.heap [] := va_S.rf
  have hl := lv_entry ([.ref (ad 42), .int zA]) (n := 2) (Nat.le_of_ble_eq_true rfl)
  refine W.eq (g2 := entryFrame m ([.ref (ad 42), .int zA] : List Value).toArray 2) (by rw [ha]) ?_
  rw [lg_entry_eq]
  generalize (lg_sl ([.ref (ad 42), .int zA]) ++ List.replicate (2 - (lg_sl ([.ref (ad 42), .int zA])).length) Slot.unset).toArray = ls at hl ⊢
  have hl : lv_has ls 2 [(0, .ref (ad 42)), (1, .int zA)] := hl
  refine lv_aload_n hx hb dX5_side_0 rfl (lv_at hl 0 rfl) ?_
  refine lv_aload_n hx hb dX5_side_1 rfl (lv_at hl 0 rfl) ?_
  refine lv_iload_n hx hb dX5_side_2 rfl (lv_at hl 1 rfl) ?_
  refine bm_rcallV (As := [.int zA]) (rest := [.ref (ad 42)]) ⟨hx, hb, hml, hown, hts⟩ (Y_isPartN hno_zA) (cwV 1 hts gvX5_139 rfl rfl rfl hvX5_isPart ⟨Nat.le_of_ble_eq_true rfl, Nat.le_of_ble_eq_true rfl⟩) hK hP 42 5 rfl ww_42 rfl hl.1 rfl (Nat.le_of_ble_eq_true rfl) dX5_side_3 ⟨Nat.le_of_ble_eq_true rfl, Nat.le_of_ble_eq_true rfl⟩ ?_
  refine bm_zb_eq (x := false) (tgt := 13) hx hb dX5_side_6 (by decide) (fun c_1 => ?_) (fun c_1 => ?_)
  · refine lv_iconst (v := nI 1) hx hb dX5_side_13 (by decide) ?_
    refine va_put (D := D) (ci := 5) (v := .int (nI 1)) (ty := .int) (C := RX5) (T := TX5) (N := 28) hx hb hts (inT inX5) tyX5 tyX5_ok nmX5 hown hK hP hD hS 42 ww_42 rfl 0 (by decide) (hts (.fieldLink RX5 81 "BoardMovesModel" "thrown" "I") (List.mem_cons_of_mem _ flX5_81)) (fun _ h9 => h9) rfl (by decide +kernel) rfl rfl (Nat.le_of_ble_eq_true rfl) dX5_side_14 (fun H locs hP hD hS => ?_)
    have hP : va_P D vwCl (WW ad cJ cI cZ bm pa p0 p1 p2 li wi (1) ms ma mp mk mn ou) H := hP
    have hD : va_D A (WW ad cJ cI cZ bm pa p0 p1 p2 li wi (1) ms ma mp mk mn ou) := hD
    refine lv_aload_n hx hb dX5_side_17 rfl (lv_at hl 0 rfl) ?_
    refine va_get (D := D) (ci := 5) (v := .int (nI 1)) (C := RX5) (T := TX5) (N := 28) hx hb hts (inT inX5) hown hK hP 42 ww_42 rfl 0 (by decide) (hts (.fieldLink RX5 81 "BoardMovesModel" "thrown" "I") (List.mem_cons_of_mem _ flX5_81)) (fun _ h9 => h9) rfl dX5_side_18 ?_
    refine bm_nz_ne (x := 1) (tgt := 33) hx hb (by decide) dX5_side_21 (by decide) (fun c_2 => ?_) (fun c_2 => ?_)
    · refine lv_iconst (v := nI 0) hx hb dX5_side_33 (by decide) ?_
      exact bm_iretW (v := (nI 0)) hx hb hr hP hD hK hS ⟨rfl, rfl⟩ dX5_side_34 hlocks
    · exact absurd c_2 (by decide)
  · exact absurd c_1 (by decide)
