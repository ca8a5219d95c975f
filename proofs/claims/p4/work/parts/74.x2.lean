set_option maxHeartbeats 4000000 in
set_option maxRecDepth 100000 in
theorem E_lockT {l : Launch} (hlt : l.stackTraces = false) {D : va_G} {ad : Nat → Nat} {cJ cI cZ : ClassId} {bm : gBM} {pa : gPA} {p0 p1 p2 : gPL} {li : gLI} {wi : gWI} {mt : Nat} {ms : gMS} {ma : gMA} {mp : gMP} {mk : gMK} {mn : gMN} {ou : Nat → Int64} (okn : pa.2.2.2.2.2.2 ≤ 40) {zA : Nat} (hk_zA : zA < pa.2.2.2.2.2.2) {zB : Bool} (hxx : ¬ pa.2.2.2.2.1 zA = zB) (sz : Nat) : Met l yL_lock wsL_lock ({ frames := 2, cells := 1, slots := 6, locals := 44 }) (bx_Hp D vwCl [(cJ, .long), (cI, .int), (cZ, .boolean)] (WW ad cJ cI cZ bm pa p0 p1 p2 li wi mt ms ma mp mk mn ou) [.ref (ad 0), .int (nI zA), .int (bm_b zB), .ref (ad 62)] sz) (bm_Wq D vwCl [(cJ, .long), (cI, .int), (cZ, .boolean)] (WW ad cJ cI cZ bm (pa.1, pa.2.1, pa.2.2.1, pa.2.2.2.1, va_up pa.2.2.2.2.1 zA zB, pa.2.2.2.2.2.1, pa.2.2.2.2.2.2) p0 p1 p2 li wi mt ms ma mp mk mn (va_up ou 0 1)) (some (.int (nI 0))) (va_A (WW ad cJ cI cZ bm pa p0 p1 p2 li wi mt ms ma mp mk mn ou) sz)) 1 6 (va_A (WW ad cJ cI cZ bm pa p0 p1 p2 li wi mt ms ma mp mk mn ou) sz) := by
  refine bx_ofWH (cc := cL_lock) (maxL := 5) (ret := (some .int)) (hs := [(0, 17, 20, 19)]) (by decide) rfl ?_
  intro p e s m args below meth c s₁ B hml htab hv
  obtain ⟨ha, hsz, hP, hK, hD0, hX, hZ⟩ := hv
  have hx := B.exec
  have hb := B.bytes
  have hr := B.returns
  have hts := atoms_spec (ws := wsL_lock) B.pre
  have hown : s.vm.findClass RL = some m.cls := findClass_of_methodNamed B.named
  have hlocks := B.notSynchronized
  subst hsz
  have hD := hD0.self (sz := s.heap.size)
  generalize hAe : va_A (WW ad cJ cI cZ bm pa p0 p1 p2 li wi mt ms ma mp mk mn ou) s.heap.size = A at hD ⊢
  have hA : ∀ q : Nat, s.heap.size ≤ q → A q := fun q h => by rw [← hAe]; exact Or.inr h
  have hS : va_S A s.heap s.heap [] := va_S.rf
  have hl := lv_entry ([.ref (ad 0), .int (nI zA), .int (bm_b zB), .ref (ad 62)]) (n := 5) (Nat.le_of_ble_eq_true rfl)
  refine W.eq (g2 := entryFrame m ([.ref (ad 0), .int (nI zA), .int (bm_b zB), .ref (ad 62)] : List Value).toArray 5) (by rw [ha]) ?_
  rw [lg_entry_eq]
  generalize (lg_sl ([.ref (ad 0), .int (nI zA), .int (bm_b zB), .ref (ad 62)]) ++ List.replicate (5 - (lg_sl ([.ref (ad 0), .int (nI zA), .int (bm_b zB), .ref (ad 62)])).length) Slot.unset).toArray = ls at hl ⊢
  have hl : lv_has ls 5 [(0, .ref (ad 0)), (1, .int (nI zA)), (2, .int (bm_b zB)), (3, .ref (ad 62))] := hl
  refine lv_aload_n hx hb dL_lock_0 rfl (lv_at hl 3 rfl) ?_
  refine lv_iconst (v := nI 0) hx hb dL_lock_1 (by decide) ?_
  refine lv_aload_n hx hb dL_lock_2 rfl (lv_at hl 0 rfl) ?_
  refine lv_iload_n hx hb dL_lock_3 rfl (lv_at hl 1 rfl) ?_
  refine lv_iload_n hx hb dL_lock_4 rfl (lv_at hl 2 rfl) ?_
  refine bm_wcallV (As := [.int (nI zA), .int (bm_b zB)]) (rest := [.int (nI 0), .ref (ad 62)]) ⟨hx, hb, hml, hown, hts⟩ (X_lockT okn hk_zA hxx) (cwV 2 hts gwL_21 rfl rfl rfl hvX4_lock ⟨Nat.le_of_ble_eq_true rfl, Nat.le_of_ble_eq_true rfl⟩) hK hP hD hS hA 0 4 rfl ww_0 rfl hl.1 rfl (Nat.le_of_ble_eq_true rfl) dL_lock_5 ⟨Nat.le_of_ble_eq_true rfl, Nat.le_of_ble_eq_true rfl⟩ (fun H locs hP hD hS => ?_)
  have hP : va_P D vwCl (WW ad cJ cI cZ bm (pa.1, pa.2.1, pa.2.2.1, pa.2.2.2.1, va_up pa.2.2.2.2.1 zA zB, pa.2.2.2.2.2.1, pa.2.2.2.2.2.2) p0 p1 p2 li wi mt ms ma mp mk mn ou) H := hP
  have hD : va_D A (WW ad cJ cI cZ bm (pa.1, pa.2.1, pa.2.2.1, pa.2.2.2.1, va_up pa.2.2.2.2.1 zA zB, pa.2.2.2.2.2.1, pa.2.2.2.2.2.2) p0 p1 p2 li wi mt ms ma mp mk mn ou) := hD
  refine bm_zb_eq (x := true) (tgt := 15) hx hb dL_lock_8 (by decide) (fun c_1 => ?_) (fun c_1 => ?_)
  · exact absurd c_1 (by decide)
  · refine lv_lconst (v := 1) hx hb dL_lock_11 (by decide) ?_
    refine lv_goto (tgt := 16) hx hb dL_lock_12 (by decide) ?_
    refine bm_last (f := ou) hx hb hK hP hD hS 62 0 ww_62 rfl (j := 0) (x := 1) (by omega) (by decide) dL_lock_16 (fun H locs hP hD hS => ?_)
    have hP : va_P D vwCl (WW ad cJ cI cZ bm (pa.1, pa.2.1, pa.2.2.1, pa.2.2.2.1, va_up pa.2.2.2.2.1 zA zB, pa.2.2.2.2.2.1, pa.2.2.2.2.2.2) p0 p1 p2 li wi mt ms ma mp mk mn (va_up ou 0 1)) H := hP
    have hD : va_D A (WW ad cJ cI cZ bm (pa.1, pa.2.1, pa.2.2.1, pa.2.2.2.1, va_up pa.2.2.2.2.1 zA zB, pa.2.2.2.2.2.1, pa.2.2.2.2.2.2) p0 p1 p2 li wi mt ms ma mp mk mn (va_up ou 0 1)) := hD
    refine lv_goto (tgt := 24) hx hb dL_lock_17 (by decide) ?_
    refine lv_iconst (v := nI 0) hx hb dL_lock_24 (by decide) ?_
    refine W.widen (k := 1) (n := 6) (by decide) (by decide) ?_
    exact bm_iretW (v := (nI 0)) hx hb hr hP hD hK hS ⟨rfl, rfl⟩ dL_lock_25 hlocks

set_option maxHeartbeats 4000000 in
set_option maxRecDepth 100000 in
theorem Y_lockT {l : Launch} {D : va_G} {ad : Nat → Nat} {cJ cI cZ : ClassId} {bm : gBM} {pa : gPA} {p0 p1 p2 : gPL} {li : gLI} {wi : gWI} {mt : Nat} {ms : gMS} {ma : gMA} {mp : gMP} {mk : gMK} {mn : gMN} {ou : Nat → Int64} (okp : ms.2.2.1 ≤ 40) {zA : Nat} (hk_zA : zA < ms.2.2.1) {zB : Bool} (hxx : ¬ ma.2.2.2.2.1 zA = zB) : bm_Wr l yX5_lock wsX5_lock ({ frames := 1, cells := 0, slots := 0, locals := 21 }) D vwCl [(cJ, .long), (cI, .int), (cZ, .boolean)] (WW ad cJ cI cZ bm pa p0 p1 p2 li wi mt ms ma mp mk mn ou) [.ref (ad 42), .int (nI zA), .int (bm_b zB)] (WW ad cJ cI cZ bm pa p0 p1 p2 li wi (0) ms (ma.1, ma.2.1, ma.2.2.1, ma.2.2.2.1, va_up ma.2.2.2.2.1 zA zB, ma.2.2.2.2.2.1, ma.2.2.2.2.2.2) mp mk mn ou) (some (.int (bm_b true))) := by
  intro sz
  refine Met.ofW (cc := cX5_lock) (maxL := 4) (ret := (some .boolean)) (by decide) rfl ?_
  intro p e s m args below meth c s₁ B hml hv
  obtain ⟨ha, hsz, hP, hK, hD0⟩ := hv
  have hx := B.exec
  have hb := B.bytes
  have hr := B.returns
  have hts := atoms_spec (ws := wsX5_lock) B.pre
  have hown : s.vm.findClass RX5 = some m.cls := findClass_of_methodNamed B.named
  have hlocks := B.notSynchronized
  subst hsz
  have hD := hD0.self (sz := s.heap.size)
  generalize hAe : va_A (WW ad cJ cI cZ bm pa p0 p1 p2 li wi mt ms ma mp mk mn ou) s.heap.size = A at hD ⊢
  have hA : ∀ q : Nat, s.heap.size ≤ q → A q := fun q h => by rw [← hAe]; exact Or.inr h
  have hS : va_S A s.heap s.heap [] := va_S.rf
  have hl := lv_entry ([.ref (ad 42), .int (nI zA), .int (bm_b zB)]) (n := 4) (Nat.le_of_ble_eq_true rfl)
  refine W.eq (g2 := entryFrame m ([.ref (ad 42), .int (nI zA), .int (bm_b zB)] : List Value).toArray 4) (by rw [ha]) ?_
  rw [lg_entry_eq]
  generalize (lg_sl ([.ref (ad 42), .int (nI zA), .int (bm_b zB)]) ++ List.replicate (4 - (lg_sl ([.ref (ad 42), .int (nI zA), .int (bm_b zB)])).length) Slot.unset).toArray = ls at hl ⊢
  have hl : lv_has ls 4 [(0, .ref (ad 42)), (1, .int (nI zA)), (2, .int (bm_b zB))] := hl
  refine lv_aload_n hx hb dX5_lock_0 rfl (lv_at hl 0 rfl) ?_
  refine lv_aload_n hx hb dX5_lock_1 rfl (lv_at hl 0 rfl) ?_
  refine lv_iload_n hx hb dX5_lock_2 rfl (lv_at hl 1 rfl) ?_
  refine bm_rcallV (As := [.int (nI zA)]) (rest := [.ref (ad 42)]) ⟨hx, hb, hml, hown, hts⟩ (Y_isPartY okp (by omega)) (cwV 1 hts gvX5_139 rfl rfl rfl hvX5_isPart ⟨Nat.le_of_ble_eq_true rfl, Nat.le_of_ble_eq_true rfl⟩) hK hP 42 5 rfl ww_42 rfl hl.1 rfl (Nat.le_of_ble_eq_true rfl) dX5_lock_3 ⟨Nat.le_of_ble_eq_true rfl, Nat.le_of_ble_eq_true rfl⟩ ?_
  refine bm_zb_eq (x := true) (tgt := 13) hx hb dX5_lock_6 (by decide) (fun c_1 => ?_) (fun c_1 => ?_)
  · exact absurd c_1 (by decide)
  · refine lv_iconst (v := nI 0) hx hb dX5_lock_9 (by decide) ?_
    refine lv_goto (tgt := 14) hx hb dX5_lock_10 (by decide) ?_
    refine va_put (D := D) (ci := 5) (v := .int (nI 0)) (ty := .int) (C := RX5) (T := TX5) (N := 28) hx hb hts (inT inX5) tyX5 tyX5_ok nmX5 hown hK hP hD hS 42 ww_42 rfl 0 (by decide) (hts (.fieldLink RX5 81 "BoardMovesModel" "thrown" "I") (List.mem_cons_of_mem _ flX5_81)) (fun _ h9 => h9) rfl (by decide +kernel) rfl rfl (Nat.le_of_ble_eq_true rfl) dX5_lock_14 (fun H locs hP hD hS => ?_)
    have hP : va_P D vwCl (WW ad cJ cI cZ bm pa p0 p1 p2 li wi (0) ms ma mp mk mn ou) H := hP
    have hD : va_D A (WW ad cJ cI cZ bm pa p0 p1 p2 li wi (0) ms ma mp mk mn ou) := hD
    refine lv_aload_n hx hb dX5_lock_17 rfl (lv_at hl 0 rfl) ?_
    refine va_get (D := D) (ci := 5) (v := .int (nI 0)) (C := RX5) (T := TX5) (N := 28) hx hb hts (inT inX5) hown hK hP 42 ww_42 rfl 0 (by decide) (hts (.fieldLink RX5 81 "BoardMovesModel" "thrown" "I") (List.mem_cons_of_mem _ flX5_81)) (fun _ h9 => h9) rfl dX5_lock_18 ?_
    refine bm_nz_eq (x := 0) (tgt := 26) hx hb (by decide) dX5_lock_21 (by decide) (fun c_2 => ?_) (fun c_2 => ?_)
    · refine lv_aload_n hx hb dX5_lock_26 rfl (lv_at hl 0 rfl) ?_
      refine va_get (D := D) (ci := 5) (v := .ref (ad 47)) (C := RX5) (T := TX5) (N := 28) hx hb hts (inT inX5) hown hK hP 42 ww_42 rfl 8 (by decide) (hts (.fieldLink RX5 23 "BoardMovesModel" "locked" "[Z") (List.mem_cons_of_mem _ flX5_23)) (fun _ h9 => h9) rfl dX5_lock_27 ?_
      refine lv_iload_n hx hb dX5_lock_30 rfl (lv_at hl 1 rfl) ?_
      refine bm_zald (f := ma.2.2.2.2.1) hx hb hK hP 47 2 ww_47 rfl (j := zA) (by omega) (by decide) dX5_lock_31 ?_
      refine lv_iload_n hx hb dX5_lock_32 rfl (lv_at hl 2 rfl) ?_
      refine bm_bb_eq (x := (ma.2.2.2.2.1 zA)) (y := zB) (tgt := 40) hx hb dX5_lock_33 (by decide) (fun c_3 => ?_) (fun c_3 => ?_)
      · exact absurd c_3 hxx
      · refine lv_iconst (v := bm_b true) hx hb dX5_lock_36 (by decide) ?_
        refine lv_goto (tgt := 41) hx hb dX5_lock_37 (by decide) ?_
        refine lv_istore_n (lv' := [(3, .int (bm_b true)), (0, .ref (ad 42)), (1, .int (nI zA)), (2, .int (bm_b zB))]) hx hb dX5_lock_41 rfl hl (by decide) rfl (fun ls hl => ?_)
        refine lv_aload_n hx hb dX5_lock_42 rfl (lv_at hl 1 rfl) ?_
        refine va_get (D := D) (ci := 5) (v := .ref (ad 47)) (C := RX5) (T := TX5) (N := 28) hx hb hts (inT inX5) hown hK hP 42 ww_42 rfl 8 (by decide) (hts (.fieldLink RX5 23 "BoardMovesModel" "locked" "[Z") (List.mem_cons_of_mem _ flX5_23)) (fun _ h9 => h9) rfl dX5_lock_43 ?_
        refine lv_iload_n hx hb dX5_lock_46 rfl (lv_at hl 2 rfl) ?_
        refine lv_iload_n hx hb dX5_lock_47 rfl (lv_at hl 3 rfl) ?_
        refine bm_zast (f := ma.2.2.2.2.1) hx hb hK hP hD hS 47 2 ww_47 rfl (j := zA) (x := zB) (by omega) (by decide) dX5_lock_48 (fun H locs hP hD hS => ?_)
        have hP : va_P D vwCl (WW ad cJ cI cZ bm pa p0 p1 p2 li wi (0) ms (ma.1, ma.2.1, ma.2.2.1, ma.2.2.2.1, va_up ma.2.2.2.2.1 zA zB, ma.2.2.2.2.2.1, ma.2.2.2.2.2.2) mp mk mn ou) H := hP
        have hD : va_D A (WW ad cJ cI cZ bm pa p0 p1 p2 li wi (0) ms (ma.1, ma.2.1, ma.2.2.1, ma.2.2.2.1, va_up ma.2.2.2.2.1 zA zB, ma.2.2.2.2.2.1, ma.2.2.2.2.2.2) mp mk mn ou) := hD
        refine lv_iload_n hx hb dX5_lock_49 rfl (lv_at hl 0 rfl) ?_
        exact bm_zretW (v := true) hx hb hr hP hD hK hS ⟨rfl, rfl⟩ dX5_lock_50 hlocks
    · exact absurd c_2 (by decide)

set_option maxHeartbeats 4000000 in
set_option maxRecDepth 100000 in
theorem X_lockF {l : Launch} {D : va_G} {ad : Nat → Nat} {cJ cI cZ : ClassId} {bm : gBM} {pa : gPA} {p0 p1 p2 : gPL} {li : gLI} {wi : gWI} {mt : Nat} {ms : gMS} {ma : gMA} {mp : gMP} {mk : gMK} {mn : gMN} {ou : Nat → Int64} (okn : pa.2.2.2.2.2.2 ≤ 40) {zA : Nat} (hk_zA : zA < pa.2.2.2.2.2.2) {zB : Bool} (hxx : pa.2.2.2.2.1 zA = zB) : bm_Wr l yX4_lock wsX4_lock ({ frames := 1, cells := 0, slots := 0, locals := 21 }) D vwCl [(cJ, .long), (cI, .int), (cZ, .boolean)] (WW ad cJ cI cZ bm pa p0 p1 p2 li wi mt ms ma mp mk mn ou) [.ref (ad 0), .int (nI zA), .int (bm_b zB)] (WW ad cJ cI cZ bm (pa.1, pa.2.1, pa.2.2.1, pa.2.2.2.1, va_up pa.2.2.2.2.1 zA zB, pa.2.2.2.2.2.1, pa.2.2.2.2.2.2) p0 p1 p2 li wi mt ms ma mp mk mn ou) (some (.int (bm_b false))) := by
  intro sz
  refine Met.ofW (cc := cX4_lock) (maxL := 4) (ret := (some .boolean)) (by decide) rfl ?_
  intro p e s m args below meth c s₁ B hml hv
  obtain ⟨ha, hsz, hP, hK, hD0⟩ := hv
  have hx := B.exec
  have hb := B.bytes
  have hr := B.returns
  have hts := atoms_spec (ws := wsX4_lock) B.pre
  have hown : s.vm.findClass RX4 = some m.cls := findClass_of_methodNamed B.named
  have hlocks := B.notSynchronized
  subst hsz
  have hD := hD0.self (sz := s.heap.size)
  generalize hAe : va_A (WW ad cJ cI cZ bm pa p0 p1 p2 li wi mt ms ma mp mk mn ou) s.heap.size = A at hD ⊢
  have hA : ∀ q : Nat, s.heap.size ≤ q → A q := fun q h => by rw [← hAe]; exact Or.inr h
  have hS : va_S A s.heap s.heap [] := va_S.rf
  have hl := lv_entry ([.ref (ad 0), .int (nI zA), .int (bm_b zB)]) (n := 4) (Nat.le_of_ble_eq_true rfl)
  refine W.eq (g2 := entryFrame m ([.ref (ad 0), .int (nI zA), .int (bm_b zB)] : List Value).toArray 4) (by rw [ha]) ?_
  rw [lg_entry_eq]
  generalize (lg_sl ([.ref (ad 0), .int (nI zA), .int (bm_b zB)]) ++ List.replicate (4 - (lg_sl ([.ref (ad 0), .int (nI zA), .int (bm_b zB)])).length) Slot.unset).toArray = ls at hl ⊢
  have hl : lv_has ls 4 [(0, .ref (ad 0)), (1, .int (nI zA)), (2, .int (bm_b zB))] := hl
  refine lv_aload_n hx hb dX4_lock_0 rfl (lv_at hl 0 rfl) ?_
  refine lv_iload_n hx hb dX4_lock_1 rfl (lv_at hl 1 rfl) ?_
  refine bm_vcallV (As := [.int (nI zA)]) (rest := []) ⟨hx, hb, hml, hown, hts⟩ (X_needY  (zp := zA) okn (by omega)) (cwV 1 hts gvX4_86 rfl rfl rfl hvX4_needPart ⟨Nat.le_of_ble_eq_true rfl, Nat.le_of_ble_eq_true rfl⟩) hK hP 0 4 rfl ww_0 rfl hl.1 rfl (Nat.le_of_ble_eq_true rfl) dX4_lock_2 ⟨Nat.le_of_ble_eq_true rfl, Nat.le_of_ble_eq_true rfl⟩ ?_
  refine lv_aload_n hx hb dX4_lock_5 rfl (lv_at hl 0 rfl) ?_
  refine va_get (D := D) (ci := 4) (v := .ref (ad 1)) (C := RX4) (T := TX4) (N := 10) hx hb hts (inT inX4) hown hK hP 0 ww_0 rfl 2 (by decide) (hts (.fieldLink RX4 12 "BoardMoves" "parts" "LBoardMoves$Parts;") (List.mem_cons_of_mem _ flX4_12)) (fun _ h9 => h9) rfl dX4_lock_6 ?_
  refine va_get (D := D) (ci := 1) (v := .ref (ad 6)) (C := RX1) (T := TX1) (N := 7) hx hb hts (inT inX1) hown hK hP 1 ww_1 rfl 4 (by decide) (hts (.fieldLink RX4 132 "BoardMoves$Parts" "locked" "[Z") (List.mem_cons_of_mem _ flX4_132)) (fun _ h9 => h9) rfl dX4_lock_9 ?_
  refine lv_iload_n hx hb dX4_lock_12 rfl (lv_at hl 1 rfl) ?_
  refine bm_zald (f := pa.2.2.2.2.1) hx hb hK hP 6 2 ww_6 rfl (j := zA) (by omega) (by decide) dX4_lock_13 ?_
  refine lv_iload_n hx hb dX4_lock_14 rfl (lv_at hl 2 rfl) ?_
  refine bm_bb_eq (x := (pa.2.2.2.2.1 zA)) (y := zB) (tgt := 22) hx hb dX4_lock_15 (by decide) (fun c_1 => ?_) (fun c_1 => ?_)
  · refine lv_iconst (v := bm_b false) hx hb dX4_lock_22 (by decide) ?_
    refine lv_istore_n (lv' := [(3, .int (bm_b false)), (0, .ref (ad 0)), (1, .int (nI zA)), (2, .int (bm_b zB))]) hx hb dX4_lock_23 rfl hl (by decide) rfl (fun ls hl => ?_)
    refine lv_aload_n hx hb dX4_lock_24 rfl (lv_at hl 1 rfl) ?_
    refine va_get (D := D) (ci := 4) (v := .ref (ad 1)) (C := RX4) (T := TX4) (N := 10) hx hb hts (inT inX4) hown hK hP 0 ww_0 rfl 2 (by decide) (hts (.fieldLink RX4 12 "BoardMoves" "parts" "LBoardMoves$Parts;") (List.mem_cons_of_mem _ flX4_12)) (fun _ h9 => h9) rfl dX4_lock_25 ?_
    refine va_get (D := D) (ci := 1) (v := .ref (ad 6)) (C := RX1) (T := TX1) (N := 7) hx hb hts (inT inX1) hown hK hP 1 ww_1 rfl 4 (by decide) (hts (.fieldLink RX4 132 "BoardMoves$Parts" "locked" "[Z") (List.mem_cons_of_mem _ flX4_132)) (fun _ h9 => h9) rfl dX4_lock_28 ?_
    refine lv_iload_n hx hb dX4_lock_31 rfl (lv_at hl 2 rfl) ?_
    refine lv_iload_n hx hb dX4_lock_32 rfl (lv_at hl 3 rfl) ?_
    refine bm_zast (f := pa.2.2.2.2.1) hx hb hK hP hD hS 6 2 ww_6 rfl (j := zA) (x := zB) (by omega) (by decide) dX4_lock_33 (fun H locs hP hD hS => ?_)
    have hP : va_P D vwCl (WW ad cJ cI cZ bm (pa.1, pa.2.1, pa.2.2.1, pa.2.2.2.1, va_up pa.2.2.2.2.1 zA zB, pa.2.2.2.2.2.1, pa.2.2.2.2.2.2) p0 p1 p2 li wi mt ms ma mp mk mn ou) H := hP
    have hD : va_D A (WW ad cJ cI cZ bm (pa.1, pa.2.1, pa.2.2.1, pa.2.2.2.1, va_up pa.2.2.2.2.1 zA zB, pa.2.2.2.2.2.1, pa.2.2.2.2.2.2) p0 p1 p2 li wi mt ms ma mp mk mn ou) := hD
    refine lv_iload_n hx hb dX4_lock_34 rfl (lv_at hl 0 rfl) ?_
    exact bm_zretW (v := false) hx hb hr hP hD hK hS ⟨rfl, rfl⟩ dX4_lock_35 hlocks
  · exact absurd hxx c_1

set_option maxHeartbeats 4000000 in
set_option maxRecDepth 100000 in
theorem E_lockF {l : Launch} (hlt : l.stackTraces = false) {D : va_G} {ad : Nat → Nat} {cJ cI cZ : ClassId} {bm : gBM} {pa : gPA} {p0 p1 p2 : gPL} {li : gLI} {wi : gWI} {mt : Nat} {ms : gMS} {ma : gMA} {mp : gMP} {mk : gMK} {mn : gMN} {ou : Nat → Int64} (okn : pa.2.2.2.2.2.2 ≤ 40) {zA : Nat} (hk_zA : zA < pa.2.2.2.2.2.2) {zB : Bool} (hxx : pa.2.2.2.2.1 zA = zB) (sz : Nat) : Met l yL_lock wsL_lock ({ frames := 2, cells := 1, slots := 6, locals := 44 }) (bx_Hp D vwCl [(cJ, .long), (cI, .int), (cZ, .boolean)] (WW ad cJ cI cZ bm pa p0 p1 p2 li wi mt ms ma mp mk mn ou) [.ref (ad 0), .int (nI zA), .int (bm_b zB), .ref (ad 62)] sz) (bm_Wq D vwCl [(cJ, .long), (cI, .int), (cZ, .boolean)] (WW ad cJ cI cZ bm (pa.1, pa.2.1, pa.2.2.1, pa.2.2.2.1, va_up pa.2.2.2.2.1 zA zB, pa.2.2.2.2.2.1, pa.2.2.2.2.2.2) p0 p1 p2 li wi mt ms ma mp mk mn (va_up ou 0 0)) (some (.int (nI 0))) (va_A (WW ad cJ cI cZ bm pa p0 p1 p2 li wi mt ms ma mp mk mn ou) sz)) 1 6 (va_A (WW ad cJ cI cZ bm pa p0 p1 p2 li wi mt ms ma mp mk mn ou) sz) := by
  refine bx_ofWH (cc := cL_lock) (maxL := 5) (ret := (some .int)) (hs := [(0, 17, 20, 19)]) (by decide) rfl ?_
  intro p e s m args below meth c s₁ B hml htab hv
  obtain ⟨ha, hsz, hP, hK, hD0, hX, hZ⟩ := hv
  have hx := B.exec
  have hb := B.bytes
  have hr := B.returns
  have hts := atoms_spec (ws := wsL_lock) B.pre
  have hown : s.vm.findClass RL = some m.cls := findClass_of_methodNamed B.named
  have hlocks := B.notSynchronized
  subst hsz
  have hD := hD0.self (sz := s.heap.size)
  generalize hAe : va_A (WW ad cJ cI cZ bm pa p0 p1 p2 li wi mt ms ma mp mk mn ou) s.heap.size = A at hD ⊢
  have hA : ∀ q : Nat, s.heap.size ≤ q → A q := fun q h => by rw [← hAe]; exact Or.inr h
  have hS : va_S A s.heap s.heap [] := va_S.rf
  have hl := lv_entry ([.ref (ad 0), .int (nI zA), .int (bm_b zB), .ref (ad 62)]) (n := 5) (Nat.le_of_ble_eq_true rfl)
  refine W.eq (g2 := entryFrame m ([.ref (ad 0), .int (nI zA), .int (bm_b zB), .ref (ad 62)] : List Value).toArray 5) (by rw [ha]) ?_
  rw [lg_entry_eq]
  generalize (lg_sl ([.ref (ad 0), .int (nI zA), .int (bm_b zB), .ref (ad 62)]) ++ List.replicate (5 - (lg_sl ([.ref (ad 0), .int (nI zA), .int (bm_b zB), .ref (ad 62)])).length) Slot.unset).toArray = ls at hl ⊢
  have hl : lv_has ls 5 [(0, .ref (ad 0)), (1, .int (nI zA)), (2, .int (bm_b zB)), (3, .ref (ad 62))] := hl
  refine lv_aload_n hx hb dL_lock_0 rfl (lv_at hl 3 rfl) ?_
  refine lv_iconst (v := nI 0) hx hb dL_lock_1 (by decide) ?_
  refine lv_aload_n hx hb dL_lock_2 rfl (lv_at hl 0 rfl) ?_
  refine lv_iload_n hx hb dL_lock_3 rfl (lv_at hl 1 rfl) ?_
  refine lv_iload_n hx hb dL_lock_4 rfl (lv_at hl 2 rfl) ?_
  refine bm_wcallV (As := [.int (nI zA), .int (bm_b zB)]) (rest := [.int (nI 0), .ref (ad 62)]) ⟨hx, hb, hml, hown, hts⟩ (X_lockF okn hk_zA hxx) (cwV 2 hts gwL_21 rfl rfl rfl hvX4_lock ⟨Nat.le_of_ble_eq_true rfl, Nat.le_of_ble_eq_true rfl⟩) hK hP hD hS hA 0 4 rfl ww_0 rfl hl.1 rfl (Nat.le_of_ble_eq_true rfl) dL_lock_5 ⟨Nat.le_of_ble_eq_true rfl, Nat.le_of_ble_eq_true rfl⟩ (fun H locs hP hD hS => ?_)
  have hP : va_P D vwCl (WW ad cJ cI cZ bm (pa.1, pa.2.1, pa.2.2.1, pa.2.2.2.1, va_up pa.2.2.2.2.1 zA zB, pa.2.2.2.2.2.1, pa.2.2.2.2.2.2) p0 p1 p2 li wi mt ms ma mp mk mn ou) H := hP
  have hD : va_D A (WW ad cJ cI cZ bm (pa.1, pa.2.1, pa.2.2.1, pa.2.2.2.1, va_up pa.2.2.2.2.1 zA zB, pa.2.2.2.2.2.1, pa.2.2.2.2.2.2) p0 p1 p2 li wi mt ms ma mp mk mn ou) := hD
  refine bm_zb_eq (x := false) (tgt := 15) hx hb dL_lock_8 (by decide) (fun c_1 => ?_) (fun c_1 => ?_)
  · refine lv_lconst (v := 0) hx hb dL_lock_15 (by decide) ?_
    refine bm_last (f := ou) hx hb hK hP hD hS 62 0 ww_62 rfl (j := 0) (x := 0) (by omega) (by decide) dL_lock_16 (fun H locs hP hD hS => ?_)
    have hP : va_P D vwCl (WW ad cJ cI cZ bm (pa.1, pa.2.1, pa.2.2.1, pa.2.2.2.1, va_up pa.2.2.2.2.1 zA zB, pa.2.2.2.2.2.1, pa.2.2.2.2.2.2) p0 p1 p2 li wi mt ms ma mp mk mn (va_up ou 0 0)) H := hP
    have hD : va_D A (WW ad cJ cI cZ bm (pa.1, pa.2.1, pa.2.2.1, pa.2.2.2.1, va_up pa.2.2.2.2.1 zA zB, pa.2.2.2.2.2.1, pa.2.2.2.2.2.2) p0 p1 p2 li wi mt ms ma mp mk mn (va_up ou 0 0)) := hD
    refine lv_goto (tgt := 24) hx hb dL_lock_17 (by decide) ?_
    refine lv_iconst (v := nI 0) hx hb dL_lock_24 (by decide) ?_
    refine W.widen (k := 1) (n := 6) (by decide) (by decide) ?_
    exact bm_iretW (v := (nI 0)) hx hb hr hP hD hK hS ⟨rfl, rfl⟩ dL_lock_25 hlocks
  · exact absurd c_1 (by decide)

set_option maxHeartbeats 4000000 in
set_option maxRecDepth 100000 in
theorem Y_lockF {l : Launch} {D : va_G} {ad : Nat → Nat} {cJ cI cZ : ClassId} {bm : gBM} {pa : gPA} {p0 p1 p2 : gPL} {li : gLI} {wi : gWI} {mt : Nat} {ms : gMS} {ma : gMA} {mp : gMP} {mk : gMK} {mn : gMN} {ou : Nat → Int64} (okp : ms.2.2.1 ≤ 40) {zA : Nat} (hk_zA : zA < ms.2.2.1) {zB : Bool} (hxx : ma.2.2.2.2.1 zA = zB) : bm_Wr l yX5_lock wsX5_lock ({ frames := 1, cells := 0, slots := 0, locals := 21 }) D vwCl [(cJ, .long), (cI, .int), (cZ, .boolean)] (WW ad cJ cI cZ bm pa p0 p1 p2 li wi mt ms ma mp mk mn ou) [.ref (ad 42), .int (nI zA), .int (bm_b zB)] (WW ad cJ cI cZ bm pa p0 p1 p2 li wi (0) ms (ma.1, ma.2.1, ma.2.2.1, ma.2.2.2.1, va_up ma.2.2.2.2.1 zA zB, ma.2.2.2.2.2.1, ma.2.2.2.2.2.2) mp mk mn ou) (some (.int (bm_b false))) := by
  intro sz
  refine Met.ofW (cc := cX5_lock) (maxL := 4) (ret := (some .boolean)) (by decide) rfl ?_
  intro p e s m args below meth c s₁ B hml hv
  obtain ⟨ha, hsz, hP, hK, hD0⟩ := hv
  have hx := B.exec
  have hb := B.bytes
  have hr := B.returns
  have hts := atoms_spec (ws := wsX5_lock) B.pre
  have hown : s.vm.findClass RX5 = some m.cls := findClass_of_methodNamed B.named
  have hlocks := B.notSynchronized
  subst hsz
  have hD := hD0.self (sz := s.heap.size)
  generalize hAe : va_A (WW ad cJ cI cZ bm pa p0 p1 p2 li wi mt ms ma mp mk mn ou) s.heap.size = A at hD ⊢
  have hA : ∀ q : Nat, s.heap.size ≤ q → A q := fun q h => by rw [← hAe]; exact Or.inr h
  have hS : va_S A s.heap s.heap [] := va_S.rf
  have hl := lv_entry ([.ref (ad 42), .int (nI zA), .int (bm_b zB)]) (n := 4) (Nat.le_of_ble_eq_true rfl)
  refine W.eq (g2 := entryFrame m ([.ref (ad 42), .int (nI zA), .int (bm_b zB)] : List Value).toArray 4) (by rw [ha]) ?_
  rw [lg_entry_eq]
  generalize (lg_sl ([.ref (ad 42), .int (nI zA), .int (bm_b zB)]) ++ List.replicate (4 - (lg_sl ([.ref (ad 42), .int (nI zA), .int (bm_b zB)])).length) Slot.unset).toArray = ls at hl ⊢
  have hl : lv_has ls 4 [(0, .ref (ad 42)), (1, .int (nI zA)), (2, .int (bm_b zB))] := hl
  refine lv_aload_n hx hb dX5_lock_0 rfl (lv_at hl 0 rfl) ?_
  refine lv_aload_n hx hb dX5_lock_1 rfl (lv_at hl 0 rfl) ?_
  refine lv_iload_n hx hb dX5_lock_2 rfl (lv_at hl 1 rfl) ?_
  refine bm_rcallV (As := [.int (nI zA)]) (rest := [.ref (ad 42)]) ⟨hx, hb, hml, hown, hts⟩ (Y_isPartY okp (by omega)) (cwV 1 hts gvX5_139 rfl rfl rfl hvX5_isPart ⟨Nat.le_of_ble_eq_true rfl, Nat.le_of_ble_eq_true rfl⟩) hK hP 42 5 rfl ww_42 rfl hl.1 rfl (Nat.le_of_ble_eq_true rfl) dX5_lock_3 ⟨Nat.le_of_ble_eq_true rfl, Nat.le_of_ble_eq_true rfl⟩ ?_
  refine bm_zb_eq (x := true) (tgt := 13) hx hb dX5_lock_6 (by decide) (fun c_1 => ?_) (fun c_1 => ?_)
  · exact absurd c_1 (by decide)
  · refine lv_iconst (v := nI 0) hx hb dX5_lock_9 (by decide) ?_
    refine lv_goto (tgt := 14) hx hb dX5_lock_10 (by decide) ?_
    refine va_put (D := D) (ci := 5) (v := .int (nI 0)) (ty := .int) (C := RX5) (T := TX5) (N := 28) hx hb hts (inT inX5) tyX5 tyX5_ok nmX5 hown hK hP hD hS 42 ww_42 rfl 0 (by decide) (hts (.fieldLink RX5 81 "BoardMovesModel" "thrown" "I") (List.mem_cons_of_mem _ flX5_81)) (fun _ h9 => h9) rfl (by decide +kernel) rfl rfl (Nat.le_of_ble_eq_true rfl) dX5_lock_14 (fun H locs hP hD hS => ?_)
    have hP : va_P D vwCl (WW ad cJ cI cZ bm pa p0 p1 p2 li wi (0) ms ma mp mk mn ou) H := hP
    have hD : va_D A (WW ad cJ cI cZ bm pa p0 p1 p2 li wi (0) ms ma mp mk mn ou) := hD
    refine lv_aload_n hx hb dX5_lock_17 rfl (lv_at hl 0 rfl) ?_
    refine va_get (D := D) (ci := 5) (v := .int (nI 0)) (C := RX5) (T := TX5) (N := 28) hx hb hts (inT inX5) hown hK hP 42 ww_42 rfl 0 (by decide) (hts (.fieldLink RX5 81 "BoardMovesModel" "thrown" "I") (List.mem_cons_of_mem _ flX5_81)) (fun _ h9 => h9) rfl dX5_lock_18 ?_
    refine bm_nz_eq (x := 0) (tgt := 26) hx hb (by decide) dX5_lock_21 (by decide) (fun c_2 => ?_) (fun c_2 => ?_)
    · refine lv_aload_n hx hb dX5_lock_26 rfl (lv_at hl 0 rfl) ?_
      refine va_get (D := D) (ci := 5) (v := .ref (ad 47)) (C := RX5) (T := TX5) (N := 28) hx hb hts (inT inX5) hown hK hP 42 ww_42 rfl 8 (by decide) (hts (.fieldLink RX5 23 "BoardMovesModel" "locked" "[Z") (List.mem_cons_of_mem _ flX5_23)) (fun _ h9 => h9) rfl dX5_lock_27 ?_
      refine lv_iload_n hx hb dX5_lock_30 rfl (lv_at hl 1 rfl) ?_
      refine bm_zald (f := ma.2.2.2.2.1) hx hb hK hP 47 2 ww_47 rfl (j := zA) (by omega) (by decide) dX5_lock_31 ?_
      refine lv_iload_n hx hb dX5_lock_32 rfl (lv_at hl 2 rfl) ?_
      refine bm_bb_eq (x := (ma.2.2.2.2.1 zA)) (y := zB) (tgt := 40) hx hb dX5_lock_33 (by decide) (fun c_3 => ?_) (fun c_3 => ?_)
      · refine lv_iconst (v := bm_b false) hx hb dX5_lock_40 (by decide) ?_
        refine lv_istore_n (lv' := [(3, .int (bm_b false)), (0, .ref (ad 42)), (1, .int (nI zA)), (2, .int (bm_b zB))]) hx hb dX5_lock_41 rfl hl (by decide) rfl (fun ls hl => ?_)
        refine lv_aload_n hx hb dX5_lock_42 rfl (lv_at hl 1 rfl) ?_
        refine va_get (D := D) (ci := 5) (v := .ref (ad 47)) (C := RX5) (T := TX5) (N := 28) hx hb hts (inT inX5) hown hK hP 42 ww_42 rfl 8 (by decide) (hts (.fieldLink RX5 23 "BoardMovesModel" "locked" "[Z") (List.mem_cons_of_mem _ flX5_23)) (fun _ h9 => h9) rfl dX5_lock_43 ?_
        refine lv_iload_n hx hb dX5_lock_46 rfl (lv_at hl 2 rfl) ?_
        refine lv_iload_n hx hb dX5_lock_47 rfl (lv_at hl 3 rfl) ?_
        refine bm_zast (f := ma.2.2.2.2.1) hx hb hK hP hD hS 47 2 ww_47 rfl (j := zA) (x := zB) (by omega) (by decide) dX5_lock_48 (fun H locs hP hD hS => ?_)
        have hP : va_P D vwCl (WW ad cJ cI cZ bm pa p0 p1 p2 li wi (0) ms (ma.1, ma.2.1, ma.2.2.1, ma.2.2.2.1, va_up ma.2.2.2.2.1 zA zB, ma.2.2.2.2.2.1, ma.2.2.2.2.2.2) mp mk mn ou) H := hP
        have hD : va_D A (WW ad cJ cI cZ bm pa p0 p1 p2 li wi (0) ms (ma.1, ma.2.1, ma.2.2.1, ma.2.2.2.1, va_up ma.2.2.2.2.1 zA zB, ma.2.2.2.2.2.1, ma.2.2.2.2.2.2) mp mk mn ou) := hD
        refine lv_iload_n hx hb dX5_lock_49 rfl (lv_at hl 0 rfl) ?_
        exact bm_zretW (v := false) hx hb hr hP hD hK hS ⟨rfl, rfl⟩ dX5_lock_50 hlocks
      · exact absurd hxx c_3
    · exact absurd c_2 (by decide)

set_option maxHeartbeats 4000000 in
set_option maxRecDepth 100000 in
theorem E_lockN {l : Launch} (hlt : l.stackTraces = false) {D : va_G} {ad : Nat → Nat} {cJ cI cZ : ClassId} {bm : gBM} {pa : gPA} {p0 p1 p2 : gPL} {li : gLI} {wi : gWI} {mt : Nat} {ms : gMS} {ma : gMA} {mp : gMP} {mk : gMK} {mn : gMN} {ou : Nat → Int64} {zA : Int32} (hno_zA : ¬ (¬ zA < 0 ∧ zA < nI pa.2.2.2.2.2.2)) {zB : Bool} (sz : Nat) : Met l yL_lock wsL_lock ({ frames := 8, cells := 1, slots := 6, locals := 145 }) (bx_Hp D vwCl [(cJ, .long), (cI, .int), (cZ, .boolean)] (WW ad cJ cI cZ bm pa p0 p1 p2 li wi mt ms ma mp mk mn ou) [.ref (ad 0), .int zA, .int (bm_b zB), .ref (ad 62)] sz) (bm_Wq D vwCl [(cJ, .long), (cI, .int), (cZ, .boolean)] (WW ad cJ cI cZ bm pa p0 p1 p2 li wi mt ms ma mp mk mn ou) (some (.int (nI 1))) (va_A (WW ad cJ cI cZ bm pa p0 p1 p2 li wi mt ms ma mp mk mn ou) sz)) 1 6 (va_A (WW ad cJ cI cZ bm pa p0 p1 p2 li wi mt ms ma mp mk mn ou) sz) := by
  refine bx_ofWH (cc := cL_lock) (maxL := 5) (ret := (some .int)) (hs := [(0, 17, 20, 19)]) (by decide) rfl ?_
  intro p e s m args below meth c s₁ B hml htab hv
  obtain ⟨ha, hsz, hP, hK, hD0, hX, hZ⟩ := hv
  have hx := B.exec
  have hb := B.bytes
  have hr := B.returns
  have hts := atoms_spec (ws := wsL_lock) B.pre
  have hown : s.vm.findClass RL = some m.cls := findClass_of_methodNamed B.named
  have hlocks := B.notSynchronized
  subst hsz
  have hD := hD0.self (sz := s.heap.size)
  generalize hAe : va_A (WW ad cJ cI cZ bm pa p0 p1 p2 li wi mt ms ma mp mk mn ou) s.heap.size = A at hD ⊢
  have hA : ∀ q : Nat, s.heap.size ≤ q → A q := fun q h => by rw [← hAe]; exact Or.inr h
  have hS : va_S A s.heap s.heap [] := va_S.rf
  have hl := lv_entry ([.ref (ad 0), .int zA, .int (bm_b zB), .ref (ad 62)]) (n := 5) (Nat.le_of_ble_eq_true rfl)
  refine W.eq (g2 := entryFrame m ([.ref (ad 0), .int zA, .int (bm_b zB), .ref (ad 62)] : List Value).toArray 5) (by rw [ha]) ?_
  rw [lg_entry_eq]
  generalize (lg_sl ([.ref (ad 0), .int zA, .int (bm_b zB), .ref (ad 62)]) ++ List.replicate (5 - (lg_sl ([.ref (ad 0), .int zA, .int (bm_b zB), .ref (ad 62)])).length) Slot.unset).toArray = ls at hl ⊢
  have hl : lv_has ls 5 [(0, .ref (ad 0)), (1, .int zA), (2, .int (bm_b zB)), (3, .ref (ad 62))] := hl
  refine lv_aload_n hx hb dL_lock_0 rfl (lv_at hl 3 rfl) ?_
  refine lv_iconst (v := nI 0) hx hb dL_lock_1 (by decide) ?_
  refine lv_aload_n hx hb dL_lock_2 rfl (lv_at hl 0 rfl) ?_
  refine lv_iload_n hx hb dL_lock_3 rfl (lv_at hl 1 rfl) ?_
  refine lv_iload_n hx hb dL_lock_4 rfl (lv_at hl 2 rfl) ?_
  refine bx_catch (name := "java/lang/IndexOutOfBoundsException") (bx_tcallV (As := [.int zA, .int (bm_b zB)]) (rest := [.int (nI 0), .ref (ad 62)]) ⟨hx, hb, hml, hown, hts⟩ (X_lock1 hlt hno_zA) (cwV 2 hts gwL_21 rfl rfl rfl hvX4_lock ⟨Nat.le_of_ble_eq_true rfl, Nat.le_of_ble_eq_true rfl⟩) hK hP hX hZ 0 4 rfl ww_0 rfl hl.1 rfl (Nat.le_of_ble_eq_true rfl) dL_lock_5 ⟨Nat.le_of_ble_eq_true rfl, Nat.le_of_ble_eq_true rfl⟩) hown htab (by decide) (by decide) (hts (.classLink RL 19 "java/lang/IndexOutOfBoundsException") (by decide +kernel)) (hX (.castable "java/lang/IndexOutOfBoundsException" "java/lang/IndexOutOfBoundsException") (by decide +kernel) _) (fun q9 H hz hh => ?_)
  have hP := bx_keepP hP hh
  have hS := bx_keepS hS hz hh
  refine lv_astore (lv' := [(4, .ref q9), (0, .ref (ad 0)), (1, .int zA), (2, .int (bm_b zB)), (3, .ref (ad 62))]) hx hb dL_lock_20 hl (by decide) rfl (fun ls hl => ?_)
  refine lv_iconst (v := nI 1) hx hb dL_lock_22 (by decide) ?_
  exact bm_iretW (v := (nI 1)) hx hb hr hP hD hK hS ⟨rfl, rfl⟩ dL_lock_23 hlocks
