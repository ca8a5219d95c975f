set_option maxHeartbeats 4000000 in
set_option maxRecDepth 100000 in
theorem X_at1 {l : Launch} (hlt : l.stackTraces = false) {D : va_G} {ad : Nat → Nat} {cJ cI cZ : ClassId} {bm : gBM} {pa : gPA} {p0 p1 p2 : gPL} {li : gLI} {wi : gWI} {mt : Nat} {ms : gMS} {ma : gMA} {mp : gMP} {mk : gMK} {mn : gMN} {ou : Nat → Int64} {zA : Int32} (hno_zA : ¬ (¬ zA < 0 ∧ zA < nI pa.2.2.2.2.2.2)) {zB : Int32} : bx_T l yX4_at wsX4_at ({ frames := 7, cells := 1, slots := 6, locals := 122 }) (bx_Tp D vwCl [(cJ, .long), (cI, .int), (cZ, .boolean)] (WW ad cJ cI cZ bm pa p0 p1 p2 li wi mt ms ma mp mk mn ou) [.ref (ad 0), .int zA, .int zB]) "java/lang/IndexOutOfBoundsException" := by
  refine bx_ofW (cc := cX4_at) (maxL := 3) (ret := (some .long)) (by decide) rfl ?_
  intro p e s m args below meth c s₁ B hml hout hv
  obtain ⟨ha, hP, hK, hX, hZ⟩ := hv
  have hx := B.exec
  have hb := B.bytes
  have hr := B.returns
  have hts := atoms_spec (ws := wsX4_at) B.pre
  have hown : s.vm.findClass RX4 = some m.cls := findClass_of_methodNamed B.named
  have hlocks := B.notSynchronized
  have hl := lv_entry ([.ref (ad 0), .int zA, .int zB]) (n := 3) (Nat.le_of_ble_eq_true rfl)
  refine W.eq (g2 := entryFrame m ([.ref (ad 0), .int zA, .int zB] : List Value).toArray 3) (by rw [ha]) ?_
  rw [lg_entry_eq]
  generalize (lg_sl ([.ref (ad 0), .int zA, .int zB]) ++ List.replicate (3 - (lg_sl ([.ref (ad 0), .int zA, .int zB])).length) Slot.unset).toArray = ls at hl ⊢
  have hl : lv_has ls 3 [(0, .ref (ad 0)), (1, .int zA), (2, .int zB)] := hl
  refine lv_aload_n hx hb dX4_at_0 rfl (lv_at hl 0 rfl) ?_
  refine lv_iload_n hx hb dX4_at_1 rfl (lv_at hl 1 rfl) ?_
  exact bx_leave (bx_tcallV (As := [.int zA]) (rest := []) ⟨hx, hb, hml, hown, hts⟩ (X_needN hlt  (zA := zA) hno_zA) (cwV 1 hts gvX4_86 rfl rfl rfl hvX4_needPart ⟨Nat.le_of_ble_eq_true rfl, Nat.le_of_ble_eq_true rfl⟩) hK hP hX hZ 0 4 rfl ww_0 rfl hl.1 rfl (Nat.le_of_ble_eq_true rfl) dX4_at_2 ⟨Nat.le_of_ble_eq_true rfl, Nat.le_of_ble_eq_true rfl⟩) hout hlocks

set_option maxHeartbeats 4000000 in
set_option maxRecDepth 100000 in
theorem X_at2 {l : Launch} (hlt : l.stackTraces = false) {D : va_G} {ad : Nat → Nat} {cJ cI cZ : ClassId} {bm : gBM} {pa : gPA} {p0 p1 p2 : gPL} {li : gLI} {wi : gWI} {mt : Nat} {ms : gMS} {ma : gMA} {mp : gMP} {mk : gMK} {mn : gMN} {ou : Nat → Int64} (okn : pa.2.2.2.2.2.2 ≤ 40){zA : Nat} (hk_zA : zA < pa.2.2.2.2.2.2){zB : Int32} (hno_zB : ¬ (¬ zB < 0 ∧ zB < nI 7)) : bx_T l yX4_at wsX4_at ({ frames := 6, cells := 1, slots := 6, locals := 101 }) (bx_Tp D vwCl [(cJ, .long), (cI, .int), (cZ, .boolean)] (WW ad cJ cI cZ bm pa p0 p1 p2 li wi mt ms ma mp mk mn ou) [.ref (ad 0), .int (nI zA), .int zB]) "java/lang/IndexOutOfBoundsException" := by
  refine bx_ofW (cc := cX4_at) (maxL := 3) (ret := (some .long)) (by decide) rfl ?_
  intro p e s m args below meth c s₁ B hml hout hv
  obtain ⟨ha, hP, hK, hX, hZ⟩ := hv
  have hx := B.exec
  have hb := B.bytes
  have hr := B.returns
  have hts := atoms_spec (ws := wsX4_at) B.pre
  have hown : s.vm.findClass RX4 = some m.cls := findClass_of_methodNamed B.named
  have hlocks := B.notSynchronized
  have hl := lv_entry ([.ref (ad 0), .int (nI zA), .int zB]) (n := 3) (Nat.le_of_ble_eq_true rfl)
  refine W.eq (g2 := entryFrame m ([.ref (ad 0), .int (nI zA), .int zB] : List Value).toArray 3) (by rw [ha]) ?_
  rw [lg_entry_eq]
  generalize (lg_sl ([.ref (ad 0), .int (nI zA), .int zB]) ++ List.replicate (3 - (lg_sl ([.ref (ad 0), .int (nI zA), .int zB])).length) Slot.unset).toArray = ls at hl ⊢
  have hl : lv_has ls 3 [(0, .ref (ad 0)), (1, .int (nI zA)), (2, .int zB)] := hl
  refine lv_aload_n hx hb dX4_at_0 rfl (lv_at hl 0 rfl) ?_
  refine lv_iload_n hx hb dX4_at_1 rfl (lv_at hl 1 rfl) ?_
  refine bm_vcallV (As := [.int (nI zA)]) (rest := []) ⟨hx, hb, hml, hown, hts⟩ (X_needY  (zp := zA) okn (by omega)) (cwV 1 hts gvX4_86 rfl rfl rfl hvX4_needPart ⟨Nat.le_of_ble_eq_true rfl, Nat.le_of_ble_eq_true rfl⟩) hK hP 0 4 rfl ww_0 rfl hl.1 rfl (Nat.le_of_ble_eq_true rfl) dX4_at_2 ⟨Nat.le_of_ble_eq_true rfl, Nat.le_of_ble_eq_true rfl⟩ ?_
  refine lv_iload_n hx hb dX4_at_5 rfl (lv_at hl 2 rfl) ?_
  refine lv_tableOut (tgt := 136) hx hb dX4_at_6 (bx_out7 hno_zB) (by decide) ?_
  obtain ⟨sa, hsa⟩ := hZ (191, "what is 0 .. 6") (by decide +kernel)
  exact bx_throw (rest := []) (own := RX4) (cls := "java/lang/IndexOutOfBoundsException") (text := "what is 0 .. 6") (names := bxUp) (ik := 143) (is := 191) (ic := 147) hx hb hlt hown (by decide +kernel) (by decide +kernel) (hts (.classLink RX4 143 "java/lang/IndexOutOfBoundsException") (by decide +kernel)) (hts (.initialized "java/lang/IndexOutOfBoundsException") (by decide +kernel)) hsa (fun w hw => hX w (bx_in_147 w hw) _) (hl.1.trans hml.symm) dX4_at_136 dX4_at_139 dX4_at_140 dX4_at_142 dX4_at_145 hout (Nat.le_of_ble_eq_true rfl) (Nat.le_of_ble_eq_true rfl) (Nat.le_of_ble_eq_true rfl) (Nat.le_of_ble_eq_true rfl) hlocks

set_option maxHeartbeats 4000000 in
set_option maxRecDepth 100000 in
theorem X_runX {l : Launch} (hlt : l.stackTraces = false) {D : va_G} {ad : Nat → Nat} {cJ cI cZ : ClassId} {bm : gBM} {pa : gPA} {p0 p1 p2 : gPL} {li : gLI} {wi : gWI} {mt : Nat} {ms : gMS} {ma : gMA} {mp : gMP} {mk : gMK} {mn : gMN} {ou : Nat → Int64} {zA : Int64} (hv : q_rn zA = false) : bx_T l yX4_run wsX4_run ({ frames := 6, cells := 1, slots := 6, locals := 101 }) (bx_Tp D vwCl [(cJ, .long), (cI, .int), (cZ, .boolean)] (WW ad cJ cI cZ bm pa p0 p1 p2 li wi mt ms ma mp mk mn ou) [.ref (ad 0), .long zA]) "java/lang/IllegalArgumentException" := by
  refine bx_ofW (cc := cX4_run) (maxL := 10) (ret := (some .int)) (by decide) rfl ?_
  intro p e s m args below meth c s₁ B hml hout hv
  obtain ⟨ha, hP, hK, hX, hZ⟩ := hv
  have hx := B.exec
  have hb := B.bytes
  have hr := B.returns
  have hts := atoms_spec (ws := wsX4_run) B.pre
  have hown : s.vm.findClass RX4 = some m.cls := findClass_of_methodNamed B.named
  have hlocks := B.notSynchronized
  have hl := lv_entry ([.ref (ad 0), .long zA]) (n := 10) (Nat.le_of_ble_eq_true rfl)
  refine W.eq (g2 := entryFrame m ([.ref (ad 0), .long zA] : List Value).toArray 10) (by rw [ha]) ?_
  rw [lg_entry_eq]
  generalize (lg_sl ([.ref (ad 0), .long zA]) ++ List.replicate (10 - (lg_sl ([.ref (ad 0), .long zA])).length) Slot.unset).toArray = ls at hl ⊢
  have hl : lv_has ls 10 [(0, .ref (ad 0)), (1, .long zA)] := hl
  refine lv_lload_n hx hb dX4_run_0 rfl (lv_at hl 1 rfl) ?_
  refine lv_lconst (v := 0) hx hb dX4_run_1 (by decide) ?_
  refine bm_lc_lt (x := zA) (y := 0) (tgt := 14) hx hb dX4_run_2 dX4_run_3 (by decide) (fun c_1 => ?_) (fun c_1 => ?_)
  · obtain ⟨sa, hsa⟩ := hZ (195, "steps are 0 .. 2,000") (by decide +kernel)
    exact bx_throw (rest := []) (own := RX4) (cls := "java/lang/IllegalArgumentException") (text := "steps are 0 .. 2,000") (names := bxUp) (ik := 75) (is := 195) (ic := 79) hx hb hlt hown (by decide +kernel) (by decide +kernel) (hts (.classLink RX4 75 "java/lang/IllegalArgumentException") (by decide +kernel)) (hts (.initialized "java/lang/IllegalArgumentException") (by decide +kernel)) hsa (fun w hw => hX w (bx_in_79 w hw) _) (hl.1.trans hml.symm) dX4_run_14 dX4_run_17 dX4_run_18 dX4_run_20 dX4_run_23 hout (Nat.le_of_ble_eq_true rfl) (Nat.le_of_ble_eq_true rfl) (Nat.le_of_ble_eq_true rfl) (Nat.le_of_ble_eq_true rfl) hlocks
  · refine lv_lload_n hx hb dX4_run_6 rfl (lv_at hl 1 rfl) ?_
    refine lv_ldc2 (v := 2000) hx hb hown (hts (.constantLong RX4 193 2000) (List.mem_cons_of_mem _ clX4_193)) dX4_run_7 ?_
    refine bm_lc_le (x := zA) (y := 2000) (tgt := 24) hx hb dX4_run_10 dX4_run_11 (by decide) (fun c_2 => ?_) (fun c_2 => ?_)
    · exact absurd hv (by simp [q_rn, c_1, c_2])
    · obtain ⟨sa, hsa⟩ := hZ (195, "steps are 0 .. 2,000") (by decide +kernel)
      exact bx_throw (rest := []) (own := RX4) (cls := "java/lang/IllegalArgumentException") (text := "steps are 0 .. 2,000") (names := bxUp) (ik := 75) (is := 195) (ic := 79) hx hb hlt hown (by decide +kernel) (by decide +kernel) (hts (.classLink RX4 75 "java/lang/IllegalArgumentException") (by decide +kernel)) (hts (.initialized "java/lang/IllegalArgumentException") (by decide +kernel)) hsa (fun w hw => hX w (bx_in_79 w hw) _) (hl.1.trans hml.symm) dX4_run_14 dX4_run_17 dX4_run_18 dX4_run_20 dX4_run_23 hout (Nat.le_of_ble_eq_true rfl) (Nat.le_of_ble_eq_true rfl) (Nat.le_of_ble_eq_true rfl) (Nat.le_of_ble_eq_true rfl) hlocks

set_option maxHeartbeats 4000000 in
set_option maxRecDepth 100000 in
theorem X_near1 {l : Launch} (hlt : l.stackTraces = false) {D : va_G} {ad : Nat → Nat} {cJ cI cZ : ClassId} {bm : gBM} {pa : gPA} {p0 p1 p2 : gPL} {li : gLI} {wi : gWI} {mt : Nat} {ms : gMS} {ma : gMA} {mp : gMP} {mk : gMK} {mn : gMN} {ou : Nat → Int64} {zA : Int32} (hno_zA : ¬ (¬ zA < 0 ∧ zA < nI pa.2.2.2.2.2.2)) {zB : Int32} {zC : Int64} : bx_T l yX4_near wsX4_near ({ frames := 7, cells := 1, slots := 6, locals := 122 }) (bx_Tp D vwCl [(cJ, .long), (cI, .int), (cZ, .boolean)] (WW ad cJ cI cZ bm pa p0 p1 p2 li wi mt ms ma mp mk mn ou) [.ref (ad 0), .int zA, .int zB, .long zC]) "java/lang/IndexOutOfBoundsException" := by
  refine bx_ofW (cc := cX4_near) (maxL := 5) (ret := (some .boolean)) (by decide) rfl ?_
  intro p e s m args below meth c s₁ B hml hout hv
  obtain ⟨ha, hP, hK, hX, hZ⟩ := hv
  have hx := B.exec
  have hb := B.bytes
  have hr := B.returns
  have hts := atoms_spec (ws := wsX4_near) B.pre
  have hown : s.vm.findClass RX4 = some m.cls := findClass_of_methodNamed B.named
  have hlocks := B.notSynchronized
  have hl := lv_entry ([.ref (ad 0), .int zA, .int zB, .long zC]) (n := 5) (Nat.le_of_ble_eq_true rfl)
  refine W.eq (g2 := entryFrame m ([.ref (ad 0), .int zA, .int zB, .long zC] : List Value).toArray 5) (by rw [ha]) ?_
  rw [lg_entry_eq]
  generalize (lg_sl ([.ref (ad 0), .int zA, .int zB, .long zC]) ++ List.replicate (5 - (lg_sl ([.ref (ad 0), .int zA, .int zB, .long zC])).length) Slot.unset).toArray = ls at hl ⊢
  have hl : lv_has ls 5 [(0, .ref (ad 0)), (1, .int zA), (2, .int zB), (3, .long zC)] := hl
  refine lv_aload_n hx hb dX4_near_0 rfl (lv_at hl 0 rfl) ?_
  refine lv_iload_n hx hb dX4_near_1 rfl (lv_at hl 1 rfl) ?_
  exact bx_leave (bx_tcallV (As := [.int zA]) (rest := []) ⟨hx, hb, hml, hown, hts⟩ (X_needN hlt  (zA := zA) hno_zA) (cwV 1 hts gvX4_86 rfl rfl rfl hvX4_needPart ⟨Nat.le_of_ble_eq_true rfl, Nat.le_of_ble_eq_true rfl⟩) hK hP hX hZ 0 4 rfl ww_0 rfl hl.1 rfl (Nat.le_of_ble_eq_true rfl) dX4_near_2 ⟨Nat.le_of_ble_eq_true rfl, Nat.le_of_ble_eq_true rfl⟩) hout hlocks

set_option maxHeartbeats 4000000 in
set_option maxRecDepth 100000 in
theorem X_near2 {l : Launch} (hlt : l.stackTraces = false) {D : va_G} {ad : Nat → Nat} {cJ cI cZ : ClassId} {bm : gBM} {pa : gPA} {p0 p1 p2 : gPL} {li : gLI} {wi : gWI} {mt : Nat} {ms : gMS} {ma : gMA} {mp : gMP} {mk : gMK} {mn : gMN} {ou : Nat → Int64} (okn : pa.2.2.2.2.2.2 ≤ 40){zA : Nat} (hk_zA : zA < pa.2.2.2.2.2.2){zB : Int32} (hno_zB : ¬ (¬ zB < 0 ∧ zB < nI pa.2.2.2.2.2.2)) {zC : Int64} : bx_T l yX4_near wsX4_near ({ frames := 7, cells := 1, slots := 6, locals := 122 }) (bx_Tp D vwCl [(cJ, .long), (cI, .int), (cZ, .boolean)] (WW ad cJ cI cZ bm pa p0 p1 p2 li wi mt ms ma mp mk mn ou) [.ref (ad 0), .int (nI zA), .int zB, .long zC]) "java/lang/IndexOutOfBoundsException" := by
  refine bx_ofW (cc := cX4_near) (maxL := 5) (ret := (some .boolean)) (by decide) rfl ?_
  intro p e s m args below meth c s₁ B hml hout hv
  obtain ⟨ha, hP, hK, hX, hZ⟩ := hv
  have hx := B.exec
  have hb := B.bytes
  have hr := B.returns
  have hts := atoms_spec (ws := wsX4_near) B.pre
  have hown : s.vm.findClass RX4 = some m.cls := findClass_of_methodNamed B.named
  have hlocks := B.notSynchronized
  have hl := lv_entry ([.ref (ad 0), .int (nI zA), .int zB, .long zC]) (n := 5) (Nat.le_of_ble_eq_true rfl)
  refine W.eq (g2 := entryFrame m ([.ref (ad 0), .int (nI zA), .int zB, .long zC] : List Value).toArray 5) (by rw [ha]) ?_
  rw [lg_entry_eq]
  generalize (lg_sl ([.ref (ad 0), .int (nI zA), .int zB, .long zC]) ++ List.replicate (5 - (lg_sl ([.ref (ad 0), .int (nI zA), .int zB, .long zC])).length) Slot.unset).toArray = ls at hl ⊢
  have hl : lv_has ls 5 [(0, .ref (ad 0)), (1, .int (nI zA)), (2, .int zB), (3, .long zC)] := hl
  refine lv_aload_n hx hb dX4_near_0 rfl (lv_at hl 0 rfl) ?_
  refine lv_iload_n hx hb dX4_near_1 rfl (lv_at hl 1 rfl) ?_
  refine bm_vcallV (As := [.int (nI zA)]) (rest := []) ⟨hx, hb, hml, hown, hts⟩ (X_needY  (zp := zA) okn (by omega)) (cwV 1 hts gvX4_86 rfl rfl rfl hvX4_needPart ⟨Nat.le_of_ble_eq_true rfl, Nat.le_of_ble_eq_true rfl⟩) hK hP 0 4 rfl ww_0 rfl hl.1 rfl (Nat.le_of_ble_eq_true rfl) dX4_near_2 ⟨Nat.le_of_ble_eq_true rfl, Nat.le_of_ble_eq_true rfl⟩ ?_
  refine lv_aload_n hx hb dX4_near_5 rfl (lv_at hl 0 rfl) ?_
  refine lv_iload_n hx hb dX4_near_6 rfl (lv_at hl 2 rfl) ?_
  exact bx_leave (bx_tcallV (As := [.int zB]) (rest := []) ⟨hx, hb, hml, hown, hts⟩ (X_needN hlt  (zA := zB) hno_zB) (cwV 1 hts gvX4_86 rfl rfl rfl hvX4_needPart ⟨Nat.le_of_ble_eq_true rfl, Nat.le_of_ble_eq_true rfl⟩) hK hP hX hZ 0 4 rfl ww_0 rfl hl.1 rfl (Nat.le_of_ble_eq_true rfl) dX4_near_7 ⟨Nat.le_of_ble_eq_true rfl, Nat.le_of_ble_eq_true rfl⟩) hout hlocks

set_option maxHeartbeats 4000000 in
set_option maxRecDepth 100000 in
theorem X_near3 {l : Launch} (hlt : l.stackTraces = false) {D : va_G} {ad : Nat → Nat} {cJ cI cZ : ClassId} {bm : gBM} {pa : gPA} {p0 p1 p2 : gPL} {li : gLI} {wi : gWI} {mt : Nat} {ms : gMS} {ma : gMA} {mp : gMP} {mk : gMK} {mn : gMN} {ou : Nat → Int64} (okn : pa.2.2.2.2.2.2 ≤ 40){zA : Nat} (hk_zA : zA < pa.2.2.2.2.2.2){zB : Nat} (hk_zB : zB < pa.2.2.2.2.2.2) {zC : Int64} (hv : zC < 0) : bx_T l yX4_near wsX4_near ({ frames := 6, cells := 1, slots := 6, locals := 101 }) (bx_Tp D vwCl [(cJ, .long), (cI, .int), (cZ, .boolean)] (WW ad cJ cI cZ bm pa p0 p1 p2 li wi mt ms ma mp mk mn ou) [.ref (ad 0), .int (nI zA), .int (nI zB), .long zC]) "java/lang/IllegalArgumentException" := by
  refine bx_ofW (cc := cX4_near) (maxL := 5) (ret := (some .boolean)) (by decide) rfl ?_
  intro p e s m args below meth c s₁ B hml hout hv
  obtain ⟨ha, hP, hK, hX, hZ⟩ := hv
  have hx := B.exec
  have hb := B.bytes
  have hr := B.returns
  have hts := atoms_spec (ws := wsX4_near) B.pre
  have hown : s.vm.findClass RX4 = some m.cls := findClass_of_methodNamed B.named
  have hlocks := B.notSynchronized
  have hl := lv_entry ([.ref (ad 0), .int (nI zA), .int (nI zB), .long zC]) (n := 5) (Nat.le_of_ble_eq_true rfl)
  refine W.eq (g2 := entryFrame m ([.ref (ad 0), .int (nI zA), .int (nI zB), .long zC] : List Value).toArray 5) (by rw [ha]) ?_
  rw [lg_entry_eq]
  generalize (lg_sl ([.ref (ad 0), .int (nI zA), .int (nI zB), .long zC]) ++ List.replicate (5 - (lg_sl ([.ref (ad 0), .int (nI zA), .int (nI zB), .long zC])).length) Slot.unset).toArray = ls at hl ⊢
  have hl : lv_has ls 5 [(0, .ref (ad 0)), (1, .int (nI zA)), (2, .int (nI zB)), (3, .long zC)] := hl
  refine lv_aload_n hx hb dX4_near_0 rfl (lv_at hl 0 rfl) ?_
  refine lv_iload_n hx hb dX4_near_1 rfl (lv_at hl 1 rfl) ?_
  refine bm_vcallV (As := [.int (nI zA)]) (rest := []) ⟨hx, hb, hml, hown, hts⟩ (X_needY  (zp := zA) okn (by omega)) (cwV 1 hts gvX4_86 rfl rfl rfl hvX4_needPart ⟨Nat.le_of_ble_eq_true rfl, Nat.le_of_ble_eq_true rfl⟩) hK hP 0 4 rfl ww_0 rfl hl.1 rfl (Nat.le_of_ble_eq_true rfl) dX4_near_2 ⟨Nat.le_of_ble_eq_true rfl, Nat.le_of_ble_eq_true rfl⟩ ?_
  refine lv_aload_n hx hb dX4_near_5 rfl (lv_at hl 0 rfl) ?_
  refine lv_iload_n hx hb dX4_near_6 rfl (lv_at hl 2 rfl) ?_
  refine bm_vcallV (As := [.int (nI zB)]) (rest := []) ⟨hx, hb, hml, hown, hts⟩ (X_needY  (zp := zB) okn (by omega)) (cwV 1 hts gvX4_86 rfl rfl rfl hvX4_needPart ⟨Nat.le_of_ble_eq_true rfl, Nat.le_of_ble_eq_true rfl⟩) hK hP 0 4 rfl ww_0 rfl hl.1 rfl (Nat.le_of_ble_eq_true rfl) dX4_near_7 ⟨Nat.le_of_ble_eq_true rfl, Nat.le_of_ble_eq_true rfl⟩ ?_
  refine lv_lload_n hx hb dX4_near_10 rfl (lv_at hl 3 rfl) ?_
  refine lv_lconst (v := 0) hx hb dX4_near_11 (by decide) ?_
  refine bm_lc_ge (x := zC) (y := 0) (tgt := 26) hx hb dX4_near_12 dX4_near_13 (by decide) (fun c_1 => ?_) (fun c_1 => ?_)
  · exact absurd hv c_1
  · obtain ⟨sa, hsa⟩ := hZ (205, "a gap is not below 0") (by decide +kernel)
    exact bx_throw (rest := []) (own := RX4) (cls := "java/lang/IllegalArgumentException") (text := "a gap is not below 0") (names := bxUp) (ik := 75) (is := 205) (ic := 79) hx hb hlt hown (by decide +kernel) (by decide +kernel) (hts (.classLink RX4 75 "java/lang/IllegalArgumentException") (by decide +kernel)) (hts (.initialized "java/lang/IllegalArgumentException") (by decide +kernel)) hsa (fun w hw => hX w (bx_in_79 w hw) _) (hl.1.trans hml.symm) dX4_near_16 dX4_near_19 dX4_near_20 dX4_near_22 dX4_near_25 hout (Nat.le_of_ble_eq_true rfl) (Nat.le_of_ble_eq_true rfl) (Nat.le_of_ble_eq_true rfl) (Nat.le_of_ble_eq_true rfl) hlocks

set_option maxHeartbeats 4000000 in
set_option maxRecDepth 100000 in
theorem X_group1 {l : Launch} (hlt : l.stackTraces = false) {D : va_G} {ad : Nat → Nat} {cJ cI cZ : ClassId} {bm : gBM} {pa : gPA} {p0 p1 p2 : gPL} {li : gLI} {wi : gWI} {mt : Nat} {ms : gMS} {ma : gMA} {mp : gMP} {mk : gMK} {mn : gMN} {ou : Nat → Int64} {zA : Int32} (hno_zA : ¬ (¬ zA < 0 ∧ zA < nI pa.2.2.2.2.2.2)) {zB : Int32} : bx_T l yX4_group wsX4_group ({ frames := 7, cells := 1, slots := 6, locals := 122 }) (bx_Tp D vwCl [(cJ, .long), (cI, .int), (cZ, .boolean)] (WW ad cJ cI cZ bm pa p0 p1 p2 li wi mt ms ma mp mk mn ou) [.ref (ad 0), .int zA, .int zB]) "java/lang/IndexOutOfBoundsException" := by
  refine bx_ofW (cc := cX4_group) (maxL := 3) (ret := (some .int)) (by decide) rfl ?_
  intro p e s m args below meth c s₁ B hml hout hv
  obtain ⟨ha, hP, hK, hX, hZ⟩ := hv
  have hx := B.exec
  have hb := B.bytes
  have hr := B.returns
  have hts := atoms_spec (ws := wsX4_group) B.pre
  have hown : s.vm.findClass RX4 = some m.cls := findClass_of_methodNamed B.named
  have hlocks := B.notSynchronized
  have hl := lv_entry ([.ref (ad 0), .int zA, .int zB]) (n := 3) (Nat.le_of_ble_eq_true rfl)
  refine W.eq (g2 := entryFrame m ([.ref (ad 0), .int zA, .int zB] : List Value).toArray 3) (by rw [ha]) ?_
  rw [lg_entry_eq]
  generalize (lg_sl ([.ref (ad 0), .int zA, .int zB]) ++ List.replicate (3 - (lg_sl ([.ref (ad 0), .int zA, .int zB])).length) Slot.unset).toArray = ls at hl ⊢
  have hl : lv_has ls 3 [(0, .ref (ad 0)), (1, .int zA), (2, .int zB)] := hl
  refine lv_aload_n hx hb dX4_group_0 rfl (lv_at hl 0 rfl) ?_
  refine lv_iload_n hx hb dX4_group_1 rfl (lv_at hl 1 rfl) ?_
  exact bx_leave (bx_tcallV (As := [.int zA]) (rest := []) ⟨hx, hb, hml, hown, hts⟩ (X_needN hlt  (zA := zA) hno_zA) (cwV 1 hts gvX4_86 rfl rfl rfl hvX4_needPart ⟨Nat.le_of_ble_eq_true rfl, Nat.le_of_ble_eq_true rfl⟩) hK hP hX hZ 0 4 rfl ww_0 rfl hl.1 rfl (Nat.le_of_ble_eq_true rfl) dX4_group_2 ⟨Nat.le_of_ble_eq_true rfl, Nat.le_of_ble_eq_true rfl⟩) hout hlocks

set_option maxHeartbeats 4000000 in
set_option maxRecDepth 100000 in
theorem X_group2 {l : Launch} (hlt : l.stackTraces = false) {D : va_G} {ad : Nat → Nat} {cJ cI cZ : ClassId} {bm : gBM} {pa : gPA} {p0 p1 p2 : gPL} {li : gLI} {wi : gWI} {mt : Nat} {ms : gMS} {ma : gMA} {mp : gMP} {mk : gMK} {mn : gMN} {ou : Nat → Int64} (okn : pa.2.2.2.2.2.2 ≤ 40){zA : Nat} (hk_zA : zA < pa.2.2.2.2.2.2){zB : Int32} (hno_zB : ¬ (¬ zB < 0 ∧ zB < nI pa.2.2.2.2.2.2)) : bx_T l yX4_group wsX4_group ({ frames := 7, cells := 1, slots := 6, locals := 122 }) (bx_Tp D vwCl [(cJ, .long), (cI, .int), (cZ, .boolean)] (WW ad cJ cI cZ bm pa p0 p1 p2 li wi mt ms ma mp mk mn ou) [.ref (ad 0), .int (nI zA), .int zB]) "java/lang/IndexOutOfBoundsException" := by
  refine bx_ofW (cc := cX4_group) (maxL := 3) (ret := (some .int)) (by decide) rfl ?_
  intro p e s m args below meth c s₁ B hml hout hv
  obtain ⟨ha, hP, hK, hX, hZ⟩ := hv
  have hx := B.exec
  have hb := B.bytes
  have hr := B.returns
  have hts := atoms_spec (ws := wsX4_group) B.pre
  have hown : s.vm.findClass RX4 = some m.cls := findClass_of_methodNamed B.named
  have hlocks := B.notSynchronized
  have hl := lv_entry ([.ref (ad 0), .int (nI zA), .int zB]) (n := 3) (Nat.le_of_ble_eq_true rfl)
  refine W.eq (g2 := entryFrame m ([.ref (ad 0), .int (nI zA), .int zB] : List Value).toArray 3) (by rw [ha]) ?_
  rw [lg_entry_eq]
  generalize (lg_sl ([.ref (ad 0), .int (nI zA), .int zB]) ++ List.replicate (3 - (lg_sl ([.ref (ad 0), .int (nI zA), .int zB])).length) Slot.unset).toArray = ls at hl ⊢
  have hl : lv_has ls 3 [(0, .ref (ad 0)), (1, .int (nI zA)), (2, .int zB)] := hl
  refine lv_aload_n hx hb dX4_group_0 rfl (lv_at hl 0 rfl) ?_
  refine lv_iload_n hx hb dX4_group_1 rfl (lv_at hl 1 rfl) ?_
  refine bm_vcallV (As := [.int (nI zA)]) (rest := []) ⟨hx, hb, hml, hown, hts⟩ (X_needY  (zp := zA) okn (by omega)) (cwV 1 hts gvX4_86 rfl rfl rfl hvX4_needPart ⟨Nat.le_of_ble_eq_true rfl, Nat.le_of_ble_eq_true rfl⟩) hK hP 0 4 rfl ww_0 rfl hl.1 rfl (Nat.le_of_ble_eq_true rfl) dX4_group_2 ⟨Nat.le_of_ble_eq_true rfl, Nat.le_of_ble_eq_true rfl⟩ ?_
  refine lv_aload_n hx hb dX4_group_5 rfl (lv_at hl 0 rfl) ?_
  refine lv_iload_n hx hb dX4_group_6 rfl (lv_at hl 2 rfl) ?_
  exact bx_leave (bx_tcallV (As := [.int zB]) (rest := []) ⟨hx, hb, hml, hown, hts⟩ (X_needN hlt  (zA := zB) hno_zB) (cwV 1 hts gvX4_86 rfl rfl rfl hvX4_needPart ⟨Nat.le_of_ble_eq_true rfl, Nat.le_of_ble_eq_true rfl⟩) hK hP hX hZ 0 4 rfl ww_0 rfl hl.1 rfl (Nat.le_of_ble_eq_true rfl) dX4_group_7 ⟨Nat.le_of_ble_eq_true rfl, Nat.le_of_ble_eq_true rfl⟩) hout hlocks

set_option maxHeartbeats 4000000 in
set_option maxRecDepth 100000 in
theorem X_height1 {l : Launch} (hlt : l.stackTraces = false) {D : va_G} {ad : Nat → Nat} {cJ cI cZ : ClassId} {bm : gBM} {pa : gPA} {p0 p1 p2 : gPL} {li : gLI} {wi : gWI} {mt : Nat} {ms : gMS} {ma : gMA} {mp : gMP} {mk : gMK} {mn : gMN} {ou : Nat → Int64} {zA : Int32} (hno_zA : ¬ (¬ zA < 0 ∧ zA < nI pa.2.2.2.2.2.2)) {zB : Int64} : bx_T l yX4_height wsX4_height ({ frames := 7, cells := 1, slots := 6, locals := 122 }) (bx_Tp D vwCl [(cJ, .long), (cI, .int), (cZ, .boolean)] (WW ad cJ cI cZ bm pa p0 p1 p2 li wi mt ms ma mp mk mn ou) [.ref (ad 0), .int zA, .long zB]) "java/lang/IndexOutOfBoundsException" := by
  refine bx_ofW (cc := cX4_height) (maxL := 6) (ret := (some .boolean)) (by decide) rfl ?_
  intro p e s m args below meth c s₁ B hml hout hv
  obtain ⟨ha, hP, hK, hX, hZ⟩ := hv
  have hx := B.exec
  have hb := B.bytes
  have hr := B.returns
  have hts := atoms_spec (ws := wsX4_height) B.pre
  have hown : s.vm.findClass RX4 = some m.cls := findClass_of_methodNamed B.named
  have hlocks := B.notSynchronized
  have hl := lv_entry ([.ref (ad 0), .int zA, .long zB]) (n := 6) (Nat.le_of_ble_eq_true rfl)
  refine W.eq (g2 := entryFrame m ([.ref (ad 0), .int zA, .long zB] : List Value).toArray 6) (by rw [ha]) ?_
  rw [lg_entry_eq]
  generalize (lg_sl ([.ref (ad 0), .int zA, .long zB]) ++ List.replicate (6 - (lg_sl ([.ref (ad 0), .int zA, .long zB])).length) Slot.unset).toArray = ls at hl ⊢
  have hl : lv_has ls 6 [(0, .ref (ad 0)), (1, .int zA), (2, .long zB)] := hl
  refine lv_aload_n hx hb dX4_height_0 rfl (lv_at hl 0 rfl) ?_
  refine lv_iload_n hx hb dX4_height_1 rfl (lv_at hl 1 rfl) ?_
  exact bx_leave (bx_tcallV (As := [.int zA]) (rest := []) ⟨hx, hb, hml, hown, hts⟩ (X_needN hlt  (zA := zA) hno_zA) (cwV 1 hts gvX4_86 rfl rfl rfl hvX4_needPart ⟨Nat.le_of_ble_eq_true rfl, Nat.le_of_ble_eq_true rfl⟩) hK hP hX hZ 0 4 rfl ww_0 rfl hl.1 rfl (Nat.le_of_ble_eq_true rfl) dX4_height_2 ⟨Nat.le_of_ble_eq_true rfl, Nat.le_of_ble_eq_true rfl⟩) hout hlocks

set_option maxHeartbeats 4000000 in
set_option maxRecDepth 100000 in
theorem X_height2 {l : Launch} (hlt : l.stackTraces = false) {D : va_G} {ad : Nat → Nat} {cJ cI cZ : ClassId} {bm : gBM} {pa : gPA} {p0 p1 p2 : gPL} {li : gLI} {wi : gWI} {mt : Nat} {ms : gMS} {ma : gMA} {mp : gMP} {mk : gMK} {mn : gMN} {ou : Nat → Int64} (okn : pa.2.2.2.2.2.2 ≤ 40){zA : Nat} (hk_zA : zA < pa.2.2.2.2.2.2) {zB : Int64} (hv : q_ht zB = false) : bx_T l yX4_height wsX4_height ({ frames := 6, cells := 1, slots := 6, locals := 101 }) (bx_Tp D vwCl [(cJ, .long), (cI, .int), (cZ, .boolean)] (WW ad cJ cI cZ bm pa p0 p1 p2 li wi mt ms ma mp mk mn ou) [.ref (ad 0), .int (nI zA), .long zB]) "java/lang/IllegalArgumentException" := by
  refine bx_ofW (cc := cX4_height) (maxL := 6) (ret := (some .boolean)) (by decide) rfl ?_
  intro p e s m args below meth c s₁ B hml hout hv
  obtain ⟨ha, hP, hK, hX, hZ⟩ := hv
  have hx := B.exec
  have hb := B.bytes
  have hr := B.returns
  have hts := atoms_spec (ws := wsX4_height) B.pre
  have hown : s.vm.findClass RX4 = some m.cls := findClass_of_methodNamed B.named
  have hlocks := B.notSynchronized
  have hl := lv_entry ([.ref (ad 0), .int (nI zA), .long zB]) (n := 6) (Nat.le_of_ble_eq_true rfl)
  refine W.eq (g2 := entryFrame m ([.ref (ad 0), .int (nI zA), .long zB] : List Value).toArray 6) (by rw [ha]) ?_
  rw [lg_entry_eq]
  generalize (lg_sl ([.ref (ad 0), .int (nI zA), .long zB]) ++ List.replicate (6 - (lg_sl ([.ref (ad 0), .int (nI zA), .long zB])).length) Slot.unset).toArray = ls at hl ⊢
  have hl : lv_has ls 6 [(0, .ref (ad 0)), (1, .int (nI zA)), (2, .long zB)] := hl
  refine lv_aload_n hx hb dX4_height_0 rfl (lv_at hl 0 rfl) ?_
  refine lv_iload_n hx hb dX4_height_1 rfl (lv_at hl 1 rfl) ?_
  refine bm_vcallV (As := [.int (nI zA)]) (rest := []) ⟨hx, hb, hml, hown, hts⟩ (X_needY  (zp := zA) okn (by omega)) (cwV 1 hts gvX4_86 rfl rfl rfl hvX4_needPart ⟨Nat.le_of_ble_eq_true rfl, Nat.le_of_ble_eq_true rfl⟩) hK hP 0 4 rfl ww_0 rfl hl.1 rfl (Nat.le_of_ble_eq_true rfl) dX4_height_2 ⟨Nat.le_of_ble_eq_true rfl, Nat.le_of_ble_eq_true rfl⟩ ?_
  refine lv_lload_n hx hb dX4_height_5 rfl (lv_at hl 2 rfl) ?_
  refine lv_lconst (v := 0) hx hb dX4_height_6 (by decide) ?_
  refine bm_lc_lt (x := zB) (y := 0) (tgt := 19) hx hb dX4_height_7 dX4_height_8 (by decide) (fun c_1 => ?_) (fun c_1 => ?_)
  · obtain ⟨sa, hsa⟩ := hZ (218, "a height is 0 .. 65,536") (by decide +kernel)
    exact bx_throw (rest := []) (own := RX4) (cls := "java/lang/IllegalArgumentException") (text := "a height is 0 .. 65,536") (names := bxUp) (ik := 75) (is := 218) (ic := 79) hx hb hlt hown (by decide +kernel) (by decide +kernel) (hts (.classLink RX4 75 "java/lang/IllegalArgumentException") (by decide +kernel)) (hts (.initialized "java/lang/IllegalArgumentException") (by decide +kernel)) hsa (fun w hw => hX w (bx_in_79 w hw) _) (hl.1.trans hml.symm) dX4_height_19 dX4_height_22 dX4_height_23 dX4_height_25 dX4_height_28 hout (Nat.le_of_ble_eq_true rfl) (Nat.le_of_ble_eq_true rfl) (Nat.le_of_ble_eq_true rfl) (Nat.le_of_ble_eq_true rfl) hlocks
  · refine lv_lload_n hx hb dX4_height_11 rfl (lv_at hl 2 rfl) ?_
    refine lv_ldc2 (v := 65536) hx hb hown (hts (.constantLong RX4 51 65536) (List.mem_cons_of_mem _ clX4_51)) dX4_height_12 ?_
    refine bm_lc_le (x := zB) (y := 65536) (tgt := 29) hx hb dX4_height_15 dX4_height_16 (by decide) (fun c_2 => ?_) (fun c_2 => ?_)
    · exact absurd hv (by simp [q_ht, c_1, c_2])
    · obtain ⟨sa, hsa⟩ := hZ (218, "a height is 0 .. 65,536") (by decide +kernel)
      exact bx_throw (rest := []) (own := RX4) (cls := "java/lang/IllegalArgumentException") (text := "a height is 0 .. 65,536") (names := bxUp) (ik := 75) (is := 218) (ic := 79) hx hb hlt hown (by decide +kernel) (by decide +kernel) (hts (.classLink RX4 75 "java/lang/IllegalArgumentException") (by decide +kernel)) (hts (.initialized "java/lang/IllegalArgumentException") (by decide +kernel)) hsa (fun w hw => hX w (bx_in_79 w hw) _) (hl.1.trans hml.symm) dX4_height_19 dX4_height_22 dX4_height_23 dX4_height_25 dX4_height_28 hout (Nat.le_of_ble_eq_true rfl) (Nat.le_of_ble_eq_true rfl) (Nat.le_of_ble_eq_true rfl) (Nat.le_of_ble_eq_true rfl) hlocks

set_option maxHeartbeats 4000000 in
set_option maxRecDepth 100000 in
theorem X_koX {l : Launch} (hlt : l.stackTraces = false) {D : va_G} {ad : Nat → Nat} {cJ cI cZ : ClassId} {bm : gBM} {pa : gPA} {p0 p1 p2 : gPL} {li : gLI} {wi : gWI} {mt : Nat} {ms : gMS} {ma : gMA} {mp : gMP} {mk : gMK} {mn : gMN} {ou : Nat → Int64} {zA zB zC zD zE : Int64} (hv : zE < 0) : bx_T l yX4_keepOut wsX4_keepOut ({ frames := 6, cells := 1, slots := 6, locals := 101 }) (bx_Tp D vwCl [(cJ, .long), (cI, .int), (cZ, .boolean)] (WW ad cJ cI cZ bm pa p0 p1 p2 li wi mt ms ma mp mk mn ou) [.ref (ad 0), .long zA, .long zB, .long zC, .long zD, .long zE]) "java/lang/IllegalArgumentException" := by
  refine bx_ofW (cc := cX4_keepOut) (maxL := 11) (ret := (some .boolean)) (by decide) rfl ?_
  intro p e s m args below meth c s₁ B hml hout hv
  obtain ⟨ha, hP, hK, hX, hZ⟩ := hv
  have hx := B.exec
  have hb := B.bytes
  have hr := B.returns
  have hts := atoms_spec (ws := wsX4_keepOut) B.pre
  have hown : s.vm.findClass RX4 = some m.cls := findClass_of_methodNamed B.named
  have hlocks := B.notSynchronized
  have hl := lv_entry ([.ref (ad 0), .long zA, .long zB, .long zC, .long zD, .long zE]) (n := 11) (Nat.le_of_ble_eq_true rfl)
  refine W.eq (g2 := entryFrame m ([.ref (ad 0), .long zA, .long zB, .long zC, .long zD, .long zE] : List Value).toArray 11) (by rw [ha]) ?_
  rw [lg_entry_eq]
  generalize (lg_sl ([.ref (ad 0), .long zA, .long zB, .long zC, .long zD, .long zE]) ++ List.replicate (11 - (lg_sl ([.ref (ad 0), .long zA, .long zB, .long zC, .long zD, .long zE])).length) Slot.unset).toArray = ls at hl ⊢
  have hl : lv_has ls 11 [(0, .ref (ad 0)), (1, .long zA), (3, .long zB), (5, .long zC), (7, .long zD), (9, .long zE)] := hl
  refine lv_lload hx hb dX4_keepOut_0 (lv_at hl 5 rfl) ?_
  refine lv_lconst (v := 0) hx hb dX4_keepOut_2 (by decide) ?_
  refine bm_lc_ge (x := zE) (y := 0) (tgt := 17) hx hb dX4_keepOut_3 dX4_keepOut_4 (by decide) (fun c_1 => ?_) (fun c_1 => ?_)
  · exact absurd hv c_1
  · obtain ⟨sa, hsa⟩ := hZ (223, "a height is not below 0") (by decide +kernel)
    exact bx_throw (rest := []) (own := RX4) (cls := "java/lang/IllegalArgumentException") (text := "a height is not below 0") (names := bxUp) (ik := 75) (is := 223) (ic := 79) hx hb hlt hown (by decide +kernel) (by decide +kernel) (hts (.classLink RX4 75 "java/lang/IllegalArgumentException") (by decide +kernel)) (hts (.initialized "java/lang/IllegalArgumentException") (by decide +kernel)) hsa (fun w hw => hX w (bx_in_79 w hw) _) (hl.1.trans hml.symm) dX4_keepOut_7 dX4_keepOut_10 dX4_keepOut_11 dX4_keepOut_13 dX4_keepOut_16 hout (Nat.le_of_ble_eq_true rfl) (Nat.le_of_ble_eq_true rfl) (Nat.le_of_ble_eq_true rfl) (Nat.le_of_ble_eq_true rfl) hlocks

set_option maxHeartbeats 4000000 in
set_option maxRecDepth 100000 in
theorem X_side1 {l : Launch} (hlt : l.stackTraces = false) {D : va_G} {ad : Nat → Nat} {cJ cI cZ : ClassId} {bm : gBM} {pa : gPA} {p0 p1 p2 : gPL} {li : gLI} {wi : gWI} {mt : Nat} {ms : gMS} {ma : gMA} {mp : gMP} {mk : gMK} {mn : gMN} {ou : Nat → Int64} {zA : Int32} (hno_zA : ¬ (¬ zA < 0 ∧ zA < nI pa.2.2.2.2.2.2)) : bx_T l yX4_side wsX4_side ({ frames := 7, cells := 1, slots := 6, locals := 122 }) (bx_Tp D vwCl [(cJ, .long), (cI, .int), (cZ, .boolean)] (WW ad cJ cI cZ bm pa p0 p1 p2 li wi mt ms ma mp mk mn ou) [.ref (ad 0), .int zA]) "java/lang/IndexOutOfBoundsException" := by
  refine bx_ofW (cc := cX4_side) (maxL := 2) (ret := (some .int)) (by decide) rfl ?_
  intro p e s m args below meth c s₁ B hml hout hv
  obtain ⟨ha, hP, hK, hX, hZ⟩ := hv
  have hx := B.exec
  have hb := B.bytes
  have hr := B.returns
  have hts := atoms_spec (ws := wsX4_side) B.pre
  have hown : s.vm.findClass RX4 = some m.cls := findClass_of_methodNamed B.named
  have hlocks := B.notSynchronized
  have hl := lv_entry ([.ref (ad 0), .int zA]) (n := 2) (Nat.le_of_ble_eq_true rfl)
  refine W.eq (g2 := entryFrame m ([.ref (ad 0), .int zA] : List Value).toArray 2) (by rw [ha]) ?_
  rw [lg_entry_eq]
  generalize (lg_sl ([.ref (ad 0), .int zA]) ++ List.replicate (2 - (lg_sl ([.ref (ad 0), .int zA])).length) Slot.unset).toArray = ls at hl ⊢
  have hl : lv_has ls 2 [(0, .ref (ad 0)), (1, .int zA)] := hl
  refine lv_aload_n hx hb dX4_side_0 rfl (lv_at hl 0 rfl) ?_
  refine lv_iload_n hx hb dX4_side_1 rfl (lv_at hl 1 rfl) ?_
  exact bx_leave (bx_tcallV (As := [.int zA]) (rest := []) ⟨hx, hb, hml, hown, hts⟩ (X_needN hlt  (zA := zA) hno_zA) (cwV 1 hts gvX4_86 rfl rfl rfl hvX4_needPart ⟨Nat.le_of_ble_eq_true rfl, Nat.le_of_ble_eq_true rfl⟩) hK hP hX hZ 0 4 rfl ww_0 rfl hl.1 rfl (Nat.le_of_ble_eq_true rfl) dX4_side_2 ⟨Nat.le_of_ble_eq_true rfl, Nat.le_of_ble_eq_true rfl⟩) hout hlocks
