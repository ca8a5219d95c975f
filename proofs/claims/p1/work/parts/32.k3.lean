set_option maxHeartbeats 4000000 in
set_option maxRecDepth 100000 in
theorem k_put {l : Launch} (hlt : l.stackTraces = false) {D : va_G} {ad : Nat → Nat} {cJ cI cZ : ClassId} {bm : gBM} {pa : gPA} {p0 p1 p2 : gPL} {li : gLI} {wi : gWI} {mt : Nat} {ms : gMS} {ma : gMA} {mp : gMP} {mk : gMK} {mn : gMN} {ou : Nat → Int64} {zA zD : Int32} {zB zC : Int64} : bx_T l yX4_put wsX4_put ({ frames := 7, cells := 1, slots := 6, locals := 122 }) (bx_Tp D vwCl [(cJ, .long), (cI, .int), (cZ, .boolean)] (WW ad cJ cI cZ (bm.1, bm.2.1, bm.2.2.1, 0) (pa.1, pa.2.1, pa.2.2.1, pa.2.2.2.1, pa.2.2.2.2.1, pa.2.2.2.2.2.1, 0) p0 p1 p2 (li.1, li.2.1, li.2.2.1, li.2.2.2.1, li.2.2.2.2.1, li.2.2.2.2.2.1, li.2.2.2.2.2.2.1, li.2.2.2.2.2.2.2.1, 0, 0) (wi.1, wi.2.1, wi.2.2.1, wi.2.2.2.1, wi.2.2.2.2.1, wi.2.2.2.2.2.1, wi.2.2.2.2.2.2.1, wi.2.2.2.2.2.2.2.1, wi.2.2.2.2.2.2.2.2.1, 0, 0) mt ms ma mp mk mn ou) [.ref (ad 0), .int zA, .long zB, .long zC, .int zD]) "java/lang/IndexOutOfBoundsException" := by
  refine bx_ofW (cc := cX4_put) (maxL := 7) (ret := (some .boolean)) (by decide) rfl ?_
  intro p e s m args below meth c s₁ B hml hout hv
  obtain ⟨ha, hP, hK, hX, hZ⟩ := hv
  have hx := B.exec
  have hb := B.bytes
  have hr := B.returns
  have hts := atoms_spec (ws := wsX4_put) B.pre
  have hown : s.vm.findClass RX4 = some m.cls := findClass_of_methodNamed B.named
  have hlocks := B.notSynchronized
  have hl := lv_entry ([.ref (ad 0), .int zA, .long zB, .long zC, .int zD]) (n := 7) (Nat.le_of_ble_eq_true rfl)
  refine W.eq (g2 := entryFrame m ([.ref (ad 0), .int zA, .long zB, .long zC, .int zD] : List Value).toArray 7) (by rw [ha]) ?_
  rw [lg_entry_eq]
  generalize (lg_sl ([.ref (ad 0), .int zA, .long zB, .long zC, .int zD]) ++ List.replicate (7 - (lg_sl ([.ref (ad 0), .int zA, .long zB, .long zC, .int zD])).length) Slot.unset).toArray = ls at hl ⊢
  have hl : lv_has ls 7 [(0, .ref (ad 0)), (1, .int zA), (2, .long zB), (4, .long zC), (6, .int zD)] := hl
  refine lv_aload_n hx hb dX4_put_0 rfl (lv_at hl 0 rfl) ?_
  refine lv_iload_n hx hb dX4_put_1 rfl (lv_at hl 1 rfl) ?_
  exact bx_leave (bx_tcallV (As := [.int zA]) (rest := []) ⟨hx, hb, hml, hown, hts⟩ (k_need hlt) (cwV 1 hts (gdV (by decide +kernel) (by decide +kernel) (by decide +kernel) (by decide +kernel) (by decide +kernel)) rfl rfl rfl (by decide +kernel) ⟨Nat.le_of_ble_eq_true rfl, Nat.le_of_ble_eq_true rfl⟩) hK hP hX hZ 0 4 rfl rfl rfl hl.1 rfl (Nat.le_of_ble_eq_true rfl) dX4_put_2 ⟨Nat.le_of_ble_eq_true rfl, Nat.le_of_ble_eq_true rfl⟩) hout hlocks

set_option maxHeartbeats 4000000 in
set_option maxRecDepth 100000 in
theorem k_lock {l : Launch} (hlt : l.stackTraces = false) {D : va_G} {ad : Nat → Nat} {cJ cI cZ : ClassId} {bm : gBM} {pa : gPA} {p0 p1 p2 : gPL} {li : gLI} {wi : gWI} {mt : Nat} {ms : gMS} {ma : gMA} {mp : gMP} {mk : gMK} {mn : gMN} {ou : Nat → Int64} {zA zB : Int32} : bx_T l yX4_lock wsX4_lock ({ frames := 7, cells := 1, slots := 6, locals := 122 }) (bx_Tp D vwCl [(cJ, .long), (cI, .int), (cZ, .boolean)] (WW ad cJ cI cZ (bm.1, bm.2.1, bm.2.2.1, 0) (pa.1, pa.2.1, pa.2.2.1, pa.2.2.2.1, pa.2.2.2.2.1, pa.2.2.2.2.2.1, 0) p0 p1 p2 (li.1, li.2.1, li.2.2.1, li.2.2.2.1, li.2.2.2.2.1, li.2.2.2.2.2.1, li.2.2.2.2.2.2.1, li.2.2.2.2.2.2.2.1, 0, 0) (wi.1, wi.2.1, wi.2.2.1, wi.2.2.2.1, wi.2.2.2.2.1, wi.2.2.2.2.2.1, wi.2.2.2.2.2.2.1, wi.2.2.2.2.2.2.2.1, wi.2.2.2.2.2.2.2.2.1, 0, 0) mt ms ma mp mk mn ou) [.ref (ad 0), .int zA, .int zB]) "java/lang/IndexOutOfBoundsException" := by
  refine bx_ofW (cc := cX4_lock) (maxL := 4) (ret := (some .boolean)) (by decide) rfl ?_
  intro p e s m args below meth c s₁ B hml hout hv
  obtain ⟨ha, hP, hK, hX, hZ⟩ := hv
  have hx := B.exec
  have hb := B.bytes
  have hr := B.returns
  have hts := atoms_spec (ws := wsX4_lock) B.pre
  have hown : s.vm.findClass RX4 = some m.cls := findClass_of_methodNamed B.named
  have hlocks := B.notSynchronized
  have hl := lv_entry ([.ref (ad 0), .int zA, .int zB]) (n := 4) (Nat.le_of_ble_eq_true rfl)
  refine W.eq (g2 := entryFrame m ([.ref (ad 0), .int zA, .int zB] : List Value).toArray 4) (by rw [ha]) ?_
  rw [lg_entry_eq]
  generalize (lg_sl ([.ref (ad 0), .int zA, .int zB]) ++ List.replicate (4 - (lg_sl ([.ref (ad 0), .int zA, .int zB])).length) Slot.unset).toArray = ls at hl ⊢
  have hl : lv_has ls 4 [(0, .ref (ad 0)), (1, .int zA), (2, .int zB)] := hl
  refine lv_aload_n hx hb dX4_lock_0 rfl (lv_at hl 0 rfl) ?_
  refine lv_iload_n hx hb dX4_lock_1 rfl (lv_at hl 1 rfl) ?_
  exact bx_leave (bx_tcallV (As := [.int zA]) (rest := []) ⟨hx, hb, hml, hown, hts⟩ (k_need hlt) (cwV 1 hts (gdV (by decide +kernel) (by decide +kernel) (by decide +kernel) (by decide +kernel) (by decide +kernel)) rfl rfl rfl (by decide +kernel) ⟨Nat.le_of_ble_eq_true rfl, Nat.le_of_ble_eq_true rfl⟩) hK hP hX hZ 0 4 rfl rfl rfl hl.1 rfl (Nat.le_of_ble_eq_true rfl) dX4_lock_2 ⟨Nat.le_of_ble_eq_true rfl, Nat.le_of_ble_eq_true rfl⟩) hout hlocks

set_option maxHeartbeats 4000000 in
set_option maxRecDepth 100000 in
theorem k_push {l : Launch} (hlt : l.stackTraces = false) {D : va_G} {ad : Nat → Nat} {cJ cI cZ : ClassId} {bm : gBM} {pa : gPA} {p0 p1 p2 : gPL} {li : gLI} {wi : gWI} {mt : Nat} {ms : gMS} {ma : gMA} {mp : gMP} {mk : gMK} {mn : gMN} {ou : Nat → Int64} {zA : Int32} {zB zC : Int64} : bx_T l yX4_push wsX4_push ({ frames := 7, cells := 1, slots := 6, locals := 122 }) (bx_Tp D vwCl [(cJ, .long), (cI, .int), (cZ, .boolean)] (WW ad cJ cI cZ (bm.1, bm.2.1, bm.2.2.1, 0) (pa.1, pa.2.1, pa.2.2.1, pa.2.2.2.1, pa.2.2.2.2.1, pa.2.2.2.2.2.1, 0) p0 p1 p2 (li.1, li.2.1, li.2.2.1, li.2.2.2.1, li.2.2.2.2.1, li.2.2.2.2.2.1, li.2.2.2.2.2.2.1, li.2.2.2.2.2.2.2.1, 0, 0) (wi.1, wi.2.1, wi.2.2.1, wi.2.2.2.1, wi.2.2.2.2.1, wi.2.2.2.2.2.1, wi.2.2.2.2.2.2.1, wi.2.2.2.2.2.2.2.1, wi.2.2.2.2.2.2.2.2.1, 0, 0) mt ms ma mp mk mn ou) [.ref (ad 0), .int zA, .long zB, .long zC]) "java/lang/IndexOutOfBoundsException" := by
  refine bx_ofW (cc := cX4_push) (maxL := 13) (ret := (some .int)) (by decide) rfl ?_
  intro p e s m args below meth c s₁ B hml hout hv
  obtain ⟨ha, hP, hK, hX, hZ⟩ := hv
  have hx := B.exec
  have hb := B.bytes
  have hr := B.returns
  have hts := atoms_spec (ws := wsX4_push) B.pre
  have hown : s.vm.findClass RX4 = some m.cls := findClass_of_methodNamed B.named
  have hlocks := B.notSynchronized
  have hl := lv_entry ([.ref (ad 0), .int zA, .long zB, .long zC]) (n := 13) (Nat.le_of_ble_eq_true rfl)
  refine W.eq (g2 := entryFrame m ([.ref (ad 0), .int zA, .long zB, .long zC] : List Value).toArray 13) (by rw [ha]) ?_
  rw [lg_entry_eq]
  generalize (lg_sl ([.ref (ad 0), .int zA, .long zB, .long zC]) ++ List.replicate (13 - (lg_sl ([.ref (ad 0), .int zA, .long zB, .long zC])).length) Slot.unset).toArray = ls at hl ⊢
  have hl : lv_has ls 13 [(0, .ref (ad 0)), (1, .int zA), (2, .long zB), (4, .long zC)] := hl
  refine lv_aload_n hx hb dX4_push_0 rfl (lv_at hl 0 rfl) ?_
  refine lv_iload_n hx hb dX4_push_1 rfl (lv_at hl 1 rfl) ?_
  exact bx_leave (bx_tcallV (As := [.int zA]) (rest := []) ⟨hx, hb, hml, hown, hts⟩ (k_need hlt) (cwV 1 hts (gdV (by decide +kernel) (by decide +kernel) (by decide +kernel) (by decide +kernel) (by decide +kernel)) rfl rfl rfl (by decide +kernel) ⟨Nat.le_of_ble_eq_true rfl, Nat.le_of_ble_eq_true rfl⟩) hK hP hX hZ 0 4 rfl rfl rfl hl.1 rfl (Nat.le_of_ble_eq_true rfl) dX4_push_2 ⟨Nat.le_of_ble_eq_true rfl, Nat.le_of_ble_eq_true rfl⟩) hout hlocks

set_option maxHeartbeats 4000000 in
set_option maxRecDepth 100000 in
theorem k_at {l : Launch} (hlt : l.stackTraces = false) {D : va_G} {ad : Nat → Nat} {cJ cI cZ : ClassId} {bm : gBM} {pa : gPA} {p0 p1 p2 : gPL} {li : gLI} {wi : gWI} {mt : Nat} {ms : gMS} {ma : gMA} {mp : gMP} {mk : gMK} {mn : gMN} {ou : Nat → Int64} {zA zB : Int32} : bx_T l yX4_at wsX4_at ({ frames := 7, cells := 1, slots := 6, locals := 122 }) (bx_Tp D vwCl [(cJ, .long), (cI, .int), (cZ, .boolean)] (WW ad cJ cI cZ (bm.1, bm.2.1, bm.2.2.1, 0) (pa.1, pa.2.1, pa.2.2.1, pa.2.2.2.1, pa.2.2.2.2.1, pa.2.2.2.2.2.1, 0) p0 p1 p2 (li.1, li.2.1, li.2.2.1, li.2.2.2.1, li.2.2.2.2.1, li.2.2.2.2.2.1, li.2.2.2.2.2.2.1, li.2.2.2.2.2.2.2.1, 0, 0) (wi.1, wi.2.1, wi.2.2.1, wi.2.2.2.1, wi.2.2.2.2.1, wi.2.2.2.2.2.1, wi.2.2.2.2.2.2.1, wi.2.2.2.2.2.2.2.1, wi.2.2.2.2.2.2.2.2.1, 0, 0) mt ms ma mp mk mn ou) [.ref (ad 0), .int zA, .int zB]) "java/lang/IndexOutOfBoundsException" := by
  refine bx_ofW (cc := cX4_at) (maxL := 3) (ret := (some .long)) (by decide) rfl ?_
  intro p e s m args below meth c s₁ B hml hout hv
  obtain ⟨ha, hP, hK, hX, hZ⟩ := hv
  have hx := B.exec
  have hb := B.bytes
  have hr := B.returns
  have hts := atoms_spec (ws := wsX4_at) B.pre
  have hown : s.vm.findClass RX4 = some m.cls := findClass_of_methodNamed B.named
  have hlocks := B.notSynchronized
  have hl := lv_entry ([.ref (ad 0), .int zA, .int zB]) (n := 3) (Nat.le_of_ble_eq_true rfl)
  refine W.eq (g2 := entryFrame m ([.ref (ad 0), .int zA, .int zB] : List Value).toArray 3) (by rw [ha]) ?_
  rw [lg_entry_eq]
  generalize (lg_sl ([.ref (ad 0), .int zA, .int zB]) ++ List.replicate (3 - (lg_sl ([.ref (ad 0), .int zA, .int zB])).length) Slot.unset).toArray = ls at hl ⊢
  have hl : lv_has ls 3 [(0, .ref (ad 0)), (1, .int zA), (2, .int zB)] := hl
  refine lv_aload_n hx hb dX4_at_0 rfl (lv_at hl 0 rfl) ?_
  refine lv_iload_n hx hb dX4_at_1 rfl (lv_at hl 1 rfl) ?_
  exact bx_leave (bx_tcallV (As := [.int zA]) (rest := []) ⟨hx, hb, hml, hown, hts⟩ (k_need hlt) (cwV 1 hts (gdV (by decide +kernel) (by decide +kernel) (by decide +kernel) (by decide +kernel) (by decide +kernel)) rfl rfl rfl (by decide +kernel) ⟨Nat.le_of_ble_eq_true rfl, Nat.le_of_ble_eq_true rfl⟩) hK hP hX hZ 0 4 rfl rfl rfl hl.1 rfl (Nat.le_of_ble_eq_true rfl) dX4_at_2 ⟨Nat.le_of_ble_eq_true rfl, Nat.le_of_ble_eq_true rfl⟩) hout hlocks

set_option maxHeartbeats 4000000 in
set_option maxRecDepth 100000 in
theorem k_near {l : Launch} (hlt : l.stackTraces = false) {D : va_G} {ad : Nat → Nat} {cJ cI cZ : ClassId} {bm : gBM} {pa : gPA} {p0 p1 p2 : gPL} {li : gLI} {wi : gWI} {mt : Nat} {ms : gMS} {ma : gMA} {mp : gMP} {mk : gMK} {mn : gMN} {ou : Nat → Int64} {zA zB : Int32} {zC : Int64} : bx_T l yX4_near wsX4_near ({ frames := 7, cells := 1, slots := 6, locals := 122 }) (bx_Tp D vwCl [(cJ, .long), (cI, .int), (cZ, .boolean)] (WW ad cJ cI cZ (bm.1, bm.2.1, bm.2.2.1, 0) (pa.1, pa.2.1, pa.2.2.1, pa.2.2.2.1, pa.2.2.2.2.1, pa.2.2.2.2.2.1, 0) p0 p1 p2 (li.1, li.2.1, li.2.2.1, li.2.2.2.1, li.2.2.2.2.1, li.2.2.2.2.2.1, li.2.2.2.2.2.2.1, li.2.2.2.2.2.2.2.1, 0, 0) (wi.1, wi.2.1, wi.2.2.1, wi.2.2.2.1, wi.2.2.2.2.1, wi.2.2.2.2.2.1, wi.2.2.2.2.2.2.1, wi.2.2.2.2.2.2.2.1, wi.2.2.2.2.2.2.2.2.1, 0, 0) mt ms ma mp mk mn ou) [.ref (ad 0), .int zA, .int zB, .long zC]) "java/lang/IndexOutOfBoundsException" := by
  refine bx_ofW (cc := cX4_near) (maxL := 5) (ret := (some .boolean)) (by decide) rfl ?_
  intro p e s m args below meth c s₁ B hml hout hv
  obtain ⟨ha, hP, hK, hX, hZ⟩ := hv
  have hx := B.exec
  have hb := B.bytes
  have hr := B.returns
  have hts := atoms_spec (ws := wsX4_near) B.pre
  have hown : s.vm.findClass RX4 = some m.cls := findClass_of_methodNamed B.named
  have hlocks := B.notSynchronized
  have hl := lv_entry ([.ref (ad 0), .int zA, .int zB, .long zC]) (n := 5) (Nat.le_of_ble_eq_true rfl)
  refine W.eq (g2 := entryFrame m ([.ref (ad 0), .int zA, .int zB, .long zC] : List Value).toArray 5) (by rw [ha]) ?_
  rw [lg_entry_eq]
  generalize (lg_sl ([.ref (ad 0), .int zA, .int zB, .long zC]) ++ List.replicate (5 - (lg_sl ([.ref (ad 0), .int zA, .int zB, .long zC])).length) Slot.unset).toArray = ls at hl ⊢
  have hl : lv_has ls 5 [(0, .ref (ad 0)), (1, .int zA), (2, .int zB), (3, .long zC)] := hl
  refine lv_aload_n hx hb dX4_near_0 rfl (lv_at hl 0 rfl) ?_
  refine lv_iload_n hx hb dX4_near_1 rfl (lv_at hl 1 rfl) ?_
  exact bx_leave (bx_tcallV (As := [.int zA]) (rest := []) ⟨hx, hb, hml, hown, hts⟩ (k_need hlt) (cwV 1 hts (gdV (by decide +kernel) (by decide +kernel) (by decide +kernel) (by decide +kernel) (by decide +kernel)) rfl rfl rfl (by decide +kernel) ⟨Nat.le_of_ble_eq_true rfl, Nat.le_of_ble_eq_true rfl⟩) hK hP hX hZ 0 4 rfl rfl rfl hl.1 rfl (Nat.le_of_ble_eq_true rfl) dX4_near_2 ⟨Nat.le_of_ble_eq_true rfl, Nat.le_of_ble_eq_true rfl⟩) hout hlocks

set_option maxHeartbeats 4000000 in
set_option maxRecDepth 100000 in
theorem k_group {l : Launch} (hlt : l.stackTraces = false) {D : va_G} {ad : Nat → Nat} {cJ cI cZ : ClassId} {bm : gBM} {pa : gPA} {p0 p1 p2 : gPL} {li : gLI} {wi : gWI} {mt : Nat} {ms : gMS} {ma : gMA} {mp : gMP} {mk : gMK} {mn : gMN} {ou : Nat → Int64} {zA zB : Int32} : bx_T l yX4_group wsX4_group ({ frames := 7, cells := 1, slots := 6, locals := 122 }) (bx_Tp D vwCl [(cJ, .long), (cI, .int), (cZ, .boolean)] (WW ad cJ cI cZ (bm.1, bm.2.1, bm.2.2.1, 0) (pa.1, pa.2.1, pa.2.2.1, pa.2.2.2.1, pa.2.2.2.2.1, pa.2.2.2.2.2.1, 0) p0 p1 p2 (li.1, li.2.1, li.2.2.1, li.2.2.2.1, li.2.2.2.2.1, li.2.2.2.2.2.1, li.2.2.2.2.2.2.1, li.2.2.2.2.2.2.2.1, 0, 0) (wi.1, wi.2.1, wi.2.2.1, wi.2.2.2.1, wi.2.2.2.2.1, wi.2.2.2.2.2.1, wi.2.2.2.2.2.2.1, wi.2.2.2.2.2.2.2.1, wi.2.2.2.2.2.2.2.2.1, 0, 0) mt ms ma mp mk mn ou) [.ref (ad 0), .int zA, .int zB]) "java/lang/IndexOutOfBoundsException" := by
  refine bx_ofW (cc := cX4_group) (maxL := 3) (ret := (some .int)) (by decide) rfl ?_
  intro p e s m args below meth c s₁ B hml hout hv
  obtain ⟨ha, hP, hK, hX, hZ⟩ := hv
  have hx := B.exec
  have hb := B.bytes
  have hr := B.returns
  have hts := atoms_spec (ws := wsX4_group) B.pre
  have hown : s.vm.findClass RX4 = some m.cls := findClass_of_methodNamed B.named
  have hlocks := B.notSynchronized
  have hl := lv_entry ([.ref (ad 0), .int zA, .int zB]) (n := 3) (Nat.le_of_ble_eq_true rfl)
  refine W.eq (g2 := entryFrame m ([.ref (ad 0), .int zA, .int zB] : List Value).toArray 3) (by rw [ha]) ?_
  rw [lg_entry_eq]
  generalize (lg_sl ([.ref (ad 0), .int zA, .int zB]) ++ List.replicate (3 - (lg_sl ([.ref (ad 0), .int zA, .int zB])).length) Slot.unset).toArray = ls at hl ⊢
  have hl : lv_has ls 3 [(0, .ref (ad 0)), (1, .int zA), (2, .int zB)] := hl
  refine lv_aload_n hx hb dX4_group_0 rfl (lv_at hl 0 rfl) ?_
  refine lv_iload_n hx hb dX4_group_1 rfl (lv_at hl 1 rfl) ?_
  exact bx_leave (bx_tcallV (As := [.int zA]) (rest := []) ⟨hx, hb, hml, hown, hts⟩ (k_need hlt) (cwV 1 hts (gdV (by decide +kernel) (by decide +kernel) (by decide +kernel) (by decide +kernel) (by decide +kernel)) rfl rfl rfl (by decide +kernel) ⟨Nat.le_of_ble_eq_true rfl, Nat.le_of_ble_eq_true rfl⟩) hK hP hX hZ 0 4 rfl rfl rfl hl.1 rfl (Nat.le_of_ble_eq_true rfl) dX4_group_2 ⟨Nat.le_of_ble_eq_true rfl, Nat.le_of_ble_eq_true rfl⟩) hout hlocks

set_option maxHeartbeats 4000000 in
set_option maxRecDepth 100000 in
theorem k_height {l : Launch} (hlt : l.stackTraces = false) {D : va_G} {ad : Nat → Nat} {cJ cI cZ : ClassId} {bm : gBM} {pa : gPA} {p0 p1 p2 : gPL} {li : gLI} {wi : gWI} {mt : Nat} {ms : gMS} {ma : gMA} {mp : gMP} {mk : gMK} {mn : gMN} {ou : Nat → Int64} {zA : Int32} {zB : Int64} : bx_T l yX4_height wsX4_height ({ frames := 7, cells := 1, slots := 6, locals := 122 }) (bx_Tp D vwCl [(cJ, .long), (cI, .int), (cZ, .boolean)] (WW ad cJ cI cZ (bm.1, bm.2.1, bm.2.2.1, 0) (pa.1, pa.2.1, pa.2.2.1, pa.2.2.2.1, pa.2.2.2.2.1, pa.2.2.2.2.2.1, 0) p0 p1 p2 (li.1, li.2.1, li.2.2.1, li.2.2.2.1, li.2.2.2.2.1, li.2.2.2.2.2.1, li.2.2.2.2.2.2.1, li.2.2.2.2.2.2.2.1, 0, 0) (wi.1, wi.2.1, wi.2.2.1, wi.2.2.2.1, wi.2.2.2.2.1, wi.2.2.2.2.2.1, wi.2.2.2.2.2.2.1, wi.2.2.2.2.2.2.2.1, wi.2.2.2.2.2.2.2.2.1, 0, 0) mt ms ma mp mk mn ou) [.ref (ad 0), .int zA, .long zB]) "java/lang/IndexOutOfBoundsException" := by
  refine bx_ofW (cc := cX4_height) (maxL := 6) (ret := (some .boolean)) (by decide) rfl ?_
  intro p e s m args below meth c s₁ B hml hout hv
  obtain ⟨ha, hP, hK, hX, hZ⟩ := hv
  have hx := B.exec
  have hb := B.bytes
  have hr := B.returns
  have hts := atoms_spec (ws := wsX4_height) B.pre
  have hown : s.vm.findClass RX4 = some m.cls := findClass_of_methodNamed B.named
  have hlocks := B.notSynchronized
  have hl := lv_entry ([.ref (ad 0), .int zA, .long zB]) (n := 6) (Nat.le_of_ble_eq_true rfl)
  refine W.eq (g2 := entryFrame m ([.ref (ad 0), .int zA, .long zB] : List Value).toArray 6) (by rw [ha]) ?_
  rw [lg_entry_eq]
  generalize (lg_sl ([.ref (ad 0), .int zA, .long zB]) ++ List.replicate (6 - (lg_sl ([.ref (ad 0), .int zA, .long zB])).length) Slot.unset).toArray = ls at hl ⊢
  have hl : lv_has ls 6 [(0, .ref (ad 0)), (1, .int zA), (2, .long zB)] := hl
  refine lv_aload_n hx hb dX4_height_0 rfl (lv_at hl 0 rfl) ?_
  refine lv_iload_n hx hb dX4_height_1 rfl (lv_at hl 1 rfl) ?_
  exact bx_leave (bx_tcallV (As := [.int zA]) (rest := []) ⟨hx, hb, hml, hown, hts⟩ (k_need hlt) (cwV 1 hts (gdV (by decide +kernel) (by decide +kernel) (by decide +kernel) (by decide +kernel) (by decide +kernel)) rfl rfl rfl (by decide +kernel) ⟨Nat.le_of_ble_eq_true rfl, Nat.le_of_ble_eq_true rfl⟩) hK hP hX hZ 0 4 rfl rfl rfl hl.1 rfl (Nat.le_of_ble_eq_true rfl) dX4_height_2 ⟨Nat.le_of_ble_eq_true rfl, Nat.le_of_ble_eq_true rfl⟩) hout hlocks

set_option maxHeartbeats 4000000 in
set_option maxRecDepth 100000 in
theorem k_side {l : Launch} (hlt : l.stackTraces = false) {D : va_G} {ad : Nat → Nat} {cJ cI cZ : ClassId} {bm : gBM} {pa : gPA} {p0 p1 p2 : gPL} {li : gLI} {wi : gWI} {mt : Nat} {ms : gMS} {ma : gMA} {mp : gMP} {mk : gMK} {mn : gMN} {ou : Nat → Int64} {zA : Int32} : bx_T l yX4_side wsX4_side ({ frames := 7, cells := 1, slots := 6, locals := 122 }) (bx_Tp D vwCl [(cJ, .long), (cI, .int), (cZ, .boolean)] (WW ad cJ cI cZ (bm.1, bm.2.1, bm.2.2.1, 0) (pa.1, pa.2.1, pa.2.2.1, pa.2.2.2.1, pa.2.2.2.2.1, pa.2.2.2.2.2.1, 0) p0 p1 p2 (li.1, li.2.1, li.2.2.1, li.2.2.2.1, li.2.2.2.2.1, li.2.2.2.2.2.1, li.2.2.2.2.2.2.1, li.2.2.2.2.2.2.2.1, 0, 0) (wi.1, wi.2.1, wi.2.2.1, wi.2.2.2.1, wi.2.2.2.2.1, wi.2.2.2.2.2.1, wi.2.2.2.2.2.2.1, wi.2.2.2.2.2.2.2.1, wi.2.2.2.2.2.2.2.2.1, 0, 0) mt ms ma mp mk mn ou) [.ref (ad 0), .int zA]) "java/lang/IndexOutOfBoundsException" := by
  refine bx_ofW (cc := cX4_side) (maxL := 2) (ret := (some .int)) (by decide) rfl ?_
  intro p e s m args below meth c s₁ B hml hout hv
  obtain ⟨ha, hP, hK, hX, hZ⟩ := hv
  have hx := B.exec
  have hb := B.bytes
  have hr := B.returns
  have hts := atoms_spec (ws := wsX4_side) B.pre
  have hown : s.vm.findClass RX4 = some m.cls := findClass_of_methodNamed B.named
  have hlocks := B.notSynchronized
  have hl := lv_entry ([.ref (ad 0), .int zA]) (n := 2) (Nat.le_of_ble_eq_true rfl)
  refine W.eq (g2 := entryFrame m ([.ref (ad 0), .int zA] : List Value).toArray 2) (by rw [ha]) ?_
  rw [lg_entry_eq]
  generalize (lg_sl ([.ref (ad 0), .int zA]) ++ List.replicate (2 - (lg_sl ([.ref (ad 0), .int zA])).length) Slot.unset).toArray = ls at hl ⊢
  have hl : lv_has ls 2 [(0, .ref (ad 0)), (1, .int zA)] := hl
  refine lv_aload_n hx hb dX4_side_0 rfl (lv_at hl 0 rfl) ?_
  refine lv_iload_n hx hb dX4_side_1 rfl (lv_at hl 1 rfl) ?_
  exact bx_leave (bx_tcallV (As := [.int zA]) (rest := []) ⟨hx, hb, hml, hown, hts⟩ (k_need hlt) (cwV 1 hts (gdV (by decide +kernel) (by decide +kernel) (by decide +kernel) (by decide +kernel) (by decide +kernel)) rfl rfl rfl (by decide +kernel) ⟨Nat.le_of_ble_eq_true rfl, Nat.le_of_ble_eq_true rfl⟩) hK hP hX hZ 0 4 rfl rfl rfl hl.1 rfl (Nat.le_of_ble_eq_true rfl) dX4_side_2 ⟨Nat.le_of_ble_eq_true rfl, Nat.le_of_ble_eq_true rfl⟩) hout hlocks
