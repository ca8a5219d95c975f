set_option maxHeartbeats 4000000 in
set_option maxRecDepth 100000 in
theorem E_partX {l : Launch} (hlt : l.stackTraces = false) {D : va_G} {ad : Nat → Nat} {cJ cI cZ : ClassId} {bm : gBM} {pa : gPA} {p0 p1 p2 : gPL} {li : gLI} {wi : gWI} {mt : Nat} {ms : gMS} {ma : gMA} {mp : gMP} {mk : gMK} {mn : gMN} {ou : Nat → Int64} {zA zB : Int64} {zC : Int32} (hv : q_pv zA zB zC = false) (sz : Nat) : Met l yL_part wsL_part ({ frames := 7, cells := 1, slots := 6, locals := 126 }) (bx_Hp D vwCl [(cJ, .long), (cI, .int), (cZ, .boolean)] (WW ad cJ cI cZ bm pa p0 p1 p2 li wi mt ms ma mp mk mn ou) [.ref (ad 0), .long zA, .long zB, .int zC, .ref (ad 62)] sz) (bm_Wq D vwCl [(cJ, .long), (cI, .int), (cZ, .boolean)] (WW ad cJ cI cZ bm pa p0 p1 p2 li wi mt ms ma mp mk mn ou) (some (.int (nI 1))) (va_A (WW ad cJ cI cZ bm pa p0 p1 p2 li wi mt ms ma mp mk mn ou) sz)) 1 6 (va_A (WW ad cJ cI cZ bm pa p0 p1 p2 li wi mt ms ma mp mk mn ou) sz) := by
  refine bx_ofWH (cc := cL_part) (maxL := 8) (ret := (some .int)) (hs := [(0, 13, 16, 13)]) (by decide) rfl ?_
  intro p e s m args below meth c s₁ B hml htab hv
  obtain ⟨ha, hsz, hP, hK, hD0, hX, hZ⟩ := hv
  have hx := B.exec
  have hb := B.bytes
  have hr := B.returns
  have hts := atoms_spec (ws := wsL_part) B.pre
  have hown : s.vm.findClass RL = some m.cls := findClass_of_methodNamed B.named
  have hlocks := B.notSynchronized
  subst hsz
  have hD := hD0.self (sz := s.heap.size)
  generalize hAe : va_A (WW ad cJ cI cZ bm pa p0 p1 p2 li wi mt ms ma mp mk mn ou) s.heap.size = A at hD ⊢
  have hA : ∀ q : Nat, s.heap.size ≤ q → A q := fun q h => by rw [← hAe]; exact Or.inr h
  have hS : va_S A s.heap s.heap [] := va_S.rf
  have hl := lv_entry ([.ref (ad 0), .long zA, .long zB, .int zC, .ref (ad 62)]) (n := 8) (Nat.le_of_ble_eq_true rfl)
  refine W.eq (g2 := entryFrame m ([.ref (ad 0), .long zA, .long zB, .int zC, .ref (ad 62)] : List Value).toArray 8) (by rw [ha]) ?_
  rw [lg_entry_eq]
  generalize (lg_sl ([.ref (ad 0), .long zA, .long zB, .int zC, .ref (ad 62)]) ++ List.replicate (8 - (lg_sl ([.ref (ad 0), .long zA, .long zB, .int zC, .ref (ad 62)])).length) Slot.unset).toArray = ls at hl ⊢
  have hl : lv_has ls 8 [(0, .ref (ad 0)), (1, .long zA), (3, .long zB), (5, .int zC), (6, .ref (ad 62))] := hl
  refine lv_aload hx hb dL_part_0 (lv_at hl 4 rfl) ?_
  refine lv_iconst (v := nI 0) hx hb dL_part_2 (by decide) ?_
  refine lv_aload_n hx hb dL_part_3 rfl (lv_at hl 0 rfl) ?_
  refine lv_lload_n hx hb dL_part_4 rfl (lv_at hl 1 rfl) ?_
  refine lv_lload_n hx hb dL_part_5 rfl (lv_at hl 2 rfl) ?_
  refine lv_iload hx hb dL_part_6 (lv_at hl 3 rfl) ?_
  refine bx_catch (name := "java/lang/IllegalArgumentException") (bx_tcallV (As := [.long zA, .long zB, .int zC]) (rest := [.int (nI 0), .ref (ad 62)]) ⟨hx, hb, hml, hown, hts⟩ (X_partX hlt hv) (cwV 3 hts gwL_7 rfl rfl rfl hvX4_part ⟨Nat.le_of_ble_eq_true rfl, Nat.le_of_ble_eq_true rfl⟩) hK hP hX hZ 0 4 rfl ww_0 rfl hl.1 rfl (Nat.le_of_ble_eq_true rfl) dL_part_8 ⟨Nat.le_of_ble_eq_true rfl, Nat.le_of_ble_eq_true rfl⟩) hown htab (by decide) (by decide) (hts (.classLink RL 13 "java/lang/IllegalArgumentException") (by decide +kernel)) (hX (.castable "java/lang/IllegalArgumentException" "java/lang/IllegalArgumentException") (by decide +kernel) _) (fun q9 H hz hh => ?_)
  have hP := bx_keepP hP hh
  have hS := bx_keepS hS hz hh
  refine lv_astore (lv' := [(7, .ref q9), (0, .ref (ad 0)), (1, .long zA), (3, .long zB), (5, .int zC), (6, .ref (ad 62))]) hx hb dL_part_16 hl (by decide) rfl (fun ls hl => ?_)
  refine lv_iconst (v := nI 1) hx hb dL_part_18 (by decide) ?_
  exact bm_iretW (v := (nI 1)) hx hb hr hP hD hK hS ⟨rfl, rfl⟩ dL_part_19 hlocks

set_option maxHeartbeats 4000000 in
set_option maxRecDepth 100000 in
theorem m_size {l : Launch} {D : va_G} {ad : Nat → Nat} {cJ cI cZ : ClassId} {bm : gBM} {pa : gPA} {p0 p1 p2 : gPL} {li : gLI} {wi : gWI} {mt : Nat} {ms : gMS} {ma : gMA} {mp : gMP} {mk : gMK} {mn : gMN} {ou : Nat → Int64} {zA : Int64} : bm_Rd l yX5_isSize wsX5_isSize ({ frames := 0, cells := 0, slots := 0, locals := 0 }) D vwCl [(cJ, .long), (cI, .int), (cZ, .boolean)] (WW ad cJ cI cZ bm pa p0 p1 p2 li wi mt ms ma mp mk mn ou) [.long zA] (.int (bm_b (q_len zA))) := by
  refine Met.ofW (cc := cX5_isSize) (maxL := 2) (ret := (some .boolean)) (by decide) rfl ?_
  intro p e s m args below meth c s₁ B hml hv
  obtain ⟨ha, hP, hK⟩ := hv
  have hx := B.exec
  have hb := B.bytes
  have hr := B.returns
  have hts := atoms_spec (ws := wsX5_isSize) B.pre
  have hown : s.vm.findClass RX5 = some m.cls := findClass_of_methodNamed B.named
  have hlocks := B.notSynchronized
  have hl := lv_entry ([.long zA]) (n := 2) (Nat.le_of_ble_eq_true rfl)
  refine W.eq (g2 := entryFrame m ([.long zA] : List Value).toArray 2) (by rw [ha]) ?_
  rw [lg_entry_eq]
  generalize (lg_sl ([.long zA]) ++ List.replicate (2 - (lg_sl ([.long zA])).length) Slot.unset).toArray = ls at hl ⊢
  have hl : lv_has ls 2 [(0, .long zA)] := hl
  refine lv_lload_n hx hb dX5_isSize_0 rfl (lv_at hl 0 rfl) ?_
  refine lv_lconst (v := 1) hx hb dX5_isSize_1 (by decide) ?_
  refine bm_lc_lt (x := zA) (y := 1) (tgt := 18) hx hb dX5_isSize_2 dX5_isSize_3 (by decide) (fun c_1 => ?_) (fun c_1 => ?_)
  · refine lv_iconst (v := bm_b false) hx hb dX5_isSize_18 (by decide) ?_
    exact bm_zretR (v := false) hx hb hr (by simp [q_len, c_1]) dX5_isSize_19 hlocks
  · refine lv_lload_n hx hb dX5_isSize_6 rfl (lv_at hl 0 rfl) ?_
    refine lv_ldc2 (v := 65536) hx hb hown (hts (.constantLong RX5 69 65536) (List.mem_cons_of_mem _ clX5_69)) dX5_isSize_7 ?_
    refine bm_lc_gt (x := zA) (y := 65536) (tgt := 18) hx hb dX5_isSize_10 dX5_isSize_11 (by decide) (fun c_2 => ?_) (fun c_2 => ?_)
    · refine lv_iconst (v := bm_b false) hx hb dX5_isSize_18 (by decide) ?_
      exact bm_zretR (v := false) hx hb hr (by simp [q_len, c_1, c_2]) dX5_isSize_19 hlocks
    · refine lv_iconst (v := bm_b true) hx hb dX5_isSize_14 (by decide) ?_
      refine lv_goto (tgt := 19) hx hb dX5_isSize_15 (by decide) ?_
      exact bm_zretR (v := true) hx hb hr (by simp [q_len, c_1, c_2]) dX5_isSize_19 hlocks

set_option maxHeartbeats 4000000 in
set_option maxRecDepth 100000 in
theorem Y_part1 {l : Launch} {D : va_G} {ad : Nat → Nat} {cJ cI cZ : ClassId} {bm : gBM} {pa : gPA} {p0 p1 p2 : gPL} {li : gLI} {wi : gWI} {mt : Nat} {ms : gMS} {ma : gMA} {mp : gMP} {mk : gMK} {mn : gMN} {ou : Nat → Int64} {zA zB : Int64} {zC : Nat} (h1 : q_len zA = true) (h2 : q_len zB = true) (h3 : zC < 2) (hm : ms.2.2.1 < 40) : bm_Wr l yX5_part wsX5_part ({ frames := 1, cells := 0, slots := 0, locals := 21 }) D vwCl [(cJ, .long), (cI, .int), (cZ, .boolean)] (WW ad cJ cI cZ bm pa p0 p1 p2 li wi mt ms ma mp mk mn ou) [.ref (ad 42), .long zA, .long zB, .int (nI zC)] (WW ad cJ cI cZ bm pa p0 p1 p2 li wi (0) (ms.1, ms.2.1, ms.2.2.1 + 1, ms.2.2.2.1, ms.2.2.2.2.1, ms.2.2.2.2.2.1, ms.2.2.2.2.2.2.1, ms.2.2.2.2.2.2.2) (va_up ma.1 ms.2.2.1 zA, va_up ma.2.1 ms.2.2.1 zB, va_up ma.2.2.1 ms.2.2.1 zC, ma.2.2.2.1, ma.2.2.2.2.1, va_up ma.2.2.2.2.2.1 ms.2.2.1 ms.2.2.1, ma.2.2.2.2.2.2) mp mk mn ou) (some (.int (nI ((ms.2.2.1 + 1) - 1)))) := by
  intro sz
  refine Met.ofW (cc := cX5_part) (maxL := 6) (ret := (some .int)) (by decide) rfl ?_
  intro p e s m args below meth c s₁ B hml hv
  obtain ⟨ha, hsz, hP, hK, hD0⟩ := hv
  have hx := B.exec
  have hb := B.bytes
  have hr := B.returns
  have hts := atoms_spec (ws := wsX5_part) B.pre
  have hown : s.vm.findClass RX5 = some m.cls := findClass_of_methodNamed B.named
  have hlocks := B.notSynchronized
  subst hsz
  have hD := hD0.self (sz := s.heap.size)
  generalize hAe : va_A (WW ad cJ cI cZ bm pa p0 p1 p2 li wi mt ms ma mp mk mn ou) s.heap.size = A at hD ⊢
  have hA : ∀ q : Nat, s.heap.size ≤ q → A q := fun q h => by rw [← hAe]; exact Or.inr h
  have hS : va_S A s.heap s.heap [] := va_S.rf
  have hl := lv_entry ([.ref (ad 42), .long zA, .long zB, .int (nI zC)]) (n := 6) (Nat.le_of_ble_eq_true rfl)
  refine W.eq (g2 := entryFrame m ([.ref (ad 42), .long zA, .long zB, .int (nI zC)] : List Value).toArray 6) (by rw [ha]) ?_
  rw [lg_entry_eq]
  generalize (lg_sl ([.ref (ad 42), .long zA, .long zB, .int (nI zC)]) ++ List.replicate (6 - (lg_sl ([.ref (ad 42), .long zA, .long zB, .int (nI zC)])).length) Slot.unset).toArray = ls at hl ⊢
  have hl : lv_has ls 6 [(0, .ref (ad 42)), (1, .long zA), (3, .long zB), (5, .int (nI zC))] := hl
  refine lv_aload_n hx hb dX5_part_0 rfl (lv_at hl 0 rfl) ?_
  refine lv_lload_n hx hb dX5_part_1 rfl (lv_at hl 1 rfl) ?_
  refine bm_rcallS (As := [.long zA]) (rest := [.ref (ad 42)]) ⟨hx, hb, hml, hown, hts⟩ (m_size) (cwS 1 hts gsX5_88 rfl rfl rfl hsX5_isSize ⟨Nat.le_of_ble_eq_true rfl, Nat.le_of_ble_eq_true rfl⟩) hK hP rfl hl.1 rfl (Nat.le_of_ble_eq_true rfl) dX5_part_2 ⟨Nat.le_of_ble_eq_true rfl, Nat.le_of_ble_eq_true rfl⟩ ?_
  refine bm_zb_eq (x := (q_len zA)) (tgt := 30) hx hb dX5_part_5 (by decide) (fun c_1 => ?_) (fun c_1 => ?_)
  · exact absurd (h1.symm.trans c_1) (by decide)
  · refine lv_lload_n hx hb dX5_part_8 rfl (lv_at hl 2 rfl) ?_
    refine bm_rcallS (As := [.long zB]) (rest := [.ref (ad 42)]) ⟨hx, hb, hml, hown, hts⟩ (m_size) (cwS 1 hts gsX5_88 rfl rfl rfl hsX5_isSize ⟨Nat.le_of_ble_eq_true rfl, Nat.le_of_ble_eq_true rfl⟩) hK hP rfl hl.1 rfl (Nat.le_of_ble_eq_true rfl) dX5_part_9 ⟨Nat.le_of_ble_eq_true rfl, Nat.le_of_ble_eq_true rfl⟩ ?_
    refine bm_zb_eq (x := (q_len zB)) (tgt := 30) hx hb dX5_part_12 (by decide) (fun c_2 => ?_) (fun c_2 => ?_)
    · exact absurd (h2.symm.trans c_2) (by decide)
    · refine lv_iload hx hb dX5_part_15 (lv_at hl 3 rfl) ?_
      refine bm_nz_eq (x := zC) (tgt := 26) hx hb (by omega) dX5_part_17 (by decide) (fun c_3 => ?_) (fun c_3 => ?_)
      · refine lv_iconst (v := nI 0) hx hb dX5_part_26 (by decide) ?_
        refine lv_goto (tgt := 31) hx hb dX5_part_27 (by decide) ?_
        refine va_put (D := D) (ci := 5) (v := .int (nI 0)) (ty := .int) (C := RX5) (T := TX5) (N := 28) hx hb hts (inT inX5) tyX5 tyX5_ok nmX5 hown hK hP hD hS 42 ww_42 rfl 0 (by decide) (hts (.fieldLink RX5 81 "BoardMovesModel" "thrown" "I") (List.mem_cons_of_mem _ flX5_81)) (fun _ h9 => h9) rfl (by decide +kernel) rfl rfl (Nat.le_of_ble_eq_true rfl) dX5_part_31 (fun H locs hP hD hS => ?_)
        have hP : va_P D vwCl (WW ad cJ cI cZ bm pa p0 p1 p2 li wi (0) ms ma mp mk mn ou) H := hP
        have hD : va_D A (WW ad cJ cI cZ bm pa p0 p1 p2 li wi (0) ms ma mp mk mn ou) := hD
        refine lv_aload_n hx hb dX5_part_34 rfl (lv_at hl 0 rfl) ?_
        refine va_get (D := D) (ci := 5) (v := .int (nI 0)) (C := RX5) (T := TX5) (N := 28) hx hb hts (inT inX5) hown hK hP 42 ww_42 rfl 0 (by decide) (hts (.fieldLink RX5 81 "BoardMovesModel" "thrown" "I") (List.mem_cons_of_mem _ flX5_81)) (fun _ h9 => h9) rfl dX5_part_35 ?_
        refine bm_nz_eq (x := 0) (tgt := 43) hx hb (by decide) dX5_part_38 (by decide) (fun c_4 => ?_) (fun c_4 => ?_)
        · refine lv_aload_n hx hb dX5_part_43 rfl (lv_at hl 0 rfl) ?_
          refine va_get (D := D) (ci := 5) (v := .int (nI ms.2.2.1)) (C := RX5) (T := TX5) (N := 28) hx hb hts (inT inX5) hown hK hP 42 ww_42 rfl 3 (by decide) (hts (.fieldLink RX5 85 "BoardMovesModel" "parts" "I") (List.mem_cons_of_mem _ flX5_85)) (fun _ h9 => h9) rfl dX5_part_44 ?_
          refine lv_bipush (v := nI 40) hx hb dX5_part_47 (by decide) ?_
          refine bm_ni_ne (x := ms.2.2.1) (y := 40) (tgt := 54) hx hb (by omega) (by omega) dX5_part_49 (by decide) (fun c_5 => ?_) (fun c_5 => ?_)
          · refine lv_aload_n hx hb dX5_part_54 rfl (lv_at hl 0 rfl) ?_
            refine va_get (D := D) (ci := 5) (v := .ref (ad 43)) (C := RX5) (T := TX5) (N := 28) hx hb hts (inT inX5) hown hK hP 42 ww_42 rfl 4 (by decide) (hts (.fieldLink RX5 7 "BoardMovesModel" "wide" "[J") (List.mem_cons_of_mem _ flX5_7)) (fun _ h9 => h9) rfl dX5_part_55 ?_
            refine lv_aload_n hx hb dX5_part_58 rfl (lv_at hl 0 rfl) ?_
            refine va_get (D := D) (ci := 5) (v := .int (nI ms.2.2.1)) (C := RX5) (T := TX5) (N := 28) hx hb hts (inT inX5) hown hK hP 42 ww_42 rfl 3 (by decide) (hts (.fieldLink RX5 85 "BoardMovesModel" "parts" "I") (List.mem_cons_of_mem _ flX5_85)) (fun _ h9 => h9) rfl dX5_part_59 ?_
            refine lv_lload_n hx hb dX5_part_62 rfl (lv_at hl 1 rfl) ?_
            refine bm_last (f := ma.1) hx hb hK hP hD hS 43 0 ww_43 rfl (j := ms.2.2.1) (x := zA) (by omega) (by decide) dX5_part_63 (fun H locs hP hD hS => ?_)
            have hP : va_P D vwCl (WW ad cJ cI cZ bm pa p0 p1 p2 li wi (0) ms (va_up ma.1 ms.2.2.1 zA, ma.2.1, ma.2.2.1, ma.2.2.2.1, ma.2.2.2.2.1, ma.2.2.2.2.2.1, ma.2.2.2.2.2.2) mp mk mn ou) H := hP
            have hD : va_D A (WW ad cJ cI cZ bm pa p0 p1 p2 li wi (0) ms (va_up ma.1 ms.2.2.1 zA, ma.2.1, ma.2.2.1, ma.2.2.2.1, ma.2.2.2.2.1, ma.2.2.2.2.2.1, ma.2.2.2.2.2.2) mp mk mn ou) := hD
            refine lv_aload_n hx hb dX5_part_64 rfl (lv_at hl 0 rfl) ?_
            refine va_get (D := D) (ci := 5) (v := .ref (ad 44)) (C := RX5) (T := TX5) (N := 28) hx hb hts (inT inX5) hown hK hP 42 ww_42 rfl 5 (by decide) (hts (.fieldLink RX5 13 "BoardMovesModel" "high" "[J") (List.mem_cons_of_mem _ flX5_13)) (fun _ h9 => h9) rfl dX5_part_65 ?_
            refine lv_aload_n hx hb dX5_part_68 rfl (lv_at hl 0 rfl) ?_
            refine va_get (D := D) (ci := 5) (v := .int (nI ms.2.2.1)) (C := RX5) (T := TX5) (N := 28) hx hb hts (inT inX5) hown hK hP 42 ww_42 rfl 3 (by decide) (hts (.fieldLink RX5 85 "BoardMovesModel" "parts" "I") (List.mem_cons_of_mem _ flX5_85)) (fun _ h9 => h9) rfl dX5_part_69 ?_
            refine lv_lload_n hx hb dX5_part_72 rfl (lv_at hl 2 rfl) ?_
            refine bm_last (f := ma.2.1) hx hb hK hP hD hS 44 0 ww_44 rfl (j := ms.2.2.1) (x := zB) (by omega) (by decide) dX5_part_73 (fun H locs hP hD hS => ?_)
            have hP : va_P D vwCl (WW ad cJ cI cZ bm pa p0 p1 p2 li wi (0) ms (va_up ma.1 ms.2.2.1 zA, va_up ma.2.1 ms.2.2.1 zB, ma.2.2.1, ma.2.2.2.1, ma.2.2.2.2.1, ma.2.2.2.2.2.1, ma.2.2.2.2.2.2) mp mk mn ou) H := hP
            have hD : va_D A (WW ad cJ cI cZ bm pa p0 p1 p2 li wi (0) ms (va_up ma.1 ms.2.2.1 zA, va_up ma.2.1 ms.2.2.1 zB, ma.2.2.1, ma.2.2.2.1, ma.2.2.2.2.1, ma.2.2.2.2.2.1, ma.2.2.2.2.2.2) mp mk mn ou) := hD
            refine lv_aload_n hx hb dX5_part_74 rfl (lv_at hl 0 rfl) ?_
            refine va_get (D := D) (ci := 5) (v := .ref (ad 45)) (C := RX5) (T := TX5) (N := 28) hx hb hts (inT inX5) hown hK hP 42 ww_42 rfl 6 (by decide) (hts (.fieldLink RX5 16 "BoardMovesModel" "sides" "[I") (List.mem_cons_of_mem _ flX5_16)) (fun _ h9 => h9) rfl dX5_part_75 ?_
            refine lv_aload_n hx hb dX5_part_78 rfl (lv_at hl 0 rfl) ?_
            refine va_get (D := D) (ci := 5) (v := .int (nI ms.2.2.1)) (C := RX5) (T := TX5) (N := 28) hx hb hts (inT inX5) hown hK hP 42 ww_42 rfl 3 (by decide) (hts (.fieldLink RX5 85 "BoardMovesModel" "parts" "I") (List.mem_cons_of_mem _ flX5_85)) (fun _ h9 => h9) rfl dX5_part_79 ?_
            refine lv_iload hx hb dX5_part_82 (lv_at hl 3 rfl) ?_
            refine bm_nast (f := ma.2.2.1) hx hb hK hP hD hS 45 1 ww_45 rfl (j := ms.2.2.1) (x := zC) (by omega) (by decide) dX5_part_84 (fun H locs hP hD hS => ?_)
            have hP : va_P D vwCl (WW ad cJ cI cZ bm pa p0 p1 p2 li wi (0) ms (va_up ma.1 ms.2.2.1 zA, va_up ma.2.1 ms.2.2.1 zB, va_up ma.2.2.1 ms.2.2.1 zC, ma.2.2.2.1, ma.2.2.2.2.1, ma.2.2.2.2.2.1, ma.2.2.2.2.2.2) mp mk mn ou) H := hP
            have hD : va_D A (WW ad cJ cI cZ bm pa p0 p1 p2 li wi (0) ms (va_up ma.1 ms.2.2.1 zA, va_up ma.2.1 ms.2.2.1 zB, va_up ma.2.2.1 ms.2.2.1 zC, ma.2.2.2.1, ma.2.2.2.2.1, ma.2.2.2.2.2.1, ma.2.2.2.2.2.2) mp mk mn ou) := hD
            refine lv_aload_n hx hb dX5_part_85 rfl (lv_at hl 0 rfl) ?_
            refine va_get (D := D) (ci := 5) (v := .ref (ad 48)) (C := RX5) (T := TX5) (N := 28) hx hb hts (inT inX5) hown hK hP 42 ww_42 rfl 9 (by decide) (hts (.fieldLink RX5 27 "BoardMovesModel" "groups" "[I") (List.mem_cons_of_mem _ flX5_27)) (fun _ h9 => h9) rfl dX5_part_86 ?_
            refine lv_aload_n hx hb dX5_part_89 rfl (lv_at hl 0 rfl) ?_
            refine va_get (D := D) (ci := 5) (v := .int (nI ms.2.2.1)) (C := RX5) (T := TX5) (N := 28) hx hb hts (inT inX5) hown hK hP 42 ww_42 rfl 3 (by decide) (hts (.fieldLink RX5 85 "BoardMovesModel" "parts" "I") (List.mem_cons_of_mem _ flX5_85)) (fun _ h9 => h9) rfl dX5_part_90 ?_
            refine lv_aload_n hx hb dX5_part_93 rfl (lv_at hl 0 rfl) ?_
            refine va_get (D := D) (ci := 5) (v := .int (nI ms.2.2.1)) (C := RX5) (T := TX5) (N := 28) hx hb hts (inT inX5) hown hK hP 42 ww_42 rfl 3 (by decide) (hts (.fieldLink RX5 85 "BoardMovesModel" "parts" "I") (List.mem_cons_of_mem _ flX5_85)) (fun _ h9 => h9) rfl dX5_part_94 ?_
            refine bm_nast (f := ma.2.2.2.2.2.1) hx hb hK hP hD hS 48 1 ww_48 rfl (j := ms.2.2.1) (x := ms.2.2.1) (by omega) (by decide) dX5_part_97 (fun H locs hP hD hS => ?_)
            have hP : va_P D vwCl (WW ad cJ cI cZ bm pa p0 p1 p2 li wi (0) ms (va_up ma.1 ms.2.2.1 zA, va_up ma.2.1 ms.2.2.1 zB, va_up ma.2.2.1 ms.2.2.1 zC, ma.2.2.2.1, ma.2.2.2.2.1, va_up ma.2.2.2.2.2.1 ms.2.2.1 ms.2.2.1, ma.2.2.2.2.2.2) mp mk mn ou) H := hP
            have hD : va_D A (WW ad cJ cI cZ bm pa p0 p1 p2 li wi (0) ms (va_up ma.1 ms.2.2.1 zA, va_up ma.2.1 ms.2.2.1 zB, va_up ma.2.2.1 ms.2.2.1 zC, ma.2.2.2.1, ma.2.2.2.2.1, va_up ma.2.2.2.2.2.1 ms.2.2.1 ms.2.2.1, ma.2.2.2.2.2.2) mp mk mn ou) := hD
            refine lv_aload_n hx hb dX5_part_98 rfl (lv_at hl 0 rfl) ?_
            refine lv_dup hx hb dX5_part_99 rfl ?_
            refine va_get (D := D) (ci := 5) (v := .int (nI ms.2.2.1)) (C := RX5) (T := TX5) (N := 28) hx hb hts (inT inX5) hown hK hP 42 ww_42 rfl 3 (by decide) (hts (.fieldLink RX5 85 "BoardMovesModel" "parts" "I") (List.mem_cons_of_mem _ flX5_85)) (fun _ h9 => h9) rfl dX5_part_100 ?_
            refine lv_iconst (v := nI 1) hx hb dX5_part_103 (by decide) ?_
            refine bm_nadd hx hb dX5_part_104 ?_
            refine va_put (D := D) (ci := 5) (v := .int (nI (ms.2.2.1 + 1))) (ty := .int) (C := RX5) (T := TX5) (N := 28) hx hb hts (inT inX5) tyX5 tyX5_ok nmX5 hown hK hP hD hS 42 ww_42 rfl 3 (by decide) (hts (.fieldLink RX5 85 "BoardMovesModel" "parts" "I") (List.mem_cons_of_mem _ flX5_85)) (fun _ h9 => h9) rfl (by decide +kernel) rfl rfl (Nat.le_of_ble_eq_true rfl) dX5_part_105 (fun H locs hP hD hS => ?_)
            have hP : va_P D vwCl (WW ad cJ cI cZ bm pa p0 p1 p2 li wi (0) (ms.1, ms.2.1, ms.2.2.1 + 1, ms.2.2.2.1, ms.2.2.2.2.1, ms.2.2.2.2.2.1, ms.2.2.2.2.2.2.1, ms.2.2.2.2.2.2.2) (va_up ma.1 ms.2.2.1 zA, va_up ma.2.1 ms.2.2.1 zB, va_up ma.2.2.1 ms.2.2.1 zC, ma.2.2.2.1, ma.2.2.2.2.1, va_up ma.2.2.2.2.2.1 ms.2.2.1 ms.2.2.1, ma.2.2.2.2.2.2) mp mk mn ou) H := hP
            have hD : va_D A (WW ad cJ cI cZ bm pa p0 p1 p2 li wi (0) (ms.1, ms.2.1, ms.2.2.1 + 1, ms.2.2.2.1, ms.2.2.2.2.1, ms.2.2.2.2.2.1, ms.2.2.2.2.2.2.1, ms.2.2.2.2.2.2.2) (va_up ma.1 ms.2.2.1 zA, va_up ma.2.1 ms.2.2.1 zB, va_up ma.2.2.1 ms.2.2.1 zC, ma.2.2.2.1, ma.2.2.2.2.1, va_up ma.2.2.2.2.2.1 ms.2.2.1 ms.2.2.1, ma.2.2.2.2.2.2) mp mk mn ou) := hD
            refine lv_aload_n hx hb dX5_part_108 rfl (lv_at hl 0 rfl) ?_
            refine va_get (D := D) (ci := 5) (v := .int (nI (ms.2.2.1 + 1))) (C := RX5) (T := TX5) (N := 28) hx hb hts (inT inX5) hown hK hP 42 ww_42 rfl 3 (by decide) (hts (.fieldLink RX5 85 "BoardMovesModel" "parts" "I") (List.mem_cons_of_mem _ flX5_85)) (fun _ h9 => h9) rfl dX5_part_109 ?_
            refine lv_iconst (v := nI 1) hx hb dX5_part_112 (by decide) ?_
            refine bm_nsub hx hb (by omega) dX5_part_113 ?_
            exact bm_iretW (v := (nI ((ms.2.2.1 + 1) - 1))) hx hb hr hP hD hK hS ⟨rfl, rfl⟩ dX5_part_114 hlocks
          · exfalso; omega
        · exact absurd c_4 (by decide)
      · refine lv_iload hx hb dX5_part_20 (lv_at hl 3 rfl) ?_
        refine lv_iconst (v := nI 1) hx hb dX5_part_22 (by decide) ?_
        refine bm_ni_ne (x := zC) (y := 1) (tgt := 30) hx hb (by omega) (by omega) dX5_part_23 (by decide) (fun c_6 => ?_) (fun c_6 => ?_)
        · exact absurd (show zC = 1 by omega) c_6
        · refine lv_iconst (v := nI 0) hx hb dX5_part_26 (by decide) ?_
          refine lv_goto (tgt := 31) hx hb dX5_part_27 (by decide) ?_
          refine va_put (D := D) (ci := 5) (v := .int (nI 0)) (ty := .int) (C := RX5) (T := TX5) (N := 28) hx hb hts (inT inX5) tyX5 tyX5_ok nmX5 hown hK hP hD hS 42 ww_42 rfl 0 (by decide) (hts (.fieldLink RX5 81 "BoardMovesModel" "thrown" "I") (List.mem_cons_of_mem _ flX5_81)) (fun _ h9 => h9) rfl (by decide +kernel) rfl rfl (Nat.le_of_ble_eq_true rfl) dX5_part_31 (fun H locs hP hD hS => ?_)
          have hP : va_P D vwCl (WW ad cJ cI cZ bm pa p0 p1 p2 li wi (0) ms ma mp mk mn ou) H := hP
          have hD : va_D A (WW ad cJ cI cZ bm pa p0 p1 p2 li wi (0) ms ma mp mk mn ou) := hD
          refine lv_aload_n hx hb dX5_part_34 rfl (lv_at hl 0 rfl) ?_
          refine va_get (D := D) (ci := 5) (v := .int (nI 0)) (C := RX5) (T := TX5) (N := 28) hx hb hts (inT inX5) hown hK hP 42 ww_42 rfl 0 (by decide) (hts (.fieldLink RX5 81 "BoardMovesModel" "thrown" "I") (List.mem_cons_of_mem _ flX5_81)) (fun _ h9 => h9) rfl dX5_part_35 ?_
          refine bm_nz_eq (x := 0) (tgt := 43) hx hb (by decide) dX5_part_38 (by decide) (fun c_7 => ?_) (fun c_7 => ?_)
          · refine lv_aload_n hx hb dX5_part_43 rfl (lv_at hl 0 rfl) ?_
            refine va_get (D := D) (ci := 5) (v := .int (nI ms.2.2.1)) (C := RX5) (T := TX5) (N := 28) hx hb hts (inT inX5) hown hK hP 42 ww_42 rfl 3 (by decide) (hts (.fieldLink RX5 85 "BoardMovesModel" "parts" "I") (List.mem_cons_of_mem _ flX5_85)) (fun _ h9 => h9) rfl dX5_part_44 ?_
            refine lv_bipush (v := nI 40) hx hb dX5_part_47 (by decide) ?_
            refine bm_ni_ne (x := ms.2.2.1) (y := 40) (tgt := 54) hx hb (by omega) (by omega) dX5_part_49 (by decide) (fun c_8 => ?_) (fun c_8 => ?_)
            · refine lv_aload_n hx hb dX5_part_54 rfl (lv_at hl 0 rfl) ?_
              refine va_get (D := D) (ci := 5) (v := .ref (ad 43)) (C := RX5) (T := TX5) (N := 28) hx hb hts (inT inX5) hown hK hP 42 ww_42 rfl 4 (by decide) (hts (.fieldLink RX5 7 "BoardMovesModel" "wide" "[J") (List.mem_cons_of_mem _ flX5_7)) (fun _ h9 => h9) rfl dX5_part_55 ?_
              refine lv_aload_n hx hb dX5_part_58 rfl (lv_at hl 0 rfl) ?_
              refine va_get (D := D) (ci := 5) (v := .int (nI ms.2.2.1)) (C := RX5) (T := TX5) (N := 28) hx hb hts (inT inX5) hown hK hP 42 ww_42 rfl 3 (by decide) (hts (.fieldLink RX5 85 "BoardMovesModel" "parts" "I") (List.mem_cons_of_mem _ flX5_85)) (fun _ h9 => h9) rfl dX5_part_59 ?_
              refine lv_lload_n hx hb dX5_part_62 rfl (lv_at hl 1 rfl) ?_
              refine bm_last (f := ma.1) hx hb hK hP hD hS 43 0 ww_43 rfl (j := ms.2.2.1) (x := zA) (by omega) (by decide) dX5_part_63 (fun H locs hP hD hS => ?_)
              have hP : va_P D vwCl (WW ad cJ cI cZ bm pa p0 p1 p2 li wi (0) ms (va_up ma.1 ms.2.2.1 zA, ma.2.1, ma.2.2.1, ma.2.2.2.1, ma.2.2.2.2.1, ma.2.2.2.2.2.1, ma.2.2.2.2.2.2) mp mk mn ou) H := hP
              have hD : va_D A (WW ad cJ cI cZ bm pa p0 p1 p2 li wi (0) ms (va_up ma.1 ms.2.2.1 zA, ma.2.1, ma.2.2.1, ma.2.2.2.1, ma.2.2.2.2.1, ma.2.2.2.2.2.1, ma.2.2.2.2.2.2) mp mk mn ou) := hD
              refine lv_aload_n hx hb dX5_part_64 rfl (lv_at hl 0 rfl) ?_
              refine va_get (D := D) (ci := 5) (v := .ref (ad 44)) (C := RX5) (T := TX5) (N := 28) hx hb hts (inT inX5) hown hK hP 42 ww_42 rfl 5 (by decide) (hts (.fieldLink RX5 13 "BoardMovesModel" "high" "[J") (List.mem_cons_of_mem _ flX5_13)) (fun _ h9 => h9) rfl dX5_part_65 ?_
              refine lv_aload_n hx hb dX5_part_68 rfl (lv_at hl 0 rfl) ?_
              refine va_get (D := D) (ci := 5) (v := .int (nI ms.2.2.1)) (C := RX5) (T := TX5) (N := 28) hx hb hts (inT inX5) hown hK hP 42 ww_42 rfl 3 (by decide) (hts (.fieldLink RX5 85 "BoardMovesModel" "parts" "I") (List.mem_cons_of_mem _ flX5_85)) (fun _ h9 => h9) rfl dX5_part_69 ?_
              refine lv_lload_n hx hb dX5_part_72 rfl (lv_at hl 2 rfl) ?_
              refine bm_last (f := ma.2.1) hx hb hK hP hD hS 44 0 ww_44 rfl (j := ms.2.2.1) (x := zB) (by omega) (by decide) dX5_part_73 (fun H locs hP hD hS => ?_)
              have hP : va_P D vwCl (WW ad cJ cI cZ bm pa p0 p1 p2 li wi (0) ms (va_up ma.1 ms.2.2.1 zA, va_up ma.2.1 ms.2.2.1 zB, ma.2.2.1, ma.2.2.2.1, ma.2.2.2.2.1, ma.2.2.2.2.2.1, ma.2.2.2.2.2.2) mp mk mn ou) H := hP
              have hD : va_D A (WW ad cJ cI cZ bm pa p0 p1 p2 li wi (0) ms (va_up ma.1 ms.2.2.1 zA, va_up ma.2.1 ms.2.2.1 zB, ma.2.2.1, ma.2.2.2.1, ma.2.2.2.2.1, ma.2.2.2.2.2.1, ma.2.2.2.2.2.2) mp mk mn ou) := hD
              refine lv_aload_n hx hb dX5_part_74 rfl (lv_at hl 0 rfl) ?_
              refine va_get (D := D) (ci := 5) (v := .ref (ad 45)) (C := RX5) (T := TX5) (N := 28) hx hb hts (inT inX5) hown hK hP 42 ww_42 rfl 6 (by decide) (hts (.fieldLink RX5 16 "BoardMovesModel" "sides" "[I") (List.mem_cons_of_mem _ flX5_16)) (fun _ h9 => h9) rfl dX5_part_75 ?_
              refine lv_aload_n hx hb dX5_part_78 rfl (lv_at hl 0 rfl) ?_
              refine va_get (D := D) (ci := 5) (v := .int (nI ms.2.2.1)) (C := RX5) (T := TX5) (N := 28) hx hb hts (inT inX5) hown hK hP 42 ww_42 rfl 3 (by decide) (hts (.fieldLink RX5 85 "BoardMovesModel" "parts" "I") (List.mem_cons_of_mem _ flX5_85)) (fun _ h9 => h9) rfl dX5_part_79 ?_
              refine lv_iload hx hb dX5_part_82 (lv_at hl 3 rfl) ?_
              refine bm_nast (f := ma.2.2.1) hx hb hK hP hD hS 45 1 ww_45 rfl (j := ms.2.2.1) (x := zC) (by omega) (by decide) dX5_part_84 (fun H locs hP hD hS => ?_)
              have hP : va_P D vwCl (WW ad cJ cI cZ bm pa p0 p1 p2 li wi (0) ms (va_up ma.1 ms.2.2.1 zA, va_up ma.2.1 ms.2.2.1 zB, va_up ma.2.2.1 ms.2.2.1 zC, ma.2.2.2.1, ma.2.2.2.2.1, ma.2.2.2.2.2.1, ma.2.2.2.2.2.2) mp mk mn ou) H := hP
              have hD : va_D A (WW ad cJ cI cZ bm pa p0 p1 p2 li wi (0) ms (va_up ma.1 ms.2.2.1 zA, va_up ma.2.1 ms.2.2.1 zB, va_up ma.2.2.1 ms.2.2.1 zC, ma.2.2.2.1, ma.2.2.2.2.1, ma.2.2.2.2.2.1, ma.2.2.2.2.2.2) mp mk mn ou) := hD
              refine lv_aload_n hx hb dX5_part_85 rfl (lv_at hl 0 rfl) ?_
              refine va_get (D := D) (ci := 5) (v := .ref (ad 48)) (C := RX5) (T := TX5) (N := 28) hx hb hts (inT inX5) hown hK hP 42 ww_42 rfl 9 (by decide) (hts (.fieldLink RX5 27 "BoardMovesModel" "groups" "[I") (List.mem_cons_of_mem _ flX5_27)) (fun _ h9 => h9) rfl dX5_part_86 ?_
              refine lv_aload_n hx hb dX5_part_89 rfl (lv_at hl 0 rfl) ?_
              refine va_get (D := D) (ci := 5) (v := .int (nI ms.2.2.1)) (C := RX5) (T := TX5) (N := 28) hx hb hts (inT inX5) hown hK hP 42 ww_42 rfl 3 (by decide) (hts (.fieldLink RX5 85 "BoardMovesModel" "parts" "I") (List.mem_cons_of_mem _ flX5_85)) (fun _ h9 => h9) rfl dX5_part_90 ?_
              refine lv_aload_n hx hb dX5_part_93 rfl (lv_at hl 0 rfl) ?_
              refine va_get (D := D) (ci := 5) (v := .int (nI ms.2.2.1)) (C := RX5) (T := TX5) (N := 28) hx hb hts (inT inX5) hown hK hP 42 ww_42 rfl 3 (by decide) (hts (.fieldLink RX5 85 "BoardMovesModel" "parts" "I") (List.mem_cons_of_mem _ flX5_85)) (fun _ h9 => h9) rfl dX5_part_94 ?_
              refine bm_nast (f := ma.2.2.2.2.2.1) hx hb hK hP hD hS 48 1 ww_48 rfl (j := ms.2.2.1) (x := ms.2.2.1) (by omega) (by decide) dX5_part_97 (fun H locs hP hD hS => ?_)
              have hP : va_P D vwCl (WW ad cJ cI cZ bm pa p0 p1 p2 li wi (0) ms (va_up ma.1 ms.2.2.1 zA, va_up ma.2.1 ms.2.2.1 zB, va_up ma.2.2.1 ms.2.2.1 zC, ma.2.2.2.1, ma.2.2.2.2.1, va_up ma.2.2.2.2.2.1 ms.2.2.1 ms.2.2.1, ma.2.2.2.2.2.2) mp mk mn ou) H := hP
              have hD : va_D A (WW ad cJ cI cZ bm pa p0 p1 p2 li wi (0) ms (va_up ma.1 ms.2.2.1 zA, va_up ma.2.1 ms.2.2.1 zB, va_up ma.2.2.1 ms.2.2.1 zC, ma.2.2.2.1, ma.2.2.2.2.1, va_up ma.2.2.2.2.2.1 ms.2.2.1 ms.2.2.1, ma.2.2.2.2.2.2) mp mk mn ou) := hD
              refine lv_aload_n hx hb dX5_part_98 rfl (lv_at hl 0 rfl) ?_
              refine lv_dup hx hb dX5_part_99 rfl ?_
              refine va_get (D := D) (ci := 5) (v := .int (nI ms.2.2.1)) (C := RX5) (T := TX5) (N := 28) hx hb hts (inT inX5) hown hK hP 42 ww_42 rfl 3 (by decide) (hts (.fieldLink RX5 85 "BoardMovesModel" "parts" "I") (List.mem_cons_of_mem _ flX5_85)) (fun _ h9 => h9) rfl dX5_part_100 ?_
              refine lv_iconst (v := nI 1) hx hb dX5_part_103 (by decide) ?_
              refine bm_nadd hx hb dX5_part_104 ?_
              refine va_put (D := D) (ci := 5) (v := .int (nI (ms.2.2.1 + 1))) (ty := .int) (C := RX5) (T := TX5) (N := 28) hx hb hts (inT inX5) tyX5 tyX5_ok nmX5 hown hK hP hD hS 42 ww_42 rfl 3 (by decide) (hts (.fieldLink RX5 85 "BoardMovesModel" "parts" "I") (List.mem_cons_of_mem _ flX5_85)) (fun _ h9 => h9) rfl (by decide +kernel) rfl rfl (Nat.le_of_ble_eq_true rfl) dX5_part_105 (fun H locs hP hD hS => ?_)
              have hP : va_P D vwCl (WW ad cJ cI cZ bm pa p0 p1 p2 li wi (0) (ms.1, ms.2.1, ms.2.2.1 + 1, ms.2.2.2.1, ms.2.2.2.2.1, ms.2.2.2.2.2.1, ms.2.2.2.2.2.2.1, ms.2.2.2.2.2.2.2) (va_up ma.1 ms.2.2.1 zA, va_up ma.2.1 ms.2.2.1 zB, va_up ma.2.2.1 ms.2.2.1 zC, ma.2.2.2.1, ma.2.2.2.2.1, va_up ma.2.2.2.2.2.1 ms.2.2.1 ms.2.2.1, ma.2.2.2.2.2.2) mp mk mn ou) H := hP
              have hD : va_D A (WW ad cJ cI cZ bm pa p0 p1 p2 li wi (0) (ms.1, ms.2.1, ms.2.2.1 + 1, ms.2.2.2.1, ms.2.2.2.2.1, ms.2.2.2.2.2.1, ms.2.2.2.2.2.2.1, ms.2.2.2.2.2.2.2) (va_up ma.1 ms.2.2.1 zA, va_up ma.2.1 ms.2.2.1 zB, va_up ma.2.2.1 ms.2.2.1 zC, ma.2.2.2.1, ma.2.2.2.2.1, va_up ma.2.2.2.2.2.1 ms.2.2.1 ms.2.2.1, ma.2.2.2.2.2.2) mp mk mn ou) := hD
              refine lv_aload_n hx hb dX5_part_108 rfl (lv_at hl 0 rfl) ?_
              refine va_get (D := D) (ci := 5) (v := .int (nI (ms.2.2.1 + 1))) (C := RX5) (T := TX5) (N := 28) hx hb hts (inT inX5) hown hK hP 42 ww_42 rfl 3 (by decide) (hts (.fieldLink RX5 85 "BoardMovesModel" "parts" "I") (List.mem_cons_of_mem _ flX5_85)) (fun _ h9 => h9) rfl dX5_part_109 ?_
              refine lv_iconst (v := nI 1) hx hb dX5_part_112 (by decide) ?_
              refine bm_nsub hx hb (by omega) dX5_part_113 ?_
              exact bm_iretW (v := (nI ((ms.2.2.1 + 1) - 1))) hx hb hr hP hD hK hS ⟨rfl, rfl⟩ dX5_part_114 hlocks
            · exfalso; omega
          · exact absurd c_7 (by decide)

set_option maxHeartbeats 4000000 in
set_option maxRecDepth 100000 in
theorem Y_part2 {l : Launch} {D : va_G} {ad : Nat → Nat} {cJ cI cZ : ClassId} {bm : gBM} {pa : gPA} {p0 p1 p2 : gPL} {li : gLI} {wi : gWI} {mt : Nat} {ms : gMS} {ma : gMA} {mp : gMP} {mk : gMK} {mn : gMN} {ou : Nat → Int64} {zA zB : Int64} {zC : Nat} (h1 : q_len zA = true) (h2 : q_len zB = true) (h3 : zC < 2) (hm : ms.2.2.1 = 40) : bm_Wr l yX5_part wsX5_part ({ frames := 1, cells := 0, slots := 0, locals := 21 }) D vwCl [(cJ, .long), (cI, .int), (cZ, .boolean)] (WW ad cJ cI cZ bm pa p0 p1 p2 li wi mt ms ma mp mk mn ou) [.ref (ad 42), .long zA, .long zB, .int (nI zC)] (WW ad cJ cI cZ bm pa p0 p1 p2 li wi (0) ms ma mp mk mn ou) (some (.int (-1))) := by
  intro sz
  refine Met.ofW (cc := cX5_part) (maxL := 6) (ret := (some .int)) (by decide) rfl ?_
  intro p e s m args below meth c s₁ B hml hv
  obtain ⟨ha, hsz, hP, hK, hD0⟩ := hv
  have hx := B.exec
  have hb := B.bytes
  have hr := B.returns
  have hts := atoms_spec (ws := wsX5_part) B.pre
  have hown : s.vm.findClass RX5 = some m.cls := findClass_of_methodNamed B.named
  have hlocks := B.notSynchronized
  subst hsz
  have hD := hD0.self (sz := s.heap.size)
  generalize hAe : va_A (WW ad cJ cI cZ bm pa p0 p1 p2 li wi mt ms ma mp mk mn ou) s.heap.size = A at hD ⊢
  have hA : ∀ q : Nat, s.heap.size ≤ q → A q := fun q h => by rw [← hAe]; exact Or.inr h
  have hS : va_S A s.heap s.heap [] := va_S.rf
  have hl := lv_entry ([.ref (ad 42), .long zA, .long zB, .int (nI zC)]) (n := 6) (Nat.le_of_ble_eq_true rfl)
  refine W.eq (g2 := entryFrame m ([.ref (ad 42), .long zA, .long zB, .int (nI zC)] : List Value).toArray 6) (by rw [ha]) ?_
  rw [lg_entry_eq]
  generalize (lg_sl ([.ref (ad 42), .long zA, .long zB, .int (nI zC)]) ++ List.replicate (6 - (lg_sl ([.ref (ad 42), .long zA, .long zB, .int (nI zC)])).length) Slot.unset).toArray = ls at hl ⊢
  have hl : lv_has ls 6 [(0, .ref (ad 42)), (1, .long zA), (3, .long zB), (5, .int (nI zC))] := hl
  refine lv_aload_n hx hb dX5_part_0 rfl (lv_at hl 0 rfl) ?_
  refine lv_lload_n hx hb dX5_part_1 rfl (lv_at hl 1 rfl) ?_
  refine bm_rcallS (As := [.long zA]) (rest := [.ref (ad 42)]) ⟨hx, hb, hml, hown, hts⟩ (m_size) (cwS 1 hts gsX5_88 rfl rfl rfl hsX5_isSize ⟨Nat.le_of_ble_eq_true rfl, Nat.le_of_ble_eq_true rfl⟩) hK hP rfl hl.1 rfl (Nat.le_of_ble_eq_true rfl) dX5_part_2 ⟨Nat.le_of_ble_eq_true rfl, Nat.le_of_ble_eq_true rfl⟩ ?_
  refine bm_zb_eq (x := (q_len zA)) (tgt := 30) hx hb dX5_part_5 (by decide) (fun c_1 => ?_) (fun c_1 => ?_)
  · exact absurd (h1.symm.trans c_1) (by decide)
  · refine lv_lload_n hx hb dX5_part_8 rfl (lv_at hl 2 rfl) ?_
    refine bm_rcallS (As := [.long zB]) (rest := [.ref (ad 42)]) ⟨hx, hb, hml, hown, hts⟩ (m_size) (cwS 1 hts gsX5_88 rfl rfl rfl hsX5_isSize ⟨Nat.le_of_ble_eq_true rfl, Nat.le_of_ble_eq_true rfl⟩) hK hP rfl hl.1 rfl (Nat.le_of_ble_eq_true rfl) dX5_part_9 ⟨Nat.le_of_ble_eq_true rfl, Nat.le_of_ble_eq_true rfl⟩ ?_
    refine bm_zb_eq (x := (q_len zB)) (tgt := 30) hx hb dX5_part_12 (by decide) (fun c_2 => ?_) (fun c_2 => ?_)
    · exact absurd (h2.symm.trans c_2) (by decide)
    · refine lv_iload hx hb dX5_part_15 (lv_at hl 3 rfl) ?_
      refine bm_nz_eq (x := zC) (tgt := 26) hx hb (by omega) dX5_part_17 (by decide) (fun c_3 => ?_) (fun c_3 => ?_)
      · refine lv_iconst (v := nI 0) hx hb dX5_part_26 (by decide) ?_
        refine lv_goto (tgt := 31) hx hb dX5_part_27 (by decide) ?_
        refine va_put (D := D) (ci := 5) (v := .int (nI 0)) (ty := .int) (C := RX5) (T := TX5) (N := 28) hx hb hts (inT inX5) tyX5 tyX5_ok nmX5 hown hK hP hD hS 42 ww_42 rfl 0 (by decide) (hts (.fieldLink RX5 81 "BoardMovesModel" "thrown" "I") (List.mem_cons_of_mem _ flX5_81)) (fun _ h9 => h9) rfl (by decide +kernel) rfl rfl (Nat.le_of_ble_eq_true rfl) dX5_part_31 (fun H locs hP hD hS => ?_)
        have hP : va_P D vwCl (WW ad cJ cI cZ bm pa p0 p1 p2 li wi (0) ms ma mp mk mn ou) H := hP
        have hD : va_D A (WW ad cJ cI cZ bm pa p0 p1 p2 li wi (0) ms ma mp mk mn ou) := hD
        refine lv_aload_n hx hb dX5_part_34 rfl (lv_at hl 0 rfl) ?_
        refine va_get (D := D) (ci := 5) (v := .int (nI 0)) (C := RX5) (T := TX5) (N := 28) hx hb hts (inT inX5) hown hK hP 42 ww_42 rfl 0 (by decide) (hts (.fieldLink RX5 81 "BoardMovesModel" "thrown" "I") (List.mem_cons_of_mem _ flX5_81)) (fun _ h9 => h9) rfl dX5_part_35 ?_
        refine bm_nz_eq (x := 0) (tgt := 43) hx hb (by decide) dX5_part_38 (by decide) (fun c_4 => ?_) (fun c_4 => ?_)
        · refine lv_aload_n hx hb dX5_part_43 rfl (lv_at hl 0 rfl) ?_
          refine va_get (D := D) (ci := 5) (v := .int (nI ms.2.2.1)) (C := RX5) (T := TX5) (N := 28) hx hb hts (inT inX5) hown hK hP 42 ww_42 rfl 3 (by decide) (hts (.fieldLink RX5 85 "BoardMovesModel" "parts" "I") (List.mem_cons_of_mem _ flX5_85)) (fun _ h9 => h9) rfl dX5_part_44 ?_
          refine lv_bipush (v := nI 40) hx hb dX5_part_47 (by decide) ?_
          refine bm_ni_ne (x := ms.2.2.1) (y := 40) (tgt := 54) hx hb (by omega) (by omega) dX5_part_49 (by decide) (fun c_5 => ?_) (fun c_5 => ?_)
          · exfalso; omega
          · refine lv_iconst (v := -1) hx hb dX5_part_52 (by decide) ?_
            exact bm_iretW (v := (-1)) hx hb hr hP hD hK hS ⟨rfl, rfl⟩ dX5_part_53 hlocks
        · exact absurd c_4 (by decide)
      · refine lv_iload hx hb dX5_part_20 (lv_at hl 3 rfl) ?_
        refine lv_iconst (v := nI 1) hx hb dX5_part_22 (by decide) ?_
        refine bm_ni_ne (x := zC) (y := 1) (tgt := 30) hx hb (by omega) (by omega) dX5_part_23 (by decide) (fun c_6 => ?_) (fun c_6 => ?_)
        · exact absurd (show zC = 1 by omega) c_6
        · refine lv_iconst (v := nI 0) hx hb dX5_part_26 (by decide) ?_
          refine lv_goto (tgt := 31) hx hb dX5_part_27 (by decide) ?_
          refine va_put (D := D) (ci := 5) (v := .int (nI 0)) (ty := .int) (C := RX5) (T := TX5) (N := 28) hx hb hts (inT inX5) tyX5 tyX5_ok nmX5 hown hK hP hD hS 42 ww_42 rfl 0 (by decide) (hts (.fieldLink RX5 81 "BoardMovesModel" "thrown" "I") (List.mem_cons_of_mem _ flX5_81)) (fun _ h9 => h9) rfl (by decide +kernel) rfl rfl (Nat.le_of_ble_eq_true rfl) dX5_part_31 (fun H locs hP hD hS => ?_)
          have hP : va_P D vwCl (WW ad cJ cI cZ bm pa p0 p1 p2 li wi (0) ms ma mp mk mn ou) H := hP
          have hD : va_D A (WW ad cJ cI cZ bm pa p0 p1 p2 li wi (0) ms ma mp mk mn ou) := hD
          refine lv_aload_n hx hb dX5_part_34 rfl (lv_at hl 0 rfl) ?_
          refine va_get (D := D) (ci := 5) (v := .int (nI 0)) (C := RX5) (T := TX5) (N := 28) hx hb hts (inT inX5) hown hK hP 42 ww_42 rfl 0 (by decide) (hts (.fieldLink RX5 81 "BoardMovesModel" "thrown" "I") (List.mem_cons_of_mem _ flX5_81)) (fun _ h9 => h9) rfl dX5_part_35 ?_
          refine bm_nz_eq (x := 0) (tgt := 43) hx hb (by decide) dX5_part_38 (by decide) (fun c_7 => ?_) (fun c_7 => ?_)
          · refine lv_aload_n hx hb dX5_part_43 rfl (lv_at hl 0 rfl) ?_
            refine va_get (D := D) (ci := 5) (v := .int (nI ms.2.2.1)) (C := RX5) (T := TX5) (N := 28) hx hb hts (inT inX5) hown hK hP 42 ww_42 rfl 3 (by decide) (hts (.fieldLink RX5 85 "BoardMovesModel" "parts" "I") (List.mem_cons_of_mem _ flX5_85)) (fun _ h9 => h9) rfl dX5_part_44 ?_
            refine lv_bipush (v := nI 40) hx hb dX5_part_47 (by decide) ?_
            refine bm_ni_ne (x := ms.2.2.1) (y := 40) (tgt := 54) hx hb (by omega) (by omega) dX5_part_49 (by decide) (fun c_8 => ?_) (fun c_8 => ?_)
            · exfalso; omega
            · refine lv_iconst (v := -1) hx hb dX5_part_52 (by decide) ?_
              exact bm_iretW (v := (-1)) hx hb hr hP hD hK hS ⟨rfl, rfl⟩ dX5_part_53 hlocks
          · exact absurd c_7 (by decide)

set_option maxHeartbeats 4000000 in
set_option maxRecDepth 100000 in
theorem Y_partX {l : Launch} {D : va_G} {ad : Nat → Nat} {cJ cI cZ : ClassId} {bm : gBM} {pa : gPA} {p0 p1 p2 : gPL} {li : gLI} {wi : gWI} {mt : Nat} {ms : gMS} {ma : gMA} {mp : gMP} {mk : gMK} {mn : gMN} {ou : Nat → Int64} {zA zB : Int64} {zC : Int32} (hv : q_pv zA zB zC = false) : bm_Wr l yX5_part wsX5_part ({ frames := 1, cells := 0, slots := 0, locals := 21 }) D vwCl [(cJ, .long), (cI, .int), (cZ, .boolean)] (WW ad cJ cI cZ bm pa p0 p1 p2 li wi mt ms ma mp mk mn ou) [.ref (ad 42), .long zA, .long zB, .int zC] (WW ad cJ cI cZ bm pa p0 p1 p2 li wi (1) ms ma mp mk mn ou) (some (.int (nI 0))) := by
  intro sz
  refine Met.ofW (cc := cX5_part) (maxL := 6) (ret := (some .int)) (by decide) rfl ?_
  intro p e s m args below meth c s₁ B hml hv
  obtain ⟨ha, hsz, hP, hK, hD0⟩ := hv
  have hx := B.exec
  have hb := B.bytes
  have hr := B.returns
  have hts := atoms_spec (ws := wsX5_part) B.pre
  have hown : s.vm.findClass RX5 = some m.cls := findClass_of_methodNamed B.named
  have hlocks := B.notSynchronized
  subst hsz
  have hD := hD0.self (sz := s.heap.size)
  generalize hAe : va_A (WW ad cJ cI cZ bm pa p0 p1 p2 li wi mt ms ma mp mk mn ou) s.heap.size = A at hD ⊢
  have hA : ∀ q : Nat, s.heap.size ≤ q → A q := fun q h => by rw [← hAe]; exact Or.inr h
  have hS : va_S A s.heap s.heap [] := va_S.rf
  have hl := lv_entry ([.ref (ad 42), .long zA, .long zB, .int zC]) (n := 6) (Nat.le_of_ble_eq_true rfl)
  refine W.eq (g2 := entryFrame m ([.ref (ad 42), .long zA, .long zB, .int zC] : List Value).toArray 6) (by rw [ha]) ?_
  rw [lg_entry_eq]
  generalize (lg_sl ([.ref (ad 42), .long zA, .long zB, .int zC]) ++ List.replicate (6 - (lg_sl ([.ref (ad 42), .long zA, .long zB, .int zC])).length) Slot.unset).toArray = ls at hl ⊢
  have hl : lv_has ls 6 [(0, .ref (ad 42)), (1, .long zA), (3, .long zB), (5, .int zC)] := hl
  refine lv_aload_n hx hb dX5_part_0 rfl (lv_at hl 0 rfl) ?_
  refine lv_lload_n hx hb dX5_part_1 rfl (lv_at hl 1 rfl) ?_
  refine bm_rcallS (As := [.long zA]) (rest := [.ref (ad 42)]) ⟨hx, hb, hml, hown, hts⟩ (m_size) (cwS 1 hts gsX5_88 rfl rfl rfl hsX5_isSize ⟨Nat.le_of_ble_eq_true rfl, Nat.le_of_ble_eq_true rfl⟩) hK hP rfl hl.1 rfl (Nat.le_of_ble_eq_true rfl) dX5_part_2 ⟨Nat.le_of_ble_eq_true rfl, Nat.le_of_ble_eq_true rfl⟩ ?_
  refine bm_zb_eq (x := (q_len zA)) (tgt := 30) hx hb dX5_part_5 (by decide) (fun c_1 => ?_) (fun c_1 => ?_)
  · refine lv_iconst (v := nI 1) hx hb dX5_part_30 (by decide) ?_
    refine va_put (D := D) (ci := 5) (v := .int (nI 1)) (ty := .int) (C := RX5) (T := TX5) (N := 28) hx hb hts (inT inX5) tyX5 tyX5_ok nmX5 hown hK hP hD hS 42 ww_42 rfl 0 (by decide) (hts (.fieldLink RX5 81 "BoardMovesModel" "thrown" "I") (List.mem_cons_of_mem _ flX5_81)) (fun _ h9 => h9) rfl (by decide +kernel) rfl rfl (Nat.le_of_ble_eq_true rfl) dX5_part_31 (fun H locs hP hD hS => ?_)
    have hP : va_P D vwCl (WW ad cJ cI cZ bm pa p0 p1 p2 li wi (1) ms ma mp mk mn ou) H := hP
    have hD : va_D A (WW ad cJ cI cZ bm pa p0 p1 p2 li wi (1) ms ma mp mk mn ou) := hD
    refine lv_aload_n hx hb dX5_part_34 rfl (lv_at hl 0 rfl) ?_
    refine va_get (D := D) (ci := 5) (v := .int (nI 1)) (C := RX5) (T := TX5) (N := 28) hx hb hts (inT inX5) hown hK hP 42 ww_42 rfl 0 (by decide) (hts (.fieldLink RX5 81 "BoardMovesModel" "thrown" "I") (List.mem_cons_of_mem _ flX5_81)) (fun _ h9 => h9) rfl dX5_part_35 ?_
    refine bm_nz_eq (x := 1) (tgt := 43) hx hb (by decide) dX5_part_38 (by decide) (fun c_2 => ?_) (fun c_2 => ?_)
    · exact absurd c_2 (by decide)
    · refine lv_iconst (v := nI 0) hx hb dX5_part_41 (by decide) ?_
      exact bm_iretW (v := (nI 0)) hx hb hr hP hD hK hS ⟨rfl, rfl⟩ dX5_part_42 hlocks
  · refine lv_lload_n hx hb dX5_part_8 rfl (lv_at hl 2 rfl) ?_
    refine bm_rcallS (As := [.long zB]) (rest := [.ref (ad 42)]) ⟨hx, hb, hml, hown, hts⟩ (m_size) (cwS 1 hts gsX5_88 rfl rfl rfl hsX5_isSize ⟨Nat.le_of_ble_eq_true rfl, Nat.le_of_ble_eq_true rfl⟩) hK hP rfl hl.1 rfl (Nat.le_of_ble_eq_true rfl) dX5_part_9 ⟨Nat.le_of_ble_eq_true rfl, Nat.le_of_ble_eq_true rfl⟩ ?_
    refine bm_zb_eq (x := (q_len zB)) (tgt := 30) hx hb dX5_part_12 (by decide) (fun c_3 => ?_) (fun c_3 => ?_)
    · refine lv_iconst (v := nI 1) hx hb dX5_part_30 (by decide) ?_
      refine va_put (D := D) (ci := 5) (v := .int (nI 1)) (ty := .int) (C := RX5) (T := TX5) (N := 28) hx hb hts (inT inX5) tyX5 tyX5_ok nmX5 hown hK hP hD hS 42 ww_42 rfl 0 (by decide) (hts (.fieldLink RX5 81 "BoardMovesModel" "thrown" "I") (List.mem_cons_of_mem _ flX5_81)) (fun _ h9 => h9) rfl (by decide +kernel) rfl rfl (Nat.le_of_ble_eq_true rfl) dX5_part_31 (fun H locs hP hD hS => ?_)
      have hP : va_P D vwCl (WW ad cJ cI cZ bm pa p0 p1 p2 li wi (1) ms ma mp mk mn ou) H := hP
      have hD : va_D A (WW ad cJ cI cZ bm pa p0 p1 p2 li wi (1) ms ma mp mk mn ou) := hD
      refine lv_aload_n hx hb dX5_part_34 rfl (lv_at hl 0 rfl) ?_
      refine va_get (D := D) (ci := 5) (v := .int (nI 1)) (C := RX5) (T := TX5) (N := 28) hx hb hts (inT inX5) hown hK hP 42 ww_42 rfl 0 (by decide) (hts (.fieldLink RX5 81 "BoardMovesModel" "thrown" "I") (List.mem_cons_of_mem _ flX5_81)) (fun _ h9 => h9) rfl dX5_part_35 ?_
      refine bm_nz_eq (x := 1) (tgt := 43) hx hb (by decide) dX5_part_38 (by decide) (fun c_4 => ?_) (fun c_4 => ?_)
      · exact absurd c_4 (by decide)
      · refine lv_iconst (v := nI 0) hx hb dX5_part_41 (by decide) ?_
        exact bm_iretW (v := (nI 0)) hx hb hr hP hD hK hS ⟨rfl, rfl⟩ dX5_part_42 hlocks
    · refine lv_iload hx hb dX5_part_15 (lv_at hl 3 rfl) ?_
      refine lv_if_eq (x := zC) (tgt := 26) hx hb dX5_part_17 (by decide) (fun c_5 => ?_) (fun c_5 => ?_)
      · exact absurd hv (by simp [q_pv, c_1, c_3, c_5])
      · refine lv_iload hx hb dX5_part_20 (lv_at hl 3 rfl) ?_
        refine lv_iconst (v := 1) hx hb dX5_part_22 (by decide) ?_
        refine lv_icmp_ne (x := zC) (y := 1) (tgt := 30) hx hb dX5_part_23 (by decide) (fun c_6 => ?_) (fun c_6 => ?_)
        · refine lv_iconst (v := nI 1) hx hb dX5_part_30 (by decide) ?_
          refine va_put (D := D) (ci := 5) (v := .int (nI 1)) (ty := .int) (C := RX5) (T := TX5) (N := 28) hx hb hts (inT inX5) tyX5 tyX5_ok nmX5 hown hK hP hD hS 42 ww_42 rfl 0 (by decide) (hts (.fieldLink RX5 81 "BoardMovesModel" "thrown" "I") (List.mem_cons_of_mem _ flX5_81)) (fun _ h9 => h9) rfl (by decide +kernel) rfl rfl (Nat.le_of_ble_eq_true rfl) dX5_part_31 (fun H locs hP hD hS => ?_)
          have hP : va_P D vwCl (WW ad cJ cI cZ bm pa p0 p1 p2 li wi (1) ms ma mp mk mn ou) H := hP
          have hD : va_D A (WW ad cJ cI cZ bm pa p0 p1 p2 li wi (1) ms ma mp mk mn ou) := hD
          refine lv_aload_n hx hb dX5_part_34 rfl (lv_at hl 0 rfl) ?_
          refine va_get (D := D) (ci := 5) (v := .int (nI 1)) (C := RX5) (T := TX5) (N := 28) hx hb hts (inT inX5) hown hK hP 42 ww_42 rfl 0 (by decide) (hts (.fieldLink RX5 81 "BoardMovesModel" "thrown" "I") (List.mem_cons_of_mem _ flX5_81)) (fun _ h9 => h9) rfl dX5_part_35 ?_
          refine bm_nz_eq (x := 1) (tgt := 43) hx hb (by decide) dX5_part_38 (by decide) (fun c_7 => ?_) (fun c_7 => ?_)
          · exact absurd c_7 (by decide)
          · refine lv_iconst (v := nI 0) hx hb dX5_part_41 (by decide) ?_
            exact bm_iretW (v := (nI 0)) hx hb hr hP hD hK hS ⟨rfl, rfl⟩ dX5_part_42 hlocks
        · exact absurd hv (by simp [q_pv, c_1, c_3, c_5, c_6])

set_option maxHeartbeats 8000000 in
set_option maxRecDepth 100000 in
theorem x_addPin1 {l : Launch} {D : va_G} {ad : Nat → Nat} {cJ cI cZ : ClassId} {bm : gBM} {pa : gPA} {p0 p1 p2 : gPL} {li : gLI} {wi : gWI} {mt : Nat} {ms : gMS} {ma : gMA} {mp : gMP} {mk : gMK} {mn : gMN} {ou : Nat → Int64} {za : Nat} {zb : Nat} {z1 : Int64} {z2 : Int64} (ok_wi_pins : wi.2.2.2.2.2.2.2.2.2.2 ≤ 120) (ok_wi_netOf : ∀ i, wi.1 i < 40) (ok_wi_partOf : ∀ i, wi.2.1 i < 40) (hp0 : za < 40) (hp1 : zb < 40) (hq : wi.2.2.2.2.2.2.2.2.2.2 < 120) : bm_Wx l yX3_addPin wsX3_addPin ({ frames := 0, cells := 0, slots := 0, locals := 0 }) D vwCl [(cJ, .long), (cI, .int), (cZ, .boolean)] (WW ad cJ cI cZ bm pa p0 p1 p2 li wi mt ms ma mp mk mn ou) [.ref (ad 32), .int (nI za), .int (nI zb), .long z1, .long z2] (fun ws9 r9 => ∃ (e0 : Nat → Nat) (e1 : Nat → Nat) (e2 : Nat → Int64) (e3 : Nat → Int64) , (∀ i, e0 i < 40) ∧ (∀ i, e1 i < 40) ∧ ws9 = (WW ad cJ cI cZ bm pa p0 p1 p2 li (e0, e1, e2, e3, wi.2.2.2.2.1, wi.2.2.2.2.2.1, wi.2.2.2.2.2.2.1, wi.2.2.2.2.2.2.2.1, wi.2.2.2.2.2.2.2.2.1, wi.2.2.2.2.2.2.2.2.2.1, wi.2.2.2.2.2.2.2.2.2.2 + 1) mt ms ma mp mk mn ou) ∧ r9 = some (.int (bm_b true))) := by
  intro sz
  refine Met.ofW (cc := cX3_addPin) (maxL := 7) (ret := (some .boolean)) (by decide) rfl ?_
  intro p e s m args below meth c s₁ B hml hv
  obtain ⟨ha, hsz, hP, hK, hD0⟩ := hv
  have hx := B.exec
  have hb := B.bytes
  have hr := B.returns
  have hts := atoms_spec (ws := wsX3_addPin) B.pre
  have hown : s.vm.findClass RX3 = some m.cls := findClass_of_methodNamed B.named
  have hlocks := B.notSynchronized
  subst hsz
  have hD := hD0.self (sz := s.heap.size)
  generalize hAe : va_A (WW ad cJ cI cZ bm pa p0 p1 p2 li wi mt ms ma mp mk mn ou) s.heap.size = A at hD ⊢
  have hA : ∀ q : Nat, s.heap.size ≤ q → A q := fun q h => by rw [← hAe]; exact Or.inr h
  have hS : va_S A s.heap s.heap [] := va_S.rf
  have hl := lv_entry ([.ref (ad 32), .int (nI za), .int (nI zb), .long z1, .long z2]) (n := 7) (Nat.le_of_ble_eq_true rfl)
  refine W.eq (g2 := entryFrame m ([.ref (ad 32), .int (nI za), .int (nI zb), .long z1, .long z2] : List Value).toArray 7) (by rw [ha]) ?_
  rw [lg_entry_eq]
  generalize (lg_sl ([.ref (ad 32), .int (nI za), .int (nI zb), .long z1, .long z2]) ++ List.replicate (7 - (lg_sl ([.ref (ad 32), .int (nI za), .int (nI zb), .long z1, .long z2])).length) Slot.unset).toArray = ls at hl ⊢
  have hl : lv_has ls 7 [(0, .ref (ad 32)), (1, .int (nI za)), (2, .int (nI zb)), (3, .long z1), (5, .long z2)] := hl
  refine lv_aload_n hx hb dX3_addPin_0 rfl (lv_at hl 0 rfl) ?_
  refine va_get (D := D) (ci := 3) (v := .int (nI wi.2.2.2.2.2.2.2.2.2.2)) (C := RX3) (T := TX3) (N := 12) hx hb hts (inT inX3) hown hK hP 32 ww_32 rfl 11 (by decide) (hts (.fieldLink RX3 45 "BoardMoves$Wiring" "pins" "I") (List.mem_cons_of_mem _ flX3_45)) (fun _ h9 => h9) rfl dX3_addPin_1 ?_
  refine lv_bipush (v := nI 120) hx hb dX3_addPin_4 (by decide) ?_
  refine bm_ni_lt (x := wi.2.2.2.2.2.2.2.2.2.2) (y := 120) (tgt := 11) hx hb (by omega) (by omega) dX3_addPin_6 (by decide) (fun c_1 => ?_) (fun c_1 => ?_)
  · refine lv_aload_n hx hb dX3_addPin_11 rfl (lv_at hl 0 rfl) ?_
    refine va_get (D := D) (ci := 3) (v := .ref (ad 33)) (C := RX3) (T := TX3) (N := 12) hx hb hts (inT inX3) hown hK hP 32 ww_32 rfl 1 (by decide) (hts (.fieldLink RX3 9 "BoardMoves$Wiring" "netOf" "[I") (List.mem_cons_of_mem _ flX3_9)) (fun _ h9 => h9) rfl dX3_addPin_12 ?_
    refine lv_aload_n hx hb dX3_addPin_15 rfl (lv_at hl 0 rfl) ?_
    refine va_get (D := D) (ci := 3) (v := .int (nI wi.2.2.2.2.2.2.2.2.2.2)) (C := RX3) (T := TX3) (N := 12) hx hb hts (inT inX3) hown hK hP 32 ww_32 rfl 11 (by decide) (hts (.fieldLink RX3 45 "BoardMoves$Wiring" "pins" "I") (List.mem_cons_of_mem _ flX3_45)) (fun _ h9 => h9) rfl dX3_addPin_16 ?_
    refine lv_iload_n hx hb dX3_addPin_19 rfl (lv_at hl 1 rfl) ?_
    refine bm_nast (f := wi.1) hx hb hK hP hD hS 33 1 ww_33 rfl (j := wi.2.2.2.2.2.2.2.2.2.2) (x := za) (by omega) (by decide) dX3_addPin_20 (fun H locs hP hD hS => ?_)
    have hP : va_P D vwCl (WW ad cJ cI cZ bm pa p0 p1 p2 li (va_up wi.1 wi.2.2.2.2.2.2.2.2.2.2 za, wi.2.1, wi.2.2.1, wi.2.2.2.1, wi.2.2.2.2.1, wi.2.2.2.2.2.1, wi.2.2.2.2.2.2.1, wi.2.2.2.2.2.2.2.1, wi.2.2.2.2.2.2.2.2.1, wi.2.2.2.2.2.2.2.2.2.1, wi.2.2.2.2.2.2.2.2.2.2) mt ms ma mp mk mn ou) H := hP
    have hD : va_D A (WW ad cJ cI cZ bm pa p0 p1 p2 li (va_up wi.1 wi.2.2.2.2.2.2.2.2.2.2 za, wi.2.1, wi.2.2.1, wi.2.2.2.1, wi.2.2.2.2.1, wi.2.2.2.2.2.1, wi.2.2.2.2.2.2.1, wi.2.2.2.2.2.2.2.1, wi.2.2.2.2.2.2.2.2.1, wi.2.2.2.2.2.2.2.2.2.1, wi.2.2.2.2.2.2.2.2.2.2) mt ms ma mp mk mn ou) := hD
    refine lv_aload_n hx hb dX3_addPin_21 rfl (lv_at hl 0 rfl) ?_
    refine va_get (D := D) (ci := 3) (v := .ref (ad 34)) (C := RX3) (T := TX3) (N := 12) hx hb hts (inT inX3) hown hK hP 32 ww_32 rfl 2 (by decide) (hts (.fieldLink RX3 15 "BoardMoves$Wiring" "partOf" "[I") (List.mem_cons_of_mem _ flX3_15)) (fun _ h9 => h9) rfl dX3_addPin_22 ?_
    refine lv_aload_n hx hb dX3_addPin_25 rfl (lv_at hl 0 rfl) ?_
    refine va_get (D := D) (ci := 3) (v := .int (nI wi.2.2.2.2.2.2.2.2.2.2)) (C := RX3) (T := TX3) (N := 12) hx hb hts (inT inX3) hown hK hP 32 ww_32 rfl 11 (by decide) (hts (.fieldLink RX3 45 "BoardMoves$Wiring" "pins" "I") (List.mem_cons_of_mem _ flX3_45)) (fun _ h9 => h9) rfl dX3_addPin_26 ?_
    refine lv_iload_n hx hb dX3_addPin_29 rfl (lv_at hl 2 rfl) ?_
    refine bm_nast (f := wi.2.1) hx hb hK hP hD hS 34 1 ww_34 rfl (j := wi.2.2.2.2.2.2.2.2.2.2) (x := zb) (by omega) (by decide) dX3_addPin_30 (fun H locs hP hD hS => ?_)
    have hP : va_P D vwCl (WW ad cJ cI cZ bm pa p0 p1 p2 li (va_up wi.1 wi.2.2.2.2.2.2.2.2.2.2 za, va_up wi.2.1 wi.2.2.2.2.2.2.2.2.2.2 zb, wi.2.2.1, wi.2.2.2.1, wi.2.2.2.2.1, wi.2.2.2.2.2.1, wi.2.2.2.2.2.2.1, wi.2.2.2.2.2.2.2.1, wi.2.2.2.2.2.2.2.2.1, wi.2.2.2.2.2.2.2.2.2.1, wi.2.2.2.2.2.2.2.2.2.2) mt ms ma mp mk mn ou) H := hP
    have hD : va_D A (WW ad cJ cI cZ bm pa p0 p1 p2 li (va_up wi.1 wi.2.2.2.2.2.2.2.2.2.2 za, va_up wi.2.1 wi.2.2.2.2.2.2.2.2.2.2 zb, wi.2.2.1, wi.2.2.2.1, wi.2.2.2.2.1, wi.2.2.2.2.2.1, wi.2.2.2.2.2.2.1, wi.2.2.2.2.2.2.2.1, wi.2.2.2.2.2.2.2.2.1, wi.2.2.2.2.2.2.2.2.2.1, wi.2.2.2.2.2.2.2.2.2.2) mt ms ma mp mk mn ou) := hD
    refine lv_aload_n hx hb dX3_addPin_31 rfl (lv_at hl 0 rfl) ?_
    refine va_get (D := D) (ci := 3) (v := .ref (ad 35)) (C := RX3) (T := TX3) (N := 12) hx hb hts (inT inX3) hown hK hP 32 ww_32 rfl 3 (by decide) (hts (.fieldLink RX3 18 "BoardMoves$Wiring" "dx" "[J") (List.mem_cons_of_mem _ flX3_18)) (fun _ h9 => h9) rfl dX3_addPin_32 ?_
    refine lv_aload_n hx hb dX3_addPin_35 rfl (lv_at hl 0 rfl) ?_
    refine va_get (D := D) (ci := 3) (v := .int (nI wi.2.2.2.2.2.2.2.2.2.2)) (C := RX3) (T := TX3) (N := 12) hx hb hts (inT inX3) hown hK hP 32 ww_32 rfl 11 (by decide) (hts (.fieldLink RX3 45 "BoardMoves$Wiring" "pins" "I") (List.mem_cons_of_mem _ flX3_45)) (fun _ h9 => h9) rfl dX3_addPin_36 ?_
    refine lv_lload_n hx hb dX3_addPin_39 rfl (lv_at hl 3 rfl) ?_
    refine bm_last (f := wi.2.2.1) hx hb hK hP hD hS 35 0 ww_35 rfl (j := wi.2.2.2.2.2.2.2.2.2.2) (x := z1) (by omega) (by decide) dX3_addPin_40 (fun H locs hP hD hS => ?_)
    have hP : va_P D vwCl (WW ad cJ cI cZ bm pa p0 p1 p2 li (va_up wi.1 wi.2.2.2.2.2.2.2.2.2.2 za, va_up wi.2.1 wi.2.2.2.2.2.2.2.2.2.2 zb, va_up wi.2.2.1 wi.2.2.2.2.2.2.2.2.2.2 z1, wi.2.2.2.1, wi.2.2.2.2.1, wi.2.2.2.2.2.1, wi.2.2.2.2.2.2.1, wi.2.2.2.2.2.2.2.1, wi.2.2.2.2.2.2.2.2.1, wi.2.2.2.2.2.2.2.2.2.1, wi.2.2.2.2.2.2.2.2.2.2) mt ms ma mp mk mn ou) H := hP
    have hD : va_D A (WW ad cJ cI cZ bm pa p0 p1 p2 li (va_up wi.1 wi.2.2.2.2.2.2.2.2.2.2 za, va_up wi.2.1 wi.2.2.2.2.2.2.2.2.2.2 zb, va_up wi.2.2.1 wi.2.2.2.2.2.2.2.2.2.2 z1, wi.2.2.2.1, wi.2.2.2.2.1, wi.2.2.2.2.2.1, wi.2.2.2.2.2.2.1, wi.2.2.2.2.2.2.2.1, wi.2.2.2.2.2.2.2.2.1, wi.2.2.2.2.2.2.2.2.2.1, wi.2.2.2.2.2.2.2.2.2.2) mt ms ma mp mk mn ou) := hD
    refine lv_aload_n hx hb dX3_addPin_41 rfl (lv_at hl 0 rfl) ?_
    refine va_get (D := D) (ci := 3) (v := .ref (ad 36)) (C := RX3) (T := TX3) (N := 12) hx hb hts (inT inX3) hown hK hP 32 ww_32 rfl 4 (by decide) (hts (.fieldLink RX3 22 "BoardMoves$Wiring" "dy" "[J") (List.mem_cons_of_mem _ flX3_22)) (fun _ h9 => h9) rfl dX3_addPin_42 ?_
    refine lv_aload_n hx hb dX3_addPin_45 rfl (lv_at hl 0 rfl) ?_
    refine va_get (D := D) (ci := 3) (v := .int (nI wi.2.2.2.2.2.2.2.2.2.2)) (C := RX3) (T := TX3) (N := 12) hx hb hts (inT inX3) hown hK hP 32 ww_32 rfl 11 (by decide) (hts (.fieldLink RX3 45 "BoardMoves$Wiring" "pins" "I") (List.mem_cons_of_mem _ flX3_45)) (fun _ h9 => h9) rfl dX3_addPin_46 ?_
    refine lv_lload hx hb dX3_addPin_49 (lv_at hl 4 rfl) ?_
    refine bm_last (f := wi.2.2.2.1) hx hb hK hP hD hS 36 0 ww_36 rfl (j := wi.2.2.2.2.2.2.2.2.2.2) (x := z2) (by omega) (by decide) dX3_addPin_51 (fun H locs hP hD hS => ?_)
    have hP : va_P D vwCl (WW ad cJ cI cZ bm pa p0 p1 p2 li (va_up wi.1 wi.2.2.2.2.2.2.2.2.2.2 za, va_up wi.2.1 wi.2.2.2.2.2.2.2.2.2.2 zb, va_up wi.2.2.1 wi.2.2.2.2.2.2.2.2.2.2 z1, va_up wi.2.2.2.1 wi.2.2.2.2.2.2.2.2.2.2 z2, wi.2.2.2.2.1, wi.2.2.2.2.2.1, wi.2.2.2.2.2.2.1, wi.2.2.2.2.2.2.2.1, wi.2.2.2.2.2.2.2.2.1, wi.2.2.2.2.2.2.2.2.2.1, wi.2.2.2.2.2.2.2.2.2.2) mt ms ma mp mk mn ou) H := hP
    have hD : va_D A (WW ad cJ cI cZ bm pa p0 p1 p2 li (va_up wi.1 wi.2.2.2.2.2.2.2.2.2.2 za, va_up wi.2.1 wi.2.2.2.2.2.2.2.2.2.2 zb, va_up wi.2.2.1 wi.2.2.2.2.2.2.2.2.2.2 z1, va_up wi.2.2.2.1 wi.2.2.2.2.2.2.2.2.2.2 z2, wi.2.2.2.2.1, wi.2.2.2.2.2.1, wi.2.2.2.2.2.2.1, wi.2.2.2.2.2.2.2.1, wi.2.2.2.2.2.2.2.2.1, wi.2.2.2.2.2.2.2.2.2.1, wi.2.2.2.2.2.2.2.2.2.2) mt ms ma mp mk mn ou) := hD
    refine lv_aload_n hx hb dX3_addPin_52 rfl (lv_at hl 0 rfl) ?_
    refine lv_dup hx hb dX3_addPin_53 rfl ?_
    refine va_get (D := D) (ci := 3) (v := .int (nI wi.2.2.2.2.2.2.2.2.2.2)) (C := RX3) (T := TX3) (N := 12) hx hb hts (inT inX3) hown hK hP 32 ww_32 rfl 11 (by decide) (hts (.fieldLink RX3 45 "BoardMoves$Wiring" "pins" "I") (List.mem_cons_of_mem _ flX3_45)) (fun _ h9 => h9) rfl dX3_addPin_54 ?_
    refine lv_iconst (v := nI 1) hx hb dX3_addPin_57 (by decide) ?_
    refine bm_nadd hx hb dX3_addPin_58 ?_
    refine va_put (D := D) (ci := 3) (v := .int (nI (wi.2.2.2.2.2.2.2.2.2.2 + 1))) (ty := .int) (C := RX3) (T := TX3) (N := 12) hx hb hts (inT inX3) tyX3 tyX3_ok nmX3 hown hK hP hD hS 32 ww_32 rfl 11 (by decide) (hts (.fieldLink RX3 45 "BoardMoves$Wiring" "pins" "I") (List.mem_cons_of_mem _ flX3_45)) (fun _ h9 => h9) rfl (by decide +kernel) rfl rfl (Nat.le_of_ble_eq_true rfl) dX3_addPin_59 (fun H locs hP hD hS => ?_)
    have hP : va_P D vwCl (WW ad cJ cI cZ bm pa p0 p1 p2 li (va_up wi.1 wi.2.2.2.2.2.2.2.2.2.2 za, va_up wi.2.1 wi.2.2.2.2.2.2.2.2.2.2 zb, va_up wi.2.2.1 wi.2.2.2.2.2.2.2.2.2.2 z1, va_up wi.2.2.2.1 wi.2.2.2.2.2.2.2.2.2.2 z2, wi.2.2.2.2.1, wi.2.2.2.2.2.1, wi.2.2.2.2.2.2.1, wi.2.2.2.2.2.2.2.1, wi.2.2.2.2.2.2.2.2.1, wi.2.2.2.2.2.2.2.2.2.1, wi.2.2.2.2.2.2.2.2.2.2 + 1) mt ms ma mp mk mn ou) H := hP
    have hD : va_D A (WW ad cJ cI cZ bm pa p0 p1 p2 li (va_up wi.1 wi.2.2.2.2.2.2.2.2.2.2 za, va_up wi.2.1 wi.2.2.2.2.2.2.2.2.2.2 zb, va_up wi.2.2.1 wi.2.2.2.2.2.2.2.2.2.2 z1, va_up wi.2.2.2.1 wi.2.2.2.2.2.2.2.2.2.2 z2, wi.2.2.2.2.1, wi.2.2.2.2.2.1, wi.2.2.2.2.2.2.1, wi.2.2.2.2.2.2.2.1, wi.2.2.2.2.2.2.2.2.1, wi.2.2.2.2.2.2.2.2.2.1, wi.2.2.2.2.2.2.2.2.2.2 + 1) mt ms ma mp mk mn ou) := hD
    refine lv_iconst (v := bm_b true) hx hb dX3_addPin_62 (by decide) ?_
    exact bm_zretX (v := true) hx hb hr hP hD hK hS ⟨(va_up wi.1 wi.2.2.2.2.2.2.2.2.2.2 za), (va_up wi.2.1 wi.2.2.2.2.2.2.2.2.2.2 zb), (va_up wi.2.2.1 wi.2.2.2.2.2.2.2.2.2.2 z1), (va_up wi.2.2.2.1 wi.2.2.2.2.2.2.2.2.2.2 z2), (bx_uplt ok_wi_netOf (by omega)), (bx_uplt ok_wi_partOf (by omega)), rfl, rfl⟩ dX3_addPin_63 hlocks
  · exfalso; omega
