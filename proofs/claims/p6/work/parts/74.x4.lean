set_option maxHeartbeats 4000000 in
set_option maxRecDepth 100000 in
theorem Y_pinN {l : Launch} {D : va_G} {ad : Nat → Nat} {cJ cI cZ : ClassId} {bm : gBM} {pa : gPA} {p0 p1 p2 : gPL} {li : gLI} {wi : gWI} {mt : Nat} {ms : gMS} {ma : gMA} {mp : gMP} {mk : gMK} {mn : gMN} {ou : Nat → Int64} (okw : ms.2.2.2.2.2.1 ≤ 40) (okp : ms.2.2.1 ≤ 40) (okx : ms.2.2.2.2.2.2.1 ≤ 120) {zA : Int32} (hno_zA : ¬ (¬ zA < 0 ∧ zA < nI ms.2.2.2.2.2.1)) {zB : Int32} {zC zD : Int64}  : bm_Wr l yX5_pin wsX5_pin ({ frames := 0, cells := 0, slots := 0, locals := 0 }) D vwCl [(cJ, .long), (cI, .int), (cZ, .boolean)] (WW ad cJ cI cZ bm pa p0 p1 p2 li wi mt ms ma mp mk mn ou) [.ref (ad 42), .int zA, .int zB, .long zC, .long zD] (WW ad cJ cI cZ bm pa p0 p1 p2 li wi (1) ms ma mp mk mn ou) (some (.int (bm_b false))) := by
  intro sz
  refine Met.ofW (cc := cX5_pin) (maxL := 9) (ret := (some .boolean)) (by decide) rfl ?_
  intro p e s m args below meth c s₁ B hml hv
  obtain ⟨ha, hsz, hP, hK, hD0⟩ := hv
  have hx := B.exec
  have hb := B.bytes
  have hr := B.returns
  have hts := atoms_spec (ws := wsX5_pin) B.pre
  have hown : s.vm.findClass RX5 = some m.cls := findClass_of_methodNamed B.named
  have hlocks := B.notSynchronized
  subst hsz
  have hD := hD0.self (sz := s.heap.size)
  generalize hAe : va_A (WW ad cJ cI cZ bm pa p0 p1 p2 li wi mt ms ma mp mk mn ou) s.heap.size = A at hD ⊢
  have hA : ∀ q : Nat, s.heap.size ≤ q → A q := fun q h => by rw [← hAe]; exact Or.inr h
  have hS : va_S A s.heap s.heap [] := va_S.rf
  have hl := lv_entry ([.ref (ad 42), .int zA, .int zB, .long zC, .long zD]) (n := 9) (Nat.le_of_ble_eq_true rfl)
  refine W.eq (g2 := entryFrame m ([.ref (ad 42), .int zA, .int zB, .long zC, .long zD] : List Value).toArray 9) (by rw [ha]) ?_
  rw [lg_entry_eq]
  generalize (lg_sl ([.ref (ad 42), .int zA, .int zB, .long zC, .long zD]) ++ List.replicate (9 - (lg_sl ([.ref (ad 42), .int zA, .int zB, .long zC, .long zD])).length) Slot.unset).toArray = ls at hl ⊢
  have hl : lv_has ls 9 [(0, .ref (ad 42)), (1, .int zA), (2, .int zB), (3, .long zC), (5, .long zD)] := hl
  refine lv_iload_n hx hb dX5_pin_0 rfl (lv_at hl 1 rfl) ?_
  refine lv_if_lt (x := zA) (tgt := 24) hx hb dX5_pin_1 (by decide) (fun c_1 => ?_) (fun c_1 => ?_)
  · refine lv_iconst (v := bm_b false) hx hb dX5_pin_24 (by decide) ?_
    refine lv_istore (lv' := [(7, .int (bm_b false)), (0, .ref (ad 42)), (1, .int zA), (2, .int zB), (3, .long zC), (5, .long zD)]) hx hb dX5_pin_25 hl (by decide) rfl (fun ls hl => ?_)
    refine lv_iload hx hb dX5_pin_27 (lv_at hl 0 rfl) ?_
    refine bm_zb_eq (x := false) (tgt := 72) hx hb dX5_pin_29 (by decide) (fun c_2 => ?_) (fun c_2 => ?_)
    · refine lv_iconst (v := bm_b false) hx hb dX5_pin_72 (by decide) ?_
      refine lv_istore (lv' := [(8, .int (bm_b false)), (7, .int (bm_b false)), (0, .ref (ad 42)), (1, .int zA), (2, .int zB), (3, .long zC), (5, .long zD)]) hx hb dX5_pin_73 hl (by decide) rfl (fun ls hl => ?_)
      refine lv_aload_n hx hb dX5_pin_75 rfl (lv_at hl 2 rfl) ?_
      refine lv_iload hx hb dX5_pin_76 (lv_at hl 1 rfl) ?_
      refine bm_zb_ne (x := false) (tgt := 85) hx hb dX5_pin_78 (by decide) (fun c_3 => ?_) (fun c_3 => ?_)
      · exact absurd c_3 (by decide)
      · refine lv_iconst (v := nI 1) hx hb dX5_pin_81 (by decide) ?_
        refine lv_goto (tgt := 95) hx hb dX5_pin_82 (by decide) ?_
        refine va_put (D := D) (ci := 5) (v := .int (nI 1)) (ty := .int) (C := RX5) (T := TX5) (N := 28) hx hb hts (inT inX5) tyX5 tyX5_ok nmX5 hown hK hP hD hS 42 ww_42 rfl 0 (by decide) (hts (.fieldLink RX5 81 "BoardMovesModel" "thrown" "I") (List.mem_cons_of_mem _ flX5_81)) (fun _ h9 => h9) rfl (by decide +kernel) rfl rfl (Nat.le_of_ble_eq_true rfl) dX5_pin_95 (fun H locs hP hD hS => ?_)
        have hP : va_P D vwCl (WW ad cJ cI cZ bm pa p0 p1 p2 li wi (1) ms ma mp mk mn ou) H := hP
        have hD : va_D A (WW ad cJ cI cZ bm pa p0 p1 p2 li wi (1) ms ma mp mk mn ou) := hD
        refine lv_aload_n hx hb dX5_pin_98 rfl (lv_at hl 2 rfl) ?_
        refine va_get (D := D) (ci := 5) (v := .int (nI 1)) (C := RX5) (T := TX5) (N := 28) hx hb hts (inT inX5) hown hK hP 42 ww_42 rfl 0 (by decide) (hts (.fieldLink RX5 81 "BoardMovesModel" "thrown" "I") (List.mem_cons_of_mem _ flX5_81)) (fun _ h9 => h9) rfl dX5_pin_99 ?_
        refine bm_nz_ne (x := 1) (tgt := 114) hx hb (by decide) dX5_pin_102 (by decide) (fun c_4 => ?_) (fun c_4 => ?_)
        · refine lv_iconst (v := bm_b false) hx hb dX5_pin_114 (by decide) ?_
          exact bm_zretW (v := false) hx hb hr hP hD hK hS ⟨rfl, rfl⟩ dX5_pin_115 hlocks
        · exact absurd c_4 (by decide)
    · exact absurd c_2 (by decide)
  · refine lv_iload_n hx hb dX5_pin_4 rfl (lv_at hl 1 rfl) ?_
    refine lv_aload_n hx hb dX5_pin_5 rfl (lv_at hl 0 rfl) ?_
    refine va_get (D := D) (ci := 5) (v := .int (nI ms.2.2.2.2.2.1)) (C := RX5) (T := TX5) (N := 28) hx hb hts (inT inX5) hown hK hP 42 ww_42 rfl 20 (by decide) (hts (.fieldLink RX5 160 "BoardMovesModel" "nets" "I") (List.mem_cons_of_mem _ flX5_160)) (fun _ h9 => h9) rfl dX5_pin_6 ?_
    refine lv_icmp_ge (x := zA) (y := (nI ms.2.2.2.2.2.1)) (tgt := 24) hx hb dX5_pin_9 (by decide) (fun c_5 => ?_) (fun c_5 => ?_)
    · refine lv_iconst (v := bm_b false) hx hb dX5_pin_24 (by decide) ?_
      refine lv_istore (lv' := [(7, .int (bm_b false)), (0, .ref (ad 42)), (1, .int zA), (2, .int zB), (3, .long zC), (5, .long zD)]) hx hb dX5_pin_25 hl (by decide) rfl (fun ls hl => ?_)
      refine lv_iload hx hb dX5_pin_27 (lv_at hl 0 rfl) ?_
      refine bm_zb_eq (x := false) (tgt := 72) hx hb dX5_pin_29 (by decide) (fun c_6 => ?_) (fun c_6 => ?_)
      · refine lv_iconst (v := bm_b false) hx hb dX5_pin_72 (by decide) ?_
        refine lv_istore (lv' := [(8, .int (bm_b false)), (7, .int (bm_b false)), (0, .ref (ad 42)), (1, .int zA), (2, .int zB), (3, .long zC), (5, .long zD)]) hx hb dX5_pin_73 hl (by decide) rfl (fun ls hl => ?_)
        refine lv_aload_n hx hb dX5_pin_75 rfl (lv_at hl 2 rfl) ?_
        refine lv_iload hx hb dX5_pin_76 (lv_at hl 1 rfl) ?_
        refine bm_zb_ne (x := false) (tgt := 85) hx hb dX5_pin_78 (by decide) (fun c_7 => ?_) (fun c_7 => ?_)
        · exact absurd c_7 (by decide)
        · refine lv_iconst (v := nI 1) hx hb dX5_pin_81 (by decide) ?_
          refine lv_goto (tgt := 95) hx hb dX5_pin_82 (by decide) ?_
          refine va_put (D := D) (ci := 5) (v := .int (nI 1)) (ty := .int) (C := RX5) (T := TX5) (N := 28) hx hb hts (inT inX5) tyX5 tyX5_ok nmX5 hown hK hP hD hS 42 ww_42 rfl 0 (by decide) (hts (.fieldLink RX5 81 "BoardMovesModel" "thrown" "I") (List.mem_cons_of_mem _ flX5_81)) (fun _ h9 => h9) rfl (by decide +kernel) rfl rfl (Nat.le_of_ble_eq_true rfl) dX5_pin_95 (fun H locs hP hD hS => ?_)
          have hP : va_P D vwCl (WW ad cJ cI cZ bm pa p0 p1 p2 li wi (1) ms ma mp mk mn ou) H := hP
          have hD : va_D A (WW ad cJ cI cZ bm pa p0 p1 p2 li wi (1) ms ma mp mk mn ou) := hD
          refine lv_aload_n hx hb dX5_pin_98 rfl (lv_at hl 2 rfl) ?_
          refine va_get (D := D) (ci := 5) (v := .int (nI 1)) (C := RX5) (T := TX5) (N := 28) hx hb hts (inT inX5) hown hK hP 42 ww_42 rfl 0 (by decide) (hts (.fieldLink RX5 81 "BoardMovesModel" "thrown" "I") (List.mem_cons_of_mem _ flX5_81)) (fun _ h9 => h9) rfl dX5_pin_99 ?_
          refine bm_nz_ne (x := 1) (tgt := 114) hx hb (by decide) dX5_pin_102 (by decide) (fun c_8 => ?_) (fun c_8 => ?_)
          · refine lv_iconst (v := bm_b false) hx hb dX5_pin_114 (by decide) ?_
            exact bm_zretW (v := false) hx hb hr hP hD hK hS ⟨rfl, rfl⟩ dX5_pin_115 hlocks
          · exact absurd c_8 (by decide)
      · exact absurd c_6 (by decide)
    · exact absurd ⟨c_1, bx_nlt c_5⟩ hno_zA

set_option maxHeartbeats 4000000 in
set_option maxRecDepth 100000 in
theorem m_thrown {l : Launch} {D : va_G} {ad : Nat → Nat} {cJ cI cZ : ClassId} {bm : gBM} {pa : gPA} {p0 p1 p2 : gPL} {li : gLI} {wi : gWI} {mt : Nat} {ms : gMS} {ma : gMA} {mp : gMP} {mk : gMK} {mn : gMN} {ou : Nat → Int64}  : bm_Rd l yX5_thrown wsX5_thrown ({ frames := 0, cells := 0, slots := 0, locals := 0 }) D vwCl [(cJ, .long), (cI, .int), (cZ, .boolean)] (WW ad cJ cI cZ bm pa p0 p1 p2 li wi mt ms ma mp mk mn ou) [.ref (ad 42)] (.int (nI mt)) := by
  refine Met.ofW (cc := cX5_thrown) (maxL := 1) (ret := (some .int)) (by decide) rfl ?_
  intro p e s m args below meth c s₁ B hml hv
  obtain ⟨ha, hP, hK⟩ := hv
  have hx := B.exec
  have hb := B.bytes
  have hr := B.returns
  have hts := atoms_spec (ws := wsX5_thrown) B.pre
  have hown : s.vm.findClass RX5 = some m.cls := findClass_of_methodNamed B.named
  have hlocks := B.notSynchronized
  have hl := lv_entry ([.ref (ad 42)]) (n := 1) (Nat.le_of_ble_eq_true rfl)
  refine W.eq (g2 := entryFrame m ([.ref (ad 42)] : List Value).toArray 1) (by rw [ha]) ?_
  rw [lg_entry_eq]
  generalize (lg_sl ([.ref (ad 42)]) ++ List.replicate (1 - (lg_sl ([.ref (ad 42)])).length) Slot.unset).toArray = ls at hl ⊢
  have hl : lv_has ls 1 [(0, .ref (ad 42))] := hl
  refine lv_aload_n hx hb dX5_thrown_0 rfl (lv_at hl 0 rfl) ?_
  refine va_get (D := D) (ci := 5) (v := .int (nI mt)) (C := RX5) (T := TX5) (N := 28) hx hb hts (inT inX5) hown hK hP 42 ww_42 rfl 0 (by decide) (hts (.fieldLink RX5 81 "BoardMovesModel" "thrown" "I") (List.mem_cons_of_mem _ flX5_81)) (fun _ h9 => h9) rfl dX5_thrown_1 ?_
  exact bm_iretR (v := (nI mt)) hx hb hr rfl dX5_thrown_4 hlocks
