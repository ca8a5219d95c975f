set_option maxHeartbeats 8000000 in
set_option maxRecDepth 100000 in
theorem y_beginOn {l : Launch} {D : va_G} {ad : Nat → Nat} {cJ cI cZ : ClassId} {bm : gBM} {pa : gPA} {p0 p1 p2 : gPL} {li : gLI} {wi : gWI} {mt : Nat} {ms : gMS} {ma : gMA} {mp : gMP} {mk : gMK} {mn : gMN} {ou : Nat → Int64} {zp : Nat} {zw : Nat} (ok_mp_turns : ∀ i, mp.2.2 i < 40) (hp0 : zp < 40) (hp1 : zw < 4)  : bm_Wx l yX5_beginOn wsX5_beginOn ({ frames := 2, cells := 0, slots := 0, locals := 44 }) D vwCl [(cJ, .long), (cI, .int), (cZ, .boolean)] (WW ad cJ cI cZ bm pa p0 p1 p2 li wi mt ms ma mp mk mn ou) [.ref (ad 42), .int (nI zp), .int (nI zw)] (fun ws9 r9 => ws9 = (WW ad cJ cI cZ bm pa p0 p1 p2 li wi mt ms ma mp mk mn ou) ∧ ∃ v9 : Int64, r9 = some (.long v9)) := by
  intro sz
  refine Met.ofW (cc := cX5_beginOn) (maxL := 3) (ret := (some .long)) (by decide) rfl ?_
  intro p e s m args below meth c s₁ B hml hv
  obtain ⟨ha, hsz, hP, hK, hD0⟩ := hv
  have hx := B.exec
  have hb := B.bytes
  have hr := B.returns
  have hts := atoms_spec (ws := wsX5_beginOn) B.pre
  have hown : s.vm.findClass RX5 = some m.cls := findClass_of_methodNamed B.named
  have hlocks := B.notSynchronized
  subst hsz
  have hD := hD0.self (sz := s.heap.size)
  generalize hAe : va_A (WW ad cJ cI cZ bm pa p0 p1 p2 li wi mt ms ma mp mk mn ou) s.heap.size = A at hD ⊢
  have hA : ∀ q : Nat, s.heap.size ≤ q → A q := fun q h => by rw [← hAe]; exact Or.inr h
  have hS : va_S A s.heap s.heap [] := va_S.rf
  have hl := lv_entry ([.ref (ad 42), .int (nI zp), .int (nI zw)]) (n := 3) (Nat.le_of_ble_eq_true rfl)
  refine W.eq (g2 := entryFrame m ([.ref (ad 42), .int (nI zp), .int (nI zw)] : List Value).toArray 3) (by rw [ha]) ?_
  rw [lg_entry_eq]
  generalize (lg_sl ([.ref (ad 42), .int (nI zp), .int (nI zw)]) ++ List.replicate (3 - (lg_sl ([.ref (ad 42), .int (nI zp), .int (nI zw)])).length) Slot.unset).toArray = ls at hl ⊢
  have hl : lv_has ls 3 [(0, .ref (ad 42)), (1, .int (nI zp)), (2, .int (nI zw))] := hl
  refine lv_iload_n hx hb dX5_beginOn_0 rfl (lv_at hl 2 rfl) ?_
  by_cases ht_1 : zw = 0
  · rw [ht_1]
    refine lv_tableIn (off := 27) (tgt := 28) hx hb dX5_beginOn_1 (by decide) (by decide) (by decide) (by decide) ?_
    refine lv_aload_n hx hb dX5_beginOn_28 rfl (lv_at hl 0 rfl) ?_
    refine lv_iconst (v := nI 1) hx hb dX5_beginOn_29 (by decide) ?_
    refine lv_iload_n hx hb dX5_beginOn_30 rfl (lv_at hl 1 rfl) ?_
    refine bm_xcallV (As := [.int (nI 1), .int (nI zp)]) (rest := []) ⟨hx, hb, hml, hown, hts⟩ (y_left  (zr := 1) (zp := zp)  (by omega) (by omega)) (cwV 2 hts gvX5_92 rfl rfl rfl hvX5_left ⟨Nat.le_of_ble_eq_true rfl, Nat.le_of_ble_eq_true rfl⟩) hK hP hD hS hA 42 5 rfl ww_42 rfl hl.1 rfl (Nat.le_of_ble_eq_true rfl) dX5_beginOn_31 ⟨Nat.le_of_ble_eq_true rfl, Nat.le_of_ble_eq_true rfl⟩ (fun ws_4 r_5 h_6 H locs hP hD hS => ?_)
    obtain ⟨rfl, v_7, rfl⟩ := h_6
    have hP : va_P D vwCl (WW ad cJ cI cZ bm pa p0 p1 p2 li wi mt ms ma mp mk mn ou) H := hP
    have hD : va_D A (WW ad cJ cI cZ bm pa p0 p1 p2 li wi mt ms ma mp mk mn ou) := hD
    exact bm_lretX (v := v_7) hx hb hr hP hD hK hS ⟨rfl, v_7, rfl⟩ dX5_beginOn_34 hlocks
  · by_cases ht_2 : zw = 1
    · rw [ht_2]
      refine lv_tableIn (off := 34) (tgt := 35) hx hb dX5_beginOn_1 (by decide) (by decide) (by decide) (by decide) ?_
      refine lv_lconst (v := 0) hx hb dX5_beginOn_35 (by decide) ?_
      refine lv_aload_n hx hb dX5_beginOn_36 rfl (lv_at hl 0 rfl) ?_
      refine lv_iconst (v := nI 1) hx hb dX5_beginOn_37 (by decide) ?_
      refine lv_iload_n hx hb dX5_beginOn_38 rfl (lv_at hl 1 rfl) ?_
      refine bm_xcallV (As := [.int (nI 1), .int (nI zp)]) (rest := [.long 0]) ⟨hx, hb, hml, hown, hts⟩ (y_right  (zr := 1) (zp := zp) ok_mp_turns (by omega) (by omega)) (cwV 2 hts gvX5_103 rfl rfl rfl hvX5_right ⟨Nat.le_of_ble_eq_true rfl, Nat.le_of_ble_eq_true rfl⟩) hK hP hD hS hA 42 5 rfl ww_42 rfl hl.1 rfl (Nat.le_of_ble_eq_true rfl) dX5_beginOn_39 ⟨Nat.le_of_ble_eq_true rfl, Nat.le_of_ble_eq_true rfl⟩ (fun ws_8 r_9 h_10 H locs hP hD hS => ?_)
      obtain ⟨rfl, v_11, rfl⟩ := h_10
      have hP : va_P D vwCl (WW ad cJ cI cZ bm pa p0 p1 p2 li wi mt ms ma mp mk mn ou) H := hP
      have hD : va_D A (WW ad cJ cI cZ bm pa p0 p1 p2 li wi mt ms ma mp mk mn ou) := hD
      refine lv_lsub hx hb dX5_beginOn_42 ?_
      refine lv_topl (fun t_12 _ => ?_)
      exact bm_lretX (v := t_12) hx hb hr hP hD hK hS ⟨rfl, t_12, rfl⟩ dX5_beginOn_43 hlocks
    · by_cases ht_3 : zw = 2
      · rw [ht_3]
        refine lv_tableIn (off := 43) (tgt := 44) hx hb dX5_beginOn_1 (by decide) (by decide) (by decide) (by decide) ?_
        refine lv_aload_n hx hb dX5_beginOn_44 rfl (lv_at hl 0 rfl) ?_
        refine lv_iconst (v := nI 1) hx hb dX5_beginOn_45 (by decide) ?_
        refine lv_iload_n hx hb dX5_beginOn_46 rfl (lv_at hl 1 rfl) ?_
        refine bm_xcallV (As := [.int (nI 1), .int (nI zp)]) (rest := []) ⟨hx, hb, hml, hown, hts⟩ (y_low  (zr := 1) (zp := zp)  (by omega) (by omega)) (cwV 2 hts gvX5_100 rfl rfl rfl hvX5_low ⟨Nat.le_of_ble_eq_true rfl, Nat.le_of_ble_eq_true rfl⟩) hK hP hD hS hA 42 5 rfl ww_42 rfl hl.1 rfl (Nat.le_of_ble_eq_true rfl) dX5_beginOn_47 ⟨Nat.le_of_ble_eq_true rfl, Nat.le_of_ble_eq_true rfl⟩ (fun ws_13 r_14 h_15 H locs hP hD hS => ?_)
        obtain ⟨rfl, v_16, rfl⟩ := h_15
        have hP : va_P D vwCl (WW ad cJ cI cZ bm pa p0 p1 p2 li wi mt ms ma mp mk mn ou) H := hP
        have hD : va_D A (WW ad cJ cI cZ bm pa p0 p1 p2 li wi mt ms ma mp mk mn ou) := hD
        exact bm_lretX (v := v_16) hx hb hr hP hD hK hS ⟨rfl, v_16, rfl⟩ dX5_beginOn_50 hlocks
      · refine lv_tableOut (tgt := 51) hx hb dX5_beginOn_1 (by rw [nI_toInt (by omega)]; omega) (by decide) ?_
        refine lv_lconst (v := 0) hx hb dX5_beginOn_51 (by decide) ?_
        refine lv_aload_n hx hb dX5_beginOn_52 rfl (lv_at hl 0 rfl) ?_
        refine lv_iconst (v := nI 1) hx hb dX5_beginOn_53 (by decide) ?_
        refine lv_iload_n hx hb dX5_beginOn_54 rfl (lv_at hl 1 rfl) ?_
        refine bm_xcallV (As := [.int (nI 1), .int (nI zp)]) (rest := [.long 0]) ⟨hx, hb, hml, hown, hts⟩ (y_top  (zr := 1) (zp := zp) ok_mp_turns (by omega) (by omega)) (cwV 2 hts gvX5_106 rfl rfl rfl hvX5_top ⟨Nat.le_of_ble_eq_true rfl, Nat.le_of_ble_eq_true rfl⟩) hK hP hD hS hA 42 5 rfl ww_42 rfl hl.1 rfl (Nat.le_of_ble_eq_true rfl) dX5_beginOn_55 ⟨Nat.le_of_ble_eq_true rfl, Nat.le_of_ble_eq_true rfl⟩ (fun ws_17 r_18 h_19 H locs hP hD hS => ?_)
        obtain ⟨rfl, v_20, rfl⟩ := h_19
        have hP : va_P D vwCl (WW ad cJ cI cZ bm pa p0 p1 p2 li wi mt ms ma mp mk mn ou) H := hP
        have hD : va_D A (WW ad cJ cI cZ bm pa p0 p1 p2 li wi mt ms ma mp mk mn ou) := hD
        refine lv_lsub hx hb dX5_beginOn_58 ?_
        refine lv_topl (fun t_21 _ => ?_)
        exact bm_lretX (v := t_21) hx hb hr hP hD hK hS ⟨rfl, t_21, rfl⟩ dX5_beginOn_59 hlocks

set_option maxHeartbeats 8000000 in
set_option maxRecDepth 100000 in
theorem y_first {l : Launch} {D : va_G} {ad : Nat → Nat} {cJ cI cZ : ClassId} {bm : gBM} {pa : gPA} {p0 p1 p2 : gPL} {li : gLI} {wi : gWI} {mt : Nat} {ms : gMS} {ma : gMA} {mp : gMP} {mk : gMK} {mn : gMN} {ou : Nat → Int64}  (ok_ms_parts : ms.2.2.1 ≤ 40) (ok_mp_turns : ∀ i, mp.2.2 i < 40) (ok_ma_sides : ∀ i, ma.2.2.1 i < 40)   : bm_Wx l yX5_firstOverlap wsX5_firstOverlap ({ frames := 3, cells := 0, slots := 0, locals := 67 }) D vwCl [(cJ, .long), (cI, .int), (cZ, .boolean)] (WW ad cJ cI cZ bm pa p0 p1 p2 li wi mt ms ma mp mk mn ou) [.ref (ad 42)] (fun ws9 r9 => ws9 = (WW ad cJ cI cZ bm pa p0 p1 p2 li wi mt ms ma mp mk mn ou) ∧ (r9 = some (.int (-1)) ∨ ∃ k9 : Nat, k9 < 1600 ∧ r9 = some (.int (nI k9)))) := by
  intro sz
  refine Met.ofW (cc := cX5_firstOverlap) (maxL := 4) (ret := (some .int)) (by decide) rfl ?_
  intro p e s m args below meth c s₁ B hml hv
  obtain ⟨ha, hsz, hP, hK, hD0⟩ := hv
  have hx := B.exec
  have hb := B.bytes
  have hr := B.returns
  have hts := atoms_spec (ws := wsX5_firstOverlap) B.pre
  have hown : s.vm.findClass RX5 = some m.cls := findClass_of_methodNamed B.named
  have hlocks := B.notSynchronized
  subst hsz
  have hD := hD0.self (sz := s.heap.size)
  generalize hAe : va_A (WW ad cJ cI cZ bm pa p0 p1 p2 li wi mt ms ma mp mk mn ou) s.heap.size = A at hD ⊢
  have hA : ∀ q : Nat, s.heap.size ≤ q → A q := fun q h => by rw [← hAe]; exact Or.inr h
  have hS : va_S A s.heap s.heap [] := va_S.rf
  have hl := lv_entry ([.ref (ad 42)]) (n := 4) (Nat.le_of_ble_eq_true rfl)
  refine W.eq (g2 := entryFrame m ([.ref (ad 42)] : List Value).toArray 4) (by rw [ha]) ?_
  rw [lg_entry_eq]
  generalize (lg_sl ([.ref (ad 42)]) ++ List.replicate (4 - (lg_sl ([.ref (ad 42)])).length) Slot.unset).toArray = ls at hl ⊢
  have hl : lv_has ls 4 [(0, .ref (ad 42))] := hl
  refine lv_iconst (v := nI 0) hx hb dX5_firstOverlap_0 (by decide) ?_
  refine lv_istore_n (lv' := [(1, .int (nI 0)), (0, .ref (ad 42))]) hx hb dX5_firstOverlap_1 rfl hl (by decide) rfl (fun ls hl => ?_)
  have lp_1 : ∀ (k_3 : Nat) (i_2 : Nat) , i_2 ≤ ms.2.2.1 → ms.2.2.1 < i_2 + k_3 → ∀ (H : Heap) (locs : List Loc), va_P D vwCl (WW ad cJ cI cZ bm pa p0 p1 p2 li wi mt ms ma mp mk mn ou) H → va_D A (WW ad cJ cI cZ bm pa p0 p1 p2 li wi mt ms ma mp mk mn ou) → va_S A s.heap H locs → ∀ (ls : Array Slot), lv_has ls 4 [(1, .int (nI i_2)), (0, .ref (ad 42))] → W p l e (headSpec wsX5_firstOverlap ({ frames := 3, cells := 0, slots := 0, locals := 67 })).room s m args below meth c H locs 0 0 (MQ below (bm_Wxq D vwCl [(cJ, .long), (cI, .int), (cZ, .boolean)] (fun ws9 r9 => ws9 = (WW ad cJ cI cZ bm pa p0 p1 p2 li wi mt ms ma mp mk mn ou) ∧ (r9 = some (.int (-1)) ∨ ∃ k9 : Nat, k9 < 1600 ∧ r9 = some (.int (nI k9)))) A) args s 0 0 A) (F0 m 2 ls []) := by
    intro k_3
    induction k_3 with
    | zero => intro i_2 hi_5 hk_6; exfalso; omega
    | succ k_3 ih_4 =>
      intro i_2 hi_5 hk_6  H locs hP hD hS ls hl
      refine lv_iload_n hx hb dX5_firstOverlap_2 rfl (lv_at hl 0 rfl) ?_
      refine lv_aload_n hx hb dX5_firstOverlap_3 rfl (lv_at hl 1 rfl) ?_
      refine va_get (D := D) (ci := 5) (v := .int (nI ms.2.2.1)) (C := RX5) (T := TX5) (N := 28) hx hb hts (inT inX5) hown hK hP 42 ww_42 rfl 3 (by decide) (hts (.fieldLink RX5 85 "BoardMovesModel" "parts" "I") (List.mem_cons_of_mem _ flX5_85)) (fun _ h9 => h9) rfl dX5_firstOverlap_4 ?_
      refine bm_ni_ge (x := i_2) (y := ms.2.2.1) (tgt := 112) hx hb (by omega) (by omega) dX5_firstOverlap_7 (by decide) (fun c_7 => ?_) (fun c_7 => ?_)
      · refine lv_iconst (v := -1) hx hb dX5_firstOverlap_112 (by decide) ?_
        exact bm_iretX (v := (-1)) hx hb hr hP hD hK hS ⟨rfl, Or.inl rfl⟩ dX5_firstOverlap_113 hlocks
      · refine lv_iload_n hx hb dX5_firstOverlap_10 rfl (lv_at hl 0 rfl) ?_
        refine lv_iconst (v := nI 1) hx hb dX5_firstOverlap_11 (by decide) ?_
        refine bm_nadd hx hb dX5_firstOverlap_12 ?_
        refine lv_istore_n (lv' := [(2, .int (nI (i_2 + 1))), (1, .int (nI i_2)), (0, .ref (ad 42))]) hx hb dX5_firstOverlap_13 rfl hl (by decide) rfl (fun ls hl => ?_)
        have lp_8 : ∀ (k_10 : Nat) (i_9 : Nat) , i_9 ≤ ms.2.2.1 → ms.2.2.1 < i_9 + k_10 → ∀ (H : Heap) (locs : List Loc), va_P D vwCl (WW ad cJ cI cZ bm pa p0 p1 p2 li wi mt ms ma mp mk mn ou) H → va_D A (WW ad cJ cI cZ bm pa p0 p1 p2 li wi mt ms ma mp mk mn ou) → va_S A s.heap H locs → ∀ (ls : Array Slot), lv_has ls 4 [(2, .int (nI i_9)), (1, .int (nI i_2)), (0, .ref (ad 42))] → W p l e (headSpec wsX5_firstOverlap ({ frames := 3, cells := 0, slots := 0, locals := 67 })).room s m args below meth c H locs 0 0 (MQ below (bm_Wxq D vwCl [(cJ, .long), (cI, .int), (cZ, .boolean)] (fun ws9 r9 => ws9 = (WW ad cJ cI cZ bm pa p0 p1 p2 li wi mt ms ma mp mk mn ou) ∧ (r9 = some (.int (-1)) ∨ ∃ k9 : Nat, k9 < 1600 ∧ r9 = some (.int (nI k9)))) A) args s 0 0 A) (F0 m 14 ls []) := by
          intro k_10
          induction k_10 with
          | zero => intro i_9 hi_12 hk_13; exfalso; omega
          | succ k_10 ih_11 =>
            intro i_9 hi_12 hk_13  H locs hP hD hS ls hl
            refine lv_iload_n hx hb dX5_firstOverlap_14 rfl (lv_at hl 0 rfl) ?_
            refine lv_aload_n hx hb dX5_firstOverlap_15 rfl (lv_at hl 2 rfl) ?_
            refine va_get (D := D) (ci := 5) (v := .int (nI ms.2.2.1)) (C := RX5) (T := TX5) (N := 28) hx hb hts (inT inX5) hown hK hP 42 ww_42 rfl 3 (by decide) (hts (.fieldLink RX5 85 "BoardMovesModel" "parts" "I") (List.mem_cons_of_mem _ flX5_85)) (fun _ h9 => h9) rfl dX5_firstOverlap_16 ?_
            refine bm_ni_ge (x := i_9) (y := ms.2.2.1) (tgt := 106) hx hb (by omega) (by omega) dX5_firstOverlap_19 (by decide) (fun c_14 => ?_) (fun c_14 => ?_)
            · refine lv_iinc (v := (nI (i_2 + 1))) (lv' := [(1, .int (nI (i_2 + 1))), (2, .int (nI i_9)), (0, .ref (ad 42))]) hx hb dX5_firstOverlap_106 hl (k := 1) rfl (nI_1 i_2) (by decide) rfl (fun ls hl => ?_)
              refine lv_goto (tgt := 2) hx hb dX5_firstOverlap_109 (by decide) ?_
              exact ih_4 (i_2 + 1) (by omega) (by omega)  _ _ hP hD hS _ (lv_sub hl [0, 2] rfl)
            · refine lv_aload_n hx hb dX5_firstOverlap_22 rfl (lv_at hl 2 rfl) ?_
              refine va_get (D := D) (ci := 5) (v := .ref (ad 49)) (C := RX5) (T := TX5) (N := 28) hx hb hts (inT inX5) hown hK hP 42 ww_42 rfl 10 (by decide) (hts (.fieldLink RX5 30 "BoardMovesModel" "placed" "[Z") (List.mem_cons_of_mem _ flX5_30)) (fun _ h9 => h9) rfl dX5_firstOverlap_23 ?_
              refine lv_iload_n hx hb dX5_firstOverlap_26 rfl (lv_at hl 1 rfl) ?_
              refine bm_zald (f := ma.2.2.2.2.2.2) hx hb hK hP 49 2 ww_49 rfl (j := i_2) (by omega) (by decide) dX5_firstOverlap_27 ?_
              refine bm_zb_eq (x := (ma.2.2.2.2.2.2 i_2)) (tgt := 59) hx hb dX5_firstOverlap_28 (by decide) (fun c_15 => ?_) (fun c_15 => ?_)
              · refine lv_iconst (v := bm_b false) hx hb dX5_firstOverlap_59 (by decide) ?_
                refine lv_istore_n (lv' := [(3, .int (bm_b false)), (2, .int (nI i_9)), (1, .int (nI i_2)), (0, .ref (ad 42))]) hx hb dX5_firstOverlap_60 rfl hl (by decide) rfl (fun ls hl => ?_)
                refine lv_iload_n hx hb dX5_firstOverlap_61 rfl (lv_at hl 0 rfl) ?_
                refine bm_zb_eq (x := false) (tgt := 100) hx hb dX5_firstOverlap_62 (by decide) (fun c_16 => ?_) (fun c_16 => ?_)
                · refine lv_iinc (v := (nI (i_9 + 1))) (lv' := [(2, .int (nI (i_9 + 1))), (3, .int (bm_b false)), (1, .int (nI i_2)), (0, .ref (ad 42))]) hx hb dX5_firstOverlap_100 hl (k := 1) rfl (nI_1 i_9) (by decide) rfl (fun ls hl => ?_)
                  refine lv_goto (tgt := 14) hx hb dX5_firstOverlap_103 (by decide) ?_
                  exact ih_11 (i_9 + 1) (by omega) (by omega)  _ _ hP hD hS _ (lv_sub hl [0, 2, 3] rfl)
                · exact absurd c_16 (by decide)
              · refine lv_aload_n hx hb dX5_firstOverlap_31 rfl (lv_at hl 2 rfl) ?_
                refine va_get (D := D) (ci := 5) (v := .ref (ad 49)) (C := RX5) (T := TX5) (N := 28) hx hb hts (inT inX5) hown hK hP 42 ww_42 rfl 10 (by decide) (hts (.fieldLink RX5 30 "BoardMovesModel" "placed" "[Z") (List.mem_cons_of_mem _ flX5_30)) (fun _ h9 => h9) rfl dX5_firstOverlap_32 ?_
                refine lv_iload_n hx hb dX5_firstOverlap_35 rfl (lv_at hl 0 rfl) ?_
                refine bm_zald (f := ma.2.2.2.2.2.2) hx hb hK hP 49 2 ww_49 rfl (j := i_9) (by omega) (by decide) dX5_firstOverlap_36 ?_
                refine bm_zb_eq (x := (ma.2.2.2.2.2.2 i_9)) (tgt := 59) hx hb dX5_firstOverlap_37 (by decide) (fun c_17 => ?_) (fun c_17 => ?_)
                · refine lv_iconst (v := bm_b false) hx hb dX5_firstOverlap_59 (by decide) ?_
                  refine lv_istore_n (lv' := [(3, .int (bm_b false)), (2, .int (nI i_9)), (1, .int (nI i_2)), (0, .ref (ad 42))]) hx hb dX5_firstOverlap_60 rfl hl (by decide) rfl (fun ls hl => ?_)
                  refine lv_iload_n hx hb dX5_firstOverlap_61 rfl (lv_at hl 0 rfl) ?_
                  refine bm_zb_eq (x := false) (tgt := 100) hx hb dX5_firstOverlap_62 (by decide) (fun c_18 => ?_) (fun c_18 => ?_)
                  · refine lv_iinc (v := (nI (i_9 + 1))) (lv' := [(2, .int (nI (i_9 + 1))), (3, .int (bm_b false)), (1, .int (nI i_2)), (0, .ref (ad 42))]) hx hb dX5_firstOverlap_100 hl (k := 1) rfl (nI_1 i_9) (by decide) rfl (fun ls hl => ?_)
                    refine lv_goto (tgt := 14) hx hb dX5_firstOverlap_103 (by decide) ?_
                    exact ih_11 (i_9 + 1) (by omega) (by omega)  _ _ hP hD hS _ (lv_sub hl [0, 2, 3] rfl)
                  · exact absurd c_18 (by decide)
                · refine lv_aload_n hx hb dX5_firstOverlap_40 rfl (lv_at hl 2 rfl) ?_
                  refine va_get (D := D) (ci := 5) (v := .ref (ad 45)) (C := RX5) (T := TX5) (N := 28) hx hb hts (inT inX5) hown hK hP 42 ww_42 rfl 6 (by decide) (hts (.fieldLink RX5 16 "BoardMovesModel" "sides" "[I") (List.mem_cons_of_mem _ flX5_16)) (fun _ h9 => h9) rfl dX5_firstOverlap_41 ?_
                  refine lv_iload_n hx hb dX5_firstOverlap_44 rfl (lv_at hl 1 rfl) ?_
                  refine bm_nald (f := ma.2.2.1) hx hb hK hP 45 1 ww_45 rfl (j := i_2) (by omega) (by decide) dX5_firstOverlap_45 ?_
                  refine lv_aload_n hx hb dX5_firstOverlap_46 rfl (lv_at hl 2 rfl) ?_
                  refine va_get (D := D) (ci := 5) (v := .ref (ad 45)) (C := RX5) (T := TX5) (N := 28) hx hb hts (inT inX5) hown hK hP 42 ww_42 rfl 6 (by decide) (hts (.fieldLink RX5 16 "BoardMovesModel" "sides" "[I") (List.mem_cons_of_mem _ flX5_16)) (fun _ h9 => h9) rfl dX5_firstOverlap_47 ?_
                  refine lv_iload_n hx hb dX5_firstOverlap_50 rfl (lv_at hl 0 rfl) ?_
                  refine bm_nald (f := ma.2.2.1) hx hb hK hP 45 1 ww_45 rfl (j := i_9) (by omega) (by decide) dX5_firstOverlap_51 ?_
                  refine bm_ni_ne (x := (ma.2.2.1 i_2)) (y := (ma.2.2.1 i_9)) (tgt := 59) hx hb (bm40 (ok_ma_sides _)) (bm40 (ok_ma_sides _)) dX5_firstOverlap_52 (by decide) (fun c_19 => ?_) (fun c_19 => ?_)
                  · refine lv_iconst (v := bm_b false) hx hb dX5_firstOverlap_59 (by decide) ?_
                    refine lv_istore_n (lv' := [(3, .int (bm_b false)), (2, .int (nI i_9)), (1, .int (nI i_2)), (0, .ref (ad 42))]) hx hb dX5_firstOverlap_60 rfl hl (by decide) rfl (fun ls hl => ?_)
                    refine lv_iload_n hx hb dX5_firstOverlap_61 rfl (lv_at hl 0 rfl) ?_
                    refine bm_zb_eq (x := false) (tgt := 100) hx hb dX5_firstOverlap_62 (by decide) (fun c_20 => ?_) (fun c_20 => ?_)
                    · refine lv_iinc (v := (nI (i_9 + 1))) (lv' := [(2, .int (nI (i_9 + 1))), (3, .int (bm_b false)), (1, .int (nI i_2)), (0, .ref (ad 42))]) hx hb dX5_firstOverlap_100 hl (k := 1) rfl (nI_1 i_9) (by decide) rfl (fun ls hl => ?_)
                      refine lv_goto (tgt := 14) hx hb dX5_firstOverlap_103 (by decide) ?_
                      exact ih_11 (i_9 + 1) (by omega) (by omega)  _ _ hP hD hS _ (lv_sub hl [0, 2, 3] rfl)
                    · exact absurd c_20 (by decide)
                  · refine lv_iconst (v := bm_b true) hx hb dX5_firstOverlap_55 (by decide) ?_
                    refine lv_goto (tgt := 60) hx hb dX5_firstOverlap_56 (by decide) ?_
                    refine lv_istore_n (lv' := [(3, .int (bm_b true)), (2, .int (nI i_9)), (1, .int (nI i_2)), (0, .ref (ad 42))]) hx hb dX5_firstOverlap_60 rfl hl (by decide) rfl (fun ls hl => ?_)
                    refine lv_iload_n hx hb dX5_firstOverlap_61 rfl (lv_at hl 0 rfl) ?_
                    refine bm_zb_eq (x := true) (tgt := 100) hx hb dX5_firstOverlap_62 (by decide) (fun c_21 => ?_) (fun c_21 => ?_)
                    · exact absurd c_21 (by decide)
                    · refine lv_aload_n hx hb dX5_firstOverlap_65 rfl (lv_at hl 3 rfl) ?_
                      refine va_get (D := D) (ci := 5) (v := .ref (ad 61)) (C := RX5) (T := TX5) (N := 28) hx hb hts (inT inX5) hown hK hP 42 ww_42 rfl 26 (by decide) (hts (.fieldLink RX5 66 "BoardMovesModel" "moved" "[Z") (List.mem_cons_of_mem _ flX5_66)) (fun _ h9 => h9) rfl dX5_firstOverlap_66 ?_
                      refine lv_iload_n hx hb dX5_firstOverlap_69 rfl (lv_at hl 2 rfl) ?_
                      refine bm_zald (f := mn.2.2.2.2) hx hb hK hP 61 2 ww_61 rfl (j := i_2) (by omega) (by decide) dX5_firstOverlap_70 ?_
                      refine bm_zb_ne (x := (mn.2.2.2.2 i_2)) (tgt := 83) hx hb dX5_firstOverlap_71 (by decide) (fun c_22 => ?_) (fun c_22 => ?_)
                      · refine lv_aload_n hx hb dX5_firstOverlap_83 rfl (lv_at hl 3 rfl) ?_
                        refine lv_iconst (v := nI 1) hx hb dX5_firstOverlap_84 (by decide) ?_
                        refine lv_iload_n hx hb dX5_firstOverlap_85 rfl (lv_at hl 2 rfl) ?_
                        refine lv_iload_n hx hb dX5_firstOverlap_86 rfl (lv_at hl 1 rfl) ?_
                        refine bm_xcallV (As := [.int (nI 1), .int (nI i_2), .int (nI i_9)]) (rest := []) ⟨hx, hb, hml, hown, hts⟩ (y_overlap  (zr := 1) (zp := i_2) (zq := i_9) ok_mp_turns (by omega) (by omega) (by omega)) (cwV 3 hts gvX5_122 rfl rfl rfl hvX5_overlap ⟨Nat.le_of_ble_eq_true rfl, Nat.le_of_ble_eq_true rfl⟩) hK hP hD hS hA 42 5 rfl ww_42 rfl hl.1 rfl (Nat.le_of_ble_eq_true rfl) dX5_firstOverlap_87 ⟨Nat.le_of_ble_eq_true rfl, Nat.le_of_ble_eq_true rfl⟩ (fun ws_23 r_24 h_25 H locs hP hD hS => ?_)
                        obtain ⟨rfl, v_26, rfl⟩ := h_25
                        have hP : va_P D vwCl (WW ad cJ cI cZ bm pa p0 p1 p2 li wi mt ms ma mp mk mn ou) H := hP
                        have hD : va_D A (WW ad cJ cI cZ bm pa p0 p1 p2 li wi mt ms ma mp mk mn ou) := hD
                        refine bm_zb_eq (x := v_26) (tgt := 100) hx hb dX5_firstOverlap_90 (by decide) (fun c_27 => ?_) (fun c_27 => ?_)
                        · refine lv_iinc (v := (nI (i_9 + 1))) (lv' := [(2, .int (nI (i_9 + 1))), (3, .int (bm_b true)), (1, .int (nI i_2)), (0, .ref (ad 42))]) hx hb dX5_firstOverlap_100 hl (k := 1) rfl (nI_1 i_9) (by decide) rfl (fun ls hl => ?_)
                          refine lv_goto (tgt := 14) hx hb dX5_firstOverlap_103 (by decide) ?_
                          exact ih_11 (i_9 + 1) (by omega) (by omega)  _ _ hP hD hS _ (lv_sub hl [0, 2, 3] rfl)
                        · refine lv_bipush (v := nI 40) hx hb dX5_firstOverlap_93 (by decide) ?_
                          refine lv_iload_n hx hb dX5_firstOverlap_95 rfl (lv_at hl 2 rfl) ?_
                          refine bm_nmul hx hb dX5_firstOverlap_96 ?_
                          refine lv_iload_n hx hb dX5_firstOverlap_97 rfl (lv_at hl 1 rfl) ?_
                          refine bm_nadd hx hb dX5_firstOverlap_98 ?_
                          exact bm_iretX (v := (nI ((40 * i_2) + i_9))) hx hb hr hP hD hK hS ⟨rfl, Or.inr ⟨(40 * i_2) + i_9, (by omega), rfl⟩⟩ dX5_firstOverlap_99 hlocks
                      · refine lv_aload_n hx hb dX5_firstOverlap_74 rfl (lv_at hl 3 rfl) ?_
                        refine va_get (D := D) (ci := 5) (v := .ref (ad 61)) (C := RX5) (T := TX5) (N := 28) hx hb hts (inT inX5) hown hK hP 42 ww_42 rfl 26 (by decide) (hts (.fieldLink RX5 66 "BoardMovesModel" "moved" "[Z") (List.mem_cons_of_mem _ flX5_66)) (fun _ h9 => h9) rfl dX5_firstOverlap_75 ?_
                        refine lv_iload_n hx hb dX5_firstOverlap_78 rfl (lv_at hl 1 rfl) ?_
                        refine bm_zald (f := mn.2.2.2.2) hx hb hK hP 61 2 ww_61 rfl (j := i_9) (by omega) (by decide) dX5_firstOverlap_79 ?_
                        refine bm_zb_eq (x := (mn.2.2.2.2 i_9)) (tgt := 100) hx hb dX5_firstOverlap_80 (by decide) (fun c_28 => ?_) (fun c_28 => ?_)
                        · refine lv_iinc (v := (nI (i_9 + 1))) (lv' := [(2, .int (nI (i_9 + 1))), (3, .int (bm_b true)), (1, .int (nI i_2)), (0, .ref (ad 42))]) hx hb dX5_firstOverlap_100 hl (k := 1) rfl (nI_1 i_9) (by decide) rfl (fun ls hl => ?_)
                          refine lv_goto (tgt := 14) hx hb dX5_firstOverlap_103 (by decide) ?_
                          exact ih_11 (i_9 + 1) (by omega) (by omega)  _ _ hP hD hS _ (lv_sub hl [0, 2, 3] rfl)
                        · refine lv_aload_n hx hb dX5_firstOverlap_83 rfl (lv_at hl 3 rfl) ?_
                          refine lv_iconst (v := nI 1) hx hb dX5_firstOverlap_84 (by decide) ?_
                          refine lv_iload_n hx hb dX5_firstOverlap_85 rfl (lv_at hl 2 rfl) ?_
                          refine lv_iload_n hx hb dX5_firstOverlap_86 rfl (lv_at hl 1 rfl) ?_
                          refine bm_xcallV (As := [.int (nI 1), .int (nI i_2), .int (nI i_9)]) (rest := []) ⟨hx, hb, hml, hown, hts⟩ (y_overlap  (zr := 1) (zp := i_2) (zq := i_9) ok_mp_turns (by omega) (by omega) (by omega)) (cwV 3 hts gvX5_122 rfl rfl rfl hvX5_overlap ⟨Nat.le_of_ble_eq_true rfl, Nat.le_of_ble_eq_true rfl⟩) hK hP hD hS hA 42 5 rfl ww_42 rfl hl.1 rfl (Nat.le_of_ble_eq_true rfl) dX5_firstOverlap_87 ⟨Nat.le_of_ble_eq_true rfl, Nat.le_of_ble_eq_true rfl⟩ (fun ws_29 r_30 h_31 H locs hP hD hS => ?_)
                          obtain ⟨rfl, v_32, rfl⟩ := h_31
                          have hP : va_P D vwCl (WW ad cJ cI cZ bm pa p0 p1 p2 li wi mt ms ma mp mk mn ou) H := hP
                          have hD : va_D A (WW ad cJ cI cZ bm pa p0 p1 p2 li wi mt ms ma mp mk mn ou) := hD
                          refine bm_zb_eq (x := v_32) (tgt := 100) hx hb dX5_firstOverlap_90 (by decide) (fun c_33 => ?_) (fun c_33 => ?_)
                          · refine lv_iinc (v := (nI (i_9 + 1))) (lv' := [(2, .int (nI (i_9 + 1))), (3, .int (bm_b true)), (1, .int (nI i_2)), (0, .ref (ad 42))]) hx hb dX5_firstOverlap_100 hl (k := 1) rfl (nI_1 i_9) (by decide) rfl (fun ls hl => ?_)
                            refine lv_goto (tgt := 14) hx hb dX5_firstOverlap_103 (by decide) ?_
                            exact ih_11 (i_9 + 1) (by omega) (by omega)  _ _ hP hD hS _ (lv_sub hl [0, 2, 3] rfl)
                          · refine lv_bipush (v := nI 40) hx hb dX5_firstOverlap_93 (by decide) ?_
                            refine lv_iload_n hx hb dX5_firstOverlap_95 rfl (lv_at hl 2 rfl) ?_
                            refine bm_nmul hx hb dX5_firstOverlap_96 ?_
                            refine lv_iload_n hx hb dX5_firstOverlap_97 rfl (lv_at hl 1 rfl) ?_
                            refine bm_nadd hx hb dX5_firstOverlap_98 ?_
                            exact bm_iretX (v := (nI ((40 * i_2) + i_9))) hx hb hr hP hD hK hS ⟨rfl, Or.inr ⟨(40 * i_2) + i_9, (by omega), rfl⟩⟩ dX5_firstOverlap_99 hlocks
        exact lp_8 (ms.2.2.1 + 1) (i_2 + 1) (by omega) (by omega)  _ _ hP hD hS _ (lv_sub hl [0, 1, 2] rfl)
  exact lp_1 (ms.2.2.1 + 1) 0 (by omega) (by omega)  _ _ hP hD hS _ (lv_sub hl [0, 1] rfl)

set_option maxHeartbeats 8000000 in
set_option maxRecDepth 100000 in
theorem y_goOn {l : Launch} {D : va_G} {ad : Nat → Nat} {cJ cI cZ : ClassId} {bm : gBM} {pa : gPA} {p0 p1 p2 : gPL} {li : gLI} {wi : gWI} {mt : Nat} {ms : gMS} {ma : gMA} {mp : gMP} {mk : gMK} {mn : gMN} {ou : Nat → Int64} {zp : Nat} {zq : Nat} {zw : Nat} (ok_ms_parts : ms.2.2.1 ≤ 40) (ok_ma_groups : ∀ i, ma.2.2.2.2.2.1 i < 40) (ok_mp_turns : ∀ i, mp.2.2 i < 40) (hp0 : zp < 40) (hp1 : zq < 40) (hp2 : zw < 4)  : bm_Wx l yX5_goOn wsX5_goOn ({ frames := 2, cells := 0, slots := 0, locals := 44 }) D vwCl [(cJ, .long), (cI, .int), (cZ, .boolean)] (WW ad cJ cI cZ bm pa p0 p1 p2 li wi mt ms ma mp mk mn ou) [.ref (ad 42), .int (nI zp), .int (nI zq), .int (nI zw)] (fun ws9 r9 => ∃ (e0 : Nat → Int64) (e1 : Nat → Int64) (e2 : Nat → Bool) , ws9 = (WW ad cJ cI cZ bm pa p0 p1 p2 li wi mt ms ma (e0, e1, mp.2.2) mk (mn.1, mn.2.1, mn.2.2.1, mn.2.2.2.1, e2) ou) ∧ r9 = none) := by
  intro sz
  refine Met.ofW (cc := cX5_goOn) (maxL := 4) (ret := none) (by decide) rfl ?_
  intro p e s m args below meth c s₁ B hml hv
  obtain ⟨ha, hsz, hP, hK, hD0⟩ := hv
  have hx := B.exec
  have hb := B.bytes
  have hr := B.returns
  have hts := atoms_spec (ws := wsX5_goOn) B.pre
  have hown : s.vm.findClass RX5 = some m.cls := findClass_of_methodNamed B.named
  have hlocks := B.notSynchronized
  subst hsz
  have hD := hD0.self (sz := s.heap.size)
  generalize hAe : va_A (WW ad cJ cI cZ bm pa p0 p1 p2 li wi mt ms ma mp mk mn ou) s.heap.size = A at hD ⊢
  have hA : ∀ q : Nat, s.heap.size ≤ q → A q := fun q h => by rw [← hAe]; exact Or.inr h
  have hS : va_S A s.heap s.heap [] := va_S.rf
  have hl := lv_entry ([.ref (ad 42), .int (nI zp), .int (nI zq), .int (nI zw)]) (n := 4) (Nat.le_of_ble_eq_true rfl)
  refine W.eq (g2 := entryFrame m ([.ref (ad 42), .int (nI zp), .int (nI zq), .int (nI zw)] : List Value).toArray 4) (by rw [ha]) ?_
  rw [lg_entry_eq]
  generalize (lg_sl ([.ref (ad 42), .int (nI zp), .int (nI zq), .int (nI zw)]) ++ List.replicate (4 - (lg_sl ([.ref (ad 42), .int (nI zp), .int (nI zq), .int (nI zw)])).length) Slot.unset).toArray = ls at hl ⊢
  have hl : lv_has ls 4 [(0, .ref (ad 42)), (1, .int (nI zp)), (2, .int (nI zq)), (3, .int (nI zw))] := hl
  refine lv_iload_n hx hb dX5_goOn_0 rfl (lv_at hl 3 rfl) ?_
  refine bm_nz_ne (x := zw) (tgt := 26) hx hb (by omega) dX5_goOn_1 (by decide) (fun c_1 => ?_) (fun c_1 => ?_)
  · refine lv_iload_n hx hb dX5_goOn_26 rfl (lv_at hl 3 rfl) ?_
    refine lv_iconst (v := nI 1) hx hb dX5_goOn_27 (by decide) ?_
    refine bm_ni_ne (x := zw) (y := 1) (tgt := 53) hx hb (by omega) (by omega) dX5_goOn_28 (by decide) (fun c_2 => ?_) (fun c_2 => ?_)
    · refine lv_iload_n hx hb dX5_goOn_53 rfl (lv_at hl 3 rfl) ?_
      refine lv_iconst (v := nI 2) hx hb dX5_goOn_54 (by decide) ?_
      refine bm_ni_ne (x := zw) (y := 2) (tgt := 80) hx hb (by omega) (by omega) dX5_goOn_55 (by decide) (fun c_3 => ?_) (fun c_3 => ?_)
      · refine lv_aload_n hx hb dX5_goOn_80 rfl (lv_at hl 0 rfl) ?_
        refine lv_iload_n hx hb dX5_goOn_81 rfl (lv_at hl 1 rfl) ?_
        refine lv_lconst (v := 0) hx hb dX5_goOn_82 (by decide) ?_
        refine lv_aload_n hx hb dX5_goOn_83 rfl (lv_at hl 0 rfl) ?_
        refine lv_iconst (v := nI 1) hx hb dX5_goOn_84 (by decide) ?_
        refine lv_iload_n hx hb dX5_goOn_85 rfl (lv_at hl 2 rfl) ?_
        refine bm_xcallV (As := [.int (nI 1), .int (nI zq)]) (rest := [.long 0, .int (nI zp), .ref (ad 42)]) ⟨hx, hb, hml, hown, hts⟩ (y_low  (zr := 1) (zp := zq)  (by omega) (by omega)) (cwV 2 hts gvX5_100 rfl rfl rfl hvX5_low ⟨Nat.le_of_ble_eq_true rfl, Nat.le_of_ble_eq_true rfl⟩) hK hP hD hS hA 42 5 rfl ww_42 rfl hl.1 rfl (Nat.le_of_ble_eq_true rfl) dX5_goOn_86 ⟨Nat.le_of_ble_eq_true rfl, Nat.le_of_ble_eq_true rfl⟩ (fun ws_4 r_5 h_6 H locs hP hD hS => ?_)
        obtain ⟨rfl, v_7, rfl⟩ := h_6
        have hP : va_P D vwCl (WW ad cJ cI cZ bm pa p0 p1 p2 li wi mt ms ma mp mk mn ou) H := hP
        have hD : va_D A (WW ad cJ cI cZ bm pa p0 p1 p2 li wi mt ms ma mp mk mn ou) := hD
        refine lv_aload_n hx hb dX5_goOn_89 rfl (lv_at hl 0 rfl) ?_
        refine lv_iconst (v := nI 1) hx hb dX5_goOn_90 (by decide) ?_
        refine lv_iload_n hx hb dX5_goOn_91 rfl (lv_at hl 1 rfl) ?_
        refine bm_xcallV (As := [.int (nI 1), .int (nI zp)]) (rest := [.long v_7, .long 0, .int (nI zp), .ref (ad 42)]) ⟨hx, hb, hml, hown, hts⟩ (y_top  (zr := 1) (zp := zp) ok_mp_turns (by omega) (by omega)) (cwV 2 hts gvX5_106 rfl rfl rfl hvX5_top ⟨Nat.le_of_ble_eq_true rfl, Nat.le_of_ble_eq_true rfl⟩) hK hP hD hS hA 42 5 rfl ww_42 rfl hl.1 rfl (Nat.le_of_ble_eq_true rfl) dX5_goOn_92 ⟨Nat.le_of_ble_eq_true rfl, Nat.le_of_ble_eq_true rfl⟩ (fun ws_8 r_9 h_10 H locs hP hD hS => ?_)
        obtain ⟨rfl, v_11, rfl⟩ := h_10
        have hP : va_P D vwCl (WW ad cJ cI cZ bm pa p0 p1 p2 li wi mt ms ma mp mk mn ou) H := hP
        have hD : va_D A (WW ad cJ cI cZ bm pa p0 p1 p2 li wi mt ms ma mp mk mn ou) := hD
        refine lv_lsub hx hb dX5_goOn_95 ?_
        refine lv_topl (fun t_12 _ => ?_)
        refine bm_xcallV (As := [.int (nI zp), .long 0, .long t_12]) (rest := []) ⟨hx, hb, hml, hown, hts⟩ (y_go  (zp := zp) (z1 := 0) (z2 := t_12) ok_ms_parts ok_ma_groups (by omega)) (cwV 3 hts gvX5_149 rfl rfl rfl hvX5_go ⟨Nat.le_of_ble_eq_true rfl, Nat.le_of_ble_eq_true rfl⟩) hK hP hD hS hA 42 5 rfl ww_42 rfl hl.1 rfl (Nat.le_of_ble_eq_true rfl) dX5_goOn_96 ⟨Nat.le_of_ble_eq_true rfl, Nat.le_of_ble_eq_true rfl⟩ (fun ws_13 r_14 h_15 H locs hP hD hS => ?_)
        obtain ⟨g_16, g_17, g_18, rfl, rfl⟩ := h_15
        have hP : va_P D vwCl (WW ad cJ cI cZ bm pa p0 p1 p2 li wi mt ms ma (g_16, g_17, mp.2.2) mk (mn.1, mn.2.1, mn.2.2.1, mn.2.2.2.1, g_18) ou) H := hP
        have hD : va_D A (WW ad cJ cI cZ bm pa p0 p1 p2 li wi mt ms ma (g_16, g_17, mp.2.2) mk (mn.1, mn.2.1, mn.2.2.1, mn.2.2.2.1, g_18) ou) := hD
        exact bm_vretX hx hb hr hP hD hK hS ⟨g_16, g_17, g_18, rfl, rfl⟩ dX5_goOn_99 hlocks
      · refine lv_aload_n hx hb dX5_goOn_58 rfl (lv_at hl 0 rfl) ?_
        refine lv_iload_n hx hb dX5_goOn_59 rfl (lv_at hl 1 rfl) ?_
        refine lv_lconst (v := 0) hx hb dX5_goOn_60 (by decide) ?_
        refine lv_aload_n hx hb dX5_goOn_61 rfl (lv_at hl 0 rfl) ?_
        refine lv_iconst (v := nI 1) hx hb dX5_goOn_62 (by decide) ?_
        refine lv_iload_n hx hb dX5_goOn_63 rfl (lv_at hl 2 rfl) ?_
        refine bm_xcallV (As := [.int (nI 1), .int (nI zq)]) (rest := [.long 0, .int (nI zp), .ref (ad 42)]) ⟨hx, hb, hml, hown, hts⟩ (y_top  (zr := 1) (zp := zq) ok_mp_turns (by omega) (by omega)) (cwV 2 hts gvX5_106 rfl rfl rfl hvX5_top ⟨Nat.le_of_ble_eq_true rfl, Nat.le_of_ble_eq_true rfl⟩) hK hP hD hS hA 42 5 rfl ww_42 rfl hl.1 rfl (Nat.le_of_ble_eq_true rfl) dX5_goOn_64 ⟨Nat.le_of_ble_eq_true rfl, Nat.le_of_ble_eq_true rfl⟩ (fun ws_19 r_20 h_21 H locs hP hD hS => ?_)
        obtain ⟨rfl, v_22, rfl⟩ := h_21
        have hP : va_P D vwCl (WW ad cJ cI cZ bm pa p0 p1 p2 li wi mt ms ma mp mk mn ou) H := hP
        have hD : va_D A (WW ad cJ cI cZ bm pa p0 p1 p2 li wi mt ms ma mp mk mn ou) := hD
        refine lv_aload_n hx hb dX5_goOn_67 rfl (lv_at hl 0 rfl) ?_
        refine lv_iconst (v := nI 1) hx hb dX5_goOn_68 (by decide) ?_
        refine lv_iload_n hx hb dX5_goOn_69 rfl (lv_at hl 1 rfl) ?_
        refine bm_xcallV (As := [.int (nI 1), .int (nI zp)]) (rest := [.long v_22, .long 0, .int (nI zp), .ref (ad 42)]) ⟨hx, hb, hml, hown, hts⟩ (y_low  (zr := 1) (zp := zp)  (by omega) (by omega)) (cwV 2 hts gvX5_100 rfl rfl rfl hvX5_low ⟨Nat.le_of_ble_eq_true rfl, Nat.le_of_ble_eq_true rfl⟩) hK hP hD hS hA 42 5 rfl ww_42 rfl hl.1 rfl (Nat.le_of_ble_eq_true rfl) dX5_goOn_70 ⟨Nat.le_of_ble_eq_true rfl, Nat.le_of_ble_eq_true rfl⟩ (fun ws_23 r_24 h_25 H locs hP hD hS => ?_)
        obtain ⟨rfl, v_26, rfl⟩ := h_25
        have hP : va_P D vwCl (WW ad cJ cI cZ bm pa p0 p1 p2 li wi mt ms ma mp mk mn ou) H := hP
        have hD : va_D A (WW ad cJ cI cZ bm pa p0 p1 p2 li wi mt ms ma mp mk mn ou) := hD
        refine lv_lsub hx hb dX5_goOn_73 ?_
        refine lv_topl (fun t_27 _ => ?_)
        refine bm_xcallV (As := [.int (nI zp), .long 0, .long t_27]) (rest := []) ⟨hx, hb, hml, hown, hts⟩ (y_go  (zp := zp) (z1 := 0) (z2 := t_27) ok_ms_parts ok_ma_groups (by omega)) (cwV 3 hts gvX5_149 rfl rfl rfl hvX5_go ⟨Nat.le_of_ble_eq_true rfl, Nat.le_of_ble_eq_true rfl⟩) hK hP hD hS hA 42 5 rfl ww_42 rfl hl.1 rfl (Nat.le_of_ble_eq_true rfl) dX5_goOn_74 ⟨Nat.le_of_ble_eq_true rfl, Nat.le_of_ble_eq_true rfl⟩ (fun ws_28 r_29 h_30 H locs hP hD hS => ?_)
        obtain ⟨g_31, g_32, g_33, rfl, rfl⟩ := h_30
        have hP : va_P D vwCl (WW ad cJ cI cZ bm pa p0 p1 p2 li wi mt ms ma (g_31, g_32, mp.2.2) mk (mn.1, mn.2.1, mn.2.2.1, mn.2.2.2.1, g_33) ou) H := hP
        have hD : va_D A (WW ad cJ cI cZ bm pa p0 p1 p2 li wi mt ms ma (g_31, g_32, mp.2.2) mk (mn.1, mn.2.1, mn.2.2.1, mn.2.2.2.1, g_33) ou) := hD
        refine lv_goto (tgt := 99) hx hb dX5_goOn_77 (by decide) ?_
        exact bm_vretX hx hb hr hP hD hK hS ⟨g_31, g_32, g_33, rfl, rfl⟩ dX5_goOn_99 hlocks
    · refine lv_aload_n hx hb dX5_goOn_31 rfl (lv_at hl 0 rfl) ?_
      refine lv_iload_n hx hb dX5_goOn_32 rfl (lv_at hl 1 rfl) ?_
      refine lv_aload_n hx hb dX5_goOn_33 rfl (lv_at hl 0 rfl) ?_
      refine lv_iconst (v := nI 1) hx hb dX5_goOn_34 (by decide) ?_
      refine lv_iload_n hx hb dX5_goOn_35 rfl (lv_at hl 2 rfl) ?_
      refine bm_xcallV (As := [.int (nI 1), .int (nI zq)]) (rest := [.int (nI zp), .ref (ad 42)]) ⟨hx, hb, hml, hown, hts⟩ (y_left  (zr := 1) (zp := zq)  (by omega) (by omega)) (cwV 2 hts gvX5_92 rfl rfl rfl hvX5_left ⟨Nat.le_of_ble_eq_true rfl, Nat.le_of_ble_eq_true rfl⟩) hK hP hD hS hA 42 5 rfl ww_42 rfl hl.1 rfl (Nat.le_of_ble_eq_true rfl) dX5_goOn_36 ⟨Nat.le_of_ble_eq_true rfl, Nat.le_of_ble_eq_true rfl⟩ (fun ws_34 r_35 h_36 H locs hP hD hS => ?_)
      obtain ⟨rfl, v_37, rfl⟩ := h_36
      have hP : va_P D vwCl (WW ad cJ cI cZ bm pa p0 p1 p2 li wi mt ms ma mp mk mn ou) H := hP
      have hD : va_D A (WW ad cJ cI cZ bm pa p0 p1 p2 li wi mt ms ma mp mk mn ou) := hD
      refine lv_aload_n hx hb dX5_goOn_39 rfl (lv_at hl 0 rfl) ?_
      refine lv_iconst (v := nI 1) hx hb dX5_goOn_40 (by decide) ?_
      refine lv_iload_n hx hb dX5_goOn_41 rfl (lv_at hl 1 rfl) ?_
      refine bm_xcallV (As := [.int (nI 1), .int (nI zp)]) (rest := [.long v_37, .int (nI zp), .ref (ad 42)]) ⟨hx, hb, hml, hown, hts⟩ (y_right  (zr := 1) (zp := zp) ok_mp_turns (by omega) (by omega)) (cwV 2 hts gvX5_103 rfl rfl rfl hvX5_right ⟨Nat.le_of_ble_eq_true rfl, Nat.le_of_ble_eq_true rfl⟩) hK hP hD hS hA 42 5 rfl ww_42 rfl hl.1 rfl (Nat.le_of_ble_eq_true rfl) dX5_goOn_42 ⟨Nat.le_of_ble_eq_true rfl, Nat.le_of_ble_eq_true rfl⟩ (fun ws_38 r_39 h_40 H locs hP hD hS => ?_)
      obtain ⟨rfl, v_41, rfl⟩ := h_40
      have hP : va_P D vwCl (WW ad cJ cI cZ bm pa p0 p1 p2 li wi mt ms ma mp mk mn ou) H := hP
      have hD : va_D A (WW ad cJ cI cZ bm pa p0 p1 p2 li wi mt ms ma mp mk mn ou) := hD
      refine lv_lsub hx hb dX5_goOn_45 ?_
      refine lv_topl (fun t_42 _ => ?_)
      refine lv_lconst (v := 0) hx hb dX5_goOn_46 (by decide) ?_
      refine bm_xcallV (As := [.int (nI zp), .long t_42, .long 0]) (rest := []) ⟨hx, hb, hml, hown, hts⟩ (y_go  (zp := zp) (z1 := t_42) (z2 := 0) ok_ms_parts ok_ma_groups (by omega)) (cwV 3 hts gvX5_149 rfl rfl rfl hvX5_go ⟨Nat.le_of_ble_eq_true rfl, Nat.le_of_ble_eq_true rfl⟩) hK hP hD hS hA 42 5 rfl ww_42 rfl hl.1 rfl (Nat.le_of_ble_eq_true rfl) dX5_goOn_47 ⟨Nat.le_of_ble_eq_true rfl, Nat.le_of_ble_eq_true rfl⟩ (fun ws_43 r_44 h_45 H locs hP hD hS => ?_)
      obtain ⟨g_46, g_47, g_48, rfl, rfl⟩ := h_45
      have hP : va_P D vwCl (WW ad cJ cI cZ bm pa p0 p1 p2 li wi mt ms ma (g_46, g_47, mp.2.2) mk (mn.1, mn.2.1, mn.2.2.1, mn.2.2.2.1, g_48) ou) H := hP
      have hD : va_D A (WW ad cJ cI cZ bm pa p0 p1 p2 li wi mt ms ma (g_46, g_47, mp.2.2) mk (mn.1, mn.2.1, mn.2.2.1, mn.2.2.2.1, g_48) ou) := hD
      refine lv_goto (tgt := 99) hx hb dX5_goOn_50 (by decide) ?_
      exact bm_vretX hx hb hr hP hD hK hS ⟨g_46, g_47, g_48, rfl, rfl⟩ dX5_goOn_99 hlocks
  · refine lv_aload_n hx hb dX5_goOn_4 rfl (lv_at hl 0 rfl) ?_
    refine lv_iload_n hx hb dX5_goOn_5 rfl (lv_at hl 1 rfl) ?_
    refine lv_aload_n hx hb dX5_goOn_6 rfl (lv_at hl 0 rfl) ?_
    refine lv_iconst (v := nI 1) hx hb dX5_goOn_7 (by decide) ?_
    refine lv_iload_n hx hb dX5_goOn_8 rfl (lv_at hl 2 rfl) ?_
    refine bm_xcallV (As := [.int (nI 1), .int (nI zq)]) (rest := [.int (nI zp), .ref (ad 42)]) ⟨hx, hb, hml, hown, hts⟩ (y_right  (zr := 1) (zp := zq) ok_mp_turns (by omega) (by omega)) (cwV 2 hts gvX5_103 rfl rfl rfl hvX5_right ⟨Nat.le_of_ble_eq_true rfl, Nat.le_of_ble_eq_true rfl⟩) hK hP hD hS hA 42 5 rfl ww_42 rfl hl.1 rfl (Nat.le_of_ble_eq_true rfl) dX5_goOn_9 ⟨Nat.le_of_ble_eq_true rfl, Nat.le_of_ble_eq_true rfl⟩ (fun ws_49 r_50 h_51 H locs hP hD hS => ?_)
    obtain ⟨rfl, v_52, rfl⟩ := h_51
    have hP : va_P D vwCl (WW ad cJ cI cZ bm pa p0 p1 p2 li wi mt ms ma mp mk mn ou) H := hP
    have hD : va_D A (WW ad cJ cI cZ bm pa p0 p1 p2 li wi mt ms ma mp mk mn ou) := hD
    refine lv_aload_n hx hb dX5_goOn_12 rfl (lv_at hl 0 rfl) ?_
    refine lv_iconst (v := nI 1) hx hb dX5_goOn_13 (by decide) ?_
    refine lv_iload_n hx hb dX5_goOn_14 rfl (lv_at hl 1 rfl) ?_
    refine bm_xcallV (As := [.int (nI 1), .int (nI zp)]) (rest := [.long v_52, .int (nI zp), .ref (ad 42)]) ⟨hx, hb, hml, hown, hts⟩ (y_left  (zr := 1) (zp := zp)  (by omega) (by omega)) (cwV 2 hts gvX5_92 rfl rfl rfl hvX5_left ⟨Nat.le_of_ble_eq_true rfl, Nat.le_of_ble_eq_true rfl⟩) hK hP hD hS hA 42 5 rfl ww_42 rfl hl.1 rfl (Nat.le_of_ble_eq_true rfl) dX5_goOn_15 ⟨Nat.le_of_ble_eq_true rfl, Nat.le_of_ble_eq_true rfl⟩ (fun ws_53 r_54 h_55 H locs hP hD hS => ?_)
    obtain ⟨rfl, v_56, rfl⟩ := h_55
    have hP : va_P D vwCl (WW ad cJ cI cZ bm pa p0 p1 p2 li wi mt ms ma mp mk mn ou) H := hP
    have hD : va_D A (WW ad cJ cI cZ bm pa p0 p1 p2 li wi mt ms ma mp mk mn ou) := hD
    refine lv_lsub hx hb dX5_goOn_18 ?_
    refine lv_topl (fun t_57 _ => ?_)
    refine lv_lconst (v := 0) hx hb dX5_goOn_19 (by decide) ?_
    refine bm_xcallV (As := [.int (nI zp), .long t_57, .long 0]) (rest := []) ⟨hx, hb, hml, hown, hts⟩ (y_go  (zp := zp) (z1 := t_57) (z2 := 0) ok_ms_parts ok_ma_groups (by omega)) (cwV 3 hts gvX5_149 rfl rfl rfl hvX5_go ⟨Nat.le_of_ble_eq_true rfl, Nat.le_of_ble_eq_true rfl⟩) hK hP hD hS hA 42 5 rfl ww_42 rfl hl.1 rfl (Nat.le_of_ble_eq_true rfl) dX5_goOn_20 ⟨Nat.le_of_ble_eq_true rfl, Nat.le_of_ble_eq_true rfl⟩ (fun ws_58 r_59 h_60 H locs hP hD hS => ?_)
    obtain ⟨g_61, g_62, g_63, rfl, rfl⟩ := h_60
    have hP : va_P D vwCl (WW ad cJ cI cZ bm pa p0 p1 p2 li wi mt ms ma (g_61, g_62, mp.2.2) mk (mn.1, mn.2.1, mn.2.2.1, mn.2.2.2.1, g_63) ou) H := hP
    have hD : va_D A (WW ad cJ cI cZ bm pa p0 p1 p2 li wi mt ms ma (g_61, g_62, mp.2.2) mk (mn.1, mn.2.1, mn.2.2.1, mn.2.2.2.1, g_63) ou) := hD
    refine lv_goto (tgt := 99) hx hb dX5_goOn_23 (by decide) ?_
    exact bm_vretX hx hb hr hP hD hK hS ⟨g_61, g_62, g_63, rfl, rfl⟩ dX5_goOn_99 hlocks
