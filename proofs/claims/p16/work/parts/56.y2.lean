set_option maxHeartbeats 8000000 in
set_option maxRecDepth 100000 in
theorem x_keepI {l : Launch} {D : va_G} {ad : Nat → Nat} {cJ cI cZ : ClassId} {bm : gBM} {pa : gPA} {p0 p1 p2 : gPL} {li : gLI} {wi : gWI} {mt : Nat} {ms : gMS} {ma : gMA} {mp : gMP} {mk : gMK} {mn : gMN} {ou : Nat → Int64} {z1 : Int64} (ok_pa_n : pa.2.2.2.2.2.2 ≤ 40) (ok_pa_side : ∀ i, pa.2.2.1 i < 40) (ok_pa_lowest : ∀ i, pa.2.2.2.2.2.1 i < 40) (ok_p0_turn : ∀ i, p0.2.2.1 i < 40) (ok_li_keepOuts : li.2.2.2.2.2.2.2.2.1 ≤ 10) (ok_li_nears : li.2.2.2.2.2.2.2.2.2 ≤ 20) (ok_li_one : ∀ i, li.2.2.2.2.2.1 i < 40) (ok_li_other : ∀ i, li.2.2.2.2.2.2.1 i < 40) (ok_p1_turn : ∀ i, p1.2.2.1 i < 40) (ok_wi_nets : wi.2.2.2.2.2.2.2.2.2.1 ≤ 40) (ok_wi_pins : wi.2.2.2.2.2.2.2.2.2.2 ≤ 120) (ok_wi_netOf : ∀ i, wi.1 i < 40) (ok_wi_partOf : ∀ i, wi.2.1 i < 40)  (hW1 : ∀ j, j < pa.2.2.2.2.2.2 → q_well bm pa p1 li j = true) (hN9 : ∀ k, k < li.2.2.2.2.2.2.2.2.2 → li.2.2.2.2.2.1 k < pa.2.2.2.2.2.2 ∧ li.2.2.2.2.2.2.1 k < pa.2.2.2.2.2.2) (hp9 : ∀ i, pa.2.2.2.2.2.2 ≤ i → p0.2.2.2 i = false) : bm_Wx l yX4_keepChange wsX4_keepChange ({ frames := 4, cells := 0, slots := 0, locals := 98 }) D vwCl [(cJ, .long), (cI, .int), (cZ, .boolean)] (WW ad cJ cI cZ bm pa p0 p1 p2 li wi mt ms ma mp mk mn ou) [.ref (ad 0), .long z1] (fun ws9 r9 => ∃ (e0 : Nat → Int64) (e1 : Nat → Int64) (e2 : Nat → Nat) (e3 : Nat → Bool) (e4 : Nat → Bool) (e5 : Nat → Int64) (e6 : Nat → Int64) (e7 : Nat → Int64) (e8 : Nat → Int64) (e9 : Int64) , (∀ i, e2 i < 40) ∧ (INV bm pa (e0, e1, e2, e3) li) ∧ ws9 = (WW ad cJ cI cZ (bm.1, bm.2.1, bm.2.2.1, e9) pa (e0, e1, e2, e3) p1 p2 li (wi.1, wi.2.1, wi.2.2.1, wi.2.2.2.1, e4, e5, e6, e7, e8, wi.2.2.2.2.2.2.2.2.2.1, wi.2.2.2.2.2.2.2.2.2.2) mt ms ma mp mk mn ou) ∧ ∃ b9 : Bool, r9 = some (.int (bm_b b9))) := by
  intro sz
  refine Met.ofW (cc := cX4_keepChange) (maxL := 5) (ret := (some .boolean)) (by decide) rfl ?_
  intro p e s m args below meth c s₁ B hml hv
  obtain ⟨ha, hsz, hP, hK, hD0⟩ := hv
  have hx := B.exec
  have hb := B.bytes
  have hr := B.returns
  have hts := atoms_spec (ws := wsX4_keepChange) B.pre
  have hown : s.vm.findClass RX4 = some m.cls := findClass_of_methodNamed B.named
  have hlocks := B.notSynchronized
  subst hsz
  have hD := hD0.self (sz := s.heap.size)
  generalize hAe : va_A (WW ad cJ cI cZ bm pa p0 p1 p2 li wi mt ms ma mp mk mn ou) s.heap.size = A at hD ⊢
  have hA : ∀ q : Nat, s.heap.size ≤ q → A q := fun q h => by rw [← hAe]; exact Or.inr h
  have hS : va_S A s.heap s.heap [] := va_S.rf
  have hl := lv_entry ([.ref (ad 0), .long z1]) (n := 5) (Nat.le_of_ble_eq_true rfl)
  refine W.eq (g2 := entryFrame m ([.ref (ad 0), .long z1] : List Value).toArray 5) (by rw [ha]) ?_
  rw [lg_entry_eq]
  generalize (lg_sl ([.ref (ad 0), .long z1]) ++ List.replicate (5 - (lg_sl ([.ref (ad 0), .long z1])).length) Slot.unset).toArray = ls at hl ⊢
  have hl : lv_has ls 5 [(0, .ref (ad 0)), (1, .long z1)] := hl
  refine lv_iconst (v := nI 0) hx hb dX4_keepChange_0 (by decide) ?_
  refine lv_istore_n (lv' := [(3, .int (nI 0)), (0, .ref (ad 0)), (1, .long z1)]) hx hb dX4_keepChange_1 rfl hl (by decide) rfl (fun ls hl => ?_)
  have lp_1 : ∀ (k_3 : Nat) (i_2 : Nat) , i_2 ≤ pa.2.2.2.2.2.2 → pa.2.2.2.2.2.2 < i_2 + k_3 → (∀ j, j < i_2 → q_differs p0 p1 j = true → q_well bm pa p0 li j = true) → ∀ (H : Heap) (locs : List Loc), va_P D vwCl (WW ad cJ cI cZ bm pa p0 p1 p2 li wi mt ms ma mp mk mn ou) H → va_D A (WW ad cJ cI cZ bm pa p0 p1 p2 li wi mt ms ma mp mk mn ou) → va_S A s.heap H locs → ∀ (ls : Array Slot), lv_has ls 5 [(3, .int (nI i_2)), (0, .ref (ad 0)), (1, .long z1)] → W p l e (headSpec wsX4_keepChange ({ frames := 4, cells := 0, slots := 0, locals := 98 })).room s m args below meth c H locs 0 0 (MQ below (bm_Wxq D vwCl [(cJ, .long), (cI, .int), (cZ, .boolean)] (fun ws9 r9 => ∃ (e0 : Nat → Int64) (e1 : Nat → Int64) (e2 : Nat → Nat) (e3 : Nat → Bool) (e4 : Nat → Bool) (e5 : Nat → Int64) (e6 : Nat → Int64) (e7 : Nat → Int64) (e8 : Nat → Int64) (e9 : Int64) , (∀ i, e2 i < 40) ∧ (INV bm pa (e0, e1, e2, e3) li) ∧ ws9 = (WW ad cJ cI cZ (bm.1, bm.2.1, bm.2.2.1, e9) pa (e0, e1, e2, e3) p1 p2 li (wi.1, wi.2.1, wi.2.2.1, wi.2.2.2.1, e4, e5, e6, e7, e8, wi.2.2.2.2.2.2.2.2.2.1, wi.2.2.2.2.2.2.2.2.2.2) mt ms ma mp mk mn ou) ∧ ∃ b9 : Bool, r9 = some (.int (bm_b b9))) A) args s 0 0 A) (F0 m 2 ls []) := by
    intro k_3
    induction k_3 with
    | zero => intro i_2 hi_6 hk_7; exfalso; omega
    | succ k_3 ih_4 =>
      intro i_2 hi_6 hk_7 hf_5 H locs hP hD hS ls hl
      refine lv_iload_n hx hb dX4_keepChange_2 rfl (lv_at hl 0 rfl) ?_
      refine lv_aload_n hx hb dX4_keepChange_3 rfl (lv_at hl 1 rfl) ?_
      refine va_get (D := D) (ci := 4) (v := .ref (ad 1)) (C := RX4) (T := TX4) (N := 10) hx hb hts (inT inX4) hown hK hP 0 ww_0 rfl 2 (by decide) (hts (.fieldLink RX4 12 "BoardMoves" "parts" "LBoardMoves$Parts;") (List.mem_cons_of_mem _ flX4_12)) (fun _ h9 => h9) rfl dX4_keepChange_4 ?_
      refine va_get (D := D) (ci := 1) (v := .int (nI pa.2.2.2.2.2.2)) (C := RX1) (T := TX1) (N := 7) hx hb hts (inT inX1) hown hK hP 1 ww_1 rfl 6 (by decide) (hts (.fieldLink RX4 197 "BoardMoves$Parts" "count" "I") (List.mem_cons_of_mem _ flX4_197)) (fun _ h9 => h9) rfl dX4_keepChange_7 ?_
      refine bm_ni_ge (x := i_2) (y := pa.2.2.2.2.2.2) (tgt := 83) hx hb (by omega) (by omega) dX4_keepChange_10 (by decide) (fun c_8 => ?_) (fun c_8 => ?_)
      · refine lv_aload_n hx hb dX4_keepChange_83 rfl (lv_at hl 1 rfl) ?_
        refine va_get (D := D) (ci := 4) (v := .ref (ad 32)) (C := RX4) (T := TX4) (N := 10) hx hb hts (inT inX4) hown hK hP 0 ww_0 rfl 4 (by decide) (hts (.fieldLink RX4 30 "BoardMoves" "wiring" "LBoardMoves$Wiring;") (List.mem_cons_of_mem _ flX4_30)) (fun _ h9 => h9) rfl dX4_keepChange_84 ?_
        refine lv_aload_n hx hb dX4_keepChange_87 rfl (lv_at hl 1 rfl) ?_
        refine va_get (D := D) (ci := 4) (v := .ref (ad 8)) (C := RX4) (T := TX4) (N := 10) hx hb hts (inT inX4) hown hK hP 0 ww_0 rfl 5 (by decide) (hts (.fieldLink RX4 37 "BoardMoves" "now" "LBoardMoves$Placement;") (List.mem_cons_of_mem _ flX4_37)) (fun _ h9 => h9) rfl dX4_keepChange_88 ?_
        refine bm_xcallV (As := [.ref (ad 8)]) (rest := []) ⟨hx, hb, hml, hown, hts⟩ (x_meas   ok_wi_nets ok_wi_pins ok_wi_netOf ok_wi_partOf ok_p0_turn ) (cwV 1 hts gvX4_160 rfl rfl rfl hvX3_measure ⟨Nat.le_of_ble_eq_true rfl, Nat.le_of_ble_eq_true rfl⟩) hK hP hD hS hA 32 3 rfl ww_32 rfl hl.1 rfl (Nat.le_of_ble_eq_true rfl) dX4_keepChange_91 ⟨Nat.le_of_ble_eq_true rfl, Nat.le_of_ble_eq_true rfl⟩ (fun ws_9 r_10 h_11 H locs hP hD hS => ?_)
        obtain ⟨g_12, g_13, g_14, g_15, g_16, rfl, v_17, rfl⟩ := h_11
        have hP : va_P D vwCl (WW ad cJ cI cZ bm pa p0 p1 p2 li (wi.1, wi.2.1, wi.2.2.1, wi.2.2.2.1, g_12, g_13, g_14, g_15, g_16, wi.2.2.2.2.2.2.2.2.2.1, wi.2.2.2.2.2.2.2.2.2.2) mt ms ma mp mk mn ou) H := hP
        have hD : va_D A (WW ad cJ cI cZ bm pa p0 p1 p2 li (wi.1, wi.2.1, wi.2.2.1, wi.2.2.2.1, g_12, g_13, g_14, g_15, g_16, wi.2.2.2.2.2.2.2.2.2.1, wi.2.2.2.2.2.2.2.2.2.2) mt ms ma mp mk mn ou) := hD
        refine lv_lstore_n (lv' := [(3, .long v_17), (0, .ref (ad 0)), (1, .long z1)]) hx hb dX4_keepChange_94 rfl hl (by decide) rfl (fun ls hl => ?_)
        refine lv_lload_n hx hb dX4_keepChange_95 rfl (lv_at hl 0 rfl) ?_
        refine lv_aload_n hx hb dX4_keepChange_96 rfl (lv_at hl 1 rfl) ?_
        refine va_get (D := D) (ci := 4) (v := .long bm.2.2.2) (C := RX4) (T := TX4) (N := 10) hx hb hts (inT inX4) hown hK hP 0 ww_0 rfl 9 (by decide) (hts (.fieldLink RX4 47 "BoardMoves" "keptWire" "J") (List.mem_cons_of_mem _ flX4_47)) (fun _ h9 => h9) rfl dX4_keepChange_97 ?_
        refine lv_lsub hx hb dX4_keepChange_100 ?_
        refine lv_topl (fun t_18 _ => ?_)
        refine lv_lload_n hx hb dX4_keepChange_101 rfl (lv_at hl 2 rfl) ?_
        refine bm_lc_le (x := t_18) (y := z1) (tgt := 111) hx hb dX4_keepChange_102 dX4_keepChange_103 (by decide) (fun c_19 => ?_) (fun c_19 => ?_)
        · refine lv_aload_n hx hb dX4_keepChange_111 rfl (lv_at hl 1 rfl) ?_
          refine lv_lload_n hx hb dX4_keepChange_112 rfl (lv_at hl 0 rfl) ?_
          refine va_put (D := D) (ci := 4) (v := .long v_17) (ty := .long) (C := RX4) (T := TX4) (N := 10) hx hb hts (inT inX4) tyX4 tyX4_ok nmX4 hown hK hP hD hS 0 ww_0 rfl 9 (by decide) (hts (.fieldLink RX4 47 "BoardMoves" "keptWire" "J") (List.mem_cons_of_mem _ flX4_47)) (fun _ h9 => h9) rfl (by decide +kernel) rfl rfl (Nat.le_of_ble_eq_true rfl) dX4_keepChange_113 (fun H locs hP hD hS => ?_)
          have hP : va_P D vwCl (WW ad cJ cI cZ (bm.1, bm.2.1, bm.2.2.1, v_17) pa p0 p1 p2 li (wi.1, wi.2.1, wi.2.2.1, wi.2.2.2.1, g_12, g_13, g_14, g_15, g_16, wi.2.2.2.2.2.2.2.2.2.1, wi.2.2.2.2.2.2.2.2.2.2) mt ms ma mp mk mn ou) H := hP
          have hD : va_D A (WW ad cJ cI cZ (bm.1, bm.2.1, bm.2.2.1, v_17) pa p0 p1 p2 li (wi.1, wi.2.1, wi.2.2.1, wi.2.2.2.1, g_12, g_13, g_14, g_15, g_16, wi.2.2.2.2.2.2.2.2.2.1, wi.2.2.2.2.2.2.2.2.2.2) mt ms ma mp mk mn ou) := hD
          refine lv_iconst (v := bm_b true) hx hb dX4_keepChange_116 (by decide) ?_
          exact bm_zretX (v := true) hx hb hr hP hD hK hS ⟨p0.1, p0.2.1, p0.2.2.1, p0.2.2.2, g_12, g_13, g_14, g_15, g_16, v_17, ok_p0_turn, (INV_keep hW1 hN9 hp9 (fun j hj => hf_5 j (by omega))), rfl, true, rfl⟩ dX4_keepChange_117 hlocks
        · refine lv_aload_n hx hb dX4_keepChange_106 rfl (lv_at hl 1 rfl) ?_
          refine bm_xcallV (As := []) (rest := []) ⟨hx, hb, hml, hown, hts⟩ (x_backI (wi := (wi.1, wi.2.1, wi.2.2.1, wi.2.2.2.1, g_12, g_13, g_14, g_15, g_16, wi.2.2.2.2.2.2.2.2.2.1, wi.2.2.2.2.2.2.2.2.2.2))  ok_pa_n ok_pa_side ok_pa_lowest ok_p0_turn ok_p1_turn ) (cwV 0 hts gvX4_177 rfl rfl rfl hvX4_takeBack ⟨Nat.le_of_ble_eq_true rfl, Nat.le_of_ble_eq_true rfl⟩) hK hP hD hS hA 0 4 rfl ww_0 rfl hl.1 rfl (Nat.le_of_ble_eq_true rfl) dX4_keepChange_107 ⟨Nat.le_of_ble_eq_true rfl, Nat.le_of_ble_eq_true rfl⟩ (fun ws_20 r_21 h_22 H locs hP hD hS => ?_)
          obtain ⟨g_23, g_24, g_25, g_27, ok_26, hf_28, rfl, v_29, rfl⟩ := h_22
          have hP : va_P D vwCl (WW ad cJ cI cZ bm pa (g_23, g_24, g_25, g_27) p1 p2 li (wi.1, wi.2.1, wi.2.2.1, wi.2.2.2.1, g_12, g_13, g_14, g_15, g_16, wi.2.2.2.2.2.2.2.2.2.1, wi.2.2.2.2.2.2.2.2.2.2) mt ms ma mp mk mn ou) H := hP
          have hD : va_D A (WW ad cJ cI cZ bm pa (g_23, g_24, g_25, g_27) p1 p2 li (wi.1, wi.2.1, wi.2.2.1, wi.2.2.2.1, g_12, g_13, g_14, g_15, g_16, wi.2.2.2.2.2.2.2.2.2.1, wi.2.2.2.2.2.2.2.2.2.2) mt ms ma mp mk mn ou) := hD
          exact bm_zretX (v := v_29) hx hb hr hP hD hK hS ⟨g_23, g_24, g_25, g_27, g_12, g_13, g_14, g_15, g_16, bm.2.2.2, ok_26, (INV_ag hW1 hN9 (fun i hi => (hf_28.2 i hi).trans (hp9 i hi)) hf_28.1), rfl, v_29, rfl⟩ dX4_keepChange_110 hlocks
      · refine lv_aload_n hx hb dX4_keepChange_13 rfl (lv_at hl 1 rfl) ?_
        refine va_get (D := D) (ci := 4) (v := .ref (ad 8)) (C := RX4) (T := TX4) (N := 10) hx hb hts (inT inX4) hown hK hP 0 ww_0 rfl 5 (by decide) (hts (.fieldLink RX4 37 "BoardMoves" "now" "LBoardMoves$Placement;") (List.mem_cons_of_mem _ flX4_37)) (fun _ h9 => h9) rfl dX4_keepChange_14 ?_
        refine lv_aload_n hx hb dX4_keepChange_17 rfl (lv_at hl 1 rfl) ?_
        refine va_get (D := D) (ci := 4) (v := .ref (ad 13)) (C := RX4) (T := TX4) (N := 10) hx hb hts (inT inX4) hown hK hP 0 ww_0 rfl 6 (by decide) (hts (.fieldLink RX4 41 "BoardMoves" "before" "LBoardMoves$Placement;") (List.mem_cons_of_mem _ flX4_41)) (fun _ h9 => h9) rfl dX4_keepChange_18 ?_
        refine lv_iload_n hx hb dX4_keepChange_21 rfl (lv_at hl 0 rfl) ?_
        refine bm_rcallV (As := [.ref (ad 13), .int (nI i_2)]) (rest := []) ⟨hx, hb, hml, hown, hts⟩ (r_differs  (j := i_2) ok_p0_turn ok_p1_turn (by omega)) (cwV 2 hts gvX4_250 rfl rfl rfl hvX2_differs ⟨Nat.le_of_ble_eq_true rfl, Nat.le_of_ble_eq_true rfl⟩) hK hP 8 2 rfl ww_8 rfl hl.1 rfl (Nat.le_of_ble_eq_true rfl) dX4_keepChange_22 ⟨Nat.le_of_ble_eq_true rfl, Nat.le_of_ble_eq_true rfl⟩ ?_
        refine bm_zb_eq (x := (q_differs p0 p1 i_2)) (tgt := 77) hx hb dX4_keepChange_25 (by decide) (fun c_30 => ?_) (fun c_30 => ?_)
        · refine lv_iinc (v := (nI (i_2 + 1))) (lv' := [(3, .int (nI (i_2 + 1))), (0, .ref (ad 0)), (1, .long z1)]) hx hb dX4_keepChange_77 hl (k := 0) rfl (nI_1 i_2) (by decide) rfl (fun ls hl => ?_)
          refine lv_goto (tgt := 2) hx hb dX4_keepChange_80 (by decide) ?_
          exact ih_4 (i_2 + 1) (by omega) (by omega) (bx_ext hf_5 (by first | exact fun _ => c_30 | exact fun h => absurd (c_30.symm.trans h) (by decide) | exact fun _ => c_8 | exact fun h => absurd (c_8.symm.trans h) (by decide))) _ _ hP hD hS _ (lv_sub hl [0, 1, 2] rfl)
        · refine lv_aload_n hx hb dX4_keepChange_28 rfl (lv_at hl 1 rfl) ?_
          refine va_get (D := D) (ci := 4) (v := .ref (ad 1)) (C := RX4) (T := TX4) (N := 10) hx hb hts (inT inX4) hown hK hP 0 ww_0 rfl 2 (by decide) (hts (.fieldLink RX4 12 "BoardMoves" "parts" "LBoardMoves$Parts;") (List.mem_cons_of_mem _ flX4_12)) (fun _ h9 => h9) rfl dX4_keepChange_29 ?_
          refine va_get (D := D) (ci := 1) (v := .ref (ad 6)) (C := RX1) (T := TX1) (N := 7) hx hb hts (inT inX1) hown hK hP 1 ww_1 rfl 4 (by decide) (hts (.fieldLink RX4 132 "BoardMoves$Parts" "locked" "[Z") (List.mem_cons_of_mem _ flX4_132)) (fun _ h9 => h9) rfl dX4_keepChange_32 ?_
          refine lv_iload_n hx hb dX4_keepChange_35 rfl (lv_at hl 0 rfl) ?_
          refine bm_zald (f := pa.2.2.2.2.1) hx hb hK hP 6 2 ww_6 rfl (j := i_2) (by omega) (by decide) dX4_keepChange_36 ?_
          refine bm_zb_eq (x := (pa.2.2.2.2.1 i_2)) (tgt := 56) hx hb dX4_keepChange_37 (by decide) (fun c_31 => ?_) (fun c_31 => ?_)
          · refine lv_iconst (v := bm_b false) hx hb dX4_keepChange_56 (by decide) ?_
            refine lv_istore (lv' := [(4, .int (bm_b false)), (3, .int (nI i_2)), (0, .ref (ad 0)), (1, .long z1)]) hx hb dX4_keepChange_57 hl (by decide) rfl (fun ls hl => ?_)
            refine lv_iload hx hb dX4_keepChange_59 (lv_at hl 0 rfl) ?_
            refine bm_zb_ne (x := false) (tgt := 72) hx hb dX4_keepChange_61 (by decide) (fun c_32 => ?_) (fun c_32 => ?_)
            · exact absurd c_32 (by decide)
            · refine lv_aload_n hx hb dX4_keepChange_64 rfl (lv_at hl 2 rfl) ?_
              refine lv_iload_n hx hb dX4_keepChange_65 rfl (lv_at hl 1 rfl) ?_
              refine bm_rcallV (As := [.int (nI i_2)]) (rest := []) ⟨hx, hb, hml, hown, hts⟩ (r_well  (j := i_2) ⟨ok_pa_n, ok_pa_side, ok_pa_lowest⟩ ok_p0_turn ⟨ok_li_one, ok_li_other, ok_li_keepOuts, ok_li_nears⟩ (by omega)) (cwV 1 hts gvX4_220 rfl rfl rfl hvX4_standsWell ⟨Nat.le_of_ble_eq_true rfl, Nat.le_of_ble_eq_true rfl⟩) hK hP 0 4 rfl ww_0 rfl hl.1 rfl (Nat.le_of_ble_eq_true rfl) dX4_keepChange_66 ⟨Nat.le_of_ble_eq_true rfl, Nat.le_of_ble_eq_true rfl⟩ ?_
              refine bm_zb_ne (x := (q_well bm pa p0 li i_2)) (tgt := 77) hx hb dX4_keepChange_69 (by decide) (fun c_33 => ?_) (fun c_33 => ?_)
              · refine lv_iinc (v := (nI (i_2 + 1))) (lv' := [(3, .int (nI (i_2 + 1))), (4, .int (bm_b false)), (0, .ref (ad 0)), (1, .long z1)]) hx hb dX4_keepChange_77 hl (k := 1) rfl (nI_1 i_2) (by decide) rfl (fun ls hl => ?_)
                refine lv_goto (tgt := 2) hx hb dX4_keepChange_80 (by decide) ?_
                exact ih_4 (i_2 + 1) (by omega) (by omega) (bx_ext hf_5 (by first | exact fun _ => c_33 | exact fun h => absurd (c_33.symm.trans h) (by decide) | exact fun _ => c_31 | exact fun h => absurd (c_31.symm.trans h) (by decide) | exact fun _ => c_30 | exact fun h => absurd (c_30.symm.trans h) (by decide) | exact fun _ => c_8 | exact fun h => absurd (c_8.symm.trans h) (by decide))) _ _ hP hD hS _ (lv_sub hl [0, 2, 3] rfl)
              · refine lv_aload_n hx hb dX4_keepChange_72 rfl (lv_at hl 2 rfl) ?_
                refine bm_xcallV (As := []) (rest := []) ⟨hx, hb, hml, hown, hts⟩ (x_backI   ok_pa_n ok_pa_side ok_pa_lowest ok_p0_turn ok_p1_turn ) (cwV 0 hts gvX4_177 rfl rfl rfl hvX4_takeBack ⟨Nat.le_of_ble_eq_true rfl, Nat.le_of_ble_eq_true rfl⟩) hK hP hD hS hA 0 4 rfl ww_0 rfl hl.1 rfl (Nat.le_of_ble_eq_true rfl) dX4_keepChange_73 ⟨Nat.le_of_ble_eq_true rfl, Nat.le_of_ble_eq_true rfl⟩ (fun ws_34 r_35 h_36 H locs hP hD hS => ?_)
                obtain ⟨g_37, g_38, g_39, g_41, ok_40, hf_42, rfl, v_43, rfl⟩ := h_36
                have hP : va_P D vwCl (WW ad cJ cI cZ bm pa (g_37, g_38, g_39, g_41) p1 p2 li wi mt ms ma mp mk mn ou) H := hP
                have hD : va_D A (WW ad cJ cI cZ bm pa (g_37, g_38, g_39, g_41) p1 p2 li wi mt ms ma mp mk mn ou) := hD
                exact bm_zretX (v := v_43) hx hb hr hP hD hK hS ⟨g_37, g_38, g_39, g_41, wi.2.2.2.2.1, wi.2.2.2.2.2.1, wi.2.2.2.2.2.2.1, wi.2.2.2.2.2.2.2.1, wi.2.2.2.2.2.2.2.2.1, bm.2.2.2, ok_40, (INV_ag hW1 hN9 (fun i hi => (hf_42.2 i hi).trans (hp9 i hi)) hf_42.1), rfl, v_43, rfl⟩ dX4_keepChange_76 hlocks
          · refine lv_aload_n hx hb dX4_keepChange_40 rfl (lv_at hl 1 rfl) ?_
            refine va_get (D := D) (ci := 4) (v := .ref (ad 13)) (C := RX4) (T := TX4) (N := 10) hx hb hts (inT inX4) hown hK hP 0 ww_0 rfl 6 (by decide) (hts (.fieldLink RX4 41 "BoardMoves" "before" "LBoardMoves$Placement;") (List.mem_cons_of_mem _ flX4_41)) (fun _ h9 => h9) rfl dX4_keepChange_41 ?_
            refine va_get (D := D) (ci := 2) (v := .ref (ad 17)) (C := RX2) (T := TX2) (N := 5) hx hb hts (inT inX2) hown hK hP 13 ww_13 rfl 4 (by decide) (hts (.fieldLink RX4 96 "BoardMoves$Placement" "placed" "[Z") (List.mem_cons_of_mem _ flX4_96)) (fun _ h9 => h9) rfl dX4_keepChange_44 ?_
            refine lv_iload_n hx hb dX4_keepChange_47 rfl (lv_at hl 0 rfl) ?_
            refine bm_zald (f := p1.2.2.2) hx hb hK hP 17 2 ww_17 rfl (j := i_2) (by omega) (by decide) dX4_keepChange_48 ?_
            refine bm_zb_eq (x := (p1.2.2.2 i_2)) (tgt := 56) hx hb dX4_keepChange_49 (by decide) (fun c_44 => ?_) (fun c_44 => ?_)
            · refine lv_iconst (v := bm_b false) hx hb dX4_keepChange_56 (by decide) ?_
              refine lv_istore (lv' := [(4, .int (bm_b false)), (3, .int (nI i_2)), (0, .ref (ad 0)), (1, .long z1)]) hx hb dX4_keepChange_57 hl (by decide) rfl (fun ls hl => ?_)
              refine lv_iload hx hb dX4_keepChange_59 (lv_at hl 0 rfl) ?_
              refine bm_zb_ne (x := false) (tgt := 72) hx hb dX4_keepChange_61 (by decide) (fun c_45 => ?_) (fun c_45 => ?_)
              · exact absurd c_45 (by decide)
              · refine lv_aload_n hx hb dX4_keepChange_64 rfl (lv_at hl 2 rfl) ?_
                refine lv_iload_n hx hb dX4_keepChange_65 rfl (lv_at hl 1 rfl) ?_
                refine bm_rcallV (As := [.int (nI i_2)]) (rest := []) ⟨hx, hb, hml, hown, hts⟩ (r_well  (j := i_2) ⟨ok_pa_n, ok_pa_side, ok_pa_lowest⟩ ok_p0_turn ⟨ok_li_one, ok_li_other, ok_li_keepOuts, ok_li_nears⟩ (by omega)) (cwV 1 hts gvX4_220 rfl rfl rfl hvX4_standsWell ⟨Nat.le_of_ble_eq_true rfl, Nat.le_of_ble_eq_true rfl⟩) hK hP 0 4 rfl ww_0 rfl hl.1 rfl (Nat.le_of_ble_eq_true rfl) dX4_keepChange_66 ⟨Nat.le_of_ble_eq_true rfl, Nat.le_of_ble_eq_true rfl⟩ ?_
                refine bm_zb_ne (x := (q_well bm pa p0 li i_2)) (tgt := 77) hx hb dX4_keepChange_69 (by decide) (fun c_46 => ?_) (fun c_46 => ?_)
                · refine lv_iinc (v := (nI (i_2 + 1))) (lv' := [(3, .int (nI (i_2 + 1))), (4, .int (bm_b false)), (0, .ref (ad 0)), (1, .long z1)]) hx hb dX4_keepChange_77 hl (k := 1) rfl (nI_1 i_2) (by decide) rfl (fun ls hl => ?_)
                  refine lv_goto (tgt := 2) hx hb dX4_keepChange_80 (by decide) ?_
                  exact ih_4 (i_2 + 1) (by omega) (by omega) (bx_ext hf_5 (by first | exact fun _ => c_46 | exact fun h => absurd (c_46.symm.trans h) (by decide) | exact fun _ => c_44 | exact fun h => absurd (c_44.symm.trans h) (by decide) | exact fun _ => c_31 | exact fun h => absurd (c_31.symm.trans h) (by decide) | exact fun _ => c_30 | exact fun h => absurd (c_30.symm.trans h) (by decide) | exact fun _ => c_8 | exact fun h => absurd (c_8.symm.trans h) (by decide))) _ _ hP hD hS _ (lv_sub hl [0, 2, 3] rfl)
                · refine lv_aload_n hx hb dX4_keepChange_72 rfl (lv_at hl 2 rfl) ?_
                  refine bm_xcallV (As := []) (rest := []) ⟨hx, hb, hml, hown, hts⟩ (x_backI   ok_pa_n ok_pa_side ok_pa_lowest ok_p0_turn ok_p1_turn ) (cwV 0 hts gvX4_177 rfl rfl rfl hvX4_takeBack ⟨Nat.le_of_ble_eq_true rfl, Nat.le_of_ble_eq_true rfl⟩) hK hP hD hS hA 0 4 rfl ww_0 rfl hl.1 rfl (Nat.le_of_ble_eq_true rfl) dX4_keepChange_73 ⟨Nat.le_of_ble_eq_true rfl, Nat.le_of_ble_eq_true rfl⟩ (fun ws_47 r_48 h_49 H locs hP hD hS => ?_)
                  obtain ⟨g_50, g_51, g_52, g_54, ok_53, hf_55, rfl, v_56, rfl⟩ := h_49
                  have hP : va_P D vwCl (WW ad cJ cI cZ bm pa (g_50, g_51, g_52, g_54) p1 p2 li wi mt ms ma mp mk mn ou) H := hP
                  have hD : va_D A (WW ad cJ cI cZ bm pa (g_50, g_51, g_52, g_54) p1 p2 li wi mt ms ma mp mk mn ou) := hD
                  exact bm_zretX (v := v_56) hx hb hr hP hD hK hS ⟨g_50, g_51, g_52, g_54, wi.2.2.2.2.1, wi.2.2.2.2.2.1, wi.2.2.2.2.2.2.1, wi.2.2.2.2.2.2.2.1, wi.2.2.2.2.2.2.2.2.1, bm.2.2.2, ok_53, (INV_ag hW1 hN9 (fun i hi => (hf_55.2 i hi).trans (hp9 i hi)) hf_55.1), rfl, v_56, rfl⟩ dX4_keepChange_76 hlocks
            · refine lv_iconst (v := bm_b true) hx hb dX4_keepChange_52 (by decide) ?_
              refine lv_goto (tgt := 57) hx hb dX4_keepChange_53 (by decide) ?_
              refine lv_istore (lv' := [(4, .int (bm_b true)), (3, .int (nI i_2)), (0, .ref (ad 0)), (1, .long z1)]) hx hb dX4_keepChange_57 hl (by decide) rfl (fun ls hl => ?_)
              refine lv_iload hx hb dX4_keepChange_59 (lv_at hl 0 rfl) ?_
              refine bm_zb_ne (x := true) (tgt := 72) hx hb dX4_keepChange_61 (by decide) (fun c_57 => ?_) (fun c_57 => ?_)
              · refine lv_aload_n hx hb dX4_keepChange_72 rfl (lv_at hl 2 rfl) ?_
                refine bm_xcallV (As := []) (rest := []) ⟨hx, hb, hml, hown, hts⟩ (x_backI   ok_pa_n ok_pa_side ok_pa_lowest ok_p0_turn ok_p1_turn ) (cwV 0 hts gvX4_177 rfl rfl rfl hvX4_takeBack ⟨Nat.le_of_ble_eq_true rfl, Nat.le_of_ble_eq_true rfl⟩) hK hP hD hS hA 0 4 rfl ww_0 rfl hl.1 rfl (Nat.le_of_ble_eq_true rfl) dX4_keepChange_73 ⟨Nat.le_of_ble_eq_true rfl, Nat.le_of_ble_eq_true rfl⟩ (fun ws_58 r_59 h_60 H locs hP hD hS => ?_)
                obtain ⟨g_61, g_62, g_63, g_65, ok_64, hf_66, rfl, v_67, rfl⟩ := h_60
                have hP : va_P D vwCl (WW ad cJ cI cZ bm pa (g_61, g_62, g_63, g_65) p1 p2 li wi mt ms ma mp mk mn ou) H := hP
                have hD : va_D A (WW ad cJ cI cZ bm pa (g_61, g_62, g_63, g_65) p1 p2 li wi mt ms ma mp mk mn ou) := hD
                exact bm_zretX (v := v_67) hx hb hr hP hD hK hS ⟨g_61, g_62, g_63, g_65, wi.2.2.2.2.1, wi.2.2.2.2.2.1, wi.2.2.2.2.2.2.1, wi.2.2.2.2.2.2.2.1, wi.2.2.2.2.2.2.2.2.1, bm.2.2.2, ok_64, (INV_ag hW1 hN9 (fun i hi => (hf_66.2 i hi).trans (hp9 i hi)) hf_66.1), rfl, v_67, rfl⟩ dX4_keepChange_76 hlocks
              · exact absurd c_57 (by decide)
  exact lp_1 (pa.2.2.2.2.2.2 + 1) 0 (by omega) (by omega) (fun _ hj => absurd hj (Nat.not_lt_zero _)) _ _ hP hD hS _ (lv_sub hl [0, 1, 2] rfl)
