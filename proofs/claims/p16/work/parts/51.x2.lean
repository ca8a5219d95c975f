set_option maxHeartbeats 8000000 in
set_option maxRecDepth 100000 in
theorem x_way {l : Launch} {D : va_G} {ad : Nat → Nat} {cJ cI cZ : ClassId} {bm : gBM} {pa : gPA} {p0 p1 p2 : gPL} {li : gLI} {wi : gWI} {mt : Nat} {ms : gMS} {ma : gMA} {mp : gMP} {mk : gMK} {mn : gMN} {ou : Nat → Int64} {za : Nat} {zb : Nat} {zx : Bool} {zu : Bool} (ok_p0_turn : ∀ i, p0.2.2.1 i < 40) (hp0 : za < 40) (hp1 : zb < 40)  : bm_Wx l yX2_wayToBorder wsX2_wayToBorder ({ frames := 1, cells := 0, slots := 0, locals := 21 }) D vwCl [(cJ, .long), (cI, .int), (cZ, .boolean)] (WW ad cJ cI cZ bm pa p0 p1 p2 li wi mt ms ma mp mk mn ou) [.ref (ad 8), .int (nI za), .int (nI zb), .int (bm_b zx), .int (bm_b zu)] (fun ws9 r9 => ws9 = (WW ad cJ cI cZ bm pa p0 p1 p2 li wi mt ms ma mp mk mn ou) ∧ ∃ v9 : Int64, r9 = some (.long v9)) := by
  intro sz
  refine Met.ofW (cc := cX2_wayToBorder) (maxL := 5) (ret := (some .long)) (by decide) rfl ?_
  intro p e s m args below meth c s₁ B hml hv
  obtain ⟨ha, hsz, hP, hK, hD0⟩ := hv
  have hx := B.exec
  have hb := B.bytes
  have hr := B.returns
  have hts := atoms_spec (ws := wsX2_wayToBorder) B.pre
  have hown : s.vm.findClass RX2 = some m.cls := findClass_of_methodNamed B.named
  have hlocks := B.notSynchronized
  subst hsz
  have hD := hD0.self (sz := s.heap.size)
  generalize hAe : va_A (WW ad cJ cI cZ bm pa p0 p1 p2 li wi mt ms ma mp mk mn ou) s.heap.size = A at hD ⊢
  have hA : ∀ q : Nat, s.heap.size ≤ q → A q := fun q h => by rw [← hAe]; exact Or.inr h
  have hS : va_S A s.heap s.heap [] := va_S.rf
  have hl := lv_entry ([.ref (ad 8), .int (nI za), .int (nI zb), .int (bm_b zx), .int (bm_b zu)]) (n := 5) (Nat.le_of_ble_eq_true rfl)
  refine W.eq (g2 := entryFrame m ([.ref (ad 8), .int (nI za), .int (nI zb), .int (bm_b zx), .int (bm_b zu)] : List Value).toArray 5) (by rw [ha]) ?_
  rw [lg_entry_eq]
  generalize (lg_sl ([.ref (ad 8), .int (nI za), .int (nI zb), .int (bm_b zx), .int (bm_b zu)]) ++ List.replicate (5 - (lg_sl ([.ref (ad 8), .int (nI za), .int (nI zb), .int (bm_b zx), .int (bm_b zu)])).length) Slot.unset).toArray = ls at hl ⊢
  have hl : lv_has ls 5 [(0, .ref (ad 8)), (1, .int (nI za)), (2, .int (nI zb)), (3, .int (bm_b zx)), (4, .int (bm_b zu))] := hl
  refine lv_iload_n hx hb dX2_wayToBorder_0 rfl (lv_at hl 3 rfl) ?_
  refine bm_zb_eq (x := zx) (tgt := 37) hx hb dX2_wayToBorder_1 (by decide) (fun c_1 => ?_) (fun c_1 => ?_)
  · refine lv_iload hx hb dX2_wayToBorder_37 (lv_at hl 4 rfl) ?_
    refine bm_zb_eq (x := zu) (tgt := 57) hx hb dX2_wayToBorder_39 (by decide) (fun c_2 => ?_) (fun c_2 => ?_)
    · refine lv_aload_n hx hb dX2_wayToBorder_57 rfl (lv_at hl 0 rfl) ?_
      refine va_get (D := D) (ci := 2) (v := .ref (ad 10)) (C := RX2) (T := TX2) (N := 5) hx hb hts (inT inX2) hown hK hP 8 ww_8 rfl 2 (by decide) (hts (.fieldLink RX2 15 "BoardMoves$Placement" "y" "[J") (List.mem_cons_of_mem _ flX2_15)) (fun _ h9 => h9) rfl dX2_wayToBorder_58 ?_
      refine lv_iload_n hx hb dX2_wayToBorder_61 rfl (lv_at hl 2 rfl) ?_
      refine bm_lald (f := p0.2.1) hx hb hK hP 10 0 ww_10 rfl (j := zb) (by omega) (by decide) dX2_wayToBorder_62 ?_
      refine lv_topl (fun t_3 _ => ?_)
      refine lv_aload_n hx hb dX2_wayToBorder_63 rfl (lv_at hl 0 rfl) ?_
      refine lv_iload_n hx hb dX2_wayToBorder_64 rfl (lv_at hl 1 rfl) ?_
      refine bm_xcallV (As := [.int (nI za)]) (rest := [.long t_3]) ⟨hx, hb, hml, hown, hts⟩ (x_endY  (zj := za) ok_p0_turn (by omega)) (cwV 1 hts gvX2_50 rfl rfl rfl hvX2_endY ⟨Nat.le_of_ble_eq_true rfl, Nat.le_of_ble_eq_true rfl⟩) hK hP hD hS hA 8 2 rfl ww_8 rfl hl.1 rfl (Nat.le_of_ble_eq_true rfl) dX2_wayToBorder_65 ⟨Nat.le_of_ble_eq_true rfl, Nat.le_of_ble_eq_true rfl⟩ (fun ws_4 r_5 h_6 H locs hP hD hS => ?_)
      obtain ⟨rfl, v_7, rfl⟩ := h_6
      have hP : va_P D vwCl (WW ad cJ cI cZ bm pa p0 p1 p2 li wi mt ms ma mp mk mn ou) H := hP
      have hD : va_D A (WW ad cJ cI cZ bm pa p0 p1 p2 li wi mt ms ma mp mk mn ou) := hD
      refine lv_lsub hx hb dX2_wayToBorder_68 ?_
      refine lv_topl (fun t_8 _ => ?_)
      exact bm_lretX (v := t_8) hx hb hr hP hD hK hS ⟨rfl, t_8, rfl⟩ dX2_wayToBorder_69 hlocks
    · refine lv_aload_n hx hb dX2_wayToBorder_42 rfl (lv_at hl 0 rfl) ?_
      refine lv_iload_n hx hb dX2_wayToBorder_43 rfl (lv_at hl 2 rfl) ?_
      refine bm_xcallV (As := [.int (nI zb)]) (rest := []) ⟨hx, hb, hml, hown, hts⟩ (x_endY  (zj := zb) ok_p0_turn (by omega)) (cwV 1 hts gvX2_50 rfl rfl rfl hvX2_endY ⟨Nat.le_of_ble_eq_true rfl, Nat.le_of_ble_eq_true rfl⟩) hK hP hD hS hA 8 2 rfl ww_8 rfl hl.1 rfl (Nat.le_of_ble_eq_true rfl) dX2_wayToBorder_44 ⟨Nat.le_of_ble_eq_true rfl, Nat.le_of_ble_eq_true rfl⟩ (fun ws_9 r_10 h_11 H locs hP hD hS => ?_)
      obtain ⟨rfl, v_12, rfl⟩ := h_11
      have hP : va_P D vwCl (WW ad cJ cI cZ bm pa p0 p1 p2 li wi mt ms ma mp mk mn ou) H := hP
      have hD : va_D A (WW ad cJ cI cZ bm pa p0 p1 p2 li wi mt ms ma mp mk mn ou) := hD
      refine lv_aload_n hx hb dX2_wayToBorder_47 rfl (lv_at hl 0 rfl) ?_
      refine va_get (D := D) (ci := 2) (v := .ref (ad 10)) (C := RX2) (T := TX2) (N := 5) hx hb hts (inT inX2) hown hK hP 8 ww_8 rfl 2 (by decide) (hts (.fieldLink RX2 15 "BoardMoves$Placement" "y" "[J") (List.mem_cons_of_mem _ flX2_15)) (fun _ h9 => h9) rfl dX2_wayToBorder_48 ?_
      refine lv_iload_n hx hb dX2_wayToBorder_51 rfl (lv_at hl 1 rfl) ?_
      refine bm_lald (f := p0.2.1) hx hb hK hP 10 0 ww_10 rfl (j := za) (by omega) (by decide) dX2_wayToBorder_52 ?_
      refine lv_topl (fun t_13 _ => ?_)
      refine lv_lsub hx hb dX2_wayToBorder_53 ?_
      refine lv_topl (fun t_14 _ => ?_)
      refine lv_goto (tgt := 69) hx hb dX2_wayToBorder_54 (by decide) ?_
      exact bm_lretX (v := t_14) hx hb hr hP hD hK hS ⟨rfl, t_14, rfl⟩ dX2_wayToBorder_69 hlocks
  · refine lv_iload hx hb dX2_wayToBorder_4 (lv_at hl 4 rfl) ?_
    refine bm_zb_eq (x := zu) (tgt := 24) hx hb dX2_wayToBorder_6 (by decide) (fun c_15 => ?_) (fun c_15 => ?_)
    · refine lv_aload_n hx hb dX2_wayToBorder_24 rfl (lv_at hl 0 rfl) ?_
      refine va_get (D := D) (ci := 2) (v := .ref (ad 9)) (C := RX2) (T := TX2) (N := 5) hx hb hts (inT inX2) hown hK hP 8 ww_8 rfl 1 (by decide) (hts (.fieldLink RX2 9 "BoardMoves$Placement" "x" "[J") (List.mem_cons_of_mem _ flX2_9)) (fun _ h9 => h9) rfl dX2_wayToBorder_25 ?_
      refine lv_iload_n hx hb dX2_wayToBorder_28 rfl (lv_at hl 2 rfl) ?_
      refine bm_lald (f := p0.1) hx hb hK hP 9 0 ww_9 rfl (j := zb) (by omega) (by decide) dX2_wayToBorder_29 ?_
      refine lv_topl (fun t_16 _ => ?_)
      refine lv_aload_n hx hb dX2_wayToBorder_30 rfl (lv_at hl 0 rfl) ?_
      refine lv_iload_n hx hb dX2_wayToBorder_31 rfl (lv_at hl 1 rfl) ?_
      refine bm_xcallV (As := [.int (nI za)]) (rest := [.long t_16]) ⟨hx, hb, hml, hown, hts⟩ (x_endX  (zj := za) ok_p0_turn (by omega)) (cwV 1 hts gvX2_46 rfl rfl rfl hvX2_endX ⟨Nat.le_of_ble_eq_true rfl, Nat.le_of_ble_eq_true rfl⟩) hK hP hD hS hA 8 2 rfl ww_8 rfl hl.1 rfl (Nat.le_of_ble_eq_true rfl) dX2_wayToBorder_32 ⟨Nat.le_of_ble_eq_true rfl, Nat.le_of_ble_eq_true rfl⟩ (fun ws_17 r_18 h_19 H locs hP hD hS => ?_)
      obtain ⟨rfl, v_20, rfl⟩ := h_19
      have hP : va_P D vwCl (WW ad cJ cI cZ bm pa p0 p1 p2 li wi mt ms ma mp mk mn ou) H := hP
      have hD : va_D A (WW ad cJ cI cZ bm pa p0 p1 p2 li wi mt ms ma mp mk mn ou) := hD
      refine lv_lsub hx hb dX2_wayToBorder_35 ?_
      refine lv_topl (fun t_21 _ => ?_)
      exact bm_lretX (v := t_21) hx hb hr hP hD hK hS ⟨rfl, t_21, rfl⟩ dX2_wayToBorder_36 hlocks
    · refine lv_aload_n hx hb dX2_wayToBorder_9 rfl (lv_at hl 0 rfl) ?_
      refine lv_iload_n hx hb dX2_wayToBorder_10 rfl (lv_at hl 2 rfl) ?_
      refine bm_xcallV (As := [.int (nI zb)]) (rest := []) ⟨hx, hb, hml, hown, hts⟩ (x_endX  (zj := zb) ok_p0_turn (by omega)) (cwV 1 hts gvX2_46 rfl rfl rfl hvX2_endX ⟨Nat.le_of_ble_eq_true rfl, Nat.le_of_ble_eq_true rfl⟩) hK hP hD hS hA 8 2 rfl ww_8 rfl hl.1 rfl (Nat.le_of_ble_eq_true rfl) dX2_wayToBorder_11 ⟨Nat.le_of_ble_eq_true rfl, Nat.le_of_ble_eq_true rfl⟩ (fun ws_22 r_23 h_24 H locs hP hD hS => ?_)
      obtain ⟨rfl, v_25, rfl⟩ := h_24
      have hP : va_P D vwCl (WW ad cJ cI cZ bm pa p0 p1 p2 li wi mt ms ma mp mk mn ou) H := hP
      have hD : va_D A (WW ad cJ cI cZ bm pa p0 p1 p2 li wi mt ms ma mp mk mn ou) := hD
      refine lv_aload_n hx hb dX2_wayToBorder_14 rfl (lv_at hl 0 rfl) ?_
      refine va_get (D := D) (ci := 2) (v := .ref (ad 9)) (C := RX2) (T := TX2) (N := 5) hx hb hts (inT inX2) hown hK hP 8 ww_8 rfl 1 (by decide) (hts (.fieldLink RX2 9 "BoardMoves$Placement" "x" "[J") (List.mem_cons_of_mem _ flX2_9)) (fun _ h9 => h9) rfl dX2_wayToBorder_15 ?_
      refine lv_iload_n hx hb dX2_wayToBorder_18 rfl (lv_at hl 1 rfl) ?_
      refine bm_lald (f := p0.1) hx hb hK hP 9 0 ww_9 rfl (j := za) (by omega) (by decide) dX2_wayToBorder_19 ?_
      refine lv_topl (fun t_26 _ => ?_)
      refine lv_lsub hx hb dX2_wayToBorder_20 ?_
      refine lv_topl (fun t_27 _ => ?_)
      refine lv_goto (tgt := 36) hx hb dX2_wayToBorder_21 (by decide) ?_
      exact bm_lretX (v := t_27) hx hb hr hP hD hK hS ⟨rfl, t_27, rfl⟩ dX2_wayToBorder_36 hlocks

set_option maxHeartbeats 8000000 in
set_option maxRecDepth 100000 in
theorem x_shift {l : Launch} {D : va_G} {ad : Nat → Nat} {cJ cI cZ : ClassId} {bm : gBM} {pa : gPA} {p0 p1 p2 : gPL} {li : gLI} {wi : gWI} {mt : Nat} {ms : gMS} {ma : gMA} {mp : gMP} {mk : gMK} {mn : gMN} {ou : Nat → Int64} {zj : Nat} {z1 : Int64} {z2 : Int64} (ok_pa_n : pa.2.2.2.2.2.2 ≤ 40) (ok_pa_lowest : ∀ i, pa.2.2.2.2.2.1 i < 40) (hp0 : zj < 40)  : bm_Wx l yX2_shiftGroup wsX2_shiftGroup ({ frames := 1, cells := 0, slots := 0, locals := 22 }) D vwCl [(cJ, .long), (cI, .int), (cZ, .boolean)] (WW ad cJ cI cZ bm pa p0 p1 p2 li wi mt ms ma mp mk mn ou) [.ref (ad 8), .int (nI zj), .long z1, .long z2] (fun ws9 r9 => ∃ (e0 : Nat → Int64) (e1 : Nat → Int64) , ws9 = (WW ad cJ cI cZ bm pa (e0, e1, p0.2.2.1, p0.2.2.2) p1 p2 li wi mt ms ma mp mk mn ou) ∧ r9 = none) := by
  intro sz
  refine Met.ofW (cc := cX2_shiftGroup) (maxL := 7) (ret := none) (by decide) rfl ?_
  intro p e s m args below meth c s₁ B hml hv
  obtain ⟨ha, hsz, hP, hK, hD0⟩ := hv
  have hx := B.exec
  have hb := B.bytes
  have hr := B.returns
  have hts := atoms_spec (ws := wsX2_shiftGroup) B.pre
  have hown : s.vm.findClass RX2 = some m.cls := findClass_of_methodNamed B.named
  have hlocks := B.notSynchronized
  subst hsz
  have hD := hD0.self (sz := s.heap.size)
  generalize hAe : va_A (WW ad cJ cI cZ bm pa p0 p1 p2 li wi mt ms ma mp mk mn ou) s.heap.size = A at hD ⊢
  have hA : ∀ q : Nat, s.heap.size ≤ q → A q := fun q h => by rw [← hAe]; exact Or.inr h
  have hS : va_S A s.heap s.heap [] := va_S.rf
  have hl := lv_entry ([.ref (ad 8), .int (nI zj), .long z1, .long z2]) (n := 7) (Nat.le_of_ble_eq_true rfl)
  refine W.eq (g2 := entryFrame m ([.ref (ad 8), .int (nI zj), .long z1, .long z2] : List Value).toArray 7) (by rw [ha]) ?_
  rw [lg_entry_eq]
  generalize (lg_sl ([.ref (ad 8), .int (nI zj), .long z1, .long z2]) ++ List.replicate (7 - (lg_sl ([.ref (ad 8), .int (nI zj), .long z1, .long z2])).length) Slot.unset).toArray = ls at hl ⊢
  have hl : lv_has ls 7 [(0, .ref (ad 8)), (1, .int (nI zj)), (2, .long z1), (4, .long z2)] := hl
  refine lv_iconst (v := nI 0) hx hb dX2_shiftGroup_0 (by decide) ?_
  refine lv_istore (lv' := [(6, .int (nI 0)), (0, .ref (ad 8)), (1, .int (nI zj)), (2, .long z1), (4, .long z2)]) hx hb dX2_shiftGroup_1 hl (by decide) rfl (fun ls hl => ?_)
  have lp_1 : ∀ (k_3 : Nat) (i_2 : Nat) (g_5 : Nat → Int64) (g_6 : Nat → Int64), i_2 ≤ pa.2.2.2.2.2.2 → pa.2.2.2.2.2.2 < i_2 + k_3 → ∀ (H : Heap) (locs : List Loc), va_P D vwCl (WW ad cJ cI cZ bm pa (g_5, g_6, p0.2.2.1, p0.2.2.2) p1 p2 li wi mt ms ma mp mk mn ou) H → va_D A (WW ad cJ cI cZ bm pa (g_5, g_6, p0.2.2.1, p0.2.2.2) p1 p2 li wi mt ms ma mp mk mn ou) → va_S A s.heap H locs → ∀ (ls : Array Slot), lv_has ls 7 [(6, .int (nI i_2)), (0, .ref (ad 8)), (1, .int (nI zj)), (2, .long z1), (4, .long z2)] → W p l e (headSpec wsX2_shiftGroup ({ frames := 1, cells := 0, slots := 0, locals := 22 })).room s m args below meth c H locs 0 0 (MQ below (bm_Wxq D vwCl [(cJ, .long), (cI, .int), (cZ, .boolean)] (fun ws9 r9 => ∃ (e0 : Nat → Int64) (e1 : Nat → Int64) , ws9 = (WW ad cJ cI cZ bm pa (e0, e1, p0.2.2.1, p0.2.2.2) p1 p2 li wi mt ms ma mp mk mn ou) ∧ r9 = none) A) args s 0 0 A) (F0 m 3 ls []) := by
    intro k_3
    induction k_3 with
    | zero => intro i_2 g_5 g_6 hi_7 hk_8; exfalso; omega
    | succ k_3 ih_4 =>
      intro i_2 g_5 g_6 hi_7 hk_8  H locs hP hD hS ls hl
      refine lv_iload hx hb dX2_shiftGroup_3 (lv_at hl 0 rfl) ?_
      refine lv_aload_n hx hb dX2_shiftGroup_5 rfl (lv_at hl 1 rfl) ?_
      refine va_get (D := D) (ci := 2) (v := .ref (ad 1)) (C := RX2) (T := TX2) (N := 5) hx hb hts (inT inX2) hown hK hP 8 ww_8 rfl 0 (by decide) (hts (.fieldLink RX2 26 "BoardMoves$Placement" "parts" "LBoardMoves$Parts;") (List.mem_cons_of_mem _ flX2_26)) (fun _ h9 => h9) rfl dX2_shiftGroup_6 ?_
      refine va_get (D := D) (ci := 1) (v := .int (nI pa.2.2.2.2.2.2)) (C := RX1) (T := TX1) (N := 7) hx hb hts (inT inX1) hown hK hP 1 ww_1 rfl 6 (by decide) (hts (.fieldLink RX2 30 "BoardMoves$Parts" "count" "I") (List.mem_cons_of_mem _ flX2_30)) (fun _ h9 => h9) rfl dX2_shiftGroup_9 ?_
      refine bm_ni_ge (x := i_2) (y := pa.2.2.2.2.2.2) (tgt := 67) hx hb (by omega) (by omega) dX2_shiftGroup_12 (by decide) (fun c_9 => ?_) (fun c_9 => ?_)
      · exact bm_vretX hx hb hr hP hD hK hS ⟨g_5, g_6, rfl, rfl⟩ dX2_shiftGroup_67 hlocks
      · refine lv_aload_n hx hb dX2_shiftGroup_15 rfl (lv_at hl 1 rfl) ?_
        refine va_get (D := D) (ci := 2) (v := .ref (ad 12)) (C := RX2) (T := TX2) (N := 5) hx hb hts (inT inX2) hown hK hP 8 ww_8 rfl 4 (by decide) (hts (.fieldLink RX2 22 "BoardMoves$Placement" "placed" "[Z") (List.mem_cons_of_mem _ flX2_22)) (fun _ h9 => h9) rfl dX2_shiftGroup_16 ?_
        refine lv_iload hx hb dX2_shiftGroup_19 (lv_at hl 0 rfl) ?_
        refine bm_zald (f := p0.2.2.2) hx hb hK hP 12 2 ww_12 rfl (j := i_2) (by omega) (by decide) dX2_shiftGroup_21 ?_
        refine bm_zb_eq (x := (p0.2.2.2 i_2)) (tgt := 61) hx hb dX2_shiftGroup_22 (by decide) (fun c_10 => ?_) (fun c_10 => ?_)
        · refine lv_iinc (v := (nI (i_2 + 1))) (lv' := [(6, .int (nI (i_2 + 1))), (0, .ref (ad 8)), (1, .int (nI zj)), (2, .long z1), (4, .long z2)]) hx hb dX2_shiftGroup_61 hl (k := 0) rfl (nI_1 i_2) (by decide) rfl (fun ls hl => ?_)
          refine lv_goto (tgt := 3) hx hb dX2_shiftGroup_64 (by decide) ?_
          exact ih_4 (i_2 + 1) g_5 g_6 (by omega) (by omega)  _ _ hP hD hS _ (lv_sub hl [0, 1, 2, 3, 4] rfl)
        · refine lv_aload_n hx hb dX2_shiftGroup_25 rfl (lv_at hl 1 rfl) ?_
          refine va_get (D := D) (ci := 2) (v := .ref (ad 1)) (C := RX2) (T := TX2) (N := 5) hx hb hts (inT inX2) hown hK hP 8 ww_8 rfl 0 (by decide) (hts (.fieldLink RX2 26 "BoardMoves$Placement" "parts" "LBoardMoves$Parts;") (List.mem_cons_of_mem _ flX2_26)) (fun _ h9 => h9) rfl dX2_shiftGroup_26 ?_
          refine lv_iload hx hb dX2_shiftGroup_29 (lv_at hl 0 rfl) ?_
          refine lv_iload_n hx hb dX2_shiftGroup_31 rfl (lv_at hl 2 rfl) ?_
          refine bm_xcallV (As := [.int (nI i_2), .int (nI zj)]) (rest := []) ⟨hx, hb, hml, hown, hts⟩ (x_mates (p0 := (g_5, g_6, p0.2.2.1, p0.2.2.2)) (za := i_2) (zb := zj) ok_pa_lowest (by omega) (by omega)) (cwV 2 hts gvX2_36 rfl rfl rfl hvX1_areMates ⟨Nat.le_of_ble_eq_true rfl, Nat.le_of_ble_eq_true rfl⟩) hK hP hD hS hA 1 1 rfl ww_1 rfl hl.1 rfl (Nat.le_of_ble_eq_true rfl) dX2_shiftGroup_32 ⟨Nat.le_of_ble_eq_true rfl, Nat.le_of_ble_eq_true rfl⟩ (fun ws_11 r_12 h_13 H locs hP hD hS => ?_)
          obtain ⟨rfl, v_14, rfl⟩ := h_13
          have hP : va_P D vwCl (WW ad cJ cI cZ bm pa (g_5, g_6, p0.2.2.1, p0.2.2.2) p1 p2 li wi mt ms ma mp mk mn ou) H := hP
          have hD : va_D A (WW ad cJ cI cZ bm pa (g_5, g_6, p0.2.2.1, p0.2.2.2) p1 p2 li wi mt ms ma mp mk mn ou) := hD
          refine bm_zb_eq (x := v_14) (tgt := 61) hx hb dX2_shiftGroup_35 (by decide) (fun c_15 => ?_) (fun c_15 => ?_)
          · refine lv_iinc (v := (nI (i_2 + 1))) (lv' := [(6, .int (nI (i_2 + 1))), (0, .ref (ad 8)), (1, .int (nI zj)), (2, .long z1), (4, .long z2)]) hx hb dX2_shiftGroup_61 hl (k := 0) rfl (nI_1 i_2) (by decide) rfl (fun ls hl => ?_)
            refine lv_goto (tgt := 3) hx hb dX2_shiftGroup_64 (by decide) ?_
            exact ih_4 (i_2 + 1) g_5 g_6 (by omega) (by omega)  _ _ hP hD hS _ (lv_sub hl [0, 1, 2, 3, 4] rfl)
          · refine lv_aload_n hx hb dX2_shiftGroup_38 rfl (lv_at hl 1 rfl) ?_
            refine va_get (D := D) (ci := 2) (v := .ref (ad 9)) (C := RX2) (T := TX2) (N := 5) hx hb hts (inT inX2) hown hK hP 8 ww_8 rfl 1 (by decide) (hts (.fieldLink RX2 9 "BoardMoves$Placement" "x" "[J") (List.mem_cons_of_mem _ flX2_9)) (fun _ h9 => h9) rfl dX2_shiftGroup_39 ?_
            refine lv_iload hx hb dX2_shiftGroup_42 (lv_at hl 0 rfl) ?_
            refine lv_dup2_11 hx hb dX2_shiftGroup_44 rfl rfl ?_
            refine bm_lald (f := g_5) hx hb hK hP 9 0 ww_9 rfl (j := i_2) (by omega) (by decide) dX2_shiftGroup_45 ?_
            refine lv_topl (fun t_16 _ => ?_)
            refine lv_lload_n hx hb dX2_shiftGroup_46 rfl (lv_at hl 3 rfl) ?_
            refine lv_ladd hx hb dX2_shiftGroup_47 ?_
            refine lv_topl (fun t_17 _ => ?_)
            refine bm_last (f := g_5) hx hb hK hP hD hS 9 0 ww_9 rfl (j := i_2) (x := t_17) (by omega) (by decide) dX2_shiftGroup_48 (fun H locs hP hD hS => ?_)
            have hP : va_P D vwCl (WW ad cJ cI cZ bm pa (va_up g_5 i_2 t_17, g_6, p0.2.2.1, p0.2.2.2) p1 p2 li wi mt ms ma mp mk mn ou) H := hP
            have hD : va_D A (WW ad cJ cI cZ bm pa (va_up g_5 i_2 t_17, g_6, p0.2.2.1, p0.2.2.2) p1 p2 li wi mt ms ma mp mk mn ou) := hD
            refine lv_aload_n hx hb dX2_shiftGroup_49 rfl (lv_at hl 1 rfl) ?_
            refine va_get (D := D) (ci := 2) (v := .ref (ad 10)) (C := RX2) (T := TX2) (N := 5) hx hb hts (inT inX2) hown hK hP 8 ww_8 rfl 2 (by decide) (hts (.fieldLink RX2 15 "BoardMoves$Placement" "y" "[J") (List.mem_cons_of_mem _ flX2_15)) (fun _ h9 => h9) rfl dX2_shiftGroup_50 ?_
            refine lv_iload hx hb dX2_shiftGroup_53 (lv_at hl 0 rfl) ?_
            refine lv_dup2_11 hx hb dX2_shiftGroup_55 rfl rfl ?_
            refine bm_lald (f := g_6) hx hb hK hP 10 0 ww_10 rfl (j := i_2) (by omega) (by decide) dX2_shiftGroup_56 ?_
            refine lv_topl (fun t_18 _ => ?_)
            refine lv_lload hx hb dX2_shiftGroup_57 (lv_at hl 4 rfl) ?_
            refine lv_ladd hx hb dX2_shiftGroup_59 ?_
            refine lv_topl (fun t_19 _ => ?_)
            refine bm_last (f := g_6) hx hb hK hP hD hS 10 0 ww_10 rfl (j := i_2) (x := t_19) (by omega) (by decide) dX2_shiftGroup_60 (fun H locs hP hD hS => ?_)
            have hP : va_P D vwCl (WW ad cJ cI cZ bm pa (va_up g_5 i_2 t_17, va_up g_6 i_2 t_19, p0.2.2.1, p0.2.2.2) p1 p2 li wi mt ms ma mp mk mn ou) H := hP
            have hD : va_D A (WW ad cJ cI cZ bm pa (va_up g_5 i_2 t_17, va_up g_6 i_2 t_19, p0.2.2.1, p0.2.2.2) p1 p2 li wi mt ms ma mp mk mn ou) := hD
            refine lv_iinc (v := (nI (i_2 + 1))) (lv' := [(6, .int (nI (i_2 + 1))), (0, .ref (ad 8)), (1, .int (nI zj)), (2, .long z1), (4, .long z2)]) hx hb dX2_shiftGroup_61 hl (k := 0) rfl (nI_1 i_2) (by decide) rfl (fun ls hl => ?_)
            refine lv_goto (tgt := 3) hx hb dX2_shiftGroup_64 (by decide) ?_
            exact ih_4 (i_2 + 1) (va_up g_5 i_2 t_17) (va_up g_6 i_2 t_19) (by omega) (by omega)  _ _ hP hD hS _ (lv_sub hl [0, 1, 2, 3, 4] rfl)
  exact lp_1 (pa.2.2.2.2.2.2 + 1) 0 p0.1 p0.2.1 (by omega) (by omega)  _ _ hP hD hS _ (lv_sub hl [0, 1, 2, 3, 4] rfl)
