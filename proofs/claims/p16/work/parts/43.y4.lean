set_option maxHeartbeats 8000000 in
set_option maxRecDepth 100000 in
theorem y_copy {l : Launch} {D : va_G} {ad : Nat → Nat} {cJ cI cZ : ClassId} {bm : gBM} {pa : gPA} {p0 p1 p2 : gPL} {li : gLI} {wi : gWI} {mt : Nat} {ms : gMS} {ma : gMA} {mp : gMP} {mk : gMK} {mn : gMN} {ou : Nat → Int64} {zt : Nat} {zf : Nat} (ok_mp_turns : ∀ i, mp.2.2 i < 40) (hp0 : zt < 3) (hp1 : zf < 3)  : bm_Wx l yX5_copy wsX5_copy ({ frames := 0, cells := 0, slots := 0, locals := 0 }) D vwCl [(cJ, .long), (cI, .int), (cZ, .boolean)] (WW ad cJ cI cZ bm pa p0 p1 p2 li wi mt ms ma mp mk mn ou) [.ref (ad 42), .int (nI zt), .int (nI zf)] (fun ws9 r9 => ∃ (e0 : Nat → Int64) (e1 : Nat → Int64) (e2 : Nat → Nat) , (∀ i, e2 i < 40) ∧ ws9 = (WW ad cJ cI cZ bm pa p0 p1 p2 li wi mt ms ma (e0, e1, e2) mk mn ou) ∧ r9 = none) := by
  intro sz
  refine Met.ofW (cc := cX5_copy) (maxL := 4) (ret := none) (by decide) rfl ?_
  intro p e s m args below meth c s₁ B hml hv
  obtain ⟨ha, hsz, hP, hK, hD0⟩ := hv
  have hx := B.exec
  have hb := B.bytes
  have hr := B.returns
  have hts := atoms_spec (ws := wsX5_copy) B.pre
  have hown : s.vm.findClass RX5 = some m.cls := findClass_of_methodNamed B.named
  have hlocks := B.notSynchronized
  subst hsz
  have hD := hD0.self (sz := s.heap.size)
  generalize hAe : va_A (WW ad cJ cI cZ bm pa p0 p1 p2 li wi mt ms ma mp mk mn ou) s.heap.size = A at hD ⊢
  have hA : ∀ q : Nat, s.heap.size ≤ q → A q := fun q h => by rw [← hAe]; exact Or.inr h
  have hS : va_S A s.heap s.heap [] := va_S.rf
  have hl := lv_entry ([.ref (ad 42), .int (nI zt), .int (nI zf)]) (n := 4) (Nat.le_of_ble_eq_true rfl)
  refine W.eq (g2 := entryFrame m ([.ref (ad 42), .int (nI zt), .int (nI zf)] : List Value).toArray 4) (by rw [ha]) ?_
  rw [lg_entry_eq]
  generalize (lg_sl ([.ref (ad 42), .int (nI zt), .int (nI zf)]) ++ List.replicate (4 - (lg_sl ([.ref (ad 42), .int (nI zt), .int (nI zf)])).length) Slot.unset).toArray = ls at hl ⊢
  have hl : lv_has ls 4 [(0, .ref (ad 42)), (1, .int (nI zt)), (2, .int (nI zf))] := hl
  refine lv_iconst (v := nI 0) hx hb dX5_copy_0 (by decide) ?_
  refine lv_istore_n (lv' := [(3, .int (nI 0)), (0, .ref (ad 42)), (1, .int (nI zt)), (2, .int (nI zf))]) hx hb dX5_copy_1 rfl hl (by decide) rfl (fun ls hl => ?_)
  have lp_1 : ∀ (k_3 : Nat) (i_2 : Nat) (g_5 : Nat → Int64) (g_6 : Nat → Int64) (g_7 : Nat → Nat), i_2 ≤ 40 → 40 < i_2 + k_3 → (∀ i, g_7 i < 40) → ∀ (H : Heap) (locs : List Loc), va_P D vwCl (WW ad cJ cI cZ bm pa p0 p1 p2 li wi mt ms ma (g_5, g_6, g_7) mk mn ou) H → va_D A (WW ad cJ cI cZ bm pa p0 p1 p2 li wi mt ms ma (g_5, g_6, g_7) mk mn ou) → va_S A s.heap H locs → ∀ (ls : Array Slot), lv_has ls 4 [(3, .int (nI i_2)), (0, .ref (ad 42)), (1, .int (nI zt)), (2, .int (nI zf))] → W p l e (headSpec wsX5_copy ({ frames := 0, cells := 0, slots := 0, locals := 0 })).room s m args below meth c H locs 0 0 (MQ below (bm_Wxq D vwCl [(cJ, .long), (cI, .int), (cZ, .boolean)] (fun ws9 r9 => ∃ (e0 : Nat → Int64) (e1 : Nat → Int64) (e2 : Nat → Nat) , (∀ i, e2 i < 40) ∧ ws9 = (WW ad cJ cI cZ bm pa p0 p1 p2 li wi mt ms ma (e0, e1, e2) mk mn ou) ∧ r9 = none) A) args s 0 0 A) (F0 m 2 ls []) := by
    intro k_3
    induction k_3 with
    | zero => intro i_2 g_5 g_6 g_7 hi_9 hk_10; exfalso; omega
    | succ k_3 ih_4 =>
      intro i_2 g_5 g_6 g_7 hi_9 hk_10 ok_8 H locs hP hD hS ls hl
      refine lv_iload_n hx hb dX5_copy_2 rfl (lv_at hl 0 rfl) ?_
      refine lv_bipush (v := nI 40) hx hb dX5_copy_3 (by decide) ?_
      refine bm_ni_ge (x := i_2) (y := 40) (tgt := 80) hx hb (by omega) (by omega) dX5_copy_5 (by decide) (fun c_11 => ?_) (fun c_11 => ?_)
      · exact bm_vretX hx hb hr hP hD hK hS ⟨g_5, g_6, g_7, ok_8, rfl, rfl⟩ dX5_copy_80 hlocks
      · refine lv_aload_n hx hb dX5_copy_8 rfl (lv_at hl 1 rfl) ?_
        refine va_get (D := D) (ci := 5) (v := .ref (ad 50)) (C := RX5) (T := TX5) (N := 28) hx hb hts (inT inX5) hown hK hP 42 ww_42 rfl 11 (by decide) (hts (.fieldLink RX5 33 "BoardMovesModel" "x" "[J") (List.mem_cons_of_mem _ flX5_33)) (fun _ h9 => h9) rfl dX5_copy_9 ?_
        refine lv_bipush (v := nI 40) hx hb dX5_copy_12 (by decide) ?_
        refine lv_iload_n hx hb dX5_copy_14 rfl (lv_at hl 2 rfl) ?_
        refine bm_nmul hx hb dX5_copy_15 ?_
        refine lv_iload_n hx hb dX5_copy_16 rfl (lv_at hl 0 rfl) ?_
        refine bm_nadd hx hb dX5_copy_17 ?_
        refine lv_aload_n hx hb dX5_copy_18 rfl (lv_at hl 1 rfl) ?_
        refine va_get (D := D) (ci := 5) (v := .ref (ad 50)) (C := RX5) (T := TX5) (N := 28) hx hb hts (inT inX5) hown hK hP 42 ww_42 rfl 11 (by decide) (hts (.fieldLink RX5 33 "BoardMovesModel" "x" "[J") (List.mem_cons_of_mem _ flX5_33)) (fun _ h9 => h9) rfl dX5_copy_19 ?_
        refine lv_bipush (v := nI 40) hx hb dX5_copy_22 (by decide) ?_
        refine lv_iload_n hx hb dX5_copy_24 rfl (lv_at hl 3 rfl) ?_
        refine bm_nmul hx hb dX5_copy_25 ?_
        refine lv_iload_n hx hb dX5_copy_26 rfl (lv_at hl 0 rfl) ?_
        refine bm_nadd hx hb dX5_copy_27 ?_
        refine bm_lald (f := g_5) hx hb hK hP 50 0 ww_50 rfl (j := ((40 * zf) + i_2)) (by omega) (by decide) dX5_copy_28 ?_
        refine lv_topl (fun t_12 _ => ?_)
        refine bm_last (f := g_5) hx hb hK hP hD hS 50 0 ww_50 rfl (j := ((40 * zt) + i_2)) (x := t_12) (by omega) (by decide) dX5_copy_29 (fun H locs hP hD hS => ?_)
        have hP : va_P D vwCl (WW ad cJ cI cZ bm pa p0 p1 p2 li wi mt ms ma (va_up g_5 ((40 * zt) + i_2) t_12, g_6, g_7) mk mn ou) H := hP
        have hD : va_D A (WW ad cJ cI cZ bm pa p0 p1 p2 li wi mt ms ma (va_up g_5 ((40 * zt) + i_2) t_12, g_6, g_7) mk mn ou) := hD
        refine lv_aload_n hx hb dX5_copy_30 rfl (lv_at hl 1 rfl) ?_
        refine va_get (D := D) (ci := 5) (v := .ref (ad 51)) (C := RX5) (T := TX5) (N := 28) hx hb hts (inT inX5) hown hK hP 42 ww_42 rfl 12 (by decide) (hts (.fieldLink RX5 36 "BoardMovesModel" "y" "[J") (List.mem_cons_of_mem _ flX5_36)) (fun _ h9 => h9) rfl dX5_copy_31 ?_
        refine lv_bipush (v := nI 40) hx hb dX5_copy_34 (by decide) ?_
        refine lv_iload_n hx hb dX5_copy_36 rfl (lv_at hl 2 rfl) ?_
        refine bm_nmul hx hb dX5_copy_37 ?_
        refine lv_iload_n hx hb dX5_copy_38 rfl (lv_at hl 0 rfl) ?_
        refine bm_nadd hx hb dX5_copy_39 ?_
        refine lv_aload_n hx hb dX5_copy_40 rfl (lv_at hl 1 rfl) ?_
        refine va_get (D := D) (ci := 5) (v := .ref (ad 51)) (C := RX5) (T := TX5) (N := 28) hx hb hts (inT inX5) hown hK hP 42 ww_42 rfl 12 (by decide) (hts (.fieldLink RX5 36 "BoardMovesModel" "y" "[J") (List.mem_cons_of_mem _ flX5_36)) (fun _ h9 => h9) rfl dX5_copy_41 ?_
        refine lv_bipush (v := nI 40) hx hb dX5_copy_44 (by decide) ?_
        refine lv_iload_n hx hb dX5_copy_46 rfl (lv_at hl 3 rfl) ?_
        refine bm_nmul hx hb dX5_copy_47 ?_
        refine lv_iload_n hx hb dX5_copy_48 rfl (lv_at hl 0 rfl) ?_
        refine bm_nadd hx hb dX5_copy_49 ?_
        refine bm_lald (f := g_6) hx hb hK hP 51 0 ww_51 rfl (j := ((40 * zf) + i_2)) (by omega) (by decide) dX5_copy_50 ?_
        refine lv_topl (fun t_13 _ => ?_)
        refine bm_last (f := g_6) hx hb hK hP hD hS 51 0 ww_51 rfl (j := ((40 * zt) + i_2)) (x := t_13) (by omega) (by decide) dX5_copy_51 (fun H locs hP hD hS => ?_)
        have hP : va_P D vwCl (WW ad cJ cI cZ bm pa p0 p1 p2 li wi mt ms ma (va_up g_5 ((40 * zt) + i_2) t_12, va_up g_6 ((40 * zt) + i_2) t_13, g_7) mk mn ou) H := hP
        have hD : va_D A (WW ad cJ cI cZ bm pa p0 p1 p2 li wi mt ms ma (va_up g_5 ((40 * zt) + i_2) t_12, va_up g_6 ((40 * zt) + i_2) t_13, g_7) mk mn ou) := hD
        refine lv_aload_n hx hb dX5_copy_52 rfl (lv_at hl 1 rfl) ?_
        refine va_get (D := D) (ci := 5) (v := .ref (ad 52)) (C := RX5) (T := TX5) (N := 28) hx hb hts (inT inX5) hown hK hP 42 ww_42 rfl 13 (by decide) (hts (.fieldLink RX5 39 "BoardMovesModel" "turns" "[I") (List.mem_cons_of_mem _ flX5_39)) (fun _ h9 => h9) rfl dX5_copy_53 ?_
        refine lv_bipush (v := nI 40) hx hb dX5_copy_56 (by decide) ?_
        refine lv_iload_n hx hb dX5_copy_58 rfl (lv_at hl 2 rfl) ?_
        refine bm_nmul hx hb dX5_copy_59 ?_
        refine lv_iload_n hx hb dX5_copy_60 rfl (lv_at hl 0 rfl) ?_
        refine bm_nadd hx hb dX5_copy_61 ?_
        refine lv_aload_n hx hb dX5_copy_62 rfl (lv_at hl 1 rfl) ?_
        refine va_get (D := D) (ci := 5) (v := .ref (ad 52)) (C := RX5) (T := TX5) (N := 28) hx hb hts (inT inX5) hown hK hP 42 ww_42 rfl 13 (by decide) (hts (.fieldLink RX5 39 "BoardMovesModel" "turns" "[I") (List.mem_cons_of_mem _ flX5_39)) (fun _ h9 => h9) rfl dX5_copy_63 ?_
        refine lv_bipush (v := nI 40) hx hb dX5_copy_66 (by decide) ?_
        refine lv_iload_n hx hb dX5_copy_68 rfl (lv_at hl 3 rfl) ?_
        refine bm_nmul hx hb dX5_copy_69 ?_
        refine lv_iload_n hx hb dX5_copy_70 rfl (lv_at hl 0 rfl) ?_
        refine bm_nadd hx hb dX5_copy_71 ?_
        refine bm_nald (f := g_7) hx hb hK hP 52 1 ww_52 rfl (j := ((40 * zf) + i_2)) (by omega) (by decide) dX5_copy_72 ?_
        refine bm_nast (f := g_7) hx hb hK hP hD hS 52 1 ww_52 rfl (j := ((40 * zt) + i_2)) (x := (g_7 ((40 * zf) + i_2))) (by omega) (by decide) dX5_copy_73 (fun H locs hP hD hS => ?_)
        have hP : va_P D vwCl (WW ad cJ cI cZ bm pa p0 p1 p2 li wi mt ms ma (va_up g_5 ((40 * zt) + i_2) t_12, va_up g_6 ((40 * zt) + i_2) t_13, va_up g_7 ((40 * zt) + i_2) (g_7 ((40 * zf) + i_2))) mk mn ou) H := hP
        have hD : va_D A (WW ad cJ cI cZ bm pa p0 p1 p2 li wi mt ms ma (va_up g_5 ((40 * zt) + i_2) t_12, va_up g_6 ((40 * zt) + i_2) t_13, va_up g_7 ((40 * zt) + i_2) (g_7 ((40 * zf) + i_2))) mk mn ou) := hD
        refine lv_iinc (v := (nI (i_2 + 1))) (lv' := [(3, .int (nI (i_2 + 1))), (0, .ref (ad 42)), (1, .int (nI zt)), (2, .int (nI zf))]) hx hb dX5_copy_74 hl (k := 0) rfl (nI_1 i_2) (by decide) rfl (fun ls hl => ?_)
        refine lv_goto (tgt := 2) hx hb dX5_copy_77 (by decide) ?_
        exact ih_4 (i_2 + 1) (va_up g_5 ((40 * zt) + i_2) t_12) (va_up g_6 ((40 * zt) + i_2) t_13) (va_up g_7 ((40 * zt) + i_2) (g_7 ((40 * zf) + i_2))) (by omega) (by omega) (bx_uplt ok_8 (ok_8 _)) _ _ hP hD hS _ (lv_sub hl [0, 1, 2, 3] rfl)
  exact lp_1 (40 + 1) 0 mp.1 mp.2.1 mp.2.2 (by omega) (by omega) ok_mp_turns _ _ hP hD hS _ (lv_sub hl [0, 1, 2, 3] rfl)

set_option maxHeartbeats 8000000 in
set_option maxRecDepth 100000 in
theorem y_same {l : Launch} {D : va_G} {ad : Nat → Nat} {cJ cI cZ : ClassId} {bm : gBM} {pa : gPA} {p0 p1 p2 : gPL} {li : gLI} {wi : gWI} {mt : Nat} {ms : gMS} {ma : gMA} {mp : gMP} {mk : gMK} {mn : gMN} {ou : Nat → Int64} {zr : Nat} {zp : Nat} (ok_mp_turns : ∀ i, mp.2.2 i < 40) (hp0 : zr < 3) (hp1 : zp < 40)  : bm_Wx l yX5_isSame wsX5_isSame ({ frames := 1, cells := 0, slots := 0, locals := 22 }) D vwCl [(cJ, .long), (cI, .int), (cZ, .boolean)] (WW ad cJ cI cZ bm pa p0 p1 p2 li wi mt ms ma mp mk mn ou) [.ref (ad 42), .int (nI zr), .int (nI zp)] (fun ws9 r9 => ws9 = (WW ad cJ cI cZ bm pa p0 p1 p2 li wi mt ms ma mp mk mn ou) ∧ ∃ b9 : Bool, r9 = some (.int (bm_b b9))) := by
  intro sz
  refine Met.ofW (cc := cX5_isSame) (maxL := 3) (ret := (some .boolean)) (by decide) rfl ?_
  intro p e s m args below meth c s₁ B hml hv
  obtain ⟨ha, hsz, hP, hK, hD0⟩ := hv
  have hx := B.exec
  have hb := B.bytes
  have hr := B.returns
  have hts := atoms_spec (ws := wsX5_isSame) B.pre
  have hown : s.vm.findClass RX5 = some m.cls := findClass_of_methodNamed B.named
  have hlocks := B.notSynchronized
  subst hsz
  have hD := hD0.self (sz := s.heap.size)
  generalize hAe : va_A (WW ad cJ cI cZ bm pa p0 p1 p2 li wi mt ms ma mp mk mn ou) s.heap.size = A at hD ⊢
  have hA : ∀ q : Nat, s.heap.size ≤ q → A q := fun q h => by rw [← hAe]; exact Or.inr h
  have hS : va_S A s.heap s.heap [] := va_S.rf
  have hl := lv_entry ([.ref (ad 42), .int (nI zr), .int (nI zp)]) (n := 3) (Nat.le_of_ble_eq_true rfl)
  refine W.eq (g2 := entryFrame m ([.ref (ad 42), .int (nI zr), .int (nI zp)] : List Value).toArray 3) (by rw [ha]) ?_
  rw [lg_entry_eq]
  generalize (lg_sl ([.ref (ad 42), .int (nI zr), .int (nI zp)]) ++ List.replicate (3 - (lg_sl ([.ref (ad 42), .int (nI zr), .int (nI zp)])).length) Slot.unset).toArray = ls at hl ⊢
  have hl : lv_has ls 3 [(0, .ref (ad 42)), (1, .int (nI zr)), (2, .int (nI zp))] := hl
  refine lv_aload_n hx hb dX5_isSame_0 rfl (lv_at hl 0 rfl) ?_
  refine lv_iload_n hx hb dX5_isSame_1 rfl (lv_at hl 1 rfl) ?_
  refine lv_iload_n hx hb dX5_isSame_2 rfl (lv_at hl 2 rfl) ?_
  refine bm_xcallV (As := [.int (nI zr), .int (nI zp)]) (rest := []) ⟨hx, hb, hml, hown, hts⟩ (y_left  (zr := zr) (zp := zp)  (by omega) (by omega)) (cwV 2 hts gvX5_92 rfl rfl rfl hvX5_left ⟨Nat.le_of_ble_eq_true rfl, Nat.le_of_ble_eq_true rfl⟩) hK hP hD hS hA 42 5 rfl ww_42 rfl hl.1 rfl (Nat.le_of_ble_eq_true rfl) dX5_isSame_3 ⟨Nat.le_of_ble_eq_true rfl, Nat.le_of_ble_eq_true rfl⟩ (fun ws_1 r_2 h_3 H locs hP hD hS => ?_)
  obtain ⟨rfl, v_4, rfl⟩ := h_3
  have hP : va_P D vwCl (WW ad cJ cI cZ bm pa p0 p1 p2 li wi mt ms ma mp mk mn ou) H := hP
  have hD : va_D A (WW ad cJ cI cZ bm pa p0 p1 p2 li wi mt ms ma mp mk mn ou) := hD
  refine lv_aload_n hx hb dX5_isSame_6 rfl (lv_at hl 0 rfl) ?_
  refine lv_iconst (v := nI 0) hx hb dX5_isSame_7 (by decide) ?_
  refine lv_iload_n hx hb dX5_isSame_8 rfl (lv_at hl 2 rfl) ?_
  refine bm_xcallV (As := [.int (nI 0), .int (nI zp)]) (rest := [.long v_4]) ⟨hx, hb, hml, hown, hts⟩ (y_left  (zr := 0) (zp := zp)  (by omega) (by omega)) (cwV 2 hts gvX5_92 rfl rfl rfl hvX5_left ⟨Nat.le_of_ble_eq_true rfl, Nat.le_of_ble_eq_true rfl⟩) hK hP hD hS hA 42 5 rfl ww_42 rfl hl.1 rfl (Nat.le_of_ble_eq_true rfl) dX5_isSame_9 ⟨Nat.le_of_ble_eq_true rfl, Nat.le_of_ble_eq_true rfl⟩ (fun ws_5 r_6 h_7 H locs hP hD hS => ?_)
  obtain ⟨rfl, v_8, rfl⟩ := h_7
  have hP : va_P D vwCl (WW ad cJ cI cZ bm pa p0 p1 p2 li wi mt ms ma mp mk mn ou) H := hP
  have hD : va_D A (WW ad cJ cI cZ bm pa p0 p1 p2 li wi mt ms ma mp mk mn ou) := hD
  refine bm_lc_ne (x := v_4) (y := v_8) (tgt := 56) hx hb dX5_isSame_12 dX5_isSame_13 (by decide) (fun c_9 => ?_) (fun c_9 => ?_)
  · refine lv_iconst (v := bm_b false) hx hb dX5_isSame_56 (by decide) ?_
    exact bm_zretX (v := false) hx hb hr hP hD hK hS ⟨rfl, false, rfl⟩ dX5_isSame_57 hlocks
  · refine lv_aload_n hx hb dX5_isSame_16 rfl (lv_at hl 0 rfl) ?_
    refine lv_iload_n hx hb dX5_isSame_17 rfl (lv_at hl 1 rfl) ?_
    refine lv_iload_n hx hb dX5_isSame_18 rfl (lv_at hl 2 rfl) ?_
    refine bm_xcallV (As := [.int (nI zr), .int (nI zp)]) (rest := []) ⟨hx, hb, hml, hown, hts⟩ (y_low  (zr := zr) (zp := zp)  (by omega) (by omega)) (cwV 2 hts gvX5_100 rfl rfl rfl hvX5_low ⟨Nat.le_of_ble_eq_true rfl, Nat.le_of_ble_eq_true rfl⟩) hK hP hD hS hA 42 5 rfl ww_42 rfl hl.1 rfl (Nat.le_of_ble_eq_true rfl) dX5_isSame_19 ⟨Nat.le_of_ble_eq_true rfl, Nat.le_of_ble_eq_true rfl⟩ (fun ws_10 r_11 h_12 H locs hP hD hS => ?_)
    obtain ⟨rfl, v_13, rfl⟩ := h_12
    have hP : va_P D vwCl (WW ad cJ cI cZ bm pa p0 p1 p2 li wi mt ms ma mp mk mn ou) H := hP
    have hD : va_D A (WW ad cJ cI cZ bm pa p0 p1 p2 li wi mt ms ma mp mk mn ou) := hD
    refine lv_aload_n hx hb dX5_isSame_22 rfl (lv_at hl 0 rfl) ?_
    refine lv_iconst (v := nI 0) hx hb dX5_isSame_23 (by decide) ?_
    refine lv_iload_n hx hb dX5_isSame_24 rfl (lv_at hl 2 rfl) ?_
    refine bm_xcallV (As := [.int (nI 0), .int (nI zp)]) (rest := [.long v_13]) ⟨hx, hb, hml, hown, hts⟩ (y_low  (zr := 0) (zp := zp)  (by omega) (by omega)) (cwV 2 hts gvX5_100 rfl rfl rfl hvX5_low ⟨Nat.le_of_ble_eq_true rfl, Nat.le_of_ble_eq_true rfl⟩) hK hP hD hS hA 42 5 rfl ww_42 rfl hl.1 rfl (Nat.le_of_ble_eq_true rfl) dX5_isSame_25 ⟨Nat.le_of_ble_eq_true rfl, Nat.le_of_ble_eq_true rfl⟩ (fun ws_14 r_15 h_16 H locs hP hD hS => ?_)
    obtain ⟨rfl, v_17, rfl⟩ := h_16
    have hP : va_P D vwCl (WW ad cJ cI cZ bm pa p0 p1 p2 li wi mt ms ma mp mk mn ou) H := hP
    have hD : va_D A (WW ad cJ cI cZ bm pa p0 p1 p2 li wi mt ms ma mp mk mn ou) := hD
    refine bm_lc_ne (x := v_13) (y := v_17) (tgt := 56) hx hb dX5_isSame_28 dX5_isSame_29 (by decide) (fun c_18 => ?_) (fun c_18 => ?_)
    · refine lv_iconst (v := bm_b false) hx hb dX5_isSame_56 (by decide) ?_
      exact bm_zretX (v := false) hx hb hr hP hD hK hS ⟨rfl, false, rfl⟩ dX5_isSame_57 hlocks
    · refine lv_aload_n hx hb dX5_isSame_32 rfl (lv_at hl 0 rfl) ?_
      refine va_get (D := D) (ci := 5) (v := .ref (ad 52)) (C := RX5) (T := TX5) (N := 28) hx hb hts (inT inX5) hown hK hP 42 ww_42 rfl 13 (by decide) (hts (.fieldLink RX5 39 "BoardMovesModel" "turns" "[I") (List.mem_cons_of_mem _ flX5_39)) (fun _ h9 => h9) rfl dX5_isSame_33 ?_
      refine lv_bipush (v := nI 40) hx hb dX5_isSame_36 (by decide) ?_
      refine lv_iload_n hx hb dX5_isSame_38 rfl (lv_at hl 1 rfl) ?_
      refine bm_nmul hx hb dX5_isSame_39 ?_
      refine lv_iload_n hx hb dX5_isSame_40 rfl (lv_at hl 2 rfl) ?_
      refine bm_nadd hx hb dX5_isSame_41 ?_
      refine bm_nald (f := mp.2.2) hx hb hK hP 52 1 ww_52 rfl (j := ((40 * zr) + zp)) (by omega) (by decide) dX5_isSame_42 ?_
      refine lv_aload_n hx hb dX5_isSame_43 rfl (lv_at hl 0 rfl) ?_
      refine va_get (D := D) (ci := 5) (v := .ref (ad 52)) (C := RX5) (T := TX5) (N := 28) hx hb hts (inT inX5) hown hK hP 42 ww_42 rfl 13 (by decide) (hts (.fieldLink RX5 39 "BoardMovesModel" "turns" "[I") (List.mem_cons_of_mem _ flX5_39)) (fun _ h9 => h9) rfl dX5_isSame_44 ?_
      refine lv_iload_n hx hb dX5_isSame_47 rfl (lv_at hl 2 rfl) ?_
      refine bm_nald (f := mp.2.2) hx hb hK hP 52 1 ww_52 rfl (j := zp) (by omega) (by decide) dX5_isSame_48 ?_
      refine bm_ni_ne (x := (mp.2.2 ((40 * zr) + zp))) (y := (mp.2.2 zp)) (tgt := 56) hx hb (bm40 (ok_mp_turns _)) (bm40 (ok_mp_turns _)) dX5_isSame_49 (by decide) (fun c_19 => ?_) (fun c_19 => ?_)
      · refine lv_iconst (v := bm_b false) hx hb dX5_isSame_56 (by decide) ?_
        exact bm_zretX (v := false) hx hb hr hP hD hK hS ⟨rfl, false, rfl⟩ dX5_isSame_57 hlocks
      · refine lv_iconst (v := bm_b true) hx hb dX5_isSame_52 (by decide) ?_
        refine lv_goto (tgt := 57) hx hb dX5_isSame_53 (by decide) ?_
        exact bm_zretX (v := true) hx hb hr hP hD hK hS ⟨rfl, true, rfl⟩ dX5_isSame_57 hlocks

set_option maxHeartbeats 8000000 in
set_option maxRecDepth 100000 in
theorem y_go {l : Launch} {D : va_G} {ad : Nat → Nat} {cJ cI cZ : ClassId} {bm : gBM} {pa : gPA} {p0 p1 p2 : gPL} {li : gLI} {wi : gWI} {mt : Nat} {ms : gMS} {ma : gMA} {mp : gMP} {mk : gMK} {mn : gMN} {ou : Nat → Int64} {zp : Nat} {z1 : Int64} {z2 : Int64} (ok_ms_parts : ms.2.2.1 ≤ 40) (ok_ma_groups : ∀ i, ma.2.2.2.2.2.1 i < 40) (hp0 : zp < 40)  : bm_Wx l yX5_go wsX5_go ({ frames := 0, cells := 0, slots := 0, locals := 0 }) D vwCl [(cJ, .long), (cI, .int), (cZ, .boolean)] (WW ad cJ cI cZ bm pa p0 p1 p2 li wi mt ms ma mp mk mn ou) [.ref (ad 42), .int (nI zp), .long z1, .long z2] (fun ws9 r9 => ∃ (e0 : Nat → Int64) (e1 : Nat → Int64) (e2 : Nat → Bool) , ws9 = (WW ad cJ cI cZ bm pa p0 p1 p2 li wi mt ms ma (e0, e1, mp.2.2) mk (mn.1, mn.2.1, mn.2.2.1, mn.2.2.2.1, e2) ou) ∧ r9 = none) := by
  intro sz
  refine Met.ofW (cc := cX5_go) (maxL := 7) (ret := none) (by decide) rfl ?_
  intro p e s m args below meth c s₁ B hml hv
  obtain ⟨ha, hsz, hP, hK, hD0⟩ := hv
  have hx := B.exec
  have hb := B.bytes
  have hr := B.returns
  have hts := atoms_spec (ws := wsX5_go) B.pre
  have hown : s.vm.findClass RX5 = some m.cls := findClass_of_methodNamed B.named
  have hlocks := B.notSynchronized
  subst hsz
  have hD := hD0.self (sz := s.heap.size)
  generalize hAe : va_A (WW ad cJ cI cZ bm pa p0 p1 p2 li wi mt ms ma mp mk mn ou) s.heap.size = A at hD ⊢
  have hA : ∀ q : Nat, s.heap.size ≤ q → A q := fun q h => by rw [← hAe]; exact Or.inr h
  have hS : va_S A s.heap s.heap [] := va_S.rf
  have hl := lv_entry ([.ref (ad 42), .int (nI zp), .long z1, .long z2]) (n := 7) (Nat.le_of_ble_eq_true rfl)
  refine W.eq (g2 := entryFrame m ([.ref (ad 42), .int (nI zp), .long z1, .long z2] : List Value).toArray 7) (by rw [ha]) ?_
  rw [lg_entry_eq]
  generalize (lg_sl ([.ref (ad 42), .int (nI zp), .long z1, .long z2]) ++ List.replicate (7 - (lg_sl ([.ref (ad 42), .int (nI zp), .long z1, .long z2])).length) Slot.unset).toArray = ls at hl ⊢
  have hl : lv_has ls 7 [(0, .ref (ad 42)), (1, .int (nI zp)), (2, .long z1), (4, .long z2)] := hl
  refine lv_iconst (v := nI 0) hx hb dX5_go_0 (by decide) ?_
  refine lv_istore (lv' := [(6, .int (nI 0)), (0, .ref (ad 42)), (1, .int (nI zp)), (2, .long z1), (4, .long z2)]) hx hb dX5_go_1 hl (by decide) rfl (fun ls hl => ?_)
  have lp_1 : ∀ (k_3 : Nat) (i_2 : Nat) (g_5 : Nat → Int64) (g_6 : Nat → Int64) (g_7 : Nat → Bool), i_2 ≤ ms.2.2.1 → ms.2.2.1 < i_2 + k_3 → ∀ (H : Heap) (locs : List Loc), va_P D vwCl (WW ad cJ cI cZ bm pa p0 p1 p2 li wi mt ms ma (g_5, g_6, mp.2.2) mk (mn.1, mn.2.1, mn.2.2.1, mn.2.2.2.1, g_7) ou) H → va_D A (WW ad cJ cI cZ bm pa p0 p1 p2 li wi mt ms ma (g_5, g_6, mp.2.2) mk (mn.1, mn.2.1, mn.2.2.1, mn.2.2.2.1, g_7) ou) → va_S A s.heap H locs → ∀ (ls : Array Slot), lv_has ls 7 [(6, .int (nI i_2)), (0, .ref (ad 42)), (1, .int (nI zp)), (2, .long z1), (4, .long z2)] → W p l e (headSpec wsX5_go ({ frames := 0, cells := 0, slots := 0, locals := 0 })).room s m args below meth c H locs 0 0 (MQ below (bm_Wxq D vwCl [(cJ, .long), (cI, .int), (cZ, .boolean)] (fun ws9 r9 => ∃ (e0 : Nat → Int64) (e1 : Nat → Int64) (e2 : Nat → Bool) , ws9 = (WW ad cJ cI cZ bm pa p0 p1 p2 li wi mt ms ma (e0, e1, mp.2.2) mk (mn.1, mn.2.1, mn.2.2.1, mn.2.2.2.1, e2) ou) ∧ r9 = none) A) args s 0 0 A) (F0 m 3 ls []) := by
    intro k_3
    induction k_3 with
    | zero => intro i_2 g_5 g_6 g_7 hi_8 hk_9; exfalso; omega
    | succ k_3 ih_4 =>
      intro i_2 g_5 g_6 g_7 hi_8 hk_9  H locs hP hD hS ls hl
      refine lv_iload hx hb dX5_go_3 (lv_at hl 0 rfl) ?_
      refine lv_aload_n hx hb dX5_go_5 rfl (lv_at hl 1 rfl) ?_
      refine va_get (D := D) (ci := 5) (v := .int (nI ms.2.2.1)) (C := RX5) (T := TX5) (N := 28) hx hb hts (inT inX5) hown hK hP 42 ww_42 rfl 3 (by decide) (hts (.fieldLink RX5 85 "BoardMovesModel" "parts" "I") (List.mem_cons_of_mem _ flX5_85)) (fun _ h9 => h9) rfl dX5_go_6 ?_
      refine bm_ni_ge (x := i_2) (y := ms.2.2.1) (tgt := 111) hx hb (by omega) (by omega) dX5_go_9 (by decide) (fun c_10 => ?_) (fun c_10 => ?_)
      · exact bm_vretX hx hb hr hP hD hK hS ⟨g_5, g_6, g_7, rfl, rfl⟩ dX5_go_111 hlocks
      · refine lv_aload_n hx hb dX5_go_12 rfl (lv_at hl 1 rfl) ?_
        refine va_get (D := D) (ci := 5) (v := .ref (ad 48)) (C := RX5) (T := TX5) (N := 28) hx hb hts (inT inX5) hown hK hP 42 ww_42 rfl 9 (by decide) (hts (.fieldLink RX5 27 "BoardMovesModel" "groups" "[I") (List.mem_cons_of_mem _ flX5_27)) (fun _ h9 => h9) rfl dX5_go_13 ?_
        refine lv_iload hx hb dX5_go_16 (lv_at hl 0 rfl) ?_
        refine bm_nald (f := ma.2.2.2.2.2.1) hx hb hK hP 48 1 ww_48 rfl (j := i_2) (by omega) (by decide) dX5_go_18 ?_
        refine lv_aload_n hx hb dX5_go_19 rfl (lv_at hl 1 rfl) ?_
        refine va_get (D := D) (ci := 5) (v := .ref (ad 48)) (C := RX5) (T := TX5) (N := 28) hx hb hts (inT inX5) hown hK hP 42 ww_42 rfl 9 (by decide) (hts (.fieldLink RX5 27 "BoardMovesModel" "groups" "[I") (List.mem_cons_of_mem _ flX5_27)) (fun _ h9 => h9) rfl dX5_go_20 ?_
        refine lv_iload_n hx hb dX5_go_23 rfl (lv_at hl 2 rfl) ?_
        refine bm_nald (f := ma.2.2.2.2.2.1) hx hb hK hP 48 1 ww_48 rfl (j := zp) (by omega) (by decide) dX5_go_24 ?_
        refine bm_ni_ne (x := (ma.2.2.2.2.2.1 i_2)) (y := (ma.2.2.2.2.2.1 zp)) (tgt := 105) hx hb (bm40 (ok_ma_groups _)) (bm40 (ok_ma_groups _)) dX5_go_25 (by decide) (fun c_11 => ?_) (fun c_11 => ?_)
        · refine lv_iinc (v := (nI (i_2 + 1))) (lv' := [(6, .int (nI (i_2 + 1))), (0, .ref (ad 42)), (1, .int (nI zp)), (2, .long z1), (4, .long z2)]) hx hb dX5_go_105 hl (k := 0) rfl (nI_1 i_2) (by decide) rfl (fun ls hl => ?_)
          refine lv_goto (tgt := 3) hx hb dX5_go_108 (by decide) ?_
          exact ih_4 (i_2 + 1) g_5 g_6 g_7 (by omega) (by omega)  _ _ hP hD hS _ (lv_sub hl [0, 1, 2, 3, 4] rfl)
        · refine lv_aload_n hx hb dX5_go_28 rfl (lv_at hl 1 rfl) ?_
          refine va_get (D := D) (ci := 5) (v := .ref (ad 49)) (C := RX5) (T := TX5) (N := 28) hx hb hts (inT inX5) hown hK hP 42 ww_42 rfl 10 (by decide) (hts (.fieldLink RX5 30 "BoardMovesModel" "placed" "[Z") (List.mem_cons_of_mem _ flX5_30)) (fun _ h9 => h9) rfl dX5_go_29 ?_
          refine lv_iload hx hb dX5_go_32 (lv_at hl 0 rfl) ?_
          refine bm_zald (f := ma.2.2.2.2.2.2) hx hb hK hP 49 2 ww_49 rfl (j := i_2) (by omega) (by decide) dX5_go_34 ?_
          refine bm_zb_ne (x := (ma.2.2.2.2.2.2 i_2)) (tgt := 41) hx hb dX5_go_35 (by decide) (fun c_12 => ?_) (fun c_12 => ?_)
          · refine lv_aload_n hx hb dX5_go_41 rfl (lv_at hl 1 rfl) ?_
            refine va_get (D := D) (ci := 5) (v := .ref (ad 50)) (C := RX5) (T := TX5) (N := 28) hx hb hts (inT inX5) hown hK hP 42 ww_42 rfl 11 (by decide) (hts (.fieldLink RX5 33 "BoardMovesModel" "x" "[J") (List.mem_cons_of_mem _ flX5_33)) (fun _ h9 => h9) rfl dX5_go_42 ?_
            refine lv_bipush (v := nI 40) hx hb dX5_go_45 (by decide) ?_
            refine lv_iload hx hb dX5_go_47 (lv_at hl 0 rfl) ?_
            refine bm_nadd hx hb dX5_go_49 ?_
            refine lv_dup2_11 hx hb dX5_go_50 rfl rfl ?_
            refine bm_lald (f := g_5) hx hb hK hP 50 0 ww_50 rfl (j := (40 + i_2)) (by omega) (by decide) dX5_go_51 ?_
            refine lv_topl (fun t_13 _ => ?_)
            refine lv_lload_n hx hb dX5_go_52 rfl (lv_at hl 3 rfl) ?_
            refine lv_ladd hx hb dX5_go_53 ?_
            refine lv_topl (fun t_14 _ => ?_)
            refine bm_last (f := g_5) hx hb hK hP hD hS 50 0 ww_50 rfl (j := (40 + i_2)) (x := t_14) (by omega) (by decide) dX5_go_54 (fun H locs hP hD hS => ?_)
            have hP : va_P D vwCl (WW ad cJ cI cZ bm pa p0 p1 p2 li wi mt ms ma (va_up g_5 (40 + i_2) t_14, g_6, mp.2.2) mk (mn.1, mn.2.1, mn.2.2.1, mn.2.2.2.1, g_7) ou) H := hP
            have hD : va_D A (WW ad cJ cI cZ bm pa p0 p1 p2 li wi mt ms ma (va_up g_5 (40 + i_2) t_14, g_6, mp.2.2) mk (mn.1, mn.2.1, mn.2.2.1, mn.2.2.2.1, g_7) ou) := hD
            refine lv_aload_n hx hb dX5_go_55 rfl (lv_at hl 1 rfl) ?_
            refine va_get (D := D) (ci := 5) (v := .ref (ad 51)) (C := RX5) (T := TX5) (N := 28) hx hb hts (inT inX5) hown hK hP 42 ww_42 rfl 12 (by decide) (hts (.fieldLink RX5 36 "BoardMovesModel" "y" "[J") (List.mem_cons_of_mem _ flX5_36)) (fun _ h9 => h9) rfl dX5_go_56 ?_
            refine lv_bipush (v := nI 40) hx hb dX5_go_59 (by decide) ?_
            refine lv_iload hx hb dX5_go_61 (lv_at hl 0 rfl) ?_
            refine bm_nadd hx hb dX5_go_63 ?_
            refine lv_dup2_11 hx hb dX5_go_64 rfl rfl ?_
            refine bm_lald (f := g_6) hx hb hK hP 51 0 ww_51 rfl (j := (40 + i_2)) (by omega) (by decide) dX5_go_65 ?_
            refine lv_topl (fun t_15 _ => ?_)
            refine lv_lload hx hb dX5_go_66 (lv_at hl 4 rfl) ?_
            refine lv_ladd hx hb dX5_go_68 ?_
            refine lv_topl (fun t_16 _ => ?_)
            refine bm_last (f := g_6) hx hb hK hP hD hS 51 0 ww_51 rfl (j := (40 + i_2)) (x := t_16) (by omega) (by decide) dX5_go_69 (fun H locs hP hD hS => ?_)
            have hP : va_P D vwCl (WW ad cJ cI cZ bm pa p0 p1 p2 li wi mt ms ma (va_up g_5 (40 + i_2) t_14, va_up g_6 (40 + i_2) t_16, mp.2.2) mk (mn.1, mn.2.1, mn.2.2.1, mn.2.2.2.1, g_7) ou) H := hP
            have hD : va_D A (WW ad cJ cI cZ bm pa p0 p1 p2 li wi mt ms ma (va_up g_5 (40 + i_2) t_14, va_up g_6 (40 + i_2) t_16, mp.2.2) mk (mn.1, mn.2.1, mn.2.2.1, mn.2.2.2.1, g_7) ou) := hD
            refine lv_aload_n hx hb dX5_go_70 rfl (lv_at hl 1 rfl) ?_
            refine va_get (D := D) (ci := 5) (v := .ref (ad 61)) (C := RX5) (T := TX5) (N := 28) hx hb hts (inT inX5) hown hK hP 42 ww_42 rfl 26 (by decide) (hts (.fieldLink RX5 66 "BoardMovesModel" "moved" "[Z") (List.mem_cons_of_mem _ flX5_66)) (fun _ h9 => h9) rfl dX5_go_71 ?_
            refine lv_iload hx hb dX5_go_74 (lv_at hl 0 rfl) ?_
            refine lv_aload_n hx hb dX5_go_76 rfl (lv_at hl 1 rfl) ?_
            refine va_get (D := D) (ci := 5) (v := .ref (ad 61)) (C := RX5) (T := TX5) (N := 28) hx hb hts (inT inX5) hown hK hP 42 ww_42 rfl 26 (by decide) (hts (.fieldLink RX5 66 "BoardMovesModel" "moved" "[Z") (List.mem_cons_of_mem _ flX5_66)) (fun _ h9 => h9) rfl dX5_go_77 ?_
            refine lv_iload hx hb dX5_go_80 (lv_at hl 0 rfl) ?_
            refine bm_zald (f := g_7) hx hb hK hP 61 2 ww_61 rfl (j := i_2) (by omega) (by decide) dX5_go_82 ?_
            refine bm_zb_ne (x := (g_7 i_2)) (tgt := 99) hx hb dX5_go_83 (by decide) (fun c_17 => ?_) (fun c_17 => ?_)
            · refine lv_iconst (v := bm_b true) hx hb dX5_go_99 (by decide) ?_
              refine lv_goto (tgt := 104) hx hb dX5_go_100 (by decide) ?_
              refine bm_zast (f := g_7) hx hb hK hP hD hS 61 2 ww_61 rfl (j := i_2) (x := true) (by omega) (by decide) dX5_go_104 (fun H locs hP hD hS => ?_)
              have hP : va_P D vwCl (WW ad cJ cI cZ bm pa p0 p1 p2 li wi mt ms ma (va_up g_5 (40 + i_2) t_14, va_up g_6 (40 + i_2) t_16, mp.2.2) mk (mn.1, mn.2.1, mn.2.2.1, mn.2.2.2.1, va_up g_7 i_2 true) ou) H := hP
              have hD : va_D A (WW ad cJ cI cZ bm pa p0 p1 p2 li wi mt ms ma (va_up g_5 (40 + i_2) t_14, va_up g_6 (40 + i_2) t_16, mp.2.2) mk (mn.1, mn.2.1, mn.2.2.1, mn.2.2.2.1, va_up g_7 i_2 true) ou) := hD
              refine lv_iinc (v := (nI (i_2 + 1))) (lv' := [(6, .int (nI (i_2 + 1))), (0, .ref (ad 42)), (1, .int (nI zp)), (2, .long z1), (4, .long z2)]) hx hb dX5_go_105 hl (k := 0) rfl (nI_1 i_2) (by decide) rfl (fun ls hl => ?_)
              refine lv_goto (tgt := 3) hx hb dX5_go_108 (by decide) ?_
              exact ih_4 (i_2 + 1) (va_up g_5 (40 + i_2) t_14) (va_up g_6 (40 + i_2) t_16) (va_up g_7 i_2 true) (by omega) (by omega)  _ _ hP hD hS _ (lv_sub hl [0, 1, 2, 3, 4] rfl)
            · refine lv_lload_n hx hb dX5_go_86 rfl (lv_at hl 3 rfl) ?_
              refine lv_lconst (v := 0) hx hb dX5_go_87 (by decide) ?_
              refine bm_lc_ne (x := z1) (y := 0) (tgt := 99) hx hb dX5_go_88 dX5_go_89 (by decide) (fun c_18 => ?_) (fun c_18 => ?_)
              · refine lv_iconst (v := bm_b true) hx hb dX5_go_99 (by decide) ?_
                refine lv_goto (tgt := 104) hx hb dX5_go_100 (by decide) ?_
                refine bm_zast (f := g_7) hx hb hK hP hD hS 61 2 ww_61 rfl (j := i_2) (x := true) (by omega) (by decide) dX5_go_104 (fun H locs hP hD hS => ?_)
                have hP : va_P D vwCl (WW ad cJ cI cZ bm pa p0 p1 p2 li wi mt ms ma (va_up g_5 (40 + i_2) t_14, va_up g_6 (40 + i_2) t_16, mp.2.2) mk (mn.1, mn.2.1, mn.2.2.1, mn.2.2.2.1, va_up g_7 i_2 true) ou) H := hP
                have hD : va_D A (WW ad cJ cI cZ bm pa p0 p1 p2 li wi mt ms ma (va_up g_5 (40 + i_2) t_14, va_up g_6 (40 + i_2) t_16, mp.2.2) mk (mn.1, mn.2.1, mn.2.2.1, mn.2.2.2.1, va_up g_7 i_2 true) ou) := hD
                refine lv_iinc (v := (nI (i_2 + 1))) (lv' := [(6, .int (nI (i_2 + 1))), (0, .ref (ad 42)), (1, .int (nI zp)), (2, .long z1), (4, .long z2)]) hx hb dX5_go_105 hl (k := 0) rfl (nI_1 i_2) (by decide) rfl (fun ls hl => ?_)
                refine lv_goto (tgt := 3) hx hb dX5_go_108 (by decide) ?_
                exact ih_4 (i_2 + 1) (va_up g_5 (40 + i_2) t_14) (va_up g_6 (40 + i_2) t_16) (va_up g_7 i_2 true) (by omega) (by omega)  _ _ hP hD hS _ (lv_sub hl [0, 1, 2, 3, 4] rfl)
              · refine lv_lload hx hb dX5_go_92 (lv_at hl 4 rfl) ?_
                refine lv_lconst (v := 0) hx hb dX5_go_94 (by decide) ?_
                refine bm_lc_eq (x := z2) (y := 0) (tgt := 103) hx hb dX5_go_95 dX5_go_96 (by decide) (fun c_19 => ?_) (fun c_19 => ?_)
                · refine lv_iconst (v := bm_b false) hx hb dX5_go_103 (by decide) ?_
                  refine bm_zast (f := g_7) hx hb hK hP hD hS 61 2 ww_61 rfl (j := i_2) (x := false) (by omega) (by decide) dX5_go_104 (fun H locs hP hD hS => ?_)
                  have hP : va_P D vwCl (WW ad cJ cI cZ bm pa p0 p1 p2 li wi mt ms ma (va_up g_5 (40 + i_2) t_14, va_up g_6 (40 + i_2) t_16, mp.2.2) mk (mn.1, mn.2.1, mn.2.2.1, mn.2.2.2.1, va_up g_7 i_2 false) ou) H := hP
                  have hD : va_D A (WW ad cJ cI cZ bm pa p0 p1 p2 li wi mt ms ma (va_up g_5 (40 + i_2) t_14, va_up g_6 (40 + i_2) t_16, mp.2.2) mk (mn.1, mn.2.1, mn.2.2.1, mn.2.2.2.1, va_up g_7 i_2 false) ou) := hD
                  refine lv_iinc (v := (nI (i_2 + 1))) (lv' := [(6, .int (nI (i_2 + 1))), (0, .ref (ad 42)), (1, .int (nI zp)), (2, .long z1), (4, .long z2)]) hx hb dX5_go_105 hl (k := 0) rfl (nI_1 i_2) (by decide) rfl (fun ls hl => ?_)
                  refine lv_goto (tgt := 3) hx hb dX5_go_108 (by decide) ?_
                  exact ih_4 (i_2 + 1) (va_up g_5 (40 + i_2) t_14) (va_up g_6 (40 + i_2) t_16) (va_up g_7 i_2 false) (by omega) (by omega)  _ _ hP hD hS _ (lv_sub hl [0, 1, 2, 3, 4] rfl)
                · refine lv_iconst (v := bm_b true) hx hb dX5_go_99 (by decide) ?_
                  refine lv_goto (tgt := 104) hx hb dX5_go_100 (by decide) ?_
                  refine bm_zast (f := g_7) hx hb hK hP hD hS 61 2 ww_61 rfl (j := i_2) (x := true) (by omega) (by decide) dX5_go_104 (fun H locs hP hD hS => ?_)
                  have hP : va_P D vwCl (WW ad cJ cI cZ bm pa p0 p1 p2 li wi mt ms ma (va_up g_5 (40 + i_2) t_14, va_up g_6 (40 + i_2) t_16, mp.2.2) mk (mn.1, mn.2.1, mn.2.2.1, mn.2.2.2.1, va_up g_7 i_2 true) ou) H := hP
                  have hD : va_D A (WW ad cJ cI cZ bm pa p0 p1 p2 li wi mt ms ma (va_up g_5 (40 + i_2) t_14, va_up g_6 (40 + i_2) t_16, mp.2.2) mk (mn.1, mn.2.1, mn.2.2.1, mn.2.2.2.1, va_up g_7 i_2 true) ou) := hD
                  refine lv_iinc (v := (nI (i_2 + 1))) (lv' := [(6, .int (nI (i_2 + 1))), (0, .ref (ad 42)), (1, .int (nI zp)), (2, .long z1), (4, .long z2)]) hx hb dX5_go_105 hl (k := 0) rfl (nI_1 i_2) (by decide) rfl (fun ls hl => ?_)
                  refine lv_goto (tgt := 3) hx hb dX5_go_108 (by decide) ?_
                  exact ih_4 (i_2 + 1) (va_up g_5 (40 + i_2) t_14) (va_up g_6 (40 + i_2) t_16) (va_up g_7 i_2 true) (by omega) (by omega)  _ _ hP hD hS _ (lv_sub hl [0, 1, 2, 3, 4] rfl)
          · refine lv_goto (tgt := 105) hx hb dX5_go_38 (by decide) ?_
            refine lv_iinc (v := (nI (i_2 + 1))) (lv' := [(6, .int (nI (i_2 + 1))), (0, .ref (ad 42)), (1, .int (nI zp)), (2, .long z1), (4, .long z2)]) hx hb dX5_go_105 hl (k := 0) rfl (nI_1 i_2) (by decide) rfl (fun ls hl => ?_)
            refine lv_goto (tgt := 3) hx hb dX5_go_108 (by decide) ?_
            exact ih_4 (i_2 + 1) g_5 g_6 g_7 (by omega) (by omega)  _ _ hP hD hS _ (lv_sub hl [0, 1, 2, 3, 4] rfl)
  exact lp_1 (ms.2.2.1 + 1) 0 mp.1 mp.2.1 mn.2.2.2.2 (by omega) (by omega)  _ _ hP hD hS _ (lv_sub hl [0, 1, 2, 3, 4] rfl)

set_option maxHeartbeats 8000000 in
set_option maxRecDepth 100000 in
theorem y_begin {l : Launch} {D : va_G} {ad : Nat → Nat} {cJ cI cZ : ClassId} {bm : gBM} {pa : gPA} {p0 p1 p2 : gPL} {li : gLI} {wi : gWI} {mt : Nat} {ms : gMS} {ma : gMA} {mp : gMP} {mk : gMK} {mn : gMN} {ou : Nat → Int64}  (ok_mp_turns : ∀ i, mp.2.2 i < 40)   : bm_Wx l yX5_begin wsX5_begin ({ frames := 1, cells := 0, slots := 0, locals := 23 }) D vwCl [(cJ, .long), (cI, .int), (cZ, .boolean)] (WW ad cJ cI cZ bm pa p0 p1 p2 li wi mt ms ma mp mk mn ou) [.ref (ad 42)] (fun ws9 r9 => ∃ (e0 : Nat → Int64) (e1 : Nat → Int64) (e2 : Nat → Nat) (e3 : Nat → Bool) , (∀ i, e2 i < 40) ∧ ws9 = (WW ad cJ cI cZ bm pa p0 p1 p2 li wi mt ms ma (e0, e1, e2) mk (mn.1, mn.2.1, mn.2.2.1, mn.2.2.2.1, e3) ou) ∧ r9 = none) := by
  intro sz
  refine Met.ofW (cc := cX5_begin) (maxL := 2) (ret := none) (by decide) rfl ?_
  intro p e s m args below meth c s₁ B hml hv
  obtain ⟨ha, hsz, hP, hK, hD0⟩ := hv
  have hx := B.exec
  have hb := B.bytes
  have hr := B.returns
  have hts := atoms_spec (ws := wsX5_begin) B.pre
  have hown : s.vm.findClass RX5 = some m.cls := findClass_of_methodNamed B.named
  have hlocks := B.notSynchronized
  subst hsz
  have hD := hD0.self (sz := s.heap.size)
  generalize hAe : va_A (WW ad cJ cI cZ bm pa p0 p1 p2 li wi mt ms ma mp mk mn ou) s.heap.size = A at hD ⊢
  have hA : ∀ q : Nat, s.heap.size ≤ q → A q := fun q h => by rw [← hAe]; exact Or.inr h
  have hS : va_S A s.heap s.heap [] := va_S.rf
  have hl := lv_entry ([.ref (ad 42)]) (n := 2) (Nat.le_of_ble_eq_true rfl)
  refine W.eq (g2 := entryFrame m ([.ref (ad 42)] : List Value).toArray 2) (by rw [ha]) ?_
  rw [lg_entry_eq]
  generalize (lg_sl ([.ref (ad 42)]) ++ List.replicate (2 - (lg_sl ([.ref (ad 42)])).length) Slot.unset).toArray = ls at hl ⊢
  have hl : lv_has ls 2 [(0, .ref (ad 42))] := hl
  refine lv_aload_n hx hb dX5_begin_0 rfl (lv_at hl 0 rfl) ?_
  refine lv_iconst (v := nI 1) hx hb dX5_begin_1 (by decide) ?_
  refine lv_iconst (v := nI 0) hx hb dX5_begin_2 (by decide) ?_
  refine bm_xcallV (As := [.int (nI 1), .int (nI 0)]) (rest := []) ⟨hx, hb, hml, hown, hts⟩ (y_copy  (zt := 1) (zf := 0) ok_mp_turns (by omega) (by omega)) (cwV 2 hts gvX5_132 rfl rfl rfl hvX5_copy ⟨Nat.le_of_ble_eq_true rfl, Nat.le_of_ble_eq_true rfl⟩) hK hP hD hS hA 42 5 rfl ww_42 rfl hl.1 rfl (Nat.le_of_ble_eq_true rfl) dX5_begin_3 ⟨Nat.le_of_ble_eq_true rfl, Nat.le_of_ble_eq_true rfl⟩ (fun ws_1 r_2 h_3 H locs hP hD hS => ?_)
  obtain ⟨g_4, g_5, g_6, ok_7, rfl, rfl⟩ := h_3
  have hP : va_P D vwCl (WW ad cJ cI cZ bm pa p0 p1 p2 li wi mt ms ma (g_4, g_5, g_6) mk mn ou) H := hP
  have hD : va_D A (WW ad cJ cI cZ bm pa p0 p1 p2 li wi mt ms ma (g_4, g_5, g_6) mk mn ou) := hD
  refine lv_iconst (v := nI 0) hx hb dX5_begin_6 (by decide) ?_
  refine lv_istore_n (lv' := [(1, .int (nI 0)), (0, .ref (ad 42))]) hx hb dX5_begin_7 rfl hl (by decide) rfl (fun ls hl => ?_)
  have lp_8 : ∀ (k_10 : Nat) (i_9 : Nat) (g_12 : Nat → Bool), i_9 ≤ 40 → 40 < i_9 + k_10 → ∀ (H : Heap) (locs : List Loc), va_P D vwCl (WW ad cJ cI cZ bm pa p0 p1 p2 li wi mt ms ma (g_4, g_5, g_6) mk (mn.1, mn.2.1, mn.2.2.1, mn.2.2.2.1, g_12) ou) H → va_D A (WW ad cJ cI cZ bm pa p0 p1 p2 li wi mt ms ma (g_4, g_5, g_6) mk (mn.1, mn.2.1, mn.2.2.1, mn.2.2.2.1, g_12) ou) → va_S A s.heap H locs → ∀ (ls : Array Slot), lv_has ls 2 [(1, .int (nI i_9)), (0, .ref (ad 42))] → W p l e (headSpec wsX5_begin ({ frames := 1, cells := 0, slots := 0, locals := 23 })).room s m args below meth c H locs 0 0 (MQ below (bm_Wxq D vwCl [(cJ, .long), (cI, .int), (cZ, .boolean)] (fun ws9 r9 => ∃ (e0 : Nat → Int64) (e1 : Nat → Int64) (e2 : Nat → Nat) (e3 : Nat → Bool) , (∀ i, e2 i < 40) ∧ ws9 = (WW ad cJ cI cZ bm pa p0 p1 p2 li wi mt ms ma (e0, e1, e2) mk (mn.1, mn.2.1, mn.2.2.1, mn.2.2.2.1, e3) ou) ∧ r9 = none) A) args s 0 0 A) (F0 m 8 ls []) := by
    intro k_10
    induction k_10 with
    | zero => intro i_9 g_12 hi_13 hk_14; exfalso; omega
    | succ k_10 ih_11 =>
      intro i_9 g_12 hi_13 hk_14  H locs hP hD hS ls hl
      refine lv_iload_n hx hb dX5_begin_8 rfl (lv_at hl 0 rfl) ?_
      refine lv_bipush (v := nI 40) hx hb dX5_begin_9 (by decide) ?_
      refine bm_ni_ge (x := i_9) (y := 40) (tgt := 27) hx hb (by omega) (by omega) dX5_begin_11 (by decide) (fun c_15 => ?_) (fun c_15 => ?_)
      · exact bm_vretX hx hb hr hP hD hK hS ⟨g_4, g_5, g_6, g_12, ok_7, rfl, rfl⟩ dX5_begin_27 hlocks
      · refine lv_aload_n hx hb dX5_begin_14 rfl (lv_at hl 1 rfl) ?_
        refine va_get (D := D) (ci := 5) (v := .ref (ad 61)) (C := RX5) (T := TX5) (N := 28) hx hb hts (inT inX5) hown hK hP 42 ww_42 rfl 26 (by decide) (hts (.fieldLink RX5 66 "BoardMovesModel" "moved" "[Z") (List.mem_cons_of_mem _ flX5_66)) (fun _ h9 => h9) rfl dX5_begin_15 ?_
        refine lv_iload_n hx hb dX5_begin_18 rfl (lv_at hl 0 rfl) ?_
        refine lv_iconst (v := bm_b false) hx hb dX5_begin_19 (by decide) ?_
        refine bm_zast (f := g_12) hx hb hK hP hD hS 61 2 ww_61 rfl (j := i_9) (x := false) (by omega) (by decide) dX5_begin_20 (fun H locs hP hD hS => ?_)
        have hP : va_P D vwCl (WW ad cJ cI cZ bm pa p0 p1 p2 li wi mt ms ma (g_4, g_5, g_6) mk (mn.1, mn.2.1, mn.2.2.1, mn.2.2.2.1, va_up g_12 i_9 false) ou) H := hP
        have hD : va_D A (WW ad cJ cI cZ bm pa p0 p1 p2 li wi mt ms ma (g_4, g_5, g_6) mk (mn.1, mn.2.1, mn.2.2.1, mn.2.2.2.1, va_up g_12 i_9 false) ou) := hD
        refine lv_iinc (v := (nI (i_9 + 1))) (lv' := [(1, .int (nI (i_9 + 1))), (0, .ref (ad 42))]) hx hb dX5_begin_21 hl (k := 0) rfl (nI_1 i_9) (by decide) rfl (fun ls hl => ?_)
        refine lv_goto (tgt := 8) hx hb dX5_begin_24 (by decide) ?_
        exact ih_11 (i_9 + 1) (va_up g_12 i_9 false) (by omega) (by omega)  _ _ hP hD hS _ (lv_sub hl [0, 1] rfl)
  exact lp_8 (40 + 1) 0 mn.2.2.2.2 (by omega) (by omega)  _ _ hP hD hS _ (lv_sub hl [0, 1] rfl)

set_option maxHeartbeats 8000000 in
set_option maxRecDepth 100000 in
theorem y_locked {l : Launch} {D : va_G} {ad : Nat → Nat} {cJ cI cZ : ClassId} {bm : gBM} {pa : gPA} {p0 p1 p2 : gPL} {li : gLI} {wi : gWI} {mt : Nat} {ms : gMS} {ma : gMA} {mp : gMP} {mk : gMK} {mn : gMN} {ou : Nat → Int64}  (ok_ms_parts : ms.2.2.1 ≤ 40) (ok_mp_turns : ∀ i, mp.2.2 i < 40)   : bm_Wx l yX5_movesLocked wsX5_movesLocked ({ frames := 2, cells := 0, slots := 0, locals := 44 }) D vwCl [(cJ, .long), (cI, .int), (cZ, .boolean)] (WW ad cJ cI cZ bm pa p0 p1 p2 li wi mt ms ma mp mk mn ou) [.ref (ad 42)] (fun ws9 r9 => ws9 = (WW ad cJ cI cZ bm pa p0 p1 p2 li wi mt ms ma mp mk mn ou) ∧ ∃ b9 : Bool, r9 = some (.int (bm_b b9))) := by
  intro sz
  refine Met.ofW (cc := cX5_movesLocked) (maxL := 3) (ret := (some .boolean)) (by decide) rfl ?_
  intro p e s m args below meth c s₁ B hml hv
  obtain ⟨ha, hsz, hP, hK, hD0⟩ := hv
  have hx := B.exec
  have hb := B.bytes
  have hr := B.returns
  have hts := atoms_spec (ws := wsX5_movesLocked) B.pre
  have hown : s.vm.findClass RX5 = some m.cls := findClass_of_methodNamed B.named
  have hlocks := B.notSynchronized
  subst hsz
  have hD := hD0.self (sz := s.heap.size)
  generalize hAe : va_A (WW ad cJ cI cZ bm pa p0 p1 p2 li wi mt ms ma mp mk mn ou) s.heap.size = A at hD ⊢
  have hA : ∀ q : Nat, s.heap.size ≤ q → A q := fun q h => by rw [← hAe]; exact Or.inr h
  have hS : va_S A s.heap s.heap [] := va_S.rf
  have hl := lv_entry ([.ref (ad 42)]) (n := 3) (Nat.le_of_ble_eq_true rfl)
  refine W.eq (g2 := entryFrame m ([.ref (ad 42)] : List Value).toArray 3) (by rw [ha]) ?_
  rw [lg_entry_eq]
  generalize (lg_sl ([.ref (ad 42)]) ++ List.replicate (3 - (lg_sl ([.ref (ad 42)])).length) Slot.unset).toArray = ls at hl ⊢
  have hl : lv_has ls 3 [(0, .ref (ad 42))] := hl
  refine lv_iconst (v := bm_b false) hx hb dX5_movesLocked_0 (by decide) ?_
  refine lv_istore_n (lv' := [(1, .int (bm_b false)), (0, .ref (ad 42))]) hx hb dX5_movesLocked_1 rfl hl (by decide) rfl (fun ls hl => ?_)
  refine lv_iconst (v := nI 0) hx hb dX5_movesLocked_2 (by decide) ?_
  refine lv_istore_n (lv' := [(2, .int (nI 0)), (1, .int (bm_b false)), (0, .ref (ad 42))]) hx hb dX5_movesLocked_3 rfl hl (by decide) rfl (fun ls hl => ?_)
  have lp_1 : ∀ (k_3 : Nat) (i_2 : Nat) (v_5 : Bool), i_2 ≤ ms.2.2.1 → ms.2.2.1 < i_2 + k_3 → ∀ (H : Heap) (locs : List Loc), va_P D vwCl (WW ad cJ cI cZ bm pa p0 p1 p2 li wi mt ms ma mp mk mn ou) H → va_D A (WW ad cJ cI cZ bm pa p0 p1 p2 li wi mt ms ma mp mk mn ou) → va_S A s.heap H locs → ∀ (ls : Array Slot), lv_has ls 3 [(2, .int (nI i_2)), (1, .int (bm_b v_5)), (0, .ref (ad 42))] → W p l e (headSpec wsX5_movesLocked ({ frames := 2, cells := 0, slots := 0, locals := 44 })).room s m args below meth c H locs 0 0 (MQ below (bm_Wxq D vwCl [(cJ, .long), (cI, .int), (cZ, .boolean)] (fun ws9 r9 => ws9 = (WW ad cJ cI cZ bm pa p0 p1 p2 li wi mt ms ma mp mk mn ou) ∧ ∃ b9 : Bool, r9 = some (.int (bm_b b9))) A) args s 0 0 A) (F0 m 4 ls []) := by
    intro k_3
    induction k_3 with
    | zero => intro i_2 v_5 hi_6 hk_7; exfalso; omega
    | succ k_3 ih_4 =>
      intro i_2 v_5 hi_6 hk_7  H locs hP hD hS ls hl
      refine lv_iload_n hx hb dX5_movesLocked_4 rfl (lv_at hl 0 rfl) ?_
      refine lv_aload_n hx hb dX5_movesLocked_5 rfl (lv_at hl 2 rfl) ?_
      refine va_get (D := D) (ci := 5) (v := .int (nI ms.2.2.1)) (C := RX5) (T := TX5) (N := 28) hx hb hts (inT inX5) hown hK hP 42 ww_42 rfl 3 (by decide) (hts (.fieldLink RX5 85 "BoardMovesModel" "parts" "I") (List.mem_cons_of_mem _ flX5_85)) (fun _ h9 => h9) rfl dX5_movesLocked_6 ?_
      refine bm_ni_ge (x := i_2) (y := ms.2.2.1) (tgt := 55) hx hb (by omega) (by omega) dX5_movesLocked_9 (by decide) (fun c_8 => ?_) (fun c_8 => ?_)
      · refine lv_iload_n hx hb dX5_movesLocked_55 rfl (lv_at hl 1 rfl) ?_
        exact bm_zretX (v := v_5) hx hb hr hP hD hK hS ⟨rfl, v_5, rfl⟩ dX5_movesLocked_56 hlocks
      · refine lv_iload_n hx hb dX5_movesLocked_12 rfl (lv_at hl 1 rfl) ?_
        refine bm_zb_ne (x := v_5) (tgt := 43) hx hb dX5_movesLocked_13 (by decide) (fun c_9 => ?_) (fun c_9 => ?_)
        · refine lv_iconst (v := bm_b true) hx hb dX5_movesLocked_43 (by decide) ?_
          refine lv_goto (tgt := 48) hx hb dX5_movesLocked_44 (by decide) ?_
          refine lv_istore_n (lv' := [(1, .int (bm_b true)), (2, .int (nI i_2)), (0, .ref (ad 42))]) hx hb dX5_movesLocked_48 rfl hl (by decide) rfl (fun ls hl => ?_)
          refine lv_iinc (v := (nI (i_2 + 1))) (lv' := [(2, .int (nI (i_2 + 1))), (1, .int (bm_b true)), (0, .ref (ad 42))]) hx hb dX5_movesLocked_49 hl (k := 1) rfl (nI_1 i_2) (by decide) rfl (fun ls hl => ?_)
          refine lv_goto (tgt := 4) hx hb dX5_movesLocked_52 (by decide) ?_
          exact ih_4 (i_2 + 1) true (by omega) (by omega)  _ _ hP hD hS _ (lv_sub hl [0, 1, 2] rfl)
        · refine lv_aload_n hx hb dX5_movesLocked_16 rfl (lv_at hl 2 rfl) ?_
          refine va_get (D := D) (ci := 5) (v := .ref (ad 49)) (C := RX5) (T := TX5) (N := 28) hx hb hts (inT inX5) hown hK hP 42 ww_42 rfl 10 (by decide) (hts (.fieldLink RX5 30 "BoardMovesModel" "placed" "[Z") (List.mem_cons_of_mem _ flX5_30)) (fun _ h9 => h9) rfl dX5_movesLocked_17 ?_
          refine lv_iload_n hx hb dX5_movesLocked_20 rfl (lv_at hl 0 rfl) ?_
          refine bm_zald (f := ma.2.2.2.2.2.2) hx hb hK hP 49 2 ww_49 rfl (j := i_2) (by omega) (by decide) dX5_movesLocked_21 ?_
          refine bm_zb_eq (x := (ma.2.2.2.2.2.2 i_2)) (tgt := 47) hx hb dX5_movesLocked_22 (by decide) (fun c_10 => ?_) (fun c_10 => ?_)
          · refine lv_iconst (v := bm_b false) hx hb dX5_movesLocked_47 (by decide) ?_
            refine lv_istore_n (lv' := [(1, .int (bm_b false)), (2, .int (nI i_2)), (0, .ref (ad 42))]) hx hb dX5_movesLocked_48 rfl hl (by decide) rfl (fun ls hl => ?_)
            refine lv_iinc (v := (nI (i_2 + 1))) (lv' := [(2, .int (nI (i_2 + 1))), (1, .int (bm_b false)), (0, .ref (ad 42))]) hx hb dX5_movesLocked_49 hl (k := 1) rfl (nI_1 i_2) (by decide) rfl (fun ls hl => ?_)
            refine lv_goto (tgt := 4) hx hb dX5_movesLocked_52 (by decide) ?_
            exact ih_4 (i_2 + 1) false (by omega) (by omega)  _ _ hP hD hS _ (lv_sub hl [0, 1, 2] rfl)
          · refine lv_aload_n hx hb dX5_movesLocked_25 rfl (lv_at hl 2 rfl) ?_
            refine va_get (D := D) (ci := 5) (v := .ref (ad 47)) (C := RX5) (T := TX5) (N := 28) hx hb hts (inT inX5) hown hK hP 42 ww_42 rfl 8 (by decide) (hts (.fieldLink RX5 23 "BoardMovesModel" "locked" "[Z") (List.mem_cons_of_mem _ flX5_23)) (fun _ h9 => h9) rfl dX5_movesLocked_26 ?_
            refine lv_iload_n hx hb dX5_movesLocked_29 rfl (lv_at hl 0 rfl) ?_
            refine bm_zald (f := ma.2.2.2.2.1) hx hb hK hP 47 2 ww_47 rfl (j := i_2) (by omega) (by decide) dX5_movesLocked_30 ?_
            refine bm_zb_eq (x := (ma.2.2.2.2.1 i_2)) (tgt := 47) hx hb dX5_movesLocked_31 (by decide) (fun c_11 => ?_) (fun c_11 => ?_)
            · refine lv_iconst (v := bm_b false) hx hb dX5_movesLocked_47 (by decide) ?_
              refine lv_istore_n (lv' := [(1, .int (bm_b false)), (2, .int (nI i_2)), (0, .ref (ad 42))]) hx hb dX5_movesLocked_48 rfl hl (by decide) rfl (fun ls hl => ?_)
              refine lv_iinc (v := (nI (i_2 + 1))) (lv' := [(2, .int (nI (i_2 + 1))), (1, .int (bm_b false)), (0, .ref (ad 42))]) hx hb dX5_movesLocked_49 hl (k := 1) rfl (nI_1 i_2) (by decide) rfl (fun ls hl => ?_)
              refine lv_goto (tgt := 4) hx hb dX5_movesLocked_52 (by decide) ?_
              exact ih_4 (i_2 + 1) false (by omega) (by omega)  _ _ hP hD hS _ (lv_sub hl [0, 1, 2] rfl)
            · refine lv_aload_n hx hb dX5_movesLocked_34 rfl (lv_at hl 2 rfl) ?_
              refine lv_iconst (v := nI 1) hx hb dX5_movesLocked_35 (by decide) ?_
              refine lv_iload_n hx hb dX5_movesLocked_36 rfl (lv_at hl 0 rfl) ?_
              refine bm_xcallV (As := [.int (nI 1), .int (nI i_2)]) (rest := []) ⟨hx, hb, hml, hown, hts⟩ (y_same  (zr := 1) (zp := i_2) ok_mp_turns (by omega) (by omega)) (cwV 2 hts gvX5_136 rfl rfl rfl hvX5_isSame ⟨Nat.le_of_ble_eq_true rfl, Nat.le_of_ble_eq_true rfl⟩) hK hP hD hS hA 42 5 rfl ww_42 rfl hl.1 rfl (Nat.le_of_ble_eq_true rfl) dX5_movesLocked_37 ⟨Nat.le_of_ble_eq_true rfl, Nat.le_of_ble_eq_true rfl⟩ (fun ws_12 r_13 h_14 H locs hP hD hS => ?_)
              obtain ⟨rfl, v_15, rfl⟩ := h_14
              have hP : va_P D vwCl (WW ad cJ cI cZ bm pa p0 p1 p2 li wi mt ms ma mp mk mn ou) H := hP
              have hD : va_D A (WW ad cJ cI cZ bm pa p0 p1 p2 li wi mt ms ma mp mk mn ou) := hD
              refine bm_zb_ne (x := v_15) (tgt := 47) hx hb dX5_movesLocked_40 (by decide) (fun c_16 => ?_) (fun c_16 => ?_)
              · refine lv_iconst (v := bm_b false) hx hb dX5_movesLocked_47 (by decide) ?_
                refine lv_istore_n (lv' := [(1, .int (bm_b false)), (2, .int (nI i_2)), (0, .ref (ad 42))]) hx hb dX5_movesLocked_48 rfl hl (by decide) rfl (fun ls hl => ?_)
                refine lv_iinc (v := (nI (i_2 + 1))) (lv' := [(2, .int (nI (i_2 + 1))), (1, .int (bm_b false)), (0, .ref (ad 42))]) hx hb dX5_movesLocked_49 hl (k := 1) rfl (nI_1 i_2) (by decide) rfl (fun ls hl => ?_)
                refine lv_goto (tgt := 4) hx hb dX5_movesLocked_52 (by decide) ?_
                exact ih_4 (i_2 + 1) false (by omega) (by omega)  _ _ hP hD hS _ (lv_sub hl [0, 1, 2] rfl)
              · refine lv_iconst (v := bm_b true) hx hb dX5_movesLocked_43 (by decide) ?_
                refine lv_goto (tgt := 48) hx hb dX5_movesLocked_44 (by decide) ?_
                refine lv_istore_n (lv' := [(1, .int (bm_b true)), (2, .int (nI i_2)), (0, .ref (ad 42))]) hx hb dX5_movesLocked_48 rfl hl (by decide) rfl (fun ls hl => ?_)
                refine lv_iinc (v := (nI (i_2 + 1))) (lv' := [(2, .int (nI (i_2 + 1))), (1, .int (bm_b true)), (0, .ref (ad 42))]) hx hb dX5_movesLocked_49 hl (k := 1) rfl (nI_1 i_2) (by decide) rfl (fun ls hl => ?_)
                refine lv_goto (tgt := 4) hx hb dX5_movesLocked_52 (by decide) ?_
                exact ih_4 (i_2 + 1) true (by omega) (by omega)  _ _ hP hD hS _ (lv_sub hl [0, 1, 2] rfl)
  exact lp_1 (ms.2.2.1 + 1) 0 false (by omega) (by omega)  _ _ hP hD hS _ (lv_sub hl [0, 1, 2] rfl)

set_option maxHeartbeats 8000000 in
set_option maxRecDepth 100000 in
theorem y_mate {l : Launch} {D : va_G} {ad : Nat → Nat} {cJ cI cZ : ClassId} {bm : gBM} {pa : gPA} {p0 p1 p2 : gPL} {li : gLI} {wi : gWI} {mt : Nat} {ms : gMS} {ma : gMA} {mp : gMP} {mk : gMK} {mn : gMN} {ou : Nat → Int64} {zp : Nat} (ok_ms_parts : ms.2.2.1 ≤ 40) (ok_ma_groups : ∀ i, ma.2.2.2.2.2.1 i < 40) (hp0 : zp < 40)  : bm_Wx l yX5_hasMate wsX5_hasMate ({ frames := 0, cells := 0, slots := 0, locals := 0 }) D vwCl [(cJ, .long), (cI, .int), (cZ, .boolean)] (WW ad cJ cI cZ bm pa p0 p1 p2 li wi mt ms ma mp mk mn ou) [.ref (ad 42), .int (nI zp)] (fun ws9 r9 => ws9 = (WW ad cJ cI cZ bm pa p0 p1 p2 li wi mt ms ma mp mk mn ou) ∧ ∃ b9 : Bool, r9 = some (.int (bm_b b9))) := by
  intro sz
  refine Met.ofW (cc := cX5_hasMate) (maxL := 4) (ret := (some .boolean)) (by decide) rfl ?_
  intro p e s m args below meth c s₁ B hml hv
  obtain ⟨ha, hsz, hP, hK, hD0⟩ := hv
  have hx := B.exec
  have hb := B.bytes
  have hr := B.returns
  have hts := atoms_spec (ws := wsX5_hasMate) B.pre
  have hown : s.vm.findClass RX5 = some m.cls := findClass_of_methodNamed B.named
  have hlocks := B.notSynchronized
  subst hsz
  have hD := hD0.self (sz := s.heap.size)
  generalize hAe : va_A (WW ad cJ cI cZ bm pa p0 p1 p2 li wi mt ms ma mp mk mn ou) s.heap.size = A at hD ⊢
  have hA : ∀ q : Nat, s.heap.size ≤ q → A q := fun q h => by rw [← hAe]; exact Or.inr h
  have hS : va_S A s.heap s.heap [] := va_S.rf
  have hl := lv_entry ([.ref (ad 42), .int (nI zp)]) (n := 4) (Nat.le_of_ble_eq_true rfl)
  refine W.eq (g2 := entryFrame m ([.ref (ad 42), .int (nI zp)] : List Value).toArray 4) (by rw [ha]) ?_
  rw [lg_entry_eq]
  generalize (lg_sl ([.ref (ad 42), .int (nI zp)]) ++ List.replicate (4 - (lg_sl ([.ref (ad 42), .int (nI zp)])).length) Slot.unset).toArray = ls at hl ⊢
  have hl : lv_has ls 4 [(0, .ref (ad 42)), (1, .int (nI zp))] := hl
  refine lv_iconst (v := bm_b false) hx hb dX5_hasMate_0 (by decide) ?_
  refine lv_istore_n (lv' := [(2, .int (bm_b false)), (0, .ref (ad 42)), (1, .int (nI zp))]) hx hb dX5_hasMate_1 rfl hl (by decide) rfl (fun ls hl => ?_)
  refine lv_iconst (v := nI 0) hx hb dX5_hasMate_2 (by decide) ?_
  refine lv_istore_n (lv' := [(3, .int (nI 0)), (2, .int (bm_b false)), (0, .ref (ad 42)), (1, .int (nI zp))]) hx hb dX5_hasMate_3 rfl hl (by decide) rfl (fun ls hl => ?_)
  have lp_1 : ∀ (k_3 : Nat) (i_2 : Nat) (v_5 : Bool), i_2 ≤ ms.2.2.1 → ms.2.2.1 < i_2 + k_3 → ∀ (H : Heap) (locs : List Loc), va_P D vwCl (WW ad cJ cI cZ bm pa p0 p1 p2 li wi mt ms ma mp mk mn ou) H → va_D A (WW ad cJ cI cZ bm pa p0 p1 p2 li wi mt ms ma mp mk mn ou) → va_S A s.heap H locs → ∀ (ls : Array Slot), lv_has ls 4 [(3, .int (nI i_2)), (2, .int (bm_b v_5)), (0, .ref (ad 42)), (1, .int (nI zp))] → W p l e (headSpec wsX5_hasMate ({ frames := 0, cells := 0, slots := 0, locals := 0 })).room s m args below meth c H locs 0 0 (MQ below (bm_Wxq D vwCl [(cJ, .long), (cI, .int), (cZ, .boolean)] (fun ws9 r9 => ws9 = (WW ad cJ cI cZ bm pa p0 p1 p2 li wi mt ms ma mp mk mn ou) ∧ ∃ b9 : Bool, r9 = some (.int (bm_b b9))) A) args s 0 0 A) (F0 m 4 ls []) := by
    intro k_3
    induction k_3 with
    | zero => intro i_2 v_5 hi_6 hk_7; exfalso; omega
    | succ k_3 ih_4 =>
      intro i_2 v_5 hi_6 hk_7  H locs hP hD hS ls hl
      refine lv_iload_n hx hb dX5_hasMate_4 rfl (lv_at hl 0 rfl) ?_
      refine lv_aload_n hx hb dX5_hasMate_5 rfl (lv_at hl 2 rfl) ?_
      refine va_get (D := D) (ci := 5) (v := .int (nI ms.2.2.1)) (C := RX5) (T := TX5) (N := 28) hx hb hts (inT inX5) hown hK hP 42 ww_42 rfl 3 (by decide) (hts (.fieldLink RX5 85 "BoardMovesModel" "parts" "I") (List.mem_cons_of_mem _ flX5_85)) (fun _ h9 => h9) rfl dX5_hasMate_6 ?_
      refine bm_ni_ge (x := i_2) (y := ms.2.2.1) (tgt := 57) hx hb (by omega) (by omega) dX5_hasMate_9 (by decide) (fun c_8 => ?_) (fun c_8 => ?_)
      · refine lv_iload_n hx hb dX5_hasMate_57 rfl (lv_at hl 1 rfl) ?_
        exact bm_zretX (v := v_5) hx hb hr hP hD hK hS ⟨rfl, v_5, rfl⟩ dX5_hasMate_58 hlocks
      · refine lv_iload_n hx hb dX5_hasMate_12 rfl (lv_at hl 1 rfl) ?_
        refine bm_zb_ne (x := v_5) (tgt := 45) hx hb dX5_hasMate_13 (by decide) (fun c_9 => ?_) (fun c_9 => ?_)
        · refine lv_iconst (v := bm_b true) hx hb dX5_hasMate_45 (by decide) ?_
          refine lv_goto (tgt := 50) hx hb dX5_hasMate_46 (by decide) ?_
          refine lv_istore_n (lv' := [(2, .int (bm_b true)), (3, .int (nI i_2)), (0, .ref (ad 42)), (1, .int (nI zp))]) hx hb dX5_hasMate_50 rfl hl (by decide) rfl (fun ls hl => ?_)
          refine lv_iinc (v := (nI (i_2 + 1))) (lv' := [(3, .int (nI (i_2 + 1))), (2, .int (bm_b true)), (0, .ref (ad 42)), (1, .int (nI zp))]) hx hb dX5_hasMate_51 hl (k := 1) rfl (nI_1 i_2) (by decide) rfl (fun ls hl => ?_)
          refine lv_goto (tgt := 4) hx hb dX5_hasMate_54 (by decide) ?_
          exact ih_4 (i_2 + 1) true (by omega) (by omega)  _ _ hP hD hS _ (lv_sub hl [0, 1, 2, 3] rfl)
        · refine lv_iload_n hx hb dX5_hasMate_16 rfl (lv_at hl 0 rfl) ?_
          refine lv_iload_n hx hb dX5_hasMate_17 rfl (lv_at hl 3 rfl) ?_
          refine bm_ni_eq (x := i_2) (y := zp) (tgt := 49) hx hb (by omega) (by omega) dX5_hasMate_18 (by decide) (fun c_10 => ?_) (fun c_10 => ?_)
          · refine lv_iconst (v := bm_b false) hx hb dX5_hasMate_49 (by decide) ?_
            refine lv_istore_n (lv' := [(2, .int (bm_b false)), (3, .int (nI i_2)), (0, .ref (ad 42)), (1, .int (nI zp))]) hx hb dX5_hasMate_50 rfl hl (by decide) rfl (fun ls hl => ?_)
            refine lv_iinc (v := (nI (i_2 + 1))) (lv' := [(3, .int (nI (i_2 + 1))), (2, .int (bm_b false)), (0, .ref (ad 42)), (1, .int (nI zp))]) hx hb dX5_hasMate_51 hl (k := 1) rfl (nI_1 i_2) (by decide) rfl (fun ls hl => ?_)
            refine lv_goto (tgt := 4) hx hb dX5_hasMate_54 (by decide) ?_
            exact ih_4 (i_2 + 1) false (by omega) (by omega)  _ _ hP hD hS _ (lv_sub hl [0, 1, 2, 3] rfl)
          · refine lv_aload_n hx hb dX5_hasMate_21 rfl (lv_at hl 2 rfl) ?_
            refine va_get (D := D) (ci := 5) (v := .ref (ad 49)) (C := RX5) (T := TX5) (N := 28) hx hb hts (inT inX5) hown hK hP 42 ww_42 rfl 10 (by decide) (hts (.fieldLink RX5 30 "BoardMovesModel" "placed" "[Z") (List.mem_cons_of_mem _ flX5_30)) (fun _ h9 => h9) rfl dX5_hasMate_22 ?_
            refine lv_iload_n hx hb dX5_hasMate_25 rfl (lv_at hl 0 rfl) ?_
            refine bm_zald (f := ma.2.2.2.2.2.2) hx hb hK hP 49 2 ww_49 rfl (j := i_2) (by omega) (by decide) dX5_hasMate_26 ?_
            refine bm_zb_eq (x := (ma.2.2.2.2.2.2 i_2)) (tgt := 49) hx hb dX5_hasMate_27 (by decide) (fun c_11 => ?_) (fun c_11 => ?_)
            · refine lv_iconst (v := bm_b false) hx hb dX5_hasMate_49 (by decide) ?_
              refine lv_istore_n (lv' := [(2, .int (bm_b false)), (3, .int (nI i_2)), (0, .ref (ad 42)), (1, .int (nI zp))]) hx hb dX5_hasMate_50 rfl hl (by decide) rfl (fun ls hl => ?_)
              refine lv_iinc (v := (nI (i_2 + 1))) (lv' := [(3, .int (nI (i_2 + 1))), (2, .int (bm_b false)), (0, .ref (ad 42)), (1, .int (nI zp))]) hx hb dX5_hasMate_51 hl (k := 1) rfl (nI_1 i_2) (by decide) rfl (fun ls hl => ?_)
              refine lv_goto (tgt := 4) hx hb dX5_hasMate_54 (by decide) ?_
              exact ih_4 (i_2 + 1) false (by omega) (by omega)  _ _ hP hD hS _ (lv_sub hl [0, 1, 2, 3] rfl)
            · refine lv_aload_n hx hb dX5_hasMate_30 rfl (lv_at hl 2 rfl) ?_
              refine va_get (D := D) (ci := 5) (v := .ref (ad 48)) (C := RX5) (T := TX5) (N := 28) hx hb hts (inT inX5) hown hK hP 42 ww_42 rfl 9 (by decide) (hts (.fieldLink RX5 27 "BoardMovesModel" "groups" "[I") (List.mem_cons_of_mem _ flX5_27)) (fun _ h9 => h9) rfl dX5_hasMate_31 ?_
              refine lv_iload_n hx hb dX5_hasMate_34 rfl (lv_at hl 0 rfl) ?_
              refine bm_nald (f := ma.2.2.2.2.2.1) hx hb hK hP 48 1 ww_48 rfl (j := i_2) (by omega) (by decide) dX5_hasMate_35 ?_
              refine lv_aload_n hx hb dX5_hasMate_36 rfl (lv_at hl 2 rfl) ?_
              refine va_get (D := D) (ci := 5) (v := .ref (ad 48)) (C := RX5) (T := TX5) (N := 28) hx hb hts (inT inX5) hown hK hP 42 ww_42 rfl 9 (by decide) (hts (.fieldLink RX5 27 "BoardMovesModel" "groups" "[I") (List.mem_cons_of_mem _ flX5_27)) (fun _ h9 => h9) rfl dX5_hasMate_37 ?_
              refine lv_iload_n hx hb dX5_hasMate_40 rfl (lv_at hl 3 rfl) ?_
              refine bm_nald (f := ma.2.2.2.2.2.1) hx hb hK hP 48 1 ww_48 rfl (j := zp) (by omega) (by decide) dX5_hasMate_41 ?_
              refine bm_ni_ne (x := (ma.2.2.2.2.2.1 i_2)) (y := (ma.2.2.2.2.2.1 zp)) (tgt := 49) hx hb (bm40 (ok_ma_groups _)) (bm40 (ok_ma_groups _)) dX5_hasMate_42 (by decide) (fun c_12 => ?_) (fun c_12 => ?_)
              · refine lv_iconst (v := bm_b false) hx hb dX5_hasMate_49 (by decide) ?_
                refine lv_istore_n (lv' := [(2, .int (bm_b false)), (3, .int (nI i_2)), (0, .ref (ad 42)), (1, .int (nI zp))]) hx hb dX5_hasMate_50 rfl hl (by decide) rfl (fun ls hl => ?_)
                refine lv_iinc (v := (nI (i_2 + 1))) (lv' := [(3, .int (nI (i_2 + 1))), (2, .int (bm_b false)), (0, .ref (ad 42)), (1, .int (nI zp))]) hx hb dX5_hasMate_51 hl (k := 1) rfl (nI_1 i_2) (by decide) rfl (fun ls hl => ?_)
                refine lv_goto (tgt := 4) hx hb dX5_hasMate_54 (by decide) ?_
                exact ih_4 (i_2 + 1) false (by omega) (by omega)  _ _ hP hD hS _ (lv_sub hl [0, 1, 2, 3] rfl)
              · refine lv_iconst (v := bm_b true) hx hb dX5_hasMate_45 (by decide) ?_
                refine lv_goto (tgt := 50) hx hb dX5_hasMate_46 (by decide) ?_
                refine lv_istore_n (lv' := [(2, .int (bm_b true)), (3, .int (nI i_2)), (0, .ref (ad 42)), (1, .int (nI zp))]) hx hb dX5_hasMate_50 rfl hl (by decide) rfl (fun ls hl => ?_)
                refine lv_iinc (v := (nI (i_2 + 1))) (lv' := [(3, .int (nI (i_2 + 1))), (2, .int (bm_b true)), (0, .ref (ad 42)), (1, .int (nI zp))]) hx hb dX5_hasMate_51 hl (k := 1) rfl (nI_1 i_2) (by decide) rfl (fun ls hl => ?_)
                refine lv_goto (tgt := 4) hx hb dX5_hasMate_54 (by decide) ?_
                exact ih_4 (i_2 + 1) true (by omega) (by omega)  _ _ hP hD hS _ (lv_sub hl [0, 1, 2, 3] rfl)
  exact lp_1 (ms.2.2.1 + 1) 0 false (by omega) (by omega)  _ _ hP hD hS _ (lv_sub hl [0, 1, 2, 3] rfl)
