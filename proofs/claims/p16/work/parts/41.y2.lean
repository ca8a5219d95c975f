set_option maxHeartbeats 8000000 in
set_option maxRecDepth 100000 in
theorem y_keptOut {l : Launch} {D : va_G} {ad : Nat → Nat} {cJ cI cZ : ClassId} {bm : gBM} {pa : gPA} {p0 p1 p2 : gPL} {li : gLI} {wi : gWI} {mt : Nat} {ms : gMS} {ma : gMA} {mp : gMP} {mk : gMK} {mn : gMN} {ou : Nat → Int64} {zr : Nat} {zp : Nat} (ok_mp_turns : ∀ i, mp.2.2 i < 40) (ok_ms_outs : ms.2.2.2.1 ≤ 10) (hp0 : zr < 3) (hp1 : zp < 40)  : bm_Wx l yX5_isKeptOut wsX5_isKeptOut ({ frames := 2, cells := 0, slots := 0, locals := 44 }) D vwCl [(cJ, .long), (cI, .int), (cZ, .boolean)] (WW ad cJ cI cZ bm pa p0 p1 p2 li wi mt ms ma mp mk mn ou) [.ref (ad 42), .int (nI zr), .int (nI zp)] (fun ws9 r9 => ws9 = (WW ad cJ cI cZ bm pa p0 p1 p2 li wi mt ms ma mp mk mn ou) ∧ ∃ b9 : Bool, r9 = some (.int (bm_b b9))) := by
  intro sz
  refine Met.ofW (cc := cX5_isKeptOut) (maxL := 6) (ret := (some .boolean)) (by decide) rfl ?_
  intro p e s m args below meth c s₁ B hml hv
  obtain ⟨ha, hsz, hP, hK, hD0⟩ := hv
  have hx := B.exec
  have hb := B.bytes
  have hr := B.returns
  have hts := atoms_spec (ws := wsX5_isKeptOut) B.pre
  have hown : s.vm.findClass RX5 = some m.cls := findClass_of_methodNamed B.named
  have hlocks := B.notSynchronized
  subst hsz
  have hD := hD0.self (sz := s.heap.size)
  generalize hAe : va_A (WW ad cJ cI cZ bm pa p0 p1 p2 li wi mt ms ma mp mk mn ou) s.heap.size = A at hD ⊢
  have hA : ∀ q : Nat, s.heap.size ≤ q → A q := fun q h => by rw [← hAe]; exact Or.inr h
  have hS : va_S A s.heap s.heap [] := va_S.rf
  have hl := lv_entry ([.ref (ad 42), .int (nI zr), .int (nI zp)]) (n := 6) (Nat.le_of_ble_eq_true rfl)
  refine W.eq (g2 := entryFrame m ([.ref (ad 42), .int (nI zr), .int (nI zp)] : List Value).toArray 6) (by rw [ha]) ?_
  rw [lg_entry_eq]
  generalize (lg_sl ([.ref (ad 42), .int (nI zr), .int (nI zp)]) ++ List.replicate (6 - (lg_sl ([.ref (ad 42), .int (nI zr), .int (nI zp)])).length) Slot.unset).toArray = ls at hl ⊢
  have hl : lv_has ls 6 [(0, .ref (ad 42)), (1, .int (nI zr)), (2, .int (nI zp))] := hl
  refine lv_iconst (v := bm_b false) hx hb dX5_isKeptOut_0 (by decide) ?_
  refine lv_istore_n (lv' := [(3, .int (bm_b false)), (0, .ref (ad 42)), (1, .int (nI zr)), (2, .int (nI zp))]) hx hb dX5_isKeptOut_1 rfl hl (by decide) rfl (fun ls hl => ?_)
  refine lv_iconst (v := nI 0) hx hb dX5_isKeptOut_2 (by decide) ?_
  refine lv_istore (lv' := [(4, .int (nI 0)), (3, .int (bm_b false)), (0, .ref (ad 42)), (1, .int (nI zr)), (2, .int (nI zp))]) hx hb dX5_isKeptOut_3 hl (by decide) rfl (fun ls hl => ?_)
  have lp_1 : ∀ (k_3 : Nat) (i_2 : Nat) (v_5 : Bool), i_2 ≤ ms.2.2.2.1 → ms.2.2.2.1 < i_2 + k_3 → ∀ (H : Heap) (locs : List Loc), va_P D vwCl (WW ad cJ cI cZ bm pa p0 p1 p2 li wi mt ms ma mp mk mn ou) H → va_D A (WW ad cJ cI cZ bm pa p0 p1 p2 li wi mt ms ma mp mk mn ou) → va_S A s.heap H locs → ∀ (ls : Array Slot), lv_has ls 6 [(4, .int (nI (5 * i_2))), (3, .int (bm_b v_5)), (0, .ref (ad 42)), (1, .int (nI zr)), (2, .int (nI zp))] → W p l e (headSpec wsX5_isKeptOut ({ frames := 2, cells := 0, slots := 0, locals := 44 })).room s m args below meth c H locs 0 0 (MQ below (bm_Wxq D vwCl [(cJ, .long), (cI, .int), (cZ, .boolean)] (fun ws9 r9 => ws9 = (WW ad cJ cI cZ bm pa p0 p1 p2 li wi mt ms ma mp mk mn ou) ∧ ∃ b9 : Bool, r9 = some (.int (bm_b b9))) A) args s 0 0 A) (F0 m 5 ls []) := by
    intro k_3
    induction k_3 with
    | zero => intro i_2 v_5 hi_6 hk_7; exfalso; omega
    | succ k_3 ih_4 =>
      intro i_2 v_5 hi_6 hk_7  H locs hP hD hS ls hl
      refine lv_iload hx hb dX5_isKeptOut_5 (lv_at hl 0 rfl) ?_
      refine lv_iconst (v := nI 5) hx hb dX5_isKeptOut_7 (by decide) ?_
      refine lv_aload_n hx hb dX5_isKeptOut_8 rfl (lv_at hl 2 rfl) ?_
      refine va_get (D := D) (ci := 5) (v := .int (nI ms.2.2.2.1)) (C := RX5) (T := TX5) (N := 28) hx hb hts (inT inX5) hown hK hP 42 ww_42 rfl 14 (by decide) (hts (.fieldLink RX5 109 "BoardMovesModel" "outs" "I") (List.mem_cons_of_mem _ flX5_109)) (fun _ h9 => h9) rfl dX5_isKeptOut_9 ?_
      refine bm_nmul hx hb dX5_isKeptOut_12 ?_
      refine bm_ni_ge (x := (5 * i_2)) (y := (5 * ms.2.2.2.1)) (tgt := 137) hx hb (by omega) (by omega) dX5_isKeptOut_13 (by decide) (fun c_8 => ?_) (fun c_8 => ?_)
      · refine lv_iload_n hx hb dX5_isKeptOut_137 rfl (lv_at hl 1 rfl) ?_
        exact bm_zretX (v := v_5) hx hb hr hP hD hK hS ⟨rfl, v_5, rfl⟩ dX5_isKeptOut_138 hlocks
      · refine lv_aload_n hx hb dX5_isKeptOut_16 rfl (lv_at hl 2 rfl) ?_
        refine lv_iload_n hx hb dX5_isKeptOut_17 rfl (lv_at hl 3 rfl) ?_
        refine lv_iload_n hx hb dX5_isKeptOut_18 rfl (lv_at hl 4 rfl) ?_
        refine bm_xcallV (As := [.int (nI zr), .int (nI zp)]) (rest := []) ⟨hx, hb, hml, hown, hts⟩ (y_left  (zr := zr) (zp := zp)  (by omega) (by omega)) (cwV 2 hts gvX5_92 rfl rfl rfl hvX5_left ⟨Nat.le_of_ble_eq_true rfl, Nat.le_of_ble_eq_true rfl⟩) hK hP hD hS hA 42 5 rfl ww_42 rfl hl.1 rfl (Nat.le_of_ble_eq_true rfl) dX5_isKeptOut_19 ⟨Nat.le_of_ble_eq_true rfl, Nat.le_of_ble_eq_true rfl⟩ (fun ws_9 r_10 h_11 H locs hP hD hS => ?_)
        obtain ⟨rfl, v_12, rfl⟩ := h_11
        have hP : va_P D vwCl (WW ad cJ cI cZ bm pa p0 p1 p2 li wi mt ms ma mp mk mn ou) H := hP
        have hD : va_D A (WW ad cJ cI cZ bm pa p0 p1 p2 li wi mt ms ma mp mk mn ou) := hD
        refine lv_aload_n hx hb dX5_isKeptOut_22 rfl (lv_at hl 2 rfl) ?_
        refine va_get (D := D) (ci := 5) (v := .ref (ad 53)) (C := RX5) (T := TX5) (N := 28) hx hb hts (inT inX5) hown hK hP 42 ww_42 rfl 15 (by decide) (hts (.fieldLink RX5 42 "BoardMovesModel" "out" "[J") (List.mem_cons_of_mem _ flX5_42)) (fun _ h9 => h9) rfl dX5_isKeptOut_23 ?_
        refine lv_iload hx hb dX5_isKeptOut_26 (lv_at hl 0 rfl) ?_
        refine lv_iconst (v := nI 2) hx hb dX5_isKeptOut_28 (by decide) ?_
        refine bm_nadd hx hb dX5_isKeptOut_29 ?_
        refine bm_lald (f := mk.1) hx hb hK hP 53 0 ww_53 rfl (j := ((5 * i_2) + 2)) (by omega) (by decide) dX5_isKeptOut_30 ?_
        refine lv_topl (fun t_13 _ => ?_)
        refine bm_lc_ge (x := v_12) (y := t_13) (tgt := 94) hx hb dX5_isKeptOut_31 dX5_isKeptOut_32 (by decide) (fun c_14 => ?_) (fun c_14 => ?_)
        · refine lv_iconst (v := bm_b false) hx hb dX5_isKeptOut_94 (by decide) ?_
          refine lv_istore (lv' := [(5, .int (bm_b false)), (4, .int (nI (5 * i_2))), (3, .int (bm_b v_5)), (0, .ref (ad 42)), (1, .int (nI zr)), (2, .int (nI zp))]) hx hb dX5_isKeptOut_95 hl (by decide) rfl (fun ls hl => ?_)
          refine lv_iload_n hx hb dX5_isKeptOut_97 rfl (lv_at hl 2 rfl) ?_
          refine bm_zb_ne (x := v_5) (tgt := 125) hx hb dX5_isKeptOut_98 (by decide) (fun c_15 => ?_) (fun c_15 => ?_)
          · refine lv_iconst (v := bm_b true) hx hb dX5_isKeptOut_125 (by decide) ?_
            refine lv_goto (tgt := 130) hx hb dX5_isKeptOut_126 (by decide) ?_
            refine lv_istore_n (lv' := [(3, .int (bm_b true)), (5, .int (bm_b false)), (4, .int (nI (5 * i_2))), (0, .ref (ad 42)), (1, .int (nI zr)), (2, .int (nI zp))]) hx hb dX5_isKeptOut_130 rfl hl (by decide) rfl (fun ls hl => ?_)
            refine lv_iinc (v := (nI ((5 * i_2) + 5))) (lv' := [(4, .int (nI ((5 * i_2) + 5))), (3, .int (bm_b true)), (5, .int (bm_b false)), (0, .ref (ad 42)), (1, .int (nI zr)), (2, .int (nI zp))]) hx hb dX5_isKeptOut_131 hl (k := 2) rfl (nI_add (5 * i_2) 5) (by decide) rfl (fun ls hl => ?_)
            refine lv_goto (tgt := 5) hx hb dX5_isKeptOut_134 (by decide) ?_
            exact ih_4 (i_2 + 1) true (by omega) (by omega)  _ _ hP hD hS _ (lv_sub hl [0, 1, 3, 4, 5] rfl)
          · refine lv_iload hx hb dX5_isKeptOut_101 (lv_at hl 0 rfl) ?_
            refine bm_zb_eq (x := false) (tgt := 129) hx hb dX5_isKeptOut_103 (by decide) (fun c_16 => ?_) (fun c_16 => ?_)
            · refine lv_iconst (v := bm_b false) hx hb dX5_isKeptOut_129 (by decide) ?_
              refine lv_istore_n (lv' := [(3, .int (bm_b false)), (5, .int (bm_b false)), (4, .int (nI (5 * i_2))), (0, .ref (ad 42)), (1, .int (nI zr)), (2, .int (nI zp))]) hx hb dX5_isKeptOut_130 rfl hl (by decide) rfl (fun ls hl => ?_)
              refine lv_iinc (v := (nI ((5 * i_2) + 5))) (lv' := [(4, .int (nI ((5 * i_2) + 5))), (3, .int (bm_b false)), (5, .int (bm_b false)), (0, .ref (ad 42)), (1, .int (nI zr)), (2, .int (nI zp))]) hx hb dX5_isKeptOut_131 hl (k := 2) rfl (nI_add (5 * i_2) 5) (by decide) rfl (fun ls hl => ?_)
              refine lv_goto (tgt := 5) hx hb dX5_isKeptOut_134 (by decide) ?_
              exact ih_4 (i_2 + 1) false (by omega) (by omega)  _ _ hP hD hS _ (lv_sub hl [0, 1, 3, 4, 5] rfl)
            · exact absurd c_16 (by decide)
        · refine lv_aload_n hx hb dX5_isKeptOut_35 rfl (lv_at hl 2 rfl) ?_
          refine va_get (D := D) (ci := 5) (v := .ref (ad 53)) (C := RX5) (T := TX5) (N := 28) hx hb hts (inT inX5) hown hK hP 42 ww_42 rfl 15 (by decide) (hts (.fieldLink RX5 42 "BoardMovesModel" "out" "[J") (List.mem_cons_of_mem _ flX5_42)) (fun _ h9 => h9) rfl dX5_isKeptOut_36 ?_
          refine lv_iload hx hb dX5_isKeptOut_39 (lv_at hl 0 rfl) ?_
          refine bm_lald (f := mk.1) hx hb hK hP 53 0 ww_53 rfl (j := (5 * i_2)) (by omega) (by decide) dX5_isKeptOut_41 ?_
          refine lv_topl (fun t_17 _ => ?_)
          refine lv_aload_n hx hb dX5_isKeptOut_42 rfl (lv_at hl 2 rfl) ?_
          refine lv_iload_n hx hb dX5_isKeptOut_43 rfl (lv_at hl 3 rfl) ?_
          refine lv_iload_n hx hb dX5_isKeptOut_44 rfl (lv_at hl 4 rfl) ?_
          refine bm_xcallV (As := [.int (nI zr), .int (nI zp)]) (rest := [.long t_17]) ⟨hx, hb, hml, hown, hts⟩ (y_right  (zr := zr) (zp := zp) ok_mp_turns (by omega) (by omega)) (cwV 2 hts gvX5_103 rfl rfl rfl hvX5_right ⟨Nat.le_of_ble_eq_true rfl, Nat.le_of_ble_eq_true rfl⟩) hK hP hD hS hA 42 5 rfl ww_42 rfl hl.1 rfl (Nat.le_of_ble_eq_true rfl) dX5_isKeptOut_45 ⟨Nat.le_of_ble_eq_true rfl, Nat.le_of_ble_eq_true rfl⟩ (fun ws_18 r_19 h_20 H locs hP hD hS => ?_)
          obtain ⟨rfl, v_21, rfl⟩ := h_20
          have hP : va_P D vwCl (WW ad cJ cI cZ bm pa p0 p1 p2 li wi mt ms ma mp mk mn ou) H := hP
          have hD : va_D A (WW ad cJ cI cZ bm pa p0 p1 p2 li wi mt ms ma mp mk mn ou) := hD
          refine bm_lc_ge (x := t_17) (y := v_21) (tgt := 94) hx hb dX5_isKeptOut_48 dX5_isKeptOut_49 (by decide) (fun c_22 => ?_) (fun c_22 => ?_)
          · refine lv_iconst (v := bm_b false) hx hb dX5_isKeptOut_94 (by decide) ?_
            refine lv_istore (lv' := [(5, .int (bm_b false)), (4, .int (nI (5 * i_2))), (3, .int (bm_b v_5)), (0, .ref (ad 42)), (1, .int (nI zr)), (2, .int (nI zp))]) hx hb dX5_isKeptOut_95 hl (by decide) rfl (fun ls hl => ?_)
            refine lv_iload_n hx hb dX5_isKeptOut_97 rfl (lv_at hl 2 rfl) ?_
            refine bm_zb_ne (x := v_5) (tgt := 125) hx hb dX5_isKeptOut_98 (by decide) (fun c_23 => ?_) (fun c_23 => ?_)
            · refine lv_iconst (v := bm_b true) hx hb dX5_isKeptOut_125 (by decide) ?_
              refine lv_goto (tgt := 130) hx hb dX5_isKeptOut_126 (by decide) ?_
              refine lv_istore_n (lv' := [(3, .int (bm_b true)), (5, .int (bm_b false)), (4, .int (nI (5 * i_2))), (0, .ref (ad 42)), (1, .int (nI zr)), (2, .int (nI zp))]) hx hb dX5_isKeptOut_130 rfl hl (by decide) rfl (fun ls hl => ?_)
              refine lv_iinc (v := (nI ((5 * i_2) + 5))) (lv' := [(4, .int (nI ((5 * i_2) + 5))), (3, .int (bm_b true)), (5, .int (bm_b false)), (0, .ref (ad 42)), (1, .int (nI zr)), (2, .int (nI zp))]) hx hb dX5_isKeptOut_131 hl (k := 2) rfl (nI_add (5 * i_2) 5) (by decide) rfl (fun ls hl => ?_)
              refine lv_goto (tgt := 5) hx hb dX5_isKeptOut_134 (by decide) ?_
              exact ih_4 (i_2 + 1) true (by omega) (by omega)  _ _ hP hD hS _ (lv_sub hl [0, 1, 3, 4, 5] rfl)
            · refine lv_iload hx hb dX5_isKeptOut_101 (lv_at hl 0 rfl) ?_
              refine bm_zb_eq (x := false) (tgt := 129) hx hb dX5_isKeptOut_103 (by decide) (fun c_24 => ?_) (fun c_24 => ?_)
              · refine lv_iconst (v := bm_b false) hx hb dX5_isKeptOut_129 (by decide) ?_
                refine lv_istore_n (lv' := [(3, .int (bm_b false)), (5, .int (bm_b false)), (4, .int (nI (5 * i_2))), (0, .ref (ad 42)), (1, .int (nI zr)), (2, .int (nI zp))]) hx hb dX5_isKeptOut_130 rfl hl (by decide) rfl (fun ls hl => ?_)
                refine lv_iinc (v := (nI ((5 * i_2) + 5))) (lv' := [(4, .int (nI ((5 * i_2) + 5))), (3, .int (bm_b false)), (5, .int (bm_b false)), (0, .ref (ad 42)), (1, .int (nI zr)), (2, .int (nI zp))]) hx hb dX5_isKeptOut_131 hl (k := 2) rfl (nI_add (5 * i_2) 5) (by decide) rfl (fun ls hl => ?_)
                refine lv_goto (tgt := 5) hx hb dX5_isKeptOut_134 (by decide) ?_
                exact ih_4 (i_2 + 1) false (by omega) (by omega)  _ _ hP hD hS _ (lv_sub hl [0, 1, 3, 4, 5] rfl)
              · exact absurd c_24 (by decide)
          · refine lv_aload_n hx hb dX5_isKeptOut_52 rfl (lv_at hl 2 rfl) ?_
            refine lv_iload_n hx hb dX5_isKeptOut_53 rfl (lv_at hl 3 rfl) ?_
            refine lv_iload_n hx hb dX5_isKeptOut_54 rfl (lv_at hl 4 rfl) ?_
            refine bm_xcallV (As := [.int (nI zr), .int (nI zp)]) (rest := []) ⟨hx, hb, hml, hown, hts⟩ (y_low  (zr := zr) (zp := zp)  (by omega) (by omega)) (cwV 2 hts gvX5_100 rfl rfl rfl hvX5_low ⟨Nat.le_of_ble_eq_true rfl, Nat.le_of_ble_eq_true rfl⟩) hK hP hD hS hA 42 5 rfl ww_42 rfl hl.1 rfl (Nat.le_of_ble_eq_true rfl) dX5_isKeptOut_55 ⟨Nat.le_of_ble_eq_true rfl, Nat.le_of_ble_eq_true rfl⟩ (fun ws_25 r_26 h_27 H locs hP hD hS => ?_)
            obtain ⟨rfl, v_28, rfl⟩ := h_27
            have hP : va_P D vwCl (WW ad cJ cI cZ bm pa p0 p1 p2 li wi mt ms ma mp mk mn ou) H := hP
            have hD : va_D A (WW ad cJ cI cZ bm pa p0 p1 p2 li wi mt ms ma mp mk mn ou) := hD
            refine lv_aload_n hx hb dX5_isKeptOut_58 rfl (lv_at hl 2 rfl) ?_
            refine va_get (D := D) (ci := 5) (v := .ref (ad 53)) (C := RX5) (T := TX5) (N := 28) hx hb hts (inT inX5) hown hK hP 42 ww_42 rfl 15 (by decide) (hts (.fieldLink RX5 42 "BoardMovesModel" "out" "[J") (List.mem_cons_of_mem _ flX5_42)) (fun _ h9 => h9) rfl dX5_isKeptOut_59 ?_
            refine lv_iload hx hb dX5_isKeptOut_62 (lv_at hl 0 rfl) ?_
            refine lv_iconst (v := nI 3) hx hb dX5_isKeptOut_64 (by decide) ?_
            refine bm_nadd hx hb dX5_isKeptOut_65 ?_
            refine bm_lald (f := mk.1) hx hb hK hP 53 0 ww_53 rfl (j := ((5 * i_2) + 3)) (by omega) (by decide) dX5_isKeptOut_66 ?_
            refine lv_topl (fun t_29 _ => ?_)
            refine bm_lc_ge (x := v_28) (y := t_29) (tgt := 94) hx hb dX5_isKeptOut_67 dX5_isKeptOut_68 (by decide) (fun c_30 => ?_) (fun c_30 => ?_)
            · refine lv_iconst (v := bm_b false) hx hb dX5_isKeptOut_94 (by decide) ?_
              refine lv_istore (lv' := [(5, .int (bm_b false)), (4, .int (nI (5 * i_2))), (3, .int (bm_b v_5)), (0, .ref (ad 42)), (1, .int (nI zr)), (2, .int (nI zp))]) hx hb dX5_isKeptOut_95 hl (by decide) rfl (fun ls hl => ?_)
              refine lv_iload_n hx hb dX5_isKeptOut_97 rfl (lv_at hl 2 rfl) ?_
              refine bm_zb_ne (x := v_5) (tgt := 125) hx hb dX5_isKeptOut_98 (by decide) (fun c_31 => ?_) (fun c_31 => ?_)
              · refine lv_iconst (v := bm_b true) hx hb dX5_isKeptOut_125 (by decide) ?_
                refine lv_goto (tgt := 130) hx hb dX5_isKeptOut_126 (by decide) ?_
                refine lv_istore_n (lv' := [(3, .int (bm_b true)), (5, .int (bm_b false)), (4, .int (nI (5 * i_2))), (0, .ref (ad 42)), (1, .int (nI zr)), (2, .int (nI zp))]) hx hb dX5_isKeptOut_130 rfl hl (by decide) rfl (fun ls hl => ?_)
                refine lv_iinc (v := (nI ((5 * i_2) + 5))) (lv' := [(4, .int (nI ((5 * i_2) + 5))), (3, .int (bm_b true)), (5, .int (bm_b false)), (0, .ref (ad 42)), (1, .int (nI zr)), (2, .int (nI zp))]) hx hb dX5_isKeptOut_131 hl (k := 2) rfl (nI_add (5 * i_2) 5) (by decide) rfl (fun ls hl => ?_)
                refine lv_goto (tgt := 5) hx hb dX5_isKeptOut_134 (by decide) ?_
                exact ih_4 (i_2 + 1) true (by omega) (by omega)  _ _ hP hD hS _ (lv_sub hl [0, 1, 3, 4, 5] rfl)
              · refine lv_iload hx hb dX5_isKeptOut_101 (lv_at hl 0 rfl) ?_
                refine bm_zb_eq (x := false) (tgt := 129) hx hb dX5_isKeptOut_103 (by decide) (fun c_32 => ?_) (fun c_32 => ?_)
                · refine lv_iconst (v := bm_b false) hx hb dX5_isKeptOut_129 (by decide) ?_
                  refine lv_istore_n (lv' := [(3, .int (bm_b false)), (5, .int (bm_b false)), (4, .int (nI (5 * i_2))), (0, .ref (ad 42)), (1, .int (nI zr)), (2, .int (nI zp))]) hx hb dX5_isKeptOut_130 rfl hl (by decide) rfl (fun ls hl => ?_)
                  refine lv_iinc (v := (nI ((5 * i_2) + 5))) (lv' := [(4, .int (nI ((5 * i_2) + 5))), (3, .int (bm_b false)), (5, .int (bm_b false)), (0, .ref (ad 42)), (1, .int (nI zr)), (2, .int (nI zp))]) hx hb dX5_isKeptOut_131 hl (k := 2) rfl (nI_add (5 * i_2) 5) (by decide) rfl (fun ls hl => ?_)
                  refine lv_goto (tgt := 5) hx hb dX5_isKeptOut_134 (by decide) ?_
                  exact ih_4 (i_2 + 1) false (by omega) (by omega)  _ _ hP hD hS _ (lv_sub hl [0, 1, 3, 4, 5] rfl)
                · exact absurd c_32 (by decide)
            · refine lv_aload_n hx hb dX5_isKeptOut_71 rfl (lv_at hl 2 rfl) ?_
              refine va_get (D := D) (ci := 5) (v := .ref (ad 53)) (C := RX5) (T := TX5) (N := 28) hx hb hts (inT inX5) hown hK hP 42 ww_42 rfl 15 (by decide) (hts (.fieldLink RX5 42 "BoardMovesModel" "out" "[J") (List.mem_cons_of_mem _ flX5_42)) (fun _ h9 => h9) rfl dX5_isKeptOut_72 ?_
              refine lv_iload hx hb dX5_isKeptOut_75 (lv_at hl 0 rfl) ?_
              refine lv_iconst (v := nI 1) hx hb dX5_isKeptOut_77 (by decide) ?_
              refine bm_nadd hx hb dX5_isKeptOut_78 ?_
              refine bm_lald (f := mk.1) hx hb hK hP 53 0 ww_53 rfl (j := ((5 * i_2) + 1)) (by omega) (by decide) dX5_isKeptOut_79 ?_
              refine lv_topl (fun t_33 _ => ?_)
              refine lv_aload_n hx hb dX5_isKeptOut_80 rfl (lv_at hl 2 rfl) ?_
              refine lv_iload_n hx hb dX5_isKeptOut_81 rfl (lv_at hl 3 rfl) ?_
              refine lv_iload_n hx hb dX5_isKeptOut_82 rfl (lv_at hl 4 rfl) ?_
              refine bm_xcallV (As := [.int (nI zr), .int (nI zp)]) (rest := [.long t_33]) ⟨hx, hb, hml, hown, hts⟩ (y_top  (zr := zr) (zp := zp) ok_mp_turns (by omega) (by omega)) (cwV 2 hts gvX5_106 rfl rfl rfl hvX5_top ⟨Nat.le_of_ble_eq_true rfl, Nat.le_of_ble_eq_true rfl⟩) hK hP hD hS hA 42 5 rfl ww_42 rfl hl.1 rfl (Nat.le_of_ble_eq_true rfl) dX5_isKeptOut_83 ⟨Nat.le_of_ble_eq_true rfl, Nat.le_of_ble_eq_true rfl⟩ (fun ws_34 r_35 h_36 H locs hP hD hS => ?_)
              obtain ⟨rfl, v_37, rfl⟩ := h_36
              have hP : va_P D vwCl (WW ad cJ cI cZ bm pa p0 p1 p2 li wi mt ms ma mp mk mn ou) H := hP
              have hD : va_D A (WW ad cJ cI cZ bm pa p0 p1 p2 li wi mt ms ma mp mk mn ou) := hD
              refine bm_lc_ge (x := t_33) (y := v_37) (tgt := 94) hx hb dX5_isKeptOut_86 dX5_isKeptOut_87 (by decide) (fun c_38 => ?_) (fun c_38 => ?_)
              · refine lv_iconst (v := bm_b false) hx hb dX5_isKeptOut_94 (by decide) ?_
                refine lv_istore (lv' := [(5, .int (bm_b false)), (4, .int (nI (5 * i_2))), (3, .int (bm_b v_5)), (0, .ref (ad 42)), (1, .int (nI zr)), (2, .int (nI zp))]) hx hb dX5_isKeptOut_95 hl (by decide) rfl (fun ls hl => ?_)
                refine lv_iload_n hx hb dX5_isKeptOut_97 rfl (lv_at hl 2 rfl) ?_
                refine bm_zb_ne (x := v_5) (tgt := 125) hx hb dX5_isKeptOut_98 (by decide) (fun c_39 => ?_) (fun c_39 => ?_)
                · refine lv_iconst (v := bm_b true) hx hb dX5_isKeptOut_125 (by decide) ?_
                  refine lv_goto (tgt := 130) hx hb dX5_isKeptOut_126 (by decide) ?_
                  refine lv_istore_n (lv' := [(3, .int (bm_b true)), (5, .int (bm_b false)), (4, .int (nI (5 * i_2))), (0, .ref (ad 42)), (1, .int (nI zr)), (2, .int (nI zp))]) hx hb dX5_isKeptOut_130 rfl hl (by decide) rfl (fun ls hl => ?_)
                  refine lv_iinc (v := (nI ((5 * i_2) + 5))) (lv' := [(4, .int (nI ((5 * i_2) + 5))), (3, .int (bm_b true)), (5, .int (bm_b false)), (0, .ref (ad 42)), (1, .int (nI zr)), (2, .int (nI zp))]) hx hb dX5_isKeptOut_131 hl (k := 2) rfl (nI_add (5 * i_2) 5) (by decide) rfl (fun ls hl => ?_)
                  refine lv_goto (tgt := 5) hx hb dX5_isKeptOut_134 (by decide) ?_
                  exact ih_4 (i_2 + 1) true (by omega) (by omega)  _ _ hP hD hS _ (lv_sub hl [0, 1, 3, 4, 5] rfl)
                · refine lv_iload hx hb dX5_isKeptOut_101 (lv_at hl 0 rfl) ?_
                  refine bm_zb_eq (x := false) (tgt := 129) hx hb dX5_isKeptOut_103 (by decide) (fun c_40 => ?_) (fun c_40 => ?_)
                  · refine lv_iconst (v := bm_b false) hx hb dX5_isKeptOut_129 (by decide) ?_
                    refine lv_istore_n (lv' := [(3, .int (bm_b false)), (5, .int (bm_b false)), (4, .int (nI (5 * i_2))), (0, .ref (ad 42)), (1, .int (nI zr)), (2, .int (nI zp))]) hx hb dX5_isKeptOut_130 rfl hl (by decide) rfl (fun ls hl => ?_)
                    refine lv_iinc (v := (nI ((5 * i_2) + 5))) (lv' := [(4, .int (nI ((5 * i_2) + 5))), (3, .int (bm_b false)), (5, .int (bm_b false)), (0, .ref (ad 42)), (1, .int (nI zr)), (2, .int (nI zp))]) hx hb dX5_isKeptOut_131 hl (k := 2) rfl (nI_add (5 * i_2) 5) (by decide) rfl (fun ls hl => ?_)
                    refine lv_goto (tgt := 5) hx hb dX5_isKeptOut_134 (by decide) ?_
                    exact ih_4 (i_2 + 1) false (by omega) (by omega)  _ _ hP hD hS _ (lv_sub hl [0, 1, 3, 4, 5] rfl)
                  · exact absurd c_40 (by decide)
              · refine lv_iconst (v := bm_b true) hx hb dX5_isKeptOut_90 (by decide) ?_
                refine lv_goto (tgt := 95) hx hb dX5_isKeptOut_91 (by decide) ?_
                refine lv_istore (lv' := [(5, .int (bm_b true)), (4, .int (nI (5 * i_2))), (3, .int (bm_b v_5)), (0, .ref (ad 42)), (1, .int (nI zr)), (2, .int (nI zp))]) hx hb dX5_isKeptOut_95 hl (by decide) rfl (fun ls hl => ?_)
                refine lv_iload_n hx hb dX5_isKeptOut_97 rfl (lv_at hl 2 rfl) ?_
                refine bm_zb_ne (x := v_5) (tgt := 125) hx hb dX5_isKeptOut_98 (by decide) (fun c_41 => ?_) (fun c_41 => ?_)
                · refine lv_iconst (v := bm_b true) hx hb dX5_isKeptOut_125 (by decide) ?_
                  refine lv_goto (tgt := 130) hx hb dX5_isKeptOut_126 (by decide) ?_
                  refine lv_istore_n (lv' := [(3, .int (bm_b true)), (5, .int (bm_b true)), (4, .int (nI (5 * i_2))), (0, .ref (ad 42)), (1, .int (nI zr)), (2, .int (nI zp))]) hx hb dX5_isKeptOut_130 rfl hl (by decide) rfl (fun ls hl => ?_)
                  refine lv_iinc (v := (nI ((5 * i_2) + 5))) (lv' := [(4, .int (nI ((5 * i_2) + 5))), (3, .int (bm_b true)), (5, .int (bm_b true)), (0, .ref (ad 42)), (1, .int (nI zr)), (2, .int (nI zp))]) hx hb dX5_isKeptOut_131 hl (k := 2) rfl (nI_add (5 * i_2) 5) (by decide) rfl (fun ls hl => ?_)
                  refine lv_goto (tgt := 5) hx hb dX5_isKeptOut_134 (by decide) ?_
                  exact ih_4 (i_2 + 1) true (by omega) (by omega)  _ _ hP hD hS _ (lv_sub hl [0, 1, 3, 4, 5] rfl)
                · refine lv_iload hx hb dX5_isKeptOut_101 (lv_at hl 0 rfl) ?_
                  refine bm_zb_eq (x := true) (tgt := 129) hx hb dX5_isKeptOut_103 (by decide) (fun c_42 => ?_) (fun c_42 => ?_)
                  · exact absurd c_42 (by decide)
                  · refine lv_aload_n hx hb dX5_isKeptOut_106 rfl (lv_at hl 3 rfl) ?_
                    refine va_get (D := D) (ci := 5) (v := .ref (ad 46)) (C := RX5) (T := TX5) (N := 28) hx hb hts (inT inX5) hown hK hP 42 ww_42 rfl 7 (by decide) (hts (.fieldLink RX5 20 "BoardMovesModel" "heights" "[J") (List.mem_cons_of_mem _ flX5_20)) (fun _ h9 => h9) rfl dX5_isKeptOut_107 ?_
                    refine lv_iload_n hx hb dX5_isKeptOut_110 rfl (lv_at hl 5 rfl) ?_
                    refine bm_lald (f := ma.2.2.2.1) hx hb hK hP 46 0 ww_46 rfl (j := zp) (by omega) (by decide) dX5_isKeptOut_111 ?_
                    refine lv_topl (fun t_43 _ => ?_)
                    refine lv_aload_n hx hb dX5_isKeptOut_112 rfl (lv_at hl 3 rfl) ?_
                    refine va_get (D := D) (ci := 5) (v := .ref (ad 53)) (C := RX5) (T := TX5) (N := 28) hx hb hts (inT inX5) hown hK hP 42 ww_42 rfl 15 (by decide) (hts (.fieldLink RX5 42 "BoardMovesModel" "out" "[J") (List.mem_cons_of_mem _ flX5_42)) (fun _ h9 => h9) rfl dX5_isKeptOut_113 ?_
                    refine lv_iload hx hb dX5_isKeptOut_116 (lv_at hl 1 rfl) ?_
                    refine lv_iconst (v := nI 4) hx hb dX5_isKeptOut_118 (by decide) ?_
                    refine bm_nadd hx hb dX5_isKeptOut_119 ?_
                    refine bm_lald (f := mk.1) hx hb hK hP 53 0 ww_53 rfl (j := ((5 * i_2) + 4)) (by omega) (by decide) dX5_isKeptOut_120 ?_
                    refine lv_topl (fun t_44 _ => ?_)
                    refine bm_lc_le (x := t_43) (y := t_44) (tgt := 129) hx hb dX5_isKeptOut_121 dX5_isKeptOut_122 (by decide) (fun c_45 => ?_) (fun c_45 => ?_)
                    · refine lv_iconst (v := bm_b false) hx hb dX5_isKeptOut_129 (by decide) ?_
                      refine lv_istore_n (lv' := [(3, .int (bm_b false)), (5, .int (bm_b true)), (4, .int (nI (5 * i_2))), (0, .ref (ad 42)), (1, .int (nI zr)), (2, .int (nI zp))]) hx hb dX5_isKeptOut_130 rfl hl (by decide) rfl (fun ls hl => ?_)
                      refine lv_iinc (v := (nI ((5 * i_2) + 5))) (lv' := [(4, .int (nI ((5 * i_2) + 5))), (3, .int (bm_b false)), (5, .int (bm_b true)), (0, .ref (ad 42)), (1, .int (nI zr)), (2, .int (nI zp))]) hx hb dX5_isKeptOut_131 hl (k := 2) rfl (nI_add (5 * i_2) 5) (by decide) rfl (fun ls hl => ?_)
                      refine lv_goto (tgt := 5) hx hb dX5_isKeptOut_134 (by decide) ?_
                      exact ih_4 (i_2 + 1) false (by omega) (by omega)  _ _ hP hD hS _ (lv_sub hl [0, 1, 3, 4, 5] rfl)
                    · refine lv_iconst (v := bm_b true) hx hb dX5_isKeptOut_125 (by decide) ?_
                      refine lv_goto (tgt := 130) hx hb dX5_isKeptOut_126 (by decide) ?_
                      refine lv_istore_n (lv' := [(3, .int (bm_b true)), (5, .int (bm_b true)), (4, .int (nI (5 * i_2))), (0, .ref (ad 42)), (1, .int (nI zr)), (2, .int (nI zp))]) hx hb dX5_isKeptOut_130 rfl hl (by decide) rfl (fun ls hl => ?_)
                      refine lv_iinc (v := (nI ((5 * i_2) + 5))) (lv' := [(4, .int (nI ((5 * i_2) + 5))), (3, .int (bm_b true)), (5, .int (bm_b true)), (0, .ref (ad 42)), (1, .int (nI zr)), (2, .int (nI zp))]) hx hb dX5_isKeptOut_131 hl (k := 2) rfl (nI_add (5 * i_2) 5) (by decide) rfl (fun ls hl => ?_)
                      refine lv_goto (tgt := 5) hx hb dX5_isKeptOut_134 (by decide) ?_
                      exact ih_4 (i_2 + 1) true (by omega) (by omega)  _ _ hP hD hS _ (lv_sub hl [0, 1, 3, 4, 5] rfl)
  exact lp_1 (ms.2.2.2.1 + 1) 0 false (by omega) (by omega)  _ _ hP hD hS _ (lv_sub hl [0, 1, 2, 3, 4] rfl)

set_option maxHeartbeats 8000000 in
set_option maxRecDepth 100000 in
theorem y_gap {l : Launch} {D : va_G} {ad : Nat → Nat} {cJ cI cZ : ClassId} {bm : gBM} {pa : gPA} {p0 p1 p2 : gPL} {li : gLI} {wi : gWI} {mt : Nat} {ms : gMS} {ma : gMA} {mp : gMP} {mk : gMK} {mn : gMN} {ou : Nat → Int64} {z1 : Int64} {z2 : Int64} {z3 : Int64} {z4 : Int64}    : bm_Wx l yX5_gap wsX5_gap ({ frames := 0, cells := 0, slots := 0, locals := 0 }) D vwCl [(cJ, .long), (cI, .int), (cZ, .boolean)] (WW ad cJ cI cZ bm pa p0 p1 p2 li wi mt ms ma mp mk mn ou) [.long z1, .long z2, .long z3, .long z4] (fun ws9 r9 => ws9 = (WW ad cJ cI cZ bm pa p0 p1 p2 li wi mt ms ma mp mk mn ou) ∧ ∃ v9 : Int64, r9 = some (.long v9)) := by
  intro sz
  refine Met.ofW (cc := cX5_gap) (maxL := 8) (ret := (some .long)) (by decide) rfl ?_
  intro p e s m args below meth c s₁ B hml hv
  obtain ⟨ha, hsz, hP, hK, hD0⟩ := hv
  have hx := B.exec
  have hb := B.bytes
  have hr := B.returns
  have hts := atoms_spec (ws := wsX5_gap) B.pre
  have hown : s.vm.findClass RX5 = some m.cls := findClass_of_methodNamed B.named
  have hlocks := B.notSynchronized
  subst hsz
  have hD := hD0.self (sz := s.heap.size)
  generalize hAe : va_A (WW ad cJ cI cZ bm pa p0 p1 p2 li wi mt ms ma mp mk mn ou) s.heap.size = A at hD ⊢
  have hA : ∀ q : Nat, s.heap.size ≤ q → A q := fun q h => by rw [← hAe]; exact Or.inr h
  have hS : va_S A s.heap s.heap [] := va_S.rf
  have hl := lv_entry ([.long z1, .long z2, .long z3, .long z4]) (n := 8) (Nat.le_of_ble_eq_true rfl)
  refine W.eq (g2 := entryFrame m ([.long z1, .long z2, .long z3, .long z4] : List Value).toArray 8) (by rw [ha]) ?_
  rw [lg_entry_eq]
  generalize (lg_sl ([.long z1, .long z2, .long z3, .long z4]) ++ List.replicate (8 - (lg_sl ([.long z1, .long z2, .long z3, .long z4])).length) Slot.unset).toArray = ls at hl ⊢
  have hl : lv_has ls 8 [(0, .long z1), (2, .long z2), (4, .long z3), (6, .long z4)] := hl
  refine lv_lload hx hb dX5_gap_0 (lv_at hl 2 rfl) ?_
  refine lv_lload_n hx hb dX5_gap_2 rfl (lv_at hl 1 rfl) ?_
  refine bm_lc_le (x := z3) (y := z2) (tgt := 14) hx hb dX5_gap_3 dX5_gap_4 (by decide) (fun c_1 => ?_) (fun c_1 => ?_)
  · refine lv_lload_n hx hb dX5_gap_14 rfl (lv_at hl 0 rfl) ?_
    refine lv_lload hx hb dX5_gap_15 (lv_at hl 3 rfl) ?_
    refine bm_lc_le (x := z1) (y := z4) (tgt := 28) hx hb dX5_gap_17 dX5_gap_18 (by decide) (fun c_2 => ?_) (fun c_2 => ?_)
    · refine lv_lconst (v := 0) hx hb dX5_gap_28 (by decide) ?_
      exact bm_lretX (v := 0) hx hb hr hP hD hK hS ⟨rfl, 0, rfl⟩ dX5_gap_29 hlocks
    · refine lv_lload_n hx hb dX5_gap_21 rfl (lv_at hl 0 rfl) ?_
      refine lv_lload hx hb dX5_gap_22 (lv_at hl 3 rfl) ?_
      refine lv_lsub hx hb dX5_gap_24 ?_
      refine lv_topl (fun t_3 _ => ?_)
      refine lv_goto (tgt := 29) hx hb dX5_gap_25 (by decide) ?_
      exact bm_lretX (v := t_3) hx hb hr hP hD hK hS ⟨rfl, t_3, rfl⟩ dX5_gap_29 hlocks
  · refine lv_lload hx hb dX5_gap_7 (lv_at hl 2 rfl) ?_
    refine lv_lload_n hx hb dX5_gap_9 rfl (lv_at hl 1 rfl) ?_
    refine lv_lsub hx hb dX5_gap_10 ?_
    refine lv_topl (fun t_4 _ => ?_)
    refine lv_goto (tgt := 29) hx hb dX5_gap_11 (by decide) ?_
    exact bm_lretX (v := t_4) hx hb hr hP hD hK hS ⟨rfl, t_4, rfl⟩ dX5_gap_29 hlocks

set_option maxHeartbeats 8000000 in
set_option maxRecDepth 100000 in
theorem y_isNear {l : Launch} {D : va_G} {ad : Nat → Nat} {cJ cI cZ : ClassId} {bm : gBM} {pa : gPA} {p0 p1 p2 : gPL} {li : gLI} {wi : gWI} {mt : Nat} {ms : gMS} {ma : gMA} {mp : gMP} {mk : gMK} {mn : gMN} {ou : Nat → Int64} {zr : Nat} {zk : Nat} (ok_mp_turns : ∀ i, mp.2.2 i < 40) (ok_mk_nearOne : ∀ i, mk.2.1 i < 40) (ok_mk_nearTwo : ∀ i, mk.2.2.1 i < 40) (hp0 : zr < 3) (hp1 : zk < 20)  : bm_Wx l yX5_isNear wsX5_isNear ({ frames := 2, cells := 0, slots := 0, locals := 44 }) D vwCl [(cJ, .long), (cI, .int), (cZ, .boolean)] (WW ad cJ cI cZ bm pa p0 p1 p2 li wi mt ms ma mp mk mn ou) [.ref (ad 42), .int (nI zr), .int (nI zk)] (fun ws9 r9 => ws9 = (WW ad cJ cI cZ bm pa p0 p1 p2 li wi mt ms ma mp mk mn ou) ∧ ∃ b9 : Bool, r9 = some (.int (bm_b b9))) := by
  intro sz
  refine Met.ofW (cc := cX5_isNear) (maxL := 5) (ret := (some .boolean)) (by decide) rfl ?_
  intro p e s m args below meth c s₁ B hml hv
  obtain ⟨ha, hsz, hP, hK, hD0⟩ := hv
  have hx := B.exec
  have hb := B.bytes
  have hr := B.returns
  have hts := atoms_spec (ws := wsX5_isNear) B.pre
  have hown : s.vm.findClass RX5 = some m.cls := findClass_of_methodNamed B.named
  have hlocks := B.notSynchronized
  subst hsz
  have hD := hD0.self (sz := s.heap.size)
  generalize hAe : va_A (WW ad cJ cI cZ bm pa p0 p1 p2 li wi mt ms ma mp mk mn ou) s.heap.size = A at hD ⊢
  have hA : ∀ q : Nat, s.heap.size ≤ q → A q := fun q h => by rw [← hAe]; exact Or.inr h
  have hS : va_S A s.heap s.heap [] := va_S.rf
  have hl := lv_entry ([.ref (ad 42), .int (nI zr), .int (nI zk)]) (n := 5) (Nat.le_of_ble_eq_true rfl)
  refine W.eq (g2 := entryFrame m ([.ref (ad 42), .int (nI zr), .int (nI zk)] : List Value).toArray 5) (by rw [ha]) ?_
  rw [lg_entry_eq]
  generalize (lg_sl ([.ref (ad 42), .int (nI zr), .int (nI zk)]) ++ List.replicate (5 - (lg_sl ([.ref (ad 42), .int (nI zr), .int (nI zk)])).length) Slot.unset).toArray = ls at hl ⊢
  have hl : lv_has ls 5 [(0, .ref (ad 42)), (1, .int (nI zr)), (2, .int (nI zk))] := hl
  refine lv_aload_n hx hb dX5_isNear_0 rfl (lv_at hl 0 rfl) ?_
  refine va_get (D := D) (ci := 5) (v := .ref (ad 54)) (C := RX5) (T := TX5) (N := 28) hx hb hts (inT inX5) hown hK hP 42 ww_42 rfl 17 (by decide) (hts (.fieldLink RX5 45 "BoardMovesModel" "nearOne" "[I") (List.mem_cons_of_mem _ flX5_45)) (fun _ h9 => h9) rfl dX5_isNear_1 ?_
  refine lv_iload_n hx hb dX5_isNear_4 rfl (lv_at hl 2 rfl) ?_
  refine bm_nald (f := mk.2.1) hx hb hK hP 54 1 ww_54 rfl (j := zk) (by omega) (by decide) dX5_isNear_5 ?_
  refine lv_istore_n (lv' := [(3, .int (nI (mk.2.1 zk))), (0, .ref (ad 42)), (1, .int (nI zr)), (2, .int (nI zk))]) hx hb dX5_isNear_6 rfl hl (by decide) rfl (fun ls hl => ?_)
  refine lv_aload_n hx hb dX5_isNear_7 rfl (lv_at hl 1 rfl) ?_
  refine va_get (D := D) (ci := 5) (v := .ref (ad 55)) (C := RX5) (T := TX5) (N := 28) hx hb hts (inT inX5) hown hK hP 42 ww_42 rfl 18 (by decide) (hts (.fieldLink RX5 48 "BoardMovesModel" "nearTwo" "[I") (List.mem_cons_of_mem _ flX5_48)) (fun _ h9 => h9) rfl dX5_isNear_8 ?_
  refine lv_iload_n hx hb dX5_isNear_11 rfl (lv_at hl 3 rfl) ?_
  refine bm_nald (f := mk.2.2.1) hx hb hK hP 55 1 ww_55 rfl (j := zk) (by omega) (by decide) dX5_isNear_12 ?_
  refine lv_istore (lv' := [(4, .int (nI (mk.2.2.1 zk))), (3, .int (nI (mk.2.1 zk))), (0, .ref (ad 42)), (1, .int (nI zr)), (2, .int (nI zk))]) hx hb dX5_isNear_13 hl (by decide) rfl (fun ls hl => ?_)
  refine lv_aload_n hx hb dX5_isNear_15 rfl (lv_at hl 2 rfl) ?_
  refine va_get (D := D) (ci := 5) (v := .ref (ad 49)) (C := RX5) (T := TX5) (N := 28) hx hb hts (inT inX5) hown hK hP 42 ww_42 rfl 10 (by decide) (hts (.fieldLink RX5 30 "BoardMovesModel" "placed" "[Z") (List.mem_cons_of_mem _ flX5_30)) (fun _ h9 => h9) rfl dX5_isNear_16 ?_
  refine lv_iload_n hx hb dX5_isNear_19 rfl (lv_at hl 1 rfl) ?_
  refine bm_zald (f := ma.2.2.2.2.2.2) hx hb hK hP 49 2 ww_49 rfl (j := (mk.2.1 zk)) (ok_mk_nearOne _) (by decide) dX5_isNear_20 ?_
  refine bm_zb_eq (x := (ma.2.2.2.2.2.2 (mk.2.1 zk))) (tgt := 34) hx hb dX5_isNear_21 (by decide) (fun c_1 => ?_) (fun c_1 => ?_)
  · refine lv_iconst (v := bm_b true) hx hb dX5_isNear_34 (by decide) ?_
    exact bm_zretX (v := true) hx hb hr hP hD hK hS ⟨rfl, true, rfl⟩ dX5_isNear_35 hlocks
  · refine lv_aload_n hx hb dX5_isNear_24 rfl (lv_at hl 2 rfl) ?_
    refine va_get (D := D) (ci := 5) (v := .ref (ad 49)) (C := RX5) (T := TX5) (N := 28) hx hb hts (inT inX5) hown hK hP 42 ww_42 rfl 10 (by decide) (hts (.fieldLink RX5 30 "BoardMovesModel" "placed" "[Z") (List.mem_cons_of_mem _ flX5_30)) (fun _ h9 => h9) rfl dX5_isNear_25 ?_
    refine lv_iload hx hb dX5_isNear_28 (lv_at hl 0 rfl) ?_
    refine bm_zald (f := ma.2.2.2.2.2.2) hx hb hK hP 49 2 ww_49 rfl (j := (mk.2.2.1 zk)) (ok_mk_nearTwo _) (by decide) dX5_isNear_30 ?_
    refine bm_zb_ne (x := (ma.2.2.2.2.2.2 (mk.2.2.1 zk))) (tgt := 36) hx hb dX5_isNear_31 (by decide) (fun c_2 => ?_) (fun c_2 => ?_)
    · refine lv_aload_n hx hb dX5_isNear_36 rfl (lv_at hl 2 rfl) ?_
      refine lv_iload_n hx hb dX5_isNear_37 rfl (lv_at hl 3 rfl) ?_
      refine lv_iload_n hx hb dX5_isNear_38 rfl (lv_at hl 1 rfl) ?_
      refine bm_xcallV (As := [.int (nI zr), .int (nI (mk.2.1 zk))]) (rest := []) ⟨hx, hb, hml, hown, hts⟩ (y_left  (zr := zr) (zp := mk.2.1 zk)  (by omega) (ok_mk_nearOne _)) (cwV 2 hts gvX5_92 rfl rfl rfl hvX5_left ⟨Nat.le_of_ble_eq_true rfl, Nat.le_of_ble_eq_true rfl⟩) hK hP hD hS hA 42 5 rfl ww_42 rfl hl.1 rfl (Nat.le_of_ble_eq_true rfl) dX5_isNear_39 ⟨Nat.le_of_ble_eq_true rfl, Nat.le_of_ble_eq_true rfl⟩ (fun ws_3 r_4 h_5 H locs hP hD hS => ?_)
      obtain ⟨rfl, v_6, rfl⟩ := h_5
      have hP : va_P D vwCl (WW ad cJ cI cZ bm pa p0 p1 p2 li wi mt ms ma mp mk mn ou) H := hP
      have hD : va_D A (WW ad cJ cI cZ bm pa p0 p1 p2 li wi mt ms ma mp mk mn ou) := hD
      refine lv_aload_n hx hb dX5_isNear_42 rfl (lv_at hl 2 rfl) ?_
      refine lv_iload_n hx hb dX5_isNear_43 rfl (lv_at hl 3 rfl) ?_
      refine lv_iload_n hx hb dX5_isNear_44 rfl (lv_at hl 1 rfl) ?_
      refine bm_xcallV (As := [.int (nI zr), .int (nI (mk.2.1 zk))]) (rest := [.long v_6]) ⟨hx, hb, hml, hown, hts⟩ (y_right  (zr := zr) (zp := mk.2.1 zk) ok_mp_turns (by omega) (ok_mk_nearOne _)) (cwV 2 hts gvX5_103 rfl rfl rfl hvX5_right ⟨Nat.le_of_ble_eq_true rfl, Nat.le_of_ble_eq_true rfl⟩) hK hP hD hS hA 42 5 rfl ww_42 rfl hl.1 rfl (Nat.le_of_ble_eq_true rfl) dX5_isNear_45 ⟨Nat.le_of_ble_eq_true rfl, Nat.le_of_ble_eq_true rfl⟩ (fun ws_7 r_8 h_9 H locs hP hD hS => ?_)
      obtain ⟨rfl, v_10, rfl⟩ := h_9
      have hP : va_P D vwCl (WW ad cJ cI cZ bm pa p0 p1 p2 li wi mt ms ma mp mk mn ou) H := hP
      have hD : va_D A (WW ad cJ cI cZ bm pa p0 p1 p2 li wi mt ms ma mp mk mn ou) := hD
      refine lv_aload_n hx hb dX5_isNear_48 rfl (lv_at hl 2 rfl) ?_
      refine lv_iload_n hx hb dX5_isNear_49 rfl (lv_at hl 3 rfl) ?_
      refine lv_iload hx hb dX5_isNear_50 (lv_at hl 0 rfl) ?_
      refine bm_xcallV (As := [.int (nI zr), .int (nI (mk.2.2.1 zk))]) (rest := [.long v_10, .long v_6]) ⟨hx, hb, hml, hown, hts⟩ (y_left  (zr := zr) (zp := mk.2.2.1 zk)  (by omega) (ok_mk_nearTwo _)) (cwV 2 hts gvX5_92 rfl rfl rfl hvX5_left ⟨Nat.le_of_ble_eq_true rfl, Nat.le_of_ble_eq_true rfl⟩) hK hP hD hS hA 42 5 rfl ww_42 rfl hl.1 rfl (Nat.le_of_ble_eq_true rfl) dX5_isNear_52 ⟨Nat.le_of_ble_eq_true rfl, Nat.le_of_ble_eq_true rfl⟩ (fun ws_11 r_12 h_13 H locs hP hD hS => ?_)
      obtain ⟨rfl, v_14, rfl⟩ := h_13
      have hP : va_P D vwCl (WW ad cJ cI cZ bm pa p0 p1 p2 li wi mt ms ma mp mk mn ou) H := hP
      have hD : va_D A (WW ad cJ cI cZ bm pa p0 p1 p2 li wi mt ms ma mp mk mn ou) := hD
      refine lv_aload_n hx hb dX5_isNear_55 rfl (lv_at hl 2 rfl) ?_
      refine lv_iload_n hx hb dX5_isNear_56 rfl (lv_at hl 3 rfl) ?_
      refine lv_iload hx hb dX5_isNear_57 (lv_at hl 0 rfl) ?_
      refine bm_xcallV (As := [.int (nI zr), .int (nI (mk.2.2.1 zk))]) (rest := [.long v_14, .long v_10, .long v_6]) ⟨hx, hb, hml, hown, hts⟩ (y_right  (zr := zr) (zp := mk.2.2.1 zk) ok_mp_turns (by omega) (ok_mk_nearTwo _)) (cwV 2 hts gvX5_103 rfl rfl rfl hvX5_right ⟨Nat.le_of_ble_eq_true rfl, Nat.le_of_ble_eq_true rfl⟩) hK hP hD hS hA 42 5 rfl ww_42 rfl hl.1 rfl (Nat.le_of_ble_eq_true rfl) dX5_isNear_59 ⟨Nat.le_of_ble_eq_true rfl, Nat.le_of_ble_eq_true rfl⟩ (fun ws_15 r_16 h_17 H locs hP hD hS => ?_)
      obtain ⟨rfl, v_18, rfl⟩ := h_17
      have hP : va_P D vwCl (WW ad cJ cI cZ bm pa p0 p1 p2 li wi mt ms ma mp mk mn ou) H := hP
      have hD : va_D A (WW ad cJ cI cZ bm pa p0 p1 p2 li wi mt ms ma mp mk mn ou) := hD
      refine bm_xcallS (As := [.long v_6, .long v_10, .long v_14, .long v_18]) (rest := []) ⟨hx, hb, hml, hown, hts⟩ (y_gap  (z1 := v_6) (z2 := v_10) (z3 := v_14) (z4 := v_18)  ) (cwS 4 hts gsX5_112 rfl rfl rfl hsX5_gap ⟨Nat.le_of_ble_eq_true rfl, Nat.le_of_ble_eq_true rfl⟩) hK hP hD hS hA rfl hl.1 rfl (Nat.le_of_ble_eq_true rfl) dX5_isNear_62 ⟨Nat.le_of_ble_eq_true rfl, Nat.le_of_ble_eq_true rfl⟩ (fun ws_19 r_20 h_21 H locs hP hD hS => ?_)
      obtain ⟨rfl, v_22, rfl⟩ := h_21
      have hP : va_P D vwCl (WW ad cJ cI cZ bm pa p0 p1 p2 li wi mt ms ma mp mk mn ou) H := hP
      have hD : va_D A (WW ad cJ cI cZ bm pa p0 p1 p2 li wi mt ms ma mp mk mn ou) := hD
      refine lv_aload_n hx hb dX5_isNear_65 rfl (lv_at hl 2 rfl) ?_
      refine lv_iload_n hx hb dX5_isNear_66 rfl (lv_at hl 3 rfl) ?_
      refine lv_iload_n hx hb dX5_isNear_67 rfl (lv_at hl 1 rfl) ?_
      refine bm_xcallV (As := [.int (nI zr), .int (nI (mk.2.1 zk))]) (rest := [.long v_22]) ⟨hx, hb, hml, hown, hts⟩ (y_low  (zr := zr) (zp := mk.2.1 zk)  (by omega) (ok_mk_nearOne _)) (cwV 2 hts gvX5_100 rfl rfl rfl hvX5_low ⟨Nat.le_of_ble_eq_true rfl, Nat.le_of_ble_eq_true rfl⟩) hK hP hD hS hA 42 5 rfl ww_42 rfl hl.1 rfl (Nat.le_of_ble_eq_true rfl) dX5_isNear_68 ⟨Nat.le_of_ble_eq_true rfl, Nat.le_of_ble_eq_true rfl⟩ (fun ws_23 r_24 h_25 H locs hP hD hS => ?_)
      obtain ⟨rfl, v_26, rfl⟩ := h_25
      have hP : va_P D vwCl (WW ad cJ cI cZ bm pa p0 p1 p2 li wi mt ms ma mp mk mn ou) H := hP
      have hD : va_D A (WW ad cJ cI cZ bm pa p0 p1 p2 li wi mt ms ma mp mk mn ou) := hD
      refine lv_aload_n hx hb dX5_isNear_71 rfl (lv_at hl 2 rfl) ?_
      refine lv_iload_n hx hb dX5_isNear_72 rfl (lv_at hl 3 rfl) ?_
      refine lv_iload_n hx hb dX5_isNear_73 rfl (lv_at hl 1 rfl) ?_
      refine bm_xcallV (As := [.int (nI zr), .int (nI (mk.2.1 zk))]) (rest := [.long v_26, .long v_22]) ⟨hx, hb, hml, hown, hts⟩ (y_top  (zr := zr) (zp := mk.2.1 zk) ok_mp_turns (by omega) (ok_mk_nearOne _)) (cwV 2 hts gvX5_106 rfl rfl rfl hvX5_top ⟨Nat.le_of_ble_eq_true rfl, Nat.le_of_ble_eq_true rfl⟩) hK hP hD hS hA 42 5 rfl ww_42 rfl hl.1 rfl (Nat.le_of_ble_eq_true rfl) dX5_isNear_74 ⟨Nat.le_of_ble_eq_true rfl, Nat.le_of_ble_eq_true rfl⟩ (fun ws_27 r_28 h_29 H locs hP hD hS => ?_)
      obtain ⟨rfl, v_30, rfl⟩ := h_29
      have hP : va_P D vwCl (WW ad cJ cI cZ bm pa p0 p1 p2 li wi mt ms ma mp mk mn ou) H := hP
      have hD : va_D A (WW ad cJ cI cZ bm pa p0 p1 p2 li wi mt ms ma mp mk mn ou) := hD
      refine lv_aload_n hx hb dX5_isNear_77 rfl (lv_at hl 2 rfl) ?_
      refine lv_iload_n hx hb dX5_isNear_78 rfl (lv_at hl 3 rfl) ?_
      refine lv_iload hx hb dX5_isNear_79 (lv_at hl 0 rfl) ?_
      refine bm_xcallV (As := [.int (nI zr), .int (nI (mk.2.2.1 zk))]) (rest := [.long v_30, .long v_26, .long v_22]) ⟨hx, hb, hml, hown, hts⟩ (y_low  (zr := zr) (zp := mk.2.2.1 zk)  (by omega) (ok_mk_nearTwo _)) (cwV 2 hts gvX5_100 rfl rfl rfl hvX5_low ⟨Nat.le_of_ble_eq_true rfl, Nat.le_of_ble_eq_true rfl⟩) hK hP hD hS hA 42 5 rfl ww_42 rfl hl.1 rfl (Nat.le_of_ble_eq_true rfl) dX5_isNear_81 ⟨Nat.le_of_ble_eq_true rfl, Nat.le_of_ble_eq_true rfl⟩ (fun ws_31 r_32 h_33 H locs hP hD hS => ?_)
      obtain ⟨rfl, v_34, rfl⟩ := h_33
      have hP : va_P D vwCl (WW ad cJ cI cZ bm pa p0 p1 p2 li wi mt ms ma mp mk mn ou) H := hP
      have hD : va_D A (WW ad cJ cI cZ bm pa p0 p1 p2 li wi mt ms ma mp mk mn ou) := hD
      refine lv_aload_n hx hb dX5_isNear_84 rfl (lv_at hl 2 rfl) ?_
      refine lv_iload_n hx hb dX5_isNear_85 rfl (lv_at hl 3 rfl) ?_
      refine lv_iload hx hb dX5_isNear_86 (lv_at hl 0 rfl) ?_
      refine bm_xcallV (As := [.int (nI zr), .int (nI (mk.2.2.1 zk))]) (rest := [.long v_34, .long v_30, .long v_26, .long v_22]) ⟨hx, hb, hml, hown, hts⟩ (y_top  (zr := zr) (zp := mk.2.2.1 zk) ok_mp_turns (by omega) (ok_mk_nearTwo _)) (cwV 2 hts gvX5_106 rfl rfl rfl hvX5_top ⟨Nat.le_of_ble_eq_true rfl, Nat.le_of_ble_eq_true rfl⟩) hK hP hD hS hA 42 5 rfl ww_42 rfl hl.1 rfl (Nat.le_of_ble_eq_true rfl) dX5_isNear_88 ⟨Nat.le_of_ble_eq_true rfl, Nat.le_of_ble_eq_true rfl⟩ (fun ws_35 r_36 h_37 H locs hP hD hS => ?_)
      obtain ⟨rfl, v_38, rfl⟩ := h_37
      have hP : va_P D vwCl (WW ad cJ cI cZ bm pa p0 p1 p2 li wi mt ms ma mp mk mn ou) H := hP
      have hD : va_D A (WW ad cJ cI cZ bm pa p0 p1 p2 li wi mt ms ma mp mk mn ou) := hD
      refine bm_xcallS (As := [.long v_26, .long v_30, .long v_34, .long v_38]) (rest := [.long v_22]) ⟨hx, hb, hml, hown, hts⟩ (y_gap  (z1 := v_26) (z2 := v_30) (z3 := v_34) (z4 := v_38)  ) (cwS 4 hts gsX5_112 rfl rfl rfl hsX5_gap ⟨Nat.le_of_ble_eq_true rfl, Nat.le_of_ble_eq_true rfl⟩) hK hP hD hS hA rfl hl.1 rfl (Nat.le_of_ble_eq_true rfl) dX5_isNear_91 ⟨Nat.le_of_ble_eq_true rfl, Nat.le_of_ble_eq_true rfl⟩ (fun ws_39 r_40 h_41 H locs hP hD hS => ?_)
      obtain ⟨rfl, v_42, rfl⟩ := h_41
      have hP : va_P D vwCl (WW ad cJ cI cZ bm pa p0 p1 p2 li wi mt ms ma mp mk mn ou) H := hP
      have hD : va_D A (WW ad cJ cI cZ bm pa p0 p1 p2 li wi mt ms ma mp mk mn ou) := hD
      refine lv_ladd hx hb dX5_isNear_94 ?_
      refine lv_topl (fun t_43 _ => ?_)
      refine lv_aload_n hx hb dX5_isNear_95 rfl (lv_at hl 2 rfl) ?_
      refine va_get (D := D) (ci := 5) (v := .ref (ad 56)) (C := RX5) (T := TX5) (N := 28) hx hb hts (inT inX5) hown hK hP 42 ww_42 rfl 19 (by decide) (hts (.fieldLink RX5 51 "BoardMovesModel" "nearMost" "[J") (List.mem_cons_of_mem _ flX5_51)) (fun _ h9 => h9) rfl dX5_isNear_96 ?_
      refine lv_iload_n hx hb dX5_isNear_99 rfl (lv_at hl 4 rfl) ?_
      refine bm_lald (f := mk.2.2.2) hx hb hK hP 56 0 ww_56 rfl (j := zk) (by omega) (by decide) dX5_isNear_100 ?_
      refine lv_topl (fun t_44 _ => ?_)
      refine bm_lc_gt (x := t_43) (y := t_44) (tgt := 109) hx hb dX5_isNear_101 dX5_isNear_102 (by decide) (fun c_45 => ?_) (fun c_45 => ?_)
      · refine lv_iconst (v := bm_b false) hx hb dX5_isNear_109 (by decide) ?_
        exact bm_zretX (v := false) hx hb hr hP hD hK hS ⟨rfl, false, rfl⟩ dX5_isNear_110 hlocks
      · refine lv_iconst (v := bm_b true) hx hb dX5_isNear_105 (by decide) ?_
        refine lv_goto (tgt := 110) hx hb dX5_isNear_106 (by decide) ?_
        exact bm_zretX (v := true) hx hb hr hP hD hK hS ⟨rfl, true, rfl⟩ dX5_isNear_110 hlocks
    · refine lv_iconst (v := bm_b true) hx hb dX5_isNear_34 (by decide) ?_
      exact bm_zretX (v := true) hx hb hr hP hD hK hS ⟨rfl, true, rfl⟩ dX5_isNear_35 hlocks
