set_option maxHeartbeats 8000000 in
set_option maxRecDepth 100000 in
theorem y_isWell {l : Launch} {D : va_G} {ad : Nat → Nat} {cJ cI cZ : ClassId} {bm : gBM} {pa : gPA} {p0 p1 p2 : gPL} {li : gLI} {wi : gWI} {mt : Nat} {ms : gMS} {ma : gMA} {mp : gMP} {mk : gMK} {mn : gMN} {ou : Nat → Int64} {zr : Nat} (ok_mp_turns : ∀ i, mp.2.2 i < 40) (ok_ms_parts : ms.2.2.1 ≤ 40) (ok_ms_outs : ms.2.2.2.1 ≤ 10) (ok_ma_sides : ∀ i, ma.2.2.1 i < 40) (ok_ms_nears : ms.2.2.2.2.1 ≤ 20) (ok_mk_nearOne : ∀ i, mk.2.1 i < 40) (ok_mk_nearTwo : ∀ i, mk.2.2.1 i < 40) (hp0 : zr < 3)  : bm_Wx l yX5_isWell wsX5_isWell ({ frames := 3, cells := 0, slots := 0, locals := 70 }) D vwCl [(cJ, .long), (cI, .int), (cZ, .boolean)] (WW ad cJ cI cZ bm pa p0 p1 p2 li wi mt ms ma mp mk mn ou) [.ref (ad 42), .int (nI zr)] (fun ws9 r9 => ws9 = (WW ad cJ cI cZ bm pa p0 p1 p2 li wi mt ms ma mp mk mn ou) ∧ ∃ b9 : Bool, r9 = some (.int (bm_b b9))) := by
  intro sz
  refine Met.ofW (cc := cX5_isWell) (maxL := 4) (ret := (some .boolean)) (by decide) rfl ?_
  intro p e s m args below meth c s₁ B hml hv
  obtain ⟨ha, hsz, hP, hK, hD0⟩ := hv
  have hx := B.exec
  have hb := B.bytes
  have hr := B.returns
  have hts := atoms_spec (ws := wsX5_isWell) B.pre
  have hown : s.vm.findClass RX5 = some m.cls := findClass_of_methodNamed B.named
  have hlocks := B.notSynchronized
  subst hsz
  have hD := hD0.self (sz := s.heap.size)
  generalize hAe : va_A (WW ad cJ cI cZ bm pa p0 p1 p2 li wi mt ms ma mp mk mn ou) s.heap.size = A at hD ⊢
  have hA : ∀ q : Nat, s.heap.size ≤ q → A q := fun q h => by rw [← hAe]; exact Or.inr h
  have hS : va_S A s.heap s.heap [] := va_S.rf
  have hl := lv_entry ([.ref (ad 42), .int (nI zr)]) (n := 4) (Nat.le_of_ble_eq_true rfl)
  refine W.eq (g2 := entryFrame m ([.ref (ad 42), .int (nI zr)] : List Value).toArray 4) (by rw [ha]) ?_
  rw [lg_entry_eq]
  generalize (lg_sl ([.ref (ad 42), .int (nI zr)]) ++ List.replicate (4 - (lg_sl ([.ref (ad 42), .int (nI zr)])).length) Slot.unset).toArray = ls at hl ⊢
  have hl : lv_has ls 4 [(0, .ref (ad 42)), (1, .int (nI zr))] := hl
  refine lv_iconst (v := nI 0) hx hb dX5_isWell_0 (by decide) ?_
  refine lv_istore_n (lv' := [(2, .int (nI 0)), (0, .ref (ad 42)), (1, .int (nI zr))]) hx hb dX5_isWell_1 rfl hl (by decide) rfl (fun ls hl => ?_)
  have lp_1 : ∀ (k_3 : Nat) (i_2 : Nat) , i_2 ≤ ms.2.2.1 → ms.2.2.1 < i_2 + k_3 → ∀ (H : Heap) (locs : List Loc), va_P D vwCl (WW ad cJ cI cZ bm pa p0 p1 p2 li wi mt ms ma mp mk mn ou) H → va_D A (WW ad cJ cI cZ bm pa p0 p1 p2 li wi mt ms ma mp mk mn ou) → va_S A s.heap H locs → ∀ (ls : Array Slot), lv_has ls 4 [(2, .int (nI i_2)), (0, .ref (ad 42)), (1, .int (nI zr))] → W p l e (headSpec wsX5_isWell ({ frames := 3, cells := 0, slots := 0, locals := 70 })).room s m args below meth c H locs 0 0 (MQ below (bm_Wxq D vwCl [(cJ, .long), (cI, .int), (cZ, .boolean)] (fun ws9 r9 => ws9 = (WW ad cJ cI cZ bm pa p0 p1 p2 li wi mt ms ma mp mk mn ou) ∧ ∃ b9 : Bool, r9 = some (.int (bm_b b9))) A) args s 0 0 A) (F0 m 2 ls []) := by
    intro k_3
    induction k_3 with
    | zero => intro i_2 hi_5 hk_6; exfalso; omega
    | succ k_3 ih_4 =>
      intro i_2 hi_5 hk_6  H locs hP hD hS ls hl
      refine lv_iload_n hx hb dX5_isWell_2 rfl (lv_at hl 0 rfl) ?_
      refine lv_aload_n hx hb dX5_isWell_3 rfl (lv_at hl 1 rfl) ?_
      refine va_get (D := D) (ci := 5) (v := .int (nI ms.2.2.1)) (C := RX5) (T := TX5) (N := 28) hx hb hts (inT inX5) hown hK hP 42 ww_42 rfl 3 (by decide) (hts (.fieldLink RX5 85 "BoardMovesModel" "parts" "I") (List.mem_cons_of_mem _ flX5_85)) (fun _ h9 => h9) rfl dX5_isWell_4 ?_
      refine bm_ni_ge (x := i_2) (y := ms.2.2.1) (tgt := 97) hx hb (by omega) (by omega) dX5_isWell_7 (by decide) (fun c_7 => ?_) (fun c_7 => ?_)
      · refine lv_iconst (v := bm_b true) hx hb dX5_isWell_97 (by decide) ?_
        refine lv_istore_n (lv' := [(2, .int (bm_b true)), (0, .ref (ad 42)), (1, .int (nI zr))]) hx hb dX5_isWell_98 rfl hl (by decide) rfl (fun ls hl => ?_)
        refine lv_iconst (v := nI 0) hx hb dX5_isWell_99 (by decide) ?_
        refine lv_istore_n (lv' := [(3, .int (nI 0)), (2, .int (bm_b true)), (0, .ref (ad 42)), (1, .int (nI zr))]) hx hb dX5_isWell_100 rfl hl (by decide) rfl (fun ls hl => ?_)
        have lp_8 : ∀ (k_10 : Nat) (i_9 : Nat) (v_12 : Bool), i_9 ≤ ms.2.2.2.2.1 → ms.2.2.2.2.1 < i_9 + k_10 → ∀ (H : Heap) (locs : List Loc), va_P D vwCl (WW ad cJ cI cZ bm pa p0 p1 p2 li wi mt ms ma mp mk mn ou) H → va_D A (WW ad cJ cI cZ bm pa p0 p1 p2 li wi mt ms ma mp mk mn ou) → va_S A s.heap H locs → ∀ (ls : Array Slot), lv_has ls 4 [(3, .int (nI i_9)), (2, .int (bm_b v_12)), (0, .ref (ad 42)), (1, .int (nI zr))] → W p l e (headSpec wsX5_isWell ({ frames := 3, cells := 0, slots := 0, locals := 70 })).room s m args below meth c H locs 0 0 (MQ below (bm_Wxq D vwCl [(cJ, .long), (cI, .int), (cZ, .boolean)] (fun ws9 r9 => ws9 = (WW ad cJ cI cZ bm pa p0 p1 p2 li wi mt ms ma mp mk mn ou) ∧ ∃ b9 : Bool, r9 = some (.int (bm_b b9))) A) args s 0 0 A) (F0 m 101 ls []) := by
          intro k_10
          induction k_10 with
          | zero => intro i_9 v_12 hi_13 hk_14; exfalso; omega
          | succ k_10 ih_11 =>
            intro i_9 v_12 hi_13 hk_14  H locs hP hD hS ls hl
            refine lv_iload_n hx hb dX5_isWell_101 rfl (lv_at hl 0 rfl) ?_
            refine lv_aload_n hx hb dX5_isWell_102 rfl (lv_at hl 2 rfl) ?_
            refine va_get (D := D) (ci := 5) (v := .int (nI ms.2.2.2.2.1)) (C := RX5) (T := TX5) (N := 28) hx hb hts (inT inX5) hown hK hP 42 ww_42 rfl 16 (by decide) (hts (.fieldLink RX5 126 "BoardMovesModel" "nears" "I") (List.mem_cons_of_mem _ flX5_126)) (fun _ h9 => h9) rfl dX5_isWell_103 ?_
            refine bm_ni_ge (x := i_9) (y := ms.2.2.2.2.1) (tgt := 134) hx hb (by omega) (by omega) dX5_isWell_106 (by decide) (fun c_15 => ?_) (fun c_15 => ?_)
            · refine lv_iload_n hx hb dX5_isWell_134 rfl (lv_at hl 1 rfl) ?_
              exact bm_zretX (v := v_12) hx hb hr hP hD hK hS ⟨rfl, v_12, rfl⟩ dX5_isWell_135 hlocks
            · refine lv_iload_n hx hb dX5_isWell_109 rfl (lv_at hl 1 rfl) ?_
              refine bm_zb_eq (x := v_12) (tgt := 126) hx hb dX5_isWell_110 (by decide) (fun c_16 => ?_) (fun c_16 => ?_)
              · refine lv_iconst (v := bm_b false) hx hb dX5_isWell_126 (by decide) ?_
                refine lv_istore_n (lv' := [(2, .int (bm_b false)), (3, .int (nI i_9)), (0, .ref (ad 42)), (1, .int (nI zr))]) hx hb dX5_isWell_127 rfl hl (by decide) rfl (fun ls hl => ?_)
                refine lv_iinc (v := (nI (i_9 + 1))) (lv' := [(3, .int (nI (i_9 + 1))), (2, .int (bm_b false)), (0, .ref (ad 42)), (1, .int (nI zr))]) hx hb dX5_isWell_128 hl (k := 1) rfl (nI_1 i_9) (by decide) rfl (fun ls hl => ?_)
                refine lv_goto (tgt := 101) hx hb dX5_isWell_131 (by decide) ?_
                exact ih_11 (i_9 + 1) false (by omega) (by omega)  _ _ hP hD hS _ (lv_sub hl [0, 1, 2, 3] rfl)
              · refine lv_aload_n hx hb dX5_isWell_113 rfl (lv_at hl 2 rfl) ?_
                refine lv_iload_n hx hb dX5_isWell_114 rfl (lv_at hl 3 rfl) ?_
                refine lv_iload_n hx hb dX5_isWell_115 rfl (lv_at hl 0 rfl) ?_
                refine bm_xcallV (As := [.int (nI zr), .int (nI i_9)]) (rest := []) ⟨hx, hb, hml, hown, hts⟩ (y_isNear  (zr := zr) (zk := i_9) ok_mp_turns ok_mk_nearOne ok_mk_nearTwo (by omega) (by omega)) (cwV 2 hts gvX5_129 rfl rfl rfl hvX5_isNear ⟨Nat.le_of_ble_eq_true rfl, Nat.le_of_ble_eq_true rfl⟩) hK hP hD hS hA 42 5 rfl ww_42 rfl hl.1 rfl (Nat.le_of_ble_eq_true rfl) dX5_isWell_116 ⟨Nat.le_of_ble_eq_true rfl, Nat.le_of_ble_eq_true rfl⟩ (fun ws_17 r_18 h_19 H locs hP hD hS => ?_)
                obtain ⟨rfl, v_20, rfl⟩ := h_19
                have hP : va_P D vwCl (WW ad cJ cI cZ bm pa p0 p1 p2 li wi mt ms ma mp mk mn ou) H := hP
                have hD : va_D A (WW ad cJ cI cZ bm pa p0 p1 p2 li wi mt ms ma mp mk mn ou) := hD
                refine bm_zb_eq (x := v_20) (tgt := 126) hx hb dX5_isWell_119 (by decide) (fun c_21 => ?_) (fun c_21 => ?_)
                · refine lv_iconst (v := bm_b false) hx hb dX5_isWell_126 (by decide) ?_
                  refine lv_istore_n (lv' := [(2, .int (bm_b false)), (3, .int (nI i_9)), (0, .ref (ad 42)), (1, .int (nI zr))]) hx hb dX5_isWell_127 rfl hl (by decide) rfl (fun ls hl => ?_)
                  refine lv_iinc (v := (nI (i_9 + 1))) (lv' := [(3, .int (nI (i_9 + 1))), (2, .int (bm_b false)), (0, .ref (ad 42)), (1, .int (nI zr))]) hx hb dX5_isWell_128 hl (k := 1) rfl (nI_1 i_9) (by decide) rfl (fun ls hl => ?_)
                  refine lv_goto (tgt := 101) hx hb dX5_isWell_131 (by decide) ?_
                  exact ih_11 (i_9 + 1) false (by omega) (by omega)  _ _ hP hD hS _ (lv_sub hl [0, 1, 2, 3] rfl)
                · refine lv_iconst (v := bm_b true) hx hb dX5_isWell_122 (by decide) ?_
                  refine lv_goto (tgt := 127) hx hb dX5_isWell_123 (by decide) ?_
                  refine lv_istore_n (lv' := [(2, .int (bm_b true)), (3, .int (nI i_9)), (0, .ref (ad 42)), (1, .int (nI zr))]) hx hb dX5_isWell_127 rfl hl (by decide) rfl (fun ls hl => ?_)
                  refine lv_iinc (v := (nI (i_9 + 1))) (lv' := [(3, .int (nI (i_9 + 1))), (2, .int (bm_b true)), (0, .ref (ad 42)), (1, .int (nI zr))]) hx hb dX5_isWell_128 hl (k := 1) rfl (nI_1 i_9) (by decide) rfl (fun ls hl => ?_)
                  refine lv_goto (tgt := 101) hx hb dX5_isWell_131 (by decide) ?_
                  exact ih_11 (i_9 + 1) true (by omega) (by omega)  _ _ hP hD hS _ (lv_sub hl [0, 1, 2, 3] rfl)
        exact lp_8 (ms.2.2.2.2.1 + 1) 0 true (by omega) (by omega)  _ _ hP hD hS _ (lv_sub hl [0, 1, 2, 3] rfl)
      · refine lv_aload_n hx hb dX5_isWell_10 rfl (lv_at hl 1 rfl) ?_
        refine va_get (D := D) (ci := 5) (v := .ref (ad 49)) (C := RX5) (T := TX5) (N := 28) hx hb hts (inT inX5) hown hK hP 42 ww_42 rfl 10 (by decide) (hts (.fieldLink RX5 30 "BoardMovesModel" "placed" "[Z") (List.mem_cons_of_mem _ flX5_30)) (fun _ h9 => h9) rfl dX5_isWell_11 ?_
        refine lv_iload_n hx hb dX5_isWell_14 rfl (lv_at hl 0 rfl) ?_
        refine bm_zald (f := ma.2.2.2.2.2.2) hx hb hK hP 49 2 ww_49 rfl (j := i_2) (by omega) (by decide) dX5_isWell_15 ?_
        refine bm_zb_ne (x := (ma.2.2.2.2.2.2 i_2)) (tgt := 22) hx hb dX5_isWell_16 (by decide) (fun c_22 => ?_) (fun c_22 => ?_)
        · refine lv_aload_n hx hb dX5_isWell_22 rfl (lv_at hl 1 rfl) ?_
          refine lv_iload_n hx hb dX5_isWell_23 rfl (lv_at hl 2 rfl) ?_
          refine lv_iload_n hx hb dX5_isWell_24 rfl (lv_at hl 0 rfl) ?_
          refine bm_xcallV (As := [.int (nI zr), .int (nI i_2)]) (rest := []) ⟨hx, hb, hml, hown, hts⟩ (y_onBoard  (zr := zr) (zp := i_2) ok_mp_turns (by omega) (by omega)) (cwV 2 hts gvX5_116 rfl rfl rfl hvX5_isOnBoard ⟨Nat.le_of_ble_eq_true rfl, Nat.le_of_ble_eq_true rfl⟩) hK hP hD hS hA 42 5 rfl ww_42 rfl hl.1 rfl (Nat.le_of_ble_eq_true rfl) dX5_isWell_25 ⟨Nat.le_of_ble_eq_true rfl, Nat.le_of_ble_eq_true rfl⟩ (fun ws_23 r_24 h_25 H locs hP hD hS => ?_)
          obtain ⟨rfl, v_26, rfl⟩ := h_25
          have hP : va_P D vwCl (WW ad cJ cI cZ bm pa p0 p1 p2 li wi mt ms ma mp mk mn ou) H := hP
          have hD : va_D A (WW ad cJ cI cZ bm pa p0 p1 p2 li wi mt ms ma mp mk mn ou) := hD
          refine bm_zb_eq (x := v_26) (tgt := 40) hx hb dX5_isWell_28 (by decide) (fun c_27 => ?_) (fun c_27 => ?_)
          · refine lv_iconst (v := bm_b false) hx hb dX5_isWell_40 (by decide) ?_
            exact bm_zretX (v := false) hx hb hr hP hD hK hS ⟨rfl, false, rfl⟩ dX5_isWell_41 hlocks
          · refine lv_aload_n hx hb dX5_isWell_31 rfl (lv_at hl 1 rfl) ?_
            refine lv_iload_n hx hb dX5_isWell_32 rfl (lv_at hl 2 rfl) ?_
            refine lv_iload_n hx hb dX5_isWell_33 rfl (lv_at hl 0 rfl) ?_
            refine bm_xcallV (As := [.int (nI zr), .int (nI i_2)]) (rest := []) ⟨hx, hb, hml, hown, hts⟩ (y_keptOut  (zr := zr) (zp := i_2) ok_mp_turns ok_ms_outs (by omega) (by omega)) (cwV 2 hts gvX5_119 rfl rfl rfl hvX5_isKeptOut ⟨Nat.le_of_ble_eq_true rfl, Nat.le_of_ble_eq_true rfl⟩) hK hP hD hS hA 42 5 rfl ww_42 rfl hl.1 rfl (Nat.le_of_ble_eq_true rfl) dX5_isWell_34 ⟨Nat.le_of_ble_eq_true rfl, Nat.le_of_ble_eq_true rfl⟩ (fun ws_28 r_29 h_30 H locs hP hD hS => ?_)
            obtain ⟨rfl, v_31, rfl⟩ := h_30
            have hP : va_P D vwCl (WW ad cJ cI cZ bm pa p0 p1 p2 li wi mt ms ma mp mk mn ou) H := hP
            have hD : va_D A (WW ad cJ cI cZ bm pa p0 p1 p2 li wi mt ms ma mp mk mn ou) := hD
            refine bm_zb_eq (x := v_31) (tgt := 42) hx hb dX5_isWell_37 (by decide) (fun c_32 => ?_) (fun c_32 => ?_)
            · refine lv_iconst (v := nI 0) hx hb dX5_isWell_42 (by decide) ?_
              refine lv_istore_n (lv' := [(3, .int (nI 0)), (2, .int (nI i_2)), (0, .ref (ad 42)), (1, .int (nI zr))]) hx hb dX5_isWell_43 rfl hl (by decide) rfl (fun ls hl => ?_)
              have lp_33 : ∀ (k_35 : Nat) (i_34 : Nat) , i_34 ≤ i_2 → i_2 < i_34 + k_35 → ∀ (H : Heap) (locs : List Loc), va_P D vwCl (WW ad cJ cI cZ bm pa p0 p1 p2 li wi mt ms ma mp mk mn ou) H → va_D A (WW ad cJ cI cZ bm pa p0 p1 p2 li wi mt ms ma mp mk mn ou) → va_S A s.heap H locs → ∀ (ls : Array Slot), lv_has ls 4 [(3, .int (nI i_34)), (2, .int (nI i_2)), (0, .ref (ad 42)), (1, .int (nI zr))] → W p l e (headSpec wsX5_isWell ({ frames := 3, cells := 0, slots := 0, locals := 70 })).room s m args below meth c H locs 0 0 (MQ below (bm_Wxq D vwCl [(cJ, .long), (cI, .int), (cZ, .boolean)] (fun ws9 r9 => ws9 = (WW ad cJ cI cZ bm pa p0 p1 p2 li wi mt ms ma mp mk mn ou) ∧ ∃ b9 : Bool, r9 = some (.int (bm_b b9))) A) args s 0 0 A) (F0 m 44 ls []) := by
                intro k_35
                induction k_35 with
                | zero => intro i_34 hi_37 hk_38; exfalso; omega
                | succ k_35 ih_36 =>
                  intro i_34 hi_37 hk_38  H locs hP hD hS ls hl
                  refine lv_iload_n hx hb dX5_isWell_44 rfl (lv_at hl 0 rfl) ?_
                  refine lv_iload_n hx hb dX5_isWell_45 rfl (lv_at hl 1 rfl) ?_
                  refine bm_ni_ge (x := i_34) (y := i_2) (tgt := 91) hx hb (by omega) (by omega) dX5_isWell_46 (by decide) (fun c_39 => ?_) (fun c_39 => ?_)
                  · refine lv_iinc (v := (nI (i_2 + 1))) (lv' := [(2, .int (nI (i_2 + 1))), (3, .int (nI i_34)), (0, .ref (ad 42)), (1, .int (nI zr))]) hx hb dX5_isWell_91 hl (k := 1) rfl (nI_1 i_2) (by decide) rfl (fun ls hl => ?_)
                    refine lv_goto (tgt := 2) hx hb dX5_isWell_94 (by decide) ?_
                    exact ih_4 (i_2 + 1) (by omega) (by omega)  _ _ hP hD hS _ (lv_sub hl [0, 2, 3] rfl)
                  · refine lv_aload_n hx hb dX5_isWell_49 rfl (lv_at hl 2 rfl) ?_
                    refine va_get (D := D) (ci := 5) (v := .ref (ad 49)) (C := RX5) (T := TX5) (N := 28) hx hb hts (inT inX5) hown hK hP 42 ww_42 rfl 10 (by decide) (hts (.fieldLink RX5 30 "BoardMovesModel" "placed" "[Z") (List.mem_cons_of_mem _ flX5_30)) (fun _ h9 => h9) rfl dX5_isWell_50 ?_
                    refine lv_iload_n hx hb dX5_isWell_53 rfl (lv_at hl 0 rfl) ?_
                    refine bm_zald (f := ma.2.2.2.2.2.2) hx hb hK hP 49 2 ww_49 rfl (j := i_34) (by omega) (by decide) dX5_isWell_54 ?_
                    refine bm_zb_eq (x := (ma.2.2.2.2.2.2 i_34)) (tgt := 85) hx hb dX5_isWell_55 (by decide) (fun c_40 => ?_) (fun c_40 => ?_)
                    · refine lv_iinc (v := (nI (i_34 + 1))) (lv' := [(3, .int (nI (i_34 + 1))), (2, .int (nI i_2)), (0, .ref (ad 42)), (1, .int (nI zr))]) hx hb dX5_isWell_85 hl (k := 0) rfl (nI_1 i_34) (by decide) rfl (fun ls hl => ?_)
                      refine lv_goto (tgt := 44) hx hb dX5_isWell_88 (by decide) ?_
                      exact ih_36 (i_34 + 1) (by omega) (by omega)  _ _ hP hD hS _ (lv_sub hl [0, 1, 2, 3] rfl)
                    · refine lv_aload_n hx hb dX5_isWell_58 rfl (lv_at hl 2 rfl) ?_
                      refine va_get (D := D) (ci := 5) (v := .ref (ad 45)) (C := RX5) (T := TX5) (N := 28) hx hb hts (inT inX5) hown hK hP 42 ww_42 rfl 6 (by decide) (hts (.fieldLink RX5 16 "BoardMovesModel" "sides" "[I") (List.mem_cons_of_mem _ flX5_16)) (fun _ h9 => h9) rfl dX5_isWell_59 ?_
                      refine lv_iload_n hx hb dX5_isWell_62 rfl (lv_at hl 1 rfl) ?_
                      refine bm_nald (f := ma.2.2.1) hx hb hK hP 45 1 ww_45 rfl (j := i_2) (by omega) (by decide) dX5_isWell_63 ?_
                      refine lv_aload_n hx hb dX5_isWell_64 rfl (lv_at hl 2 rfl) ?_
                      refine va_get (D := D) (ci := 5) (v := .ref (ad 45)) (C := RX5) (T := TX5) (N := 28) hx hb hts (inT inX5) hown hK hP 42 ww_42 rfl 6 (by decide) (hts (.fieldLink RX5 16 "BoardMovesModel" "sides" "[I") (List.mem_cons_of_mem _ flX5_16)) (fun _ h9 => h9) rfl dX5_isWell_65 ?_
                      refine lv_iload_n hx hb dX5_isWell_68 rfl (lv_at hl 0 rfl) ?_
                      refine bm_nald (f := ma.2.2.1) hx hb hK hP 45 1 ww_45 rfl (j := i_34) (by omega) (by decide) dX5_isWell_69 ?_
                      refine bm_ni_ne (x := (ma.2.2.1 i_2)) (y := (ma.2.2.1 i_34)) (tgt := 85) hx hb (bm40 (ok_ma_sides _)) (bm40 (ok_ma_sides _)) dX5_isWell_70 (by decide) (fun c_41 => ?_) (fun c_41 => ?_)
                      · refine lv_iinc (v := (nI (i_34 + 1))) (lv' := [(3, .int (nI (i_34 + 1))), (2, .int (nI i_2)), (0, .ref (ad 42)), (1, .int (nI zr))]) hx hb dX5_isWell_85 hl (k := 0) rfl (nI_1 i_34) (by decide) rfl (fun ls hl => ?_)
                        refine lv_goto (tgt := 44) hx hb dX5_isWell_88 (by decide) ?_
                        exact ih_36 (i_34 + 1) (by omega) (by omega)  _ _ hP hD hS _ (lv_sub hl [0, 1, 2, 3] rfl)
                      · refine lv_aload_n hx hb dX5_isWell_73 rfl (lv_at hl 2 rfl) ?_
                        refine lv_iload_n hx hb dX5_isWell_74 rfl (lv_at hl 3 rfl) ?_
                        refine lv_iload_n hx hb dX5_isWell_75 rfl (lv_at hl 1 rfl) ?_
                        refine lv_iload_n hx hb dX5_isWell_76 rfl (lv_at hl 0 rfl) ?_
                        refine bm_xcallV (As := [.int (nI zr), .int (nI i_2), .int (nI i_34)]) (rest := []) ⟨hx, hb, hml, hown, hts⟩ (y_overlap  (zr := zr) (zp := i_2) (zq := i_34) ok_mp_turns (by omega) (by omega) (by omega)) (cwV 3 hts gvX5_122 rfl rfl rfl hvX5_overlap ⟨Nat.le_of_ble_eq_true rfl, Nat.le_of_ble_eq_true rfl⟩) hK hP hD hS hA 42 5 rfl ww_42 rfl hl.1 rfl (Nat.le_of_ble_eq_true rfl) dX5_isWell_77 ⟨Nat.le_of_ble_eq_true rfl, Nat.le_of_ble_eq_true rfl⟩ (fun ws_42 r_43 h_44 H locs hP hD hS => ?_)
                        obtain ⟨rfl, v_45, rfl⟩ := h_44
                        have hP : va_P D vwCl (WW ad cJ cI cZ bm pa p0 p1 p2 li wi mt ms ma mp mk mn ou) H := hP
                        have hD : va_D A (WW ad cJ cI cZ bm pa p0 p1 p2 li wi mt ms ma mp mk mn ou) := hD
                        refine bm_zb_eq (x := v_45) (tgt := 85) hx hb dX5_isWell_80 (by decide) (fun c_46 => ?_) (fun c_46 => ?_)
                        · refine lv_iinc (v := (nI (i_34 + 1))) (lv' := [(3, .int (nI (i_34 + 1))), (2, .int (nI i_2)), (0, .ref (ad 42)), (1, .int (nI zr))]) hx hb dX5_isWell_85 hl (k := 0) rfl (nI_1 i_34) (by decide) rfl (fun ls hl => ?_)
                          refine lv_goto (tgt := 44) hx hb dX5_isWell_88 (by decide) ?_
                          exact ih_36 (i_34 + 1) (by omega) (by omega)  _ _ hP hD hS _ (lv_sub hl [0, 1, 2, 3] rfl)
                        · refine lv_iconst (v := bm_b false) hx hb dX5_isWell_83 (by decide) ?_
                          exact bm_zretX (v := false) hx hb hr hP hD hK hS ⟨rfl, false, rfl⟩ dX5_isWell_84 hlocks
              exact lp_33 (i_2 + 1) 0 (by omega) (by omega)  _ _ hP hD hS _ (lv_sub hl [0, 1, 2, 3] rfl)
            · refine lv_iconst (v := bm_b false) hx hb dX5_isWell_40 (by decide) ?_
              exact bm_zretX (v := false) hx hb hr hP hD hK hS ⟨rfl, false, rfl⟩ dX5_isWell_41 hlocks
        · refine lv_goto (tgt := 91) hx hb dX5_isWell_19 (by decide) ?_
          refine lv_iinc (v := (nI (i_2 + 1))) (lv' := [(2, .int (nI (i_2 + 1))), (0, .ref (ad 42)), (1, .int (nI zr))]) hx hb dX5_isWell_91 hl (k := 0) rfl (nI_1 i_2) (by decide) rfl (fun ls hl => ?_)
          refine lv_goto (tgt := 2) hx hb dX5_isWell_94 (by decide) ?_
          exact ih_4 (i_2 + 1) (by omega) (by omega)  _ _ hP hD hS _ (lv_sub hl [0, 1, 2] rfl)
  exact lp_1 (ms.2.2.1 + 1) 0 (by omega) (by omega)  _ _ hP hD hS _ (lv_sub hl [0, 1, 2] rfl)
