set_option maxHeartbeats 8000000 in
set_option maxRecDepth 100000 in
theorem y_shove {l : Launch} {D : va_G} {ad : Nat → Nat} {cJ cI cZ : ClassId} {bm : gBM} {pa : gPA} {p0 p1 p2 : gPL} {li : gLI} {wi : gWI} {mt : Nat} {ms : gMS} {ma : gMA} {mp : gMP} {mk : gMK} {mn : gMN} {ou : Nat → Int64} {zp : Nat} {zw : Nat} (ok_ms_parts : ms.2.2.1 ≤ 40) (ok_ma_groups : ∀ i, ma.2.2.2.2.2.1 i < 40) (ok_mp_turns : ∀ i, mp.2.2 i < 40) (ok_ma_sides : ∀ i, ma.2.2.1 i < 40) (hp0 : zp < 40) (hp1 : zw < 4)  : bm_Wx l yX5_shove wsX5_shove ({ frames := 4, cells := 0, slots := 0, locals := 90 }) D vwCl [(cJ, .long), (cI, .int), (cZ, .boolean)] (WW ad cJ cI cZ bm pa p0 p1 p2 li wi mt ms ma mp mk mn ou) [.ref (ad 42), .int (nI zp), .int (nI zw)] (fun ws9 r9 => ∃ (e0 : Nat → Int64) (e1 : Nat → Int64) (e2 : Nat → Bool) , ws9 = (WW ad cJ cI cZ bm pa p0 p1 p2 li wi mt ms ma (e0, e1, mp.2.2) mk (mn.1, mn.2.1, mn.2.2.1, mn.2.2.2.1, e2) ou) ∧ ∃ b9 : Bool, r9 = some (.int (bm_b b9))) := by
  intro sz
  refine Met.ofW (cc := cX5_shove) (maxL := 8) (ret := (some .boolean)) (by decide) rfl ?_
  intro p e s m args below meth c s₁ B hml hv
  obtain ⟨ha, hsz, hP, hK, hD0⟩ := hv
  have hx := B.exec
  have hb := B.bytes
  have hr := B.returns
  have hts := atoms_spec (ws := wsX5_shove) B.pre
  have hown : s.vm.findClass RX5 = some m.cls := findClass_of_methodNamed B.named
  have hlocks := B.notSynchronized
  subst hsz
  have hD := hD0.self (sz := s.heap.size)
  generalize hAe : va_A (WW ad cJ cI cZ bm pa p0 p1 p2 li wi mt ms ma mp mk mn ou) s.heap.size = A at hD ⊢
  have hA : ∀ q : Nat, s.heap.size ≤ q → A q := fun q h => by rw [← hAe]; exact Or.inr h
  have hS : va_S A s.heap s.heap [] := va_S.rf
  have hl := lv_entry ([.ref (ad 42), .int (nI zp), .int (nI zw)]) (n := 8) (Nat.le_of_ble_eq_true rfl)
  refine W.eq (g2 := entryFrame m ([.ref (ad 42), .int (nI zp), .int (nI zw)] : List Value).toArray 8) (by rw [ha]) ?_
  rw [lg_entry_eq]
  generalize (lg_sl ([.ref (ad 42), .int (nI zp), .int (nI zw)]) ++ List.replicate (8 - (lg_sl ([.ref (ad 42), .int (nI zp), .int (nI zw)])).length) Slot.unset).toArray = ls at hl ⊢
  have hl : lv_has ls 8 [(0, .ref (ad 42)), (1, .int (nI zp)), (2, .int (nI zw))] := hl
  refine lv_aload_n hx hb dX5_shove_0 rfl (lv_at hl 0 rfl) ?_
  refine bm_xcallV (As := []) (rest := []) ⟨hx, hb, hml, hown, hts⟩ (y_first   ok_ms_parts ok_mp_turns ok_ma_sides ) (cwV 0 hts gvX5_177 rfl rfl rfl hvX5_firstOverlap ⟨Nat.le_of_ble_eq_true rfl, Nat.le_of_ble_eq_true rfl⟩) hK hP hD hS hA 42 5 rfl ww_42 rfl hl.1 rfl (Nat.le_of_ble_eq_true rfl) dX5_shove_1 ⟨Nat.le_of_ble_eq_true rfl, Nat.le_of_ble_eq_true rfl⟩ (fun ws_1 r_2 h_3 H locs hP hD hS => ?_)
  obtain ⟨rfl, ho_6⟩ := h_3
  have hP : va_P D vwCl (WW ad cJ cI cZ bm pa p0 p1 p2 li wi mt ms ma mp mk mn ou) H := hP
  have hD : va_D A (WW ad cJ cI cZ bm pa p0 p1 p2 li wi mt ms ma mp mk mn ou) := hD
  rcases ho_6 with rfl | ⟨k_4, hk_5, rfl⟩
  · refine lv_istore_n (lv' := [(3, .int (-1)), (0, .ref (ad 42)), (1, .int (nI zp)), (2, .int (nI zw))]) hx hb dX5_shove_4 rfl hl (by decide) rfl (fun ls hl => ?_)
    refine lv_iconst (v := nI 0) hx hb dX5_shove_5 (by decide) ?_
    refine lv_istore (lv' := [(4, .int (nI 0)), (3, .int (-1)), (0, .ref (ad 42)), (1, .int (nI zp)), (2, .int (nI zw))]) hx hb dX5_shove_6 hl (by decide) rfl (fun ls hl => ?_)
    refine lv_iload_n hx hb dX5_shove_8 rfl (lv_at hl 1 rfl) ?_
    refine lv_iconst (v := -1) hx hb dX5_shove_9 (by decide) ?_
    refine lv_icmp_eq (x := (-1)) (y := -1) (tgt := 146) hx hb dX5_shove_10 (by decide) (fun c_7 => ?_) (fun c_7 => ?_)
    · refine lv_iconst (v := bm_b true) hx hb dX5_shove_146 (by decide) ?_
      exact bm_zretX (v := true) hx hb hr hP hD hK hS ⟨mp.1, mp.2.1, mn.2.2.2.2, rfl, true, rfl⟩ dX5_shove_147 hlocks
    · exact absurd rfl c_7
  · refine lv_istore_n (lv' := [(3, .int (nI k_4)), (0, .ref (ad 42)), (1, .int (nI zp)), (2, .int (nI zw))]) hx hb dX5_shove_4 rfl hl (by decide) rfl (fun ls hl => ?_)
    refine lv_iconst (v := nI 0) hx hb dX5_shove_5 (by decide) ?_
    refine lv_istore (lv' := [(4, .int (nI 0)), (3, .int (nI k_4)), (0, .ref (ad 42)), (1, .int (nI zp)), (2, .int (nI zw))]) hx hb dX5_shove_6 hl (by decide) rfl (fun ls hl => ?_)
    have lp_8 : ∀ (k_10 : Nat) (i_9 f_12 : Nat) (g_13 : Nat → Int64) (g_14 : Nat → Int64) (g_15 : Nat → Bool), i_9 ≤ 200 → 200 < i_9 + k_10 → f_12 < 1600 → ∀ (H : Heap) (locs : List Loc), va_P D vwCl (WW ad cJ cI cZ bm pa p0 p1 p2 li wi mt ms ma (g_13, g_14, mp.2.2) mk (mn.1, mn.2.1, mn.2.2.1, mn.2.2.2.1, g_15) ou) H → va_D A (WW ad cJ cI cZ bm pa p0 p1 p2 li wi mt ms ma (g_13, g_14, mp.2.2) mk (mn.1, mn.2.1, mn.2.2.1, mn.2.2.2.1, g_15) ou) → va_S A s.heap H locs → ∀ (ls : Array Slot), lv_has ls 8 [(4, .int (nI i_9)), (3, .int (nI f_12)), (0, .ref (ad 42)), (1, .int (nI zp)), (2, .int (nI zw))] → W p l e (headSpec wsX5_shove ({ frames := 4, cells := 0, slots := 0, locals := 90 })).room s m args below meth c H locs 0 0 (MQ below (bm_Wxq D vwCl [(cJ, .long), (cI, .int), (cZ, .boolean)] (fun ws9 r9 => ∃ (e0 : Nat → Int64) (e1 : Nat → Int64) (e2 : Nat → Bool) , ws9 = (WW ad cJ cI cZ bm pa p0 p1 p2 li wi mt ms ma (e0, e1, mp.2.2) mk (mn.1, mn.2.1, mn.2.2.1, mn.2.2.2.1, e2) ou) ∧ ∃ b9 : Bool, r9 = some (.int (bm_b b9))) A) args s 0 0 A) (F0 m 8 ls []) := by
      intro k_10
      induction k_10 with
      | zero => intro i_9 f_12 g_13 g_14 g_15 hi_16 hk_17; exfalso; omega
      | succ k_10 ih_11 =>
        intro i_9 f_12 g_13 g_14 g_15 hi_16 hk_17 hf_18 H locs hP hD hS ls hl
        refine lv_iload_n hx hb dX5_shove_8 rfl (lv_at hl 1 rfl) ?_
        refine lv_iconst (v := -1) hx hb dX5_shove_9 (by decide) ?_
        refine lv_icmp_eq (x := (nI f_12)) (y := -1) (tgt := 146) hx hb dX5_shove_10 (by decide) (fun c_19 => ?_) (fun c_19 => ?_)
        · exact absurd c_19 (bm_nm1 (by omega))
        · refine lv_iload_n hx hb dX5_shove_13 rfl (lv_at hl 1 rfl) ?_
          refine lv_bipush (v := nI 40) hx hb dX5_shove_14 (by decide) ?_
          refine bm_ndiv hx hb (by omega) (by decide) (by decide) dX5_shove_16 ?_
          refine lv_istore (lv' := [(5, .int (nI (f_12 / 40))), (4, .int (nI i_9)), (3, .int (nI f_12)), (0, .ref (ad 42)), (1, .int (nI zp)), (2, .int (nI zw))]) hx hb dX5_shove_17 hl (by decide) rfl (fun ls hl => ?_)
          refine lv_iload_n hx hb dX5_shove_19 rfl (lv_at hl 2 rfl) ?_
          refine lv_bipush (v := nI 40) hx hb dX5_shove_20 (by decide) ?_
          refine bm_nrem hx hb (by omega) (by decide) (by decide) dX5_shove_22 ?_
          refine lv_istore (lv' := [(6, .int (nI (f_12 % 40))), (5, .int (nI (f_12 / 40))), (4, .int (nI i_9)), (3, .int (nI f_12)), (0, .ref (ad 42)), (1, .int (nI zp)), (2, .int (nI zw))]) hx hb dX5_shove_23 hl (by decide) rfl (fun ls hl => ?_)
          refine lv_iload hx hb dX5_shove_25 (lv_at hl 2 rfl) ?_
          refine lv_sipush (v := nI 200) hx hb dX5_shove_27 (by decide) ?_
          refine bm_ni_eq (x := i_9) (y := 200) (tgt := 50) hx hb (by omega) (by omega) dX5_shove_30 (by decide) (fun c_20 => ?_) (fun c_20 => ?_)
          · refine lv_iconst (v := bm_b false) hx hb dX5_shove_50 (by decide) ?_
            exact bm_zretX (v := false) hx hb hr hP hD hK hS ⟨g_13, g_14, g_15, rfl, false, rfl⟩ dX5_shove_51 hlocks
          · refine lv_aload_n hx hb dX5_shove_33 rfl (lv_at hl 4 rfl) ?_
            refine va_get (D := D) (ci := 5) (v := .ref (ad 48)) (C := RX5) (T := TX5) (N := 28) hx hb hts (inT inX5) hown hK hP 42 ww_42 rfl 9 (by decide) (hts (.fieldLink RX5 27 "BoardMovesModel" "groups" "[I") (List.mem_cons_of_mem _ flX5_27)) (fun _ h9 => h9) rfl dX5_shove_34 ?_
            refine lv_iload hx hb dX5_shove_37 (lv_at hl 1 rfl) ?_
            refine bm_nald (f := ma.2.2.2.2.2.1) hx hb hK hP 48 1 ww_48 rfl (j := (f_12 / 40)) (by omega) (by decide) dX5_shove_39 ?_
            refine lv_aload_n hx hb dX5_shove_40 rfl (lv_at hl 4 rfl) ?_
            refine va_get (D := D) (ci := 5) (v := .ref (ad 48)) (C := RX5) (T := TX5) (N := 28) hx hb hts (inT inX5) hown hK hP 42 ww_42 rfl 9 (by decide) (hts (.fieldLink RX5 27 "BoardMovesModel" "groups" "[I") (List.mem_cons_of_mem _ flX5_27)) (fun _ h9 => h9) rfl dX5_shove_41 ?_
            refine lv_iload hx hb dX5_shove_44 (lv_at hl 0 rfl) ?_
            refine bm_nald (f := ma.2.2.2.2.2.1) hx hb hK hP 48 1 ww_48 rfl (j := (f_12 % 40)) (by omega) (by decide) dX5_shove_46 ?_
            refine bm_ni_ne (x := (ma.2.2.2.2.2.1 (f_12 / 40))) (y := (ma.2.2.2.2.2.1 (f_12 % 40))) (tgt := 52) hx hb (bm40 (ok_ma_groups _)) (bm40 (ok_ma_groups _)) dX5_shove_47 (by decide) (fun c_21 => ?_) (fun c_21 => ?_)
            · refine lv_aload_n hx hb dX5_shove_52 rfl (lv_at hl 4 rfl) ?_
              refine va_get (D := D) (ci := 5) (v := .ref (ad 48)) (C := RX5) (T := TX5) (N := 28) hx hb hts (inT inX5) hown hK hP 42 ww_42 rfl 9 (by decide) (hts (.fieldLink RX5 27 "BoardMovesModel" "groups" "[I") (List.mem_cons_of_mem _ flX5_27)) (fun _ h9 => h9) rfl dX5_shove_53 ?_
              refine lv_iload hx hb dX5_shove_56 (lv_at hl 1 rfl) ?_
              refine bm_nald (f := ma.2.2.2.2.2.1) hx hb hK hP 48 1 ww_48 rfl (j := (f_12 / 40)) (by omega) (by decide) dX5_shove_58 ?_
              refine lv_aload_n hx hb dX5_shove_59 rfl (lv_at hl 4 rfl) ?_
              refine va_get (D := D) (ci := 5) (v := .ref (ad 48)) (C := RX5) (T := TX5) (N := 28) hx hb hts (inT inX5) hown hK hP 42 ww_42 rfl 9 (by decide) (hts (.fieldLink RX5 27 "BoardMovesModel" "groups" "[I") (List.mem_cons_of_mem _ flX5_27)) (fun _ h9 => h9) rfl dX5_shove_60 ?_
              refine lv_iload_n hx hb dX5_shove_63 rfl (lv_at hl 5 rfl) ?_
              refine bm_nald (f := ma.2.2.2.2.2.1) hx hb hK hP 48 1 ww_48 rfl (j := zp) (by omega) (by decide) dX5_shove_64 ?_
              refine bm_ni_eq (x := (ma.2.2.2.2.2.1 (f_12 / 40))) (y := (ma.2.2.2.2.2.1 zp)) (tgt := 102) hx hb (bm40 (ok_ma_groups _)) (bm40 (ok_ma_groups _)) dX5_shove_65 (by decide) (fun c_22 => ?_) (fun c_22 => ?_)
              · refine lv_iconst (v := bm_b true) hx hb dX5_shove_102 (by decide) ?_
                refine lv_goto (tgt := 107) hx hb dX5_shove_103 (by decide) ?_
                refine lv_istore (lv' := [(7, .int (bm_b true)), (6, .int (nI (f_12 % 40))), (5, .int (nI (f_12 / 40))), (4, .int (nI i_9)), (3, .int (nI f_12)), (0, .ref (ad 42)), (1, .int (nI zp)), (2, .int (nI zw))]) hx hb dX5_shove_107 hl (by decide) rfl (fun ls hl => ?_)
                refine lv_iload hx hb dX5_shove_109 (lv_at hl 0 rfl) ?_
                refine bm_zb_eq (x := true) (tgt := 126) hx hb dX5_shove_111 (by decide) (fun c_23 => ?_) (fun c_23 => ?_)
                · exact absurd c_23 (by decide)
                · refine lv_aload_n hx hb dX5_shove_114 rfl (lv_at hl 5 rfl) ?_
                  refine lv_iload hx hb dX5_shove_115 (lv_at hl 1 rfl) ?_
                  refine lv_iload hx hb dX5_shove_117 (lv_at hl 2 rfl) ?_
                  refine lv_iload_n hx hb dX5_shove_119 rfl (lv_at hl 7 rfl) ?_
                  refine bm_xcallV (As := [.int (nI (f_12 % 40)), .int (nI (f_12 / 40)), .int (nI zw)]) (rest := []) ⟨hx, hb, hml, hown, hts⟩ (y_goOn (mp := (g_13, g_14, mp.2.2)) (mn := (mn.1, mn.2.1, mn.2.2.1, mn.2.2.2.1, g_15)) (zp := f_12 % 40) (zq := f_12 / 40) (zw := zw) ok_ms_parts ok_ma_groups ok_mp_turns (by omega) (by omega) (by omega)) (cwV 3 hts gvX5_184 rfl rfl rfl hvX5_goOn ⟨Nat.le_of_ble_eq_true rfl, Nat.le_of_ble_eq_true rfl⟩) hK hP hD hS hA 42 5 rfl ww_42 rfl hl.1 rfl (Nat.le_of_ble_eq_true rfl) dX5_shove_120 ⟨Nat.le_of_ble_eq_true rfl, Nat.le_of_ble_eq_true rfl⟩ (fun ws_24 r_25 h_26 H locs hP hD hS => ?_)
                  obtain ⟨g_27, g_28, g_29, rfl, rfl⟩ := h_26
                  have hP : va_P D vwCl (WW ad cJ cI cZ bm pa p0 p1 p2 li wi mt ms ma (g_27, g_28, mp.2.2) mk (mn.1, mn.2.1, mn.2.2.1, mn.2.2.2.1, g_29) ou) H := hP
                  have hD : va_D A (WW ad cJ cI cZ bm pa p0 p1 p2 li wi mt ms ma (g_27, g_28, mp.2.2) mk (mn.1, mn.2.1, mn.2.2.1, mn.2.2.2.1, g_29) ou) := hD
                  refine lv_goto (tgt := 135) hx hb dX5_shove_123 (by decide) ?_
                  refine lv_aload_n hx hb dX5_shove_135 rfl (lv_at hl 5 rfl) ?_
                  refine bm_xcallV (As := []) (rest := []) ⟨hx, hb, hml, hown, hts⟩ (y_first (mp := (g_27, g_28, mp.2.2)) (mn := (mn.1, mn.2.1, mn.2.2.1, mn.2.2.2.1, g_29))  ok_ms_parts ok_mp_turns ok_ma_sides ) (cwV 0 hts gvX5_177 rfl rfl rfl hvX5_firstOverlap ⟨Nat.le_of_ble_eq_true rfl, Nat.le_of_ble_eq_true rfl⟩) hK hP hD hS hA 42 5 rfl ww_42 rfl hl.1 rfl (Nat.le_of_ble_eq_true rfl) dX5_shove_136 ⟨Nat.le_of_ble_eq_true rfl, Nat.le_of_ble_eq_true rfl⟩ (fun ws_30 r_31 h_32 H locs hP hD hS => ?_)
                  obtain ⟨rfl, ho_35⟩ := h_32
                  have hP : va_P D vwCl (WW ad cJ cI cZ bm pa p0 p1 p2 li wi mt ms ma (g_27, g_28, mp.2.2) mk (mn.1, mn.2.1, mn.2.2.1, mn.2.2.2.1, g_29) ou) H := hP
                  have hD : va_D A (WW ad cJ cI cZ bm pa p0 p1 p2 li wi mt ms ma (g_27, g_28, mp.2.2) mk (mn.1, mn.2.1, mn.2.2.1, mn.2.2.2.1, g_29) ou) := hD
                  rcases ho_35 with rfl | ⟨k_33, hk_34, rfl⟩
                  · refine lv_istore_n (lv' := [(3, .int (-1)), (7, .int (bm_b true)), (6, .int (nI (f_12 % 40))), (5, .int (nI (f_12 / 40))), (4, .int (nI i_9)), (0, .ref (ad 42)), (1, .int (nI zp)), (2, .int (nI zw))]) hx hb dX5_shove_139 rfl hl (by decide) rfl (fun ls hl => ?_)
                    refine lv_iinc (v := (nI (i_9 + 1))) (lv' := [(4, .int (nI (i_9 + 1))), (3, .int (-1)), (7, .int (bm_b true)), (6, .int (nI (f_12 % 40))), (5, .int (nI (f_12 / 40))), (0, .ref (ad 42)), (1, .int (nI zp)), (2, .int (nI zw))]) hx hb dX5_shove_140 hl (k := 4) rfl (nI_1 i_9) (by decide) rfl (fun ls hl => ?_)
                    refine lv_goto (tgt := 8) hx hb dX5_shove_143 (by decide) ?_
                    refine lv_iload_n hx hb dX5_shove_8 rfl (lv_at hl 1 rfl) ?_
                    refine lv_iconst (v := -1) hx hb dX5_shove_9 (by decide) ?_
                    refine lv_icmp_eq (x := (-1)) (y := -1) (tgt := 146) hx hb dX5_shove_10 (by decide) (fun c_36 => ?_) (fun c_36 => ?_)
                    · refine lv_iconst (v := bm_b true) hx hb dX5_shove_146 (by decide) ?_
                      exact bm_zretX (v := true) hx hb hr hP hD hK hS ⟨g_27, g_28, g_29, rfl, true, rfl⟩ dX5_shove_147 hlocks
                    · exact absurd rfl c_36
                  · refine lv_istore_n (lv' := [(3, .int (nI k_33)), (7, .int (bm_b true)), (6, .int (nI (f_12 % 40))), (5, .int (nI (f_12 / 40))), (4, .int (nI i_9)), (0, .ref (ad 42)), (1, .int (nI zp)), (2, .int (nI zw))]) hx hb dX5_shove_139 rfl hl (by decide) rfl (fun ls hl => ?_)
                    refine lv_iinc (v := (nI (i_9 + 1))) (lv' := [(4, .int (nI (i_9 + 1))), (3, .int (nI k_33)), (7, .int (bm_b true)), (6, .int (nI (f_12 % 40))), (5, .int (nI (f_12 / 40))), (0, .ref (ad 42)), (1, .int (nI zp)), (2, .int (nI zw))]) hx hb dX5_shove_140 hl (k := 4) rfl (nI_1 i_9) (by decide) rfl (fun ls hl => ?_)
                    refine lv_goto (tgt := 8) hx hb dX5_shove_143 (by decide) ?_
                    exact ih_11 (i_9 + 1) k_33 g_27 g_28 g_29 (by omega) (by omega) (by omega) _ _ hP hD hS _ (lv_sub hl [0, 1, 5, 6, 7] rfl)
              · refine lv_aload_n hx hb dX5_shove_68 rfl (lv_at hl 4 rfl) ?_
                refine va_get (D := D) (ci := 5) (v := .ref (ad 48)) (C := RX5) (T := TX5) (N := 28) hx hb hts (inT inX5) hown hK hP 42 ww_42 rfl 9 (by decide) (hts (.fieldLink RX5 27 "BoardMovesModel" "groups" "[I") (List.mem_cons_of_mem _ flX5_27)) (fun _ h9 => h9) rfl dX5_shove_69 ?_
                refine lv_iload hx hb dX5_shove_72 (lv_at hl 0 rfl) ?_
                refine bm_nald (f := ma.2.2.2.2.2.1) hx hb hK hP 48 1 ww_48 rfl (j := (f_12 % 40)) (by omega) (by decide) dX5_shove_74 ?_
                refine lv_aload_n hx hb dX5_shove_75 rfl (lv_at hl 4 rfl) ?_
                refine va_get (D := D) (ci := 5) (v := .ref (ad 48)) (C := RX5) (T := TX5) (N := 28) hx hb hts (inT inX5) hown hK hP 42 ww_42 rfl 9 (by decide) (hts (.fieldLink RX5 27 "BoardMovesModel" "groups" "[I") (List.mem_cons_of_mem _ flX5_27)) (fun _ h9 => h9) rfl dX5_shove_76 ?_
                refine lv_iload_n hx hb dX5_shove_79 rfl (lv_at hl 5 rfl) ?_
                refine bm_nald (f := ma.2.2.2.2.2.1) hx hb hK hP 48 1 ww_48 rfl (j := zp) (by omega) (by decide) dX5_shove_80 ?_
                refine bm_ni_eq (x := (ma.2.2.2.2.2.1 (f_12 % 40))) (y := (ma.2.2.2.2.2.1 zp)) (tgt := 106) hx hb (bm40 (ok_ma_groups _)) (bm40 (ok_ma_groups _)) dX5_shove_81 (by decide) (fun c_37 => ?_) (fun c_37 => ?_)
                · refine lv_iconst (v := bm_b false) hx hb dX5_shove_106 (by decide) ?_
                  refine lv_istore (lv' := [(7, .int (bm_b false)), (6, .int (nI (f_12 % 40))), (5, .int (nI (f_12 / 40))), (4, .int (nI i_9)), (3, .int (nI f_12)), (0, .ref (ad 42)), (1, .int (nI zp)), (2, .int (nI zw))]) hx hb dX5_shove_107 hl (by decide) rfl (fun ls hl => ?_)
                  refine lv_iload hx hb dX5_shove_109 (lv_at hl 0 rfl) ?_
                  refine bm_zb_eq (x := false) (tgt := 126) hx hb dX5_shove_111 (by decide) (fun c_38 => ?_) (fun c_38 => ?_)
                  · refine lv_aload_n hx hb dX5_shove_126 rfl (lv_at hl 5 rfl) ?_
                    refine lv_iload hx hb dX5_shove_127 (lv_at hl 2 rfl) ?_
                    refine lv_iload hx hb dX5_shove_129 (lv_at hl 1 rfl) ?_
                    refine lv_iload_n hx hb dX5_shove_131 rfl (lv_at hl 7 rfl) ?_
                    refine bm_xcallV (As := [.int (nI (f_12 / 40)), .int (nI (f_12 % 40)), .int (nI zw)]) (rest := []) ⟨hx, hb, hml, hown, hts⟩ (y_goOn (mp := (g_13, g_14, mp.2.2)) (mn := (mn.1, mn.2.1, mn.2.2.1, mn.2.2.2.1, g_15)) (zp := f_12 / 40) (zq := f_12 % 40) (zw := zw) ok_ms_parts ok_ma_groups ok_mp_turns (by omega) (by omega) (by omega)) (cwV 3 hts gvX5_184 rfl rfl rfl hvX5_goOn ⟨Nat.le_of_ble_eq_true rfl, Nat.le_of_ble_eq_true rfl⟩) hK hP hD hS hA 42 5 rfl ww_42 rfl hl.1 rfl (Nat.le_of_ble_eq_true rfl) dX5_shove_132 ⟨Nat.le_of_ble_eq_true rfl, Nat.le_of_ble_eq_true rfl⟩ (fun ws_39 r_40 h_41 H locs hP hD hS => ?_)
                    obtain ⟨g_42, g_43, g_44, rfl, rfl⟩ := h_41
                    have hP : va_P D vwCl (WW ad cJ cI cZ bm pa p0 p1 p2 li wi mt ms ma (g_42, g_43, mp.2.2) mk (mn.1, mn.2.1, mn.2.2.1, mn.2.2.2.1, g_44) ou) H := hP
                    have hD : va_D A (WW ad cJ cI cZ bm pa p0 p1 p2 li wi mt ms ma (g_42, g_43, mp.2.2) mk (mn.1, mn.2.1, mn.2.2.1, mn.2.2.2.1, g_44) ou) := hD
                    refine lv_aload_n hx hb dX5_shove_135 rfl (lv_at hl 5 rfl) ?_
                    refine bm_xcallV (As := []) (rest := []) ⟨hx, hb, hml, hown, hts⟩ (y_first (mp := (g_42, g_43, mp.2.2)) (mn := (mn.1, mn.2.1, mn.2.2.1, mn.2.2.2.1, g_44))  ok_ms_parts ok_mp_turns ok_ma_sides ) (cwV 0 hts gvX5_177 rfl rfl rfl hvX5_firstOverlap ⟨Nat.le_of_ble_eq_true rfl, Nat.le_of_ble_eq_true rfl⟩) hK hP hD hS hA 42 5 rfl ww_42 rfl hl.1 rfl (Nat.le_of_ble_eq_true rfl) dX5_shove_136 ⟨Nat.le_of_ble_eq_true rfl, Nat.le_of_ble_eq_true rfl⟩ (fun ws_45 r_46 h_47 H locs hP hD hS => ?_)
                    obtain ⟨rfl, ho_50⟩ := h_47
                    have hP : va_P D vwCl (WW ad cJ cI cZ bm pa p0 p1 p2 li wi mt ms ma (g_42, g_43, mp.2.2) mk (mn.1, mn.2.1, mn.2.2.1, mn.2.2.2.1, g_44) ou) H := hP
                    have hD : va_D A (WW ad cJ cI cZ bm pa p0 p1 p2 li wi mt ms ma (g_42, g_43, mp.2.2) mk (mn.1, mn.2.1, mn.2.2.1, mn.2.2.2.1, g_44) ou) := hD
                    rcases ho_50 with rfl | ⟨k_48, hk_49, rfl⟩
                    · refine lv_istore_n (lv' := [(3, .int (-1)), (7, .int (bm_b false)), (6, .int (nI (f_12 % 40))), (5, .int (nI (f_12 / 40))), (4, .int (nI i_9)), (0, .ref (ad 42)), (1, .int (nI zp)), (2, .int (nI zw))]) hx hb dX5_shove_139 rfl hl (by decide) rfl (fun ls hl => ?_)
                      refine lv_iinc (v := (nI (i_9 + 1))) (lv' := [(4, .int (nI (i_9 + 1))), (3, .int (-1)), (7, .int (bm_b false)), (6, .int (nI (f_12 % 40))), (5, .int (nI (f_12 / 40))), (0, .ref (ad 42)), (1, .int (nI zp)), (2, .int (nI zw))]) hx hb dX5_shove_140 hl (k := 4) rfl (nI_1 i_9) (by decide) rfl (fun ls hl => ?_)
                      refine lv_goto (tgt := 8) hx hb dX5_shove_143 (by decide) ?_
                      refine lv_iload_n hx hb dX5_shove_8 rfl (lv_at hl 1 rfl) ?_
                      refine lv_iconst (v := -1) hx hb dX5_shove_9 (by decide) ?_
                      refine lv_icmp_eq (x := (-1)) (y := -1) (tgt := 146) hx hb dX5_shove_10 (by decide) (fun c_51 => ?_) (fun c_51 => ?_)
                      · refine lv_iconst (v := bm_b true) hx hb dX5_shove_146 (by decide) ?_
                        exact bm_zretX (v := true) hx hb hr hP hD hK hS ⟨g_42, g_43, g_44, rfl, true, rfl⟩ dX5_shove_147 hlocks
                      · exact absurd rfl c_51
                    · refine lv_istore_n (lv' := [(3, .int (nI k_48)), (7, .int (bm_b false)), (6, .int (nI (f_12 % 40))), (5, .int (nI (f_12 / 40))), (4, .int (nI i_9)), (0, .ref (ad 42)), (1, .int (nI zp)), (2, .int (nI zw))]) hx hb dX5_shove_139 rfl hl (by decide) rfl (fun ls hl => ?_)
                      refine lv_iinc (v := (nI (i_9 + 1))) (lv' := [(4, .int (nI (i_9 + 1))), (3, .int (nI k_48)), (7, .int (bm_b false)), (6, .int (nI (f_12 % 40))), (5, .int (nI (f_12 / 40))), (0, .ref (ad 42)), (1, .int (nI zp)), (2, .int (nI zw))]) hx hb dX5_shove_140 hl (k := 4) rfl (nI_1 i_9) (by decide) rfl (fun ls hl => ?_)
                      refine lv_goto (tgt := 8) hx hb dX5_shove_143 (by decide) ?_
                      exact ih_11 (i_9 + 1) k_48 g_42 g_43 g_44 (by omega) (by omega) (by omega) _ _ hP hD hS _ (lv_sub hl [0, 1, 5, 6, 7] rfl)
                  · exact absurd c_38 (by decide)
                · refine lv_aload_n hx hb dX5_shove_84 rfl (lv_at hl 4 rfl) ?_
                  refine lv_iload hx hb dX5_shove_85 (lv_at hl 0 rfl) ?_
                  refine lv_iload_n hx hb dX5_shove_87 rfl (lv_at hl 6 rfl) ?_
                  refine bm_xcallV (As := [.int (nI (f_12 % 40)), .int (nI zw)]) (rest := []) ⟨hx, hb, hml, hown, hts⟩ (y_beginOn (mp := (g_13, g_14, mp.2.2)) (mn := (mn.1, mn.2.1, mn.2.2.1, mn.2.2.2.1, g_15)) (zp := f_12 % 40) (zw := zw) ok_mp_turns (by omega) (by omega)) (cwV 2 hts gvX5_181 rfl rfl rfl hvX5_beginOn ⟨Nat.le_of_ble_eq_true rfl, Nat.le_of_ble_eq_true rfl⟩) hK hP hD hS hA 42 5 rfl ww_42 rfl hl.1 rfl (Nat.le_of_ble_eq_true rfl) dX5_shove_88 ⟨Nat.le_of_ble_eq_true rfl, Nat.le_of_ble_eq_true rfl⟩ (fun ws_52 r_53 h_54 H locs hP hD hS => ?_)
                  obtain ⟨rfl, v_55, rfl⟩ := h_54
                  have hP : va_P D vwCl (WW ad cJ cI cZ bm pa p0 p1 p2 li wi mt ms ma (g_13, g_14, mp.2.2) mk (mn.1, mn.2.1, mn.2.2.1, mn.2.2.2.1, g_15) ou) H := hP
                  have hD : va_D A (WW ad cJ cI cZ bm pa p0 p1 p2 li wi mt ms ma (g_13, g_14, mp.2.2) mk (mn.1, mn.2.1, mn.2.2.1, mn.2.2.2.1, g_15) ou) := hD
                  refine lv_aload_n hx hb dX5_shove_91 rfl (lv_at hl 4 rfl) ?_
                  refine lv_iload hx hb dX5_shove_92 (lv_at hl 1 rfl) ?_
                  refine lv_iload_n hx hb dX5_shove_94 rfl (lv_at hl 6 rfl) ?_
                  refine bm_xcallV (As := [.int (nI (f_12 / 40)), .int (nI zw)]) (rest := [.long v_55]) ⟨hx, hb, hml, hown, hts⟩ (y_beginOn (mp := (g_13, g_14, mp.2.2)) (mn := (mn.1, mn.2.1, mn.2.2.1, mn.2.2.2.1, g_15)) (zp := f_12 / 40) (zw := zw) ok_mp_turns (by omega) (by omega)) (cwV 2 hts gvX5_181 rfl rfl rfl hvX5_beginOn ⟨Nat.le_of_ble_eq_true rfl, Nat.le_of_ble_eq_true rfl⟩) hK hP hD hS hA 42 5 rfl ww_42 rfl hl.1 rfl (Nat.le_of_ble_eq_true rfl) dX5_shove_95 ⟨Nat.le_of_ble_eq_true rfl, Nat.le_of_ble_eq_true rfl⟩ (fun ws_56 r_57 h_58 H locs hP hD hS => ?_)
                  obtain ⟨rfl, v_59, rfl⟩ := h_58
                  have hP : va_P D vwCl (WW ad cJ cI cZ bm pa p0 p1 p2 li wi mt ms ma (g_13, g_14, mp.2.2) mk (mn.1, mn.2.1, mn.2.2.1, mn.2.2.2.1, g_15) ou) H := hP
                  have hD : va_D A (WW ad cJ cI cZ bm pa p0 p1 p2 li wi mt ms ma (g_13, g_14, mp.2.2) mk (mn.1, mn.2.1, mn.2.2.1, mn.2.2.2.1, g_15) ou) := hD
                  refine bm_lc_lt (x := v_55) (y := v_59) (tgt := 106) hx hb dX5_shove_98 dX5_shove_99 (by decide) (fun c_60 => ?_) (fun c_60 => ?_)
                  · refine lv_iconst (v := bm_b false) hx hb dX5_shove_106 (by decide) ?_
                    refine lv_istore (lv' := [(7, .int (bm_b false)), (6, .int (nI (f_12 % 40))), (5, .int (nI (f_12 / 40))), (4, .int (nI i_9)), (3, .int (nI f_12)), (0, .ref (ad 42)), (1, .int (nI zp)), (2, .int (nI zw))]) hx hb dX5_shove_107 hl (by decide) rfl (fun ls hl => ?_)
                    refine lv_iload hx hb dX5_shove_109 (lv_at hl 0 rfl) ?_
                    refine bm_zb_eq (x := false) (tgt := 126) hx hb dX5_shove_111 (by decide) (fun c_61 => ?_) (fun c_61 => ?_)
                    · refine lv_aload_n hx hb dX5_shove_126 rfl (lv_at hl 5 rfl) ?_
                      refine lv_iload hx hb dX5_shove_127 (lv_at hl 2 rfl) ?_
                      refine lv_iload hx hb dX5_shove_129 (lv_at hl 1 rfl) ?_
                      refine lv_iload_n hx hb dX5_shove_131 rfl (lv_at hl 7 rfl) ?_
                      refine bm_xcallV (As := [.int (nI (f_12 / 40)), .int (nI (f_12 % 40)), .int (nI zw)]) (rest := []) ⟨hx, hb, hml, hown, hts⟩ (y_goOn (mp := (g_13, g_14, mp.2.2)) (mn := (mn.1, mn.2.1, mn.2.2.1, mn.2.2.2.1, g_15)) (zp := f_12 / 40) (zq := f_12 % 40) (zw := zw) ok_ms_parts ok_ma_groups ok_mp_turns (by omega) (by omega) (by omega)) (cwV 3 hts gvX5_184 rfl rfl rfl hvX5_goOn ⟨Nat.le_of_ble_eq_true rfl, Nat.le_of_ble_eq_true rfl⟩) hK hP hD hS hA 42 5 rfl ww_42 rfl hl.1 rfl (Nat.le_of_ble_eq_true rfl) dX5_shove_132 ⟨Nat.le_of_ble_eq_true rfl, Nat.le_of_ble_eq_true rfl⟩ (fun ws_62 r_63 h_64 H locs hP hD hS => ?_)
                      obtain ⟨g_65, g_66, g_67, rfl, rfl⟩ := h_64
                      have hP : va_P D vwCl (WW ad cJ cI cZ bm pa p0 p1 p2 li wi mt ms ma (g_65, g_66, mp.2.2) mk (mn.1, mn.2.1, mn.2.2.1, mn.2.2.2.1, g_67) ou) H := hP
                      have hD : va_D A (WW ad cJ cI cZ bm pa p0 p1 p2 li wi mt ms ma (g_65, g_66, mp.2.2) mk (mn.1, mn.2.1, mn.2.2.1, mn.2.2.2.1, g_67) ou) := hD
                      refine lv_aload_n hx hb dX5_shove_135 rfl (lv_at hl 5 rfl) ?_
                      refine bm_xcallV (As := []) (rest := []) ⟨hx, hb, hml, hown, hts⟩ (y_first (mp := (g_65, g_66, mp.2.2)) (mn := (mn.1, mn.2.1, mn.2.2.1, mn.2.2.2.1, g_67))  ok_ms_parts ok_mp_turns ok_ma_sides ) (cwV 0 hts gvX5_177 rfl rfl rfl hvX5_firstOverlap ⟨Nat.le_of_ble_eq_true rfl, Nat.le_of_ble_eq_true rfl⟩) hK hP hD hS hA 42 5 rfl ww_42 rfl hl.1 rfl (Nat.le_of_ble_eq_true rfl) dX5_shove_136 ⟨Nat.le_of_ble_eq_true rfl, Nat.le_of_ble_eq_true rfl⟩ (fun ws_68 r_69 h_70 H locs hP hD hS => ?_)
                      obtain ⟨rfl, ho_73⟩ := h_70
                      have hP : va_P D vwCl (WW ad cJ cI cZ bm pa p0 p1 p2 li wi mt ms ma (g_65, g_66, mp.2.2) mk (mn.1, mn.2.1, mn.2.2.1, mn.2.2.2.1, g_67) ou) H := hP
                      have hD : va_D A (WW ad cJ cI cZ bm pa p0 p1 p2 li wi mt ms ma (g_65, g_66, mp.2.2) mk (mn.1, mn.2.1, mn.2.2.1, mn.2.2.2.1, g_67) ou) := hD
                      rcases ho_73 with rfl | ⟨k_71, hk_72, rfl⟩
                      · refine lv_istore_n (lv' := [(3, .int (-1)), (7, .int (bm_b false)), (6, .int (nI (f_12 % 40))), (5, .int (nI (f_12 / 40))), (4, .int (nI i_9)), (0, .ref (ad 42)), (1, .int (nI zp)), (2, .int (nI zw))]) hx hb dX5_shove_139 rfl hl (by decide) rfl (fun ls hl => ?_)
                        refine lv_iinc (v := (nI (i_9 + 1))) (lv' := [(4, .int (nI (i_9 + 1))), (3, .int (-1)), (7, .int (bm_b false)), (6, .int (nI (f_12 % 40))), (5, .int (nI (f_12 / 40))), (0, .ref (ad 42)), (1, .int (nI zp)), (2, .int (nI zw))]) hx hb dX5_shove_140 hl (k := 4) rfl (nI_1 i_9) (by decide) rfl (fun ls hl => ?_)
                        refine lv_goto (tgt := 8) hx hb dX5_shove_143 (by decide) ?_
                        refine lv_iload_n hx hb dX5_shove_8 rfl (lv_at hl 1 rfl) ?_
                        refine lv_iconst (v := -1) hx hb dX5_shove_9 (by decide) ?_
                        refine lv_icmp_eq (x := (-1)) (y := -1) (tgt := 146) hx hb dX5_shove_10 (by decide) (fun c_74 => ?_) (fun c_74 => ?_)
                        · refine lv_iconst (v := bm_b true) hx hb dX5_shove_146 (by decide) ?_
                          exact bm_zretX (v := true) hx hb hr hP hD hK hS ⟨g_65, g_66, g_67, rfl, true, rfl⟩ dX5_shove_147 hlocks
                        · exact absurd rfl c_74
                      · refine lv_istore_n (lv' := [(3, .int (nI k_71)), (7, .int (bm_b false)), (6, .int (nI (f_12 % 40))), (5, .int (nI (f_12 / 40))), (4, .int (nI i_9)), (0, .ref (ad 42)), (1, .int (nI zp)), (2, .int (nI zw))]) hx hb dX5_shove_139 rfl hl (by decide) rfl (fun ls hl => ?_)
                        refine lv_iinc (v := (nI (i_9 + 1))) (lv' := [(4, .int (nI (i_9 + 1))), (3, .int (nI k_71)), (7, .int (bm_b false)), (6, .int (nI (f_12 % 40))), (5, .int (nI (f_12 / 40))), (0, .ref (ad 42)), (1, .int (nI zp)), (2, .int (nI zw))]) hx hb dX5_shove_140 hl (k := 4) rfl (nI_1 i_9) (by decide) rfl (fun ls hl => ?_)
                        refine lv_goto (tgt := 8) hx hb dX5_shove_143 (by decide) ?_
                        exact ih_11 (i_9 + 1) k_71 g_65 g_66 g_67 (by omega) (by omega) (by omega) _ _ hP hD hS _ (lv_sub hl [0, 1, 5, 6, 7] rfl)
                    · exact absurd c_61 (by decide)
                  · refine lv_iconst (v := bm_b true) hx hb dX5_shove_102 (by decide) ?_
                    refine lv_goto (tgt := 107) hx hb dX5_shove_103 (by decide) ?_
                    refine lv_istore (lv' := [(7, .int (bm_b true)), (6, .int (nI (f_12 % 40))), (5, .int (nI (f_12 / 40))), (4, .int (nI i_9)), (3, .int (nI f_12)), (0, .ref (ad 42)), (1, .int (nI zp)), (2, .int (nI zw))]) hx hb dX5_shove_107 hl (by decide) rfl (fun ls hl => ?_)
                    refine lv_iload hx hb dX5_shove_109 (lv_at hl 0 rfl) ?_
                    refine bm_zb_eq (x := true) (tgt := 126) hx hb dX5_shove_111 (by decide) (fun c_75 => ?_) (fun c_75 => ?_)
                    · exact absurd c_75 (by decide)
                    · refine lv_aload_n hx hb dX5_shove_114 rfl (lv_at hl 5 rfl) ?_
                      refine lv_iload hx hb dX5_shove_115 (lv_at hl 1 rfl) ?_
                      refine lv_iload hx hb dX5_shove_117 (lv_at hl 2 rfl) ?_
                      refine lv_iload_n hx hb dX5_shove_119 rfl (lv_at hl 7 rfl) ?_
                      refine bm_xcallV (As := [.int (nI (f_12 % 40)), .int (nI (f_12 / 40)), .int (nI zw)]) (rest := []) ⟨hx, hb, hml, hown, hts⟩ (y_goOn (mp := (g_13, g_14, mp.2.2)) (mn := (mn.1, mn.2.1, mn.2.2.1, mn.2.2.2.1, g_15)) (zp := f_12 % 40) (zq := f_12 / 40) (zw := zw) ok_ms_parts ok_ma_groups ok_mp_turns (by omega) (by omega) (by omega)) (cwV 3 hts gvX5_184 rfl rfl rfl hvX5_goOn ⟨Nat.le_of_ble_eq_true rfl, Nat.le_of_ble_eq_true rfl⟩) hK hP hD hS hA 42 5 rfl ww_42 rfl hl.1 rfl (Nat.le_of_ble_eq_true rfl) dX5_shove_120 ⟨Nat.le_of_ble_eq_true rfl, Nat.le_of_ble_eq_true rfl⟩ (fun ws_76 r_77 h_78 H locs hP hD hS => ?_)
                      obtain ⟨g_79, g_80, g_81, rfl, rfl⟩ := h_78
                      have hP : va_P D vwCl (WW ad cJ cI cZ bm pa p0 p1 p2 li wi mt ms ma (g_79, g_80, mp.2.2) mk (mn.1, mn.2.1, mn.2.2.1, mn.2.2.2.1, g_81) ou) H := hP
                      have hD : va_D A (WW ad cJ cI cZ bm pa p0 p1 p2 li wi mt ms ma (g_79, g_80, mp.2.2) mk (mn.1, mn.2.1, mn.2.2.1, mn.2.2.2.1, g_81) ou) := hD
                      refine lv_goto (tgt := 135) hx hb dX5_shove_123 (by decide) ?_
                      refine lv_aload_n hx hb dX5_shove_135 rfl (lv_at hl 5 rfl) ?_
                      refine bm_xcallV (As := []) (rest := []) ⟨hx, hb, hml, hown, hts⟩ (y_first (mp := (g_79, g_80, mp.2.2)) (mn := (mn.1, mn.2.1, mn.2.2.1, mn.2.2.2.1, g_81))  ok_ms_parts ok_mp_turns ok_ma_sides ) (cwV 0 hts gvX5_177 rfl rfl rfl hvX5_firstOverlap ⟨Nat.le_of_ble_eq_true rfl, Nat.le_of_ble_eq_true rfl⟩) hK hP hD hS hA 42 5 rfl ww_42 rfl hl.1 rfl (Nat.le_of_ble_eq_true rfl) dX5_shove_136 ⟨Nat.le_of_ble_eq_true rfl, Nat.le_of_ble_eq_true rfl⟩ (fun ws_82 r_83 h_84 H locs hP hD hS => ?_)
                      obtain ⟨rfl, ho_87⟩ := h_84
                      have hP : va_P D vwCl (WW ad cJ cI cZ bm pa p0 p1 p2 li wi mt ms ma (g_79, g_80, mp.2.2) mk (mn.1, mn.2.1, mn.2.2.1, mn.2.2.2.1, g_81) ou) H := hP
                      have hD : va_D A (WW ad cJ cI cZ bm pa p0 p1 p2 li wi mt ms ma (g_79, g_80, mp.2.2) mk (mn.1, mn.2.1, mn.2.2.1, mn.2.2.2.1, g_81) ou) := hD
                      rcases ho_87 with rfl | ⟨k_85, hk_86, rfl⟩
                      · refine lv_istore_n (lv' := [(3, .int (-1)), (7, .int (bm_b true)), (6, .int (nI (f_12 % 40))), (5, .int (nI (f_12 / 40))), (4, .int (nI i_9)), (0, .ref (ad 42)), (1, .int (nI zp)), (2, .int (nI zw))]) hx hb dX5_shove_139 rfl hl (by decide) rfl (fun ls hl => ?_)
                        refine lv_iinc (v := (nI (i_9 + 1))) (lv' := [(4, .int (nI (i_9 + 1))), (3, .int (-1)), (7, .int (bm_b true)), (6, .int (nI (f_12 % 40))), (5, .int (nI (f_12 / 40))), (0, .ref (ad 42)), (1, .int (nI zp)), (2, .int (nI zw))]) hx hb dX5_shove_140 hl (k := 4) rfl (nI_1 i_9) (by decide) rfl (fun ls hl => ?_)
                        refine lv_goto (tgt := 8) hx hb dX5_shove_143 (by decide) ?_
                        refine lv_iload_n hx hb dX5_shove_8 rfl (lv_at hl 1 rfl) ?_
                        refine lv_iconst (v := -1) hx hb dX5_shove_9 (by decide) ?_
                        refine lv_icmp_eq (x := (-1)) (y := -1) (tgt := 146) hx hb dX5_shove_10 (by decide) (fun c_88 => ?_) (fun c_88 => ?_)
                        · refine lv_iconst (v := bm_b true) hx hb dX5_shove_146 (by decide) ?_
                          exact bm_zretX (v := true) hx hb hr hP hD hK hS ⟨g_79, g_80, g_81, rfl, true, rfl⟩ dX5_shove_147 hlocks
                        · exact absurd rfl c_88
                      · refine lv_istore_n (lv' := [(3, .int (nI k_85)), (7, .int (bm_b true)), (6, .int (nI (f_12 % 40))), (5, .int (nI (f_12 / 40))), (4, .int (nI i_9)), (0, .ref (ad 42)), (1, .int (nI zp)), (2, .int (nI zw))]) hx hb dX5_shove_139 rfl hl (by decide) rfl (fun ls hl => ?_)
                        refine lv_iinc (v := (nI (i_9 + 1))) (lv' := [(4, .int (nI (i_9 + 1))), (3, .int (nI k_85)), (7, .int (bm_b true)), (6, .int (nI (f_12 % 40))), (5, .int (nI (f_12 / 40))), (0, .ref (ad 42)), (1, .int (nI zp)), (2, .int (nI zw))]) hx hb dX5_shove_140 hl (k := 4) rfl (nI_1 i_9) (by decide) rfl (fun ls hl => ?_)
                        refine lv_goto (tgt := 8) hx hb dX5_shove_143 (by decide) ?_
                        exact ih_11 (i_9 + 1) k_85 g_79 g_80 g_81 (by omega) (by omega) (by omega) _ _ hP hD hS _ (lv_sub hl [0, 1, 5, 6, 7] rfl)
            · refine lv_iconst (v := bm_b false) hx hb dX5_shove_50 (by decide) ?_
              exact bm_zretX (v := false) hx hb hr hP hD hK hS ⟨g_13, g_14, g_15, rfl, false, rfl⟩ dX5_shove_51 hlocks
    exact lp_8 201 0 k_4 mp.1 mp.2.1 mn.2.2.2.2 (by omega) (by omega) (by omega) _ _ hP hD hS _ (lv_sub hl [0, 1, 2, 3, 4] rfl)
