set_option maxHeartbeats 8000000 in
set_option maxRecDepth 100000 in
theorem y_pinAt {l : Launch} {D : va_G} {ad : Nat → Nat} {cJ cI cZ : ClassId} {bm : gBM} {pa : gPA} {p0 p1 p2 : gPL} {li : gLI} {wi : gWI} {mt : Nat} {ms : gMS} {ma : gMA} {mp : gMP} {mk : gMK} {mn : gMN} {ou : Nat → Int64} {zr : Nat} {zk : Nat} {zb : Bool} (ok_mn_pinPart : ∀ i, mn.2.1 i < 40) (ok_mp_turns : ∀ i, mp.2.2 i < 40) (hp0 : zr < 3) (hp1 : zk < 120)  : bm_Wx l yX5_pinAt wsX5_pinAt ({ frames := 1, cells := 0, slots := 0, locals := 22 }) D vwCl [(cJ, .long), (cI, .int), (cZ, .boolean)] (WW ad cJ cI cZ bm pa p0 p1 p2 li wi mt ms ma mp mk mn ou) [.ref (ad 42), .int (nI zr), .int (nI zk), .int (bm_b zb)] (fun ws9 r9 => ws9 = (WW ad cJ cI cZ bm pa p0 p1 p2 li wi mt ms ma mp mk mn ou) ∧ ∃ v9 : Int64, r9 = some (.long v9)) := by
  intro sz
  refine Met.ofW (cc := cX5_pinAt) (maxL := 9) (ret := (some .long)) (by decide) rfl ?_
  intro p e s m args below meth c s₁ B hml hv
  obtain ⟨ha, hsz, hP, hK, hD0⟩ := hv
  have hx := B.exec
  have hb := B.bytes
  have hr := B.returns
  have hts := atoms_spec (ws := wsX5_pinAt) B.pre
  have hown : s.vm.findClass RX5 = some m.cls := findClass_of_methodNamed B.named
  have hlocks := B.notSynchronized
  subst hsz
  have hD := hD0.self (sz := s.heap.size)
  generalize hAe : va_A (WW ad cJ cI cZ bm pa p0 p1 p2 li wi mt ms ma mp mk mn ou) s.heap.size = A at hD ⊢
  have hA : ∀ q : Nat, s.heap.size ≤ q → A q := fun q h => by rw [← hAe]; exact Or.inr h
  have hS : va_S A s.heap s.heap [] := va_S.rf
  have hl := lv_entry ([.ref (ad 42), .int (nI zr), .int (nI zk), .int (bm_b zb)]) (n := 9) (Nat.le_of_ble_eq_true rfl)
  refine W.eq (g2 := entryFrame m ([.ref (ad 42), .int (nI zr), .int (nI zk), .int (bm_b zb)] : List Value).toArray 9) (by rw [ha]) ?_
  rw [lg_entry_eq]
  generalize (lg_sl ([.ref (ad 42), .int (nI zr), .int (nI zk), .int (bm_b zb)]) ++ List.replicate (9 - (lg_sl ([.ref (ad 42), .int (nI zr), .int (nI zk), .int (bm_b zb)])).length) Slot.unset).toArray = ls at hl ⊢
  have hl : lv_has ls 9 [(0, .ref (ad 42)), (1, .int (nI zr)), (2, .int (nI zk)), (3, .int (bm_b zb))] := hl
  refine lv_aload_n hx hb dX5_pinAt_0 rfl (lv_at hl 0 rfl) ?_
  refine va_get (D := D) (ci := 5) (v := .ref (ad 58)) (C := RX5) (T := TX5) (N := 28) hx hb hts (inT inX5) hown hK hP 42 ww_42 rfl 23 (by decide) (hts (.fieldLink RX5 57 "BoardMovesModel" "pinPart" "[I") (List.mem_cons_of_mem _ flX5_57)) (fun _ h9 => h9) rfl dX5_pinAt_1 ?_
  refine lv_iload_n hx hb dX5_pinAt_4 rfl (lv_at hl 2 rfl) ?_
  refine bm_nald (f := mn.2.1) hx hb hK hP 58 1 ww_58 rfl (j := zk) (by omega) (by decide) dX5_pinAt_5 ?_
  refine lv_istore (lv' := [(4, .int (nI (mn.2.1 zk))), (0, .ref (ad 42)), (1, .int (nI zr)), (2, .int (nI zk)), (3, .int (bm_b zb))]) hx hb dX5_pinAt_6 hl (by decide) rfl (fun ls hl => ?_)
  refine lv_aload_n hx hb dX5_pinAt_8 rfl (lv_at hl 1 rfl) ?_
  refine va_get (D := D) (ci := 5) (v := .ref (ad 59)) (C := RX5) (T := TX5) (N := 28) hx hb hts (inT inX5) hown hK hP 42 ww_42 rfl 24 (by decide) (hts (.fieldLink RX5 60 "BoardMovesModel" "pinX" "[J") (List.mem_cons_of_mem _ flX5_60)) (fun _ h9 => h9) rfl dX5_pinAt_9 ?_
  refine lv_iload_n hx hb dX5_pinAt_12 rfl (lv_at hl 3 rfl) ?_
  refine bm_lald (f := mn.2.2.1) hx hb hK hP 59 0 ww_59 rfl (j := zk) (by omega) (by decide) dX5_pinAt_13 ?_
  refine lv_topl (fun t_1 _ => ?_)
  refine lv_lstore (lv' := [(5, .long t_1), (4, .int (nI (mn.2.1 zk))), (0, .ref (ad 42)), (1, .int (nI zr)), (2, .int (nI zk)), (3, .int (bm_b zb))]) hx hb dX5_pinAt_14 hl (by decide) rfl (fun ls hl => ?_)
  refine lv_aload_n hx hb dX5_pinAt_16 rfl (lv_at hl 2 rfl) ?_
  refine va_get (D := D) (ci := 5) (v := .ref (ad 60)) (C := RX5) (T := TX5) (N := 28) hx hb hts (inT inX5) hown hK hP 42 ww_42 rfl 25 (by decide) (hts (.fieldLink RX5 63 "BoardMovesModel" "pinY" "[J") (List.mem_cons_of_mem _ flX5_63)) (fun _ h9 => h9) rfl dX5_pinAt_17 ?_
  refine lv_iload_n hx hb dX5_pinAt_20 rfl (lv_at hl 4 rfl) ?_
  refine bm_lald (f := mn.2.2.2.1) hx hb hK hP 60 0 ww_60 rfl (j := zk) (by omega) (by decide) dX5_pinAt_21 ?_
  refine lv_topl (fun t_2 _ => ?_)
  refine lv_lstore (lv' := [(7, .long t_2), (5, .long t_1), (4, .int (nI (mn.2.1 zk))), (0, .ref (ad 42)), (1, .int (nI zr)), (2, .int (nI zk)), (3, .int (bm_b zb))]) hx hb dX5_pinAt_22 hl (by decide) rfl (fun ls hl => ?_)
  refine lv_aload_n hx hb dX5_pinAt_24 rfl (lv_at hl 3 rfl) ?_
  refine va_get (D := D) (ci := 5) (v := .ref (ad 52)) (C := RX5) (T := TX5) (N := 28) hx hb hts (inT inX5) hown hK hP 42 ww_42 rfl 13 (by decide) (hts (.fieldLink RX5 39 "BoardMovesModel" "turns" "[I") (List.mem_cons_of_mem _ flX5_39)) (fun _ h9 => h9) rfl dX5_pinAt_25 ?_
  refine lv_bipush (v := nI 40) hx hb dX5_pinAt_28 (by decide) ?_
  refine lv_iload_n hx hb dX5_pinAt_30 rfl (lv_at hl 4 rfl) ?_
  refine bm_nmul hx hb dX5_pinAt_31 ?_
  refine lv_iload hx hb dX5_pinAt_32 (lv_at hl 2 rfl) ?_
  refine bm_nadd hx hb dX5_pinAt_34 ?_
  refine bm_nald (f := mp.2.2) hx hb hK hP 52 1 ww_52 rfl (j := ((40 * zr) + (mn.2.1 zk))) (by have h := ok_mn_pinPart zk; omega) (by decide) dX5_pinAt_35 ?_
  by_cases ht_3 : mp.2.2 ((40 * zr) + (mn.2.1 zk)) = 0
  · rw [ht_3]
    refine lv_tableIn (off := 28) (tgt := 64) hx hb dX5_pinAt_36 (by decide) (by decide) (by decide) (by decide) ?_
    refine lv_iload_n hx hb dX5_pinAt_64 rfl (lv_at hl 6 rfl) ?_
    refine bm_zb_eq (x := zb) (tgt := 81) hx hb dX5_pinAt_65 (by decide) (fun c_6 => ?_) (fun c_6 => ?_)
    · refine lv_aload_n hx hb dX5_pinAt_81 rfl (lv_at hl 3 rfl) ?_
      refine lv_iload_n hx hb dX5_pinAt_82 rfl (lv_at hl 4 rfl) ?_
      refine lv_iload hx hb dX5_pinAt_83 (lv_at hl 2 rfl) ?_
      refine bm_xcallV (As := [.int (nI zr), .int (nI (mn.2.1 zk))]) (rest := []) ⟨hx, hb, hml, hown, hts⟩ (y_low  (zr := zr) (zp := mn.2.1 zk)  (by omega) (ok_mn_pinPart _)) (cwV 2 hts gvX5_100 rfl rfl rfl hvX5_low ⟨Nat.le_of_ble_eq_true rfl, Nat.le_of_ble_eq_true rfl⟩) hK hP hD hS hA 42 5 rfl ww_42 rfl hl.1 rfl (Nat.le_of_ble_eq_true rfl) dX5_pinAt_85 ⟨Nat.le_of_ble_eq_true rfl, Nat.le_of_ble_eq_true rfl⟩ (fun ws_7 r_8 h_9 H locs hP hD hS => ?_)
      obtain ⟨rfl, v_10, rfl⟩ := h_9
      have hP : va_P D vwCl (WW ad cJ cI cZ bm pa p0 p1 p2 li wi mt ms ma mp mk mn ou) H := hP
      have hD : va_D A (WW ad cJ cI cZ bm pa p0 p1 p2 li wi mt ms ma mp mk mn ou) := hD
      refine lv_lload hx hb dX5_pinAt_88 (lv_at hl 0 rfl) ?_
      refine lv_ladd hx hb dX5_pinAt_90 ?_
      refine lv_topl (fun t_11 _ => ?_)
      exact bm_lretX (v := t_11) hx hb hr hP hD hK hS ⟨rfl, t_11, rfl⟩ dX5_pinAt_91 hlocks
    · refine lv_aload_n hx hb dX5_pinAt_68 rfl (lv_at hl 3 rfl) ?_
      refine lv_iload_n hx hb dX5_pinAt_69 rfl (lv_at hl 4 rfl) ?_
      refine lv_iload hx hb dX5_pinAt_70 (lv_at hl 2 rfl) ?_
      refine bm_xcallV (As := [.int (nI zr), .int (nI (mn.2.1 zk))]) (rest := []) ⟨hx, hb, hml, hown, hts⟩ (y_left  (zr := zr) (zp := mn.2.1 zk)  (by omega) (ok_mn_pinPart _)) (cwV 2 hts gvX5_92 rfl rfl rfl hvX5_left ⟨Nat.le_of_ble_eq_true rfl, Nat.le_of_ble_eq_true rfl⟩) hK hP hD hS hA 42 5 rfl ww_42 rfl hl.1 rfl (Nat.le_of_ble_eq_true rfl) dX5_pinAt_72 ⟨Nat.le_of_ble_eq_true rfl, Nat.le_of_ble_eq_true rfl⟩ (fun ws_12 r_13 h_14 H locs hP hD hS => ?_)
      obtain ⟨rfl, v_15, rfl⟩ := h_14
      have hP : va_P D vwCl (WW ad cJ cI cZ bm pa p0 p1 p2 li wi mt ms ma mp mk mn ou) H := hP
      have hD : va_D A (WW ad cJ cI cZ bm pa p0 p1 p2 li wi mt ms ma mp mk mn ou) := hD
      refine lv_lload hx hb dX5_pinAt_75 (lv_at hl 1 rfl) ?_
      refine lv_ladd hx hb dX5_pinAt_77 ?_
      refine lv_topl (fun t_16 _ => ?_)
      refine lv_goto (tgt := 91) hx hb dX5_pinAt_78 (by decide) ?_
      exact bm_lretX (v := t_16) hx hb hr hP hD hK hS ⟨rfl, t_16, rfl⟩ dX5_pinAt_91 hlocks
  · by_cases ht_4 : mp.2.2 ((40 * zr) + (mn.2.1 zk)) = 1
    · rw [ht_4]
      refine lv_tableIn (off := 56) (tgt := 92) hx hb dX5_pinAt_36 (by decide) (by decide) (by decide) (by decide) ?_
      refine lv_iload_n hx hb dX5_pinAt_92 rfl (lv_at hl 6 rfl) ?_
      refine bm_zb_eq (x := zb) (tgt := 117) hx hb dX5_pinAt_93 (by decide) (fun c_17 => ?_) (fun c_17 => ?_)
      · refine lv_aload_n hx hb dX5_pinAt_117 rfl (lv_at hl 3 rfl) ?_
        refine lv_iload_n hx hb dX5_pinAt_118 rfl (lv_at hl 4 rfl) ?_
        refine lv_iload hx hb dX5_pinAt_119 (lv_at hl 2 rfl) ?_
        refine bm_xcallV (As := [.int (nI zr), .int (nI (mn.2.1 zk))]) (rest := []) ⟨hx, hb, hml, hown, hts⟩ (y_low  (zr := zr) (zp := mn.2.1 zk)  (by omega) (ok_mn_pinPart _)) (cwV 2 hts gvX5_100 rfl rfl rfl hvX5_low ⟨Nat.le_of_ble_eq_true rfl, Nat.le_of_ble_eq_true rfl⟩) hK hP hD hS hA 42 5 rfl ww_42 rfl hl.1 rfl (Nat.le_of_ble_eq_true rfl) dX5_pinAt_121 ⟨Nat.le_of_ble_eq_true rfl, Nat.le_of_ble_eq_true rfl⟩ (fun ws_18 r_19 h_20 H locs hP hD hS => ?_)
        obtain ⟨rfl, v_21, rfl⟩ := h_20
        have hP : va_P D vwCl (WW ad cJ cI cZ bm pa p0 p1 p2 li wi mt ms ma mp mk mn ou) H := hP
        have hD : va_D A (WW ad cJ cI cZ bm pa p0 p1 p2 li wi mt ms ma mp mk mn ou) := hD
        refine lv_lload hx hb dX5_pinAt_124 (lv_at hl 1 rfl) ?_
        refine lv_ladd hx hb dX5_pinAt_126 ?_
        refine lv_topl (fun t_22 _ => ?_)
        exact bm_lretX (v := t_22) hx hb hr hP hD hK hS ⟨rfl, t_22, rfl⟩ dX5_pinAt_127 hlocks
      · refine lv_aload_n hx hb dX5_pinAt_96 rfl (lv_at hl 3 rfl) ?_
        refine lv_iload_n hx hb dX5_pinAt_97 rfl (lv_at hl 4 rfl) ?_
        refine lv_iload hx hb dX5_pinAt_98 (lv_at hl 2 rfl) ?_
        refine bm_xcallV (As := [.int (nI zr), .int (nI (mn.2.1 zk))]) (rest := []) ⟨hx, hb, hml, hown, hts⟩ (y_left  (zr := zr) (zp := mn.2.1 zk)  (by omega) (ok_mn_pinPart _)) (cwV 2 hts gvX5_92 rfl rfl rfl hvX5_left ⟨Nat.le_of_ble_eq_true rfl, Nat.le_of_ble_eq_true rfl⟩) hK hP hD hS hA 42 5 rfl ww_42 rfl hl.1 rfl (Nat.le_of_ble_eq_true rfl) dX5_pinAt_100 ⟨Nat.le_of_ble_eq_true rfl, Nat.le_of_ble_eq_true rfl⟩ (fun ws_23 r_24 h_25 H locs hP hD hS => ?_)
        obtain ⟨rfl, v_26, rfl⟩ := h_25
        have hP : va_P D vwCl (WW ad cJ cI cZ bm pa p0 p1 p2 li wi mt ms ma mp mk mn ou) H := hP
        have hD : va_D A (WW ad cJ cI cZ bm pa p0 p1 p2 li wi mt ms ma mp mk mn ou) := hD
        refine lv_aload_n hx hb dX5_pinAt_103 rfl (lv_at hl 3 rfl) ?_
        refine va_get (D := D) (ci := 5) (v := .ref (ad 44)) (C := RX5) (T := TX5) (N := 28) hx hb hts (inT inX5) hown hK hP 42 ww_42 rfl 5 (by decide) (hts (.fieldLink RX5 13 "BoardMovesModel" "high" "[J") (List.mem_cons_of_mem _ flX5_13)) (fun _ h9 => h9) rfl dX5_pinAt_104 ?_
        refine lv_iload hx hb dX5_pinAt_107 (lv_at hl 2 rfl) ?_
        refine bm_lald (f := ma.2.1) hx hb hK hP 44 0 ww_44 rfl (j := (mn.2.1 zk)) (ok_mn_pinPart _) (by decide) dX5_pinAt_109 ?_
        refine lv_topl (fun t_27 _ => ?_)
        refine lv_ladd hx hb dX5_pinAt_110 ?_
        refine lv_topl (fun t_28 _ => ?_)
        refine lv_lload hx hb dX5_pinAt_111 (lv_at hl 0 rfl) ?_
        refine lv_lsub hx hb dX5_pinAt_113 ?_
        refine lv_topl (fun t_29 _ => ?_)
        refine lv_goto (tgt := 127) hx hb dX5_pinAt_114 (by decide) ?_
        exact bm_lretX (v := t_29) hx hb hr hP hD hK hS ⟨rfl, t_29, rfl⟩ dX5_pinAt_127 hlocks
    · by_cases ht_5 : mp.2.2 ((40 * zr) + (mn.2.1 zk)) = 2
      · rw [ht_5]
        refine lv_tableIn (off := 92) (tgt := 128) hx hb dX5_pinAt_36 (by decide) (by decide) (by decide) (by decide) ?_
        refine lv_iload_n hx hb dX5_pinAt_128 rfl (lv_at hl 6 rfl) ?_
        refine bm_zb_eq (x := zb) (tgt := 153) hx hb dX5_pinAt_129 (by decide) (fun c_30 => ?_) (fun c_30 => ?_)
        · refine lv_aload_n hx hb dX5_pinAt_153 rfl (lv_at hl 3 rfl) ?_
          refine lv_iload_n hx hb dX5_pinAt_154 rfl (lv_at hl 4 rfl) ?_
          refine lv_iload hx hb dX5_pinAt_155 (lv_at hl 2 rfl) ?_
          refine bm_xcallV (As := [.int (nI zr), .int (nI (mn.2.1 zk))]) (rest := []) ⟨hx, hb, hml, hown, hts⟩ (y_low  (zr := zr) (zp := mn.2.1 zk)  (by omega) (ok_mn_pinPart _)) (cwV 2 hts gvX5_100 rfl rfl rfl hvX5_low ⟨Nat.le_of_ble_eq_true rfl, Nat.le_of_ble_eq_true rfl⟩) hK hP hD hS hA 42 5 rfl ww_42 rfl hl.1 rfl (Nat.le_of_ble_eq_true rfl) dX5_pinAt_157 ⟨Nat.le_of_ble_eq_true rfl, Nat.le_of_ble_eq_true rfl⟩ (fun ws_31 r_32 h_33 H locs hP hD hS => ?_)
          obtain ⟨rfl, v_34, rfl⟩ := h_33
          have hP : va_P D vwCl (WW ad cJ cI cZ bm pa p0 p1 p2 li wi mt ms ma mp mk mn ou) H := hP
          have hD : va_D A (WW ad cJ cI cZ bm pa p0 p1 p2 li wi mt ms ma mp mk mn ou) := hD
          refine lv_aload_n hx hb dX5_pinAt_160 rfl (lv_at hl 3 rfl) ?_
          refine va_get (D := D) (ci := 5) (v := .ref (ad 44)) (C := RX5) (T := TX5) (N := 28) hx hb hts (inT inX5) hown hK hP 42 ww_42 rfl 5 (by decide) (hts (.fieldLink RX5 13 "BoardMovesModel" "high" "[J") (List.mem_cons_of_mem _ flX5_13)) (fun _ h9 => h9) rfl dX5_pinAt_161 ?_
          refine lv_iload hx hb dX5_pinAt_164 (lv_at hl 2 rfl) ?_
          refine bm_lald (f := ma.2.1) hx hb hK hP 44 0 ww_44 rfl (j := (mn.2.1 zk)) (ok_mn_pinPart _) (by decide) dX5_pinAt_166 ?_
          refine lv_topl (fun t_35 _ => ?_)
          refine lv_ladd hx hb dX5_pinAt_167 ?_
          refine lv_topl (fun t_36 _ => ?_)
          refine lv_lload hx hb dX5_pinAt_168 (lv_at hl 0 rfl) ?_
          refine lv_lsub hx hb dX5_pinAt_170 ?_
          refine lv_topl (fun t_37 _ => ?_)
          exact bm_lretX (v := t_37) hx hb hr hP hD hK hS ⟨rfl, t_37, rfl⟩ dX5_pinAt_171 hlocks
        · refine lv_aload_n hx hb dX5_pinAt_132 rfl (lv_at hl 3 rfl) ?_
          refine lv_iload_n hx hb dX5_pinAt_133 rfl (lv_at hl 4 rfl) ?_
          refine lv_iload hx hb dX5_pinAt_134 (lv_at hl 2 rfl) ?_
          refine bm_xcallV (As := [.int (nI zr), .int (nI (mn.2.1 zk))]) (rest := []) ⟨hx, hb, hml, hown, hts⟩ (y_left  (zr := zr) (zp := mn.2.1 zk)  (by omega) (ok_mn_pinPart _)) (cwV 2 hts gvX5_92 rfl rfl rfl hvX5_left ⟨Nat.le_of_ble_eq_true rfl, Nat.le_of_ble_eq_true rfl⟩) hK hP hD hS hA 42 5 rfl ww_42 rfl hl.1 rfl (Nat.le_of_ble_eq_true rfl) dX5_pinAt_136 ⟨Nat.le_of_ble_eq_true rfl, Nat.le_of_ble_eq_true rfl⟩ (fun ws_38 r_39 h_40 H locs hP hD hS => ?_)
          obtain ⟨rfl, v_41, rfl⟩ := h_40
          have hP : va_P D vwCl (WW ad cJ cI cZ bm pa p0 p1 p2 li wi mt ms ma mp mk mn ou) H := hP
          have hD : va_D A (WW ad cJ cI cZ bm pa p0 p1 p2 li wi mt ms ma mp mk mn ou) := hD
          refine lv_aload_n hx hb dX5_pinAt_139 rfl (lv_at hl 3 rfl) ?_
          refine va_get (D := D) (ci := 5) (v := .ref (ad 43)) (C := RX5) (T := TX5) (N := 28) hx hb hts (inT inX5) hown hK hP 42 ww_42 rfl 4 (by decide) (hts (.fieldLink RX5 7 "BoardMovesModel" "wide" "[J") (List.mem_cons_of_mem _ flX5_7)) (fun _ h9 => h9) rfl dX5_pinAt_140 ?_
          refine lv_iload hx hb dX5_pinAt_143 (lv_at hl 2 rfl) ?_
          refine bm_lald (f := ma.1) hx hb hK hP 43 0 ww_43 rfl (j := (mn.2.1 zk)) (ok_mn_pinPart _) (by decide) dX5_pinAt_145 ?_
          refine lv_topl (fun t_42 _ => ?_)
          refine lv_ladd hx hb dX5_pinAt_146 ?_
          refine lv_topl (fun t_43 _ => ?_)
          refine lv_lload hx hb dX5_pinAt_147 (lv_at hl 1 rfl) ?_
          refine lv_lsub hx hb dX5_pinAt_149 ?_
          refine lv_topl (fun t_44 _ => ?_)
          refine lv_goto (tgt := 171) hx hb dX5_pinAt_150 (by decide) ?_
          exact bm_lretX (v := t_44) hx hb hr hP hD hK hS ⟨rfl, t_44, rfl⟩ dX5_pinAt_171 hlocks
      · refine lv_tableOut (tgt := 172) hx hb dX5_pinAt_36 (by rw [nI_toInt (bm40 (ok_mp_turns _))]; omega) (by decide) ?_
        refine lv_iload_n hx hb dX5_pinAt_172 rfl (lv_at hl 6 rfl) ?_
        refine bm_zb_eq (x := zb) (tgt := 189) hx hb dX5_pinAt_173 (by decide) (fun c_45 => ?_) (fun c_45 => ?_)
        · refine lv_aload_n hx hb dX5_pinAt_189 rfl (lv_at hl 3 rfl) ?_
          refine lv_iload_n hx hb dX5_pinAt_190 rfl (lv_at hl 4 rfl) ?_
          refine lv_iload hx hb dX5_pinAt_191 (lv_at hl 2 rfl) ?_
          refine bm_xcallV (As := [.int (nI zr), .int (nI (mn.2.1 zk))]) (rest := []) ⟨hx, hb, hml, hown, hts⟩ (y_low  (zr := zr) (zp := mn.2.1 zk)  (by omega) (ok_mn_pinPart _)) (cwV 2 hts gvX5_100 rfl rfl rfl hvX5_low ⟨Nat.le_of_ble_eq_true rfl, Nat.le_of_ble_eq_true rfl⟩) hK hP hD hS hA 42 5 rfl ww_42 rfl hl.1 rfl (Nat.le_of_ble_eq_true rfl) dX5_pinAt_193 ⟨Nat.le_of_ble_eq_true rfl, Nat.le_of_ble_eq_true rfl⟩ (fun ws_46 r_47 h_48 H locs hP hD hS => ?_)
          obtain ⟨rfl, v_49, rfl⟩ := h_48
          have hP : va_P D vwCl (WW ad cJ cI cZ bm pa p0 p1 p2 li wi mt ms ma mp mk mn ou) H := hP
          have hD : va_D A (WW ad cJ cI cZ bm pa p0 p1 p2 li wi mt ms ma mp mk mn ou) := hD
          refine lv_aload_n hx hb dX5_pinAt_196 rfl (lv_at hl 3 rfl) ?_
          refine va_get (D := D) (ci := 5) (v := .ref (ad 43)) (C := RX5) (T := TX5) (N := 28) hx hb hts (inT inX5) hown hK hP 42 ww_42 rfl 4 (by decide) (hts (.fieldLink RX5 7 "BoardMovesModel" "wide" "[J") (List.mem_cons_of_mem _ flX5_7)) (fun _ h9 => h9) rfl dX5_pinAt_197 ?_
          refine lv_iload hx hb dX5_pinAt_200 (lv_at hl 2 rfl) ?_
          refine bm_lald (f := ma.1) hx hb hK hP 43 0 ww_43 rfl (j := (mn.2.1 zk)) (ok_mn_pinPart _) (by decide) dX5_pinAt_202 ?_
          refine lv_topl (fun t_50 _ => ?_)
          refine lv_ladd hx hb dX5_pinAt_203 ?_
          refine lv_topl (fun t_51 _ => ?_)
          refine lv_lload hx hb dX5_pinAt_204 (lv_at hl 1 rfl) ?_
          refine lv_lsub hx hb dX5_pinAt_206 ?_
          refine lv_topl (fun t_52 _ => ?_)
          exact bm_lretX (v := t_52) hx hb hr hP hD hK hS ⟨rfl, t_52, rfl⟩ dX5_pinAt_207 hlocks
        · refine lv_aload_n hx hb dX5_pinAt_176 rfl (lv_at hl 3 rfl) ?_
          refine lv_iload_n hx hb dX5_pinAt_177 rfl (lv_at hl 4 rfl) ?_
          refine lv_iload hx hb dX5_pinAt_178 (lv_at hl 2 rfl) ?_
          refine bm_xcallV (As := [.int (nI zr), .int (nI (mn.2.1 zk))]) (rest := []) ⟨hx, hb, hml, hown, hts⟩ (y_left  (zr := zr) (zp := mn.2.1 zk)  (by omega) (ok_mn_pinPart _)) (cwV 2 hts gvX5_92 rfl rfl rfl hvX5_left ⟨Nat.le_of_ble_eq_true rfl, Nat.le_of_ble_eq_true rfl⟩) hK hP hD hS hA 42 5 rfl ww_42 rfl hl.1 rfl (Nat.le_of_ble_eq_true rfl) dX5_pinAt_180 ⟨Nat.le_of_ble_eq_true rfl, Nat.le_of_ble_eq_true rfl⟩ (fun ws_53 r_54 h_55 H locs hP hD hS => ?_)
          obtain ⟨rfl, v_56, rfl⟩ := h_55
          have hP : va_P D vwCl (WW ad cJ cI cZ bm pa p0 p1 p2 li wi mt ms ma mp mk mn ou) H := hP
          have hD : va_D A (WW ad cJ cI cZ bm pa p0 p1 p2 li wi mt ms ma mp mk mn ou) := hD
          refine lv_lload hx hb dX5_pinAt_183 (lv_at hl 0 rfl) ?_
          refine lv_ladd hx hb dX5_pinAt_185 ?_
          refine lv_topl (fun t_57 _ => ?_)
          refine lv_goto (tgt := 207) hx hb dX5_pinAt_186 (by decide) ?_
          exact bm_lretX (v := t_57) hx hb hr hP hD hK hS ⟨rfl, t_57, rfl⟩ dX5_pinAt_207 hlocks

set_option maxHeartbeats 8000000 in
set_option maxRecDepth 100000 in
theorem y_reach {l : Launch} {D : va_G} {ad : Nat → Nat} {cJ cI cZ : ClassId} {bm : gBM} {pa : gPA} {p0 p1 p2 : gPL} {li : gLI} {wi : gWI} {mt : Nat} {ms : gMS} {ma : gMA} {mp : gMP} {mk : gMK} {mn : gMN} {ou : Nat → Int64} {zr : Nat} {zn : Nat} {zb : Bool} (ok_ms_pins : ms.2.2.2.2.2.2.1 ≤ 120) (ok_mn_pinNet : ∀ i, mn.1 i < 40) (ok_mn_pinPart : ∀ i, mn.2.1 i < 40) (ok_mp_turns : ∀ i, mp.2.2 i < 40) (hp0 : zr < 3) (hp1 : zn < 40)  : bm_Wx l yX5_reach wsX5_reach ({ frames := 2, cells := 0, slots := 0, locals := 50 }) D vwCl [(cJ, .long), (cI, .int), (cZ, .boolean)] (WW ad cJ cI cZ bm pa p0 p1 p2 li wi mt ms ma mp mk mn ou) [.ref (ad 42), .int (nI zr), .int (nI zn), .int (bm_b zb)] (fun ws9 r9 => ws9 = (WW ad cJ cI cZ bm pa p0 p1 p2 li wi mt ms ma mp mk mn ou) ∧ ∃ v9 : Int64, r9 = some (.long v9)) := by
  intro sz
  refine Met.ofW (cc := cX5_reach) (maxL := 12) (ret := (some .long)) (by decide) rfl ?_
  intro p e s m args below meth c s₁ B hml hv
  obtain ⟨ha, hsz, hP, hK, hD0⟩ := hv
  have hx := B.exec
  have hb := B.bytes
  have hr := B.returns
  have hts := atoms_spec (ws := wsX5_reach) B.pre
  have hown : s.vm.findClass RX5 = some m.cls := findClass_of_methodNamed B.named
  have hlocks := B.notSynchronized
  subst hsz
  have hD := hD0.self (sz := s.heap.size)
  generalize hAe : va_A (WW ad cJ cI cZ bm pa p0 p1 p2 li wi mt ms ma mp mk mn ou) s.heap.size = A at hD ⊢
  have hA : ∀ q : Nat, s.heap.size ≤ q → A q := fun q h => by rw [← hAe]; exact Or.inr h
  have hS : va_S A s.heap s.heap [] := va_S.rf
  have hl := lv_entry ([.ref (ad 42), .int (nI zr), .int (nI zn), .int (bm_b zb)]) (n := 12) (Nat.le_of_ble_eq_true rfl)
  refine W.eq (g2 := entryFrame m ([.ref (ad 42), .int (nI zr), .int (nI zn), .int (bm_b zb)] : List Value).toArray 12) (by rw [ha]) ?_
  rw [lg_entry_eq]
  generalize (lg_sl ([.ref (ad 42), .int (nI zr), .int (nI zn), .int (bm_b zb)]) ++ List.replicate (12 - (lg_sl ([.ref (ad 42), .int (nI zr), .int (nI zn), .int (bm_b zb)])).length) Slot.unset).toArray = ls at hl ⊢
  have hl : lv_has ls 12 [(0, .ref (ad 42)), (1, .int (nI zr)), (2, .int (nI zn)), (3, .int (bm_b zb))] := hl
  refine lv_iconst (v := bm_b false) hx hb dX5_reach_0 (by decide) ?_
  refine lv_istore (lv' := [(4, .int (bm_b false)), (0, .ref (ad 42)), (1, .int (nI zr)), (2, .int (nI zn)), (3, .int (bm_b zb))]) hx hb dX5_reach_1 hl (by decide) rfl (fun ls hl => ?_)
  refine lv_lconst (v := 0) hx hb dX5_reach_3 (by decide) ?_
  refine lv_lstore (lv' := [(5, .long 0), (4, .int (bm_b false)), (0, .ref (ad 42)), (1, .int (nI zr)), (2, .int (nI zn)), (3, .int (bm_b zb))]) hx hb dX5_reach_4 hl (by decide) rfl (fun ls hl => ?_)
  refine lv_lconst (v := 0) hx hb dX5_reach_6 (by decide) ?_
  refine lv_lstore (lv' := [(7, .long 0), (5, .long 0), (4, .int (bm_b false)), (0, .ref (ad 42)), (1, .int (nI zr)), (2, .int (nI zn)), (3, .int (bm_b zb))]) hx hb dX5_reach_7 hl (by decide) rfl (fun ls hl => ?_)
  refine lv_iconst (v := nI 0) hx hb dX5_reach_9 (by decide) ?_
  refine lv_istore (lv' := [(9, .int (nI 0)), (7, .long 0), (5, .long 0), (4, .int (bm_b false)), (0, .ref (ad 42)), (1, .int (nI zr)), (2, .int (nI zn)), (3, .int (bm_b zb))]) hx hb dX5_reach_10 hl (by decide) rfl (fun ls hl => ?_)
  have lp_1 : ∀ (k_3 : Nat) (i_2 : Nat) (v_5 : Bool) (v_6 : Int64) (v_7 : Int64), i_2 ≤ ms.2.2.2.2.2.2.1 → ms.2.2.2.2.2.2.1 < i_2 + k_3 → ∀ (H : Heap) (locs : List Loc), va_P D vwCl (WW ad cJ cI cZ bm pa p0 p1 p2 li wi mt ms ma mp mk mn ou) H → va_D A (WW ad cJ cI cZ bm pa p0 p1 p2 li wi mt ms ma mp mk mn ou) → va_S A s.heap H locs → ∀ (ls : Array Slot), lv_has ls 12 [(9, .int (nI i_2)), (7, .long v_7), (5, .long v_6), (4, .int (bm_b v_5)), (0, .ref (ad 42)), (1, .int (nI zr)), (2, .int (nI zn)), (3, .int (bm_b zb))] → W p l e (headSpec wsX5_reach ({ frames := 2, cells := 0, slots := 0, locals := 50 })).room s m args below meth c H locs 0 0 (MQ below (bm_Wxq D vwCl [(cJ, .long), (cI, .int), (cZ, .boolean)] (fun ws9 r9 => ws9 = (WW ad cJ cI cZ bm pa p0 p1 p2 li wi mt ms ma mp mk mn ou) ∧ ∃ v9 : Int64, r9 = some (.long v9)) A) args s 0 0 A) (F0 m 12 ls []) := by
    intro k_3
    induction k_3 with
    | zero => intro i_2 v_5 v_6 v_7 hi_8 hk_9; exfalso; omega
    | succ k_3 ih_4 =>
      intro i_2 v_5 v_6 v_7 hi_8 hk_9  H locs hP hD hS ls hl
      refine lv_iload hx hb dX5_reach_12 (lv_at hl 0 rfl) ?_
      refine lv_aload_n hx hb dX5_reach_14 rfl (lv_at hl 4 rfl) ?_
      refine va_get (D := D) (ci := 5) (v := .int (nI ms.2.2.2.2.2.2.1)) (C := RX5) (T := TX5) (N := 28) hx hb hts (inT inX5) hown hK hP 42 ww_42 rfl 21 (by decide) (hts (.fieldLink RX5 163 "BoardMovesModel" "pins" "I") (List.mem_cons_of_mem _ flX5_163)) (fun _ h9 => h9) rfl dX5_reach_15 ?_
      refine bm_ni_ge (x := i_2) (y := ms.2.2.2.2.2.2.1) (tgt := 113) hx hb (by omega) (by omega) dX5_reach_18 (by decide) (fun c_10 => ?_) (fun c_10 => ?_)
      · refine lv_lload hx hb dX5_reach_113 (lv_at hl 1 rfl) ?_
        refine lv_lload hx hb dX5_reach_115 (lv_at hl 2 rfl) ?_
        refine lv_lsub hx hb dX5_reach_117 ?_
        refine lv_topl (fun t_11 _ => ?_)
        exact bm_lretX (v := t_11) hx hb hr hP hD hK hS ⟨rfl, t_11, rfl⟩ dX5_reach_118 hlocks
      · refine lv_aload_n hx hb dX5_reach_21 rfl (lv_at hl 4 rfl) ?_
        refine va_get (D := D) (ci := 5) (v := .ref (ad 57)) (C := RX5) (T := TX5) (N := 28) hx hb hts (inT inX5) hown hK hP 42 ww_42 rfl 22 (by decide) (hts (.fieldLink RX5 54 "BoardMovesModel" "pinNet" "[I") (List.mem_cons_of_mem _ flX5_54)) (fun _ h9 => h9) rfl dX5_reach_22 ?_
        refine lv_iload hx hb dX5_reach_25 (lv_at hl 0 rfl) ?_
        refine bm_nald (f := mn.1) hx hb hK hP 57 1 ww_57 rfl (j := i_2) (by omega) (by decide) dX5_reach_27 ?_
        refine lv_iload_n hx hb dX5_reach_28 rfl (lv_at hl 6 rfl) ?_
        refine bm_ni_ne (x := (mn.1 i_2)) (y := zn) (tgt := 107) hx hb (bm40 (ok_mn_pinNet _)) (by omega) dX5_reach_29 (by decide) (fun c_12 => ?_) (fun c_12 => ?_)
        · refine lv_iinc (v := (nI (i_2 + 1))) (lv' := [(9, .int (nI (i_2 + 1))), (7, .long v_7), (5, .long v_6), (4, .int (bm_b v_5)), (0, .ref (ad 42)), (1, .int (nI zr)), (2, .int (nI zn)), (3, .int (bm_b zb))]) hx hb dX5_reach_107 hl (k := 0) rfl (nI_1 i_2) (by decide) rfl (fun ls hl => ?_)
          refine lv_goto (tgt := 12) hx hb dX5_reach_110 (by decide) ?_
          exact ih_4 (i_2 + 1) v_5 v_6 v_7 (by omega) (by omega)  _ _ hP hD hS _ (lv_sub hl [0, 1, 2, 3, 4, 5, 6, 7] rfl)
        · refine lv_aload_n hx hb dX5_reach_32 rfl (lv_at hl 4 rfl) ?_
          refine va_get (D := D) (ci := 5) (v := .ref (ad 49)) (C := RX5) (T := TX5) (N := 28) hx hb hts (inT inX5) hown hK hP 42 ww_42 rfl 10 (by decide) (hts (.fieldLink RX5 30 "BoardMovesModel" "placed" "[Z") (List.mem_cons_of_mem _ flX5_30)) (fun _ h9 => h9) rfl dX5_reach_33 ?_
          refine lv_aload_n hx hb dX5_reach_36 rfl (lv_at hl 4 rfl) ?_
          refine va_get (D := D) (ci := 5) (v := .ref (ad 58)) (C := RX5) (T := TX5) (N := 28) hx hb hts (inT inX5) hown hK hP 42 ww_42 rfl 23 (by decide) (hts (.fieldLink RX5 57 "BoardMovesModel" "pinPart" "[I") (List.mem_cons_of_mem _ flX5_57)) (fun _ h9 => h9) rfl dX5_reach_37 ?_
          refine lv_iload hx hb dX5_reach_40 (lv_at hl 0 rfl) ?_
          refine bm_nald (f := mn.2.1) hx hb hK hP 58 1 ww_58 rfl (j := i_2) (by omega) (by decide) dX5_reach_42 ?_
          refine bm_zald (f := ma.2.2.2.2.2.2) hx hb hK hP 49 2 ww_49 rfl (j := (mn.2.1 i_2)) (ok_mn_pinPart _) (by decide) dX5_reach_43 ?_
          refine bm_zb_ne (x := (ma.2.2.2.2.2.2 (mn.2.1 i_2))) (tgt := 50) hx hb dX5_reach_44 (by decide) (fun c_13 => ?_) (fun c_13 => ?_)
          · refine lv_aload_n hx hb dX5_reach_50 rfl (lv_at hl 4 rfl) ?_
            refine lv_iload_n hx hb dX5_reach_51 rfl (lv_at hl 5 rfl) ?_
            refine lv_iload hx hb dX5_reach_52 (lv_at hl 0 rfl) ?_
            refine lv_iload_n hx hb dX5_reach_54 rfl (lv_at hl 7 rfl) ?_
            refine bm_xcallV (As := [.int (nI zr), .int (nI i_2), .int (bm_b zb)]) (rest := []) ⟨hx, hb, hml, hown, hts⟩ (y_pinAt  (zr := zr) (zk := i_2) (zb := zb) ok_mn_pinPart ok_mp_turns (by omega) (by omega)) (cwV 3 hts gvX5_166 rfl rfl rfl hvX5_pinAt ⟨Nat.le_of_ble_eq_true rfl, Nat.le_of_ble_eq_true rfl⟩) hK hP hD hS hA 42 5 rfl ww_42 rfl hl.1 rfl (Nat.le_of_ble_eq_true rfl) dX5_reach_55 ⟨Nat.le_of_ble_eq_true rfl, Nat.le_of_ble_eq_true rfl⟩ (fun ws_14 r_15 h_16 H locs hP hD hS => ?_)
            obtain ⟨rfl, v_17, rfl⟩ := h_16
            have hP : va_P D vwCl (WW ad cJ cI cZ bm pa p0 p1 p2 li wi mt ms ma mp mk mn ou) H := hP
            have hD : va_D A (WW ad cJ cI cZ bm pa p0 p1 p2 li wi mt ms ma mp mk mn ou) := hD
            refine lv_lstore (lv' := [(10, .long v_17), (9, .int (nI i_2)), (7, .long v_7), (5, .long v_6), (4, .int (bm_b v_5)), (0, .ref (ad 42)), (1, .int (nI zr)), (2, .int (nI zn)), (3, .int (bm_b zb))]) hx hb dX5_reach_58 hl (by decide) rfl (fun ls hl => ?_)
            refine lv_iload hx hb dX5_reach_60 (lv_at hl 4 rfl) ?_
            refine bm_zb_eq (x := v_5) (tgt := 73) hx hb dX5_reach_62 (by decide) (fun c_18 => ?_) (fun c_18 => ?_)
            · refine lv_lload hx hb dX5_reach_73 (lv_at hl 0 rfl) ?_
              refine lv_goto (tgt := 80) hx hb dX5_reach_75 (by decide) ?_
              refine lv_lstore (lv' := [(5, .long v_17), (10, .long v_17), (9, .int (nI i_2)), (7, .long v_7), (4, .int (bm_b v_5)), (0, .ref (ad 42)), (1, .int (nI zr)), (2, .int (nI zn)), (3, .int (bm_b zb))]) hx hb dX5_reach_80 hl (by decide) rfl (fun ls hl => ?_)
              refine lv_iload hx hb dX5_reach_82 (lv_at hl 4 rfl) ?_
              refine bm_zb_eq (x := v_5) (tgt := 95) hx hb dX5_reach_84 (by decide) (fun c_19 => ?_) (fun c_19 => ?_)
              · refine lv_lload hx hb dX5_reach_95 (lv_at hl 1 rfl) ?_
                refine lv_goto (tgt := 102) hx hb dX5_reach_97 (by decide) ?_
                refine lv_lstore (lv' := [(7, .long v_17), (5, .long v_17), (10, .long v_17), (9, .int (nI i_2)), (4, .int (bm_b v_5)), (0, .ref (ad 42)), (1, .int (nI zr)), (2, .int (nI zn)), (3, .int (bm_b zb))]) hx hb dX5_reach_102 hl (by decide) rfl (fun ls hl => ?_)
                refine lv_iconst (v := bm_b true) hx hb dX5_reach_104 (by decide) ?_
                refine lv_istore (lv' := [(4, .int (bm_b true)), (7, .long v_17), (5, .long v_17), (10, .long v_17), (9, .int (nI i_2)), (0, .ref (ad 42)), (1, .int (nI zr)), (2, .int (nI zn)), (3, .int (bm_b zb))]) hx hb dX5_reach_105 hl (by decide) rfl (fun ls hl => ?_)
                refine lv_iinc (v := (nI (i_2 + 1))) (lv' := [(9, .int (nI (i_2 + 1))), (4, .int (bm_b true)), (7, .long v_17), (5, .long v_17), (10, .long v_17), (0, .ref (ad 42)), (1, .int (nI zr)), (2, .int (nI zn)), (3, .int (bm_b zb))]) hx hb dX5_reach_107 hl (k := 4) rfl (nI_1 i_2) (by decide) rfl (fun ls hl => ?_)
                refine lv_goto (tgt := 12) hx hb dX5_reach_110 (by decide) ?_
                exact ih_4 (i_2 + 1) true v_17 v_17 (by omega) (by omega)  _ _ hP hD hS _ (lv_sub hl [0, 2, 3, 1, 5, 6, 7, 8] rfl)
              · refine lv_lload hx hb dX5_reach_87 (lv_at hl 1 rfl) ?_
                refine lv_lload hx hb dX5_reach_89 (lv_at hl 3 rfl) ?_
                refine bm_lc_le (x := v_17) (y := v_7) (tgt := 100) hx hb dX5_reach_91 dX5_reach_92 (by decide) (fun c_20 => ?_) (fun c_20 => ?_)
                · refine lv_lload hx hb dX5_reach_100 (lv_at hl 3 rfl) ?_
                  refine lv_lstore (lv' := [(7, .long v_7), (5, .long v_17), (10, .long v_17), (9, .int (nI i_2)), (4, .int (bm_b v_5)), (0, .ref (ad 42)), (1, .int (nI zr)), (2, .int (nI zn)), (3, .int (bm_b zb))]) hx hb dX5_reach_102 hl (by decide) rfl (fun ls hl => ?_)
                  refine lv_iconst (v := bm_b true) hx hb dX5_reach_104 (by decide) ?_
                  refine lv_istore (lv' := [(4, .int (bm_b true)), (7, .long v_7), (5, .long v_17), (10, .long v_17), (9, .int (nI i_2)), (0, .ref (ad 42)), (1, .int (nI zr)), (2, .int (nI zn)), (3, .int (bm_b zb))]) hx hb dX5_reach_105 hl (by decide) rfl (fun ls hl => ?_)
                  refine lv_iinc (v := (nI (i_2 + 1))) (lv' := [(9, .int (nI (i_2 + 1))), (4, .int (bm_b true)), (7, .long v_7), (5, .long v_17), (10, .long v_17), (0, .ref (ad 42)), (1, .int (nI zr)), (2, .int (nI zn)), (3, .int (bm_b zb))]) hx hb dX5_reach_107 hl (k := 4) rfl (nI_1 i_2) (by decide) rfl (fun ls hl => ?_)
                  refine lv_goto (tgt := 12) hx hb dX5_reach_110 (by decide) ?_
                  exact ih_4 (i_2 + 1) true v_17 v_7 (by omega) (by omega)  _ _ hP hD hS _ (lv_sub hl [0, 2, 3, 1, 5, 6, 7, 8] rfl)
                · refine lv_lload hx hb dX5_reach_95 (lv_at hl 1 rfl) ?_
                  refine lv_goto (tgt := 102) hx hb dX5_reach_97 (by decide) ?_
                  refine lv_lstore (lv' := [(7, .long v_17), (5, .long v_17), (10, .long v_17), (9, .int (nI i_2)), (4, .int (bm_b v_5)), (0, .ref (ad 42)), (1, .int (nI zr)), (2, .int (nI zn)), (3, .int (bm_b zb))]) hx hb dX5_reach_102 hl (by decide) rfl (fun ls hl => ?_)
                  refine lv_iconst (v := bm_b true) hx hb dX5_reach_104 (by decide) ?_
                  refine lv_istore (lv' := [(4, .int (bm_b true)), (7, .long v_17), (5, .long v_17), (10, .long v_17), (9, .int (nI i_2)), (0, .ref (ad 42)), (1, .int (nI zr)), (2, .int (nI zn)), (3, .int (bm_b zb))]) hx hb dX5_reach_105 hl (by decide) rfl (fun ls hl => ?_)
                  refine lv_iinc (v := (nI (i_2 + 1))) (lv' := [(9, .int (nI (i_2 + 1))), (4, .int (bm_b true)), (7, .long v_17), (5, .long v_17), (10, .long v_17), (0, .ref (ad 42)), (1, .int (nI zr)), (2, .int (nI zn)), (3, .int (bm_b zb))]) hx hb dX5_reach_107 hl (k := 4) rfl (nI_1 i_2) (by decide) rfl (fun ls hl => ?_)
                  refine lv_goto (tgt := 12) hx hb dX5_reach_110 (by decide) ?_
                  exact ih_4 (i_2 + 1) true v_17 v_17 (by omega) (by omega)  _ _ hP hD hS _ (lv_sub hl [0, 2, 3, 1, 5, 6, 7, 8] rfl)
            · refine lv_lload hx hb dX5_reach_65 (lv_at hl 0 rfl) ?_
              refine lv_lload hx hb dX5_reach_67 (lv_at hl 3 rfl) ?_
              refine bm_lc_ge (x := v_17) (y := v_6) (tgt := 78) hx hb dX5_reach_69 dX5_reach_70 (by decide) (fun c_21 => ?_) (fun c_21 => ?_)
              · refine lv_lload hx hb dX5_reach_78 (lv_at hl 3 rfl) ?_
                refine lv_lstore (lv' := [(5, .long v_6), (10, .long v_17), (9, .int (nI i_2)), (7, .long v_7), (4, .int (bm_b v_5)), (0, .ref (ad 42)), (1, .int (nI zr)), (2, .int (nI zn)), (3, .int (bm_b zb))]) hx hb dX5_reach_80 hl (by decide) rfl (fun ls hl => ?_)
                refine lv_iload hx hb dX5_reach_82 (lv_at hl 4 rfl) ?_
                refine bm_zb_eq (x := v_5) (tgt := 95) hx hb dX5_reach_84 (by decide) (fun c_22 => ?_) (fun c_22 => ?_)
                · refine lv_lload hx hb dX5_reach_95 (lv_at hl 1 rfl) ?_
                  refine lv_goto (tgt := 102) hx hb dX5_reach_97 (by decide) ?_
                  refine lv_lstore (lv' := [(7, .long v_17), (5, .long v_6), (10, .long v_17), (9, .int (nI i_2)), (4, .int (bm_b v_5)), (0, .ref (ad 42)), (1, .int (nI zr)), (2, .int (nI zn)), (3, .int (bm_b zb))]) hx hb dX5_reach_102 hl (by decide) rfl (fun ls hl => ?_)
                  refine lv_iconst (v := bm_b true) hx hb dX5_reach_104 (by decide) ?_
                  refine lv_istore (lv' := [(4, .int (bm_b true)), (7, .long v_17), (5, .long v_6), (10, .long v_17), (9, .int (nI i_2)), (0, .ref (ad 42)), (1, .int (nI zr)), (2, .int (nI zn)), (3, .int (bm_b zb))]) hx hb dX5_reach_105 hl (by decide) rfl (fun ls hl => ?_)
                  refine lv_iinc (v := (nI (i_2 + 1))) (lv' := [(9, .int (nI (i_2 + 1))), (4, .int (bm_b true)), (7, .long v_17), (5, .long v_6), (10, .long v_17), (0, .ref (ad 42)), (1, .int (nI zr)), (2, .int (nI zn)), (3, .int (bm_b zb))]) hx hb dX5_reach_107 hl (k := 4) rfl (nI_1 i_2) (by decide) rfl (fun ls hl => ?_)
                  refine lv_goto (tgt := 12) hx hb dX5_reach_110 (by decide) ?_
                  exact ih_4 (i_2 + 1) true v_6 v_17 (by omega) (by omega)  _ _ hP hD hS _ (lv_sub hl [0, 2, 3, 1, 5, 6, 7, 8] rfl)
                · refine lv_lload hx hb dX5_reach_87 (lv_at hl 1 rfl) ?_
                  refine lv_lload hx hb dX5_reach_89 (lv_at hl 3 rfl) ?_
                  refine bm_lc_le (x := v_17) (y := v_7) (tgt := 100) hx hb dX5_reach_91 dX5_reach_92 (by decide) (fun c_23 => ?_) (fun c_23 => ?_)
                  · refine lv_lload hx hb dX5_reach_100 (lv_at hl 3 rfl) ?_
                    refine lv_lstore (lv' := [(7, .long v_7), (5, .long v_6), (10, .long v_17), (9, .int (nI i_2)), (4, .int (bm_b v_5)), (0, .ref (ad 42)), (1, .int (nI zr)), (2, .int (nI zn)), (3, .int (bm_b zb))]) hx hb dX5_reach_102 hl (by decide) rfl (fun ls hl => ?_)
                    refine lv_iconst (v := bm_b true) hx hb dX5_reach_104 (by decide) ?_
                    refine lv_istore (lv' := [(4, .int (bm_b true)), (7, .long v_7), (5, .long v_6), (10, .long v_17), (9, .int (nI i_2)), (0, .ref (ad 42)), (1, .int (nI zr)), (2, .int (nI zn)), (3, .int (bm_b zb))]) hx hb dX5_reach_105 hl (by decide) rfl (fun ls hl => ?_)
                    refine lv_iinc (v := (nI (i_2 + 1))) (lv' := [(9, .int (nI (i_2 + 1))), (4, .int (bm_b true)), (7, .long v_7), (5, .long v_6), (10, .long v_17), (0, .ref (ad 42)), (1, .int (nI zr)), (2, .int (nI zn)), (3, .int (bm_b zb))]) hx hb dX5_reach_107 hl (k := 4) rfl (nI_1 i_2) (by decide) rfl (fun ls hl => ?_)
                    refine lv_goto (tgt := 12) hx hb dX5_reach_110 (by decide) ?_
                    exact ih_4 (i_2 + 1) true v_6 v_7 (by omega) (by omega)  _ _ hP hD hS _ (lv_sub hl [0, 2, 3, 1, 5, 6, 7, 8] rfl)
                  · refine lv_lload hx hb dX5_reach_95 (lv_at hl 1 rfl) ?_
                    refine lv_goto (tgt := 102) hx hb dX5_reach_97 (by decide) ?_
                    refine lv_lstore (lv' := [(7, .long v_17), (5, .long v_6), (10, .long v_17), (9, .int (nI i_2)), (4, .int (bm_b v_5)), (0, .ref (ad 42)), (1, .int (nI zr)), (2, .int (nI zn)), (3, .int (bm_b zb))]) hx hb dX5_reach_102 hl (by decide) rfl (fun ls hl => ?_)
                    refine lv_iconst (v := bm_b true) hx hb dX5_reach_104 (by decide) ?_
                    refine lv_istore (lv' := [(4, .int (bm_b true)), (7, .long v_17), (5, .long v_6), (10, .long v_17), (9, .int (nI i_2)), (0, .ref (ad 42)), (1, .int (nI zr)), (2, .int (nI zn)), (3, .int (bm_b zb))]) hx hb dX5_reach_105 hl (by decide) rfl (fun ls hl => ?_)
                    refine lv_iinc (v := (nI (i_2 + 1))) (lv' := [(9, .int (nI (i_2 + 1))), (4, .int (bm_b true)), (7, .long v_17), (5, .long v_6), (10, .long v_17), (0, .ref (ad 42)), (1, .int (nI zr)), (2, .int (nI zn)), (3, .int (bm_b zb))]) hx hb dX5_reach_107 hl (k := 4) rfl (nI_1 i_2) (by decide) rfl (fun ls hl => ?_)
                    refine lv_goto (tgt := 12) hx hb dX5_reach_110 (by decide) ?_
                    exact ih_4 (i_2 + 1) true v_6 v_17 (by omega) (by omega)  _ _ hP hD hS _ (lv_sub hl [0, 2, 3, 1, 5, 6, 7, 8] rfl)
              · refine lv_lload hx hb dX5_reach_73 (lv_at hl 0 rfl) ?_
                refine lv_goto (tgt := 80) hx hb dX5_reach_75 (by decide) ?_
                refine lv_lstore (lv' := [(5, .long v_17), (10, .long v_17), (9, .int (nI i_2)), (7, .long v_7), (4, .int (bm_b v_5)), (0, .ref (ad 42)), (1, .int (nI zr)), (2, .int (nI zn)), (3, .int (bm_b zb))]) hx hb dX5_reach_80 hl (by decide) rfl (fun ls hl => ?_)
                refine lv_iload hx hb dX5_reach_82 (lv_at hl 4 rfl) ?_
                refine bm_zb_eq (x := v_5) (tgt := 95) hx hb dX5_reach_84 (by decide) (fun c_24 => ?_) (fun c_24 => ?_)
                · refine lv_lload hx hb dX5_reach_95 (lv_at hl 1 rfl) ?_
                  refine lv_goto (tgt := 102) hx hb dX5_reach_97 (by decide) ?_
                  refine lv_lstore (lv' := [(7, .long v_17), (5, .long v_17), (10, .long v_17), (9, .int (nI i_2)), (4, .int (bm_b v_5)), (0, .ref (ad 42)), (1, .int (nI zr)), (2, .int (nI zn)), (3, .int (bm_b zb))]) hx hb dX5_reach_102 hl (by decide) rfl (fun ls hl => ?_)
                  refine lv_iconst (v := bm_b true) hx hb dX5_reach_104 (by decide) ?_
                  refine lv_istore (lv' := [(4, .int (bm_b true)), (7, .long v_17), (5, .long v_17), (10, .long v_17), (9, .int (nI i_2)), (0, .ref (ad 42)), (1, .int (nI zr)), (2, .int (nI zn)), (3, .int (bm_b zb))]) hx hb dX5_reach_105 hl (by decide) rfl (fun ls hl => ?_)
                  refine lv_iinc (v := (nI (i_2 + 1))) (lv' := [(9, .int (nI (i_2 + 1))), (4, .int (bm_b true)), (7, .long v_17), (5, .long v_17), (10, .long v_17), (0, .ref (ad 42)), (1, .int (nI zr)), (2, .int (nI zn)), (3, .int (bm_b zb))]) hx hb dX5_reach_107 hl (k := 4) rfl (nI_1 i_2) (by decide) rfl (fun ls hl => ?_)
                  refine lv_goto (tgt := 12) hx hb dX5_reach_110 (by decide) ?_
                  exact ih_4 (i_2 + 1) true v_17 v_17 (by omega) (by omega)  _ _ hP hD hS _ (lv_sub hl [0, 2, 3, 1, 5, 6, 7, 8] rfl)
                · refine lv_lload hx hb dX5_reach_87 (lv_at hl 1 rfl) ?_
                  refine lv_lload hx hb dX5_reach_89 (lv_at hl 3 rfl) ?_
                  refine bm_lc_le (x := v_17) (y := v_7) (tgt := 100) hx hb dX5_reach_91 dX5_reach_92 (by decide) (fun c_25 => ?_) (fun c_25 => ?_)
                  · refine lv_lload hx hb dX5_reach_100 (lv_at hl 3 rfl) ?_
                    refine lv_lstore (lv' := [(7, .long v_7), (5, .long v_17), (10, .long v_17), (9, .int (nI i_2)), (4, .int (bm_b v_5)), (0, .ref (ad 42)), (1, .int (nI zr)), (2, .int (nI zn)), (3, .int (bm_b zb))]) hx hb dX5_reach_102 hl (by decide) rfl (fun ls hl => ?_)
                    refine lv_iconst (v := bm_b true) hx hb dX5_reach_104 (by decide) ?_
                    refine lv_istore (lv' := [(4, .int (bm_b true)), (7, .long v_7), (5, .long v_17), (10, .long v_17), (9, .int (nI i_2)), (0, .ref (ad 42)), (1, .int (nI zr)), (2, .int (nI zn)), (3, .int (bm_b zb))]) hx hb dX5_reach_105 hl (by decide) rfl (fun ls hl => ?_)
                    refine lv_iinc (v := (nI (i_2 + 1))) (lv' := [(9, .int (nI (i_2 + 1))), (4, .int (bm_b true)), (7, .long v_7), (5, .long v_17), (10, .long v_17), (0, .ref (ad 42)), (1, .int (nI zr)), (2, .int (nI zn)), (3, .int (bm_b zb))]) hx hb dX5_reach_107 hl (k := 4) rfl (nI_1 i_2) (by decide) rfl (fun ls hl => ?_)
                    refine lv_goto (tgt := 12) hx hb dX5_reach_110 (by decide) ?_
                    exact ih_4 (i_2 + 1) true v_17 v_7 (by omega) (by omega)  _ _ hP hD hS _ (lv_sub hl [0, 2, 3, 1, 5, 6, 7, 8] rfl)
                  · refine lv_lload hx hb dX5_reach_95 (lv_at hl 1 rfl) ?_
                    refine lv_goto (tgt := 102) hx hb dX5_reach_97 (by decide) ?_
                    refine lv_lstore (lv' := [(7, .long v_17), (5, .long v_17), (10, .long v_17), (9, .int (nI i_2)), (4, .int (bm_b v_5)), (0, .ref (ad 42)), (1, .int (nI zr)), (2, .int (nI zn)), (3, .int (bm_b zb))]) hx hb dX5_reach_102 hl (by decide) rfl (fun ls hl => ?_)
                    refine lv_iconst (v := bm_b true) hx hb dX5_reach_104 (by decide) ?_
                    refine lv_istore (lv' := [(4, .int (bm_b true)), (7, .long v_17), (5, .long v_17), (10, .long v_17), (9, .int (nI i_2)), (0, .ref (ad 42)), (1, .int (nI zr)), (2, .int (nI zn)), (3, .int (bm_b zb))]) hx hb dX5_reach_105 hl (by decide) rfl (fun ls hl => ?_)
                    refine lv_iinc (v := (nI (i_2 + 1))) (lv' := [(9, .int (nI (i_2 + 1))), (4, .int (bm_b true)), (7, .long v_17), (5, .long v_17), (10, .long v_17), (0, .ref (ad 42)), (1, .int (nI zr)), (2, .int (nI zn)), (3, .int (bm_b zb))]) hx hb dX5_reach_107 hl (k := 4) rfl (nI_1 i_2) (by decide) rfl (fun ls hl => ?_)
                    refine lv_goto (tgt := 12) hx hb dX5_reach_110 (by decide) ?_
                    exact ih_4 (i_2 + 1) true v_17 v_17 (by omega) (by omega)  _ _ hP hD hS _ (lv_sub hl [0, 2, 3, 1, 5, 6, 7, 8] rfl)
          · refine lv_goto (tgt := 107) hx hb dX5_reach_47 (by decide) ?_
            refine lv_iinc (v := (nI (i_2 + 1))) (lv' := [(9, .int (nI (i_2 + 1))), (7, .long v_7), (5, .long v_6), (4, .int (bm_b v_5)), (0, .ref (ad 42)), (1, .int (nI zr)), (2, .int (nI zn)), (3, .int (bm_b zb))]) hx hb dX5_reach_107 hl (k := 0) rfl (nI_1 i_2) (by decide) rfl (fun ls hl => ?_)
            refine lv_goto (tgt := 12) hx hb dX5_reach_110 (by decide) ?_
            exact ih_4 (i_2 + 1) v_5 v_6 v_7 (by omega) (by omega)  _ _ hP hD hS _ (lv_sub hl [0, 1, 2, 3, 4, 5, 6, 7] rfl)
  exact lp_1 (ms.2.2.2.2.2.2.1 + 1) 0 false 0 0 (by omega) (by omega)  _ _ hP hD hS _ (lv_sub hl [0, 1, 2, 3, 4, 5, 6, 7] rfl)

set_option maxHeartbeats 8000000 in
set_option maxRecDepth 100000 in
theorem y_wireOf {l : Launch} {D : va_G} {ad : Nat → Nat} {cJ cI cZ : ClassId} {bm : gBM} {pa : gPA} {p0 p1 p2 : gPL} {li : gLI} {wi : gWI} {mt : Nat} {ms : gMS} {ma : gMA} {mp : gMP} {mk : gMK} {mn : gMN} {ou : Nat → Int64} {zr : Nat} (ok_ms_nets : ms.2.2.2.2.2.1 ≤ 40) (ok_ms_pins : ms.2.2.2.2.2.2.1 ≤ 120) (ok_mn_pinNet : ∀ i, mn.1 i < 40) (ok_mn_pinPart : ∀ i, mn.2.1 i < 40) (ok_mp_turns : ∀ i, mp.2.2 i < 40) (hp0 : zr < 3)  : bm_Wx l yX5_wireOf wsX5_wireOf ({ frames := 3, cells := 0, slots := 0, locals := 81 }) D vwCl [(cJ, .long), (cI, .int), (cZ, .boolean)] (WW ad cJ cI cZ bm pa p0 p1 p2 li wi mt ms ma mp mk mn ou) [.ref (ad 42), .int (nI zr)] (fun ws9 r9 => ws9 = (WW ad cJ cI cZ bm pa p0 p1 p2 li wi mt ms ma mp mk mn ou) ∧ ∃ v9 : Int64, r9 = some (.long v9)) := by
  intro sz
  refine Met.ofW (cc := cX5_wireOf) (maxL := 5) (ret := (some .long)) (by decide) rfl ?_
  intro p e s m args below meth c s₁ B hml hv
  obtain ⟨ha, hsz, hP, hK, hD0⟩ := hv
  have hx := B.exec
  have hb := B.bytes
  have hr := B.returns
  have hts := atoms_spec (ws := wsX5_wireOf) B.pre
  have hown : s.vm.findClass RX5 = some m.cls := findClass_of_methodNamed B.named
  have hlocks := B.notSynchronized
  subst hsz
  have hD := hD0.self (sz := s.heap.size)
  generalize hAe : va_A (WW ad cJ cI cZ bm pa p0 p1 p2 li wi mt ms ma mp mk mn ou) s.heap.size = A at hD ⊢
  have hA : ∀ q : Nat, s.heap.size ≤ q → A q := fun q h => by rw [← hAe]; exact Or.inr h
  have hS : va_S A s.heap s.heap [] := va_S.rf
  have hl := lv_entry ([.ref (ad 42), .int (nI zr)]) (n := 5) (Nat.le_of_ble_eq_true rfl)
  refine W.eq (g2 := entryFrame m ([.ref (ad 42), .int (nI zr)] : List Value).toArray 5) (by rw [ha]) ?_
  rw [lg_entry_eq]
  generalize (lg_sl ([.ref (ad 42), .int (nI zr)]) ++ List.replicate (5 - (lg_sl ([.ref (ad 42), .int (nI zr)])).length) Slot.unset).toArray = ls at hl ⊢
  have hl : lv_has ls 5 [(0, .ref (ad 42)), (1, .int (nI zr))] := hl
  refine lv_lconst (v := 0) hx hb dX5_wireOf_0 (by decide) ?_
  refine lv_lstore_n (lv' := [(2, .long 0), (0, .ref (ad 42)), (1, .int (nI zr))]) hx hb dX5_wireOf_1 rfl hl (by decide) rfl (fun ls hl => ?_)
  refine lv_iconst (v := nI 0) hx hb dX5_wireOf_2 (by decide) ?_
  refine lv_istore (lv' := [(4, .int (nI 0)), (2, .long 0), (0, .ref (ad 42)), (1, .int (nI zr))]) hx hb dX5_wireOf_3 hl (by decide) rfl (fun ls hl => ?_)
  have lp_1 : ∀ (k_3 : Nat) (i_2 : Nat) (v_5 : Int64), i_2 ≤ ms.2.2.2.2.2.1 → ms.2.2.2.2.2.1 < i_2 + k_3 → ∀ (H : Heap) (locs : List Loc), va_P D vwCl (WW ad cJ cI cZ bm pa p0 p1 p2 li wi mt ms ma mp mk mn ou) H → va_D A (WW ad cJ cI cZ bm pa p0 p1 p2 li wi mt ms ma mp mk mn ou) → va_S A s.heap H locs → ∀ (ls : Array Slot), lv_has ls 5 [(4, .int (nI i_2)), (2, .long v_5), (0, .ref (ad 42)), (1, .int (nI zr))] → W p l e (headSpec wsX5_wireOf ({ frames := 3, cells := 0, slots := 0, locals := 81 })).room s m args below meth c H locs 0 0 (MQ below (bm_Wxq D vwCl [(cJ, .long), (cI, .int), (cZ, .boolean)] (fun ws9 r9 => ws9 = (WW ad cJ cI cZ bm pa p0 p1 p2 li wi mt ms ma mp mk mn ou) ∧ ∃ v9 : Int64, r9 = some (.long v9)) A) args s 0 0 A) (F0 m 5 ls []) := by
    intro k_3
    induction k_3 with
    | zero => intro i_2 v_5 hi_6 hk_7; exfalso; omega
    | succ k_3 ih_4 =>
      intro i_2 v_5 hi_6 hk_7  H locs hP hD hS ls hl
      refine lv_iload hx hb dX5_wireOf_5 (lv_at hl 0 rfl) ?_
      refine lv_aload_n hx hb dX5_wireOf_7 rfl (lv_at hl 2 rfl) ?_
      refine va_get (D := D) (ci := 5) (v := .int (nI ms.2.2.2.2.2.1)) (C := RX5) (T := TX5) (N := 28) hx hb hts (inT inX5) hown hK hP 42 ww_42 rfl 20 (by decide) (hts (.fieldLink RX5 160 "BoardMovesModel" "nets" "I") (List.mem_cons_of_mem _ flX5_160)) (fun _ h9 => h9) rfl dX5_wireOf_8 ?_
      refine bm_ni_ge (x := i_2) (y := ms.2.2.2.2.2.1) (tgt := 40) hx hb (by omega) (by omega) dX5_wireOf_11 (by decide) (fun c_8 => ?_) (fun c_8 => ?_)
      · refine lv_lload_n hx hb dX5_wireOf_40 rfl (lv_at hl 1 rfl) ?_
        exact bm_lretX (v := v_5) hx hb hr hP hD hK hS ⟨rfl, v_5, rfl⟩ dX5_wireOf_41 hlocks
      · refine lv_lload_n hx hb dX5_wireOf_14 rfl (lv_at hl 1 rfl) ?_
        refine lv_aload_n hx hb dX5_wireOf_15 rfl (lv_at hl 2 rfl) ?_
        refine lv_iload_n hx hb dX5_wireOf_16 rfl (lv_at hl 3 rfl) ?_
        refine lv_iload hx hb dX5_wireOf_17 (lv_at hl 0 rfl) ?_
        refine lv_iconst (v := bm_b true) hx hb dX5_wireOf_19 (by decide) ?_
        refine bm_xcallV (As := [.int (nI zr), .int (nI i_2), .int (bm_b true)]) (rest := [.long v_5]) ⟨hx, hb, hml, hown, hts⟩ (y_reach  (zr := zr) (zn := i_2) (zb := true) ok_ms_pins ok_mn_pinNet ok_mn_pinPart ok_mp_turns (by omega) (by omega)) (cwV 3 hts gvX5_170 rfl rfl rfl hvX5_reach ⟨Nat.le_of_ble_eq_true rfl, Nat.le_of_ble_eq_true rfl⟩) hK hP hD hS hA 42 5 rfl ww_42 rfl hl.1 rfl (Nat.le_of_ble_eq_true rfl) dX5_wireOf_20 ⟨Nat.le_of_ble_eq_true rfl, Nat.le_of_ble_eq_true rfl⟩ (fun ws_9 r_10 h_11 H locs hP hD hS => ?_)
        obtain ⟨rfl, v_12, rfl⟩ := h_11
        have hP : va_P D vwCl (WW ad cJ cI cZ bm pa p0 p1 p2 li wi mt ms ma mp mk mn ou) H := hP
        have hD : va_D A (WW ad cJ cI cZ bm pa p0 p1 p2 li wi mt ms ma mp mk mn ou) := hD
        refine lv_aload_n hx hb dX5_wireOf_23 rfl (lv_at hl 2 rfl) ?_
        refine lv_iload_n hx hb dX5_wireOf_24 rfl (lv_at hl 3 rfl) ?_
        refine lv_iload hx hb dX5_wireOf_25 (lv_at hl 0 rfl) ?_
        refine lv_iconst (v := bm_b false) hx hb dX5_wireOf_27 (by decide) ?_
        refine bm_xcallV (As := [.int (nI zr), .int (nI i_2), .int (bm_b false)]) (rest := [.long v_12, .long v_5]) ⟨hx, hb, hml, hown, hts⟩ (y_reach  (zr := zr) (zn := i_2) (zb := false) ok_ms_pins ok_mn_pinNet ok_mn_pinPart ok_mp_turns (by omega) (by omega)) (cwV 3 hts gvX5_170 rfl rfl rfl hvX5_reach ⟨Nat.le_of_ble_eq_true rfl, Nat.le_of_ble_eq_true rfl⟩) hK hP hD hS hA 42 5 rfl ww_42 rfl hl.1 rfl (Nat.le_of_ble_eq_true rfl) dX5_wireOf_28 ⟨Nat.le_of_ble_eq_true rfl, Nat.le_of_ble_eq_true rfl⟩ (fun ws_13 r_14 h_15 H locs hP hD hS => ?_)
        obtain ⟨rfl, v_16, rfl⟩ := h_15
        have hP : va_P D vwCl (WW ad cJ cI cZ bm pa p0 p1 p2 li wi mt ms ma mp mk mn ou) H := hP
        have hD : va_D A (WW ad cJ cI cZ bm pa p0 p1 p2 li wi mt ms ma mp mk mn ou) := hD
        refine lv_ladd hx hb dX5_wireOf_31 ?_
        refine lv_topl (fun t_17 _ => ?_)
        refine lv_ladd hx hb dX5_wireOf_32 ?_
        refine lv_topl (fun t_18 _ => ?_)
        refine lv_lstore_n (lv' := [(2, .long t_18), (4, .int (nI i_2)), (0, .ref (ad 42)), (1, .int (nI zr))]) hx hb dX5_wireOf_33 rfl hl (by decide) rfl (fun ls hl => ?_)
        refine lv_iinc (v := (nI (i_2 + 1))) (lv' := [(4, .int (nI (i_2 + 1))), (2, .long t_18), (0, .ref (ad 42)), (1, .int (nI zr))]) hx hb dX5_wireOf_34 hl (k := 1) rfl (nI_1 i_2) (by decide) rfl (fun ls hl => ?_)
        refine lv_goto (tgt := 5) hx hb dX5_wireOf_37 (by decide) ?_
        exact ih_4 (i_2 + 1) t_18 (by omega) (by omega)  _ _ hP hD hS _ (lv_sub hl [0, 1, 2, 3] rfl)
  exact lp_1 (ms.2.2.2.2.2.1 + 1) 0 0 (by omega) (by omega)  _ _ hP hD hS _ (lv_sub hl [0, 1, 2, 3] rfl)
